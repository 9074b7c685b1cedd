section
-- ===== PART A: goes FIRST, ahead of the names: the tables' words, and 'selects' of the private methods out of them =====
/-- a private method of a class that the tables say can be made, by its rows of tables_1 -/
def lw_okq (q : MethodName × Nat) : Prop := (q.1.cls ≠ "java/lang/invoke/MethodHandle" ∧ q.1.cls ≠ "java/lang/invoke/VarHandle") ∧ Cond.instantiable q.1.cls q.2 ∈ tables_1 ∧ Cond.privateMethod q.1 ∈ tables_1 ∧ Cond.instanceMethod q.1 ∈ tables_1
theorem lw_p0 : lw_okq (⟨"ColdWorks", "isCooler", "(I)Z"⟩, 13) := ⟨⟨by decide +kernel, by decide +kernel⟩, List.mem_of_getElem? (i := 16) (by decide +kernel), List.mem_of_getElem? (i := 282) (by decide +kernel), List.mem_of_getElem? (i := 283) (by decide +kernel)⟩
theorem lw_p1 : lw_okq (⟨"ColdWorks", "weightOf", "(I)I"⟩, 13) := ⟨⟨by decide +kernel, by decide +kernel⟩, List.mem_of_getElem? (i := 16) (by decide +kernel), List.mem_of_getElem? (i := 286) (by decide +kernel), List.mem_of_getElem? (i := 287) (by decide +kernel)⟩
theorem lw_p2 : lw_okq (⟨"ColdWorks", "find", "(I)LColdWorks$Throttle;"⟩, 13) := ⟨⟨by decide +kernel, by decide +kernel⟩, List.mem_of_getElem? (i := 16) (by decide +kernel), List.mem_of_getElem? (i := 290) (by decide +kernel), List.mem_of_getElem? (i := 291) (by decide +kernel)⟩
theorem lw_p3 : lw_okq (⟨"ColdWorks", "coldOf", "(II)I"⟩, 13) := ⟨⟨by decide +kernel, by decide +kernel⟩, List.mem_of_getElem? (i := 16) (by decide +kernel), List.mem_of_getElem? (i := 307) (by decide +kernel), List.mem_of_getElem? (i := 308) (by decide +kernel)⟩
theorem lw_p4 : lw_okq (⟨"ColdWorks$Wheel", "corner", "(I)I"⟩, 1) := ⟨⟨by decide +kernel, by decide +kernel⟩, List.mem_of_getElem? (i := 257) (by decide +kernel), List.mem_of_getElem? (i := 322) (by decide +kernel), List.mem_of_getElem? (i := 323) (by decide +kernel)⟩
theorem lw_p5 : lw_okq (⟨"ColdWorks", "maySet", "(II)Z"⟩, 13) := ⟨⟨by decide +kernel, by decide +kernel⟩, List.mem_of_getElem? (i := 16) (by decide +kernel), List.mem_of_getElem? (i := 340) (by decide +kernel), List.mem_of_getElem? (i := 341) (by decide +kernel)⟩
theorem lw_p6 : lw_okq (⟨"ColdWorks", "setting", "(I)I"⟩, 13) := ⟨⟨by decide +kernel, by decide +kernel⟩, List.mem_of_getElem? (i := 16) (by decide +kernel), List.mem_of_getElem? (i := 344) (by decide +kernel), List.mem_of_getElem? (i := 345) (by decide +kernel)⟩
theorem lw_p7 : lw_okq (⟨"ColdWorks", "change", "(II)V"⟩, 13) := ⟨⟨by decide +kernel, by decide +kernel⟩, List.mem_of_getElem? (i := 16) (by decide +kernel), List.mem_of_getElem? (i := 348) (by decide +kernel), List.mem_of_getElem? (i := 349) (by decide +kernel)⟩
theorem lw_p8 : lw_okq (⟨"ColdWorks", "oneTick", "()I"⟩, 13) := ⟨⟨by decide +kernel, by decide +kernel⟩, List.mem_of_getElem? (i := 16) (by decide +kernel), List.mem_of_getElem? (i := 410) (by decide +kernel), List.mem_of_getElem? (i := 411) (by decide +kernel)⟩
theorem lw_p9 : lw_okq (⟨"ColdWorks$Adsorbers", "step", "(LColdWorks$Adsorber;)V"⟩, 4) := ⟨⟨by decide +kernel, by decide +kernel⟩, List.mem_of_getElem? (i := 102) (by decide +kernel), List.mem_of_getElem? (i := 418) (by decide +kernel), List.mem_of_getElem? (i := 419) (by decide +kernel)⟩
theorem lw_p10 : lw_okq (⟨"ColdWorks$Controls", "moveValve", "()V"⟩, 6) := ⟨⟨by decide +kernel, by decide +kernel⟩, List.mem_of_getElem? (i := 72) (by decide +kernel), List.mem_of_getElem? (i := 436) (by decide +kernel), List.mem_of_getElem? (i := 437) (by decide +kernel)⟩
theorem lw_p11 : lw_okq (⟨"ColdWorks", "flow", "()I"⟩, 13) := ⟨⟨by decide +kernel, by decide +kernel⟩, List.mem_of_getElem? (i := 16) (by decide +kernel), List.mem_of_getElem? (i := 440) (by decide +kernel), List.mem_of_getElem? (i := 441) (by decide +kernel)⟩
theorem lw_p12 : lw_okq (⟨"ColdWorks$Exchanger", "exchange", "()V"⟩, 8) := ⟨⟨by decide +kernel, by decide +kernel⟩, List.mem_of_getElem? (i := 26) (by decide +kernel), List.mem_of_getElem? (i := 448) (by decide +kernel), List.mem_of_getElem? (i := 449) (by decide +kernel)⟩
theorem lw_p13 : lw_okq (⟨"ColdWorks$Exchanger", "moveOn", "(II)V"⟩, 8) := ⟨⟨by decide +kernel, by decide +kernel⟩, List.mem_of_getElem? (i := 26) (by decide +kernel), List.mem_of_getElem? (i := 455) (by decide +kernel), List.mem_of_getElem? (i := 456) (by decide +kernel)⟩
theorem lw_p14 : lw_okq (⟨"ColdWorks$Adsorbers", "loadOne", "(LColdWorks$Adsorber;LColdWorks$Adsorber;)Z"⟩, 4) := ⟨⟨by decide +kernel, by decide +kernel⟩, List.mem_of_getElem? (i := 102) (by decide +kernel), List.mem_of_getElem? (i := 472) (by decide +kernel), List.mem_of_getElem? (i := 473) (by decide +kernel)⟩
theorem lw_p15 : lw_okq (⟨"ColdWorks$Orders", "settle", "(ILColdWorks$Store;)I"⟩, 6) := ⟨⟨by decide +kernel, by decide +kernel⟩, List.mem_of_getElem? (i := 169) (by decide +kernel), List.mem_of_getElem? (i := 511) (by decide +kernel), List.mem_of_getElem? (i := 512) (by decide +kernel)⟩
def lw_privs_1 : List (MethodName × Nat) := [(⟨"ColdWorks", "isCooler", "(I)Z"⟩, 13), (⟨"ColdWorks", "weightOf", "(I)I"⟩, 13), (⟨"ColdWorks", "find", "(I)LColdWorks$Throttle;"⟩, 13), (⟨"ColdWorks", "coldOf", "(II)I"⟩, 13), (⟨"ColdWorks$Wheel", "corner", "(I)I"⟩, 1), (⟨"ColdWorks", "maySet", "(II)Z"⟩, 13), (⟨"ColdWorks", "setting", "(I)I"⟩, 13), (⟨"ColdWorks", "change", "(II)V"⟩, 13), (⟨"ColdWorks", "oneTick", "()I"⟩, 13), (⟨"ColdWorks$Adsorbers", "step", "(LColdWorks$Adsorber;)V"⟩, 4), (⟨"ColdWorks$Controls", "moveValve", "()V"⟩, 6), (⟨"ColdWorks", "flow", "()I"⟩, 13), (⟨"ColdWorks$Exchanger", "exchange", "()V"⟩, 8), (⟨"ColdWorks$Exchanger", "moveOn", "(II)V"⟩, 8), (⟨"ColdWorks$Adsorbers", "loadOne", "(LColdWorks$Adsorber;LColdWorks$Adsorber;)Z"⟩, 4), (⟨"ColdWorks$Orders", "settle", "(ILColdWorks$Store;)I"⟩, 6)]
theorem lw_r1 : ∀ q ∈ lw_privs_1, lw_okq q := List.forall_mem_cons.mpr ⟨lw_p0, List.forall_mem_cons.mpr ⟨lw_p1, List.forall_mem_cons.mpr ⟨lw_p2, List.forall_mem_cons.mpr ⟨lw_p3, List.forall_mem_cons.mpr ⟨lw_p4, List.forall_mem_cons.mpr ⟨lw_p5, List.forall_mem_cons.mpr ⟨lw_p6, List.forall_mem_cons.mpr ⟨lw_p7, List.forall_mem_cons.mpr ⟨lw_p8, List.forall_mem_cons.mpr ⟨lw_p9, List.forall_mem_cons.mpr ⟨lw_p10, List.forall_mem_cons.mpr ⟨lw_p11, List.forall_mem_cons.mpr ⟨lw_p12, List.forall_mem_cons.mpr ⟨lw_p13, List.forall_mem_cons.mpr ⟨lw_p14, List.forall_mem_cons.mpr ⟨lw_p15, fun _ h => absurd h List.not_mem_nil⟩⟩⟩⟩⟩⟩⟩⟩⟩⟩⟩⟩⟩⟩⟩⟩
theorem lw_p16 : lw_okq (⟨"ColdWorks", "lostMeters", "()I"⟩, 13) := ⟨⟨by decide +kernel, by decide +kernel⟩, List.mem_of_getElem? (i := 16) (by decide +kernel), List.mem_of_getElem? (i := 551) (by decide +kernel), List.mem_of_getElem? (i := 552) (by decide +kernel)⟩
theorem lw_p17 : lw_okq (⟨"ColdWorks", "toldByOthers", "(I)J"⟩, 13) := ⟨⟨by decide +kernel, by decide +kernel⟩, List.mem_of_getElem? (i := 16) (by decide +kernel), List.mem_of_getElem? (i := 555) (by decide +kernel), List.mem_of_getElem? (i := 556) (by decide +kernel)⟩
theorem lw_p18 : lw_okq (⟨"ColdWorksModel", "fresh", "()V"⟩, 34) := ⟨⟨by decide +kernel, by decide +kernel⟩, List.mem_of_getElem? (i := 574) (by decide +kernel), List.mem_of_getElem? (i := 580) (by decide +kernel), List.mem_of_getElem? (i := 581) (by decide +kernel)⟩
theorem lw_p19 : lw_okq (⟨"ColdWorksModel", "isCooler", "(I)Z"⟩, 34) := ⟨⟨by decide +kernel, by decide +kernel⟩, List.mem_of_getElem? (i := 574) (by decide +kernel), List.mem_of_getElem? (i := 699) (by decide +kernel), List.mem_of_getElem? (i := 700) (by decide +kernel)⟩
theorem lw_p20 : lw_okq (⟨"ColdWorksModel", "coldOf", "(II)I"⟩, 34) := ⟨⟨by decide +kernel, by decide +kernel⟩, List.mem_of_getElem? (i := 574) (by decide +kernel), List.mem_of_getElem? (i := 705) (by decide +kernel), List.mem_of_getElem? (i := 706) (by decide +kernel)⟩
theorem lw_p21 : lw_okq (⟨"ColdWorksModel", "trips", "()V"⟩, 34) := ⟨⟨by decide +kernel, by decide +kernel⟩, List.mem_of_getElem? (i := 574) (by decide +kernel), List.mem_of_getElem? (i := 742) (by decide +kernel), List.mem_of_getElem? (i := 743) (by decide +kernel)⟩
theorem lw_p22 : lw_okq (⟨"ColdWorksModel", "goes", "()I"⟩, 34) := ⟨⟨by decide +kernel, by decide +kernel⟩, List.mem_of_getElem? (i := 574) (by decide +kernel), List.mem_of_getElem? (i := 754) (by decide +kernel), List.mem_of_getElem? (i := 755) (by decide +kernel)⟩
theorem lw_p23 : lw_okq (⟨"ColdWorksModel", "goesOn", "(I)V"⟩, 34) := ⟨⟨by decide +kernel, by decide +kernel⟩, List.mem_of_getElem? (i := 574) (by decide +kernel), List.mem_of_getElem? (i := 758) (by decide +kernel), List.mem_of_getElem? (i := 759) (by decide +kernel)⟩
theorem lw_p24 : lw_okq (⟨"ColdWorksModel", "flows", "()I"⟩, 34) := ⟨⟨by decide +kernel, by decide +kernel⟩, List.mem_of_getElem? (i := 574) (by decide +kernel), List.mem_of_getElem? (i := 762) (by decide +kernel), List.mem_of_getElem? (i := 763) (by decide +kernel)⟩
theorem lw_p25 : lw_okq (⟨"ColdWorksModel", "stores", "(I)V"⟩, 34) := ⟨⟨by decide +kernel, by decide +kernel⟩, List.mem_of_getElem? (i := 574) (by decide +kernel), List.mem_of_getElem? (i := 766) (by decide +kernel), List.mem_of_getElem? (i := 767) (by decide +kernel)⟩
theorem lw_p26 : lw_okq (⟨"ColdWorksModel", "loads", "()V"⟩, 34) := ⟨⟨by decide +kernel, by decide +kernel⟩, List.mem_of_getElem? (i := 574) (by decide +kernel), List.mem_of_getElem? (i := 770) (by decide +kernel), List.mem_of_getElem? (i := 771) (by decide +kernel)⟩
theorem lw_p27 : lw_okq (⟨"ColdWorksModel", "reads", "(I)J"⟩, 34) := ⟨⟨by decide +kernel, by decide +kernel⟩, List.mem_of_getElem? (i := 574) (by decide +kernel), List.mem_of_getElem? (i := 807) (by decide +kernel), List.mem_of_getElem? (i := 808) (by decide +kernel)⟩
def lw_privs_2 : List (MethodName × Nat) := [(⟨"ColdWorks", "lostMeters", "()I"⟩, 13), (⟨"ColdWorks", "toldByOthers", "(I)J"⟩, 13), (⟨"ColdWorksModel", "fresh", "()V"⟩, 34), (⟨"ColdWorksModel", "isCooler", "(I)Z"⟩, 34), (⟨"ColdWorksModel", "coldOf", "(II)I"⟩, 34), (⟨"ColdWorksModel", "trips", "()V"⟩, 34), (⟨"ColdWorksModel", "goes", "()I"⟩, 34), (⟨"ColdWorksModel", "goesOn", "(I)V"⟩, 34), (⟨"ColdWorksModel", "flows", "()I"⟩, 34), (⟨"ColdWorksModel", "stores", "(I)V"⟩, 34), (⟨"ColdWorksModel", "loads", "()V"⟩, 34), (⟨"ColdWorksModel", "reads", "(I)J"⟩, 34)]
theorem lw_r2 : ∀ q ∈ lw_privs_2, lw_okq q := List.forall_mem_cons.mpr ⟨lw_p16, List.forall_mem_cons.mpr ⟨lw_p17, List.forall_mem_cons.mpr ⟨lw_p18, List.forall_mem_cons.mpr ⟨lw_p19, List.forall_mem_cons.mpr ⟨lw_p20, List.forall_mem_cons.mpr ⟨lw_p21, List.forall_mem_cons.mpr ⟨lw_p22, List.forall_mem_cons.mpr ⟨lw_p23, List.forall_mem_cons.mpr ⟨lw_p24, List.forall_mem_cons.mpr ⟨lw_p25, List.forall_mem_cons.mpr ⟨lw_p26, List.forall_mem_cons.mpr ⟨lw_p27, fun _ h => absurd h List.not_mem_nil⟩⟩⟩⟩⟩⟩⟩⟩⟩⟩⟩⟩
def lw_privs : List (MethodName × Nat) := lw_privs_1 ++ (lw_privs_2)
def lw_tbl : List Cond := k2_sels lw_privs ++ tables_1
theorem lw_privs_ok : ∀ q ∈ lw_privs, lw_okq q := by
  show ∀ q ∈ lw_privs_1 ++ (lw_privs_2), lw_okq q
  exact List.forall_mem_append.mpr ⟨lw_r1, lw_r2⟩
end
section
def RX0 : String := "ColdWorks$Adsorber"
def TX0 : u_T := fun k => match k with
  | 0 => ("ColdWorks$Adsorber", "how", "I", false)
  | 1 => ("ColdWorks$Adsorber", "load", "I", false)
  | _ => ("ColdWorks$Adsorber", "ticks", "I", false)
def tyX0 : Nat → FieldType := fun k => match k with
  | 0 => .int
  | 1 => .int
  | _ => .int
theorem nmX0 : ∀ a, a < 3 → ∀ b, b < 3 → a ≠ b → (TX0 a).2.1 ≠ (TX0 b).2.1 := by decide +kernel
theorem tyX0_ok : ∀ k, k < 3 → parseFieldDescriptor (TX0 k).2.2.1 = some (tyX0 k) := by decide +kernel
abbrev cX0_init : ByteArray := prog_2_method_1_code
def yX0_init : MethodName := ⟨RX0, "<init>", "(I)V"⟩
abbrev cX0_become : ByteArray := prog_2_method_2_code
def yX0_become : MethodName := ⟨RX0, "become", "(I)V"⟩
abbrev cX0_goOn : ByteArray := prog_2_method_3_code
def yX0_goOn : MethodName := ⟨RX0, "goOn", "(I)Z"⟩
abbrev cX0_fact : ByteArray := prog_2_method_4_code
def yX0_fact : MethodName := ⟨RX0, "fact", "(I)I"⟩
def RX1 : String := "ColdWorks$Adsorbers"
def TX1 : u_T := fun k => match k with
  | 0 => ("ColdWorks$Adsorbers", "zero", "LColdWorks$Adsorber;", true)
  | 1 => ("ColdWorks$Adsorbers", "one", "LColdWorks$Adsorber;", true)
  | 2 => ("ColdWorks$Adsorbers", "fullLoad", "I", false)
  | _ => ("ColdWorks$Adsorbers", "heatTicks", "I", false)
def tyX1 : Nat → FieldType := fun k => match k with
  | 0 => .object "ColdWorks$Adsorber"
  | 1 => .object "ColdWorks$Adsorber"
  | 2 => .int
  | _ => .int
theorem nmX1 : ∀ a, a < 4 → ∀ b, b < 4 → a ≠ b → (TX1 a).2.1 ≠ (TX1 b).2.1 := by decide +kernel
theorem tyX1_ok : ∀ k, k < 4 → parseFieldDescriptor (TX1 k).2.2.1 = some (tyX1 k) := by decide +kernel
abbrev cX1_init : ByteArray := prog_3_method_1_code
def yX1_init : MethodName := ⟨RX1, "<init>", "()V"⟩
abbrev cX1_anyOn : ByteArray := prog_3_method_2_code
def yX1_anyOn : MethodName := ⟨RX1, "anyOn", "()Z"⟩
abbrev cX1_regenerate : ByteArray := prog_3_method_3_code
def yX1_regenerate : MethodName := ⟨RX1, "regenerate", "()V"⟩
abbrev cX1_step : ByteArray := prog_3_method_4_code
def yX1_step : MethodName := ⟨RX1, "step", "(LColdWorks$Adsorber;)V"⟩
abbrev cX1_load : ByteArray := prog_3_method_5_code
def yX1_load : MethodName := ⟨RX1, "load", "()Z"⟩
abbrev cX1_loadOne : ByteArray := prog_3_method_6_code
def yX1_loadOne : MethodName := ⟨RX1, "loadOne", "(LColdWorks$Adsorber;LColdWorks$Adsorber;)Z"⟩
abbrev cX1_tell : ByteArray := prog_3_method_7_code
def yX1_tell : MethodName := ⟨RX1, "tell", "(II)I"⟩
def RX2 : String := "ColdWorks$Braked"
def TX2 : u_T := fun k => match k with
  | 0 => ("ColdWorks$Wheel", "corners", "[I", true)
  | _ => ("ColdWorks$Braked", "limit", "I", true)
def tyX2 : Nat → FieldType := fun k => match k with
  | 0 => .array .int
  | _ => .int
theorem nmX2 : ∀ a, a < 2 → ∀ b, b < 2 → a ≠ b → (TX2 a).2.1 ≠ (TX2 b).2.1 := by decide +kernel
theorem tyX2_ok : ∀ k, k < 2 → parseFieldDescriptor (TX2 k).2.2.1 = some (tyX2 k) := by decide +kernel
abbrev cX2_init : ByteArray := prog_4_method_1_code
def yX2_init : MethodName := ⟨RX2, "<init>", "([II)V"⟩
abbrev cX2_coldAt : ByteArray := prog_4_method_2_code
def yX2_coldAt : MethodName := ⟨RX2, "coldAt", "(I)I"⟩
abbrev cX2_traceWeight : ByteArray := prog_4_method_3_code
def yX2_traceWeight : MethodName := ⟨RX2, "traceWeight", "()I"⟩
def RX3 : String := "ColdWorks$Controls"
def TX3 : u_T := fun k => match k with
  | 0 => ("ColdWorks$Controls", "state", "I", false)
  | 1 => ("ColdWorks$Controls", "ticksOfState", "I", false)
  | 2 => ("ColdWorks$Controls", "trips", "I", false)
  | 3 => ("ColdWorks$Controls", "feed", "Z", false)
  | 4 => ("ColdWorks$Controls", "press", "Z", false)
  | _ => ("ColdWorks$Controls", "vent", "Z", false)
def tyX3 : Nat → FieldType := fun k => match k with
  | 0 => .int
  | 1 => .int
  | 2 => .int
  | 3 => .boolean
  | 4 => .boolean
  | _ => .boolean
theorem nmX3 : ∀ a, a < 6 → ∀ b, b < 6 → a ≠ b → (TX3 a).2.1 ≠ (TX3 b).2.1 := by decide +kernel
theorem tyX3_ok : ∀ k, k < 6 → parseFieldDescriptor (TX3 k).2.2.1 = some (tyX3 k) := by decide +kernel
abbrev cX3_init : ByteArray := prog_5_method_1_code
def yX3_init : MethodName := ⟨RX3, "<init>", "()V"⟩
abbrev cX3_enter : ByteArray := prog_5_method_2_code
def yX3_enter : MethodName := ⟨RX3, "enter", "(I)I"⟩
abbrev cX3_begin : ByteArray := prog_5_method_3_code
def yX3_begin : MethodName := ⟨RX3, "begin", "()I"⟩
abbrev cX3_shutDown : ByteArray := prog_5_method_4_code
def yX3_shutDown : MethodName := ⟨RX3, "shutDown", "()I"⟩
abbrev cX3_settle : ByteArray := prog_5_method_5_code
def yX3_settle : MethodName := ⟨RX3, "settle", "()I"⟩
abbrev cX3_passTick : ByteArray := prog_5_method_6_code
def yX3_passTick : MethodName := ⟨RX3, "passTick", "()Z"⟩
abbrev cX3_moveValve : ByteArray := prog_5_method_7_code
def yX3_moveValve : MethodName := ⟨RX3, "moveValve", "()V"⟩
def RX4 : String := "ColdWorks$Exchanger"
def TX4 : u_T := fun k => match k with
  | 0 => ("ColdWorks$Exchanger", "warm", "[I", true)
  | 1 => ("ColdWorks$Exchanger", "chill", "[I", true)
  | 2 => ("ColdWorks$Exchanger", "length", "I", false)
  | 3 => ("ColdWorks$Exchanger", "hundredths", "I", false)
  | 4 => ("ColdWorks$Exchanger", "inlets", "J", false)
  | 5 => ("ColdWorks$Exchanger", "outs", "J", false)
  | 6 => ("ColdWorks$Exchanger", "takenOut", "J", false)
  | _ => ("ColdWorks$Exchanger", "flows", "J", false)
def tyX4 : Nat → FieldType := fun k => match k with
  | 0 => .array .int
  | 1 => .array .int
  | 2 => .int
  | 3 => .int
  | 4 => .long
  | 5 => .long
  | 6 => .long
  | _ => .long
theorem nmX4 : ∀ a, a < 8 → ∀ b, b < 8 → a ≠ b → (TX4 a).2.1 ≠ (TX4 b).2.1 := by decide +kernel
theorem tyX4_ok : ∀ k, k < 8 → parseFieldDescriptor (TX4 k).2.2.1 = some (tyX4 k) := by decide +kernel
abbrev cX4_init : ByteArray := prog_6_method_1_code
def yX4_init : MethodName := ⟨RX4, "<init>", "()V"⟩
abbrev cX4_rebuild : ByteArray := prog_6_method_2_code
def yX4_rebuild : MethodName := ⟨RX4, "rebuild", "(II)V"⟩
abbrev cX4_pass : ByteArray := prog_6_method_3_code
def yX4_pass : MethodName := ⟨RX4, "pass", "(II)I"⟩
abbrev cX4_exchange : ByteArray := prog_6_method_4_code
def yX4_exchange : MethodName := ⟨RX4, "exchange", "()V"⟩
abbrev cX4_moveOn : ByteArray := prog_6_method_5_code
def yX4_moveOn : MethodName := ⟨RX4, "moveOn", "(II)V"⟩
def RX5 : String := "ColdWorks$Orders"
def TX5 : u_T := fun k => match k with
  | 0 => ("ColdWorks$Orders", "wanted", "[I", true)
  | 1 => ("ColdWorks$Orders", "dayOf", "[I", true)
  | 2 => ("ColdWorks$Orders", "how", "[I", true)
  | 3 => ("ColdWorks$Orders", "taken", "I", false)
  | 4 => ("ColdWorks$Orders", "nextDay", "I", false)
  | _ => ("ColdWorks$Orders", "missed", "I", false)
def tyX5 : Nat → FieldType := fun k => match k with
  | 0 => .array .int
  | 1 => .array .int
  | 2 => .array .int
  | 3 => .int
  | 4 => .int
  | _ => .int
theorem nmX5 : ∀ a, a < 6 → ∀ b, b < 6 → a ≠ b → (TX5 a).2.1 ≠ (TX5 b).2.1 := by decide +kernel
theorem tyX5_ok : ∀ k, k < 6 → parseFieldDescriptor (TX5 k).2.2.1 = some (tyX5 k) := by decide +kernel
abbrev cX5_init : ByteArray := prog_7_method_1_code
def yX5_init : MethodName := ⟨RX5, "<init>", "()V"⟩
abbrev cX5_accept : ByteArray := prog_7_method_2_code
def yX5_accept : MethodName := ⟨RX5, "accept", "(II)I"⟩
abbrev cX5_endDay : ByteArray := prog_7_method_3_code
def yX5_endDay : MethodName := ⟨RX5, "endDay", "(LColdWorks$Store;)I"⟩
abbrev cX5_settle : ByteArray := prog_7_method_4_code
def yX5_settle : MethodName := ⟨RX5, "settle", "(ILColdWorks$Store;)I"⟩
abbrev cX5_tell : ByteArray := prog_7_method_5_code
def yX5_tell : MethodName := ⟨RX5, "tell", "(II)I"⟩
def RX6 : String := "ColdWorks$Store"
def TX6 : u_T := fun k => match k with
  | 0 => ("ColdWorks$Store", "room", "I", false)
  | 1 => ("ColdWorks$Store", "tank", "I", false)
  | 2 => ("ColdWorks$Store", "bag", "I", false)
  | 3 => ("ColdWorks$Store", "made", "J", false)
  | 4 => ("ColdWorks$Store", "delivered", "J", false)
  | _ => ("ColdWorks$Store", "blown", "J", false)
def tyX6 : Nat → FieldType := fun k => match k with
  | 0 => .int
  | 1 => .int
  | 2 => .int
  | 3 => .long
  | 4 => .long
  | _ => .long
theorem nmX6 : ∀ a, a < 6 → ∀ b, b < 6 → a ≠ b → (TX6 a).2.1 ≠ (TX6 b).2.1 := by decide +kernel
theorem tyX6_ok : ∀ k, k < 6 → parseFieldDescriptor (TX6 k).2.2.1 = some (tyX6 k) := by decide +kernel
abbrev cX6_init : ByteArray := prog_8_method_1_code
def yX6_init : MethodName := ⟨RX6, "<init>", "()V"⟩
abbrev cX6_isFull : ByteArray := prog_8_method_2_code
def yX6_isFull : MethodName := ⟨RX6, "isFull", "()Z"⟩
abbrev cX6_takeIn : ByteArray := prog_8_method_3_code
def yX6_takeIn : MethodName := ⟨RX6, "takeIn", "(I)V"⟩
abbrev cX6_handOver : ByteArray := prog_8_method_4_code
def yX6_handOver : MethodName := ⟨RX6, "handOver", "(I)Z"⟩
abbrev cX6_reading : ByteArray := prog_8_method_5_code
def yX6_reading : MethodName := ⟨RX6, "reading", "(I)J"⟩
def RX7 : String := "ColdWorks$Throttle"
def TX7 : u_T := fun k => match k with
  | _ => ("", "", "", false)
def tyX7 : Nat → FieldType := fun k => match k with
  | _ => .int
theorem nmX7 : ∀ a, a < 0 → ∀ b, b < 0 → a ≠ b → (TX7 a).2.1 ≠ (TX7 b).2.1 := by decide +kernel
theorem tyX7_ok : ∀ k, k < 0 → parseFieldDescriptor (TX7 k).2.2.1 = some (tyX7 k) := by decide +kernel
abbrev cX7_init : ByteArray := prog_9_method_1_code
def yX7_init : MethodName := ⟨RX7, "<init>", "()V"⟩
abbrev cX7_coldAt : ByteArray := prog_9_method_2_code
def yX7_coldAt : MethodName := ⟨RX7, "coldAt", "(I)I"⟩
abbrev cX7_traceWeight : ByteArray := prog_9_method_3_code
def yX7_traceWeight : MethodName := ⟨RX7, "traceWeight", "()I"⟩
def RX8 : String := "ColdWorks$Wheel"
def TX8 : u_T := fun k => match k with
  | _ => ("ColdWorks$Wheel", "corners", "[I", true)
def tyX8 : Nat → FieldType := fun k => match k with
  | _ => .array .int
theorem nmX8 : ∀ a, a < 1 → ∀ b, b < 1 → a ≠ b → (TX8 a).2.1 ≠ (TX8 b).2.1 := by decide +kernel
theorem tyX8_ok : ∀ k, k < 1 → parseFieldDescriptor (TX8 k).2.2.1 = some (tyX8 k) := by decide +kernel
abbrev cX8_init : ByteArray := prog_10_method_1_code
def yX8_init : MethodName := ⟨RX8, "<init>", "([I)V"⟩
abbrev cX8_coldAt : ByteArray := prog_10_method_2_code
def yX8_coldAt : MethodName := ⟨RX8, "coldAt", "(I)I"⟩
abbrev cX8_traceWeight : ByteArray := prog_10_method_3_code
def yX8_traceWeight : MethodName := ⟨RX8, "traceWeight", "()I"⟩
abbrev cX8_corner : ByteArray := prog_10_method_4_code
def yX8_corner : MethodName := ⟨RX8, "corner", "(I)I"⟩
def RX9 : String := "ColdWorks"
def TX9 : u_T := fun k => match k with
  | 0 => ("ColdWorks", "coolers", "[LColdWorks$Throttle;", true)
  | 1 => ("ColdWorks", "exchanger", "LColdWorks$Exchanger;", true)
  | 2 => ("ColdWorks", "controls", "LColdWorks$Controls;", true)
  | 3 => ("ColdWorks", "adsorbers", "LColdWorks$Adsorbers;", true)
  | 4 => ("ColdWorks", "store", "LColdWorks$Store;", true)
  | 5 => ("ColdWorks", "orders", "LColdWorks$Orders;", true)
  | 6 => ("ColdWorks", "lost", "[Z", true)
  | 7 => ("ColdWorks", "coolerCount", "I", false)
  | 8 => ("ColdWorks", "endCooler", "I", false)
  | 9 => ("ColdWorks", "endDrop", "I", false)
  | 10 => ("ColdWorks", "inlet", "I", false)
  | 11 => ("ColdWorks", "ticksEver", "I", false)
  | _ => ("ColdWorks", "traced", "J", false)
def tyX9 : Nat → FieldType := fun k => match k with
  | 0 => .array (.object "ColdWorks$Throttle")
  | 1 => .object "ColdWorks$Exchanger"
  | 2 => .object "ColdWorks$Controls"
  | 3 => .object "ColdWorks$Adsorbers"
  | 4 => .object "ColdWorks$Store"
  | 5 => .object "ColdWorks$Orders"
  | 6 => .array .boolean
  | 7 => .int
  | 8 => .int
  | 9 => .int
  | 10 => .int
  | 11 => .int
  | _ => .long
theorem nmX9 : ∀ a, a < 13 → ∀ b, b < 13 → a ≠ b → (TX9 a).2.1 ≠ (TX9 b).2.1 := by decide +kernel
theorem tyX9_ok : ∀ k, k < 13 → parseFieldDescriptor (TX9 k).2.2.1 = some (tyX9 k) := by decide +kernel
abbrev cX9_init : ByteArray := prog_1_method_1_code
def yX9_init : MethodName := ⟨RX9, "<init>", "()V"⟩
abbrev cX9_cooler : ByteArray := prog_1_method_2_code
def yX9_cooler : MethodName := ⟨RX9, "cooler", "(IIIIIII)I"⟩
abbrev cX9_cold : ByteArray := prog_1_method_3_code
def yX9_cold : MethodName := ⟨RX9, "cold", "(II)I"⟩
abbrev cX9_cells : ByteArray := prog_1_method_4_code
def yX9_cells : MethodName := ⟨RX9, "cells", "(II)I"⟩
abbrev cX9_set : ByteArray := prog_1_method_5_code
def yX9_set : MethodName := ⟨RX9, "set", "(II)I"⟩
abbrev cX9_side : ByteArray := prog_1_method_6_code
def yX9_side : MethodName := ⟨RX9, "side", "(II)I"⟩
abbrev cX9_heat : ByteArray := prog_1_method_7_code
def yX9_heat : MethodName := ⟨RX9, "heat", "(I)J"⟩
abbrev cX9_start : ByteArray := prog_1_method_8_code
def yX9_start : MethodName := ⟨RX9, "start", "()I"⟩
abbrev cX9_low : ByteArray := prog_1_method_9_code
def yX9_low : MethodName := ⟨RX9, "low", "()I"⟩
abbrev cX9_high : ByteArray := prog_1_method_10_code
def yX9_high : MethodName := ⟨RX9, "high", "()I"⟩
abbrev cX9_trip : ByteArray := prog_1_method_11_code
def yX9_trip : MethodName := ⟨RX9, "trip", "()I"⟩
abbrev cX9_reset : ByteArray := prog_1_method_12_code
def yX9_reset : MethodName := ⟨RX9, "reset", "()I"⟩
abbrev cX9_tick : ByteArray := prog_1_method_13_code
def yX9_tick : MethodName := ⟨RX9, "tick", "(I)I"⟩
abbrev cX9_adsorber : ByteArray := prog_1_method_14_code
def yX9_adsorber : MethodName := ⟨RX9, "adsorber", "(II)I"⟩
abbrev cX9_valve : ByteArray := prog_1_method_15_code
def yX9_valve : MethodName := ⟨RX9, "valve", "(I)I"⟩
abbrev cX9_order : ByteArray := prog_1_method_16_code
def yX9_order : MethodName := ⟨RX9, "order", "(II)I"⟩
abbrev cX9_deliver : ByteArray := prog_1_method_17_code
def yX9_deliver : MethodName := ⟨RX9, "deliver", "()I"⟩
abbrev cX9_about : ByteArray := prog_1_method_18_code
def yX9_about : MethodName := ⟨RX9, "about", "(II)I"⟩
abbrev cX9_back : ByteArray := prog_1_method_19_code
def yX9_back : MethodName := ⟨RX9, "back", "(I)I"⟩
abbrev cX9_lose : ByteArray := prog_1_method_20_code
def yX9_lose : MethodName := ⟨RX9, "lose", "(IZ)I"⟩
abbrev cX9_meter : ByteArray := prog_1_method_21_code
def yX9_meter : MethodName := ⟨RX9, "meter", "(I)J"⟩
abbrev cX9_balance : ByteArray := prog_1_method_22_code
def yX9_balance : MethodName := ⟨RX9, "balance", "(I)J"⟩
abbrev cX9_split : ByteArray := prog_1_method_23_code
def yX9_split : MethodName := ⟨RX9, "split", "(IIII)I"⟩
abbrev cX9_count : ByteArray := prog_1_method_24_code
def yX9_count : MethodName := ⟨RX9, "count", "(I)I"⟩
abbrev cX9_trace : ByteArray := prog_1_method_25_code
def yX9_trace : MethodName := ⟨RX9, "trace", "()J"⟩
abbrev cX9_within : ByteArray := prog_1_method_26_code
def yX9_within : MethodName := ⟨RX9, "within", "(III)Z"⟩
abbrev cX9_asNumber : ByteArray := prog_1_method_27_code
def yX9_asNumber : MethodName := ⟨RX9, "asNumber", "(Z)I"⟩
abbrev cX9_isMeter : ByteArray := prog_1_method_28_code
def yX9_isMeter : MethodName := ⟨RX9, "isMeter", "(I)Z"⟩
abbrev cX9_areCorners : ByteArray := prog_1_method_29_code
def yX9_areCorners : MethodName := ⟨RX9, "areCorners", "(IIIII)Z"⟩
abbrev cX9_build : ByteArray := prog_1_method_30_code
def yX9_build : MethodName := ⟨RX9, "build", "(IIIIIII)LColdWorks$Throttle;"⟩
abbrev cX9_isCooler : ByteArray := prog_1_method_31_code
def yX9_isCooler : MethodName := ⟨RX9, "isCooler", "(I)Z"⟩
abbrev cX9_find : ByteArray := prog_1_method_32_code
def yX9_find : MethodName := ⟨RX9, "find", "(I)LColdWorks$Throttle;"⟩
abbrev cX9_coldOf : ByteArray := prog_1_method_33_code
def yX9_coldOf : MethodName := ⟨RX9, "coldOf", "(II)I"⟩
abbrev cX9_weightOf : ByteArray := prog_1_method_34_code
def yX9_weightOf : MethodName := ⟨RX9, "weightOf", "(I)I"⟩
abbrev cX9_bestShare : ByteArray := prog_1_method_35_code
def yX9_bestShare : MethodName := ⟨RX9, "bestShare", "(III)I"⟩
abbrev cX9_maySet : ByteArray := prog_1_method_36_code
def yX9_maySet : MethodName := ⟨RX9, "maySet", "(II)Z"⟩
abbrev cX9_setting : ByteArray := prog_1_method_37_code
def yX9_setting : MethodName := ⟨RX9, "setting", "(I)I"⟩
abbrev cX9_change : ByteArray := prog_1_method_38_code
def yX9_change : MethodName := ⟨RX9, "change", "(II)V"⟩
abbrev cX9_oneTick : ByteArray := prog_1_method_39_code
def yX9_oneTick : MethodName := ⟨RX9, "oneTick", "()I"⟩
abbrev cX9_flow : ByteArray := prog_1_method_40_code
def yX9_flow : MethodName := ⟨RX9, "flow", "()I"⟩
abbrev cX9_lostMeters : ByteArray := prog_1_method_41_code
def yX9_lostMeters : MethodName := ⟨RX9, "lostMeters", "()I"⟩
abbrev cX9_toldByOthers : ByteArray := prog_1_method_42_code
def yX9_toldByOthers : MethodName := ⟨RX9, "toldByOthers", "(I)J"⟩
def RX10 : String := "ColdWorksModel"
def TX10 : u_T := fun k => match k with
  | 0 => ("ColdWorksModel", "thrown", "I", false)
  | 1 => ("ColdWorksModel", "trace", "J", false)
  | 2 => ("ColdWorksModel", "coolers", "I", false)
  | 3 => ("ColdWorksModel", "kind", "[I", true)
  | 4 => ("ColdWorksModel", "corners", "[I", true)
  | 5 => ("ColdWorksModel", "limits", "[I", true)
  | 6 => ("ColdWorksModel", "cells", "I", false)
  | 7 => ("ColdWorksModel", "warm", "[I", true)
  | 8 => ("ColdWorksModel", "cold", "[I", true)
  | 9 => ("ColdWorksModel", "pass", "I", false)
  | 10 => ("ColdWorksModel", "rules", "[I", true)
  | 11 => ("ColdWorksModel", "heats", "[J", true)
  | 12 => ("ColdWorksModel", "state", "I", false)
  | 13 => ("ColdWorksModel", "since", "I", false)
  | 14 => ("ColdWorksModel", "hasFeed", "Z", false)
  | 15 => ("ColdWorksModel", "hasPress", "Z", false)
  | 16 => ("ColdWorksModel", "hasVent", "Z", false)
  | 17 => ("ColdWorksModel", "tank", "I", false)
  | 18 => ("ColdWorksModel", "bag", "I", false)
  | 19 => ("ColdWorksModel", "made", "J", false)
  | 20 => ("ColdWorksModel", "delivered", "J", false)
  | 21 => ("ColdWorksModel", "blown", "J", false)
  | 22 => ("ColdWorksModel", "how", "[I", true)
  | 23 => ("ColdWorksModel", "load", "[I", true)
  | 24 => ("ColdWorksModel", "ticked", "[I", true)
  | 25 => ("ColdWorksModel", "orders", "I", false)
  | 26 => ("ColdWorksModel", "wanted", "[I", true)
  | 27 => ("ColdWorksModel", "dayOf", "[I", true)
  | 28 => ("ColdWorksModel", "became", "[I", true)
  | 29 => ("ColdWorksModel", "day", "I", false)
  | 30 => ("ColdWorksModel", "missed", "I", false)
  | 31 => ("ColdWorksModel", "ticks", "I", false)
  | 32 => ("ColdWorksModel", "trips", "I", false)
  | _ => ("ColdWorksModel", "isLost", "[Z", true)
def tyX10 : Nat → FieldType := fun k => match k with
  | 0 => .int
  | 1 => .long
  | 2 => .int
  | 3 => .array .int
  | 4 => .array .int
  | 5 => .array .int
  | 6 => .int
  | 7 => .array .int
  | 8 => .array .int
  | 9 => .int
  | 10 => .array .int
  | 11 => .array .long
  | 12 => .int
  | 13 => .int
  | 14 => .boolean
  | 15 => .boolean
  | 16 => .boolean
  | 17 => .int
  | 18 => .int
  | 19 => .long
  | 20 => .long
  | 21 => .long
  | 22 => .array .int
  | 23 => .array .int
  | 24 => .array .int
  | 25 => .int
  | 26 => .array .int
  | 27 => .array .int
  | 28 => .array .int
  | 29 => .int
  | 30 => .int
  | 31 => .int
  | 32 => .int
  | _ => .array .boolean
theorem nmX10 : ∀ a, a < 34 → ∀ b, b < 34 → a ≠ b → (TX10 a).2.1 ≠ (TX10 b).2.1 := by decide +kernel
theorem tyX10_ok : ∀ k, k < 34 → parseFieldDescriptor (TX10 k).2.2.1 = some (tyX10 k) := by decide +kernel
abbrev cX10_init : ByteArray := prog_12_method_1_code
def yX10_init : MethodName := ⟨RX10, "<init>", "()V"⟩
abbrev cX10_in : ByteArray := prog_12_method_3_code
def yX10_in : MethodName := ⟨RX10, "in", "(III)Z"⟩
abbrev cX10_fresh : ByteArray := prog_12_method_4_code
def yX10_fresh : MethodName := ⟨RX10, "fresh", "()V"⟩
abbrev cX10_isCooler : ByteArray := prog_12_method_5_code
def yX10_isCooler : MethodName := ⟨RX10, "isCooler", "(I)Z"⟩
abbrev cX10_cooler : ByteArray := prog_12_method_6_code
def yX10_cooler : MethodName := ⟨RX10, "cooler", "(IIIIIII)I"⟩
abbrev cX10_coldOf : ByteArray := prog_12_method_7_code
def yX10_coldOf : MethodName := ⟨RX10, "coldOf", "(II)I"⟩
abbrev cX10_cold : ByteArray := prog_12_method_8_code
def yX10_cold : MethodName := ⟨RX10, "cold", "(II)I"⟩
abbrev cX10_cells : ByteArray := prog_12_method_9_code
def yX10_cells : MethodName := ⟨RX10, "cells", "(II)I"⟩
abbrev cX10_set : ByteArray := prog_12_method_10_code
def yX10_set : MethodName := ⟨RX10, "set", "(II)I"⟩
abbrev cX10_side : ByteArray := prog_12_method_11_code
def yX10_side : MethodName := ⟨RX10, "side", "(II)I"⟩
abbrev cX10_heat : ByteArray := prog_12_method_12_code
def yX10_heat : MethodName := ⟨RX10, "heat", "(I)J"⟩
abbrev cX10_trips : ByteArray := prog_12_method_13_code
def yX10_trips : MethodName := ⟨RX10, "trips", "()V"⟩
abbrev cX10_start : ByteArray := prog_12_method_14_code
def yX10_start : MethodName := ⟨RX10, "start", "()I"⟩
abbrev cX10_low : ByteArray := prog_12_method_15_code
def yX10_low : MethodName := ⟨RX10, "low", "()I"⟩
abbrev cX10_high : ByteArray := prog_12_method_16_code
def yX10_high : MethodName := ⟨RX10, "high", "()I"⟩
abbrev cX10_trip : ByteArray := prog_12_method_17_code
def yX10_trip : MethodName := ⟨RX10, "trip", "()I"⟩
abbrev cX10_reset : ByteArray := prog_12_method_18_code
def yX10_reset : MethodName := ⟨RX10, "reset", "()I"⟩
abbrev cX10_goesOn : ByteArray := prog_12_method_19_code
def yX10_goesOn : MethodName := ⟨RX10, "goesOn", "(I)V"⟩
abbrev cX10_loads : ByteArray := prog_12_method_20_code
def yX10_loads : MethodName := ⟨RX10, "loads", "()V"⟩
abbrev cX10_flows : ByteArray := prog_12_method_21_code
def yX10_flows : MethodName := ⟨RX10, "flows", "()I"⟩
abbrev cX10_stores : ByteArray := prog_12_method_22_code
def yX10_stores : MethodName := ⟨RX10, "stores", "(I)V"⟩
abbrev cX10_goes : ByteArray := prog_12_method_23_code
def yX10_goes : MethodName := ⟨RX10, "goes", "()I"⟩
abbrev cX10_tick : ByteArray := prog_12_method_24_code
def yX10_tick : MethodName := ⟨RX10, "tick", "(I)I"⟩
abbrev cX10_adsorber : ByteArray := prog_12_method_25_code
def yX10_adsorber : MethodName := ⟨RX10, "adsorber", "(II)I"⟩
abbrev cX10_valve : ByteArray := prog_12_method_26_code
def yX10_valve : MethodName := ⟨RX10, "valve", "(I)I"⟩
abbrev cX10_order : ByteArray := prog_12_method_27_code
def yX10_order : MethodName := ⟨RX10, "order", "(II)I"⟩
abbrev cX10_deliver : ByteArray := prog_12_method_28_code
def yX10_deliver : MethodName := ⟨RX10, "deliver", "()I"⟩
abbrev cX10_about : ByteArray := prog_12_method_29_code
def yX10_about : MethodName := ⟨RX10, "about", "(II)I"⟩
abbrev cX10_back : ByteArray := prog_12_method_30_code
def yX10_back : MethodName := ⟨RX10, "back", "(I)I"⟩
abbrev cX10_lose : ByteArray := prog_12_method_31_code
def yX10_lose : MethodName := ⟨RX10, "lose", "(IZ)I"⟩
abbrev cX10_reads : ByteArray := prog_12_method_32_code
def yX10_reads : MethodName := ⟨RX10, "reads", "(I)J"⟩
abbrev cX10_meter : ByteArray := prog_12_method_33_code
def yX10_meter : MethodName := ⟨RX10, "meter", "(I)J"⟩
abbrev cX10_balance : ByteArray := prog_12_method_34_code
def yX10_balance : MethodName := ⟨RX10, "balance", "(I)J"⟩
abbrev cX10_split : ByteArray := prog_12_method_35_code
def yX10_split : MethodName := ⟨RX10, "split", "(IIII)I"⟩
abbrev cX10_count : ByteArray := prog_12_method_36_code
def yX10_count : MethodName := ⟨RX10, "count", "(I)I"⟩
abbrev cX10_trace : ByteArray := prog_12_method_37_code
def yX10_trace : MethodName := ⟨RX10, "trace", "()J"⟩
def RJ9 : String := "java/lang/Math"
def TJ9 : u_T := fun k => match k with
  | _ => ("", "", "", false)
def tyJ9 : Nat → FieldType := fun k => match k with
  | _ => .int
theorem nmJ9 : ∀ a, a < 0 → ∀ b, b < 0 → a ≠ b → (TJ9 a).2.1 ≠ (TJ9 b).2.1 := by decide +kernel
theorem tyJ9_ok : ∀ k, k < 0 → parseFieldDescriptor (TJ9 k).2.2.1 = some (tyJ9 k) := by decide +kernel
abbrev cJ9_max_7cf53 : ByteArray := prog_13_method_65_code
def yJ9_max_7cf53 : MethodName := ⟨RJ9, "max", "(II)I"⟩
abbrev cJ9_min_7cf53 : ByteArray := prog_13_method_69_code
def yJ9_min_7cf53 : MethodName := ⟨RJ9, "min", "(II)I"⟩
def RJ10 : String := "java/lang/System"
def TJ10 : u_T := fun k => match k with
  | _ => ("", "", "", false)
def tyJ10 : Nat → FieldType := fun k => match k with
  | _ => .int
theorem nmJ10 : ∀ a, a < 0 → ∀ b, b < 0 → a ≠ b → (TJ10 a).2.1 ≠ (TJ10 b).2.1 := by decide +kernel
theorem tyJ10_ok : ∀ k, k < 0 → parseFieldDescriptor (TJ10 k).2.2.1 = some (tyJ10 k) := by decide +kernel
def RJ7 : String := "java/util/Arrays"
def TJ7 : u_T := fun k => match k with
  | _ => ("", "", "", false)
def tyJ7 : Nat → FieldType := fun k => match k with
  | _ => .int
theorem nmJ7 : ∀ a, a < 0 → ∀ b, b < 0 → a ≠ b → (TJ7 a).2.1 ≠ (TJ7 b).2.1 := by decide +kernel
theorem tyJ7_ok : ∀ k, k < 0 → parseFieldDescriptor (TJ7 k).2.2.1 = some (tyJ7 k) := by decide +kernel
abbrev cJ7_fill_53178 : ByteArray := prog_15_method_103_code
def yJ7_fill_53178 : MethodName := ⟨RJ7, "fill", "([II)V"⟩
def RL : String := "ColdWorksLaw"
abbrev cL_law : ByteArray := code
def yL_law : MethodName := ⟨RL, "law", "([I)Z"⟩
abbrev vwCl : List vw_C := [(RX0, TX0, 3), (RX1, TX1, 4), (RX2, TX2, 2), (RX3, TX3, 6), (RX4, TX4, 8), (RX5, TX5, 6), (RX6, TX6, 6), (RX7, TX7, 0), (RX8, TX8, 1), (RX9, TX9, 13), (RX10, TX10, 34)]
end
section
theorem dX0_init_0 : decode cX0_init 0 = .ok (.aload_n 0, 1) := by decide +kernel
theorem dX0_init_1 : decode cX0_init 1 = .ok (.invokespecial 3, 3) := by decide +kernel
theorem dX0_init_4 : decode cX0_init 4 = .ok (.aload_n 0, 1) := by decide +kernel
theorem dX0_init_5 : decode cX0_init 5 = .ok (.iconst 0, 1) := by decide +kernel
theorem dX0_init_6 : decode cX0_init 6 = .ok (.putfield 9, 3) := by decide +kernel
theorem dX0_init_9 : decode cX0_init 9 = .ok (.aload_n 0, 1) := by decide +kernel
theorem dX0_init_10 : decode cX0_init 10 = .ok (.iconst 0, 1) := by decide +kernel
theorem dX0_init_11 : decode cX0_init 11 = .ok (.putfield 15, 3) := by decide +kernel
theorem dX0_init_14 : decode cX0_init 14 = .ok (.aload_n 0, 1) := by decide +kernel
theorem dX0_init_15 : decode cX0_init 15 = .ok (.iload_n 1, 1) := by decide +kernel
theorem dX0_init_16 : decode cX0_init 16 = .ok (.putfield 18, 3) := by decide +kernel
theorem dX0_init_19 : decode cX0_init 19 = .ok (.return_, 1) := by decide +kernel
theorem dX0_become_0 : decode cX0_become 0 = .ok (.aload_n 0, 1) := by decide +kernel
theorem dX0_become_1 : decode cX0_become 1 = .ok (.iload_n 1, 1) := by decide +kernel
theorem dX0_become_2 : decode cX0_become 2 = .ok (.putfield 18, 3) := by decide +kernel
theorem dX0_become_5 : decode cX0_become 5 = .ok (.aload_n 0, 1) := by decide +kernel
theorem dX0_become_6 : decode cX0_become 6 = .ok (.iconst 0, 1) := by decide +kernel
theorem dX0_become_7 : decode cX0_become 7 = .ok (.putfield 15, 3) := by decide +kernel
theorem dX0_become_10 : decode cX0_become 10 = .ok (.return_, 1) := by decide +kernel
theorem dX0_goOn_0 : decode cX0_goOn 0 = .ok (.aload_n 0, 1) := by decide +kernel
theorem dX0_goOn_1 : decode cX0_goOn 1 = .ok (.getfield 18, 3) := by decide +kernel
theorem dX0_goOn_4 : decode cX0_goOn 4 = .ok (.iconst 2, 1) := by decide +kernel
theorem dX0_goOn_5 : decode cX0_goOn 5 = .ok (.if_icmp .eq 13, 3) := by decide +kernel
theorem dX0_goOn_8 : decode cX0_goOn 8 = .ok (.aload_n 0, 1) := by decide +kernel
theorem dX0_goOn_9 : decode cX0_goOn 9 = .ok (.getfield 18, 3) := by decide +kernel
theorem dX0_goOn_12 : decode cX0_goOn 12 = .ok (.iconst 3, 1) := by decide +kernel
theorem dX0_goOn_13 : decode cX0_goOn 13 = .ok (.if_icmp .eq 5, 3) := by decide +kernel
theorem dX0_goOn_16 : decode cX0_goOn 16 = .ok (.iconst 0, 1) := by decide +kernel
theorem dX0_goOn_17 : decode cX0_goOn 17 = .ok (.ireturn, 1) := by decide +kernel
theorem dX0_goOn_18 : decode cX0_goOn 18 = .ok (.aload_n 0, 1) := by decide +kernel
theorem dX0_goOn_19 : decode cX0_goOn 19 = .ok (.dup, 1) := by decide +kernel
theorem dX0_goOn_20 : decode cX0_goOn 20 = .ok (.getfield 15, 3) := by decide +kernel
theorem dX0_goOn_23 : decode cX0_goOn 23 = .ok (.iconst 1, 1) := by decide +kernel
theorem dX0_goOn_24 : decode cX0_goOn 24 = .ok (.iadd, 1) := by decide +kernel
theorem dX0_goOn_25 : decode cX0_goOn 25 = .ok (.putfield 15, 3) := by decide +kernel
theorem dX0_goOn_28 : decode cX0_goOn 28 = .ok (.aload_n 0, 1) := by decide +kernel
theorem dX0_goOn_29 : decode cX0_goOn 29 = .ok (.getfield 15, 3) := by decide +kernel
theorem dX0_goOn_32 : decode cX0_goOn 32 = .ok (.iload_n 1, 1) := by decide +kernel
theorem dX0_goOn_33 : decode cX0_goOn 33 = .ok (.if_icmp .ge 5, 3) := by decide +kernel
theorem dX0_goOn_36 : decode cX0_goOn 36 = .ok (.iconst 0, 1) := by decide +kernel
theorem dX0_goOn_37 : decode cX0_goOn 37 = .ok (.ireturn, 1) := by decide +kernel
theorem dX0_goOn_38 : decode cX0_goOn 38 = .ok (.aload_n 0, 1) := by decide +kernel
theorem dX0_goOn_39 : decode cX0_goOn 39 = .ok (.getfield 18, 3) := by decide +kernel
theorem dX0_goOn_42 : decode cX0_goOn 42 = .ok (.iconst 2, 1) := by decide +kernel
theorem dX0_goOn_43 : decode cX0_goOn 43 = .ok (.if_icmp .ne 10, 3) := by decide +kernel
theorem dX0_goOn_46 : decode cX0_goOn 46 = .ok (.aload_n 0, 1) := by decide +kernel
theorem dX0_goOn_47 : decode cX0_goOn 47 = .ok (.iconst 3, 1) := by decide +kernel
theorem dX0_goOn_48 : decode cX0_goOn 48 = .ok (.invokevirtual 21, 3) := by decide +kernel
theorem dX0_goOn_51 : decode cX0_goOn 51 = .ok (.iconst 0, 1) := by decide +kernel
theorem dX0_goOn_52 : decode cX0_goOn 52 = .ok (.ireturn, 1) := by decide +kernel
theorem dX0_goOn_53 : decode cX0_goOn 53 = .ok (.aload_n 0, 1) := by decide +kernel
theorem dX0_goOn_54 : decode cX0_goOn 54 = .ok (.iconst 0, 1) := by decide +kernel
theorem dX0_goOn_55 : decode cX0_goOn 55 = .ok (.invokevirtual 21, 3) := by decide +kernel
theorem dX0_goOn_58 : decode cX0_goOn 58 = .ok (.aload_n 0, 1) := by decide +kernel
theorem dX0_goOn_59 : decode cX0_goOn 59 = .ok (.iconst 0, 1) := by decide +kernel
theorem dX0_goOn_60 : decode cX0_goOn 60 = .ok (.putfield 9, 3) := by decide +kernel
theorem dX0_goOn_63 : decode cX0_goOn 63 = .ok (.iconst 1, 1) := by decide +kernel
theorem dX0_goOn_64 : decode cX0_goOn 64 = .ok (.ireturn, 1) := by decide +kernel
theorem dX0_fact_0 : decode cX0_fact 0 = .ok (.iload_n 1, 1) := by decide +kernel
theorem dX0_fact_1 : decode cX0_fact 1 = .ok (.tableswitch 42 0 2 #[27, 32, 37], 27) := by decide +kernel
theorem dX0_fact_28 : decode cX0_fact 28 = .ok (.aload_n 0, 1) := by decide +kernel
theorem dX0_fact_29 : decode cX0_fact 29 = .ok (.getfield 18, 3) := by decide +kernel
theorem dX0_fact_32 : decode cX0_fact 32 = .ok (.ireturn, 1) := by decide +kernel
theorem dX0_fact_33 : decode cX0_fact 33 = .ok (.aload_n 0, 1) := by decide +kernel
theorem dX0_fact_34 : decode cX0_fact 34 = .ok (.getfield 9, 3) := by decide +kernel
theorem dX0_fact_37 : decode cX0_fact 37 = .ok (.ireturn, 1) := by decide +kernel
theorem dX0_fact_38 : decode cX0_fact 38 = .ok (.aload_n 0, 1) := by decide +kernel
theorem dX0_fact_39 : decode cX0_fact 39 = .ok (.getfield 15, 3) := by decide +kernel
theorem dX0_fact_42 : decode cX0_fact 42 = .ok (.ireturn, 1) := by decide +kernel
theorem dX0_fact_43 : decode cX0_fact 43 = .ok (.iconst (-1), 1) := by decide +kernel
theorem dX0_fact_44 : decode cX0_fact 44 = .ok (.ireturn, 1) := by decide +kernel
theorem dX1_init_0 : decode cX1_init 0 = .ok (.aload_n 0, 1) := by decide +kernel
theorem dX1_init_1 : decode cX1_init 1 = .ok (.invokespecial 3, 3) := by decide +kernel
theorem dX1_init_4 : decode cX1_init 4 = .ok (.aload_n 0, 1) := by decide +kernel
theorem dX1_init_5 : decode cX1_init 5 = .ok (.new 9, 3) := by decide +kernel
theorem dX1_init_8 : decode cX1_init 8 = .ok (.dup, 1) := by decide +kernel
theorem dX1_init_9 : decode cX1_init 9 = .ok (.iconst 1, 1) := by decide +kernel
theorem dX1_init_10 : decode cX1_init 10 = .ok (.invokespecial 11, 3) := by decide +kernel
theorem dX1_init_13 : decode cX1_init 13 = .ok (.putfield 14, 3) := by decide +kernel
theorem dX1_init_16 : decode cX1_init 16 = .ok (.aload_n 0, 1) := by decide +kernel
theorem dX1_init_17 : decode cX1_init 17 = .ok (.new 9, 3) := by decide +kernel
theorem dX1_init_20 : decode cX1_init 20 = .ok (.dup, 1) := by decide +kernel
theorem dX1_init_21 : decode cX1_init 21 = .ok (.iconst 0, 1) := by decide +kernel
theorem dX1_init_22 : decode cX1_init 22 = .ok (.invokespecial 11, 3) := by decide +kernel
theorem dX1_init_25 : decode cX1_init 25 = .ok (.putfield 20, 3) := by decide +kernel
theorem dX1_init_28 : decode cX1_init 28 = .ok (.aload_n 0, 1) := by decide +kernel
theorem dX1_init_29 : decode cX1_init 29 = .ok (.bipush 20, 2) := by decide +kernel
theorem dX1_init_31 : decode cX1_init 31 = .ok (.putfield 23, 3) := by decide +kernel
theorem dX1_init_34 : decode cX1_init 34 = .ok (.aload_n 0, 1) := by decide +kernel
theorem dX1_init_35 : decode cX1_init 35 = .ok (.bipush 6, 2) := by decide +kernel
theorem dX1_init_37 : decode cX1_init 37 = .ok (.putfield 27, 3) := by decide +kernel
theorem dX1_init_40 : decode cX1_init 40 = .ok (.return_, 1) := by decide +kernel
theorem dX1_anyOn_0 : decode cX1_anyOn 0 = .ok (.aload_n 0, 1) := by decide +kernel
theorem dX1_anyOn_1 : decode cX1_anyOn 1 = .ok (.getfield 14, 3) := by decide +kernel
theorem dX1_anyOn_4 : decode cX1_anyOn 4 = .ok (.getfield 30, 3) := by decide +kernel
theorem dX1_anyOn_7 : decode cX1_anyOn 7 = .ok (.iconst 1, 1) := by decide +kernel
theorem dX1_anyOn_8 : decode cX1_anyOn 8 = .ok (.if_icmp .eq 14, 3) := by decide +kernel
theorem dX1_anyOn_11 : decode cX1_anyOn 11 = .ok (.aload_n 0, 1) := by decide +kernel
theorem dX1_anyOn_12 : decode cX1_anyOn 12 = .ok (.getfield 20, 3) := by decide +kernel
theorem dX1_anyOn_15 : decode cX1_anyOn 15 = .ok (.getfield 30, 3) := by decide +kernel
theorem dX1_anyOn_18 : decode cX1_anyOn 18 = .ok (.iconst 1, 1) := by decide +kernel
theorem dX1_anyOn_19 : decode cX1_anyOn 19 = .ok (.if_icmp .ne 7, 3) := by decide +kernel
theorem dX1_anyOn_22 : decode cX1_anyOn 22 = .ok (.iconst 1, 1) := by decide +kernel
theorem dX1_anyOn_23 : decode cX1_anyOn 23 = .ok (.goto 4, 3) := by decide +kernel
theorem dX1_anyOn_26 : decode cX1_anyOn 26 = .ok (.iconst 0, 1) := by decide +kernel
theorem dX1_anyOn_27 : decode cX1_anyOn 27 = .ok (.ireturn, 1) := by decide +kernel
theorem dX1_regenerate_0 : decode cX1_regenerate 0 = .ok (.aload_n 0, 1) := by decide +kernel
theorem dX1_regenerate_1 : decode cX1_regenerate 1 = .ok (.aload_n 0, 1) := by decide +kernel
theorem dX1_regenerate_2 : decode cX1_regenerate 2 = .ok (.getfield 14, 3) := by decide +kernel
theorem dX1_regenerate_5 : decode cX1_regenerate 5 = .ok (.invokevirtual 33, 3) := by decide +kernel
theorem dX1_regenerate_8 : decode cX1_regenerate 8 = .ok (.aload_n 0, 1) := by decide +kernel
theorem dX1_regenerate_9 : decode cX1_regenerate 9 = .ok (.aload_n 0, 1) := by decide +kernel
theorem dX1_regenerate_10 : decode cX1_regenerate 10 = .ok (.getfield 20, 3) := by decide +kernel
theorem dX1_regenerate_13 : decode cX1_regenerate 13 = .ok (.invokevirtual 33, 3) := by decide +kernel
theorem dX1_regenerate_16 : decode cX1_regenerate 16 = .ok (.return_, 1) := by decide +kernel
theorem dX1_step_0 : decode cX1_step 0 = .ok (.aload_n 1, 1) := by decide +kernel
theorem dX1_step_1 : decode cX1_step 1 = .ok (.aload_n 0, 1) := by decide +kernel
theorem dX1_step_2 : decode cX1_step 2 = .ok (.getfield 27, 3) := by decide +kernel
theorem dX1_step_5 : decode cX1_step 5 = .ok (.invokevirtual 37, 3) := by decide +kernel
theorem dX1_step_8 : decode cX1_step 8 = .ok (.ifCond .eq 15, 3) := by decide +kernel
theorem dX1_step_11 : decode cX1_step 11 = .ok (.aload_n 0, 1) := by decide +kernel
theorem dX1_step_12 : decode cX1_step 12 = .ok (.invokevirtual 41, 3) := by decide +kernel
theorem dX1_step_15 : decode cX1_step 15 = .ok (.ifCond .ne 8, 3) := by decide +kernel
theorem dX1_step_18 : decode cX1_step 18 = .ok (.aload_n 1, 1) := by decide +kernel
theorem dX1_step_19 : decode cX1_step 19 = .ok (.iconst 1, 1) := by decide +kernel
theorem dX1_step_20 : decode cX1_step 20 = .ok (.invokevirtual 45, 3) := by decide +kernel
theorem dX1_step_23 : decode cX1_step 23 = .ok (.return_, 1) := by decide +kernel
theorem dX1_load_0 : decode cX1_load 0 = .ok (.aload_n 0, 1) := by decide +kernel
theorem dX1_load_1 : decode cX1_load 1 = .ok (.getfield 14, 3) := by decide +kernel
theorem dX1_load_4 : decode cX1_load 4 = .ok (.getfield 30, 3) := by decide +kernel
theorem dX1_load_7 : decode cX1_load 7 = .ok (.iconst 1, 1) := by decide +kernel
theorem dX1_load_8 : decode cX1_load 8 = .ok (.if_icmp .ne 18, 3) := by decide +kernel
theorem dX1_load_11 : decode cX1_load 11 = .ok (.aload_n 0, 1) := by decide +kernel
theorem dX1_load_12 : decode cX1_load 12 = .ok (.aload_n 0, 1) := by decide +kernel
theorem dX1_load_13 : decode cX1_load 13 = .ok (.getfield 14, 3) := by decide +kernel
theorem dX1_load_16 : decode cX1_load 16 = .ok (.aload_n 0, 1) := by decide +kernel
theorem dX1_load_17 : decode cX1_load 17 = .ok (.getfield 20, 3) := by decide +kernel
theorem dX1_load_20 : decode cX1_load 20 = .ok (.invokevirtual 48, 3) := by decide +kernel
theorem dX1_load_23 : decode cX1_load 23 = .ok (.goto 15, 3) := by decide +kernel
theorem dX1_load_26 : decode cX1_load 26 = .ok (.aload_n 0, 1) := by decide +kernel
theorem dX1_load_27 : decode cX1_load 27 = .ok (.aload_n 0, 1) := by decide +kernel
theorem dX1_load_28 : decode cX1_load 28 = .ok (.getfield 20, 3) := by decide +kernel
theorem dX1_load_31 : decode cX1_load 31 = .ok (.aload_n 0, 1) := by decide +kernel
theorem dX1_load_32 : decode cX1_load 32 = .ok (.getfield 14, 3) := by decide +kernel
theorem dX1_load_35 : decode cX1_load 35 = .ok (.invokevirtual 48, 3) := by decide +kernel
theorem dX1_load_38 : decode cX1_load 38 = .ok (.ireturn, 1) := by decide +kernel
theorem dX1_loadOne_0 : decode cX1_loadOne 0 = .ok (.aload_n 1, 1) := by decide +kernel
theorem dX1_loadOne_1 : decode cX1_loadOne 1 = .ok (.getfield 30, 3) := by decide +kernel
theorem dX1_loadOne_4 : decode cX1_loadOne 4 = .ok (.iconst 1, 1) := by decide +kernel
theorem dX1_loadOne_5 : decode cX1_loadOne 5 = .ok (.if_icmp .eq 5, 3) := by decide +kernel
theorem dX1_loadOne_8 : decode cX1_loadOne 8 = .ok (.iconst 0, 1) := by decide +kernel
theorem dX1_loadOne_9 : decode cX1_loadOne 9 = .ok (.ireturn, 1) := by decide +kernel
theorem dX1_loadOne_10 : decode cX1_loadOne 10 = .ok (.aload_n 1, 1) := by decide +kernel
theorem dX1_loadOne_11 : decode cX1_loadOne 11 = .ok (.dup, 1) := by decide +kernel
theorem dX1_loadOne_12 : decode cX1_loadOne 12 = .ok (.getfield 52, 3) := by decide +kernel
theorem dX1_loadOne_15 : decode cX1_loadOne 15 = .ok (.iconst 1, 1) := by decide +kernel
theorem dX1_loadOne_16 : decode cX1_loadOne 16 = .ok (.iadd, 1) := by decide +kernel
theorem dX1_loadOne_17 : decode cX1_loadOne 17 = .ok (.putfield 52, 3) := by decide +kernel
theorem dX1_loadOne_20 : decode cX1_loadOne 20 = .ok (.aload_n 1, 1) := by decide +kernel
theorem dX1_loadOne_21 : decode cX1_loadOne 21 = .ok (.getfield 52, 3) := by decide +kernel
theorem dX1_loadOne_24 : decode cX1_loadOne 24 = .ok (.aload_n 0, 1) := by decide +kernel
theorem dX1_loadOne_25 : decode cX1_loadOne 25 = .ok (.getfield 23, 3) := by decide +kernel
theorem dX1_loadOne_28 : decode cX1_loadOne 28 = .ok (.if_icmp .ge 5, 3) := by decide +kernel
theorem dX1_loadOne_31 : decode cX1_loadOne 31 = .ok (.iconst 1, 1) := by decide +kernel
theorem dX1_loadOne_32 : decode cX1_loadOne 32 = .ok (.ireturn, 1) := by decide +kernel
theorem dX1_loadOne_33 : decode cX1_loadOne 33 = .ok (.aload_n 1, 1) := by decide +kernel
theorem dX1_loadOne_34 : decode cX1_loadOne 34 = .ok (.iconst 2, 1) := by decide +kernel
theorem dX1_loadOne_35 : decode cX1_loadOne 35 = .ok (.invokevirtual 45, 3) := by decide +kernel
theorem dX1_loadOne_38 : decode cX1_loadOne 38 = .ok (.aload_n 2, 1) := by decide +kernel
theorem dX1_loadOne_39 : decode cX1_loadOne 39 = .ok (.getfield 30, 3) := by decide +kernel
theorem dX1_loadOne_42 : decode cX1_loadOne 42 = .ok (.ifCond .eq 5, 3) := by decide +kernel
theorem dX1_loadOne_45 : decode cX1_loadOne 45 = .ok (.iconst 0, 1) := by decide +kernel
theorem dX1_loadOne_46 : decode cX1_loadOne 46 = .ok (.ireturn, 1) := by decide +kernel
theorem dX1_loadOne_47 : decode cX1_loadOne 47 = .ok (.aload_n 2, 1) := by decide +kernel
theorem dX1_loadOne_48 : decode cX1_loadOne 48 = .ok (.iconst 1, 1) := by decide +kernel
theorem dX1_loadOne_49 : decode cX1_loadOne 49 = .ok (.invokevirtual 45, 3) := by decide +kernel
theorem dX1_loadOne_52 : decode cX1_loadOne 52 = .ok (.iconst 1, 1) := by decide +kernel
theorem dX1_loadOne_53 : decode cX1_loadOne 53 = .ok (.ireturn, 1) := by decide +kernel
theorem dX1_tell_0 : decode cX1_tell 0 = .ok (.iload_n 1, 1) := by decide +kernel
theorem dX1_tell_1 : decode cX1_tell 1 = .ok (.lookupswitch 45 #[(0, 27), (1, 36)], 27) := by decide +kernel
theorem dX1_tell_28 : decode cX1_tell 28 = .ok (.aload_n 0, 1) := by decide +kernel
theorem dX1_tell_29 : decode cX1_tell 29 = .ok (.getfield 14, 3) := by decide +kernel
theorem dX1_tell_32 : decode cX1_tell 32 = .ok (.iload_n 2, 1) := by decide +kernel
theorem dX1_tell_33 : decode cX1_tell 33 = .ok (.invokevirtual 55, 3) := by decide +kernel
theorem dX1_tell_36 : decode cX1_tell 36 = .ok (.ireturn, 1) := by decide +kernel
theorem dX1_tell_37 : decode cX1_tell 37 = .ok (.aload_n 0, 1) := by decide +kernel
theorem dX1_tell_38 : decode cX1_tell 38 = .ok (.getfield 20, 3) := by decide +kernel
theorem dX1_tell_41 : decode cX1_tell 41 = .ok (.iload_n 2, 1) := by decide +kernel
theorem dX1_tell_42 : decode cX1_tell 42 = .ok (.invokevirtual 55, 3) := by decide +kernel
theorem dX1_tell_45 : decode cX1_tell 45 = .ok (.ireturn, 1) := by decide +kernel
theorem dX1_tell_46 : decode cX1_tell 46 = .ok (.iconst (-1), 1) := by decide +kernel
theorem dX1_tell_47 : decode cX1_tell 47 = .ok (.ireturn, 1) := by decide +kernel
theorem dX2_init_0 : decode cX2_init 0 = .ok (.aload_n 0, 1) := by decide +kernel
theorem dX2_init_1 : decode cX2_init 1 = .ok (.aload_n 1, 1) := by decide +kernel
theorem dX2_init_2 : decode cX2_init 2 = .ok (.invokespecial 1, 3) := by decide +kernel
theorem dX2_init_5 : decode cX2_init 5 = .ok (.aload_n 0, 1) := by decide +kernel
theorem dX2_init_6 : decode cX2_init 6 = .ok (.iload_n 2, 1) := by decide +kernel
theorem dX2_init_7 : decode cX2_init 7 = .ok (.putfield 7, 3) := by decide +kernel
theorem dX2_init_10 : decode cX2_init 10 = .ok (.return_, 1) := by decide +kernel
theorem dX2_coldAt_0 : decode cX2_coldAt 0 = .ok (.aload_n 0, 1) := by decide +kernel
theorem dX2_coldAt_1 : decode cX2_coldAt 1 = .ok (.iload_n 1, 1) := by decide +kernel
theorem dX2_coldAt_2 : decode cX2_coldAt 2 = .ok (.invokespecial 13, 3) := by decide +kernel
theorem dX2_coldAt_5 : decode cX2_coldAt 5 = .ok (.aload_n 0, 1) := by decide +kernel
theorem dX2_coldAt_6 : decode cX2_coldAt 6 = .ok (.getfield 7, 3) := by decide +kernel
theorem dX2_coldAt_9 : decode cX2_coldAt 9 = .ok (.invokestatic 17, 3) := by decide +kernel
theorem dX2_coldAt_12 : decode cX2_coldAt 12 = .ok (.ireturn, 1) := by decide +kernel
theorem dX2_traceWeight_0 : decode cX2_traceWeight 0 = .ok (.aload_n 0, 1) := by decide +kernel
theorem dX2_traceWeight_1 : decode cX2_traceWeight 1 = .ok (.invokespecial 23, 3) := by decide +kernel
theorem dX2_traceWeight_4 : decode cX2_traceWeight 4 = .ok (.bipush 100, 2) := by decide +kernel
theorem dX2_traceWeight_6 : decode cX2_traceWeight 6 = .ok (.iadd, 1) := by decide +kernel
theorem dX2_traceWeight_7 : decode cX2_traceWeight 7 = .ok (.ireturn, 1) := by decide +kernel
theorem dX3_init_0 : decode cX3_init 0 = .ok (.aload_n 0, 1) := by decide +kernel
theorem dX3_init_1 : decode cX3_init 1 = .ok (.invokespecial 3, 3) := by decide +kernel
theorem dX3_init_4 : decode cX3_init 4 = .ok (.aload_n 0, 1) := by decide +kernel
theorem dX3_init_5 : decode cX3_init 5 = .ok (.iconst 0, 1) := by decide +kernel
theorem dX3_init_6 : decode cX3_init 6 = .ok (.putfield 9, 3) := by decide +kernel
theorem dX3_init_9 : decode cX3_init 9 = .ok (.aload_n 0, 1) := by decide +kernel
theorem dX3_init_10 : decode cX3_init 10 = .ok (.iconst 0, 1) := by decide +kernel
theorem dX3_init_11 : decode cX3_init 11 = .ok (.putfield 15, 3) := by decide +kernel
theorem dX3_init_14 : decode cX3_init 14 = .ok (.aload_n 0, 1) := by decide +kernel
theorem dX3_init_15 : decode cX3_init 15 = .ok (.iconst 0, 1) := by decide +kernel
theorem dX3_init_16 : decode cX3_init 16 = .ok (.putfield 18, 3) := by decide +kernel
theorem dX3_init_19 : decode cX3_init 19 = .ok (.aload_n 0, 1) := by decide +kernel
theorem dX3_init_20 : decode cX3_init 20 = .ok (.iconst 0, 1) := by decide +kernel
theorem dX3_init_21 : decode cX3_init 21 = .ok (.putfield 21, 3) := by decide +kernel
theorem dX3_init_24 : decode cX3_init 24 = .ok (.aload_n 0, 1) := by decide +kernel
theorem dX3_init_25 : decode cX3_init 25 = .ok (.iconst 0, 1) := by decide +kernel
theorem dX3_init_26 : decode cX3_init 26 = .ok (.putfield 25, 3) := by decide +kernel
theorem dX3_init_29 : decode cX3_init 29 = .ok (.aload_n 0, 1) := by decide +kernel
theorem dX3_init_30 : decode cX3_init 30 = .ok (.iconst 0, 1) := by decide +kernel
theorem dX3_init_31 : decode cX3_init 31 = .ok (.putfield 28, 3) := by decide +kernel
theorem dX3_init_34 : decode cX3_init 34 = .ok (.return_, 1) := by decide +kernel
theorem dX3_enter_0 : decode cX3_enter 0 = .ok (.aload_n 0, 1) := by decide +kernel
theorem dX3_enter_1 : decode cX3_enter 1 = .ok (.iload_n 1, 1) := by decide +kernel
theorem dX3_enter_2 : decode cX3_enter 2 = .ok (.putfield 9, 3) := by decide +kernel
theorem dX3_enter_5 : decode cX3_enter 5 = .ok (.aload_n 0, 1) := by decide +kernel
theorem dX3_enter_6 : decode cX3_enter 6 = .ok (.iconst 0, 1) := by decide +kernel
theorem dX3_enter_7 : decode cX3_enter 7 = .ok (.putfield 15, 3) := by decide +kernel
theorem dX3_enter_10 : decode cX3_enter 10 = .ok (.iload_n 1, 1) := by decide +kernel
theorem dX3_enter_11 : decode cX3_enter 11 = .ok (.ireturn, 1) := by decide +kernel
theorem dX3_begin_0 : decode cX3_begin 0 = .ok (.aload_n 0, 1) := by decide +kernel
theorem dX3_begin_1 : decode cX3_begin 1 = .ok (.iconst 1, 1) := by decide +kernel
theorem dX3_begin_2 : decode cX3_begin 2 = .ok (.putfield 21, 3) := by decide +kernel
theorem dX3_begin_5 : decode cX3_begin 5 = .ok (.aload_n 0, 1) := by decide +kernel
theorem dX3_begin_6 : decode cX3_begin 6 = .ok (.iconst 1, 1) := by decide +kernel
theorem dX3_begin_7 : decode cX3_begin 7 = .ok (.putfield 25, 3) := by decide +kernel
theorem dX3_begin_10 : decode cX3_begin 10 = .ok (.aload_n 0, 1) := by decide +kernel
theorem dX3_begin_11 : decode cX3_begin 11 = .ok (.iconst 1, 1) := by decide +kernel
theorem dX3_begin_12 : decode cX3_begin 12 = .ok (.invokevirtual 31, 3) := by decide +kernel
theorem dX3_begin_15 : decode cX3_begin 15 = .ok (.ireturn, 1) := by decide +kernel
theorem dX3_shutDown_0 : decode cX3_shutDown 0 = .ok (.aload_n 0, 1) := by decide +kernel
theorem dX3_shutDown_1 : decode cX3_shutDown 1 = .ok (.dup, 1) := by decide +kernel
theorem dX3_shutDown_2 : decode cX3_shutDown 2 = .ok (.getfield 18, 3) := by decide +kernel
theorem dX3_shutDown_5 : decode cX3_shutDown 5 = .ok (.iconst 1, 1) := by decide +kernel
theorem dX3_shutDown_6 : decode cX3_shutDown 6 = .ok (.iadd, 1) := by decide +kernel
theorem dX3_shutDown_7 : decode cX3_shutDown 7 = .ok (.putfield 18, 3) := by decide +kernel
theorem dX3_shutDown_10 : decode cX3_shutDown 10 = .ok (.aload_n 0, 1) := by decide +kernel
theorem dX3_shutDown_11 : decode cX3_shutDown 11 = .ok (.iconst 4, 1) := by decide +kernel
theorem dX3_shutDown_12 : decode cX3_shutDown 12 = .ok (.invokevirtual 31, 3) := by decide +kernel
theorem dX3_shutDown_15 : decode cX3_shutDown 15 = .ok (.ireturn, 1) := by decide +kernel
theorem dX3_settle_0 : decode cX3_settle 0 = .ok (.aload_n 0, 1) := by decide +kernel
theorem dX3_settle_1 : decode cX3_settle 1 = .ok (.iconst 0, 1) := by decide +kernel
theorem dX3_settle_2 : decode cX3_settle 2 = .ok (.putfield 28, 3) := by decide +kernel
theorem dX3_settle_5 : decode cX3_settle 5 = .ok (.aload_n 0, 1) := by decide +kernel
theorem dX3_settle_6 : decode cX3_settle 6 = .ok (.iconst 0, 1) := by decide +kernel
theorem dX3_settle_7 : decode cX3_settle 7 = .ok (.invokevirtual 31, 3) := by decide +kernel
theorem dX3_settle_10 : decode cX3_settle 10 = .ok (.ireturn, 1) := by decide +kernel
theorem dX3_passTick_0 : decode cX3_passTick 0 = .ok (.aload_n 0, 1) := by decide +kernel
theorem dX3_passTick_1 : decode cX3_passTick 1 = .ok (.dup, 1) := by decide +kernel
theorem dX3_passTick_2 : decode cX3_passTick 2 = .ok (.getfield 15, 3) := by decide +kernel
theorem dX3_passTick_5 : decode cX3_passTick 5 = .ok (.iconst 1, 1) := by decide +kernel
theorem dX3_passTick_6 : decode cX3_passTick 6 = .ok (.iadd, 1) := by decide +kernel
theorem dX3_passTick_7 : decode cX3_passTick 7 = .ok (.putfield 15, 3) := by decide +kernel
theorem dX3_passTick_10 : decode cX3_passTick 10 = .ok (.aload_n 0, 1) := by decide +kernel
theorem dX3_passTick_11 : decode cX3_passTick 11 = .ok (.getfield 9, 3) := by decide +kernel
theorem dX3_passTick_14 : decode cX3_passTick 14 = .ok (.tableswitch 54 1 4 #[30, 30, 32, 48], 30) := by decide +kernel
theorem dX3_passTick_44 : decode cX3_passTick 44 = .ok (.iconst 1, 1) := by decide +kernel
theorem dX3_passTick_45 : decode cX3_passTick 45 = .ok (.ireturn, 1) := by decide +kernel
theorem dX3_passTick_46 : decode cX3_passTick 46 = .ok (.aload_n 0, 1) := by decide +kernel
theorem dX3_passTick_47 : decode cX3_passTick 47 = .ok (.getfield 15, 3) := by decide +kernel
theorem dX3_passTick_50 : decode cX3_passTick 50 = .ok (.iconst 2, 1) := by decide +kernel
theorem dX3_passTick_51 : decode cX3_passTick 51 = .ok (.irem, 1) := by decide +kernel
theorem dX3_passTick_52 : decode cX3_passTick 52 = .ok (.iconst 1, 1) := by decide +kernel
theorem dX3_passTick_53 : decode cX3_passTick 53 = .ok (.if_icmp .ne 7, 3) := by decide +kernel
theorem dX3_passTick_56 : decode cX3_passTick 56 = .ok (.iconst 1, 1) := by decide +kernel
theorem dX3_passTick_57 : decode cX3_passTick 57 = .ok (.goto 4, 3) := by decide +kernel
theorem dX3_passTick_60 : decode cX3_passTick 60 = .ok (.iconst 0, 1) := by decide +kernel
theorem dX3_passTick_61 : decode cX3_passTick 61 = .ok (.ireturn, 1) := by decide +kernel
theorem dX3_passTick_62 : decode cX3_passTick 62 = .ok (.aload_n 0, 1) := by decide +kernel
theorem dX3_passTick_63 : decode cX3_passTick 63 = .ok (.invokevirtual 35, 3) := by decide +kernel
theorem dX3_passTick_66 : decode cX3_passTick 66 = .ok (.iconst 0, 1) := by decide +kernel
theorem dX3_passTick_67 : decode cX3_passTick 67 = .ok (.ireturn, 1) := by decide +kernel
theorem dX3_passTick_68 : decode cX3_passTick 68 = .ok (.iconst 0, 1) := by decide +kernel
theorem dX3_passTick_69 : decode cX3_passTick 69 = .ok (.ireturn, 1) := by decide +kernel
theorem dX3_moveValve_0 : decode cX3_moveValve 0 = .ok (.aload_n 0, 1) := by decide +kernel
theorem dX3_moveValve_1 : decode cX3_moveValve 1 = .ok (.getfield 15, 3) := by decide +kernel
theorem dX3_moveValve_4 : decode cX3_moveValve 4 = .ok (.tableswitch 52 1 3 #[28, 36, 44], 28) := by decide +kernel
theorem dX3_moveValve_32 : decode cX3_moveValve 32 = .ok (.aload_n 0, 1) := by decide +kernel
theorem dX3_moveValve_33 : decode cX3_moveValve 33 = .ok (.iconst 0, 1) := by decide +kernel
theorem dX3_moveValve_34 : decode cX3_moveValve 34 = .ok (.putfield 21, 3) := by decide +kernel
theorem dX3_moveValve_37 : decode cX3_moveValve 37 = .ok (.goto 19, 3) := by decide +kernel
theorem dX3_moveValve_40 : decode cX3_moveValve 40 = .ok (.aload_n 0, 1) := by decide +kernel
theorem dX3_moveValve_41 : decode cX3_moveValve 41 = .ok (.iconst 0, 1) := by decide +kernel
theorem dX3_moveValve_42 : decode cX3_moveValve 42 = .ok (.putfield 25, 3) := by decide +kernel
theorem dX3_moveValve_45 : decode cX3_moveValve 45 = .ok (.goto 11, 3) := by decide +kernel
theorem dX3_moveValve_48 : decode cX3_moveValve 48 = .ok (.aload_n 0, 1) := by decide +kernel
theorem dX3_moveValve_49 : decode cX3_moveValve 49 = .ok (.iconst 1, 1) := by decide +kernel
theorem dX3_moveValve_50 : decode cX3_moveValve 50 = .ok (.putfield 28, 3) := by decide +kernel
theorem dX3_moveValve_53 : decode cX3_moveValve 53 = .ok (.goto 3, 3) := by decide +kernel
theorem dX3_moveValve_56 : decode cX3_moveValve 56 = .ok (.return_, 1) := by decide +kernel
theorem dX4_init_0 : decode cX4_init 0 = .ok (.aload_n 0, 1) := by decide +kernel
theorem dX4_init_1 : decode cX4_init 1 = .ok (.invokespecial 3, 3) := by decide +kernel
theorem dX4_init_4 : decode cX4_init 4 = .ok (.aload_n 0, 1) := by decide +kernel
theorem dX4_init_5 : decode cX4_init 5 = .ok (.bipush 8, 2) := by decide +kernel
theorem dX4_init_7 : decode cX4_init 7 = .ok (.newarray .int, 2) := by decide +kernel
theorem dX4_init_9 : decode cX4_init 9 = .ok (.putfield 9, 3) := by decide +kernel
theorem dX4_init_12 : decode cX4_init 12 = .ok (.aload_n 0, 1) := by decide +kernel
theorem dX4_init_13 : decode cX4_init 13 = .ok (.bipush 8, 2) := by decide +kernel
theorem dX4_init_15 : decode cX4_init 15 = .ok (.newarray .int, 2) := by decide +kernel
theorem dX4_init_17 : decode cX4_init 17 = .ok (.putfield 15, 3) := by decide +kernel
theorem dX4_init_20 : decode cX4_init 20 = .ok (.aload_n 0, 1) := by decide +kernel
theorem dX4_init_21 : decode cX4_init 21 = .ok (.iconst 4, 1) := by decide +kernel
theorem dX4_init_22 : decode cX4_init 22 = .ok (.bipush 20, 2) := by decide +kernel
theorem dX4_init_24 : decode cX4_init 24 = .ok (.invokevirtual 18, 3) := by decide +kernel
theorem dX4_init_27 : decode cX4_init 27 = .ok (.return_, 1) := by decide +kernel
theorem dX4_rebuild_0 : decode cX4_rebuild 0 = .ok (.aload_n 0, 1) := by decide +kernel
theorem dX4_rebuild_1 : decode cX4_rebuild 1 = .ok (.iload_n 1, 1) := by decide +kernel
theorem dX4_rebuild_2 : decode cX4_rebuild 2 = .ok (.putfield 22, 3) := by decide +kernel
theorem dX4_rebuild_5 : decode cX4_rebuild 5 = .ok (.aload_n 0, 1) := by decide +kernel
theorem dX4_rebuild_6 : decode cX4_rebuild 6 = .ok (.iload_n 2, 1) := by decide +kernel
theorem dX4_rebuild_7 : decode cX4_rebuild 7 = .ok (.putfield 26, 3) := by decide +kernel
theorem dX4_rebuild_10 : decode cX4_rebuild 10 = .ok (.aload_n 0, 1) := by decide +kernel
theorem dX4_rebuild_11 : decode cX4_rebuild 11 = .ok (.getfield 9, 3) := by decide +kernel
theorem dX4_rebuild_14 : decode cX4_rebuild 14 = .ok (.sipush 300, 3) := by decide +kernel
theorem dX4_rebuild_17 : decode cX4_rebuild 17 = .ok (.invokestatic 29, 3) := by decide +kernel
theorem dX4_rebuild_20 : decode cX4_rebuild 20 = .ok (.aload_n 0, 1) := by decide +kernel
theorem dX4_rebuild_21 : decode cX4_rebuild 21 = .ok (.getfield 15, 3) := by decide +kernel
theorem dX4_rebuild_24 : decode cX4_rebuild 24 = .ok (.sipush 300, 3) := by decide +kernel
theorem dX4_rebuild_27 : decode cX4_rebuild 27 = .ok (.invokestatic 29, 3) := by decide +kernel
theorem dX4_rebuild_30 : decode cX4_rebuild 30 = .ok (.aload_n 0, 1) := by decide +kernel
theorem dX4_rebuild_31 : decode cX4_rebuild 31 = .ok (.lconst 0, 1) := by decide +kernel
theorem dX4_rebuild_32 : decode cX4_rebuild 32 = .ok (.putfield 35, 3) := by decide +kernel
theorem dX4_rebuild_35 : decode cX4_rebuild 35 = .ok (.aload_n 0, 1) := by decide +kernel
theorem dX4_rebuild_36 : decode cX4_rebuild 36 = .ok (.lconst 0, 1) := by decide +kernel
theorem dX4_rebuild_37 : decode cX4_rebuild 37 = .ok (.putfield 39, 3) := by decide +kernel
theorem dX4_rebuild_40 : decode cX4_rebuild 40 = .ok (.aload_n 0, 1) := by decide +kernel
theorem dX4_rebuild_41 : decode cX4_rebuild 41 = .ok (.lconst 0, 1) := by decide +kernel
theorem dX4_rebuild_42 : decode cX4_rebuild 42 = .ok (.putfield 42, 3) := by decide +kernel
theorem dX4_rebuild_45 : decode cX4_rebuild 45 = .ok (.aload_n 0, 1) := by decide +kernel
theorem dX4_rebuild_46 : decode cX4_rebuild 46 = .ok (.lconst 0, 1) := by decide +kernel
theorem dX4_rebuild_47 : decode cX4_rebuild 47 = .ok (.putfield 45, 3) := by decide +kernel
theorem dX4_rebuild_50 : decode cX4_rebuild 50 = .ok (.return_, 1) := by decide +kernel
theorem dX4_pass_0 : decode cX4_pass 0 = .ok (.aload_n 0, 1) := by decide +kernel
theorem dX4_pass_1 : decode cX4_pass 1 = .ok (.invokevirtual 48, 3) := by decide +kernel
theorem dX4_pass_4 : decode cX4_pass 4 = .ok (.aload_n 0, 1) := by decide +kernel
theorem dX4_pass_5 : decode cX4_pass 5 = .ok (.getfield 9, 3) := by decide +kernel
theorem dX4_pass_8 : decode cX4_pass 8 = .ok (.aload_n 0, 1) := by decide +kernel
theorem dX4_pass_9 : decode cX4_pass 9 = .ok (.getfield 22, 3) := by decide +kernel
theorem dX4_pass_12 : decode cX4_pass 12 = .ok (.iconst 1, 1) := by decide +kernel
theorem dX4_pass_13 : decode cX4_pass 13 = .ok (.isub, 1) := by decide +kernel
theorem dX4_pass_14 : decode cX4_pass 14 = .ok (.iaload, 1) := by decide +kernel
theorem dX4_pass_15 : decode cX4_pass 15 = .ok (.istore_n 3, 1) := by decide +kernel
theorem dX4_pass_16 : decode cX4_pass 16 = .ok (.iload_n 3, 1) := by decide +kernel
theorem dX4_pass_17 : decode cX4_pass 17 = .ok (.iload_n 2, 1) := by decide +kernel
theorem dX4_pass_18 : decode cX4_pass 18 = .ok (.isub, 1) := by decide +kernel
theorem dX4_pass_19 : decode cX4_pass 19 = .ok (.istore 4, 2) := by decide +kernel
theorem dX4_pass_21 : decode cX4_pass 21 = .ok (.iload 4, 2) := by decide +kernel
theorem dX4_pass_23 : decode cX4_pass 23 = .ok (.bipush 80, 2) := by decide +kernel
theorem dX4_pass_25 : decode cX4_pass 25 = .ok (.invokestatic 51, 3) := by decide +kernel
theorem dX4_pass_28 : decode cX4_pass 28 = .ok (.istore 5, 2) := by decide +kernel
theorem dX4_pass_30 : decode cX4_pass 30 = .ok (.aload_n 0, 1) := by decide +kernel
theorem dX4_pass_31 : decode cX4_pass 31 = .ok (.dup, 1) := by decide +kernel
theorem dX4_pass_32 : decode cX4_pass 32 = .ok (.getfield 35, 3) := by decide +kernel
theorem dX4_pass_35 : decode cX4_pass 35 = .ok (.iload_n 1, 1) := by decide +kernel
theorem dX4_pass_36 : decode cX4_pass 36 = .ok (.i2l, 1) := by decide +kernel
theorem dX4_pass_37 : decode cX4_pass 37 = .ok (.ladd, 1) := by decide +kernel
theorem dX4_pass_38 : decode cX4_pass 38 = .ok (.putfield 35, 3) := by decide +kernel
theorem dX4_pass_41 : decode cX4_pass 41 = .ok (.aload_n 0, 1) := by decide +kernel
theorem dX4_pass_42 : decode cX4_pass 42 = .ok (.dup, 1) := by decide +kernel
theorem dX4_pass_43 : decode cX4_pass 43 = .ok (.getfield 39, 3) := by decide +kernel
theorem dX4_pass_46 : decode cX4_pass 46 = .ok (.aload_n 0, 1) := by decide +kernel
theorem dX4_pass_47 : decode cX4_pass 47 = .ok (.getfield 15, 3) := by decide +kernel
theorem dX4_pass_50 : decode cX4_pass 50 = .ok (.iconst 0, 1) := by decide +kernel
theorem dX4_pass_51 : decode cX4_pass 51 = .ok (.iaload, 1) := by decide +kernel
theorem dX4_pass_52 : decode cX4_pass 52 = .ok (.i2l, 1) := by decide +kernel
theorem dX4_pass_53 : decode cX4_pass 53 = .ok (.ladd, 1) := by decide +kernel
theorem dX4_pass_54 : decode cX4_pass 54 = .ok (.putfield 39, 3) := by decide +kernel
theorem dX4_pass_57 : decode cX4_pass 57 = .ok (.aload_n 0, 1) := by decide +kernel
theorem dX4_pass_58 : decode cX4_pass 58 = .ok (.dup, 1) := by decide +kernel
theorem dX4_pass_59 : decode cX4_pass 59 = .ok (.getfield 42, 3) := by decide +kernel
theorem dX4_pass_62 : decode cX4_pass 62 = .ok (.iload_n 3, 1) := by decide +kernel
theorem dX4_pass_63 : decode cX4_pass 63 = .ok (.iload 5, 2) := by decide +kernel
theorem dX4_pass_65 : decode cX4_pass 65 = .ok (.isub, 1) := by decide +kernel
theorem dX4_pass_66 : decode cX4_pass 66 = .ok (.i2l, 1) := by decide +kernel
theorem dX4_pass_67 : decode cX4_pass 67 = .ok (.ladd, 1) := by decide +kernel
theorem dX4_pass_68 : decode cX4_pass 68 = .ok (.putfield 42, 3) := by decide +kernel
theorem dX4_pass_71 : decode cX4_pass 71 = .ok (.aload_n 0, 1) := by decide +kernel
theorem dX4_pass_72 : decode cX4_pass 72 = .ok (.dup, 1) := by decide +kernel
theorem dX4_pass_73 : decode cX4_pass 73 = .ok (.getfield 45, 3) := by decide +kernel
theorem dX4_pass_76 : decode cX4_pass 76 = .ok (.lconst 1, 1) := by decide +kernel
theorem dX4_pass_77 : decode cX4_pass 77 = .ok (.ladd, 1) := by decide +kernel
theorem dX4_pass_78 : decode cX4_pass 78 = .ok (.putfield 45, 3) := by decide +kernel
theorem dX4_pass_81 : decode cX4_pass 81 = .ok (.aload_n 0, 1) := by decide +kernel
theorem dX4_pass_82 : decode cX4_pass 82 = .ok (.iload_n 1, 1) := by decide +kernel
theorem dX4_pass_83 : decode cX4_pass 83 = .ok (.iload 5, 2) := by decide +kernel
theorem dX4_pass_85 : decode cX4_pass 85 = .ok (.invokevirtual 57, 3) := by decide +kernel
theorem dX4_pass_88 : decode cX4_pass 88 = .ok (.iload 5, 2) := by decide +kernel
theorem dX4_pass_90 : decode cX4_pass 90 = .ok (.iload 4, 2) := by decide +kernel
theorem dX4_pass_92 : decode cX4_pass 92 = .ok (.isub, 1) := by decide +kernel
theorem dX4_pass_93 : decode cX4_pass 93 = .ok (.iconst 5, 1) := by decide +kernel
theorem dX4_pass_94 : decode cX4_pass 94 = .ok (.idiv, 1) := by decide +kernel
theorem dX4_pass_95 : decode cX4_pass 95 = .ok (.bipush 20, 2) := by decide +kernel
theorem dX4_pass_97 : decode cX4_pass 97 = .ok (.invokestatic 60, 3) := by decide +kernel
theorem dX4_pass_100 : decode cX4_pass 100 = .ok (.ireturn, 1) := by decide +kernel
theorem dX4_exchange_0 : decode cX4_exchange 0 = .ok (.iconst 0, 1) := by decide +kernel
theorem dX4_exchange_1 : decode cX4_exchange 1 = .ok (.istore_n 1, 1) := by decide +kernel
theorem dX4_exchange_2 : decode cX4_exchange 2 = .ok (.iload_n 1, 1) := by decide +kernel
theorem dX4_exchange_3 : decode cX4_exchange 3 = .ok (.aload_n 0, 1) := by decide +kernel
theorem dX4_exchange_4 : decode cX4_exchange 4 = .ok (.getfield 22, 3) := by decide +kernel
theorem dX4_exchange_7 : decode cX4_exchange 7 = .ok (.if_icmp .ge 51, 3) := by decide +kernel
theorem dX4_exchange_10 : decode cX4_exchange 10 = .ok (.aload_n 0, 1) := by decide +kernel
theorem dX4_exchange_11 : decode cX4_exchange 11 = .ok (.getfield 9, 3) := by decide +kernel
theorem dX4_exchange_14 : decode cX4_exchange 14 = .ok (.iload_n 1, 1) := by decide +kernel
theorem dX4_exchange_15 : decode cX4_exchange 15 = .ok (.iaload, 1) := by decide +kernel
theorem dX4_exchange_16 : decode cX4_exchange 16 = .ok (.aload_n 0, 1) := by decide +kernel
theorem dX4_exchange_17 : decode cX4_exchange 17 = .ok (.getfield 15, 3) := by decide +kernel
theorem dX4_exchange_20 : decode cX4_exchange 20 = .ok (.iload_n 1, 1) := by decide +kernel
theorem dX4_exchange_21 : decode cX4_exchange 21 = .ok (.iaload, 1) := by decide +kernel
theorem dX4_exchange_22 : decode cX4_exchange 22 = .ok (.isub, 1) := by decide +kernel
theorem dX4_exchange_23 : decode cX4_exchange 23 = .ok (.aload_n 0, 1) := by decide +kernel
theorem dX4_exchange_24 : decode cX4_exchange 24 = .ok (.getfield 26, 3) := by decide +kernel
theorem dX4_exchange_27 : decode cX4_exchange 27 = .ok (.imul, 1) := by decide +kernel
theorem dX4_exchange_28 : decode cX4_exchange 28 = .ok (.bipush 100, 2) := by decide +kernel
theorem dX4_exchange_30 : decode cX4_exchange 30 = .ok (.idiv, 1) := by decide +kernel
theorem dX4_exchange_31 : decode cX4_exchange 31 = .ok (.istore_n 2, 1) := by decide +kernel
theorem dX4_exchange_32 : decode cX4_exchange 32 = .ok (.aload_n 0, 1) := by decide +kernel
theorem dX4_exchange_33 : decode cX4_exchange 33 = .ok (.getfield 9, 3) := by decide +kernel
theorem dX4_exchange_36 : decode cX4_exchange 36 = .ok (.iload_n 1, 1) := by decide +kernel
theorem dX4_exchange_37 : decode cX4_exchange 37 = .ok (.dup2, 1) := by decide +kernel
theorem dX4_exchange_38 : decode cX4_exchange 38 = .ok (.iaload, 1) := by decide +kernel
theorem dX4_exchange_39 : decode cX4_exchange 39 = .ok (.iload_n 2, 1) := by decide +kernel
theorem dX4_exchange_40 : decode cX4_exchange 40 = .ok (.isub, 1) := by decide +kernel
theorem dX4_exchange_41 : decode cX4_exchange 41 = .ok (.iastore, 1) := by decide +kernel
theorem dX4_exchange_42 : decode cX4_exchange 42 = .ok (.aload_n 0, 1) := by decide +kernel
theorem dX4_exchange_43 : decode cX4_exchange 43 = .ok (.getfield 15, 3) := by decide +kernel
theorem dX4_exchange_46 : decode cX4_exchange 46 = .ok (.iload_n 1, 1) := by decide +kernel
theorem dX4_exchange_47 : decode cX4_exchange 47 = .ok (.dup2, 1) := by decide +kernel
theorem dX4_exchange_48 : decode cX4_exchange 48 = .ok (.iaload, 1) := by decide +kernel
theorem dX4_exchange_49 : decode cX4_exchange 49 = .ok (.iload_n 2, 1) := by decide +kernel
theorem dX4_exchange_50 : decode cX4_exchange 50 = .ok (.iadd, 1) := by decide +kernel
theorem dX4_exchange_51 : decode cX4_exchange 51 = .ok (.iastore, 1) := by decide +kernel
theorem dX4_exchange_52 : decode cX4_exchange 52 = .ok (.iinc 1 1, 3) := by decide +kernel
theorem dX4_exchange_55 : decode cX4_exchange 55 = .ok (.goto (-53), 3) := by decide +kernel
theorem dX4_exchange_58 : decode cX4_exchange 58 = .ok (.return_, 1) := by decide +kernel
theorem dX4_moveOn_0 : decode cX4_moveOn 0 = .ok (.aload_n 0, 1) := by decide +kernel
theorem dX4_moveOn_1 : decode cX4_moveOn 1 = .ok (.getfield 9, 3) := by decide +kernel
theorem dX4_moveOn_4 : decode cX4_moveOn 4 = .ok (.iconst 0, 1) := by decide +kernel
theorem dX4_moveOn_5 : decode cX4_moveOn 5 = .ok (.aload_n 0, 1) := by decide +kernel
theorem dX4_moveOn_6 : decode cX4_moveOn 6 = .ok (.getfield 9, 3) := by decide +kernel
theorem dX4_moveOn_9 : decode cX4_moveOn 9 = .ok (.iconst 1, 1) := by decide +kernel
theorem dX4_moveOn_10 : decode cX4_moveOn 10 = .ok (.aload_n 0, 1) := by decide +kernel
theorem dX4_moveOn_11 : decode cX4_moveOn 11 = .ok (.getfield 22, 3) := by decide +kernel
theorem dX4_moveOn_14 : decode cX4_moveOn 14 = .ok (.iconst 1, 1) := by decide +kernel
theorem dX4_moveOn_15 : decode cX4_moveOn 15 = .ok (.isub, 1) := by decide +kernel
theorem dX4_moveOn_16 : decode cX4_moveOn 16 = .ok (.invokestatic 63, 3) := by decide +kernel
theorem dX4_moveOn_19 : decode cX4_moveOn 19 = .ok (.aload_n 0, 1) := by decide +kernel
theorem dX4_moveOn_20 : decode cX4_moveOn 20 = .ok (.getfield 9, 3) := by decide +kernel
theorem dX4_moveOn_23 : decode cX4_moveOn 23 = .ok (.iconst 0, 1) := by decide +kernel
theorem dX4_moveOn_24 : decode cX4_moveOn 24 = .ok (.iload_n 1, 1) := by decide +kernel
theorem dX4_moveOn_25 : decode cX4_moveOn 25 = .ok (.iastore, 1) := by decide +kernel
theorem dX4_moveOn_26 : decode cX4_moveOn 26 = .ok (.aload_n 0, 1) := by decide +kernel
theorem dX4_moveOn_27 : decode cX4_moveOn 27 = .ok (.getfield 15, 3) := by decide +kernel
theorem dX4_moveOn_30 : decode cX4_moveOn 30 = .ok (.iconst 1, 1) := by decide +kernel
theorem dX4_moveOn_31 : decode cX4_moveOn 31 = .ok (.aload_n 0, 1) := by decide +kernel
theorem dX4_moveOn_32 : decode cX4_moveOn 32 = .ok (.getfield 15, 3) := by decide +kernel
theorem dX4_moveOn_35 : decode cX4_moveOn 35 = .ok (.iconst 0, 1) := by decide +kernel
theorem dX4_moveOn_36 : decode cX4_moveOn 36 = .ok (.aload_n 0, 1) := by decide +kernel
theorem dX4_moveOn_37 : decode cX4_moveOn 37 = .ok (.getfield 22, 3) := by decide +kernel
theorem dX4_moveOn_40 : decode cX4_moveOn 40 = .ok (.iconst 1, 1) := by decide +kernel
theorem dX4_moveOn_41 : decode cX4_moveOn 41 = .ok (.isub, 1) := by decide +kernel
theorem dX4_moveOn_42 : decode cX4_moveOn 42 = .ok (.invokestatic 63, 3) := by decide +kernel
theorem dX4_moveOn_45 : decode cX4_moveOn 45 = .ok (.aload_n 0, 1) := by decide +kernel
theorem dX4_moveOn_46 : decode cX4_moveOn 46 = .ok (.getfield 15, 3) := by decide +kernel
theorem dX4_moveOn_49 : decode cX4_moveOn 49 = .ok (.aload_n 0, 1) := by decide +kernel
theorem dX4_moveOn_50 : decode cX4_moveOn 50 = .ok (.getfield 22, 3) := by decide +kernel
theorem dX4_moveOn_53 : decode cX4_moveOn 53 = .ok (.iconst 1, 1) := by decide +kernel
theorem dX4_moveOn_54 : decode cX4_moveOn 54 = .ok (.isub, 1) := by decide +kernel
theorem dX4_moveOn_55 : decode cX4_moveOn 55 = .ok (.iload_n 2, 1) := by decide +kernel
theorem dX4_moveOn_56 : decode cX4_moveOn 56 = .ok (.iastore, 1) := by decide +kernel
theorem dX4_moveOn_57 : decode cX4_moveOn 57 = .ok (.return_, 1) := by decide +kernel
theorem dX5_init_0 : decode cX5_init 0 = .ok (.aload_n 0, 1) := by decide +kernel
theorem dX5_init_1 : decode cX5_init 1 = .ok (.invokespecial 3, 3) := by decide +kernel
theorem dX5_init_4 : decode cX5_init 4 = .ok (.aload_n 0, 1) := by decide +kernel
theorem dX5_init_5 : decode cX5_init 5 = .ok (.bipush 8, 2) := by decide +kernel
theorem dX5_init_7 : decode cX5_init 7 = .ok (.newarray .int, 2) := by decide +kernel
theorem dX5_init_9 : decode cX5_init 9 = .ok (.putfield 11, 3) := by decide +kernel
theorem dX5_init_12 : decode cX5_init 12 = .ok (.aload_n 0, 1) := by decide +kernel
theorem dX5_init_13 : decode cX5_init 13 = .ok (.bipush 8, 2) := by decide +kernel
theorem dX5_init_15 : decode cX5_init 15 = .ok (.newarray .int, 2) := by decide +kernel
theorem dX5_init_17 : decode cX5_init 17 = .ok (.putfield 15, 3) := by decide +kernel
theorem dX5_init_20 : decode cX5_init 20 = .ok (.aload_n 0, 1) := by decide +kernel
theorem dX5_init_21 : decode cX5_init 21 = .ok (.bipush 8, 2) := by decide +kernel
theorem dX5_init_23 : decode cX5_init 23 = .ok (.newarray .int, 2) := by decide +kernel
theorem dX5_init_25 : decode cX5_init 25 = .ok (.putfield 18, 3) := by decide +kernel
theorem dX5_init_28 : decode cX5_init 28 = .ok (.aload_n 0, 1) := by decide +kernel
theorem dX5_init_29 : decode cX5_init 29 = .ok (.iconst 0, 1) := by decide +kernel
theorem dX5_init_30 : decode cX5_init 30 = .ok (.putfield 21, 3) := by decide +kernel
theorem dX5_init_33 : decode cX5_init 33 = .ok (.aload_n 0, 1) := by decide +kernel
theorem dX5_init_34 : decode cX5_init 34 = .ok (.iconst 0, 1) := by decide +kernel
theorem dX5_init_35 : decode cX5_init 35 = .ok (.putfield 25, 3) := by decide +kernel
theorem dX5_init_38 : decode cX5_init 38 = .ok (.aload_n 0, 1) := by decide +kernel
theorem dX5_init_39 : decode cX5_init 39 = .ok (.iconst 0, 1) := by decide +kernel
theorem dX5_init_40 : decode cX5_init 40 = .ok (.putfield 28, 3) := by decide +kernel
theorem dX5_init_43 : decode cX5_init 43 = .ok (.return_, 1) := by decide +kernel
theorem dX5_accept_0 : decode cX5_accept 0 = .ok (.aload_n 0, 1) := by decide +kernel
theorem dX5_accept_1 : decode cX5_accept 1 = .ok (.getfield 21, 3) := by decide +kernel
theorem dX5_accept_4 : decode cX5_accept 4 = .ok (.bipush 8, 2) := by decide +kernel
theorem dX5_accept_6 : decode cX5_accept 6 = .ok (.if_icmp .lt 6, 3) := by decide +kernel
theorem dX5_accept_9 : decode cX5_accept 9 = .ok (.bipush (-3), 2) := by decide +kernel
theorem dX5_accept_11 : decode cX5_accept 11 = .ok (.ireturn, 1) := by decide +kernel
theorem dX5_accept_12 : decode cX5_accept 12 = .ok (.aload_n 0, 1) := by decide +kernel
theorem dX5_accept_13 : decode cX5_accept 13 = .ok (.getfield 11, 3) := by decide +kernel
theorem dX5_accept_16 : decode cX5_accept 16 = .ok (.aload_n 0, 1) := by decide +kernel
theorem dX5_accept_17 : decode cX5_accept 17 = .ok (.getfield 21, 3) := by decide +kernel
theorem dX5_accept_20 : decode cX5_accept 20 = .ok (.iload_n 1, 1) := by decide +kernel
theorem dX5_accept_21 : decode cX5_accept 21 = .ok (.iastore, 1) := by decide +kernel
theorem dX5_accept_22 : decode cX5_accept 22 = .ok (.aload_n 0, 1) := by decide +kernel
theorem dX5_accept_23 : decode cX5_accept 23 = .ok (.getfield 15, 3) := by decide +kernel
theorem dX5_accept_26 : decode cX5_accept 26 = .ok (.aload_n 0, 1) := by decide +kernel
theorem dX5_accept_27 : decode cX5_accept 27 = .ok (.getfield 21, 3) := by decide +kernel
theorem dX5_accept_30 : decode cX5_accept 30 = .ok (.iload_n 2, 1) := by decide +kernel
theorem dX5_accept_31 : decode cX5_accept 31 = .ok (.iastore, 1) := by decide +kernel
theorem dX5_accept_32 : decode cX5_accept 32 = .ok (.aload_n 0, 1) := by decide +kernel
theorem dX5_accept_33 : decode cX5_accept 33 = .ok (.getfield 18, 3) := by decide +kernel
theorem dX5_accept_36 : decode cX5_accept 36 = .ok (.aload_n 0, 1) := by decide +kernel
theorem dX5_accept_37 : decode cX5_accept 37 = .ok (.getfield 21, 3) := by decide +kernel
theorem dX5_accept_40 : decode cX5_accept 40 = .ok (.iconst 0, 1) := by decide +kernel
theorem dX5_accept_41 : decode cX5_accept 41 = .ok (.iastore, 1) := by decide +kernel
theorem dX5_accept_42 : decode cX5_accept 42 = .ok (.aload_n 0, 1) := by decide +kernel
theorem dX5_accept_43 : decode cX5_accept 43 = .ok (.dup, 1) := by decide +kernel
theorem dX5_accept_44 : decode cX5_accept 44 = .ok (.getfield 21, 3) := by decide +kernel
theorem dX5_accept_47 : decode cX5_accept 47 = .ok (.iconst 1, 1) := by decide +kernel
theorem dX5_accept_48 : decode cX5_accept 48 = .ok (.iadd, 1) := by decide +kernel
theorem dX5_accept_49 : decode cX5_accept 49 = .ok (.putfield 21, 3) := by decide +kernel
theorem dX5_accept_52 : decode cX5_accept 52 = .ok (.aload_n 0, 1) := by decide +kernel
theorem dX5_accept_53 : decode cX5_accept 53 = .ok (.getfield 21, 3) := by decide +kernel
theorem dX5_accept_56 : decode cX5_accept 56 = .ok (.iconst 1, 1) := by decide +kernel
theorem dX5_accept_57 : decode cX5_accept 57 = .ok (.isub, 1) := by decide +kernel
theorem dX5_accept_58 : decode cX5_accept 58 = .ok (.ireturn, 1) := by decide +kernel
theorem dX5_endDay_0 : decode cX5_endDay 0 = .ok (.iconst 0, 1) := by decide +kernel
theorem dX5_endDay_1 : decode cX5_endDay 1 = .ok (.istore_n 2, 1) := by decide +kernel
theorem dX5_endDay_2 : decode cX5_endDay 2 = .ok (.iconst 0, 1) := by decide +kernel
theorem dX5_endDay_3 : decode cX5_endDay 3 = .ok (.istore_n 3, 1) := by decide +kernel
theorem dX5_endDay_4 : decode cX5_endDay 4 = .ok (.iload_n 3, 1) := by decide +kernel
theorem dX5_endDay_5 : decode cX5_endDay 5 = .ok (.aload_n 0, 1) := by decide +kernel
theorem dX5_endDay_6 : decode cX5_endDay 6 = .ok (.getfield 21, 3) := by decide +kernel
theorem dX5_endDay_9 : decode cX5_endDay 9 = .ok (.if_icmp .ge 31, 3) := by decide +kernel
theorem dX5_endDay_12 : decode cX5_endDay 12 = .ok (.aload_n 0, 1) := by decide +kernel
theorem dX5_endDay_13 : decode cX5_endDay 13 = .ok (.getfield 15, 3) := by decide +kernel
theorem dX5_endDay_16 : decode cX5_endDay 16 = .ok (.iload_n 3, 1) := by decide +kernel
theorem dX5_endDay_17 : decode cX5_endDay 17 = .ok (.iaload, 1) := by decide +kernel
theorem dX5_endDay_18 : decode cX5_endDay 18 = .ok (.aload_n 0, 1) := by decide +kernel
theorem dX5_endDay_19 : decode cX5_endDay 19 = .ok (.getfield 25, 3) := by decide +kernel
theorem dX5_endDay_22 : decode cX5_endDay 22 = .ok (.if_icmp .ne 12, 3) := by decide +kernel
theorem dX5_endDay_25 : decode cX5_endDay 25 = .ok (.iload_n 2, 1) := by decide +kernel
theorem dX5_endDay_26 : decode cX5_endDay 26 = .ok (.aload_n 0, 1) := by decide +kernel
theorem dX5_endDay_27 : decode cX5_endDay 27 = .ok (.iload_n 3, 1) := by decide +kernel
theorem dX5_endDay_28 : decode cX5_endDay 28 = .ok (.aload_n 1, 1) := by decide +kernel
theorem dX5_endDay_29 : decode cX5_endDay 29 = .ok (.invokevirtual 31, 3) := by decide +kernel
theorem dX5_endDay_32 : decode cX5_endDay 32 = .ok (.iadd, 1) := by decide +kernel
theorem dX5_endDay_33 : decode cX5_endDay 33 = .ok (.istore_n 2, 1) := by decide +kernel
theorem dX5_endDay_34 : decode cX5_endDay 34 = .ok (.iinc 3 1, 3) := by decide +kernel
theorem dX5_endDay_37 : decode cX5_endDay 37 = .ok (.goto (-33), 3) := by decide +kernel
theorem dX5_endDay_40 : decode cX5_endDay 40 = .ok (.aload_n 0, 1) := by decide +kernel
theorem dX5_endDay_41 : decode cX5_endDay 41 = .ok (.dup, 1) := by decide +kernel
theorem dX5_endDay_42 : decode cX5_endDay 42 = .ok (.getfield 25, 3) := by decide +kernel
theorem dX5_endDay_45 : decode cX5_endDay 45 = .ok (.iconst 1, 1) := by decide +kernel
theorem dX5_endDay_46 : decode cX5_endDay 46 = .ok (.iadd, 1) := by decide +kernel
theorem dX5_endDay_47 : decode cX5_endDay 47 = .ok (.putfield 25, 3) := by decide +kernel
theorem dX5_endDay_50 : decode cX5_endDay 50 = .ok (.iload_n 2, 1) := by decide +kernel
theorem dX5_endDay_51 : decode cX5_endDay 51 = .ok (.ireturn, 1) := by decide +kernel
theorem dX5_settle_0 : decode cX5_settle 0 = .ok (.aload_n 2, 1) := by decide +kernel
theorem dX5_settle_1 : decode cX5_settle 1 = .ok (.aload_n 0, 1) := by decide +kernel
theorem dX5_settle_2 : decode cX5_settle 2 = .ok (.getfield 11, 3) := by decide +kernel
theorem dX5_settle_5 : decode cX5_settle 5 = .ok (.iload_n 1, 1) := by decide +kernel
theorem dX5_settle_6 : decode cX5_settle 6 = .ok (.iaload, 1) := by decide +kernel
theorem dX5_settle_7 : decode cX5_settle 7 = .ok (.invokevirtual 35, 3) := by decide +kernel
theorem dX5_settle_10 : decode cX5_settle 10 = .ok (.ifCond .eq 12, 3) := by decide +kernel
theorem dX5_settle_13 : decode cX5_settle 13 = .ok (.aload_n 0, 1) := by decide +kernel
theorem dX5_settle_14 : decode cX5_settle 14 = .ok (.getfield 18, 3) := by decide +kernel
theorem dX5_settle_17 : decode cX5_settle 17 = .ok (.iload_n 1, 1) := by decide +kernel
theorem dX5_settle_18 : decode cX5_settle 18 = .ok (.iconst 1, 1) := by decide +kernel
theorem dX5_settle_19 : decode cX5_settle 19 = .ok (.iastore, 1) := by decide +kernel
theorem dX5_settle_20 : decode cX5_settle 20 = .ok (.iconst 1, 1) := by decide +kernel
theorem dX5_settle_21 : decode cX5_settle 21 = .ok (.ireturn, 1) := by decide +kernel
theorem dX5_settle_22 : decode cX5_settle 22 = .ok (.aload_n 0, 1) := by decide +kernel
theorem dX5_settle_23 : decode cX5_settle 23 = .ok (.getfield 18, 3) := by decide +kernel
theorem dX5_settle_26 : decode cX5_settle 26 = .ok (.iload_n 1, 1) := by decide +kernel
theorem dX5_settle_27 : decode cX5_settle 27 = .ok (.iconst 2, 1) := by decide +kernel
theorem dX5_settle_28 : decode cX5_settle 28 = .ok (.iastore, 1) := by decide +kernel
theorem dX5_settle_29 : decode cX5_settle 29 = .ok (.aload_n 0, 1) := by decide +kernel
theorem dX5_settle_30 : decode cX5_settle 30 = .ok (.dup, 1) := by decide +kernel
theorem dX5_settle_31 : decode cX5_settle 31 = .ok (.getfield 28, 3) := by decide +kernel
theorem dX5_settle_34 : decode cX5_settle 34 = .ok (.iconst 1, 1) := by decide +kernel
theorem dX5_settle_35 : decode cX5_settle 35 = .ok (.iadd, 1) := by decide +kernel
theorem dX5_settle_36 : decode cX5_settle 36 = .ok (.putfield 28, 3) := by decide +kernel
theorem dX5_settle_39 : decode cX5_settle 39 = .ok (.iconst 0, 1) := by decide +kernel
theorem dX5_settle_40 : decode cX5_settle 40 = .ok (.ireturn, 1) := by decide +kernel
theorem dX5_tell_0 : decode cX5_tell 0 = .ok (.iload_n 1, 1) := by decide +kernel
theorem dX5_tell_1 : decode cX5_tell 1 = .ok (.ifCond .lt 11, 3) := by decide +kernel
theorem dX5_tell_4 : decode cX5_tell 4 = .ok (.iload_n 1, 1) := by decide +kernel
theorem dX5_tell_5 : decode cX5_tell 5 = .ok (.aload_n 0, 1) := by decide +kernel
theorem dX5_tell_6 : decode cX5_tell 6 = .ok (.getfield 21, 3) := by decide +kernel
theorem dX5_tell_9 : decode cX5_tell 9 = .ok (.if_icmp .lt 5, 3) := by decide +kernel
theorem dX5_tell_12 : decode cX5_tell 12 = .ok (.iconst (-1), 1) := by decide +kernel
theorem dX5_tell_13 : decode cX5_tell 13 = .ok (.ireturn, 1) := by decide +kernel
theorem dX5_tell_14 : decode cX5_tell 14 = .ok (.iload_n 2, 1) := by decide +kernel
theorem dX5_tell_15 : decode cX5_tell 15 = .ok (.tableswitch 46 0 2 #[25, 32, 39], 25) := by decide +kernel
theorem dX5_tell_40 : decode cX5_tell 40 = .ok (.aload_n 0, 1) := by decide +kernel
theorem dX5_tell_41 : decode cX5_tell 41 = .ok (.getfield 11, 3) := by decide +kernel
theorem dX5_tell_44 : decode cX5_tell 44 = .ok (.iload_n 1, 1) := by decide +kernel
theorem dX5_tell_45 : decode cX5_tell 45 = .ok (.iaload, 1) := by decide +kernel
theorem dX5_tell_46 : decode cX5_tell 46 = .ok (.ireturn, 1) := by decide +kernel
theorem dX5_tell_47 : decode cX5_tell 47 = .ok (.aload_n 0, 1) := by decide +kernel
theorem dX5_tell_48 : decode cX5_tell 48 = .ok (.getfield 15, 3) := by decide +kernel
theorem dX5_tell_51 : decode cX5_tell 51 = .ok (.iload_n 1, 1) := by decide +kernel
theorem dX5_tell_52 : decode cX5_tell 52 = .ok (.iaload, 1) := by decide +kernel
theorem dX5_tell_53 : decode cX5_tell 53 = .ok (.ireturn, 1) := by decide +kernel
theorem dX5_tell_54 : decode cX5_tell 54 = .ok (.aload_n 0, 1) := by decide +kernel
theorem dX5_tell_55 : decode cX5_tell 55 = .ok (.getfield 18, 3) := by decide +kernel
theorem dX5_tell_58 : decode cX5_tell 58 = .ok (.iload_n 1, 1) := by decide +kernel
theorem dX5_tell_59 : decode cX5_tell 59 = .ok (.iaload, 1) := by decide +kernel
theorem dX5_tell_60 : decode cX5_tell 60 = .ok (.ireturn, 1) := by decide +kernel
theorem dX5_tell_61 : decode cX5_tell 61 = .ok (.iconst (-1), 1) := by decide +kernel
theorem dX5_tell_62 : decode cX5_tell 62 = .ok (.ireturn, 1) := by decide +kernel
theorem dX6_init_0 : decode cX6_init 0 = .ok (.aload_n 0, 1) := by decide +kernel
theorem dX6_init_1 : decode cX6_init 1 = .ok (.invokespecial 3, 3) := by decide +kernel
theorem dX6_init_4 : decode cX6_init 4 = .ok (.aload_n 0, 1) := by decide +kernel
theorem dX6_init_5 : decode cX6_init 5 = .ok (.sipush 500, 3) := by decide +kernel
theorem dX6_init_8 : decode cX6_init 8 = .ok (.putfield 9, 3) := by decide +kernel
theorem dX6_init_11 : decode cX6_init 11 = .ok (.aload_n 0, 1) := by decide +kernel
theorem dX6_init_12 : decode cX6_init 12 = .ok (.iconst 0, 1) := by decide +kernel
theorem dX6_init_13 : decode cX6_init 13 = .ok (.putfield 15, 3) := by decide +kernel
theorem dX6_init_16 : decode cX6_init 16 = .ok (.aload_n 0, 1) := by decide +kernel
theorem dX6_init_17 : decode cX6_init 17 = .ok (.iconst 0, 1) := by decide +kernel
theorem dX6_init_18 : decode cX6_init 18 = .ok (.putfield 18, 3) := by decide +kernel
theorem dX6_init_21 : decode cX6_init 21 = .ok (.aload_n 0, 1) := by decide +kernel
theorem dX6_init_22 : decode cX6_init 22 = .ok (.lconst 0, 1) := by decide +kernel
theorem dX6_init_23 : decode cX6_init 23 = .ok (.putfield 21, 3) := by decide +kernel
theorem dX6_init_26 : decode cX6_init 26 = .ok (.aload_n 0, 1) := by decide +kernel
theorem dX6_init_27 : decode cX6_init 27 = .ok (.lconst 0, 1) := by decide +kernel
theorem dX6_init_28 : decode cX6_init 28 = .ok (.putfield 25, 3) := by decide +kernel
theorem dX6_init_31 : decode cX6_init 31 = .ok (.aload_n 0, 1) := by decide +kernel
theorem dX6_init_32 : decode cX6_init 32 = .ok (.lconst 0, 1) := by decide +kernel
theorem dX6_init_33 : decode cX6_init 33 = .ok (.putfield 28, 3) := by decide +kernel
theorem dX6_init_36 : decode cX6_init 36 = .ok (.return_, 1) := by decide +kernel
theorem dX6_isFull_0 : decode cX6_isFull 0 = .ok (.aload_n 0, 1) := by decide +kernel
theorem dX6_isFull_1 : decode cX6_isFull 1 = .ok (.getfield 15, 3) := by decide +kernel
theorem dX6_isFull_4 : decode cX6_isFull 4 = .ok (.aload_n 0, 1) := by decide +kernel
theorem dX6_isFull_5 : decode cX6_isFull 5 = .ok (.getfield 9, 3) := by decide +kernel
theorem dX6_isFull_8 : decode cX6_isFull 8 = .ok (.if_icmp .lt 7, 3) := by decide +kernel
theorem dX6_isFull_11 : decode cX6_isFull 11 = .ok (.iconst 1, 1) := by decide +kernel
theorem dX6_isFull_12 : decode cX6_isFull 12 = .ok (.goto 4, 3) := by decide +kernel
theorem dX6_isFull_15 : decode cX6_isFull 15 = .ok (.iconst 0, 1) := by decide +kernel
theorem dX6_isFull_16 : decode cX6_isFull 16 = .ok (.ireturn, 1) := by decide +kernel
theorem dX6_takeIn_0 : decode cX6_takeIn 0 = .ok (.aload_n 0, 1) := by decide +kernel
theorem dX6_takeIn_1 : decode cX6_takeIn 1 = .ok (.dup, 1) := by decide +kernel
theorem dX6_takeIn_2 : decode cX6_takeIn 2 = .ok (.getfield 21, 3) := by decide +kernel
theorem dX6_takeIn_5 : decode cX6_takeIn 5 = .ok (.iload_n 1, 1) := by decide +kernel
theorem dX6_takeIn_6 : decode cX6_takeIn 6 = .ok (.i2l, 1) := by decide +kernel
theorem dX6_takeIn_7 : decode cX6_takeIn 7 = .ok (.ladd, 1) := by decide +kernel
theorem dX6_takeIn_8 : decode cX6_takeIn 8 = .ok (.putfield 21, 3) := by decide +kernel
theorem dX6_takeIn_11 : decode cX6_takeIn 11 = .ok (.iload_n 1, 1) := by decide +kernel
theorem dX6_takeIn_12 : decode cX6_takeIn 12 = .ok (.aload_n 0, 1) := by decide +kernel
theorem dX6_takeIn_13 : decode cX6_takeIn 13 = .ok (.getfield 9, 3) := by decide +kernel
theorem dX6_takeIn_16 : decode cX6_takeIn 16 = .ok (.aload_n 0, 1) := by decide +kernel
theorem dX6_takeIn_17 : decode cX6_takeIn 17 = .ok (.getfield 15, 3) := by decide +kernel
theorem dX6_takeIn_20 : decode cX6_takeIn 20 = .ok (.isub, 1) := by decide +kernel
theorem dX6_takeIn_21 : decode cX6_takeIn 21 = .ok (.invokestatic 31, 3) := by decide +kernel
theorem dX6_takeIn_24 : decode cX6_takeIn 24 = .ok (.istore_n 2, 1) := by decide +kernel
theorem dX6_takeIn_25 : decode cX6_takeIn 25 = .ok (.iload_n 1, 1) := by decide +kernel
theorem dX6_takeIn_26 : decode cX6_takeIn 26 = .ok (.iload_n 2, 1) := by decide +kernel
theorem dX6_takeIn_27 : decode cX6_takeIn 27 = .ok (.isub, 1) := by decide +kernel
theorem dX6_takeIn_28 : decode cX6_takeIn 28 = .ok (.sipush 300, 3) := by decide +kernel
theorem dX6_takeIn_31 : decode cX6_takeIn 31 = .ok (.aload_n 0, 1) := by decide +kernel
theorem dX6_takeIn_32 : decode cX6_takeIn 32 = .ok (.getfield 18, 3) := by decide +kernel
theorem dX6_takeIn_35 : decode cX6_takeIn 35 = .ok (.isub, 1) := by decide +kernel
theorem dX6_takeIn_36 : decode cX6_takeIn 36 = .ok (.invokestatic 31, 3) := by decide +kernel
theorem dX6_takeIn_39 : decode cX6_takeIn 39 = .ok (.istore_n 3, 1) := by decide +kernel
theorem dX6_takeIn_40 : decode cX6_takeIn 40 = .ok (.aload_n 0, 1) := by decide +kernel
theorem dX6_takeIn_41 : decode cX6_takeIn 41 = .ok (.dup, 1) := by decide +kernel
theorem dX6_takeIn_42 : decode cX6_takeIn 42 = .ok (.getfield 15, 3) := by decide +kernel
theorem dX6_takeIn_45 : decode cX6_takeIn 45 = .ok (.iload_n 2, 1) := by decide +kernel
theorem dX6_takeIn_46 : decode cX6_takeIn 46 = .ok (.iadd, 1) := by decide +kernel
theorem dX6_takeIn_47 : decode cX6_takeIn 47 = .ok (.putfield 15, 3) := by decide +kernel
theorem dX6_takeIn_50 : decode cX6_takeIn 50 = .ok (.aload_n 0, 1) := by decide +kernel
theorem dX6_takeIn_51 : decode cX6_takeIn 51 = .ok (.dup, 1) := by decide +kernel
theorem dX6_takeIn_52 : decode cX6_takeIn 52 = .ok (.getfield 18, 3) := by decide +kernel
theorem dX6_takeIn_55 : decode cX6_takeIn 55 = .ok (.iload_n 3, 1) := by decide +kernel
theorem dX6_takeIn_56 : decode cX6_takeIn 56 = .ok (.iadd, 1) := by decide +kernel
theorem dX6_takeIn_57 : decode cX6_takeIn 57 = .ok (.putfield 18, 3) := by decide +kernel
theorem dX6_takeIn_60 : decode cX6_takeIn 60 = .ok (.aload_n 0, 1) := by decide +kernel
theorem dX6_takeIn_61 : decode cX6_takeIn 61 = .ok (.dup, 1) := by decide +kernel
theorem dX6_takeIn_62 : decode cX6_takeIn 62 = .ok (.getfield 28, 3) := by decide +kernel
theorem dX6_takeIn_65 : decode cX6_takeIn 65 = .ok (.iload_n 1, 1) := by decide +kernel
theorem dX6_takeIn_66 : decode cX6_takeIn 66 = .ok (.iload_n 2, 1) := by decide +kernel
theorem dX6_takeIn_67 : decode cX6_takeIn 67 = .ok (.isub, 1) := by decide +kernel
theorem dX6_takeIn_68 : decode cX6_takeIn 68 = .ok (.iload_n 3, 1) := by decide +kernel
theorem dX6_takeIn_69 : decode cX6_takeIn 69 = .ok (.isub, 1) := by decide +kernel
theorem dX6_takeIn_70 : decode cX6_takeIn 70 = .ok (.i2l, 1) := by decide +kernel
theorem dX6_takeIn_71 : decode cX6_takeIn 71 = .ok (.ladd, 1) := by decide +kernel
theorem dX6_takeIn_72 : decode cX6_takeIn 72 = .ok (.putfield 28, 3) := by decide +kernel
theorem dX6_takeIn_75 : decode cX6_takeIn 75 = .ok (.return_, 1) := by decide +kernel
theorem dX6_handOver_0 : decode cX6_handOver 0 = .ok (.iload_n 1, 1) := by decide +kernel
theorem dX6_handOver_1 : decode cX6_handOver 1 = .ok (.aload_n 0, 1) := by decide +kernel
theorem dX6_handOver_2 : decode cX6_handOver 2 = .ok (.getfield 15, 3) := by decide +kernel
theorem dX6_handOver_5 : decode cX6_handOver 5 = .ok (.if_icmp .le 5, 3) := by decide +kernel
theorem dX6_handOver_8 : decode cX6_handOver 8 = .ok (.iconst 0, 1) := by decide +kernel
theorem dX6_handOver_9 : decode cX6_handOver 9 = .ok (.ireturn, 1) := by decide +kernel
theorem dX6_handOver_10 : decode cX6_handOver 10 = .ok (.aload_n 0, 1) := by decide +kernel
theorem dX6_handOver_11 : decode cX6_handOver 11 = .ok (.dup, 1) := by decide +kernel
theorem dX6_handOver_12 : decode cX6_handOver 12 = .ok (.getfield 15, 3) := by decide +kernel
theorem dX6_handOver_15 : decode cX6_handOver 15 = .ok (.iload_n 1, 1) := by decide +kernel
theorem dX6_handOver_16 : decode cX6_handOver 16 = .ok (.isub, 1) := by decide +kernel
theorem dX6_handOver_17 : decode cX6_handOver 17 = .ok (.putfield 15, 3) := by decide +kernel
theorem dX6_handOver_20 : decode cX6_handOver 20 = .ok (.aload_n 0, 1) := by decide +kernel
theorem dX6_handOver_21 : decode cX6_handOver 21 = .ok (.dup, 1) := by decide +kernel
theorem dX6_handOver_22 : decode cX6_handOver 22 = .ok (.getfield 25, 3) := by decide +kernel
theorem dX6_handOver_25 : decode cX6_handOver 25 = .ok (.iload_n 1, 1) := by decide +kernel
theorem dX6_handOver_26 : decode cX6_handOver 26 = .ok (.i2l, 1) := by decide +kernel
theorem dX6_handOver_27 : decode cX6_handOver 27 = .ok (.ladd, 1) := by decide +kernel
theorem dX6_handOver_28 : decode cX6_handOver 28 = .ok (.putfield 25, 3) := by decide +kernel
theorem dX6_handOver_31 : decode cX6_handOver 31 = .ok (.iconst 1, 1) := by decide +kernel
theorem dX6_handOver_32 : decode cX6_handOver 32 = .ok (.ireturn, 1) := by decide +kernel
theorem dX6_reading_0 : decode cX6_reading 0 = .ok (.iload_n 1, 1) := by decide +kernel
theorem dX6_reading_1 : decode cX6_reading 1 = .ok (.tableswitch 42 0 2 #[27, 32, 37], 27) := by decide +kernel
theorem dX6_reading_28 : decode cX6_reading 28 = .ok (.aload_n 0, 1) := by decide +kernel
theorem dX6_reading_29 : decode cX6_reading 29 = .ok (.getfield 21, 3) := by decide +kernel
theorem dX6_reading_32 : decode cX6_reading 32 = .ok (.lreturn, 1) := by decide +kernel
theorem dX6_reading_33 : decode cX6_reading 33 = .ok (.aload_n 0, 1) := by decide +kernel
theorem dX6_reading_34 : decode cX6_reading 34 = .ok (.getfield 25, 3) := by decide +kernel
theorem dX6_reading_37 : decode cX6_reading 37 = .ok (.lreturn, 1) := by decide +kernel
theorem dX6_reading_38 : decode cX6_reading 38 = .ok (.aload_n 0, 1) := by decide +kernel
theorem dX6_reading_39 : decode cX6_reading 39 = .ok (.getfield 28, 3) := by decide +kernel
theorem dX6_reading_42 : decode cX6_reading 42 = .ok (.lreturn, 1) := by decide +kernel
theorem dX6_reading_43 : decode cX6_reading 43 = .ok (.aload_n 0, 1) := by decide +kernel
theorem dX6_reading_44 : decode cX6_reading 44 = .ok (.getfield 15, 3) := by decide +kernel
theorem dX6_reading_47 : decode cX6_reading 47 = .ok (.aload_n 0, 1) := by decide +kernel
theorem dX6_reading_48 : decode cX6_reading 48 = .ok (.getfield 18, 3) := by decide +kernel
theorem dX6_reading_51 : decode cX6_reading 51 = .ok (.iadd, 1) := by decide +kernel
theorem dX6_reading_52 : decode cX6_reading 52 = .ok (.i2l, 1) := by decide +kernel
theorem dX6_reading_53 : decode cX6_reading 53 = .ok (.lreturn, 1) := by decide +kernel
theorem dX7_init_0 : decode cX7_init 0 = .ok (.aload_n 0, 1) := by decide +kernel
theorem dX7_init_1 : decode cX7_init 1 = .ok (.invokespecial 1, 3) := by decide +kernel
theorem dX7_init_4 : decode cX7_init 4 = .ok (.return_, 1) := by decide +kernel
theorem dX7_coldAt_0 : decode cX7_coldAt 0 = .ok (.iload_n 1, 1) := by decide +kernel
theorem dX7_coldAt_1 : decode cX7_coldAt 1 = .ok (.iconst 4, 1) := by decide +kernel
theorem dX7_coldAt_2 : decode cX7_coldAt 2 = .ok (.idiv, 1) := by decide +kernel
theorem dX7_coldAt_3 : decode cX7_coldAt 3 = .ok (.ireturn, 1) := by decide +kernel
theorem dX7_traceWeight_0 : decode cX7_traceWeight 0 = .ok (.iconst 1, 1) := by decide +kernel
theorem dX7_traceWeight_1 : decode cX7_traceWeight 1 = .ok (.ireturn, 1) := by decide +kernel
theorem dX8_init_0 : decode cX8_init 0 = .ok (.aload_n 0, 1) := by decide +kernel
theorem dX8_init_1 : decode cX8_init 1 = .ok (.invokespecial 1, 3) := by decide +kernel
theorem dX8_init_4 : decode cX8_init 4 = .ok (.aload_n 0, 1) := by decide +kernel
theorem dX8_init_5 : decode cX8_init 5 = .ok (.aload_n 1, 1) := by decide +kernel
theorem dX8_init_6 : decode cX8_init 6 = .ok (.putfield 7, 3) := by decide +kernel
theorem dX8_init_9 : decode cX8_init 9 = .ok (.return_, 1) := by decide +kernel
theorem dX8_coldAt_0 : decode cX8_coldAt 0 = .ok (.iload_n 1, 1) := by decide +kernel
theorem dX8_coldAt_1 : decode cX8_coldAt 1 = .ok (.bipush 10, 2) := by decide +kernel
theorem dX8_coldAt_3 : decode cX8_coldAt 3 = .ok (.idiv, 1) := by decide +kernel
theorem dX8_coldAt_4 : decode cX8_coldAt 4 = .ok (.istore_n 2, 1) := by decide +kernel
theorem dX8_coldAt_5 : decode cX8_coldAt 5 = .ok (.iload_n 1, 1) := by decide +kernel
theorem dX8_coldAt_6 : decode cX8_coldAt 6 = .ok (.bipush 10, 2) := by decide +kernel
theorem dX8_coldAt_8 : decode cX8_coldAt 8 = .ok (.irem, 1) := by decide +kernel
theorem dX8_coldAt_9 : decode cX8_coldAt 9 = .ok (.istore_n 3, 1) := by decide +kernel
theorem dX8_coldAt_10 : decode cX8_coldAt 10 = .ok (.aload_n 0, 1) := by decide +kernel
theorem dX8_coldAt_11 : decode cX8_coldAt 11 = .ok (.iload_n 1, 1) := by decide +kernel
theorem dX8_coldAt_12 : decode cX8_coldAt 12 = .ok (.invokespecial 13, 3) := by decide +kernel
theorem dX8_coldAt_15 : decode cX8_coldAt 15 = .ok (.bipush 10, 2) := by decide +kernel
theorem dX8_coldAt_17 : decode cX8_coldAt 17 = .ok (.iload_n 3, 1) := by decide +kernel
theorem dX8_coldAt_18 : decode cX8_coldAt 18 = .ok (.isub, 1) := by decide +kernel
theorem dX8_coldAt_19 : decode cX8_coldAt 19 = .ok (.aload_n 0, 1) := by decide +kernel
theorem dX8_coldAt_20 : decode cX8_coldAt 20 = .ok (.iload_n 2, 1) := by decide +kernel
theorem dX8_coldAt_21 : decode cX8_coldAt 21 = .ok (.invokevirtual 17, 3) := by decide +kernel
theorem dX8_coldAt_24 : decode cX8_coldAt 24 = .ok (.imul, 1) := by decide +kernel
theorem dX8_coldAt_25 : decode cX8_coldAt 25 = .ok (.iload_n 3, 1) := by decide +kernel
theorem dX8_coldAt_26 : decode cX8_coldAt 26 = .ok (.aload_n 0, 1) := by decide +kernel
theorem dX8_coldAt_27 : decode cX8_coldAt 27 = .ok (.iload_n 2, 1) := by decide +kernel
theorem dX8_coldAt_28 : decode cX8_coldAt 28 = .ok (.iconst 1, 1) := by decide +kernel
theorem dX8_coldAt_29 : decode cX8_coldAt 29 = .ok (.iadd, 1) := by decide +kernel
theorem dX8_coldAt_30 : decode cX8_coldAt 30 = .ok (.invokevirtual 17, 3) := by decide +kernel
theorem dX8_coldAt_33 : decode cX8_coldAt 33 = .ok (.imul, 1) := by decide +kernel
theorem dX8_coldAt_34 : decode cX8_coldAt 34 = .ok (.iadd, 1) := by decide +kernel
theorem dX8_coldAt_35 : decode cX8_coldAt 35 = .ok (.bipush 10, 2) := by decide +kernel
theorem dX8_coldAt_37 : decode cX8_coldAt 37 = .ok (.idiv, 1) := by decide +kernel
theorem dX8_coldAt_38 : decode cX8_coldAt 38 = .ok (.iadd, 1) := by decide +kernel
theorem dX8_coldAt_39 : decode cX8_coldAt 39 = .ok (.ireturn, 1) := by decide +kernel
theorem dX8_traceWeight_0 : decode cX8_traceWeight 0 = .ok (.aload_n 0, 1) := by decide +kernel
theorem dX8_traceWeight_1 : decode cX8_traceWeight 1 = .ok (.invokespecial 20, 3) := by decide +kernel
theorem dX8_traceWeight_4 : decode cX8_traceWeight 4 = .ok (.bipush 10, 2) := by decide +kernel
theorem dX8_traceWeight_6 : decode cX8_traceWeight 6 = .ok (.iadd, 1) := by decide +kernel
theorem dX8_traceWeight_7 : decode cX8_traceWeight 7 = .ok (.ireturn, 1) := by decide +kernel
theorem dX8_corner_0 : decode cX8_corner 0 = .ok (.iload_n 1, 1) := by decide +kernel
theorem dX8_corner_1 : decode cX8_corner 1 = .ok (.ifCond .lt 21, 3) := by decide +kernel
theorem dX8_corner_4 : decode cX8_corner 4 = .ok (.iload_n 1, 1) := by decide +kernel
theorem dX8_corner_5 : decode cX8_corner 5 = .ok (.aload_n 0, 1) := by decide +kernel
theorem dX8_corner_6 : decode cX8_corner 6 = .ok (.getfield 7, 3) := by decide +kernel
theorem dX8_corner_9 : decode cX8_corner 9 = .ok (.arraylength, 1) := by decide +kernel
theorem dX8_corner_10 : decode cX8_corner 10 = .ok (.if_icmp .ge 12, 3) := by decide +kernel
theorem dX8_corner_13 : decode cX8_corner 13 = .ok (.aload_n 0, 1) := by decide +kernel
theorem dX8_corner_14 : decode cX8_corner 14 = .ok (.getfield 7, 3) := by decide +kernel
theorem dX8_corner_17 : decode cX8_corner 17 = .ok (.iload_n 1, 1) := by decide +kernel
theorem dX8_corner_18 : decode cX8_corner 18 = .ok (.iaload, 1) := by decide +kernel
theorem dX8_corner_19 : decode cX8_corner 19 = .ok (.goto 4, 3) := by decide +kernel
theorem dX8_corner_22 : decode cX8_corner 22 = .ok (.iconst 0, 1) := by decide +kernel
theorem dX8_corner_23 : decode cX8_corner 23 = .ok (.ireturn, 1) := by decide +kernel
theorem dX9_init_0 : decode cX9_init 0 = .ok (.aload_n 0, 1) := by decide +kernel
theorem dX9_init_1 : decode cX9_init 1 = .ok (.invokespecial 1, 3) := by decide +kernel
theorem dX9_init_4 : decode cX9_init 4 = .ok (.aload_n 0, 1) := by decide +kernel
theorem dX9_init_5 : decode cX9_init 5 = .ok (.bipush 6, 2) := by decide +kernel
theorem dX9_init_7 : decode cX9_init 7 = .ok (.anewarray 9, 3) := by decide +kernel
theorem dX9_init_10 : decode cX9_init 10 = .ok (.putfield 11, 3) := by decide +kernel
theorem dX9_init_13 : decode cX9_init 13 = .ok (.aload_n 0, 1) := by decide +kernel
theorem dX9_init_14 : decode cX9_init 14 = .ok (.new 15, 3) := by decide +kernel
theorem dX9_init_17 : decode cX9_init 17 = .ok (.dup, 1) := by decide +kernel
theorem dX9_init_18 : decode cX9_init 18 = .ok (.invokespecial 17, 3) := by decide +kernel
theorem dX9_init_21 : decode cX9_init 21 = .ok (.putfield 18, 3) := by decide +kernel
theorem dX9_init_24 : decode cX9_init 24 = .ok (.aload_n 0, 1) := by decide +kernel
theorem dX9_init_25 : decode cX9_init 25 = .ok (.new 22, 3) := by decide +kernel
theorem dX9_init_28 : decode cX9_init 28 = .ok (.dup, 1) := by decide +kernel
theorem dX9_init_29 : decode cX9_init 29 = .ok (.invokespecial 24, 3) := by decide +kernel
theorem dX9_init_32 : decode cX9_init 32 = .ok (.putfield 25, 3) := by decide +kernel
theorem dX9_init_35 : decode cX9_init 35 = .ok (.aload_n 0, 1) := by decide +kernel
theorem dX9_init_36 : decode cX9_init 36 = .ok (.new 29, 3) := by decide +kernel
theorem dX9_init_39 : decode cX9_init 39 = .ok (.dup, 1) := by decide +kernel
theorem dX9_init_40 : decode cX9_init 40 = .ok (.invokespecial 31, 3) := by decide +kernel
theorem dX9_init_43 : decode cX9_init 43 = .ok (.putfield 32, 3) := by decide +kernel
theorem dX9_init_46 : decode cX9_init 46 = .ok (.aload_n 0, 1) := by decide +kernel
theorem dX9_init_47 : decode cX9_init 47 = .ok (.new 36, 3) := by decide +kernel
theorem dX9_init_50 : decode cX9_init 50 = .ok (.dup, 1) := by decide +kernel
theorem dX9_init_51 : decode cX9_init 51 = .ok (.invokespecial 38, 3) := by decide +kernel
theorem dX9_init_54 : decode cX9_init 54 = .ok (.putfield 39, 3) := by decide +kernel
theorem dX9_init_57 : decode cX9_init 57 = .ok (.aload_n 0, 1) := by decide +kernel
theorem dX9_init_58 : decode cX9_init 58 = .ok (.new 43, 3) := by decide +kernel
theorem dX9_init_61 : decode cX9_init 61 = .ok (.dup, 1) := by decide +kernel
theorem dX9_init_62 : decode cX9_init 62 = .ok (.invokespecial 45, 3) := by decide +kernel
theorem dX9_init_65 : decode cX9_init 65 = .ok (.putfield 46, 3) := by decide +kernel
theorem dX9_init_68 : decode cX9_init 68 = .ok (.aload_n 0, 1) := by decide +kernel
theorem dX9_init_69 : decode cX9_init 69 = .ok (.iconst 4, 1) := by decide +kernel
theorem dX9_init_70 : decode cX9_init 70 = .ok (.newarray .boolean, 2) := by decide +kernel
theorem dX9_init_72 : decode cX9_init 72 = .ok (.putfield 50, 3) := by decide +kernel
theorem dX9_init_75 : decode cX9_init 75 = .ok (.aload_n 0, 1) := by decide +kernel
theorem dX9_init_76 : decode cX9_init 76 = .ok (.iconst 0, 1) := by decide +kernel
theorem dX9_init_77 : decode cX9_init 77 = .ok (.putfield 54, 3) := by decide +kernel
theorem dX9_init_80 : decode cX9_init 80 = .ok (.aload_n 0, 1) := by decide +kernel
theorem dX9_init_81 : decode cX9_init 81 = .ok (.bipush (-9), 2) := by decide +kernel
theorem dX9_init_83 : decode cX9_init 83 = .ok (.putfield 58, 3) := by decide +kernel
theorem dX9_init_86 : decode cX9_init 86 = .ok (.aload_n 0, 1) := by decide +kernel
theorem dX9_init_87 : decode cX9_init 87 = .ok (.iconst 0, 1) := by decide +kernel
theorem dX9_init_88 : decode cX9_init 88 = .ok (.putfield 61, 3) := by decide +kernel
theorem dX9_init_91 : decode cX9_init 91 = .ok (.aload_n 0, 1) := by decide +kernel
theorem dX9_init_92 : decode cX9_init 92 = .ok (.sipush 300, 3) := by decide +kernel
theorem dX9_init_95 : decode cX9_init 95 = .ok (.putfield 64, 3) := by decide +kernel
theorem dX9_init_98 : decode cX9_init 98 = .ok (.aload_n 0, 1) := by decide +kernel
theorem dX9_init_99 : decode cX9_init 99 = .ok (.iconst 0, 1) := by decide +kernel
theorem dX9_init_100 : decode cX9_init 100 = .ok (.putfield 67, 3) := by decide +kernel
theorem dX9_init_103 : decode cX9_init 103 = .ok (.aload_n 0, 1) := by decide +kernel
theorem dX9_init_104 : decode cX9_init 104 = .ok (.lconst 0, 1) := by decide +kernel
theorem dX9_init_105 : decode cX9_init 105 = .ok (.putfield 70, 3) := by decide +kernel
theorem dX9_init_108 : decode cX9_init 108 = .ok (.return_, 1) := by decide +kernel
theorem dX9_cooler_0 : decode cX9_cooler 0 = .ok (.iload_n 1, 1) := by decide +kernel
theorem dX9_cooler_1 : decode cX9_cooler 1 = .ok (.iconst 0, 1) := by decide +kernel
theorem dX9_cooler_2 : decode cX9_cooler 2 = .ok (.iconst 2, 1) := by decide +kernel
theorem dX9_cooler_3 : decode cX9_cooler 3 = .ok (.invokestatic 74, 3) := by decide +kernel
theorem dX9_cooler_6 : decode cX9_cooler 6 = .ok (.ifCond .ne 5, 3) := by decide +kernel
theorem dX9_cooler_9 : decode cX9_cooler 9 = .ok (.iconst (-1), 1) := by decide +kernel
theorem dX9_cooler_10 : decode cX9_cooler 10 = .ok (.ireturn, 1) := by decide +kernel
theorem dX9_cooler_11 : decode cX9_cooler 11 = .ok (.iload_n 1, 1) := by decide +kernel
theorem dX9_cooler_12 : decode cX9_cooler 12 = .ok (.ifCond .eq 19, 3) := by decide +kernel
theorem dX9_cooler_15 : decode cX9_cooler 15 = .ok (.iload_n 2, 1) := by decide +kernel
theorem dX9_cooler_16 : decode cX9_cooler 16 = .ok (.iload_n 3, 1) := by decide +kernel
theorem dX9_cooler_17 : decode cX9_cooler 17 = .ok (.iload 4, 2) := by decide +kernel
theorem dX9_cooler_19 : decode cX9_cooler 19 = .ok (.iload 5, 2) := by decide +kernel
theorem dX9_cooler_21 : decode cX9_cooler 21 = .ok (.iload 6, 2) := by decide +kernel
theorem dX9_cooler_23 : decode cX9_cooler 23 = .ok (.invokestatic 78, 3) := by decide +kernel
theorem dX9_cooler_26 : decode cX9_cooler 26 = .ok (.ifCond .ne 5, 3) := by decide +kernel
theorem dX9_cooler_29 : decode cX9_cooler 29 = .ok (.iconst (-1), 1) := by decide +kernel
theorem dX9_cooler_30 : decode cX9_cooler 30 = .ok (.ireturn, 1) := by decide +kernel
theorem dX9_cooler_31 : decode cX9_cooler 31 = .ok (.iload_n 1, 1) := by decide +kernel
theorem dX9_cooler_32 : decode cX9_cooler 32 = .ok (.iconst 2, 1) := by decide +kernel
theorem dX9_cooler_33 : decode cX9_cooler 33 = .ok (.if_icmp .ne 16, 3) := by decide +kernel
theorem dX9_cooler_36 : decode cX9_cooler 36 = .ok (.iload 7, 2) := by decide +kernel
theorem dX9_cooler_38 : decode cX9_cooler 38 = .ok (.iconst 0, 1) := by decide +kernel
theorem dX9_cooler_39 : decode cX9_cooler 39 = .ok (.bipush 60, 2) := by decide +kernel
theorem dX9_cooler_41 : decode cX9_cooler 41 = .ok (.invokestatic 74, 3) := by decide +kernel
theorem dX9_cooler_44 : decode cX9_cooler 44 = .ok (.ifCond .ne 5, 3) := by decide +kernel
theorem dX9_cooler_47 : decode cX9_cooler 47 = .ok (.iconst (-1), 1) := by decide +kernel
theorem dX9_cooler_48 : decode cX9_cooler 48 = .ok (.ireturn, 1) := by decide +kernel
theorem dX9_cooler_49 : decode cX9_cooler 49 = .ok (.aload_n 0, 1) := by decide +kernel
theorem dX9_cooler_50 : decode cX9_cooler 50 = .ok (.getfield 54, 3) := by decide +kernel
theorem dX9_cooler_53 : decode cX9_cooler 53 = .ok (.bipush 6, 2) := by decide +kernel
theorem dX9_cooler_55 : decode cX9_cooler 55 = .ok (.if_icmp .lt 6, 3) := by decide +kernel
theorem dX9_cooler_58 : decode cX9_cooler 58 = .ok (.bipush (-3), 2) := by decide +kernel
theorem dX9_cooler_60 : decode cX9_cooler 60 = .ok (.ireturn, 1) := by decide +kernel
theorem dX9_cooler_61 : decode cX9_cooler 61 = .ok (.aload_n 0, 1) := by decide +kernel
theorem dX9_cooler_62 : decode cX9_cooler 62 = .ok (.getfield 11, 3) := by decide +kernel
theorem dX9_cooler_65 : decode cX9_cooler 65 = .ok (.aload_n 0, 1) := by decide +kernel
theorem dX9_cooler_66 : decode cX9_cooler 66 = .ok (.getfield 54, 3) := by decide +kernel
theorem dX9_cooler_69 : decode cX9_cooler 69 = .ok (.iload_n 1, 1) := by decide +kernel
theorem dX9_cooler_70 : decode cX9_cooler 70 = .ok (.iload_n 2, 1) := by decide +kernel
theorem dX9_cooler_71 : decode cX9_cooler 71 = .ok (.iload_n 3, 1) := by decide +kernel
theorem dX9_cooler_72 : decode cX9_cooler 72 = .ok (.iload 4, 2) := by decide +kernel
theorem dX9_cooler_74 : decode cX9_cooler 74 = .ok (.iload 5, 2) := by decide +kernel
theorem dX9_cooler_76 : decode cX9_cooler 76 = .ok (.iload 6, 2) := by decide +kernel
theorem dX9_cooler_78 : decode cX9_cooler 78 = .ok (.iload 7, 2) := by decide +kernel
theorem dX9_cooler_80 : decode cX9_cooler 80 = .ok (.invokestatic 82, 3) := by decide +kernel
theorem dX9_cooler_83 : decode cX9_cooler 83 = .ok (.aastore, 1) := by decide +kernel
theorem dX9_cooler_84 : decode cX9_cooler 84 = .ok (.aload_n 0, 1) := by decide +kernel
theorem dX9_cooler_85 : decode cX9_cooler 85 = .ok (.dup, 1) := by decide +kernel
theorem dX9_cooler_86 : decode cX9_cooler 86 = .ok (.getfield 54, 3) := by decide +kernel
theorem dX9_cooler_89 : decode cX9_cooler 89 = .ok (.iconst 1, 1) := by decide +kernel
theorem dX9_cooler_90 : decode cX9_cooler 90 = .ok (.iadd, 1) := by decide +kernel
theorem dX9_cooler_91 : decode cX9_cooler 91 = .ok (.putfield 54, 3) := by decide +kernel
theorem dX9_cooler_94 : decode cX9_cooler 94 = .ok (.aload_n 0, 1) := by decide +kernel
theorem dX9_cooler_95 : decode cX9_cooler 95 = .ok (.getfield 54, 3) := by decide +kernel
theorem dX9_cooler_98 : decode cX9_cooler 98 = .ok (.iconst 1, 1) := by decide +kernel
theorem dX9_cooler_99 : decode cX9_cooler 99 = .ok (.isub, 1) := by decide +kernel
theorem dX9_cooler_100 : decode cX9_cooler 100 = .ok (.ireturn, 1) := by decide +kernel
theorem dX9_cold_0 : decode cX9_cold 0 = .ok (.aload_n 0, 1) := by decide +kernel
theorem dX9_cold_1 : decode cX9_cold 1 = .ok (.iload_n 1, 1) := by decide +kernel
theorem dX9_cold_2 : decode cX9_cold 2 = .ok (.invokevirtual 86, 3) := by decide +kernel
theorem dX9_cold_5 : decode cX9_cold 5 = .ok (.ifCond .eq 13, 3) := by decide +kernel
theorem dX9_cold_8 : decode cX9_cold 8 = .ok (.iload_n 2, 1) := by decide +kernel
theorem dX9_cold_9 : decode cX9_cold 9 = .ok (.iconst 0, 1) := by decide +kernel
theorem dX9_cold_10 : decode cX9_cold 10 = .ok (.bipush 40, 2) := by decide +kernel
theorem dX9_cold_12 : decode cX9_cold 12 = .ok (.invokestatic 74, 3) := by decide +kernel
theorem dX9_cold_15 : decode cX9_cold 15 = .ok (.ifCond .ne 5, 3) := by decide +kernel
theorem dX9_cold_18 : decode cX9_cold 18 = .ok (.iconst (-1), 1) := by decide +kernel
theorem dX9_cold_19 : decode cX9_cold 19 = .ok (.ireturn, 1) := by decide +kernel
theorem dX9_cold_20 : decode cX9_cold 20 = .ok (.aload_n 0, 1) := by decide +kernel
theorem dX9_cold_21 : decode cX9_cold 21 = .ok (.dup, 1) := by decide +kernel
theorem dX9_cold_22 : decode cX9_cold 22 = .ok (.getfield 70, 3) := by decide +kernel
theorem dX9_cold_25 : decode cX9_cold 25 = .ok (.aload_n 0, 1) := by decide +kernel
theorem dX9_cold_26 : decode cX9_cold 26 = .ok (.iload_n 1, 1) := by decide +kernel
theorem dX9_cold_27 : decode cX9_cold 27 = .ok (.invokevirtual 90, 3) := by decide +kernel
theorem dX9_cold_30 : decode cX9_cold 30 = .ok (.i2l, 1) := by decide +kernel
theorem dX9_cold_31 : decode cX9_cold 31 = .ok (.ladd, 1) := by decide +kernel
theorem dX9_cold_32 : decode cX9_cold 32 = .ok (.putfield 70, 3) := by decide +kernel
theorem dX9_cold_35 : decode cX9_cold 35 = .ok (.aload_n 0, 1) := by decide +kernel
theorem dX9_cold_36 : decode cX9_cold 36 = .ok (.iload_n 1, 1) := by decide +kernel
theorem dX9_cold_37 : decode cX9_cold 37 = .ok (.iload_n 2, 1) := by decide +kernel
theorem dX9_cold_38 : decode cX9_cold 38 = .ok (.invokevirtual 94, 3) := by decide +kernel
theorem dX9_cold_41 : decode cX9_cold 41 = .ok (.ireturn, 1) := by decide +kernel
theorem dX9_cells_0 : decode cX9_cells 0 = .ok (.iload_n 1, 1) := by decide +kernel
theorem dX9_cells_1 : decode cX9_cells 1 = .ok (.iconst 1, 1) := by decide +kernel
theorem dX9_cells_2 : decode cX9_cells 2 = .ok (.bipush 8, 2) := by decide +kernel
theorem dX9_cells_4 : decode cX9_cells 4 = .ok (.invokestatic 74, 3) := by decide +kernel
theorem dX9_cells_7 : decode cX9_cells 7 = .ok (.ifCond .eq 13, 3) := by decide +kernel
theorem dX9_cells_10 : decode cX9_cells 10 = .ok (.iload_n 2, 1) := by decide +kernel
theorem dX9_cells_11 : decode cX9_cells 11 = .ok (.iconst 1, 1) := by decide +kernel
theorem dX9_cells_12 : decode cX9_cells 12 = .ok (.bipush 50, 2) := by decide +kernel
theorem dX9_cells_14 : decode cX9_cells 14 = .ok (.invokestatic 74, 3) := by decide +kernel
theorem dX9_cells_17 : decode cX9_cells 17 = .ok (.ifCond .ne 5, 3) := by decide +kernel
theorem dX9_cells_20 : decode cX9_cells 20 = .ok (.iconst (-1), 1) := by decide +kernel
theorem dX9_cells_21 : decode cX9_cells 21 = .ok (.ireturn, 1) := by decide +kernel
theorem dX9_cells_22 : decode cX9_cells 22 = .ok (.aload_n 0, 1) := by decide +kernel
theorem dX9_cells_23 : decode cX9_cells 23 = .ok (.getfield 25, 3) := by decide +kernel
theorem dX9_cells_26 : decode cX9_cells 26 = .ok (.getfield 98, 3) := by decide +kernel
theorem dX9_cells_29 : decode cX9_cells 29 = .ok (.ifCond .eq 6, 3) := by decide +kernel
theorem dX9_cells_32 : decode cX9_cells 32 = .ok (.bipush (-2), 2) := by decide +kernel
theorem dX9_cells_34 : decode cX9_cells 34 = .ok (.ireturn, 1) := by decide +kernel
theorem dX9_cells_35 : decode cX9_cells 35 = .ok (.aload_n 0, 1) := by decide +kernel
theorem dX9_cells_36 : decode cX9_cells 36 = .ok (.getfield 18, 3) := by decide +kernel
theorem dX9_cells_39 : decode cX9_cells 39 = .ok (.iload_n 1, 1) := by decide +kernel
theorem dX9_cells_40 : decode cX9_cells 40 = .ok (.iload_n 2, 1) := by decide +kernel
theorem dX9_cells_41 : decode cX9_cells 41 = .ok (.invokevirtual 101, 3) := by decide +kernel
theorem dX9_cells_44 : decode cX9_cells 44 = .ok (.iconst 1, 1) := by decide +kernel
theorem dX9_cells_45 : decode cX9_cells 45 = .ok (.ireturn, 1) := by decide +kernel
theorem dX9_set_0 : decode cX9_set 0 = .ok (.aload_n 0, 1) := by decide +kernel
theorem dX9_set_1 : decode cX9_set 1 = .ok (.iload_n 1, 1) := by decide +kernel
theorem dX9_set_2 : decode cX9_set 2 = .ok (.iload_n 2, 1) := by decide +kernel
theorem dX9_set_3 : decode cX9_set 3 = .ok (.invokevirtual 105, 3) := by decide +kernel
theorem dX9_set_6 : decode cX9_set 6 = .ok (.ifCond .ne 5, 3) := by decide +kernel
theorem dX9_set_9 : decode cX9_set 9 = .ok (.iconst (-1), 1) := by decide +kernel
theorem dX9_set_10 : decode cX9_set 10 = .ok (.ireturn, 1) := by decide +kernel
theorem dX9_set_11 : decode cX9_set 11 = .ok (.aload_n 0, 1) := by decide +kernel
theorem dX9_set_12 : decode cX9_set 12 = .ok (.iload_n 1, 1) := by decide +kernel
theorem dX9_set_13 : decode cX9_set 13 = .ok (.invokevirtual 109, 3) := by decide +kernel
theorem dX9_set_16 : decode cX9_set 16 = .ok (.istore_n 3, 1) := by decide +kernel
theorem dX9_set_17 : decode cX9_set 17 = .ok (.aload_n 0, 1) := by decide +kernel
theorem dX9_set_18 : decode cX9_set 18 = .ok (.iload_n 1, 1) := by decide +kernel
theorem dX9_set_19 : decode cX9_set 19 = .ok (.iload_n 2, 1) := by decide +kernel
theorem dX9_set_20 : decode cX9_set 20 = .ok (.invokevirtual 112, 3) := by decide +kernel
theorem dX9_set_23 : decode cX9_set 23 = .ok (.iload_n 3, 1) := by decide +kernel
theorem dX9_set_24 : decode cX9_set 24 = .ok (.ireturn, 1) := by decide +kernel
theorem dX9_side_0 : decode cX9_side 0 = .ok (.iload_n 1, 1) := by decide +kernel
theorem dX9_side_1 : decode cX9_side 1 = .ok (.iconst 0, 1) := by decide +kernel
theorem dX9_side_2 : decode cX9_side 2 = .ok (.iconst 1, 1) := by decide +kernel
theorem dX9_side_3 : decode cX9_side 3 = .ok (.invokestatic 74, 3) := by decide +kernel
theorem dX9_side_6 : decode cX9_side 6 = .ok (.ifCond .eq 20, 3) := by decide +kernel
theorem dX9_side_9 : decode cX9_side 9 = .ok (.iload_n 2, 1) := by decide +kernel
theorem dX9_side_10 : decode cX9_side 10 = .ok (.iconst 0, 1) := by decide +kernel
theorem dX9_side_11 : decode cX9_side 11 = .ok (.aload_n 0, 1) := by decide +kernel
theorem dX9_side_12 : decode cX9_side 12 = .ok (.getfield 18, 3) := by decide +kernel
theorem dX9_side_15 : decode cX9_side 15 = .ok (.getfield 115, 3) := by decide +kernel
theorem dX9_side_18 : decode cX9_side 18 = .ok (.iconst 1, 1) := by decide +kernel
theorem dX9_side_19 : decode cX9_side 19 = .ok (.isub, 1) := by decide +kernel
theorem dX9_side_20 : decode cX9_side 20 = .ok (.invokestatic 74, 3) := by decide +kernel
theorem dX9_side_23 : decode cX9_side 23 = .ok (.ifCond .ne 5, 3) := by decide +kernel
theorem dX9_side_26 : decode cX9_side 26 = .ok (.iconst (-1), 1) := by decide +kernel
theorem dX9_side_27 : decode cX9_side 27 = .ok (.ireturn, 1) := by decide +kernel
theorem dX9_side_28 : decode cX9_side 28 = .ok (.iload_n 1, 1) := by decide +kernel
theorem dX9_side_29 : decode cX9_side 29 = .ok (.ifCond .ne 15, 3) := by decide +kernel
theorem dX9_side_32 : decode cX9_side 32 = .ok (.aload_n 0, 1) := by decide +kernel
theorem dX9_side_33 : decode cX9_side 33 = .ok (.getfield 18, 3) := by decide +kernel
theorem dX9_side_36 : decode cX9_side 36 = .ok (.getfield 118, 3) := by decide +kernel
theorem dX9_side_39 : decode cX9_side 39 = .ok (.iload_n 2, 1) := by decide +kernel
theorem dX9_side_40 : decode cX9_side 40 = .ok (.iaload, 1) := by decide +kernel
theorem dX9_side_41 : decode cX9_side 41 = .ok (.goto 12, 3) := by decide +kernel
theorem dX9_side_44 : decode cX9_side 44 = .ok (.aload_n 0, 1) := by decide +kernel
theorem dX9_side_45 : decode cX9_side 45 = .ok (.getfield 18, 3) := by decide +kernel
theorem dX9_side_48 : decode cX9_side 48 = .ok (.getfield 122, 3) := by decide +kernel
theorem dX9_side_51 : decode cX9_side 51 = .ok (.iload_n 2, 1) := by decide +kernel
theorem dX9_side_52 : decode cX9_side 52 = .ok (.iaload, 1) := by decide +kernel
theorem dX9_side_53 : decode cX9_side 53 = .ok (.ireturn, 1) := by decide +kernel
theorem dX9_heat_0 : decode cX9_heat 0 = .ok (.iload_n 1, 1) := by decide +kernel
theorem dX9_heat_1 : decode cX9_heat 1 = .ok (.tableswitch 63 0 3 #[31, 39, 47, 55], 31) := by decide +kernel
theorem dX9_heat_32 : decode cX9_heat 32 = .ok (.aload_n 0, 1) := by decide +kernel
theorem dX9_heat_33 : decode cX9_heat 33 = .ok (.getfield 18, 3) := by decide +kernel
theorem dX9_heat_36 : decode cX9_heat 36 = .ok (.getfield 125, 3) := by decide +kernel
theorem dX9_heat_39 : decode cX9_heat 39 = .ok (.lreturn, 1) := by decide +kernel
theorem dX9_heat_40 : decode cX9_heat 40 = .ok (.aload_n 0, 1) := by decide +kernel
theorem dX9_heat_41 : decode cX9_heat 41 = .ok (.getfield 18, 3) := by decide +kernel
theorem dX9_heat_44 : decode cX9_heat 44 = .ok (.getfield 128, 3) := by decide +kernel
theorem dX9_heat_47 : decode cX9_heat 47 = .ok (.lreturn, 1) := by decide +kernel
theorem dX9_heat_48 : decode cX9_heat 48 = .ok (.aload_n 0, 1) := by decide +kernel
theorem dX9_heat_49 : decode cX9_heat 49 = .ok (.getfield 18, 3) := by decide +kernel
theorem dX9_heat_52 : decode cX9_heat 52 = .ok (.getfield 131, 3) := by decide +kernel
theorem dX9_heat_55 : decode cX9_heat 55 = .ok (.lreturn, 1) := by decide +kernel
theorem dX9_heat_56 : decode cX9_heat 56 = .ok (.aload_n 0, 1) := by decide +kernel
theorem dX9_heat_57 : decode cX9_heat 57 = .ok (.getfield 18, 3) := by decide +kernel
theorem dX9_heat_60 : decode cX9_heat 60 = .ok (.getfield 134, 3) := by decide +kernel
theorem dX9_heat_63 : decode cX9_heat 63 = .ok (.lreturn, 1) := by decide +kernel
theorem dX9_heat_64 : decode cX9_heat 64 = .ok (.ldc2_w 137, 3) := by decide +kernel
theorem dX9_heat_67 : decode cX9_heat 67 = .ok (.lreturn, 1) := by decide +kernel
theorem dX9_start_0 : decode cX9_start 0 = .ok (.aload_n 0, 1) := by decide +kernel
theorem dX9_start_1 : decode cX9_start 1 = .ok (.getfield 25, 3) := by decide +kernel
theorem dX9_start_4 : decode cX9_start 4 = .ok (.getfield 98, 3) := by decide +kernel
theorem dX9_start_7 : decode cX9_start 7 = .ok (.ifCond .ne 23, 3) := by decide +kernel
theorem dX9_start_10 : decode cX9_start 10 = .ok (.aload_n 0, 1) := by decide +kernel
theorem dX9_start_11 : decode cX9_start 11 = .ok (.getfield 32, 3) := by decide +kernel
theorem dX9_start_14 : decode cX9_start 14 = .ok (.invokevirtual 139, 3) := by decide +kernel
theorem dX9_start_17 : decode cX9_start 17 = .ok (.ifCond .eq 13, 3) := by decide +kernel
theorem dX9_start_20 : decode cX9_start 20 = .ok (.aload_n 0, 1) := by decide +kernel
theorem dX9_start_21 : decode cX9_start 21 = .ok (.getfield 39, 3) := by decide +kernel
theorem dX9_start_24 : decode cX9_start 24 = .ok (.invokevirtual 143, 3) := by decide +kernel
theorem dX9_start_27 : decode cX9_start 27 = .ok (.ifCond .eq 6, 3) := by decide +kernel
theorem dX9_start_30 : decode cX9_start 30 = .ok (.bipush (-2), 2) := by decide +kernel
theorem dX9_start_32 : decode cX9_start 32 = .ok (.ireturn, 1) := by decide +kernel
theorem dX9_start_33 : decode cX9_start 33 = .ok (.aload_n 0, 1) := by decide +kernel
theorem dX9_start_34 : decode cX9_start 34 = .ok (.getfield 25, 3) := by decide +kernel
theorem dX9_start_37 : decode cX9_start 37 = .ok (.invokevirtual 146, 3) := by decide +kernel
theorem dX9_start_40 : decode cX9_start 40 = .ok (.ireturn, 1) := by decide +kernel
theorem dX9_low_0 : decode cX9_low 0 = .ok (.aload_n 0, 1) := by decide +kernel
theorem dX9_low_1 : decode cX9_low 1 = .ok (.getfield 25, 3) := by decide +kernel
theorem dX9_low_4 : decode cX9_low 4 = .ok (.getfield 98, 3) := by decide +kernel
theorem dX9_low_7 : decode cX9_low 7 = .ok (.iconst 2, 1) := by decide +kernel
theorem dX9_low_8 : decode cX9_low 8 = .ok (.if_icmp .ne 14, 3) := by decide +kernel
theorem dX9_low_11 : decode cX9_low 11 = .ok (.aload_n 0, 1) := by decide +kernel
theorem dX9_low_12 : decode cX9_low 12 = .ok (.getfield 25, 3) := by decide +kernel
theorem dX9_low_15 : decode cX9_low 15 = .ok (.iconst 3, 1) := by decide +kernel
theorem dX9_low_16 : decode cX9_low 16 = .ok (.invokevirtual 150, 3) := by decide +kernel
theorem dX9_low_19 : decode cX9_low 19 = .ok (.goto 5, 3) := by decide +kernel
theorem dX9_low_22 : decode cX9_low 22 = .ok (.bipush (-2), 2) := by decide +kernel
theorem dX9_low_24 : decode cX9_low 24 = .ok (.ireturn, 1) := by decide +kernel
theorem dX9_high_0 : decode cX9_high 0 = .ok (.aload_n 0, 1) := by decide +kernel
theorem dX9_high_1 : decode cX9_high 1 = .ok (.getfield 25, 3) := by decide +kernel
theorem dX9_high_4 : decode cX9_high 4 = .ok (.getfield 98, 3) := by decide +kernel
theorem dX9_high_7 : decode cX9_high 7 = .ok (.iconst 3, 1) := by decide +kernel
theorem dX9_high_8 : decode cX9_high 8 = .ok (.if_icmp .ne 14, 3) := by decide +kernel
theorem dX9_high_11 : decode cX9_high 11 = .ok (.aload_n 0, 1) := by decide +kernel
theorem dX9_high_12 : decode cX9_high 12 = .ok (.getfield 25, 3) := by decide +kernel
theorem dX9_high_15 : decode cX9_high 15 = .ok (.iconst 2, 1) := by decide +kernel
theorem dX9_high_16 : decode cX9_high 16 = .ok (.invokevirtual 150, 3) := by decide +kernel
theorem dX9_high_19 : decode cX9_high 19 = .ok (.goto 5, 3) := by decide +kernel
theorem dX9_high_22 : decode cX9_high 22 = .ok (.bipush (-2), 2) := by decide +kernel
theorem dX9_high_24 : decode cX9_high 24 = .ok (.ireturn, 1) := by decide +kernel
theorem dX9_trip_0 : decode cX9_trip 0 = .ok (.aload_n 0, 1) := by decide +kernel
theorem dX9_trip_1 : decode cX9_trip 1 = .ok (.getfield 25, 3) := by decide +kernel
theorem dX9_trip_4 : decode cX9_trip 4 = .ok (.getfield 98, 3) := by decide +kernel
theorem dX9_trip_7 : decode cX9_trip 7 = .ok (.ifCond .eq 14, 3) := by decide +kernel
theorem dX9_trip_10 : decode cX9_trip 10 = .ok (.aload_n 0, 1) := by decide +kernel
theorem dX9_trip_11 : decode cX9_trip 11 = .ok (.getfield 25, 3) := by decide +kernel
theorem dX9_trip_14 : decode cX9_trip 14 = .ok (.getfield 98, 3) := by decide +kernel
theorem dX9_trip_17 : decode cX9_trip 17 = .ok (.iconst 4, 1) := by decide +kernel
theorem dX9_trip_18 : decode cX9_trip 18 = .ok (.if_icmp .ne 6, 3) := by decide +kernel
theorem dX9_trip_21 : decode cX9_trip 21 = .ok (.bipush (-2), 2) := by decide +kernel
theorem dX9_trip_23 : decode cX9_trip 23 = .ok (.ireturn, 1) := by decide +kernel
theorem dX9_trip_24 : decode cX9_trip 24 = .ok (.aload_n 0, 1) := by decide +kernel
theorem dX9_trip_25 : decode cX9_trip 25 = .ok (.getfield 25, 3) := by decide +kernel
end
section
theorem dX9_trip_28 : decode cX9_trip 28 = .ok (.invokevirtual 153, 3) := by decide +kernel
theorem dX9_trip_31 : decode cX9_trip 31 = .ok (.ireturn, 1) := by decide +kernel
theorem dX9_reset_0 : decode cX9_reset 0 = .ok (.aload_n 0, 1) := by decide +kernel
theorem dX9_reset_1 : decode cX9_reset 1 = .ok (.getfield 25, 3) := by decide +kernel
theorem dX9_reset_4 : decode cX9_reset 4 = .ok (.getfield 98, 3) := by decide +kernel
theorem dX9_reset_7 : decode cX9_reset 7 = .ok (.iconst 4, 1) := by decide +kernel
theorem dX9_reset_8 : decode cX9_reset 8 = .ok (.if_icmp .ne 13, 3) := by decide +kernel
theorem dX9_reset_11 : decode cX9_reset 11 = .ok (.aload_n 0, 1) := by decide +kernel
theorem dX9_reset_12 : decode cX9_reset 12 = .ok (.getfield 25, 3) := by decide +kernel
theorem dX9_reset_15 : decode cX9_reset 15 = .ok (.getfield 156, 3) := by decide +kernel
theorem dX9_reset_18 : decode cX9_reset 18 = .ok (.ifCond .ne 6, 3) := by decide +kernel
theorem dX9_reset_21 : decode cX9_reset 21 = .ok (.bipush (-2), 2) := by decide +kernel
theorem dX9_reset_23 : decode cX9_reset 23 = .ok (.ireturn, 1) := by decide +kernel
theorem dX9_reset_24 : decode cX9_reset 24 = .ok (.aload_n 0, 1) := by decide +kernel
theorem dX9_reset_25 : decode cX9_reset 25 = .ok (.getfield 25, 3) := by decide +kernel
theorem dX9_reset_28 : decode cX9_reset 28 = .ok (.invokevirtual 160, 3) := by decide +kernel
theorem dX9_reset_31 : decode cX9_reset 31 = .ok (.ireturn, 1) := by decide +kernel
theorem dX9_tick_0 : decode cX9_tick 0 = .ok (.iload_n 1, 1) := by decide +kernel
theorem dX9_tick_1 : decode cX9_tick 1 = .ok (.iconst 1, 1) := by decide +kernel
theorem dX9_tick_2 : decode cX9_tick 2 = .ok (.bipush 60, 2) := by decide +kernel
theorem dX9_tick_4 : decode cX9_tick 4 = .ok (.invokestatic 74, 3) := by decide +kernel
theorem dX9_tick_7 : decode cX9_tick 7 = .ok (.ifCond .ne 5, 3) := by decide +kernel
theorem dX9_tick_10 : decode cX9_tick 10 = .ok (.iconst (-1), 1) := by decide +kernel
theorem dX9_tick_11 : decode cX9_tick 11 = .ok (.ireturn, 1) := by decide +kernel
theorem dX9_tick_12 : decode cX9_tick 12 = .ok (.iconst 0, 1) := by decide +kernel
theorem dX9_tick_13 : decode cX9_tick 13 = .ok (.istore_n 2, 1) := by decide +kernel
theorem dX9_tick_14 : decode cX9_tick 14 = .ok (.iconst 0, 1) := by decide +kernel
theorem dX9_tick_15 : decode cX9_tick 15 = .ok (.istore_n 3, 1) := by decide +kernel
theorem dX9_tick_16 : decode cX9_tick 16 = .ok (.iload_n 3, 1) := by decide +kernel
theorem dX9_tick_17 : decode cX9_tick 17 = .ok (.iload_n 1, 1) := by decide +kernel
theorem dX9_tick_18 : decode cX9_tick 18 = .ok (.if_icmp .ge 16, 3) := by decide +kernel
theorem dX9_tick_21 : decode cX9_tick 21 = .ok (.iload_n 2, 1) := by decide +kernel
theorem dX9_tick_22 : decode cX9_tick 22 = .ok (.aload_n 0, 1) := by decide +kernel
theorem dX9_tick_23 : decode cX9_tick 23 = .ok (.invokevirtual 163, 3) := by decide +kernel
theorem dX9_tick_26 : decode cX9_tick 26 = .ok (.iadd, 1) := by decide +kernel
theorem dX9_tick_27 : decode cX9_tick 27 = .ok (.istore_n 2, 1) := by decide +kernel
theorem dX9_tick_28 : decode cX9_tick 28 = .ok (.iinc 3 1, 3) := by decide +kernel
theorem dX9_tick_31 : decode cX9_tick 31 = .ok (.goto (-15), 3) := by decide +kernel
theorem dX9_tick_34 : decode cX9_tick 34 = .ok (.iload_n 2, 1) := by decide +kernel
theorem dX9_tick_35 : decode cX9_tick 35 = .ok (.ireturn, 1) := by decide +kernel
theorem dX9_adsorber_0 : decode cX9_adsorber 0 = .ok (.aload_n 0, 1) := by decide +kernel
theorem dX9_adsorber_1 : decode cX9_adsorber 1 = .ok (.getfield 32, 3) := by decide +kernel
theorem dX9_adsorber_4 : decode cX9_adsorber 4 = .ok (.iload_n 1, 1) := by decide +kernel
theorem dX9_adsorber_5 : decode cX9_adsorber 5 = .ok (.iload_n 2, 1) := by decide +kernel
theorem dX9_adsorber_6 : decode cX9_adsorber 6 = .ok (.invokevirtual 166, 3) := by decide +kernel
theorem dX9_adsorber_9 : decode cX9_adsorber 9 = .ok (.ireturn, 1) := by decide +kernel
theorem dX9_valve_0 : decode cX9_valve 0 = .ok (.iload_n 1, 1) := by decide +kernel
theorem dX9_valve_1 : decode cX9_valve 1 = .ok (.tableswitch 60 0 2 #[27, 38, 49], 27) := by decide +kernel
theorem dX9_valve_28 : decode cX9_valve 28 = .ok (.aload_n 0, 1) := by decide +kernel
theorem dX9_valve_29 : decode cX9_valve 29 = .ok (.getfield 25, 3) := by decide +kernel
theorem dX9_valve_32 : decode cX9_valve 32 = .ok (.getfield 169, 3) := by decide +kernel
theorem dX9_valve_35 : decode cX9_valve 35 = .ok (.invokestatic 172, 3) := by decide +kernel
theorem dX9_valve_38 : decode cX9_valve 38 = .ok (.ireturn, 1) := by decide +kernel
theorem dX9_valve_39 : decode cX9_valve 39 = .ok (.aload_n 0, 1) := by decide +kernel
theorem dX9_valve_40 : decode cX9_valve 40 = .ok (.getfield 25, 3) := by decide +kernel
theorem dX9_valve_43 : decode cX9_valve 43 = .ok (.getfield 176, 3) := by decide +kernel
theorem dX9_valve_46 : decode cX9_valve 46 = .ok (.invokestatic 172, 3) := by decide +kernel
theorem dX9_valve_49 : decode cX9_valve 49 = .ok (.ireturn, 1) := by decide +kernel
theorem dX9_valve_50 : decode cX9_valve 50 = .ok (.aload_n 0, 1) := by decide +kernel
theorem dX9_valve_51 : decode cX9_valve 51 = .ok (.getfield 25, 3) := by decide +kernel
theorem dX9_valve_54 : decode cX9_valve 54 = .ok (.getfield 156, 3) := by decide +kernel
theorem dX9_valve_57 : decode cX9_valve 57 = .ok (.invokestatic 172, 3) := by decide +kernel
theorem dX9_valve_60 : decode cX9_valve 60 = .ok (.ireturn, 1) := by decide +kernel
theorem dX9_valve_61 : decode cX9_valve 61 = .ok (.iconst (-1), 1) := by decide +kernel
theorem dX9_valve_62 : decode cX9_valve 62 = .ok (.ireturn, 1) := by decide +kernel
theorem dX9_order_0 : decode cX9_order 0 = .ok (.iload_n 1, 1) := by decide +kernel
theorem dX9_order_1 : decode cX9_order 1 = .ok (.iconst 1, 1) := by decide +kernel
theorem dX9_order_2 : decode cX9_order 2 = .ok (.sipush 500, 3) := by decide +kernel
theorem dX9_order_5 : decode cX9_order 5 = .ok (.invokestatic 74, 3) := by decide +kernel
theorem dX9_order_8 : decode cX9_order 8 = .ok (.ifCond .eq 13, 3) := by decide +kernel
theorem dX9_order_11 : decode cX9_order 11 = .ok (.iload_n 2, 1) := by decide +kernel
theorem dX9_order_12 : decode cX9_order 12 = .ok (.iconst 0, 1) := by decide +kernel
theorem dX9_order_13 : decode cX9_order 13 = .ok (.bipush 9, 2) := by decide +kernel
theorem dX9_order_15 : decode cX9_order 15 = .ok (.invokestatic 74, 3) := by decide +kernel
theorem dX9_order_18 : decode cX9_order 18 = .ok (.ifCond .ne 5, 3) := by decide +kernel
theorem dX9_order_21 : decode cX9_order 21 = .ok (.iconst (-1), 1) := by decide +kernel
theorem dX9_order_22 : decode cX9_order 22 = .ok (.ireturn, 1) := by decide +kernel
theorem dX9_order_23 : decode cX9_order 23 = .ok (.aload_n 0, 1) := by decide +kernel
theorem dX9_order_24 : decode cX9_order 24 = .ok (.getfield 46, 3) := by decide +kernel
theorem dX9_order_27 : decode cX9_order 27 = .ok (.iload_n 1, 1) := by decide +kernel
theorem dX9_order_28 : decode cX9_order 28 = .ok (.iload_n 2, 1) := by decide +kernel
theorem dX9_order_29 : decode cX9_order 29 = .ok (.invokevirtual 179, 3) := by decide +kernel
theorem dX9_order_32 : decode cX9_order 32 = .ok (.ireturn, 1) := by decide +kernel
theorem dX9_deliver_0 : decode cX9_deliver 0 = .ok (.aload_n 0, 1) := by decide +kernel
theorem dX9_deliver_1 : decode cX9_deliver 1 = .ok (.getfield 46, 3) := by decide +kernel
theorem dX9_deliver_4 : decode cX9_deliver 4 = .ok (.getfield 182, 3) := by decide +kernel
theorem dX9_deliver_7 : decode cX9_deliver 7 = .ok (.bipush 10, 2) := by decide +kernel
theorem dX9_deliver_9 : decode cX9_deliver 9 = .ok (.if_icmp .lt 8, 3) := by decide +kernel
theorem dX9_deliver_12 : decode cX9_deliver 12 = .ok (.bipush (-2), 2) := by decide +kernel
theorem dX9_deliver_14 : decode cX9_deliver 14 = .ok (.goto 14, 3) := by decide +kernel
theorem dX9_deliver_17 : decode cX9_deliver 17 = .ok (.aload_n 0, 1) := by decide +kernel
theorem dX9_deliver_18 : decode cX9_deliver 18 = .ok (.getfield 46, 3) := by decide +kernel
theorem dX9_deliver_21 : decode cX9_deliver 21 = .ok (.aload_n 0, 1) := by decide +kernel
theorem dX9_deliver_22 : decode cX9_deliver 22 = .ok (.getfield 39, 3) := by decide +kernel
theorem dX9_deliver_25 : decode cX9_deliver 25 = .ok (.invokevirtual 185, 3) := by decide +kernel
theorem dX9_deliver_28 : decode cX9_deliver 28 = .ok (.ireturn, 1) := by decide +kernel
theorem dX9_about_0 : decode cX9_about 0 = .ok (.aload_n 0, 1) := by decide +kernel
theorem dX9_about_1 : decode cX9_about 1 = .ok (.getfield 46, 3) := by decide +kernel
theorem dX9_about_4 : decode cX9_about 4 = .ok (.iload_n 1, 1) := by decide +kernel
theorem dX9_about_5 : decode cX9_about 5 = .ok (.iload_n 2, 1) := by decide +kernel
theorem dX9_about_6 : decode cX9_about 6 = .ok (.invokevirtual 189, 3) := by decide +kernel
theorem dX9_about_9 : decode cX9_about 9 = .ok (.ireturn, 1) := by decide +kernel
theorem dX9_back_0 : decode cX9_back 0 = .ok (.iload_n 1, 1) := by decide +kernel
theorem dX9_back_1 : decode cX9_back 1 = .ok (.iconst 1, 1) := by decide +kernel
theorem dX9_back_2 : decode cX9_back 2 = .ok (.if_icmp .ge 5, 3) := by decide +kernel
theorem dX9_back_5 : decode cX9_back 5 = .ok (.iconst (-1), 1) := by decide +kernel
theorem dX9_back_6 : decode cX9_back 6 = .ok (.ireturn, 1) := by decide +kernel
theorem dX9_back_7 : decode cX9_back 7 = .ok (.iload_n 1, 1) := by decide +kernel
theorem dX9_back_8 : decode cX9_back 8 = .ok (.aload_n 0, 1) := by decide +kernel
theorem dX9_back_9 : decode cX9_back 9 = .ok (.getfield 39, 3) := by decide +kernel
theorem dX9_back_12 : decode cX9_back 12 = .ok (.getfield 190, 3) := by decide +kernel
theorem dX9_back_15 : decode cX9_back 15 = .ok (.if_icmp .gt 22, 3) := by decide +kernel
theorem dX9_back_18 : decode cX9_back 18 = .ok (.iload_n 1, 1) := by decide +kernel
theorem dX9_back_19 : decode cX9_back 19 = .ok (.aload_n 0, 1) := by decide +kernel
theorem dX9_back_20 : decode cX9_back 20 = .ok (.getfield 39, 3) := by decide +kernel
theorem dX9_back_23 : decode cX9_back 23 = .ok (.getfield 193, 3) := by decide +kernel
theorem dX9_back_26 : decode cX9_back 26 = .ok (.aload_n 0, 1) := by decide +kernel
theorem dX9_back_27 : decode cX9_back 27 = .ok (.getfield 39, 3) := by decide +kernel
theorem dX9_back_30 : decode cX9_back 30 = .ok (.getfield 196, 3) := by decide +kernel
theorem dX9_back_33 : decode cX9_back 33 = .ok (.isub, 1) := by decide +kernel
theorem dX9_back_34 : decode cX9_back 34 = .ok (.if_icmp .le 6, 3) := by decide +kernel
theorem dX9_back_37 : decode cX9_back 37 = .ok (.bipush (-2), 2) := by decide +kernel
theorem dX9_back_39 : decode cX9_back 39 = .ok (.ireturn, 1) := by decide +kernel
theorem dX9_back_40 : decode cX9_back 40 = .ok (.aload_n 0, 1) := by decide +kernel
theorem dX9_back_41 : decode cX9_back 41 = .ok (.getfield 39, 3) := by decide +kernel
theorem dX9_back_44 : decode cX9_back 44 = .ok (.dup, 1) := by decide +kernel
theorem dX9_back_45 : decode cX9_back 45 = .ok (.getfield 190, 3) := by decide +kernel
theorem dX9_back_48 : decode cX9_back 48 = .ok (.iload_n 1, 1) := by decide +kernel
theorem dX9_back_49 : decode cX9_back 49 = .ok (.isub, 1) := by decide +kernel
theorem dX9_back_50 : decode cX9_back 50 = .ok (.putfield 190, 3) := by decide +kernel
theorem dX9_back_53 : decode cX9_back 53 = .ok (.aload_n 0, 1) := by decide +kernel
theorem dX9_back_54 : decode cX9_back 54 = .ok (.getfield 39, 3) := by decide +kernel
theorem dX9_back_57 : decode cX9_back 57 = .ok (.dup, 1) := by decide +kernel
theorem dX9_back_58 : decode cX9_back 58 = .ok (.getfield 196, 3) := by decide +kernel
theorem dX9_back_61 : decode cX9_back 61 = .ok (.iload_n 1, 1) := by decide +kernel
theorem dX9_back_62 : decode cX9_back 62 = .ok (.iadd, 1) := by decide +kernel
theorem dX9_back_63 : decode cX9_back 63 = .ok (.putfield 196, 3) := by decide +kernel
theorem dX9_back_66 : decode cX9_back 66 = .ok (.aload_n 0, 1) := by decide +kernel
theorem dX9_back_67 : decode cX9_back 67 = .ok (.getfield 39, 3) := by decide +kernel
theorem dX9_back_70 : decode cX9_back 70 = .ok (.getfield 196, 3) := by decide +kernel
theorem dX9_back_73 : decode cX9_back 73 = .ok (.ireturn, 1) := by decide +kernel
theorem dX9_lose_0 : decode cX9_lose 0 = .ok (.iload_n 1, 1) := by decide +kernel
theorem dX9_lose_1 : decode cX9_lose 1 = .ok (.invokestatic 199, 3) := by decide +kernel
theorem dX9_lose_4 : decode cX9_lose 4 = .ok (.ifCond .ne 5, 3) := by decide +kernel
theorem dX9_lose_7 : decode cX9_lose 7 = .ok (.iconst (-1), 1) := by decide +kernel
theorem dX9_lose_8 : decode cX9_lose 8 = .ok (.ireturn, 1) := by decide +kernel
theorem dX9_lose_9 : decode cX9_lose 9 = .ok (.aload_n 0, 1) := by decide +kernel
theorem dX9_lose_10 : decode cX9_lose 10 = .ok (.getfield 50, 3) := by decide +kernel
theorem dX9_lose_13 : decode cX9_lose 13 = .ok (.iload_n 1, 1) := by decide +kernel
theorem dX9_lose_14 : decode cX9_lose 14 = .ok (.baload, 1) := by decide +kernel
theorem dX9_lose_15 : decode cX9_lose 15 = .ok (.istore_n 3, 1) := by decide +kernel
theorem dX9_lose_16 : decode cX9_lose 16 = .ok (.aload_n 0, 1) := by decide +kernel
theorem dX9_lose_17 : decode cX9_lose 17 = .ok (.getfield 50, 3) := by decide +kernel
theorem dX9_lose_20 : decode cX9_lose 20 = .ok (.iload_n 1, 1) := by decide +kernel
theorem dX9_lose_21 : decode cX9_lose 21 = .ok (.iload_n 2, 1) := by decide +kernel
theorem dX9_lose_22 : decode cX9_lose 22 = .ok (.bastore, 1) := by decide +kernel
theorem dX9_lose_23 : decode cX9_lose 23 = .ok (.iload_n 3, 1) := by decide +kernel
theorem dX9_lose_24 : decode cX9_lose 24 = .ok (.invokestatic 172, 3) := by decide +kernel
theorem dX9_lose_27 : decode cX9_lose 27 = .ok (.ireturn, 1) := by decide +kernel
theorem dX9_meter_0 : decode cX9_meter 0 = .ok (.iload_n 1, 1) := by decide +kernel
theorem dX9_meter_1 : decode cX9_meter 1 = .ok (.invokestatic 199, 3) := by decide +kernel
theorem dX9_meter_4 : decode cX9_meter 4 = .ok (.ifCond .ne 7, 3) := by decide +kernel
theorem dX9_meter_7 : decode cX9_meter 7 = .ok (.ldc2_w 137, 3) := by decide +kernel
theorem dX9_meter_10 : decode cX9_meter 10 = .ok (.lreturn, 1) := by decide +kernel
theorem dX9_meter_11 : decode cX9_meter 11 = .ok (.aload_n 0, 1) := by decide +kernel
theorem dX9_meter_12 : decode cX9_meter 12 = .ok (.getfield 50, 3) := by decide +kernel
theorem dX9_meter_15 : decode cX9_meter 15 = .ok (.iload_n 1, 1) := by decide +kernel
theorem dX9_meter_16 : decode cX9_meter 16 = .ok (.baload, 1) := by decide +kernel
theorem dX9_meter_17 : decode cX9_meter 17 = .ok (.ifCond .eq 9, 3) := by decide +kernel
theorem dX9_meter_20 : decode cX9_meter 20 = .ok (.ldc2_w 202, 3) := by decide +kernel
theorem dX9_meter_23 : decode cX9_meter 23 = .ok (.goto 11, 3) := by decide +kernel
theorem dX9_meter_26 : decode cX9_meter 26 = .ok (.aload_n 0, 1) := by decide +kernel
theorem dX9_meter_27 : decode cX9_meter 27 = .ok (.getfield 39, 3) := by decide +kernel
theorem dX9_meter_30 : decode cX9_meter 30 = .ok (.iload_n 1, 1) := by decide +kernel
theorem dX9_meter_31 : decode cX9_meter 31 = .ok (.invokevirtual 204, 3) := by decide +kernel
theorem dX9_meter_34 : decode cX9_meter 34 = .ok (.lreturn, 1) := by decide +kernel
theorem dX9_balance_0 : decode cX9_balance 0 = .ok (.iload_n 1, 1) := by decide +kernel
theorem dX9_balance_1 : decode cX9_balance 1 = .ok (.invokestatic 199, 3) := by decide +kernel
theorem dX9_balance_4 : decode cX9_balance 4 = .ok (.ifCond .ne 7, 3) := by decide +kernel
theorem dX9_balance_7 : decode cX9_balance 7 = .ok (.ldc2_w 137, 3) := by decide +kernel
theorem dX9_balance_10 : decode cX9_balance 10 = .ok (.lreturn, 1) := by decide +kernel
theorem dX9_balance_11 : decode cX9_balance 11 = .ok (.aload_n 0, 1) := by decide +kernel
theorem dX9_balance_12 : decode cX9_balance 12 = .ok (.getfield 50, 3) := by decide +kernel
theorem dX9_balance_15 : decode cX9_balance 15 = .ok (.iload_n 1, 1) := by decide +kernel
theorem dX9_balance_16 : decode cX9_balance 16 = .ok (.baload, 1) := by decide +kernel
theorem dX9_balance_17 : decode cX9_balance 17 = .ok (.ifCond .ne 12, 3) := by decide +kernel
theorem dX9_balance_20 : decode cX9_balance 20 = .ok (.aload_n 0, 1) := by decide +kernel
theorem dX9_balance_21 : decode cX9_balance 21 = .ok (.getfield 39, 3) := by decide +kernel
theorem dX9_balance_24 : decode cX9_balance 24 = .ok (.iload_n 1, 1) := by decide +kernel
theorem dX9_balance_25 : decode cX9_balance 25 = .ok (.invokevirtual 204, 3) := by decide +kernel
theorem dX9_balance_28 : decode cX9_balance 28 = .ok (.lreturn, 1) := by decide +kernel
theorem dX9_balance_29 : decode cX9_balance 29 = .ok (.aload_n 0, 1) := by decide +kernel
theorem dX9_balance_30 : decode cX9_balance 30 = .ok (.invokevirtual 208, 3) := by decide +kernel
theorem dX9_balance_33 : decode cX9_balance 33 = .ok (.iconst 1, 1) := by decide +kernel
theorem dX9_balance_34 : decode cX9_balance 34 = .ok (.if_icmp .ne 11, 3) := by decide +kernel
theorem dX9_balance_37 : decode cX9_balance 37 = .ok (.aload_n 0, 1) := by decide +kernel
theorem dX9_balance_38 : decode cX9_balance 38 = .ok (.iload_n 1, 1) := by decide +kernel
theorem dX9_balance_39 : decode cX9_balance 39 = .ok (.invokevirtual 211, 3) := by decide +kernel
theorem dX9_balance_42 : decode cX9_balance 42 = .ok (.goto 6, 3) := by decide +kernel
theorem dX9_balance_45 : decode cX9_balance 45 = .ok (.ldc2_w 202, 3) := by decide +kernel
theorem dX9_balance_48 : decode cX9_balance 48 = .ok (.lreturn, 1) := by decide +kernel
theorem dX9_split_0 : decode cX9_split 0 = .ok (.aload_n 0, 1) := by decide +kernel
theorem dX9_split_1 : decode cX9_split 1 = .ok (.iload_n 1, 1) := by decide +kernel
theorem dX9_split_2 : decode cX9_split 2 = .ok (.invokevirtual 86, 3) := by decide +kernel
theorem dX9_split_5 : decode cX9_split 5 = .ok (.ifCond .eq 11, 3) := by decide +kernel
theorem dX9_split_8 : decode cX9_split 8 = .ok (.aload_n 0, 1) := by decide +kernel
theorem dX9_split_9 : decode cX9_split 9 = .ok (.iload_n 2, 1) := by decide +kernel
theorem dX9_split_10 : decode cX9_split 10 = .ok (.invokevirtual 86, 3) := by decide +kernel
theorem dX9_split_13 : decode cX9_split 13 = .ok (.ifCond .ne 5, 3) := by decide +kernel
theorem dX9_split_16 : decode cX9_split 16 = .ok (.iconst (-1), 1) := by decide +kernel
theorem dX9_split_17 : decode cX9_split 17 = .ok (.ireturn, 1) := by decide +kernel
theorem dX9_split_18 : decode cX9_split 18 = .ok (.iload_n 3, 1) := by decide +kernel
theorem dX9_split_19 : decode cX9_split 19 = .ok (.iconst 0, 1) := by decide +kernel
theorem dX9_split_20 : decode cX9_split 20 = .ok (.bipush 40, 2) := by decide +kernel
theorem dX9_split_22 : decode cX9_split 22 = .ok (.invokestatic 74, 3) := by decide +kernel
theorem dX9_split_25 : decode cX9_split 25 = .ok (.ifCond .eq 14, 3) := by decide +kernel
theorem dX9_split_28 : decode cX9_split 28 = .ok (.iload 4, 2) := by decide +kernel
theorem dX9_split_30 : decode cX9_split 30 = .ok (.iconst 0, 1) := by decide +kernel
theorem dX9_split_31 : decode cX9_split 31 = .ok (.bipush 20, 2) := by decide +kernel
theorem dX9_split_33 : decode cX9_split 33 = .ok (.invokestatic 74, 3) := by decide +kernel
theorem dX9_split_36 : decode cX9_split 36 = .ok (.ifCond .ne 5, 3) := by decide +kernel
theorem dX9_split_39 : decode cX9_split 39 = .ok (.iconst (-1), 1) := by decide +kernel
theorem dX9_split_40 : decode cX9_split 40 = .ok (.ireturn, 1) := by decide +kernel
theorem dX9_split_41 : decode cX9_split 41 = .ok (.aload_n 0, 1) := by decide +kernel
theorem dX9_split_42 : decode cX9_split 42 = .ok (.iload_n 1, 1) := by decide +kernel
theorem dX9_split_43 : decode cX9_split 43 = .ok (.iload_n 3, 1) := by decide +kernel
theorem dX9_split_44 : decode cX9_split 44 = .ok (.invokevirtual 94, 3) := by decide +kernel
theorem dX9_split_47 : decode cX9_split 47 = .ok (.aload_n 0, 1) := by decide +kernel
theorem dX9_split_48 : decode cX9_split 48 = .ok (.iload_n 2, 1) := by decide +kernel
theorem dX9_split_49 : decode cX9_split 49 = .ok (.iload_n 3, 1) := by decide +kernel
theorem dX9_split_50 : decode cX9_split 50 = .ok (.invokevirtual 94, 3) := by decide +kernel
theorem dX9_split_53 : decode cX9_split 53 = .ok (.iload 4, 2) := by decide +kernel
theorem dX9_split_55 : decode cX9_split 55 = .ok (.invokestatic 214, 3) := by decide +kernel
theorem dX9_split_58 : decode cX9_split 58 = .ok (.ireturn, 1) := by decide +kernel
theorem dX9_count_0 : decode cX9_count 0 = .ok (.iload_n 1, 1) := by decide +kernel
theorem dX9_count_1 : decode cX9_count 1 = .ok (.tableswitch 129 0 9 #[55, 63, 71, 79, 84, 92, 100, 108, 113, 121], 55) := by decide +kernel
theorem dX9_count_56 : decode cX9_count 56 = .ok (.aload_n 0, 1) := by decide +kernel
theorem dX9_count_57 : decode cX9_count 57 = .ok (.getfield 25, 3) := by decide +kernel
theorem dX9_count_60 : decode cX9_count 60 = .ok (.getfield 98, 3) := by decide +kernel
theorem dX9_count_63 : decode cX9_count 63 = .ok (.ireturn, 1) := by decide +kernel
theorem dX9_count_64 : decode cX9_count 64 = .ok (.aload_n 0, 1) := by decide +kernel
theorem dX9_count_65 : decode cX9_count 65 = .ok (.getfield 39, 3) := by decide +kernel
theorem dX9_count_68 : decode cX9_count 68 = .ok (.getfield 196, 3) := by decide +kernel
theorem dX9_count_71 : decode cX9_count 71 = .ok (.ireturn, 1) := by decide +kernel
theorem dX9_count_72 : decode cX9_count 72 = .ok (.aload_n 0, 1) := by decide +kernel
theorem dX9_count_73 : decode cX9_count 73 = .ok (.getfield 39, 3) := by decide +kernel
theorem dX9_count_76 : decode cX9_count 76 = .ok (.getfield 190, 3) := by decide +kernel
theorem dX9_count_79 : decode cX9_count 79 = .ok (.ireturn, 1) := by decide +kernel
theorem dX9_count_80 : decode cX9_count 80 = .ok (.aload_n 0, 1) := by decide +kernel
theorem dX9_count_81 : decode cX9_count 81 = .ok (.getfield 54, 3) := by decide +kernel
theorem dX9_count_84 : decode cX9_count 84 = .ok (.ireturn, 1) := by decide +kernel
theorem dX9_count_85 : decode cX9_count 85 = .ok (.aload_n 0, 1) := by decide +kernel
theorem dX9_count_86 : decode cX9_count 86 = .ok (.getfield 18, 3) := by decide +kernel
theorem dX9_count_89 : decode cX9_count 89 = .ok (.getfield 115, 3) := by decide +kernel
theorem dX9_count_92 : decode cX9_count 92 = .ok (.ireturn, 1) := by decide +kernel
theorem dX9_count_93 : decode cX9_count 93 = .ok (.aload_n 0, 1) := by decide +kernel
theorem dX9_count_94 : decode cX9_count 94 = .ok (.getfield 46, 3) := by decide +kernel
theorem dX9_count_97 : decode cX9_count 97 = .ok (.getfield 218, 3) := by decide +kernel
theorem dX9_count_100 : decode cX9_count 100 = .ok (.ireturn, 1) := by decide +kernel
theorem dX9_count_101 : decode cX9_count 101 = .ok (.aload_n 0, 1) := by decide +kernel
theorem dX9_count_102 : decode cX9_count 102 = .ok (.getfield 46, 3) := by decide +kernel
theorem dX9_count_105 : decode cX9_count 105 = .ok (.getfield 182, 3) := by decide +kernel
theorem dX9_count_108 : decode cX9_count 108 = .ok (.ireturn, 1) := by decide +kernel
theorem dX9_count_109 : decode cX9_count 109 = .ok (.aload_n 0, 1) := by decide +kernel
theorem dX9_count_110 : decode cX9_count 110 = .ok (.getfield 67, 3) := by decide +kernel
theorem dX9_count_113 : decode cX9_count 113 = .ok (.ireturn, 1) := by decide +kernel
theorem dX9_count_114 : decode cX9_count 114 = .ok (.aload_n 0, 1) := by decide +kernel
theorem dX9_count_115 : decode cX9_count 115 = .ok (.getfield 25, 3) := by decide +kernel
theorem dX9_count_118 : decode cX9_count 118 = .ok (.getfield 221, 3) := by decide +kernel
theorem dX9_count_121 : decode cX9_count 121 = .ok (.ireturn, 1) := by decide +kernel
theorem dX9_count_122 : decode cX9_count 122 = .ok (.aload_n 0, 1) := by decide +kernel
theorem dX9_count_123 : decode cX9_count 123 = .ok (.getfield 46, 3) := by decide +kernel
theorem dX9_count_126 : decode cX9_count 126 = .ok (.getfield 224, 3) := by decide +kernel
theorem dX9_count_129 : decode cX9_count 129 = .ok (.ireturn, 1) := by decide +kernel
theorem dX9_count_130 : decode cX9_count 130 = .ok (.iconst (-1), 1) := by decide +kernel
theorem dX9_count_131 : decode cX9_count 131 = .ok (.ireturn, 1) := by decide +kernel
theorem dX9_trace_0 : decode cX9_trace 0 = .ok (.aload_n 0, 1) := by decide +kernel
theorem dX9_trace_1 : decode cX9_trace 1 = .ok (.getfield 70, 3) := by decide +kernel
theorem dX9_trace_4 : decode cX9_trace 4 = .ok (.lreturn, 1) := by decide +kernel
theorem dX9_within_0 : decode cX9_within 0 = .ok (.iload_n 0, 1) := by decide +kernel
theorem dX9_within_1 : decode cX9_within 1 = .ok (.iload_n 1, 1) := by decide +kernel
theorem dX9_within_2 : decode cX9_within 2 = .ok (.if_icmp .lt 12, 3) := by decide +kernel
theorem dX9_within_5 : decode cX9_within 5 = .ok (.iload_n 0, 1) := by decide +kernel
theorem dX9_within_6 : decode cX9_within 6 = .ok (.iload_n 2, 1) := by decide +kernel
theorem dX9_within_7 : decode cX9_within 7 = .ok (.if_icmp .gt 7, 3) := by decide +kernel
theorem dX9_within_10 : decode cX9_within 10 = .ok (.iconst 1, 1) := by decide +kernel
theorem dX9_within_11 : decode cX9_within 11 = .ok (.goto 4, 3) := by decide +kernel
theorem dX9_within_14 : decode cX9_within 14 = .ok (.iconst 0, 1) := by decide +kernel
theorem dX9_within_15 : decode cX9_within 15 = .ok (.ireturn, 1) := by decide +kernel
theorem dX9_asNumber_0 : decode cX9_asNumber 0 = .ok (.iload_n 0, 1) := by decide +kernel
theorem dX9_asNumber_1 : decode cX9_asNumber 1 = .ok (.ifCond .eq 7, 3) := by decide +kernel
theorem dX9_asNumber_4 : decode cX9_asNumber 4 = .ok (.iconst 1, 1) := by decide +kernel
theorem dX9_asNumber_5 : decode cX9_asNumber 5 = .ok (.goto 4, 3) := by decide +kernel
theorem dX9_asNumber_8 : decode cX9_asNumber 8 = .ok (.iconst 0, 1) := by decide +kernel
theorem dX9_asNumber_9 : decode cX9_asNumber 9 = .ok (.ireturn, 1) := by decide +kernel
theorem dX9_isMeter_0 : decode cX9_isMeter 0 = .ok (.iload_n 0, 1) := by decide +kernel
theorem dX9_isMeter_1 : decode cX9_isMeter 1 = .ok (.iconst 0, 1) := by decide +kernel
theorem dX9_isMeter_2 : decode cX9_isMeter 2 = .ok (.iconst 3, 1) := by decide +kernel
theorem dX9_isMeter_3 : decode cX9_isMeter 3 = .ok (.invokestatic 74, 3) := by decide +kernel
theorem dX9_isMeter_6 : decode cX9_isMeter 6 = .ok (.ireturn, 1) := by decide +kernel
theorem dX9_areCorners_0 : decode cX9_areCorners 0 = .ok (.iload_n 0, 1) := by decide +kernel
theorem dX9_areCorners_1 : decode cX9_areCorners 1 = .ok (.ifCond .lt 35, 3) := by decide +kernel
theorem dX9_areCorners_4 : decode cX9_areCorners 4 = .ok (.iload_n 1, 1) := by decide +kernel
theorem dX9_areCorners_5 : decode cX9_areCorners 5 = .ok (.iload_n 0, 1) := by decide +kernel
theorem dX9_areCorners_6 : decode cX9_areCorners 6 = .ok (.if_icmp .lt 30, 3) := by decide +kernel
theorem dX9_areCorners_9 : decode cX9_areCorners 9 = .ok (.iload_n 2, 1) := by decide +kernel
theorem dX9_areCorners_10 : decode cX9_areCorners 10 = .ok (.iload_n 1, 1) := by decide +kernel
theorem dX9_areCorners_11 : decode cX9_areCorners 11 = .ok (.if_icmp .lt 25, 3) := by decide +kernel
theorem dX9_areCorners_14 : decode cX9_areCorners 14 = .ok (.iload_n 3, 1) := by decide +kernel
theorem dX9_areCorners_15 : decode cX9_areCorners 15 = .ok (.iload_n 2, 1) := by decide +kernel
theorem dX9_areCorners_16 : decode cX9_areCorners 16 = .ok (.if_icmp .lt 20, 3) := by decide +kernel
theorem dX9_areCorners_19 : decode cX9_areCorners 19 = .ok (.iload 4, 2) := by decide +kernel
theorem dX9_areCorners_21 : decode cX9_areCorners 21 = .ok (.iload_n 3, 1) := by decide +kernel
theorem dX9_areCorners_22 : decode cX9_areCorners 22 = .ok (.if_icmp .lt 14, 3) := by decide +kernel
theorem dX9_areCorners_25 : decode cX9_areCorners 25 = .ok (.iload 4, 2) := by decide +kernel
theorem dX9_areCorners_27 : decode cX9_areCorners 27 = .ok (.bipush 50, 2) := by decide +kernel
theorem dX9_areCorners_29 : decode cX9_areCorners 29 = .ok (.if_icmp .gt 7, 3) := by decide +kernel
theorem dX9_areCorners_32 : decode cX9_areCorners 32 = .ok (.iconst 1, 1) := by decide +kernel
theorem dX9_areCorners_33 : decode cX9_areCorners 33 = .ok (.goto 4, 3) := by decide +kernel
theorem dX9_areCorners_36 : decode cX9_areCorners 36 = .ok (.iconst 0, 1) := by decide +kernel
theorem dX9_areCorners_37 : decode cX9_areCorners 37 = .ok (.ireturn, 1) := by decide +kernel
theorem dX9_build_0 : decode cX9_build 0 = .ok (.iload_n 0, 1) := by decide +kernel
theorem dX9_build_1 : decode cX9_build 1 = .ok (.ifCond .ne 11, 3) := by decide +kernel
theorem dX9_build_4 : decode cX9_build 4 = .ok (.new 9, 3) := by decide +kernel
theorem dX9_build_7 : decode cX9_build 7 = .ok (.dup, 1) := by decide +kernel
theorem dX9_build_8 : decode cX9_build 8 = .ok (.invokespecial 227, 3) := by decide +kernel
theorem dX9_build_11 : decode cX9_build 11 = .ok (.areturn, 1) := by decide +kernel
theorem dX9_build_12 : decode cX9_build 12 = .ok (.iconst 5, 1) := by decide +kernel
theorem dX9_build_13 : decode cX9_build 13 = .ok (.newarray .int, 2) := by decide +kernel
theorem dX9_build_15 : decode cX9_build 15 = .ok (.dup, 1) := by decide +kernel
theorem dX9_build_16 : decode cX9_build 16 = .ok (.iconst 0, 1) := by decide +kernel
theorem dX9_build_17 : decode cX9_build 17 = .ok (.iload_n 1, 1) := by decide +kernel
theorem dX9_build_18 : decode cX9_build 18 = .ok (.iastore, 1) := by decide +kernel
theorem dX9_build_19 : decode cX9_build 19 = .ok (.dup, 1) := by decide +kernel
theorem dX9_build_20 : decode cX9_build 20 = .ok (.iconst 1, 1) := by decide +kernel
theorem dX9_build_21 : decode cX9_build 21 = .ok (.iload_n 2, 1) := by decide +kernel
theorem dX9_build_22 : decode cX9_build 22 = .ok (.iastore, 1) := by decide +kernel
theorem dX9_build_23 : decode cX9_build 23 = .ok (.dup, 1) := by decide +kernel
theorem dX9_build_24 : decode cX9_build 24 = .ok (.iconst 2, 1) := by decide +kernel
theorem dX9_build_25 : decode cX9_build 25 = .ok (.iload_n 3, 1) := by decide +kernel
theorem dX9_build_26 : decode cX9_build 26 = .ok (.iastore, 1) := by decide +kernel
theorem dX9_build_27 : decode cX9_build 27 = .ok (.dup, 1) := by decide +kernel
theorem dX9_build_28 : decode cX9_build 28 = .ok (.iconst 3, 1) := by decide +kernel
theorem dX9_build_29 : decode cX9_build 29 = .ok (.iload 4, 2) := by decide +kernel
theorem dX9_build_31 : decode cX9_build 31 = .ok (.iastore, 1) := by decide +kernel
theorem dX9_build_32 : decode cX9_build 32 = .ok (.dup, 1) := by decide +kernel
theorem dX9_build_33 : decode cX9_build 33 = .ok (.iconst 4, 1) := by decide +kernel
theorem dX9_build_34 : decode cX9_build 34 = .ok (.iload 5, 2) := by decide +kernel
theorem dX9_build_36 : decode cX9_build 36 = .ok (.iastore, 1) := by decide +kernel
theorem dX9_build_37 : decode cX9_build 37 = .ok (.astore 7, 2) := by decide +kernel
theorem dX9_build_39 : decode cX9_build 39 = .ok (.iload_n 0, 1) := by decide +kernel
theorem dX9_build_40 : decode cX9_build 40 = .ok (.iconst 1, 1) := by decide +kernel
theorem dX9_build_41 : decode cX9_build 41 = .ok (.if_icmp .ne 15, 3) := by decide +kernel
theorem dX9_build_44 : decode cX9_build 44 = .ok (.new 228, 3) := by decide +kernel
theorem dX9_build_47 : decode cX9_build 47 = .ok (.dup, 1) := by decide +kernel
theorem dX9_build_48 : decode cX9_build 48 = .ok (.aload 7, 2) := by decide +kernel
theorem dX9_build_50 : decode cX9_build 50 = .ok (.invokespecial 230, 3) := by decide +kernel
theorem dX9_build_53 : decode cX9_build 53 = .ok (.goto 14, 3) := by decide +kernel
theorem dX9_build_56 : decode cX9_build 56 = .ok (.new 233, 3) := by decide +kernel
theorem dX9_build_59 : decode cX9_build 59 = .ok (.dup, 1) := by decide +kernel
theorem dX9_build_60 : decode cX9_build 60 = .ok (.aload 7, 2) := by decide +kernel
theorem dX9_build_62 : decode cX9_build 62 = .ok (.iload 6, 2) := by decide +kernel
theorem dX9_build_64 : decode cX9_build 64 = .ok (.invokespecial 235, 3) := by decide +kernel
theorem dX9_build_67 : decode cX9_build 67 = .ok (.areturn, 1) := by decide +kernel
theorem dX9_isCooler_0 : decode cX9_isCooler 0 = .ok (.iload_n 1, 1) := by decide +kernel
theorem dX9_isCooler_1 : decode cX9_isCooler 1 = .ok (.iconst 0, 1) := by decide +kernel
theorem dX9_isCooler_2 : decode cX9_isCooler 2 = .ok (.aload_n 0, 1) := by decide +kernel
theorem dX9_isCooler_3 : decode cX9_isCooler 3 = .ok (.getfield 54, 3) := by decide +kernel
theorem dX9_isCooler_6 : decode cX9_isCooler 6 = .ok (.iconst 1, 1) := by decide +kernel
theorem dX9_isCooler_7 : decode cX9_isCooler 7 = .ok (.isub, 1) := by decide +kernel
theorem dX9_isCooler_8 : decode cX9_isCooler 8 = .ok (.invokestatic 74, 3) := by decide +kernel
theorem dX9_isCooler_11 : decode cX9_isCooler 11 = .ok (.ireturn, 1) := by decide +kernel
theorem dX9_find_0 : decode cX9_find 0 = .ok (.aload_n 0, 1) := by decide +kernel
theorem dX9_find_1 : decode cX9_find 1 = .ok (.iload_n 1, 1) := by decide +kernel
theorem dX9_find_2 : decode cX9_find 2 = .ok (.invokevirtual 86, 3) := by decide +kernel
theorem dX9_find_5 : decode cX9_find 5 = .ok (.ifCond .eq 12, 3) := by decide +kernel
theorem dX9_find_8 : decode cX9_find 8 = .ok (.aload_n 0, 1) := by decide +kernel
theorem dX9_find_9 : decode cX9_find 9 = .ok (.getfield 11, 3) := by decide +kernel
theorem dX9_find_12 : decode cX9_find 12 = .ok (.iload_n 1, 1) := by decide +kernel
theorem dX9_find_13 : decode cX9_find 13 = .ok (.aaload, 1) := by decide +kernel
theorem dX9_find_14 : decode cX9_find 14 = .ok (.goto 4, 3) := by decide +kernel
theorem dX9_find_17 : decode cX9_find 17 = .ok (.aconst_null, 1) := by decide +kernel
theorem dX9_find_18 : decode cX9_find 18 = .ok (.areturn, 1) := by decide +kernel
theorem dX9_coldOf_0 : decode cX9_coldOf 0 = .ok (.aload_n 0, 1) := by decide +kernel
theorem dX9_coldOf_1 : decode cX9_coldOf 1 = .ok (.iload_n 1, 1) := by decide +kernel
theorem dX9_coldOf_2 : decode cX9_coldOf 2 = .ok (.invokevirtual 238, 3) := by decide +kernel
theorem dX9_coldOf_5 : decode cX9_coldOf 5 = .ok (.astore_n 3, 1) := by decide +kernel
theorem dX9_coldOf_6 : decode cX9_coldOf 6 = .ok (.aload_n 3, 1) := by decide +kernel
theorem dX9_coldOf_7 : decode cX9_coldOf 7 = .ok (.ifnonnull 7, 3) := by decide +kernel
theorem dX9_coldOf_10 : decode cX9_coldOf 10 = .ok (.iconst 0, 1) := by decide +kernel
theorem dX9_coldOf_11 : decode cX9_coldOf 11 = .ok (.goto 8, 3) := by decide +kernel
theorem dX9_coldOf_14 : decode cX9_coldOf 14 = .ok (.aload_n 3, 1) := by decide +kernel
theorem dX9_coldOf_15 : decode cX9_coldOf 15 = .ok (.iload_n 2, 1) := by decide +kernel
theorem dX9_coldOf_16 : decode cX9_coldOf 16 = .ok (.invokevirtual 242, 3) := by decide +kernel
theorem dX9_coldOf_19 : decode cX9_coldOf 19 = .ok (.ireturn, 1) := by decide +kernel
theorem dX9_weightOf_0 : decode cX9_weightOf 0 = .ok (.aload_n 0, 1) := by decide +kernel
theorem dX9_weightOf_1 : decode cX9_weightOf 1 = .ok (.iload_n 1, 1) := by decide +kernel
theorem dX9_weightOf_2 : decode cX9_weightOf 2 = .ok (.invokevirtual 238, 3) := by decide +kernel
theorem dX9_weightOf_5 : decode cX9_weightOf 5 = .ok (.astore_n 2, 1) := by decide +kernel
theorem dX9_weightOf_6 : decode cX9_weightOf 6 = .ok (.aload_n 2, 1) := by decide +kernel
theorem dX9_weightOf_7 : decode cX9_weightOf 7 = .ok (.ifnonnull 7, 3) := by decide +kernel
theorem dX9_weightOf_10 : decode cX9_weightOf 10 = .ok (.iconst 0, 1) := by decide +kernel
theorem dX9_weightOf_11 : decode cX9_weightOf 11 = .ok (.goto 7, 3) := by decide +kernel
theorem dX9_weightOf_14 : decode cX9_weightOf 14 = .ok (.aload_n 2, 1) := by decide +kernel
theorem dX9_weightOf_15 : decode cX9_weightOf 15 = .ok (.invokevirtual 245, 3) := by decide +kernel
theorem dX9_weightOf_18 : decode cX9_weightOf 18 = .ok (.ireturn, 1) := by decide +kernel
theorem dX9_bestShare_0 : decode cX9_bestShare 0 = .ok (.iconst 0, 1) := by decide +kernel
theorem dX9_bestShare_1 : decode cX9_bestShare 1 = .ok (.istore_n 3, 1) := by decide +kernel
theorem dX9_bestShare_2 : decode cX9_bestShare 2 = .ok (.bipush 10, 2) := by decide +kernel
theorem dX9_bestShare_4 : decode cX9_bestShare 4 = .ok (.iload_n 0, 1) := by decide +kernel
theorem dX9_bestShare_5 : decode cX9_bestShare 5 = .ok (.imul, 1) := by decide +kernel
theorem dX9_bestShare_6 : decode cX9_bestShare 6 = .ok (.istore 4, 2) := by decide +kernel
theorem dX9_bestShare_8 : decode cX9_bestShare 8 = .ok (.iconst 1, 1) := by decide +kernel
theorem dX9_bestShare_9 : decode cX9_bestShare 9 = .ok (.istore 5, 2) := by decide +kernel
theorem dX9_bestShare_11 : decode cX9_bestShare 11 = .ok (.iload 5, 2) := by decide +kernel
theorem dX9_bestShare_13 : decode cX9_bestShare 13 = .ok (.bipush 10, 2) := by decide +kernel
theorem dX9_bestShare_15 : decode cX9_bestShare 15 = .ok (.if_icmp .gt 42, 3) := by decide +kernel
theorem dX9_bestShare_18 : decode cX9_bestShare 18 = .ok (.bipush 10, 2) := by decide +kernel
theorem dX9_bestShare_20 : decode cX9_bestShare 20 = .ok (.iload 5, 2) := by decide +kernel
theorem dX9_bestShare_22 : decode cX9_bestShare 22 = .ok (.isub, 1) := by decide +kernel
theorem dX9_bestShare_23 : decode cX9_bestShare 23 = .ok (.iload_n 0, 1) := by decide +kernel
theorem dX9_bestShare_24 : decode cX9_bestShare 24 = .ok (.imul, 1) := by decide +kernel
theorem dX9_bestShare_25 : decode cX9_bestShare 25 = .ok (.iload 5, 2) := by decide +kernel
theorem dX9_bestShare_27 : decode cX9_bestShare 27 = .ok (.iload_n 1, 1) := by decide +kernel
theorem dX9_bestShare_28 : decode cX9_bestShare 28 = .ok (.imul, 1) := by decide +kernel
theorem dX9_bestShare_29 : decode cX9_bestShare 29 = .ok (.iadd, 1) := by decide +kernel
theorem dX9_bestShare_30 : decode cX9_bestShare 30 = .ok (.iload 5, 2) := by decide +kernel
theorem dX9_bestShare_32 : decode cX9_bestShare 32 = .ok (.iload_n 2, 1) := by decide +kernel
theorem dX9_bestShare_33 : decode cX9_bestShare 33 = .ok (.imul, 1) := by decide +kernel
theorem dX9_bestShare_34 : decode cX9_bestShare 34 = .ok (.isub, 1) := by decide +kernel
theorem dX9_bestShare_35 : decode cX9_bestShare 35 = .ok (.istore 6, 2) := by decide +kernel
theorem dX9_bestShare_37 : decode cX9_bestShare 37 = .ok (.iload 6, 2) := by decide +kernel
theorem dX9_bestShare_39 : decode cX9_bestShare 39 = .ok (.iload 4, 2) := by decide +kernel
theorem dX9_bestShare_41 : decode cX9_bestShare 41 = .ok (.if_icmp .le 10, 3) := by decide +kernel
theorem dX9_bestShare_44 : decode cX9_bestShare 44 = .ok (.iload 5, 2) := by decide +kernel
theorem dX9_bestShare_46 : decode cX9_bestShare 46 = .ok (.istore_n 3, 1) := by decide +kernel
theorem dX9_bestShare_47 : decode cX9_bestShare 47 = .ok (.iload 6, 2) := by decide +kernel
theorem dX9_bestShare_49 : decode cX9_bestShare 49 = .ok (.istore 4, 2) := by decide +kernel
theorem dX9_bestShare_51 : decode cX9_bestShare 51 = .ok (.iinc 5 1, 3) := by decide +kernel
theorem dX9_bestShare_54 : decode cX9_bestShare 54 = .ok (.goto (-43), 3) := by decide +kernel
theorem dX9_bestShare_57 : decode cX9_bestShare 57 = .ok (.iload_n 3, 1) := by decide +kernel
theorem dX9_bestShare_58 : decode cX9_bestShare 58 = .ok (.ireturn, 1) := by decide +kernel
theorem dX9_maySet_0 : decode cX9_maySet 0 = .ok (.iload_n 1, 1) := by decide +kernel
theorem dX9_maySet_1 : decode cX9_maySet 1 = .ok (.tableswitch 121 0 5 #[39, 59, 67, 76, 105, 113], 39) := by decide +kernel
theorem dX9_maySet_40 : decode cX9_maySet 40 = .ok (.iload_n 2, 1) := by decide +kernel
theorem dX9_maySet_41 : decode cX9_maySet 41 = .ok (.bipush (-9), 2) := by decide +kernel
theorem dX9_maySet_43 : decode cX9_maySet 43 = .ok (.if_icmp .eq 11, 3) := by decide +kernel
theorem dX9_maySet_46 : decode cX9_maySet 46 = .ok (.aload_n 0, 1) := by decide +kernel
theorem dX9_maySet_47 : decode cX9_maySet 47 = .ok (.iload_n 2, 1) := by decide +kernel
theorem dX9_maySet_48 : decode cX9_maySet 48 = .ok (.invokevirtual 86, 3) := by decide +kernel
theorem dX9_maySet_51 : decode cX9_maySet 51 = .ok (.ifCond .eq 7, 3) := by decide +kernel
theorem dX9_maySet_54 : decode cX9_maySet 54 = .ok (.iconst 1, 1) := by decide +kernel
theorem dX9_maySet_55 : decode cX9_maySet 55 = .ok (.goto 4, 3) := by decide +kernel
theorem dX9_maySet_58 : decode cX9_maySet 58 = .ok (.iconst 0, 1) := by decide +kernel
theorem dX9_maySet_59 : decode cX9_maySet 59 = .ok (.ireturn, 1) := by decide +kernel
theorem dX9_maySet_60 : decode cX9_maySet 60 = .ok (.iload_n 2, 1) := by decide +kernel
theorem dX9_maySet_61 : decode cX9_maySet 61 = .ok (.iconst 0, 1) := by decide +kernel
theorem dX9_maySet_62 : decode cX9_maySet 62 = .ok (.bipush 40, 2) := by decide +kernel
theorem dX9_maySet_64 : decode cX9_maySet 64 = .ok (.invokestatic 74, 3) := by decide +kernel
theorem dX9_maySet_67 : decode cX9_maySet 67 = .ok (.ireturn, 1) := by decide +kernel
theorem dX9_maySet_68 : decode cX9_maySet 68 = .ok (.iload_n 2, 1) := by decide +kernel
theorem dX9_maySet_69 : decode cX9_maySet 69 = .ok (.iconst 0, 1) := by decide +kernel
theorem dX9_maySet_70 : decode cX9_maySet 70 = .ok (.sipush 400, 3) := by decide +kernel
theorem dX9_maySet_73 : decode cX9_maySet 73 = .ok (.invokestatic 74, 3) := by decide +kernel
theorem dX9_maySet_76 : decode cX9_maySet 76 = .ok (.ireturn, 1) := by decide +kernel
theorem dX9_maySet_77 : decode cX9_maySet 77 = .ok (.iload_n 2, 1) := by decide +kernel
theorem dX9_maySet_78 : decode cX9_maySet 78 = .ok (.bipush 10, 2) := by decide +kernel
theorem dX9_maySet_80 : decode cX9_maySet 80 = .ok (.sipush 5000, 3) := by decide +kernel
theorem dX9_maySet_83 : decode cX9_maySet 83 = .ok (.invokestatic 74, 3) := by decide +kernel
theorem dX9_maySet_86 : decode cX9_maySet 86 = .ok (.ifCond .eq 18, 3) := by decide +kernel
theorem dX9_maySet_89 : decode cX9_maySet 89 = .ok (.iload_n 2, 1) := by decide +kernel
theorem dX9_maySet_90 : decode cX9_maySet 90 = .ok (.aload_n 0, 1) := by decide +kernel
theorem dX9_maySet_91 : decode cX9_maySet 91 = .ok (.getfield 39, 3) := by decide +kernel
theorem dX9_maySet_94 : decode cX9_maySet 94 = .ok (.getfield 196, 3) := by decide +kernel
theorem dX9_maySet_97 : decode cX9_maySet 97 = .ok (.if_icmp .lt 7, 3) := by decide +kernel
theorem dX9_maySet_100 : decode cX9_maySet 100 = .ok (.iconst 1, 1) := by decide +kernel
theorem dX9_maySet_101 : decode cX9_maySet 101 = .ok (.goto 4, 3) := by decide +kernel
theorem dX9_maySet_104 : decode cX9_maySet 104 = .ok (.iconst 0, 1) := by decide +kernel
theorem dX9_maySet_105 : decode cX9_maySet 105 = .ok (.ireturn, 1) := by decide +kernel
theorem dX9_maySet_106 : decode cX9_maySet 106 = .ok (.iload_n 2, 1) := by decide +kernel
theorem dX9_maySet_107 : decode cX9_maySet 107 = .ok (.iconst 5, 1) := by decide +kernel
theorem dX9_maySet_108 : decode cX9_maySet 108 = .ok (.bipush 60, 2) := by decide +kernel
theorem dX9_maySet_110 : decode cX9_maySet 110 = .ok (.invokestatic 74, 3) := by decide +kernel
theorem dX9_maySet_113 : decode cX9_maySet 113 = .ok (.ireturn, 1) := by decide +kernel
theorem dX9_maySet_114 : decode cX9_maySet 114 = .ok (.iload_n 2, 1) := by decide +kernel
theorem dX9_maySet_115 : decode cX9_maySet 115 = .ok (.iconst 1, 1) := by decide +kernel
theorem dX9_maySet_116 : decode cX9_maySet 116 = .ok (.bipush 30, 2) := by decide +kernel
theorem dX9_maySet_118 : decode cX9_maySet 118 = .ok (.invokestatic 74, 3) := by decide +kernel
theorem dX9_maySet_121 : decode cX9_maySet 121 = .ok (.ireturn, 1) := by decide +kernel
theorem dX9_maySet_122 : decode cX9_maySet 122 = .ok (.iconst 0, 1) := by decide +kernel
theorem dX9_maySet_123 : decode cX9_maySet 123 = .ok (.ireturn, 1) := by decide +kernel
theorem dX9_setting_0 : decode cX9_setting 0 = .ok (.iload_n 1, 1) := by decide +kernel
theorem dX9_setting_1 : decode cX9_setting 1 = .ok (.tableswitch 66 0 4 #[35, 40, 45, 50, 58], 35) := by decide +kernel
theorem dX9_setting_36 : decode cX9_setting 36 = .ok (.aload_n 0, 1) := by decide +kernel
theorem dX9_setting_37 : decode cX9_setting 37 = .ok (.getfield 58, 3) := by decide +kernel
theorem dX9_setting_40 : decode cX9_setting 40 = .ok (.ireturn, 1) := by decide +kernel
theorem dX9_setting_41 : decode cX9_setting 41 = .ok (.aload_n 0, 1) := by decide +kernel
theorem dX9_setting_42 : decode cX9_setting 42 = .ok (.getfield 61, 3) := by decide +kernel
theorem dX9_setting_45 : decode cX9_setting 45 = .ok (.ireturn, 1) := by decide +kernel
theorem dX9_setting_46 : decode cX9_setting 46 = .ok (.aload_n 0, 1) := by decide +kernel
theorem dX9_setting_47 : decode cX9_setting 47 = .ok (.getfield 64, 3) := by decide +kernel
theorem dX9_setting_50 : decode cX9_setting 50 = .ok (.ireturn, 1) := by decide +kernel
theorem dX9_setting_51 : decode cX9_setting 51 = .ok (.aload_n 0, 1) := by decide +kernel
theorem dX9_setting_52 : decode cX9_setting 52 = .ok (.getfield 39, 3) := by decide +kernel
theorem dX9_setting_55 : decode cX9_setting 55 = .ok (.getfield 193, 3) := by decide +kernel
theorem dX9_setting_58 : decode cX9_setting 58 = .ok (.ireturn, 1) := by decide +kernel
theorem dX9_setting_59 : decode cX9_setting 59 = .ok (.aload_n 0, 1) := by decide +kernel
theorem dX9_setting_60 : decode cX9_setting 60 = .ok (.getfield 32, 3) := by decide +kernel
theorem dX9_setting_63 : decode cX9_setting 63 = .ok (.getfield 248, 3) := by decide +kernel
theorem dX9_setting_66 : decode cX9_setting 66 = .ok (.ireturn, 1) := by decide +kernel
theorem dX9_setting_67 : decode cX9_setting 67 = .ok (.aload_n 0, 1) := by decide +kernel
theorem dX9_setting_68 : decode cX9_setting 68 = .ok (.getfield 32, 3) := by decide +kernel
theorem dX9_setting_71 : decode cX9_setting 71 = .ok (.getfield 251, 3) := by decide +kernel
theorem dX9_setting_74 : decode cX9_setting 74 = .ok (.ireturn, 1) := by decide +kernel
theorem dX9_change_0 : decode cX9_change 0 = .ok (.iload_n 1, 1) := by decide +kernel
theorem dX9_change_1 : decode cX9_change 1 = .ok (.tableswitch 81 0 4 #[35, 43, 51, 59, 70], 35) := by decide +kernel
theorem dX9_change_36 : decode cX9_change 36 = .ok (.aload_n 0, 1) := by decide +kernel
theorem dX9_change_37 : decode cX9_change 37 = .ok (.iload_n 2, 1) := by decide +kernel
theorem dX9_change_38 : decode cX9_change 38 = .ok (.putfield 58, 3) := by decide +kernel
theorem dX9_change_41 : decode cX9_change 41 = .ok (.goto 49, 3) := by decide +kernel
theorem dX9_change_44 : decode cX9_change 44 = .ok (.aload_n 0, 1) := by decide +kernel
theorem dX9_change_45 : decode cX9_change 45 = .ok (.iload_n 2, 1) := by decide +kernel
theorem dX9_change_46 : decode cX9_change 46 = .ok (.putfield 61, 3) := by decide +kernel
theorem dX9_change_49 : decode cX9_change 49 = .ok (.goto 41, 3) := by decide +kernel
theorem dX9_change_52 : decode cX9_change 52 = .ok (.aload_n 0, 1) := by decide +kernel
theorem dX9_change_53 : decode cX9_change 53 = .ok (.iload_n 2, 1) := by decide +kernel
theorem dX9_change_54 : decode cX9_change 54 = .ok (.putfield 64, 3) := by decide +kernel
theorem dX9_change_57 : decode cX9_change 57 = .ok (.goto 33, 3) := by decide +kernel
theorem dX9_change_60 : decode cX9_change 60 = .ok (.aload_n 0, 1) := by decide +kernel
theorem dX9_change_61 : decode cX9_change 61 = .ok (.getfield 39, 3) := by decide +kernel
theorem dX9_change_64 : decode cX9_change 64 = .ok (.iload_n 2, 1) := by decide +kernel
theorem dX9_change_65 : decode cX9_change 65 = .ok (.putfield 193, 3) := by decide +kernel
theorem dX9_change_68 : decode cX9_change 68 = .ok (.goto 22, 3) := by decide +kernel
theorem dX9_change_71 : decode cX9_change 71 = .ok (.aload_n 0, 1) := by decide +kernel
theorem dX9_change_72 : decode cX9_change 72 = .ok (.getfield 32, 3) := by decide +kernel
theorem dX9_change_75 : decode cX9_change 75 = .ok (.iload_n 2, 1) := by decide +kernel
theorem dX9_change_76 : decode cX9_change 76 = .ok (.putfield 248, 3) := by decide +kernel
theorem dX9_change_79 : decode cX9_change 79 = .ok (.goto 11, 3) := by decide +kernel
theorem dX9_change_82 : decode cX9_change 82 = .ok (.aload_n 0, 1) := by decide +kernel
theorem dX9_change_83 : decode cX9_change 83 = .ok (.getfield 32, 3) := by decide +kernel
theorem dX9_change_86 : decode cX9_change 86 = .ok (.iload_n 2, 1) := by decide +kernel
theorem dX9_change_87 : decode cX9_change 87 = .ok (.putfield 251, 3) := by decide +kernel
theorem dX9_change_90 : decode cX9_change 90 = .ok (.return_, 1) := by decide +kernel
theorem dX9_oneTick_0 : decode cX9_oneTick 0 = .ok (.aload_n 0, 1) := by decide +kernel
theorem dX9_oneTick_1 : decode cX9_oneTick 1 = .ok (.dup, 1) := by decide +kernel
theorem dX9_oneTick_2 : decode cX9_oneTick 2 = .ok (.getfield 67, 3) := by decide +kernel
theorem dX9_oneTick_5 : decode cX9_oneTick 5 = .ok (.iconst 1, 1) := by decide +kernel
theorem dX9_oneTick_6 : decode cX9_oneTick 6 = .ok (.iadd, 1) := by decide +kernel
theorem dX9_oneTick_7 : decode cX9_oneTick 7 = .ok (.putfield 67, 3) := by decide +kernel
theorem dX9_oneTick_10 : decode cX9_oneTick 10 = .ok (.aload_n 0, 1) := by decide +kernel
theorem dX9_oneTick_11 : decode cX9_oneTick 11 = .ok (.getfield 32, 3) := by decide +kernel
theorem dX9_oneTick_14 : decode cX9_oneTick 14 = .ok (.invokevirtual 254, 3) := by decide +kernel
theorem dX9_oneTick_17 : decode cX9_oneTick 17 = .ok (.aload_n 0, 1) := by decide +kernel
theorem dX9_oneTick_18 : decode cX9_oneTick 18 = .ok (.getfield 25, 3) := by decide +kernel
theorem dX9_oneTick_21 : decode cX9_oneTick 21 = .ok (.invokevirtual 257, 3) := by decide +kernel
theorem dX9_oneTick_24 : decode cX9_oneTick 24 = .ok (.ifCond .eq 10, 3) := by decide +kernel
theorem dX9_oneTick_27 : decode cX9_oneTick 27 = .ok (.aload_n 0, 1) := by decide +kernel
theorem dX9_oneTick_28 : decode cX9_oneTick 28 = .ok (.invokevirtual 260, 3) := by decide +kernel
theorem dX9_oneTick_31 : decode cX9_oneTick 31 = .ok (.goto 4, 3) := by decide +kernel
theorem dX9_oneTick_34 : decode cX9_oneTick 34 = .ok (.iconst 0, 1) := by decide +kernel
theorem dX9_oneTick_35 : decode cX9_oneTick 35 = .ok (.ireturn, 1) := by decide +kernel
theorem dX9_flow_0 : decode cX9_flow 0 = .ok (.aload_n 0, 1) := by decide +kernel
theorem dX9_flow_1 : decode cX9_flow 1 = .ok (.getfield 18, 3) := by decide +kernel
theorem dX9_flow_4 : decode cX9_flow 4 = .ok (.aload_n 0, 1) := by decide +kernel
theorem dX9_flow_5 : decode cX9_flow 5 = .ok (.getfield 64, 3) := by decide +kernel
theorem dX9_flow_8 : decode cX9_flow 8 = .ok (.aload_n 0, 1) := by decide +kernel
theorem dX9_flow_9 : decode cX9_flow 9 = .ok (.aload_n 0, 1) := by decide +kernel
theorem dX9_flow_10 : decode cX9_flow 10 = .ok (.getfield 58, 3) := by decide +kernel
theorem dX9_flow_13 : decode cX9_flow 13 = .ok (.aload_n 0, 1) := by decide +kernel
theorem dX9_flow_14 : decode cX9_flow 14 = .ok (.getfield 61, 3) := by decide +kernel
theorem dX9_flow_17 : decode cX9_flow 17 = .ok (.invokevirtual 94, 3) := by decide +kernel
theorem dX9_flow_20 : decode cX9_flow 20 = .ok (.invokevirtual 263, 3) := by decide +kernel
theorem dX9_flow_23 : decode cX9_flow 23 = .ok (.istore_n 1, 1) := by decide +kernel
theorem dX9_flow_24 : decode cX9_flow 24 = .ok (.aload_n 0, 1) := by decide +kernel
theorem dX9_flow_25 : decode cX9_flow 25 = .ok (.getfield 39, 3) := by decide +kernel
theorem dX9_flow_28 : decode cX9_flow 28 = .ok (.iload_n 1, 1) := by decide +kernel
theorem dX9_flow_29 : decode cX9_flow 29 = .ok (.invokevirtual 266, 3) := by decide +kernel
theorem dX9_flow_32 : decode cX9_flow 32 = .ok (.iload_n 1, 1) := by decide +kernel
theorem dX9_flow_33 : decode cX9_flow 33 = .ok (.ifCond .le 23, 3) := by decide +kernel
theorem dX9_flow_36 : decode cX9_flow 36 = .ok (.aload_n 0, 1) := by decide +kernel
theorem dX9_flow_37 : decode cX9_flow 37 = .ok (.getfield 25, 3) := by decide +kernel
theorem dX9_flow_40 : decode cX9_flow 40 = .ok (.getfield 98, 3) := by decide +kernel
theorem dX9_flow_43 : decode cX9_flow 43 = .ok (.iconst 1, 1) := by decide +kernel
theorem dX9_flow_44 : decode cX9_flow 44 = .ok (.if_icmp .ne 12, 3) := by decide +kernel
theorem dX9_flow_47 : decode cX9_flow 47 = .ok (.aload_n 0, 1) := by decide +kernel
theorem dX9_flow_48 : decode cX9_flow 48 = .ok (.getfield 25, 3) := by decide +kernel
theorem dX9_flow_51 : decode cX9_flow 51 = .ok (.iconst 2, 1) := by decide +kernel
theorem dX9_flow_52 : decode cX9_flow 52 = .ok (.invokevirtual 150, 3) := by decide +kernel
theorem dX9_flow_55 : decode cX9_flow 55 = .ok (.pop, 1) := by decide +kernel
theorem dX9_flow_56 : decode cX9_flow 56 = .ok (.aload_n 0, 1) := by decide +kernel
theorem dX9_flow_57 : decode cX9_flow 57 = .ok (.getfield 32, 3) := by decide +kernel
theorem dX9_flow_60 : decode cX9_flow 60 = .ok (.invokevirtual 270, 3) := by decide +kernel
theorem dX9_flow_63 : decode cX9_flow 63 = .ok (.istore_n 2, 1) := by decide +kernel
theorem dX9_flow_64 : decode cX9_flow 64 = .ok (.iload_n 2, 1) := by decide +kernel
theorem dX9_flow_65 : decode cX9_flow 65 = .ok (.ifCond .eq 13, 3) := by decide +kernel
theorem dX9_flow_68 : decode cX9_flow 68 = .ok (.aload_n 0, 1) := by decide +kernel
theorem dX9_flow_69 : decode cX9_flow 69 = .ok (.getfield 39, 3) := by decide +kernel
theorem dX9_flow_72 : decode cX9_flow 72 = .ok (.invokevirtual 143, 3) := by decide +kernel
theorem dX9_flow_75 : decode cX9_flow 75 = .ok (.ifCond .eq 11, 3) := by decide +kernel
theorem dX9_flow_78 : decode cX9_flow 78 = .ok (.aload_n 0, 1) := by decide +kernel
theorem dX9_flow_79 : decode cX9_flow 79 = .ok (.getfield 25, 3) := by decide +kernel
theorem dX9_flow_82 : decode cX9_flow 82 = .ok (.invokevirtual 153, 3) := by decide +kernel
theorem dX9_flow_85 : decode cX9_flow 85 = .ok (.pop, 1) := by decide +kernel
theorem dX9_flow_86 : decode cX9_flow 86 = .ok (.iload_n 1, 1) := by decide +kernel
theorem dX9_flow_87 : decode cX9_flow 87 = .ok (.ireturn, 1) := by decide +kernel
theorem dX9_lostMeters_0 : decode cX9_lostMeters 0 = .ok (.iconst 0, 1) := by decide +kernel
theorem dX9_lostMeters_1 : decode cX9_lostMeters 1 = .ok (.istore_n 1, 1) := by decide +kernel
theorem dX9_lostMeters_2 : decode cX9_lostMeters 2 = .ok (.iconst 0, 1) := by decide +kernel
theorem dX9_lostMeters_3 : decode cX9_lostMeters 3 = .ok (.istore_n 2, 1) := by decide +kernel
theorem dX9_lostMeters_4 : decode cX9_lostMeters 4 = .ok (.iload_n 2, 1) := by decide +kernel
theorem dX9_lostMeters_5 : decode cX9_lostMeters 5 = .ok (.iconst 4, 1) := by decide +kernel
theorem dX9_lostMeters_6 : decode cX9_lostMeters 6 = .ok (.if_icmp .ge 21, 3) := by decide +kernel
theorem dX9_lostMeters_9 : decode cX9_lostMeters 9 = .ok (.iload_n 1, 1) := by decide +kernel
theorem dX9_lostMeters_10 : decode cX9_lostMeters 10 = .ok (.aload_n 0, 1) := by decide +kernel
theorem dX9_lostMeters_11 : decode cX9_lostMeters 11 = .ok (.getfield 50, 3) := by decide +kernel
theorem dX9_lostMeters_14 : decode cX9_lostMeters 14 = .ok (.iload_n 2, 1) := by decide +kernel
theorem dX9_lostMeters_15 : decode cX9_lostMeters 15 = .ok (.baload, 1) := by decide +kernel
theorem dX9_lostMeters_16 : decode cX9_lostMeters 16 = .ok (.invokestatic 172, 3) := by decide +kernel
theorem dX9_lostMeters_19 : decode cX9_lostMeters 19 = .ok (.iadd, 1) := by decide +kernel
theorem dX9_lostMeters_20 : decode cX9_lostMeters 20 = .ok (.istore_n 1, 1) := by decide +kernel
theorem dX9_lostMeters_21 : decode cX9_lostMeters 21 = .ok (.iinc 2 1, 3) := by decide +kernel
theorem dX9_lostMeters_24 : decode cX9_lostMeters 24 = .ok (.goto (-20), 3) := by decide +kernel
theorem dX9_lostMeters_27 : decode cX9_lostMeters 27 = .ok (.iload_n 1, 1) := by decide +kernel
theorem dX9_lostMeters_28 : decode cX9_lostMeters 28 = .ok (.ireturn, 1) := by decide +kernel
theorem dX9_toldByOthers_0 : decode cX9_toldByOthers 0 = .ok (.lconst 0, 1) := by decide +kernel
theorem dX9_toldByOthers_1 : decode cX9_toldByOthers 1 = .ok (.lstore_n 2, 1) := by decide +kernel
theorem dX9_toldByOthers_2 : decode cX9_toldByOthers 2 = .ok (.iconst 1, 1) := by decide +kernel
theorem dX9_toldByOthers_3 : decode cX9_toldByOthers 3 = .ok (.istore 4, 2) := by decide +kernel
theorem dX9_toldByOthers_5 : decode cX9_toldByOthers 5 = .ok (.iload 4, 2) := by decide +kernel
theorem dX9_toldByOthers_7 : decode cX9_toldByOthers 7 = .ok (.iconst 4, 1) := by decide +kernel
theorem dX9_toldByOthers_8 : decode cX9_toldByOthers 8 = .ok (.if_icmp .ge 27, 3) := by decide +kernel
theorem dX9_toldByOthers_11 : decode cX9_toldByOthers 11 = .ok (.iload 4, 2) := by decide +kernel
theorem dX9_toldByOthers_13 : decode cX9_toldByOthers 13 = .ok (.iload_n 1, 1) := by decide +kernel
theorem dX9_toldByOthers_14 : decode cX9_toldByOthers 14 = .ok (.if_icmp .eq 15, 3) := by decide +kernel
theorem dX9_toldByOthers_17 : decode cX9_toldByOthers 17 = .ok (.lload_n 2, 1) := by decide +kernel
theorem dX9_toldByOthers_18 : decode cX9_toldByOthers 18 = .ok (.aload_n 0, 1) := by decide +kernel
theorem dX9_toldByOthers_19 : decode cX9_toldByOthers 19 = .ok (.getfield 39, 3) := by decide +kernel
theorem dX9_toldByOthers_22 : decode cX9_toldByOthers 22 = .ok (.iload 4, 2) := by decide +kernel
theorem dX9_toldByOthers_24 : decode cX9_toldByOthers 24 = .ok (.invokevirtual 204, 3) := by decide +kernel
theorem dX9_toldByOthers_27 : decode cX9_toldByOthers 27 = .ok (.ladd, 1) := by decide +kernel
theorem dX9_toldByOthers_28 : decode cX9_toldByOthers 28 = .ok (.lstore_n 2, 1) := by decide +kernel
theorem dX9_toldByOthers_29 : decode cX9_toldByOthers 29 = .ok (.iinc 4 1, 3) := by decide +kernel
theorem dX9_toldByOthers_32 : decode cX9_toldByOthers 32 = .ok (.goto (-27), 3) := by decide +kernel
theorem dX9_toldByOthers_35 : decode cX9_toldByOthers 35 = .ok (.iload_n 1, 1) := by decide +kernel
theorem dX9_toldByOthers_36 : decode cX9_toldByOthers 36 = .ok (.ifCond .ne 7, 3) := by decide +kernel
theorem dX9_toldByOthers_39 : decode cX9_toldByOthers 39 = .ok (.lload_n 2, 1) := by decide +kernel
theorem dX9_toldByOthers_40 : decode cX9_toldByOthers 40 = .ok (.goto 13, 3) := by decide +kernel
theorem dX9_toldByOthers_43 : decode cX9_toldByOthers 43 = .ok (.aload_n 0, 1) := by decide +kernel
theorem dX9_toldByOthers_44 : decode cX9_toldByOthers 44 = .ok (.getfield 39, 3) := by decide +kernel
theorem dX9_toldByOthers_47 : decode cX9_toldByOthers 47 = .ok (.iconst 0, 1) := by decide +kernel
theorem dX9_toldByOthers_48 : decode cX9_toldByOthers 48 = .ok (.invokevirtual 204, 3) := by decide +kernel
theorem dX9_toldByOthers_51 : decode cX9_toldByOthers 51 = .ok (.lload_n 2, 1) := by decide +kernel
theorem dX9_toldByOthers_52 : decode cX9_toldByOthers 52 = .ok (.lsub, 1) := by decide +kernel
theorem dX9_toldByOthers_53 : decode cX9_toldByOthers 53 = .ok (.lreturn, 1) := by decide +kernel
theorem dX10_init_0 : decode cX10_init 0 = .ok (.aload_n 0, 1) := by decide +kernel
theorem dX10_init_1 : decode cX10_init 1 = .ok (.invokespecial 1, 3) := by decide +kernel
theorem dX10_init_4 : decode cX10_init 4 = .ok (.aload_n 0, 1) := by decide +kernel
theorem dX10_init_5 : decode cX10_init 5 = .ok (.bipush 6, 2) := by decide +kernel
theorem dX10_init_7 : decode cX10_init 7 = .ok (.newarray .int, 2) := by decide +kernel
theorem dX10_init_9 : decode cX10_init 9 = .ok (.putfield 7, 3) := by decide +kernel
theorem dX10_init_12 : decode cX10_init 12 = .ok (.aload_n 0, 1) := by decide +kernel
theorem dX10_init_13 : decode cX10_init 13 = .ok (.bipush 30, 2) := by decide +kernel
theorem dX10_init_15 : decode cX10_init 15 = .ok (.newarray .int, 2) := by decide +kernel
theorem dX10_init_17 : decode cX10_init 17 = .ok (.putfield 13, 3) := by decide +kernel
theorem dX10_init_20 : decode cX10_init 20 = .ok (.aload_n 0, 1) := by decide +kernel
theorem dX10_init_21 : decode cX10_init 21 = .ok (.bipush 6, 2) := by decide +kernel
theorem dX10_init_23 : decode cX10_init 23 = .ok (.newarray .int, 2) := by decide +kernel
theorem dX10_init_25 : decode cX10_init 25 = .ok (.putfield 16, 3) := by decide +kernel
theorem dX10_init_28 : decode cX10_init 28 = .ok (.aload_n 0, 1) := by decide +kernel
theorem dX10_init_29 : decode cX10_init 29 = .ok (.iconst 4, 1) := by decide +kernel
theorem dX10_init_30 : decode cX10_init 30 = .ok (.putfield 19, 3) := by decide +kernel
theorem dX10_init_33 : decode cX10_init 33 = .ok (.aload_n 0, 1) := by decide +kernel
theorem dX10_init_34 : decode cX10_init 34 = .ok (.bipush 8, 2) := by decide +kernel
theorem dX10_init_36 : decode cX10_init 36 = .ok (.newarray .int, 2) := by decide +kernel
theorem dX10_init_38 : decode cX10_init 38 = .ok (.putfield 23, 3) := by decide +kernel
theorem dX10_init_41 : decode cX10_init 41 = .ok (.aload_n 0, 1) := by decide +kernel
theorem dX10_init_42 : decode cX10_init 42 = .ok (.bipush 8, 2) := by decide +kernel
theorem dX10_init_44 : decode cX10_init 44 = .ok (.newarray .int, 2) := by decide +kernel
theorem dX10_init_46 : decode cX10_init 46 = .ok (.putfield 26, 3) := by decide +kernel
theorem dX10_init_49 : decode cX10_init 49 = .ok (.aload_n 0, 1) := by decide +kernel
theorem dX10_init_50 : decode cX10_init 50 = .ok (.bipush 20, 2) := by decide +kernel
theorem dX10_init_52 : decode cX10_init 52 = .ok (.putfield 29, 3) := by decide +kernel
theorem dX10_init_55 : decode cX10_init 55 = .ok (.aload_n 0, 1) := by decide +kernel
theorem dX10_init_56 : decode cX10_init 56 = .ok (.bipush 6, 2) := by decide +kernel
theorem dX10_init_58 : decode cX10_init 58 = .ok (.newarray .int, 2) := by decide +kernel
theorem dX10_init_60 : decode cX10_init 60 = .ok (.putfield 32, 3) := by decide +kernel
theorem dX10_init_63 : decode cX10_init 63 = .ok (.aload_n 0, 1) := by decide +kernel
theorem dX10_init_64 : decode cX10_init 64 = .ok (.iconst 4, 1) := by decide +kernel
theorem dX10_init_65 : decode cX10_init 65 = .ok (.newarray .long, 2) := by decide +kernel
theorem dX10_init_67 : decode cX10_init 67 = .ok (.putfield 35, 3) := by decide +kernel
theorem dX10_init_70 : decode cX10_init 70 = .ok (.aload_n 0, 1) := by decide +kernel
theorem dX10_init_71 : decode cX10_init 71 = .ok (.iconst 2, 1) := by decide +kernel
theorem dX10_init_72 : decode cX10_init 72 = .ok (.newarray .int, 2) := by decide +kernel
theorem dX10_init_74 : decode cX10_init 74 = .ok (.putfield 39, 3) := by decide +kernel
theorem dX10_init_77 : decode cX10_init 77 = .ok (.aload_n 0, 1) := by decide +kernel
theorem dX10_init_78 : decode cX10_init 78 = .ok (.iconst 2, 1) := by decide +kernel
theorem dX10_init_79 : decode cX10_init 79 = .ok (.newarray .int, 2) := by decide +kernel
theorem dX10_init_81 : decode cX10_init 81 = .ok (.putfield 42, 3) := by decide +kernel
theorem dX10_init_84 : decode cX10_init 84 = .ok (.aload_n 0, 1) := by decide +kernel
theorem dX10_init_85 : decode cX10_init 85 = .ok (.iconst 2, 1) := by decide +kernel
theorem dX10_init_86 : decode cX10_init 86 = .ok (.newarray .int, 2) := by decide +kernel
theorem dX10_init_88 : decode cX10_init 88 = .ok (.putfield 45, 3) := by decide +kernel
theorem dX10_init_91 : decode cX10_init 91 = .ok (.aload_n 0, 1) := by decide +kernel
theorem dX10_init_92 : decode cX10_init 92 = .ok (.bipush 8, 2) := by decide +kernel
theorem dX10_init_94 : decode cX10_init 94 = .ok (.newarray .int, 2) := by decide +kernel
theorem dX10_init_96 : decode cX10_init 96 = .ok (.putfield 48, 3) := by decide +kernel
theorem dX10_init_99 : decode cX10_init 99 = .ok (.aload_n 0, 1) := by decide +kernel
theorem dX10_init_100 : decode cX10_init 100 = .ok (.bipush 8, 2) := by decide +kernel
theorem dX10_init_102 : decode cX10_init 102 = .ok (.newarray .int, 2) := by decide +kernel
theorem dX10_init_104 : decode cX10_init 104 = .ok (.putfield 51, 3) := by decide +kernel
theorem dX10_init_107 : decode cX10_init 107 = .ok (.aload_n 0, 1) := by decide +kernel
theorem dX10_init_108 : decode cX10_init 108 = .ok (.bipush 8, 2) := by decide +kernel
theorem dX10_init_110 : decode cX10_init 110 = .ok (.newarray .int, 2) := by decide +kernel
theorem dX10_init_112 : decode cX10_init 112 = .ok (.putfield 54, 3) := by decide +kernel
theorem dX10_init_115 : decode cX10_init 115 = .ok (.aload_n 0, 1) := by decide +kernel
theorem dX10_init_116 : decode cX10_init 116 = .ok (.iconst 4, 1) := by decide +kernel
theorem dX10_init_117 : decode cX10_init 117 = .ok (.newarray .boolean, 2) := by decide +kernel
theorem dX10_init_119 : decode cX10_init 119 = .ok (.putfield 57, 3) := by decide +kernel
theorem dX10_init_122 : decode cX10_init 122 = .ok (.aload_n 0, 1) := by decide +kernel
theorem dX10_init_123 : decode cX10_init 123 = .ok (.getfield 32, 3) := by decide +kernel
theorem dX10_init_126 : decode cX10_init 126 = .ok (.iconst 0, 1) := by decide +kernel
theorem dX10_init_127 : decode cX10_init 127 = .ok (.bipush (-9), 2) := by decide +kernel
theorem dX10_init_129 : decode cX10_init 129 = .ok (.iastore, 1) := by decide +kernel
theorem dX10_init_130 : decode cX10_init 130 = .ok (.aload_n 0, 1) := by decide +kernel
theorem dX10_init_131 : decode cX10_init 131 = .ok (.getfield 32, 3) := by decide +kernel
theorem dX10_init_134 : decode cX10_init 134 = .ok (.iconst 2, 1) := by decide +kernel
theorem dX10_init_135 : decode cX10_init 135 = .ok (.sipush 300, 3) := by decide +kernel
theorem dX10_init_138 : decode cX10_init 138 = .ok (.iastore, 1) := by decide +kernel
theorem dX10_init_139 : decode cX10_init 139 = .ok (.aload_n 0, 1) := by decide +kernel
theorem dX10_init_140 : decode cX10_init 140 = .ok (.getfield 32, 3) := by decide +kernel
theorem dX10_init_143 : decode cX10_init 143 = .ok (.iconst 3, 1) := by decide +kernel
theorem dX10_init_144 : decode cX10_init 144 = .ok (.sipush 500, 3) := by decide +kernel
theorem dX10_init_147 : decode cX10_init 147 = .ok (.iastore, 1) := by decide +kernel
theorem dX10_init_148 : decode cX10_init 148 = .ok (.aload_n 0, 1) := by decide +kernel
theorem dX10_init_149 : decode cX10_init 149 = .ok (.getfield 32, 3) := by decide +kernel
theorem dX10_init_152 : decode cX10_init 152 = .ok (.iconst 4, 1) := by decide +kernel
theorem dX10_init_153 : decode cX10_init 153 = .ok (.bipush 20, 2) := by decide +kernel
theorem dX10_init_155 : decode cX10_init 155 = .ok (.iastore, 1) := by decide +kernel
theorem dX10_init_156 : decode cX10_init 156 = .ok (.aload_n 0, 1) := by decide +kernel
theorem dX10_init_157 : decode cX10_init 157 = .ok (.getfield 32, 3) := by decide +kernel
theorem dX10_init_160 : decode cX10_init 160 = .ok (.iconst 5, 1) := by decide +kernel
theorem dX10_init_161 : decode cX10_init 161 = .ok (.bipush 6, 2) := by decide +kernel
theorem dX10_init_163 : decode cX10_init 163 = .ok (.iastore, 1) := by decide +kernel
theorem dX10_init_164 : decode cX10_init 164 = .ok (.aload_n 0, 1) := by decide +kernel
theorem dX10_init_165 : decode cX10_init 165 = .ok (.getfield 39, 3) := by decide +kernel
theorem dX10_init_168 : decode cX10_init 168 = .ok (.iconst 0, 1) := by decide +kernel
theorem dX10_init_169 : decode cX10_init 169 = .ok (.iconst 1, 1) := by decide +kernel
theorem dX10_init_170 : decode cX10_init 170 = .ok (.iastore, 1) := by decide +kernel
theorem dX10_init_171 : decode cX10_init 171 = .ok (.aload_n 0, 1) := by decide +kernel
theorem dX10_init_172 : decode cX10_init 172 = .ok (.invokevirtual 61, 3) := by decide +kernel
theorem dX10_init_175 : decode cX10_init 175 = .ok (.return_, 1) := by decide +kernel
theorem dX10_in_0 : decode cX10_in 0 = .ok (.iload_n 0, 1) := by decide +kernel
theorem dX10_in_1 : decode cX10_in 1 = .ok (.iload_n 1, 1) := by decide +kernel
theorem dX10_in_2 : decode cX10_in 2 = .ok (.if_icmp .lt 12, 3) := by decide +kernel
theorem dX10_in_5 : decode cX10_in 5 = .ok (.iload_n 0, 1) := by decide +kernel
theorem dX10_in_6 : decode cX10_in 6 = .ok (.iload_n 2, 1) := by decide +kernel
theorem dX10_in_7 : decode cX10_in 7 = .ok (.if_icmp .gt 7, 3) := by decide +kernel
theorem dX10_in_10 : decode cX10_in 10 = .ok (.iconst 1, 1) := by decide +kernel
theorem dX10_in_11 : decode cX10_in 11 = .ok (.goto 4, 3) := by decide +kernel
theorem dX10_in_14 : decode cX10_in 14 = .ok (.iconst 0, 1) := by decide +kernel
theorem dX10_in_15 : decode cX10_in 15 = .ok (.ireturn, 1) := by decide +kernel
theorem dX10_fresh_0 : decode cX10_fresh 0 = .ok (.iconst 0, 1) := by decide +kernel
theorem dX10_fresh_1 : decode cX10_fresh 1 = .ok (.istore_n 1, 1) := by decide +kernel
theorem dX10_fresh_2 : decode cX10_fresh 2 = .ok (.iload_n 1, 1) := by decide +kernel
theorem dX10_fresh_3 : decode cX10_fresh 3 = .ok (.bipush 8, 2) := by decide +kernel
theorem dX10_fresh_5 : decode cX10_fresh 5 = .ok (.if_icmp .ge 27, 3) := by decide +kernel
theorem dX10_fresh_8 : decode cX10_fresh 8 = .ok (.aload_n 0, 1) := by decide +kernel
theorem dX10_fresh_9 : decode cX10_fresh 9 = .ok (.getfield 23, 3) := by decide +kernel
theorem dX10_fresh_12 : decode cX10_fresh 12 = .ok (.iload_n 1, 1) := by decide +kernel
theorem dX10_fresh_13 : decode cX10_fresh 13 = .ok (.sipush 300, 3) := by decide +kernel
theorem dX10_fresh_16 : decode cX10_fresh 16 = .ok (.iastore, 1) := by decide +kernel
theorem dX10_fresh_17 : decode cX10_fresh 17 = .ok (.aload_n 0, 1) := by decide +kernel
theorem dX10_fresh_18 : decode cX10_fresh 18 = .ok (.getfield 26, 3) := by decide +kernel
theorem dX10_fresh_21 : decode cX10_fresh 21 = .ok (.iload_n 1, 1) := by decide +kernel
theorem dX10_fresh_22 : decode cX10_fresh 22 = .ok (.sipush 300, 3) := by decide +kernel
theorem dX10_fresh_25 : decode cX10_fresh 25 = .ok (.iastore, 1) := by decide +kernel
theorem dX10_fresh_26 : decode cX10_fresh 26 = .ok (.iinc 1 1, 3) := by decide +kernel
theorem dX10_fresh_29 : decode cX10_fresh 29 = .ok (.goto (-27), 3) := by decide +kernel
theorem dX10_fresh_32 : decode cX10_fresh 32 = .ok (.iconst 0, 1) := by decide +kernel
theorem dX10_fresh_33 : decode cX10_fresh 33 = .ok (.istore_n 1, 1) := by decide +kernel
theorem dX10_fresh_34 : decode cX10_fresh 34 = .ok (.iload_n 1, 1) := by decide +kernel
theorem dX10_fresh_35 : decode cX10_fresh 35 = .ok (.iconst 4, 1) := by decide +kernel
theorem dX10_fresh_36 : decode cX10_fresh 36 = .ok (.if_icmp .ge 16, 3) := by decide +kernel
theorem dX10_fresh_39 : decode cX10_fresh 39 = .ok (.aload_n 0, 1) := by decide +kernel
theorem dX10_fresh_40 : decode cX10_fresh 40 = .ok (.getfield 35, 3) := by decide +kernel
theorem dX10_fresh_43 : decode cX10_fresh 43 = .ok (.iload_n 1, 1) := by decide +kernel
theorem dX10_fresh_44 : decode cX10_fresh 44 = .ok (.lconst 0, 1) := by decide +kernel
theorem dX10_fresh_45 : decode cX10_fresh 45 = .ok (.lastore, 1) := by decide +kernel
theorem dX10_fresh_46 : decode cX10_fresh 46 = .ok (.iinc 1 1, 3) := by decide +kernel
theorem dX10_fresh_49 : decode cX10_fresh 49 = .ok (.goto (-15), 3) := by decide +kernel
theorem dX10_fresh_52 : decode cX10_fresh 52 = .ok (.return_, 1) := by decide +kernel
theorem dX10_isCooler_0 : decode cX10_isCooler 0 = .ok (.iload_n 1, 1) := by decide +kernel
theorem dX10_isCooler_1 : decode cX10_isCooler 1 = .ok (.iconst 0, 1) := by decide +kernel
theorem dX10_isCooler_2 : decode cX10_isCooler 2 = .ok (.aload_n 0, 1) := by decide +kernel
theorem dX10_isCooler_3 : decode cX10_isCooler 3 = .ok (.getfield 67, 3) := by decide +kernel
theorem dX10_isCooler_6 : decode cX10_isCooler 6 = .ok (.iconst 1, 1) := by decide +kernel
theorem dX10_isCooler_7 : decode cX10_isCooler 7 = .ok (.isub, 1) := by decide +kernel
theorem dX10_isCooler_8 : decode cX10_isCooler 8 = .ok (.invokestatic 70, 3) := by decide +kernel
theorem dX10_isCooler_11 : decode cX10_isCooler 11 = .ok (.ireturn, 1) := by decide +kernel
theorem dX10_cooler_0 : decode cX10_cooler 0 = .ok (.aload_n 0, 1) := by decide +kernel
theorem dX10_cooler_1 : decode cX10_cooler 1 = .ok (.iconst 0, 1) := by decide +kernel
theorem dX10_cooler_2 : decode cX10_cooler 2 = .ok (.putfield 64, 3) := by decide +kernel
theorem dX10_cooler_5 : decode cX10_cooler 5 = .ok (.iload_n 1, 1) := by decide +kernel
theorem dX10_cooler_6 : decode cX10_cooler 6 = .ok (.iconst 0, 1) := by decide +kernel
theorem dX10_cooler_7 : decode cX10_cooler 7 = .ok (.iconst 2, 1) := by decide +kernel
theorem dX10_cooler_8 : decode cX10_cooler 8 = .ok (.invokestatic 70, 3) := by decide +kernel
theorem dX10_cooler_11 : decode cX10_cooler 11 = .ok (.ifCond .eq 78, 3) := by decide +kernel
theorem dX10_cooler_14 : decode cX10_cooler 14 = .ok (.iload_n 1, 1) := by decide +kernel
theorem dX10_cooler_15 : decode cX10_cooler 15 = .ok (.ifCond .le 58, 3) := by decide +kernel
theorem dX10_cooler_18 : decode cX10_cooler 18 = .ok (.iload_n 2, 1) := by decide +kernel
theorem dX10_cooler_19 : decode cX10_cooler 19 = .ok (.iconst 0, 1) := by decide +kernel
theorem dX10_cooler_20 : decode cX10_cooler 20 = .ok (.bipush 50, 2) := by decide +kernel
theorem dX10_cooler_22 : decode cX10_cooler 22 = .ok (.invokestatic 70, 3) := by decide +kernel
theorem dX10_cooler_25 : decode cX10_cooler 25 = .ok (.ifCond .eq 64, 3) := by decide +kernel
theorem dX10_cooler_28 : decode cX10_cooler 28 = .ok (.iload_n 3, 1) := by decide +kernel
theorem dX10_cooler_29 : decode cX10_cooler 29 = .ok (.iload_n 2, 1) := by decide +kernel
theorem dX10_cooler_30 : decode cX10_cooler 30 = .ok (.bipush 50, 2) := by decide +kernel
theorem dX10_cooler_32 : decode cX10_cooler 32 = .ok (.invokestatic 70, 3) := by decide +kernel
theorem dX10_cooler_35 : decode cX10_cooler 35 = .ok (.ifCond .eq 54, 3) := by decide +kernel
theorem dX10_cooler_38 : decode cX10_cooler 38 = .ok (.iload 4, 2) := by decide +kernel
theorem dX10_cooler_40 : decode cX10_cooler 40 = .ok (.iload_n 3, 1) := by decide +kernel
theorem dX10_cooler_41 : decode cX10_cooler 41 = .ok (.bipush 50, 2) := by decide +kernel
theorem dX10_cooler_43 : decode cX10_cooler 43 = .ok (.invokestatic 70, 3) := by decide +kernel
theorem dX10_cooler_46 : decode cX10_cooler 46 = .ok (.ifCond .eq 43, 3) := by decide +kernel
theorem dX10_cooler_49 : decode cX10_cooler 49 = .ok (.iload 5, 2) := by decide +kernel
theorem dX10_cooler_51 : decode cX10_cooler 51 = .ok (.iload 4, 2) := by decide +kernel
theorem dX10_cooler_53 : decode cX10_cooler 53 = .ok (.bipush 50, 2) := by decide +kernel
theorem dX10_cooler_55 : decode cX10_cooler 55 = .ok (.invokestatic 70, 3) := by decide +kernel
theorem dX10_cooler_58 : decode cX10_cooler 58 = .ok (.ifCond .eq 31, 3) := by decide +kernel
theorem dX10_cooler_61 : decode cX10_cooler 61 = .ok (.iload 6, 2) := by decide +kernel
theorem dX10_cooler_63 : decode cX10_cooler 63 = .ok (.iload 5, 2) := by decide +kernel
theorem dX10_cooler_65 : decode cX10_cooler 65 = .ok (.bipush 50, 2) := by decide +kernel
theorem dX10_cooler_67 : decode cX10_cooler 67 = .ok (.invokestatic 70, 3) := by decide +kernel
theorem dX10_cooler_70 : decode cX10_cooler 70 = .ok (.ifCond .eq 19, 3) := by decide +kernel
theorem dX10_cooler_73 : decode cX10_cooler 73 = .ok (.iload_n 1, 1) := by decide +kernel
theorem dX10_cooler_74 : decode cX10_cooler 74 = .ok (.iconst 2, 1) := by decide +kernel
theorem dX10_cooler_75 : decode cX10_cooler 75 = .ok (.if_icmp .ne 16, 3) := by decide +kernel
theorem dX10_cooler_78 : decode cX10_cooler 78 = .ok (.iload 7, 2) := by decide +kernel
theorem dX10_cooler_80 : decode cX10_cooler 80 = .ok (.iconst 0, 1) := by decide +kernel
theorem dX10_cooler_81 : decode cX10_cooler 81 = .ok (.bipush 60, 2) := by decide +kernel
theorem dX10_cooler_83 : decode cX10_cooler 83 = .ok (.invokestatic 70, 3) := by decide +kernel
theorem dX10_cooler_86 : decode cX10_cooler 86 = .ok (.ifCond .ne 5, 3) := by decide +kernel
theorem dX10_cooler_89 : decode cX10_cooler 89 = .ok (.iconst (-1), 1) := by decide +kernel
theorem dX10_cooler_90 : decode cX10_cooler 90 = .ok (.ireturn, 1) := by decide +kernel
theorem dX10_cooler_91 : decode cX10_cooler 91 = .ok (.aload_n 0, 1) := by decide +kernel
theorem dX10_cooler_92 : decode cX10_cooler 92 = .ok (.getfield 67, 3) := by decide +kernel
theorem dX10_cooler_95 : decode cX10_cooler 95 = .ok (.bipush 6, 2) := by decide +kernel
theorem dX10_cooler_97 : decode cX10_cooler 97 = .ok (.if_icmp .ne 6, 3) := by decide +kernel
theorem dX10_cooler_100 : decode cX10_cooler 100 = .ok (.bipush (-3), 2) := by decide +kernel
theorem dX10_cooler_102 : decode cX10_cooler 102 = .ok (.ireturn, 1) := by decide +kernel
theorem dX10_cooler_103 : decode cX10_cooler 103 = .ok (.iconst 5, 1) := by decide +kernel
theorem dX10_cooler_104 : decode cX10_cooler 104 = .ok (.aload_n 0, 1) := by decide +kernel
theorem dX10_cooler_105 : decode cX10_cooler 105 = .ok (.getfield 67, 3) := by decide +kernel
theorem dX10_cooler_108 : decode cX10_cooler 108 = .ok (.imul, 1) := by decide +kernel
theorem dX10_cooler_109 : decode cX10_cooler 109 = .ok (.istore 8, 2) := by decide +kernel
theorem dX10_cooler_111 : decode cX10_cooler 111 = .ok (.aload_n 0, 1) := by decide +kernel
theorem dX10_cooler_112 : decode cX10_cooler 112 = .ok (.getfield 7, 3) := by decide +kernel
theorem dX10_cooler_115 : decode cX10_cooler 115 = .ok (.aload_n 0, 1) := by decide +kernel
theorem dX10_cooler_116 : decode cX10_cooler 116 = .ok (.getfield 67, 3) := by decide +kernel
theorem dX10_cooler_119 : decode cX10_cooler 119 = .ok (.iload_n 1, 1) := by decide +kernel
theorem dX10_cooler_120 : decode cX10_cooler 120 = .ok (.iastore, 1) := by decide +kernel
theorem dX10_cooler_121 : decode cX10_cooler 121 = .ok (.aload_n 0, 1) := by decide +kernel
theorem dX10_cooler_122 : decode cX10_cooler 122 = .ok (.getfield 13, 3) := by decide +kernel
theorem dX10_cooler_125 : decode cX10_cooler 125 = .ok (.iload 8, 2) := by decide +kernel
theorem dX10_cooler_127 : decode cX10_cooler 127 = .ok (.iload_n 2, 1) := by decide +kernel
theorem dX10_cooler_128 : decode cX10_cooler 128 = .ok (.iastore, 1) := by decide +kernel
theorem dX10_cooler_129 : decode cX10_cooler 129 = .ok (.aload_n 0, 1) := by decide +kernel
theorem dX10_cooler_130 : decode cX10_cooler 130 = .ok (.getfield 13, 3) := by decide +kernel
theorem dX10_cooler_133 : decode cX10_cooler 133 = .ok (.iload 8, 2) := by decide +kernel
theorem dX10_cooler_135 : decode cX10_cooler 135 = .ok (.iconst 1, 1) := by decide +kernel
theorem dX10_cooler_136 : decode cX10_cooler 136 = .ok (.iadd, 1) := by decide +kernel
theorem dX10_cooler_137 : decode cX10_cooler 137 = .ok (.iload_n 3, 1) := by decide +kernel
theorem dX10_cooler_138 : decode cX10_cooler 138 = .ok (.iastore, 1) := by decide +kernel
theorem dX10_cooler_139 : decode cX10_cooler 139 = .ok (.aload_n 0, 1) := by decide +kernel
theorem dX10_cooler_140 : decode cX10_cooler 140 = .ok (.getfield 13, 3) := by decide +kernel
theorem dX10_cooler_143 : decode cX10_cooler 143 = .ok (.iload 8, 2) := by decide +kernel
theorem dX10_cooler_145 : decode cX10_cooler 145 = .ok (.iconst 2, 1) := by decide +kernel
theorem dX10_cooler_146 : decode cX10_cooler 146 = .ok (.iadd, 1) := by decide +kernel
theorem dX10_cooler_147 : decode cX10_cooler 147 = .ok (.iload 4, 2) := by decide +kernel
theorem dX10_cooler_149 : decode cX10_cooler 149 = .ok (.iastore, 1) := by decide +kernel
theorem dX10_cooler_150 : decode cX10_cooler 150 = .ok (.aload_n 0, 1) := by decide +kernel
theorem dX10_cooler_151 : decode cX10_cooler 151 = .ok (.getfield 13, 3) := by decide +kernel
theorem dX10_cooler_154 : decode cX10_cooler 154 = .ok (.iload 8, 2) := by decide +kernel
theorem dX10_cooler_156 : decode cX10_cooler 156 = .ok (.iconst 3, 1) := by decide +kernel
theorem dX10_cooler_157 : decode cX10_cooler 157 = .ok (.iadd, 1) := by decide +kernel
theorem dX10_cooler_158 : decode cX10_cooler 158 = .ok (.iload 5, 2) := by decide +kernel
theorem dX10_cooler_160 : decode cX10_cooler 160 = .ok (.iastore, 1) := by decide +kernel
theorem dX10_cooler_161 : decode cX10_cooler 161 = .ok (.aload_n 0, 1) := by decide +kernel
theorem dX10_cooler_162 : decode cX10_cooler 162 = .ok (.getfield 13, 3) := by decide +kernel
theorem dX10_cooler_165 : decode cX10_cooler 165 = .ok (.iload 8, 2) := by decide +kernel
theorem dX10_cooler_167 : decode cX10_cooler 167 = .ok (.iconst 4, 1) := by decide +kernel
theorem dX10_cooler_168 : decode cX10_cooler 168 = .ok (.iadd, 1) := by decide +kernel
theorem dX10_cooler_169 : decode cX10_cooler 169 = .ok (.iload 6, 2) := by decide +kernel
theorem dX10_cooler_171 : decode cX10_cooler 171 = .ok (.iastore, 1) := by decide +kernel
theorem dX10_cooler_172 : decode cX10_cooler 172 = .ok (.aload_n 0, 1) := by decide +kernel
theorem dX10_cooler_173 : decode cX10_cooler 173 = .ok (.getfield 16, 3) := by decide +kernel
theorem dX10_cooler_176 : decode cX10_cooler 176 = .ok (.aload_n 0, 1) := by decide +kernel
theorem dX10_cooler_177 : decode cX10_cooler 177 = .ok (.getfield 67, 3) := by decide +kernel
theorem dX10_cooler_180 : decode cX10_cooler 180 = .ok (.iload 7, 2) := by decide +kernel
theorem dX10_cooler_182 : decode cX10_cooler 182 = .ok (.iastore, 1) := by decide +kernel
theorem dX10_cooler_183 : decode cX10_cooler 183 = .ok (.aload_n 0, 1) := by decide +kernel
theorem dX10_cooler_184 : decode cX10_cooler 184 = .ok (.dup, 1) := by decide +kernel
theorem dX10_cooler_185 : decode cX10_cooler 185 = .ok (.getfield 67, 3) := by decide +kernel
theorem dX10_cooler_188 : decode cX10_cooler 188 = .ok (.iconst 1, 1) := by decide +kernel
theorem dX10_cooler_189 : decode cX10_cooler 189 = .ok (.iadd, 1) := by decide +kernel
theorem dX10_cooler_190 : decode cX10_cooler 190 = .ok (.putfield 67, 3) := by decide +kernel
theorem dX10_cooler_193 : decode cX10_cooler 193 = .ok (.aload_n 0, 1) := by decide +kernel
theorem dX10_cooler_194 : decode cX10_cooler 194 = .ok (.getfield 67, 3) := by decide +kernel
theorem dX10_cooler_197 : decode cX10_cooler 197 = .ok (.iconst 1, 1) := by decide +kernel
theorem dX10_cooler_198 : decode cX10_cooler 198 = .ok (.isub, 1) := by decide +kernel
theorem dX10_cooler_199 : decode cX10_cooler 199 = .ok (.ireturn, 1) := by decide +kernel
theorem dX10_coldOf_0 : decode cX10_coldOf 0 = .ok (.iload_n 2, 1) := by decide +kernel
theorem dX10_coldOf_1 : decode cX10_coldOf 1 = .ok (.iconst 4, 1) := by decide +kernel
theorem dX10_coldOf_2 : decode cX10_coldOf 2 = .ok (.idiv, 1) := by decide +kernel
theorem dX10_coldOf_3 : decode cX10_coldOf 3 = .ok (.istore_n 3, 1) := by decide +kernel
theorem dX10_coldOf_4 : decode cX10_coldOf 4 = .ok (.aload_n 0, 1) := by decide +kernel
theorem dX10_coldOf_5 : decode cX10_coldOf 5 = .ok (.getfield 7, 3) := by decide +kernel
theorem dX10_coldOf_8 : decode cX10_coldOf 8 = .ok (.iload_n 1, 1) := by decide +kernel
theorem dX10_coldOf_9 : decode cX10_coldOf 9 = .ok (.iaload, 1) := by decide +kernel
theorem dX10_coldOf_10 : decode cX10_coldOf 10 = .ok (.ifCond .le 72, 3) := by decide +kernel
theorem dX10_coldOf_13 : decode cX10_coldOf 13 = .ok (.iload_n 2, 1) := by decide +kernel
theorem dX10_coldOf_14 : decode cX10_coldOf 14 = .ok (.bipush 10, 2) := by decide +kernel
theorem dX10_coldOf_16 : decode cX10_coldOf 16 = .ok (.idiv, 1) := by decide +kernel
theorem dX10_coldOf_17 : decode cX10_coldOf 17 = .ok (.istore 4, 2) := by decide +kernel
theorem dX10_coldOf_19 : decode cX10_coldOf 19 = .ok (.iload_n 2, 1) := by decide +kernel
theorem dX10_coldOf_20 : decode cX10_coldOf 20 = .ok (.bipush 10, 2) := by decide +kernel
theorem dX10_coldOf_22 : decode cX10_coldOf 22 = .ok (.irem, 1) := by decide +kernel
theorem dX10_coldOf_23 : decode cX10_coldOf 23 = .ok (.istore 5, 2) := by decide +kernel
theorem dX10_coldOf_25 : decode cX10_coldOf 25 = .ok (.bipush 10, 2) := by decide +kernel
theorem dX10_coldOf_27 : decode cX10_coldOf 27 = .ok (.iload 5, 2) := by decide +kernel
theorem dX10_coldOf_29 : decode cX10_coldOf 29 = .ok (.isub, 1) := by decide +kernel
theorem dX10_coldOf_30 : decode cX10_coldOf 30 = .ok (.aload_n 0, 1) := by decide +kernel
theorem dX10_coldOf_31 : decode cX10_coldOf 31 = .ok (.getfield 13, 3) := by decide +kernel
theorem dX10_coldOf_34 : decode cX10_coldOf 34 = .ok (.iconst 5, 1) := by decide +kernel
theorem dX10_coldOf_35 : decode cX10_coldOf 35 = .ok (.iload_n 1, 1) := by decide +kernel
theorem dX10_coldOf_36 : decode cX10_coldOf 36 = .ok (.imul, 1) := by decide +kernel
theorem dX10_coldOf_37 : decode cX10_coldOf 37 = .ok (.iload 4, 2) := by decide +kernel
theorem dX10_coldOf_39 : decode cX10_coldOf 39 = .ok (.iadd, 1) := by decide +kernel
theorem dX10_coldOf_40 : decode cX10_coldOf 40 = .ok (.iaload, 1) := by decide +kernel
theorem dX10_coldOf_41 : decode cX10_coldOf 41 = .ok (.imul, 1) := by decide +kernel
theorem dX10_coldOf_42 : decode cX10_coldOf 42 = .ok (.istore 6, 2) := by decide +kernel
theorem dX10_coldOf_44 : decode cX10_coldOf 44 = .ok (.iload 6, 2) := by decide +kernel
theorem dX10_coldOf_46 : decode cX10_coldOf 46 = .ok (.iload 5, 2) := by decide +kernel
theorem dX10_coldOf_48 : decode cX10_coldOf 48 = .ok (.ifCond .le 22, 3) := by decide +kernel
theorem dX10_coldOf_51 : decode cX10_coldOf 51 = .ok (.iload 5, 2) := by decide +kernel
theorem dX10_coldOf_53 : decode cX10_coldOf 53 = .ok (.aload_n 0, 1) := by decide +kernel
theorem dX10_coldOf_54 : decode cX10_coldOf 54 = .ok (.getfield 13, 3) := by decide +kernel
theorem dX10_coldOf_57 : decode cX10_coldOf 57 = .ok (.iconst 5, 1) := by decide +kernel
theorem dX10_coldOf_58 : decode cX10_coldOf 58 = .ok (.iload_n 1, 1) := by decide +kernel
theorem dX10_coldOf_59 : decode cX10_coldOf 59 = .ok (.imul, 1) := by decide +kernel
theorem dX10_coldOf_60 : decode cX10_coldOf 60 = .ok (.iload 4, 2) := by decide +kernel
theorem dX10_coldOf_62 : decode cX10_coldOf 62 = .ok (.iadd, 1) := by decide +kernel
theorem dX10_coldOf_63 : decode cX10_coldOf 63 = .ok (.iconst 1, 1) := by decide +kernel
theorem dX10_coldOf_64 : decode cX10_coldOf 64 = .ok (.iadd, 1) := by decide +kernel
theorem dX10_coldOf_65 : decode cX10_coldOf 65 = .ok (.iaload, 1) := by decide +kernel
theorem dX10_coldOf_66 : decode cX10_coldOf 66 = .ok (.imul, 1) := by decide +kernel
theorem dX10_coldOf_67 : decode cX10_coldOf 67 = .ok (.goto 4, 3) := by decide +kernel
theorem dX10_coldOf_70 : decode cX10_coldOf 70 = .ok (.iconst 0, 1) := by decide +kernel
theorem dX10_coldOf_71 : decode cX10_coldOf 71 = .ok (.iadd, 1) := by decide +kernel
theorem dX10_coldOf_72 : decode cX10_coldOf 72 = .ok (.istore 6, 2) := by decide +kernel
theorem dX10_coldOf_74 : decode cX10_coldOf 74 = .ok (.iload_n 3, 1) := by decide +kernel
theorem dX10_coldOf_75 : decode cX10_coldOf 75 = .ok (.iload 6, 2) := by decide +kernel
theorem dX10_coldOf_77 : decode cX10_coldOf 77 = .ok (.bipush 10, 2) := by decide +kernel
theorem dX10_coldOf_79 : decode cX10_coldOf 79 = .ok (.idiv, 1) := by decide +kernel
theorem dX10_coldOf_80 : decode cX10_coldOf 80 = .ok (.iadd, 1) := by decide +kernel
theorem dX10_coldOf_81 : decode cX10_coldOf 81 = .ok (.istore_n 3, 1) := by decide +kernel
theorem dX10_coldOf_82 : decode cX10_coldOf 82 = .ok (.aload_n 0, 1) := by decide +kernel
theorem dX10_coldOf_83 : decode cX10_coldOf 83 = .ok (.getfield 7, 3) := by decide +kernel
theorem dX10_coldOf_86 : decode cX10_coldOf 86 = .ok (.iload_n 1, 1) := by decide +kernel
theorem dX10_coldOf_87 : decode cX10_coldOf 87 = .ok (.iaload, 1) := by decide +kernel
theorem dX10_coldOf_88 : decode cX10_coldOf 88 = .ok (.iconst 2, 1) := by decide +kernel
theorem dX10_coldOf_89 : decode cX10_coldOf 89 = .ok (.if_icmp .ne 22, 3) := by decide +kernel
theorem dX10_coldOf_92 : decode cX10_coldOf 92 = .ok (.iload_n 3, 1) := by decide +kernel
theorem dX10_coldOf_93 : decode cX10_coldOf 93 = .ok (.aload_n 0, 1) := by decide +kernel
theorem dX10_coldOf_94 : decode cX10_coldOf 94 = .ok (.getfield 16, 3) := by decide +kernel
theorem dX10_coldOf_97 : decode cX10_coldOf 97 = .ok (.iload_n 1, 1) := by decide +kernel
theorem dX10_coldOf_98 : decode cX10_coldOf 98 = .ok (.iaload, 1) := by decide +kernel
theorem dX10_coldOf_99 : decode cX10_coldOf 99 = .ok (.if_icmp .le 12, 3) := by decide +kernel
theorem dX10_coldOf_102 : decode cX10_coldOf 102 = .ok (.aload_n 0, 1) := by decide +kernel
theorem dX10_coldOf_103 : decode cX10_coldOf 103 = .ok (.getfield 16, 3) := by decide +kernel
theorem dX10_coldOf_106 : decode cX10_coldOf 106 = .ok (.iload_n 1, 1) := by decide +kernel
theorem dX10_coldOf_107 : decode cX10_coldOf 107 = .ok (.iaload, 1) := by decide +kernel
theorem dX10_coldOf_108 : decode cX10_coldOf 108 = .ok (.goto 4, 3) := by decide +kernel
theorem dX10_coldOf_111 : decode cX10_coldOf 111 = .ok (.iload_n 3, 1) := by decide +kernel
theorem dX10_coldOf_112 : decode cX10_coldOf 112 = .ok (.ireturn, 1) := by decide +kernel
theorem dX10_cold_0 : decode cX10_cold 0 = .ok (.aload_n 0, 1) := by decide +kernel
theorem dX10_cold_1 : decode cX10_cold 1 = .ok (.iconst 0, 1) := by decide +kernel
theorem dX10_cold_2 : decode cX10_cold 2 = .ok (.putfield 64, 3) := by decide +kernel
theorem dX10_cold_5 : decode cX10_cold 5 = .ok (.aload_n 0, 1) := by decide +kernel
theorem dX10_cold_6 : decode cX10_cold 6 = .ok (.iload_n 1, 1) := by decide +kernel
theorem dX10_cold_7 : decode cX10_cold 7 = .ok (.invokevirtual 74, 3) := by decide +kernel
theorem dX10_cold_10 : decode cX10_cold 10 = .ok (.ifCond .eq 13, 3) := by decide +kernel
theorem dX10_cold_13 : decode cX10_cold 13 = .ok (.iload_n 2, 1) := by decide +kernel
theorem dX10_cold_14 : decode cX10_cold 14 = .ok (.iconst 0, 1) := by decide +kernel
theorem dX10_cold_15 : decode cX10_cold 15 = .ok (.bipush 40, 2) := by decide +kernel
theorem dX10_cold_17 : decode cX10_cold 17 = .ok (.invokestatic 70, 3) := by decide +kernel
theorem dX10_cold_20 : decode cX10_cold 20 = .ok (.ifCond .ne 5, 3) := by decide +kernel
theorem dX10_cold_23 : decode cX10_cold 23 = .ok (.iconst (-1), 1) := by decide +kernel
theorem dX10_cold_24 : decode cX10_cold 24 = .ok (.ireturn, 1) := by decide +kernel
theorem dX10_cold_25 : decode cX10_cold 25 = .ok (.aload_n 0, 1) := by decide +kernel
theorem dX10_cold_26 : decode cX10_cold 26 = .ok (.dup, 1) := by decide +kernel
theorem dX10_cold_27 : decode cX10_cold 27 = .ok (.getfield 78, 3) := by decide +kernel
theorem dX10_cold_30 : decode cX10_cold 30 = .ok (.aload_n 0, 1) := by decide +kernel
theorem dX10_cold_31 : decode cX10_cold 31 = .ok (.getfield 7, 3) := by decide +kernel
theorem dX10_cold_34 : decode cX10_cold 34 = .ok (.iload_n 1, 1) := by decide +kernel
theorem dX10_cold_35 : decode cX10_cold 35 = .ok (.iaload, 1) := by decide +kernel
theorem dX10_cold_36 : decode cX10_cold 36 = .ok (.ifCond .ne 7, 3) := by decide +kernel
theorem dX10_cold_39 : decode cX10_cold 39 = .ok (.lconst 1, 1) := by decide +kernel
theorem dX10_cold_40 : decode cX10_cold 40 = .ok (.goto 22, 3) := by decide +kernel
theorem dX10_cold_43 : decode cX10_cold 43 = .ok (.aload_n 0, 1) := by decide +kernel
theorem dX10_cold_44 : decode cX10_cold 44 = .ok (.getfield 7, 3) := by decide +kernel
theorem dX10_cold_47 : decode cX10_cold 47 = .ok (.iload_n 1, 1) := by decide +kernel
theorem dX10_cold_48 : decode cX10_cold 48 = .ok (.iaload, 1) := by decide +kernel
theorem dX10_cold_49 : decode cX10_cold 49 = .ok (.iconst 1, 1) := by decide +kernel
theorem dX10_cold_50 : decode cX10_cold 50 = .ok (.if_icmp .ne 9, 3) := by decide +kernel
theorem dX10_cold_53 : decode cX10_cold 53 = .ok (.ldc2_w 82, 3) := by decide +kernel
theorem dX10_cold_56 : decode cX10_cold 56 = .ok (.goto 6, 3) := by decide +kernel
theorem dX10_cold_59 : decode cX10_cold 59 = .ok (.ldc2_w 84, 3) := by decide +kernel
theorem dX10_cold_62 : decode cX10_cold 62 = .ok (.ladd, 1) := by decide +kernel
theorem dX10_cold_63 : decode cX10_cold 63 = .ok (.putfield 78, 3) := by decide +kernel
theorem dX10_cold_66 : decode cX10_cold 66 = .ok (.aload_n 0, 1) := by decide +kernel
theorem dX10_cold_67 : decode cX10_cold 67 = .ok (.iload_n 1, 1) := by decide +kernel
theorem dX10_cold_68 : decode cX10_cold 68 = .ok (.iload_n 2, 1) := by decide +kernel
theorem dX10_cold_69 : decode cX10_cold 69 = .ok (.invokevirtual 86, 3) := by decide +kernel
theorem dX10_cold_72 : decode cX10_cold 72 = .ok (.ireturn, 1) := by decide +kernel
theorem dX10_cells_0 : decode cX10_cells 0 = .ok (.aload_n 0, 1) := by decide +kernel
theorem dX10_cells_1 : decode cX10_cells 1 = .ok (.iconst 0, 1) := by decide +kernel
theorem dX10_cells_2 : decode cX10_cells 2 = .ok (.putfield 64, 3) := by decide +kernel
theorem dX10_cells_5 : decode cX10_cells 5 = .ok (.iload_n 1, 1) := by decide +kernel
theorem dX10_cells_6 : decode cX10_cells 6 = .ok (.iconst 1, 1) := by decide +kernel
theorem dX10_cells_7 : decode cX10_cells 7 = .ok (.bipush 8, 2) := by decide +kernel
theorem dX10_cells_9 : decode cX10_cells 9 = .ok (.invokestatic 70, 3) := by decide +kernel
theorem dX10_cells_12 : decode cX10_cells 12 = .ok (.ifCond .eq 13, 3) := by decide +kernel
theorem dX10_cells_15 : decode cX10_cells 15 = .ok (.iload_n 2, 1) := by decide +kernel
theorem dX10_cells_16 : decode cX10_cells 16 = .ok (.iconst 1, 1) := by decide +kernel
theorem dX10_cells_17 : decode cX10_cells 17 = .ok (.bipush 50, 2) := by decide +kernel
theorem dX10_cells_19 : decode cX10_cells 19 = .ok (.invokestatic 70, 3) := by decide +kernel
theorem dX10_cells_22 : decode cX10_cells 22 = .ok (.ifCond .ne 5, 3) := by decide +kernel
theorem dX10_cells_25 : decode cX10_cells 25 = .ok (.iconst (-1), 1) := by decide +kernel
theorem dX10_cells_26 : decode cX10_cells 26 = .ok (.ireturn, 1) := by decide +kernel
theorem dX10_cells_27 : decode cX10_cells 27 = .ok (.aload_n 0, 1) := by decide +kernel
theorem dX10_cells_28 : decode cX10_cells 28 = .ok (.getfield 90, 3) := by decide +kernel
theorem dX10_cells_31 : decode cX10_cells 31 = .ok (.ifCond .eq 6, 3) := by decide +kernel
theorem dX10_cells_34 : decode cX10_cells 34 = .ok (.bipush (-2), 2) := by decide +kernel
theorem dX10_cells_36 : decode cX10_cells 36 = .ok (.ireturn, 1) := by decide +kernel
theorem dX10_cells_37 : decode cX10_cells 37 = .ok (.aload_n 0, 1) := by decide +kernel
theorem dX10_cells_38 : decode cX10_cells 38 = .ok (.iload_n 1, 1) := by decide +kernel
theorem dX10_cells_39 : decode cX10_cells 39 = .ok (.putfield 19, 3) := by decide +kernel
theorem dX10_cells_42 : decode cX10_cells 42 = .ok (.aload_n 0, 1) := by decide +kernel
theorem dX10_cells_43 : decode cX10_cells 43 = .ok (.iload_n 2, 1) := by decide +kernel
theorem dX10_cells_44 : decode cX10_cells 44 = .ok (.putfield 29, 3) := by decide +kernel
theorem dX10_cells_47 : decode cX10_cells 47 = .ok (.aload_n 0, 1) := by decide +kernel
theorem dX10_cells_48 : decode cX10_cells 48 = .ok (.invokevirtual 61, 3) := by decide +kernel
theorem dX10_cells_51 : decode cX10_cells 51 = .ok (.iconst 1, 1) := by decide +kernel
theorem dX10_cells_52 : decode cX10_cells 52 = .ok (.ireturn, 1) := by decide +kernel
theorem dX10_set_0 : decode cX10_set 0 = .ok (.aload_n 0, 1) := by decide +kernel
theorem dX10_set_1 : decode cX10_set 1 = .ok (.iconst 0, 1) := by decide +kernel
theorem dX10_set_2 : decode cX10_set 2 = .ok (.putfield 64, 3) := by decide +kernel
theorem dX10_set_5 : decode cX10_set 5 = .ok (.iload_n 1, 1) := by decide +kernel
theorem dX10_set_6 : decode cX10_set 6 = .ok (.ifCond .ne 25, 3) := by decide +kernel
theorem dX10_set_9 : decode cX10_set 9 = .ok (.iload_n 2, 1) := by decide +kernel
theorem dX10_set_10 : decode cX10_set 10 = .ok (.bipush (-9), 2) := by decide +kernel
theorem dX10_set_12 : decode cX10_set 12 = .ok (.if_icmp .eq 11, 3) := by decide +kernel
theorem dX10_set_15 : decode cX10_set 15 = .ok (.aload_n 0, 1) := by decide +kernel
theorem dX10_set_16 : decode cX10_set 16 = .ok (.iload_n 2, 1) := by decide +kernel
theorem dX10_set_17 : decode cX10_set 17 = .ok (.invokevirtual 74, 3) := by decide +kernel
theorem dX10_set_20 : decode cX10_set 20 = .ok (.ifCond .eq 7, 3) := by decide +kernel
theorem dX10_set_23 : decode cX10_set 23 = .ok (.iconst 1, 1) := by decide +kernel
theorem dX10_set_24 : decode cX10_set 24 = .ok (.goto 106, 3) := by decide +kernel
theorem dX10_set_27 : decode cX10_set 27 = .ok (.iconst 0, 1) := by decide +kernel
theorem dX10_set_28 : decode cX10_set 28 = .ok (.goto 102, 3) := by decide +kernel
theorem dX10_set_31 : decode cX10_set 31 = .ok (.iload_n 1, 1) := by decide +kernel
theorem dX10_set_32 : decode cX10_set 32 = .ok (.iconst 1, 1) := by decide +kernel
theorem dX10_set_33 : decode cX10_set 33 = .ok (.if_icmp .ne 13, 3) := by decide +kernel
theorem dX10_set_36 : decode cX10_set 36 = .ok (.iload_n 2, 1) := by decide +kernel
theorem dX10_set_37 : decode cX10_set 37 = .ok (.iconst 0, 1) := by decide +kernel
theorem dX10_set_38 : decode cX10_set 38 = .ok (.bipush 40, 2) := by decide +kernel
theorem dX10_set_40 : decode cX10_set 40 = .ok (.invokestatic 70, 3) := by decide +kernel
theorem dX10_set_43 : decode cX10_set 43 = .ok (.goto 87, 3) := by decide +kernel
theorem dX10_set_46 : decode cX10_set 46 = .ok (.iload_n 1, 1) := by decide +kernel
theorem dX10_set_47 : decode cX10_set 47 = .ok (.iconst 2, 1) := by decide +kernel
theorem dX10_set_48 : decode cX10_set 48 = .ok (.if_icmp .ne 14, 3) := by decide +kernel
theorem dX10_set_51 : decode cX10_set 51 = .ok (.iload_n 2, 1) := by decide +kernel
theorem dX10_set_52 : decode cX10_set 52 = .ok (.iconst 0, 1) := by decide +kernel
theorem dX10_set_53 : decode cX10_set 53 = .ok (.sipush 400, 3) := by decide +kernel
theorem dX10_set_56 : decode cX10_set 56 = .ok (.invokestatic 70, 3) := by decide +kernel
theorem dX10_set_59 : decode cX10_set 59 = .ok (.goto 71, 3) := by decide +kernel
theorem dX10_set_62 : decode cX10_set 62 = .ok (.iload_n 1, 1) := by decide +kernel
theorem dX10_set_63 : decode cX10_set 63 = .ok (.iconst 3, 1) := by decide +kernel
theorem dX10_set_64 : decode cX10_set 64 = .ok (.if_icmp .ne 31, 3) := by decide +kernel
theorem dX10_set_67 : decode cX10_set 67 = .ok (.iload_n 2, 1) := by decide +kernel
theorem dX10_set_68 : decode cX10_set 68 = .ok (.bipush 10, 2) := by decide +kernel
theorem dX10_set_70 : decode cX10_set 70 = .ok (.sipush 5000, 3) := by decide +kernel
theorem dX10_set_73 : decode cX10_set 73 = .ok (.invokestatic 70, 3) := by decide +kernel
theorem dX10_set_76 : decode cX10_set 76 = .ok (.ifCond .eq 15, 3) := by decide +kernel
theorem dX10_set_79 : decode cX10_set 79 = .ok (.iload_n 2, 1) := by decide +kernel
theorem dX10_set_80 : decode cX10_set 80 = .ok (.aload_n 0, 1) := by decide +kernel
theorem dX10_set_81 : decode cX10_set 81 = .ok (.getfield 93, 3) := by decide +kernel
theorem dX10_set_84 : decode cX10_set 84 = .ok (.if_icmp .lt 7, 3) := by decide +kernel
theorem dX10_set_87 : decode cX10_set 87 = .ok (.iconst 1, 1) := by decide +kernel
end
section
theorem dX10_set_88 : decode cX10_set 88 = .ok (.goto 42, 3) := by decide +kernel
theorem dX10_set_91 : decode cX10_set 91 = .ok (.iconst 0, 1) := by decide +kernel
theorem dX10_set_92 : decode cX10_set 92 = .ok (.goto 38, 3) := by decide +kernel
theorem dX10_set_95 : decode cX10_set 95 = .ok (.iload_n 1, 1) := by decide +kernel
theorem dX10_set_96 : decode cX10_set 96 = .ok (.iconst 4, 1) := by decide +kernel
theorem dX10_set_97 : decode cX10_set 97 = .ok (.if_icmp .ne 13, 3) := by decide +kernel
theorem dX10_set_100 : decode cX10_set 100 = .ok (.iload_n 2, 1) := by decide +kernel
theorem dX10_set_101 : decode cX10_set 101 = .ok (.iconst 5, 1) := by decide +kernel
theorem dX10_set_102 : decode cX10_set 102 = .ok (.bipush 60, 2) := by decide +kernel
theorem dX10_set_104 : decode cX10_set 104 = .ok (.invokestatic 70, 3) := by decide +kernel
theorem dX10_set_107 : decode cX10_set 107 = .ok (.goto 23, 3) := by decide +kernel
theorem dX10_set_110 : decode cX10_set 110 = .ok (.iload_n 1, 1) := by decide +kernel
theorem dX10_set_111 : decode cX10_set 111 = .ok (.iconst 5, 1) := by decide +kernel
theorem dX10_set_112 : decode cX10_set 112 = .ok (.if_icmp .ne 17, 3) := by decide +kernel
theorem dX10_set_115 : decode cX10_set 115 = .ok (.iload_n 2, 1) := by decide +kernel
theorem dX10_set_116 : decode cX10_set 116 = .ok (.iconst 1, 1) := by decide +kernel
theorem dX10_set_117 : decode cX10_set 117 = .ok (.bipush 30, 2) := by decide +kernel
theorem dX10_set_119 : decode cX10_set 119 = .ok (.invokestatic 70, 3) := by decide +kernel
theorem dX10_set_122 : decode cX10_set 122 = .ok (.ifCond .eq 7, 3) := by decide +kernel
theorem dX10_set_125 : decode cX10_set 125 = .ok (.iconst 1, 1) := by decide +kernel
theorem dX10_set_126 : decode cX10_set 126 = .ok (.goto 4, 3) := by decide +kernel
theorem dX10_set_129 : decode cX10_set 129 = .ok (.iconst 0, 1) := by decide +kernel
theorem dX10_set_130 : decode cX10_set 130 = .ok (.istore_n 3, 1) := by decide +kernel
theorem dX10_set_131 : decode cX10_set 131 = .ok (.iload_n 3, 1) := by decide +kernel
theorem dX10_set_132 : decode cX10_set 132 = .ok (.ifCond .ne 5, 3) := by decide +kernel
theorem dX10_set_135 : decode cX10_set 135 = .ok (.iconst (-1), 1) := by decide +kernel
theorem dX10_set_136 : decode cX10_set 136 = .ok (.ireturn, 1) := by decide +kernel
theorem dX10_set_137 : decode cX10_set 137 = .ok (.aload_n 0, 1) := by decide +kernel
theorem dX10_set_138 : decode cX10_set 138 = .ok (.getfield 32, 3) := by decide +kernel
theorem dX10_set_141 : decode cX10_set 141 = .ok (.iload_n 1, 1) := by decide +kernel
theorem dX10_set_142 : decode cX10_set 142 = .ok (.iaload, 1) := by decide +kernel
theorem dX10_set_143 : decode cX10_set 143 = .ok (.istore 4, 2) := by decide +kernel
theorem dX10_set_145 : decode cX10_set 145 = .ok (.aload_n 0, 1) := by decide +kernel
theorem dX10_set_146 : decode cX10_set 146 = .ok (.getfield 32, 3) := by decide +kernel
theorem dX10_set_149 : decode cX10_set 149 = .ok (.iload_n 1, 1) := by decide +kernel
theorem dX10_set_150 : decode cX10_set 150 = .ok (.iload_n 2, 1) := by decide +kernel
theorem dX10_set_151 : decode cX10_set 151 = .ok (.iastore, 1) := by decide +kernel
theorem dX10_set_152 : decode cX10_set 152 = .ok (.iload 4, 2) := by decide +kernel
theorem dX10_set_154 : decode cX10_set 154 = .ok (.ireturn, 1) := by decide +kernel
theorem dX10_side_0 : decode cX10_side 0 = .ok (.aload_n 0, 1) := by decide +kernel
theorem dX10_side_1 : decode cX10_side 1 = .ok (.iconst 0, 1) := by decide +kernel
theorem dX10_side_2 : decode cX10_side 2 = .ok (.putfield 64, 3) := by decide +kernel
theorem dX10_side_5 : decode cX10_side 5 = .ok (.iload_n 1, 1) := by decide +kernel
theorem dX10_side_6 : decode cX10_side 6 = .ok (.iconst 0, 1) := by decide +kernel
theorem dX10_side_7 : decode cX10_side 7 = .ok (.iconst 1, 1) := by decide +kernel
theorem dX10_side_8 : decode cX10_side 8 = .ok (.invokestatic 70, 3) := by decide +kernel
theorem dX10_side_11 : decode cX10_side 11 = .ok (.ifCond .eq 17, 3) := by decide +kernel
theorem dX10_side_14 : decode cX10_side 14 = .ok (.iload_n 2, 1) := by decide +kernel
theorem dX10_side_15 : decode cX10_side 15 = .ok (.iconst 0, 1) := by decide +kernel
theorem dX10_side_16 : decode cX10_side 16 = .ok (.aload_n 0, 1) := by decide +kernel
theorem dX10_side_17 : decode cX10_side 17 = .ok (.getfield 19, 3) := by decide +kernel
theorem dX10_side_20 : decode cX10_side 20 = .ok (.iconst 1, 1) := by decide +kernel
theorem dX10_side_21 : decode cX10_side 21 = .ok (.isub, 1) := by decide +kernel
theorem dX10_side_22 : decode cX10_side 22 = .ok (.invokestatic 70, 3) := by decide +kernel
theorem dX10_side_25 : decode cX10_side 25 = .ok (.ifCond .ne 5, 3) := by decide +kernel
theorem dX10_side_28 : decode cX10_side 28 = .ok (.iconst (-1), 1) := by decide +kernel
theorem dX10_side_29 : decode cX10_side 29 = .ok (.ireturn, 1) := by decide +kernel
theorem dX10_side_30 : decode cX10_side 30 = .ok (.iload_n 1, 1) := by decide +kernel
theorem dX10_side_31 : decode cX10_side 31 = .ok (.ifCond .ne 12, 3) := by decide +kernel
theorem dX10_side_34 : decode cX10_side 34 = .ok (.aload_n 0, 1) := by decide +kernel
theorem dX10_side_35 : decode cX10_side 35 = .ok (.getfield 23, 3) := by decide +kernel
theorem dX10_side_38 : decode cX10_side 38 = .ok (.iload_n 2, 1) := by decide +kernel
theorem dX10_side_39 : decode cX10_side 39 = .ok (.iaload, 1) := by decide +kernel
theorem dX10_side_40 : decode cX10_side 40 = .ok (.goto 9, 3) := by decide +kernel
theorem dX10_side_43 : decode cX10_side 43 = .ok (.aload_n 0, 1) := by decide +kernel
theorem dX10_side_44 : decode cX10_side 44 = .ok (.getfield 26, 3) := by decide +kernel
theorem dX10_side_47 : decode cX10_side 47 = .ok (.iload_n 2, 1) := by decide +kernel
theorem dX10_side_48 : decode cX10_side 48 = .ok (.iaload, 1) := by decide +kernel
theorem dX10_side_49 : decode cX10_side 49 = .ok (.ireturn, 1) := by decide +kernel
theorem dX10_heat_0 : decode cX10_heat 0 = .ok (.aload_n 0, 1) := by decide +kernel
theorem dX10_heat_1 : decode cX10_heat 1 = .ok (.iconst 0, 1) := by decide +kernel
theorem dX10_heat_2 : decode cX10_heat 2 = .ok (.putfield 64, 3) := by decide +kernel
theorem dX10_heat_5 : decode cX10_heat 5 = .ok (.iload_n 1, 1) := by decide +kernel
theorem dX10_heat_6 : decode cX10_heat 6 = .ok (.iconst 0, 1) := by decide +kernel
theorem dX10_heat_7 : decode cX10_heat 7 = .ok (.iconst 3, 1) := by decide +kernel
theorem dX10_heat_8 : decode cX10_heat 8 = .ok (.invokestatic 70, 3) := by decide +kernel
theorem dX10_heat_11 : decode cX10_heat 11 = .ok (.ifCond .eq 12, 3) := by decide +kernel
theorem dX10_heat_14 : decode cX10_heat 14 = .ok (.aload_n 0, 1) := by decide +kernel
theorem dX10_heat_15 : decode cX10_heat 15 = .ok (.getfield 35, 3) := by decide +kernel
theorem dX10_heat_18 : decode cX10_heat 18 = .ok (.iload_n 1, 1) := by decide +kernel
theorem dX10_heat_19 : decode cX10_heat 19 = .ok (.laload, 1) := by decide +kernel
theorem dX10_heat_20 : decode cX10_heat 20 = .ok (.goto 6, 3) := by decide +kernel
theorem dX10_heat_23 : decode cX10_heat 23 = .ok (.ldc2_w 96, 3) := by decide +kernel
theorem dX10_heat_26 : decode cX10_heat 26 = .ok (.lreturn, 1) := by decide +kernel
theorem dX10_trips_0 : decode cX10_trips 0 = .ok (.aload_n 0, 1) := by decide +kernel
theorem dX10_trips_1 : decode cX10_trips 1 = .ok (.getfield 90, 3) := by decide +kernel
theorem dX10_trips_4 : decode cX10_trips 4 = .ok (.iconst 4, 1) := by decide +kernel
theorem dX10_trips_5 : decode cX10_trips 5 = .ok (.if_icmp .eq 23, 3) := by decide +kernel
theorem dX10_trips_8 : decode cX10_trips 8 = .ok (.aload_n 0, 1) := by decide +kernel
theorem dX10_trips_9 : decode cX10_trips 9 = .ok (.iconst 4, 1) := by decide +kernel
theorem dX10_trips_10 : decode cX10_trips 10 = .ok (.putfield 90, 3) := by decide +kernel
theorem dX10_trips_13 : decode cX10_trips 13 = .ok (.aload_n 0, 1) := by decide +kernel
theorem dX10_trips_14 : decode cX10_trips 14 = .ok (.iconst 0, 1) := by decide +kernel
theorem dX10_trips_15 : decode cX10_trips 15 = .ok (.putfield 98, 3) := by decide +kernel
theorem dX10_trips_18 : decode cX10_trips 18 = .ok (.aload_n 0, 1) := by decide +kernel
theorem dX10_trips_19 : decode cX10_trips 19 = .ok (.dup, 1) := by decide +kernel
theorem dX10_trips_20 : decode cX10_trips 20 = .ok (.getfield 101, 3) := by decide +kernel
theorem dX10_trips_23 : decode cX10_trips 23 = .ok (.iconst 1, 1) := by decide +kernel
theorem dX10_trips_24 : decode cX10_trips 24 = .ok (.iadd, 1) := by decide +kernel
theorem dX10_trips_25 : decode cX10_trips 25 = .ok (.putfield 101, 3) := by decide +kernel
theorem dX10_trips_28 : decode cX10_trips 28 = .ok (.return_, 1) := by decide +kernel
theorem dX10_start_0 : decode cX10_start 0 = .ok (.aload_n 0, 1) := by decide +kernel
theorem dX10_start_1 : decode cX10_start 1 = .ok (.iconst 0, 1) := by decide +kernel
theorem dX10_start_2 : decode cX10_start 2 = .ok (.putfield 64, 3) := by decide +kernel
theorem dX10_start_5 : decode cX10_start 5 = .ok (.aload_n 0, 1) := by decide +kernel
theorem dX10_start_6 : decode cX10_start 6 = .ok (.getfield 90, 3) := by decide +kernel
theorem dX10_start_9 : decode cX10_start 9 = .ok (.ifCond .ne 36, 3) := by decide +kernel
theorem dX10_start_12 : decode cX10_start 12 = .ok (.aload_n 0, 1) := by decide +kernel
theorem dX10_start_13 : decode cX10_start 13 = .ok (.getfield 39, 3) := by decide +kernel
theorem dX10_start_16 : decode cX10_start 16 = .ok (.iconst 0, 1) := by decide +kernel
theorem dX10_start_17 : decode cX10_start 17 = .ok (.iaload, 1) := by decide +kernel
theorem dX10_start_18 : decode cX10_start 18 = .ok (.iconst 1, 1) := by decide +kernel
theorem dX10_start_19 : decode cX10_start 19 = .ok (.if_icmp .eq 13, 3) := by decide +kernel
theorem dX10_start_22 : decode cX10_start 22 = .ok (.aload_n 0, 1) := by decide +kernel
theorem dX10_start_23 : decode cX10_start 23 = .ok (.getfield 39, 3) := by decide +kernel
theorem dX10_start_26 : decode cX10_start 26 = .ok (.iconst 1, 1) := by decide +kernel
theorem dX10_start_27 : decode cX10_start 27 = .ok (.iaload, 1) := by decide +kernel
theorem dX10_start_28 : decode cX10_start 28 = .ok (.iconst 1, 1) := by decide +kernel
theorem dX10_start_29 : decode cX10_start 29 = .ok (.if_icmp .ne 16, 3) := by decide +kernel
theorem dX10_start_32 : decode cX10_start 32 = .ok (.aload_n 0, 1) := by decide +kernel
theorem dX10_start_33 : decode cX10_start 33 = .ok (.getfield 93, 3) := by decide +kernel
theorem dX10_start_36 : decode cX10_start 36 = .ok (.aload_n 0, 1) := by decide +kernel
theorem dX10_start_37 : decode cX10_start 37 = .ok (.getfield 32, 3) := by decide +kernel
theorem dX10_start_40 : decode cX10_start 40 = .ok (.iconst 3, 1) := by decide +kernel
theorem dX10_start_41 : decode cX10_start 41 = .ok (.iaload, 1) := by decide +kernel
theorem dX10_start_42 : decode cX10_start 42 = .ok (.if_icmp .lt 6, 3) := by decide +kernel
theorem dX10_start_45 : decode cX10_start 45 = .ok (.bipush (-2), 2) := by decide +kernel
theorem dX10_start_47 : decode cX10_start 47 = .ok (.ireturn, 1) := by decide +kernel
theorem dX10_start_48 : decode cX10_start 48 = .ok (.aload_n 0, 1) := by decide +kernel
theorem dX10_start_49 : decode cX10_start 49 = .ok (.iconst 1, 1) := by decide +kernel
theorem dX10_start_50 : decode cX10_start 50 = .ok (.putfield 90, 3) := by decide +kernel
theorem dX10_start_53 : decode cX10_start 53 = .ok (.aload_n 0, 1) := by decide +kernel
theorem dX10_start_54 : decode cX10_start 54 = .ok (.iconst 1, 1) := by decide +kernel
theorem dX10_start_55 : decode cX10_start 55 = .ok (.putfield 104, 3) := by decide +kernel
theorem dX10_start_58 : decode cX10_start 58 = .ok (.aload_n 0, 1) := by decide +kernel
theorem dX10_start_59 : decode cX10_start 59 = .ok (.iconst 1, 1) := by decide +kernel
theorem dX10_start_60 : decode cX10_start 60 = .ok (.putfield 108, 3) := by decide +kernel
theorem dX10_start_63 : decode cX10_start 63 = .ok (.aload_n 0, 1) := by decide +kernel
theorem dX10_start_64 : decode cX10_start 64 = .ok (.getfield 90, 3) := by decide +kernel
theorem dX10_start_67 : decode cX10_start 67 = .ok (.ireturn, 1) := by decide +kernel
theorem dX10_low_0 : decode cX10_low 0 = .ok (.aload_n 0, 1) := by decide +kernel
theorem dX10_low_1 : decode cX10_low 1 = .ok (.iconst 0, 1) := by decide +kernel
theorem dX10_low_2 : decode cX10_low 2 = .ok (.putfield 64, 3) := by decide +kernel
theorem dX10_low_5 : decode cX10_low 5 = .ok (.aload_n 0, 1) := by decide +kernel
theorem dX10_low_6 : decode cX10_low 6 = .ok (.getfield 90, 3) := by decide +kernel
theorem dX10_low_9 : decode cX10_low 9 = .ok (.iconst 2, 1) := by decide +kernel
theorem dX10_low_10 : decode cX10_low 10 = .ok (.if_icmp .eq 6, 3) := by decide +kernel
theorem dX10_low_13 : decode cX10_low 13 = .ok (.bipush (-2), 2) := by decide +kernel
theorem dX10_low_15 : decode cX10_low 15 = .ok (.ireturn, 1) := by decide +kernel
theorem dX10_low_16 : decode cX10_low 16 = .ok (.aload_n 0, 1) := by decide +kernel
theorem dX10_low_17 : decode cX10_low 17 = .ok (.iconst 3, 1) := by decide +kernel
theorem dX10_low_18 : decode cX10_low 18 = .ok (.putfield 90, 3) := by decide +kernel
theorem dX10_low_21 : decode cX10_low 21 = .ok (.aload_n 0, 1) := by decide +kernel
theorem dX10_low_22 : decode cX10_low 22 = .ok (.iconst 0, 1) := by decide +kernel
theorem dX10_low_23 : decode cX10_low 23 = .ok (.putfield 98, 3) := by decide +kernel
theorem dX10_low_26 : decode cX10_low 26 = .ok (.aload_n 0, 1) := by decide +kernel
theorem dX10_low_27 : decode cX10_low 27 = .ok (.getfield 90, 3) := by decide +kernel
theorem dX10_low_30 : decode cX10_low 30 = .ok (.ireturn, 1) := by decide +kernel
theorem dX10_high_0 : decode cX10_high 0 = .ok (.aload_n 0, 1) := by decide +kernel
theorem dX10_high_1 : decode cX10_high 1 = .ok (.iconst 0, 1) := by decide +kernel
theorem dX10_high_2 : decode cX10_high 2 = .ok (.putfield 64, 3) := by decide +kernel
theorem dX10_high_5 : decode cX10_high 5 = .ok (.aload_n 0, 1) := by decide +kernel
theorem dX10_high_6 : decode cX10_high 6 = .ok (.getfield 90, 3) := by decide +kernel
theorem dX10_high_9 : decode cX10_high 9 = .ok (.iconst 3, 1) := by decide +kernel
theorem dX10_high_10 : decode cX10_high 10 = .ok (.if_icmp .eq 6, 3) := by decide +kernel
theorem dX10_high_13 : decode cX10_high 13 = .ok (.bipush (-2), 2) := by decide +kernel
theorem dX10_high_15 : decode cX10_high 15 = .ok (.ireturn, 1) := by decide +kernel
theorem dX10_high_16 : decode cX10_high 16 = .ok (.aload_n 0, 1) := by decide +kernel
theorem dX10_high_17 : decode cX10_high 17 = .ok (.iconst 2, 1) := by decide +kernel
theorem dX10_high_18 : decode cX10_high 18 = .ok (.putfield 90, 3) := by decide +kernel
theorem dX10_high_21 : decode cX10_high 21 = .ok (.aload_n 0, 1) := by decide +kernel
theorem dX10_high_22 : decode cX10_high 22 = .ok (.getfield 90, 3) := by decide +kernel
theorem dX10_high_25 : decode cX10_high 25 = .ok (.ireturn, 1) := by decide +kernel
theorem dX10_trip_0 : decode cX10_trip 0 = .ok (.aload_n 0, 1) := by decide +kernel
theorem dX10_trip_1 : decode cX10_trip 1 = .ok (.iconst 0, 1) := by decide +kernel
theorem dX10_trip_2 : decode cX10_trip 2 = .ok (.putfield 64, 3) := by decide +kernel
theorem dX10_trip_5 : decode cX10_trip 5 = .ok (.aload_n 0, 1) := by decide +kernel
theorem dX10_trip_6 : decode cX10_trip 6 = .ok (.getfield 90, 3) := by decide +kernel
theorem dX10_trip_9 : decode cX10_trip 9 = .ok (.ifCond .eq 11, 3) := by decide +kernel
theorem dX10_trip_12 : decode cX10_trip 12 = .ok (.aload_n 0, 1) := by decide +kernel
theorem dX10_trip_13 : decode cX10_trip 13 = .ok (.getfield 90, 3) := by decide +kernel
theorem dX10_trip_16 : decode cX10_trip 16 = .ok (.iconst 4, 1) := by decide +kernel
theorem dX10_trip_17 : decode cX10_trip 17 = .ok (.if_icmp .ne 6, 3) := by decide +kernel
theorem dX10_trip_20 : decode cX10_trip 20 = .ok (.bipush (-2), 2) := by decide +kernel
theorem dX10_trip_22 : decode cX10_trip 22 = .ok (.ireturn, 1) := by decide +kernel
theorem dX10_trip_23 : decode cX10_trip 23 = .ok (.aload_n 0, 1) := by decide +kernel
theorem dX10_trip_24 : decode cX10_trip 24 = .ok (.invokevirtual 111, 3) := by decide +kernel
theorem dX10_trip_27 : decode cX10_trip 27 = .ok (.aload_n 0, 1) := by decide +kernel
theorem dX10_trip_28 : decode cX10_trip 28 = .ok (.getfield 90, 3) := by decide +kernel
theorem dX10_trip_31 : decode cX10_trip 31 = .ok (.ireturn, 1) := by decide +kernel
theorem dX10_reset_0 : decode cX10_reset 0 = .ok (.aload_n 0, 1) := by decide +kernel
theorem dX10_reset_1 : decode cX10_reset 1 = .ok (.iconst 0, 1) := by decide +kernel
theorem dX10_reset_2 : decode cX10_reset 2 = .ok (.putfield 64, 3) := by decide +kernel
theorem dX10_reset_5 : decode cX10_reset 5 = .ok (.aload_n 0, 1) := by decide +kernel
theorem dX10_reset_6 : decode cX10_reset 6 = .ok (.getfield 90, 3) := by decide +kernel
theorem dX10_reset_9 : decode cX10_reset 9 = .ok (.iconst 4, 1) := by decide +kernel
theorem dX10_reset_10 : decode cX10_reset 10 = .ok (.if_icmp .ne 10, 3) := by decide +kernel
theorem dX10_reset_13 : decode cX10_reset 13 = .ok (.aload_n 0, 1) := by decide +kernel
theorem dX10_reset_14 : decode cX10_reset 14 = .ok (.getfield 113, 3) := by decide +kernel
theorem dX10_reset_17 : decode cX10_reset 17 = .ok (.ifCond .ne 6, 3) := by decide +kernel
theorem dX10_reset_20 : decode cX10_reset 20 = .ok (.bipush (-2), 2) := by decide +kernel
theorem dX10_reset_22 : decode cX10_reset 22 = .ok (.ireturn, 1) := by decide +kernel
theorem dX10_reset_23 : decode cX10_reset 23 = .ok (.aload_n 0, 1) := by decide +kernel
theorem dX10_reset_24 : decode cX10_reset 24 = .ok (.iconst 0, 1) := by decide +kernel
theorem dX10_reset_25 : decode cX10_reset 25 = .ok (.putfield 90, 3) := by decide +kernel
theorem dX10_reset_28 : decode cX10_reset 28 = .ok (.aload_n 0, 1) := by decide +kernel
theorem dX10_reset_29 : decode cX10_reset 29 = .ok (.iconst 0, 1) := by decide +kernel
theorem dX10_reset_30 : decode cX10_reset 30 = .ok (.putfield 113, 3) := by decide +kernel
theorem dX10_reset_33 : decode cX10_reset 33 = .ok (.aload_n 0, 1) := by decide +kernel
theorem dX10_reset_34 : decode cX10_reset 34 = .ok (.getfield 90, 3) := by decide +kernel
theorem dX10_reset_37 : decode cX10_reset 37 = .ok (.ireturn, 1) := by decide +kernel
theorem dX10_goesOn_0 : decode cX10_goesOn 0 = .ok (.aload_n 0, 1) := by decide +kernel
theorem dX10_goesOn_1 : decode cX10_goesOn 1 = .ok (.getfield 39, 3) := by decide +kernel
theorem dX10_goesOn_4 : decode cX10_goesOn 4 = .ok (.iload_n 1, 1) := by decide +kernel
theorem dX10_goesOn_5 : decode cX10_goesOn 5 = .ok (.iaload, 1) := by decide +kernel
theorem dX10_goesOn_6 : decode cX10_goesOn 6 = .ok (.iconst 2, 1) := by decide +kernel
theorem dX10_goesOn_7 : decode cX10_goesOn 7 = .ok (.if_icmp .ge 4, 3) := by decide +kernel
theorem dX10_goesOn_10 : decode cX10_goesOn 10 = .ok (.return_, 1) := by decide +kernel
theorem dX10_goesOn_11 : decode cX10_goesOn 11 = .ok (.aload_n 0, 1) := by decide +kernel
theorem dX10_goesOn_12 : decode cX10_goesOn 12 = .ok (.getfield 45, 3) := by decide +kernel
theorem dX10_goesOn_15 : decode cX10_goesOn 15 = .ok (.iload_n 1, 1) := by decide +kernel
theorem dX10_goesOn_16 : decode cX10_goesOn 16 = .ok (.dup2, 1) := by decide +kernel
theorem dX10_goesOn_17 : decode cX10_goesOn 17 = .ok (.iaload, 1) := by decide +kernel
theorem dX10_goesOn_18 : decode cX10_goesOn 18 = .ok (.iconst 1, 1) := by decide +kernel
theorem dX10_goesOn_19 : decode cX10_goesOn 19 = .ok (.iadd, 1) := by decide +kernel
theorem dX10_goesOn_20 : decode cX10_goesOn 20 = .ok (.iastore, 1) := by decide +kernel
theorem dX10_goesOn_21 : decode cX10_goesOn 21 = .ok (.aload_n 0, 1) := by decide +kernel
theorem dX10_goesOn_22 : decode cX10_goesOn 22 = .ok (.getfield 45, 3) := by decide +kernel
theorem dX10_goesOn_25 : decode cX10_goesOn 25 = .ok (.iload_n 1, 1) := by decide +kernel
theorem dX10_goesOn_26 : decode cX10_goesOn 26 = .ok (.iaload, 1) := by decide +kernel
theorem dX10_goesOn_27 : decode cX10_goesOn 27 = .ok (.aload_n 0, 1) := by decide +kernel
theorem dX10_goesOn_28 : decode cX10_goesOn 28 = .ok (.getfield 32, 3) := by decide +kernel
theorem dX10_goesOn_31 : decode cX10_goesOn 31 = .ok (.iconst 5, 1) := by decide +kernel
theorem dX10_goesOn_32 : decode cX10_goesOn 32 = .ok (.iaload, 1) := by decide +kernel
theorem dX10_goesOn_33 : decode cX10_goesOn 33 = .ok (.if_icmp .ge 4, 3) := by decide +kernel
theorem dX10_goesOn_36 : decode cX10_goesOn 36 = .ok (.return_, 1) := by decide +kernel
theorem dX10_goesOn_37 : decode cX10_goesOn 37 = .ok (.aload_n 0, 1) := by decide +kernel
theorem dX10_goesOn_38 : decode cX10_goesOn 38 = .ok (.getfield 45, 3) := by decide +kernel
theorem dX10_goesOn_41 : decode cX10_goesOn 41 = .ok (.iload_n 1, 1) := by decide +kernel
theorem dX10_goesOn_42 : decode cX10_goesOn 42 = .ok (.iconst 0, 1) := by decide +kernel
theorem dX10_goesOn_43 : decode cX10_goesOn 43 = .ok (.iastore, 1) := by decide +kernel
theorem dX10_goesOn_44 : decode cX10_goesOn 44 = .ok (.aload_n 0, 1) := by decide +kernel
theorem dX10_goesOn_45 : decode cX10_goesOn 45 = .ok (.getfield 39, 3) := by decide +kernel
theorem dX10_goesOn_48 : decode cX10_goesOn 48 = .ok (.iload_n 1, 1) := by decide +kernel
theorem dX10_goesOn_49 : decode cX10_goesOn 49 = .ok (.iaload, 1) := by decide +kernel
theorem dX10_goesOn_50 : decode cX10_goesOn 50 = .ok (.iconst 2, 1) := by decide +kernel
theorem dX10_goesOn_51 : decode cX10_goesOn 51 = .ok (.if_icmp .ne 13, 3) := by decide +kernel
theorem dX10_goesOn_54 : decode cX10_goesOn 54 = .ok (.aload_n 0, 1) := by decide +kernel
theorem dX10_goesOn_55 : decode cX10_goesOn 55 = .ok (.getfield 39, 3) := by decide +kernel
theorem dX10_goesOn_58 : decode cX10_goesOn 58 = .ok (.iload_n 1, 1) := by decide +kernel
theorem dX10_goesOn_59 : decode cX10_goesOn 59 = .ok (.iconst 3, 1) := by decide +kernel
theorem dX10_goesOn_60 : decode cX10_goesOn 60 = .ok (.iastore, 1) := by decide +kernel
theorem dX10_goesOn_61 : decode cX10_goesOn 61 = .ok (.goto 33, 3) := by decide +kernel
theorem dX10_goesOn_64 : decode cX10_goesOn 64 = .ok (.aload_n 0, 1) := by decide +kernel
theorem dX10_goesOn_65 : decode cX10_goesOn 65 = .ok (.getfield 42, 3) := by decide +kernel
theorem dX10_goesOn_68 : decode cX10_goesOn 68 = .ok (.iload_n 1, 1) := by decide +kernel
theorem dX10_goesOn_69 : decode cX10_goesOn 69 = .ok (.iconst 0, 1) := by decide +kernel
theorem dX10_goesOn_70 : decode cX10_goesOn 70 = .ok (.iastore, 1) := by decide +kernel
theorem dX10_goesOn_71 : decode cX10_goesOn 71 = .ok (.aload_n 0, 1) := by decide +kernel
theorem dX10_goesOn_72 : decode cX10_goesOn 72 = .ok (.getfield 39, 3) := by decide +kernel
theorem dX10_goesOn_75 : decode cX10_goesOn 75 = .ok (.iload_n 1, 1) := by decide +kernel
theorem dX10_goesOn_76 : decode cX10_goesOn 76 = .ok (.aload_n 0, 1) := by decide +kernel
theorem dX10_goesOn_77 : decode cX10_goesOn 77 = .ok (.getfield 39, 3) := by decide +kernel
theorem dX10_goesOn_80 : decode cX10_goesOn 80 = .ok (.iconst 1, 1) := by decide +kernel
theorem dX10_goesOn_81 : decode cX10_goesOn 81 = .ok (.iload_n 1, 1) := by decide +kernel
theorem dX10_goesOn_82 : decode cX10_goesOn 82 = .ok (.isub, 1) := by decide +kernel
theorem dX10_goesOn_83 : decode cX10_goesOn 83 = .ok (.iaload, 1) := by decide +kernel
theorem dX10_goesOn_84 : decode cX10_goesOn 84 = .ok (.iconst 1, 1) := by decide +kernel
theorem dX10_goesOn_85 : decode cX10_goesOn 85 = .ok (.if_icmp .ne 7, 3) := by decide +kernel
theorem dX10_goesOn_88 : decode cX10_goesOn 88 = .ok (.iconst 0, 1) := by decide +kernel
theorem dX10_goesOn_89 : decode cX10_goesOn 89 = .ok (.goto 4, 3) := by decide +kernel
theorem dX10_goesOn_92 : decode cX10_goesOn 92 = .ok (.iconst 1, 1) := by decide +kernel
theorem dX10_goesOn_93 : decode cX10_goesOn 93 = .ok (.iastore, 1) := by decide +kernel
theorem dX10_goesOn_94 : decode cX10_goesOn 94 = .ok (.return_, 1) := by decide +kernel
theorem dX10_loads_0 : decode cX10_loads 0 = .ok (.aload_n 0, 1) := by decide +kernel
theorem dX10_loads_1 : decode cX10_loads 1 = .ok (.getfield 39, 3) := by decide +kernel
theorem dX10_loads_4 : decode cX10_loads 4 = .ok (.iconst 0, 1) := by decide +kernel
theorem dX10_loads_5 : decode cX10_loads 5 = .ok (.iaload, 1) := by decide +kernel
theorem dX10_loads_6 : decode cX10_loads 6 = .ok (.iconst 1, 1) := by decide +kernel
theorem dX10_loads_7 : decode cX10_loads 7 = .ok (.if_icmp .ne 7, 3) := by decide +kernel
theorem dX10_loads_10 : decode cX10_loads 10 = .ok (.iconst 0, 1) := by decide +kernel
theorem dX10_loads_11 : decode cX10_loads 11 = .ok (.goto 4, 3) := by decide +kernel
theorem dX10_loads_14 : decode cX10_loads 14 = .ok (.iconst 1, 1) := by decide +kernel
theorem dX10_loads_15 : decode cX10_loads 15 = .ok (.istore_n 1, 1) := by decide +kernel
theorem dX10_loads_16 : decode cX10_loads 16 = .ok (.aload_n 0, 1) := by decide +kernel
theorem dX10_loads_17 : decode cX10_loads 17 = .ok (.getfield 42, 3) := by decide +kernel
theorem dX10_loads_20 : decode cX10_loads 20 = .ok (.iload_n 1, 1) := by decide +kernel
theorem dX10_loads_21 : decode cX10_loads 21 = .ok (.dup2, 1) := by decide +kernel
theorem dX10_loads_22 : decode cX10_loads 22 = .ok (.iaload, 1) := by decide +kernel
theorem dX10_loads_23 : decode cX10_loads 23 = .ok (.iconst 1, 1) := by decide +kernel
theorem dX10_loads_24 : decode cX10_loads 24 = .ok (.iadd, 1) := by decide +kernel
theorem dX10_loads_25 : decode cX10_loads 25 = .ok (.iastore, 1) := by decide +kernel
theorem dX10_loads_26 : decode cX10_loads 26 = .ok (.aload_n 0, 1) := by decide +kernel
theorem dX10_loads_27 : decode cX10_loads 27 = .ok (.getfield 42, 3) := by decide +kernel
theorem dX10_loads_30 : decode cX10_loads 30 = .ok (.iload_n 1, 1) := by decide +kernel
theorem dX10_loads_31 : decode cX10_loads 31 = .ok (.iaload, 1) := by decide +kernel
theorem dX10_loads_32 : decode cX10_loads 32 = .ok (.aload_n 0, 1) := by decide +kernel
theorem dX10_loads_33 : decode cX10_loads 33 = .ok (.getfield 32, 3) := by decide +kernel
theorem dX10_loads_36 : decode cX10_loads 36 = .ok (.iconst 4, 1) := by decide +kernel
theorem dX10_loads_37 : decode cX10_loads 37 = .ok (.iaload, 1) := by decide +kernel
theorem dX10_loads_38 : decode cX10_loads 38 = .ok (.if_icmp .ge 4, 3) := by decide +kernel
theorem dX10_loads_41 : decode cX10_loads 41 = .ok (.return_, 1) := by decide +kernel
theorem dX10_loads_42 : decode cX10_loads 42 = .ok (.aload_n 0, 1) := by decide +kernel
theorem dX10_loads_43 : decode cX10_loads 43 = .ok (.getfield 39, 3) := by decide +kernel
theorem dX10_loads_46 : decode cX10_loads 46 = .ok (.iload_n 1, 1) := by decide +kernel
theorem dX10_loads_47 : decode cX10_loads 47 = .ok (.iconst 2, 1) := by decide +kernel
theorem dX10_loads_48 : decode cX10_loads 48 = .ok (.iastore, 1) := by decide +kernel
theorem dX10_loads_49 : decode cX10_loads 49 = .ok (.aload_n 0, 1) := by decide +kernel
theorem dX10_loads_50 : decode cX10_loads 50 = .ok (.getfield 45, 3) := by decide +kernel
theorem dX10_loads_53 : decode cX10_loads 53 = .ok (.iload_n 1, 1) := by decide +kernel
theorem dX10_loads_54 : decode cX10_loads 54 = .ok (.iconst 0, 1) := by decide +kernel
theorem dX10_loads_55 : decode cX10_loads 55 = .ok (.iastore, 1) := by decide +kernel
theorem dX10_loads_56 : decode cX10_loads 56 = .ok (.aload_n 0, 1) := by decide +kernel
theorem dX10_loads_57 : decode cX10_loads 57 = .ok (.getfield 39, 3) := by decide +kernel
theorem dX10_loads_60 : decode cX10_loads 60 = .ok (.iconst 1, 1) := by decide +kernel
theorem dX10_loads_61 : decode cX10_loads 61 = .ok (.iload_n 1, 1) := by decide +kernel
theorem dX10_loads_62 : decode cX10_loads 62 = .ok (.isub, 1) := by decide +kernel
theorem dX10_loads_63 : decode cX10_loads 63 = .ok (.iaload, 1) := by decide +kernel
theorem dX10_loads_64 : decode cX10_loads 64 = .ok (.ifCond .ne 15, 3) := by decide +kernel
theorem dX10_loads_67 : decode cX10_loads 67 = .ok (.aload_n 0, 1) := by decide +kernel
theorem dX10_loads_68 : decode cX10_loads 68 = .ok (.getfield 39, 3) := by decide +kernel
theorem dX10_loads_71 : decode cX10_loads 71 = .ok (.iconst 1, 1) := by decide +kernel
theorem dX10_loads_72 : decode cX10_loads 72 = .ok (.iload_n 1, 1) := by decide +kernel
theorem dX10_loads_73 : decode cX10_loads 73 = .ok (.isub, 1) := by decide +kernel
theorem dX10_loads_74 : decode cX10_loads 74 = .ok (.iconst 1, 1) := by decide +kernel
theorem dX10_loads_75 : decode cX10_loads 75 = .ok (.iastore, 1) := by decide +kernel
theorem dX10_loads_76 : decode cX10_loads 76 = .ok (.goto 7, 3) := by decide +kernel
theorem dX10_loads_79 : decode cX10_loads 79 = .ok (.aload_n 0, 1) := by decide +kernel
theorem dX10_loads_80 : decode cX10_loads 80 = .ok (.invokevirtual 111, 3) := by decide +kernel
theorem dX10_loads_83 : decode cX10_loads 83 = .ok (.return_, 1) := by decide +kernel
theorem dX10_flows_0 : decode cX10_flows 0 = .ok (.iconst 0, 1) := by decide +kernel
theorem dX10_flows_1 : decode cX10_flows 1 = .ok (.istore_n 1, 1) := by decide +kernel
theorem dX10_flows_2 : decode cX10_flows 2 = .ok (.iload_n 1, 1) := by decide +kernel
theorem dX10_flows_3 : decode cX10_flows 3 = .ok (.aload_n 0, 1) := by decide +kernel
theorem dX10_flows_4 : decode cX10_flows 4 = .ok (.getfield 19, 3) := by decide +kernel
theorem dX10_flows_7 : decode cX10_flows 7 = .ok (.if_icmp .ge 51, 3) := by decide +kernel
theorem dX10_flows_10 : decode cX10_flows 10 = .ok (.aload_n 0, 1) := by decide +kernel
theorem dX10_flows_11 : decode cX10_flows 11 = .ok (.getfield 23, 3) := by decide +kernel
theorem dX10_flows_14 : decode cX10_flows 14 = .ok (.iload_n 1, 1) := by decide +kernel
theorem dX10_flows_15 : decode cX10_flows 15 = .ok (.iaload, 1) := by decide +kernel
theorem dX10_flows_16 : decode cX10_flows 16 = .ok (.aload_n 0, 1) := by decide +kernel
theorem dX10_flows_17 : decode cX10_flows 17 = .ok (.getfield 26, 3) := by decide +kernel
theorem dX10_flows_20 : decode cX10_flows 20 = .ok (.iload_n 1, 1) := by decide +kernel
theorem dX10_flows_21 : decode cX10_flows 21 = .ok (.iaload, 1) := by decide +kernel
theorem dX10_flows_22 : decode cX10_flows 22 = .ok (.isub, 1) := by decide +kernel
theorem dX10_flows_23 : decode cX10_flows 23 = .ok (.aload_n 0, 1) := by decide +kernel
theorem dX10_flows_24 : decode cX10_flows 24 = .ok (.getfield 29, 3) := by decide +kernel
theorem dX10_flows_27 : decode cX10_flows 27 = .ok (.imul, 1) := by decide +kernel
theorem dX10_flows_28 : decode cX10_flows 28 = .ok (.bipush 100, 2) := by decide +kernel
theorem dX10_flows_30 : decode cX10_flows 30 = .ok (.idiv, 1) := by decide +kernel
theorem dX10_flows_31 : decode cX10_flows 31 = .ok (.istore_n 2, 1) := by decide +kernel
theorem dX10_flows_32 : decode cX10_flows 32 = .ok (.aload_n 0, 1) := by decide +kernel
theorem dX10_flows_33 : decode cX10_flows 33 = .ok (.getfield 23, 3) := by decide +kernel
theorem dX10_flows_36 : decode cX10_flows 36 = .ok (.iload_n 1, 1) := by decide +kernel
theorem dX10_flows_37 : decode cX10_flows 37 = .ok (.dup2, 1) := by decide +kernel
theorem dX10_flows_38 : decode cX10_flows 38 = .ok (.iaload, 1) := by decide +kernel
theorem dX10_flows_39 : decode cX10_flows 39 = .ok (.iload_n 2, 1) := by decide +kernel
theorem dX10_flows_40 : decode cX10_flows 40 = .ok (.isub, 1) := by decide +kernel
theorem dX10_flows_41 : decode cX10_flows 41 = .ok (.iastore, 1) := by decide +kernel
theorem dX10_flows_42 : decode cX10_flows 42 = .ok (.aload_n 0, 1) := by decide +kernel
theorem dX10_flows_43 : decode cX10_flows 43 = .ok (.getfield 26, 3) := by decide +kernel
theorem dX10_flows_46 : decode cX10_flows 46 = .ok (.iload_n 1, 1) := by decide +kernel
theorem dX10_flows_47 : decode cX10_flows 47 = .ok (.dup2, 1) := by decide +kernel
theorem dX10_flows_48 : decode cX10_flows 48 = .ok (.iaload, 1) := by decide +kernel
theorem dX10_flows_49 : decode cX10_flows 49 = .ok (.iload_n 2, 1) := by decide +kernel
theorem dX10_flows_50 : decode cX10_flows 50 = .ok (.iadd, 1) := by decide +kernel
theorem dX10_flows_51 : decode cX10_flows 51 = .ok (.iastore, 1) := by decide +kernel
theorem dX10_flows_52 : decode cX10_flows 52 = .ok (.iinc 1 1, 3) := by decide +kernel
theorem dX10_flows_55 : decode cX10_flows 55 = .ok (.goto (-53), 3) := by decide +kernel
theorem dX10_flows_58 : decode cX10_flows 58 = .ok (.aload_n 0, 1) := by decide +kernel
theorem dX10_flows_59 : decode cX10_flows 59 = .ok (.getfield 23, 3) := by decide +kernel
theorem dX10_flows_62 : decode cX10_flows 62 = .ok (.aload_n 0, 1) := by decide +kernel
theorem dX10_flows_63 : decode cX10_flows 63 = .ok (.getfield 19, 3) := by decide +kernel
theorem dX10_flows_66 : decode cX10_flows 66 = .ok (.iconst 1, 1) := by decide +kernel
theorem dX10_flows_67 : decode cX10_flows 67 = .ok (.isub, 1) := by decide +kernel
theorem dX10_flows_68 : decode cX10_flows 68 = .ok (.iaload, 1) := by decide +kernel
theorem dX10_flows_69 : decode cX10_flows 69 = .ok (.istore_n 1, 1) := by decide +kernel
theorem dX10_flows_70 : decode cX10_flows 70 = .ok (.iload_n 1, 1) := by decide +kernel
theorem dX10_flows_71 : decode cX10_flows 71 = .ok (.aload_n 0, 1) := by decide +kernel
theorem dX10_flows_72 : decode cX10_flows 72 = .ok (.getfield 32, 3) := by decide +kernel
theorem dX10_flows_75 : decode cX10_flows 75 = .ok (.iconst 0, 1) := by decide +kernel
theorem dX10_flows_76 : decode cX10_flows 76 = .ok (.iaload, 1) := by decide +kernel
theorem dX10_flows_77 : decode cX10_flows 77 = .ok (.bipush (-9), 2) := by decide +kernel
theorem dX10_flows_79 : decode cX10_flows 79 = .ok (.if_icmp .ne 7, 3) := by decide +kernel
theorem dX10_flows_82 : decode cX10_flows 82 = .ok (.iconst 0, 1) := by decide +kernel
theorem dX10_flows_83 : decode cX10_flows 83 = .ok (.goto 19, 3) := by decide +kernel
theorem dX10_flows_86 : decode cX10_flows 86 = .ok (.aload_n 0, 1) := by decide +kernel
theorem dX10_flows_87 : decode cX10_flows 87 = .ok (.aload_n 0, 1) := by decide +kernel
theorem dX10_flows_88 : decode cX10_flows 88 = .ok (.getfield 32, 3) := by decide +kernel
theorem dX10_flows_91 : decode cX10_flows 91 = .ok (.iconst 0, 1) := by decide +kernel
theorem dX10_flows_92 : decode cX10_flows 92 = .ok (.iaload, 1) := by decide +kernel
theorem dX10_flows_93 : decode cX10_flows 93 = .ok (.aload_n 0, 1) := by decide +kernel
theorem dX10_flows_94 : decode cX10_flows 94 = .ok (.getfield 32, 3) := by decide +kernel
theorem dX10_flows_97 : decode cX10_flows 97 = .ok (.iconst 1, 1) := by decide +kernel
theorem dX10_flows_98 : decode cX10_flows 98 = .ok (.iaload, 1) := by decide +kernel
theorem dX10_flows_99 : decode cX10_flows 99 = .ok (.invokevirtual 86, 3) := by decide +kernel
theorem dX10_flows_102 : decode cX10_flows 102 = .ok (.isub, 1) := by decide +kernel
theorem dX10_flows_103 : decode cX10_flows 103 = .ok (.istore_n 2, 1) := by decide +kernel
theorem dX10_flows_104 : decode cX10_flows 104 = .ok (.iload_n 2, 1) := by decide +kernel
theorem dX10_flows_105 : decode cX10_flows 105 = .ok (.bipush 80, 2) := by decide +kernel
theorem dX10_flows_107 : decode cX10_flows 107 = .ok (.if_icmp .ge 12, 3) := by decide +kernel
theorem dX10_flows_110 : decode cX10_flows 110 = .ok (.bipush 80, 2) := by decide +kernel
theorem dX10_flows_112 : decode cX10_flows 112 = .ok (.iload_n 2, 1) := by decide +kernel
theorem dX10_flows_113 : decode cX10_flows 113 = .ok (.isub, 1) := by decide +kernel
theorem dX10_flows_114 : decode cX10_flows 114 = .ok (.iconst 5, 1) := by decide +kernel
theorem dX10_flows_115 : decode cX10_flows 115 = .ok (.idiv, 1) := by decide +kernel
theorem dX10_flows_116 : decode cX10_flows 116 = .ok (.goto 4, 3) := by decide +kernel
theorem dX10_flows_119 : decode cX10_flows 119 = .ok (.iconst 0, 1) := by decide +kernel
theorem dX10_flows_120 : decode cX10_flows 120 = .ok (.istore_n 3, 1) := by decide +kernel
theorem dX10_flows_121 : decode cX10_flows 121 = .ok (.iload_n 3, 1) := by decide +kernel
theorem dX10_flows_122 : decode cX10_flows 122 = .ok (.bipush 20, 2) := by decide +kernel
theorem dX10_flows_124 : decode cX10_flows 124 = .ok (.if_icmp .le 8, 3) := by decide +kernel
theorem dX10_flows_127 : decode cX10_flows 127 = .ok (.bipush 20, 2) := by decide +kernel
theorem dX10_flows_129 : decode cX10_flows 129 = .ok (.goto 4, 3) := by decide +kernel
theorem dX10_flows_132 : decode cX10_flows 132 = .ok (.iload_n 3, 1) := by decide +kernel
theorem dX10_flows_133 : decode cX10_flows 133 = .ok (.istore_n 3, 1) := by decide +kernel
theorem dX10_flows_134 : decode cX10_flows 134 = .ok (.iload_n 2, 1) := by decide +kernel
theorem dX10_flows_135 : decode cX10_flows 135 = .ok (.bipush 80, 2) := by decide +kernel
theorem dX10_flows_137 : decode cX10_flows 137 = .ok (.if_icmp .ge 8, 3) := by decide +kernel
theorem dX10_flows_140 : decode cX10_flows 140 = .ok (.bipush 80, 2) := by decide +kernel
theorem dX10_flows_142 : decode cX10_flows 142 = .ok (.goto 4, 3) := by decide +kernel
theorem dX10_flows_145 : decode cX10_flows 145 = .ok (.iload_n 2, 1) := by decide +kernel
theorem dX10_flows_146 : decode cX10_flows 146 = .ok (.istore 4, 2) := by decide +kernel
theorem dX10_flows_148 : decode cX10_flows 148 = .ok (.aload_n 0, 1) := by decide +kernel
theorem dX10_flows_149 : decode cX10_flows 149 = .ok (.getfield 35, 3) := by decide +kernel
theorem dX10_flows_152 : decode cX10_flows 152 = .ok (.iconst 0, 1) := by decide +kernel
theorem dX10_flows_153 : decode cX10_flows 153 = .ok (.dup2, 1) := by decide +kernel
theorem dX10_flows_154 : decode cX10_flows 154 = .ok (.laload, 1) := by decide +kernel
theorem dX10_flows_155 : decode cX10_flows 155 = .ok (.aload_n 0, 1) := by decide +kernel
theorem dX10_flows_156 : decode cX10_flows 156 = .ok (.getfield 32, 3) := by decide +kernel
theorem dX10_flows_159 : decode cX10_flows 159 = .ok (.iconst 2, 1) := by decide +kernel
theorem dX10_flows_160 : decode cX10_flows 160 = .ok (.iaload, 1) := by decide +kernel
theorem dX10_flows_161 : decode cX10_flows 161 = .ok (.i2l, 1) := by decide +kernel
theorem dX10_flows_162 : decode cX10_flows 162 = .ok (.ladd, 1) := by decide +kernel
theorem dX10_flows_163 : decode cX10_flows 163 = .ok (.lastore, 1) := by decide +kernel
theorem dX10_flows_164 : decode cX10_flows 164 = .ok (.aload_n 0, 1) := by decide +kernel
theorem dX10_flows_165 : decode cX10_flows 165 = .ok (.getfield 35, 3) := by decide +kernel
theorem dX10_flows_168 : decode cX10_flows 168 = .ok (.iconst 1, 1) := by decide +kernel
theorem dX10_flows_169 : decode cX10_flows 169 = .ok (.dup2, 1) := by decide +kernel
theorem dX10_flows_170 : decode cX10_flows 170 = .ok (.laload, 1) := by decide +kernel
theorem dX10_flows_171 : decode cX10_flows 171 = .ok (.aload_n 0, 1) := by decide +kernel
theorem dX10_flows_172 : decode cX10_flows 172 = .ok (.getfield 26, 3) := by decide +kernel
theorem dX10_flows_175 : decode cX10_flows 175 = .ok (.iconst 0, 1) := by decide +kernel
theorem dX10_flows_176 : decode cX10_flows 176 = .ok (.iaload, 1) := by decide +kernel
theorem dX10_flows_177 : decode cX10_flows 177 = .ok (.i2l, 1) := by decide +kernel
theorem dX10_flows_178 : decode cX10_flows 178 = .ok (.ladd, 1) := by decide +kernel
theorem dX10_flows_179 : decode cX10_flows 179 = .ok (.lastore, 1) := by decide +kernel
theorem dX10_flows_180 : decode cX10_flows 180 = .ok (.aload_n 0, 1) := by decide +kernel
theorem dX10_flows_181 : decode cX10_flows 181 = .ok (.getfield 35, 3) := by decide +kernel
theorem dX10_flows_184 : decode cX10_flows 184 = .ok (.iconst 2, 1) := by decide +kernel
theorem dX10_flows_185 : decode cX10_flows 185 = .ok (.dup2, 1) := by decide +kernel
theorem dX10_flows_186 : decode cX10_flows 186 = .ok (.laload, 1) := by decide +kernel
theorem dX10_flows_187 : decode cX10_flows 187 = .ok (.iload_n 1, 1) := by decide +kernel
theorem dX10_flows_188 : decode cX10_flows 188 = .ok (.iload 4, 2) := by decide +kernel
theorem dX10_flows_190 : decode cX10_flows 190 = .ok (.isub, 1) := by decide +kernel
theorem dX10_flows_191 : decode cX10_flows 191 = .ok (.i2l, 1) := by decide +kernel
theorem dX10_flows_192 : decode cX10_flows 192 = .ok (.ladd, 1) := by decide +kernel
theorem dX10_flows_193 : decode cX10_flows 193 = .ok (.lastore, 1) := by decide +kernel
theorem dX10_flows_194 : decode cX10_flows 194 = .ok (.aload_n 0, 1) := by decide +kernel
theorem dX10_flows_195 : decode cX10_flows 195 = .ok (.getfield 35, 3) := by decide +kernel
theorem dX10_flows_198 : decode cX10_flows 198 = .ok (.iconst 3, 1) := by decide +kernel
theorem dX10_flows_199 : decode cX10_flows 199 = .ok (.dup2, 1) := by decide +kernel
theorem dX10_flows_200 : decode cX10_flows 200 = .ok (.laload, 1) := by decide +kernel
theorem dX10_flows_201 : decode cX10_flows 201 = .ok (.lconst 1, 1) := by decide +kernel
theorem dX10_flows_202 : decode cX10_flows 202 = .ok (.ladd, 1) := by decide +kernel
theorem dX10_flows_203 : decode cX10_flows 203 = .ok (.lastore, 1) := by decide +kernel
theorem dX10_flows_204 : decode cX10_flows 204 = .ok (.aload_n 0, 1) := by decide +kernel
theorem dX10_flows_205 : decode cX10_flows 205 = .ok (.getfield 19, 3) := by decide +kernel
theorem dX10_flows_208 : decode cX10_flows 208 = .ok (.iconst 1, 1) := by decide +kernel
theorem dX10_flows_209 : decode cX10_flows 209 = .ok (.isub, 1) := by decide +kernel
theorem dX10_flows_210 : decode cX10_flows 210 = .ok (.istore 5, 2) := by decide +kernel
theorem dX10_flows_212 : decode cX10_flows 212 = .ok (.iload 5, 2) := by decide +kernel
theorem dX10_flows_214 : decode cX10_flows 214 = .ok (.ifCond .le 25, 3) := by decide +kernel
theorem dX10_flows_217 : decode cX10_flows 217 = .ok (.aload_n 0, 1) := by decide +kernel
theorem dX10_flows_218 : decode cX10_flows 218 = .ok (.getfield 23, 3) := by decide +kernel
theorem dX10_flows_221 : decode cX10_flows 221 = .ok (.iload 5, 2) := by decide +kernel
theorem dX10_flows_223 : decode cX10_flows 223 = .ok (.aload_n 0, 1) := by decide +kernel
theorem dX10_flows_224 : decode cX10_flows 224 = .ok (.getfield 23, 3) := by decide +kernel
theorem dX10_flows_227 : decode cX10_flows 227 = .ok (.iload 5, 2) := by decide +kernel
theorem dX10_flows_229 : decode cX10_flows 229 = .ok (.iconst 1, 1) := by decide +kernel
theorem dX10_flows_230 : decode cX10_flows 230 = .ok (.isub, 1) := by decide +kernel
theorem dX10_flows_231 : decode cX10_flows 231 = .ok (.iaload, 1) := by decide +kernel
theorem dX10_flows_232 : decode cX10_flows 232 = .ok (.iastore, 1) := by decide +kernel
theorem dX10_flows_233 : decode cX10_flows 233 = .ok (.iinc 5 (-1), 3) := by decide +kernel
theorem dX10_flows_236 : decode cX10_flows 236 = .ok (.goto (-24), 3) := by decide +kernel
theorem dX10_flows_239 : decode cX10_flows 239 = .ok (.aload_n 0, 1) := by decide +kernel
theorem dX10_flows_240 : decode cX10_flows 240 = .ok (.getfield 23, 3) := by decide +kernel
theorem dX10_flows_243 : decode cX10_flows 243 = .ok (.iconst 0, 1) := by decide +kernel
theorem dX10_flows_244 : decode cX10_flows 244 = .ok (.aload_n 0, 1) := by decide +kernel
theorem dX10_flows_245 : decode cX10_flows 245 = .ok (.getfield 32, 3) := by decide +kernel
theorem dX10_flows_248 : decode cX10_flows 248 = .ok (.iconst 2, 1) := by decide +kernel
theorem dX10_flows_249 : decode cX10_flows 249 = .ok (.iaload, 1) := by decide +kernel
theorem dX10_flows_250 : decode cX10_flows 250 = .ok (.iastore, 1) := by decide +kernel
theorem dX10_flows_251 : decode cX10_flows 251 = .ok (.iconst 0, 1) := by decide +kernel
theorem dX10_flows_252 : decode cX10_flows 252 = .ok (.istore 5, 2) := by decide +kernel
theorem dX10_flows_254 : decode cX10_flows 254 = .ok (.iload 5, 2) := by decide +kernel
theorem dX10_flows_256 : decode cX10_flows 256 = .ok (.aload_n 0, 1) := by decide +kernel
theorem dX10_flows_257 : decode cX10_flows 257 = .ok (.getfield 19, 3) := by decide +kernel
theorem dX10_flows_260 : decode cX10_flows 260 = .ok (.iconst 1, 1) := by decide +kernel
theorem dX10_flows_261 : decode cX10_flows 261 = .ok (.isub, 1) := by decide +kernel
theorem dX10_flows_262 : decode cX10_flows 262 = .ok (.if_icmp .ge 25, 3) := by decide +kernel
theorem dX10_flows_265 : decode cX10_flows 265 = .ok (.aload_n 0, 1) := by decide +kernel
theorem dX10_flows_266 : decode cX10_flows 266 = .ok (.getfield 26, 3) := by decide +kernel
theorem dX10_flows_269 : decode cX10_flows 269 = .ok (.iload 5, 2) := by decide +kernel
theorem dX10_flows_271 : decode cX10_flows 271 = .ok (.aload_n 0, 1) := by decide +kernel
theorem dX10_flows_272 : decode cX10_flows 272 = .ok (.getfield 26, 3) := by decide +kernel
theorem dX10_flows_275 : decode cX10_flows 275 = .ok (.iload 5, 2) := by decide +kernel
theorem dX10_flows_277 : decode cX10_flows 277 = .ok (.iconst 1, 1) := by decide +kernel
theorem dX10_flows_278 : decode cX10_flows 278 = .ok (.iadd, 1) := by decide +kernel
theorem dX10_flows_279 : decode cX10_flows 279 = .ok (.iaload, 1) := by decide +kernel
theorem dX10_flows_280 : decode cX10_flows 280 = .ok (.iastore, 1) := by decide +kernel
theorem dX10_flows_281 : decode cX10_flows 281 = .ok (.iinc 5 1, 3) := by decide +kernel
theorem dX10_flows_284 : decode cX10_flows 284 = .ok (.goto (-30), 3) := by decide +kernel
theorem dX10_flows_287 : decode cX10_flows 287 = .ok (.aload_n 0, 1) := by decide +kernel
theorem dX10_flows_288 : decode cX10_flows 288 = .ok (.getfield 26, 3) := by decide +kernel
theorem dX10_flows_291 : decode cX10_flows 291 = .ok (.aload_n 0, 1) := by decide +kernel
theorem dX10_flows_292 : decode cX10_flows 292 = .ok (.getfield 19, 3) := by decide +kernel
theorem dX10_flows_295 : decode cX10_flows 295 = .ok (.iconst 1, 1) := by decide +kernel
theorem dX10_flows_296 : decode cX10_flows 296 = .ok (.isub, 1) := by decide +kernel
theorem dX10_flows_297 : decode cX10_flows 297 = .ok (.iload 4, 2) := by decide +kernel
theorem dX10_flows_299 : decode cX10_flows 299 = .ok (.iastore, 1) := by decide +kernel
theorem dX10_flows_300 : decode cX10_flows 300 = .ok (.iload_n 3, 1) := by decide +kernel
theorem dX10_flows_301 : decode cX10_flows 301 = .ok (.ireturn, 1) := by decide +kernel
theorem dX10_stores_0 : decode cX10_stores 0 = .ok (.aload_n 0, 1) := by decide +kernel
theorem dX10_stores_1 : decode cX10_stores 1 = .ok (.dup, 1) := by decide +kernel
theorem dX10_stores_2 : decode cX10_stores 2 = .ok (.getfield 116, 3) := by decide +kernel
theorem dX10_stores_5 : decode cX10_stores 5 = .ok (.iload_n 1, 1) := by decide +kernel
theorem dX10_stores_6 : decode cX10_stores 6 = .ok (.i2l, 1) := by decide +kernel
theorem dX10_stores_7 : decode cX10_stores 7 = .ok (.ladd, 1) := by decide +kernel
theorem dX10_stores_8 : decode cX10_stores 8 = .ok (.putfield 116, 3) := by decide +kernel
theorem dX10_stores_11 : decode cX10_stores 11 = .ok (.aload_n 0, 1) := by decide +kernel
theorem dX10_stores_12 : decode cX10_stores 12 = .ok (.getfield 32, 3) := by decide +kernel
theorem dX10_stores_15 : decode cX10_stores 15 = .ok (.iconst 3, 1) := by decide +kernel
theorem dX10_stores_16 : decode cX10_stores 16 = .ok (.iaload, 1) := by decide +kernel
theorem dX10_stores_17 : decode cX10_stores 17 = .ok (.aload_n 0, 1) := by decide +kernel
theorem dX10_stores_18 : decode cX10_stores 18 = .ok (.getfield 93, 3) := by decide +kernel
theorem dX10_stores_21 : decode cX10_stores 21 = .ok (.isub, 1) := by decide +kernel
theorem dX10_stores_22 : decode cX10_stores 22 = .ok (.iload_n 1, 1) := by decide +kernel
theorem dX10_stores_23 : decode cX10_stores 23 = .ok (.if_icmp .ge 17, 3) := by decide +kernel
theorem dX10_stores_26 : decode cX10_stores 26 = .ok (.aload_n 0, 1) := by decide +kernel
theorem dX10_stores_27 : decode cX10_stores 27 = .ok (.getfield 32, 3) := by decide +kernel
theorem dX10_stores_30 : decode cX10_stores 30 = .ok (.iconst 3, 1) := by decide +kernel
theorem dX10_stores_31 : decode cX10_stores 31 = .ok (.iaload, 1) := by decide +kernel
theorem dX10_stores_32 : decode cX10_stores 32 = .ok (.aload_n 0, 1) := by decide +kernel
theorem dX10_stores_33 : decode cX10_stores 33 = .ok (.getfield 93, 3) := by decide +kernel
theorem dX10_stores_36 : decode cX10_stores 36 = .ok (.isub, 1) := by decide +kernel
theorem dX10_stores_37 : decode cX10_stores 37 = .ok (.goto 4, 3) := by decide +kernel
theorem dX10_stores_40 : decode cX10_stores 40 = .ok (.iload_n 1, 1) := by decide +kernel
theorem dX10_stores_41 : decode cX10_stores 41 = .ok (.istore_n 2, 1) := by decide +kernel
theorem dX10_stores_42 : decode cX10_stores 42 = .ok (.iload_n 1, 1) := by decide +kernel
theorem dX10_stores_43 : decode cX10_stores 43 = .ok (.iload_n 2, 1) := by decide +kernel
theorem dX10_stores_44 : decode cX10_stores 44 = .ok (.isub, 1) := by decide +kernel
theorem dX10_stores_45 : decode cX10_stores 45 = .ok (.istore_n 3, 1) := by decide +kernel
theorem dX10_stores_46 : decode cX10_stores 46 = .ok (.aload_n 0, 1) := by decide +kernel
theorem dX10_stores_47 : decode cX10_stores 47 = .ok (.dup, 1) := by decide +kernel
theorem dX10_stores_48 : decode cX10_stores 48 = .ok (.getfield 93, 3) := by decide +kernel
theorem dX10_stores_51 : decode cX10_stores 51 = .ok (.iload_n 2, 1) := by decide +kernel
theorem dX10_stores_52 : decode cX10_stores 52 = .ok (.iadd, 1) := by decide +kernel
theorem dX10_stores_53 : decode cX10_stores 53 = .ok (.putfield 93, 3) := by decide +kernel
theorem dX10_stores_56 : decode cX10_stores 56 = .ok (.sipush 300, 3) := by decide +kernel
theorem dX10_stores_59 : decode cX10_stores 59 = .ok (.aload_n 0, 1) := by decide +kernel
theorem dX10_stores_60 : decode cX10_stores 60 = .ok (.getfield 119, 3) := by decide +kernel
theorem dX10_stores_63 : decode cX10_stores 63 = .ok (.isub, 1) := by decide +kernel
theorem dX10_stores_64 : decode cX10_stores 64 = .ok (.iload_n 3, 1) := by decide +kernel
theorem dX10_stores_65 : decode cX10_stores 65 = .ok (.if_icmp .ge 14, 3) := by decide +kernel
theorem dX10_stores_68 : decode cX10_stores 68 = .ok (.sipush 300, 3) := by decide +kernel
theorem dX10_stores_71 : decode cX10_stores 71 = .ok (.aload_n 0, 1) := by decide +kernel
theorem dX10_stores_72 : decode cX10_stores 72 = .ok (.getfield 119, 3) := by decide +kernel
theorem dX10_stores_75 : decode cX10_stores 75 = .ok (.isub, 1) := by decide +kernel
theorem dX10_stores_76 : decode cX10_stores 76 = .ok (.goto 4, 3) := by decide +kernel
theorem dX10_stores_79 : decode cX10_stores 79 = .ok (.iload_n 3, 1) := by decide +kernel
theorem dX10_stores_80 : decode cX10_stores 80 = .ok (.istore 4, 2) := by decide +kernel
theorem dX10_stores_82 : decode cX10_stores 82 = .ok (.aload_n 0, 1) := by decide +kernel
theorem dX10_stores_83 : decode cX10_stores 83 = .ok (.dup, 1) := by decide +kernel
theorem dX10_stores_84 : decode cX10_stores 84 = .ok (.getfield 119, 3) := by decide +kernel
theorem dX10_stores_87 : decode cX10_stores 87 = .ok (.iload 4, 2) := by decide +kernel
theorem dX10_stores_89 : decode cX10_stores 89 = .ok (.iadd, 1) := by decide +kernel
theorem dX10_stores_90 : decode cX10_stores 90 = .ok (.putfield 119, 3) := by decide +kernel
theorem dX10_stores_93 : decode cX10_stores 93 = .ok (.aload_n 0, 1) := by decide +kernel
theorem dX10_stores_94 : decode cX10_stores 94 = .ok (.dup, 1) := by decide +kernel
theorem dX10_stores_95 : decode cX10_stores 95 = .ok (.getfield 122, 3) := by decide +kernel
theorem dX10_stores_98 : decode cX10_stores 98 = .ok (.iload_n 3, 1) := by decide +kernel
theorem dX10_stores_99 : decode cX10_stores 99 = .ok (.iload 4, 2) := by decide +kernel
theorem dX10_stores_101 : decode cX10_stores 101 = .ok (.isub, 1) := by decide +kernel
theorem dX10_stores_102 : decode cX10_stores 102 = .ok (.i2l, 1) := by decide +kernel
theorem dX10_stores_103 : decode cX10_stores 103 = .ok (.ladd, 1) := by decide +kernel
theorem dX10_stores_104 : decode cX10_stores 104 = .ok (.putfield 122, 3) := by decide +kernel
theorem dX10_stores_107 : decode cX10_stores 107 = .ok (.return_, 1) := by decide +kernel
theorem dX10_goes_0 : decode cX10_goes 0 = .ok (.aload_n 0, 1) := by decide +kernel
theorem dX10_goes_1 : decode cX10_goes 1 = .ok (.dup, 1) := by decide +kernel
theorem dX10_goes_2 : decode cX10_goes 2 = .ok (.getfield 125, 3) := by decide +kernel
theorem dX10_goes_5 : decode cX10_goes 5 = .ok (.iconst 1, 1) := by decide +kernel
theorem dX10_goes_6 : decode cX10_goes 6 = .ok (.iadd, 1) := by decide +kernel
theorem dX10_goes_7 : decode cX10_goes 7 = .ok (.putfield 125, 3) := by decide +kernel
theorem dX10_goes_10 : decode cX10_goes 10 = .ok (.aload_n 0, 1) := by decide +kernel
theorem dX10_goes_11 : decode cX10_goes 11 = .ok (.iconst 0, 1) := by decide +kernel
theorem dX10_goes_12 : decode cX10_goes 12 = .ok (.invokevirtual 128, 3) := by decide +kernel
theorem dX10_goes_15 : decode cX10_goes 15 = .ok (.aload_n 0, 1) := by decide +kernel
theorem dX10_goes_16 : decode cX10_goes 16 = .ok (.iconst 1, 1) := by decide +kernel
theorem dX10_goes_17 : decode cX10_goes 17 = .ok (.invokevirtual 128, 3) := by decide +kernel
theorem dX10_goes_20 : decode cX10_goes 20 = .ok (.aload_n 0, 1) := by decide +kernel
theorem dX10_goes_21 : decode cX10_goes 21 = .ok (.getfield 90, 3) := by decide +kernel
theorem dX10_goes_24 : decode cX10_goes 24 = .ok (.iconst 4, 1) := by decide +kernel
theorem dX10_goes_25 : decode cX10_goes 25 = .ok (.if_icmp .ne 81, 3) := by decide +kernel
theorem dX10_goes_28 : decode cX10_goes 28 = .ok (.aload_n 0, 1) := by decide +kernel
theorem dX10_goes_29 : decode cX10_goes 29 = .ok (.dup, 1) := by decide +kernel
theorem dX10_goes_30 : decode cX10_goes 30 = .ok (.getfield 98, 3) := by decide +kernel
theorem dX10_goes_33 : decode cX10_goes 33 = .ok (.iconst 1, 1) := by decide +kernel
theorem dX10_goes_34 : decode cX10_goes 34 = .ok (.iadd, 1) := by decide +kernel
theorem dX10_goes_35 : decode cX10_goes 35 = .ok (.putfield 98, 3) := by decide +kernel
theorem dX10_goes_38 : decode cX10_goes 38 = .ok (.aload_n 0, 1) := by decide +kernel
theorem dX10_goes_39 : decode cX10_goes 39 = .ok (.dup, 1) := by decide +kernel
theorem dX10_goes_40 : decode cX10_goes 40 = .ok (.getfield 104, 3) := by decide +kernel
theorem dX10_goes_43 : decode cX10_goes 43 = .ok (.aload_n 0, 1) := by decide +kernel
theorem dX10_goes_44 : decode cX10_goes 44 = .ok (.getfield 98, 3) := by decide +kernel
theorem dX10_goes_47 : decode cX10_goes 47 = .ok (.iconst 1, 1) := by decide +kernel
theorem dX10_goes_48 : decode cX10_goes 48 = .ok (.if_icmp .ge 7, 3) := by decide +kernel
theorem dX10_goes_51 : decode cX10_goes 51 = .ok (.iconst 1, 1) := by decide +kernel
theorem dX10_goes_52 : decode cX10_goes 52 = .ok (.goto 4, 3) := by decide +kernel
theorem dX10_goes_55 : decode cX10_goes 55 = .ok (.iconst 0, 1) := by decide +kernel
theorem dX10_goes_56 : decode cX10_goes 56 = .ok (.iand, 1) := by decide +kernel
theorem dX10_goes_57 : decode cX10_goes 57 = .ok (.putfield 104, 3) := by decide +kernel
theorem dX10_goes_60 : decode cX10_goes 60 = .ok (.aload_n 0, 1) := by decide +kernel
theorem dX10_goes_61 : decode cX10_goes 61 = .ok (.dup, 1) := by decide +kernel
theorem dX10_goes_62 : decode cX10_goes 62 = .ok (.getfield 108, 3) := by decide +kernel
theorem dX10_goes_65 : decode cX10_goes 65 = .ok (.aload_n 0, 1) := by decide +kernel
theorem dX10_goes_66 : decode cX10_goes 66 = .ok (.getfield 98, 3) := by decide +kernel
theorem dX10_goes_69 : decode cX10_goes 69 = .ok (.iconst 2, 1) := by decide +kernel
theorem dX10_goes_70 : decode cX10_goes 70 = .ok (.if_icmp .ge 7, 3) := by decide +kernel
theorem dX10_goes_73 : decode cX10_goes 73 = .ok (.iconst 1, 1) := by decide +kernel
theorem dX10_goes_74 : decode cX10_goes 74 = .ok (.goto 4, 3) := by decide +kernel
theorem dX10_goes_77 : decode cX10_goes 77 = .ok (.iconst 0, 1) := by decide +kernel
theorem dX10_goes_78 : decode cX10_goes 78 = .ok (.iand, 1) := by decide +kernel
theorem dX10_goes_79 : decode cX10_goes 79 = .ok (.putfield 108, 3) := by decide +kernel
theorem dX10_goes_82 : decode cX10_goes 82 = .ok (.aload_n 0, 1) := by decide +kernel
theorem dX10_goes_83 : decode cX10_goes 83 = .ok (.dup, 1) := by decide +kernel
theorem dX10_goes_84 : decode cX10_goes 84 = .ok (.getfield 113, 3) := by decide +kernel
theorem dX10_goes_87 : decode cX10_goes 87 = .ok (.aload_n 0, 1) := by decide +kernel
theorem dX10_goes_88 : decode cX10_goes 88 = .ok (.getfield 98, 3) := by decide +kernel
theorem dX10_goes_91 : decode cX10_goes 91 = .ok (.iconst 2, 1) := by decide +kernel
theorem dX10_goes_92 : decode cX10_goes 92 = .ok (.if_icmp .le 7, 3) := by decide +kernel
theorem dX10_goes_95 : decode cX10_goes 95 = .ok (.iconst 1, 1) := by decide +kernel
theorem dX10_goes_96 : decode cX10_goes 96 = .ok (.goto 4, 3) := by decide +kernel
theorem dX10_goes_99 : decode cX10_goes 99 = .ok (.iconst 0, 1) := by decide +kernel
theorem dX10_goes_100 : decode cX10_goes 100 = .ok (.ior, 1) := by decide +kernel
theorem dX10_goes_101 : decode cX10_goes 101 = .ok (.putfield 113, 3) := by decide +kernel
theorem dX10_goes_104 : decode cX10_goes 104 = .ok (.iconst 0, 1) := by decide +kernel
theorem dX10_goes_105 : decode cX10_goes 105 = .ok (.ireturn, 1) := by decide +kernel
theorem dX10_goes_106 : decode cX10_goes 106 = .ok (.aload_n 0, 1) := by decide +kernel
theorem dX10_goes_107 : decode cX10_goes 107 = .ok (.getfield 90, 3) := by decide +kernel
theorem dX10_goes_110 : decode cX10_goes 110 = .ok (.ifCond .ne 5, 3) := by decide +kernel
theorem dX10_goes_113 : decode cX10_goes 113 = .ok (.iconst 0, 1) := by decide +kernel
theorem dX10_goes_114 : decode cX10_goes 114 = .ok (.ireturn, 1) := by decide +kernel
theorem dX10_goes_115 : decode cX10_goes 115 = .ok (.aload_n 0, 1) := by decide +kernel
theorem dX10_goes_116 : decode cX10_goes 116 = .ok (.getfield 90, 3) := by decide +kernel
theorem dX10_goes_119 : decode cX10_goes 119 = .ok (.iconst 3, 1) := by decide +kernel
theorem dX10_goes_120 : decode cX10_goes 120 = .ok (.if_icmp .ne 24, 3) := by decide +kernel
theorem dX10_goes_123 : decode cX10_goes 123 = .ok (.aload_n 0, 1) := by decide +kernel
theorem dX10_goes_124 : decode cX10_goes 124 = .ok (.dup, 1) := by decide +kernel
theorem dX10_goes_125 : decode cX10_goes 125 = .ok (.getfield 98, 3) := by decide +kernel
theorem dX10_goes_128 : decode cX10_goes 128 = .ok (.iconst 1, 1) := by decide +kernel
theorem dX10_goes_129 : decode cX10_goes 129 = .ok (.iadd, 1) := by decide +kernel
theorem dX10_goes_130 : decode cX10_goes 130 = .ok (.putfield 98, 3) := by decide +kernel
theorem dX10_goes_133 : decode cX10_goes 133 = .ok (.aload_n 0, 1) := by decide +kernel
theorem dX10_goes_134 : decode cX10_goes 134 = .ok (.getfield 98, 3) := by decide +kernel
theorem dX10_goes_137 : decode cX10_goes 137 = .ok (.iconst 2, 1) := by decide +kernel
theorem dX10_goes_138 : decode cX10_goes 138 = .ok (.irem, 1) := by decide +kernel
theorem dX10_goes_139 : decode cX10_goes 139 = .ok (.ifCond .ne 5, 3) := by decide +kernel
theorem dX10_goes_142 : decode cX10_goes 142 = .ok (.iconst 0, 1) := by decide +kernel
theorem dX10_goes_143 : decode cX10_goes 143 = .ok (.ireturn, 1) := by decide +kernel
theorem dX10_goes_144 : decode cX10_goes 144 = .ok (.aload_n 0, 1) := by decide +kernel
theorem dX10_goes_145 : decode cX10_goes 145 = .ok (.invokevirtual 132, 3) := by decide +kernel
theorem dX10_goes_148 : decode cX10_goes 148 = .ok (.istore_n 1, 1) := by decide +kernel
theorem dX10_goes_149 : decode cX10_goes 149 = .ok (.aload_n 0, 1) := by decide +kernel
theorem dX10_goes_150 : decode cX10_goes 150 = .ok (.iload_n 1, 1) := by decide +kernel
theorem dX10_goes_151 : decode cX10_goes 151 = .ok (.invokevirtual 136, 3) := by decide +kernel
theorem dX10_goes_154 : decode cX10_goes 154 = .ok (.aload_n 0, 1) := by decide +kernel
theorem dX10_goes_155 : decode cX10_goes 155 = .ok (.aload_n 0, 1) := by decide +kernel
theorem dX10_goes_156 : decode cX10_goes 156 = .ok (.getfield 90, 3) := by decide +kernel
theorem dX10_goes_159 : decode cX10_goes 159 = .ok (.iconst 1, 1) := by decide +kernel
theorem dX10_goes_160 : decode cX10_goes 160 = .ok (.if_icmp .ne 11, 3) := by decide +kernel
theorem dX10_goes_163 : decode cX10_goes 163 = .ok (.iload_n 1, 1) := by decide +kernel
theorem dX10_goes_164 : decode cX10_goes 164 = .ok (.ifCond .le 7, 3) := by decide +kernel
theorem dX10_goes_167 : decode cX10_goes 167 = .ok (.iconst 2, 1) := by decide +kernel
theorem dX10_goes_168 : decode cX10_goes 168 = .ok (.goto 7, 3) := by decide +kernel
theorem dX10_goes_171 : decode cX10_goes 171 = .ok (.aload_n 0, 1) := by decide +kernel
theorem dX10_goes_172 : decode cX10_goes 172 = .ok (.getfield 90, 3) := by decide +kernel
theorem dX10_goes_175 : decode cX10_goes 175 = .ok (.putfield 90, 3) := by decide +kernel
theorem dX10_goes_178 : decode cX10_goes 178 = .ok (.aload_n 0, 1) := by decide +kernel
theorem dX10_goes_179 : decode cX10_goes 179 = .ok (.invokevirtual 139, 3) := by decide +kernel
theorem dX10_goes_182 : decode cX10_goes 182 = .ok (.aload_n 0, 1) := by decide +kernel
theorem dX10_goes_183 : decode cX10_goes 183 = .ok (.getfield 93, 3) := by decide +kernel
theorem dX10_goes_186 : decode cX10_goes 186 = .ok (.aload_n 0, 1) := by decide +kernel
theorem dX10_goes_187 : decode cX10_goes 187 = .ok (.getfield 32, 3) := by decide +kernel
theorem dX10_goes_190 : decode cX10_goes 190 = .ok (.iconst 3, 1) := by decide +kernel
theorem dX10_goes_191 : decode cX10_goes 191 = .ok (.iaload, 1) := by decide +kernel
theorem dX10_goes_192 : decode cX10_goes 192 = .ok (.if_icmp .lt 7, 3) := by decide +kernel
theorem dX10_goes_195 : decode cX10_goes 195 = .ok (.aload_n 0, 1) := by decide +kernel
theorem dX10_goes_196 : decode cX10_goes 196 = .ok (.invokevirtual 111, 3) := by decide +kernel
theorem dX10_goes_199 : decode cX10_goes 199 = .ok (.iload_n 1, 1) := by decide +kernel
theorem dX10_goes_200 : decode cX10_goes 200 = .ok (.ireturn, 1) := by decide +kernel
theorem dX10_tick_0 : decode cX10_tick 0 = .ok (.aload_n 0, 1) := by decide +kernel
theorem dX10_tick_1 : decode cX10_tick 1 = .ok (.iconst 0, 1) := by decide +kernel
theorem dX10_tick_2 : decode cX10_tick 2 = .ok (.putfield 64, 3) := by decide +kernel
theorem dX10_tick_5 : decode cX10_tick 5 = .ok (.iload_n 1, 1) := by decide +kernel
theorem dX10_tick_6 : decode cX10_tick 6 = .ok (.iconst 1, 1) := by decide +kernel
theorem dX10_tick_7 : decode cX10_tick 7 = .ok (.bipush 60, 2) := by decide +kernel
theorem dX10_tick_9 : decode cX10_tick 9 = .ok (.invokestatic 70, 3) := by decide +kernel
theorem dX10_tick_12 : decode cX10_tick 12 = .ok (.ifCond .ne 5, 3) := by decide +kernel
theorem dX10_tick_15 : decode cX10_tick 15 = .ok (.iconst (-1), 1) := by decide +kernel
theorem dX10_tick_16 : decode cX10_tick 16 = .ok (.ireturn, 1) := by decide +kernel
theorem dX10_tick_17 : decode cX10_tick 17 = .ok (.iconst 0, 1) := by decide +kernel
theorem dX10_tick_18 : decode cX10_tick 18 = .ok (.istore_n 2, 1) := by decide +kernel
theorem dX10_tick_19 : decode cX10_tick 19 = .ok (.iconst 0, 1) := by decide +kernel
theorem dX10_tick_20 : decode cX10_tick 20 = .ok (.istore_n 3, 1) := by decide +kernel
theorem dX10_tick_21 : decode cX10_tick 21 = .ok (.iload_n 3, 1) := by decide +kernel
theorem dX10_tick_22 : decode cX10_tick 22 = .ok (.iload_n 1, 1) := by decide +kernel
theorem dX10_tick_23 : decode cX10_tick 23 = .ok (.if_icmp .ge 16, 3) := by decide +kernel
theorem dX10_tick_26 : decode cX10_tick 26 = .ok (.iload_n 2, 1) := by decide +kernel
theorem dX10_tick_27 : decode cX10_tick 27 = .ok (.aload_n 0, 1) := by decide +kernel
theorem dX10_tick_28 : decode cX10_tick 28 = .ok (.invokevirtual 142, 3) := by decide +kernel
theorem dX10_tick_31 : decode cX10_tick 31 = .ok (.iadd, 1) := by decide +kernel
theorem dX10_tick_32 : decode cX10_tick 32 = .ok (.istore_n 2, 1) := by decide +kernel
theorem dX10_tick_33 : decode cX10_tick 33 = .ok (.iinc 3 1, 3) := by decide +kernel
theorem dX10_tick_36 : decode cX10_tick 36 = .ok (.goto (-15), 3) := by decide +kernel
theorem dX10_tick_39 : decode cX10_tick 39 = .ok (.iload_n 2, 1) := by decide +kernel
theorem dX10_tick_40 : decode cX10_tick 40 = .ok (.ireturn, 1) := by decide +kernel
theorem dX10_adsorber_0 : decode cX10_adsorber 0 = .ok (.aload_n 0, 1) := by decide +kernel
theorem dX10_adsorber_1 : decode cX10_adsorber 1 = .ok (.iconst 0, 1) := by decide +kernel
theorem dX10_adsorber_2 : decode cX10_adsorber 2 = .ok (.putfield 64, 3) := by decide +kernel
theorem dX10_adsorber_5 : decode cX10_adsorber 5 = .ok (.iload_n 1, 1) := by decide +kernel
theorem dX10_adsorber_6 : decode cX10_adsorber 6 = .ok (.iconst 0, 1) := by decide +kernel
theorem dX10_adsorber_7 : decode cX10_adsorber 7 = .ok (.iconst 1, 1) := by decide +kernel
theorem dX10_adsorber_8 : decode cX10_adsorber 8 = .ok (.invokestatic 70, 3) := by decide +kernel
theorem dX10_adsorber_11 : decode cX10_adsorber 11 = .ok (.ifCond .eq 12, 3) := by decide +kernel
theorem dX10_adsorber_14 : decode cX10_adsorber 14 = .ok (.iload_n 2, 1) := by decide +kernel
theorem dX10_adsorber_15 : decode cX10_adsorber 15 = .ok (.iconst 0, 1) := by decide +kernel
theorem dX10_adsorber_16 : decode cX10_adsorber 16 = .ok (.iconst 2, 1) := by decide +kernel
theorem dX10_adsorber_17 : decode cX10_adsorber 17 = .ok (.invokestatic 70, 3) := by decide +kernel
theorem dX10_adsorber_20 : decode cX10_adsorber 20 = .ok (.ifCond .ne 5, 3) := by decide +kernel
theorem dX10_adsorber_23 : decode cX10_adsorber 23 = .ok (.iconst (-1), 1) := by decide +kernel
theorem dX10_adsorber_24 : decode cX10_adsorber 24 = .ok (.ireturn, 1) := by decide +kernel
theorem dX10_adsorber_25 : decode cX10_adsorber 25 = .ok (.iload_n 2, 1) := by decide +kernel
theorem dX10_adsorber_26 : decode cX10_adsorber 26 = .ok (.ifCond .ne 12, 3) := by decide +kernel
theorem dX10_adsorber_29 : decode cX10_adsorber 29 = .ok (.aload_n 0, 1) := by decide +kernel
theorem dX10_adsorber_30 : decode cX10_adsorber 30 = .ok (.getfield 39, 3) := by decide +kernel
theorem dX10_adsorber_33 : decode cX10_adsorber 33 = .ok (.iload_n 1, 1) := by decide +kernel
theorem dX10_adsorber_34 : decode cX10_adsorber 34 = .ok (.iaload, 1) := by decide +kernel
theorem dX10_adsorber_35 : decode cX10_adsorber 35 = .ok (.goto 23, 3) := by decide +kernel
theorem dX10_adsorber_38 : decode cX10_adsorber 38 = .ok (.iload_n 2, 1) := by decide +kernel
theorem dX10_adsorber_39 : decode cX10_adsorber 39 = .ok (.iconst 1, 1) := by decide +kernel
theorem dX10_adsorber_40 : decode cX10_adsorber 40 = .ok (.if_icmp .ne 12, 3) := by decide +kernel
theorem dX10_adsorber_43 : decode cX10_adsorber 43 = .ok (.aload_n 0, 1) := by decide +kernel
theorem dX10_adsorber_44 : decode cX10_adsorber 44 = .ok (.getfield 42, 3) := by decide +kernel
theorem dX10_adsorber_47 : decode cX10_adsorber 47 = .ok (.iload_n 1, 1) := by decide +kernel
theorem dX10_adsorber_48 : decode cX10_adsorber 48 = .ok (.iaload, 1) := by decide +kernel
theorem dX10_adsorber_49 : decode cX10_adsorber 49 = .ok (.goto 9, 3) := by decide +kernel
theorem dX10_adsorber_52 : decode cX10_adsorber 52 = .ok (.aload_n 0, 1) := by decide +kernel
theorem dX10_adsorber_53 : decode cX10_adsorber 53 = .ok (.getfield 45, 3) := by decide +kernel
theorem dX10_adsorber_56 : decode cX10_adsorber 56 = .ok (.iload_n 1, 1) := by decide +kernel
theorem dX10_adsorber_57 : decode cX10_adsorber 57 = .ok (.iaload, 1) := by decide +kernel
theorem dX10_adsorber_58 : decode cX10_adsorber 58 = .ok (.ireturn, 1) := by decide +kernel
theorem dX10_valve_0 : decode cX10_valve 0 = .ok (.aload_n 0, 1) := by decide +kernel
theorem dX10_valve_1 : decode cX10_valve 1 = .ok (.iconst 0, 1) := by decide +kernel
theorem dX10_valve_2 : decode cX10_valve 2 = .ok (.putfield 64, 3) := by decide +kernel
theorem dX10_valve_5 : decode cX10_valve 5 = .ok (.iload_n 1, 1) := by decide +kernel
theorem dX10_valve_6 : decode cX10_valve 6 = .ok (.ifCond .ne 18, 3) := by decide +kernel
theorem dX10_valve_9 : decode cX10_valve 9 = .ok (.aload_n 0, 1) := by decide +kernel
theorem dX10_valve_10 : decode cX10_valve 10 = .ok (.getfield 104, 3) := by decide +kernel
theorem dX10_valve_13 : decode cX10_valve 13 = .ok (.ifCond .eq 7, 3) := by decide +kernel
theorem dX10_valve_16 : decode cX10_valve 16 = .ok (.iconst 1, 1) := by decide +kernel
theorem dX10_valve_17 : decode cX10_valve 17 = .ok (.goto 48, 3) := by decide +kernel
theorem dX10_valve_20 : decode cX10_valve 20 = .ok (.iconst 0, 1) := by decide +kernel
theorem dX10_valve_21 : decode cX10_valve 21 = .ok (.goto 44, 3) := by decide +kernel
theorem dX10_valve_24 : decode cX10_valve 24 = .ok (.iload_n 1, 1) := by decide +kernel
theorem dX10_valve_25 : decode cX10_valve 25 = .ok (.iconst 1, 1) := by decide +kernel
theorem dX10_valve_26 : decode cX10_valve 26 = .ok (.if_icmp .ne 18, 3) := by decide +kernel
theorem dX10_valve_29 : decode cX10_valve 29 = .ok (.aload_n 0, 1) := by decide +kernel
theorem dX10_valve_30 : decode cX10_valve 30 = .ok (.getfield 108, 3) := by decide +kernel
theorem dX10_valve_33 : decode cX10_valve 33 = .ok (.ifCond .eq 7, 3) := by decide +kernel
theorem dX10_valve_36 : decode cX10_valve 36 = .ok (.iconst 1, 1) := by decide +kernel
theorem dX10_valve_37 : decode cX10_valve 37 = .ok (.goto 28, 3) := by decide +kernel
theorem dX10_valve_40 : decode cX10_valve 40 = .ok (.iconst 0, 1) := by decide +kernel
theorem dX10_valve_41 : decode cX10_valve 41 = .ok (.goto 24, 3) := by decide +kernel
theorem dX10_valve_44 : decode cX10_valve 44 = .ok (.iload_n 1, 1) := by decide +kernel
theorem dX10_valve_45 : decode cX10_valve 45 = .ok (.iconst 2, 1) := by decide +kernel
theorem dX10_valve_46 : decode cX10_valve 46 = .ok (.if_icmp .ne 18, 3) := by decide +kernel
theorem dX10_valve_49 : decode cX10_valve 49 = .ok (.aload_n 0, 1) := by decide +kernel
theorem dX10_valve_50 : decode cX10_valve 50 = .ok (.getfield 113, 3) := by decide +kernel
theorem dX10_valve_53 : decode cX10_valve 53 = .ok (.ifCond .eq 7, 3) := by decide +kernel
theorem dX10_valve_56 : decode cX10_valve 56 = .ok (.iconst 1, 1) := by decide +kernel
theorem dX10_valve_57 : decode cX10_valve 57 = .ok (.goto 8, 3) := by decide +kernel
theorem dX10_valve_60 : decode cX10_valve 60 = .ok (.iconst 0, 1) := by decide +kernel
theorem dX10_valve_61 : decode cX10_valve 61 = .ok (.goto 4, 3) := by decide +kernel
theorem dX10_valve_64 : decode cX10_valve 64 = .ok (.iconst (-1), 1) := by decide +kernel
theorem dX10_valve_65 : decode cX10_valve 65 = .ok (.ireturn, 1) := by decide +kernel
theorem dX10_order_0 : decode cX10_order 0 = .ok (.aload_n 0, 1) := by decide +kernel
theorem dX10_order_1 : decode cX10_order 1 = .ok (.iconst 0, 1) := by decide +kernel
theorem dX10_order_2 : decode cX10_order 2 = .ok (.putfield 64, 3) := by decide +kernel
theorem dX10_order_5 : decode cX10_order 5 = .ok (.iload_n 1, 1) := by decide +kernel
theorem dX10_order_6 : decode cX10_order 6 = .ok (.iconst 1, 1) := by decide +kernel
theorem dX10_order_7 : decode cX10_order 7 = .ok (.sipush 500, 3) := by decide +kernel
theorem dX10_order_10 : decode cX10_order 10 = .ok (.invokestatic 70, 3) := by decide +kernel
theorem dX10_order_13 : decode cX10_order 13 = .ok (.ifCond .eq 13, 3) := by decide +kernel
theorem dX10_order_16 : decode cX10_order 16 = .ok (.iload_n 2, 1) := by decide +kernel
theorem dX10_order_17 : decode cX10_order 17 = .ok (.iconst 0, 1) := by decide +kernel
theorem dX10_order_18 : decode cX10_order 18 = .ok (.bipush 9, 2) := by decide +kernel
theorem dX10_order_20 : decode cX10_order 20 = .ok (.invokestatic 70, 3) := by decide +kernel
theorem dX10_order_23 : decode cX10_order 23 = .ok (.ifCond .ne 5, 3) := by decide +kernel
theorem dX10_order_26 : decode cX10_order 26 = .ok (.iconst (-1), 1) := by decide +kernel
theorem dX10_order_27 : decode cX10_order 27 = .ok (.ireturn, 1) := by decide +kernel
theorem dX10_order_28 : decode cX10_order 28 = .ok (.aload_n 0, 1) := by decide +kernel
theorem dX10_order_29 : decode cX10_order 29 = .ok (.getfield 145, 3) := by decide +kernel
theorem dX10_order_32 : decode cX10_order 32 = .ok (.bipush 8, 2) := by decide +kernel
theorem dX10_order_34 : decode cX10_order 34 = .ok (.if_icmp .ne 6, 3) := by decide +kernel
theorem dX10_order_37 : decode cX10_order 37 = .ok (.bipush (-3), 2) := by decide +kernel
theorem dX10_order_39 : decode cX10_order 39 = .ok (.ireturn, 1) := by decide +kernel
theorem dX10_order_40 : decode cX10_order 40 = .ok (.aload_n 0, 1) := by decide +kernel
theorem dX10_order_41 : decode cX10_order 41 = .ok (.getfield 48, 3) := by decide +kernel
theorem dX10_order_44 : decode cX10_order 44 = .ok (.aload_n 0, 1) := by decide +kernel
theorem dX10_order_45 : decode cX10_order 45 = .ok (.getfield 145, 3) := by decide +kernel
theorem dX10_order_48 : decode cX10_order 48 = .ok (.iload_n 1, 1) := by decide +kernel
theorem dX10_order_49 : decode cX10_order 49 = .ok (.iastore, 1) := by decide +kernel
theorem dX10_order_50 : decode cX10_order 50 = .ok (.aload_n 0, 1) := by decide +kernel
theorem dX10_order_51 : decode cX10_order 51 = .ok (.getfield 51, 3) := by decide +kernel
theorem dX10_order_54 : decode cX10_order 54 = .ok (.aload_n 0, 1) := by decide +kernel
theorem dX10_order_55 : decode cX10_order 55 = .ok (.getfield 145, 3) := by decide +kernel
theorem dX10_order_58 : decode cX10_order 58 = .ok (.iload_n 2, 1) := by decide +kernel
theorem dX10_order_59 : decode cX10_order 59 = .ok (.iastore, 1) := by decide +kernel
theorem dX10_order_60 : decode cX10_order 60 = .ok (.aload_n 0, 1) := by decide +kernel
theorem dX10_order_61 : decode cX10_order 61 = .ok (.getfield 54, 3) := by decide +kernel
theorem dX10_order_64 : decode cX10_order 64 = .ok (.aload_n 0, 1) := by decide +kernel
theorem dX10_order_65 : decode cX10_order 65 = .ok (.getfield 145, 3) := by decide +kernel
theorem dX10_order_68 : decode cX10_order 68 = .ok (.iconst 0, 1) := by decide +kernel
theorem dX10_order_69 : decode cX10_order 69 = .ok (.iastore, 1) := by decide +kernel
theorem dX10_order_70 : decode cX10_order 70 = .ok (.aload_n 0, 1) := by decide +kernel
theorem dX10_order_71 : decode cX10_order 71 = .ok (.dup, 1) := by decide +kernel
theorem dX10_order_72 : decode cX10_order 72 = .ok (.getfield 145, 3) := by decide +kernel
theorem dX10_order_75 : decode cX10_order 75 = .ok (.iconst 1, 1) := by decide +kernel
theorem dX10_order_76 : decode cX10_order 76 = .ok (.iadd, 1) := by decide +kernel
theorem dX10_order_77 : decode cX10_order 77 = .ok (.putfield 145, 3) := by decide +kernel
theorem dX10_order_80 : decode cX10_order 80 = .ok (.aload_n 0, 1) := by decide +kernel
theorem dX10_order_81 : decode cX10_order 81 = .ok (.getfield 145, 3) := by decide +kernel
theorem dX10_order_84 : decode cX10_order 84 = .ok (.iconst 1, 1) := by decide +kernel
theorem dX10_order_85 : decode cX10_order 85 = .ok (.isub, 1) := by decide +kernel
theorem dX10_order_86 : decode cX10_order 86 = .ok (.ireturn, 1) := by decide +kernel
theorem dX10_deliver_0 : decode cX10_deliver 0 = .ok (.aload_n 0, 1) := by decide +kernel
theorem dX10_deliver_1 : decode cX10_deliver 1 = .ok (.iconst 0, 1) := by decide +kernel
theorem dX10_deliver_2 : decode cX10_deliver 2 = .ok (.putfield 64, 3) := by decide +kernel
theorem dX10_deliver_5 : decode cX10_deliver 5 = .ok (.aload_n 0, 1) := by decide +kernel
theorem dX10_deliver_6 : decode cX10_deliver 6 = .ok (.getfield 148, 3) := by decide +kernel
theorem dX10_deliver_9 : decode cX10_deliver 9 = .ok (.bipush 10, 2) := by decide +kernel
theorem dX10_deliver_11 : decode cX10_deliver 11 = .ok (.if_icmp .ne 6, 3) := by decide +kernel
theorem dX10_deliver_14 : decode cX10_deliver 14 = .ok (.bipush (-2), 2) := by decide +kernel
theorem dX10_deliver_16 : decode cX10_deliver 16 = .ok (.ireturn, 1) := by decide +kernel
theorem dX10_deliver_17 : decode cX10_deliver 17 = .ok (.iconst 0, 1) := by decide +kernel
theorem dX10_deliver_18 : decode cX10_deliver 18 = .ok (.istore_n 1, 1) := by decide +kernel
theorem dX10_deliver_19 : decode cX10_deliver 19 = .ok (.iconst 0, 1) := by decide +kernel
theorem dX10_deliver_20 : decode cX10_deliver 20 = .ok (.istore_n 2, 1) := by decide +kernel
theorem dX10_deliver_21 : decode cX10_deliver 21 = .ok (.iload_n 2, 1) := by decide +kernel
theorem dX10_deliver_22 : decode cX10_deliver 22 = .ok (.aload_n 0, 1) := by decide +kernel
theorem dX10_deliver_23 : decode cX10_deliver 23 = .ok (.getfield 145, 3) := by decide +kernel
theorem dX10_deliver_26 : decode cX10_deliver 26 = .ok (.if_icmp .ge 105, 3) := by decide +kernel
theorem dX10_deliver_29 : decode cX10_deliver 29 = .ok (.aload_n 0, 1) := by decide +kernel
theorem dX10_deliver_30 : decode cX10_deliver 30 = .ok (.getfield 51, 3) := by decide +kernel
theorem dX10_deliver_33 : decode cX10_deliver 33 = .ok (.iload_n 2, 1) := by decide +kernel
theorem dX10_deliver_34 : decode cX10_deliver 34 = .ok (.iaload, 1) := by decide +kernel
theorem dX10_deliver_35 : decode cX10_deliver 35 = .ok (.aload_n 0, 1) := by decide +kernel
theorem dX10_deliver_36 : decode cX10_deliver 36 = .ok (.getfield 148, 3) := by decide +kernel
theorem dX10_deliver_39 : decode cX10_deliver 39 = .ok (.if_icmp .ne 86, 3) := by decide +kernel
theorem dX10_deliver_42 : decode cX10_deliver 42 = .ok (.aload_n 0, 1) := by decide +kernel
theorem dX10_deliver_43 : decode cX10_deliver 43 = .ok (.getfield 54, 3) := by decide +kernel
theorem dX10_deliver_46 : decode cX10_deliver 46 = .ok (.iload_n 2, 1) := by decide +kernel
theorem dX10_deliver_47 : decode cX10_deliver 47 = .ok (.iaload, 1) := by decide +kernel
theorem dX10_deliver_48 : decode cX10_deliver 48 = .ok (.ifCond .ne 77, 3) := by decide +kernel
theorem dX10_deliver_51 : decode cX10_deliver 51 = .ok (.aload_n 0, 1) := by decide +kernel
theorem dX10_deliver_52 : decode cX10_deliver 52 = .ok (.getfield 93, 3) := by decide +kernel
theorem dX10_deliver_55 : decode cX10_deliver 55 = .ok (.aload_n 0, 1) := by decide +kernel
theorem dX10_deliver_56 : decode cX10_deliver 56 = .ok (.getfield 48, 3) := by decide +kernel
theorem dX10_deliver_59 : decode cX10_deliver 59 = .ok (.iload_n 2, 1) := by decide +kernel
theorem dX10_deliver_60 : decode cX10_deliver 60 = .ok (.iaload, 1) := by decide +kernel
theorem dX10_deliver_61 : decode cX10_deliver 61 = .ok (.if_icmp .lt 47, 3) := by decide +kernel
theorem dX10_deliver_64 : decode cX10_deliver 64 = .ok (.aload_n 0, 1) := by decide +kernel
theorem dX10_deliver_65 : decode cX10_deliver 65 = .ok (.dup, 1) := by decide +kernel
theorem dX10_deliver_66 : decode cX10_deliver 66 = .ok (.getfield 93, 3) := by decide +kernel
theorem dX10_deliver_69 : decode cX10_deliver 69 = .ok (.aload_n 0, 1) := by decide +kernel
theorem dX10_deliver_70 : decode cX10_deliver 70 = .ok (.getfield 48, 3) := by decide +kernel
theorem dX10_deliver_73 : decode cX10_deliver 73 = .ok (.iload_n 2, 1) := by decide +kernel
theorem dX10_deliver_74 : decode cX10_deliver 74 = .ok (.iaload, 1) := by decide +kernel
theorem dX10_deliver_75 : decode cX10_deliver 75 = .ok (.isub, 1) := by decide +kernel
theorem dX10_deliver_76 : decode cX10_deliver 76 = .ok (.putfield 93, 3) := by decide +kernel
theorem dX10_deliver_79 : decode cX10_deliver 79 = .ok (.aload_n 0, 1) := by decide +kernel
theorem dX10_deliver_80 : decode cX10_deliver 80 = .ok (.dup, 1) := by decide +kernel
theorem dX10_deliver_81 : decode cX10_deliver 81 = .ok (.getfield 151, 3) := by decide +kernel
theorem dX10_deliver_84 : decode cX10_deliver 84 = .ok (.aload_n 0, 1) := by decide +kernel
theorem dX10_deliver_85 : decode cX10_deliver 85 = .ok (.getfield 48, 3) := by decide +kernel
theorem dX10_deliver_88 : decode cX10_deliver 88 = .ok (.iload_n 2, 1) := by decide +kernel
theorem dX10_deliver_89 : decode cX10_deliver 89 = .ok (.iaload, 1) := by decide +kernel
theorem dX10_deliver_90 : decode cX10_deliver 90 = .ok (.i2l, 1) := by decide +kernel
theorem dX10_deliver_91 : decode cX10_deliver 91 = .ok (.ladd, 1) := by decide +kernel
theorem dX10_deliver_92 : decode cX10_deliver 92 = .ok (.putfield 151, 3) := by decide +kernel
theorem dX10_deliver_95 : decode cX10_deliver 95 = .ok (.aload_n 0, 1) := by decide +kernel
theorem dX10_deliver_96 : decode cX10_deliver 96 = .ok (.getfield 54, 3) := by decide +kernel
theorem dX10_deliver_99 : decode cX10_deliver 99 = .ok (.iload_n 2, 1) := by decide +kernel
theorem dX10_deliver_100 : decode cX10_deliver 100 = .ok (.iconst 1, 1) := by decide +kernel
theorem dX10_deliver_101 : decode cX10_deliver 101 = .ok (.iastore, 1) := by decide +kernel
theorem dX10_deliver_102 : decode cX10_deliver 102 = .ok (.iinc 1 1, 3) := by decide +kernel
theorem dX10_deliver_105 : decode cX10_deliver 105 = .ok (.goto 20, 3) := by decide +kernel
theorem dX10_deliver_108 : decode cX10_deliver 108 = .ok (.aload_n 0, 1) := by decide +kernel
theorem dX10_deliver_109 : decode cX10_deliver 109 = .ok (.getfield 54, 3) := by decide +kernel
theorem dX10_deliver_112 : decode cX10_deliver 112 = .ok (.iload_n 2, 1) := by decide +kernel
theorem dX10_deliver_113 : decode cX10_deliver 113 = .ok (.iconst 2, 1) := by decide +kernel
theorem dX10_deliver_114 : decode cX10_deliver 114 = .ok (.iastore, 1) := by decide +kernel
theorem dX10_deliver_115 : decode cX10_deliver 115 = .ok (.aload_n 0, 1) := by decide +kernel
theorem dX10_deliver_116 : decode cX10_deliver 116 = .ok (.dup, 1) := by decide +kernel
theorem dX10_deliver_117 : decode cX10_deliver 117 = .ok (.getfield 154, 3) := by decide +kernel
theorem dX10_deliver_120 : decode cX10_deliver 120 = .ok (.iconst 1, 1) := by decide +kernel
theorem dX10_deliver_121 : decode cX10_deliver 121 = .ok (.iadd, 1) := by decide +kernel
theorem dX10_deliver_122 : decode cX10_deliver 122 = .ok (.putfield 154, 3) := by decide +kernel
theorem dX10_deliver_125 : decode cX10_deliver 125 = .ok (.iinc 2 1, 3) := by decide +kernel
theorem dX10_deliver_128 : decode cX10_deliver 128 = .ok (.goto (-107), 3) := by decide +kernel
theorem dX10_deliver_131 : decode cX10_deliver 131 = .ok (.aload_n 0, 1) := by decide +kernel
theorem dX10_deliver_132 : decode cX10_deliver 132 = .ok (.dup, 1) := by decide +kernel
theorem dX10_deliver_133 : decode cX10_deliver 133 = .ok (.getfield 148, 3) := by decide +kernel
theorem dX10_deliver_136 : decode cX10_deliver 136 = .ok (.iconst 1, 1) := by decide +kernel
theorem dX10_deliver_137 : decode cX10_deliver 137 = .ok (.iadd, 1) := by decide +kernel
theorem dX10_deliver_138 : decode cX10_deliver 138 = .ok (.putfield 148, 3) := by decide +kernel
theorem dX10_deliver_141 : decode cX10_deliver 141 = .ok (.iload_n 1, 1) := by decide +kernel
theorem dX10_deliver_142 : decode cX10_deliver 142 = .ok (.ireturn, 1) := by decide +kernel
theorem dX10_about_0 : decode cX10_about 0 = .ok (.aload_n 0, 1) := by decide +kernel
theorem dX10_about_1 : decode cX10_about 1 = .ok (.iconst 0, 1) := by decide +kernel
theorem dX10_about_2 : decode cX10_about 2 = .ok (.putfield 64, 3) := by decide +kernel
theorem dX10_about_5 : decode cX10_about 5 = .ok (.iload_n 1, 1) := by decide +kernel
theorem dX10_about_6 : decode cX10_about 6 = .ok (.iconst 0, 1) := by decide +kernel
theorem dX10_about_7 : decode cX10_about 7 = .ok (.aload_n 0, 1) := by decide +kernel
theorem dX10_about_8 : decode cX10_about 8 = .ok (.getfield 145, 3) := by decide +kernel
theorem dX10_about_11 : decode cX10_about 11 = .ok (.iconst 1, 1) := by decide +kernel
theorem dX10_about_12 : decode cX10_about 12 = .ok (.isub, 1) := by decide +kernel
theorem dX10_about_13 : decode cX10_about 13 = .ok (.invokestatic 70, 3) := by decide +kernel
theorem dX10_about_16 : decode cX10_about 16 = .ok (.ifCond .eq 12, 3) := by decide +kernel
theorem dX10_about_19 : decode cX10_about 19 = .ok (.iload_n 2, 1) := by decide +kernel
theorem dX10_about_20 : decode cX10_about 20 = .ok (.iconst 0, 1) := by decide +kernel
theorem dX10_about_21 : decode cX10_about 21 = .ok (.iconst 2, 1) := by decide +kernel
theorem dX10_about_22 : decode cX10_about 22 = .ok (.invokestatic 70, 3) := by decide +kernel
theorem dX10_about_25 : decode cX10_about 25 = .ok (.ifCond .ne 5, 3) := by decide +kernel
theorem dX10_about_28 : decode cX10_about 28 = .ok (.iconst (-1), 1) := by decide +kernel
theorem dX10_about_29 : decode cX10_about 29 = .ok (.ireturn, 1) := by decide +kernel
theorem dX10_about_30 : decode cX10_about 30 = .ok (.iload_n 2, 1) := by decide +kernel
theorem dX10_about_31 : decode cX10_about 31 = .ok (.ifCond .ne 12, 3) := by decide +kernel
theorem dX10_about_34 : decode cX10_about 34 = .ok (.aload_n 0, 1) := by decide +kernel
theorem dX10_about_35 : decode cX10_about 35 = .ok (.getfield 48, 3) := by decide +kernel
theorem dX10_about_38 : decode cX10_about 38 = .ok (.iload_n 1, 1) := by decide +kernel
theorem dX10_about_39 : decode cX10_about 39 = .ok (.iaload, 1) := by decide +kernel
theorem dX10_about_40 : decode cX10_about 40 = .ok (.goto 23, 3) := by decide +kernel
theorem dX10_about_43 : decode cX10_about 43 = .ok (.iload_n 2, 1) := by decide +kernel
theorem dX10_about_44 : decode cX10_about 44 = .ok (.iconst 1, 1) := by decide +kernel
theorem dX10_about_45 : decode cX10_about 45 = .ok (.if_icmp .ne 12, 3) := by decide +kernel
theorem dX10_about_48 : decode cX10_about 48 = .ok (.aload_n 0, 1) := by decide +kernel
theorem dX10_about_49 : decode cX10_about 49 = .ok (.getfield 51, 3) := by decide +kernel
theorem dX10_about_52 : decode cX10_about 52 = .ok (.iload_n 1, 1) := by decide +kernel
theorem dX10_about_53 : decode cX10_about 53 = .ok (.iaload, 1) := by decide +kernel
theorem dX10_about_54 : decode cX10_about 54 = .ok (.goto 9, 3) := by decide +kernel
theorem dX10_about_57 : decode cX10_about 57 = .ok (.aload_n 0, 1) := by decide +kernel
theorem dX10_about_58 : decode cX10_about 58 = .ok (.getfield 54, 3) := by decide +kernel
theorem dX10_about_61 : decode cX10_about 61 = .ok (.iload_n 1, 1) := by decide +kernel
theorem dX10_about_62 : decode cX10_about 62 = .ok (.iaload, 1) := by decide +kernel
theorem dX10_about_63 : decode cX10_about 63 = .ok (.ireturn, 1) := by decide +kernel
theorem dX10_back_0 : decode cX10_back 0 = .ok (.aload_n 0, 1) := by decide +kernel
theorem dX10_back_1 : decode cX10_back 1 = .ok (.iconst 0, 1) := by decide +kernel
theorem dX10_back_2 : decode cX10_back 2 = .ok (.putfield 64, 3) := by decide +kernel
theorem dX10_back_5 : decode cX10_back 5 = .ok (.iload_n 1, 1) := by decide +kernel
theorem dX10_back_6 : decode cX10_back 6 = .ok (.iconst 1, 1) := by decide +kernel
theorem dX10_back_7 : decode cX10_back 7 = .ok (.if_icmp .ge 5, 3) := by decide +kernel
theorem dX10_back_10 : decode cX10_back 10 = .ok (.iconst (-1), 1) := by decide +kernel
theorem dX10_back_11 : decode cX10_back 11 = .ok (.ireturn, 1) := by decide +kernel
theorem dX10_back_12 : decode cX10_back 12 = .ok (.iload_n 1, 1) := by decide +kernel
theorem dX10_back_13 : decode cX10_back 13 = .ok (.aload_n 0, 1) := by decide +kernel
theorem dX10_back_14 : decode cX10_back 14 = .ok (.getfield 119, 3) := by decide +kernel
theorem dX10_back_17 : decode cX10_back 17 = .ok (.if_icmp .gt 18, 3) := by decide +kernel
theorem dX10_back_20 : decode cX10_back 20 = .ok (.iload_n 1, 1) := by decide +kernel
theorem dX10_back_21 : decode cX10_back 21 = .ok (.aload_n 0, 1) := by decide +kernel
theorem dX10_back_22 : decode cX10_back 22 = .ok (.getfield 32, 3) := by decide +kernel
theorem dX10_back_25 : decode cX10_back 25 = .ok (.iconst 3, 1) := by decide +kernel
theorem dX10_back_26 : decode cX10_back 26 = .ok (.iaload, 1) := by decide +kernel
theorem dX10_back_27 : decode cX10_back 27 = .ok (.aload_n 0, 1) := by decide +kernel
theorem dX10_back_28 : decode cX10_back 28 = .ok (.getfield 93, 3) := by decide +kernel
theorem dX10_back_31 : decode cX10_back 31 = .ok (.isub, 1) := by decide +kernel
theorem dX10_back_32 : decode cX10_back 32 = .ok (.if_icmp .le 6, 3) := by decide +kernel
theorem dX10_back_35 : decode cX10_back 35 = .ok (.bipush (-2), 2) := by decide +kernel
theorem dX10_back_37 : decode cX10_back 37 = .ok (.ireturn, 1) := by decide +kernel
theorem dX10_back_38 : decode cX10_back 38 = .ok (.aload_n 0, 1) := by decide +kernel
theorem dX10_back_39 : decode cX10_back 39 = .ok (.dup, 1) := by decide +kernel
theorem dX10_back_40 : decode cX10_back 40 = .ok (.getfield 119, 3) := by decide +kernel
theorem dX10_back_43 : decode cX10_back 43 = .ok (.iload_n 1, 1) := by decide +kernel
theorem dX10_back_44 : decode cX10_back 44 = .ok (.isub, 1) := by decide +kernel
theorem dX10_back_45 : decode cX10_back 45 = .ok (.putfield 119, 3) := by decide +kernel
theorem dX10_back_48 : decode cX10_back 48 = .ok (.aload_n 0, 1) := by decide +kernel
theorem dX10_back_49 : decode cX10_back 49 = .ok (.dup, 1) := by decide +kernel
theorem dX10_back_50 : decode cX10_back 50 = .ok (.getfield 93, 3) := by decide +kernel
theorem dX10_back_53 : decode cX10_back 53 = .ok (.iload_n 1, 1) := by decide +kernel
theorem dX10_back_54 : decode cX10_back 54 = .ok (.iadd, 1) := by decide +kernel
theorem dX10_back_55 : decode cX10_back 55 = .ok (.putfield 93, 3) := by decide +kernel
theorem dX10_back_58 : decode cX10_back 58 = .ok (.aload_n 0, 1) := by decide +kernel
theorem dX10_back_59 : decode cX10_back 59 = .ok (.getfield 93, 3) := by decide +kernel
theorem dX10_back_62 : decode cX10_back 62 = .ok (.ireturn, 1) := by decide +kernel
theorem dX10_lose_0 : decode cX10_lose 0 = .ok (.aload_n 0, 1) := by decide +kernel
theorem dX10_lose_1 : decode cX10_lose 1 = .ok (.iconst 0, 1) := by decide +kernel
theorem dX10_lose_2 : decode cX10_lose 2 = .ok (.putfield 64, 3) := by decide +kernel
theorem dX10_lose_5 : decode cX10_lose 5 = .ok (.iload_n 1, 1) := by decide +kernel
theorem dX10_lose_6 : decode cX10_lose 6 = .ok (.iconst 0, 1) := by decide +kernel
theorem dX10_lose_7 : decode cX10_lose 7 = .ok (.iconst 3, 1) := by decide +kernel
theorem dX10_lose_8 : decode cX10_lose 8 = .ok (.invokestatic 70, 3) := by decide +kernel
theorem dX10_lose_11 : decode cX10_lose 11 = .ok (.ifCond .ne 5, 3) := by decide +kernel
theorem dX10_lose_14 : decode cX10_lose 14 = .ok (.iconst (-1), 1) := by decide +kernel
theorem dX10_lose_15 : decode cX10_lose 15 = .ok (.ireturn, 1) := by decide +kernel
theorem dX10_lose_16 : decode cX10_lose 16 = .ok (.aload_n 0, 1) := by decide +kernel
theorem dX10_lose_17 : decode cX10_lose 17 = .ok (.getfield 57, 3) := by decide +kernel
theorem dX10_lose_20 : decode cX10_lose 20 = .ok (.iload_n 1, 1) := by decide +kernel
theorem dX10_lose_21 : decode cX10_lose 21 = .ok (.baload, 1) := by decide +kernel
theorem dX10_lose_22 : decode cX10_lose 22 = .ok (.ifCond .eq 7, 3) := by decide +kernel
theorem dX10_lose_25 : decode cX10_lose 25 = .ok (.iconst 1, 1) := by decide +kernel
theorem dX10_lose_26 : decode cX10_lose 26 = .ok (.goto 4, 3) := by decide +kernel
theorem dX10_lose_29 : decode cX10_lose 29 = .ok (.iconst 0, 1) := by decide +kernel
theorem dX10_lose_30 : decode cX10_lose 30 = .ok (.istore_n 3, 1) := by decide +kernel
theorem dX10_lose_31 : decode cX10_lose 31 = .ok (.aload_n 0, 1) := by decide +kernel
theorem dX10_lose_32 : decode cX10_lose 32 = .ok (.getfield 57, 3) := by decide +kernel
theorem dX10_lose_35 : decode cX10_lose 35 = .ok (.iload_n 1, 1) := by decide +kernel
theorem dX10_lose_36 : decode cX10_lose 36 = .ok (.iload_n 2, 1) := by decide +kernel
theorem dX10_lose_37 : decode cX10_lose 37 = .ok (.bastore, 1) := by decide +kernel
theorem dX10_lose_38 : decode cX10_lose 38 = .ok (.iload_n 3, 1) := by decide +kernel
theorem dX10_lose_39 : decode cX10_lose 39 = .ok (.ireturn, 1) := by decide +kernel
theorem dX10_reads_0 : decode cX10_reads 0 = .ok (.iload_n 1, 1) := by decide +kernel
theorem dX10_reads_1 : decode cX10_reads 1 = .ok (.ifCond .ne 10, 3) := by decide +kernel
theorem dX10_reads_4 : decode cX10_reads 4 = .ok (.aload_n 0, 1) := by decide +kernel
theorem dX10_reads_5 : decode cX10_reads 5 = .ok (.getfield 116, 3) := by decide +kernel
theorem dX10_reads_8 : decode cX10_reads 8 = .ok (.goto 38, 3) := by decide +kernel
theorem dX10_reads_11 : decode cX10_reads 11 = .ok (.iload_n 1, 1) := by decide +kernel
theorem dX10_reads_12 : decode cX10_reads 12 = .ok (.iconst 1, 1) := by decide +kernel
theorem dX10_reads_13 : decode cX10_reads 13 = .ok (.if_icmp .ne 10, 3) := by decide +kernel
theorem dX10_reads_16 : decode cX10_reads 16 = .ok (.aload_n 0, 1) := by decide +kernel
theorem dX10_reads_17 : decode cX10_reads 17 = .ok (.getfield 151, 3) := by decide +kernel
theorem dX10_reads_20 : decode cX10_reads 20 = .ok (.goto 26, 3) := by decide +kernel
theorem dX10_reads_23 : decode cX10_reads 23 = .ok (.iload_n 1, 1) := by decide +kernel
theorem dX10_reads_24 : decode cX10_reads 24 = .ok (.iconst 2, 1) := by decide +kernel
theorem dX10_reads_25 : decode cX10_reads 25 = .ok (.if_icmp .ne 10, 3) := by decide +kernel
theorem dX10_reads_28 : decode cX10_reads 28 = .ok (.aload_n 0, 1) := by decide +kernel
theorem dX10_reads_29 : decode cX10_reads 29 = .ok (.getfield 122, 3) := by decide +kernel
theorem dX10_reads_32 : decode cX10_reads 32 = .ok (.goto 14, 3) := by decide +kernel
theorem dX10_reads_35 : decode cX10_reads 35 = .ok (.aload_n 0, 1) := by decide +kernel
theorem dX10_reads_36 : decode cX10_reads 36 = .ok (.getfield 93, 3) := by decide +kernel
theorem dX10_reads_39 : decode cX10_reads 39 = .ok (.i2l, 1) := by decide +kernel
theorem dX10_reads_40 : decode cX10_reads 40 = .ok (.aload_n 0, 1) := by decide +kernel
theorem dX10_reads_41 : decode cX10_reads 41 = .ok (.getfield 119, 3) := by decide +kernel
theorem dX10_reads_44 : decode cX10_reads 44 = .ok (.i2l, 1) := by decide +kernel
theorem dX10_reads_45 : decode cX10_reads 45 = .ok (.ladd, 1) := by decide +kernel
theorem dX10_reads_46 : decode cX10_reads 46 = .ok (.lreturn, 1) := by decide +kernel
theorem dX10_meter_0 : decode cX10_meter 0 = .ok (.aload_n 0, 1) := by decide +kernel
theorem dX10_meter_1 : decode cX10_meter 1 = .ok (.iconst 0, 1) := by decide +kernel
theorem dX10_meter_2 : decode cX10_meter 2 = .ok (.putfield 64, 3) := by decide +kernel
theorem dX10_meter_5 : decode cX10_meter 5 = .ok (.iload_n 1, 1) := by decide +kernel
theorem dX10_meter_6 : decode cX10_meter 6 = .ok (.iconst 0, 1) := by decide +kernel
theorem dX10_meter_7 : decode cX10_meter 7 = .ok (.iconst 3, 1) := by decide +kernel
theorem dX10_meter_8 : decode cX10_meter 8 = .ok (.invokestatic 70, 3) := by decide +kernel
theorem dX10_meter_11 : decode cX10_meter 11 = .ok (.ifCond .ne 9, 3) := by decide +kernel
theorem dX10_meter_14 : decode cX10_meter 14 = .ok (.ldc2_w 96, 3) := by decide +kernel
theorem dX10_meter_17 : decode cX10_meter 17 = .ok (.goto 23, 3) := by decide +kernel
theorem dX10_meter_20 : decode cX10_meter 20 = .ok (.aload_n 0, 1) := by decide +kernel
theorem dX10_meter_21 : decode cX10_meter 21 = .ok (.getfield 57, 3) := by decide +kernel
theorem dX10_meter_24 : decode cX10_meter 24 = .ok (.iload_n 1, 1) := by decide +kernel
theorem dX10_meter_25 : decode cX10_meter 25 = .ok (.baload, 1) := by decide +kernel
theorem dX10_meter_26 : decode cX10_meter 26 = .ok (.ifCond .eq 9, 3) := by decide +kernel
theorem dX10_meter_29 : decode cX10_meter 29 = .ok (.ldc2_w 157, 3) := by decide +kernel
theorem dX10_meter_32 : decode cX10_meter 32 = .ok (.goto 8, 3) := by decide +kernel
theorem dX10_meter_35 : decode cX10_meter 35 = .ok (.aload_n 0, 1) := by decide +kernel
theorem dX10_meter_36 : decode cX10_meter 36 = .ok (.iload_n 1, 1) := by decide +kernel
theorem dX10_meter_37 : decode cX10_meter 37 = .ok (.invokevirtual 159, 3) := by decide +kernel
theorem dX10_meter_40 : decode cX10_meter 40 = .ok (.lreturn, 1) := by decide +kernel
theorem dX10_balance_0 : decode cX10_balance 0 = .ok (.aload_n 0, 1) := by decide +kernel
theorem dX10_balance_1 : decode cX10_balance 1 = .ok (.iconst 0, 1) := by decide +kernel
theorem dX10_balance_2 : decode cX10_balance 2 = .ok (.putfield 64, 3) := by decide +kernel
theorem dX10_balance_5 : decode cX10_balance 5 = .ok (.iload_n 1, 1) := by decide +kernel
theorem dX10_balance_6 : decode cX10_balance 6 = .ok (.iconst 0, 1) := by decide +kernel
theorem dX10_balance_7 : decode cX10_balance 7 = .ok (.iconst 3, 1) := by decide +kernel
theorem dX10_balance_8 : decode cX10_balance 8 = .ok (.invokestatic 70, 3) := by decide +kernel
theorem dX10_balance_11 : decode cX10_balance 11 = .ok (.ifCond .ne 7, 3) := by decide +kernel
theorem dX10_balance_14 : decode cX10_balance 14 = .ok (.ldc2_w 96, 3) := by decide +kernel
theorem dX10_balance_17 : decode cX10_balance 17 = .ok (.lreturn, 1) := by decide +kernel
theorem dX10_balance_18 : decode cX10_balance 18 = .ok (.iconst 0, 1) := by decide +kernel
theorem dX10_balance_19 : decode cX10_balance 19 = .ok (.istore_n 2, 1) := by decide +kernel
theorem dX10_balance_20 : decode cX10_balance 20 = .ok (.iconst 0, 1) := by decide +kernel
theorem dX10_balance_21 : decode cX10_balance 21 = .ok (.istore_n 3, 1) := by decide +kernel
theorem dX10_balance_22 : decode cX10_balance 22 = .ok (.iload_n 3, 1) := by decide +kernel
theorem dX10_balance_23 : decode cX10_balance 23 = .ok (.iconst 4, 1) := by decide +kernel
theorem dX10_balance_24 : decode cX10_balance 24 = .ok (.if_icmp .ge 31, 3) := by decide +kernel
theorem dX10_balance_27 : decode cX10_balance 27 = .ok (.iload_n 2, 1) := by decide +kernel
theorem dX10_balance_28 : decode cX10_balance 28 = .ok (.iload_n 3, 1) := by decide +kernel
theorem dX10_balance_29 : decode cX10_balance 29 = .ok (.iload_n 1, 1) := by decide +kernel
theorem dX10_balance_30 : decode cX10_balance 30 = .ok (.if_icmp .eq 16, 3) := by decide +kernel
theorem dX10_balance_33 : decode cX10_balance 33 = .ok (.aload_n 0, 1) := by decide +kernel
theorem dX10_balance_34 : decode cX10_balance 34 = .ok (.getfield 57, 3) := by decide +kernel
end
section
theorem dX10_balance_37 : decode cX10_balance 37 = .ok (.iload_n 3, 1) := by decide +kernel
theorem dX10_balance_38 : decode cX10_balance 38 = .ok (.baload, 1) := by decide +kernel
theorem dX10_balance_39 : decode cX10_balance 39 = .ok (.ifCond .eq 7, 3) := by decide +kernel
theorem dX10_balance_42 : decode cX10_balance 42 = .ok (.iconst 1, 1) := by decide +kernel
theorem dX10_balance_43 : decode cX10_balance 43 = .ok (.goto 4, 3) := by decide +kernel
theorem dX10_balance_46 : decode cX10_balance 46 = .ok (.iconst 0, 1) := by decide +kernel
theorem dX10_balance_47 : decode cX10_balance 47 = .ok (.iadd, 1) := by decide +kernel
theorem dX10_balance_48 : decode cX10_balance 48 = .ok (.istore_n 2, 1) := by decide +kernel
theorem dX10_balance_49 : decode cX10_balance 49 = .ok (.iinc 3 1, 3) := by decide +kernel
theorem dX10_balance_52 : decode cX10_balance 52 = .ok (.goto (-30), 3) := by decide +kernel
theorem dX10_balance_55 : decode cX10_balance 55 = .ok (.aload_n 0, 1) := by decide +kernel
theorem dX10_balance_56 : decode cX10_balance 56 = .ok (.getfield 57, 3) := by decide +kernel
theorem dX10_balance_59 : decode cX10_balance 59 = .ok (.iload_n 1, 1) := by decide +kernel
theorem dX10_balance_60 : decode cX10_balance 60 = .ok (.baload, 1) := by decide +kernel
theorem dX10_balance_61 : decode cX10_balance 61 = .ok (.ifCond .ne 9, 3) := by decide +kernel
theorem dX10_balance_64 : decode cX10_balance 64 = .ok (.aload_n 0, 1) := by decide +kernel
theorem dX10_balance_65 : decode cX10_balance 65 = .ok (.iload_n 1, 1) := by decide +kernel
theorem dX10_balance_66 : decode cX10_balance 66 = .ok (.invokevirtual 159, 3) := by decide +kernel
theorem dX10_balance_69 : decode cX10_balance 69 = .ok (.lreturn, 1) := by decide +kernel
theorem dX10_balance_70 : decode cX10_balance 70 = .ok (.iload_n 2, 1) := by decide +kernel
theorem dX10_balance_71 : decode cX10_balance 71 = .ok (.ifCond .le 7, 3) := by decide +kernel
theorem dX10_balance_74 : decode cX10_balance 74 = .ok (.ldc2_w 157, 3) := by decide +kernel
theorem dX10_balance_77 : decode cX10_balance 77 = .ok (.lreturn, 1) := by decide +kernel
theorem dX10_balance_78 : decode cX10_balance 78 = .ok (.iload_n 1, 1) := by decide +kernel
theorem dX10_balance_79 : decode cX10_balance 79 = .ok (.ifCond .ne 23, 3) := by decide +kernel
theorem dX10_balance_82 : decode cX10_balance 82 = .ok (.aload_n 0, 1) := by decide +kernel
theorem dX10_balance_83 : decode cX10_balance 83 = .ok (.iconst 1, 1) := by decide +kernel
theorem dX10_balance_84 : decode cX10_balance 84 = .ok (.invokevirtual 159, 3) := by decide +kernel
theorem dX10_balance_87 : decode cX10_balance 87 = .ok (.aload_n 0, 1) := by decide +kernel
theorem dX10_balance_88 : decode cX10_balance 88 = .ok (.iconst 2, 1) := by decide +kernel
theorem dX10_balance_89 : decode cX10_balance 89 = .ok (.invokevirtual 159, 3) := by decide +kernel
theorem dX10_balance_92 : decode cX10_balance 92 = .ok (.ladd, 1) := by decide +kernel
theorem dX10_balance_93 : decode cX10_balance 93 = .ok (.aload_n 0, 1) := by decide +kernel
theorem dX10_balance_94 : decode cX10_balance 94 = .ok (.iconst 3, 1) := by decide +kernel
theorem dX10_balance_95 : decode cX10_balance 95 = .ok (.invokevirtual 159, 3) := by decide +kernel
theorem dX10_balance_98 : decode cX10_balance 98 = .ok (.ladd, 1) := by decide +kernel
theorem dX10_balance_99 : decode cX10_balance 99 = .ok (.goto 32, 3) := by decide +kernel
theorem dX10_balance_102 : decode cX10_balance 102 = .ok (.aload_n 0, 1) := by decide +kernel
theorem dX10_balance_103 : decode cX10_balance 103 = .ok (.iconst 0, 1) := by decide +kernel
theorem dX10_balance_104 : decode cX10_balance 104 = .ok (.invokevirtual 159, 3) := by decide +kernel
theorem dX10_balance_107 : decode cX10_balance 107 = .ok (.aload_n 0, 1) := by decide +kernel
theorem dX10_balance_108 : decode cX10_balance 108 = .ok (.iconst 1, 1) := by decide +kernel
theorem dX10_balance_109 : decode cX10_balance 109 = .ok (.invokevirtual 159, 3) := by decide +kernel
theorem dX10_balance_112 : decode cX10_balance 112 = .ok (.aload_n 0, 1) := by decide +kernel
theorem dX10_balance_113 : decode cX10_balance 113 = .ok (.iconst 2, 1) := by decide +kernel
theorem dX10_balance_114 : decode cX10_balance 114 = .ok (.invokevirtual 159, 3) := by decide +kernel
theorem dX10_balance_117 : decode cX10_balance 117 = .ok (.ladd, 1) := by decide +kernel
theorem dX10_balance_118 : decode cX10_balance 118 = .ok (.aload_n 0, 1) := by decide +kernel
theorem dX10_balance_119 : decode cX10_balance 119 = .ok (.iconst 3, 1) := by decide +kernel
theorem dX10_balance_120 : decode cX10_balance 120 = .ok (.invokevirtual 159, 3) := by decide +kernel
theorem dX10_balance_123 : decode cX10_balance 123 = .ok (.ladd, 1) := by decide +kernel
theorem dX10_balance_124 : decode cX10_balance 124 = .ok (.aload_n 0, 1) := by decide +kernel
theorem dX10_balance_125 : decode cX10_balance 125 = .ok (.iload_n 1, 1) := by decide +kernel
theorem dX10_balance_126 : decode cX10_balance 126 = .ok (.invokevirtual 159, 3) := by decide +kernel
theorem dX10_balance_129 : decode cX10_balance 129 = .ok (.lsub, 1) := by decide +kernel
theorem dX10_balance_130 : decode cX10_balance 130 = .ok (.lsub, 1) := by decide +kernel
theorem dX10_balance_131 : decode cX10_balance 131 = .ok (.lreturn, 1) := by decide +kernel
theorem dX10_split_0 : decode cX10_split 0 = .ok (.aload_n 0, 1) := by decide +kernel
theorem dX10_split_1 : decode cX10_split 1 = .ok (.iconst 0, 1) := by decide +kernel
theorem dX10_split_2 : decode cX10_split 2 = .ok (.putfield 64, 3) := by decide +kernel
theorem dX10_split_5 : decode cX10_split 5 = .ok (.aload_n 0, 1) := by decide +kernel
theorem dX10_split_6 : decode cX10_split 6 = .ok (.iload_n 1, 1) := by decide +kernel
theorem dX10_split_7 : decode cX10_split 7 = .ok (.invokevirtual 74, 3) := by decide +kernel
theorem dX10_split_10 : decode cX10_split 10 = .ok (.ifCond .eq 32, 3) := by decide +kernel
theorem dX10_split_13 : decode cX10_split 13 = .ok (.aload_n 0, 1) := by decide +kernel
theorem dX10_split_14 : decode cX10_split 14 = .ok (.iload_n 2, 1) := by decide +kernel
theorem dX10_split_15 : decode cX10_split 15 = .ok (.invokevirtual 74, 3) := by decide +kernel
theorem dX10_split_18 : decode cX10_split 18 = .ok (.ifCond .eq 24, 3) := by decide +kernel
theorem dX10_split_21 : decode cX10_split 21 = .ok (.iload_n 3, 1) := by decide +kernel
theorem dX10_split_22 : decode cX10_split 22 = .ok (.iconst 0, 1) := by decide +kernel
theorem dX10_split_23 : decode cX10_split 23 = .ok (.bipush 40, 2) := by decide +kernel
theorem dX10_split_25 : decode cX10_split 25 = .ok (.invokestatic 70, 3) := by decide +kernel
theorem dX10_split_28 : decode cX10_split 28 = .ok (.ifCond .eq 14, 3) := by decide +kernel
theorem dX10_split_31 : decode cX10_split 31 = .ok (.iload 4, 2) := by decide +kernel
theorem dX10_split_33 : decode cX10_split 33 = .ok (.iconst 0, 1) := by decide +kernel
theorem dX10_split_34 : decode cX10_split 34 = .ok (.bipush 20, 2) := by decide +kernel
theorem dX10_split_36 : decode cX10_split 36 = .ok (.invokestatic 70, 3) := by decide +kernel
theorem dX10_split_39 : decode cX10_split 39 = .ok (.ifCond .ne 5, 3) := by decide +kernel
theorem dX10_split_42 : decode cX10_split 42 = .ok (.iconst (-1), 1) := by decide +kernel
theorem dX10_split_43 : decode cX10_split 43 = .ok (.ireturn, 1) := by decide +kernel
theorem dX10_split_44 : decode cX10_split 44 = .ok (.aload_n 0, 1) := by decide +kernel
theorem dX10_split_45 : decode cX10_split 45 = .ok (.iload_n 1, 1) := by decide +kernel
theorem dX10_split_46 : decode cX10_split 46 = .ok (.iload_n 3, 1) := by decide +kernel
theorem dX10_split_47 : decode cX10_split 47 = .ok (.invokevirtual 86, 3) := by decide +kernel
theorem dX10_split_50 : decode cX10_split 50 = .ok (.istore 5, 2) := by decide +kernel
theorem dX10_split_52 : decode cX10_split 52 = .ok (.aload_n 0, 1) := by decide +kernel
theorem dX10_split_53 : decode cX10_split 53 = .ok (.iload_n 2, 1) := by decide +kernel
theorem dX10_split_54 : decode cX10_split 54 = .ok (.iload_n 3, 1) := by decide +kernel
theorem dX10_split_55 : decode cX10_split 55 = .ok (.invokevirtual 86, 3) := by decide +kernel
theorem dX10_split_58 : decode cX10_split 58 = .ok (.istore 6, 2) := by decide +kernel
theorem dX10_split_60 : decode cX10_split 60 = .ok (.iconst 0, 1) := by decide +kernel
theorem dX10_split_61 : decode cX10_split 61 = .ok (.istore 7, 2) := by decide +kernel
theorem dX10_split_63 : decode cX10_split 63 = .ok (.iconst 1, 1) := by decide +kernel
theorem dX10_split_64 : decode cX10_split 64 = .ok (.istore 8, 2) := by decide +kernel
theorem dX10_split_66 : decode cX10_split 66 = .ok (.iload 8, 2) := by decide +kernel
theorem dX10_split_68 : decode cX10_split 68 = .ok (.bipush 10, 2) := by decide +kernel
theorem dX10_split_70 : decode cX10_split 70 = .ok (.if_icmp .gt 56, 3) := by decide +kernel
theorem dX10_split_73 : decode cX10_split 73 = .ok (.bipush 10, 2) := by decide +kernel
theorem dX10_split_75 : decode cX10_split 75 = .ok (.iload 8, 2) := by decide +kernel
theorem dX10_split_77 : decode cX10_split 77 = .ok (.isub, 1) := by decide +kernel
theorem dX10_split_78 : decode cX10_split 78 = .ok (.iload 5, 2) := by decide +kernel
theorem dX10_split_80 : decode cX10_split 80 = .ok (.imul, 1) := by decide +kernel
theorem dX10_split_81 : decode cX10_split 81 = .ok (.iload 8, 2) := by decide +kernel
theorem dX10_split_83 : decode cX10_split 83 = .ok (.iload 6, 2) := by decide +kernel
theorem dX10_split_85 : decode cX10_split 85 = .ok (.imul, 1) := by decide +kernel
theorem dX10_split_86 : decode cX10_split 86 = .ok (.iadd, 1) := by decide +kernel
theorem dX10_split_87 : decode cX10_split 87 = .ok (.iload 8, 2) := by decide +kernel
theorem dX10_split_89 : decode cX10_split 89 = .ok (.iload 4, 2) := by decide +kernel
theorem dX10_split_91 : decode cX10_split 91 = .ok (.imul, 1) := by decide +kernel
theorem dX10_split_92 : decode cX10_split 92 = .ok (.isub, 1) := by decide +kernel
theorem dX10_split_93 : decode cX10_split 93 = .ok (.bipush 10, 2) := by decide +kernel
theorem dX10_split_95 : decode cX10_split 95 = .ok (.iload 7, 2) := by decide +kernel
theorem dX10_split_97 : decode cX10_split 97 = .ok (.isub, 1) := by decide +kernel
theorem dX10_split_98 : decode cX10_split 98 = .ok (.iload 5, 2) := by decide +kernel
theorem dX10_split_100 : decode cX10_split 100 = .ok (.imul, 1) := by decide +kernel
theorem dX10_split_101 : decode cX10_split 101 = .ok (.iload 7, 2) := by decide +kernel
theorem dX10_split_103 : decode cX10_split 103 = .ok (.iload 6, 2) := by decide +kernel
theorem dX10_split_105 : decode cX10_split 105 = .ok (.imul, 1) := by decide +kernel
theorem dX10_split_106 : decode cX10_split 106 = .ok (.iadd, 1) := by decide +kernel
theorem dX10_split_107 : decode cX10_split 107 = .ok (.iload 7, 2) := by decide +kernel
theorem dX10_split_109 : decode cX10_split 109 = .ok (.iload 4, 2) := by decide +kernel
theorem dX10_split_111 : decode cX10_split 111 = .ok (.imul, 1) := by decide +kernel
theorem dX10_split_112 : decode cX10_split 112 = .ok (.isub, 1) := by decide +kernel
theorem dX10_split_113 : decode cX10_split 113 = .ok (.if_icmp .le 7, 3) := by decide +kernel
theorem dX10_split_116 : decode cX10_split 116 = .ok (.iload 8, 2) := by decide +kernel
theorem dX10_split_118 : decode cX10_split 118 = .ok (.istore 7, 2) := by decide +kernel
theorem dX10_split_120 : decode cX10_split 120 = .ok (.iinc 8 1, 3) := by decide +kernel
theorem dX10_split_123 : decode cX10_split 123 = .ok (.goto (-57), 3) := by decide +kernel
theorem dX10_split_126 : decode cX10_split 126 = .ok (.iload 7, 2) := by decide +kernel
theorem dX10_split_128 : decode cX10_split 128 = .ok (.ireturn, 1) := by decide +kernel
theorem dX10_count_0 : decode cX10_count 0 = .ok (.aload_n 0, 1) := by decide +kernel
theorem dX10_count_1 : decode cX10_count 1 = .ok (.iconst 0, 1) := by decide +kernel
theorem dX10_count_2 : decode cX10_count 2 = .ok (.putfield 64, 3) := by decide +kernel
theorem dX10_count_5 : decode cX10_count 5 = .ok (.iload_n 1, 1) := by decide +kernel
theorem dX10_count_6 : decode cX10_count 6 = .ok (.tableswitch 104 0 9 #[54, 59, 64, 69, 74, 79, 84, 89, 94, 99], 54) := by decide +kernel
theorem dX10_count_60 : decode cX10_count 60 = .ok (.aload_n 0, 1) := by decide +kernel
theorem dX10_count_61 : decode cX10_count 61 = .ok (.getfield 90, 3) := by decide +kernel
theorem dX10_count_64 : decode cX10_count 64 = .ok (.ireturn, 1) := by decide +kernel
theorem dX10_count_65 : decode cX10_count 65 = .ok (.aload_n 0, 1) := by decide +kernel
theorem dX10_count_66 : decode cX10_count 66 = .ok (.getfield 93, 3) := by decide +kernel
theorem dX10_count_69 : decode cX10_count 69 = .ok (.ireturn, 1) := by decide +kernel
theorem dX10_count_70 : decode cX10_count 70 = .ok (.aload_n 0, 1) := by decide +kernel
theorem dX10_count_71 : decode cX10_count 71 = .ok (.getfield 119, 3) := by decide +kernel
theorem dX10_count_74 : decode cX10_count 74 = .ok (.ireturn, 1) := by decide +kernel
theorem dX10_count_75 : decode cX10_count 75 = .ok (.aload_n 0, 1) := by decide +kernel
theorem dX10_count_76 : decode cX10_count 76 = .ok (.getfield 67, 3) := by decide +kernel
theorem dX10_count_79 : decode cX10_count 79 = .ok (.ireturn, 1) := by decide +kernel
theorem dX10_count_80 : decode cX10_count 80 = .ok (.aload_n 0, 1) := by decide +kernel
theorem dX10_count_81 : decode cX10_count 81 = .ok (.getfield 19, 3) := by decide +kernel
theorem dX10_count_84 : decode cX10_count 84 = .ok (.ireturn, 1) := by decide +kernel
theorem dX10_count_85 : decode cX10_count 85 = .ok (.aload_n 0, 1) := by decide +kernel
theorem dX10_count_86 : decode cX10_count 86 = .ok (.getfield 145, 3) := by decide +kernel
theorem dX10_count_89 : decode cX10_count 89 = .ok (.ireturn, 1) := by decide +kernel
theorem dX10_count_90 : decode cX10_count 90 = .ok (.aload_n 0, 1) := by decide +kernel
theorem dX10_count_91 : decode cX10_count 91 = .ok (.getfield 148, 3) := by decide +kernel
theorem dX10_count_94 : decode cX10_count 94 = .ok (.ireturn, 1) := by decide +kernel
theorem dX10_count_95 : decode cX10_count 95 = .ok (.aload_n 0, 1) := by decide +kernel
theorem dX10_count_96 : decode cX10_count 96 = .ok (.getfield 125, 3) := by decide +kernel
theorem dX10_count_99 : decode cX10_count 99 = .ok (.ireturn, 1) := by decide +kernel
theorem dX10_count_100 : decode cX10_count 100 = .ok (.aload_n 0, 1) := by decide +kernel
theorem dX10_count_101 : decode cX10_count 101 = .ok (.getfield 101, 3) := by decide +kernel
theorem dX10_count_104 : decode cX10_count 104 = .ok (.ireturn, 1) := by decide +kernel
theorem dX10_count_105 : decode cX10_count 105 = .ok (.aload_n 0, 1) := by decide +kernel
theorem dX10_count_106 : decode cX10_count 106 = .ok (.getfield 154, 3) := by decide +kernel
theorem dX10_count_109 : decode cX10_count 109 = .ok (.ireturn, 1) := by decide +kernel
theorem dX10_count_110 : decode cX10_count 110 = .ok (.iconst (-1), 1) := by decide +kernel
theorem dX10_count_111 : decode cX10_count 111 = .ok (.ireturn, 1) := by decide +kernel
theorem dX10_trace_0 : decode cX10_trace 0 = .ok (.aload_n 0, 1) := by decide +kernel
theorem dX10_trace_1 : decode cX10_trace 1 = .ok (.iconst 0, 1) := by decide +kernel
theorem dX10_trace_2 : decode cX10_trace 2 = .ok (.putfield 64, 3) := by decide +kernel
theorem dX10_trace_5 : decode cX10_trace 5 = .ok (.aload_n 0, 1) := by decide +kernel
theorem dX10_trace_6 : decode cX10_trace 6 = .ok (.getfield 78, 3) := by decide +kernel
theorem dX10_trace_9 : decode cX10_trace 9 = .ok (.lreturn, 1) := by decide +kernel
theorem dJ9_max_7cf53_0 : decode cJ9_max_7cf53 0 = .ok (.iload_n 0, 1) := by decide +kernel
theorem dJ9_max_7cf53_1 : decode cJ9_max_7cf53 1 = .ok (.iload_n 1, 1) := by decide +kernel
theorem dJ9_max_7cf53_2 : decode cJ9_max_7cf53 2 = .ok (.if_icmp .lt 7, 3) := by decide +kernel
theorem dJ9_max_7cf53_5 : decode cJ9_max_7cf53 5 = .ok (.iload_n 0, 1) := by decide +kernel
theorem dJ9_max_7cf53_6 : decode cJ9_max_7cf53 6 = .ok (.goto 4, 3) := by decide +kernel
theorem dJ9_max_7cf53_9 : decode cJ9_max_7cf53 9 = .ok (.iload_n 1, 1) := by decide +kernel
theorem dJ9_max_7cf53_10 : decode cJ9_max_7cf53 10 = .ok (.ireturn, 1) := by decide +kernel
theorem dJ9_min_7cf53_0 : decode cJ9_min_7cf53 0 = .ok (.iload_n 0, 1) := by decide +kernel
theorem dJ9_min_7cf53_1 : decode cJ9_min_7cf53 1 = .ok (.iload_n 1, 1) := by decide +kernel
theorem dJ9_min_7cf53_2 : decode cJ9_min_7cf53 2 = .ok (.if_icmp .gt 7, 3) := by decide +kernel
theorem dJ9_min_7cf53_5 : decode cJ9_min_7cf53 5 = .ok (.iload_n 0, 1) := by decide +kernel
theorem dJ9_min_7cf53_6 : decode cJ9_min_7cf53 6 = .ok (.goto 4, 3) := by decide +kernel
theorem dJ9_min_7cf53_9 : decode cJ9_min_7cf53 9 = .ok (.iload_n 1, 1) := by decide +kernel
theorem dJ9_min_7cf53_10 : decode cJ9_min_7cf53 10 = .ok (.ireturn, 1) := by decide +kernel
theorem dJ7_fill_53178_0 : decode cJ7_fill_53178 0 = .ok (.iconst 0, 1) := by decide +kernel
theorem dJ7_fill_53178_1 : decode cJ7_fill_53178 1 = .ok (.istore_n 2, 1) := by decide +kernel
theorem dJ7_fill_53178_2 : decode cJ7_fill_53178 2 = .ok (.aload_n 0, 1) := by decide +kernel
theorem dJ7_fill_53178_3 : decode cJ7_fill_53178 3 = .ok (.arraylength, 1) := by decide +kernel
theorem dJ7_fill_53178_4 : decode cJ7_fill_53178 4 = .ok (.istore_n 3, 1) := by decide +kernel
theorem dJ7_fill_53178_5 : decode cJ7_fill_53178 5 = .ok (.iload_n 2, 1) := by decide +kernel
theorem dJ7_fill_53178_6 : decode cJ7_fill_53178 6 = .ok (.iload_n 3, 1) := by decide +kernel
theorem dJ7_fill_53178_7 : decode cJ7_fill_53178 7 = .ok (.if_icmp .ge 13, 3) := by decide +kernel
theorem dJ7_fill_53178_10 : decode cJ7_fill_53178 10 = .ok (.aload_n 0, 1) := by decide +kernel
theorem dJ7_fill_53178_11 : decode cJ7_fill_53178 11 = .ok (.iload_n 2, 1) := by decide +kernel
theorem dJ7_fill_53178_12 : decode cJ7_fill_53178 12 = .ok (.iload_n 1, 1) := by decide +kernel
theorem dJ7_fill_53178_13 : decode cJ7_fill_53178 13 = .ok (.iastore, 1) := by decide +kernel
theorem dJ7_fill_53178_14 : decode cJ7_fill_53178 14 = .ok (.iinc 2 1, 3) := by decide +kernel
theorem dJ7_fill_53178_17 : decode cJ7_fill_53178 17 = .ok (.goto (-12), 3) := by decide +kernel
theorem dJ7_fill_53178_20 : decode cJ7_fill_53178 20 = .ok (.return_, 1) := by decide +kernel
theorem dL_law_0 : decode cL_law 0 = .ok (.new 7, 3) := by decide +kernel
theorem dL_law_3 : decode cL_law 3 = .ok (.dup, 1) := by decide +kernel
theorem dL_law_4 : decode cL_law 4 = .ok (.invokespecial 9, 3) := by decide +kernel
theorem dL_law_7 : decode cL_law 7 = .ok (.astore_n 1, 1) := by decide +kernel
theorem dL_law_8 : decode cL_law 8 = .ok (.new 10, 3) := by decide +kernel
theorem dL_law_11 : decode cL_law 11 = .ok (.dup, 1) := by decide +kernel
theorem dL_law_12 : decode cL_law 12 = .ok (.invokespecial 12, 3) := by decide +kernel
theorem dL_law_15 : decode cL_law 15 = .ok (.astore_n 2, 1) := by decide +kernel
theorem dL_law_16 : decode cL_law 16 = .ok (.iconst 0, 1) := by decide +kernel
theorem dL_law_17 : decode cL_law 17 = .ok (.istore_n 3, 1) := by decide +kernel
theorem dL_law_18 : decode cL_law 18 = .ok (.iload_n 3, 1) := by decide +kernel
theorem dL_law_19 : decode cL_law 19 = .ok (.aload_n 0, 1) := by decide +kernel
theorem dL_law_20 : decode cL_law 20 = .ok (.arraylength, 1) := by decide +kernel
theorem dL_law_21 : decode cL_law 21 = .ok (.bipush 8, 2) := by decide +kernel
theorem dL_law_23 : decode cL_law 23 = .ok (.isub, 1) := by decide +kernel
theorem dL_law_24 : decode cL_law 24 = .ok (.if_icmp .gt 802, 3) := by decide +kernel
theorem dL_law_27 : decode cL_law 27 = .ok (.aload_n 0, 1) := by decide +kernel
theorem dL_law_28 : decode cL_law 28 = .ok (.iload_n 3, 1) := by decide +kernel
theorem dL_law_29 : decode cL_law 29 = .ok (.iaload, 1) := by decide +kernel
theorem dL_law_30 : decode cL_law 30 = .ok (.bipush 31, 2) := by decide +kernel
theorem dL_law_32 : decode cL_law 32 = .ok (.iand, 1) := by decide +kernel
theorem dL_law_33 : decode cL_law 33 = .ok (.tableswitch 787 0 23 #[111, 198, 231, 264, 297, 330, 354, 367, 380, 393, 406, 419, 442, 475, 498, 531, 544, 577, 600, 649, 673, 697, 750, 773], 111) := by decide +kernel
theorem dL_law_144 : decode cL_law 144 = .ok (.aload_n 1, 1) := by decide +kernel
theorem dL_law_145 : decode cL_law 145 = .ok (.aload_n 0, 1) := by decide +kernel
theorem dL_law_146 : decode cL_law 146 = .ok (.iload_n 3, 1) := by decide +kernel
theorem dL_law_147 : decode cL_law 147 = .ok (.iconst 1, 1) := by decide +kernel
theorem dL_law_148 : decode cL_law 148 = .ok (.iadd, 1) := by decide +kernel
theorem dL_law_149 : decode cL_law 149 = .ok (.iaload, 1) := by decide +kernel
theorem dL_law_150 : decode cL_law 150 = .ok (.aload_n 0, 1) := by decide +kernel
theorem dL_law_151 : decode cL_law 151 = .ok (.iload_n 3, 1) := by decide +kernel
theorem dL_law_152 : decode cL_law 152 = .ok (.iconst 2, 1) := by decide +kernel
theorem dL_law_153 : decode cL_law 153 = .ok (.iadd, 1) := by decide +kernel
theorem dL_law_154 : decode cL_law 154 = .ok (.iaload, 1) := by decide +kernel
theorem dL_law_155 : decode cL_law 155 = .ok (.aload_n 0, 1) := by decide +kernel
theorem dL_law_156 : decode cL_law 156 = .ok (.iload_n 3, 1) := by decide +kernel
theorem dL_law_157 : decode cL_law 157 = .ok (.iconst 3, 1) := by decide +kernel
theorem dL_law_158 : decode cL_law 158 = .ok (.iadd, 1) := by decide +kernel
theorem dL_law_159 : decode cL_law 159 = .ok (.iaload, 1) := by decide +kernel
theorem dL_law_160 : decode cL_law 160 = .ok (.aload_n 0, 1) := by decide +kernel
theorem dL_law_161 : decode cL_law 161 = .ok (.iload_n 3, 1) := by decide +kernel
theorem dL_law_162 : decode cL_law 162 = .ok (.iconst 4, 1) := by decide +kernel
theorem dL_law_163 : decode cL_law 163 = .ok (.iadd, 1) := by decide +kernel
theorem dL_law_164 : decode cL_law 164 = .ok (.iaload, 1) := by decide +kernel
theorem dL_law_165 : decode cL_law 165 = .ok (.aload_n 0, 1) := by decide +kernel
theorem dL_law_166 : decode cL_law 166 = .ok (.iload_n 3, 1) := by decide +kernel
theorem dL_law_167 : decode cL_law 167 = .ok (.iconst 5, 1) := by decide +kernel
theorem dL_law_168 : decode cL_law 168 = .ok (.iadd, 1) := by decide +kernel
theorem dL_law_169 : decode cL_law 169 = .ok (.iaload, 1) := by decide +kernel
theorem dL_law_170 : decode cL_law 170 = .ok (.aload_n 0, 1) := by decide +kernel
theorem dL_law_171 : decode cL_law 171 = .ok (.iload_n 3, 1) := by decide +kernel
theorem dL_law_172 : decode cL_law 172 = .ok (.bipush 6, 2) := by decide +kernel
theorem dL_law_174 : decode cL_law 174 = .ok (.iadd, 1) := by decide +kernel
theorem dL_law_175 : decode cL_law 175 = .ok (.iaload, 1) := by decide +kernel
theorem dL_law_176 : decode cL_law 176 = .ok (.aload_n 0, 1) := by decide +kernel
theorem dL_law_177 : decode cL_law 177 = .ok (.iload_n 3, 1) := by decide +kernel
theorem dL_law_178 : decode cL_law 178 = .ok (.bipush 7, 2) := by decide +kernel
theorem dL_law_180 : decode cL_law 180 = .ok (.iadd, 1) := by decide +kernel
theorem dL_law_181 : decode cL_law 181 = .ok (.iaload, 1) := by decide +kernel
theorem dL_law_182 : decode cL_law 182 = .ok (.invokevirtual 13, 3) := by decide +kernel
theorem dL_law_185 : decode cL_law 185 = .ok (.aload_n 2, 1) := by decide +kernel
theorem dL_law_186 : decode cL_law 186 = .ok (.aload_n 0, 1) := by decide +kernel
theorem dL_law_187 : decode cL_law 187 = .ok (.iload_n 3, 1) := by decide +kernel
theorem dL_law_188 : decode cL_law 188 = .ok (.iconst 1, 1) := by decide +kernel
theorem dL_law_189 : decode cL_law 189 = .ok (.iadd, 1) := by decide +kernel
theorem dL_law_190 : decode cL_law 190 = .ok (.iaload, 1) := by decide +kernel
theorem dL_law_191 : decode cL_law 191 = .ok (.aload_n 0, 1) := by decide +kernel
theorem dL_law_192 : decode cL_law 192 = .ok (.iload_n 3, 1) := by decide +kernel
theorem dL_law_193 : decode cL_law 193 = .ok (.iconst 2, 1) := by decide +kernel
theorem dL_law_194 : decode cL_law 194 = .ok (.iadd, 1) := by decide +kernel
theorem dL_law_195 : decode cL_law 195 = .ok (.iaload, 1) := by decide +kernel
theorem dL_law_196 : decode cL_law 196 = .ok (.aload_n 0, 1) := by decide +kernel
theorem dL_law_197 : decode cL_law 197 = .ok (.iload_n 3, 1) := by decide +kernel
theorem dL_law_198 : decode cL_law 198 = .ok (.iconst 3, 1) := by decide +kernel
theorem dL_law_199 : decode cL_law 199 = .ok (.iadd, 1) := by decide +kernel
theorem dL_law_200 : decode cL_law 200 = .ok (.iaload, 1) := by decide +kernel
theorem dL_law_201 : decode cL_law 201 = .ok (.aload_n 0, 1) := by decide +kernel
theorem dL_law_202 : decode cL_law 202 = .ok (.iload_n 3, 1) := by decide +kernel
theorem dL_law_203 : decode cL_law 203 = .ok (.iconst 4, 1) := by decide +kernel
theorem dL_law_204 : decode cL_law 204 = .ok (.iadd, 1) := by decide +kernel
theorem dL_law_205 : decode cL_law 205 = .ok (.iaload, 1) := by decide +kernel
theorem dL_law_206 : decode cL_law 206 = .ok (.aload_n 0, 1) := by decide +kernel
theorem dL_law_207 : decode cL_law 207 = .ok (.iload_n 3, 1) := by decide +kernel
theorem dL_law_208 : decode cL_law 208 = .ok (.iconst 5, 1) := by decide +kernel
theorem dL_law_209 : decode cL_law 209 = .ok (.iadd, 1) := by decide +kernel
theorem dL_law_210 : decode cL_law 210 = .ok (.iaload, 1) := by decide +kernel
theorem dL_law_211 : decode cL_law 211 = .ok (.aload_n 0, 1) := by decide +kernel
theorem dL_law_212 : decode cL_law 212 = .ok (.iload_n 3, 1) := by decide +kernel
theorem dL_law_213 : decode cL_law 213 = .ok (.bipush 6, 2) := by decide +kernel
theorem dL_law_215 : decode cL_law 215 = .ok (.iadd, 1) := by decide +kernel
theorem dL_law_216 : decode cL_law 216 = .ok (.iaload, 1) := by decide +kernel
theorem dL_law_217 : decode cL_law 217 = .ok (.aload_n 0, 1) := by decide +kernel
theorem dL_law_218 : decode cL_law 218 = .ok (.iload_n 3, 1) := by decide +kernel
theorem dL_law_219 : decode cL_law 219 = .ok (.bipush 7, 2) := by decide +kernel
theorem dL_law_221 : decode cL_law 221 = .ok (.iadd, 1) := by decide +kernel
theorem dL_law_222 : decode cL_law 222 = .ok (.iaload, 1) := by decide +kernel
theorem dL_law_223 : decode cL_law 223 = .ok (.invokevirtual 17, 3) := by decide +kernel
theorem dL_law_226 : decode cL_law 226 = .ok (.if_icmp .eq 594, 3) := by decide +kernel
theorem dL_law_229 : decode cL_law 229 = .ok (.iconst 0, 1) := by decide +kernel
theorem dL_law_230 : decode cL_law 230 = .ok (.ireturn, 1) := by decide +kernel
theorem dL_law_231 : decode cL_law 231 = .ok (.aload_n 1, 1) := by decide +kernel
theorem dL_law_232 : decode cL_law 232 = .ok (.aload_n 0, 1) := by decide +kernel
theorem dL_law_233 : decode cL_law 233 = .ok (.iload_n 3, 1) := by decide +kernel
theorem dL_law_234 : decode cL_law 234 = .ok (.iconst 1, 1) := by decide +kernel
theorem dL_law_235 : decode cL_law 235 = .ok (.iadd, 1) := by decide +kernel
theorem dL_law_236 : decode cL_law 236 = .ok (.iaload, 1) := by decide +kernel
theorem dL_law_237 : decode cL_law 237 = .ok (.aload_n 0, 1) := by decide +kernel
theorem dL_law_238 : decode cL_law 238 = .ok (.iload_n 3, 1) := by decide +kernel
theorem dL_law_239 : decode cL_law 239 = .ok (.iconst 2, 1) := by decide +kernel
theorem dL_law_240 : decode cL_law 240 = .ok (.iadd, 1) := by decide +kernel
theorem dL_law_241 : decode cL_law 241 = .ok (.iaload, 1) := by decide +kernel
theorem dL_law_242 : decode cL_law 242 = .ok (.invokevirtual 18, 3) := by decide +kernel
theorem dL_law_245 : decode cL_law 245 = .ok (.aload_n 2, 1) := by decide +kernel
theorem dL_law_246 : decode cL_law 246 = .ok (.aload_n 0, 1) := by decide +kernel
theorem dL_law_247 : decode cL_law 247 = .ok (.iload_n 3, 1) := by decide +kernel
theorem dL_law_248 : decode cL_law 248 = .ok (.iconst 1, 1) := by decide +kernel
theorem dL_law_249 : decode cL_law 249 = .ok (.iadd, 1) := by decide +kernel
theorem dL_law_250 : decode cL_law 250 = .ok (.iaload, 1) := by decide +kernel
theorem dL_law_251 : decode cL_law 251 = .ok (.aload_n 0, 1) := by decide +kernel
theorem dL_law_252 : decode cL_law 252 = .ok (.iload_n 3, 1) := by decide +kernel
theorem dL_law_253 : decode cL_law 253 = .ok (.iconst 2, 1) := by decide +kernel
theorem dL_law_254 : decode cL_law 254 = .ok (.iadd, 1) := by decide +kernel
theorem dL_law_255 : decode cL_law 255 = .ok (.iaload, 1) := by decide +kernel
theorem dL_law_256 : decode cL_law 256 = .ok (.invokevirtual 22, 3) := by decide +kernel
theorem dL_law_259 : decode cL_law 259 = .ok (.if_icmp .eq 561, 3) := by decide +kernel
theorem dL_law_262 : decode cL_law 262 = .ok (.iconst 0, 1) := by decide +kernel
theorem dL_law_263 : decode cL_law 263 = .ok (.ireturn, 1) := by decide +kernel
theorem dL_law_264 : decode cL_law 264 = .ok (.aload_n 1, 1) := by decide +kernel
theorem dL_law_265 : decode cL_law 265 = .ok (.aload_n 0, 1) := by decide +kernel
theorem dL_law_266 : decode cL_law 266 = .ok (.iload_n 3, 1) := by decide +kernel
theorem dL_law_267 : decode cL_law 267 = .ok (.iconst 1, 1) := by decide +kernel
theorem dL_law_268 : decode cL_law 268 = .ok (.iadd, 1) := by decide +kernel
theorem dL_law_269 : decode cL_law 269 = .ok (.iaload, 1) := by decide +kernel
theorem dL_law_270 : decode cL_law 270 = .ok (.aload_n 0, 1) := by decide +kernel
theorem dL_law_271 : decode cL_law 271 = .ok (.iload_n 3, 1) := by decide +kernel
theorem dL_law_272 : decode cL_law 272 = .ok (.iconst 2, 1) := by decide +kernel
theorem dL_law_273 : decode cL_law 273 = .ok (.iadd, 1) := by decide +kernel
theorem dL_law_274 : decode cL_law 274 = .ok (.iaload, 1) := by decide +kernel
theorem dL_law_275 : decode cL_law 275 = .ok (.invokevirtual 23, 3) := by decide +kernel
theorem dL_law_278 : decode cL_law 278 = .ok (.aload_n 2, 1) := by decide +kernel
theorem dL_law_279 : decode cL_law 279 = .ok (.aload_n 0, 1) := by decide +kernel
theorem dL_law_280 : decode cL_law 280 = .ok (.iload_n 3, 1) := by decide +kernel
theorem dL_law_281 : decode cL_law 281 = .ok (.iconst 1, 1) := by decide +kernel
theorem dL_law_282 : decode cL_law 282 = .ok (.iadd, 1) := by decide +kernel
theorem dL_law_283 : decode cL_law 283 = .ok (.iaload, 1) := by decide +kernel
theorem dL_law_284 : decode cL_law 284 = .ok (.aload_n 0, 1) := by decide +kernel
theorem dL_law_285 : decode cL_law 285 = .ok (.iload_n 3, 1) := by decide +kernel
theorem dL_law_286 : decode cL_law 286 = .ok (.iconst 2, 1) := by decide +kernel
theorem dL_law_287 : decode cL_law 287 = .ok (.iadd, 1) := by decide +kernel
theorem dL_law_288 : decode cL_law 288 = .ok (.iaload, 1) := by decide +kernel
theorem dL_law_289 : decode cL_law 289 = .ok (.invokevirtual 26, 3) := by decide +kernel
theorem dL_law_292 : decode cL_law 292 = .ok (.if_icmp .eq 528, 3) := by decide +kernel
theorem dL_law_295 : decode cL_law 295 = .ok (.iconst 0, 1) := by decide +kernel
theorem dL_law_296 : decode cL_law 296 = .ok (.ireturn, 1) := by decide +kernel
theorem dL_law_297 : decode cL_law 297 = .ok (.aload_n 1, 1) := by decide +kernel
theorem dL_law_298 : decode cL_law 298 = .ok (.aload_n 0, 1) := by decide +kernel
theorem dL_law_299 : decode cL_law 299 = .ok (.iload_n 3, 1) := by decide +kernel
theorem dL_law_300 : decode cL_law 300 = .ok (.iconst 1, 1) := by decide +kernel
theorem dL_law_301 : decode cL_law 301 = .ok (.iadd, 1) := by decide +kernel
theorem dL_law_302 : decode cL_law 302 = .ok (.iaload, 1) := by decide +kernel
theorem dL_law_303 : decode cL_law 303 = .ok (.aload_n 0, 1) := by decide +kernel
theorem dL_law_304 : decode cL_law 304 = .ok (.iload_n 3, 1) := by decide +kernel
theorem dL_law_305 : decode cL_law 305 = .ok (.iconst 2, 1) := by decide +kernel
theorem dL_law_306 : decode cL_law 306 = .ok (.iadd, 1) := by decide +kernel
theorem dL_law_307 : decode cL_law 307 = .ok (.iaload, 1) := by decide +kernel
theorem dL_law_308 : decode cL_law 308 = .ok (.invokevirtual 27, 3) := by decide +kernel
theorem dL_law_311 : decode cL_law 311 = .ok (.aload_n 2, 1) := by decide +kernel
theorem dL_law_312 : decode cL_law 312 = .ok (.aload_n 0, 1) := by decide +kernel
theorem dL_law_313 : decode cL_law 313 = .ok (.iload_n 3, 1) := by decide +kernel
theorem dL_law_314 : decode cL_law 314 = .ok (.iconst 1, 1) := by decide +kernel
theorem dL_law_315 : decode cL_law 315 = .ok (.iadd, 1) := by decide +kernel
theorem dL_law_316 : decode cL_law 316 = .ok (.iaload, 1) := by decide +kernel
theorem dL_law_317 : decode cL_law 317 = .ok (.aload_n 0, 1) := by decide +kernel
theorem dL_law_318 : decode cL_law 318 = .ok (.iload_n 3, 1) := by decide +kernel
theorem dL_law_319 : decode cL_law 319 = .ok (.iconst 2, 1) := by decide +kernel
theorem dL_law_320 : decode cL_law 320 = .ok (.iadd, 1) := by decide +kernel
theorem dL_law_321 : decode cL_law 321 = .ok (.iaload, 1) := by decide +kernel
theorem dL_law_322 : decode cL_law 322 = .ok (.invokevirtual 30, 3) := by decide +kernel
theorem dL_law_325 : decode cL_law 325 = .ok (.if_icmp .eq 495, 3) := by decide +kernel
theorem dL_law_328 : decode cL_law 328 = .ok (.iconst 0, 1) := by decide +kernel
theorem dL_law_329 : decode cL_law 329 = .ok (.ireturn, 1) := by decide +kernel
theorem dL_law_330 : decode cL_law 330 = .ok (.aload_n 1, 1) := by decide +kernel
theorem dL_law_331 : decode cL_law 331 = .ok (.aload_n 0, 1) := by decide +kernel
theorem dL_law_332 : decode cL_law 332 = .ok (.iload_n 3, 1) := by decide +kernel
theorem dL_law_333 : decode cL_law 333 = .ok (.iconst 1, 1) := by decide +kernel
theorem dL_law_334 : decode cL_law 334 = .ok (.iadd, 1) := by decide +kernel
theorem dL_law_335 : decode cL_law 335 = .ok (.iaload, 1) := by decide +kernel
theorem dL_law_336 : decode cL_law 336 = .ok (.aload_n 0, 1) := by decide +kernel
theorem dL_law_337 : decode cL_law 337 = .ok (.iload_n 3, 1) := by decide +kernel
theorem dL_law_338 : decode cL_law 338 = .ok (.iconst 2, 1) := by decide +kernel
theorem dL_law_339 : decode cL_law 339 = .ok (.iadd, 1) := by decide +kernel
theorem dL_law_340 : decode cL_law 340 = .ok (.iaload, 1) := by decide +kernel
theorem dL_law_341 : decode cL_law 341 = .ok (.invokevirtual 31, 3) := by decide +kernel
theorem dL_law_344 : decode cL_law 344 = .ok (.aload_n 2, 1) := by decide +kernel
theorem dL_law_345 : decode cL_law 345 = .ok (.aload_n 0, 1) := by decide +kernel
theorem dL_law_346 : decode cL_law 346 = .ok (.iload_n 3, 1) := by decide +kernel
theorem dL_law_347 : decode cL_law 347 = .ok (.iconst 1, 1) := by decide +kernel
theorem dL_law_348 : decode cL_law 348 = .ok (.iadd, 1) := by decide +kernel
theorem dL_law_349 : decode cL_law 349 = .ok (.iaload, 1) := by decide +kernel
theorem dL_law_350 : decode cL_law 350 = .ok (.aload_n 0, 1) := by decide +kernel
theorem dL_law_351 : decode cL_law 351 = .ok (.iload_n 3, 1) := by decide +kernel
theorem dL_law_352 : decode cL_law 352 = .ok (.iconst 2, 1) := by decide +kernel
theorem dL_law_353 : decode cL_law 353 = .ok (.iadd, 1) := by decide +kernel
theorem dL_law_354 : decode cL_law 354 = .ok (.iaload, 1) := by decide +kernel
theorem dL_law_355 : decode cL_law 355 = .ok (.invokevirtual 34, 3) := by decide +kernel
theorem dL_law_358 : decode cL_law 358 = .ok (.if_icmp .eq 462, 3) := by decide +kernel
theorem dL_law_361 : decode cL_law 361 = .ok (.iconst 0, 1) := by decide +kernel
theorem dL_law_362 : decode cL_law 362 = .ok (.ireturn, 1) := by decide +kernel
theorem dL_law_363 : decode cL_law 363 = .ok (.aload_n 1, 1) := by decide +kernel
theorem dL_law_364 : decode cL_law 364 = .ok (.aload_n 0, 1) := by decide +kernel
theorem dL_law_365 : decode cL_law 365 = .ok (.iload_n 3, 1) := by decide +kernel
theorem dL_law_366 : decode cL_law 366 = .ok (.iconst 1, 1) := by decide +kernel
theorem dL_law_367 : decode cL_law 367 = .ok (.iadd, 1) := by decide +kernel
theorem dL_law_368 : decode cL_law 368 = .ok (.iaload, 1) := by decide +kernel
theorem dL_law_369 : decode cL_law 369 = .ok (.invokevirtual 35, 3) := by decide +kernel
theorem dL_law_372 : decode cL_law 372 = .ok (.aload_n 2, 1) := by decide +kernel
theorem dL_law_373 : decode cL_law 373 = .ok (.aload_n 0, 1) := by decide +kernel
theorem dL_law_374 : decode cL_law 374 = .ok (.iload_n 3, 1) := by decide +kernel
theorem dL_law_375 : decode cL_law 375 = .ok (.iconst 1, 1) := by decide +kernel
theorem dL_law_376 : decode cL_law 376 = .ok (.iadd, 1) := by decide +kernel
theorem dL_law_377 : decode cL_law 377 = .ok (.iaload, 1) := by decide +kernel
theorem dL_law_378 : decode cL_law 378 = .ok (.invokevirtual 39, 3) := by decide +kernel
theorem dL_law_381 : decode cL_law 381 = .ok (.lcmp, 1) := by decide +kernel
theorem dL_law_382 : decode cL_law 382 = .ok (.ifCond .eq 438, 3) := by decide +kernel
theorem dL_law_385 : decode cL_law 385 = .ok (.iconst 0, 1) := by decide +kernel
theorem dL_law_386 : decode cL_law 386 = .ok (.ireturn, 1) := by decide +kernel
theorem dL_law_387 : decode cL_law 387 = .ok (.aload_n 1, 1) := by decide +kernel
theorem dL_law_388 : decode cL_law 388 = .ok (.invokevirtual 40, 3) := by decide +kernel
theorem dL_law_391 : decode cL_law 391 = .ok (.aload_n 2, 1) := by decide +kernel
theorem dL_law_392 : decode cL_law 392 = .ok (.invokevirtual 44, 3) := by decide +kernel
theorem dL_law_395 : decode cL_law 395 = .ok (.if_icmp .eq 425, 3) := by decide +kernel
theorem dL_law_398 : decode cL_law 398 = .ok (.iconst 0, 1) := by decide +kernel
theorem dL_law_399 : decode cL_law 399 = .ok (.ireturn, 1) := by decide +kernel
theorem dL_law_400 : decode cL_law 400 = .ok (.aload_n 1, 1) := by decide +kernel
theorem dL_law_401 : decode cL_law 401 = .ok (.invokevirtual 45, 3) := by decide +kernel
theorem dL_law_404 : decode cL_law 404 = .ok (.aload_n 2, 1) := by decide +kernel
theorem dL_law_405 : decode cL_law 405 = .ok (.invokevirtual 48, 3) := by decide +kernel
theorem dL_law_408 : decode cL_law 408 = .ok (.if_icmp .eq 412, 3) := by decide +kernel
theorem dL_law_411 : decode cL_law 411 = .ok (.iconst 0, 1) := by decide +kernel
theorem dL_law_412 : decode cL_law 412 = .ok (.ireturn, 1) := by decide +kernel
theorem dL_law_413 : decode cL_law 413 = .ok (.aload_n 1, 1) := by decide +kernel
theorem dL_law_414 : decode cL_law 414 = .ok (.invokevirtual 49, 3) := by decide +kernel
theorem dL_law_417 : decode cL_law 417 = .ok (.aload_n 2, 1) := by decide +kernel
theorem dL_law_418 : decode cL_law 418 = .ok (.invokevirtual 52, 3) := by decide +kernel
theorem dL_law_421 : decode cL_law 421 = .ok (.if_icmp .eq 399, 3) := by decide +kernel
theorem dL_law_424 : decode cL_law 424 = .ok (.iconst 0, 1) := by decide +kernel
theorem dL_law_425 : decode cL_law 425 = .ok (.ireturn, 1) := by decide +kernel
theorem dL_law_426 : decode cL_law 426 = .ok (.aload_n 1, 1) := by decide +kernel
theorem dL_law_427 : decode cL_law 427 = .ok (.invokevirtual 53, 3) := by decide +kernel
theorem dL_law_430 : decode cL_law 430 = .ok (.aload_n 2, 1) := by decide +kernel
theorem dL_law_431 : decode cL_law 431 = .ok (.invokevirtual 56, 3) := by decide +kernel
theorem dL_law_434 : decode cL_law 434 = .ok (.if_icmp .eq 386, 3) := by decide +kernel
theorem dL_law_437 : decode cL_law 437 = .ok (.iconst 0, 1) := by decide +kernel
theorem dL_law_438 : decode cL_law 438 = .ok (.ireturn, 1) := by decide +kernel
theorem dL_law_439 : decode cL_law 439 = .ok (.aload_n 1, 1) := by decide +kernel
theorem dL_law_440 : decode cL_law 440 = .ok (.invokevirtual 57, 3) := by decide +kernel
theorem dL_law_443 : decode cL_law 443 = .ok (.aload_n 2, 1) := by decide +kernel
theorem dL_law_444 : decode cL_law 444 = .ok (.invokevirtual 60, 3) := by decide +kernel
theorem dL_law_447 : decode cL_law 447 = .ok (.if_icmp .eq 373, 3) := by decide +kernel
theorem dL_law_450 : decode cL_law 450 = .ok (.iconst 0, 1) := by decide +kernel
theorem dL_law_451 : decode cL_law 451 = .ok (.ireturn, 1) := by decide +kernel
theorem dL_law_452 : decode cL_law 452 = .ok (.aload_n 1, 1) := by decide +kernel
theorem dL_law_453 : decode cL_law 453 = .ok (.aload_n 0, 1) := by decide +kernel
theorem dL_law_454 : decode cL_law 454 = .ok (.iload_n 3, 1) := by decide +kernel
theorem dL_law_455 : decode cL_law 455 = .ok (.iconst 1, 1) := by decide +kernel
theorem dL_law_456 : decode cL_law 456 = .ok (.iadd, 1) := by decide +kernel
theorem dL_law_457 : decode cL_law 457 = .ok (.iaload, 1) := by decide +kernel
theorem dL_law_458 : decode cL_law 458 = .ok (.invokevirtual 61, 3) := by decide +kernel
theorem dL_law_461 : decode cL_law 461 = .ok (.aload_n 2, 1) := by decide +kernel
theorem dL_law_462 : decode cL_law 462 = .ok (.aload_n 0, 1) := by decide +kernel
theorem dL_law_463 : decode cL_law 463 = .ok (.iload_n 3, 1) := by decide +kernel
theorem dL_law_464 : decode cL_law 464 = .ok (.iconst 1, 1) := by decide +kernel
theorem dL_law_465 : decode cL_law 465 = .ok (.iadd, 1) := by decide +kernel
theorem dL_law_466 : decode cL_law 466 = .ok (.iaload, 1) := by decide +kernel
theorem dL_law_467 : decode cL_law 467 = .ok (.invokevirtual 65, 3) := by decide +kernel
theorem dL_law_470 : decode cL_law 470 = .ok (.if_icmp .eq 350, 3) := by decide +kernel
theorem dL_law_473 : decode cL_law 473 = .ok (.iconst 0, 1) := by decide +kernel
theorem dL_law_474 : decode cL_law 474 = .ok (.ireturn, 1) := by decide +kernel
theorem dL_law_475 : decode cL_law 475 = .ok (.aload_n 1, 1) := by decide +kernel
theorem dL_law_476 : decode cL_law 476 = .ok (.aload_n 0, 1) := by decide +kernel
theorem dL_law_477 : decode cL_law 477 = .ok (.iload_n 3, 1) := by decide +kernel
theorem dL_law_478 : decode cL_law 478 = .ok (.iconst 1, 1) := by decide +kernel
theorem dL_law_479 : decode cL_law 479 = .ok (.iadd, 1) := by decide +kernel
theorem dL_law_480 : decode cL_law 480 = .ok (.iaload, 1) := by decide +kernel
theorem dL_law_481 : decode cL_law 481 = .ok (.aload_n 0, 1) := by decide +kernel
theorem dL_law_482 : decode cL_law 482 = .ok (.iload_n 3, 1) := by decide +kernel
theorem dL_law_483 : decode cL_law 483 = .ok (.iconst 2, 1) := by decide +kernel
theorem dL_law_484 : decode cL_law 484 = .ok (.iadd, 1) := by decide +kernel
theorem dL_law_485 : decode cL_law 485 = .ok (.iaload, 1) := by decide +kernel
theorem dL_law_486 : decode cL_law 486 = .ok (.invokevirtual 66, 3) := by decide +kernel
theorem dL_law_489 : decode cL_law 489 = .ok (.aload_n 2, 1) := by decide +kernel
theorem dL_law_490 : decode cL_law 490 = .ok (.aload_n 0, 1) := by decide +kernel
theorem dL_law_491 : decode cL_law 491 = .ok (.iload_n 3, 1) := by decide +kernel
theorem dL_law_492 : decode cL_law 492 = .ok (.iconst 1, 1) := by decide +kernel
theorem dL_law_493 : decode cL_law 493 = .ok (.iadd, 1) := by decide +kernel
theorem dL_law_494 : decode cL_law 494 = .ok (.iaload, 1) := by decide +kernel
theorem dL_law_495 : decode cL_law 495 = .ok (.aload_n 0, 1) := by decide +kernel
theorem dL_law_496 : decode cL_law 496 = .ok (.iload_n 3, 1) := by decide +kernel
theorem dL_law_497 : decode cL_law 497 = .ok (.iconst 2, 1) := by decide +kernel
theorem dL_law_498 : decode cL_law 498 = .ok (.iadd, 1) := by decide +kernel
theorem dL_law_499 : decode cL_law 499 = .ok (.iaload, 1) := by decide +kernel
theorem dL_law_500 : decode cL_law 500 = .ok (.invokevirtual 69, 3) := by decide +kernel
theorem dL_law_503 : decode cL_law 503 = .ok (.if_icmp .eq 317, 3) := by decide +kernel
theorem dL_law_506 : decode cL_law 506 = .ok (.iconst 0, 1) := by decide +kernel
theorem dL_law_507 : decode cL_law 507 = .ok (.ireturn, 1) := by decide +kernel
theorem dL_law_508 : decode cL_law 508 = .ok (.aload_n 1, 1) := by decide +kernel
theorem dL_law_509 : decode cL_law 509 = .ok (.aload_n 0, 1) := by decide +kernel
theorem dL_law_510 : decode cL_law 510 = .ok (.iload_n 3, 1) := by decide +kernel
theorem dL_law_511 : decode cL_law 511 = .ok (.iconst 1, 1) := by decide +kernel
theorem dL_law_512 : decode cL_law 512 = .ok (.iadd, 1) := by decide +kernel
theorem dL_law_513 : decode cL_law 513 = .ok (.iaload, 1) := by decide +kernel
theorem dL_law_514 : decode cL_law 514 = .ok (.invokevirtual 70, 3) := by decide +kernel
theorem dL_law_517 : decode cL_law 517 = .ok (.aload_n 2, 1) := by decide +kernel
theorem dL_law_518 : decode cL_law 518 = .ok (.aload_n 0, 1) := by decide +kernel
theorem dL_law_519 : decode cL_law 519 = .ok (.iload_n 3, 1) := by decide +kernel
theorem dL_law_520 : decode cL_law 520 = .ok (.iconst 1, 1) := by decide +kernel
theorem dL_law_521 : decode cL_law 521 = .ok (.iadd, 1) := by decide +kernel
theorem dL_law_522 : decode cL_law 522 = .ok (.iaload, 1) := by decide +kernel
theorem dL_law_523 : decode cL_law 523 = .ok (.invokevirtual 73, 3) := by decide +kernel
theorem dL_law_526 : decode cL_law 526 = .ok (.if_icmp .eq 294, 3) := by decide +kernel
theorem dL_law_529 : decode cL_law 529 = .ok (.iconst 0, 1) := by decide +kernel
theorem dL_law_530 : decode cL_law 530 = .ok (.ireturn, 1) := by decide +kernel
theorem dL_law_531 : decode cL_law 531 = .ok (.aload_n 1, 1) := by decide +kernel
theorem dL_law_532 : decode cL_law 532 = .ok (.aload_n 0, 1) := by decide +kernel
theorem dL_law_533 : decode cL_law 533 = .ok (.iload_n 3, 1) := by decide +kernel
theorem dL_law_534 : decode cL_law 534 = .ok (.iconst 1, 1) := by decide +kernel
theorem dL_law_535 : decode cL_law 535 = .ok (.iadd, 1) := by decide +kernel
theorem dL_law_536 : decode cL_law 536 = .ok (.iaload, 1) := by decide +kernel
theorem dL_law_537 : decode cL_law 537 = .ok (.aload_n 0, 1) := by decide +kernel
theorem dL_law_538 : decode cL_law 538 = .ok (.iload_n 3, 1) := by decide +kernel
theorem dL_law_539 : decode cL_law 539 = .ok (.iconst 2, 1) := by decide +kernel
theorem dL_law_540 : decode cL_law 540 = .ok (.iadd, 1) := by decide +kernel
theorem dL_law_541 : decode cL_law 541 = .ok (.iaload, 1) := by decide +kernel
theorem dL_law_542 : decode cL_law 542 = .ok (.invokevirtual 74, 3) := by decide +kernel
theorem dL_law_545 : decode cL_law 545 = .ok (.aload_n 2, 1) := by decide +kernel
theorem dL_law_546 : decode cL_law 546 = .ok (.aload_n 0, 1) := by decide +kernel
theorem dL_law_547 : decode cL_law 547 = .ok (.iload_n 3, 1) := by decide +kernel
theorem dL_law_548 : decode cL_law 548 = .ok (.iconst 1, 1) := by decide +kernel
theorem dL_law_549 : decode cL_law 549 = .ok (.iadd, 1) := by decide +kernel
theorem dL_law_550 : decode cL_law 550 = .ok (.iaload, 1) := by decide +kernel
theorem dL_law_551 : decode cL_law 551 = .ok (.aload_n 0, 1) := by decide +kernel
theorem dL_law_552 : decode cL_law 552 = .ok (.iload_n 3, 1) := by decide +kernel
theorem dL_law_553 : decode cL_law 553 = .ok (.iconst 2, 1) := by decide +kernel
theorem dL_law_554 : decode cL_law 554 = .ok (.iadd, 1) := by decide +kernel
theorem dL_law_555 : decode cL_law 555 = .ok (.iaload, 1) := by decide +kernel
theorem dL_law_556 : decode cL_law 556 = .ok (.invokevirtual 77, 3) := by decide +kernel
theorem dL_law_559 : decode cL_law 559 = .ok (.if_icmp .eq 261, 3) := by decide +kernel
theorem dL_law_562 : decode cL_law 562 = .ok (.iconst 0, 1) := by decide +kernel
theorem dL_law_563 : decode cL_law 563 = .ok (.ireturn, 1) := by decide +kernel
theorem dL_law_564 : decode cL_law 564 = .ok (.aload_n 1, 1) := by decide +kernel
theorem dL_law_565 : decode cL_law 565 = .ok (.invokevirtual 78, 3) := by decide +kernel
theorem dL_law_568 : decode cL_law 568 = .ok (.aload_n 2, 1) := by decide +kernel
theorem dL_law_569 : decode cL_law 569 = .ok (.invokevirtual 81, 3) := by decide +kernel
theorem dL_law_572 : decode cL_law 572 = .ok (.if_icmp .eq 248, 3) := by decide +kernel
theorem dL_law_575 : decode cL_law 575 = .ok (.iconst 0, 1) := by decide +kernel
theorem dL_law_576 : decode cL_law 576 = .ok (.ireturn, 1) := by decide +kernel
theorem dL_law_577 : decode cL_law 577 = .ok (.aload_n 1, 1) := by decide +kernel
theorem dL_law_578 : decode cL_law 578 = .ok (.aload_n 0, 1) := by decide +kernel
theorem dL_law_579 : decode cL_law 579 = .ok (.iload_n 3, 1) := by decide +kernel
theorem dL_law_580 : decode cL_law 580 = .ok (.iconst 1, 1) := by decide +kernel
theorem dL_law_581 : decode cL_law 581 = .ok (.iadd, 1) := by decide +kernel
theorem dL_law_582 : decode cL_law 582 = .ok (.iaload, 1) := by decide +kernel
theorem dL_law_583 : decode cL_law 583 = .ok (.aload_n 0, 1) := by decide +kernel
theorem dL_law_584 : decode cL_law 584 = .ok (.iload_n 3, 1) := by decide +kernel
theorem dL_law_585 : decode cL_law 585 = .ok (.iconst 2, 1) := by decide +kernel
theorem dL_law_586 : decode cL_law 586 = .ok (.iadd, 1) := by decide +kernel
theorem dL_law_587 : decode cL_law 587 = .ok (.iaload, 1) := by decide +kernel
theorem dL_law_588 : decode cL_law 588 = .ok (.invokevirtual 82, 3) := by decide +kernel
theorem dL_law_591 : decode cL_law 591 = .ok (.aload_n 2, 1) := by decide +kernel
theorem dL_law_592 : decode cL_law 592 = .ok (.aload_n 0, 1) := by decide +kernel
theorem dL_law_593 : decode cL_law 593 = .ok (.iload_n 3, 1) := by decide +kernel
theorem dL_law_594 : decode cL_law 594 = .ok (.iconst 1, 1) := by decide +kernel
theorem dL_law_595 : decode cL_law 595 = .ok (.iadd, 1) := by decide +kernel
theorem dL_law_596 : decode cL_law 596 = .ok (.iaload, 1) := by decide +kernel
theorem dL_law_597 : decode cL_law 597 = .ok (.aload_n 0, 1) := by decide +kernel
theorem dL_law_598 : decode cL_law 598 = .ok (.iload_n 3, 1) := by decide +kernel
theorem dL_law_599 : decode cL_law 599 = .ok (.iconst 2, 1) := by decide +kernel
theorem dL_law_600 : decode cL_law 600 = .ok (.iadd, 1) := by decide +kernel
theorem dL_law_601 : decode cL_law 601 = .ok (.iaload, 1) := by decide +kernel
theorem dL_law_602 : decode cL_law 602 = .ok (.invokevirtual 85, 3) := by decide +kernel
theorem dL_law_605 : decode cL_law 605 = .ok (.if_icmp .eq 215, 3) := by decide +kernel
theorem dL_law_608 : decode cL_law 608 = .ok (.iconst 0, 1) := by decide +kernel
theorem dL_law_609 : decode cL_law 609 = .ok (.ireturn, 1) := by decide +kernel
theorem dL_law_610 : decode cL_law 610 = .ok (.aload_n 1, 1) := by decide +kernel
theorem dL_law_611 : decode cL_law 611 = .ok (.aload_n 0, 1) := by decide +kernel
theorem dL_law_612 : decode cL_law 612 = .ok (.iload_n 3, 1) := by decide +kernel
theorem dL_law_613 : decode cL_law 613 = .ok (.iconst 1, 1) := by decide +kernel
theorem dL_law_614 : decode cL_law 614 = .ok (.iadd, 1) := by decide +kernel
theorem dL_law_615 : decode cL_law 615 = .ok (.iaload, 1) := by decide +kernel
theorem dL_law_616 : decode cL_law 616 = .ok (.invokevirtual 86, 3) := by decide +kernel
theorem dL_law_619 : decode cL_law 619 = .ok (.aload_n 2, 1) := by decide +kernel
theorem dL_law_620 : decode cL_law 620 = .ok (.aload_n 0, 1) := by decide +kernel
theorem dL_law_621 : decode cL_law 621 = .ok (.iload_n 3, 1) := by decide +kernel
theorem dL_law_622 : decode cL_law 622 = .ok (.iconst 1, 1) := by decide +kernel
theorem dL_law_623 : decode cL_law 623 = .ok (.iadd, 1) := by decide +kernel
theorem dL_law_624 : decode cL_law 624 = .ok (.iaload, 1) := by decide +kernel
theorem dL_law_625 : decode cL_law 625 = .ok (.invokevirtual 89, 3) := by decide +kernel
theorem dL_law_628 : decode cL_law 628 = .ok (.if_icmp .eq 192, 3) := by decide +kernel
theorem dL_law_631 : decode cL_law 631 = .ok (.iconst 0, 1) := by decide +kernel
theorem dL_law_632 : decode cL_law 632 = .ok (.ireturn, 1) := by decide +kernel
theorem dL_law_633 : decode cL_law 633 = .ok (.aload_n 1, 1) := by decide +kernel
theorem dL_law_634 : decode cL_law 634 = .ok (.aload_n 0, 1) := by decide +kernel
theorem dL_law_635 : decode cL_law 635 = .ok (.iload_n 3, 1) := by decide +kernel
theorem dL_law_636 : decode cL_law 636 = .ok (.iconst 1, 1) := by decide +kernel
theorem dL_law_637 : decode cL_law 637 = .ok (.iadd, 1) := by decide +kernel
theorem dL_law_638 : decode cL_law 638 = .ok (.iaload, 1) := by decide +kernel
theorem dL_law_639 : decode cL_law 639 = .ok (.aload_n 0, 1) := by decide +kernel
theorem dL_law_640 : decode cL_law 640 = .ok (.iload_n 3, 1) := by decide +kernel
theorem dL_law_641 : decode cL_law 641 = .ok (.iconst 2, 1) := by decide +kernel
theorem dL_law_642 : decode cL_law 642 = .ok (.iadd, 1) := by decide +kernel
theorem dL_law_643 : decode cL_law 643 = .ok (.iaload, 1) := by decide +kernel
theorem dL_law_644 : decode cL_law 644 = .ok (.ifCond .eq 7, 3) := by decide +kernel
theorem dL_law_647 : decode cL_law 647 = .ok (.iconst 1, 1) := by decide +kernel
theorem dL_law_648 : decode cL_law 648 = .ok (.goto 4, 3) := by decide +kernel
theorem dL_law_651 : decode cL_law 651 = .ok (.iconst 0, 1) := by decide +kernel
theorem dL_law_652 : decode cL_law 652 = .ok (.invokevirtual 90, 3) := by decide +kernel
theorem dL_law_655 : decode cL_law 655 = .ok (.aload_n 2, 1) := by decide +kernel
theorem dL_law_656 : decode cL_law 656 = .ok (.aload_n 0, 1) := by decide +kernel
theorem dL_law_657 : decode cL_law 657 = .ok (.iload_n 3, 1) := by decide +kernel
theorem dL_law_658 : decode cL_law 658 = .ok (.iconst 1, 1) := by decide +kernel
theorem dL_law_659 : decode cL_law 659 = .ok (.iadd, 1) := by decide +kernel
theorem dL_law_660 : decode cL_law 660 = .ok (.iaload, 1) := by decide +kernel
theorem dL_law_661 : decode cL_law 661 = .ok (.aload_n 0, 1) := by decide +kernel
theorem dL_law_662 : decode cL_law 662 = .ok (.iload_n 3, 1) := by decide +kernel
theorem dL_law_663 : decode cL_law 663 = .ok (.iconst 2, 1) := by decide +kernel
theorem dL_law_664 : decode cL_law 664 = .ok (.iadd, 1) := by decide +kernel
theorem dL_law_665 : decode cL_law 665 = .ok (.iaload, 1) := by decide +kernel
theorem dL_law_666 : decode cL_law 666 = .ok (.ifCond .eq 7, 3) := by decide +kernel
theorem dL_law_669 : decode cL_law 669 = .ok (.iconst 1, 1) := by decide +kernel
theorem dL_law_670 : decode cL_law 670 = .ok (.goto 4, 3) := by decide +kernel
theorem dL_law_673 : decode cL_law 673 = .ok (.iconst 0, 1) := by decide +kernel
theorem dL_law_674 : decode cL_law 674 = .ok (.invokevirtual 94, 3) := by decide +kernel
theorem dL_law_677 : decode cL_law 677 = .ok (.if_icmp .eq 143, 3) := by decide +kernel
theorem dL_law_680 : decode cL_law 680 = .ok (.iconst 0, 1) := by decide +kernel
theorem dL_law_681 : decode cL_law 681 = .ok (.ireturn, 1) := by decide +kernel
theorem dL_law_682 : decode cL_law 682 = .ok (.aload_n 1, 1) := by decide +kernel
theorem dL_law_683 : decode cL_law 683 = .ok (.aload_n 0, 1) := by decide +kernel
theorem dL_law_684 : decode cL_law 684 = .ok (.iload_n 3, 1) := by decide +kernel
theorem dL_law_685 : decode cL_law 685 = .ok (.iconst 1, 1) := by decide +kernel
theorem dL_law_686 : decode cL_law 686 = .ok (.iadd, 1) := by decide +kernel
theorem dL_law_687 : decode cL_law 687 = .ok (.iaload, 1) := by decide +kernel
theorem dL_law_688 : decode cL_law 688 = .ok (.invokevirtual 95, 3) := by decide +kernel
theorem dL_law_691 : decode cL_law 691 = .ok (.aload_n 2, 1) := by decide +kernel
theorem dL_law_692 : decode cL_law 692 = .ok (.aload_n 0, 1) := by decide +kernel
theorem dL_law_693 : decode cL_law 693 = .ok (.iload_n 3, 1) := by decide +kernel
theorem dL_law_694 : decode cL_law 694 = .ok (.iconst 1, 1) := by decide +kernel
theorem dL_law_695 : decode cL_law 695 = .ok (.iadd, 1) := by decide +kernel
theorem dL_law_696 : decode cL_law 696 = .ok (.iaload, 1) := by decide +kernel
theorem dL_law_697 : decode cL_law 697 = .ok (.invokevirtual 98, 3) := by decide +kernel
theorem dL_law_700 : decode cL_law 700 = .ok (.lcmp, 1) := by decide +kernel
theorem dL_law_701 : decode cL_law 701 = .ok (.ifCond .eq 119, 3) := by decide +kernel
theorem dL_law_704 : decode cL_law 704 = .ok (.iconst 0, 1) := by decide +kernel
theorem dL_law_705 : decode cL_law 705 = .ok (.ireturn, 1) := by decide +kernel
theorem dL_law_706 : decode cL_law 706 = .ok (.aload_n 1, 1) := by decide +kernel
theorem dL_law_707 : decode cL_law 707 = .ok (.aload_n 0, 1) := by decide +kernel
theorem dL_law_708 : decode cL_law 708 = .ok (.iload_n 3, 1) := by decide +kernel
theorem dL_law_709 : decode cL_law 709 = .ok (.iconst 1, 1) := by decide +kernel
theorem dL_law_710 : decode cL_law 710 = .ok (.iadd, 1) := by decide +kernel
theorem dL_law_711 : decode cL_law 711 = .ok (.iaload, 1) := by decide +kernel
theorem dL_law_712 : decode cL_law 712 = .ok (.invokevirtual 99, 3) := by decide +kernel
theorem dL_law_715 : decode cL_law 715 = .ok (.aload_n 2, 1) := by decide +kernel
theorem dL_law_716 : decode cL_law 716 = .ok (.aload_n 0, 1) := by decide +kernel
theorem dL_law_717 : decode cL_law 717 = .ok (.iload_n 3, 1) := by decide +kernel
theorem dL_law_718 : decode cL_law 718 = .ok (.iconst 1, 1) := by decide +kernel
theorem dL_law_719 : decode cL_law 719 = .ok (.iadd, 1) := by decide +kernel
theorem dL_law_720 : decode cL_law 720 = .ok (.iaload, 1) := by decide +kernel
theorem dL_law_721 : decode cL_law 721 = .ok (.invokevirtual 102, 3) := by decide +kernel
theorem dL_law_724 : decode cL_law 724 = .ok (.lcmp, 1) := by decide +kernel
theorem dL_law_725 : decode cL_law 725 = .ok (.ifCond .eq 95, 3) := by decide +kernel
theorem dL_law_728 : decode cL_law 728 = .ok (.iconst 0, 1) := by decide +kernel
theorem dL_law_729 : decode cL_law 729 = .ok (.ireturn, 1) := by decide +kernel
theorem dL_law_730 : decode cL_law 730 = .ok (.aload_n 1, 1) := by decide +kernel
theorem dL_law_731 : decode cL_law 731 = .ok (.aload_n 0, 1) := by decide +kernel
theorem dL_law_732 : decode cL_law 732 = .ok (.iload_n 3, 1) := by decide +kernel
theorem dL_law_733 : decode cL_law 733 = .ok (.iconst 1, 1) := by decide +kernel
theorem dL_law_734 : decode cL_law 734 = .ok (.iadd, 1) := by decide +kernel
theorem dL_law_735 : decode cL_law 735 = .ok (.iaload, 1) := by decide +kernel
theorem dL_law_736 : decode cL_law 736 = .ok (.aload_n 0, 1) := by decide +kernel
theorem dL_law_737 : decode cL_law 737 = .ok (.iload_n 3, 1) := by decide +kernel
theorem dL_law_738 : decode cL_law 738 = .ok (.iconst 2, 1) := by decide +kernel
theorem dL_law_739 : decode cL_law 739 = .ok (.iadd, 1) := by decide +kernel
theorem dL_law_740 : decode cL_law 740 = .ok (.iaload, 1) := by decide +kernel
theorem dL_law_741 : decode cL_law 741 = .ok (.aload_n 0, 1) := by decide +kernel
theorem dL_law_742 : decode cL_law 742 = .ok (.iload_n 3, 1) := by decide +kernel
theorem dL_law_743 : decode cL_law 743 = .ok (.iconst 3, 1) := by decide +kernel
theorem dL_law_744 : decode cL_law 744 = .ok (.iadd, 1) := by decide +kernel
theorem dL_law_745 : decode cL_law 745 = .ok (.iaload, 1) := by decide +kernel
theorem dL_law_746 : decode cL_law 746 = .ok (.aload_n 0, 1) := by decide +kernel
theorem dL_law_747 : decode cL_law 747 = .ok (.iload_n 3, 1) := by decide +kernel
theorem dL_law_748 : decode cL_law 748 = .ok (.iconst 4, 1) := by decide +kernel
theorem dL_law_749 : decode cL_law 749 = .ok (.iadd, 1) := by decide +kernel
theorem dL_law_750 : decode cL_law 750 = .ok (.iaload, 1) := by decide +kernel
theorem dL_law_751 : decode cL_law 751 = .ok (.invokevirtual 103, 3) := by decide +kernel
theorem dL_law_754 : decode cL_law 754 = .ok (.aload_n 2, 1) := by decide +kernel
theorem dL_law_755 : decode cL_law 755 = .ok (.aload_n 0, 1) := by decide +kernel
theorem dL_law_756 : decode cL_law 756 = .ok (.iload_n 3, 1) := by decide +kernel
theorem dL_law_757 : decode cL_law 757 = .ok (.iconst 1, 1) := by decide +kernel
theorem dL_law_758 : decode cL_law 758 = .ok (.iadd, 1) := by decide +kernel
theorem dL_law_759 : decode cL_law 759 = .ok (.iaload, 1) := by decide +kernel
theorem dL_law_760 : decode cL_law 760 = .ok (.aload_n 0, 1) := by decide +kernel
theorem dL_law_761 : decode cL_law 761 = .ok (.iload_n 3, 1) := by decide +kernel
theorem dL_law_762 : decode cL_law 762 = .ok (.iconst 2, 1) := by decide +kernel
theorem dL_law_763 : decode cL_law 763 = .ok (.iadd, 1) := by decide +kernel
theorem dL_law_764 : decode cL_law 764 = .ok (.iaload, 1) := by decide +kernel
theorem dL_law_765 : decode cL_law 765 = .ok (.aload_n 0, 1) := by decide +kernel
theorem dL_law_766 : decode cL_law 766 = .ok (.iload_n 3, 1) := by decide +kernel
theorem dL_law_767 : decode cL_law 767 = .ok (.iconst 3, 1) := by decide +kernel
theorem dL_law_768 : decode cL_law 768 = .ok (.iadd, 1) := by decide +kernel
theorem dL_law_769 : decode cL_law 769 = .ok (.iaload, 1) := by decide +kernel
theorem dL_law_770 : decode cL_law 770 = .ok (.aload_n 0, 1) := by decide +kernel
theorem dL_law_771 : decode cL_law 771 = .ok (.iload_n 3, 1) := by decide +kernel
theorem dL_law_772 : decode cL_law 772 = .ok (.iconst 4, 1) := by decide +kernel
theorem dL_law_773 : decode cL_law 773 = .ok (.iadd, 1) := by decide +kernel
theorem dL_law_774 : decode cL_law 774 = .ok (.iaload, 1) := by decide +kernel
theorem dL_law_775 : decode cL_law 775 = .ok (.invokevirtual 107, 3) := by decide +kernel
theorem dL_law_778 : decode cL_law 778 = .ok (.if_icmp .eq 42, 3) := by decide +kernel
theorem dL_law_781 : decode cL_law 781 = .ok (.iconst 0, 1) := by decide +kernel
theorem dL_law_782 : decode cL_law 782 = .ok (.ireturn, 1) := by decide +kernel
theorem dL_law_783 : decode cL_law 783 = .ok (.aload_n 1, 1) := by decide +kernel
theorem dL_law_784 : decode cL_law 784 = .ok (.aload_n 0, 1) := by decide +kernel
theorem dL_law_785 : decode cL_law 785 = .ok (.iload_n 3, 1) := by decide +kernel
theorem dL_law_786 : decode cL_law 786 = .ok (.iconst 1, 1) := by decide +kernel
theorem dL_law_787 : decode cL_law 787 = .ok (.iadd, 1) := by decide +kernel
theorem dL_law_788 : decode cL_law 788 = .ok (.iaload, 1) := by decide +kernel
theorem dL_law_789 : decode cL_law 789 = .ok (.invokevirtual 108, 3) := by decide +kernel
theorem dL_law_792 : decode cL_law 792 = .ok (.aload_n 2, 1) := by decide +kernel
theorem dL_law_793 : decode cL_law 793 = .ok (.aload_n 0, 1) := by decide +kernel
theorem dL_law_794 : decode cL_law 794 = .ok (.iload_n 3, 1) := by decide +kernel
theorem dL_law_795 : decode cL_law 795 = .ok (.iconst 1, 1) := by decide +kernel
theorem dL_law_796 : decode cL_law 796 = .ok (.iadd, 1) := by decide +kernel
theorem dL_law_797 : decode cL_law 797 = .ok (.iaload, 1) := by decide +kernel
theorem dL_law_798 : decode cL_law 798 = .ok (.invokevirtual 111, 3) := by decide +kernel
theorem dL_law_801 : decode cL_law 801 = .ok (.if_icmp .eq 19, 3) := by decide +kernel
theorem dL_law_804 : decode cL_law 804 = .ok (.iconst 0, 1) := by decide +kernel
theorem dL_law_805 : decode cL_law 805 = .ok (.ireturn, 1) := by decide +kernel
theorem dL_law_806 : decode cL_law 806 = .ok (.aload_n 1, 1) := by decide +kernel
theorem dL_law_807 : decode cL_law 807 = .ok (.invokevirtual 112, 3) := by decide +kernel
theorem dL_law_810 : decode cL_law 810 = .ok (.aload_n 2, 1) := by decide +kernel
theorem dL_law_811 : decode cL_law 811 = .ok (.invokevirtual 116, 3) := by decide +kernel
theorem dL_law_814 : decode cL_law 814 = .ok (.lcmp, 1) := by decide +kernel
theorem dL_law_815 : decode cL_law 815 = .ok (.ifCond .eq 5, 3) := by decide +kernel
theorem dL_law_818 : decode cL_law 818 = .ok (.iconst 0, 1) := by decide +kernel
theorem dL_law_819 : decode cL_law 819 = .ok (.ireturn, 1) := by decide +kernel
theorem dL_law_820 : decode cL_law 820 = .ok (.iinc 3 8, 3) := by decide +kernel
theorem dL_law_823 : decode cL_law 823 = .ok (.goto (-805), 3) := by decide +kernel
theorem dL_law_826 : decode cL_law 826 = .ok (.iconst 1, 1) := by decide +kernel
theorem dL_law_827 : decode cL_law 827 = .ok (.ireturn, 1) := by decide +kernel
end
section
def lw_x : Cond := .selects RX2 yX8_corner yX8_corner
/-- the words that every method may take: one list for all contracts -/
def uT : List Cond := (lw_x :: lw_tbl).filter goodWord
theorem mw_x : lw_x ∈ uT := List.mem_filter.mpr ⟨List.mem_cons_self, rfl⟩
theorem uT_good {w : Cond} (h : w ∈ uT) : goodWord w = true := (List.mem_filter.mp h).2
theorem mw_0 : Jvm.Cond.initialized "ColdWorksLaw" ∈ uT := List.mem_filter.mpr ⟨List.mem_cons_of_mem _ (List.mem_of_getElem? (i := 28) (by decide +kernel)), rfl⟩
theorem mw_1 : Jvm.Cond.initialized "ColdWorks" ∈ uT := List.mem_filter.mpr ⟨List.mem_cons_of_mem _ (List.mem_of_getElem? (i := 29) (by decide +kernel)), rfl⟩
theorem mw_2 : Jvm.Cond.initialized "ColdWorks$Exchanger" ∈ uT := List.mem_filter.mpr ⟨List.mem_cons_of_mem _ (List.mem_of_getElem? (i := 30) (by decide +kernel)), rfl⟩
theorem mw_3 : Jvm.Cond.initialized "java/util/Arrays" ∈ uT := List.mem_filter.mpr ⟨List.mem_cons_of_mem _ (List.mem_of_getElem? (i := 31) (by decide +kernel)), rfl⟩
theorem mw_4 : Jvm.Cond.initialized "ColdWorks$Controls" ∈ uT := List.mem_filter.mpr ⟨List.mem_cons_of_mem _ (List.mem_of_getElem? (i := 32) (by decide +kernel)), rfl⟩
theorem mw_5 : Jvm.Cond.initialized "ColdWorks$Adsorbers" ∈ uT := List.mem_filter.mpr ⟨List.mem_cons_of_mem _ (List.mem_of_getElem? (i := 33) (by decide +kernel)), rfl⟩
theorem mw_6 : Jvm.Cond.initialized "ColdWorks$Adsorber" ∈ uT := List.mem_filter.mpr ⟨List.mem_cons_of_mem _ (List.mem_of_getElem? (i := 34) (by decide +kernel)), rfl⟩
theorem mw_7 : Jvm.Cond.initialized "ColdWorks$Store" ∈ uT := List.mem_filter.mpr ⟨List.mem_cons_of_mem _ (List.mem_of_getElem? (i := 35) (by decide +kernel)), rfl⟩
theorem mw_8 : Jvm.Cond.initialized "ColdWorks$Orders" ∈ uT := List.mem_filter.mpr ⟨List.mem_cons_of_mem _ (List.mem_of_getElem? (i := 36) (by decide +kernel)), rfl⟩
theorem mw_9 : Jvm.Cond.initialized "ColdWorksModel" ∈ uT := List.mem_filter.mpr ⟨List.mem_cons_of_mem _ (List.mem_of_getElem? (i := 37) (by decide +kernel)), rfl⟩
theorem mw_10 : Jvm.Cond.initialized "ColdWorks$Throttle" ∈ uT := List.mem_filter.mpr ⟨List.mem_cons_of_mem _ (List.mem_of_getElem? (i := 38) (by decide +kernel)), rfl⟩
theorem mw_11 : Jvm.Cond.initialized "ColdWorks$Wheel" ∈ uT := List.mem_filter.mpr ⟨List.mem_cons_of_mem _ (List.mem_of_getElem? (i := 39) (by decide +kernel)), rfl⟩
theorem mw_12 : Jvm.Cond.initialized "ColdWorks$Braked" ∈ uT := List.mem_filter.mpr ⟨List.mem_cons_of_mem _ (List.mem_of_getElem? (i := 40) (by decide +kernel)), rfl⟩
theorem mw_13 : Jvm.Cond.initialized "java/lang/Math" ∈ uT := List.mem_filter.mpr ⟨List.mem_cons_of_mem _ (List.mem_of_getElem? (i := 41) (by decide +kernel)), rfl⟩
theorem mw_14 : Jvm.Cond.initialized "java/lang/System" ∈ uT := List.mem_filter.mpr ⟨List.mem_cons_of_mem _ (List.mem_of_getElem? (i := 42) (by decide +kernel)), rfl⟩
theorem mw_15 : Jvm.Cond.classLink "ColdWorksLaw" (7 : Nat) "ColdWorks" ∈ uT := List.mem_filter.mpr ⟨List.mem_cons_of_mem _ (List.mem_of_getElem? (i := 43) (by decide +kernel)), rfl⟩
theorem mw_16 : Jvm.Cond.instantiable "ColdWorks" (13 : Nat) ∈ uT := List.mem_filter.mpr ⟨List.mem_cons_of_mem _ (List.mem_of_getElem? (i := 44) (by decide +kernel)), rfl⟩
theorem mw_17 : Jvm.Cond.methodLink "ColdWorksLaw" (9 : Nat) ({ cls := "ColdWorks", name := "<init>", desc := "()V" } : Jvm.MethodName) ∈ uT := List.mem_filter.mpr ⟨List.mem_cons_of_mem _ (List.mem_of_getElem? (i := 45) (by decide +kernel)), rfl⟩
theorem mw_18 : Jvm.Cond.instanceMethod ({ cls := "ColdWorks", name := "<init>", desc := "()V" } : Jvm.MethodName) ∈ uT := List.mem_filter.mpr ⟨List.mem_cons_of_mem _ (List.mem_of_getElem? (i := 46) (by decide +kernel)), rfl⟩
theorem mw_19 : Jvm.Cond.code ({ cls := "ColdWorks", name := "<init>", desc := "()V" } : Jvm.MethodName) prog_1_method_1_code (1 : Nat) (Option.none : Option Jvm.ClassFile.FieldType) ∈ uT := List.mem_filter.mpr ⟨List.mem_cons_of_mem _ (List.mem_of_getElem? (i := 47) (by decide +kernel)), rfl⟩
theorem mw_20 : Jvm.Cond.methodLink "ColdWorks" (1 : Nat) ({ cls := "java/lang/Object", name := "<init>", desc := "()V" } : Jvm.MethodName) ∈ uT := List.mem_filter.mpr ⟨List.mem_cons_of_mem _ (List.mem_of_getElem? (i := 48) (by decide +kernel)), rfl⟩
theorem mw_21 : Jvm.Cond.instanceMethod ({ cls := "java/lang/Object", name := "<init>", desc := "()V" } : Jvm.MethodName) ∈ uT := List.mem_filter.mpr ⟨List.mem_cons_of_mem _ (List.mem_of_getElem? (i := 49) (by decide +kernel)), rfl⟩
theorem mw_22 : Jvm.Cond.code ({ cls := "java/lang/Object", name := "<init>", desc := "()V" } : Jvm.MethodName) object_method_1_code (1 : Nat) (Option.none : Option Jvm.ClassFile.FieldType) ∈ uT := List.mem_filter.mpr ⟨List.mem_cons_of_mem _ (List.mem_of_getElem? (i := 50) (by decide +kernel)), rfl⟩
theorem mw_23 : Jvm.Cond.classLink "ColdWorks" (9 : Nat) "ColdWorks$Throttle" ∈ uT := List.mem_filter.mpr ⟨List.mem_cons_of_mem _ (List.mem_of_getElem? (i := 51) (by decide +kernel)), rfl⟩
theorem mw_25 : Jvm.Cond.classLink "ColdWorks" (15 : Nat) "ColdWorks$Exchanger" ∈ uT := List.mem_filter.mpr ⟨List.mem_cons_of_mem _ (List.mem_of_getElem? (i := 53) (by decide +kernel)), rfl⟩
theorem mw_26 : Jvm.Cond.instantiable "ColdWorks$Exchanger" (8 : Nat) ∈ uT := List.mem_filter.mpr ⟨List.mem_cons_of_mem _ (List.mem_of_getElem? (i := 54) (by decide +kernel)), rfl⟩
theorem mw_27 : Jvm.Cond.methodLink "ColdWorks" (17 : Nat) ({ cls := "ColdWorks$Exchanger", name := "<init>", desc := "()V" } : Jvm.MethodName) ∈ uT := List.mem_filter.mpr ⟨List.mem_cons_of_mem _ (List.mem_of_getElem? (i := 55) (by decide +kernel)), rfl⟩
theorem mw_28 : Jvm.Cond.instanceMethod ({ cls := "ColdWorks$Exchanger", name := "<init>", desc := "()V" } : Jvm.MethodName) ∈ uT := List.mem_filter.mpr ⟨List.mem_cons_of_mem _ (List.mem_of_getElem? (i := 56) (by decide +kernel)), rfl⟩
theorem mw_29 : Jvm.Cond.code ({ cls := "ColdWorks$Exchanger", name := "<init>", desc := "()V" } : Jvm.MethodName) prog_6_method_1_code (1 : Nat) (Option.none : Option Jvm.ClassFile.FieldType) ∈ uT := List.mem_filter.mpr ⟨List.mem_cons_of_mem _ (List.mem_of_getElem? (i := 57) (by decide +kernel)), rfl⟩
theorem mw_30 : Jvm.Cond.methodLink "ColdWorks$Exchanger" (3 : Nat) ({ cls := "java/lang/Object", name := "<init>", desc := "()V" } : Jvm.MethodName) ∈ uT := List.mem_filter.mpr ⟨List.mem_cons_of_mem _ (List.mem_of_getElem? (i := 58) (by decide +kernel)), rfl⟩
theorem mw_31 : Jvm.Cond.methodLink "ColdWorks$Exchanger" (18 : Nat) ({ cls := "ColdWorks$Exchanger", name := "rebuild", desc := "(II)V" } : Jvm.MethodName) ∈ uT := List.mem_filter.mpr ⟨List.mem_cons_of_mem _ (List.mem_of_getElem? (i := 59) (by decide +kernel)), rfl⟩
theorem mw_32 : Jvm.Cond.instanceMethod ({ cls := "ColdWorks$Exchanger", name := "rebuild", desc := "(II)V" } : Jvm.MethodName) ∈ uT := List.mem_filter.mpr ⟨List.mem_cons_of_mem _ (List.mem_of_getElem? (i := 60) (by decide +kernel)), rfl⟩
theorem mw_33 : Jvm.Cond.selects "ColdWorks$Exchanger" ({ cls := "ColdWorks$Exchanger", name := "rebuild", desc := "(II)V" } : Jvm.MethodName) ({ cls := "ColdWorks$Exchanger", name := "rebuild", desc := "(II)V" } : Jvm.MethodName) ∈ uT := List.mem_filter.mpr ⟨List.mem_cons_of_mem _ (List.mem_of_getElem? (i := 61) (by decide +kernel)), rfl⟩
theorem mw_34 : Jvm.Cond.code ({ cls := "ColdWorks$Exchanger", name := "rebuild", desc := "(II)V" } : Jvm.MethodName) prog_6_method_2_code (3 : Nat) (Option.none : Option Jvm.ClassFile.FieldType) ∈ uT := List.mem_filter.mpr ⟨List.mem_cons_of_mem _ (List.mem_of_getElem? (i := 62) (by decide +kernel)), rfl⟩
theorem mw_35 : Jvm.Cond.methodLink "ColdWorks$Exchanger" (29 : Nat) ({ cls := "java/util/Arrays", name := "fill", desc := "([II)V" } : Jvm.MethodName) ∈ uT := List.mem_filter.mpr ⟨List.mem_cons_of_mem _ (List.mem_of_getElem? (i := 63) (by decide +kernel)), rfl⟩
theorem mw_36 : Jvm.Cond.static ({ cls := "java/util/Arrays", name := "fill", desc := "([II)V" } : Jvm.MethodName) ∈ uT := List.mem_filter.mpr ⟨List.mem_cons_of_mem _ (List.mem_of_getElem? (i := 64) (by decide +kernel)), rfl⟩
theorem mw_37 : Jvm.Cond.code ({ cls := "java/util/Arrays", name := "fill", desc := "([II)V" } : Jvm.MethodName) prog_15_method_103_code (4 : Nat) (Option.none : Option Jvm.ClassFile.FieldType) ∈ uT := List.mem_filter.mpr ⟨List.mem_cons_of_mem _ (List.mem_of_getElem? (i := 65) (by decide +kernel)), rfl⟩
theorem mw_38 : Jvm.Cond.fieldLink "ColdWorks$Exchanger" (9 : Nat) "ColdWorks$Exchanger" "warm" "[I" ∈ uT := List.mem_filter.mpr ⟨List.mem_cons_of_mem _ (List.mem_of_getElem? (i := 66) (by decide +kernel)), rfl⟩
theorem mw_40 : Jvm.Cond.fieldLink "ColdWorks$Exchanger" (15 : Nat) "ColdWorks$Exchanger" "chill" "[I" ∈ uT := List.mem_filter.mpr ⟨List.mem_cons_of_mem _ (List.mem_of_getElem? (i := 68) (by decide +kernel)), rfl⟩
theorem mw_42 : Jvm.Cond.fieldLink "ColdWorks$Exchanger" (22 : Nat) "ColdWorks$Exchanger" "length" "I" ∈ uT := List.mem_filter.mpr ⟨List.mem_cons_of_mem _ (List.mem_of_getElem? (i := 70) (by decide +kernel)), rfl⟩
theorem mw_44 : Jvm.Cond.fieldLink "ColdWorks$Exchanger" (26 : Nat) "ColdWorks$Exchanger" "hundredths" "I" ∈ uT := List.mem_filter.mpr ⟨List.mem_cons_of_mem _ (List.mem_of_getElem? (i := 72) (by decide +kernel)), rfl⟩
theorem mw_45 : Jvm.Cond.fieldLink "ColdWorks$Exchanger" (35 : Nat) "ColdWorks$Exchanger" "inlets" "J" ∈ uT := List.mem_filter.mpr ⟨List.mem_cons_of_mem _ (List.mem_of_getElem? (i := 73) (by decide +kernel)), rfl⟩
theorem mw_47 : Jvm.Cond.fieldLink "ColdWorks$Exchanger" (39 : Nat) "ColdWorks$Exchanger" "outs" "J" ∈ uT := List.mem_filter.mpr ⟨List.mem_cons_of_mem _ (List.mem_of_getElem? (i := 75) (by decide +kernel)), rfl⟩
theorem mw_49 : Jvm.Cond.fieldLink "ColdWorks$Exchanger" (42 : Nat) "ColdWorks$Exchanger" "takenOut" "J" ∈ uT := List.mem_filter.mpr ⟨List.mem_cons_of_mem _ (List.mem_of_getElem? (i := 77) (by decide +kernel)), rfl⟩
theorem mw_51 : Jvm.Cond.fieldLink "ColdWorks$Exchanger" (45 : Nat) "ColdWorks$Exchanger" "flows" "J" ∈ uT := List.mem_filter.mpr ⟨List.mem_cons_of_mem _ (List.mem_of_getElem? (i := 79) (by decide +kernel)), rfl⟩
theorem mw_53 : Jvm.Cond.laysFinal "ColdWorks$Exchanger" "ColdWorks$Exchanger" "warm" "[I" ∈ uT := List.mem_filter.mpr ⟨List.mem_cons_of_mem _ (List.mem_of_getElem? (i := 81) (by decide +kernel)), rfl⟩
theorem mw_55 : Jvm.Cond.laysFinal "ColdWorks$Exchanger" "ColdWorks$Exchanger" "chill" "[I" ∈ uT := List.mem_filter.mpr ⟨List.mem_cons_of_mem _ (List.mem_of_getElem? (i := 83) (by decide +kernel)), rfl⟩
theorem mw_57 : Jvm.Cond.lays "ColdWorks$Exchanger" "ColdWorks$Exchanger" "length" "I" ∈ uT := List.mem_filter.mpr ⟨List.mem_cons_of_mem _ (List.mem_of_getElem? (i := 85) (by decide +kernel)), rfl⟩
theorem mw_59 : Jvm.Cond.lays "ColdWorks$Exchanger" "ColdWorks$Exchanger" "hundredths" "I" ∈ uT := List.mem_filter.mpr ⟨List.mem_cons_of_mem _ (List.mem_of_getElem? (i := 87) (by decide +kernel)), rfl⟩
theorem mw_61 : Jvm.Cond.lays "ColdWorks$Exchanger" "ColdWorks$Exchanger" "inlets" "J" ∈ uT := List.mem_filter.mpr ⟨List.mem_cons_of_mem _ (List.mem_of_getElem? (i := 89) (by decide +kernel)), rfl⟩
theorem mw_63 : Jvm.Cond.lays "ColdWorks$Exchanger" "ColdWorks$Exchanger" "outs" "J" ∈ uT := List.mem_filter.mpr ⟨List.mem_cons_of_mem _ (List.mem_of_getElem? (i := 91) (by decide +kernel)), rfl⟩
theorem mw_65 : Jvm.Cond.lays "ColdWorks$Exchanger" "ColdWorks$Exchanger" "takenOut" "J" ∈ uT := List.mem_filter.mpr ⟨List.mem_cons_of_mem _ (List.mem_of_getElem? (i := 93) (by decide +kernel)), rfl⟩
theorem mw_67 : Jvm.Cond.lays "ColdWorks$Exchanger" "ColdWorks$Exchanger" "flows" "J" ∈ uT := List.mem_filter.mpr ⟨List.mem_cons_of_mem _ (List.mem_of_getElem? (i := 95) (by decide +kernel)), rfl⟩
theorem mw_69 : Jvm.Cond.superclass "ColdWorks$Exchanger" "java/lang/Object" ∈ uT := List.mem_filter.mpr ⟨List.mem_cons_of_mem _ (List.mem_of_getElem? (i := 97) (by decide +kernel)), rfl⟩
theorem mw_70 : Jvm.Cond.arrayClass Jvm.ClassFile.FieldType.int ∈ uT := List.mem_filter.mpr ⟨List.mem_cons_of_mem _ (List.mem_of_getElem? (i := 98) (by decide +kernel)), rfl⟩
theorem mw_71 : Jvm.Cond.classLink "ColdWorks" (22 : Nat) "ColdWorks$Controls" ∈ uT := List.mem_filter.mpr ⟨List.mem_cons_of_mem _ (List.mem_of_getElem? (i := 99) (by decide +kernel)), rfl⟩
theorem mw_72 : Jvm.Cond.instantiable "ColdWorks$Controls" (6 : Nat) ∈ uT := List.mem_filter.mpr ⟨List.mem_cons_of_mem _ (List.mem_of_getElem? (i := 100) (by decide +kernel)), rfl⟩
theorem mw_74 : Jvm.Cond.instanceMethod ({ cls := "ColdWorks$Controls", name := "<init>", desc := "()V" } : Jvm.MethodName) ∈ uT := List.mem_filter.mpr ⟨List.mem_cons_of_mem _ (List.mem_of_getElem? (i := 102) (by decide +kernel)), rfl⟩
theorem mw_75 : Jvm.Cond.code ({ cls := "ColdWorks$Controls", name := "<init>", desc := "()V" } : Jvm.MethodName) prog_5_method_1_code (1 : Nat) (Option.none : Option Jvm.ClassFile.FieldType) ∈ uT := List.mem_filter.mpr ⟨List.mem_cons_of_mem _ (List.mem_of_getElem? (i := 103) (by decide +kernel)), rfl⟩
theorem mw_76 : Jvm.Cond.methodLink "ColdWorks$Controls" (3 : Nat) ({ cls := "java/lang/Object", name := "<init>", desc := "()V" } : Jvm.MethodName) ∈ uT := List.mem_filter.mpr ⟨List.mem_cons_of_mem _ (List.mem_of_getElem? (i := 104) (by decide +kernel)), rfl⟩
theorem mw_77 : Jvm.Cond.fieldLink "ColdWorks$Controls" (9 : Nat) "ColdWorks$Controls" "state" "I" ∈ uT := List.mem_filter.mpr ⟨List.mem_cons_of_mem _ (List.mem_of_getElem? (i := 105) (by decide +kernel)), rfl⟩
theorem mw_79 : Jvm.Cond.fieldLink "ColdWorks$Controls" (15 : Nat) "ColdWorks$Controls" "ticksOfState" "I" ∈ uT := List.mem_filter.mpr ⟨List.mem_cons_of_mem _ (List.mem_of_getElem? (i := 107) (by decide +kernel)), rfl⟩
theorem mw_80 : Jvm.Cond.fieldLink "ColdWorks$Controls" (18 : Nat) "ColdWorks$Controls" "trips" "I" ∈ uT := List.mem_filter.mpr ⟨List.mem_cons_of_mem _ (List.mem_of_getElem? (i := 108) (by decide +kernel)), rfl⟩
theorem mw_82 : Jvm.Cond.fieldLink "ColdWorks$Controls" (21 : Nat) "ColdWorks$Controls" "feed" "Z" ∈ uT := List.mem_filter.mpr ⟨List.mem_cons_of_mem _ (List.mem_of_getElem? (i := 110) (by decide +kernel)), rfl⟩
theorem mw_84 : Jvm.Cond.fieldLink "ColdWorks$Controls" (25 : Nat) "ColdWorks$Controls" "press" "Z" ∈ uT := List.mem_filter.mpr ⟨List.mem_cons_of_mem _ (List.mem_of_getElem? (i := 112) (by decide +kernel)), rfl⟩
theorem mw_86 : Jvm.Cond.fieldLink "ColdWorks$Controls" (28 : Nat) "ColdWorks$Controls" "vent" "Z" ∈ uT := List.mem_filter.mpr ⟨List.mem_cons_of_mem _ (List.mem_of_getElem? (i := 114) (by decide +kernel)), rfl⟩
theorem mw_88 : Jvm.Cond.lays "ColdWorks$Controls" "ColdWorks$Controls" "state" "I" ∈ uT := List.mem_filter.mpr ⟨List.mem_cons_of_mem _ (List.mem_of_getElem? (i := 116) (by decide +kernel)), rfl⟩
theorem mw_90 : Jvm.Cond.lays "ColdWorks$Controls" "ColdWorks$Controls" "ticksOfState" "I" ∈ uT := List.mem_filter.mpr ⟨List.mem_cons_of_mem _ (List.mem_of_getElem? (i := 118) (by decide +kernel)), rfl⟩
theorem mw_92 : Jvm.Cond.lays "ColdWorks$Controls" "ColdWorks$Controls" "trips" "I" ∈ uT := List.mem_filter.mpr ⟨List.mem_cons_of_mem _ (List.mem_of_getElem? (i := 120) (by decide +kernel)), rfl⟩
theorem mw_94 : Jvm.Cond.lays "ColdWorks$Controls" "ColdWorks$Controls" "feed" "Z" ∈ uT := List.mem_filter.mpr ⟨List.mem_cons_of_mem _ (List.mem_of_getElem? (i := 122) (by decide +kernel)), rfl⟩
theorem mw_96 : Jvm.Cond.lays "ColdWorks$Controls" "ColdWorks$Controls" "press" "Z" ∈ uT := List.mem_filter.mpr ⟨List.mem_cons_of_mem _ (List.mem_of_getElem? (i := 124) (by decide +kernel)), rfl⟩
theorem mw_98 : Jvm.Cond.lays "ColdWorks$Controls" "ColdWorks$Controls" "vent" "Z" ∈ uT := List.mem_filter.mpr ⟨List.mem_cons_of_mem _ (List.mem_of_getElem? (i := 126) (by decide +kernel)), rfl⟩
theorem mw_100 : Jvm.Cond.superclass "ColdWorks$Controls" "java/lang/Object" ∈ uT := List.mem_filter.mpr ⟨List.mem_cons_of_mem _ (List.mem_of_getElem? (i := 128) (by decide +kernel)), rfl⟩
theorem mw_101 : Jvm.Cond.classLink "ColdWorks" (29 : Nat) "ColdWorks$Adsorbers" ∈ uT := List.mem_filter.mpr ⟨List.mem_cons_of_mem _ (List.mem_of_getElem? (i := 129) (by decide +kernel)), rfl⟩
theorem mw_102 : Jvm.Cond.instantiable "ColdWorks$Adsorbers" (4 : Nat) ∈ uT := List.mem_filter.mpr ⟨List.mem_cons_of_mem _ (List.mem_of_getElem? (i := 130) (by decide +kernel)), rfl⟩
theorem mw_104 : Jvm.Cond.instanceMethod ({ cls := "ColdWorks$Adsorbers", name := "<init>", desc := "()V" } : Jvm.MethodName) ∈ uT := List.mem_filter.mpr ⟨List.mem_cons_of_mem _ (List.mem_of_getElem? (i := 132) (by decide +kernel)), rfl⟩
theorem mw_105 : Jvm.Cond.code ({ cls := "ColdWorks$Adsorbers", name := "<init>", desc := "()V" } : Jvm.MethodName) prog_3_method_1_code (1 : Nat) (Option.none : Option Jvm.ClassFile.FieldType) ∈ uT := List.mem_filter.mpr ⟨List.mem_cons_of_mem _ (List.mem_of_getElem? (i := 133) (by decide +kernel)), rfl⟩
theorem mw_106 : Jvm.Cond.methodLink "ColdWorks$Adsorbers" (3 : Nat) ({ cls := "java/lang/Object", name := "<init>", desc := "()V" } : Jvm.MethodName) ∈ uT := List.mem_filter.mpr ⟨List.mem_cons_of_mem _ (List.mem_of_getElem? (i := 134) (by decide +kernel)), rfl⟩
theorem mw_107 : Jvm.Cond.classLink "ColdWorks$Adsorbers" (9 : Nat) "ColdWorks$Adsorber" ∈ uT := List.mem_filter.mpr ⟨List.mem_cons_of_mem _ (List.mem_of_getElem? (i := 135) (by decide +kernel)), rfl⟩
theorem mw_108 : Jvm.Cond.instantiable "ColdWorks$Adsorber" (3 : Nat) ∈ uT := List.mem_filter.mpr ⟨List.mem_cons_of_mem _ (List.mem_of_getElem? (i := 136) (by decide +kernel)), rfl⟩
theorem mw_109 : Jvm.Cond.methodLink "ColdWorks$Adsorbers" (11 : Nat) ({ cls := "ColdWorks$Adsorber", name := "<init>", desc := "(I)V" } : Jvm.MethodName) ∈ uT := List.mem_filter.mpr ⟨List.mem_cons_of_mem _ (List.mem_of_getElem? (i := 137) (by decide +kernel)), rfl⟩
theorem mw_110 : Jvm.Cond.instanceMethod ({ cls := "ColdWorks$Adsorber", name := "<init>", desc := "(I)V" } : Jvm.MethodName) ∈ uT := List.mem_filter.mpr ⟨List.mem_cons_of_mem _ (List.mem_of_getElem? (i := 138) (by decide +kernel)), rfl⟩
theorem mw_111 : Jvm.Cond.code ({ cls := "ColdWorks$Adsorber", name := "<init>", desc := "(I)V" } : Jvm.MethodName) prog_2_method_1_code (2 : Nat) (Option.none : Option Jvm.ClassFile.FieldType) ∈ uT := List.mem_filter.mpr ⟨List.mem_cons_of_mem _ (List.mem_of_getElem? (i := 139) (by decide +kernel)), rfl⟩
theorem mw_112 : Jvm.Cond.methodLink "ColdWorks$Adsorber" (3 : Nat) ({ cls := "java/lang/Object", name := "<init>", desc := "()V" } : Jvm.MethodName) ∈ uT := List.mem_filter.mpr ⟨List.mem_cons_of_mem _ (List.mem_of_getElem? (i := 140) (by decide +kernel)), rfl⟩
theorem mw_113 : Jvm.Cond.fieldLink "ColdWorks$Adsorber" (18 : Nat) "ColdWorks$Adsorber" "how" "I" ∈ uT := List.mem_filter.mpr ⟨List.mem_cons_of_mem _ (List.mem_of_getElem? (i := 141) (by decide +kernel)), rfl⟩
theorem mw_115 : Jvm.Cond.fieldLink "ColdWorks$Adsorber" (9 : Nat) "ColdWorks$Adsorber" "load" "I" ∈ uT := List.mem_filter.mpr ⟨List.mem_cons_of_mem _ (List.mem_of_getElem? (i := 143) (by decide +kernel)), rfl⟩
theorem mw_117 : Jvm.Cond.fieldLink "ColdWorks$Adsorber" (15 : Nat) "ColdWorks$Adsorber" "ticks" "I" ∈ uT := List.mem_filter.mpr ⟨List.mem_cons_of_mem _ (List.mem_of_getElem? (i := 145) (by decide +kernel)), rfl⟩
theorem mw_118 : Jvm.Cond.lays "ColdWorks$Adsorber" "ColdWorks$Adsorber" "how" "I" ∈ uT := List.mem_filter.mpr ⟨List.mem_cons_of_mem _ (List.mem_of_getElem? (i := 146) (by decide +kernel)), rfl⟩
theorem mw_120 : Jvm.Cond.lays "ColdWorks$Adsorber" "ColdWorks$Adsorber" "load" "I" ∈ uT := List.mem_filter.mpr ⟨List.mem_cons_of_mem _ (List.mem_of_getElem? (i := 148) (by decide +kernel)), rfl⟩
theorem mw_122 : Jvm.Cond.lays "ColdWorks$Adsorber" "ColdWorks$Adsorber" "ticks" "I" ∈ uT := List.mem_filter.mpr ⟨List.mem_cons_of_mem _ (List.mem_of_getElem? (i := 150) (by decide +kernel)), rfl⟩
theorem mw_124 : Jvm.Cond.superclass "ColdWorks$Adsorber" "java/lang/Object" ∈ uT := List.mem_filter.mpr ⟨List.mem_cons_of_mem _ (List.mem_of_getElem? (i := 152) (by decide +kernel)), rfl⟩
theorem mw_125 : Jvm.Cond.fieldLink "ColdWorks$Adsorbers" (14 : Nat) "ColdWorks$Adsorbers" "zero" "LColdWorks$Adsorber;" ∈ uT := List.mem_filter.mpr ⟨List.mem_cons_of_mem _ (List.mem_of_getElem? (i := 153) (by decide +kernel)), rfl⟩
theorem mw_126 : Jvm.Cond.fieldLink "ColdWorks$Adsorbers" (20 : Nat) "ColdWorks$Adsorbers" "one" "LColdWorks$Adsorber;" ∈ uT := List.mem_filter.mpr ⟨List.mem_cons_of_mem _ (List.mem_of_getElem? (i := 154) (by decide +kernel)), rfl⟩
theorem mw_127 : Jvm.Cond.fieldLink "ColdWorks$Adsorbers" (23 : Nat) "ColdWorks$Adsorbers" "fullLoad" "I" ∈ uT := List.mem_filter.mpr ⟨List.mem_cons_of_mem _ (List.mem_of_getElem? (i := 155) (by decide +kernel)), rfl⟩
theorem mw_129 : Jvm.Cond.fieldLink "ColdWorks$Adsorbers" (27 : Nat) "ColdWorks$Adsorbers" "heatTicks" "I" ∈ uT := List.mem_filter.mpr ⟨List.mem_cons_of_mem _ (List.mem_of_getElem? (i := 157) (by decide +kernel)), rfl⟩
theorem mw_131 : Jvm.Cond.laysFinal "ColdWorks$Adsorbers" "ColdWorks$Adsorbers" "zero" "LColdWorks$Adsorber;" ∈ uT := List.mem_filter.mpr ⟨List.mem_cons_of_mem _ (List.mem_of_getElem? (i := 159) (by decide +kernel)), rfl⟩
theorem mw_133 : Jvm.Cond.laysFinal "ColdWorks$Adsorbers" "ColdWorks$Adsorbers" "one" "LColdWorks$Adsorber;" ∈ uT := List.mem_filter.mpr ⟨List.mem_cons_of_mem _ (List.mem_of_getElem? (i := 161) (by decide +kernel)), rfl⟩
theorem mw_135 : Jvm.Cond.lays "ColdWorks$Adsorbers" "ColdWorks$Adsorbers" "fullLoad" "I" ∈ uT := List.mem_filter.mpr ⟨List.mem_cons_of_mem _ (List.mem_of_getElem? (i := 163) (by decide +kernel)), rfl⟩
theorem mw_137 : Jvm.Cond.lays "ColdWorks$Adsorbers" "ColdWorks$Adsorbers" "heatTicks" "I" ∈ uT := List.mem_filter.mpr ⟨List.mem_cons_of_mem _ (List.mem_of_getElem? (i := 165) (by decide +kernel)), rfl⟩
theorem mw_139 : Jvm.Cond.superclass "ColdWorks$Adsorbers" "java/lang/Object" ∈ uT := List.mem_filter.mpr ⟨List.mem_cons_of_mem _ (List.mem_of_getElem? (i := 167) (by decide +kernel)), rfl⟩
theorem mw_140 : Jvm.Cond.classLink "ColdWorks" (36 : Nat) "ColdWorks$Store" ∈ uT := List.mem_filter.mpr ⟨List.mem_cons_of_mem _ (List.mem_of_getElem? (i := 168) (by decide +kernel)), rfl⟩
theorem mw_141 : Jvm.Cond.instantiable "ColdWorks$Store" (6 : Nat) ∈ uT := List.mem_filter.mpr ⟨List.mem_cons_of_mem _ (List.mem_of_getElem? (i := 169) (by decide +kernel)), rfl⟩
theorem mw_143 : Jvm.Cond.instanceMethod ({ cls := "ColdWorks$Store", name := "<init>", desc := "()V" } : Jvm.MethodName) ∈ uT := List.mem_filter.mpr ⟨List.mem_cons_of_mem _ (List.mem_of_getElem? (i := 171) (by decide +kernel)), rfl⟩
theorem mw_144 : Jvm.Cond.code ({ cls := "ColdWorks$Store", name := "<init>", desc := "()V" } : Jvm.MethodName) prog_8_method_1_code (1 : Nat) (Option.none : Option Jvm.ClassFile.FieldType) ∈ uT := List.mem_filter.mpr ⟨List.mem_cons_of_mem _ (List.mem_of_getElem? (i := 172) (by decide +kernel)), rfl⟩
theorem mw_145 : Jvm.Cond.methodLink "ColdWorks$Store" (3 : Nat) ({ cls := "java/lang/Object", name := "<init>", desc := "()V" } : Jvm.MethodName) ∈ uT := List.mem_filter.mpr ⟨List.mem_cons_of_mem _ (List.mem_of_getElem? (i := 173) (by decide +kernel)), rfl⟩
theorem mw_146 : Jvm.Cond.fieldLink "ColdWorks$Store" (9 : Nat) "ColdWorks$Store" "room" "I" ∈ uT := List.mem_filter.mpr ⟨List.mem_cons_of_mem _ (List.mem_of_getElem? (i := 174) (by decide +kernel)), rfl⟩
theorem mw_148 : Jvm.Cond.fieldLink "ColdWorks$Store" (15 : Nat) "ColdWorks$Store" "tank" "I" ∈ uT := List.mem_filter.mpr ⟨List.mem_cons_of_mem _ (List.mem_of_getElem? (i := 176) (by decide +kernel)), rfl⟩
theorem mw_150 : Jvm.Cond.fieldLink "ColdWorks$Store" (18 : Nat) "ColdWorks$Store" "bag" "I" ∈ uT := List.mem_filter.mpr ⟨List.mem_cons_of_mem _ (List.mem_of_getElem? (i := 178) (by decide +kernel)), rfl⟩
theorem mw_152 : Jvm.Cond.fieldLink "ColdWorks$Store" (21 : Nat) "ColdWorks$Store" "made" "J" ∈ uT := List.mem_filter.mpr ⟨List.mem_cons_of_mem _ (List.mem_of_getElem? (i := 180) (by decide +kernel)), rfl⟩
theorem mw_153 : Jvm.Cond.fieldLink "ColdWorks$Store" (25 : Nat) "ColdWorks$Store" "delivered" "J" ∈ uT := List.mem_filter.mpr ⟨List.mem_cons_of_mem _ (List.mem_of_getElem? (i := 181) (by decide +kernel)), rfl⟩
theorem mw_154 : Jvm.Cond.fieldLink "ColdWorks$Store" (28 : Nat) "ColdWorks$Store" "blown" "J" ∈ uT := List.mem_filter.mpr ⟨List.mem_cons_of_mem _ (List.mem_of_getElem? (i := 182) (by decide +kernel)), rfl⟩
theorem mw_155 : Jvm.Cond.lays "ColdWorks$Store" "ColdWorks$Store" "room" "I" ∈ uT := List.mem_filter.mpr ⟨List.mem_cons_of_mem _ (List.mem_of_getElem? (i := 183) (by decide +kernel)), rfl⟩
theorem mw_157 : Jvm.Cond.lays "ColdWorks$Store" "ColdWorks$Store" "tank" "I" ∈ uT := List.mem_filter.mpr ⟨List.mem_cons_of_mem _ (List.mem_of_getElem? (i := 185) (by decide +kernel)), rfl⟩
theorem mw_159 : Jvm.Cond.lays "ColdWorks$Store" "ColdWorks$Store" "bag" "I" ∈ uT := List.mem_filter.mpr ⟨List.mem_cons_of_mem _ (List.mem_of_getElem? (i := 187) (by decide +kernel)), rfl⟩
theorem mw_161 : Jvm.Cond.lays "ColdWorks$Store" "ColdWorks$Store" "made" "J" ∈ uT := List.mem_filter.mpr ⟨List.mem_cons_of_mem _ (List.mem_of_getElem? (i := 189) (by decide +kernel)), rfl⟩
theorem mw_163 : Jvm.Cond.lays "ColdWorks$Store" "ColdWorks$Store" "delivered" "J" ∈ uT := List.mem_filter.mpr ⟨List.mem_cons_of_mem _ (List.mem_of_getElem? (i := 191) (by decide +kernel)), rfl⟩
theorem mw_165 : Jvm.Cond.lays "ColdWorks$Store" "ColdWorks$Store" "blown" "J" ∈ uT := List.mem_filter.mpr ⟨List.mem_cons_of_mem _ (List.mem_of_getElem? (i := 193) (by decide +kernel)), rfl⟩
theorem mw_167 : Jvm.Cond.superclass "ColdWorks$Store" "java/lang/Object" ∈ uT := List.mem_filter.mpr ⟨List.mem_cons_of_mem _ (List.mem_of_getElem? (i := 195) (by decide +kernel)), rfl⟩
theorem mw_168 : Jvm.Cond.classLink "ColdWorks" (43 : Nat) "ColdWorks$Orders" ∈ uT := List.mem_filter.mpr ⟨List.mem_cons_of_mem _ (List.mem_of_getElem? (i := 196) (by decide +kernel)), rfl⟩
theorem mw_169 : Jvm.Cond.instantiable "ColdWorks$Orders" (6 : Nat) ∈ uT := List.mem_filter.mpr ⟨List.mem_cons_of_mem _ (List.mem_of_getElem? (i := 197) (by decide +kernel)), rfl⟩
theorem mw_171 : Jvm.Cond.instanceMethod ({ cls := "ColdWorks$Orders", name := "<init>", desc := "()V" } : Jvm.MethodName) ∈ uT := List.mem_filter.mpr ⟨List.mem_cons_of_mem _ (List.mem_of_getElem? (i := 199) (by decide +kernel)), rfl⟩
theorem mw_172 : Jvm.Cond.code ({ cls := "ColdWorks$Orders", name := "<init>", desc := "()V" } : Jvm.MethodName) prog_7_method_1_code (1 : Nat) (Option.none : Option Jvm.ClassFile.FieldType) ∈ uT := List.mem_filter.mpr ⟨List.mem_cons_of_mem _ (List.mem_of_getElem? (i := 200) (by decide +kernel)), rfl⟩
theorem mw_173 : Jvm.Cond.methodLink "ColdWorks$Orders" (3 : Nat) ({ cls := "java/lang/Object", name := "<init>", desc := "()V" } : Jvm.MethodName) ∈ uT := List.mem_filter.mpr ⟨List.mem_cons_of_mem _ (List.mem_of_getElem? (i := 201) (by decide +kernel)), rfl⟩
theorem mw_174 : Jvm.Cond.fieldLink "ColdWorks$Orders" (11 : Nat) "ColdWorks$Orders" "wanted" "[I" ∈ uT := List.mem_filter.mpr ⟨List.mem_cons_of_mem _ (List.mem_of_getElem? (i := 202) (by decide +kernel)), rfl⟩
theorem mw_175 : Jvm.Cond.fieldLink "ColdWorks$Orders" (15 : Nat) "ColdWorks$Orders" "dayOf" "[I" ∈ uT := List.mem_filter.mpr ⟨List.mem_cons_of_mem _ (List.mem_of_getElem? (i := 203) (by decide +kernel)), rfl⟩
theorem mw_176 : Jvm.Cond.fieldLink "ColdWorks$Orders" (18 : Nat) "ColdWorks$Orders" "how" "[I" ∈ uT := List.mem_filter.mpr ⟨List.mem_cons_of_mem _ (List.mem_of_getElem? (i := 204) (by decide +kernel)), rfl⟩
theorem mw_177 : Jvm.Cond.fieldLink "ColdWorks$Orders" (21 : Nat) "ColdWorks$Orders" "taken" "I" ∈ uT := List.mem_filter.mpr ⟨List.mem_cons_of_mem _ (List.mem_of_getElem? (i := 205) (by decide +kernel)), rfl⟩
theorem mw_179 : Jvm.Cond.fieldLink "ColdWorks$Orders" (25 : Nat) "ColdWorks$Orders" "nextDay" "I" ∈ uT := List.mem_filter.mpr ⟨List.mem_cons_of_mem _ (List.mem_of_getElem? (i := 207) (by decide +kernel)), rfl⟩
theorem mw_181 : Jvm.Cond.fieldLink "ColdWorks$Orders" (28 : Nat) "ColdWorks$Orders" "missed" "I" ∈ uT := List.mem_filter.mpr ⟨List.mem_cons_of_mem _ (List.mem_of_getElem? (i := 209) (by decide +kernel)), rfl⟩
theorem mw_183 : Jvm.Cond.laysFinal "ColdWorks$Orders" "ColdWorks$Orders" "wanted" "[I" ∈ uT := List.mem_filter.mpr ⟨List.mem_cons_of_mem _ (List.mem_of_getElem? (i := 211) (by decide +kernel)), rfl⟩
theorem mw_185 : Jvm.Cond.laysFinal "ColdWorks$Orders" "ColdWorks$Orders" "dayOf" "[I" ∈ uT := List.mem_filter.mpr ⟨List.mem_cons_of_mem _ (List.mem_of_getElem? (i := 213) (by decide +kernel)), rfl⟩
theorem mw_187 : Jvm.Cond.laysFinal "ColdWorks$Orders" "ColdWorks$Orders" "how" "[I" ∈ uT := List.mem_filter.mpr ⟨List.mem_cons_of_mem _ (List.mem_of_getElem? (i := 215) (by decide +kernel)), rfl⟩
theorem mw_189 : Jvm.Cond.lays "ColdWorks$Orders" "ColdWorks$Orders" "taken" "I" ∈ uT := List.mem_filter.mpr ⟨List.mem_cons_of_mem _ (List.mem_of_getElem? (i := 217) (by decide +kernel)), rfl⟩
theorem mw_191 : Jvm.Cond.lays "ColdWorks$Orders" "ColdWorks$Orders" "nextDay" "I" ∈ uT := List.mem_filter.mpr ⟨List.mem_cons_of_mem _ (List.mem_of_getElem? (i := 219) (by decide +kernel)), rfl⟩
theorem mw_193 : Jvm.Cond.lays "ColdWorks$Orders" "ColdWorks$Orders" "missed" "I" ∈ uT := List.mem_filter.mpr ⟨List.mem_cons_of_mem _ (List.mem_of_getElem? (i := 221) (by decide +kernel)), rfl⟩
theorem mw_195 : Jvm.Cond.superclass "ColdWorks$Orders" "java/lang/Object" ∈ uT := List.mem_filter.mpr ⟨List.mem_cons_of_mem _ (List.mem_of_getElem? (i := 223) (by decide +kernel)), rfl⟩
theorem mw_196 : Jvm.Cond.fieldLink "ColdWorks" (11 : Nat) "ColdWorks" "coolers" "[LColdWorks$Throttle;" ∈ uT := List.mem_filter.mpr ⟨List.mem_cons_of_mem _ (List.mem_of_getElem? (i := 224) (by decide +kernel)), rfl⟩
theorem mw_197 : Jvm.Cond.fieldLink "ColdWorks" (18 : Nat) "ColdWorks" "exchanger" "LColdWorks$Exchanger;" ∈ uT := List.mem_filter.mpr ⟨List.mem_cons_of_mem _ (List.mem_of_getElem? (i := 225) (by decide +kernel)), rfl⟩
theorem mw_198 : Jvm.Cond.fieldLink "ColdWorks" (25 : Nat) "ColdWorks" "controls" "LColdWorks$Controls;" ∈ uT := List.mem_filter.mpr ⟨List.mem_cons_of_mem _ (List.mem_of_getElem? (i := 226) (by decide +kernel)), rfl⟩
theorem mw_199 : Jvm.Cond.fieldLink "ColdWorks" (32 : Nat) "ColdWorks" "adsorbers" "LColdWorks$Adsorbers;" ∈ uT := List.mem_filter.mpr ⟨List.mem_cons_of_mem _ (List.mem_of_getElem? (i := 227) (by decide +kernel)), rfl⟩
theorem mw_200 : Jvm.Cond.fieldLink "ColdWorks" (39 : Nat) "ColdWorks" "store" "LColdWorks$Store;" ∈ uT := List.mem_filter.mpr ⟨List.mem_cons_of_mem _ (List.mem_of_getElem? (i := 228) (by decide +kernel)), rfl⟩
theorem mw_201 : Jvm.Cond.fieldLink "ColdWorks" (46 : Nat) "ColdWorks" "orders" "LColdWorks$Orders;" ∈ uT := List.mem_filter.mpr ⟨List.mem_cons_of_mem _ (List.mem_of_getElem? (i := 229) (by decide +kernel)), rfl⟩
theorem mw_202 : Jvm.Cond.fieldLink "ColdWorks" (50 : Nat) "ColdWorks" "lost" "[Z" ∈ uT := List.mem_filter.mpr ⟨List.mem_cons_of_mem _ (List.mem_of_getElem? (i := 230) (by decide +kernel)), rfl⟩
theorem mw_203 : Jvm.Cond.fieldLink "ColdWorks" (54 : Nat) "ColdWorks" "coolerCount" "I" ∈ uT := List.mem_filter.mpr ⟨List.mem_cons_of_mem _ (List.mem_of_getElem? (i := 231) (by decide +kernel)), rfl⟩
theorem mw_204 : Jvm.Cond.fieldLink "ColdWorks" (58 : Nat) "ColdWorks" "endCooler" "I" ∈ uT := List.mem_filter.mpr ⟨List.mem_cons_of_mem _ (List.mem_of_getElem? (i := 232) (by decide +kernel)), rfl⟩
theorem mw_205 : Jvm.Cond.fieldLink "ColdWorks" (61 : Nat) "ColdWorks" "endDrop" "I" ∈ uT := List.mem_filter.mpr ⟨List.mem_cons_of_mem _ (List.mem_of_getElem? (i := 233) (by decide +kernel)), rfl⟩
theorem mw_206 : Jvm.Cond.fieldLink "ColdWorks" (64 : Nat) "ColdWorks" "inlet" "I" ∈ uT := List.mem_filter.mpr ⟨List.mem_cons_of_mem _ (List.mem_of_getElem? (i := 234) (by decide +kernel)), rfl⟩
theorem mw_207 : Jvm.Cond.fieldLink "ColdWorks" (67 : Nat) "ColdWorks" "ticksEver" "I" ∈ uT := List.mem_filter.mpr ⟨List.mem_cons_of_mem _ (List.mem_of_getElem? (i := 235) (by decide +kernel)), rfl⟩
theorem mw_208 : Jvm.Cond.fieldLink "ColdWorks" (70 : Nat) "ColdWorks" "traced" "J" ∈ uT := List.mem_filter.mpr ⟨List.mem_cons_of_mem _ (List.mem_of_getElem? (i := 236) (by decide +kernel)), rfl⟩
theorem mw_209 : Jvm.Cond.laysFinal "ColdWorks" "ColdWorks" "coolers" "[LColdWorks$Throttle;" ∈ uT := List.mem_filter.mpr ⟨List.mem_cons_of_mem _ (List.mem_of_getElem? (i := 237) (by decide +kernel)), rfl⟩
theorem mw_211 : Jvm.Cond.laysFinal "ColdWorks" "ColdWorks" "exchanger" "LColdWorks$Exchanger;" ∈ uT := List.mem_filter.mpr ⟨List.mem_cons_of_mem _ (List.mem_of_getElem? (i := 239) (by decide +kernel)), rfl⟩
theorem mw_213 : Jvm.Cond.laysFinal "ColdWorks" "ColdWorks" "controls" "LColdWorks$Controls;" ∈ uT := List.mem_filter.mpr ⟨List.mem_cons_of_mem _ (List.mem_of_getElem? (i := 241) (by decide +kernel)), rfl⟩
theorem mw_215 : Jvm.Cond.laysFinal "ColdWorks" "ColdWorks" "adsorbers" "LColdWorks$Adsorbers;" ∈ uT := List.mem_filter.mpr ⟨List.mem_cons_of_mem _ (List.mem_of_getElem? (i := 243) (by decide +kernel)), rfl⟩
theorem mw_217 : Jvm.Cond.laysFinal "ColdWorks" "ColdWorks" "store" "LColdWorks$Store;" ∈ uT := List.mem_filter.mpr ⟨List.mem_cons_of_mem _ (List.mem_of_getElem? (i := 245) (by decide +kernel)), rfl⟩
theorem mw_219 : Jvm.Cond.laysFinal "ColdWorks" "ColdWorks" "orders" "LColdWorks$Orders;" ∈ uT := List.mem_filter.mpr ⟨List.mem_cons_of_mem _ (List.mem_of_getElem? (i := 247) (by decide +kernel)), rfl⟩
theorem mw_221 : Jvm.Cond.laysFinal "ColdWorks" "ColdWorks" "lost" "[Z" ∈ uT := List.mem_filter.mpr ⟨List.mem_cons_of_mem _ (List.mem_of_getElem? (i := 249) (by decide +kernel)), rfl⟩
theorem mw_223 : Jvm.Cond.lays "ColdWorks" "ColdWorks" "coolerCount" "I" ∈ uT := List.mem_filter.mpr ⟨List.mem_cons_of_mem _ (List.mem_of_getElem? (i := 251) (by decide +kernel)), rfl⟩
theorem mw_225 : Jvm.Cond.lays "ColdWorks" "ColdWorks" "endCooler" "I" ∈ uT := List.mem_filter.mpr ⟨List.mem_cons_of_mem _ (List.mem_of_getElem? (i := 253) (by decide +kernel)), rfl⟩
theorem mw_227 : Jvm.Cond.lays "ColdWorks" "ColdWorks" "endDrop" "I" ∈ uT := List.mem_filter.mpr ⟨List.mem_cons_of_mem _ (List.mem_of_getElem? (i := 255) (by decide +kernel)), rfl⟩
theorem mw_229 : Jvm.Cond.lays "ColdWorks" "ColdWorks" "inlet" "I" ∈ uT := List.mem_filter.mpr ⟨List.mem_cons_of_mem _ (List.mem_of_getElem? (i := 257) (by decide +kernel)), rfl⟩
theorem mw_231 : Jvm.Cond.lays "ColdWorks" "ColdWorks" "ticksEver" "I" ∈ uT := List.mem_filter.mpr ⟨List.mem_cons_of_mem _ (List.mem_of_getElem? (i := 259) (by decide +kernel)), rfl⟩
theorem mw_233 : Jvm.Cond.lays "ColdWorks" "ColdWorks" "traced" "J" ∈ uT := List.mem_filter.mpr ⟨List.mem_cons_of_mem _ (List.mem_of_getElem? (i := 261) (by decide +kernel)), rfl⟩
theorem mw_235 : Jvm.Cond.superclass "ColdWorks" "java/lang/Object" ∈ uT := List.mem_filter.mpr ⟨List.mem_cons_of_mem _ (List.mem_of_getElem? (i := 263) (by decide +kernel)), rfl⟩
theorem mw_236 : Jvm.Cond.arrayClass Jvm.ClassFile.FieldType.boolean ∈ uT := List.mem_filter.mpr ⟨List.mem_cons_of_mem _ (List.mem_of_getElem? (i := 264) (by decide +kernel)), rfl⟩
theorem mw_237 : Jvm.Cond.methodLink "ColdWorksLaw" (13 : Nat) ({ cls := "ColdWorks", name := "cooler", desc := "(IIIIIII)I" } : Jvm.MethodName) ∈ uT := List.mem_filter.mpr ⟨List.mem_cons_of_mem _ (List.mem_of_getElem? (i := 265) (by decide +kernel)), rfl⟩
theorem mw_238 : Jvm.Cond.instanceMethod ({ cls := "ColdWorks", name := "cooler", desc := "(IIIIIII)I" } : Jvm.MethodName) ∈ uT := List.mem_filter.mpr ⟨List.mem_cons_of_mem _ (List.mem_of_getElem? (i := 266) (by decide +kernel)), rfl⟩
theorem mw_239 : Jvm.Cond.selects "ColdWorks" ({ cls := "ColdWorks", name := "cooler", desc := "(IIIIIII)I" } : Jvm.MethodName) ({ cls := "ColdWorks", name := "cooler", desc := "(IIIIIII)I" } : Jvm.MethodName) ∈ uT := List.mem_filter.mpr ⟨List.mem_cons_of_mem _ (List.mem_of_getElem? (i := 267) (by decide +kernel)), rfl⟩
theorem mw_240 : Jvm.Cond.code ({ cls := "ColdWorks", name := "cooler", desc := "(IIIIIII)I" } : Jvm.MethodName) prog_1_method_2_code (8 : Nat) (Option.some Jvm.ClassFile.FieldType.int) ∈ uT := List.mem_filter.mpr ⟨List.mem_cons_of_mem _ (List.mem_of_getElem? (i := 268) (by decide +kernel)), rfl⟩
theorem mw_241 : Jvm.Cond.methodLink "ColdWorks" (74 : Nat) ({ cls := "ColdWorks", name := "within", desc := "(III)Z" } : Jvm.MethodName) ∈ uT := List.mem_filter.mpr ⟨List.mem_cons_of_mem _ (List.mem_of_getElem? (i := 269) (by decide +kernel)), rfl⟩
theorem mw_242 : Jvm.Cond.static ({ cls := "ColdWorks", name := "within", desc := "(III)Z" } : Jvm.MethodName) ∈ uT := List.mem_filter.mpr ⟨List.mem_cons_of_mem _ (List.mem_of_getElem? (i := 270) (by decide +kernel)), rfl⟩
theorem mw_243 : Jvm.Cond.code ({ cls := "ColdWorks", name := "within", desc := "(III)Z" } : Jvm.MethodName) prog_1_method_26_code (3 : Nat) (Option.some Jvm.ClassFile.FieldType.boolean) ∈ uT := List.mem_filter.mpr ⟨List.mem_cons_of_mem _ (List.mem_of_getElem? (i := 271) (by decide +kernel)), rfl⟩
theorem mw_244 : Jvm.Cond.methodLink "ColdWorks" (78 : Nat) ({ cls := "ColdWorks", name := "areCorners", desc := "(IIIII)Z" } : Jvm.MethodName) ∈ uT := List.mem_filter.mpr ⟨List.mem_cons_of_mem _ (List.mem_of_getElem? (i := 272) (by decide +kernel)), rfl⟩
theorem mw_245 : Jvm.Cond.static ({ cls := "ColdWorks", name := "areCorners", desc := "(IIIII)Z" } : Jvm.MethodName) ∈ uT := List.mem_filter.mpr ⟨List.mem_cons_of_mem _ (List.mem_of_getElem? (i := 273) (by decide +kernel)), rfl⟩
theorem mw_246 : Jvm.Cond.code ({ cls := "ColdWorks", name := "areCorners", desc := "(IIIII)Z" } : Jvm.MethodName) prog_1_method_29_code (5 : Nat) (Option.some Jvm.ClassFile.FieldType.boolean) ∈ uT := List.mem_filter.mpr ⟨List.mem_cons_of_mem _ (List.mem_of_getElem? (i := 274) (by decide +kernel)), rfl⟩
theorem mw_247 : Jvm.Cond.methodLink "ColdWorks" (82 : Nat) ({ cls := "ColdWorks", name := "build", desc := "(IIIIIII)LColdWorks$Throttle;" } : Jvm.MethodName) ∈ uT := List.mem_filter.mpr ⟨List.mem_cons_of_mem _ (List.mem_of_getElem? (i := 275) (by decide +kernel)), rfl⟩
theorem mw_248 : Jvm.Cond.static ({ cls := "ColdWorks", name := "build", desc := "(IIIIIII)LColdWorks$Throttle;" } : Jvm.MethodName) ∈ uT := List.mem_filter.mpr ⟨List.mem_cons_of_mem _ (List.mem_of_getElem? (i := 276) (by decide +kernel)), rfl⟩
theorem mw_249 : Jvm.Cond.code ({ cls := "ColdWorks", name := "build", desc := "(IIIIIII)LColdWorks$Throttle;" } : Jvm.MethodName) prog_1_method_30_code (8 : Nat) (Option.some (Jvm.ClassFile.FieldType.object "ColdWorks$Throttle")) ∈ uT := List.mem_filter.mpr ⟨List.mem_cons_of_mem _ (List.mem_of_getElem? (i := 277) (by decide +kernel)), rfl⟩
theorem mw_250 : Jvm.Cond.instantiable "ColdWorks$Throttle" (0 : Nat) ∈ uT := List.mem_filter.mpr ⟨List.mem_cons_of_mem _ (List.mem_of_getElem? (i := 278) (by decide +kernel)), rfl⟩
theorem mw_252 : Jvm.Cond.instanceMethod ({ cls := "ColdWorks$Throttle", name := "<init>", desc := "()V" } : Jvm.MethodName) ∈ uT := List.mem_filter.mpr ⟨List.mem_cons_of_mem _ (List.mem_of_getElem? (i := 280) (by decide +kernel)), rfl⟩
theorem mw_253 : Jvm.Cond.code ({ cls := "ColdWorks$Throttle", name := "<init>", desc := "()V" } : Jvm.MethodName) prog_9_method_1_code (1 : Nat) (Option.none : Option Jvm.ClassFile.FieldType) ∈ uT := List.mem_filter.mpr ⟨List.mem_cons_of_mem _ (List.mem_of_getElem? (i := 281) (by decide +kernel)), rfl⟩
theorem mw_254 : Jvm.Cond.methodLink "ColdWorks$Throttle" (1 : Nat) ({ cls := "java/lang/Object", name := "<init>", desc := "()V" } : Jvm.MethodName) ∈ uT := List.mem_filter.mpr ⟨List.mem_cons_of_mem _ (List.mem_of_getElem? (i := 282) (by decide +kernel)), rfl⟩
theorem mw_255 : Jvm.Cond.superclass "ColdWorks$Throttle" "java/lang/Object" ∈ uT := List.mem_filter.mpr ⟨List.mem_cons_of_mem _ (List.mem_of_getElem? (i := 283) (by decide +kernel)), rfl⟩
theorem mw_256 : Jvm.Cond.classLink "ColdWorks" (228 : Nat) "ColdWorks$Wheel" ∈ uT := List.mem_filter.mpr ⟨List.mem_cons_of_mem _ (List.mem_of_getElem? (i := 284) (by decide +kernel)), rfl⟩
theorem mw_257 : Jvm.Cond.instantiable "ColdWorks$Wheel" (1 : Nat) ∈ uT := List.mem_filter.mpr ⟨List.mem_cons_of_mem _ (List.mem_of_getElem? (i := 285) (by decide +kernel)), rfl⟩
theorem mw_258 : Jvm.Cond.methodLink "ColdWorks" (230 : Nat) ({ cls := "ColdWorks$Wheel", name := "<init>", desc := "([I)V" } : Jvm.MethodName) ∈ uT := List.mem_filter.mpr ⟨List.mem_cons_of_mem _ (List.mem_of_getElem? (i := 286) (by decide +kernel)), rfl⟩
theorem mw_259 : Jvm.Cond.instanceMethod ({ cls := "ColdWorks$Wheel", name := "<init>", desc := "([I)V" } : Jvm.MethodName) ∈ uT := List.mem_filter.mpr ⟨List.mem_cons_of_mem _ (List.mem_of_getElem? (i := 287) (by decide +kernel)), rfl⟩
theorem mw_260 : Jvm.Cond.code ({ cls := "ColdWorks$Wheel", name := "<init>", desc := "([I)V" } : Jvm.MethodName) prog_10_method_1_code (2 : Nat) (Option.none : Option Jvm.ClassFile.FieldType) ∈ uT := List.mem_filter.mpr ⟨List.mem_cons_of_mem _ (List.mem_of_getElem? (i := 288) (by decide +kernel)), rfl⟩
theorem mw_262 : Jvm.Cond.fieldLink "ColdWorks$Wheel" (7 : Nat) "ColdWorks$Wheel" "corners" "[I" ∈ uT := List.mem_filter.mpr ⟨List.mem_cons_of_mem _ (List.mem_of_getElem? (i := 290) (by decide +kernel)), rfl⟩
theorem mw_263 : Jvm.Cond.laysFinal "ColdWorks$Wheel" "ColdWorks$Wheel" "corners" "[I" ∈ uT := List.mem_filter.mpr ⟨List.mem_cons_of_mem _ (List.mem_of_getElem? (i := 291) (by decide +kernel)), rfl⟩
theorem mw_265 : Jvm.Cond.superclass "ColdWorks$Wheel" "ColdWorks$Throttle" ∈ uT := List.mem_filter.mpr ⟨List.mem_cons_of_mem _ (List.mem_of_getElem? (i := 293) (by decide +kernel)), rfl⟩
theorem mw_266 : Jvm.Cond.classLink "ColdWorks" (233 : Nat) "ColdWorks$Braked" ∈ uT := List.mem_filter.mpr ⟨List.mem_cons_of_mem _ (List.mem_of_getElem? (i := 294) (by decide +kernel)), rfl⟩
theorem mw_267 : Jvm.Cond.instantiable "ColdWorks$Braked" (2 : Nat) ∈ uT := List.mem_filter.mpr ⟨List.mem_cons_of_mem _ (List.mem_of_getElem? (i := 295) (by decide +kernel)), rfl⟩
theorem mw_268 : Jvm.Cond.methodLink "ColdWorks" (235 : Nat) ({ cls := "ColdWorks$Braked", name := "<init>", desc := "([II)V" } : Jvm.MethodName) ∈ uT := List.mem_filter.mpr ⟨List.mem_cons_of_mem _ (List.mem_of_getElem? (i := 296) (by decide +kernel)), rfl⟩
theorem mw_269 : Jvm.Cond.instanceMethod ({ cls := "ColdWorks$Braked", name := "<init>", desc := "([II)V" } : Jvm.MethodName) ∈ uT := List.mem_filter.mpr ⟨List.mem_cons_of_mem _ (List.mem_of_getElem? (i := 297) (by decide +kernel)), rfl⟩
theorem mw_270 : Jvm.Cond.code ({ cls := "ColdWorks$Braked", name := "<init>", desc := "([II)V" } : Jvm.MethodName) prog_4_method_1_code (3 : Nat) (Option.none : Option Jvm.ClassFile.FieldType) ∈ uT := List.mem_filter.mpr ⟨List.mem_cons_of_mem _ (List.mem_of_getElem? (i := 298) (by decide +kernel)), rfl⟩
theorem mw_271 : Jvm.Cond.methodLink "ColdWorks$Braked" (1 : Nat) ({ cls := "ColdWorks$Wheel", name := "<init>", desc := "([I)V" } : Jvm.MethodName) ∈ uT := List.mem_filter.mpr ⟨List.mem_cons_of_mem _ (List.mem_of_getElem? (i := 299) (by decide +kernel)), rfl⟩
theorem mw_272 : Jvm.Cond.fieldLink "ColdWorks$Braked" (7 : Nat) "ColdWorks$Braked" "limit" "I" ∈ uT := List.mem_filter.mpr ⟨List.mem_cons_of_mem _ (List.mem_of_getElem? (i := 300) (by decide +kernel)), rfl⟩
theorem mw_273 : Jvm.Cond.laysFinal "ColdWorks$Braked" "ColdWorks$Braked" "limit" "I" ∈ uT := List.mem_filter.mpr ⟨List.mem_cons_of_mem _ (List.mem_of_getElem? (i := 301) (by decide +kernel)), rfl⟩
theorem mw_275 : Jvm.Cond.laysFinal "ColdWorks$Braked" "ColdWorks$Wheel" "corners" "[I" ∈ uT := List.mem_filter.mpr ⟨List.mem_cons_of_mem _ (List.mem_of_getElem? (i := 303) (by decide +kernel)), rfl⟩
theorem mw_276 : Jvm.Cond.superclass "ColdWorks$Braked" "ColdWorks$Wheel" ∈ uT := List.mem_filter.mpr ⟨List.mem_cons_of_mem _ (List.mem_of_getElem? (i := 304) (by decide +kernel)), rfl⟩
theorem mw_277 : Jvm.Cond.methodLink "ColdWorksLaw" (18 : Nat) ({ cls := "ColdWorks", name := "cold", desc := "(II)I" } : Jvm.MethodName) ∈ uT := List.mem_filter.mpr ⟨List.mem_cons_of_mem _ (List.mem_of_getElem? (i := 305) (by decide +kernel)), rfl⟩
theorem mw_278 : Jvm.Cond.instanceMethod ({ cls := "ColdWorks", name := "cold", desc := "(II)I" } : Jvm.MethodName) ∈ uT := List.mem_filter.mpr ⟨List.mem_cons_of_mem _ (List.mem_of_getElem? (i := 306) (by decide +kernel)), rfl⟩
theorem mw_279 : Jvm.Cond.selects "ColdWorks" ({ cls := "ColdWorks", name := "cold", desc := "(II)I" } : Jvm.MethodName) ({ cls := "ColdWorks", name := "cold", desc := "(II)I" } : Jvm.MethodName) ∈ uT := List.mem_filter.mpr ⟨List.mem_cons_of_mem _ (List.mem_of_getElem? (i := 307) (by decide +kernel)), rfl⟩
theorem mw_280 : Jvm.Cond.code ({ cls := "ColdWorks", name := "cold", desc := "(II)I" } : Jvm.MethodName) prog_1_method_3_code (3 : Nat) (Option.some Jvm.ClassFile.FieldType.int) ∈ uT := List.mem_filter.mpr ⟨List.mem_cons_of_mem _ (List.mem_of_getElem? (i := 308) (by decide +kernel)), rfl⟩
theorem mw_281 : Jvm.Cond.methodLink "ColdWorks" (86 : Nat) ({ cls := "ColdWorks", name := "isCooler", desc := "(I)Z" } : Jvm.MethodName) ∈ uT := List.mem_filter.mpr ⟨List.mem_cons_of_mem _ (List.mem_of_getElem? (i := 309) (by decide +kernel)), rfl⟩
theorem mw_283 : Jvm.Cond.instanceMethod ({ cls := "ColdWorks", name := "isCooler", desc := "(I)Z" } : Jvm.MethodName) ∈ uT := List.mem_filter.mpr ⟨List.mem_cons_of_mem _ (List.mem_of_getElem? (i := 311) (by decide +kernel)), rfl⟩
theorem mw_284 : Jvm.Cond.code ({ cls := "ColdWorks", name := "isCooler", desc := "(I)Z" } : Jvm.MethodName) prog_1_method_31_code (2 : Nat) (Option.some Jvm.ClassFile.FieldType.boolean) ∈ uT := List.mem_filter.mpr ⟨List.mem_cons_of_mem _ (List.mem_of_getElem? (i := 312) (by decide +kernel)), rfl⟩
theorem mw_285 : Jvm.Cond.methodLink "ColdWorks" (90 : Nat) ({ cls := "ColdWorks", name := "weightOf", desc := "(I)I" } : Jvm.MethodName) ∈ uT := List.mem_filter.mpr ⟨List.mem_cons_of_mem _ (List.mem_of_getElem? (i := 313) (by decide +kernel)), rfl⟩
theorem mw_287 : Jvm.Cond.instanceMethod ({ cls := "ColdWorks", name := "weightOf", desc := "(I)I" } : Jvm.MethodName) ∈ uT := List.mem_filter.mpr ⟨List.mem_cons_of_mem _ (List.mem_of_getElem? (i := 315) (by decide +kernel)), rfl⟩
theorem mw_288 : Jvm.Cond.code ({ cls := "ColdWorks", name := "weightOf", desc := "(I)I" } : Jvm.MethodName) prog_1_method_34_code (3 : Nat) (Option.some Jvm.ClassFile.FieldType.int) ∈ uT := List.mem_filter.mpr ⟨List.mem_cons_of_mem _ (List.mem_of_getElem? (i := 316) (by decide +kernel)), rfl⟩
theorem mw_289 : Jvm.Cond.methodLink "ColdWorks" (238 : Nat) ({ cls := "ColdWorks", name := "find", desc := "(I)LColdWorks$Throttle;" } : Jvm.MethodName) ∈ uT := List.mem_filter.mpr ⟨List.mem_cons_of_mem _ (List.mem_of_getElem? (i := 317) (by decide +kernel)), rfl⟩
theorem mw_291 : Jvm.Cond.instanceMethod ({ cls := "ColdWorks", name := "find", desc := "(I)LColdWorks$Throttle;" } : Jvm.MethodName) ∈ uT := List.mem_filter.mpr ⟨List.mem_cons_of_mem _ (List.mem_of_getElem? (i := 319) (by decide +kernel)), rfl⟩
theorem mw_292 : Jvm.Cond.code ({ cls := "ColdWorks", name := "find", desc := "(I)LColdWorks$Throttle;" } : Jvm.MethodName) prog_1_method_32_code (2 : Nat) (Option.some (Jvm.ClassFile.FieldType.object "ColdWorks$Throttle")) ∈ uT := List.mem_filter.mpr ⟨List.mem_cons_of_mem _ (List.mem_of_getElem? (i := 320) (by decide +kernel)), rfl⟩
theorem mw_293 : Jvm.Cond.methodLink "ColdWorks" (245 : Nat) ({ cls := "ColdWorks$Throttle", name := "traceWeight", desc := "()I" } : Jvm.MethodName) ∈ uT := List.mem_filter.mpr ⟨List.mem_cons_of_mem _ (List.mem_of_getElem? (i := 321) (by decide +kernel)), rfl⟩
theorem mw_294 : Jvm.Cond.instanceMethod ({ cls := "ColdWorks$Throttle", name := "traceWeight", desc := "()I" } : Jvm.MethodName) ∈ uT := List.mem_filter.mpr ⟨List.mem_cons_of_mem _ (List.mem_of_getElem? (i := 322) (by decide +kernel)), rfl⟩
theorem mw_295 : Jvm.Cond.selects "ColdWorks$Throttle" ({ cls := "ColdWorks$Throttle", name := "traceWeight", desc := "()I" } : Jvm.MethodName) ({ cls := "ColdWorks$Throttle", name := "traceWeight", desc := "()I" } : Jvm.MethodName) ∈ uT := List.mem_filter.mpr ⟨List.mem_cons_of_mem _ (List.mem_of_getElem? (i := 323) (by decide +kernel)), rfl⟩
theorem mw_296 : Jvm.Cond.sameMethod "ColdWorks$Throttle" "ColdWorks$Throttle" "traceWeight" "()I" ∈ uT := List.mem_filter.mpr ⟨List.mem_cons_of_mem _ (List.mem_of_getElem? (i := 324) (by decide +kernel)), rfl⟩
theorem mw_297 : Jvm.Cond.selects "ColdWorks$Braked" ({ cls := "ColdWorks$Throttle", name := "traceWeight", desc := "()I" } : Jvm.MethodName) ({ cls := "ColdWorks$Braked", name := "traceWeight", desc := "()I" } : Jvm.MethodName) ∈ uT := List.mem_filter.mpr ⟨List.mem_cons_of_mem _ (List.mem_of_getElem? (i := 325) (by decide +kernel)), rfl⟩
theorem mw_298 : Jvm.Cond.instanceMethod ({ cls := "ColdWorks$Braked", name := "traceWeight", desc := "()I" } : Jvm.MethodName) ∈ uT := List.mem_filter.mpr ⟨List.mem_cons_of_mem _ (List.mem_of_getElem? (i := 326) (by decide +kernel)), rfl⟩
theorem mw_299 : Jvm.Cond.code ({ cls := "ColdWorks$Braked", name := "traceWeight", desc := "()I" } : Jvm.MethodName) prog_4_method_3_code (1 : Nat) (Option.some Jvm.ClassFile.FieldType.int) ∈ uT := List.mem_filter.mpr ⟨List.mem_cons_of_mem _ (List.mem_of_getElem? (i := 327) (by decide +kernel)), rfl⟩
theorem mw_300 : Jvm.Cond.methodLink "ColdWorks$Braked" (23 : Nat) ({ cls := "ColdWorks$Wheel", name := "traceWeight", desc := "()I" } : Jvm.MethodName) ∈ uT := List.mem_filter.mpr ⟨List.mem_cons_of_mem _ (List.mem_of_getElem? (i := 328) (by decide +kernel)), rfl⟩
theorem mw_301 : Jvm.Cond.instanceMethod ({ cls := "ColdWorks$Wheel", name := "traceWeight", desc := "()I" } : Jvm.MethodName) ∈ uT := List.mem_filter.mpr ⟨List.mem_cons_of_mem _ (List.mem_of_getElem? (i := 329) (by decide +kernel)), rfl⟩
theorem mw_302 : Jvm.Cond.code ({ cls := "ColdWorks$Wheel", name := "traceWeight", desc := "()I" } : Jvm.MethodName) prog_10_method_3_code (1 : Nat) (Option.some Jvm.ClassFile.FieldType.int) ∈ uT := List.mem_filter.mpr ⟨List.mem_cons_of_mem _ (List.mem_of_getElem? (i := 330) (by decide +kernel)), rfl⟩
theorem mw_303 : Jvm.Cond.methodLink "ColdWorks$Wheel" (20 : Nat) ({ cls := "ColdWorks$Throttle", name := "traceWeight", desc := "()I" } : Jvm.MethodName) ∈ uT := List.mem_filter.mpr ⟨List.mem_cons_of_mem _ (List.mem_of_getElem? (i := 331) (by decide +kernel)), rfl⟩
theorem mw_304 : Jvm.Cond.selects "ColdWorks$Wheel" ({ cls := "ColdWorks$Throttle", name := "traceWeight", desc := "()I" } : Jvm.MethodName) ({ cls := "ColdWorks$Wheel", name := "traceWeight", desc := "()I" } : Jvm.MethodName) ∈ uT := List.mem_filter.mpr ⟨List.mem_cons_of_mem _ (List.mem_of_getElem? (i := 332) (by decide +kernel)), rfl⟩
theorem mw_305 : Jvm.Cond.code ({ cls := "ColdWorks$Throttle", name := "traceWeight", desc := "()I" } : Jvm.MethodName) prog_9_method_3_code (1 : Nat) (Option.some Jvm.ClassFile.FieldType.int) ∈ uT := List.mem_filter.mpr ⟨List.mem_cons_of_mem _ (List.mem_of_getElem? (i := 333) (by decide +kernel)), rfl⟩
theorem mw_306 : Jvm.Cond.methodLink "ColdWorks" (94 : Nat) ({ cls := "ColdWorks", name := "coldOf", desc := "(II)I" } : Jvm.MethodName) ∈ uT := List.mem_filter.mpr ⟨List.mem_cons_of_mem _ (List.mem_of_getElem? (i := 334) (by decide +kernel)), rfl⟩
theorem mw_308 : Jvm.Cond.instanceMethod ({ cls := "ColdWorks", name := "coldOf", desc := "(II)I" } : Jvm.MethodName) ∈ uT := List.mem_filter.mpr ⟨List.mem_cons_of_mem _ (List.mem_of_getElem? (i := 336) (by decide +kernel)), rfl⟩
theorem mw_309 : Jvm.Cond.code ({ cls := "ColdWorks", name := "coldOf", desc := "(II)I" } : Jvm.MethodName) prog_1_method_33_code (4 : Nat) (Option.some Jvm.ClassFile.FieldType.int) ∈ uT := List.mem_filter.mpr ⟨List.mem_cons_of_mem _ (List.mem_of_getElem? (i := 337) (by decide +kernel)), rfl⟩
theorem mw_310 : Jvm.Cond.methodLink "ColdWorks" (242 : Nat) ({ cls := "ColdWorks$Throttle", name := "coldAt", desc := "(I)I" } : Jvm.MethodName) ∈ uT := List.mem_filter.mpr ⟨List.mem_cons_of_mem _ (List.mem_of_getElem? (i := 338) (by decide +kernel)), rfl⟩
theorem mw_311 : Jvm.Cond.instanceMethod ({ cls := "ColdWorks$Throttle", name := "coldAt", desc := "(I)I" } : Jvm.MethodName) ∈ uT := List.mem_filter.mpr ⟨List.mem_cons_of_mem _ (List.mem_of_getElem? (i := 339) (by decide +kernel)), rfl⟩
theorem mw_312 : Jvm.Cond.selects "ColdWorks$Throttle" ({ cls := "ColdWorks$Throttle", name := "coldAt", desc := "(I)I" } : Jvm.MethodName) ({ cls := "ColdWorks$Throttle", name := "coldAt", desc := "(I)I" } : Jvm.MethodName) ∈ uT := List.mem_filter.mpr ⟨List.mem_cons_of_mem _ (List.mem_of_getElem? (i := 340) (by decide +kernel)), rfl⟩
theorem mw_313 : Jvm.Cond.sameMethod "ColdWorks$Throttle" "ColdWorks$Throttle" "coldAt" "(I)I" ∈ uT := List.mem_filter.mpr ⟨List.mem_cons_of_mem _ (List.mem_of_getElem? (i := 341) (by decide +kernel)), rfl⟩
theorem mw_314 : Jvm.Cond.selects "ColdWorks$Braked" ({ cls := "ColdWorks$Throttle", name := "coldAt", desc := "(I)I" } : Jvm.MethodName) ({ cls := "ColdWorks$Braked", name := "coldAt", desc := "(I)I" } : Jvm.MethodName) ∈ uT := List.mem_filter.mpr ⟨List.mem_cons_of_mem _ (List.mem_of_getElem? (i := 342) (by decide +kernel)), rfl⟩
theorem mw_315 : Jvm.Cond.instanceMethod ({ cls := "ColdWorks$Braked", name := "coldAt", desc := "(I)I" } : Jvm.MethodName) ∈ uT := List.mem_filter.mpr ⟨List.mem_cons_of_mem _ (List.mem_of_getElem? (i := 343) (by decide +kernel)), rfl⟩
theorem mw_316 : Jvm.Cond.code ({ cls := "ColdWorks$Braked", name := "coldAt", desc := "(I)I" } : Jvm.MethodName) prog_4_method_2_code (2 : Nat) (Option.some Jvm.ClassFile.FieldType.int) ∈ uT := List.mem_filter.mpr ⟨List.mem_cons_of_mem _ (List.mem_of_getElem? (i := 344) (by decide +kernel)), rfl⟩
theorem mw_317 : Jvm.Cond.methodLink "ColdWorks$Braked" (13 : Nat) ({ cls := "ColdWorks$Wheel", name := "coldAt", desc := "(I)I" } : Jvm.MethodName) ∈ uT := List.mem_filter.mpr ⟨List.mem_cons_of_mem _ (List.mem_of_getElem? (i := 345) (by decide +kernel)), rfl⟩
theorem mw_318 : Jvm.Cond.instanceMethod ({ cls := "ColdWorks$Wheel", name := "coldAt", desc := "(I)I" } : Jvm.MethodName) ∈ uT := List.mem_filter.mpr ⟨List.mem_cons_of_mem _ (List.mem_of_getElem? (i := 346) (by decide +kernel)), rfl⟩
theorem mw_319 : Jvm.Cond.code ({ cls := "ColdWorks$Wheel", name := "coldAt", desc := "(I)I" } : Jvm.MethodName) prog_10_method_2_code (4 : Nat) (Option.some Jvm.ClassFile.FieldType.int) ∈ uT := List.mem_filter.mpr ⟨List.mem_cons_of_mem _ (List.mem_of_getElem? (i := 347) (by decide +kernel)), rfl⟩
theorem mw_320 : Jvm.Cond.methodLink "ColdWorks$Wheel" (13 : Nat) ({ cls := "ColdWorks$Throttle", name := "coldAt", desc := "(I)I" } : Jvm.MethodName) ∈ uT := List.mem_filter.mpr ⟨List.mem_cons_of_mem _ (List.mem_of_getElem? (i := 348) (by decide +kernel)), rfl⟩
theorem mw_321 : Jvm.Cond.methodLink "ColdWorks$Wheel" (17 : Nat) ({ cls := "ColdWorks$Wheel", name := "corner", desc := "(I)I" } : Jvm.MethodName) ∈ uT := List.mem_filter.mpr ⟨List.mem_cons_of_mem _ (List.mem_of_getElem? (i := 349) (by decide +kernel)), rfl⟩
theorem mw_323 : Jvm.Cond.instanceMethod ({ cls := "ColdWorks$Wheel", name := "corner", desc := "(I)I" } : Jvm.MethodName) ∈ uT := List.mem_filter.mpr ⟨List.mem_cons_of_mem _ (List.mem_of_getElem? (i := 351) (by decide +kernel)), rfl⟩
theorem mw_324 : Jvm.Cond.code ({ cls := "ColdWorks$Wheel", name := "corner", desc := "(I)I" } : Jvm.MethodName) prog_10_method_4_code (2 : Nat) (Option.some Jvm.ClassFile.FieldType.int) ∈ uT := List.mem_filter.mpr ⟨List.mem_cons_of_mem _ (List.mem_of_getElem? (i := 352) (by decide +kernel)), rfl⟩
theorem mw_325 : Jvm.Cond.methodLink "ColdWorks$Braked" (17 : Nat) ({ cls := "java/lang/Math", name := "min", desc := "(II)I" } : Jvm.MethodName) ∈ uT := List.mem_filter.mpr ⟨List.mem_cons_of_mem _ (List.mem_of_getElem? (i := 353) (by decide +kernel)), rfl⟩
theorem mw_326 : Jvm.Cond.static ({ cls := "java/lang/Math", name := "min", desc := "(II)I" } : Jvm.MethodName) ∈ uT := List.mem_filter.mpr ⟨List.mem_cons_of_mem _ (List.mem_of_getElem? (i := 354) (by decide +kernel)), rfl⟩
theorem mw_327 : Jvm.Cond.code ({ cls := "java/lang/Math", name := "min", desc := "(II)I" } : Jvm.MethodName) prog_13_method_69_code (2 : Nat) (Option.some Jvm.ClassFile.FieldType.int) ∈ uT := List.mem_filter.mpr ⟨List.mem_cons_of_mem _ (List.mem_of_getElem? (i := 355) (by decide +kernel)), rfl⟩
theorem mw_328 : Jvm.Cond.selects "ColdWorks$Wheel" ({ cls := "ColdWorks$Throttle", name := "coldAt", desc := "(I)I" } : Jvm.MethodName) ({ cls := "ColdWorks$Wheel", name := "coldAt", desc := "(I)I" } : Jvm.MethodName) ∈ uT := List.mem_filter.mpr ⟨List.mem_cons_of_mem _ (List.mem_of_getElem? (i := 356) (by decide +kernel)), rfl⟩
theorem mw_329 : Jvm.Cond.code ({ cls := "ColdWorks$Throttle", name := "coldAt", desc := "(I)I" } : Jvm.MethodName) prog_9_method_2_code (2 : Nat) (Option.some Jvm.ClassFile.FieldType.int) ∈ uT := List.mem_filter.mpr ⟨List.mem_cons_of_mem _ (List.mem_of_getElem? (i := 357) (by decide +kernel)), rfl⟩
theorem mw_330 : Jvm.Cond.methodLink "ColdWorksLaw" (23 : Nat) ({ cls := "ColdWorks", name := "cells", desc := "(II)I" } : Jvm.MethodName) ∈ uT := List.mem_filter.mpr ⟨List.mem_cons_of_mem _ (List.mem_of_getElem? (i := 358) (by decide +kernel)), rfl⟩
theorem mw_331 : Jvm.Cond.instanceMethod ({ cls := "ColdWorks", name := "cells", desc := "(II)I" } : Jvm.MethodName) ∈ uT := List.mem_filter.mpr ⟨List.mem_cons_of_mem _ (List.mem_of_getElem? (i := 359) (by decide +kernel)), rfl⟩
theorem mw_332 : Jvm.Cond.selects "ColdWorks" ({ cls := "ColdWorks", name := "cells", desc := "(II)I" } : Jvm.MethodName) ({ cls := "ColdWorks", name := "cells", desc := "(II)I" } : Jvm.MethodName) ∈ uT := List.mem_filter.mpr ⟨List.mem_cons_of_mem _ (List.mem_of_getElem? (i := 360) (by decide +kernel)), rfl⟩
theorem mw_333 : Jvm.Cond.code ({ cls := "ColdWorks", name := "cells", desc := "(II)I" } : Jvm.MethodName) prog_1_method_4_code (3 : Nat) (Option.some Jvm.ClassFile.FieldType.int) ∈ uT := List.mem_filter.mpr ⟨List.mem_cons_of_mem _ (List.mem_of_getElem? (i := 361) (by decide +kernel)), rfl⟩
theorem mw_334 : Jvm.Cond.methodLink "ColdWorks" (101 : Nat) ({ cls := "ColdWorks$Exchanger", name := "rebuild", desc := "(II)V" } : Jvm.MethodName) ∈ uT := List.mem_filter.mpr ⟨List.mem_cons_of_mem _ (List.mem_of_getElem? (i := 362) (by decide +kernel)), rfl⟩
theorem mw_335 : Jvm.Cond.methodLink "ColdWorksLaw" (27 : Nat) ({ cls := "ColdWorks", name := "set", desc := "(II)I" } : Jvm.MethodName) ∈ uT := List.mem_filter.mpr ⟨List.mem_cons_of_mem _ (List.mem_of_getElem? (i := 363) (by decide +kernel)), rfl⟩
theorem mw_336 : Jvm.Cond.instanceMethod ({ cls := "ColdWorks", name := "set", desc := "(II)I" } : Jvm.MethodName) ∈ uT := List.mem_filter.mpr ⟨List.mem_cons_of_mem _ (List.mem_of_getElem? (i := 364) (by decide +kernel)), rfl⟩
theorem mw_337 : Jvm.Cond.selects "ColdWorks" ({ cls := "ColdWorks", name := "set", desc := "(II)I" } : Jvm.MethodName) ({ cls := "ColdWorks", name := "set", desc := "(II)I" } : Jvm.MethodName) ∈ uT := List.mem_filter.mpr ⟨List.mem_cons_of_mem _ (List.mem_of_getElem? (i := 365) (by decide +kernel)), rfl⟩
theorem mw_338 : Jvm.Cond.code ({ cls := "ColdWorks", name := "set", desc := "(II)I" } : Jvm.MethodName) prog_1_method_5_code (4 : Nat) (Option.some Jvm.ClassFile.FieldType.int) ∈ uT := List.mem_filter.mpr ⟨List.mem_cons_of_mem _ (List.mem_of_getElem? (i := 366) (by decide +kernel)), rfl⟩
theorem mw_339 : Jvm.Cond.methodLink "ColdWorks" (105 : Nat) ({ cls := "ColdWorks", name := "maySet", desc := "(II)Z" } : Jvm.MethodName) ∈ uT := List.mem_filter.mpr ⟨List.mem_cons_of_mem _ (List.mem_of_getElem? (i := 367) (by decide +kernel)), rfl⟩
theorem mw_341 : Jvm.Cond.instanceMethod ({ cls := "ColdWorks", name := "maySet", desc := "(II)Z" } : Jvm.MethodName) ∈ uT := List.mem_filter.mpr ⟨List.mem_cons_of_mem _ (List.mem_of_getElem? (i := 369) (by decide +kernel)), rfl⟩
theorem mw_342 : Jvm.Cond.code ({ cls := "ColdWorks", name := "maySet", desc := "(II)Z" } : Jvm.MethodName) prog_1_method_36_code (3 : Nat) (Option.some Jvm.ClassFile.FieldType.boolean) ∈ uT := List.mem_filter.mpr ⟨List.mem_cons_of_mem _ (List.mem_of_getElem? (i := 370) (by decide +kernel)), rfl⟩
theorem mw_343 : Jvm.Cond.methodLink "ColdWorks" (109 : Nat) ({ cls := "ColdWorks", name := "setting", desc := "(I)I" } : Jvm.MethodName) ∈ uT := List.mem_filter.mpr ⟨List.mem_cons_of_mem _ (List.mem_of_getElem? (i := 371) (by decide +kernel)), rfl⟩
theorem mw_345 : Jvm.Cond.instanceMethod ({ cls := "ColdWorks", name := "setting", desc := "(I)I" } : Jvm.MethodName) ∈ uT := List.mem_filter.mpr ⟨List.mem_cons_of_mem _ (List.mem_of_getElem? (i := 373) (by decide +kernel)), rfl⟩
theorem mw_346 : Jvm.Cond.code ({ cls := "ColdWorks", name := "setting", desc := "(I)I" } : Jvm.MethodName) prog_1_method_37_code (2 : Nat) (Option.some Jvm.ClassFile.FieldType.int) ∈ uT := List.mem_filter.mpr ⟨List.mem_cons_of_mem _ (List.mem_of_getElem? (i := 374) (by decide +kernel)), rfl⟩
theorem mw_347 : Jvm.Cond.methodLink "ColdWorks" (112 : Nat) ({ cls := "ColdWorks", name := "change", desc := "(II)V" } : Jvm.MethodName) ∈ uT := List.mem_filter.mpr ⟨List.mem_cons_of_mem _ (List.mem_of_getElem? (i := 375) (by decide +kernel)), rfl⟩
theorem mw_349 : Jvm.Cond.instanceMethod ({ cls := "ColdWorks", name := "change", desc := "(II)V" } : Jvm.MethodName) ∈ uT := List.mem_filter.mpr ⟨List.mem_cons_of_mem _ (List.mem_of_getElem? (i := 377) (by decide +kernel)), rfl⟩
theorem mw_350 : Jvm.Cond.code ({ cls := "ColdWorks", name := "change", desc := "(II)V" } : Jvm.MethodName) prog_1_method_38_code (3 : Nat) (Option.none : Option Jvm.ClassFile.FieldType) ∈ uT := List.mem_filter.mpr ⟨List.mem_cons_of_mem _ (List.mem_of_getElem? (i := 378) (by decide +kernel)), rfl⟩
theorem mw_351 : Jvm.Cond.methodLink "ColdWorksLaw" (31 : Nat) ({ cls := "ColdWorks", name := "side", desc := "(II)I" } : Jvm.MethodName) ∈ uT := List.mem_filter.mpr ⟨List.mem_cons_of_mem _ (List.mem_of_getElem? (i := 379) (by decide +kernel)), rfl⟩
theorem mw_352 : Jvm.Cond.instanceMethod ({ cls := "ColdWorks", name := "side", desc := "(II)I" } : Jvm.MethodName) ∈ uT := List.mem_filter.mpr ⟨List.mem_cons_of_mem _ (List.mem_of_getElem? (i := 380) (by decide +kernel)), rfl⟩
theorem mw_353 : Jvm.Cond.selects "ColdWorks" ({ cls := "ColdWorks", name := "side", desc := "(II)I" } : Jvm.MethodName) ({ cls := "ColdWorks", name := "side", desc := "(II)I" } : Jvm.MethodName) ∈ uT := List.mem_filter.mpr ⟨List.mem_cons_of_mem _ (List.mem_of_getElem? (i := 381) (by decide +kernel)), rfl⟩
theorem mw_354 : Jvm.Cond.code ({ cls := "ColdWorks", name := "side", desc := "(II)I" } : Jvm.MethodName) prog_1_method_6_code (3 : Nat) (Option.some Jvm.ClassFile.FieldType.int) ∈ uT := List.mem_filter.mpr ⟨List.mem_cons_of_mem _ (List.mem_of_getElem? (i := 382) (by decide +kernel)), rfl⟩
theorem mw_355 : Jvm.Cond.methodLink "ColdWorksLaw" (35 : Nat) ({ cls := "ColdWorks", name := "heat", desc := "(I)J" } : Jvm.MethodName) ∈ uT := List.mem_filter.mpr ⟨List.mem_cons_of_mem _ (List.mem_of_getElem? (i := 383) (by decide +kernel)), rfl⟩
theorem mw_356 : Jvm.Cond.instanceMethod ({ cls := "ColdWorks", name := "heat", desc := "(I)J" } : Jvm.MethodName) ∈ uT := List.mem_filter.mpr ⟨List.mem_cons_of_mem _ (List.mem_of_getElem? (i := 384) (by decide +kernel)), rfl⟩
theorem mw_357 : Jvm.Cond.selects "ColdWorks" ({ cls := "ColdWorks", name := "heat", desc := "(I)J" } : Jvm.MethodName) ({ cls := "ColdWorks", name := "heat", desc := "(I)J" } : Jvm.MethodName) ∈ uT := List.mem_filter.mpr ⟨List.mem_cons_of_mem _ (List.mem_of_getElem? (i := 385) (by decide +kernel)), rfl⟩
theorem mw_358 : Jvm.Cond.code ({ cls := "ColdWorks", name := "heat", desc := "(I)J" } : Jvm.MethodName) prog_1_method_7_code (2 : Nat) (Option.some Jvm.ClassFile.FieldType.long) ∈ uT := List.mem_filter.mpr ⟨List.mem_cons_of_mem _ (List.mem_of_getElem? (i := 386) (by decide +kernel)), rfl⟩
theorem mw_359 : Jvm.Cond.constantLong "ColdWorks" (137 : Nat) (-1 : Int64) ∈ uT := List.mem_filter.mpr ⟨List.mem_cons_of_mem _ (List.mem_of_getElem? (i := 387) (by decide +kernel)), rfl⟩
theorem mw_360 : Jvm.Cond.methodLink "ColdWorksLaw" (40 : Nat) ({ cls := "ColdWorks", name := "start", desc := "()I" } : Jvm.MethodName) ∈ uT := List.mem_filter.mpr ⟨List.mem_cons_of_mem _ (List.mem_of_getElem? (i := 388) (by decide +kernel)), rfl⟩
theorem mw_361 : Jvm.Cond.instanceMethod ({ cls := "ColdWorks", name := "start", desc := "()I" } : Jvm.MethodName) ∈ uT := List.mem_filter.mpr ⟨List.mem_cons_of_mem _ (List.mem_of_getElem? (i := 389) (by decide +kernel)), rfl⟩
theorem mw_362 : Jvm.Cond.selects "ColdWorks" ({ cls := "ColdWorks", name := "start", desc := "()I" } : Jvm.MethodName) ({ cls := "ColdWorks", name := "start", desc := "()I" } : Jvm.MethodName) ∈ uT := List.mem_filter.mpr ⟨List.mem_cons_of_mem _ (List.mem_of_getElem? (i := 390) (by decide +kernel)), rfl⟩
theorem mw_363 : Jvm.Cond.code ({ cls := "ColdWorks", name := "start", desc := "()I" } : Jvm.MethodName) prog_1_method_8_code (1 : Nat) (Option.some Jvm.ClassFile.FieldType.int) ∈ uT := List.mem_filter.mpr ⟨List.mem_cons_of_mem _ (List.mem_of_getElem? (i := 391) (by decide +kernel)), rfl⟩
theorem mw_364 : Jvm.Cond.methodLink "ColdWorks" (139 : Nat) ({ cls := "ColdWorks$Adsorbers", name := "anyOn", desc := "()Z" } : Jvm.MethodName) ∈ uT := List.mem_filter.mpr ⟨List.mem_cons_of_mem _ (List.mem_of_getElem? (i := 392) (by decide +kernel)), rfl⟩
theorem mw_365 : Jvm.Cond.instanceMethod ({ cls := "ColdWorks$Adsorbers", name := "anyOn", desc := "()Z" } : Jvm.MethodName) ∈ uT := List.mem_filter.mpr ⟨List.mem_cons_of_mem _ (List.mem_of_getElem? (i := 393) (by decide +kernel)), rfl⟩
theorem mw_366 : Jvm.Cond.selects "ColdWorks$Adsorbers" ({ cls := "ColdWorks$Adsorbers", name := "anyOn", desc := "()Z" } : Jvm.MethodName) ({ cls := "ColdWorks$Adsorbers", name := "anyOn", desc := "()Z" } : Jvm.MethodName) ∈ uT := List.mem_filter.mpr ⟨List.mem_cons_of_mem _ (List.mem_of_getElem? (i := 394) (by decide +kernel)), rfl⟩
theorem mw_367 : Jvm.Cond.code ({ cls := "ColdWorks$Adsorbers", name := "anyOn", desc := "()Z" } : Jvm.MethodName) prog_3_method_2_code (1 : Nat) (Option.some Jvm.ClassFile.FieldType.boolean) ∈ uT := List.mem_filter.mpr ⟨List.mem_cons_of_mem _ (List.mem_of_getElem? (i := 395) (by decide +kernel)), rfl⟩
theorem mw_368 : Jvm.Cond.methodLink "ColdWorks" (143 : Nat) ({ cls := "ColdWorks$Store", name := "isFull", desc := "()Z" } : Jvm.MethodName) ∈ uT := List.mem_filter.mpr ⟨List.mem_cons_of_mem _ (List.mem_of_getElem? (i := 396) (by decide +kernel)), rfl⟩
theorem mw_369 : Jvm.Cond.instanceMethod ({ cls := "ColdWorks$Store", name := "isFull", desc := "()Z" } : Jvm.MethodName) ∈ uT := List.mem_filter.mpr ⟨List.mem_cons_of_mem _ (List.mem_of_getElem? (i := 397) (by decide +kernel)), rfl⟩
theorem mw_370 : Jvm.Cond.selects "ColdWorks$Store" ({ cls := "ColdWorks$Store", name := "isFull", desc := "()Z" } : Jvm.MethodName) ({ cls := "ColdWorks$Store", name := "isFull", desc := "()Z" } : Jvm.MethodName) ∈ uT := List.mem_filter.mpr ⟨List.mem_cons_of_mem _ (List.mem_of_getElem? (i := 398) (by decide +kernel)), rfl⟩
theorem mw_371 : Jvm.Cond.code ({ cls := "ColdWorks$Store", name := "isFull", desc := "()Z" } : Jvm.MethodName) prog_8_method_2_code (1 : Nat) (Option.some Jvm.ClassFile.FieldType.boolean) ∈ uT := List.mem_filter.mpr ⟨List.mem_cons_of_mem _ (List.mem_of_getElem? (i := 399) (by decide +kernel)), rfl⟩
theorem mw_372 : Jvm.Cond.methodLink "ColdWorks" (146 : Nat) ({ cls := "ColdWorks$Controls", name := "begin", desc := "()I" } : Jvm.MethodName) ∈ uT := List.mem_filter.mpr ⟨List.mem_cons_of_mem _ (List.mem_of_getElem? (i := 400) (by decide +kernel)), rfl⟩
theorem mw_373 : Jvm.Cond.instanceMethod ({ cls := "ColdWorks$Controls", name := "begin", desc := "()I" } : Jvm.MethodName) ∈ uT := List.mem_filter.mpr ⟨List.mem_cons_of_mem _ (List.mem_of_getElem? (i := 401) (by decide +kernel)), rfl⟩
theorem mw_374 : Jvm.Cond.selects "ColdWorks$Controls" ({ cls := "ColdWorks$Controls", name := "begin", desc := "()I" } : Jvm.MethodName) ({ cls := "ColdWorks$Controls", name := "begin", desc := "()I" } : Jvm.MethodName) ∈ uT := List.mem_filter.mpr ⟨List.mem_cons_of_mem _ (List.mem_of_getElem? (i := 402) (by decide +kernel)), rfl⟩
theorem mw_375 : Jvm.Cond.code ({ cls := "ColdWorks$Controls", name := "begin", desc := "()I" } : Jvm.MethodName) prog_5_method_3_code (1 : Nat) (Option.some Jvm.ClassFile.FieldType.int) ∈ uT := List.mem_filter.mpr ⟨List.mem_cons_of_mem _ (List.mem_of_getElem? (i := 403) (by decide +kernel)), rfl⟩
theorem mw_376 : Jvm.Cond.methodLink "ColdWorks$Controls" (31 : Nat) ({ cls := "ColdWorks$Controls", name := "enter", desc := "(I)I" } : Jvm.MethodName) ∈ uT := List.mem_filter.mpr ⟨List.mem_cons_of_mem _ (List.mem_of_getElem? (i := 404) (by decide +kernel)), rfl⟩
theorem mw_377 : Jvm.Cond.instanceMethod ({ cls := "ColdWorks$Controls", name := "enter", desc := "(I)I" } : Jvm.MethodName) ∈ uT := List.mem_filter.mpr ⟨List.mem_cons_of_mem _ (List.mem_of_getElem? (i := 405) (by decide +kernel)), rfl⟩
theorem mw_378 : Jvm.Cond.selects "ColdWorks$Controls" ({ cls := "ColdWorks$Controls", name := "enter", desc := "(I)I" } : Jvm.MethodName) ({ cls := "ColdWorks$Controls", name := "enter", desc := "(I)I" } : Jvm.MethodName) ∈ uT := List.mem_filter.mpr ⟨List.mem_cons_of_mem _ (List.mem_of_getElem? (i := 406) (by decide +kernel)), rfl⟩
theorem mw_379 : Jvm.Cond.code ({ cls := "ColdWorks$Controls", name := "enter", desc := "(I)I" } : Jvm.MethodName) prog_5_method_2_code (2 : Nat) (Option.some Jvm.ClassFile.FieldType.int) ∈ uT := List.mem_filter.mpr ⟨List.mem_cons_of_mem _ (List.mem_of_getElem? (i := 407) (by decide +kernel)), rfl⟩
theorem mw_380 : Jvm.Cond.methodLink "ColdWorksLaw" (45 : Nat) ({ cls := "ColdWorks", name := "low", desc := "()I" } : Jvm.MethodName) ∈ uT := List.mem_filter.mpr ⟨List.mem_cons_of_mem _ (List.mem_of_getElem? (i := 408) (by decide +kernel)), rfl⟩
theorem mw_381 : Jvm.Cond.instanceMethod ({ cls := "ColdWorks", name := "low", desc := "()I" } : Jvm.MethodName) ∈ uT := List.mem_filter.mpr ⟨List.mem_cons_of_mem _ (List.mem_of_getElem? (i := 409) (by decide +kernel)), rfl⟩
theorem mw_382 : Jvm.Cond.selects "ColdWorks" ({ cls := "ColdWorks", name := "low", desc := "()I" } : Jvm.MethodName) ({ cls := "ColdWorks", name := "low", desc := "()I" } : Jvm.MethodName) ∈ uT := List.mem_filter.mpr ⟨List.mem_cons_of_mem _ (List.mem_of_getElem? (i := 410) (by decide +kernel)), rfl⟩
theorem mw_383 : Jvm.Cond.code ({ cls := "ColdWorks", name := "low", desc := "()I" } : Jvm.MethodName) prog_1_method_9_code (1 : Nat) (Option.some Jvm.ClassFile.FieldType.int) ∈ uT := List.mem_filter.mpr ⟨List.mem_cons_of_mem _ (List.mem_of_getElem? (i := 411) (by decide +kernel)), rfl⟩
theorem mw_384 : Jvm.Cond.methodLink "ColdWorks" (150 : Nat) ({ cls := "ColdWorks$Controls", name := "enter", desc := "(I)I" } : Jvm.MethodName) ∈ uT := List.mem_filter.mpr ⟨List.mem_cons_of_mem _ (List.mem_of_getElem? (i := 412) (by decide +kernel)), rfl⟩
theorem mw_385 : Jvm.Cond.methodLink "ColdWorksLaw" (49 : Nat) ({ cls := "ColdWorks", name := "high", desc := "()I" } : Jvm.MethodName) ∈ uT := List.mem_filter.mpr ⟨List.mem_cons_of_mem _ (List.mem_of_getElem? (i := 413) (by decide +kernel)), rfl⟩
theorem mw_386 : Jvm.Cond.instanceMethod ({ cls := "ColdWorks", name := "high", desc := "()I" } : Jvm.MethodName) ∈ uT := List.mem_filter.mpr ⟨List.mem_cons_of_mem _ (List.mem_of_getElem? (i := 414) (by decide +kernel)), rfl⟩
theorem mw_387 : Jvm.Cond.selects "ColdWorks" ({ cls := "ColdWorks", name := "high", desc := "()I" } : Jvm.MethodName) ({ cls := "ColdWorks", name := "high", desc := "()I" } : Jvm.MethodName) ∈ uT := List.mem_filter.mpr ⟨List.mem_cons_of_mem _ (List.mem_of_getElem? (i := 415) (by decide +kernel)), rfl⟩
theorem mw_388 : Jvm.Cond.code ({ cls := "ColdWorks", name := "high", desc := "()I" } : Jvm.MethodName) prog_1_method_10_code (1 : Nat) (Option.some Jvm.ClassFile.FieldType.int) ∈ uT := List.mem_filter.mpr ⟨List.mem_cons_of_mem _ (List.mem_of_getElem? (i := 416) (by decide +kernel)), rfl⟩
theorem mw_389 : Jvm.Cond.methodLink "ColdWorksLaw" (53 : Nat) ({ cls := "ColdWorks", name := "trip", desc := "()I" } : Jvm.MethodName) ∈ uT := List.mem_filter.mpr ⟨List.mem_cons_of_mem _ (List.mem_of_getElem? (i := 417) (by decide +kernel)), rfl⟩
theorem mw_390 : Jvm.Cond.instanceMethod ({ cls := "ColdWorks", name := "trip", desc := "()I" } : Jvm.MethodName) ∈ uT := List.mem_filter.mpr ⟨List.mem_cons_of_mem _ (List.mem_of_getElem? (i := 418) (by decide +kernel)), rfl⟩
theorem mw_391 : Jvm.Cond.selects "ColdWorks" ({ cls := "ColdWorks", name := "trip", desc := "()I" } : Jvm.MethodName) ({ cls := "ColdWorks", name := "trip", desc := "()I" } : Jvm.MethodName) ∈ uT := List.mem_filter.mpr ⟨List.mem_cons_of_mem _ (List.mem_of_getElem? (i := 419) (by decide +kernel)), rfl⟩
theorem mw_392 : Jvm.Cond.code ({ cls := "ColdWorks", name := "trip", desc := "()I" } : Jvm.MethodName) prog_1_method_11_code (1 : Nat) (Option.some Jvm.ClassFile.FieldType.int) ∈ uT := List.mem_filter.mpr ⟨List.mem_cons_of_mem _ (List.mem_of_getElem? (i := 420) (by decide +kernel)), rfl⟩
theorem mw_393 : Jvm.Cond.methodLink "ColdWorks" (153 : Nat) ({ cls := "ColdWorks$Controls", name := "shutDown", desc := "()I" } : Jvm.MethodName) ∈ uT := List.mem_filter.mpr ⟨List.mem_cons_of_mem _ (List.mem_of_getElem? (i := 421) (by decide +kernel)), rfl⟩
theorem mw_394 : Jvm.Cond.instanceMethod ({ cls := "ColdWorks$Controls", name := "shutDown", desc := "()I" } : Jvm.MethodName) ∈ uT := List.mem_filter.mpr ⟨List.mem_cons_of_mem _ (List.mem_of_getElem? (i := 422) (by decide +kernel)), rfl⟩
theorem mw_395 : Jvm.Cond.selects "ColdWorks$Controls" ({ cls := "ColdWorks$Controls", name := "shutDown", desc := "()I" } : Jvm.MethodName) ({ cls := "ColdWorks$Controls", name := "shutDown", desc := "()I" } : Jvm.MethodName) ∈ uT := List.mem_filter.mpr ⟨List.mem_cons_of_mem _ (List.mem_of_getElem? (i := 423) (by decide +kernel)), rfl⟩
theorem mw_396 : Jvm.Cond.code ({ cls := "ColdWorks$Controls", name := "shutDown", desc := "()I" } : Jvm.MethodName) prog_5_method_4_code (1 : Nat) (Option.some Jvm.ClassFile.FieldType.int) ∈ uT := List.mem_filter.mpr ⟨List.mem_cons_of_mem _ (List.mem_of_getElem? (i := 424) (by decide +kernel)), rfl⟩
theorem mw_397 : Jvm.Cond.methodLink "ColdWorksLaw" (57 : Nat) ({ cls := "ColdWorks", name := "reset", desc := "()I" } : Jvm.MethodName) ∈ uT := List.mem_filter.mpr ⟨List.mem_cons_of_mem _ (List.mem_of_getElem? (i := 425) (by decide +kernel)), rfl⟩
theorem mw_398 : Jvm.Cond.instanceMethod ({ cls := "ColdWorks", name := "reset", desc := "()I" } : Jvm.MethodName) ∈ uT := List.mem_filter.mpr ⟨List.mem_cons_of_mem _ (List.mem_of_getElem? (i := 426) (by decide +kernel)), rfl⟩
theorem mw_399 : Jvm.Cond.selects "ColdWorks" ({ cls := "ColdWorks", name := "reset", desc := "()I" } : Jvm.MethodName) ({ cls := "ColdWorks", name := "reset", desc := "()I" } : Jvm.MethodName) ∈ uT := List.mem_filter.mpr ⟨List.mem_cons_of_mem _ (List.mem_of_getElem? (i := 427) (by decide +kernel)), rfl⟩
theorem mw_400 : Jvm.Cond.code ({ cls := "ColdWorks", name := "reset", desc := "()I" } : Jvm.MethodName) prog_1_method_12_code (1 : Nat) (Option.some Jvm.ClassFile.FieldType.int) ∈ uT := List.mem_filter.mpr ⟨List.mem_cons_of_mem _ (List.mem_of_getElem? (i := 428) (by decide +kernel)), rfl⟩
theorem mw_401 : Jvm.Cond.methodLink "ColdWorks" (160 : Nat) ({ cls := "ColdWorks$Controls", name := "settle", desc := "()I" } : Jvm.MethodName) ∈ uT := List.mem_filter.mpr ⟨List.mem_cons_of_mem _ (List.mem_of_getElem? (i := 429) (by decide +kernel)), rfl⟩
theorem mw_402 : Jvm.Cond.instanceMethod ({ cls := "ColdWorks$Controls", name := "settle", desc := "()I" } : Jvm.MethodName) ∈ uT := List.mem_filter.mpr ⟨List.mem_cons_of_mem _ (List.mem_of_getElem? (i := 430) (by decide +kernel)), rfl⟩
theorem mw_403 : Jvm.Cond.selects "ColdWorks$Controls" ({ cls := "ColdWorks$Controls", name := "settle", desc := "()I" } : Jvm.MethodName) ({ cls := "ColdWorks$Controls", name := "settle", desc := "()I" } : Jvm.MethodName) ∈ uT := List.mem_filter.mpr ⟨List.mem_cons_of_mem _ (List.mem_of_getElem? (i := 431) (by decide +kernel)), rfl⟩
theorem mw_404 : Jvm.Cond.code ({ cls := "ColdWorks$Controls", name := "settle", desc := "()I" } : Jvm.MethodName) prog_5_method_5_code (1 : Nat) (Option.some Jvm.ClassFile.FieldType.int) ∈ uT := List.mem_filter.mpr ⟨List.mem_cons_of_mem _ (List.mem_of_getElem? (i := 432) (by decide +kernel)), rfl⟩
theorem mw_405 : Jvm.Cond.methodLink "ColdWorksLaw" (61 : Nat) ({ cls := "ColdWorks", name := "tick", desc := "(I)I" } : Jvm.MethodName) ∈ uT := List.mem_filter.mpr ⟨List.mem_cons_of_mem _ (List.mem_of_getElem? (i := 433) (by decide +kernel)), rfl⟩
theorem mw_406 : Jvm.Cond.instanceMethod ({ cls := "ColdWorks", name := "tick", desc := "(I)I" } : Jvm.MethodName) ∈ uT := List.mem_filter.mpr ⟨List.mem_cons_of_mem _ (List.mem_of_getElem? (i := 434) (by decide +kernel)), rfl⟩
theorem mw_407 : Jvm.Cond.selects "ColdWorks" ({ cls := "ColdWorks", name := "tick", desc := "(I)I" } : Jvm.MethodName) ({ cls := "ColdWorks", name := "tick", desc := "(I)I" } : Jvm.MethodName) ∈ uT := List.mem_filter.mpr ⟨List.mem_cons_of_mem _ (List.mem_of_getElem? (i := 435) (by decide +kernel)), rfl⟩
theorem mw_408 : Jvm.Cond.code ({ cls := "ColdWorks", name := "tick", desc := "(I)I" } : Jvm.MethodName) prog_1_method_13_code (4 : Nat) (Option.some Jvm.ClassFile.FieldType.int) ∈ uT := List.mem_filter.mpr ⟨List.mem_cons_of_mem _ (List.mem_of_getElem? (i := 436) (by decide +kernel)), rfl⟩
theorem mw_409 : Jvm.Cond.methodLink "ColdWorks" (163 : Nat) ({ cls := "ColdWorks", name := "oneTick", desc := "()I" } : Jvm.MethodName) ∈ uT := List.mem_filter.mpr ⟨List.mem_cons_of_mem _ (List.mem_of_getElem? (i := 437) (by decide +kernel)), rfl⟩
theorem mw_411 : Jvm.Cond.instanceMethod ({ cls := "ColdWorks", name := "oneTick", desc := "()I" } : Jvm.MethodName) ∈ uT := List.mem_filter.mpr ⟨List.mem_cons_of_mem _ (List.mem_of_getElem? (i := 439) (by decide +kernel)), rfl⟩
theorem mw_412 : Jvm.Cond.code ({ cls := "ColdWorks", name := "oneTick", desc := "()I" } : Jvm.MethodName) prog_1_method_39_code (1 : Nat) (Option.some Jvm.ClassFile.FieldType.int) ∈ uT := List.mem_filter.mpr ⟨List.mem_cons_of_mem _ (List.mem_of_getElem? (i := 440) (by decide +kernel)), rfl⟩
theorem mw_413 : Jvm.Cond.methodLink "ColdWorks" (254 : Nat) ({ cls := "ColdWorks$Adsorbers", name := "regenerate", desc := "()V" } : Jvm.MethodName) ∈ uT := List.mem_filter.mpr ⟨List.mem_cons_of_mem _ (List.mem_of_getElem? (i := 441) (by decide +kernel)), rfl⟩
theorem mw_414 : Jvm.Cond.instanceMethod ({ cls := "ColdWorks$Adsorbers", name := "regenerate", desc := "()V" } : Jvm.MethodName) ∈ uT := List.mem_filter.mpr ⟨List.mem_cons_of_mem _ (List.mem_of_getElem? (i := 442) (by decide +kernel)), rfl⟩
theorem mw_415 : Jvm.Cond.selects "ColdWorks$Adsorbers" ({ cls := "ColdWorks$Adsorbers", name := "regenerate", desc := "()V" } : Jvm.MethodName) ({ cls := "ColdWorks$Adsorbers", name := "regenerate", desc := "()V" } : Jvm.MethodName) ∈ uT := List.mem_filter.mpr ⟨List.mem_cons_of_mem _ (List.mem_of_getElem? (i := 443) (by decide +kernel)), rfl⟩
theorem mw_416 : Jvm.Cond.code ({ cls := "ColdWorks$Adsorbers", name := "regenerate", desc := "()V" } : Jvm.MethodName) prog_3_method_3_code (1 : Nat) (Option.none : Option Jvm.ClassFile.FieldType) ∈ uT := List.mem_filter.mpr ⟨List.mem_cons_of_mem _ (List.mem_of_getElem? (i := 444) (by decide +kernel)), rfl⟩
theorem mw_417 : Jvm.Cond.methodLink "ColdWorks$Adsorbers" (33 : Nat) ({ cls := "ColdWorks$Adsorbers", name := "step", desc := "(LColdWorks$Adsorber;)V" } : Jvm.MethodName) ∈ uT := List.mem_filter.mpr ⟨List.mem_cons_of_mem _ (List.mem_of_getElem? (i := 445) (by decide +kernel)), rfl⟩
theorem mw_419 : Jvm.Cond.instanceMethod ({ cls := "ColdWorks$Adsorbers", name := "step", desc := "(LColdWorks$Adsorber;)V" } : Jvm.MethodName) ∈ uT := List.mem_filter.mpr ⟨List.mem_cons_of_mem _ (List.mem_of_getElem? (i := 447) (by decide +kernel)), rfl⟩
theorem mw_420 : Jvm.Cond.code ({ cls := "ColdWorks$Adsorbers", name := "step", desc := "(LColdWorks$Adsorber;)V" } : Jvm.MethodName) prog_3_method_4_code (2 : Nat) (Option.none : Option Jvm.ClassFile.FieldType) ∈ uT := List.mem_filter.mpr ⟨List.mem_cons_of_mem _ (List.mem_of_getElem? (i := 448) (by decide +kernel)), rfl⟩
theorem mw_421 : Jvm.Cond.methodLink "ColdWorks$Adsorbers" (37 : Nat) ({ cls := "ColdWorks$Adsorber", name := "goOn", desc := "(I)Z" } : Jvm.MethodName) ∈ uT := List.mem_filter.mpr ⟨List.mem_cons_of_mem _ (List.mem_of_getElem? (i := 449) (by decide +kernel)), rfl⟩
theorem mw_422 : Jvm.Cond.instanceMethod ({ cls := "ColdWorks$Adsorber", name := "goOn", desc := "(I)Z" } : Jvm.MethodName) ∈ uT := List.mem_filter.mpr ⟨List.mem_cons_of_mem _ (List.mem_of_getElem? (i := 450) (by decide +kernel)), rfl⟩
theorem mw_423 : Jvm.Cond.selects "ColdWorks$Adsorber" ({ cls := "ColdWorks$Adsorber", name := "goOn", desc := "(I)Z" } : Jvm.MethodName) ({ cls := "ColdWorks$Adsorber", name := "goOn", desc := "(I)Z" } : Jvm.MethodName) ∈ uT := List.mem_filter.mpr ⟨List.mem_cons_of_mem _ (List.mem_of_getElem? (i := 451) (by decide +kernel)), rfl⟩
theorem mw_424 : Jvm.Cond.code ({ cls := "ColdWorks$Adsorber", name := "goOn", desc := "(I)Z" } : Jvm.MethodName) prog_2_method_3_code (2 : Nat) (Option.some Jvm.ClassFile.FieldType.boolean) ∈ uT := List.mem_filter.mpr ⟨List.mem_cons_of_mem _ (List.mem_of_getElem? (i := 452) (by decide +kernel)), rfl⟩
theorem mw_425 : Jvm.Cond.methodLink "ColdWorks$Adsorber" (21 : Nat) ({ cls := "ColdWorks$Adsorber", name := "become", desc := "(I)V" } : Jvm.MethodName) ∈ uT := List.mem_filter.mpr ⟨List.mem_cons_of_mem _ (List.mem_of_getElem? (i := 453) (by decide +kernel)), rfl⟩
theorem mw_426 : Jvm.Cond.instanceMethod ({ cls := "ColdWorks$Adsorber", name := "become", desc := "(I)V" } : Jvm.MethodName) ∈ uT := List.mem_filter.mpr ⟨List.mem_cons_of_mem _ (List.mem_of_getElem? (i := 454) (by decide +kernel)), rfl⟩
theorem mw_427 : Jvm.Cond.selects "ColdWorks$Adsorber" ({ cls := "ColdWorks$Adsorber", name := "become", desc := "(I)V" } : Jvm.MethodName) ({ cls := "ColdWorks$Adsorber", name := "become", desc := "(I)V" } : Jvm.MethodName) ∈ uT := List.mem_filter.mpr ⟨List.mem_cons_of_mem _ (List.mem_of_getElem? (i := 455) (by decide +kernel)), rfl⟩
theorem mw_428 : Jvm.Cond.code ({ cls := "ColdWorks$Adsorber", name := "become", desc := "(I)V" } : Jvm.MethodName) prog_2_method_2_code (2 : Nat) (Option.none : Option Jvm.ClassFile.FieldType) ∈ uT := List.mem_filter.mpr ⟨List.mem_cons_of_mem _ (List.mem_of_getElem? (i := 456) (by decide +kernel)), rfl⟩
theorem mw_429 : Jvm.Cond.methodLink "ColdWorks$Adsorbers" (41 : Nat) ({ cls := "ColdWorks$Adsorbers", name := "anyOn", desc := "()Z" } : Jvm.MethodName) ∈ uT := List.mem_filter.mpr ⟨List.mem_cons_of_mem _ (List.mem_of_getElem? (i := 457) (by decide +kernel)), rfl⟩
theorem mw_430 : Jvm.Cond.methodLink "ColdWorks$Adsorbers" (45 : Nat) ({ cls := "ColdWorks$Adsorber", name := "become", desc := "(I)V" } : Jvm.MethodName) ∈ uT := List.mem_filter.mpr ⟨List.mem_cons_of_mem _ (List.mem_of_getElem? (i := 458) (by decide +kernel)), rfl⟩
theorem mw_431 : Jvm.Cond.methodLink "ColdWorks" (257 : Nat) ({ cls := "ColdWorks$Controls", name := "passTick", desc := "()Z" } : Jvm.MethodName) ∈ uT := List.mem_filter.mpr ⟨List.mem_cons_of_mem _ (List.mem_of_getElem? (i := 459) (by decide +kernel)), rfl⟩
theorem mw_432 : Jvm.Cond.instanceMethod ({ cls := "ColdWorks$Controls", name := "passTick", desc := "()Z" } : Jvm.MethodName) ∈ uT := List.mem_filter.mpr ⟨List.mem_cons_of_mem _ (List.mem_of_getElem? (i := 460) (by decide +kernel)), rfl⟩
theorem mw_433 : Jvm.Cond.selects "ColdWorks$Controls" ({ cls := "ColdWorks$Controls", name := "passTick", desc := "()Z" } : Jvm.MethodName) ({ cls := "ColdWorks$Controls", name := "passTick", desc := "()Z" } : Jvm.MethodName) ∈ uT := List.mem_filter.mpr ⟨List.mem_cons_of_mem _ (List.mem_of_getElem? (i := 461) (by decide +kernel)), rfl⟩
theorem mw_434 : Jvm.Cond.code ({ cls := "ColdWorks$Controls", name := "passTick", desc := "()Z" } : Jvm.MethodName) prog_5_method_6_code (1 : Nat) (Option.some Jvm.ClassFile.FieldType.boolean) ∈ uT := List.mem_filter.mpr ⟨List.mem_cons_of_mem _ (List.mem_of_getElem? (i := 462) (by decide +kernel)), rfl⟩
theorem mw_435 : Jvm.Cond.methodLink "ColdWorks$Controls" (35 : Nat) ({ cls := "ColdWorks$Controls", name := "moveValve", desc := "()V" } : Jvm.MethodName) ∈ uT := List.mem_filter.mpr ⟨List.mem_cons_of_mem _ (List.mem_of_getElem? (i := 463) (by decide +kernel)), rfl⟩
theorem mw_437 : Jvm.Cond.instanceMethod ({ cls := "ColdWorks$Controls", name := "moveValve", desc := "()V" } : Jvm.MethodName) ∈ uT := List.mem_filter.mpr ⟨List.mem_cons_of_mem _ (List.mem_of_getElem? (i := 465) (by decide +kernel)), rfl⟩
theorem mw_438 : Jvm.Cond.code ({ cls := "ColdWorks$Controls", name := "moveValve", desc := "()V" } : Jvm.MethodName) prog_5_method_7_code (1 : Nat) (Option.none : Option Jvm.ClassFile.FieldType) ∈ uT := List.mem_filter.mpr ⟨List.mem_cons_of_mem _ (List.mem_of_getElem? (i := 466) (by decide +kernel)), rfl⟩
theorem mw_439 : Jvm.Cond.methodLink "ColdWorks" (260 : Nat) ({ cls := "ColdWorks", name := "flow", desc := "()I" } : Jvm.MethodName) ∈ uT := List.mem_filter.mpr ⟨List.mem_cons_of_mem _ (List.mem_of_getElem? (i := 467) (by decide +kernel)), rfl⟩
theorem mw_441 : Jvm.Cond.instanceMethod ({ cls := "ColdWorks", name := "flow", desc := "()I" } : Jvm.MethodName) ∈ uT := List.mem_filter.mpr ⟨List.mem_cons_of_mem _ (List.mem_of_getElem? (i := 469) (by decide +kernel)), rfl⟩
theorem mw_442 : Jvm.Cond.code ({ cls := "ColdWorks", name := "flow", desc := "()I" } : Jvm.MethodName) prog_1_method_40_code (3 : Nat) (Option.some Jvm.ClassFile.FieldType.int) ∈ uT := List.mem_filter.mpr ⟨List.mem_cons_of_mem _ (List.mem_of_getElem? (i := 470) (by decide +kernel)), rfl⟩
theorem mw_443 : Jvm.Cond.methodLink "ColdWorks" (263 : Nat) ({ cls := "ColdWorks$Exchanger", name := "pass", desc := "(II)I" } : Jvm.MethodName) ∈ uT := List.mem_filter.mpr ⟨List.mem_cons_of_mem _ (List.mem_of_getElem? (i := 471) (by decide +kernel)), rfl⟩
theorem mw_444 : Jvm.Cond.instanceMethod ({ cls := "ColdWorks$Exchanger", name := "pass", desc := "(II)I" } : Jvm.MethodName) ∈ uT := List.mem_filter.mpr ⟨List.mem_cons_of_mem _ (List.mem_of_getElem? (i := 472) (by decide +kernel)), rfl⟩
theorem mw_445 : Jvm.Cond.selects "ColdWorks$Exchanger" ({ cls := "ColdWorks$Exchanger", name := "pass", desc := "(II)I" } : Jvm.MethodName) ({ cls := "ColdWorks$Exchanger", name := "pass", desc := "(II)I" } : Jvm.MethodName) ∈ uT := List.mem_filter.mpr ⟨List.mem_cons_of_mem _ (List.mem_of_getElem? (i := 473) (by decide +kernel)), rfl⟩
theorem mw_446 : Jvm.Cond.code ({ cls := "ColdWorks$Exchanger", name := "pass", desc := "(II)I" } : Jvm.MethodName) prog_6_method_3_code (6 : Nat) (Option.some Jvm.ClassFile.FieldType.int) ∈ uT := List.mem_filter.mpr ⟨List.mem_cons_of_mem _ (List.mem_of_getElem? (i := 474) (by decide +kernel)), rfl⟩
theorem mw_447 : Jvm.Cond.methodLink "ColdWorks$Exchanger" (48 : Nat) ({ cls := "ColdWorks$Exchanger", name := "exchange", desc := "()V" } : Jvm.MethodName) ∈ uT := List.mem_filter.mpr ⟨List.mem_cons_of_mem _ (List.mem_of_getElem? (i := 475) (by decide +kernel)), rfl⟩
theorem mw_449 : Jvm.Cond.instanceMethod ({ cls := "ColdWorks$Exchanger", name := "exchange", desc := "()V" } : Jvm.MethodName) ∈ uT := List.mem_filter.mpr ⟨List.mem_cons_of_mem _ (List.mem_of_getElem? (i := 477) (by decide +kernel)), rfl⟩
theorem mw_450 : Jvm.Cond.code ({ cls := "ColdWorks$Exchanger", name := "exchange", desc := "()V" } : Jvm.MethodName) prog_6_method_4_code (3 : Nat) (Option.none : Option Jvm.ClassFile.FieldType) ∈ uT := List.mem_filter.mpr ⟨List.mem_cons_of_mem _ (List.mem_of_getElem? (i := 478) (by decide +kernel)), rfl⟩
theorem mw_451 : Jvm.Cond.methodLink "ColdWorks$Exchanger" (51 : Nat) ({ cls := "java/lang/Math", name := "max", desc := "(II)I" } : Jvm.MethodName) ∈ uT := List.mem_filter.mpr ⟨List.mem_cons_of_mem _ (List.mem_of_getElem? (i := 479) (by decide +kernel)), rfl⟩
theorem mw_452 : Jvm.Cond.static ({ cls := "java/lang/Math", name := "max", desc := "(II)I" } : Jvm.MethodName) ∈ uT := List.mem_filter.mpr ⟨List.mem_cons_of_mem _ (List.mem_of_getElem? (i := 480) (by decide +kernel)), rfl⟩
theorem mw_453 : Jvm.Cond.code ({ cls := "java/lang/Math", name := "max", desc := "(II)I" } : Jvm.MethodName) prog_13_method_65_code (2 : Nat) (Option.some Jvm.ClassFile.FieldType.int) ∈ uT := List.mem_filter.mpr ⟨List.mem_cons_of_mem _ (List.mem_of_getElem? (i := 481) (by decide +kernel)), rfl⟩
theorem mw_454 : Jvm.Cond.methodLink "ColdWorks$Exchanger" (57 : Nat) ({ cls := "ColdWorks$Exchanger", name := "moveOn", desc := "(II)V" } : Jvm.MethodName) ∈ uT := List.mem_filter.mpr ⟨List.mem_cons_of_mem _ (List.mem_of_getElem? (i := 482) (by decide +kernel)), rfl⟩
theorem mw_456 : Jvm.Cond.instanceMethod ({ cls := "ColdWorks$Exchanger", name := "moveOn", desc := "(II)V" } : Jvm.MethodName) ∈ uT := List.mem_filter.mpr ⟨List.mem_cons_of_mem _ (List.mem_of_getElem? (i := 484) (by decide +kernel)), rfl⟩
theorem mw_457 : Jvm.Cond.code ({ cls := "ColdWorks$Exchanger", name := "moveOn", desc := "(II)V" } : Jvm.MethodName) prog_6_method_5_code (3 : Nat) (Option.none : Option Jvm.ClassFile.FieldType) ∈ uT := List.mem_filter.mpr ⟨List.mem_cons_of_mem _ (List.mem_of_getElem? (i := 485) (by decide +kernel)), rfl⟩
theorem mw_458 : Jvm.Cond.methodLink "ColdWorks$Exchanger" (63 : Nat) ({ cls := "java/lang/System", name := "arraycopy", desc := "(Ljava/lang/Object;ILjava/lang/Object;II)V" } : Jvm.MethodName) ∈ uT := List.mem_filter.mpr ⟨List.mem_cons_of_mem _ (List.mem_of_getElem? (i := 486) (by decide +kernel)), rfl⟩
theorem mw_459 : Jvm.Cond.static ({ cls := "java/lang/System", name := "arraycopy", desc := "(Ljava/lang/Object;ILjava/lang/Object;II)V" } : Jvm.MethodName) ∈ uT := List.mem_filter.mpr ⟨List.mem_cons_of_mem _ (List.mem_of_getElem? (i := 487) (by decide +kernel)), rfl⟩
theorem mw_460 : Jvm.Cond.native ({ cls := "java/lang/System", name := "arraycopy", desc := "(Ljava/lang/Object;ILjava/lang/Object;II)V" } : Jvm.MethodName) ∈ uT := List.mem_filter.mpr ⟨List.mem_cons_of_mem _ (List.mem_of_getElem? (i := 488) (by decide +kernel)), rfl⟩
theorem mw_461 : Jvm.Cond.methodLink "ColdWorks$Exchanger" (60 : Nat) ({ cls := "java/lang/Math", name := "min", desc := "(II)I" } : Jvm.MethodName) ∈ uT := List.mem_filter.mpr ⟨List.mem_cons_of_mem _ (List.mem_of_getElem? (i := 489) (by decide +kernel)), rfl⟩
theorem mw_462 : Jvm.Cond.methodLink "ColdWorks" (266 : Nat) ({ cls := "ColdWorks$Store", name := "takeIn", desc := "(I)V" } : Jvm.MethodName) ∈ uT := List.mem_filter.mpr ⟨List.mem_cons_of_mem _ (List.mem_of_getElem? (i := 490) (by decide +kernel)), rfl⟩
theorem mw_463 : Jvm.Cond.instanceMethod ({ cls := "ColdWorks$Store", name := "takeIn", desc := "(I)V" } : Jvm.MethodName) ∈ uT := List.mem_filter.mpr ⟨List.mem_cons_of_mem _ (List.mem_of_getElem? (i := 491) (by decide +kernel)), rfl⟩
theorem mw_464 : Jvm.Cond.selects "ColdWorks$Store" ({ cls := "ColdWorks$Store", name := "takeIn", desc := "(I)V" } : Jvm.MethodName) ({ cls := "ColdWorks$Store", name := "takeIn", desc := "(I)V" } : Jvm.MethodName) ∈ uT := List.mem_filter.mpr ⟨List.mem_cons_of_mem _ (List.mem_of_getElem? (i := 492) (by decide +kernel)), rfl⟩
theorem mw_465 : Jvm.Cond.code ({ cls := "ColdWorks$Store", name := "takeIn", desc := "(I)V" } : Jvm.MethodName) prog_8_method_3_code (4 : Nat) (Option.none : Option Jvm.ClassFile.FieldType) ∈ uT := List.mem_filter.mpr ⟨List.mem_cons_of_mem _ (List.mem_of_getElem? (i := 493) (by decide +kernel)), rfl⟩
theorem mw_466 : Jvm.Cond.methodLink "ColdWorks$Store" (31 : Nat) ({ cls := "java/lang/Math", name := "min", desc := "(II)I" } : Jvm.MethodName) ∈ uT := List.mem_filter.mpr ⟨List.mem_cons_of_mem _ (List.mem_of_getElem? (i := 494) (by decide +kernel)), rfl⟩
theorem mw_467 : Jvm.Cond.methodLink "ColdWorks" (270 : Nat) ({ cls := "ColdWorks$Adsorbers", name := "load", desc := "()Z" } : Jvm.MethodName) ∈ uT := List.mem_filter.mpr ⟨List.mem_cons_of_mem _ (List.mem_of_getElem? (i := 495) (by decide +kernel)), rfl⟩
theorem mw_468 : Jvm.Cond.instanceMethod ({ cls := "ColdWorks$Adsorbers", name := "load", desc := "()Z" } : Jvm.MethodName) ∈ uT := List.mem_filter.mpr ⟨List.mem_cons_of_mem _ (List.mem_of_getElem? (i := 496) (by decide +kernel)), rfl⟩
theorem mw_469 : Jvm.Cond.selects "ColdWorks$Adsorbers" ({ cls := "ColdWorks$Adsorbers", name := "load", desc := "()Z" } : Jvm.MethodName) ({ cls := "ColdWorks$Adsorbers", name := "load", desc := "()Z" } : Jvm.MethodName) ∈ uT := List.mem_filter.mpr ⟨List.mem_cons_of_mem _ (List.mem_of_getElem? (i := 497) (by decide +kernel)), rfl⟩
theorem mw_470 : Jvm.Cond.code ({ cls := "ColdWorks$Adsorbers", name := "load", desc := "()Z" } : Jvm.MethodName) prog_3_method_5_code (1 : Nat) (Option.some Jvm.ClassFile.FieldType.boolean) ∈ uT := List.mem_filter.mpr ⟨List.mem_cons_of_mem _ (List.mem_of_getElem? (i := 498) (by decide +kernel)), rfl⟩
theorem mw_471 : Jvm.Cond.methodLink "ColdWorks$Adsorbers" (48 : Nat) ({ cls := "ColdWorks$Adsorbers", name := "loadOne", desc := "(LColdWorks$Adsorber;LColdWorks$Adsorber;)Z" } : Jvm.MethodName) ∈ uT := List.mem_filter.mpr ⟨List.mem_cons_of_mem _ (List.mem_of_getElem? (i := 499) (by decide +kernel)), rfl⟩
theorem mw_473 : Jvm.Cond.instanceMethod ({ cls := "ColdWorks$Adsorbers", name := "loadOne", desc := "(LColdWorks$Adsorber;LColdWorks$Adsorber;)Z" } : Jvm.MethodName) ∈ uT := List.mem_filter.mpr ⟨List.mem_cons_of_mem _ (List.mem_of_getElem? (i := 501) (by decide +kernel)), rfl⟩
theorem mw_474 : Jvm.Cond.code ({ cls := "ColdWorks$Adsorbers", name := "loadOne", desc := "(LColdWorks$Adsorber;LColdWorks$Adsorber;)Z" } : Jvm.MethodName) prog_3_method_6_code (3 : Nat) (Option.some Jvm.ClassFile.FieldType.boolean) ∈ uT := List.mem_filter.mpr ⟨List.mem_cons_of_mem _ (List.mem_of_getElem? (i := 502) (by decide +kernel)), rfl⟩
theorem mw_475 : Jvm.Cond.methodLink "ColdWorksLaw" (66 : Nat) ({ cls := "ColdWorks", name := "adsorber", desc := "(II)I" } : Jvm.MethodName) ∈ uT := List.mem_filter.mpr ⟨List.mem_cons_of_mem _ (List.mem_of_getElem? (i := 503) (by decide +kernel)), rfl⟩
theorem mw_476 : Jvm.Cond.instanceMethod ({ cls := "ColdWorks", name := "adsorber", desc := "(II)I" } : Jvm.MethodName) ∈ uT := List.mem_filter.mpr ⟨List.mem_cons_of_mem _ (List.mem_of_getElem? (i := 504) (by decide +kernel)), rfl⟩
theorem mw_477 : Jvm.Cond.selects "ColdWorks" ({ cls := "ColdWorks", name := "adsorber", desc := "(II)I" } : Jvm.MethodName) ({ cls := "ColdWorks", name := "adsorber", desc := "(II)I" } : Jvm.MethodName) ∈ uT := List.mem_filter.mpr ⟨List.mem_cons_of_mem _ (List.mem_of_getElem? (i := 505) (by decide +kernel)), rfl⟩
theorem mw_478 : Jvm.Cond.code ({ cls := "ColdWorks", name := "adsorber", desc := "(II)I" } : Jvm.MethodName) prog_1_method_14_code (3 : Nat) (Option.some Jvm.ClassFile.FieldType.int) ∈ uT := List.mem_filter.mpr ⟨List.mem_cons_of_mem _ (List.mem_of_getElem? (i := 506) (by decide +kernel)), rfl⟩
theorem mw_479 : Jvm.Cond.methodLink "ColdWorks" (166 : Nat) ({ cls := "ColdWorks$Adsorbers", name := "tell", desc := "(II)I" } : Jvm.MethodName) ∈ uT := List.mem_filter.mpr ⟨List.mem_cons_of_mem _ (List.mem_of_getElem? (i := 507) (by decide +kernel)), rfl⟩
theorem mw_480 : Jvm.Cond.instanceMethod ({ cls := "ColdWorks$Adsorbers", name := "tell", desc := "(II)I" } : Jvm.MethodName) ∈ uT := List.mem_filter.mpr ⟨List.mem_cons_of_mem _ (List.mem_of_getElem? (i := 508) (by decide +kernel)), rfl⟩
theorem mw_481 : Jvm.Cond.selects "ColdWorks$Adsorbers" ({ cls := "ColdWorks$Adsorbers", name := "tell", desc := "(II)I" } : Jvm.MethodName) ({ cls := "ColdWorks$Adsorbers", name := "tell", desc := "(II)I" } : Jvm.MethodName) ∈ uT := List.mem_filter.mpr ⟨List.mem_cons_of_mem _ (List.mem_of_getElem? (i := 509) (by decide +kernel)), rfl⟩
theorem mw_482 : Jvm.Cond.code ({ cls := "ColdWorks$Adsorbers", name := "tell", desc := "(II)I" } : Jvm.MethodName) prog_3_method_7_code (3 : Nat) (Option.some Jvm.ClassFile.FieldType.int) ∈ uT := List.mem_filter.mpr ⟨List.mem_cons_of_mem _ (List.mem_of_getElem? (i := 510) (by decide +kernel)), rfl⟩
theorem mw_483 : Jvm.Cond.methodLink "ColdWorks$Adsorbers" (55 : Nat) ({ cls := "ColdWorks$Adsorber", name := "fact", desc := "(I)I" } : Jvm.MethodName) ∈ uT := List.mem_filter.mpr ⟨List.mem_cons_of_mem _ (List.mem_of_getElem? (i := 511) (by decide +kernel)), rfl⟩
theorem mw_484 : Jvm.Cond.instanceMethod ({ cls := "ColdWorks$Adsorber", name := "fact", desc := "(I)I" } : Jvm.MethodName) ∈ uT := List.mem_filter.mpr ⟨List.mem_cons_of_mem _ (List.mem_of_getElem? (i := 512) (by decide +kernel)), rfl⟩
theorem mw_485 : Jvm.Cond.selects "ColdWorks$Adsorber" ({ cls := "ColdWorks$Adsorber", name := "fact", desc := "(I)I" } : Jvm.MethodName) ({ cls := "ColdWorks$Adsorber", name := "fact", desc := "(I)I" } : Jvm.MethodName) ∈ uT := List.mem_filter.mpr ⟨List.mem_cons_of_mem _ (List.mem_of_getElem? (i := 513) (by decide +kernel)), rfl⟩
theorem mw_486 : Jvm.Cond.code ({ cls := "ColdWorks$Adsorber", name := "fact", desc := "(I)I" } : Jvm.MethodName) prog_2_method_4_code (2 : Nat) (Option.some Jvm.ClassFile.FieldType.int) ∈ uT := List.mem_filter.mpr ⟨List.mem_cons_of_mem _ (List.mem_of_getElem? (i := 514) (by decide +kernel)), rfl⟩
theorem mw_487 : Jvm.Cond.methodLink "ColdWorksLaw" (70 : Nat) ({ cls := "ColdWorks", name := "valve", desc := "(I)I" } : Jvm.MethodName) ∈ uT := List.mem_filter.mpr ⟨List.mem_cons_of_mem _ (List.mem_of_getElem? (i := 515) (by decide +kernel)), rfl⟩
theorem mw_488 : Jvm.Cond.instanceMethod ({ cls := "ColdWorks", name := "valve", desc := "(I)I" } : Jvm.MethodName) ∈ uT := List.mem_filter.mpr ⟨List.mem_cons_of_mem _ (List.mem_of_getElem? (i := 516) (by decide +kernel)), rfl⟩
theorem mw_489 : Jvm.Cond.selects "ColdWorks" ({ cls := "ColdWorks", name := "valve", desc := "(I)I" } : Jvm.MethodName) ({ cls := "ColdWorks", name := "valve", desc := "(I)I" } : Jvm.MethodName) ∈ uT := List.mem_filter.mpr ⟨List.mem_cons_of_mem _ (List.mem_of_getElem? (i := 517) (by decide +kernel)), rfl⟩
theorem mw_490 : Jvm.Cond.code ({ cls := "ColdWorks", name := "valve", desc := "(I)I" } : Jvm.MethodName) prog_1_method_15_code (2 : Nat) (Option.some Jvm.ClassFile.FieldType.int) ∈ uT := List.mem_filter.mpr ⟨List.mem_cons_of_mem _ (List.mem_of_getElem? (i := 518) (by decide +kernel)), rfl⟩
theorem mw_491 : Jvm.Cond.methodLink "ColdWorks" (172 : Nat) ({ cls := "ColdWorks", name := "asNumber", desc := "(Z)I" } : Jvm.MethodName) ∈ uT := List.mem_filter.mpr ⟨List.mem_cons_of_mem _ (List.mem_of_getElem? (i := 519) (by decide +kernel)), rfl⟩
theorem mw_492 : Jvm.Cond.static ({ cls := "ColdWorks", name := "asNumber", desc := "(Z)I" } : Jvm.MethodName) ∈ uT := List.mem_filter.mpr ⟨List.mem_cons_of_mem _ (List.mem_of_getElem? (i := 520) (by decide +kernel)), rfl⟩
theorem mw_493 : Jvm.Cond.code ({ cls := "ColdWorks", name := "asNumber", desc := "(Z)I" } : Jvm.MethodName) prog_1_method_27_code (1 : Nat) (Option.some Jvm.ClassFile.FieldType.int) ∈ uT := List.mem_filter.mpr ⟨List.mem_cons_of_mem _ (List.mem_of_getElem? (i := 521) (by decide +kernel)), rfl⟩
theorem mw_494 : Jvm.Cond.methodLink "ColdWorksLaw" (74 : Nat) ({ cls := "ColdWorks", name := "order", desc := "(II)I" } : Jvm.MethodName) ∈ uT := List.mem_filter.mpr ⟨List.mem_cons_of_mem _ (List.mem_of_getElem? (i := 522) (by decide +kernel)), rfl⟩
theorem mw_495 : Jvm.Cond.instanceMethod ({ cls := "ColdWorks", name := "order", desc := "(II)I" } : Jvm.MethodName) ∈ uT := List.mem_filter.mpr ⟨List.mem_cons_of_mem _ (List.mem_of_getElem? (i := 523) (by decide +kernel)), rfl⟩
theorem mw_496 : Jvm.Cond.selects "ColdWorks" ({ cls := "ColdWorks", name := "order", desc := "(II)I" } : Jvm.MethodName) ({ cls := "ColdWorks", name := "order", desc := "(II)I" } : Jvm.MethodName) ∈ uT := List.mem_filter.mpr ⟨List.mem_cons_of_mem _ (List.mem_of_getElem? (i := 524) (by decide +kernel)), rfl⟩
theorem mw_497 : Jvm.Cond.code ({ cls := "ColdWorks", name := "order", desc := "(II)I" } : Jvm.MethodName) prog_1_method_16_code (3 : Nat) (Option.some Jvm.ClassFile.FieldType.int) ∈ uT := List.mem_filter.mpr ⟨List.mem_cons_of_mem _ (List.mem_of_getElem? (i := 525) (by decide +kernel)), rfl⟩
theorem mw_498 : Jvm.Cond.methodLink "ColdWorks" (179 : Nat) ({ cls := "ColdWorks$Orders", name := "accept", desc := "(II)I" } : Jvm.MethodName) ∈ uT := List.mem_filter.mpr ⟨List.mem_cons_of_mem _ (List.mem_of_getElem? (i := 526) (by decide +kernel)), rfl⟩
theorem mw_499 : Jvm.Cond.instanceMethod ({ cls := "ColdWorks$Orders", name := "accept", desc := "(II)I" } : Jvm.MethodName) ∈ uT := List.mem_filter.mpr ⟨List.mem_cons_of_mem _ (List.mem_of_getElem? (i := 527) (by decide +kernel)), rfl⟩
theorem mw_500 : Jvm.Cond.selects "ColdWorks$Orders" ({ cls := "ColdWorks$Orders", name := "accept", desc := "(II)I" } : Jvm.MethodName) ({ cls := "ColdWorks$Orders", name := "accept", desc := "(II)I" } : Jvm.MethodName) ∈ uT := List.mem_filter.mpr ⟨List.mem_cons_of_mem _ (List.mem_of_getElem? (i := 528) (by decide +kernel)), rfl⟩
theorem mw_501 : Jvm.Cond.code ({ cls := "ColdWorks$Orders", name := "accept", desc := "(II)I" } : Jvm.MethodName) prog_7_method_2_code (3 : Nat) (Option.some Jvm.ClassFile.FieldType.int) ∈ uT := List.mem_filter.mpr ⟨List.mem_cons_of_mem _ (List.mem_of_getElem? (i := 529) (by decide +kernel)), rfl⟩
theorem mw_502 : Jvm.Cond.methodLink "ColdWorksLaw" (78 : Nat) ({ cls := "ColdWorks", name := "deliver", desc := "()I" } : Jvm.MethodName) ∈ uT := List.mem_filter.mpr ⟨List.mem_cons_of_mem _ (List.mem_of_getElem? (i := 530) (by decide +kernel)), rfl⟩
theorem mw_503 : Jvm.Cond.instanceMethod ({ cls := "ColdWorks", name := "deliver", desc := "()I" } : Jvm.MethodName) ∈ uT := List.mem_filter.mpr ⟨List.mem_cons_of_mem _ (List.mem_of_getElem? (i := 531) (by decide +kernel)), rfl⟩
theorem mw_504 : Jvm.Cond.selects "ColdWorks" ({ cls := "ColdWorks", name := "deliver", desc := "()I" } : Jvm.MethodName) ({ cls := "ColdWorks", name := "deliver", desc := "()I" } : Jvm.MethodName) ∈ uT := List.mem_filter.mpr ⟨List.mem_cons_of_mem _ (List.mem_of_getElem? (i := 532) (by decide +kernel)), rfl⟩
theorem mw_505 : Jvm.Cond.code ({ cls := "ColdWorks", name := "deliver", desc := "()I" } : Jvm.MethodName) prog_1_method_17_code (1 : Nat) (Option.some Jvm.ClassFile.FieldType.int) ∈ uT := List.mem_filter.mpr ⟨List.mem_cons_of_mem _ (List.mem_of_getElem? (i := 533) (by decide +kernel)), rfl⟩
theorem mw_506 : Jvm.Cond.methodLink "ColdWorks" (185 : Nat) ({ cls := "ColdWorks$Orders", name := "endDay", desc := "(LColdWorks$Store;)I" } : Jvm.MethodName) ∈ uT := List.mem_filter.mpr ⟨List.mem_cons_of_mem _ (List.mem_of_getElem? (i := 534) (by decide +kernel)), rfl⟩
theorem mw_507 : Jvm.Cond.instanceMethod ({ cls := "ColdWorks$Orders", name := "endDay", desc := "(LColdWorks$Store;)I" } : Jvm.MethodName) ∈ uT := List.mem_filter.mpr ⟨List.mem_cons_of_mem _ (List.mem_of_getElem? (i := 535) (by decide +kernel)), rfl⟩
theorem mw_508 : Jvm.Cond.selects "ColdWorks$Orders" ({ cls := "ColdWorks$Orders", name := "endDay", desc := "(LColdWorks$Store;)I" } : Jvm.MethodName) ({ cls := "ColdWorks$Orders", name := "endDay", desc := "(LColdWorks$Store;)I" } : Jvm.MethodName) ∈ uT := List.mem_filter.mpr ⟨List.mem_cons_of_mem _ (List.mem_of_getElem? (i := 536) (by decide +kernel)), rfl⟩
theorem mw_509 : Jvm.Cond.code ({ cls := "ColdWorks$Orders", name := "endDay", desc := "(LColdWorks$Store;)I" } : Jvm.MethodName) prog_7_method_3_code (4 : Nat) (Option.some Jvm.ClassFile.FieldType.int) ∈ uT := List.mem_filter.mpr ⟨List.mem_cons_of_mem _ (List.mem_of_getElem? (i := 537) (by decide +kernel)), rfl⟩
theorem mw_510 : Jvm.Cond.methodLink "ColdWorks$Orders" (31 : Nat) ({ cls := "ColdWorks$Orders", name := "settle", desc := "(ILColdWorks$Store;)I" } : Jvm.MethodName) ∈ uT := List.mem_filter.mpr ⟨List.mem_cons_of_mem _ (List.mem_of_getElem? (i := 538) (by decide +kernel)), rfl⟩
theorem mw_512 : Jvm.Cond.instanceMethod ({ cls := "ColdWorks$Orders", name := "settle", desc := "(ILColdWorks$Store;)I" } : Jvm.MethodName) ∈ uT := List.mem_filter.mpr ⟨List.mem_cons_of_mem _ (List.mem_of_getElem? (i := 540) (by decide +kernel)), rfl⟩
theorem mw_513 : Jvm.Cond.code ({ cls := "ColdWorks$Orders", name := "settle", desc := "(ILColdWorks$Store;)I" } : Jvm.MethodName) prog_7_method_4_code (3 : Nat) (Option.some Jvm.ClassFile.FieldType.int) ∈ uT := List.mem_filter.mpr ⟨List.mem_cons_of_mem _ (List.mem_of_getElem? (i := 541) (by decide +kernel)), rfl⟩
theorem mw_514 : Jvm.Cond.methodLink "ColdWorks$Orders" (35 : Nat) ({ cls := "ColdWorks$Store", name := "handOver", desc := "(I)Z" } : Jvm.MethodName) ∈ uT := List.mem_filter.mpr ⟨List.mem_cons_of_mem _ (List.mem_of_getElem? (i := 542) (by decide +kernel)), rfl⟩
theorem mw_515 : Jvm.Cond.instanceMethod ({ cls := "ColdWorks$Store", name := "handOver", desc := "(I)Z" } : Jvm.MethodName) ∈ uT := List.mem_filter.mpr ⟨List.mem_cons_of_mem _ (List.mem_of_getElem? (i := 543) (by decide +kernel)), rfl⟩
theorem mw_516 : Jvm.Cond.selects "ColdWorks$Store" ({ cls := "ColdWorks$Store", name := "handOver", desc := "(I)Z" } : Jvm.MethodName) ({ cls := "ColdWorks$Store", name := "handOver", desc := "(I)Z" } : Jvm.MethodName) ∈ uT := List.mem_filter.mpr ⟨List.mem_cons_of_mem _ (List.mem_of_getElem? (i := 544) (by decide +kernel)), rfl⟩
theorem mw_517 : Jvm.Cond.code ({ cls := "ColdWorks$Store", name := "handOver", desc := "(I)Z" } : Jvm.MethodName) prog_8_method_4_code (2 : Nat) (Option.some Jvm.ClassFile.FieldType.boolean) ∈ uT := List.mem_filter.mpr ⟨List.mem_cons_of_mem _ (List.mem_of_getElem? (i := 545) (by decide +kernel)), rfl⟩
theorem mw_518 : Jvm.Cond.methodLink "ColdWorksLaw" (82 : Nat) ({ cls := "ColdWorks", name := "about", desc := "(II)I" } : Jvm.MethodName) ∈ uT := List.mem_filter.mpr ⟨List.mem_cons_of_mem _ (List.mem_of_getElem? (i := 546) (by decide +kernel)), rfl⟩
theorem mw_519 : Jvm.Cond.instanceMethod ({ cls := "ColdWorks", name := "about", desc := "(II)I" } : Jvm.MethodName) ∈ uT := List.mem_filter.mpr ⟨List.mem_cons_of_mem _ (List.mem_of_getElem? (i := 547) (by decide +kernel)), rfl⟩
theorem mw_520 : Jvm.Cond.selects "ColdWorks" ({ cls := "ColdWorks", name := "about", desc := "(II)I" } : Jvm.MethodName) ({ cls := "ColdWorks", name := "about", desc := "(II)I" } : Jvm.MethodName) ∈ uT := List.mem_filter.mpr ⟨List.mem_cons_of_mem _ (List.mem_of_getElem? (i := 548) (by decide +kernel)), rfl⟩
theorem mw_521 : Jvm.Cond.code ({ cls := "ColdWorks", name := "about", desc := "(II)I" } : Jvm.MethodName) prog_1_method_18_code (3 : Nat) (Option.some Jvm.ClassFile.FieldType.int) ∈ uT := List.mem_filter.mpr ⟨List.mem_cons_of_mem _ (List.mem_of_getElem? (i := 549) (by decide +kernel)), rfl⟩
theorem mw_522 : Jvm.Cond.methodLink "ColdWorks" (189 : Nat) ({ cls := "ColdWorks$Orders", name := "tell", desc := "(II)I" } : Jvm.MethodName) ∈ uT := List.mem_filter.mpr ⟨List.mem_cons_of_mem _ (List.mem_of_getElem? (i := 550) (by decide +kernel)), rfl⟩
theorem mw_523 : Jvm.Cond.instanceMethod ({ cls := "ColdWorks$Orders", name := "tell", desc := "(II)I" } : Jvm.MethodName) ∈ uT := List.mem_filter.mpr ⟨List.mem_cons_of_mem _ (List.mem_of_getElem? (i := 551) (by decide +kernel)), rfl⟩
theorem mw_524 : Jvm.Cond.selects "ColdWorks$Orders" ({ cls := "ColdWorks$Orders", name := "tell", desc := "(II)I" } : Jvm.MethodName) ({ cls := "ColdWorks$Orders", name := "tell", desc := "(II)I" } : Jvm.MethodName) ∈ uT := List.mem_filter.mpr ⟨List.mem_cons_of_mem _ (List.mem_of_getElem? (i := 552) (by decide +kernel)), rfl⟩
theorem mw_525 : Jvm.Cond.code ({ cls := "ColdWorks$Orders", name := "tell", desc := "(II)I" } : Jvm.MethodName) prog_7_method_5_code (3 : Nat) (Option.some Jvm.ClassFile.FieldType.int) ∈ uT := List.mem_filter.mpr ⟨List.mem_cons_of_mem _ (List.mem_of_getElem? (i := 553) (by decide +kernel)), rfl⟩
theorem mw_526 : Jvm.Cond.methodLink "ColdWorksLaw" (86 : Nat) ({ cls := "ColdWorks", name := "back", desc := "(I)I" } : Jvm.MethodName) ∈ uT := List.mem_filter.mpr ⟨List.mem_cons_of_mem _ (List.mem_of_getElem? (i := 554) (by decide +kernel)), rfl⟩
theorem mw_527 : Jvm.Cond.instanceMethod ({ cls := "ColdWorks", name := "back", desc := "(I)I" } : Jvm.MethodName) ∈ uT := List.mem_filter.mpr ⟨List.mem_cons_of_mem _ (List.mem_of_getElem? (i := 555) (by decide +kernel)), rfl⟩
theorem mw_528 : Jvm.Cond.selects "ColdWorks" ({ cls := "ColdWorks", name := "back", desc := "(I)I" } : Jvm.MethodName) ({ cls := "ColdWorks", name := "back", desc := "(I)I" } : Jvm.MethodName) ∈ uT := List.mem_filter.mpr ⟨List.mem_cons_of_mem _ (List.mem_of_getElem? (i := 556) (by decide +kernel)), rfl⟩
theorem mw_529 : Jvm.Cond.code ({ cls := "ColdWorks", name := "back", desc := "(I)I" } : Jvm.MethodName) prog_1_method_19_code (2 : Nat) (Option.some Jvm.ClassFile.FieldType.int) ∈ uT := List.mem_filter.mpr ⟨List.mem_cons_of_mem _ (List.mem_of_getElem? (i := 557) (by decide +kernel)), rfl⟩
theorem mw_530 : Jvm.Cond.methodLink "ColdWorksLaw" (90 : Nat) ({ cls := "ColdWorks", name := "lose", desc := "(IZ)I" } : Jvm.MethodName) ∈ uT := List.mem_filter.mpr ⟨List.mem_cons_of_mem _ (List.mem_of_getElem? (i := 558) (by decide +kernel)), rfl⟩
theorem mw_531 : Jvm.Cond.instanceMethod ({ cls := "ColdWorks", name := "lose", desc := "(IZ)I" } : Jvm.MethodName) ∈ uT := List.mem_filter.mpr ⟨List.mem_cons_of_mem _ (List.mem_of_getElem? (i := 559) (by decide +kernel)), rfl⟩
theorem mw_532 : Jvm.Cond.selects "ColdWorks" ({ cls := "ColdWorks", name := "lose", desc := "(IZ)I" } : Jvm.MethodName) ({ cls := "ColdWorks", name := "lose", desc := "(IZ)I" } : Jvm.MethodName) ∈ uT := List.mem_filter.mpr ⟨List.mem_cons_of_mem _ (List.mem_of_getElem? (i := 560) (by decide +kernel)), rfl⟩
theorem mw_533 : Jvm.Cond.code ({ cls := "ColdWorks", name := "lose", desc := "(IZ)I" } : Jvm.MethodName) prog_1_method_20_code (4 : Nat) (Option.some Jvm.ClassFile.FieldType.int) ∈ uT := List.mem_filter.mpr ⟨List.mem_cons_of_mem _ (List.mem_of_getElem? (i := 561) (by decide +kernel)), rfl⟩
theorem mw_534 : Jvm.Cond.methodLink "ColdWorks" (199 : Nat) ({ cls := "ColdWorks", name := "isMeter", desc := "(I)Z" } : Jvm.MethodName) ∈ uT := List.mem_filter.mpr ⟨List.mem_cons_of_mem _ (List.mem_of_getElem? (i := 562) (by decide +kernel)), rfl⟩
theorem mw_535 : Jvm.Cond.static ({ cls := "ColdWorks", name := "isMeter", desc := "(I)Z" } : Jvm.MethodName) ∈ uT := List.mem_filter.mpr ⟨List.mem_cons_of_mem _ (List.mem_of_getElem? (i := 563) (by decide +kernel)), rfl⟩
theorem mw_536 : Jvm.Cond.code ({ cls := "ColdWorks", name := "isMeter", desc := "(I)Z" } : Jvm.MethodName) prog_1_method_28_code (1 : Nat) (Option.some Jvm.ClassFile.FieldType.boolean) ∈ uT := List.mem_filter.mpr ⟨List.mem_cons_of_mem _ (List.mem_of_getElem? (i := 564) (by decide +kernel)), rfl⟩
theorem mw_537 : Jvm.Cond.methodLink "ColdWorksLaw" (95 : Nat) ({ cls := "ColdWorks", name := "meter", desc := "(I)J" } : Jvm.MethodName) ∈ uT := List.mem_filter.mpr ⟨List.mem_cons_of_mem _ (List.mem_of_getElem? (i := 565) (by decide +kernel)), rfl⟩
theorem mw_538 : Jvm.Cond.instanceMethod ({ cls := "ColdWorks", name := "meter", desc := "(I)J" } : Jvm.MethodName) ∈ uT := List.mem_filter.mpr ⟨List.mem_cons_of_mem _ (List.mem_of_getElem? (i := 566) (by decide +kernel)), rfl⟩
theorem mw_539 : Jvm.Cond.selects "ColdWorks" ({ cls := "ColdWorks", name := "meter", desc := "(I)J" } : Jvm.MethodName) ({ cls := "ColdWorks", name := "meter", desc := "(I)J" } : Jvm.MethodName) ∈ uT := List.mem_filter.mpr ⟨List.mem_cons_of_mem _ (List.mem_of_getElem? (i := 567) (by decide +kernel)), rfl⟩
theorem mw_540 : Jvm.Cond.code ({ cls := "ColdWorks", name := "meter", desc := "(I)J" } : Jvm.MethodName) prog_1_method_21_code (2 : Nat) (Option.some Jvm.ClassFile.FieldType.long) ∈ uT := List.mem_filter.mpr ⟨List.mem_cons_of_mem _ (List.mem_of_getElem? (i := 568) (by decide +kernel)), rfl⟩
theorem mw_541 : Jvm.Cond.constantLong "ColdWorks" (202 : Nat) (-9 : Int64) ∈ uT := List.mem_filter.mpr ⟨List.mem_cons_of_mem _ (List.mem_of_getElem? (i := 569) (by decide +kernel)), rfl⟩
theorem mw_542 : Jvm.Cond.methodLink "ColdWorks" (204 : Nat) ({ cls := "ColdWorks$Store", name := "reading", desc := "(I)J" } : Jvm.MethodName) ∈ uT := List.mem_filter.mpr ⟨List.mem_cons_of_mem _ (List.mem_of_getElem? (i := 570) (by decide +kernel)), rfl⟩
theorem mw_543 : Jvm.Cond.instanceMethod ({ cls := "ColdWorks$Store", name := "reading", desc := "(I)J" } : Jvm.MethodName) ∈ uT := List.mem_filter.mpr ⟨List.mem_cons_of_mem _ (List.mem_of_getElem? (i := 571) (by decide +kernel)), rfl⟩
theorem mw_544 : Jvm.Cond.selects "ColdWorks$Store" ({ cls := "ColdWorks$Store", name := "reading", desc := "(I)J" } : Jvm.MethodName) ({ cls := "ColdWorks$Store", name := "reading", desc := "(I)J" } : Jvm.MethodName) ∈ uT := List.mem_filter.mpr ⟨List.mem_cons_of_mem _ (List.mem_of_getElem? (i := 572) (by decide +kernel)), rfl⟩
theorem mw_545 : Jvm.Cond.code ({ cls := "ColdWorks$Store", name := "reading", desc := "(I)J" } : Jvm.MethodName) prog_8_method_5_code (2 : Nat) (Option.some Jvm.ClassFile.FieldType.long) ∈ uT := List.mem_filter.mpr ⟨List.mem_cons_of_mem _ (List.mem_of_getElem? (i := 573) (by decide +kernel)), rfl⟩
theorem mw_546 : Jvm.Cond.methodLink "ColdWorksLaw" (99 : Nat) ({ cls := "ColdWorks", name := "balance", desc := "(I)J" } : Jvm.MethodName) ∈ uT := List.mem_filter.mpr ⟨List.mem_cons_of_mem _ (List.mem_of_getElem? (i := 574) (by decide +kernel)), rfl⟩
theorem mw_547 : Jvm.Cond.instanceMethod ({ cls := "ColdWorks", name := "balance", desc := "(I)J" } : Jvm.MethodName) ∈ uT := List.mem_filter.mpr ⟨List.mem_cons_of_mem _ (List.mem_of_getElem? (i := 575) (by decide +kernel)), rfl⟩
theorem mw_548 : Jvm.Cond.selects "ColdWorks" ({ cls := "ColdWorks", name := "balance", desc := "(I)J" } : Jvm.MethodName) ({ cls := "ColdWorks", name := "balance", desc := "(I)J" } : Jvm.MethodName) ∈ uT := List.mem_filter.mpr ⟨List.mem_cons_of_mem _ (List.mem_of_getElem? (i := 576) (by decide +kernel)), rfl⟩
theorem mw_549 : Jvm.Cond.code ({ cls := "ColdWorks", name := "balance", desc := "(I)J" } : Jvm.MethodName) prog_1_method_22_code (2 : Nat) (Option.some Jvm.ClassFile.FieldType.long) ∈ uT := List.mem_filter.mpr ⟨List.mem_cons_of_mem _ (List.mem_of_getElem? (i := 577) (by decide +kernel)), rfl⟩
theorem mw_550 : Jvm.Cond.methodLink "ColdWorks" (208 : Nat) ({ cls := "ColdWorks", name := "lostMeters", desc := "()I" } : Jvm.MethodName) ∈ uT := List.mem_filter.mpr ⟨List.mem_cons_of_mem _ (List.mem_of_getElem? (i := 578) (by decide +kernel)), rfl⟩
theorem mw_552 : Jvm.Cond.instanceMethod ({ cls := "ColdWorks", name := "lostMeters", desc := "()I" } : Jvm.MethodName) ∈ uT := List.mem_filter.mpr ⟨List.mem_cons_of_mem _ (List.mem_of_getElem? (i := 580) (by decide +kernel)), rfl⟩
theorem mw_553 : Jvm.Cond.code ({ cls := "ColdWorks", name := "lostMeters", desc := "()I" } : Jvm.MethodName) prog_1_method_41_code (3 : Nat) (Option.some Jvm.ClassFile.FieldType.int) ∈ uT := List.mem_filter.mpr ⟨List.mem_cons_of_mem _ (List.mem_of_getElem? (i := 581) (by decide +kernel)), rfl⟩
theorem mw_554 : Jvm.Cond.methodLink "ColdWorks" (211 : Nat) ({ cls := "ColdWorks", name := "toldByOthers", desc := "(I)J" } : Jvm.MethodName) ∈ uT := List.mem_filter.mpr ⟨List.mem_cons_of_mem _ (List.mem_of_getElem? (i := 582) (by decide +kernel)), rfl⟩
theorem mw_556 : Jvm.Cond.instanceMethod ({ cls := "ColdWorks", name := "toldByOthers", desc := "(I)J" } : Jvm.MethodName) ∈ uT := List.mem_filter.mpr ⟨List.mem_cons_of_mem _ (List.mem_of_getElem? (i := 584) (by decide +kernel)), rfl⟩
theorem mw_557 : Jvm.Cond.code ({ cls := "ColdWorks", name := "toldByOthers", desc := "(I)J" } : Jvm.MethodName) prog_1_method_42_code (5 : Nat) (Option.some Jvm.ClassFile.FieldType.long) ∈ uT := List.mem_filter.mpr ⟨List.mem_cons_of_mem _ (List.mem_of_getElem? (i := 585) (by decide +kernel)), rfl⟩
theorem mw_558 : Jvm.Cond.methodLink "ColdWorksLaw" (103 : Nat) ({ cls := "ColdWorks", name := "split", desc := "(IIII)I" } : Jvm.MethodName) ∈ uT := List.mem_filter.mpr ⟨List.mem_cons_of_mem _ (List.mem_of_getElem? (i := 586) (by decide +kernel)), rfl⟩
theorem mw_559 : Jvm.Cond.instanceMethod ({ cls := "ColdWorks", name := "split", desc := "(IIII)I" } : Jvm.MethodName) ∈ uT := List.mem_filter.mpr ⟨List.mem_cons_of_mem _ (List.mem_of_getElem? (i := 587) (by decide +kernel)), rfl⟩
theorem mw_560 : Jvm.Cond.selects "ColdWorks" ({ cls := "ColdWorks", name := "split", desc := "(IIII)I" } : Jvm.MethodName) ({ cls := "ColdWorks", name := "split", desc := "(IIII)I" } : Jvm.MethodName) ∈ uT := List.mem_filter.mpr ⟨List.mem_cons_of_mem _ (List.mem_of_getElem? (i := 588) (by decide +kernel)), rfl⟩
theorem mw_561 : Jvm.Cond.code ({ cls := "ColdWorks", name := "split", desc := "(IIII)I" } : Jvm.MethodName) prog_1_method_23_code (5 : Nat) (Option.some Jvm.ClassFile.FieldType.int) ∈ uT := List.mem_filter.mpr ⟨List.mem_cons_of_mem _ (List.mem_of_getElem? (i := 589) (by decide +kernel)), rfl⟩
theorem mw_562 : Jvm.Cond.methodLink "ColdWorks" (214 : Nat) ({ cls := "ColdWorks", name := "bestShare", desc := "(III)I" } : Jvm.MethodName) ∈ uT := List.mem_filter.mpr ⟨List.mem_cons_of_mem _ (List.mem_of_getElem? (i := 590) (by decide +kernel)), rfl⟩
theorem mw_563 : Jvm.Cond.static ({ cls := "ColdWorks", name := "bestShare", desc := "(III)I" } : Jvm.MethodName) ∈ uT := List.mem_filter.mpr ⟨List.mem_cons_of_mem _ (List.mem_of_getElem? (i := 591) (by decide +kernel)), rfl⟩
theorem mw_564 : Jvm.Cond.code ({ cls := "ColdWorks", name := "bestShare", desc := "(III)I" } : Jvm.MethodName) prog_1_method_35_code (7 : Nat) (Option.some Jvm.ClassFile.FieldType.int) ∈ uT := List.mem_filter.mpr ⟨List.mem_cons_of_mem _ (List.mem_of_getElem? (i := 592) (by decide +kernel)), rfl⟩
theorem mw_565 : Jvm.Cond.methodLink "ColdWorksLaw" (108 : Nat) ({ cls := "ColdWorks", name := "count", desc := "(I)I" } : Jvm.MethodName) ∈ uT := List.mem_filter.mpr ⟨List.mem_cons_of_mem _ (List.mem_of_getElem? (i := 593) (by decide +kernel)), rfl⟩
theorem mw_566 : Jvm.Cond.instanceMethod ({ cls := "ColdWorks", name := "count", desc := "(I)I" } : Jvm.MethodName) ∈ uT := List.mem_filter.mpr ⟨List.mem_cons_of_mem _ (List.mem_of_getElem? (i := 594) (by decide +kernel)), rfl⟩
theorem mw_567 : Jvm.Cond.selects "ColdWorks" ({ cls := "ColdWorks", name := "count", desc := "(I)I" } : Jvm.MethodName) ({ cls := "ColdWorks", name := "count", desc := "(I)I" } : Jvm.MethodName) ∈ uT := List.mem_filter.mpr ⟨List.mem_cons_of_mem _ (List.mem_of_getElem? (i := 595) (by decide +kernel)), rfl⟩
theorem mw_568 : Jvm.Cond.code ({ cls := "ColdWorks", name := "count", desc := "(I)I" } : Jvm.MethodName) prog_1_method_24_code (2 : Nat) (Option.some Jvm.ClassFile.FieldType.int) ∈ uT := List.mem_filter.mpr ⟨List.mem_cons_of_mem _ (List.mem_of_getElem? (i := 596) (by decide +kernel)), rfl⟩
theorem mw_569 : Jvm.Cond.methodLink "ColdWorksLaw" (112 : Nat) ({ cls := "ColdWorks", name := "trace", desc := "()J" } : Jvm.MethodName) ∈ uT := List.mem_filter.mpr ⟨List.mem_cons_of_mem _ (List.mem_of_getElem? (i := 597) (by decide +kernel)), rfl⟩
theorem mw_570 : Jvm.Cond.instanceMethod ({ cls := "ColdWorks", name := "trace", desc := "()J" } : Jvm.MethodName) ∈ uT := List.mem_filter.mpr ⟨List.mem_cons_of_mem _ (List.mem_of_getElem? (i := 598) (by decide +kernel)), rfl⟩
theorem mw_571 : Jvm.Cond.selects "ColdWorks" ({ cls := "ColdWorks", name := "trace", desc := "()J" } : Jvm.MethodName) ({ cls := "ColdWorks", name := "trace", desc := "()J" } : Jvm.MethodName) ∈ uT := List.mem_filter.mpr ⟨List.mem_cons_of_mem _ (List.mem_of_getElem? (i := 599) (by decide +kernel)), rfl⟩
theorem mw_572 : Jvm.Cond.code ({ cls := "ColdWorks", name := "trace", desc := "()J" } : Jvm.MethodName) prog_1_method_25_code (1 : Nat) (Option.some Jvm.ClassFile.FieldType.long) ∈ uT := List.mem_filter.mpr ⟨List.mem_cons_of_mem _ (List.mem_of_getElem? (i := 600) (by decide +kernel)), rfl⟩
theorem mw_573 : Jvm.Cond.classLink "ColdWorksLaw" (10 : Nat) "ColdWorksModel" ∈ uT := List.mem_filter.mpr ⟨List.mem_cons_of_mem _ (List.mem_of_getElem? (i := 601) (by decide +kernel)), rfl⟩
theorem mw_574 : Jvm.Cond.instantiable "ColdWorksModel" (34 : Nat) ∈ uT := List.mem_filter.mpr ⟨List.mem_cons_of_mem _ (List.mem_of_getElem? (i := 602) (by decide +kernel)), rfl⟩
theorem mw_575 : Jvm.Cond.methodLink "ColdWorksLaw" (12 : Nat) ({ cls := "ColdWorksModel", name := "<init>", desc := "()V" } : Jvm.MethodName) ∈ uT := List.mem_filter.mpr ⟨List.mem_cons_of_mem _ (List.mem_of_getElem? (i := 603) (by decide +kernel)), rfl⟩
theorem mw_576 : Jvm.Cond.instanceMethod ({ cls := "ColdWorksModel", name := "<init>", desc := "()V" } : Jvm.MethodName) ∈ uT := List.mem_filter.mpr ⟨List.mem_cons_of_mem _ (List.mem_of_getElem? (i := 604) (by decide +kernel)), rfl⟩
theorem mw_577 : Jvm.Cond.code ({ cls := "ColdWorksModel", name := "<init>", desc := "()V" } : Jvm.MethodName) prog_12_method_1_code (1 : Nat) (Option.none : Option Jvm.ClassFile.FieldType) ∈ uT := List.mem_filter.mpr ⟨List.mem_cons_of_mem _ (List.mem_of_getElem? (i := 605) (by decide +kernel)), rfl⟩
theorem mw_578 : Jvm.Cond.methodLink "ColdWorksModel" (1 : Nat) ({ cls := "java/lang/Object", name := "<init>", desc := "()V" } : Jvm.MethodName) ∈ uT := List.mem_filter.mpr ⟨List.mem_cons_of_mem _ (List.mem_of_getElem? (i := 606) (by decide +kernel)), rfl⟩
theorem mw_579 : Jvm.Cond.methodLink "ColdWorksModel" (61 : Nat) ({ cls := "ColdWorksModel", name := "fresh", desc := "()V" } : Jvm.MethodName) ∈ uT := List.mem_filter.mpr ⟨List.mem_cons_of_mem _ (List.mem_of_getElem? (i := 607) (by decide +kernel)), rfl⟩
theorem mw_581 : Jvm.Cond.instanceMethod ({ cls := "ColdWorksModel", name := "fresh", desc := "()V" } : Jvm.MethodName) ∈ uT := List.mem_filter.mpr ⟨List.mem_cons_of_mem _ (List.mem_of_getElem? (i := 609) (by decide +kernel)), rfl⟩
theorem mw_582 : Jvm.Cond.code ({ cls := "ColdWorksModel", name := "fresh", desc := "()V" } : Jvm.MethodName) prog_12_method_4_code (2 : Nat) (Option.none : Option Jvm.ClassFile.FieldType) ∈ uT := List.mem_filter.mpr ⟨List.mem_cons_of_mem _ (List.mem_of_getElem? (i := 610) (by decide +kernel)), rfl⟩
theorem mw_583 : Jvm.Cond.fieldLink "ColdWorksModel" (64 : Nat) "ColdWorksModel" "thrown" "I" ∈ uT := List.mem_filter.mpr ⟨List.mem_cons_of_mem _ (List.mem_of_getElem? (i := 611) (by decide +kernel)), rfl⟩
theorem mw_584 : Jvm.Cond.fieldLink "ColdWorksModel" (78 : Nat) "ColdWorksModel" "trace" "J" ∈ uT := List.mem_filter.mpr ⟨List.mem_cons_of_mem _ (List.mem_of_getElem? (i := 612) (by decide +kernel)), rfl⟩
theorem mw_585 : Jvm.Cond.fieldLink "ColdWorksModel" (67 : Nat) "ColdWorksModel" "coolers" "I" ∈ uT := List.mem_filter.mpr ⟨List.mem_cons_of_mem _ (List.mem_of_getElem? (i := 613) (by decide +kernel)), rfl⟩
theorem mw_586 : Jvm.Cond.fieldLink "ColdWorksModel" (7 : Nat) "ColdWorksModel" "kind" "[I" ∈ uT := List.mem_filter.mpr ⟨List.mem_cons_of_mem _ (List.mem_of_getElem? (i := 614) (by decide +kernel)), rfl⟩
theorem mw_587 : Jvm.Cond.fieldLink "ColdWorksModel" (13 : Nat) "ColdWorksModel" "corners" "[I" ∈ uT := List.mem_filter.mpr ⟨List.mem_cons_of_mem _ (List.mem_of_getElem? (i := 615) (by decide +kernel)), rfl⟩
theorem mw_588 : Jvm.Cond.fieldLink "ColdWorksModel" (16 : Nat) "ColdWorksModel" "limits" "[I" ∈ uT := List.mem_filter.mpr ⟨List.mem_cons_of_mem _ (List.mem_of_getElem? (i := 616) (by decide +kernel)), rfl⟩
theorem mw_589 : Jvm.Cond.fieldLink "ColdWorksModel" (19 : Nat) "ColdWorksModel" "cells" "I" ∈ uT := List.mem_filter.mpr ⟨List.mem_cons_of_mem _ (List.mem_of_getElem? (i := 617) (by decide +kernel)), rfl⟩
theorem mw_590 : Jvm.Cond.fieldLink "ColdWorksModel" (23 : Nat) "ColdWorksModel" "warm" "[I" ∈ uT := List.mem_filter.mpr ⟨List.mem_cons_of_mem _ (List.mem_of_getElem? (i := 618) (by decide +kernel)), rfl⟩
theorem mw_591 : Jvm.Cond.fieldLink "ColdWorksModel" (26 : Nat) "ColdWorksModel" "cold" "[I" ∈ uT := List.mem_filter.mpr ⟨List.mem_cons_of_mem _ (List.mem_of_getElem? (i := 619) (by decide +kernel)), rfl⟩
theorem mw_592 : Jvm.Cond.fieldLink "ColdWorksModel" (29 : Nat) "ColdWorksModel" "pass" "I" ∈ uT := List.mem_filter.mpr ⟨List.mem_cons_of_mem _ (List.mem_of_getElem? (i := 620) (by decide +kernel)), rfl⟩
theorem mw_593 : Jvm.Cond.fieldLink "ColdWorksModel" (32 : Nat) "ColdWorksModel" "rules" "[I" ∈ uT := List.mem_filter.mpr ⟨List.mem_cons_of_mem _ (List.mem_of_getElem? (i := 621) (by decide +kernel)), rfl⟩
theorem mw_594 : Jvm.Cond.fieldLink "ColdWorksModel" (35 : Nat) "ColdWorksModel" "heats" "[J" ∈ uT := List.mem_filter.mpr ⟨List.mem_cons_of_mem _ (List.mem_of_getElem? (i := 622) (by decide +kernel)), rfl⟩
theorem mw_595 : Jvm.Cond.fieldLink "ColdWorksModel" (90 : Nat) "ColdWorksModel" "state" "I" ∈ uT := List.mem_filter.mpr ⟨List.mem_cons_of_mem _ (List.mem_of_getElem? (i := 623) (by decide +kernel)), rfl⟩
theorem mw_596 : Jvm.Cond.fieldLink "ColdWorksModel" (98 : Nat) "ColdWorksModel" "since" "I" ∈ uT := List.mem_filter.mpr ⟨List.mem_cons_of_mem _ (List.mem_of_getElem? (i := 624) (by decide +kernel)), rfl⟩
theorem mw_597 : Jvm.Cond.fieldLink "ColdWorksModel" (104 : Nat) "ColdWorksModel" "hasFeed" "Z" ∈ uT := List.mem_filter.mpr ⟨List.mem_cons_of_mem _ (List.mem_of_getElem? (i := 625) (by decide +kernel)), rfl⟩
theorem mw_598 : Jvm.Cond.fieldLink "ColdWorksModel" (108 : Nat) "ColdWorksModel" "hasPress" "Z" ∈ uT := List.mem_filter.mpr ⟨List.mem_cons_of_mem _ (List.mem_of_getElem? (i := 626) (by decide +kernel)), rfl⟩
theorem mw_599 : Jvm.Cond.fieldLink "ColdWorksModel" (113 : Nat) "ColdWorksModel" "hasVent" "Z" ∈ uT := List.mem_filter.mpr ⟨List.mem_cons_of_mem _ (List.mem_of_getElem? (i := 627) (by decide +kernel)), rfl⟩
theorem mw_600 : Jvm.Cond.fieldLink "ColdWorksModel" (93 : Nat) "ColdWorksModel" "tank" "I" ∈ uT := List.mem_filter.mpr ⟨List.mem_cons_of_mem _ (List.mem_of_getElem? (i := 628) (by decide +kernel)), rfl⟩
theorem mw_601 : Jvm.Cond.fieldLink "ColdWorksModel" (119 : Nat) "ColdWorksModel" "bag" "I" ∈ uT := List.mem_filter.mpr ⟨List.mem_cons_of_mem _ (List.mem_of_getElem? (i := 629) (by decide +kernel)), rfl⟩
theorem mw_602 : Jvm.Cond.fieldLink "ColdWorksModel" (116 : Nat) "ColdWorksModel" "made" "J" ∈ uT := List.mem_filter.mpr ⟨List.mem_cons_of_mem _ (List.mem_of_getElem? (i := 630) (by decide +kernel)), rfl⟩
theorem mw_603 : Jvm.Cond.fieldLink "ColdWorksModel" (151 : Nat) "ColdWorksModel" "delivered" "J" ∈ uT := List.mem_filter.mpr ⟨List.mem_cons_of_mem _ (List.mem_of_getElem? (i := 631) (by decide +kernel)), rfl⟩
theorem mw_604 : Jvm.Cond.fieldLink "ColdWorksModel" (122 : Nat) "ColdWorksModel" "blown" "J" ∈ uT := List.mem_filter.mpr ⟨List.mem_cons_of_mem _ (List.mem_of_getElem? (i := 632) (by decide +kernel)), rfl⟩
theorem mw_605 : Jvm.Cond.fieldLink "ColdWorksModel" (39 : Nat) "ColdWorksModel" "how" "[I" ∈ uT := List.mem_filter.mpr ⟨List.mem_cons_of_mem _ (List.mem_of_getElem? (i := 633) (by decide +kernel)), rfl⟩
theorem mw_606 : Jvm.Cond.fieldLink "ColdWorksModel" (42 : Nat) "ColdWorksModel" "load" "[I" ∈ uT := List.mem_filter.mpr ⟨List.mem_cons_of_mem _ (List.mem_of_getElem? (i := 634) (by decide +kernel)), rfl⟩
theorem mw_607 : Jvm.Cond.fieldLink "ColdWorksModel" (45 : Nat) "ColdWorksModel" "ticked" "[I" ∈ uT := List.mem_filter.mpr ⟨List.mem_cons_of_mem _ (List.mem_of_getElem? (i := 635) (by decide +kernel)), rfl⟩
theorem mw_608 : Jvm.Cond.fieldLink "ColdWorksModel" (145 : Nat) "ColdWorksModel" "orders" "I" ∈ uT := List.mem_filter.mpr ⟨List.mem_cons_of_mem _ (List.mem_of_getElem? (i := 636) (by decide +kernel)), rfl⟩
theorem mw_609 : Jvm.Cond.fieldLink "ColdWorksModel" (48 : Nat) "ColdWorksModel" "wanted" "[I" ∈ uT := List.mem_filter.mpr ⟨List.mem_cons_of_mem _ (List.mem_of_getElem? (i := 637) (by decide +kernel)), rfl⟩
theorem mw_610 : Jvm.Cond.fieldLink "ColdWorksModel" (51 : Nat) "ColdWorksModel" "dayOf" "[I" ∈ uT := List.mem_filter.mpr ⟨List.mem_cons_of_mem _ (List.mem_of_getElem? (i := 638) (by decide +kernel)), rfl⟩
theorem mw_611 : Jvm.Cond.fieldLink "ColdWorksModel" (54 : Nat) "ColdWorksModel" "became" "[I" ∈ uT := List.mem_filter.mpr ⟨List.mem_cons_of_mem _ (List.mem_of_getElem? (i := 639) (by decide +kernel)), rfl⟩
theorem mw_612 : Jvm.Cond.fieldLink "ColdWorksModel" (148 : Nat) "ColdWorksModel" "day" "I" ∈ uT := List.mem_filter.mpr ⟨List.mem_cons_of_mem _ (List.mem_of_getElem? (i := 640) (by decide +kernel)), rfl⟩
theorem mw_613 : Jvm.Cond.fieldLink "ColdWorksModel" (154 : Nat) "ColdWorksModel" "missed" "I" ∈ uT := List.mem_filter.mpr ⟨List.mem_cons_of_mem _ (List.mem_of_getElem? (i := 641) (by decide +kernel)), rfl⟩
theorem mw_614 : Jvm.Cond.fieldLink "ColdWorksModel" (125 : Nat) "ColdWorksModel" "ticks" "I" ∈ uT := List.mem_filter.mpr ⟨List.mem_cons_of_mem _ (List.mem_of_getElem? (i := 642) (by decide +kernel)), rfl⟩
theorem mw_615 : Jvm.Cond.fieldLink "ColdWorksModel" (101 : Nat) "ColdWorksModel" "trips" "I" ∈ uT := List.mem_filter.mpr ⟨List.mem_cons_of_mem _ (List.mem_of_getElem? (i := 643) (by decide +kernel)), rfl⟩
theorem mw_616 : Jvm.Cond.fieldLink "ColdWorksModel" (57 : Nat) "ColdWorksModel" "isLost" "[Z" ∈ uT := List.mem_filter.mpr ⟨List.mem_cons_of_mem _ (List.mem_of_getElem? (i := 644) (by decide +kernel)), rfl⟩
theorem mw_617 : Jvm.Cond.lays "ColdWorksModel" "ColdWorksModel" "thrown" "I" ∈ uT := List.mem_filter.mpr ⟨List.mem_cons_of_mem _ (List.mem_of_getElem? (i := 645) (by decide +kernel)), rfl⟩
theorem mw_619 : Jvm.Cond.lays "ColdWorksModel" "ColdWorksModel" "trace" "J" ∈ uT := List.mem_filter.mpr ⟨List.mem_cons_of_mem _ (List.mem_of_getElem? (i := 647) (by decide +kernel)), rfl⟩
theorem mw_621 : Jvm.Cond.lays "ColdWorksModel" "ColdWorksModel" "coolers" "I" ∈ uT := List.mem_filter.mpr ⟨List.mem_cons_of_mem _ (List.mem_of_getElem? (i := 649) (by decide +kernel)), rfl⟩
theorem mw_623 : Jvm.Cond.laysFinal "ColdWorksModel" "ColdWorksModel" "kind" "[I" ∈ uT := List.mem_filter.mpr ⟨List.mem_cons_of_mem _ (List.mem_of_getElem? (i := 651) (by decide +kernel)), rfl⟩
theorem mw_625 : Jvm.Cond.laysFinal "ColdWorksModel" "ColdWorksModel" "corners" "[I" ∈ uT := List.mem_filter.mpr ⟨List.mem_cons_of_mem _ (List.mem_of_getElem? (i := 653) (by decide +kernel)), rfl⟩
theorem mw_627 : Jvm.Cond.laysFinal "ColdWorksModel" "ColdWorksModel" "limits" "[I" ∈ uT := List.mem_filter.mpr ⟨List.mem_cons_of_mem _ (List.mem_of_getElem? (i := 655) (by decide +kernel)), rfl⟩
theorem mw_629 : Jvm.Cond.lays "ColdWorksModel" "ColdWorksModel" "cells" "I" ∈ uT := List.mem_filter.mpr ⟨List.mem_cons_of_mem _ (List.mem_of_getElem? (i := 657) (by decide +kernel)), rfl⟩
theorem mw_631 : Jvm.Cond.laysFinal "ColdWorksModel" "ColdWorksModel" "warm" "[I" ∈ uT := List.mem_filter.mpr ⟨List.mem_cons_of_mem _ (List.mem_of_getElem? (i := 659) (by decide +kernel)), rfl⟩
theorem mw_633 : Jvm.Cond.laysFinal "ColdWorksModel" "ColdWorksModel" "cold" "[I" ∈ uT := List.mem_filter.mpr ⟨List.mem_cons_of_mem _ (List.mem_of_getElem? (i := 661) (by decide +kernel)), rfl⟩
theorem mw_635 : Jvm.Cond.lays "ColdWorksModel" "ColdWorksModel" "pass" "I" ∈ uT := List.mem_filter.mpr ⟨List.mem_cons_of_mem _ (List.mem_of_getElem? (i := 663) (by decide +kernel)), rfl⟩
theorem mw_637 : Jvm.Cond.laysFinal "ColdWorksModel" "ColdWorksModel" "rules" "[I" ∈ uT := List.mem_filter.mpr ⟨List.mem_cons_of_mem _ (List.mem_of_getElem? (i := 665) (by decide +kernel)), rfl⟩
theorem mw_639 : Jvm.Cond.laysFinal "ColdWorksModel" "ColdWorksModel" "heats" "[J" ∈ uT := List.mem_filter.mpr ⟨List.mem_cons_of_mem _ (List.mem_of_getElem? (i := 667) (by decide +kernel)), rfl⟩
theorem mw_641 : Jvm.Cond.lays "ColdWorksModel" "ColdWorksModel" "state" "I" ∈ uT := List.mem_filter.mpr ⟨List.mem_cons_of_mem _ (List.mem_of_getElem? (i := 669) (by decide +kernel)), rfl⟩
theorem mw_643 : Jvm.Cond.lays "ColdWorksModel" "ColdWorksModel" "since" "I" ∈ uT := List.mem_filter.mpr ⟨List.mem_cons_of_mem _ (List.mem_of_getElem? (i := 671) (by decide +kernel)), rfl⟩
theorem mw_645 : Jvm.Cond.lays "ColdWorksModel" "ColdWorksModel" "hasFeed" "Z" ∈ uT := List.mem_filter.mpr ⟨List.mem_cons_of_mem _ (List.mem_of_getElem? (i := 673) (by decide +kernel)), rfl⟩
theorem mw_647 : Jvm.Cond.lays "ColdWorksModel" "ColdWorksModel" "hasPress" "Z" ∈ uT := List.mem_filter.mpr ⟨List.mem_cons_of_mem _ (List.mem_of_getElem? (i := 675) (by decide +kernel)), rfl⟩
theorem mw_649 : Jvm.Cond.lays "ColdWorksModel" "ColdWorksModel" "hasVent" "Z" ∈ uT := List.mem_filter.mpr ⟨List.mem_cons_of_mem _ (List.mem_of_getElem? (i := 677) (by decide +kernel)), rfl⟩
theorem mw_651 : Jvm.Cond.lays "ColdWorksModel" "ColdWorksModel" "tank" "I" ∈ uT := List.mem_filter.mpr ⟨List.mem_cons_of_mem _ (List.mem_of_getElem? (i := 679) (by decide +kernel)), rfl⟩
theorem mw_653 : Jvm.Cond.lays "ColdWorksModel" "ColdWorksModel" "bag" "I" ∈ uT := List.mem_filter.mpr ⟨List.mem_cons_of_mem _ (List.mem_of_getElem? (i := 681) (by decide +kernel)), rfl⟩
theorem mw_655 : Jvm.Cond.lays "ColdWorksModel" "ColdWorksModel" "made" "J" ∈ uT := List.mem_filter.mpr ⟨List.mem_cons_of_mem _ (List.mem_of_getElem? (i := 683) (by decide +kernel)), rfl⟩
theorem mw_657 : Jvm.Cond.lays "ColdWorksModel" "ColdWorksModel" "delivered" "J" ∈ uT := List.mem_filter.mpr ⟨List.mem_cons_of_mem _ (List.mem_of_getElem? (i := 685) (by decide +kernel)), rfl⟩
theorem mw_659 : Jvm.Cond.lays "ColdWorksModel" "ColdWorksModel" "blown" "J" ∈ uT := List.mem_filter.mpr ⟨List.mem_cons_of_mem _ (List.mem_of_getElem? (i := 687) (by decide +kernel)), rfl⟩
theorem mw_661 : Jvm.Cond.laysFinal "ColdWorksModel" "ColdWorksModel" "how" "[I" ∈ uT := List.mem_filter.mpr ⟨List.mem_cons_of_mem _ (List.mem_of_getElem? (i := 689) (by decide +kernel)), rfl⟩
theorem mw_663 : Jvm.Cond.laysFinal "ColdWorksModel" "ColdWorksModel" "load" "[I" ∈ uT := List.mem_filter.mpr ⟨List.mem_cons_of_mem _ (List.mem_of_getElem? (i := 691) (by decide +kernel)), rfl⟩
theorem mw_665 : Jvm.Cond.laysFinal "ColdWorksModel" "ColdWorksModel" "ticked" "[I" ∈ uT := List.mem_filter.mpr ⟨List.mem_cons_of_mem _ (List.mem_of_getElem? (i := 693) (by decide +kernel)), rfl⟩
theorem mw_667 : Jvm.Cond.lays "ColdWorksModel" "ColdWorksModel" "orders" "I" ∈ uT := List.mem_filter.mpr ⟨List.mem_cons_of_mem _ (List.mem_of_getElem? (i := 695) (by decide +kernel)), rfl⟩
theorem mw_669 : Jvm.Cond.laysFinal "ColdWorksModel" "ColdWorksModel" "wanted" "[I" ∈ uT := List.mem_filter.mpr ⟨List.mem_cons_of_mem _ (List.mem_of_getElem? (i := 697) (by decide +kernel)), rfl⟩
theorem mw_671 : Jvm.Cond.laysFinal "ColdWorksModel" "ColdWorksModel" "dayOf" "[I" ∈ uT := List.mem_filter.mpr ⟨List.mem_cons_of_mem _ (List.mem_of_getElem? (i := 699) (by decide +kernel)), rfl⟩
theorem mw_673 : Jvm.Cond.laysFinal "ColdWorksModel" "ColdWorksModel" "became" "[I" ∈ uT := List.mem_filter.mpr ⟨List.mem_cons_of_mem _ (List.mem_of_getElem? (i := 701) (by decide +kernel)), rfl⟩
theorem mw_675 : Jvm.Cond.lays "ColdWorksModel" "ColdWorksModel" "day" "I" ∈ uT := List.mem_filter.mpr ⟨List.mem_cons_of_mem _ (List.mem_of_getElem? (i := 703) (by decide +kernel)), rfl⟩
theorem mw_677 : Jvm.Cond.lays "ColdWorksModel" "ColdWorksModel" "missed" "I" ∈ uT := List.mem_filter.mpr ⟨List.mem_cons_of_mem _ (List.mem_of_getElem? (i := 705) (by decide +kernel)), rfl⟩
theorem mw_679 : Jvm.Cond.lays "ColdWorksModel" "ColdWorksModel" "ticks" "I" ∈ uT := List.mem_filter.mpr ⟨List.mem_cons_of_mem _ (List.mem_of_getElem? (i := 707) (by decide +kernel)), rfl⟩
theorem mw_681 : Jvm.Cond.lays "ColdWorksModel" "ColdWorksModel" "trips" "I" ∈ uT := List.mem_filter.mpr ⟨List.mem_cons_of_mem _ (List.mem_of_getElem? (i := 709) (by decide +kernel)), rfl⟩
theorem mw_683 : Jvm.Cond.laysFinal "ColdWorksModel" "ColdWorksModel" "isLost" "[Z" ∈ uT := List.mem_filter.mpr ⟨List.mem_cons_of_mem _ (List.mem_of_getElem? (i := 711) (by decide +kernel)), rfl⟩
theorem mw_685 : Jvm.Cond.superclass "ColdWorksModel" "java/lang/Object" ∈ uT := List.mem_filter.mpr ⟨List.mem_cons_of_mem _ (List.mem_of_getElem? (i := 713) (by decide +kernel)), rfl⟩
theorem mw_686 : Jvm.Cond.arrayClass Jvm.ClassFile.FieldType.long ∈ uT := List.mem_filter.mpr ⟨List.mem_cons_of_mem _ (List.mem_of_getElem? (i := 714) (by decide +kernel)), rfl⟩
theorem mw_687 : Jvm.Cond.methodLink "ColdWorksLaw" (17 : Nat) ({ cls := "ColdWorksModel", name := "cooler", desc := "(IIIIIII)I" } : Jvm.MethodName) ∈ uT := List.mem_filter.mpr ⟨List.mem_cons_of_mem _ (List.mem_of_getElem? (i := 715) (by decide +kernel)), rfl⟩
theorem mw_688 : Jvm.Cond.instanceMethod ({ cls := "ColdWorksModel", name := "cooler", desc := "(IIIIIII)I" } : Jvm.MethodName) ∈ uT := List.mem_filter.mpr ⟨List.mem_cons_of_mem _ (List.mem_of_getElem? (i := 716) (by decide +kernel)), rfl⟩
theorem mw_689 : Jvm.Cond.selects "ColdWorksModel" ({ cls := "ColdWorksModel", name := "cooler", desc := "(IIIIIII)I" } : Jvm.MethodName) ({ cls := "ColdWorksModel", name := "cooler", desc := "(IIIIIII)I" } : Jvm.MethodName) ∈ uT := List.mem_filter.mpr ⟨List.mem_cons_of_mem _ (List.mem_of_getElem? (i := 717) (by decide +kernel)), rfl⟩
theorem mw_690 : Jvm.Cond.code ({ cls := "ColdWorksModel", name := "cooler", desc := "(IIIIIII)I" } : Jvm.MethodName) prog_12_method_6_code (9 : Nat) (Option.some Jvm.ClassFile.FieldType.int) ∈ uT := List.mem_filter.mpr ⟨List.mem_cons_of_mem _ (List.mem_of_getElem? (i := 718) (by decide +kernel)), rfl⟩
theorem mw_691 : Jvm.Cond.methodLink "ColdWorksModel" (70 : Nat) ({ cls := "ColdWorksModel", name := "in", desc := "(III)Z" } : Jvm.MethodName) ∈ uT := List.mem_filter.mpr ⟨List.mem_cons_of_mem _ (List.mem_of_getElem? (i := 719) (by decide +kernel)), rfl⟩
theorem mw_692 : Jvm.Cond.static ({ cls := "ColdWorksModel", name := "in", desc := "(III)Z" } : Jvm.MethodName) ∈ uT := List.mem_filter.mpr ⟨List.mem_cons_of_mem _ (List.mem_of_getElem? (i := 720) (by decide +kernel)), rfl⟩
theorem mw_693 : Jvm.Cond.code ({ cls := "ColdWorksModel", name := "in", desc := "(III)Z" } : Jvm.MethodName) prog_12_method_3_code (3 : Nat) (Option.some Jvm.ClassFile.FieldType.boolean) ∈ uT := List.mem_filter.mpr ⟨List.mem_cons_of_mem _ (List.mem_of_getElem? (i := 721) (by decide +kernel)), rfl⟩
theorem mw_694 : Jvm.Cond.methodLink "ColdWorksLaw" (22 : Nat) ({ cls := "ColdWorksModel", name := "cold", desc := "(II)I" } : Jvm.MethodName) ∈ uT := List.mem_filter.mpr ⟨List.mem_cons_of_mem _ (List.mem_of_getElem? (i := 722) (by decide +kernel)), rfl⟩
theorem mw_695 : Jvm.Cond.instanceMethod ({ cls := "ColdWorksModel", name := "cold", desc := "(II)I" } : Jvm.MethodName) ∈ uT := List.mem_filter.mpr ⟨List.mem_cons_of_mem _ (List.mem_of_getElem? (i := 723) (by decide +kernel)), rfl⟩
theorem mw_696 : Jvm.Cond.selects "ColdWorksModel" ({ cls := "ColdWorksModel", name := "cold", desc := "(II)I" } : Jvm.MethodName) ({ cls := "ColdWorksModel", name := "cold", desc := "(II)I" } : Jvm.MethodName) ∈ uT := List.mem_filter.mpr ⟨List.mem_cons_of_mem _ (List.mem_of_getElem? (i := 724) (by decide +kernel)), rfl⟩
theorem mw_697 : Jvm.Cond.code ({ cls := "ColdWorksModel", name := "cold", desc := "(II)I" } : Jvm.MethodName) prog_12_method_8_code (3 : Nat) (Option.some Jvm.ClassFile.FieldType.int) ∈ uT := List.mem_filter.mpr ⟨List.mem_cons_of_mem _ (List.mem_of_getElem? (i := 725) (by decide +kernel)), rfl⟩
theorem mw_698 : Jvm.Cond.methodLink "ColdWorksModel" (74 : Nat) ({ cls := "ColdWorksModel", name := "isCooler", desc := "(I)Z" } : Jvm.MethodName) ∈ uT := List.mem_filter.mpr ⟨List.mem_cons_of_mem _ (List.mem_of_getElem? (i := 726) (by decide +kernel)), rfl⟩
theorem mw_700 : Jvm.Cond.instanceMethod ({ cls := "ColdWorksModel", name := "isCooler", desc := "(I)Z" } : Jvm.MethodName) ∈ uT := List.mem_filter.mpr ⟨List.mem_cons_of_mem _ (List.mem_of_getElem? (i := 728) (by decide +kernel)), rfl⟩
theorem mw_701 : Jvm.Cond.code ({ cls := "ColdWorksModel", name := "isCooler", desc := "(I)Z" } : Jvm.MethodName) prog_12_method_5_code (2 : Nat) (Option.some Jvm.ClassFile.FieldType.boolean) ∈ uT := List.mem_filter.mpr ⟨List.mem_cons_of_mem _ (List.mem_of_getElem? (i := 729) (by decide +kernel)), rfl⟩
theorem mw_702 : Jvm.Cond.constantLong "ColdWorksModel" (82 : Nat) (11 : Int64) ∈ uT := List.mem_filter.mpr ⟨List.mem_cons_of_mem _ (List.mem_of_getElem? (i := 730) (by decide +kernel)), rfl⟩
theorem mw_703 : Jvm.Cond.constantLong "ColdWorksModel" (84 : Nat) (111 : Int64) ∈ uT := List.mem_filter.mpr ⟨List.mem_cons_of_mem _ (List.mem_of_getElem? (i := 731) (by decide +kernel)), rfl⟩
theorem mw_704 : Jvm.Cond.methodLink "ColdWorksModel" (86 : Nat) ({ cls := "ColdWorksModel", name := "coldOf", desc := "(II)I" } : Jvm.MethodName) ∈ uT := List.mem_filter.mpr ⟨List.mem_cons_of_mem _ (List.mem_of_getElem? (i := 732) (by decide +kernel)), rfl⟩
theorem mw_706 : Jvm.Cond.instanceMethod ({ cls := "ColdWorksModel", name := "coldOf", desc := "(II)I" } : Jvm.MethodName) ∈ uT := List.mem_filter.mpr ⟨List.mem_cons_of_mem _ (List.mem_of_getElem? (i := 734) (by decide +kernel)), rfl⟩
theorem mw_707 : Jvm.Cond.code ({ cls := "ColdWorksModel", name := "coldOf", desc := "(II)I" } : Jvm.MethodName) prog_12_method_7_code (7 : Nat) (Option.some Jvm.ClassFile.FieldType.int) ∈ uT := List.mem_filter.mpr ⟨List.mem_cons_of_mem _ (List.mem_of_getElem? (i := 735) (by decide +kernel)), rfl⟩
theorem mw_708 : Jvm.Cond.methodLink "ColdWorksLaw" (26 : Nat) ({ cls := "ColdWorksModel", name := "cells", desc := "(II)I" } : Jvm.MethodName) ∈ uT := List.mem_filter.mpr ⟨List.mem_cons_of_mem _ (List.mem_of_getElem? (i := 736) (by decide +kernel)), rfl⟩
theorem mw_709 : Jvm.Cond.instanceMethod ({ cls := "ColdWorksModel", name := "cells", desc := "(II)I" } : Jvm.MethodName) ∈ uT := List.mem_filter.mpr ⟨List.mem_cons_of_mem _ (List.mem_of_getElem? (i := 737) (by decide +kernel)), rfl⟩
theorem mw_710 : Jvm.Cond.selects "ColdWorksModel" ({ cls := "ColdWorksModel", name := "cells", desc := "(II)I" } : Jvm.MethodName) ({ cls := "ColdWorksModel", name := "cells", desc := "(II)I" } : Jvm.MethodName) ∈ uT := List.mem_filter.mpr ⟨List.mem_cons_of_mem _ (List.mem_of_getElem? (i := 738) (by decide +kernel)), rfl⟩
theorem mw_711 : Jvm.Cond.code ({ cls := "ColdWorksModel", name := "cells", desc := "(II)I" } : Jvm.MethodName) prog_12_method_9_code (3 : Nat) (Option.some Jvm.ClassFile.FieldType.int) ∈ uT := List.mem_filter.mpr ⟨List.mem_cons_of_mem _ (List.mem_of_getElem? (i := 739) (by decide +kernel)), rfl⟩
theorem mw_712 : Jvm.Cond.methodLink "ColdWorksLaw" (30 : Nat) ({ cls := "ColdWorksModel", name := "set", desc := "(II)I" } : Jvm.MethodName) ∈ uT := List.mem_filter.mpr ⟨List.mem_cons_of_mem _ (List.mem_of_getElem? (i := 740) (by decide +kernel)), rfl⟩
theorem mw_713 : Jvm.Cond.instanceMethod ({ cls := "ColdWorksModel", name := "set", desc := "(II)I" } : Jvm.MethodName) ∈ uT := List.mem_filter.mpr ⟨List.mem_cons_of_mem _ (List.mem_of_getElem? (i := 741) (by decide +kernel)), rfl⟩
theorem mw_714 : Jvm.Cond.selects "ColdWorksModel" ({ cls := "ColdWorksModel", name := "set", desc := "(II)I" } : Jvm.MethodName) ({ cls := "ColdWorksModel", name := "set", desc := "(II)I" } : Jvm.MethodName) ∈ uT := List.mem_filter.mpr ⟨List.mem_cons_of_mem _ (List.mem_of_getElem? (i := 742) (by decide +kernel)), rfl⟩
theorem mw_715 : Jvm.Cond.code ({ cls := "ColdWorksModel", name := "set", desc := "(II)I" } : Jvm.MethodName) prog_12_method_10_code (5 : Nat) (Option.some Jvm.ClassFile.FieldType.int) ∈ uT := List.mem_filter.mpr ⟨List.mem_cons_of_mem _ (List.mem_of_getElem? (i := 743) (by decide +kernel)), rfl⟩
theorem mw_716 : Jvm.Cond.methodLink "ColdWorksLaw" (34 : Nat) ({ cls := "ColdWorksModel", name := "side", desc := "(II)I" } : Jvm.MethodName) ∈ uT := List.mem_filter.mpr ⟨List.mem_cons_of_mem _ (List.mem_of_getElem? (i := 744) (by decide +kernel)), rfl⟩
theorem mw_717 : Jvm.Cond.instanceMethod ({ cls := "ColdWorksModel", name := "side", desc := "(II)I" } : Jvm.MethodName) ∈ uT := List.mem_filter.mpr ⟨List.mem_cons_of_mem _ (List.mem_of_getElem? (i := 745) (by decide +kernel)), rfl⟩
theorem mw_718 : Jvm.Cond.selects "ColdWorksModel" ({ cls := "ColdWorksModel", name := "side", desc := "(II)I" } : Jvm.MethodName) ({ cls := "ColdWorksModel", name := "side", desc := "(II)I" } : Jvm.MethodName) ∈ uT := List.mem_filter.mpr ⟨List.mem_cons_of_mem _ (List.mem_of_getElem? (i := 746) (by decide +kernel)), rfl⟩
theorem mw_719 : Jvm.Cond.code ({ cls := "ColdWorksModel", name := "side", desc := "(II)I" } : Jvm.MethodName) prog_12_method_11_code (3 : Nat) (Option.some Jvm.ClassFile.FieldType.int) ∈ uT := List.mem_filter.mpr ⟨List.mem_cons_of_mem _ (List.mem_of_getElem? (i := 747) (by decide +kernel)), rfl⟩
theorem mw_720 : Jvm.Cond.methodLink "ColdWorksLaw" (39 : Nat) ({ cls := "ColdWorksModel", name := "heat", desc := "(I)J" } : Jvm.MethodName) ∈ uT := List.mem_filter.mpr ⟨List.mem_cons_of_mem _ (List.mem_of_getElem? (i := 748) (by decide +kernel)), rfl⟩
theorem mw_721 : Jvm.Cond.instanceMethod ({ cls := "ColdWorksModel", name := "heat", desc := "(I)J" } : Jvm.MethodName) ∈ uT := List.mem_filter.mpr ⟨List.mem_cons_of_mem _ (List.mem_of_getElem? (i := 749) (by decide +kernel)), rfl⟩
theorem mw_722 : Jvm.Cond.selects "ColdWorksModel" ({ cls := "ColdWorksModel", name := "heat", desc := "(I)J" } : Jvm.MethodName) ({ cls := "ColdWorksModel", name := "heat", desc := "(I)J" } : Jvm.MethodName) ∈ uT := List.mem_filter.mpr ⟨List.mem_cons_of_mem _ (List.mem_of_getElem? (i := 750) (by decide +kernel)), rfl⟩
theorem mw_723 : Jvm.Cond.code ({ cls := "ColdWorksModel", name := "heat", desc := "(I)J" } : Jvm.MethodName) prog_12_method_12_code (2 : Nat) (Option.some Jvm.ClassFile.FieldType.long) ∈ uT := List.mem_filter.mpr ⟨List.mem_cons_of_mem _ (List.mem_of_getElem? (i := 751) (by decide +kernel)), rfl⟩
theorem mw_724 : Jvm.Cond.constantLong "ColdWorksModel" (96 : Nat) (-1 : Int64) ∈ uT := List.mem_filter.mpr ⟨List.mem_cons_of_mem _ (List.mem_of_getElem? (i := 752) (by decide +kernel)), rfl⟩
theorem mw_725 : Jvm.Cond.methodLink "ColdWorksLaw" (44 : Nat) ({ cls := "ColdWorksModel", name := "start", desc := "()I" } : Jvm.MethodName) ∈ uT := List.mem_filter.mpr ⟨List.mem_cons_of_mem _ (List.mem_of_getElem? (i := 753) (by decide +kernel)), rfl⟩
theorem mw_726 : Jvm.Cond.instanceMethod ({ cls := "ColdWorksModel", name := "start", desc := "()I" } : Jvm.MethodName) ∈ uT := List.mem_filter.mpr ⟨List.mem_cons_of_mem _ (List.mem_of_getElem? (i := 754) (by decide +kernel)), rfl⟩
theorem mw_727 : Jvm.Cond.selects "ColdWorksModel" ({ cls := "ColdWorksModel", name := "start", desc := "()I" } : Jvm.MethodName) ({ cls := "ColdWorksModel", name := "start", desc := "()I" } : Jvm.MethodName) ∈ uT := List.mem_filter.mpr ⟨List.mem_cons_of_mem _ (List.mem_of_getElem? (i := 755) (by decide +kernel)), rfl⟩
theorem mw_728 : Jvm.Cond.code ({ cls := "ColdWorksModel", name := "start", desc := "()I" } : Jvm.MethodName) prog_12_method_14_code (1 : Nat) (Option.some Jvm.ClassFile.FieldType.int) ∈ uT := List.mem_filter.mpr ⟨List.mem_cons_of_mem _ (List.mem_of_getElem? (i := 756) (by decide +kernel)), rfl⟩
theorem mw_729 : Jvm.Cond.methodLink "ColdWorksLaw" (48 : Nat) ({ cls := "ColdWorksModel", name := "low", desc := "()I" } : Jvm.MethodName) ∈ uT := List.mem_filter.mpr ⟨List.mem_cons_of_mem _ (List.mem_of_getElem? (i := 757) (by decide +kernel)), rfl⟩
theorem mw_730 : Jvm.Cond.instanceMethod ({ cls := "ColdWorksModel", name := "low", desc := "()I" } : Jvm.MethodName) ∈ uT := List.mem_filter.mpr ⟨List.mem_cons_of_mem _ (List.mem_of_getElem? (i := 758) (by decide +kernel)), rfl⟩
theorem mw_731 : Jvm.Cond.selects "ColdWorksModel" ({ cls := "ColdWorksModel", name := "low", desc := "()I" } : Jvm.MethodName) ({ cls := "ColdWorksModel", name := "low", desc := "()I" } : Jvm.MethodName) ∈ uT := List.mem_filter.mpr ⟨List.mem_cons_of_mem _ (List.mem_of_getElem? (i := 759) (by decide +kernel)), rfl⟩
theorem mw_732 : Jvm.Cond.code ({ cls := "ColdWorksModel", name := "low", desc := "()I" } : Jvm.MethodName) prog_12_method_15_code (1 : Nat) (Option.some Jvm.ClassFile.FieldType.int) ∈ uT := List.mem_filter.mpr ⟨List.mem_cons_of_mem _ (List.mem_of_getElem? (i := 760) (by decide +kernel)), rfl⟩
theorem mw_733 : Jvm.Cond.methodLink "ColdWorksLaw" (52 : Nat) ({ cls := "ColdWorksModel", name := "high", desc := "()I" } : Jvm.MethodName) ∈ uT := List.mem_filter.mpr ⟨List.mem_cons_of_mem _ (List.mem_of_getElem? (i := 761) (by decide +kernel)), rfl⟩
theorem mw_734 : Jvm.Cond.instanceMethod ({ cls := "ColdWorksModel", name := "high", desc := "()I" } : Jvm.MethodName) ∈ uT := List.mem_filter.mpr ⟨List.mem_cons_of_mem _ (List.mem_of_getElem? (i := 762) (by decide +kernel)), rfl⟩
theorem mw_735 : Jvm.Cond.selects "ColdWorksModel" ({ cls := "ColdWorksModel", name := "high", desc := "()I" } : Jvm.MethodName) ({ cls := "ColdWorksModel", name := "high", desc := "()I" } : Jvm.MethodName) ∈ uT := List.mem_filter.mpr ⟨List.mem_cons_of_mem _ (List.mem_of_getElem? (i := 763) (by decide +kernel)), rfl⟩
theorem mw_736 : Jvm.Cond.code ({ cls := "ColdWorksModel", name := "high", desc := "()I" } : Jvm.MethodName) prog_12_method_16_code (1 : Nat) (Option.some Jvm.ClassFile.FieldType.int) ∈ uT := List.mem_filter.mpr ⟨List.mem_cons_of_mem _ (List.mem_of_getElem? (i := 764) (by decide +kernel)), rfl⟩
theorem mw_737 : Jvm.Cond.methodLink "ColdWorksLaw" (56 : Nat) ({ cls := "ColdWorksModel", name := "trip", desc := "()I" } : Jvm.MethodName) ∈ uT := List.mem_filter.mpr ⟨List.mem_cons_of_mem _ (List.mem_of_getElem? (i := 765) (by decide +kernel)), rfl⟩
theorem mw_738 : Jvm.Cond.instanceMethod ({ cls := "ColdWorksModel", name := "trip", desc := "()I" } : Jvm.MethodName) ∈ uT := List.mem_filter.mpr ⟨List.mem_cons_of_mem _ (List.mem_of_getElem? (i := 766) (by decide +kernel)), rfl⟩
theorem mw_739 : Jvm.Cond.selects "ColdWorksModel" ({ cls := "ColdWorksModel", name := "trip", desc := "()I" } : Jvm.MethodName) ({ cls := "ColdWorksModel", name := "trip", desc := "()I" } : Jvm.MethodName) ∈ uT := List.mem_filter.mpr ⟨List.mem_cons_of_mem _ (List.mem_of_getElem? (i := 767) (by decide +kernel)), rfl⟩
theorem mw_740 : Jvm.Cond.code ({ cls := "ColdWorksModel", name := "trip", desc := "()I" } : Jvm.MethodName) prog_12_method_17_code (1 : Nat) (Option.some Jvm.ClassFile.FieldType.int) ∈ uT := List.mem_filter.mpr ⟨List.mem_cons_of_mem _ (List.mem_of_getElem? (i := 768) (by decide +kernel)), rfl⟩
theorem mw_741 : Jvm.Cond.methodLink "ColdWorksModel" (111 : Nat) ({ cls := "ColdWorksModel", name := "trips", desc := "()V" } : Jvm.MethodName) ∈ uT := List.mem_filter.mpr ⟨List.mem_cons_of_mem _ (List.mem_of_getElem? (i := 769) (by decide +kernel)), rfl⟩
theorem mw_743 : Jvm.Cond.instanceMethod ({ cls := "ColdWorksModel", name := "trips", desc := "()V" } : Jvm.MethodName) ∈ uT := List.mem_filter.mpr ⟨List.mem_cons_of_mem _ (List.mem_of_getElem? (i := 771) (by decide +kernel)), rfl⟩
theorem mw_744 : Jvm.Cond.code ({ cls := "ColdWorksModel", name := "trips", desc := "()V" } : Jvm.MethodName) prog_12_method_13_code (1 : Nat) (Option.none : Option Jvm.ClassFile.FieldType) ∈ uT := List.mem_filter.mpr ⟨List.mem_cons_of_mem _ (List.mem_of_getElem? (i := 772) (by decide +kernel)), rfl⟩
theorem mw_745 : Jvm.Cond.methodLink "ColdWorksLaw" (60 : Nat) ({ cls := "ColdWorksModel", name := "reset", desc := "()I" } : Jvm.MethodName) ∈ uT := List.mem_filter.mpr ⟨List.mem_cons_of_mem _ (List.mem_of_getElem? (i := 773) (by decide +kernel)), rfl⟩
theorem mw_746 : Jvm.Cond.instanceMethod ({ cls := "ColdWorksModel", name := "reset", desc := "()I" } : Jvm.MethodName) ∈ uT := List.mem_filter.mpr ⟨List.mem_cons_of_mem _ (List.mem_of_getElem? (i := 774) (by decide +kernel)), rfl⟩
theorem mw_747 : Jvm.Cond.selects "ColdWorksModel" ({ cls := "ColdWorksModel", name := "reset", desc := "()I" } : Jvm.MethodName) ({ cls := "ColdWorksModel", name := "reset", desc := "()I" } : Jvm.MethodName) ∈ uT := List.mem_filter.mpr ⟨List.mem_cons_of_mem _ (List.mem_of_getElem? (i := 775) (by decide +kernel)), rfl⟩
theorem mw_748 : Jvm.Cond.code ({ cls := "ColdWorksModel", name := "reset", desc := "()I" } : Jvm.MethodName) prog_12_method_18_code (1 : Nat) (Option.some Jvm.ClassFile.FieldType.int) ∈ uT := List.mem_filter.mpr ⟨List.mem_cons_of_mem _ (List.mem_of_getElem? (i := 776) (by decide +kernel)), rfl⟩
theorem mw_749 : Jvm.Cond.methodLink "ColdWorksLaw" (65 : Nat) ({ cls := "ColdWorksModel", name := "tick", desc := "(I)I" } : Jvm.MethodName) ∈ uT := List.mem_filter.mpr ⟨List.mem_cons_of_mem _ (List.mem_of_getElem? (i := 777) (by decide +kernel)), rfl⟩
theorem mw_750 : Jvm.Cond.instanceMethod ({ cls := "ColdWorksModel", name := "tick", desc := "(I)I" } : Jvm.MethodName) ∈ uT := List.mem_filter.mpr ⟨List.mem_cons_of_mem _ (List.mem_of_getElem? (i := 778) (by decide +kernel)), rfl⟩
theorem mw_751 : Jvm.Cond.selects "ColdWorksModel" ({ cls := "ColdWorksModel", name := "tick", desc := "(I)I" } : Jvm.MethodName) ({ cls := "ColdWorksModel", name := "tick", desc := "(I)I" } : Jvm.MethodName) ∈ uT := List.mem_filter.mpr ⟨List.mem_cons_of_mem _ (List.mem_of_getElem? (i := 779) (by decide +kernel)), rfl⟩
theorem mw_752 : Jvm.Cond.code ({ cls := "ColdWorksModel", name := "tick", desc := "(I)I" } : Jvm.MethodName) prog_12_method_24_code (4 : Nat) (Option.some Jvm.ClassFile.FieldType.int) ∈ uT := List.mem_filter.mpr ⟨List.mem_cons_of_mem _ (List.mem_of_getElem? (i := 780) (by decide +kernel)), rfl⟩
theorem mw_753 : Jvm.Cond.methodLink "ColdWorksModel" (142 : Nat) ({ cls := "ColdWorksModel", name := "goes", desc := "()I" } : Jvm.MethodName) ∈ uT := List.mem_filter.mpr ⟨List.mem_cons_of_mem _ (List.mem_of_getElem? (i := 781) (by decide +kernel)), rfl⟩
theorem mw_755 : Jvm.Cond.instanceMethod ({ cls := "ColdWorksModel", name := "goes", desc := "()I" } : Jvm.MethodName) ∈ uT := List.mem_filter.mpr ⟨List.mem_cons_of_mem _ (List.mem_of_getElem? (i := 783) (by decide +kernel)), rfl⟩
theorem mw_756 : Jvm.Cond.code ({ cls := "ColdWorksModel", name := "goes", desc := "()I" } : Jvm.MethodName) prog_12_method_23_code (2 : Nat) (Option.some Jvm.ClassFile.FieldType.int) ∈ uT := List.mem_filter.mpr ⟨List.mem_cons_of_mem _ (List.mem_of_getElem? (i := 784) (by decide +kernel)), rfl⟩
theorem mw_757 : Jvm.Cond.methodLink "ColdWorksModel" (128 : Nat) ({ cls := "ColdWorksModel", name := "goesOn", desc := "(I)V" } : Jvm.MethodName) ∈ uT := List.mem_filter.mpr ⟨List.mem_cons_of_mem _ (List.mem_of_getElem? (i := 785) (by decide +kernel)), rfl⟩
theorem mw_759 : Jvm.Cond.instanceMethod ({ cls := "ColdWorksModel", name := "goesOn", desc := "(I)V" } : Jvm.MethodName) ∈ uT := List.mem_filter.mpr ⟨List.mem_cons_of_mem _ (List.mem_of_getElem? (i := 787) (by decide +kernel)), rfl⟩
theorem mw_760 : Jvm.Cond.code ({ cls := "ColdWorksModel", name := "goesOn", desc := "(I)V" } : Jvm.MethodName) prog_12_method_19_code (2 : Nat) (Option.none : Option Jvm.ClassFile.FieldType) ∈ uT := List.mem_filter.mpr ⟨List.mem_cons_of_mem _ (List.mem_of_getElem? (i := 788) (by decide +kernel)), rfl⟩
theorem mw_761 : Jvm.Cond.methodLink "ColdWorksModel" (132 : Nat) ({ cls := "ColdWorksModel", name := "flows", desc := "()I" } : Jvm.MethodName) ∈ uT := List.mem_filter.mpr ⟨List.mem_cons_of_mem _ (List.mem_of_getElem? (i := 789) (by decide +kernel)), rfl⟩
theorem mw_763 : Jvm.Cond.instanceMethod ({ cls := "ColdWorksModel", name := "flows", desc := "()I" } : Jvm.MethodName) ∈ uT := List.mem_filter.mpr ⟨List.mem_cons_of_mem _ (List.mem_of_getElem? (i := 791) (by decide +kernel)), rfl⟩
theorem mw_764 : Jvm.Cond.code ({ cls := "ColdWorksModel", name := "flows", desc := "()I" } : Jvm.MethodName) prog_12_method_21_code (6 : Nat) (Option.some Jvm.ClassFile.FieldType.int) ∈ uT := List.mem_filter.mpr ⟨List.mem_cons_of_mem _ (List.mem_of_getElem? (i := 792) (by decide +kernel)), rfl⟩
theorem mw_765 : Jvm.Cond.methodLink "ColdWorksModel" (136 : Nat) ({ cls := "ColdWorksModel", name := "stores", desc := "(I)V" } : Jvm.MethodName) ∈ uT := List.mem_filter.mpr ⟨List.mem_cons_of_mem _ (List.mem_of_getElem? (i := 793) (by decide +kernel)), rfl⟩
theorem mw_767 : Jvm.Cond.instanceMethod ({ cls := "ColdWorksModel", name := "stores", desc := "(I)V" } : Jvm.MethodName) ∈ uT := List.mem_filter.mpr ⟨List.mem_cons_of_mem _ (List.mem_of_getElem? (i := 795) (by decide +kernel)), rfl⟩
theorem mw_768 : Jvm.Cond.code ({ cls := "ColdWorksModel", name := "stores", desc := "(I)V" } : Jvm.MethodName) prog_12_method_22_code (5 : Nat) (Option.none : Option Jvm.ClassFile.FieldType) ∈ uT := List.mem_filter.mpr ⟨List.mem_cons_of_mem _ (List.mem_of_getElem? (i := 796) (by decide +kernel)), rfl⟩
theorem mw_769 : Jvm.Cond.methodLink "ColdWorksModel" (139 : Nat) ({ cls := "ColdWorksModel", name := "loads", desc := "()V" } : Jvm.MethodName) ∈ uT := List.mem_filter.mpr ⟨List.mem_cons_of_mem _ (List.mem_of_getElem? (i := 797) (by decide +kernel)), rfl⟩
theorem mw_771 : Jvm.Cond.instanceMethod ({ cls := "ColdWorksModel", name := "loads", desc := "()V" } : Jvm.MethodName) ∈ uT := List.mem_filter.mpr ⟨List.mem_cons_of_mem _ (List.mem_of_getElem? (i := 799) (by decide +kernel)), rfl⟩
theorem mw_772 : Jvm.Cond.code ({ cls := "ColdWorksModel", name := "loads", desc := "()V" } : Jvm.MethodName) prog_12_method_20_code (2 : Nat) (Option.none : Option Jvm.ClassFile.FieldType) ∈ uT := List.mem_filter.mpr ⟨List.mem_cons_of_mem _ (List.mem_of_getElem? (i := 800) (by decide +kernel)), rfl⟩
theorem mw_773 : Jvm.Cond.methodLink "ColdWorksLaw" (69 : Nat) ({ cls := "ColdWorksModel", name := "adsorber", desc := "(II)I" } : Jvm.MethodName) ∈ uT := List.mem_filter.mpr ⟨List.mem_cons_of_mem _ (List.mem_of_getElem? (i := 801) (by decide +kernel)), rfl⟩
theorem mw_774 : Jvm.Cond.instanceMethod ({ cls := "ColdWorksModel", name := "adsorber", desc := "(II)I" } : Jvm.MethodName) ∈ uT := List.mem_filter.mpr ⟨List.mem_cons_of_mem _ (List.mem_of_getElem? (i := 802) (by decide +kernel)), rfl⟩
theorem mw_775 : Jvm.Cond.selects "ColdWorksModel" ({ cls := "ColdWorksModel", name := "adsorber", desc := "(II)I" } : Jvm.MethodName) ({ cls := "ColdWorksModel", name := "adsorber", desc := "(II)I" } : Jvm.MethodName) ∈ uT := List.mem_filter.mpr ⟨List.mem_cons_of_mem _ (List.mem_of_getElem? (i := 803) (by decide +kernel)), rfl⟩
theorem mw_776 : Jvm.Cond.code ({ cls := "ColdWorksModel", name := "adsorber", desc := "(II)I" } : Jvm.MethodName) prog_12_method_25_code (3 : Nat) (Option.some Jvm.ClassFile.FieldType.int) ∈ uT := List.mem_filter.mpr ⟨List.mem_cons_of_mem _ (List.mem_of_getElem? (i := 804) (by decide +kernel)), rfl⟩
theorem mw_777 : Jvm.Cond.methodLink "ColdWorksLaw" (73 : Nat) ({ cls := "ColdWorksModel", name := "valve", desc := "(I)I" } : Jvm.MethodName) ∈ uT := List.mem_filter.mpr ⟨List.mem_cons_of_mem _ (List.mem_of_getElem? (i := 805) (by decide +kernel)), rfl⟩
theorem mw_778 : Jvm.Cond.instanceMethod ({ cls := "ColdWorksModel", name := "valve", desc := "(I)I" } : Jvm.MethodName) ∈ uT := List.mem_filter.mpr ⟨List.mem_cons_of_mem _ (List.mem_of_getElem? (i := 806) (by decide +kernel)), rfl⟩
theorem mw_779 : Jvm.Cond.selects "ColdWorksModel" ({ cls := "ColdWorksModel", name := "valve", desc := "(I)I" } : Jvm.MethodName) ({ cls := "ColdWorksModel", name := "valve", desc := "(I)I" } : Jvm.MethodName) ∈ uT := List.mem_filter.mpr ⟨List.mem_cons_of_mem _ (List.mem_of_getElem? (i := 807) (by decide +kernel)), rfl⟩
theorem mw_780 : Jvm.Cond.code ({ cls := "ColdWorksModel", name := "valve", desc := "(I)I" } : Jvm.MethodName) prog_12_method_26_code (2 : Nat) (Option.some Jvm.ClassFile.FieldType.int) ∈ uT := List.mem_filter.mpr ⟨List.mem_cons_of_mem _ (List.mem_of_getElem? (i := 808) (by decide +kernel)), rfl⟩
theorem mw_781 : Jvm.Cond.methodLink "ColdWorksLaw" (77 : Nat) ({ cls := "ColdWorksModel", name := "order", desc := "(II)I" } : Jvm.MethodName) ∈ uT := List.mem_filter.mpr ⟨List.mem_cons_of_mem _ (List.mem_of_getElem? (i := 809) (by decide +kernel)), rfl⟩
theorem mw_782 : Jvm.Cond.instanceMethod ({ cls := "ColdWorksModel", name := "order", desc := "(II)I" } : Jvm.MethodName) ∈ uT := List.mem_filter.mpr ⟨List.mem_cons_of_mem _ (List.mem_of_getElem? (i := 810) (by decide +kernel)), rfl⟩
theorem mw_783 : Jvm.Cond.selects "ColdWorksModel" ({ cls := "ColdWorksModel", name := "order", desc := "(II)I" } : Jvm.MethodName) ({ cls := "ColdWorksModel", name := "order", desc := "(II)I" } : Jvm.MethodName) ∈ uT := List.mem_filter.mpr ⟨List.mem_cons_of_mem _ (List.mem_of_getElem? (i := 811) (by decide +kernel)), rfl⟩
theorem mw_784 : Jvm.Cond.code ({ cls := "ColdWorksModel", name := "order", desc := "(II)I" } : Jvm.MethodName) prog_12_method_27_code (3 : Nat) (Option.some Jvm.ClassFile.FieldType.int) ∈ uT := List.mem_filter.mpr ⟨List.mem_cons_of_mem _ (List.mem_of_getElem? (i := 812) (by decide +kernel)), rfl⟩
theorem mw_785 : Jvm.Cond.methodLink "ColdWorksLaw" (81 : Nat) ({ cls := "ColdWorksModel", name := "deliver", desc := "()I" } : Jvm.MethodName) ∈ uT := List.mem_filter.mpr ⟨List.mem_cons_of_mem _ (List.mem_of_getElem? (i := 813) (by decide +kernel)), rfl⟩
theorem mw_786 : Jvm.Cond.instanceMethod ({ cls := "ColdWorksModel", name := "deliver", desc := "()I" } : Jvm.MethodName) ∈ uT := List.mem_filter.mpr ⟨List.mem_cons_of_mem _ (List.mem_of_getElem? (i := 814) (by decide +kernel)), rfl⟩
theorem mw_787 : Jvm.Cond.selects "ColdWorksModel" ({ cls := "ColdWorksModel", name := "deliver", desc := "()I" } : Jvm.MethodName) ({ cls := "ColdWorksModel", name := "deliver", desc := "()I" } : Jvm.MethodName) ∈ uT := List.mem_filter.mpr ⟨List.mem_cons_of_mem _ (List.mem_of_getElem? (i := 815) (by decide +kernel)), rfl⟩
theorem mw_788 : Jvm.Cond.code ({ cls := "ColdWorksModel", name := "deliver", desc := "()I" } : Jvm.MethodName) prog_12_method_28_code (3 : Nat) (Option.some Jvm.ClassFile.FieldType.int) ∈ uT := List.mem_filter.mpr ⟨List.mem_cons_of_mem _ (List.mem_of_getElem? (i := 816) (by decide +kernel)), rfl⟩
theorem mw_789 : Jvm.Cond.methodLink "ColdWorksLaw" (85 : Nat) ({ cls := "ColdWorksModel", name := "about", desc := "(II)I" } : Jvm.MethodName) ∈ uT := List.mem_filter.mpr ⟨List.mem_cons_of_mem _ (List.mem_of_getElem? (i := 817) (by decide +kernel)), rfl⟩
theorem mw_790 : Jvm.Cond.instanceMethod ({ cls := "ColdWorksModel", name := "about", desc := "(II)I" } : Jvm.MethodName) ∈ uT := List.mem_filter.mpr ⟨List.mem_cons_of_mem _ (List.mem_of_getElem? (i := 818) (by decide +kernel)), rfl⟩
theorem mw_791 : Jvm.Cond.selects "ColdWorksModel" ({ cls := "ColdWorksModel", name := "about", desc := "(II)I" } : Jvm.MethodName) ({ cls := "ColdWorksModel", name := "about", desc := "(II)I" } : Jvm.MethodName) ∈ uT := List.mem_filter.mpr ⟨List.mem_cons_of_mem _ (List.mem_of_getElem? (i := 819) (by decide +kernel)), rfl⟩
theorem mw_792 : Jvm.Cond.code ({ cls := "ColdWorksModel", name := "about", desc := "(II)I" } : Jvm.MethodName) prog_12_method_29_code (3 : Nat) (Option.some Jvm.ClassFile.FieldType.int) ∈ uT := List.mem_filter.mpr ⟨List.mem_cons_of_mem _ (List.mem_of_getElem? (i := 820) (by decide +kernel)), rfl⟩
theorem mw_793 : Jvm.Cond.methodLink "ColdWorksLaw" (89 : Nat) ({ cls := "ColdWorksModel", name := "back", desc := "(I)I" } : Jvm.MethodName) ∈ uT := List.mem_filter.mpr ⟨List.mem_cons_of_mem _ (List.mem_of_getElem? (i := 821) (by decide +kernel)), rfl⟩
theorem mw_794 : Jvm.Cond.instanceMethod ({ cls := "ColdWorksModel", name := "back", desc := "(I)I" } : Jvm.MethodName) ∈ uT := List.mem_filter.mpr ⟨List.mem_cons_of_mem _ (List.mem_of_getElem? (i := 822) (by decide +kernel)), rfl⟩
theorem mw_795 : Jvm.Cond.selects "ColdWorksModel" ({ cls := "ColdWorksModel", name := "back", desc := "(I)I" } : Jvm.MethodName) ({ cls := "ColdWorksModel", name := "back", desc := "(I)I" } : Jvm.MethodName) ∈ uT := List.mem_filter.mpr ⟨List.mem_cons_of_mem _ (List.mem_of_getElem? (i := 823) (by decide +kernel)), rfl⟩
theorem mw_796 : Jvm.Cond.code ({ cls := "ColdWorksModel", name := "back", desc := "(I)I" } : Jvm.MethodName) prog_12_method_30_code (2 : Nat) (Option.some Jvm.ClassFile.FieldType.int) ∈ uT := List.mem_filter.mpr ⟨List.mem_cons_of_mem _ (List.mem_of_getElem? (i := 824) (by decide +kernel)), rfl⟩
theorem mw_797 : Jvm.Cond.methodLink "ColdWorksLaw" (94 : Nat) ({ cls := "ColdWorksModel", name := "lose", desc := "(IZ)I" } : Jvm.MethodName) ∈ uT := List.mem_filter.mpr ⟨List.mem_cons_of_mem _ (List.mem_of_getElem? (i := 825) (by decide +kernel)), rfl⟩
theorem mw_798 : Jvm.Cond.instanceMethod ({ cls := "ColdWorksModel", name := "lose", desc := "(IZ)I" } : Jvm.MethodName) ∈ uT := List.mem_filter.mpr ⟨List.mem_cons_of_mem _ (List.mem_of_getElem? (i := 826) (by decide +kernel)), rfl⟩
theorem mw_799 : Jvm.Cond.selects "ColdWorksModel" ({ cls := "ColdWorksModel", name := "lose", desc := "(IZ)I" } : Jvm.MethodName) ({ cls := "ColdWorksModel", name := "lose", desc := "(IZ)I" } : Jvm.MethodName) ∈ uT := List.mem_filter.mpr ⟨List.mem_cons_of_mem _ (List.mem_of_getElem? (i := 827) (by decide +kernel)), rfl⟩
theorem mw_800 : Jvm.Cond.code ({ cls := "ColdWorksModel", name := "lose", desc := "(IZ)I" } : Jvm.MethodName) prog_12_method_31_code (4 : Nat) (Option.some Jvm.ClassFile.FieldType.int) ∈ uT := List.mem_filter.mpr ⟨List.mem_cons_of_mem _ (List.mem_of_getElem? (i := 828) (by decide +kernel)), rfl⟩
theorem mw_801 : Jvm.Cond.methodLink "ColdWorksLaw" (98 : Nat) ({ cls := "ColdWorksModel", name := "meter", desc := "(I)J" } : Jvm.MethodName) ∈ uT := List.mem_filter.mpr ⟨List.mem_cons_of_mem _ (List.mem_of_getElem? (i := 829) (by decide +kernel)), rfl⟩
theorem mw_802 : Jvm.Cond.instanceMethod ({ cls := "ColdWorksModel", name := "meter", desc := "(I)J" } : Jvm.MethodName) ∈ uT := List.mem_filter.mpr ⟨List.mem_cons_of_mem _ (List.mem_of_getElem? (i := 830) (by decide +kernel)), rfl⟩
theorem mw_803 : Jvm.Cond.selects "ColdWorksModel" ({ cls := "ColdWorksModel", name := "meter", desc := "(I)J" } : Jvm.MethodName) ({ cls := "ColdWorksModel", name := "meter", desc := "(I)J" } : Jvm.MethodName) ∈ uT := List.mem_filter.mpr ⟨List.mem_cons_of_mem _ (List.mem_of_getElem? (i := 831) (by decide +kernel)), rfl⟩
theorem mw_804 : Jvm.Cond.code ({ cls := "ColdWorksModel", name := "meter", desc := "(I)J" } : Jvm.MethodName) prog_12_method_33_code (2 : Nat) (Option.some Jvm.ClassFile.FieldType.long) ∈ uT := List.mem_filter.mpr ⟨List.mem_cons_of_mem _ (List.mem_of_getElem? (i := 832) (by decide +kernel)), rfl⟩
theorem mw_805 : Jvm.Cond.constantLong "ColdWorksModel" (157 : Nat) (-9 : Int64) ∈ uT := List.mem_filter.mpr ⟨List.mem_cons_of_mem _ (List.mem_of_getElem? (i := 833) (by decide +kernel)), rfl⟩
theorem mw_806 : Jvm.Cond.methodLink "ColdWorksModel" (159 : Nat) ({ cls := "ColdWorksModel", name := "reads", desc := "(I)J" } : Jvm.MethodName) ∈ uT := List.mem_filter.mpr ⟨List.mem_cons_of_mem _ (List.mem_of_getElem? (i := 834) (by decide +kernel)), rfl⟩
theorem mw_808 : Jvm.Cond.instanceMethod ({ cls := "ColdWorksModel", name := "reads", desc := "(I)J" } : Jvm.MethodName) ∈ uT := List.mem_filter.mpr ⟨List.mem_cons_of_mem _ (List.mem_of_getElem? (i := 836) (by decide +kernel)), rfl⟩
theorem mw_809 : Jvm.Cond.code ({ cls := "ColdWorksModel", name := "reads", desc := "(I)J" } : Jvm.MethodName) prog_12_method_32_code (2 : Nat) (Option.some Jvm.ClassFile.FieldType.long) ∈ uT := List.mem_filter.mpr ⟨List.mem_cons_of_mem _ (List.mem_of_getElem? (i := 837) (by decide +kernel)), rfl⟩
theorem mw_810 : Jvm.Cond.methodLink "ColdWorksLaw" (102 : Nat) ({ cls := "ColdWorksModel", name := "balance", desc := "(I)J" } : Jvm.MethodName) ∈ uT := List.mem_filter.mpr ⟨List.mem_cons_of_mem _ (List.mem_of_getElem? (i := 838) (by decide +kernel)), rfl⟩
theorem mw_811 : Jvm.Cond.instanceMethod ({ cls := "ColdWorksModel", name := "balance", desc := "(I)J" } : Jvm.MethodName) ∈ uT := List.mem_filter.mpr ⟨List.mem_cons_of_mem _ (List.mem_of_getElem? (i := 839) (by decide +kernel)), rfl⟩
theorem mw_812 : Jvm.Cond.selects "ColdWorksModel" ({ cls := "ColdWorksModel", name := "balance", desc := "(I)J" } : Jvm.MethodName) ({ cls := "ColdWorksModel", name := "balance", desc := "(I)J" } : Jvm.MethodName) ∈ uT := List.mem_filter.mpr ⟨List.mem_cons_of_mem _ (List.mem_of_getElem? (i := 840) (by decide +kernel)), rfl⟩
theorem mw_813 : Jvm.Cond.code ({ cls := "ColdWorksModel", name := "balance", desc := "(I)J" } : Jvm.MethodName) prog_12_method_34_code (4 : Nat) (Option.some Jvm.ClassFile.FieldType.long) ∈ uT := List.mem_filter.mpr ⟨List.mem_cons_of_mem _ (List.mem_of_getElem? (i := 841) (by decide +kernel)), rfl⟩
theorem mw_814 : Jvm.Cond.methodLink "ColdWorksLaw" (107 : Nat) ({ cls := "ColdWorksModel", name := "split", desc := "(IIII)I" } : Jvm.MethodName) ∈ uT := List.mem_filter.mpr ⟨List.mem_cons_of_mem _ (List.mem_of_getElem? (i := 842) (by decide +kernel)), rfl⟩
theorem mw_815 : Jvm.Cond.instanceMethod ({ cls := "ColdWorksModel", name := "split", desc := "(IIII)I" } : Jvm.MethodName) ∈ uT := List.mem_filter.mpr ⟨List.mem_cons_of_mem _ (List.mem_of_getElem? (i := 843) (by decide +kernel)), rfl⟩
theorem mw_816 : Jvm.Cond.selects "ColdWorksModel" ({ cls := "ColdWorksModel", name := "split", desc := "(IIII)I" } : Jvm.MethodName) ({ cls := "ColdWorksModel", name := "split", desc := "(IIII)I" } : Jvm.MethodName) ∈ uT := List.mem_filter.mpr ⟨List.mem_cons_of_mem _ (List.mem_of_getElem? (i := 844) (by decide +kernel)), rfl⟩
theorem mw_817 : Jvm.Cond.code ({ cls := "ColdWorksModel", name := "split", desc := "(IIII)I" } : Jvm.MethodName) prog_12_method_35_code (9 : Nat) (Option.some Jvm.ClassFile.FieldType.int) ∈ uT := List.mem_filter.mpr ⟨List.mem_cons_of_mem _ (List.mem_of_getElem? (i := 845) (by decide +kernel)), rfl⟩
theorem mw_818 : Jvm.Cond.methodLink "ColdWorksLaw" (111 : Nat) ({ cls := "ColdWorksModel", name := "count", desc := "(I)I" } : Jvm.MethodName) ∈ uT := List.mem_filter.mpr ⟨List.mem_cons_of_mem _ (List.mem_of_getElem? (i := 846) (by decide +kernel)), rfl⟩
theorem mw_819 : Jvm.Cond.instanceMethod ({ cls := "ColdWorksModel", name := "count", desc := "(I)I" } : Jvm.MethodName) ∈ uT := List.mem_filter.mpr ⟨List.mem_cons_of_mem _ (List.mem_of_getElem? (i := 847) (by decide +kernel)), rfl⟩
theorem mw_820 : Jvm.Cond.selects "ColdWorksModel" ({ cls := "ColdWorksModel", name := "count", desc := "(I)I" } : Jvm.MethodName) ({ cls := "ColdWorksModel", name := "count", desc := "(I)I" } : Jvm.MethodName) ∈ uT := List.mem_filter.mpr ⟨List.mem_cons_of_mem _ (List.mem_of_getElem? (i := 848) (by decide +kernel)), rfl⟩
theorem mw_821 : Jvm.Cond.code ({ cls := "ColdWorksModel", name := "count", desc := "(I)I" } : Jvm.MethodName) prog_12_method_36_code (2 : Nat) (Option.some Jvm.ClassFile.FieldType.int) ∈ uT := List.mem_filter.mpr ⟨List.mem_cons_of_mem _ (List.mem_of_getElem? (i := 849) (by decide +kernel)), rfl⟩
theorem mw_822 : Jvm.Cond.methodLink "ColdWorksLaw" (116 : Nat) ({ cls := "ColdWorksModel", name := "trace", desc := "()J" } : Jvm.MethodName) ∈ uT := List.mem_filter.mpr ⟨List.mem_cons_of_mem _ (List.mem_of_getElem? (i := 850) (by decide +kernel)), rfl⟩
theorem mw_823 : Jvm.Cond.instanceMethod ({ cls := "ColdWorksModel", name := "trace", desc := "()J" } : Jvm.MethodName) ∈ uT := List.mem_filter.mpr ⟨List.mem_cons_of_mem _ (List.mem_of_getElem? (i := 851) (by decide +kernel)), rfl⟩
theorem mw_824 : Jvm.Cond.selects "ColdWorksModel" ({ cls := "ColdWorksModel", name := "trace", desc := "()J" } : Jvm.MethodName) ({ cls := "ColdWorksModel", name := "trace", desc := "()J" } : Jvm.MethodName) ∈ uT := List.mem_filter.mpr ⟨List.mem_cons_of_mem _ (List.mem_of_getElem? (i := 852) (by decide +kernel)), rfl⟩
theorem mw_825 : Jvm.Cond.code ({ cls := "ColdWorksModel", name := "trace", desc := "()J" } : Jvm.MethodName) prog_12_method_37_code (1 : Nat) (Option.some Jvm.ClassFile.FieldType.long) ∈ uT := List.mem_filter.mpr ⟨List.mem_cons_of_mem _ (List.mem_of_getElem? (i := 853) (by decide +kernel)), rfl⟩
theorem mw_826 : Jvm.Cond.sameMethod "ColdWorks$Wheel" "ColdWorks$Wheel" "traceWeight" "()I" ∈ uT := List.mem_filter.mpr ⟨List.mem_cons_of_mem _ (List.mem_of_getElem? (i := 854) (by decide +kernel)), rfl⟩
theorem mw_827 : Jvm.Cond.sameMethod "ColdWorks$Wheel" "ColdWorks$Wheel" "coldAt" "(I)I" ∈ uT := List.mem_filter.mpr ⟨List.mem_cons_of_mem _ (List.mem_of_getElem? (i := 855) (by decide +kernel)), rfl⟩
theorem mw_828 : Jvm.Cond.sameMethod "ColdWorks$Wheel" "ColdWorks$Wheel" "corner" "(I)I" ∈ uT := List.mem_filter.mpr ⟨List.mem_cons_of_mem _ (List.mem_of_getElem? (i := 856) (by decide +kernel)), rfl⟩
theorem mw_s0 : Cond.selects "ColdWorks" ⟨"ColdWorks", "isCooler", "(I)Z"⟩ ⟨"ColdWorks", "isCooler", "(I)Z"⟩ ∈ uT := List.mem_filter.mpr ⟨List.mem_cons_of_mem _ (List.mem_of_getElem? (i := 0) (by decide +kernel)), rfl⟩
theorem mw_s1 : Cond.selects "ColdWorks" ⟨"ColdWorks", "weightOf", "(I)I"⟩ ⟨"ColdWorks", "weightOf", "(I)I"⟩ ∈ uT := List.mem_filter.mpr ⟨List.mem_cons_of_mem _ (List.mem_of_getElem? (i := 1) (by decide +kernel)), rfl⟩
theorem mw_s2 : Cond.selects "ColdWorks" ⟨"ColdWorks", "find", "(I)LColdWorks$Throttle;"⟩ ⟨"ColdWorks", "find", "(I)LColdWorks$Throttle;"⟩ ∈ uT := List.mem_filter.mpr ⟨List.mem_cons_of_mem _ (List.mem_of_getElem? (i := 2) (by decide +kernel)), rfl⟩
theorem mw_s3 : Cond.selects "ColdWorks" ⟨"ColdWorks", "coldOf", "(II)I"⟩ ⟨"ColdWorks", "coldOf", "(II)I"⟩ ∈ uT := List.mem_filter.mpr ⟨List.mem_cons_of_mem _ (List.mem_of_getElem? (i := 3) (by decide +kernel)), rfl⟩
theorem mw_s4 : Cond.selects "ColdWorks$Wheel" ⟨"ColdWorks$Wheel", "corner", "(I)I"⟩ ⟨"ColdWorks$Wheel", "corner", "(I)I"⟩ ∈ uT := List.mem_filter.mpr ⟨List.mem_cons_of_mem _ (List.mem_of_getElem? (i := 4) (by decide +kernel)), rfl⟩
theorem mw_s5 : Cond.selects "ColdWorks" ⟨"ColdWorks", "maySet", "(II)Z"⟩ ⟨"ColdWorks", "maySet", "(II)Z"⟩ ∈ uT := List.mem_filter.mpr ⟨List.mem_cons_of_mem _ (List.mem_of_getElem? (i := 5) (by decide +kernel)), rfl⟩
theorem mw_s6 : Cond.selects "ColdWorks" ⟨"ColdWorks", "setting", "(I)I"⟩ ⟨"ColdWorks", "setting", "(I)I"⟩ ∈ uT := List.mem_filter.mpr ⟨List.mem_cons_of_mem _ (List.mem_of_getElem? (i := 6) (by decide +kernel)), rfl⟩
theorem mw_s7 : Cond.selects "ColdWorks" ⟨"ColdWorks", "change", "(II)V"⟩ ⟨"ColdWorks", "change", "(II)V"⟩ ∈ uT := List.mem_filter.mpr ⟨List.mem_cons_of_mem _ (List.mem_of_getElem? (i := 7) (by decide +kernel)), rfl⟩
theorem mw_s8 : Cond.selects "ColdWorks" ⟨"ColdWorks", "oneTick", "()I"⟩ ⟨"ColdWorks", "oneTick", "()I"⟩ ∈ uT := List.mem_filter.mpr ⟨List.mem_cons_of_mem _ (List.mem_of_getElem? (i := 8) (by decide +kernel)), rfl⟩
theorem mw_s9 : Cond.selects "ColdWorks$Adsorbers" ⟨"ColdWorks$Adsorbers", "step", "(LColdWorks$Adsorber;)V"⟩ ⟨"ColdWorks$Adsorbers", "step", "(LColdWorks$Adsorber;)V"⟩ ∈ uT := List.mem_filter.mpr ⟨List.mem_cons_of_mem _ (List.mem_of_getElem? (i := 9) (by decide +kernel)), rfl⟩
theorem mw_s10 : Cond.selects "ColdWorks$Controls" ⟨"ColdWorks$Controls", "moveValve", "()V"⟩ ⟨"ColdWorks$Controls", "moveValve", "()V"⟩ ∈ uT := List.mem_filter.mpr ⟨List.mem_cons_of_mem _ (List.mem_of_getElem? (i := 10) (by decide +kernel)), rfl⟩
theorem mw_s11 : Cond.selects "ColdWorks" ⟨"ColdWorks", "flow", "()I"⟩ ⟨"ColdWorks", "flow", "()I"⟩ ∈ uT := List.mem_filter.mpr ⟨List.mem_cons_of_mem _ (List.mem_of_getElem? (i := 11) (by decide +kernel)), rfl⟩
theorem mw_s12 : Cond.selects "ColdWorks$Exchanger" ⟨"ColdWorks$Exchanger", "exchange", "()V"⟩ ⟨"ColdWorks$Exchanger", "exchange", "()V"⟩ ∈ uT := List.mem_filter.mpr ⟨List.mem_cons_of_mem _ (List.mem_of_getElem? (i := 12) (by decide +kernel)), rfl⟩
theorem mw_s13 : Cond.selects "ColdWorks$Exchanger" ⟨"ColdWorks$Exchanger", "moveOn", "(II)V"⟩ ⟨"ColdWorks$Exchanger", "moveOn", "(II)V"⟩ ∈ uT := List.mem_filter.mpr ⟨List.mem_cons_of_mem _ (List.mem_of_getElem? (i := 13) (by decide +kernel)), rfl⟩
theorem mw_s14 : Cond.selects "ColdWorks$Adsorbers" ⟨"ColdWorks$Adsorbers", "loadOne", "(LColdWorks$Adsorber;LColdWorks$Adsorber;)Z"⟩ ⟨"ColdWorks$Adsorbers", "loadOne", "(LColdWorks$Adsorber;LColdWorks$Adsorber;)Z"⟩ ∈ uT := List.mem_filter.mpr ⟨List.mem_cons_of_mem _ (List.mem_of_getElem? (i := 14) (by decide +kernel)), rfl⟩
theorem mw_s15 : Cond.selects "ColdWorks$Orders" ⟨"ColdWorks$Orders", "settle", "(ILColdWorks$Store;)I"⟩ ⟨"ColdWorks$Orders", "settle", "(ILColdWorks$Store;)I"⟩ ∈ uT := List.mem_filter.mpr ⟨List.mem_cons_of_mem _ (List.mem_of_getElem? (i := 15) (by decide +kernel)), rfl⟩
theorem mw_s16 : Cond.selects "ColdWorks" ⟨"ColdWorks", "lostMeters", "()I"⟩ ⟨"ColdWorks", "lostMeters", "()I"⟩ ∈ uT := List.mem_filter.mpr ⟨List.mem_cons_of_mem _ (List.mem_of_getElem? (i := 16) (by decide +kernel)), rfl⟩
theorem mw_s17 : Cond.selects "ColdWorks" ⟨"ColdWorks", "toldByOthers", "(I)J"⟩ ⟨"ColdWorks", "toldByOthers", "(I)J"⟩ ∈ uT := List.mem_filter.mpr ⟨List.mem_cons_of_mem _ (List.mem_of_getElem? (i := 17) (by decide +kernel)), rfl⟩
theorem mw_s18 : Cond.selects "ColdWorksModel" ⟨"ColdWorksModel", "fresh", "()V"⟩ ⟨"ColdWorksModel", "fresh", "()V"⟩ ∈ uT := List.mem_filter.mpr ⟨List.mem_cons_of_mem _ (List.mem_of_getElem? (i := 18) (by decide +kernel)), rfl⟩
theorem mw_s19 : Cond.selects "ColdWorksModel" ⟨"ColdWorksModel", "isCooler", "(I)Z"⟩ ⟨"ColdWorksModel", "isCooler", "(I)Z"⟩ ∈ uT := List.mem_filter.mpr ⟨List.mem_cons_of_mem _ (List.mem_of_getElem? (i := 19) (by decide +kernel)), rfl⟩
theorem mw_s20 : Cond.selects "ColdWorksModel" ⟨"ColdWorksModel", "coldOf", "(II)I"⟩ ⟨"ColdWorksModel", "coldOf", "(II)I"⟩ ∈ uT := List.mem_filter.mpr ⟨List.mem_cons_of_mem _ (List.mem_of_getElem? (i := 20) (by decide +kernel)), rfl⟩
theorem mw_s21 : Cond.selects "ColdWorksModel" ⟨"ColdWorksModel", "trips", "()V"⟩ ⟨"ColdWorksModel", "trips", "()V"⟩ ∈ uT := List.mem_filter.mpr ⟨List.mem_cons_of_mem _ (List.mem_of_getElem? (i := 21) (by decide +kernel)), rfl⟩
theorem mw_s22 : Cond.selects "ColdWorksModel" ⟨"ColdWorksModel", "goes", "()I"⟩ ⟨"ColdWorksModel", "goes", "()I"⟩ ∈ uT := List.mem_filter.mpr ⟨List.mem_cons_of_mem _ (List.mem_of_getElem? (i := 22) (by decide +kernel)), rfl⟩
theorem mw_s23 : Cond.selects "ColdWorksModel" ⟨"ColdWorksModel", "goesOn", "(I)V"⟩ ⟨"ColdWorksModel", "goesOn", "(I)V"⟩ ∈ uT := List.mem_filter.mpr ⟨List.mem_cons_of_mem _ (List.mem_of_getElem? (i := 23) (by decide +kernel)), rfl⟩
theorem mw_s24 : Cond.selects "ColdWorksModel" ⟨"ColdWorksModel", "flows", "()I"⟩ ⟨"ColdWorksModel", "flows", "()I"⟩ ∈ uT := List.mem_filter.mpr ⟨List.mem_cons_of_mem _ (List.mem_of_getElem? (i := 24) (by decide +kernel)), rfl⟩
theorem mw_s25 : Cond.selects "ColdWorksModel" ⟨"ColdWorksModel", "stores", "(I)V"⟩ ⟨"ColdWorksModel", "stores", "(I)V"⟩ ∈ uT := List.mem_filter.mpr ⟨List.mem_cons_of_mem _ (List.mem_of_getElem? (i := 25) (by decide +kernel)), rfl⟩
theorem mw_s26 : Cond.selects "ColdWorksModel" ⟨"ColdWorksModel", "loads", "()V"⟩ ⟨"ColdWorksModel", "loads", "()V"⟩ ∈ uT := List.mem_filter.mpr ⟨List.mem_cons_of_mem _ (List.mem_of_getElem? (i := 26) (by decide +kernel)), rfl⟩
theorem mw_s27 : Cond.selects "ColdWorksModel" ⟨"ColdWorksModel", "reads", "(I)J"⟩ ⟨"ColdWorksModel", "reads", "(I)J"⟩ ∈ uT := List.mem_filter.mpr ⟨List.mem_cons_of_mem _ (List.mem_of_getElem? (i := 27) (by decide +kernel)), rfl⟩
/-- the words that do not travel by themselves: across the nest, and what an array may keep -/
def kN : List Cond := [(Jvm.Cond.fieldLinkNest "ColdWorks" (118 : Nat) "ColdWorks$Exchanger" "warm" "[I" "ColdWorks"), (Jvm.Cond.fieldLinkNest "ColdWorks" (122 : Nat) "ColdWorks$Exchanger" "chill" "[I" "ColdWorks"), (Jvm.Cond.fieldLinkNest "ColdWorks" (115 : Nat) "ColdWorks$Exchanger" "length" "I" "ColdWorks"), (Jvm.Cond.fieldLinkNest "ColdWorks" (125 : Nat) "ColdWorks$Exchanger" "inlets" "J" "ColdWorks"), (Jvm.Cond.fieldLinkNest "ColdWorks" (128 : Nat) "ColdWorks$Exchanger" "outs" "J" "ColdWorks"), (Jvm.Cond.fieldLinkNest "ColdWorks" (131 : Nat) "ColdWorks$Exchanger" "takenOut" "J" "ColdWorks"), (Jvm.Cond.fieldLinkNest "ColdWorks" (134 : Nat) "ColdWorks$Exchanger" "flows" "J" "ColdWorks"), (Jvm.Cond.methodLinkNest "ColdWorks" (24 : Nat) ({ cls := "ColdWorks$Controls", name := "<init>", desc := "()V" } : Jvm.MethodName) "ColdWorks"), (Jvm.Cond.fieldLinkNest "ColdWorks" (98 : Nat) "ColdWorks$Controls" "state" "I" "ColdWorks"), (Jvm.Cond.fieldLinkNest "ColdWorks" (221 : Nat) "ColdWorks$Controls" "trips" "I" "ColdWorks"), (Jvm.Cond.fieldLinkNest "ColdWorks" (169 : Nat) "ColdWorks$Controls" "feed" "Z" "ColdWorks"), (Jvm.Cond.fieldLinkNest "ColdWorks" (176 : Nat) "ColdWorks$Controls" "press" "Z" "ColdWorks"), (Jvm.Cond.fieldLinkNest "ColdWorks" (156 : Nat) "ColdWorks$Controls" "vent" "Z" "ColdWorks"), (Jvm.Cond.methodLinkNest "ColdWorks" (31 : Nat) ({ cls := "ColdWorks$Adsorbers", name := "<init>", desc := "()V" } : Jvm.MethodName) "ColdWorks"), (Jvm.Cond.fieldLinkNest "ColdWorks$Adsorbers" (30 : Nat) "ColdWorks$Adsorber" "how" "I" "ColdWorks"), (Jvm.Cond.fieldLinkNest "ColdWorks$Adsorbers" (52 : Nat) "ColdWorks$Adsorber" "load" "I" "ColdWorks"), (Jvm.Cond.fieldLinkNest "ColdWorks" (248 : Nat) "ColdWorks$Adsorbers" "fullLoad" "I" "ColdWorks"), (Jvm.Cond.fieldLinkNest "ColdWorks" (251 : Nat) "ColdWorks$Adsorbers" "heatTicks" "I" "ColdWorks"), (Jvm.Cond.methodLinkNest "ColdWorks" (38 : Nat) ({ cls := "ColdWorks$Store", name := "<init>", desc := "()V" } : Jvm.MethodName) "ColdWorks"), (Jvm.Cond.fieldLinkNest "ColdWorks" (193 : Nat) "ColdWorks$Store" "room" "I" "ColdWorks"), (Jvm.Cond.fieldLinkNest "ColdWorks" (196 : Nat) "ColdWorks$Store" "tank" "I" "ColdWorks"), (Jvm.Cond.fieldLinkNest "ColdWorks" (190 : Nat) "ColdWorks$Store" "bag" "I" "ColdWorks"), (Jvm.Cond.methodLinkNest "ColdWorks" (45 : Nat) ({ cls := "ColdWorks$Orders", name := "<init>", desc := "()V" } : Jvm.MethodName) "ColdWorks"), (Jvm.Cond.fieldLinkNest "ColdWorks" (218 : Nat) "ColdWorks$Orders" "taken" "I" "ColdWorks"), (Jvm.Cond.fieldLinkNest "ColdWorks" (182 : Nat) "ColdWorks$Orders" "nextDay" "I" "ColdWorks"), (Jvm.Cond.fieldLinkNest "ColdWorks" (224 : Nat) "ColdWorks$Orders" "missed" "I" "ColdWorks"), (Jvm.Cond.methodLinkNest "ColdWorks" (227 : Nat) ({ cls := "ColdWorks$Throttle", name := "<init>", desc := "()V" } : Jvm.MethodName) "ColdWorks"), (Jvm.Cond.methodLinkNest "ColdWorks$Wheel" (1 : Nat) ({ cls := "ColdWorks$Throttle", name := "<init>", desc := "()V" } : Jvm.MethodName) "ColdWorks"), (Jvm.Cond.castable "ColdWorks$Wheel" "ColdWorks$Throttle"), (Jvm.Cond.castable "ColdWorks$Braked" "ColdWorks$Throttle")]
theorem nw_0 : Jvm.Cond.fieldLinkNest "ColdWorks" (118 : Nat) "ColdWorks$Exchanger" "warm" "[I" "ColdWorks" ∈ kN := List.mem_of_getElem? (i := 0) (by decide +kernel)
theorem nw_1 : Jvm.Cond.fieldLinkNest "ColdWorks" (122 : Nat) "ColdWorks$Exchanger" "chill" "[I" "ColdWorks" ∈ kN := List.mem_of_getElem? (i := 1) (by decide +kernel)
theorem nw_2 : Jvm.Cond.fieldLinkNest "ColdWorks" (115 : Nat) "ColdWorks$Exchanger" "length" "I" "ColdWorks" ∈ kN := List.mem_of_getElem? (i := 2) (by decide +kernel)
theorem nw_3 : Jvm.Cond.fieldLinkNest "ColdWorks" (125 : Nat) "ColdWorks$Exchanger" "inlets" "J" "ColdWorks" ∈ kN := List.mem_of_getElem? (i := 3) (by decide +kernel)
theorem nw_4 : Jvm.Cond.fieldLinkNest "ColdWorks" (128 : Nat) "ColdWorks$Exchanger" "outs" "J" "ColdWorks" ∈ kN := List.mem_of_getElem? (i := 4) (by decide +kernel)
theorem nw_5 : Jvm.Cond.fieldLinkNest "ColdWorks" (131 : Nat) "ColdWorks$Exchanger" "takenOut" "J" "ColdWorks" ∈ kN := List.mem_of_getElem? (i := 5) (by decide +kernel)
theorem nw_6 : Jvm.Cond.fieldLinkNest "ColdWorks" (134 : Nat) "ColdWorks$Exchanger" "flows" "J" "ColdWorks" ∈ kN := List.mem_of_getElem? (i := 6) (by decide +kernel)
theorem nw_7 : Jvm.Cond.methodLinkNest "ColdWorks" (24 : Nat) ({ cls := "ColdWorks$Controls", name := "<init>", desc := "()V" } : Jvm.MethodName) "ColdWorks" ∈ kN := List.mem_of_getElem? (i := 7) (by decide +kernel)
theorem nw_8 : Jvm.Cond.fieldLinkNest "ColdWorks" (98 : Nat) "ColdWorks$Controls" "state" "I" "ColdWorks" ∈ kN := List.mem_of_getElem? (i := 8) (by decide +kernel)
theorem nw_9 : Jvm.Cond.fieldLinkNest "ColdWorks" (221 : Nat) "ColdWorks$Controls" "trips" "I" "ColdWorks" ∈ kN := List.mem_of_getElem? (i := 9) (by decide +kernel)
theorem nw_10 : Jvm.Cond.fieldLinkNest "ColdWorks" (169 : Nat) "ColdWorks$Controls" "feed" "Z" "ColdWorks" ∈ kN := List.mem_of_getElem? (i := 10) (by decide +kernel)
theorem nw_11 : Jvm.Cond.fieldLinkNest "ColdWorks" (176 : Nat) "ColdWorks$Controls" "press" "Z" "ColdWorks" ∈ kN := List.mem_of_getElem? (i := 11) (by decide +kernel)
theorem nw_12 : Jvm.Cond.fieldLinkNest "ColdWorks" (156 : Nat) "ColdWorks$Controls" "vent" "Z" "ColdWorks" ∈ kN := List.mem_of_getElem? (i := 12) (by decide +kernel)
theorem nw_13 : Jvm.Cond.methodLinkNest "ColdWorks" (31 : Nat) ({ cls := "ColdWorks$Adsorbers", name := "<init>", desc := "()V" } : Jvm.MethodName) "ColdWorks" ∈ kN := List.mem_of_getElem? (i := 13) (by decide +kernel)
theorem nw_14 : Jvm.Cond.fieldLinkNest "ColdWorks$Adsorbers" (30 : Nat) "ColdWorks$Adsorber" "how" "I" "ColdWorks" ∈ kN := List.mem_of_getElem? (i := 14) (by decide +kernel)
theorem nw_15 : Jvm.Cond.fieldLinkNest "ColdWorks$Adsorbers" (52 : Nat) "ColdWorks$Adsorber" "load" "I" "ColdWorks" ∈ kN := List.mem_of_getElem? (i := 15) (by decide +kernel)
theorem nw_16 : Jvm.Cond.fieldLinkNest "ColdWorks" (248 : Nat) "ColdWorks$Adsorbers" "fullLoad" "I" "ColdWorks" ∈ kN := List.mem_of_getElem? (i := 16) (by decide +kernel)
theorem nw_17 : Jvm.Cond.fieldLinkNest "ColdWorks" (251 : Nat) "ColdWorks$Adsorbers" "heatTicks" "I" "ColdWorks" ∈ kN := List.mem_of_getElem? (i := 17) (by decide +kernel)
theorem nw_18 : Jvm.Cond.methodLinkNest "ColdWorks" (38 : Nat) ({ cls := "ColdWorks$Store", name := "<init>", desc := "()V" } : Jvm.MethodName) "ColdWorks" ∈ kN := List.mem_of_getElem? (i := 18) (by decide +kernel)
theorem nw_19 : Jvm.Cond.fieldLinkNest "ColdWorks" (193 : Nat) "ColdWorks$Store" "room" "I" "ColdWorks" ∈ kN := List.mem_of_getElem? (i := 19) (by decide +kernel)
theorem nw_20 : Jvm.Cond.fieldLinkNest "ColdWorks" (196 : Nat) "ColdWorks$Store" "tank" "I" "ColdWorks" ∈ kN := List.mem_of_getElem? (i := 20) (by decide +kernel)
theorem nw_21 : Jvm.Cond.fieldLinkNest "ColdWorks" (190 : Nat) "ColdWorks$Store" "bag" "I" "ColdWorks" ∈ kN := List.mem_of_getElem? (i := 21) (by decide +kernel)
theorem nw_22 : Jvm.Cond.methodLinkNest "ColdWorks" (45 : Nat) ({ cls := "ColdWorks$Orders", name := "<init>", desc := "()V" } : Jvm.MethodName) "ColdWorks" ∈ kN := List.mem_of_getElem? (i := 22) (by decide +kernel)
theorem nw_23 : Jvm.Cond.fieldLinkNest "ColdWorks" (218 : Nat) "ColdWorks$Orders" "taken" "I" "ColdWorks" ∈ kN := List.mem_of_getElem? (i := 23) (by decide +kernel)
theorem nw_24 : Jvm.Cond.fieldLinkNest "ColdWorks" (182 : Nat) "ColdWorks$Orders" "nextDay" "I" "ColdWorks" ∈ kN := List.mem_of_getElem? (i := 24) (by decide +kernel)
theorem nw_25 : Jvm.Cond.fieldLinkNest "ColdWorks" (224 : Nat) "ColdWorks$Orders" "missed" "I" "ColdWorks" ∈ kN := List.mem_of_getElem? (i := 25) (by decide +kernel)
theorem nw_26 : Jvm.Cond.methodLinkNest "ColdWorks" (227 : Nat) ({ cls := "ColdWorks$Throttle", name := "<init>", desc := "()V" } : Jvm.MethodName) "ColdWorks" ∈ kN := List.mem_of_getElem? (i := 26) (by decide +kernel)
theorem nw_27 : Jvm.Cond.methodLinkNest "ColdWorks$Wheel" (1 : Nat) ({ cls := "ColdWorks$Throttle", name := "<init>", desc := "()V" } : Jvm.MethodName) "ColdWorks" ∈ kN := List.mem_of_getElem? (i := 27) (by decide +kernel)
theorem nw_28 : Jvm.Cond.castable "ColdWorks$Wheel" "ColdWorks$Throttle" ∈ kN := List.mem_of_getElem? (i := 28) (by decide +kernel)
theorem nw_29 : Jvm.Cond.castable "ColdWorks$Braked" "ColdWorks$Throttle" ∈ kN := List.mem_of_getElem? (i := 29) (by decide +kernel)
theorem kN_in : ∀ w ∈ kN, w ∈ lw_tbl := List.forall_mem_cons.mpr ⟨List.mem_of_getElem? (i := 67) (by decide +kernel), List.forall_mem_cons.mpr ⟨List.mem_of_getElem? (i := 69) (by decide +kernel), List.forall_mem_cons.mpr ⟨List.mem_of_getElem? (i := 71) (by decide +kernel), List.forall_mem_cons.mpr ⟨List.mem_of_getElem? (i := 74) (by decide +kernel), List.forall_mem_cons.mpr ⟨List.mem_of_getElem? (i := 76) (by decide +kernel), List.forall_mem_cons.mpr ⟨List.mem_of_getElem? (i := 78) (by decide +kernel), List.forall_mem_cons.mpr ⟨List.mem_of_getElem? (i := 80) (by decide +kernel), List.forall_mem_cons.mpr ⟨List.mem_of_getElem? (i := 101) (by decide +kernel), List.forall_mem_cons.mpr ⟨List.mem_of_getElem? (i := 106) (by decide +kernel), List.forall_mem_cons.mpr ⟨List.mem_of_getElem? (i := 109) (by decide +kernel), List.forall_mem_cons.mpr ⟨List.mem_of_getElem? (i := 111) (by decide +kernel), List.forall_mem_cons.mpr ⟨List.mem_of_getElem? (i := 113) (by decide +kernel), List.forall_mem_cons.mpr ⟨List.mem_of_getElem? (i := 115) (by decide +kernel), List.forall_mem_cons.mpr ⟨List.mem_of_getElem? (i := 131) (by decide +kernel), List.forall_mem_cons.mpr ⟨List.mem_of_getElem? (i := 142) (by decide +kernel), List.forall_mem_cons.mpr ⟨List.mem_of_getElem? (i := 144) (by decide +kernel), List.forall_mem_cons.mpr ⟨List.mem_of_getElem? (i := 156) (by decide +kernel), List.forall_mem_cons.mpr ⟨List.mem_of_getElem? (i := 158) (by decide +kernel), List.forall_mem_cons.mpr ⟨List.mem_of_getElem? (i := 170) (by decide +kernel), List.forall_mem_cons.mpr ⟨List.mem_of_getElem? (i := 175) (by decide +kernel), List.forall_mem_cons.mpr ⟨List.mem_of_getElem? (i := 177) (by decide +kernel), List.forall_mem_cons.mpr ⟨List.mem_of_getElem? (i := 179) (by decide +kernel), List.forall_mem_cons.mpr ⟨List.mem_of_getElem? (i := 198) (by decide +kernel), List.forall_mem_cons.mpr ⟨List.mem_of_getElem? (i := 206) (by decide +kernel), List.forall_mem_cons.mpr ⟨List.mem_of_getElem? (i := 208) (by decide +kernel), List.forall_mem_cons.mpr ⟨List.mem_of_getElem? (i := 210) (by decide +kernel), List.forall_mem_cons.mpr ⟨List.mem_of_getElem? (i := 279) (by decide +kernel), List.forall_mem_cons.mpr ⟨List.mem_of_getElem? (i := 289) (by decide +kernel), List.forall_mem_cons.mpr ⟨List.mem_of_getElem? (i := 857) (by decide +kernel), List.forall_mem_cons.mpr ⟨List.mem_of_getElem? (i := 858) (by decide +kernel), fun _ h => absurd h List.not_mem_nil⟩⟩⟩⟩⟩⟩⟩⟩⟩⟩⟩⟩⟩⟩⟩⟩⟩⟩⟩⟩⟩⟩⟩⟩⟩⟩⟩⟩⟩⟩
theorem uX0 : ∀ w ∈ u_ws RX0 TX0 3, w ∈ uT := List.forall_mem_cons.mpr ⟨mw_118, List.forall_mem_cons.mpr ⟨mw_120, List.forall_mem_cons.mpr ⟨mw_122, fun _ h => absurd h List.not_mem_nil⟩⟩⟩
theorem uX1 : ∀ w ∈ u_ws RX1 TX1 4, w ∈ uT := List.forall_mem_cons.mpr ⟨mw_131, List.forall_mem_cons.mpr ⟨mw_133, List.forall_mem_cons.mpr ⟨mw_135, List.forall_mem_cons.mpr ⟨mw_137, fun _ h => absurd h List.not_mem_nil⟩⟩⟩⟩
theorem uX2 : ∀ w ∈ u_ws RX2 TX2 2, w ∈ uT := List.forall_mem_cons.mpr ⟨mw_275, List.forall_mem_cons.mpr ⟨mw_273, fun _ h => absurd h List.not_mem_nil⟩⟩
theorem uX3 : ∀ w ∈ u_ws RX3 TX3 6, w ∈ uT := List.forall_mem_cons.mpr ⟨mw_88, List.forall_mem_cons.mpr ⟨mw_90, List.forall_mem_cons.mpr ⟨mw_92, List.forall_mem_cons.mpr ⟨mw_94, List.forall_mem_cons.mpr ⟨mw_96, List.forall_mem_cons.mpr ⟨mw_98, fun _ h => absurd h List.not_mem_nil⟩⟩⟩⟩⟩⟩
theorem uX4 : ∀ w ∈ u_ws RX4 TX4 8, w ∈ uT := List.forall_mem_cons.mpr ⟨mw_53, List.forall_mem_cons.mpr ⟨mw_55, List.forall_mem_cons.mpr ⟨mw_57, List.forall_mem_cons.mpr ⟨mw_59, List.forall_mem_cons.mpr ⟨mw_61, List.forall_mem_cons.mpr ⟨mw_63, List.forall_mem_cons.mpr ⟨mw_65, List.forall_mem_cons.mpr ⟨mw_67, fun _ h => absurd h List.not_mem_nil⟩⟩⟩⟩⟩⟩⟩⟩
theorem uX5 : ∀ w ∈ u_ws RX5 TX5 6, w ∈ uT := List.forall_mem_cons.mpr ⟨mw_183, List.forall_mem_cons.mpr ⟨mw_185, List.forall_mem_cons.mpr ⟨mw_187, List.forall_mem_cons.mpr ⟨mw_189, List.forall_mem_cons.mpr ⟨mw_191, List.forall_mem_cons.mpr ⟨mw_193, fun _ h => absurd h List.not_mem_nil⟩⟩⟩⟩⟩⟩
theorem uX6 : ∀ w ∈ u_ws RX6 TX6 6, w ∈ uT := List.forall_mem_cons.mpr ⟨mw_155, List.forall_mem_cons.mpr ⟨mw_157, List.forall_mem_cons.mpr ⟨mw_159, List.forall_mem_cons.mpr ⟨mw_161, List.forall_mem_cons.mpr ⟨mw_163, List.forall_mem_cons.mpr ⟨mw_165, fun _ h => absurd h List.not_mem_nil⟩⟩⟩⟩⟩⟩
theorem uX7 : ∀ w ∈ u_ws RX7 TX7 0, w ∈ uT := fun _ h => absurd h List.not_mem_nil
theorem uX8 : ∀ w ∈ u_ws RX8 TX8 1, w ∈ uT := List.forall_mem_cons.mpr ⟨mw_263, fun _ h => absurd h List.not_mem_nil⟩
theorem uX9 : ∀ w ∈ u_ws RX9 TX9 13, w ∈ uT := List.forall_mem_cons.mpr ⟨mw_209, List.forall_mem_cons.mpr ⟨mw_211, List.forall_mem_cons.mpr ⟨mw_213, List.forall_mem_cons.mpr ⟨mw_215, List.forall_mem_cons.mpr ⟨mw_217, List.forall_mem_cons.mpr ⟨mw_219, List.forall_mem_cons.mpr ⟨mw_221, List.forall_mem_cons.mpr ⟨mw_223, List.forall_mem_cons.mpr ⟨mw_225, List.forall_mem_cons.mpr ⟨mw_227, List.forall_mem_cons.mpr ⟨mw_229, List.forall_mem_cons.mpr ⟨mw_231, List.forall_mem_cons.mpr ⟨mw_233, fun _ h => absurd h List.not_mem_nil⟩⟩⟩⟩⟩⟩⟩⟩⟩⟩⟩⟩⟩
theorem uX10 : ∀ w ∈ u_ws RX10 TX10 34, w ∈ uT := List.forall_mem_cons.mpr ⟨mw_617, List.forall_mem_cons.mpr ⟨mw_619, List.forall_mem_cons.mpr ⟨mw_621, List.forall_mem_cons.mpr ⟨mw_623, List.forall_mem_cons.mpr ⟨mw_625, List.forall_mem_cons.mpr ⟨mw_627, List.forall_mem_cons.mpr ⟨mw_629, List.forall_mem_cons.mpr ⟨mw_631, List.forall_mem_cons.mpr ⟨mw_633, List.forall_mem_cons.mpr ⟨mw_635, List.forall_mem_cons.mpr ⟨mw_637, List.forall_mem_cons.mpr ⟨mw_639, List.forall_mem_cons.mpr ⟨mw_641, List.forall_mem_cons.mpr ⟨mw_643, List.forall_mem_cons.mpr ⟨mw_645, List.forall_mem_cons.mpr ⟨mw_647, List.forall_mem_cons.mpr ⟨mw_649, List.forall_mem_cons.mpr ⟨mw_651, List.forall_mem_cons.mpr ⟨mw_653, List.forall_mem_cons.mpr ⟨mw_655, List.forall_mem_cons.mpr ⟨mw_657, List.forall_mem_cons.mpr ⟨mw_659, List.forall_mem_cons.mpr ⟨mw_661, List.forall_mem_cons.mpr ⟨mw_663, List.forall_mem_cons.mpr ⟨mw_665, List.forall_mem_cons.mpr ⟨mw_667, List.forall_mem_cons.mpr ⟨mw_669, List.forall_mem_cons.mpr ⟨mw_671, List.forall_mem_cons.mpr ⟨mw_673, List.forall_mem_cons.mpr ⟨mw_675, List.forall_mem_cons.mpr ⟨mw_677, List.forall_mem_cons.mpr ⟨mw_679, List.forall_mem_cons.mpr ⟨mw_681, List.forall_mem_cons.mpr ⟨mw_683, fun _ h => absurd h List.not_mem_nil⟩⟩⟩⟩⟩⟩⟩⟩⟩⟩⟩⟩⟩⟩⟩⟩⟩⟩⟩⟩⟩⟩⟩⟩⟩⟩⟩⟩⟩⟩⟩⟩⟩⟩
end
section
abbrev kG : Type := va_G × (Nat → ClassId)
def kT (g : kG) : List (ClassId × FieldType) := [(g.2 0, .int), (g.2 1, .long), (g.2 2, .boolean), (g.2 3, .object "ColdWorks$Throttle")]
/-- what is known of the tables: the classes, the array kinds, the nest's words -/
def kK (g : kG) (U : State) : Prop := va_K g.1 vwCl (kT g) U ∧ (∀ w ∈ kN, va_Nw w U) ∧ va_AO "ColdWorks$Throttle" U
def kNf : Cond → Bool
  | .fieldLinkNest .. => true
  | .methodLinkNest .. => true
  | .castable .. => true
  | _ => false
theorem kNf_warm {w : Cond} (h : kNf w = true) {s U : State} (hW : s.WarmedH U.vm) (hZ : va_Nw w s) : va_Nw w U := by
  cases w <;> first | exact va_Nw.warmF hW hZ | exact va_Nw.warmM hW hZ | exact va_Nw.warmC hW hZ | (simp [kNf] at h; done)
theorem kNf_tab {w : Cond} (h : kNf w = true) : w.onTables = true := by
  cases w <;> first | rfl | (simp [kNf] at h; done)
theorem kNf_all : ∀ w ∈ kN, kNf w = true := fun w hw => List.all_eq_true.mp (show kN.all kNf = true from rfl) w hw
theorem kK.warm {g : kG} {s U : State} (hW : s.WarmedH U.vm) (h : kK g s) : kK g U := ⟨va_K.moved hW.alike h.1, fun w hw => kNf_warm (kNf_all w hw) hW (h.2.1 w hw), h.2.2.moved hW.alike⟩
theorem kK.calling {g : kG} {U : State} {fr : JFrame} {mk : MethodId} {a : Array Value} (h : kK g U) : kK g (U.calling fr mk a) := ⟨va_K.moved (u := U) (U := U.calling fr mk a) (Vm.Alike.refl U.vm) h.1, fun w hw => va_Nw.same (kNf_tab (kNf_all w hw)) (u := U) (U := U.calling fr mk a) rfl (h.2.1 w hw), va_AO.moved (u := U) (U := U.calling fr mk a) (Vm.Alike.refl U.vm) h.2.2⟩
def kPre (g : kG) (av : List Value) (ws : va_W) (sz : Nat) : Array Value → State → Prop := va_Pc av (fun U => U.heap.size = sz ∧ va_P g.1 vwCl ws U.heap ∧ kK g U ∧ va_D (fun _ => True) ws)
theorem kPre_blind {g : kG} {av : List Value} {ws : va_W} {sz : Nat} : FrameBlind (kPre g av ws sz) := fun a U fr mk q => by
  obtain ⟨q0, q1, qP, qK, qD⟩ := q
  exact ⟨q0, q1, qP, qK.calling, qD⟩
def kWd (y : MethodName) (cc : ByteArray) (nL : Nat) (ret : Option FieldType) : List Cond := Cond.code y cc nL ret :: uT
theorem kGI {y : MethodName} {cc : ByteArray} {nL : Nat} {ret : Option FieldType} (h : Cond.code y cc nL ret ∈ uT) : GoodIn uT (kWd y cc nL ret) := by
  intro w hw
  rcases List.mem_cons.mp hw with rfl | hw
  · exact ⟨h, good_of_word (uT_good h)⟩
  · exact ⟨hw, good_of_word (uT_good hw)⟩
def kB (g : kG) (A : Nat → Prop) (w : va_W) (t : State) : Prop := va_P g.1 vwCl w t.heap ∧ va_D A w
abbrev kQ : Type := (Nat → Prop) → Array Value → State → Outcome → State → Prop
/-- contracts that tell the answer and the world behind it -/
def kDi (g : kG) (r0 : Int32) (w0 : va_W) : kQ := fun A => va_Qi (fun r w => r = r0 ∧ w = w0) (kB g A) A
def kDl (g : kG) (r0 : Int64) (w0 : va_W) : kQ := fun A => va_Ql (fun r w => r = r0 ∧ w = w0) (kB g A) A
def kDv (g : kG) (w0 : va_W) : kQ := fun A => va_Qv (fun w => w = w0) (kB g A) A
def kDq (g : kG) (r0 : Option Nat) (w0 : va_W) : kQ := fun A => va_Qq (fun r w => r = r0 ∧ w = w0) (kB g A) A
/-- contracts with a world that is only described -/
def kEv (g : kG) (po : va_W → Prop) : kQ := fun A => va_Qv po (kB g A) A
def kEi (g : kG) (po : Int32 → va_W → Prop) : kQ := fun A => va_Qi po (kB g A) A
def kEq (g : kG) (po : Option Nat → va_W → Prop) : kQ := fun A => va_Qq po (kB g A) A
/-- the contract of a method: from the world ws to what Qx says; mc cells of ms slots are made at most -/
def kM (l : Launch) (y : MethodName) (cc : ByteArray) (nL : Nat) (ret : Option FieldType) (rm : Room) (g : kG) (av : List Value) (ws : va_W) (Qx : kQ) : Prop := ∀ sz : Nat, Met l y (kWd y cc nL ret) rm (kPre g av ws sz) (Qx (va_A ws sz)) rm.cells rm.slots (va_A ws sz)
def KW (p : Program) (l : Launch) (e : Env) (R : Room) (s : State) (m : MethodId) (args : Array Value) (below : List Frame) (meth : Method) (c : Code) (Q : State → Prop) (g : kG) (A : Nat → Prop) (nL : Nat) (ws : va_W) (cells slots pc : Nat) (lv : List (Nat × Value)) (st : List Value) : Prop :=
  ∀ (H : Heap) (locs : List Loc) (ls : Array Slot), va_P g.1 vwCl ws H → va_D A ws → va_S A s.heap H locs → lv_has ls nL lv → W p l e R s m args below meth c H locs cells slots Q (F0 m pc ls st)
def kF (p : Program) (s : State) (m : MethodId) (args : Array Value) (meth : Method) (c : Code) (g : kG) (A : Nat → Prop) (nL : Nat) (cc : ByteArray) (own : String) (ret : Option FieldType) (nm : String) : Prop :=
  p.tables.exec = Jvm.exec ∧ c.code = cc ∧ c.maxLocals = nL ∧ s.vm.findClass own = some m.cls ∧ (∀ w ∈ uT, w.before args s = true) ∧ kK g s ∧ (∀ q : Nat, s.heap.size ≤ q → A q) ∧ meth.sig.returnType = ret ∧ meth.locks = false ∧ meth.name = nm
/-- an index with its number, inside a row of n places -/
def kIx (i : Int32) (N n : Nat) : Prop := i.toNatClampNeg = N ∧ vp_in i n
theorem kIx_nI {j n : Nat} (h : j < n) (hn : n < 2 ^ 31) : kIx (nI j) j n := ⟨nI_clamp (by omega), vp_in_nI h hn⟩
theorem kfm {ws wc : va_W} {is : List Nat} (h : is.map (fun i => ws[i]?) = wc.map some) : is.filterMap (fun i => ws[i]?) = wc := by
  have h2 : (is.map (fun i => ws[i]?)).filterMap id = (wc.map some).filterMap id := by rw [h]
  rw [List.filterMap_map, List.filterMap_map] at h2
  have e1 : (id ∘ fun i : Nat => ws[i]?) = (fun i : Nat => ws[i]?) := rfl
  have e2 : (id ∘ some : (Nat × va_E) → Option (Nat × va_E)) = some := rfl
  rw [e1, e2, List.filterMap_some] at h2
  exact h2
section KA
variable {p : Program} {l : Launch} {e : Env} {R : Room} {s : State} {m : MethodId} {args : Array Value} {below : List Frame} {meth : Method} {c : Code} {Q : State → Prop} {g : kG} {A : Nat → Prop} {nL : Nat} {cc : ByteArray} {own : String} {ret : Option FieldType} {nm : String} {ws ws' : va_W} {cells slots pc n : Nat} {lv lv' : List (Nat × Value)} {rest : List Value}
theorem k_iconst (F : kF p s m args meth c g A nL cc own ret nm) {z : Int} {v : Int32} (hd : decode cc pc = .ok (.iconst z, 1)) (hv : Int32.ofInt z = v) (hn : pc + 1 = n) (kk : KW p l e R s m args below meth c Q g A nL ws cells slots n lv (.int v :: rest)) : KW p l e R s m args below meth c Q g A nL ws cells slots pc lv (rest) := by
  subst hn
  exact fun H locs ls hP hD hS hl => lv_iconst F.1 F.2.1 hd hv (kk H locs ls hP hD hS hl)
theorem k_bipush (F : kF p s m args meth c g A nL cc own ret nm) {z : Int} {v : Int32} (hd : decode cc pc = .ok (.bipush z, 2)) (hv : (Int8.ofInt z).toInt32 = v) (hn : pc + 2 = n) (kk : KW p l e R s m args below meth c Q g A nL ws cells slots n lv (.int v :: rest)) : KW p l e R s m args below meth c Q g A nL ws cells slots pc lv (rest) := by
  subst hn
  exact fun H locs ls hP hD hS hl => lv_bipush F.1 F.2.1 hd hv (kk H locs ls hP hD hS hl)
theorem k_sipush (F : kF p s m args meth c g A nL cc own ret nm) {z : Int} {v : Int32} (hd : decode cc pc = .ok (.sipush z, 3)) (hv : (Int16.ofInt z).toInt32 = v) (hn : pc + 3 = n) (kk : KW p l e R s m args below meth c Q g A nL ws cells slots n lv (.int v :: rest)) : KW p l e R s m args below meth c Q g A nL ws cells slots pc lv (rest) := by
  subst hn
  exact fun H locs ls hP hD hS hl => lv_sipush F.1 F.2.1 hd hv (kk H locs ls hP hD hS hl)
theorem k_lconst (F : kF p s m args meth c g A nL cc own ret nm) {z : Fin 2} {v : Int64} (hd : decode cc pc = .ok (.lconst z, 1)) (hv : Int64.ofNat (z : Nat) = v) (hn : pc + 1 = n) (kk : KW p l e R s m args below meth c Q g A nL ws cells slots n lv (.long v :: rest)) : KW p l e R s m args below meth c Q g A nL ws cells slots pc lv (rest) := by
  subst hn
  exact fun H locs ls hP hD hS hl => lv_lconst F.1 F.2.1 hd hv (kk H locs ls hP hD hS hl)
theorem k_ldc2 (F : kF p s m args meth c g A nL cc own ret nm) {idx : Nat} {v : Int64} (hw : Cond.constantLong own idx v ∈ uT) (hd : decode cc pc = .ok (.ldc2_w idx, 3)) (hn : pc + 3 = n) (kk : KW p l e R s m args below meth c Q g A nL ws cells slots n lv (.long v :: rest)) : KW p l e R s m args below meth c Q g A nL ws cells slots pc lv (rest) := by
  subst hn
  exact fun H locs ls hP hD hS hl => lv_ldc2 F.1 F.2.1 F.2.2.2.1 (F.2.2.2.2.1 _ hw) hd (kk H locs ls hP hD hS hl)
theorem k_null (F : kF p s m args meth c g A nL cc own ret nm) (hd : decode cc pc = .ok (.aconst_null, 1)) (hn : pc + 1 = n) (kk : KW p l e R s m args below meth c Q g A nL ws cells slots n lv (.null :: rest)) : KW p l e R s m args below meth c Q g A nL ws cells slots pc lv (rest) := by
  subst hn
  exact fun H locs ls hP hD hS hl => lv_null F.1 F.2.1 hd (kk H locs ls hP hD hS hl)
theorem k_iload_n (F : kF p s m args meth c g A nL cc own ret nm) {k : Fin 4} {i : Nat} {x : Int32} (hd : decode cc pc = .ok (.iload_n k, 1)) (hi : (k : Nat) = i) (j : Nat) (hj : lv[j]? = some (i, .int x)) (hn : pc + 1 = n) (kk : KW p l e R s m args below meth c Q g A nL ws cells slots n lv (.int x :: rest)) : KW p l e R s m args below meth c Q g A nL ws cells slots pc lv (rest) := by
  subst hn
  exact fun H locs ls hP hD hS hl => lv_iload_n F.1 F.2.1 hd hi (lv_at hl j hj) (kk H locs ls hP hD hS hl)
theorem k_iload (F : kF p s m args meth c g A nL cc own ret nm) {i : Nat} {x : Int32} (hd : decode cc pc = .ok (.iload i, 2)) (j : Nat) (hj : lv[j]? = some (i, .int x)) (hn : pc + 2 = n) (kk : KW p l e R s m args below meth c Q g A nL ws cells slots n lv (.int x :: rest)) : KW p l e R s m args below meth c Q g A nL ws cells slots pc lv (rest) := by
  subst hn
  exact fun H locs ls hP hD hS hl => lv_iload F.1 F.2.1 hd (lv_at hl j hj) (kk H locs ls hP hD hS hl)
theorem k_istore_n (F : kF p s m args meth c g A nL cc own ret nm) {k : Fin 4} {i : Nat} {x : Int32} (hd : decode cc pc = .ok (.istore_n k, 1)) (hi : (k : Nat) = i) (hlt : i < nL) (hlv : (i, Value.int x) :: lv.filter (fun q => !(q.1 == i) && !(q.1 + 1 == i && q.2.category == 2)) = lv') (hn : pc + 1 = n) (kk : KW p l e R s m args below meth c Q g A nL ws cells slots n lv' rest) : KW p l e R s m args below meth c Q g A nL ws cells slots pc lv (.int x :: rest) := by
  subst hn
  exact fun H locs ls hP hD hS hl => lv_istore_n F.1 F.2.1 hd hi hl hlt hlv (fun ls1 hl1 => kk H locs ls1 hP hD hS hl1)
theorem k_istore (F : kF p s m args meth c g A nL cc own ret nm) {i : Nat} {x : Int32} (hd : decode cc pc = .ok (.istore i, 2)) (hlt : i < nL) (hlv : (i, Value.int x) :: lv.filter (fun q => !(q.1 == i) && !(q.1 + 1 == i && q.2.category == 2)) = lv') (hn : pc + 2 = n) (kk : KW p l e R s m args below meth c Q g A nL ws cells slots n lv' rest) : KW p l e R s m args below meth c Q g A nL ws cells slots pc lv (.int x :: rest) := by
  subst hn
  exact fun H locs ls hP hD hS hl => lv_istore F.1 F.2.1 hd hl hlt hlv (fun ls1 hl1 => kk H locs ls1 hP hD hS hl1)
theorem k_lload_n (F : kF p s m args meth c g A nL cc own ret nm) {k : Fin 4} {i : Nat} {x : Int64} (hd : decode cc pc = .ok (.lload_n k, 1)) (hi : (k : Nat) = i) (j : Nat) (hj : lv[j]? = some (i, .long x)) (hn : pc + 1 = n) (kk : KW p l e R s m args below meth c Q g A nL ws cells slots n lv (.long x :: rest)) : KW p l e R s m args below meth c Q g A nL ws cells slots pc lv (rest) := by
  subst hn
  exact fun H locs ls hP hD hS hl => lv_lload_n F.1 F.2.1 hd hi (lv_at hl j hj) (kk H locs ls hP hD hS hl)
theorem k_lload (F : kF p s m args meth c g A nL cc own ret nm) {i : Nat} {x : Int64} (hd : decode cc pc = .ok (.lload i, 2)) (j : Nat) (hj : lv[j]? = some (i, .long x)) (hn : pc + 2 = n) (kk : KW p l e R s m args below meth c Q g A nL ws cells slots n lv (.long x :: rest)) : KW p l e R s m args below meth c Q g A nL ws cells slots pc lv (rest) := by
  subst hn
  exact fun H locs ls hP hD hS hl => lv_lload F.1 F.2.1 hd (lv_at hl j hj) (kk H locs ls hP hD hS hl)
theorem k_lstore_n (F : kF p s m args meth c g A nL cc own ret nm) {k : Fin 4} {i : Nat} {x : Int64} (hd : decode cc pc = .ok (.lstore_n k, 1)) (hi : (k : Nat) = i) (hlt : i + 1 < nL) (hlv : (i, Value.long x) :: lv.filter (fun q => !(q.1 == i) && (!(q.1 == i + 1) && !(q.1 + 1 == i && q.2.category == 2))) = lv') (hn : pc + 1 = n) (kk : KW p l e R s m args below meth c Q g A nL ws cells slots n lv' rest) : KW p l e R s m args below meth c Q g A nL ws cells slots pc lv (.long x :: rest) := by
  subst hn
  exact fun H locs ls hP hD hS hl => lv_lstore_n F.1 F.2.1 hd hi hl hlt hlv (fun ls1 hl1 => kk H locs ls1 hP hD hS hl1)
theorem k_lstore (F : kF p s m args meth c g A nL cc own ret nm) {i : Nat} {x : Int64} (hd : decode cc pc = .ok (.lstore i, 2)) (hlt : i + 1 < nL) (hlv : (i, Value.long x) :: lv.filter (fun q => !(q.1 == i) && (!(q.1 == i + 1) && !(q.1 + 1 == i && q.2.category == 2))) = lv') (hn : pc + 2 = n) (kk : KW p l e R s m args below meth c Q g A nL ws cells slots n lv' rest) : KW p l e R s m args below meth c Q g A nL ws cells slots pc lv (.long x :: rest) := by
  subst hn
  exact fun H locs ls hP hD hS hl => lv_lstore F.1 F.2.1 hd hl hlt hlv (fun ls1 hl1 => kk H locs ls1 hP hD hS hl1)
theorem k_aload_n (F : kF p s m args meth c g A nL cc own ret nm) {k : Fin 4} {i : Nat} {x : Nat} (hd : decode cc pc = .ok (.aload_n k, 1)) (hi : (k : Nat) = i) (j : Nat) (hj : lv[j]? = some (i, .ref x)) (hn : pc + 1 = n) (kk : KW p l e R s m args below meth c Q g A nL ws cells slots n lv (.ref x :: rest)) : KW p l e R s m args below meth c Q g A nL ws cells slots pc lv (rest) := by
  subst hn
  exact fun H locs ls hP hD hS hl => lv_aload_n F.1 F.2.1 hd hi (lv_at hl j hj) (kk H locs ls hP hD hS hl)
theorem k_aload (F : kF p s m args meth c g A nL cc own ret nm) {i : Nat} {x : Nat} (hd : decode cc pc = .ok (.aload i, 2)) (j : Nat) (hj : lv[j]? = some (i, .ref x)) (hn : pc + 2 = n) (kk : KW p l e R s m args below meth c Q g A nL ws cells slots n lv (.ref x :: rest)) : KW p l e R s m args below meth c Q g A nL ws cells slots pc lv (rest) := by
  subst hn
  exact fun H locs ls hP hD hS hl => lv_aload F.1 F.2.1 hd (lv_at hl j hj) (kk H locs ls hP hD hS hl)
theorem k_astore_n (F : kF p s m args meth c g A nL cc own ret nm) {k : Fin 4} {i : Nat} {x : Nat} (hd : decode cc pc = .ok (.astore_n k, 1)) (hi : (k : Nat) = i) (hlt : i < nL) (hlv : (i, Value.ref x) :: lv.filter (fun q => !(q.1 == i) && !(q.1 + 1 == i && q.2.category == 2)) = lv') (hn : pc + 1 = n) (kk : KW p l e R s m args below meth c Q g A nL ws cells slots n lv' rest) : KW p l e R s m args below meth c Q g A nL ws cells slots pc lv (.ref x :: rest) := by
  subst hn
  exact fun H locs ls hP hD hS hl => lv_astore_n F.1 F.2.1 hd hi hl hlt hlv (fun ls1 hl1 => kk H locs ls1 hP hD hS hl1)
theorem k_astore (F : kF p s m args meth c g A nL cc own ret nm) {i : Nat} {x : Nat} (hd : decode cc pc = .ok (.astore i, 2)) (hlt : i < nL) (hlv : (i, Value.ref x) :: lv.filter (fun q => !(q.1 == i) && !(q.1 + 1 == i && q.2.category == 2)) = lv') (hn : pc + 2 = n) (kk : KW p l e R s m args below meth c Q g A nL ws cells slots n lv' rest) : KW p l e R s m args below meth c Q g A nL ws cells slots pc lv (.ref x :: rest) := by
  subst hn
  exact fun H locs ls hP hD hS hl => lv_astore F.1 F.2.1 hd hl hlt hlv (fun ls1 hl1 => kk H locs ls1 hP hD hS hl1)
theorem k_aload_nN (F : kF p s m args meth c g A nL cc own ret nm) {k : Fin 4} {i : Nat} (hd : decode cc pc = .ok (.aload_n k, 1)) (hi : (k : Nat) = i) (j : Nat) (hj : lv[j]? = some (i, .null)) (hn : pc + 1 = n) (kk : KW p l e R s m args below meth c Q g A nL ws cells slots n lv (.null :: rest)) : KW p l e R s m args below meth c Q g A nL ws cells slots pc lv (rest) := by
  subst hn
  exact fun H locs ls hP hD hS hl => lv_aload_nN F.1 F.2.1 hd hi (lv_at hl j hj) (kk H locs ls hP hD hS hl)
theorem k_astore_nN (F : kF p s m args meth c g A nL cc own ret nm) {k : Fin 4} {i : Nat} (hd : decode cc pc = .ok (.astore_n k, 1)) (hi : (k : Nat) = i) (hlt : i < nL) (hlv : (i, Value.null) :: lv.filter (fun q => !(q.1 == i) && !(q.1 + 1 == i && q.2.category == 2)) = lv') (hn : pc + 1 = n) (kk : KW p l e R s m args below meth c Q g A nL ws cells slots n lv' rest) : KW p l e R s m args below meth c Q g A nL ws cells slots pc lv (.null :: rest) := by
  subst hn
  exact fun H locs ls hP hD hS hl => lv_astore_nN F.1 F.2.1 hd hi hl hlt hlv (fun ls1 hl1 => kk H locs ls1 hP hD hS hl1)
theorem k_iinc (F : kF p s m args meth c g A nL cc own ret nm) {i j : Nat} {z : Int} {x v : Int32} (hd : decode cc pc = .ok (.iinc i z, 3)) (hj : lv[j]? = some (i, .int x)) (hv : x + Int32.ofInt z = v) (hlt : i < nL) (hlv : (i, Value.int v) :: lv.filter (fun q => !(q.1 == i) && !(q.1 + 1 == i && q.2.category == 2)) = lv') (hn : pc + 3 = n) (kk : KW p l e R s m args below meth c Q g A nL ws cells slots n lv' rest) : KW p l e R s m args below meth c Q g A nL ws cells slots pc lv rest := by
  subst hn
  exact fun H locs ls hP hD hS hl => lv_iinc F.1 F.2.1 hd hl hj hv hlt hlv (fun ls1 hl1 => kk H locs ls1 hP hD hS hl1)
theorem k_iadd (F : kF p s m args meth c g A nL cc own ret nm) {x y : Int32} (hd : decode cc pc = .ok (.iadd, 1)) (hn : pc + 1 = n) (kk : KW p l e R s m args below meth c Q g A nL ws cells slots n lv (.int (x + y) :: rest)) : KW p l e R s m args below meth c Q g A nL ws cells slots pc lv (.int y :: .int x :: rest) := by
  subst hn
  exact fun H locs ls hP hD hS hl => lv_iadd F.1 F.2.1 hd (kk H locs ls hP hD hS hl)
theorem k_isub (F : kF p s m args meth c g A nL cc own ret nm) {x y : Int32} (hd : decode cc pc = .ok (.isub, 1)) (hn : pc + 1 = n) (kk : KW p l e R s m args below meth c Q g A nL ws cells slots n lv (.int (x - y) :: rest)) : KW p l e R s m args below meth c Q g A nL ws cells slots pc lv (.int y :: .int x :: rest) := by
  subst hn
  exact fun H locs ls hP hD hS hl => lv_isub F.1 F.2.1 hd (kk H locs ls hP hD hS hl)
theorem k_imul (F : kF p s m args meth c g A nL cc own ret nm) {x y : Int32} (hd : decode cc pc = .ok (.imul, 1)) (hn : pc + 1 = n) (kk : KW p l e R s m args below meth c Q g A nL ws cells slots n lv (.int (x * y) :: rest)) : KW p l e R s m args below meth c Q g A nL ws cells slots pc lv (.int y :: .int x :: rest) := by
  subst hn
  exact fun H locs ls hP hD hS hl => lv_imul F.1 F.2.1 hd (kk H locs ls hP hD hS hl)
theorem k_iand (F : kF p s m args meth c g A nL cc own ret nm) {x y : Int32} (hd : decode cc pc = .ok (.iand, 1)) (hn : pc + 1 = n) (kk : KW p l e R s m args below meth c Q g A nL ws cells slots n lv (.int (x &&& y) :: rest)) : KW p l e R s m args below meth c Q g A nL ws cells slots pc lv (.int y :: .int x :: rest) := by
  subst hn
  exact fun H locs ls hP hD hS hl => lv_iand F.1 F.2.1 hd (kk H locs ls hP hD hS hl)
theorem k_ior (F : kF p s m args meth c g A nL cc own ret nm) {x y : Int32} (hd : decode cc pc = .ok (.ior, 1)) (hn : pc + 1 = n) (kk : KW p l e R s m args below meth c Q g A nL ws cells slots n lv (.int (x ||| y) :: rest)) : KW p l e R s m args below meth c Q g A nL ws cells slots pc lv (.int y :: .int x :: rest) := by
  subst hn
  exact fun H locs ls hP hD hS hl => lv_ior F.1 F.2.1 hd (kk H locs ls hP hD hS hl)
theorem k_idiv (F : kF p s m args meth c g A nL cc own ret nm) {x y : Int32} (hd : decode cc pc = .ok (.idiv, 1)) (hy : ¬ y = 0) (hn : pc + 1 = n) (kk : KW p l e R s m args below meth c Q g A nL ws cells slots n lv (.int (x / y) :: rest)) : KW p l e R s m args below meth c Q g A nL ws cells slots pc lv (.int y :: .int x :: rest) := by
  subst hn
  exact fun H locs ls hP hD hS hl => lv_idiv F.1 F.2.1 hd hy (kk H locs ls hP hD hS hl)
theorem k_irem (F : kF p s m args meth c g A nL cc own ret nm) {x y : Int32} (hd : decode cc pc = .ok (.irem, 1)) (hy : ¬ y = 0) (hn : pc + 1 = n) (kk : KW p l e R s m args below meth c Q g A nL ws cells slots n lv (.int (x - x / y * y) :: rest)) : KW p l e R s m args below meth c Q g A nL ws cells slots pc lv (.int y :: .int x :: rest) := by
  subst hn
  exact fun H locs ls hP hD hS hl => lv_irem F.1 F.2.1 hd hy (kk H locs ls hP hD hS hl)
theorem k_ladd (F : kF p s m args meth c g A nL cc own ret nm) {x y : Int64} (hd : decode cc pc = .ok (.ladd, 1)) (hn : pc + 1 = n) (kk : KW p l e R s m args below meth c Q g A nL ws cells slots n lv (.long (x + y) :: rest)) : KW p l e R s m args below meth c Q g A nL ws cells slots pc lv (.long y :: .long x :: rest) := by
  subst hn
  exact fun H locs ls hP hD hS hl => lv_ladd F.1 F.2.1 hd (kk H locs ls hP hD hS hl)
theorem k_lsub (F : kF p s m args meth c g A nL cc own ret nm) {x y : Int64} (hd : decode cc pc = .ok (.lsub, 1)) (hn : pc + 1 = n) (kk : KW p l e R s m args below meth c Q g A nL ws cells slots n lv (.long (x - y) :: rest)) : KW p l e R s m args below meth c Q g A nL ws cells slots pc lv (.long y :: .long x :: rest) := by
  subst hn
  exact fun H locs ls hP hD hS hl => lv_lsub F.1 F.2.1 hd (kk H locs ls hP hD hS hl)
theorem k_lcmp (F : kF p s m args meth c g A nL cc own ret nm) {x y : Int64} (hd : decode cc pc = .ok (.lcmp, 1)) (hn : pc + 1 = n) (kk : KW p l e R s m args below meth c Q g A nL ws cells slots n lv (.int (lg_cmp x y) :: rest)) : KW p l e R s m args below meth c Q g A nL ws cells slots pc lv (.long y :: .long x :: rest) := by
  subst hn
  exact fun H locs ls hP hD hS hl => W.lcmp F.1 F.2.1 hd (kk H locs ls hP hD hS hl)
theorem k_i2l (F : kF p s m args meth c g A nL cc own ret nm) {x : Int32} (hd : decode cc pc = .ok (.i2l, 1)) (hn : pc + 1 = n) (kk : KW p l e R s m args below meth c Q g A nL ws cells slots n lv (.long x.toInt64 :: rest)) : KW p l e R s m args below meth c Q g A nL ws cells slots pc lv (.int x :: rest) := by
  subst hn
  exact fun H locs ls hP hD hS hl => lv_i2l F.1 F.2.1 hd rfl (kk H locs ls hP hD hS hl)
theorem k_dup (F : kF p s m args meth c g A nL cc own ret nm) {va : Value} (hd : decode cc pc = .ok (.dup, 1)) (hva : va.category = 1) (hn : pc + 1 = n) (kk : KW p l e R s m args below meth c Q g A nL ws cells slots n lv (va :: va :: rest)) : KW p l e R s m args below meth c Q g A nL ws cells slots pc lv (va :: rest) := by
  subst hn
  exact fun H locs ls hP hD hS hl => lv_dup F.1 F.2.1 hd hva (kk H locs ls hP hD hS hl)
theorem k_pop (F : kF p s m args meth c g A nL cc own ret nm) {va : Value} (hd : decode cc pc = .ok (.pop, 1)) (hva : va.category = 1) (hn : pc + 1 = n) (kk : KW p l e R s m args below meth c Q g A nL ws cells slots n lv (rest)) : KW p l e R s m args below meth c Q g A nL ws cells slots pc lv (va :: rest) := by
  subst hn
  exact fun H locs ls hP hD hS hl => lv_pop F.1 F.2.1 hd hva (kk H locs ls hP hD hS hl)
theorem k_dup_x1 (F : kF p s m args meth c g A nL cc own ret nm) {va vb : Value} (hd : decode cc pc = .ok (.dup_x1, 1)) (hva : va.category = 1) (hvb : vb.category = 1) (hn : pc + 1 = n) (kk : KW p l e R s m args below meth c Q g A nL ws cells slots n lv (va :: vb :: va :: rest)) : KW p l e R s m args below meth c Q g A nL ws cells slots pc lv (va :: vb :: rest) := by
  subst hn
  exact fun H locs ls hP hD hS hl => lv_dup_x1 F.1 F.2.1 hd hva hvb (kk H locs ls hP hD hS hl)
theorem k_dup_x2 (F : kF p s m args meth c g A nL cc own ret nm) {va vb vd : Value} (hd : decode cc pc = .ok (.dup_x2, 1)) (hva : va.category = 1) (hvb : vb.category = 1) (hvd : vd.category = 1) (hn : pc + 1 = n) (kk : KW p l e R s m args below meth c Q g A nL ws cells slots n lv (va :: vb :: vd :: va :: rest)) : KW p l e R s m args below meth c Q g A nL ws cells slots pc lv (va :: vb :: vd :: rest) := by
  subst hn
  exact fun H locs ls hP hD hS hl => lv_dup_x2 F.1 F.2.1 hd hva hvb hvd (kk H locs ls hP hD hS hl)
theorem k_dup2_11 (F : kF p s m args meth c g A nL cc own ret nm) {va vb : Value} (hd : decode cc pc = .ok (.dup2, 1)) (hva : va.category = 1) (hvb : vb.category = 1) (hn : pc + 1 = n) (kk : KW p l e R s m args below meth c Q g A nL ws cells slots n lv (va :: vb :: va :: vb :: rest)) : KW p l e R s m args below meth c Q g A nL ws cells slots pc lv (va :: vb :: rest) := by
  subst hn
  exact fun H locs ls hP hD hS hl => lv_dup2_11 F.1 F.2.1 hd hva hvb (kk H locs ls hP hD hS hl)
theorem k_dup2_2 (F : kF p s m args meth c g A nL cc own ret nm) {va : Value} (hd : decode cc pc = .ok (.dup2, 1)) (hva : va.category = 2) (hn : pc + 1 = n) (kk : KW p l e R s m args below meth c Q g A nL ws cells slots n lv (va :: va :: rest)) : KW p l e R s m args below meth c Q g A nL ws cells slots pc lv (va :: rest) := by
  subst hn
  exact fun H locs ls hP hD hS hl => lv_dup2_2 F.1 F.2.1 hd hva (kk H locs ls hP hD hS hl)
theorem k_goto (F : kF p s m args meth c g A nL cc own ret nm) {off : Int} {tgt : Nat} (hd : decode cc pc = .ok (.goto off, 3)) (ht : (pc : Int) + off = (tgt : Int)) (kk : KW p l e R s m args below meth c Q g A nL ws cells slots tgt lv rest) : KW p l e R s m args below meth c Q g A nL ws cells slots pc lv rest := fun H locs ls hP hD hS hl => lv_goto F.1 F.2.1 hd ht (kk H locs ls hP hD hS hl)
theorem k_if_eq (F : kF p s m args meth c g A nL cc own ret nm) {x : Int32} {off : Int} {tgt : Nat} (hd : decode cc pc = .ok (.ifCond .eq off, 3)) (ht : (pc : Int) + off = (tgt : Int)) (hn : pc + 3 = n) (kt : x = 0 → KW p l e R s m args below meth c Q g A nL ws cells slots tgt lv rest) (kf : ¬ x = 0 → KW p l e R s m args below meth c Q g A nL ws cells slots n lv rest) : KW p l e R s m args below meth c Q g A nL ws cells slots pc lv (.int x :: rest) := by
  subst hn
  exact fun H locs ls hP hD hS hl => lv_if_eq F.1 F.2.1 hd ht (fun h => kt h H locs ls hP hD hS hl) (fun h => kf h H locs ls hP hD hS hl)
theorem k_if_ne (F : kF p s m args meth c g A nL cc own ret nm) {x : Int32} {off : Int} {tgt : Nat} (hd : decode cc pc = .ok (.ifCond .ne off, 3)) (ht : (pc : Int) + off = (tgt : Int)) (hn : pc + 3 = n) (kt : ¬ x = 0 → KW p l e R s m args below meth c Q g A nL ws cells slots tgt lv rest) (kf : x = 0 → KW p l e R s m args below meth c Q g A nL ws cells slots n lv rest) : KW p l e R s m args below meth c Q g A nL ws cells slots pc lv (.int x :: rest) := by
  subst hn
  exact fun H locs ls hP hD hS hl => lv_if_ne F.1 F.2.1 hd ht (fun h => kt h H locs ls hP hD hS hl) (fun h => kf h H locs ls hP hD hS hl)
theorem k_if_lt (F : kF p s m args meth c g A nL cc own ret nm) {x : Int32} {off : Int} {tgt : Nat} (hd : decode cc pc = .ok (.ifCond .lt off, 3)) (ht : (pc : Int) + off = (tgt : Int)) (hn : pc + 3 = n) (kt : x < 0 → KW p l e R s m args below meth c Q g A nL ws cells slots tgt lv rest) (kf : ¬ x < 0 → KW p l e R s m args below meth c Q g A nL ws cells slots n lv rest) : KW p l e R s m args below meth c Q g A nL ws cells slots pc lv (.int x :: rest) := by
  subst hn
  exact fun H locs ls hP hD hS hl => lv_if_lt F.1 F.2.1 hd ht (fun h => kt h H locs ls hP hD hS hl) (fun h => kf h H locs ls hP hD hS hl)
theorem k_if_ge (F : kF p s m args meth c g A nL cc own ret nm) {x : Int32} {off : Int} {tgt : Nat} (hd : decode cc pc = .ok (.ifCond .ge off, 3)) (ht : (pc : Int) + off = (tgt : Int)) (hn : pc + 3 = n) (kt : 0 ≤ x → KW p l e R s m args below meth c Q g A nL ws cells slots tgt lv rest) (kf : ¬ 0 ≤ x → KW p l e R s m args below meth c Q g A nL ws cells slots n lv rest) : KW p l e R s m args below meth c Q g A nL ws cells slots pc lv (.int x :: rest) := by
  subst hn
  exact fun H locs ls hP hD hS hl => lv_if_ge F.1 F.2.1 hd ht (fun h => kt h H locs ls hP hD hS hl) (fun h => kf h H locs ls hP hD hS hl)
theorem k_if_gt (F : kF p s m args meth c g A nL cc own ret nm) {x : Int32} {off : Int} {tgt : Nat} (hd : decode cc pc = .ok (.ifCond .gt off, 3)) (ht : (pc : Int) + off = (tgt : Int)) (hn : pc + 3 = n) (kt : 0 < x → KW p l e R s m args below meth c Q g A nL ws cells slots tgt lv rest) (kf : ¬ 0 < x → KW p l e R s m args below meth c Q g A nL ws cells slots n lv rest) : KW p l e R s m args below meth c Q g A nL ws cells slots pc lv (.int x :: rest) := by
  subst hn
  exact fun H locs ls hP hD hS hl => lv_if_gt F.1 F.2.1 hd ht (fun h => kt h H locs ls hP hD hS hl) (fun h => kf h H locs ls hP hD hS hl)
theorem k_if_le (F : kF p s m args meth c g A nL cc own ret nm) {x : Int32} {off : Int} {tgt : Nat} (hd : decode cc pc = .ok (.ifCond .le off, 3)) (ht : (pc : Int) + off = (tgt : Int)) (hn : pc + 3 = n) (kt : x ≤ 0 → KW p l e R s m args below meth c Q g A nL ws cells slots tgt lv rest) (kf : ¬ x ≤ 0 → KW p l e R s m args below meth c Q g A nL ws cells slots n lv rest) : KW p l e R s m args below meth c Q g A nL ws cells slots pc lv (.int x :: rest) := by
  subst hn
  exact fun H locs ls hP hD hS hl => lv_if_le F.1 F.2.1 hd ht (fun h => kt h H locs ls hP hD hS hl) (fun h => kf h H locs ls hP hD hS hl)
theorem k_icmp_eq (F : kF p s m args meth c g A nL cc own ret nm) {x y : Int32} {off : Int} {tgt : Nat} (hd : decode cc pc = .ok (.if_icmp .eq off, 3)) (ht : (pc : Int) + off = (tgt : Int)) (hn : pc + 3 = n) (kt : x = y → KW p l e R s m args below meth c Q g A nL ws cells slots tgt lv rest) (kf : ¬ x = y → KW p l e R s m args below meth c Q g A nL ws cells slots n lv rest) : KW p l e R s m args below meth c Q g A nL ws cells slots pc lv (.int y :: .int x :: rest) := by
  subst hn
  exact fun H locs ls hP hD hS hl => lv_icmp_eq F.1 F.2.1 hd ht (fun h => kt h H locs ls hP hD hS hl) (fun h => kf h H locs ls hP hD hS hl)
theorem k_icmp_ne (F : kF p s m args meth c g A nL cc own ret nm) {x y : Int32} {off : Int} {tgt : Nat} (hd : decode cc pc = .ok (.if_icmp .ne off, 3)) (ht : (pc : Int) + off = (tgt : Int)) (hn : pc + 3 = n) (kt : ¬ x = y → KW p l e R s m args below meth c Q g A nL ws cells slots tgt lv rest) (kf : x = y → KW p l e R s m args below meth c Q g A nL ws cells slots n lv rest) : KW p l e R s m args below meth c Q g A nL ws cells slots pc lv (.int y :: .int x :: rest) := by
  subst hn
  exact fun H locs ls hP hD hS hl => lv_icmp_ne F.1 F.2.1 hd ht (fun h => kt h H locs ls hP hD hS hl) (fun h => kf h H locs ls hP hD hS hl)
theorem k_icmp_lt (F : kF p s m args meth c g A nL cc own ret nm) {x y : Int32} {off : Int} {tgt : Nat} (hd : decode cc pc = .ok (.if_icmp .lt off, 3)) (ht : (pc : Int) + off = (tgt : Int)) (hn : pc + 3 = n) (kt : x < y → KW p l e R s m args below meth c Q g A nL ws cells slots tgt lv rest) (kf : ¬ x < y → KW p l e R s m args below meth c Q g A nL ws cells slots n lv rest) : KW p l e R s m args below meth c Q g A nL ws cells slots pc lv (.int y :: .int x :: rest) := by
  subst hn
  exact fun H locs ls hP hD hS hl => lv_icmp_lt F.1 F.2.1 hd ht (fun h => kt h H locs ls hP hD hS hl) (fun h => kf h H locs ls hP hD hS hl)
theorem k_icmp_ge (F : kF p s m args meth c g A nL cc own ret nm) {x y : Int32} {off : Int} {tgt : Nat} (hd : decode cc pc = .ok (.if_icmp .ge off, 3)) (ht : (pc : Int) + off = (tgt : Int)) (hn : pc + 3 = n) (kt : y ≤ x → KW p l e R s m args below meth c Q g A nL ws cells slots tgt lv rest) (kf : ¬ y ≤ x → KW p l e R s m args below meth c Q g A nL ws cells slots n lv rest) : KW p l e R s m args below meth c Q g A nL ws cells slots pc lv (.int y :: .int x :: rest) := by
  subst hn
  exact fun H locs ls hP hD hS hl => lv_icmp_ge F.1 F.2.1 hd ht (fun h => kt h H locs ls hP hD hS hl) (fun h => kf h H locs ls hP hD hS hl)
theorem k_icmp_gt (F : kF p s m args meth c g A nL cc own ret nm) {x y : Int32} {off : Int} {tgt : Nat} (hd : decode cc pc = .ok (.if_icmp .gt off, 3)) (ht : (pc : Int) + off = (tgt : Int)) (hn : pc + 3 = n) (kt : y < x → KW p l e R s m args below meth c Q g A nL ws cells slots tgt lv rest) (kf : ¬ y < x → KW p l e R s m args below meth c Q g A nL ws cells slots n lv rest) : KW p l e R s m args below meth c Q g A nL ws cells slots pc lv (.int y :: .int x :: rest) := by
  subst hn
  exact fun H locs ls hP hD hS hl => lv_icmp_gt F.1 F.2.1 hd ht (fun h => kt h H locs ls hP hD hS hl) (fun h => kf h H locs ls hP hD hS hl)
theorem k_icmp_le (F : kF p s m args meth c g A nL cc own ret nm) {x y : Int32} {off : Int} {tgt : Nat} (hd : decode cc pc = .ok (.if_icmp .le off, 3)) (ht : (pc : Int) + off = (tgt : Int)) (hn : pc + 3 = n) (kt : x ≤ y → KW p l e R s m args below meth c Q g A nL ws cells slots tgt lv rest) (kf : ¬ x ≤ y → KW p l e R s m args below meth c Q g A nL ws cells slots n lv rest) : KW p l e R s m args below meth c Q g A nL ws cells slots pc lv (.int y :: .int x :: rest) := by
  subst hn
  exact fun H locs ls hP hD hS hl => lv_icmp_le F.1 F.2.1 hd ht (fun h => kt h H locs ls hP hD hS hl) (fun h => kf h H locs ls hP hD hS hl)
theorem k_ifnull (F : kF p s m args meth c g A nL cc own ret nm) {x : Nat} {off : Int} (hd : decode cc pc = .ok (.ifnull off, 3)) (hn : pc + 3 = n) (kk : KW p l e R s m args below meth c Q g A nL ws cells slots n lv rest) : KW p l e R s m args below meth c Q g A nL ws cells slots pc lv (.ref x :: rest) := by
  subst hn
  exact fun H locs ls hP hD hS hl => lv_ifnull F.1 F.2.1 hd (kk H locs ls hP hD hS hl)
theorem k_ifnullN (F : kF p s m args meth c g A nL cc own ret nm) {off : Int} {tgt : Nat} (hd : decode cc pc = .ok (.ifnull off, 3)) (ht : (pc : Int) + off = (tgt : Int)) (kk : KW p l e R s m args below meth c Q g A nL ws cells slots tgt lv rest) : KW p l e R s m args below meth c Q g A nL ws cells slots pc lv (.null :: rest) := fun H locs ls hP hD hS hl => lv_ifnullN F.1 F.2.1 hd ht (kk H locs ls hP hD hS hl)
theorem k_ifnonnull (F : kF p s m args meth c g A nL cc own ret nm) {x : Nat} {off : Int} {tgt : Nat} (hd : decode cc pc = .ok (.ifnonnull off, 3)) (ht : (pc : Int) + off = (tgt : Int)) (kk : KW p l e R s m args below meth c Q g A nL ws cells slots tgt lv rest) : KW p l e R s m args below meth c Q g A nL ws cells slots pc lv (.ref x :: rest) := fun H locs ls hP hD hS hl => lv_ifnonnull F.1 F.2.1 hd ht (kk H locs ls hP hD hS hl)
theorem k_ifnonnullN (F : kF p s m args meth c g A nL cc own ret nm) {off : Int} (hd : decode cc pc = .ok (.ifnonnull off, 3)) (hn : pc + 3 = n) (kk : KW p l e R s m args below meth c Q g A nL ws cells slots n lv rest) : KW p l e R s m args below meth c Q g A nL ws cells slots pc lv (.null :: rest) := by
  subst hn
  exact fun H locs ls hP hD hS hl => lv_ifnonnullN F.1 F.2.1 hd (kk H locs ls hP hD hS hl)
theorem k_tableOut (F : kF p s m args meth c g A nL cc own ret nm) {dflt lo hi : Int} {offs : Array Int} {len : Nat} {x : Int32} {tgt : Nat} (hd : decode cc pc = .ok (.tableswitch dflt lo hi offs, len)) (h : x.toInt < lo ∨ hi < x.toInt) (ht : (pc : Int) + dflt = (tgt : Int)) (kk : KW p l e R s m args below meth c Q g A nL ws cells slots tgt lv rest) : KW p l e R s m args below meth c Q g A nL ws cells slots pc lv (.int x :: rest) := fun H locs ls hP hD hS hl => lv_tableOut F.1 F.2.1 hd h ht (kk H locs ls hP hD hS hl)
theorem k_tableIn (F : kF p s m args meth c g A nL cc own ret nm) {dflt lo hi : Int} {offs : Array Int} {len : Nat} {x : Int32} {off : Int} {tgt : Nat} (hd : decode cc pc = .ok (.tableswitch dflt lo hi offs, len)) (h1 : ¬ x.toInt < lo) (h2 : ¬ hi < x.toInt) (ho : offs[(x.toInt - lo).toNat]? = some off) (ht : (pc : Int) + off = (tgt : Int)) (kk : KW p l e R s m args below meth c Q g A nL ws cells slots tgt lv rest) : KW p l e R s m args below meth c Q g A nL ws cells slots pc lv (.int x :: rest) := fun H locs ls hP hD hS hl => lv_tableIn F.1 F.2.1 hd h1 h2 ho ht (kk H locs ls hP hD hS hl)
theorem k_lookup (F : kF p s m args meth c g A nL cc own ret nm) {dflt : Int} {ps : Array (Int × Int)} {len : Nat} {x : Int32} {off : Int} {tgt : Nat} (hd : decode cc pc = .ok (.lookupswitch dflt ps, len)) (hp : (ps.toList.zip (ps.toList.drop 1)).all (fun (a, next) => a.1 < next.1) = true) (ho : Op.lookupswitch.offset ps.toList dflt x.toInt = off) (ht : (pc : Int) + off = (tgt : Int)) (kk : KW p l e R s m args below meth c Q g A nL ws cells slots tgt lv rest) : KW p l e R s m args below meth c Q g A nL ws cells slots pc lv (.int x :: rest) := fun H locs ls hP hD hS hl => lv_lookup F.1 F.2.1 hd hp ho ht (kk H locs ls hP hD hS hl)
theorem k_get (F : kF p s m args meth c g A nL cc own ret nm) {C : String} {T : u_T} {N ci idx a : Nat} {fs : List Value} {v : Value} (hin : ∀ w ∈ u_ws C T N, w ∈ uT) (q0 k : Nat) (he : ws[q0]? = some (a, .inr (ci, fs))) (hc : vwCl[ci]? = some (C, T, N)) (hk : k < N) (hlink : Cond.fieldLink own idx (T k).1 (T k).2.1 (T k).2.2.1 ∈ uT) (hv : fs[k]? = some v) (hd : decode cc pc = .ok (.getfield idx, 3)) (hn : pc + 3 = n) (kk : KW p l e R s m args below meth c Q g A nL ws cells slots n lv (v :: rest)) : KW p l e R s m args below meth c Q g A nL ws cells slots pc lv (.ref a :: rest) := by
  subst hn
  exact fun H locs ls hP hD hS hl => va_get F.1 F.2.1 F.2.2.2.2.1 hin F.2.2.2.1 F.2.2.2.2.2.1.1 hP q0 he hc k hk (F.2.2.2.2.1 _ hlink) (fun _ h9 => h9) hv hd (kk H locs ls hP hD hS hl)
theorem k_put (F : kF p s m args meth c g A nL cc own ret nm) {C : String} {T : u_T} {N ci idx a : Nat} {fs : List Value} {v : Value} (hin : ∀ w ∈ u_ws C T N, w ∈ uT) {ty0 : Nat → FieldType} (hty : ∀ k, k < N → parseFieldDescriptor (T k).2.2.1 = some (ty0 k)) (hnm : ∀ a, a < N → ∀ b, b < N → a ≠ b → (T a).2.1 ≠ (T b).2.1) (q0 k : Nat) (he : ws[q0]? = some (a, .inr (ci, fs))) (hc : vwCl[ci]? = some (C, T, N)) (hk : k < N) (hlink : Cond.fieldLink own idx (T k).1 (T k).2.1 (T k).2.2.1 ∈ uT) (hfin : (T k).2.2.2 = false) (hnar : narrow (ty0 k) v = v) (hfit : fits (ty0 k) v = true) (hl : k < fs.length) (hw : ws.set q0 (a, .inr (ci, fs.set k v)) = ws') (hd : decode cc pc = .ok (.putfield idx, 3)) (hn : pc + 3 = n) (kk : KW p l e R s m args below meth c Q g A nL ws' cells slots n lv rest) : KW p l e R s m args below meth c Q g A nL ws cells slots pc lv (v :: .ref a :: rest) := by
  subst hn
  subst hw
  exact fun H locs ls hP hD hS hlv => va_put F.1 F.2.1 F.2.2.2.2.1 hin ty0 hty hnm F.2.2.2.1 F.2.2.2.2.2.1.1 hP hD hS q0 he hc k hk (F.2.2.2.2.1 _ hlink) (fun _ h9 => h9) hfin (hty k hk) hnar hfit hl hd (fun H1 locs1 hP1 hD1 hS1 => kk H1 locs1 ls hP1 hD1 hS1 hlv)
theorem k_getN (F : kF p s m args meth c g A nL cc own ret nm) {C : String} {T : u_T} {N ci idx a : Nat} {fs : List Value} {v : Value} {host : String} (hin : ∀ w ∈ u_ws C T N, w ∈ uT) (q0 k : Nat) (he : ws[q0]? = some (a, .inr (ci, fs))) (hc : vwCl[ci]? = some (C, T, N)) (hk : k < N) (hlink : Cond.fieldLinkNest own idx (T k).1 (T k).2.1 (T k).2.2.1 host ∈ kN) (hv : fs[k]? = some v) (hd : decode cc pc = .ok (.getfield idx, 3)) (hn : pc + 3 = n) (kk : KW p l e R s m args below meth c Q g A nL ws cells slots n lv (v :: rest)) : KW p l e R s m args below meth c Q g A nL ws cells slots pc lv (.ref a :: rest) := by
  subst hn
  exact fun H locs ls hP hD hS hl => va_getN F.1 F.2.1 F.2.2.2.2.1 hin F.2.2.2.1 F.2.2.2.2.2.1.1 hP q0 he hc k hk (va_Nw.use (kNf_tab (kNf_all _ hlink)) (F.2.2.2.2.2.1.2.1 _ hlink)) (fun _ h9 => h9) hv hd (kk H locs ls hP hD hS hl)
theorem k_putN (F : kF p s m args meth c g A nL cc own ret nm) {C : String} {T : u_T} {N ci idx a : Nat} {fs : List Value} {v : Value} {host : String} (hin : ∀ w ∈ u_ws C T N, w ∈ uT) {ty0 : Nat → FieldType} (hty : ∀ k, k < N → parseFieldDescriptor (T k).2.2.1 = some (ty0 k)) (hnm : ∀ a, a < N → ∀ b, b < N → a ≠ b → (T a).2.1 ≠ (T b).2.1) (q0 k : Nat) (he : ws[q0]? = some (a, .inr (ci, fs))) (hc : vwCl[ci]? = some (C, T, N)) (hk : k < N) (hlink : Cond.fieldLinkNest own idx (T k).1 (T k).2.1 (T k).2.2.1 host ∈ kN) (hfin : (T k).2.2.2 = false) (hnar : narrow (ty0 k) v = v) (hfit : fits (ty0 k) v = true) (hl : k < fs.length) (hw : ws.set q0 (a, .inr (ci, fs.set k v)) = ws') (hd : decode cc pc = .ok (.putfield idx, 3)) (hn : pc + 3 = n) (kk : KW p l e R s m args below meth c Q g A nL ws' cells slots n lv rest) : KW p l e R s m args below meth c Q g A nL ws cells slots pc lv (v :: .ref a :: rest) := by
  subst hn
  subst hw
  exact fun H locs ls hP hD hS hlv => va_putN F.1 F.2.1 F.2.2.2.2.1 hin ty0 hty hnm F.2.2.2.1 F.2.2.2.2.2.1.1 hP hD hS q0 he hc k hk (va_Nw.use (kNf_tab (kNf_all _ hlink)) (F.2.2.2.2.2.1.2.1 _ hlink)) (fun _ h9 => h9) hfin (hty k hk) hnar hfit hl hd (fun H1 locs1 hP1 hD1 hS1 => kk H1 locs1 ls hP1 hD1 hS1 hlv)
theorem k_putF (F : kF p s m args meth c g A nL cc own ret nm) {C : String} {T : u_T} {N ci idx a : Nat} {fs : List Value} {v : Value} (hin : ∀ w ∈ u_ws C T N, w ∈ uT) {ty0 : Nat → FieldType} (hty : ∀ k, k < N → parseFieldDescriptor (T k).2.2.1 = some (ty0 k)) (hnm : ∀ a, a < N → ∀ b, b < N → a ≠ b → (T a).2.1 ≠ (T b).2.1) (q0 k : Nat) (he : ws[q0]? = some (a, .inr (ci, fs))) (hc : vwCl[ci]? = some (C, T, N)) (hk : k < N) (hlink : Cond.fieldLink own idx (T k).1 (T k).2.1 (T k).2.2.1 ∈ uT) (hfin : (T k).2.2.2 = true) (hnmI : nm = "<init>") (hdecl : (T k).1 = own) (hnar : narrow (ty0 k) v = v) (hfit : fits (ty0 k) v = true) (hl : k < fs.length) (hw : ws.set q0 (a, .inr (ci, fs.set k v)) = ws') (hd : decode cc pc = .ok (.putfield idx, 3)) (hn : pc + 3 = n) (kk : KW p l e R s m args below meth c Q g A nL ws' cells slots n lv rest) : KW p l e R s m args below meth c Q g A nL ws cells slots pc lv (v :: .ref a :: rest) := by
  subst hn
  subst hw
  exact fun H locs ls hP hD hS hlv => va_putF F.1 F.2.1 F.2.2.2.2.1 hin ty0 hty hnm F.2.2.2.1 F.2.2.2.2.2.1.1 hP hD hS q0 he hc k hk (F.2.2.2.2.1 _ hlink) (fun _ h9 => h9) hfin (F.2.2.2.2.2.2.2.2.2.trans hnmI) hdecl (hty k hk) hnar hfit hl hd (fun H1 locs1 hP1 hD1 hS1 => kk H1 locs1 ls hP1 hD1 hS1 hlv)
theorem k_iald (F : kF p s m args meth c g A nL cc own ret nm) {a n0 N : Nat} {i : Int32} {f : Nat → Int32} (q0 : Nat) (ha : ws[q0]? = some (a, .inl (g.2 0, n0, .inl f))) (hix : kIx i N n0) (hd : decode cc pc = .ok (.iaload, 1)) (hn : pc + 1 = n) (kk : KW p l e R s m args below meth c Q g A nL ws cells slots n lv (.int (f N) :: rest)) : KW p l e R s m args below meth c Q g A nL ws cells slots pc lv (.int i :: .ref a :: rest) := by
  subst hn
  obtain ⟨rfl, hin⟩ := hix
  exact fun H locs ls hP hD hS hl => va_iald F.1 F.2.1 F.2.2.2.2.2.1.1 hP q0 0 ha rfl hin hd (kk H locs ls hP hD hS hl)
theorem k_lald (F : kF p s m args meth c g A nL cc own ret nm) {a n0 N : Nat} {i : Int32} {f : Nat → Int64} (q0 : Nat) (ha : ws[q0]? = some (a, .inl (g.2 1, n0, .inr (.inl f)))) (hix : kIx i N n0) (hd : decode cc pc = .ok (.laload, 1)) (hn : pc + 1 = n) (kk : KW p l e R s m args below meth c Q g A nL ws cells slots n lv (.long (f N) :: rest)) : KW p l e R s m args below meth c Q g A nL ws cells slots pc lv (.int i :: .ref a :: rest) := by
  subst hn
  obtain ⟨rfl, hin⟩ := hix
  exact fun H locs ls hP hD hS hl => va_lald F.1 F.2.1 F.2.2.2.2.2.1.1 hP q0 1 ha rfl hin hd (kk H locs ls hP hD hS hl)
theorem k_zald (F : kF p s m args meth c g A nL cc own ret nm) {a n0 N : Nat} {i : Int32} {f : Nat → Int32} (q0 : Nat) (ha : ws[q0]? = some (a, .inl (g.2 2, n0, .inl f))) (hix : kIx i N n0) (hd : decode cc pc = .ok (.baload, 1)) (hn : pc + 1 = n) (kk : KW p l e R s m args below meth c Q g A nL ws cells slots n lv (.int (f N) :: rest)) : KW p l e R s m args below meth c Q g A nL ws cells slots pc lv (.int i :: .ref a :: rest) := by
  subst hn
  obtain ⟨rfl, hin⟩ := hix
  exact fun H locs ls hP hD hS hl => va_zald F.1 F.2.1 F.2.2.2.2.2.1.1 hP q0 2 ha rfl hin hd (kk H locs ls hP hD hS hl)
theorem k_iast (F : kF p s m args meth c g A nL cc own ret nm) {a n0 N : Nat} {i : Int32} {x : Int32} {f : Nat → Int32} (q0 : Nat) (ha : ws[q0]? = some (a, .inl (g.2 0, n0, .inl f))) (hix : kIx i N n0) (hw : ws.set q0 (a, .inl (g.2 0, n0, .inl (upd f N x))) = ws') (hd : decode cc pc = .ok (.iastore, 1)) (hn : pc + 1 = n) (kk : KW p l e R s m args below meth c Q g A nL ws' cells slots n lv rest) : KW p l e R s m args below meth c Q g A nL ws cells slots pc lv (.int x :: .int i :: .ref a :: rest) := by
  subst hn
  obtain ⟨rfl, hin⟩ := hix
  subst hw
  exact fun H locs ls hP hD hS hl => va_iast F.1 F.2.1 F.2.2.2.2.2.1.1 hP hD hS q0 0 ha rfl hin hd (fun H1 locs1 hP1 hD1 hS1 => kk H1 locs1 ls hP1 hD1 hS1 hl)
theorem k_last (F : kF p s m args meth c g A nL cc own ret nm) {a n0 N : Nat} {i : Int32} {x : Int64} {f : Nat → Int64} (q0 : Nat) (ha : ws[q0]? = some (a, .inl (g.2 1, n0, .inr (.inl f)))) (hix : kIx i N n0) (hw : ws.set q0 (a, .inl (g.2 1, n0, .inr (.inl (vp_updL f N x)))) = ws') (hd : decode cc pc = .ok (.lastore, 1)) (hn : pc + 1 = n) (kk : KW p l e R s m args below meth c Q g A nL ws' cells slots n lv rest) : KW p l e R s m args below meth c Q g A nL ws cells slots pc lv (.long x :: .int i :: .ref a :: rest) := by
  subst hn
  obtain ⟨rfl, hin⟩ := hix
  subst hw
  exact fun H locs ls hP hD hS hl => va_last F.1 F.2.1 F.2.2.2.2.2.1.1 hP hD hS q0 1 ha rfl hin hd (fun H1 locs1 hP1 hD1 hS1 => kk H1 locs1 ls hP1 hD1 hS1 hl)
theorem k_zast (F : kF p s m args meth c g A nL cc own ret nm) {a n0 N : Nat} {i x : Int32} {f : Nat → Int32} (q0 : Nat) (ha : ws[q0]? = some (a, .inl (g.2 2, n0, .inl f))) (hix : kIx i N n0) (hx : vp_nar .boolean x = x) (hw : ws.set q0 (a, .inl (g.2 2, n0, .inl (upd f N x))) = ws') (hd : decode cc pc = .ok (.bastore, 1)) (hn : pc + 1 = n) (kk : KW p l e R s m args below meth c Q g A nL ws' cells slots n lv rest) : KW p l e R s m args below meth c Q g A nL ws cells slots pc lv (.int x :: .int i :: .ref a :: rest) := by
  subst hn
  obtain ⟨rfl, hin⟩ := hix
  subst hw
  exact fun H locs ls hP hD hS hl => va_zast F.1 F.2.1 F.2.2.2.2.2.1.1 hP hD hS q0 2 ha rfl hin hd (fun H1 locs1 hP1 hD1 hS1 => kk H1 locs1 ls (by rw [hx] at hP1; exact hP1) (by rw [hx] at hD1; exact hD1) hS1 hl)
theorem k_alen (F : kF p s m args meth c g A nL cc own ret nm) {a n0 : Nat} {f : Nat → Int32} {v : Int32} (q0 : Nat) (ha : ws[q0]? = some (a, .inl (g.2 0, n0, .inl f))) (hv : Int32.ofNat n0 = v) (hd : decode cc pc = .ok (.arraylength, 1)) (hn : pc + 1 = n) (kk : KW p l e R s m args below meth c Q g A nL ws cells slots n lv (.int v :: rest)) : KW p l e R s m args below meth c Q g A nL ws cells slots pc lv (.ref a :: rest) := by
  subst hn
  exact fun H locs ls hP hD hS hl => va_alen F.1 F.2.1 F.2.2.2.2.2.1.1 hP q0 0 ha rfl hv hd (kk H locs ls hP hD hS hl)
theorem k_aald (F : kF p s m args meth c g A nL cc own ret nm) {a n0 N : Nat} {i : Int32} {f : Nat → Option Nat} (q0 : Nat) (ha : ws[q0]? = some (a, .inl (g.2 3, n0, .inr (.inr (.inr (.inr f)))))) (hix : kIx i N n0) (hd : decode cc pc = .ok (.aaload, 1)) (hn : pc + 1 = n) (kk : KW p l e R s m args below meth c Q g A nL ws cells slots n lv (va_rf (f N) :: rest)) : KW p l e R s m args below meth c Q g A nL ws cells slots pc lv (.int i :: .ref a :: rest) := by
  subst hn
  obtain ⟨rfl, hin⟩ := hix
  exact fun H locs ls hP hD hS hl => va_aldq F.1 F.2.1 F.2.2.2.2.2.1.1 hP q0 3 ha rfl hin hd (kk H locs ls hP hD hS hl)
theorem k_lv (ks : List Nat) (h : lv_pick lv ks = lv') (kk : KW p l e R s m args below meth c Q g A nL ws cells slots pc lv' rest) : KW p l e R s m args below meth c Q g A nL ws cells slots pc lv rest := fun H locs ls hP hD hS hl => kk H locs ls hP hD hS (lv_sub hl ks h)
theorem k_sub (is : List Nat) (h : is.map (fun i => ws[i]?) = ws'.map some) (hn : va_nd is = true) (kk : KW p l e R s m args below meth c Q g A nL ws' cells slots pc lv rest) : KW p l e R s m args below meth c Q g A nL ws cells slots pc lv rest := fun H locs ls hP hD hS hl => kk H locs ls (hP.sub is (kfm h)) (hD.sub is hn h) hS hl
theorem k_world (h : ws = ws') (kk : KW p l e R s m args below meth c Q g A nL ws' cells slots pc lv rest) : KW p l e R s m args below meth c Q g A nL ws cells slots pc lv rest := h ▸ kk
/-- the same cells, told otherwise -/
theorem k_same (h : ∀ (H : Heap), va_P g.1 vwCl ws H → va_P g.1 vwCl ws' H) (ha : ws.map Prod.fst = ws'.map Prod.fst) (kk : KW p l e R s m args below meth c Q g A nL ws' cells slots pc lv rest) : KW p l e R s m args below meth c Q g A nL ws cells slots pc lv rest := by
  intro H locs ls hP hD hS hl
  refine kk H locs ls (h H hP) ?_ hS hl
  have key : ∀ (k : Nat) (q : Nat × va_E), ws'[k]? = some q → ∃ q0, ws[k]? = some q0 ∧ q0.1 = q.1 := by
    intro k q hq
    have h1 : (ws.map Prod.fst)[k]? = some q.1 := by rw [ha, List.getElem?_map, hq]; rfl
    rw [List.getElem?_map] at h1
    cases hz : ws[k]? with
    | none => rw [hz] at h1; cases h1
    | some z => rw [hz] at h1; exact ⟨z, rfl, Option.some.inj h1⟩
  refine ⟨fun i j x y hx hy hxy => ?_, fun k q hq => ?_⟩
  · obtain ⟨x0, a1, a2⟩ := key i x hx
    obtain ⟨y0, b1, b2⟩ := key j y hy
    exact hD.1 i j x0 y0 a1 b1 (a2.trans (hxy.trans b2.symm))
  · obtain ⟨q0, a1, a2⟩ := key k q hq
    rw [← a2]
    exact hD.2 k q0 a1
theorem k_widen {a b : Nat} (h1 : cells ≤ a) (h2 : slots ≤ b) (kk : KW p l e R s m args below meth c Q g A nL ws a b pc lv rest) : KW p l e R s m args below meth c Q g A nL ws cells slots pc lv rest := fun H locs ls hP hD hS hl => W.widen h1 h2 (kk H locs ls hP hD hS hl)
theorem k_valI {x y : Int32} (h : x = y) (kk : KW p l e R s m args below meth c Q g A nL ws cells slots pc lv (.int y :: rest)) : KW p l e R s m args below meth c Q g A nL ws cells slots pc lv (.int x :: rest) := h ▸ kk
theorem k_valL {x y : Int64} (h : x = y) (kk : KW p l e R s m args below meth c Q g A nL ws cells slots pc lv (.long y :: rest)) : KW p l e R s m args below meth c Q g A nL ws cells slots pc lv (.long x :: rest) := h ▸ kk
theorem k_valV {x y : Value} (h : x = y) (kk : KW p l e R s m args below meth c Q g A nL ws cells slots pc lv (y :: rest)) : KW p l e R s m args below meth c Q g A nL ws cells slots pc lv (x :: rest) := h ▸ kk
end KA
section KR
variable {p : Program} {l : Launch} {e : Env} {R : Room} {s : State} {m : MethodId} {args : Array Value} {below : List Frame} {meth : Method} {c : Code} {g : kG} {A : Nat → Prop} {nL : Nat} {cc : ByteArray} {own : String} {ret : Option FieldType} {nm : String} {ws : va_W} {cells slots pc : Nat} {lv : List (Nat × Value)}
theorem k_iretE (F : kF p s m args meth c g A nL cc own (some .int) nm) {v : Int32} {po : Int32 → va_W → Prop} (hpo : po v ws) (hd : decode cc pc = .ok (.ireturn, 1)) : KW p l e R s m args below meth c (MQ below (kEi g po A) args s cells slots A) g A nL ws cells slots pc lv [.int v] :=
  fun H locs ls hP hD hS hl => W.iret (Qc := kEi g po A) F.1 F.2.1 F.2.2.2.2.2.2.2.1 (fun t ht hW => ⟨⟨v, ws, rfl, hpo, by rw [ht]; exact hP, hD⟩, hS.F ht⟩) hS.2.2 hd F.2.2.2.2.2.2.2.2.1
theorem k_iret (F : kF p s m args meth c g A nL cc own (some .int) nm) {v r0 : Int32} {w0 : va_W} (hr : v = r0) (hw : ws = w0) (hd : decode cc pc = .ok (.ireturn, 1)) : KW p l e R s m args below meth c (MQ below (kDi g r0 w0 A) args s cells slots A) g A nL ws cells slots pc lv [.int v] :=
  fun H locs ls hP hD hS hl => W.iret (Qc := kDi g r0 w0 A) F.1 F.2.1 F.2.2.2.2.2.2.2.1 (fun t ht hW => ⟨⟨v, ws, rfl, ⟨hr, hw⟩, by rw [ht]; exact hP, hD⟩, hS.F ht⟩) hS.2.2 hd F.2.2.2.2.2.2.2.2.1
theorem k_zret (F : kF p s m args meth c g A nL cc own (some .boolean) nm) {v r0 : Int32} {w0 : va_W} (hv : narrow .boolean (.int v) = .int v) (hr : v = r0) (hw : ws = w0) (hd : decode cc pc = .ok (.ireturn, 1)) : KW p l e R s m args below meth c (MQ below (kDi g r0 w0 A) args s cells slots A) g A nL ws cells slots pc lv [.int v] :=
  fun H locs ls hP hD hS hl => W.zret (Qc := kDi g r0 w0 A) F.1 F.2.1 F.2.2.2.2.2.2.2.1 hv (fun t ht hW => ⟨⟨v, ws, rfl, ⟨hr, hw⟩, by rw [ht]; exact hP, hD⟩, hS.F ht⟩) hS.2.2 hd F.2.2.2.2.2.2.2.2.1
theorem k_lret (F : kF p s m args meth c g A nL cc own (some .long) nm) {v r0 : Int64} {w0 : va_W} (hr : v = r0) (hw : ws = w0) (hd : decode cc pc = .ok (.lreturn, 1)) : KW p l e R s m args below meth c (MQ below (kDl g r0 w0 A) args s cells slots A) g A nL ws cells slots pc lv [.long v] :=
  fun H locs ls hP hD hS hl => W.lret (Qc := kDl g r0 w0 A) F.1 F.2.1 F.2.2.2.2.2.2.2.1 (fun t ht hW => ⟨⟨v, ws, rfl, ⟨hr, hw⟩, by rw [ht]; exact hP, hD⟩, hS.F ht⟩) hS.2.2 hd F.2.2.2.2.2.2.2.2.1
theorem k_vret (F : kF p s m args meth c g A nL cc own none nm) {w0 : va_W} (hw : ws = w0) (hd : decode cc pc = .ok (.return_, 1)) : KW p l e R s m args below meth c (MQ below (kDv g w0 A) args s cells slots A) g A nL ws cells slots pc lv [] :=
  fun H locs ls hP hD hS hl => W.vret (Qc := kDv g w0 A) F.1 F.2.1 F.2.2.2.2.2.2.2.1 (fun t ht hW => ⟨⟨ws, rfl, hw, by rw [ht]; exact hP, hD⟩, hS.F ht⟩) hS.2.2 hd F.2.2.2.2.2.2.2.2.1
theorem k_vretE (F : kF p s m args meth c g A nL cc own none nm) {po : va_W → Prop} (hw : po ws) (hd : decode cc pc = .ok (.return_, 1)) : KW p l e R s m args below meth c (MQ below (kEv g po A) args s cells slots A) g A nL ws cells slots pc lv [] :=
  fun H locs ls hP hD hS hl => W.vret (Qc := kEv g po A) F.1 F.2.1 F.2.2.2.2.2.2.2.1 (fun t ht hW => ⟨⟨ws, rfl, hw, by rw [ht]; exact hP, hD⟩, hS.F ht⟩) hS.2.2 hd F.2.2.2.2.2.2.2.2.1
theorem k_aretE {C : String} (F : kF p s m args meth c g A nL cc own (some (.object C)) nm) {v : Option Nat} {po : Option Nat → va_W → Prop} (hpo : po v ws) (hd : decode cc pc = .ok (.areturn, 1)) : KW p l e R s m args below meth c (MQ below (kEq g po A) args s cells slots A) g A nL ws cells slots pc lv [va_rf v] :=
  fun H locs ls hP hD hS hl => W.aret (Qc := kEq g po A) F.1 F.2.1 F.2.2.2.2.2.2.2.1 (Or.inl ⟨_, rfl⟩) (va_rf_or v) (fun t ht hW => ⟨⟨v, ws, rfl, hpo, by rw [ht]; exact hP, hD⟩, hS.F ht⟩) hS.2.2 hd F.2.2.2.2.2.2.2.2.1
end KR
theorem k_enter {l : Launch} {y : MethodName} {cc : ByteArray} {nL : Nat} {ret : Option FieldType} {rm : Room} {g : kG} {av : List Value} {ws : va_W} {Qx : kQ} (hy : plainName y.cls = true) (hlen : (lg_sl av).length ≤ nL)
    (body : ∀ (p : Program) (e : Env) (s : State) (m : MethodId) (args : Array Value) (below : List Frame) (meth : Method) (c : Code) (A : Nat → Prop), kF p s m args meth c g A nL cc y.cls ret y.name → KW p l e rm s m args below meth c (MQ below (Qx A) args s rm.cells rm.slots A) g A nL ws 0 0 0 (lv_args 0 av) []) : kM l y cc nL ret rm g av ws Qx := by
  intro sz
  refine Met.ofW (cc := cc) (maxL := nL) (ret := ret) hy rfl ?_
  intro p e s m args below meth c s₁ B hml hv
  obtain ⟨rfl, hsz, hP, hK, hD0⟩ := hv
  have hts0 := atoms_spec (ws := kWd y cc nL ret) B.pre
  have hl := lv_entry av hlen
  rw [lg_entry_eq]
  exact body p e s m _ below meth c (va_A ws sz) ⟨B.exec, B.bytes, hml, findClass_of_methodNamed B.named, fun w hw => hts0 w (List.mem_cons_of_mem _ hw), hK, fun q h => Or.inr (by rw [← hsz]; exact h), B.returns, B.notSynchronized, (name_of_methodNamed B.named B.method).1⟩ s.heap [] _ hP (hD0.self (sz := sz)) va_S.rf hl
end
section
section KC
variable {p : Program} {l : Launch} {e : Env} {R : Room} {s : State} {m : MethodId} {args : Array Value} {below : List Frame} {meth : Method} {c : Code} {Q : State → Prop} {g : kG} {A : Nat → Prop} {nL : Nat} {cc : ByteArray} {own : String} {ret0 : Option FieldType} {nm : String} {ws ws' wc wr : va_W} {cells slots pc n : Nat} {lv : List (Nat × Value)} {rest st0 : List Value}
/-- a call is run: whatever the way in which it is called -/
def kR (p : Program) (l : Launch) (e : Env) (R : Room) (s : State) (m : MethodId) (args : Array Value) (below : List Frame) (meth : Method) (c : Code) (g : kG) (A : Nat → Prop) (nL : Nat) (ws wc : va_W) (cells slots mc ms pc : Nat) (lv : List (Nat × Value)) (st0 rest : List Value) (Qx : kQ) : Prop :=
  ∃ a : Array Value, ∀ (H : Heap) (locs : List Loc) (ls : Array Slot), va_P g.1 vwCl ws H → va_D A ws → va_S A s.heap H locs → lv_has ls nL lv → va_Run p l e R s m args below meth c H locs cells slots mc ms (F0 m pc ls st0) rest (Qx (va_A wc H.size) a) (va_A wc H.size)
theorem k_keep {H H1 : Heap} {is : List Nat} (hP : va_P g.1 vwCl ws H) (hD : va_D A ws) (hC : is.map (fun i => ws[i]?) = wc.map some) (hk : ∀ q : Nat, q < H.size → ¬ va_A wc H.size q → H1[q]? = H[q]?) (hP1 : va_P g.1 vwCl wc H1) : va_P g.1 vwCl ws H1 := by
  intro k q hq
  have hlt := (hP k q hq).lt
  by_cases hz : va_A wc H.size q.1
  · rcases hz with ⟨k2, e2, h2⟩ | h2
    · have h1 : (is.map (fun i => ws[i]?))[k2]? = some (some (q.1, e2)) := by rw [hC, List.getElem?_map, h2]; rfl
      rw [List.getElem?_map] at h1
      cases hi : is[k2]? with
      | none => rw [hi] at h1; cases h1
      | some i =>
        rw [hi] at h1
        have h3 : ws[i]? = some (q.1, e2) := Option.some.inj h1
        have h4 := hD.1 k i q (q.1, e2) hq h3 rfl
        subst h4
        rw [hq] at h3
        have h5 : q = (q.1, e2) := Option.some.inj h3
        have h6 := hP1 k2 _ h2
        rw [← h5] at h6
        exact h6
    · omega
  · exact (hP k q hq).kept (hk q.1 hlt hz)
theorem k_ci {mc ms : Nat} {r0 : Int32} {w0 : va_W} (F : kF p s m args meth c g A nL cc own ret0 nm) (hr : kR p l e R s m args below meth c g A nL ws wc cells slots mc ms pc lv st0 rest (kDi g r0 w0)) (isC isR is : List Nat) (hC : isC.map (fun i => ws[i]?) = wc.map some) (hR : isR.map (fun i => ws[i]?) = (isR.filterMap (fun i => ws[i]?)).map some) (hnR : va_nd isR = true) (hdis : ∀ i ∈ isR, i ∉ isC) (hw' : is.map (fun i => (isR.filterMap (fun i => ws[i]?) ++ w0)[i]?) = ws'.map some) (hn' : va_nd is = true) (hn : pc + 3 = n) (kk : KW p l e R s m args below meth c Q g A nL ws' (cells + mc) (slots + ms) n lv (.int r0 :: rest)) : KW p l e R s m args below meth c Q g A nL ws cells slots pc lv st0 := by
  subst hn
  obtain ⟨a, hr⟩ := hr
  intro H locs ls hP hD hS hl
  have hFc := va_free (wc := wc) hD hS F.2.2.2.2.2.2.1 isC hC
  refine va_calli (hr H locs ls hP hD hS hl) hS (fun q _ h => hFc q h) hFc (fun r u t H1 locs1 ht hvm hw hB hz hk hS1 => ?_)
  obtain ⟨rfl, rfl⟩ := hw
  obtain ⟨hP1, hD1⟩ := hB
  rw [ht] at hP1
  obtain ⟨hP2, hD2⟩ := va_join hP hD isC isR hC hR hnR hdis hk hFc hP1 hD1
  exact kk H1 locs1 ls (hP2.sub is (kfm hw')) (hD2.sub is hn' hw') hS1 hl
/-- a call that leaves its cells as they are -/
theorem k_ciR {mc ms : Nat} {r0 : Int32} (F : kF p s m args meth c g A nL cc own ret0 nm) (hr : kR p l e R s m args below meth c g A nL ws wc cells slots mc ms pc lv st0 rest (kDi g r0 wc)) (isC : List Nat) (hC : isC.map (fun i => ws[i]?) = wc.map some) (hn : pc + 3 = n) (kk : KW p l e R s m args below meth c Q g A nL ws (cells + mc) (slots + ms) n lv (.int r0 :: rest)) : KW p l e R s m args below meth c Q g A nL ws cells slots pc lv st0 := by
  subst hn
  obtain ⟨a, hr⟩ := hr
  intro H locs ls hP hD hS hl
  have hFc := va_free (wc := wc) hD hS F.2.2.2.2.2.2.1 isC hC
  refine va_calli (hr H locs ls hP hD hS hl) hS (fun q _ h => hFc q h) hFc (fun r u t H1 locs1 ht hvm hw hB hz hk hS1 => ?_)
  obtain ⟨rfl, rfl⟩ := hw
  obtain ⟨hP1, hD1⟩ := hB
  rw [ht] at hP1
  exact kk H1 locs1 ls (k_keep hP hD hC hk hP1) hD hS1 hl
theorem k_cl {mc ms : Nat} {r0 : Int64} {w0 : va_W} (F : kF p s m args meth c g A nL cc own ret0 nm) (hr : kR p l e R s m args below meth c g A nL ws wc cells slots mc ms pc lv st0 rest (kDl g r0 w0)) (isC isR is : List Nat) (hC : isC.map (fun i => ws[i]?) = wc.map some) (hR : isR.map (fun i => ws[i]?) = (isR.filterMap (fun i => ws[i]?)).map some) (hnR : va_nd isR = true) (hdis : ∀ i ∈ isR, i ∉ isC) (hw' : is.map (fun i => (isR.filterMap (fun i => ws[i]?) ++ w0)[i]?) = ws'.map some) (hn' : va_nd is = true) (hn : pc + 3 = n) (kk : KW p l e R s m args below meth c Q g A nL ws' (cells + mc) (slots + ms) n lv (.long r0 :: rest)) : KW p l e R s m args below meth c Q g A nL ws cells slots pc lv st0 := by
  subst hn
  obtain ⟨a, hr⟩ := hr
  intro H locs ls hP hD hS hl
  have hFc := va_free (wc := wc) hD hS F.2.2.2.2.2.2.1 isC hC
  refine va_calll (hr H locs ls hP hD hS hl) hS (fun q _ h => hFc q h) hFc (fun r u t H1 locs1 ht hvm hw hB hz hk hS1 => ?_)
  obtain ⟨rfl, rfl⟩ := hw
  obtain ⟨hP1, hD1⟩ := hB
  rw [ht] at hP1
  obtain ⟨hP2, hD2⟩ := va_join hP hD isC isR hC hR hnR hdis hk hFc hP1 hD1
  exact kk H1 locs1 ls (hP2.sub is (kfm hw')) (hD2.sub is hn' hw') hS1 hl
/-- a call that leaves its cells as they are -/
theorem k_clR {mc ms : Nat} {r0 : Int64} (F : kF p s m args meth c g A nL cc own ret0 nm) (hr : kR p l e R s m args below meth c g A nL ws wc cells slots mc ms pc lv st0 rest (kDl g r0 wc)) (isC : List Nat) (hC : isC.map (fun i => ws[i]?) = wc.map some) (hn : pc + 3 = n) (kk : KW p l e R s m args below meth c Q g A nL ws (cells + mc) (slots + ms) n lv (.long r0 :: rest)) : KW p l e R s m args below meth c Q g A nL ws cells slots pc lv st0 := by
  subst hn
  obtain ⟨a, hr⟩ := hr
  intro H locs ls hP hD hS hl
  have hFc := va_free (wc := wc) hD hS F.2.2.2.2.2.2.1 isC hC
  refine va_calll (hr H locs ls hP hD hS hl) hS (fun q _ h => hFc q h) hFc (fun r u t H1 locs1 ht hvm hw hB hz hk hS1 => ?_)
  obtain ⟨rfl, rfl⟩ := hw
  obtain ⟨hP1, hD1⟩ := hB
  rw [ht] at hP1
  exact kk H1 locs1 ls (k_keep hP hD hC hk hP1) hD hS1 hl
theorem k_cv {mc ms : Nat} {w0 : va_W} (F : kF p s m args meth c g A nL cc own ret0 nm) (hr : kR p l e R s m args below meth c g A nL ws wc cells slots mc ms pc lv st0 rest (kDv g w0)) (isC isR is : List Nat) (hC : isC.map (fun i => ws[i]?) = wc.map some) (hR : isR.map (fun i => ws[i]?) = (isR.filterMap (fun i => ws[i]?)).map some) (hnR : va_nd isR = true) (hdis : ∀ i ∈ isR, i ∉ isC) (hw' : is.map (fun i => (isR.filterMap (fun i => ws[i]?) ++ w0)[i]?) = ws'.map some) (hn' : va_nd is = true) (hn : pc + 3 = n) (kk : KW p l e R s m args below meth c Q g A nL ws' (cells + mc) (slots + ms) n lv (rest)) : KW p l e R s m args below meth c Q g A nL ws cells slots pc lv st0 := by
  subst hn
  obtain ⟨a, hr⟩ := hr
  intro H locs ls hP hD hS hl
  have hFc := va_free (wc := wc) hD hS F.2.2.2.2.2.2.1 isC hC
  refine va_callv (hr H locs ls hP hD hS hl) hS (fun q _ h => hFc q h) hFc (fun u t H1 locs1 ht hvm hw hB hz hk hS1 => ?_)
  subst hw
  obtain ⟨hP1, hD1⟩ := hB
  rw [ht] at hP1
  obtain ⟨hP2, hD2⟩ := va_join hP hD isC isR hC hR hnR hdis hk hFc hP1 hD1
  exact kk H1 locs1 ls (hP2.sub is (kfm hw')) (hD2.sub is hn' hw') hS1 hl
/-- a call that leaves its cells as they are -/
theorem k_cvR {mc ms : Nat} (F : kF p s m args meth c g A nL cc own ret0 nm) (hr : kR p l e R s m args below meth c g A nL ws wc cells slots mc ms pc lv st0 rest (kDv g wc)) (isC : List Nat) (hC : isC.map (fun i => ws[i]?) = wc.map some) (hn : pc + 3 = n) (kk : KW p l e R s m args below meth c Q g A nL ws (cells + mc) (slots + ms) n lv (rest)) : KW p l e R s m args below meth c Q g A nL ws cells slots pc lv st0 := by
  subst hn
  obtain ⟨a, hr⟩ := hr
  intro H locs ls hP hD hS hl
  have hFc := va_free (wc := wc) hD hS F.2.2.2.2.2.2.1 isC hC
  refine va_callv (hr H locs ls hP hD hS hl) hS (fun q _ h => hFc q h) hFc (fun u t H1 locs1 ht hvm hw hB hz hk hS1 => ?_)
  subst hw
  obtain ⟨hP1, hD1⟩ := hB
  rw [ht] at hP1
  exact kk H1 locs1 ls (k_keep hP hD hC hk hP1) hD hS1 hl
theorem k_cq {mc ms : Nat} {r0 : Option Nat} {w0 : va_W} (F : kF p s m args meth c g A nL cc own ret0 nm) (hr : kR p l e R s m args below meth c g A nL ws wc cells slots mc ms pc lv st0 rest (kDq g r0 w0)) (isC isR is : List Nat) (hC : isC.map (fun i => ws[i]?) = wc.map some) (hR : isR.map (fun i => ws[i]?) = (isR.filterMap (fun i => ws[i]?)).map some) (hnR : va_nd isR = true) (hdis : ∀ i ∈ isR, i ∉ isC) (hw' : is.map (fun i => (isR.filterMap (fun i => ws[i]?) ++ w0)[i]?) = ws'.map some) (hn' : va_nd is = true) (hn : pc + 3 = n) (kk : KW p l e R s m args below meth c Q g A nL ws' (cells + mc) (slots + ms) n lv (va_rf r0 :: rest)) : KW p l e R s m args below meth c Q g A nL ws cells slots pc lv st0 := by
  subst hn
  obtain ⟨a, hr⟩ := hr
  intro H locs ls hP hD hS hl
  have hFc := va_free (wc := wc) hD hS F.2.2.2.2.2.2.1 isC hC
  refine va_callq (hr H locs ls hP hD hS hl) hS (fun q _ h => hFc q h) hFc (fun r u t H1 locs1 ht hvm hw hB hz hk hS1 => ?_)
  obtain ⟨rfl, rfl⟩ := hw
  obtain ⟨hP1, hD1⟩ := hB
  rw [ht] at hP1
  obtain ⟨hP2, hD2⟩ := va_join hP hD isC isR hC hR hnR hdis hk hFc hP1 hD1
  exact kk H1 locs1 ls (hP2.sub is (kfm hw')) (hD2.sub is hn' hw') hS1 hl
/-- a call that leaves its cells as they are -/
theorem k_cqR {mc ms : Nat} {r0 : Option Nat} (F : kF p s m args meth c g A nL cc own ret0 nm) (hr : kR p l e R s m args below meth c g A nL ws wc cells slots mc ms pc lv st0 rest (kDq g r0 wc)) (isC : List Nat) (hC : isC.map (fun i => ws[i]?) = wc.map some) (hn : pc + 3 = n) (kk : KW p l e R s m args below meth c Q g A nL ws (cells + mc) (slots + ms) n lv (va_rf r0 :: rest)) : KW p l e R s m args below meth c Q g A nL ws cells slots pc lv st0 := by
  subst hn
  obtain ⟨a, hr⟩ := hr
  intro H locs ls hP hD hS hl
  have hFc := va_free (wc := wc) hD hS F.2.2.2.2.2.2.1 isC hC
  refine va_callq (hr H locs ls hP hD hS hl) hS (fun q _ h => hFc q h) hFc (fun r u t H1 locs1 ht hvm hw hB hz hk hS1 => ?_)
  obtain ⟨rfl, rfl⟩ := hw
  obtain ⟨hP1, hD1⟩ := hB
  rw [ht] at hP1
  exact kk H1 locs1 ls (k_keep hP hD hC hk hP1) hD hS1 hl
theorem k_ev {mc ms : Nat} {po : va_W → Prop} (F : kF p s m args meth c g A nL cc own ret0 nm) (hr : kR p l e R s m args below meth c g A nL ws wc cells slots mc ms pc lv st0 rest (kEv g po)) (isC isR : List Nat) (hC : isC.map (fun i => ws[i]?) = wc.map some) (hR : isR.map (fun i => ws[i]?) = wr.map some) (hnR : va_nd isR = true) (hdis : ∀ i ∈ isR, i ∉ isC) (hn : pc + 3 = n) (kk : ∀ (u : va_W), po u → KW p l e R s m args below meth c Q g A nL (wr ++ u) (cells + mc) (slots + ms) n lv (rest)) : KW p l e R s m args below meth c Q g A nL ws cells slots pc lv st0 := by
  subst hn
  obtain ⟨a, hr⟩ := hr
  intro H locs ls hP hD hS hl
  have hFc := va_free (wc := wc) hD hS F.2.2.2.2.2.2.1 isC hC
  refine va_callv (hr H locs ls hP hD hS hl) hS (fun q _ h => hFc q h) hFc (fun u t H1 locs1 ht hvm hw hB hz hk hS1 => ?_)
  obtain ⟨hP1, hD1⟩ := hB
  rw [ht] at hP1
  obtain ⟨hP2, hD2⟩ := va_join hP hD isC isR hC hR hnR hdis hk hFc hP1 hD1
  exact kk u hw H1 locs1 ls hP2 hD2 hS1 hl
theorem k_ei {mc ms : Nat} {po : Int32 → va_W → Prop} (F : kF p s m args meth c g A nL cc own ret0 nm) (hr : kR p l e R s m args below meth c g A nL ws wc cells slots mc ms pc lv st0 rest (kEi g po)) (isC isR : List Nat) (hC : isC.map (fun i => ws[i]?) = wc.map some) (hR : isR.map (fun i => ws[i]?) = wr.map some) (hnR : va_nd isR = true) (hdis : ∀ i ∈ isR, i ∉ isC) (hn : pc + 3 = n) (kk : ∀ (r : Int32) (u : va_W), po r u → KW p l e R s m args below meth c Q g A nL (wr ++ u) (cells + mc) (slots + ms) n lv (.int r :: rest)) : KW p l e R s m args below meth c Q g A nL ws cells slots pc lv st0 := by
  subst hn
  obtain ⟨a, hr⟩ := hr
  intro H locs ls hP hD hS hl
  have hFc := va_free (wc := wc) hD hS F.2.2.2.2.2.2.1 isC hC
  refine va_calli (hr H locs ls hP hD hS hl) hS (fun q _ h => hFc q h) hFc (fun r u t H1 locs1 ht hvm hw hB hz hk hS1 => ?_)
  obtain ⟨hP1, hD1⟩ := hB
  rw [ht] at hP1
  obtain ⟨hP2, hD2⟩ := va_join hP hD isC isR hC hR hnR hdis hk hFc hP1 hD1
  exact kk r u hw H1 locs1 ls hP2 hD2 hS1 hl
theorem k_eq {mc ms : Nat} {po : Option Nat → va_W → Prop} (F : kF p s m args meth c g A nL cc own ret0 nm) (hr : kR p l e R s m args below meth c g A nL ws wc cells slots mc ms pc lv st0 rest (kEq g po)) (isC isR : List Nat) (hC : isC.map (fun i => ws[i]?) = wc.map some) (hR : isR.map (fun i => ws[i]?) = wr.map some) (hnR : va_nd isR = true) (hdis : ∀ i ∈ isR, i ∉ isC) (hn : pc + 3 = n) (kk : ∀ (r : Option Nat) (u : va_W), po r u → KW p l e R s m args below meth c Q g A nL (wr ++ u) (cells + mc) (slots + ms) n lv (va_rf r :: rest)) : KW p l e R s m args below meth c Q g A nL ws cells slots pc lv st0 := by
  subst hn
  obtain ⟨a, hr⟩ := hr
  intro H locs ls hP hD hS hl
  have hFc := va_free (wc := wc) hD hS F.2.2.2.2.2.2.1 isC hC
  refine va_callq (hr H locs ls hP hD hS hl) hS (fun q _ h => hFc q h) hFc (fun r u t H1 locs1 ht hvm hw hB hz hk hS1 => ?_)
  obtain ⟨hP1, hD1⟩ := hB
  rw [ht] at hP1
  obtain ⟨hP2, hD2⟩ := va_join hP hD isC isR hC hR hnR hdis hk hFc hP1 hD1
  exact kk r u hw H1 locs1 ls hP2 hD2 hS1 hl
theorem k_rV {C : String} {T : u_T} {N ci b : Nat} {fs : List Value} {y : MethodName} {bytes : ByteArray} {maxL idx k : Nat} {ret : Option FieldType} {rm : Room} {Qx : kQ} {As : List Value} (F : kF p s m args meth c g A nL cc own ret0 nm) (M : kM l y bytes maxL ret rm g (.ref b :: As) wc Qx) (isC : List Nat) (hC : isC.map (fun i => ws[i]?) = wc.map some) (hnC : va_nd isC = true) (q0 : Nat) (hrec : wc[q0]? = some (b, .inr (ci, fs))) (hcl : vwCl[ci]? = some (C, T, N)) (hcode : Cond.code y bytes maxL ret ∈ uT) (hlink : Cond.methodLink own idx y ∈ uT) (hinst : Cond.instanceMethod y ∈ uT) (hsel : Cond.selects C y y ∈ uT) (hini : Cond.initialized y.cls ∈ uT) (hd0 : y.cls ≠ "java/lang/invoke/MethodHandle" ∧ y.cls ≠ "java/lang/invoke/VarHandle" ∧ (parseMethodDescriptor y.desc).map (fun d => d.parameters.length) = some k) (hR : rm.frames + 1 ≤ R.frames ∧ 8 + (maxL + 11) + rm.locals ≤ R.locals) (hlen : As.length = k) (hsum : (rest.map fun v => v.category).sum ≤ 8) (hf : cells + rm.cells ≤ R.cells ∧ slots + rm.slots ≤ R.slots) (hd : decode cc pc = .ok (.invokevirtual idx, 3)) : kR p l e R s m args below meth c g A nL ws wc cells slots rm.cells rm.slots pc lv (As.reverse ++ .ref b :: rest) rest Qx :=
  ⟨_, fun H locs ls hP hD hS hl => va_runV (C := C) (n := k) ⟨F.1, F.2.1, F.2.2.1, F.2.2.2.1, F.2.2.2.2.1⟩ (M H.size) ⟨callB_of k F.2.2.2.2.1 (kGI hcode) rfl rfl rfl (F.2.2.2.2.1 _ hini) (F.2.2.2.2.1 _ hlink) hd0 hR, F.2.2.2.2.1 _ hinst, F.2.2.2.2.1 _ hsel⟩ ⟨kPre_blind, va_recv F.2.2.2.2.2.1.1 (hP.sub isC (kfm hC)) hcl hrec, fun U hU hW => ⟨rfl, by rw [hU], by rw [hU]; exact hP.sub isC (kfm hC), F.2.2.2.2.2.1.warm hW, (hD.sub isC hnC hC).weaken (fun _ _ _ _ => trivial)⟩⟩ rfl hlen hl.1 rfl (lv_room hsum) hd hf⟩
theorem k_rS {y : MethodName} {bytes : ByteArray} {maxL idx k : Nat} {ret : Option FieldType} {rm : Room} {Qx : kQ} {As : List Value} (F : kF p s m args meth c g A nL cc own ret0 nm) (M : kM l y bytes maxL ret rm g As wc Qx) (isC : List Nat) (hC : isC.map (fun i => ws[i]?) = wc.map some) (hnC : va_nd isC = true) (hcode : Cond.code y bytes maxL ret ∈ uT) (hlink : Cond.methodLink own idx y ∈ uT) (hstat : Cond.static y ∈ uT) (hini : Cond.initialized y.cls ∈ uT) (hd0 : y.cls ≠ "java/lang/invoke/MethodHandle" ∧ y.cls ≠ "java/lang/invoke/VarHandle" ∧ (parseMethodDescriptor y.desc).map (fun d => d.parameters.length) = some k) (hR : rm.frames + 1 ≤ R.frames ∧ 8 + (maxL + 11) + rm.locals ≤ R.locals) (hlen : As.length = k) (hsum : (rest.map fun v => v.category).sum ≤ 8) (hf : cells + rm.cells ≤ R.cells ∧ slots + rm.slots ≤ R.slots) (hd : decode cc pc = .ok (.invokestatic idx, 3)) : kR p l e R s m args below meth c g A nL ws wc cells slots rm.cells rm.slots pc lv (As.reverse ++ rest) rest Qx :=
  ⟨_, fun H locs ls hP hD hS hl => va_runS (n := k) ⟨F.1, F.2.1, F.2.2.1, F.2.2.2.1, F.2.2.2.2.1⟩ (M H.size) ⟨callB_of k F.2.2.2.2.1 (kGI hcode) rfl rfl rfl (F.2.2.2.2.1 _ hini) (F.2.2.2.2.1 _ hlink) hd0 hR, F.2.2.2.2.1 _ hstat⟩ ⟨kPre_blind, fun U hU hW => ⟨rfl, by rw [hU], by rw [hU]; exact hP.sub isC (kfm hC), F.2.2.2.2.2.1.warm hW, (hD.sub isC hnC hC).weaken (fun _ _ _ _ => trivial)⟩⟩ rfl hlen hl.1 rfl (lv_room hsum) hd hf⟩
theorem k_rI {b : Nat} {y : MethodName} {bytes : ByteArray} {maxL idx k : Nat} {rm : Room} {Qx : kQ} {As : List Value} (F : kF p s m args meth c g A nL cc own ret0 nm) (M : kM l y bytes maxL none rm g (.ref b :: As) wc Qx) (isC : List Nat) (hC : isC.map (fun i => ws[i]?) = wc.map some) (hnC : va_nd isC = true) (hcode : Cond.code y bytes maxL none ∈ uT) (hlink : Cond.methodLink own idx y ∈ uT) (hinst : Cond.instanceMethod y ∈ uT) (hini : Cond.initialized y.cls ∈ uT) (hy1 : y.name = "<init>") (hd0 : y.cls ≠ "java/lang/invoke/MethodHandle" ∧ y.cls ≠ "java/lang/invoke/VarHandle" ∧ (parseMethodDescriptor y.desc).map (fun d => d.parameters.length) = some k) (hR : rm.frames + 1 ≤ R.frames ∧ 8 + (maxL + 11) + rm.locals ≤ R.locals) (hlen : As.length = k) (hsum : (rest.map fun v => v.category).sum ≤ 8) (hf : cells + rm.cells ≤ R.cells ∧ slots + rm.slots ≤ R.slots) (hd : decode cc pc = .ok (.invokespecial idx, 3)) : kR p l e R s m args below meth c g A nL ws wc cells slots rm.cells rm.slots pc lv (As.reverse ++ .ref b :: rest) rest Qx :=
  ⟨_, fun H locs ls hP hD hS hl => va_runI (n := k) ⟨F.1, F.2.1, F.2.2.1, F.2.2.2.1, F.2.2.2.2.1⟩ (M H.size) ⟨callB_of k F.2.2.2.2.1 (kGI hcode) rfl rfl rfl (F.2.2.2.2.1 _ hini) (F.2.2.2.2.1 _ hlink) hd0 hR, hy1, F.2.2.2.2.1 _ hinst⟩ ⟨kPre_blind, fun U hU hW => ⟨rfl, by rw [hU], by rw [hU]; exact hP.sub isC (kfm hC), F.2.2.2.2.2.1.warm hW, (hD.sub isC hnC hC).weaken (fun _ _ _ _ => trivial)⟩⟩ rfl hlen hl.1 rfl (lv_room hsum) hd hf⟩
theorem k_rIN {b : Nat} {host : String} {y : MethodName} {bytes : ByteArray} {maxL idx k : Nat} {rm : Room} {Qx : kQ} {As : List Value} (F : kF p s m args meth c g A nL cc own ret0 nm) (M : kM l y bytes maxL none rm g (.ref b :: As) wc Qx) (isC : List Nat) (hC : isC.map (fun i => ws[i]?) = wc.map some) (hnC : va_nd isC = true) (hcode : Cond.code y bytes maxL none ∈ uT) (hlink : Cond.methodLinkNest own idx y host ∈ kN) (hinst : Cond.instanceMethod y ∈ uT) (hini : Cond.initialized y.cls ∈ uT) (hy1 : y.name = "<init>") (hd0 : y.cls ≠ "java/lang/invoke/MethodHandle" ∧ y.cls ≠ "java/lang/invoke/VarHandle" ∧ (parseMethodDescriptor y.desc).map (fun d => d.parameters.length) = some k) (hR : rm.frames + 1 ≤ R.frames ∧ 8 + (maxL + 11) + rm.locals ≤ R.locals) (hlen : As.length = k) (hsum : (rest.map fun v => v.category).sum ≤ 8) (hf : cells + rm.cells ≤ R.cells ∧ slots + rm.slots ≤ R.slots) (hd : decode cc pc = .ok (.invokespecial idx, 3)) : kR p l e R s m args below meth c g A nL ws wc cells slots rm.cells rm.slots pc lv (As.reverse ++ .ref b :: rest) rest Qx :=
  ⟨_, fun H locs ls hP hD hS hl => va_runIN (n := k) (host := host) ⟨F.1, F.2.1, F.2.2.1, F.2.2.2.1, F.2.2.2.2.1⟩ (M H.size) ⟨va_cnB k F.2.2.2.2.1 (kGI hcode) rfl rfl rfl (F.2.2.2.2.2.1.2.1 _ hlink) (F.2.2.2.2.1 _ hini) hd0 hR, hy1, F.2.2.2.2.1 _ hinst⟩ ⟨kPre_blind, fun U hU hW => ⟨rfl, by rw [hU], by rw [hU]; exact hP.sub isC (kfm hC), F.2.2.2.2.2.1.warm hW, (hD.sub isC hnC hC).weaken (fun _ _ _ _ => trivial)⟩⟩ rfl hlen hl.1 rfl (lv_room hsum) hd hf⟩
theorem k_rSU {C : String} {T : u_T} {N ci b : Nat} {fs : List Value} {y : MethodName} {bytes : ByteArray} {maxL idx k : Nat} {ret : Option FieldType} {rm : Room} {Qx : kQ} {As : List Value} (F : kF p s m args meth c g A nL cc own ret0 nm) (M : kM l y bytes maxL ret rm g (.ref b :: As) wc Qx) (isC : List Nat) (hC : isC.map (fun i => ws[i]?) = wc.map some) (hnC : va_nd isC = true) (q0 : Nat) (hrec : wc[q0]? = some (b, .inr (ci, fs))) (hcl : vwCl[ci]? = some (C, T, N)) (hcode : Cond.code y bytes maxL ret ∈ uT) (hlink : Cond.methodLink own idx y ∈ uT) (hsame : Cond.sameMethod y.cls y.cls y.name y.desc ∈ uT) (hsup : Cond.superclass own y.cls ∈ uT) (hinst : Cond.instanceMethod y ∈ uT) (hini : Cond.initialized y.cls ∈ uT) (hno : y.name ≠ "<init>") (hd0 : y.cls ≠ "java/lang/invoke/MethodHandle" ∧ y.cls ≠ "java/lang/invoke/VarHandle" ∧ (parseMethodDescriptor y.desc).map (fun d => d.parameters.length) = some k) (hR : rm.frames + 1 ≤ R.frames ∧ 8 + (maxL + 11) + rm.locals ≤ R.locals) (hlen : As.length = k) (hsum : (rest.map fun v => v.category).sum ≤ 8) (hf : cells + rm.cells ≤ R.cells ∧ slots + rm.slots ≤ R.slots) (hd : decode cc pc = .ok (.invokespecial idx, 3)) : kR p l e R s m args below meth c g A nL ws wc cells slots rm.cells rm.slots pc lv (As.reverse ++ .ref b :: rest) rest Qx :=
  ⟨_, fun H locs ls hP hD hS hl => va_runSU (n := k) (C := C) (F.2.2.2.2.2.1.1.1 ci _ hcl).2 ⟨F.1, F.2.1, F.2.2.1, F.2.2.2.1, F.2.2.2.2.1⟩ (M H.size) (va_cwSU k F.2.2.2.2.1 (fun w hw => by
    rcases List.mem_append.mp (show w ∈ ([.methodLink own idx y, .sameMethod y.cls y.cls y.name y.desc, .superclass own y.cls, .instanceMethod y, .initialized y.cls] : List Cond) ++ kWd y bytes maxL ret from hw) with h | h
    · have : w ∈ uT := by
        simp only [List.mem_cons, List.not_mem_nil, or_false] at h
        rcases h with rfl | rfl | rfl | rfl | rfl
        · exact hlink
        · exact hsame
        · exact hsup
        · exact hinst
        · exact hini
      exact ⟨this, good_of_word (uT_good this)⟩
    · exact kGI hcode w h) rfl rfl rfl ⟨hno, hd0.2.2⟩ hR) ⟨kPre_blind, va_recv F.2.2.2.2.2.1.1 (hP.sub isC (kfm hC)) hcl hrec, fun U hU hW => ⟨rfl, by rw [hU], by rw [hU]; exact hP.sub isC (kfm hC), F.2.2.2.2.2.1.warm hW, (hD.sub isC hnC hC).weaken (fun _ _ _ _ => trivial)⟩⟩ rfl hlen hl.1 rfl (lv_room hsum) hd hf⟩
theorem k_rU {C owner : String} {T : u_T} {N ci b : Nat} {fs : List Value} {x : MethodName} {b0 : ByteArray} {m0 : Nat} {r0 : Option FieldType} {y : MethodName} {bytes : ByteArray} {maxL idx k : Nat} {ret : Option FieldType} {rm : Room} {Qx : kQ} {As : List Value} (F : kF p s m args meth c g A nL cc own ret0 nm) (M : kM l y bytes maxL ret rm g (.ref b :: As) wc Qx) (isC : List Nat) (hC : isC.map (fun i => ws[i]?) = wc.map some) (hnC : va_nd isC = true) (q0 : Nat) (hrec : wc[q0]? = some (b, .inr (ci, fs))) (hcl : vwCl[ci]? = some (C, T, N)) (hcode : Cond.code y bytes maxL ret ∈ uT) (hcode0 : Cond.code ⟨owner, x.name, x.desc⟩ b0 m0 r0 ∈ uT) (hlink : Cond.methodLink own idx x ∈ uT) (hsame : Cond.sameMethod x.cls owner x.name x.desc ∈ uT) (hinst0 : Cond.instanceMethod ⟨owner, x.name, x.desc⟩ ∈ uT) (hsel : Cond.selects C x y ∈ uT) (hinst : Cond.instanceMethod y ∈ uT) (hini : Cond.initialized y.cls ∈ uT) (hd0 : owner ≠ "java/lang/invoke/MethodHandle" ∧ owner ≠ "java/lang/invoke/VarHandle" ∧ (parseMethodDescriptor x.desc).map (fun d => d.parameters.length) = some k) (hR : rm.frames + 1 ≤ R.frames ∧ 8 + (maxL + 11) + rm.locals ≤ R.locals) (hlen : As.length = k) (hsum : (rest.map fun v => v.category).sum ≤ 8) (hf : cells + rm.cells ≤ R.cells ∧ slots + rm.slots ≤ R.slots) (hd : decode cc pc = .ok (.invokevirtual idx, 3)) : kR p l e R s m args below meth c g A nL ws wc cells slots rm.cells rm.slots pc lv (As.reverse ++ .ref b :: rest) rest Qx :=
  ⟨_, fun H locs ls hP hD hS hl => va_runU (n := k) (C := C) ⟨F.1, F.2.1, F.2.2.1, F.2.2.2.1, F.2.2.2.2.1⟩ (M H.size) (va_cwO k F.2.2.2.2.1 (fun w hw => by
    rcases List.mem_append.mp (show w ∈ ([.methodLink own idx x, .sameMethod x.cls owner x.name x.desc, .instanceMethod ⟨owner, x.name, x.desc⟩, .selects C x y, .instanceMethod y, .initialized y.cls] : List Cond) ++ kWd y bytes maxL ret from hw) with h | h
    · have : w ∈ uT := by
        simp only [List.mem_cons, List.not_mem_nil, or_false] at h
        rcases h with rfl | rfl | rfl | rfl | rfl | rfl
        · exact hlink
        · exact hsame
        · exact hinst0
        · exact hsel
        · exact hinst
        · exact hini
      exact ⟨this, good_of_word (uT_good this)⟩
    · exact kGI hcode w h) rfl rfl rfl hcode0 hd0 hR) ⟨kPre_blind, va_recv F.2.2.2.2.2.1.1 (hP.sub isC (kfm hC)) hcl hrec, fun U hU hW => ⟨rfl, by rw [hU], by rw [hU]; exact hP.sub isC (kfm hC), F.2.2.2.2.2.1.warm hW, (hD.sub isC hnC hC).weaken (fun _ _ _ _ => trivial)⟩⟩ rfl hlen hl.1 rfl (lv_room hsum) hd hf⟩
theorem k_objInit (F : kF p s m args meth c g A nL cc own ret0 nm) {idx a : Nat} (hlink : Cond.methodLink own idx objectInit ∈ uT) (hinst : Cond.instanceMethod objectInit ∈ uT) (hcode : Cond.code objectInit ⟨#[0xb1]⟩ 1 none ∈ uT) (hd : decode cc pc = .ok (.invokespecial idx, 3)) (hfr : 1 ≤ R.frames) (hlo : (rest.map fun v => v.category).sum + 12 ≤ R.locals) (hn : pc + 3 = n) (kk : KW p l e R s m args below meth c Q g A nL ws cells slots n lv rest) : KW p l e R s m args below meth c Q g A nL ws cells slots pc lv (.ref a :: rest) := by
  subst hn
  intro H locs ls hP hD hS hl
  refine W.objInit F.1 F.2.1 F.2.2.2.1 (F.2.2.2.2.1 _ hlink) (F.2.2.2.2.1 _ hinst) (F.2.2.2.2.1 _ hcode) rfl (by rw [F.2.2.1]; exact hl.1) rfl hd hfr (by show 2 * 0 + _ + 12 ≤ _; omega) ?_
  exact kk H locs ls hP hD hS hl
theorem k_mmin (F : kF p s m args meth c g A nL cc own ret0 nm) {idx : Nat} {x y : Int32} (hlink : Cond.methodLink own idx Lib.Math.min.name ∈ uT) (hstat : Cond.static Lib.Math.min.name ∈ uT) (hini : Cond.initialized "java/lang/Math" ∈ uT) (hcode : Cond.code Lib.Math.min.name Lib.Math.min.code 2 (some .int) ∈ uT) (hd : decode cc pc = .ok (.invokestatic idx, 3)) (hfr : 1 ≤ R.frames) (hlo : (rest.map fun v => v.category).sum + 13 ≤ R.locals) (hc : cells ≤ R.cells) (hs : slots ≤ R.slots) (hn : pc + 3 = n) (kk : KW p l e R s m args below meth c Q g A nL ws cells slots n lv (.int (if y < x then y else x) :: rest)) : KW p l e R s m args below meth c Q g A nL ws cells slots pc lv (.int y :: .int x :: rest) := by
  subst hn
  exact fun H locs ls hP hD hS hl => va_mmin F.1 F.2.1 (F.2.2.1.trans hl.1.symm) F.2.2.2.1 (F.2.2.2.2.1 _ hlink) (F.2.2.2.2.1 _ hstat) (F.2.2.2.2.1 _ hini) (F.2.2.2.2.1 _ hcode) hfr hlo hc hs hd (kk H locs ls hP hD hS hl)
theorem k_mmax (F : kF p s m args meth c g A nL cc own ret0 nm) {idx : Nat} {x y : Int32} (hlink : Cond.methodLink own idx Lib.Math.max.name ∈ uT) (hstat : Cond.static Lib.Math.max.name ∈ uT) (hini : Cond.initialized "java/lang/Math" ∈ uT) (hcode : Cond.code Lib.Math.max.name Lib.Math.max.code 2 (some .int) ∈ uT) (hd : decode cc pc = .ok (.invokestatic idx, 3)) (hfr : 1 ≤ R.frames) (hlo : (rest.map fun v => v.category).sum + 13 ≤ R.locals) (hc : cells ≤ R.cells) (hs : slots ≤ R.slots) (hn : pc + 3 = n) (kk : KW p l e R s m args below meth c Q g A nL ws cells slots n lv (.int (if x < y then y else x) :: rest)) : KW p l e R s m args below meth c Q g A nL ws cells slots pc lv (.int y :: .int x :: rest) := by
  subst hn
  exact fun H locs ls hP hD hS hl => va_mmax F.1 F.2.1 (F.2.2.1.trans hl.1.symm) F.2.2.2.1 (F.2.2.2.2.1 _ hlink) (F.2.2.2.2.1 _ hstat) (F.2.2.2.2.1 _ hini) (F.2.2.2.2.1 _ hcode) hfr hlo hc hs hd (kk H locs ls hP hD hS hl)
theorem k_copyi (F : kF p s m args meth c g A nL cc own ret0 nm) {idx a a0 n0 n1 S D N : Nat} {f h : Nat → Int32} {sp dp z : Int32} (hlink : Cond.methodLink own idx arraycopyName ∈ uT) (hnat : Cond.native arraycopyName ∈ uT) (hstat : Cond.static arraycopyName ∈ uT) (hini : Cond.initialized "java/lang/System" ∈ uT) (q0 q1 : Nat) (ha0 : ws[q0]? = some (a0, .inl (g.2 0, n0, .inl f))) (ha1 : ws[q1]? = some (a, .inl (g.2 0, n1, .inl h))) (hsp : ¬ sp < 0 ∧ sp.toNatClampNeg = S) (hdp : ¬ dp < 0 ∧ dp.toNatClampNeg = D) (hz : ¬ z < 0 ∧ z.toNatClampNeg = N) (h4 : S + N ≤ n0) (h5 : D + N ≤ n1) (hw : ws.set q1 (a, .inl (g.2 0, n1, .inl (va_cpy f h S D N))) = ws') (hd : decode cc pc = .ok (.invokestatic idx, 3)) (hfr : 1 ≤ R.frames) (hlo : (rest.map fun v => v.category).sum + (nativeFrameWords "java/lang/System" "arraycopy" 5 + 11) ≤ R.locals) (hn : pc + 3 = n) (kk : KW p l e R s m args below meth c Q g A nL ws' cells slots n lv rest) : KW p l e R s m args below meth c Q g A nL ws cells slots pc lv (.int z :: .int dp :: .ref a :: .int sp :: .ref a0 :: rest) := by
  subst hn
  obtain ⟨h1, rfl⟩ := hsp
  obtain ⟨h2, rfl⟩ := hdp
  obtain ⟨h3, rfl⟩ := hz
  subst hw
  exact fun H locs ls hP hD hS hl => va_copyi F.1 F.2.1 (F.2.2.1.trans hl.1.symm) F.2.2.2.1 (F.2.2.2.2.1 _ hlink) (F.2.2.2.2.1 _ hnat) (F.2.2.2.2.1 _ hstat) (F.2.2.2.2.1 _ hini) F.2.2.2.2.2.1.1 hP hD hS q0 q1 0 0 ha0 ha1 rfl rfl rfl h1 h2 h3 h4 h5 (fun _ _ => rfl) hfr hlo hd (fun H1 locs1 hP1 hD1 hS1 => kk H1 locs1 ls hP1 hD1 hS1 hl)
end KC
end
section
abbrev rmK (f c s lo : Nat) : Room := { frames := f, cells := c, slots := s, locals := lo }
theorem kZn {v : Int32} (h : v = 0 ∨ v = 1) : narrow .boolean (.int v) = .int v := by rcases h with rfl | rfl <;> rfl
theorem kZf {v : Int32} (h : v = 0 ∨ v = 1) : fits .boolean (.int v) = true := by rcases h with rfl | rfl <;> rfl
theorem kZv {v : Int32} (h : v = 0 ∨ v = 1) : vp_nar .boolean v = v := by rcases h with rfl | rfl <;> rfl
/-- whether v lies between lo and hi -/
def kin (v lo hi : Int32) : Int32 := if lo ≤ v ∧ v ≤ hi then 1 else 0
theorem kin_b (v lo hi : Int32) : kin v lo hi = 0 ∨ kin v lo hi = 1 := by unfold kin; split <;> simp
theorem kin_0 {v lo hi : Int32} : kin v lo hi = 0 ↔ ¬ (lo ≤ v ∧ v ≤ hi) := by unfold kin; split <;> simp_all
theorem kin_n {v lo hi : Int32} : ¬ kin v lo hi = 0 ↔ (lo ≤ v ∧ v ≤ hi) := by unfold kin; split <;> simp_all
theorem kiteAt {c : Prop} [Decidable c] (h : (if c then (0 : Int32) else 1) = 0) : c := by
  by_cases hc : c
  · exact hc
  · rw [if_neg hc] at h; exact absurd h (by decide)
theorem kiteAf {c : Prop} [Decidable c] (h : ¬ (if c then (0 : Int32) else 1) = 0) : ¬ c := fun hc => h (by rw [if_pos hc])
theorem kiteBt {c : Prop} [Decidable c] (h : (if c then (1 : Int32) else 0) = 0) : ¬ c := fun hc => by
  rw [if_pos hc] at h; exact absurd h (by decide)
theorem kiteBf {c : Prop} [Decidable c] (h : ¬ (if c then (1 : Int32) else 0) = 0) : c := by
  by_cases hc : c
  · exact hc
  · rw [if_neg hc] at h; exact absurd rfl h
/-- the state that both systems are told by: ints, longs, rows of ints, the four heats -/
abbrev kS : Type := (Nat → Int32) × (Nat → Int64) × (Nat → Nat → Int32) × (Nat → Int64)
/-- the cells of the reference -/
def wR (g : kG) (h0 : Nat) (ad : Nat → Nat) (u : kS) : va_W := [(h0, .inr (10, [.int 0, .long (u.2.1 1), .int (u.1 2), .ref (ad 3), .ref (ad 4), .ref (ad 5), .int (u.1 6), .ref (ad 7), .ref (ad 8), .int (u.1 9), .ref (ad 10), .ref (ad 11), .int (u.1 12), .int (u.1 13), .int (u.1 14), .int (u.1 15), .int (u.1 16), .int (u.1 17), .int (u.1 18), .long (u.2.1 19), .long (u.2.1 20), .long (u.2.1 21), .ref (ad 22), .ref (ad 23), .ref (ad 24), .int (u.1 25), .ref (ad 26), .ref (ad 27), .ref (ad 28), .int (u.1 29), .int (u.1 30), .int (u.1 31), .int (u.1 32), .ref (ad 33)])),
  (ad 3, .inl (g.2 0, 6, .inl (u.2.2.1 3))), (ad 4, .inl (g.2 0, 30, .inl (u.2.2.1 4))), (ad 5, .inl (g.2 0, 6, .inl (u.2.2.1 5))), (ad 7, .inl (g.2 0, 8, .inl (u.2.2.1 7))), (ad 8, .inl (g.2 0, 8, .inl (u.2.2.1 8))), (ad 10, .inl (g.2 0, 6, .inl (u.2.2.1 10))), (ad 11, .inl (g.2 1, 4, .inr (.inl u.2.2.2))), (ad 22, .inl (g.2 0, 2, .inl (u.2.2.1 22))), (ad 23, .inl (g.2 0, 2, .inl (u.2.2.1 23))), (ad 24, .inl (g.2 0, 2, .inl (u.2.2.1 24))), (ad 26, .inl (g.2 0, 8, .inl (u.2.2.1 26))), (ad 27, .inl (g.2 0, 8, .inl (u.2.2.1 27))), (ad 28, .inl (g.2 0, 8, .inl (u.2.2.1 28))), (ad 33, .inl (g.2 2, 4, .inl (u.2.2.1 33)))]
/-! the class's small bodies, as functions -/
def mvF (tk fe : Int32) : Int32 := if tk = 1 then 0 else fe
def mvP (tk pr : Int32) : Int32 := if tk = 2 then 0 else pr
def mvV (tk ve : Int32) : Int32 := if tk = 3 then 1 else ve
/-- passTick: whether gas goes -/
def ptR (st tk : Int32) : Int32 := if st = 1 then 1 else if st = 2 then 1 else if st = 3 then (if (tk + 1) - (tk + 1) / 2 * 2 = 1 then 1 else 0) else 0
def ptF (st tk fe : Int32) : Int32 := if st = 4 then mvF (tk + 1) fe else fe
def ptP (st tk pr : Int32) : Int32 := if st = 4 then mvP (tk + 1) pr else pr
def ptV (st tk ve : Int32) : Int32 := if st = 4 then mvV (tk + 1) ve else ve
end
section
set_option maxRecDepth 100000 in
set_option maxHeartbeats 4000000 in
theorem c_enter (l : Launch) (g : kG) (a : Nat) (st tk tr fe pr ve nx : Int32) : kM l yX3_enter cX3_enter 2 (some .int) (rmK 0 0 0 0) g [.ref a, .int nx] [(a, .inr (3, [.int st, .int tk, .int tr, .int fe, .int pr, .int ve]))] (kDi g nx [(a, .inr (3, [.int nx, .int 0, .int tr, .int fe, .int pr, .int ve]))]) := by
  refine k_enter (by decide) (Nat.le_of_ble_eq_true rfl) ?_
  intro p e s m args below meth c A F
  refine k_aload_n (n := 1) F dX3_enter_0 rfl 0 rfl rfl ?_
  refine k_iload_n (n := 2) F dX3_enter_1 rfl 1 rfl rfl ?_
  refine k_put (n := 5) (ws' := [(a, .inr (3, [.int nx, .int tk, .int tr, .int fe, .int pr, .int ve]))]) F uX3 tyX3_ok nmX3 0 0 rfl rfl (by decide) mw_77 rfl rfl rfl (Nat.le_of_ble_eq_true rfl) rfl dX3_enter_2 rfl ?_
  refine k_aload_n (n := 6) F dX3_enter_5 rfl 0 rfl rfl ?_
  refine k_iconst (n := 7) (v := 0) F dX3_enter_6 rfl rfl ?_
  refine k_put (n := 10) (ws' := [(a, .inr (3, [.int nx, .int 0, .int tr, .int fe, .int pr, .int ve]))]) F uX3 tyX3_ok nmX3 0 1 rfl rfl (by decide) mw_79 rfl rfl rfl (Nat.le_of_ble_eq_true rfl) rfl dX3_enter_7 rfl ?_
  refine k_iload_n (n := 11) F dX3_enter_10 rfl 1 rfl rfl ?_
  exact k_iret F rfl rfl dX3_enter_11
set_option maxRecDepth 100000 in
set_option maxHeartbeats 4000000 in
theorem c_begin (l : Launch) (g : kG) (a : Nat) (st tk tr fe pr ve : Int32) : kM l yX3_begin cX3_begin 1 (some .int) (rmK 1 0 0 21) g [.ref a] [(a, .inr (3, [.int st, .int tk, .int tr, .int fe, .int pr, .int ve]))] (kDi g 1 [(a, .inr (3, [.int 1, .int 0, .int tr, .int 1, .int 1, .int ve]))]) := by
  refine k_enter (by decide) (Nat.le_of_ble_eq_true rfl) ?_
  intro p e s m args below meth c A F
  refine k_aload_n (n := 1) F dX3_begin_0 rfl 0 rfl rfl ?_
  refine k_iconst (n := 2) (v := 1) F dX3_begin_1 rfl rfl ?_
  refine k_put (n := 5) (ws' := [(a, .inr (3, [.int st, .int tk, .int tr, .int 1, .int pr, .int ve]))]) F uX3 tyX3_ok nmX3 0 3 rfl rfl (by decide) mw_82 rfl rfl rfl (Nat.le_of_ble_eq_true rfl) rfl dX3_begin_2 rfl ?_
  refine k_aload_n (n := 6) F dX3_begin_5 rfl 0 rfl rfl ?_
  refine k_iconst (n := 7) (v := 1) F dX3_begin_6 rfl rfl ?_
  refine k_put (n := 10) (ws' := [(a, .inr (3, [.int st, .int tk, .int tr, .int 1, .int 1, .int ve]))]) F uX3 tyX3_ok nmX3 0 4 rfl rfl (by decide) mw_84 rfl rfl rfl (Nat.le_of_ble_eq_true rfl) rfl dX3_begin_7 rfl ?_
  refine k_aload_n (n := 11) F dX3_begin_10 rfl 0 rfl rfl ?_
  refine k_iconst (n := 12) (v := 1) F dX3_begin_11 rfl rfl ?_
  refine k_ci (n := 15) (ws' := [(a, .inr (3, [.int 1, .int 0, .int tr, .int 1, .int 1, .int ve]))]) F (k_rV (k := 1) (b := a) (As := [.int 1]) (rest := []) F (c_enter l g a st tk tr 1 1 ve 1) [0] rfl rfl 0 rfl rfl mw_379 mw_376 mw_377 mw_378 mw_4 (by decide) ⟨by decide, by decide⟩ rfl (Nat.le_of_ble_eq_true rfl) ⟨by decide, by decide⟩ dX3_begin_12) [0] [] [0] rfl rfl rfl (by decide) rfl rfl rfl ?_
  exact k_iret F rfl rfl dX3_begin_15
set_option maxRecDepth 100000 in
set_option maxHeartbeats 4000000 in
theorem c_shutDown (l : Launch) (g : kG) (a : Nat) (st tk tr fe pr ve : Int32) : kM l yX3_shutDown cX3_shutDown 1 (some .int) (rmK 1 0 0 21) g [.ref a] [(a, .inr (3, [.int st, .int tk, .int tr, .int fe, .int pr, .int ve]))] (kDi g 4 [(a, .inr (3, [.int 4, .int 0, .int (tr + 1), .int fe, .int pr, .int ve]))]) := by
  refine k_enter (by decide) (Nat.le_of_ble_eq_true rfl) ?_
  intro p e s m args below meth c A F
  refine k_aload_n (n := 1) F dX3_shutDown_0 rfl 0 rfl rfl ?_
  refine k_dup (n := 2) F dX3_shutDown_1 rfl rfl ?_
  refine k_get (n := 5) (v := .int tr) F uX3 0 2 rfl rfl (by decide) mw_80 rfl dX3_shutDown_2 rfl ?_
  refine k_iconst (n := 6) (v := 1) F dX3_shutDown_5 rfl rfl ?_
  refine k_iadd (n := 7) F dX3_shutDown_6 rfl ?_
  refine k_put (n := 10) (ws' := [(a, .inr (3, [.int st, .int tk, .int (tr + 1), .int fe, .int pr, .int ve]))]) F uX3 tyX3_ok nmX3 0 2 rfl rfl (by decide) mw_80 rfl rfl rfl (Nat.le_of_ble_eq_true rfl) rfl dX3_shutDown_7 rfl ?_
  refine k_aload_n (n := 11) F dX3_shutDown_10 rfl 0 rfl rfl ?_
  refine k_iconst (n := 12) (v := 4) F dX3_shutDown_11 rfl rfl ?_
  refine k_ci (n := 15) (ws' := [(a, .inr (3, [.int 4, .int 0, .int (tr + 1), .int fe, .int pr, .int ve]))]) F (k_rV (k := 1) (b := a) (As := [.int 4]) (rest := []) F (c_enter l g a st tk (tr + 1) fe pr ve 4) [0] rfl rfl 0 rfl rfl mw_379 mw_376 mw_377 mw_378 mw_4 (by decide) ⟨by decide, by decide⟩ rfl (Nat.le_of_ble_eq_true rfl) ⟨by decide, by decide⟩ dX3_shutDown_12) [0] [] [0] rfl rfl rfl (by decide) rfl rfl rfl ?_
  exact k_iret F rfl rfl dX3_shutDown_15
set_option maxRecDepth 100000 in
set_option maxHeartbeats 4000000 in
theorem c_settle (l : Launch) (g : kG) (a : Nat) (st tk tr fe pr ve : Int32) : kM l yX3_settle cX3_settle 1 (some .int) (rmK 1 0 0 21) g [.ref a] [(a, .inr (3, [.int st, .int tk, .int tr, .int fe, .int pr, .int ve]))] (kDi g 0 [(a, .inr (3, [.int 0, .int 0, .int tr, .int fe, .int pr, .int 0]))]) := by
  refine k_enter (by decide) (Nat.le_of_ble_eq_true rfl) ?_
  intro p e s m args below meth c A F
  refine k_aload_n (n := 1) F dX3_settle_0 rfl 0 rfl rfl ?_
  refine k_iconst (n := 2) (v := 0) F dX3_settle_1 rfl rfl ?_
  refine k_put (n := 5) (ws' := [(a, .inr (3, [.int st, .int tk, .int tr, .int fe, .int pr, .int 0]))]) F uX3 tyX3_ok nmX3 0 5 rfl rfl (by decide) mw_86 rfl rfl rfl (Nat.le_of_ble_eq_true rfl) rfl dX3_settle_2 rfl ?_
  refine k_aload_n (n := 6) F dX3_settle_5 rfl 0 rfl rfl ?_
  refine k_iconst (n := 7) (v := 0) F dX3_settle_6 rfl rfl ?_
  refine k_ci (n := 10) (ws' := [(a, .inr (3, [.int 0, .int 0, .int tr, .int fe, .int pr, .int 0]))]) F (k_rV (k := 1) (b := a) (As := [.int 0]) (rest := []) F (c_enter l g a st tk tr fe pr 0 0) [0] rfl rfl 0 rfl rfl mw_379 mw_376 mw_377 mw_378 mw_4 (by decide) ⟨by decide, by decide⟩ rfl (Nat.le_of_ble_eq_true rfl) ⟨by decide, by decide⟩ dX3_settle_7) [0] [] [0] rfl rfl rfl (by decide) rfl rfl rfl ?_
  exact k_iret F rfl rfl dX3_settle_10
set_option maxRecDepth 100000 in
set_option maxHeartbeats 4000000 in
theorem c_moveValve (l : Launch) (g : kG) (a : Nat) (st tk tr fe pr ve : Int32) : kM l yX3_moveValve cX3_moveValve 1 none (rmK 0 0 0 0) g [.ref a] [(a, .inr (3, [.int st, .int tk, .int tr, .int fe, .int pr, .int ve]))] (kDv g [(a, .inr (3, [.int st, .int tk, .int tr, .int (mvF tk fe), .int (mvP tk pr), .int (mvV tk ve)]))]) := by
  refine k_enter (by decide) (Nat.le_of_ble_eq_true rfl) ?_
  intro p e s m args below meth c A F
  refine k_aload_n (n := 1) F dX3_moveValve_0 rfl 0 rfl rfl ?_
  refine k_get (n := 4) (v := .int tk) F uX3 0 1 rfl rfl (by decide) mw_79 rfl dX3_moveValve_1 rfl ?_
  by_cases hc1 : tk = 1
  · refine k_tableIn (off := 28) (tgt := 32) F dX3_moveValve_4 (by rw [hc1]; decide) (by rw [hc1]; decide) (by rw [hc1]; rfl) (by decide) ?_
    refine k_aload_n (n := 33) F dX3_moveValve_32 rfl 0 rfl rfl ?_
    refine k_iconst (n := 34) (v := 0) F dX3_moveValve_33 rfl rfl ?_
    refine k_put (n := 37) (ws' := [(a, .inr (3, [.int st, .int tk, .int tr, .int 0, .int pr, .int ve]))]) F uX3 tyX3_ok nmX3 0 3 rfl rfl (by decide) mw_82 rfl rfl rfl (Nat.le_of_ble_eq_true rfl) rfl dX3_moveValve_34 rfl ?_
    refine k_goto (tgt := 56) F dX3_moveValve_37 (by decide) ?_
    exact k_vret F (by first | rfl | (simp [mvF, mvP, mvV, hc1]; done) | (simp_all [mvF, mvP, mvV, hc1]; done)) dX3_moveValve_56
  by_cases hc2 : tk = 2
  · refine k_tableIn (off := 36) (tgt := 40) F dX3_moveValve_4 (by rw [hc2]; decide) (by rw [hc2]; decide) (by rw [hc2]; rfl) (by decide) ?_
    refine k_aload_n (n := 41) F dX3_moveValve_40 rfl 0 rfl rfl ?_
    refine k_iconst (n := 42) (v := 0) F dX3_moveValve_41 rfl rfl ?_
    refine k_put (n := 45) (ws' := [(a, .inr (3, [.int st, .int tk, .int tr, .int fe, .int 0, .int ve]))]) F uX3 tyX3_ok nmX3 0 4 rfl rfl (by decide) mw_84 rfl rfl rfl (Nat.le_of_ble_eq_true rfl) rfl dX3_moveValve_42 rfl ?_
    refine k_goto (tgt := 56) F dX3_moveValve_45 (by decide) ?_
    exact k_vret F (by first | rfl | (simp [mvF, mvP, mvV, hc1, hc2]; done) | (simp_all [mvF, mvP, mvV, hc1, hc2]; done)) dX3_moveValve_56
  by_cases hc3 : tk = 3
  · refine k_tableIn (off := 44) (tgt := 48) F dX3_moveValve_4 (by rw [hc3]; decide) (by rw [hc3]; decide) (by rw [hc3]; rfl) (by decide) ?_
    refine k_aload_n (n := 49) F dX3_moveValve_48 rfl 0 rfl rfl ?_
    refine k_iconst (n := 50) (v := 1) F dX3_moveValve_49 rfl rfl ?_
    refine k_put (n := 53) (ws' := [(a, .inr (3, [.int st, .int tk, .int tr, .int fe, .int pr, .int 1]))]) F uX3 tyX3_ok nmX3 0 5 rfl rfl (by decide) mw_86 rfl rfl rfl (Nat.le_of_ble_eq_true rfl) rfl dX3_moveValve_50 rfl ?_
    refine k_goto (tgt := 56) F dX3_moveValve_53 (by decide) ?_
    exact k_vret F (by first | rfl | (simp [mvF, mvP, mvV, hc1, hc2, hc3]; done) | (simp_all [mvF, mvP, mvV, hc1, hc2, hc3]; done)) dX3_moveValve_56
  refine k_tableOut (tgt := 56) F dX3_moveValve_4 (by have z0 := lv_neT hc1 (show (1 : Int32).toInt = 1 from rfl); have z1 := lv_neT hc2 (show (2 : Int32).toInt = 2 from rfl); have z2 := lv_neT hc3 (show (3 : Int32).toInt = 3 from rfl); omega) (by decide) ?_
  exact k_vret F (by first | rfl | (simp [mvF, mvP, mvV, hc1, hc2, hc3]; done) | (simp_all [mvF, mvP, mvV, hc1, hc2, hc3]; done)) dX3_moveValve_56
set_option maxRecDepth 100000 in
set_option maxHeartbeats 4000000 in
theorem c_passTick (l : Launch) (g : kG) (a : Nat) (st tk tr fe pr ve : Int32) : kM l yX3_passTick cX3_passTick 1 (some .boolean) (rmK 1 0 0 20) g [.ref a] [(a, .inr (3, [.int st, .int tk, .int tr, .int fe, .int pr, .int ve]))] (kDi g (ptR st tk) [(a, .inr (3, [.int st, .int (tk + 1), .int tr, .int (ptF st tk fe), .int (ptP st tk pr), .int (ptV st tk ve)]))]) := by
  refine k_enter (by decide) (Nat.le_of_ble_eq_true rfl) ?_
  intro p e s m args below meth c A F
  refine k_aload_n (n := 1) F dX3_passTick_0 rfl 0 rfl rfl ?_
  refine k_dup (n := 2) F dX3_passTick_1 rfl rfl ?_
  refine k_get (n := 5) (v := .int tk) F uX3 0 1 rfl rfl (by decide) mw_79 rfl dX3_passTick_2 rfl ?_
  refine k_iconst (n := 6) (v := 1) F dX3_passTick_5 rfl rfl ?_
  refine k_iadd (n := 7) F dX3_passTick_6 rfl ?_
  refine k_put (n := 10) (ws' := [(a, .inr (3, [.int st, .int (tk + 1), .int tr, .int fe, .int pr, .int ve]))]) F uX3 tyX3_ok nmX3 0 1 rfl rfl (by decide) mw_79 rfl rfl rfl (Nat.le_of_ble_eq_true rfl) rfl dX3_passTick_7 rfl ?_
  refine k_aload_n (n := 11) F dX3_passTick_10 rfl 0 rfl rfl ?_
  refine k_get (n := 14) (v := .int st) F uX3 0 0 rfl rfl (by decide) mw_77 rfl dX3_passTick_11 rfl ?_
  by_cases hc1 : st = 1
  · refine k_tableIn (off := 30) (tgt := 44) F dX3_passTick_14 (by rw [hc1]; decide) (by rw [hc1]; decide) (by rw [hc1]; rfl) (by decide) ?_
    refine k_iconst (n := 45) (v := 1) F dX3_passTick_44 rfl rfl ?_
    exact k_zret F rfl (by first | rfl | (simp [ptR, ptF, ptP, ptV, hc1]; done) | (simp_all [ptR, ptF, ptP, ptV, hc1]; done)) (by first | rfl | (simp [ptR, ptF, ptP, ptV, hc1]; done) | (simp_all [ptR, ptF, ptP, ptV, hc1]; done)) dX3_passTick_45
  by_cases hc2 : st = 2
  · refine k_tableIn (off := 30) (tgt := 44) F dX3_passTick_14 (by rw [hc2]; decide) (by rw [hc2]; decide) (by rw [hc2]; rfl) (by decide) ?_
    refine k_iconst (n := 45) (v := 1) F dX3_passTick_44 rfl rfl ?_
    exact k_zret F rfl (by first | rfl | (simp [ptR, ptF, ptP, ptV, hc1, hc2]; done) | (simp_all [ptR, ptF, ptP, ptV, hc1, hc2]; done)) (by first | rfl | (simp [ptR, ptF, ptP, ptV, hc1, hc2]; done) | (simp_all [ptR, ptF, ptP, ptV, hc1, hc2]; done)) dX3_passTick_45
  by_cases hc3 : st = 3
  · refine k_tableIn (off := 32) (tgt := 46) F dX3_passTick_14 (by rw [hc3]; decide) (by rw [hc3]; decide) (by rw [hc3]; rfl) (by decide) ?_
    refine k_aload_n (n := 47) F dX3_passTick_46 rfl 0 rfl rfl ?_
    refine k_get (n := 50) (v := .int (tk + 1)) F uX3 0 1 rfl rfl (by decide) mw_79 rfl dX3_passTick_47 rfl ?_
    refine k_iconst (n := 51) (v := 2) F dX3_passTick_50 rfl rfl ?_
    refine k_irem (n := 52) F dX3_passTick_51 (by decide) rfl ?_
    refine k_iconst (n := 53) (v := 1) F dX3_passTick_52 rfl rfl ?_
    refine k_icmp_ne (n := 56) (tgt := 60) F dX3_passTick_53 (by decide) rfl (fun hc4 => ?_) (fun hc4 => ?_)
    · refine k_iconst (n := 61) (v := 0) F dX3_passTick_60 rfl rfl ?_
      exact k_zret F rfl (by first | rfl | (simp [ptR, ptF, ptP, ptV, hc1, hc2, hc3, hc4]; done) | (simp_all [ptR, ptF, ptP, ptV, hc1, hc2, hc3, hc4]; done)) (by first | rfl | (simp [ptR, ptF, ptP, ptV, hc1, hc2, hc3, hc4]; done) | (simp_all [ptR, ptF, ptP, ptV, hc1, hc2, hc3, hc4]; done)) dX3_passTick_61
    · refine k_iconst (n := 57) (v := 1) F dX3_passTick_56 rfl rfl ?_
      refine k_goto (tgt := 61) F dX3_passTick_57 (by decide) ?_
      exact k_zret F rfl (by first | rfl | (simp [ptR, ptF, ptP, ptV, hc1, hc2, hc3, hc4]; done) | (simp_all [ptR, ptF, ptP, ptV, hc1, hc2, hc3, hc4]; done)) (by first | rfl | (simp [ptR, ptF, ptP, ptV, hc1, hc2, hc3, hc4]; done) | (simp_all [ptR, ptF, ptP, ptV, hc1, hc2, hc3, hc4]; done)) dX3_passTick_61
  by_cases hc5 : st = 4
  · refine k_tableIn (off := 48) (tgt := 62) F dX3_passTick_14 (by rw [hc5]; decide) (by rw [hc5]; decide) (by rw [hc5]; rfl) (by decide) ?_
    refine k_aload_n (n := 63) F dX3_passTick_62 rfl 0 rfl rfl ?_
    refine k_cv (n := 66) (ws' := [(a, .inr (3, [.int st, .int (tk + 1), .int tr, .int (mvF (tk + 1) fe), .int (mvP (tk + 1) pr), .int (mvV (tk + 1) ve)]))]) F (k_rV (k := 0) (b := a) (As := []) (rest := []) F (c_moveValve l g a st (tk + 1) tr fe pr ve) [0] rfl rfl 0 rfl rfl mw_438 mw_435 mw_437 mw_s10 mw_4 (by decide) ⟨by decide, by decide⟩ rfl (Nat.le_of_ble_eq_true rfl) ⟨by decide, by decide⟩ dX3_passTick_63) [0] [] [0] rfl rfl rfl (by decide) rfl rfl rfl ?_
    refine k_iconst (n := 67) (v := 0) F dX3_passTick_66 rfl rfl ?_
    exact k_zret F rfl (by first | rfl | (simp [ptR, ptF, ptP, ptV, hc1, hc2, hc3, hc5]; done) | (simp_all [ptR, ptF, ptP, ptV, hc1, hc2, hc3, hc5]; done)) (by first | rfl | (simp [ptR, ptF, ptP, ptV, hc1, hc2, hc3, hc5]; done) | (simp_all [ptR, ptF, ptP, ptV, hc1, hc2, hc3, hc5]; done)) dX3_passTick_67
  refine k_tableOut (tgt := 68) F dX3_passTick_14 (by have z0 := lv_neT hc1 (show (1 : Int32).toInt = 1 from rfl); have z1 := lv_neT hc2 (show (2 : Int32).toInt = 2 from rfl); have z2 := lv_neT hc3 (show (3 : Int32).toInt = 3 from rfl); have z3 := lv_neT hc5 (show (4 : Int32).toInt = 4 from rfl); omega) (by decide) ?_
  refine k_iconst (n := 69) (v := 0) F dX3_passTick_68 rfl rfl ?_
  exact k_zret F rfl (by first | rfl | (simp [ptR, ptF, ptP, ptV, hc1, hc2, hc3, hc5]; done) | (simp_all [ptR, ptF, ptP, ptV, hc1, hc2, hc3, hc5]; done)) (by first | rfl | (simp [ptR, ptF, ptP, ptV, hc1, hc2, hc3, hc5]; done) | (simp_all [ptR, ptF, ptP, ptV, hc1, hc2, hc3, hc5]; done)) dX3_passTick_69
end
section
def kcor (x1 x2 x3 x4 x5 : Int32) : Int32 := if 0 ≤ x1 ∧ x1 ≤ x2 ∧ x2 ≤ x3 ∧ x3 ≤ x4 ∧ x4 ≤ x5 ∧ x5 ≤ 50 then 1 else 0
/-- an adsorber goes on: is it ready now, how, its load, its ticks -/
def goR (ho ti ht : Int32) : Int32 := if ¬ ho = 2 ∧ ¬ ho = 3 then 0 else if ti + 1 < ht then 0 else if ho = 2 then 0 else 1
def goH (ho ti ht : Int32) : Int32 := if ¬ ho = 2 ∧ ¬ ho = 3 then ho else if ti + 1 < ht then ho else if ho = 2 then 3 else 0
def goL (ho lo ti ht : Int32) : Int32 := if ¬ ho = 2 ∧ ¬ ho = 3 then lo else if ti + 1 < ht then lo else if ho = 2 then lo else 0
def goT (ho ti ht : Int32) : Int32 := if ¬ ho = 2 ∧ ¬ ho = 3 then ti else if ti + 1 < ht then ti + 1 else 0
def tkT (ro ta q : Int32) : Int32 := if ro - ta < q then ro - ta else q
def tkB (ro ta ba q : Int32) : Int32 := if 300 - ba < q - tkT ro ta q then 300 - ba else q - tkT ro ta q
set_option maxRecDepth 100000 in
set_option maxHeartbeats 4000000 in
theorem c_within (l : Launch) (g : kG) (v lo hi : Int32) : kM l yX9_within cX9_within 3 (some .boolean) (rmK 0 0 0 0) g [.int v, .int lo, .int hi] [] (kDi g (kin v lo hi) []) := by
  refine k_enter (by decide) (Nat.le_of_ble_eq_true rfl) ?_
  intro p e s m args below meth c A F
  refine k_iload_n (n := 1) F dX9_within_0 rfl 0 rfl rfl ?_
  refine k_iload_n (n := 2) F dX9_within_1 rfl 1 rfl rfl ?_
  refine k_icmp_lt (n := 5) (tgt := 14) F dX9_within_2 (by decide) rfl (fun hc1 => ?_) (fun hc1 => ?_)
  · refine k_iconst (n := 15) (v := 0) F dX9_within_14 rfl rfl ?_
    exact k_zret F rfl (by first | rfl | (simp [kin, hc1, Int32.not_le.mpr hc1]; done) | (simp_all [kin, hc1, Int32.not_le.mpr hc1]; done)) (by first | rfl | (simp [kin, hc1, Int32.not_le.mpr hc1]; done) | (simp_all [kin, hc1, Int32.not_le.mpr hc1]; done)) dX9_within_15
  · refine k_iload_n (n := 6) F dX9_within_5 rfl 0 rfl rfl ?_
    refine k_iload_n (n := 7) F dX9_within_6 rfl 2 rfl rfl ?_
    refine k_icmp_gt (n := 10) (tgt := 14) F dX9_within_7 (by decide) rfl (fun hc2 => ?_) (fun hc2 => ?_)
    · refine k_iconst (n := 15) (v := 0) F dX9_within_14 rfl rfl ?_
      exact k_zret F rfl (by first | rfl | (simp [kin, hc1, Int32.not_lt.mp hc1, hc2, Int32.not_le.mpr hc2]; done) | (simp_all [kin, hc1, Int32.not_lt.mp hc1, hc2, Int32.not_le.mpr hc2]; done)) (by first | rfl | (simp [kin, hc1, Int32.not_lt.mp hc1, hc2, Int32.not_le.mpr hc2]; done) | (simp_all [kin, hc1, Int32.not_lt.mp hc1, hc2, Int32.not_le.mpr hc2]; done)) dX9_within_15
    · refine k_iconst (n := 11) (v := 1) F dX9_within_10 rfl rfl ?_
      refine k_goto (tgt := 15) F dX9_within_11 (by decide) ?_
      exact k_zret F rfl (by first | rfl | (simp [kin, hc1, Int32.not_lt.mp hc1, hc2, Int32.not_lt.mp hc2]; done) | (simp_all [kin, hc1, Int32.not_lt.mp hc1, hc2, Int32.not_lt.mp hc2]; done)) (by first | rfl | (simp [kin, hc1, Int32.not_lt.mp hc1, hc2, Int32.not_lt.mp hc2]; done) | (simp_all [kin, hc1, Int32.not_lt.mp hc1, hc2, Int32.not_lt.mp hc2]; done)) dX9_within_15
set_option maxRecDepth 100000 in
set_option maxHeartbeats 4000000 in
theorem c_in (l : Launch) (g : kG) (v lo hi : Int32) : kM l yX10_in cX10_in 3 (some .boolean) (rmK 0 0 0 0) g [.int v, .int lo, .int hi] [] (kDi g (kin v lo hi) []) := by
  refine k_enter (by decide) (Nat.le_of_ble_eq_true rfl) ?_
  intro p e s m args below meth c A F
  refine k_iload_n (n := 1) F dX10_in_0 rfl 0 rfl rfl ?_
  refine k_iload_n (n := 2) F dX10_in_1 rfl 1 rfl rfl ?_
  refine k_icmp_lt (n := 5) (tgt := 14) F dX10_in_2 (by decide) rfl (fun hc1 => ?_) (fun hc1 => ?_)
  · refine k_iconst (n := 15) (v := 0) F dX10_in_14 rfl rfl ?_
    exact k_zret F rfl (by first | rfl | (simp [kin, hc1, Int32.not_le.mpr hc1]; done) | (simp_all [kin, hc1, Int32.not_le.mpr hc1]; done)) (by first | rfl | (simp [kin, hc1, Int32.not_le.mpr hc1]; done) | (simp_all [kin, hc1, Int32.not_le.mpr hc1]; done)) dX10_in_15
  · refine k_iload_n (n := 6) F dX10_in_5 rfl 0 rfl rfl ?_
    refine k_iload_n (n := 7) F dX10_in_6 rfl 2 rfl rfl ?_
    refine k_icmp_gt (n := 10) (tgt := 14) F dX10_in_7 (by decide) rfl (fun hc2 => ?_) (fun hc2 => ?_)
    · refine k_iconst (n := 15) (v := 0) F dX10_in_14 rfl rfl ?_
      exact k_zret F rfl (by first | rfl | (simp [kin, hc1, Int32.not_lt.mp hc1, hc2, Int32.not_le.mpr hc2]; done) | (simp_all [kin, hc1, Int32.not_lt.mp hc1, hc2, Int32.not_le.mpr hc2]; done)) (by first | rfl | (simp [kin, hc1, Int32.not_lt.mp hc1, hc2, Int32.not_le.mpr hc2]; done) | (simp_all [kin, hc1, Int32.not_lt.mp hc1, hc2, Int32.not_le.mpr hc2]; done)) dX10_in_15
    · refine k_iconst (n := 11) (v := 1) F dX10_in_10 rfl rfl ?_
      refine k_goto (tgt := 15) F dX10_in_11 (by decide) ?_
      exact k_zret F rfl (by first | rfl | (simp [kin, hc1, Int32.not_lt.mp hc1, hc2, Int32.not_lt.mp hc2]; done) | (simp_all [kin, hc1, Int32.not_lt.mp hc1, hc2, Int32.not_lt.mp hc2]; done)) (by first | rfl | (simp [kin, hc1, Int32.not_lt.mp hc1, hc2, Int32.not_lt.mp hc2]; done) | (simp_all [kin, hc1, Int32.not_lt.mp hc1, hc2, Int32.not_lt.mp hc2]; done)) dX10_in_15
set_option maxRecDepth 100000 in
set_option maxHeartbeats 4000000 in
theorem c_asNumber (l : Launch) (g : kG) (b : Int32) : kM l yX9_asNumber cX9_asNumber 1 (some .int) (rmK 0 0 0 0) g [.int b] [] (kDi g (if b = 0 then 0 else 1) []) := by
  refine k_enter (by decide) (Nat.le_of_ble_eq_true rfl) ?_
  intro p e s m args below meth c A F
  refine k_iload_n (n := 1) F dX9_asNumber_0 rfl 0 rfl rfl ?_
  refine k_if_eq (n := 4) (tgt := 8) F dX9_asNumber_1 (by decide) rfl (fun hc1 => ?_) (fun hc1 => ?_)
  · refine k_iconst (n := 9) (v := 0) F dX9_asNumber_8 rfl rfl ?_
    exact k_iret F (by first | rfl | (simp [hc1]; done) | (simp_all [hc1]; done)) (by first | rfl | (simp [hc1]; done) | (simp_all [hc1]; done)) dX9_asNumber_9
  · refine k_iconst (n := 5) (v := 1) F dX9_asNumber_4 rfl rfl ?_
    refine k_goto (tgt := 9) F dX9_asNumber_5 (by decide) ?_
    exact k_iret F (by first | rfl | (simp [hc1]; done) | (simp_all [hc1]; done)) (by first | rfl | (simp [hc1]; done) | (simp_all [hc1]; done)) dX9_asNumber_9
set_option maxRecDepth 100000 in
set_option maxHeartbeats 4000000 in
theorem c_isMeter (l : Launch) (g : kG) (x : Int32) : kM l yX9_isMeter cX9_isMeter 1 (some .boolean) (rmK 1 0 0 22) g [.int x] [] (kDi g (kin x 0 3) []) := by
  refine k_enter (by decide) (Nat.le_of_ble_eq_true rfl) ?_
  intro p e s m args below meth c A F
  refine k_iload_n (n := 1) F dX9_isMeter_0 rfl 0 rfl rfl ?_
  refine k_iconst (n := 2) (v := 0) F dX9_isMeter_1 rfl rfl ?_
  refine k_iconst (n := 3) (v := 3) F dX9_isMeter_2 rfl rfl ?_
  refine k_ciR (n := 6) F (k_rS (k := 3) (As := [.int x, .int 0, .int 3]) (rest := []) F (c_within l g x 0 3) [] rfl rfl mw_243 mw_241 mw_242 mw_1 (by decide) ⟨by decide, by decide⟩ rfl (Nat.le_of_ble_eq_true rfl) ⟨by decide, by decide⟩ dX9_isMeter_3) [] rfl rfl ?_
  exact k_zret F (kZn (kin_b _ _ _)) rfl rfl dX9_isMeter_6
set_option maxRecDepth 100000 in
set_option maxHeartbeats 4000000 in
theorem c_areCorners (l : Launch) (g : kG) (x1 x2 x3 x4 x5 : Int32) : kM l yX9_areCorners cX9_areCorners 5 (some .boolean) (rmK 0 0 0 0) g [.int x1, .int x2, .int x3, .int x4, .int x5] [] (kDi g (kcor x1 x2 x3 x4 x5) []) := by
  refine k_enter (by decide) (Nat.le_of_ble_eq_true rfl) ?_
  intro p e s m args below meth c A F
  refine k_iload_n (n := 1) F dX9_areCorners_0 rfl 0 rfl rfl ?_
  refine k_if_lt (n := 4) (tgt := 36) F dX9_areCorners_1 (by decide) rfl (fun hc1 => ?_) (fun hc1 => ?_)
  · refine k_iconst (n := 37) (v := 0) F dX9_areCorners_36 rfl rfl ?_
    exact k_zret F rfl (by first | rfl | (simp [kcor, hc1, Int32.not_le.mpr hc1]; done) | (simp_all [kcor, hc1, Int32.not_le.mpr hc1]; done)) (by first | rfl | (simp [kcor, hc1, Int32.not_le.mpr hc1]; done) | (simp_all [kcor, hc1, Int32.not_le.mpr hc1]; done)) dX9_areCorners_37
  · refine k_iload_n (n := 5) F dX9_areCorners_4 rfl 1 rfl rfl ?_
    refine k_iload_n (n := 6) F dX9_areCorners_5 rfl 0 rfl rfl ?_
    refine k_icmp_lt (n := 9) (tgt := 36) F dX9_areCorners_6 (by decide) rfl (fun hc2 => ?_) (fun hc2 => ?_)
    · refine k_iconst (n := 37) (v := 0) F dX9_areCorners_36 rfl rfl ?_
      exact k_zret F rfl (by first | rfl | (simp [kcor, hc1, Int32.not_lt.mp hc1, hc2, Int32.not_le.mpr hc2]; done) | (simp_all [kcor, hc1, Int32.not_lt.mp hc1, hc2, Int32.not_le.mpr hc2]; done)) (by first | rfl | (simp [kcor, hc1, Int32.not_lt.mp hc1, hc2, Int32.not_le.mpr hc2]; done) | (simp_all [kcor, hc1, Int32.not_lt.mp hc1, hc2, Int32.not_le.mpr hc2]; done)) dX9_areCorners_37
    · refine k_iload_n (n := 10) F dX9_areCorners_9 rfl 2 rfl rfl ?_
      refine k_iload_n (n := 11) F dX9_areCorners_10 rfl 1 rfl rfl ?_
      refine k_icmp_lt (n := 14) (tgt := 36) F dX9_areCorners_11 (by decide) rfl (fun hc3 => ?_) (fun hc3 => ?_)
      · refine k_iconst (n := 37) (v := 0) F dX9_areCorners_36 rfl rfl ?_
        exact k_zret F rfl (by first | rfl | (simp [kcor, hc1, Int32.not_lt.mp hc1, hc2, Int32.not_lt.mp hc2, hc3, Int32.not_le.mpr hc3]; done) | (simp_all [kcor, hc1, Int32.not_lt.mp hc1, hc2, Int32.not_lt.mp hc2, hc3, Int32.not_le.mpr hc3]; done)) (by first | rfl | (simp [kcor, hc1, Int32.not_lt.mp hc1, hc2, Int32.not_lt.mp hc2, hc3, Int32.not_le.mpr hc3]; done) | (simp_all [kcor, hc1, Int32.not_lt.mp hc1, hc2, Int32.not_lt.mp hc2, hc3, Int32.not_le.mpr hc3]; done)) dX9_areCorners_37
      · refine k_iload_n (n := 15) F dX9_areCorners_14 rfl 3 rfl rfl ?_
        refine k_iload_n (n := 16) F dX9_areCorners_15 rfl 2 rfl rfl ?_
        refine k_icmp_lt (n := 19) (tgt := 36) F dX9_areCorners_16 (by decide) rfl (fun hc4 => ?_) (fun hc4 => ?_)
        · refine k_iconst (n := 37) (v := 0) F dX9_areCorners_36 rfl rfl ?_
          exact k_zret F rfl (by first | rfl | (simp [kcor, hc1, Int32.not_lt.mp hc1, hc2, Int32.not_lt.mp hc2, hc3, Int32.not_lt.mp hc3, hc4, Int32.not_le.mpr hc4]; done) | (simp_all [kcor, hc1, Int32.not_lt.mp hc1, hc2, Int32.not_lt.mp hc2, hc3, Int32.not_lt.mp hc3, hc4, Int32.not_le.mpr hc4]; done)) (by first | rfl | (simp [kcor, hc1, Int32.not_lt.mp hc1, hc2, Int32.not_lt.mp hc2, hc3, Int32.not_lt.mp hc3, hc4, Int32.not_le.mpr hc4]; done) | (simp_all [kcor, hc1, Int32.not_lt.mp hc1, hc2, Int32.not_lt.mp hc2, hc3, Int32.not_lt.mp hc3, hc4, Int32.not_le.mpr hc4]; done)) dX9_areCorners_37
        · refine k_iload (n := 21) F dX9_areCorners_19 4 rfl rfl ?_
          refine k_iload_n (n := 22) F dX9_areCorners_21 rfl 3 rfl rfl ?_
          refine k_icmp_lt (n := 25) (tgt := 36) F dX9_areCorners_22 (by decide) rfl (fun hc5 => ?_) (fun hc5 => ?_)
          · refine k_iconst (n := 37) (v := 0) F dX9_areCorners_36 rfl rfl ?_
            exact k_zret F rfl (by first | rfl | (simp [kcor, hc1, Int32.not_lt.mp hc1, hc2, Int32.not_lt.mp hc2, hc3, Int32.not_lt.mp hc3, hc4, Int32.not_lt.mp hc4, hc5, Int32.not_le.mpr hc5]; done) | (simp_all [kcor, hc1, Int32.not_lt.mp hc1, hc2, Int32.not_lt.mp hc2, hc3, Int32.not_lt.mp hc3, hc4, Int32.not_lt.mp hc4, hc5, Int32.not_le.mpr hc5]; done)) (by first | rfl | (simp [kcor, hc1, Int32.not_lt.mp hc1, hc2, Int32.not_lt.mp hc2, hc3, Int32.not_lt.mp hc3, hc4, Int32.not_lt.mp hc4, hc5, Int32.not_le.mpr hc5]; done) | (simp_all [kcor, hc1, Int32.not_lt.mp hc1, hc2, Int32.not_lt.mp hc2, hc3, Int32.not_lt.mp hc3, hc4, Int32.not_lt.mp hc4, hc5, Int32.not_le.mpr hc5]; done)) dX9_areCorners_37
          · refine k_iload (n := 27) F dX9_areCorners_25 4 rfl rfl ?_
            refine k_bipush (n := 29) (v := 50) F dX9_areCorners_27 rfl rfl ?_
            refine k_icmp_gt (n := 32) (tgt := 36) F dX9_areCorners_29 (by decide) rfl (fun hc6 => ?_) (fun hc6 => ?_)
            · refine k_iconst (n := 37) (v := 0) F dX9_areCorners_36 rfl rfl ?_
              exact k_zret F rfl (by first | rfl | (simp [kcor, hc1, Int32.not_lt.mp hc1, hc2, Int32.not_lt.mp hc2, hc3, Int32.not_lt.mp hc3, hc4, Int32.not_lt.mp hc4, hc5, Int32.not_lt.mp hc5, hc6, Int32.not_le.mpr hc6]; done) | (simp_all [kcor, hc1, Int32.not_lt.mp hc1, hc2, Int32.not_lt.mp hc2, hc3, Int32.not_lt.mp hc3, hc4, Int32.not_lt.mp hc4, hc5, Int32.not_lt.mp hc5, hc6, Int32.not_le.mpr hc6]; done)) (by first | rfl | (simp [kcor, hc1, Int32.not_lt.mp hc1, hc2, Int32.not_lt.mp hc2, hc3, Int32.not_lt.mp hc3, hc4, Int32.not_lt.mp hc4, hc5, Int32.not_lt.mp hc5, hc6, Int32.not_le.mpr hc6]; done) | (simp_all [kcor, hc1, Int32.not_lt.mp hc1, hc2, Int32.not_lt.mp hc2, hc3, Int32.not_lt.mp hc3, hc4, Int32.not_lt.mp hc4, hc5, Int32.not_lt.mp hc5, hc6, Int32.not_le.mpr hc6]; done)) dX9_areCorners_37
            · refine k_iconst (n := 33) (v := 1) F dX9_areCorners_32 rfl rfl ?_
              refine k_goto (tgt := 37) F dX9_areCorners_33 (by decide) ?_
              exact k_zret F rfl (by first | rfl | (simp [kcor, hc1, Int32.not_lt.mp hc1, hc2, Int32.not_lt.mp hc2, hc3, Int32.not_lt.mp hc3, hc4, Int32.not_lt.mp hc4, hc5, Int32.not_lt.mp hc5, hc6, Int32.not_lt.mp hc6]; done) | (simp_all [kcor, hc1, Int32.not_lt.mp hc1, hc2, Int32.not_lt.mp hc2, hc3, Int32.not_lt.mp hc3, hc4, Int32.not_lt.mp hc4, hc5, Int32.not_lt.mp hc5, hc6, Int32.not_lt.mp hc6]; done)) (by first | rfl | (simp [kcor, hc1, Int32.not_lt.mp hc1, hc2, Int32.not_lt.mp hc2, hc3, Int32.not_lt.mp hc3, hc4, Int32.not_lt.mp hc4, hc5, Int32.not_lt.mp hc5, hc6, Int32.not_lt.mp hc6]; done) | (simp_all [kcor, hc1, Int32.not_lt.mp hc1, hc2, Int32.not_lt.mp hc2, hc3, Int32.not_lt.mp hc3, hc4, Int32.not_lt.mp hc4, hc5, Int32.not_lt.mp hc5, hc6, Int32.not_lt.mp hc6]; done)) dX9_areCorners_37
set_option maxRecDepth 100000 in
set_option maxHeartbeats 4000000 in
theorem c_become (l : Launch) (g : kG) (a : Nat) (ho lo ti nx : Int32) : kM l yX0_become cX0_become 2 none (rmK 0 0 0 0) g [.ref a, .int nx] [(a, .inr (0, [.int ho, .int lo, .int ti]))] (kDv g [(a, .inr (0, [.int nx, .int lo, .int 0]))]) := by
  refine k_enter (by decide) (Nat.le_of_ble_eq_true rfl) ?_
  intro p e s m args below meth c A F
  refine k_aload_n (n := 1) F dX0_become_0 rfl 0 rfl rfl ?_
  refine k_iload_n (n := 2) F dX0_become_1 rfl 1 rfl rfl ?_
  refine k_put (n := 5) (ws' := [(a, .inr (0, [.int nx, .int lo, .int ti]))]) F uX0 tyX0_ok nmX0 0 0 rfl rfl (by decide) mw_113 rfl rfl rfl (Nat.le_of_ble_eq_true rfl) rfl dX0_become_2 rfl ?_
  refine k_aload_n (n := 6) F dX0_become_5 rfl 0 rfl rfl ?_
  refine k_iconst (n := 7) (v := 0) F dX0_become_6 rfl rfl ?_
  refine k_put (n := 10) (ws' := [(a, .inr (0, [.int nx, .int lo, .int 0]))]) F uX0 tyX0_ok nmX0 0 2 rfl rfl (by decide) mw_117 rfl rfl rfl (Nat.le_of_ble_eq_true rfl) rfl dX0_become_7 rfl ?_
  exact k_vret F rfl dX0_become_10
set_option maxRecDepth 100000 in
set_option maxHeartbeats 4000000 in
theorem c_goOn (l : Launch) (g : kG) (a : Nat) (ho lo ti ht : Int32) : kM l yX0_goOn cX0_goOn 2 (some .boolean) (rmK 1 0 0 21) g [.ref a, .int ht] [(a, .inr (0, [.int ho, .int lo, .int ti]))] (kDi g (goR ho ti ht) [(a, .inr (0, [.int (goH ho ti ht), .int (goL ho lo ti ht), .int (goT ho ti ht)]))]) := by
  refine k_enter (by decide) (Nat.le_of_ble_eq_true rfl) ?_
  intro p e s m args below meth c A F
  refine k_aload_n (n := 1) F dX0_goOn_0 rfl 0 rfl rfl ?_
  refine k_get (n := 4) (v := .int ho) F uX0 0 0 rfl rfl (by decide) mw_113 rfl dX0_goOn_1 rfl ?_
  refine k_iconst (n := 5) (v := 2) F dX0_goOn_4 rfl rfl ?_
  refine k_icmp_eq (n := 8) (tgt := 18) F dX0_goOn_5 (by decide) rfl (fun hc1 => ?_) (fun hc1 => ?_)
  · refine k_aload_n (n := 19) F dX0_goOn_18 rfl 0 rfl rfl ?_
    refine k_dup (n := 20) F dX0_goOn_19 rfl rfl ?_
    refine k_get (n := 23) (v := .int ti) F uX0 0 2 rfl rfl (by decide) mw_117 rfl dX0_goOn_20 rfl ?_
    refine k_iconst (n := 24) (v := 1) F dX0_goOn_23 rfl rfl ?_
    refine k_iadd (n := 25) F dX0_goOn_24 rfl ?_
    refine k_put (n := 28) (ws' := [(a, .inr (0, [.int ho, .int lo, .int (ti + 1)]))]) F uX0 tyX0_ok nmX0 0 2 rfl rfl (by decide) mw_117 rfl rfl rfl (Nat.le_of_ble_eq_true rfl) rfl dX0_goOn_25 rfl ?_
    refine k_aload_n (n := 29) F dX0_goOn_28 rfl 0 rfl rfl ?_
    refine k_get (n := 32) (v := .int (ti + 1)) F uX0 0 2 rfl rfl (by decide) mw_117 rfl dX0_goOn_29 rfl ?_
    refine k_iload_n (n := 33) F dX0_goOn_32 rfl 1 rfl rfl ?_
    refine k_icmp_ge (n := 36) (tgt := 38) F dX0_goOn_33 (by decide) rfl (fun hc2 => ?_) (fun hc2 => ?_)
    · refine k_aload_n (n := 39) F dX0_goOn_38 rfl 0 rfl rfl ?_
      refine k_get (n := 42) (v := .int ho) F uX0 0 0 rfl rfl (by decide) mw_113 rfl dX0_goOn_39 rfl ?_
      refine k_iconst (n := 43) (v := 2) F dX0_goOn_42 rfl rfl ?_
      refine k_icmp_ne (n := 46) (tgt := 53) F dX0_goOn_43 (by decide) rfl (fun h9 => absurd hc1 h9) (fun _ => ?_)
      refine k_aload_n (n := 47) F dX0_goOn_46 rfl 0 rfl rfl ?_
      refine k_iconst (n := 48) (v := 3) F dX0_goOn_47 rfl rfl ?_
      refine k_cv (n := 51) (ws' := [(a, .inr (0, [.int 3, .int lo, .int 0]))]) F (k_rV (k := 1) (b := a) (As := [.int 3]) (rest := []) F (c_become l g a ho lo (ti + 1) 3) [0] rfl rfl 0 rfl rfl mw_428 mw_425 mw_426 mw_427 mw_6 (by decide) ⟨by decide, by decide⟩ rfl (Nat.le_of_ble_eq_true rfl) ⟨by decide, by decide⟩ dX0_goOn_48) [0] [] [0] rfl rfl rfl (by decide) rfl rfl rfl ?_
      refine k_iconst (n := 52) (v := 0) F dX0_goOn_51 rfl rfl ?_
      exact k_zret F rfl (by first | rfl | (simp [goR, goH, goL, goT, hc1, hc2, Int32.not_lt.mpr hc2]; done) | (simp_all [goR, goH, goL, goT, hc1, hc2, Int32.not_lt.mpr hc2]; done)) (by first | rfl | (simp [goR, goH, goL, goT, hc1, hc2, Int32.not_lt.mpr hc2]; done) | (simp_all [goR, goH, goL, goT, hc1, hc2, Int32.not_lt.mpr hc2]; done)) dX0_goOn_52
    · refine k_iconst (n := 37) (v := 0) F dX0_goOn_36 rfl rfl ?_
      exact k_zret F rfl (by first | rfl | (simp [goR, goH, goL, goT, hc1, hc2, Int32.not_le.mp hc2]; done) | (simp_all [goR, goH, goL, goT, hc1, hc2, Int32.not_le.mp hc2]; done)) (by first | rfl | (simp [goR, goH, goL, goT, hc1, hc2, Int32.not_le.mp hc2]; done) | (simp_all [goR, goH, goL, goT, hc1, hc2, Int32.not_le.mp hc2]; done)) dX0_goOn_37
  · refine k_aload_n (n := 9) F dX0_goOn_8 rfl 0 rfl rfl ?_
    refine k_get (n := 12) (v := .int ho) F uX0 0 0 rfl rfl (by decide) mw_113 rfl dX0_goOn_9 rfl ?_
    refine k_iconst (n := 13) (v := 3) F dX0_goOn_12 rfl rfl ?_
    refine k_icmp_eq (n := 16) (tgt := 18) F dX0_goOn_13 (by decide) rfl (fun hc3 => ?_) (fun hc3 => ?_)
    · refine k_aload_n (n := 19) F dX0_goOn_18 rfl 0 rfl rfl ?_
      refine k_dup (n := 20) F dX0_goOn_19 rfl rfl ?_
      refine k_get (n := 23) (v := .int ti) F uX0 0 2 rfl rfl (by decide) mw_117 rfl dX0_goOn_20 rfl ?_
      refine k_iconst (n := 24) (v := 1) F dX0_goOn_23 rfl rfl ?_
      refine k_iadd (n := 25) F dX0_goOn_24 rfl ?_
      refine k_put (n := 28) (ws' := [(a, .inr (0, [.int ho, .int lo, .int (ti + 1)]))]) F uX0 tyX0_ok nmX0 0 2 rfl rfl (by decide) mw_117 rfl rfl rfl (Nat.le_of_ble_eq_true rfl) rfl dX0_goOn_25 rfl ?_
      refine k_aload_n (n := 29) F dX0_goOn_28 rfl 0 rfl rfl ?_
      refine k_get (n := 32) (v := .int (ti + 1)) F uX0 0 2 rfl rfl (by decide) mw_117 rfl dX0_goOn_29 rfl ?_
      refine k_iload_n (n := 33) F dX0_goOn_32 rfl 1 rfl rfl ?_
      refine k_icmp_ge (n := 36) (tgt := 38) F dX0_goOn_33 (by decide) rfl (fun hc4 => ?_) (fun hc4 => ?_)
      · refine k_aload_n (n := 39) F dX0_goOn_38 rfl 0 rfl rfl ?_
        refine k_get (n := 42) (v := .int ho) F uX0 0 0 rfl rfl (by decide) mw_113 rfl dX0_goOn_39 rfl ?_
        refine k_iconst (n := 43) (v := 2) F dX0_goOn_42 rfl rfl ?_
        refine k_icmp_ne (n := 46) (tgt := 53) F dX0_goOn_43 (by decide) rfl (fun _ => ?_) (fun h9 => absurd (hc3.symm.trans h9) (by decide))
        refine k_aload_n (n := 54) F dX0_goOn_53 rfl 0 rfl rfl ?_
        refine k_iconst (n := 55) (v := 0) F dX0_goOn_54 rfl rfl ?_
        refine k_cv (n := 58) (ws' := [(a, .inr (0, [.int 0, .int lo, .int 0]))]) F (k_rV (k := 1) (b := a) (As := [.int 0]) (rest := []) F (c_become l g a ho lo (ti + 1) 0) [0] rfl rfl 0 rfl rfl mw_428 mw_425 mw_426 mw_427 mw_6 (by decide) ⟨by decide, by decide⟩ rfl (Nat.le_of_ble_eq_true rfl) ⟨by decide, by decide⟩ dX0_goOn_55) [0] [] [0] rfl rfl rfl (by decide) rfl rfl rfl ?_
        refine k_aload_n (n := 59) F dX0_goOn_58 rfl 0 rfl rfl ?_
        refine k_iconst (n := 60) (v := 0) F dX0_goOn_59 rfl rfl ?_
        refine k_put (n := 63) (ws' := [(a, .inr (0, [.int 0, .int 0, .int 0]))]) F uX0 tyX0_ok nmX0 0 1 rfl rfl (by decide) mw_115 rfl rfl rfl (Nat.le_of_ble_eq_true rfl) rfl dX0_goOn_60 rfl ?_
        refine k_iconst (n := 64) (v := 1) F dX0_goOn_63 rfl rfl ?_
        exact k_zret F rfl (by first | rfl | (simp [goR, goH, goL, goT, hc1, hc3, hc4, Int32.not_lt.mpr hc4]; done) | (simp_all [goR, goH, goL, goT, hc1, hc3, hc4, Int32.not_lt.mpr hc4]; done)) (by first | rfl | (simp [goR, goH, goL, goT, hc1, hc3, hc4, Int32.not_lt.mpr hc4]; done) | (simp_all [goR, goH, goL, goT, hc1, hc3, hc4, Int32.not_lt.mpr hc4]; done)) dX0_goOn_64
      · refine k_iconst (n := 37) (v := 0) F dX0_goOn_36 rfl rfl ?_
        exact k_zret F rfl (by first | rfl | (simp [goR, goH, goL, goT, hc1, hc3, hc4, Int32.not_le.mp hc4]; done) | (simp_all [goR, goH, goL, goT, hc1, hc3, hc4, Int32.not_le.mp hc4]; done)) (by first | rfl | (simp [goR, goH, goL, goT, hc1, hc3, hc4, Int32.not_le.mp hc4]; done) | (simp_all [goR, goH, goL, goT, hc1, hc3, hc4, Int32.not_le.mp hc4]; done)) dX0_goOn_37
    · refine k_iconst (n := 17) (v := 0) F dX0_goOn_16 rfl rfl ?_
      exact k_zret F rfl (by first | rfl | (simp [goR, goH, goL, goT, hc1, hc3]; done) | (simp_all [goR, goH, goL, goT, hc1, hc3]; done)) (by first | rfl | (simp [goR, goH, goL, goT, hc1, hc3]; done) | (simp_all [goR, goH, goL, goT, hc1, hc3]; done)) dX0_goOn_17
set_option maxRecDepth 100000 in
set_option maxHeartbeats 4000000 in
theorem c_fact (l : Launch) (g : kG) (a : Nat) (ho lo ti wh : Int32) : kM l yX0_fact cX0_fact 2 (some .int) (rmK 0 0 0 0) g [.ref a, .int wh] [(a, .inr (0, [.int ho, .int lo, .int ti]))] (kDi g (if wh = 0 then ho else if wh = 1 then lo else if wh = 2 then ti else -1) [(a, .inr (0, [.int ho, .int lo, .int ti]))]) := by
  refine k_enter (by decide) (Nat.le_of_ble_eq_true rfl) ?_
  intro p e s m args below meth c A F
  refine k_iload_n (n := 1) F dX0_fact_0 rfl 1 rfl rfl ?_
  by_cases hc1 : wh = 0
  · refine k_tableIn (off := 27) (tgt := 28) F dX0_fact_1 (by rw [hc1]; decide) (by rw [hc1]; decide) (by rw [hc1]; rfl) (by decide) ?_
    refine k_aload_n (n := 29) F dX0_fact_28 rfl 0 rfl rfl ?_
    refine k_get (n := 32) (v := .int ho) F uX0 0 0 rfl rfl (by decide) mw_113 rfl dX0_fact_29 rfl ?_
    exact k_iret F (by first | rfl | (simp [hc1]; done) | (simp_all [hc1]; done)) (by first | rfl | (simp [hc1]; done) | (simp_all [hc1]; done)) dX0_fact_32
  by_cases hc2 : wh = 1
  · refine k_tableIn (off := 32) (tgt := 33) F dX0_fact_1 (by rw [hc2]; decide) (by rw [hc2]; decide) (by rw [hc2]; rfl) (by decide) ?_
    refine k_aload_n (n := 34) F dX0_fact_33 rfl 0 rfl rfl ?_
    refine k_get (n := 37) (v := .int lo) F uX0 0 1 rfl rfl (by decide) mw_115 rfl dX0_fact_34 rfl ?_
    exact k_iret F (by first | rfl | (simp [hc1, hc2]; done) | (simp_all [hc1, hc2]; done)) (by first | rfl | (simp [hc1, hc2]; done) | (simp_all [hc1, hc2]; done)) dX0_fact_37
  by_cases hc3 : wh = 2
  · refine k_tableIn (off := 37) (tgt := 38) F dX0_fact_1 (by rw [hc3]; decide) (by rw [hc3]; decide) (by rw [hc3]; rfl) (by decide) ?_
    refine k_aload_n (n := 39) F dX0_fact_38 rfl 0 rfl rfl ?_
    refine k_get (n := 42) (v := .int ti) F uX0 0 2 rfl rfl (by decide) mw_117 rfl dX0_fact_39 rfl ?_
    exact k_iret F (by first | rfl | (simp [hc1, hc2, hc3]; done) | (simp_all [hc1, hc2, hc3]; done)) (by first | rfl | (simp [hc1, hc2, hc3]; done) | (simp_all [hc1, hc2, hc3]; done)) dX0_fact_42
  refine k_tableOut (tgt := 43) F dX0_fact_1 (by have z0 := lv_neT hc1 (show (0 : Int32).toInt = 0 from rfl); have z1 := lv_neT hc2 (show (1 : Int32).toInt = 1 from rfl); have z2 := lv_neT hc3 (show (2 : Int32).toInt = 2 from rfl); omega) (by decide) ?_
  refine k_iconst (n := 44) (v := -1) F dX0_fact_43 rfl rfl ?_
  exact k_iret F (by first | rfl | (simp [hc1, hc2, hc3]; done) | (simp_all [hc1, hc2, hc3]; done)) (by first | rfl | (simp [hc1, hc2, hc3]; done) | (simp_all [hc1, hc2, hc3]; done)) dX0_fact_44
set_option maxRecDepth 100000 in
set_option maxHeartbeats 4000000 in
theorem c_isFull (l : Launch) (g : kG) (a : Nat) (ro ta ba : Int32) (ma de bl : Int64) : kM l yX6_isFull cX6_isFull 1 (some .boolean) (rmK 0 0 0 0) g [.ref a] [(a, .inr (6, [.int ro, .int ta, .int ba, .long ma, .long de, .long bl]))] (kDi g (if ro ≤ ta then 1 else 0) [(a, .inr (6, [.int ro, .int ta, .int ba, .long ma, .long de, .long bl]))]) := by
  refine k_enter (by decide) (Nat.le_of_ble_eq_true rfl) ?_
  intro p e s m args below meth c A F
  refine k_aload_n (n := 1) F dX6_isFull_0 rfl 0 rfl rfl ?_
  refine k_get (n := 4) (v := .int ta) F uX6 0 1 rfl rfl (by decide) mw_148 rfl dX6_isFull_1 rfl ?_
  refine k_aload_n (n := 5) F dX6_isFull_4 rfl 0 rfl rfl ?_
  refine k_get (n := 8) (v := .int ro) F uX6 0 0 rfl rfl (by decide) mw_146 rfl dX6_isFull_5 rfl ?_
  refine k_icmp_lt (n := 11) (tgt := 15) F dX6_isFull_8 (by decide) rfl (fun hc1 => ?_) (fun hc1 => ?_)
  · refine k_iconst (n := 16) (v := 0) F dX6_isFull_15 rfl rfl ?_
    exact k_zret F rfl (by first | rfl | (simp [hc1, Int32.not_le.mpr hc1]; done) | (simp_all [hc1, Int32.not_le.mpr hc1]; done)) (by first | rfl | (simp [hc1, Int32.not_le.mpr hc1]; done) | (simp_all [hc1, Int32.not_le.mpr hc1]; done)) dX6_isFull_16
  · refine k_iconst (n := 12) (v := 1) F dX6_isFull_11 rfl rfl ?_
    refine k_goto (tgt := 16) F dX6_isFull_12 (by decide) ?_
    exact k_zret F rfl (by first | rfl | (simp [hc1, Int32.not_lt.mp hc1]; done) | (simp_all [hc1, Int32.not_lt.mp hc1]; done)) (by first | rfl | (simp [hc1, Int32.not_lt.mp hc1]; done) | (simp_all [hc1, Int32.not_lt.mp hc1]; done)) dX6_isFull_16
set_option maxRecDepth 100000 in
set_option maxHeartbeats 4000000 in
theorem c_reading (l : Launch) (g : kG) (a : Nat) (ro ta ba me : Int32) (ma de bl : Int64) : kM l yX6_reading cX6_reading 2 (some .long) (rmK 0 0 0 0) g [.ref a, .int me] [(a, .inr (6, [.int ro, .int ta, .int ba, .long ma, .long de, .long bl]))] (kDl g (if me = 0 then ma else if me = 1 then de else if me = 2 then bl else (ta + ba).toInt64) [(a, .inr (6, [.int ro, .int ta, .int ba, .long ma, .long de, .long bl]))]) := by
  refine k_enter (by decide) (Nat.le_of_ble_eq_true rfl) ?_
  intro p e s m args below meth c A F
  refine k_iload_n (n := 1) F dX6_reading_0 rfl 1 rfl rfl ?_
  by_cases hc1 : me = 0
  · refine k_tableIn (off := 27) (tgt := 28) F dX6_reading_1 (by rw [hc1]; decide) (by rw [hc1]; decide) (by rw [hc1]; rfl) (by decide) ?_
    refine k_aload_n (n := 29) F dX6_reading_28 rfl 0 rfl rfl ?_
    refine k_get (n := 32) (v := .long ma) F uX6 0 3 rfl rfl (by decide) mw_152 rfl dX6_reading_29 rfl ?_
    exact k_lret F (by first | rfl | (simp [hc1]; done) | (simp_all [hc1]; done)) (by first | rfl | (simp [hc1]; done) | (simp_all [hc1]; done)) dX6_reading_32
  by_cases hc2 : me = 1
  · refine k_tableIn (off := 32) (tgt := 33) F dX6_reading_1 (by rw [hc2]; decide) (by rw [hc2]; decide) (by rw [hc2]; rfl) (by decide) ?_
    refine k_aload_n (n := 34) F dX6_reading_33 rfl 0 rfl rfl ?_
    refine k_get (n := 37) (v := .long de) F uX6 0 4 rfl rfl (by decide) mw_153 rfl dX6_reading_34 rfl ?_
    exact k_lret F (by first | rfl | (simp [hc1, hc2]; done) | (simp_all [hc1, hc2]; done)) (by first | rfl | (simp [hc1, hc2]; done) | (simp_all [hc1, hc2]; done)) dX6_reading_37
  by_cases hc3 : me = 2
  · refine k_tableIn (off := 37) (tgt := 38) F dX6_reading_1 (by rw [hc3]; decide) (by rw [hc3]; decide) (by rw [hc3]; rfl) (by decide) ?_
    refine k_aload_n (n := 39) F dX6_reading_38 rfl 0 rfl rfl ?_
    refine k_get (n := 42) (v := .long bl) F uX6 0 5 rfl rfl (by decide) mw_154 rfl dX6_reading_39 rfl ?_
    exact k_lret F (by first | rfl | (simp [hc1, hc2, hc3]; done) | (simp_all [hc1, hc2, hc3]; done)) (by first | rfl | (simp [hc1, hc2, hc3]; done) | (simp_all [hc1, hc2, hc3]; done)) dX6_reading_42
  refine k_tableOut (tgt := 43) F dX6_reading_1 (by have z0 := lv_neT hc1 (show (0 : Int32).toInt = 0 from rfl); have z1 := lv_neT hc2 (show (1 : Int32).toInt = 1 from rfl); have z2 := lv_neT hc3 (show (2 : Int32).toInt = 2 from rfl); omega) (by decide) ?_
  refine k_aload_n (n := 44) F dX6_reading_43 rfl 0 rfl rfl ?_
  refine k_get (n := 47) (v := .int ta) F uX6 0 1 rfl rfl (by decide) mw_148 rfl dX6_reading_44 rfl ?_
  refine k_aload_n (n := 48) F dX6_reading_47 rfl 0 rfl rfl ?_
  refine k_get (n := 51) (v := .int ba) F uX6 0 2 rfl rfl (by decide) mw_150 rfl dX6_reading_48 rfl ?_
  refine k_iadd (n := 52) F dX6_reading_51 rfl ?_
  refine k_i2l (n := 53) F dX6_reading_52 rfl ?_
  exact k_lret F (by first | rfl | (simp [hc1, hc2, hc3]; done) | (simp_all [hc1, hc2, hc3]; done)) (by first | rfl | (simp [hc1, hc2, hc3]; done) | (simp_all [hc1, hc2, hc3]; done)) dX6_reading_53
set_option maxRecDepth 100000 in
set_option maxHeartbeats 4000000 in
theorem c_handOver (l : Launch) (g : kG) (a : Nat) (ro ta ba k : Int32) (ma de bl : Int64) : kM l yX6_handOver cX6_handOver 2 (some .boolean) (rmK 0 0 0 0) g [.ref a, .int k] [(a, .inr (6, [.int ro, .int ta, .int ba, .long ma, .long de, .long bl]))] (kDi g (if ta < k then 0 else 1) [(a, .inr (6, [.int ro, .int (if ta < k then ta else ta - k), .int ba, .long ma, .long (if ta < k then de else de + k.toInt64), .long bl]))]) := by
  refine k_enter (by decide) (Nat.le_of_ble_eq_true rfl) ?_
  intro p e s m args below meth c A F
  refine k_iload_n (n := 1) F dX6_handOver_0 rfl 1 rfl rfl ?_
  refine k_aload_n (n := 2) F dX6_handOver_1 rfl 0 rfl rfl ?_
  refine k_get (n := 5) (v := .int ta) F uX6 0 1 rfl rfl (by decide) mw_148 rfl dX6_handOver_2 rfl ?_
  refine k_icmp_le (n := 8) (tgt := 10) F dX6_handOver_5 (by decide) rfl (fun hc1 => ?_) (fun hc1 => ?_)
  · refine k_aload_n (n := 11) F dX6_handOver_10 rfl 0 rfl rfl ?_
    refine k_dup (n := 12) F dX6_handOver_11 rfl rfl ?_
    refine k_get (n := 15) (v := .int ta) F uX6 0 1 rfl rfl (by decide) mw_148 rfl dX6_handOver_12 rfl ?_
    refine k_iload_n (n := 16) F dX6_handOver_15 rfl 1 rfl rfl ?_
    refine k_isub (n := 17) F dX6_handOver_16 rfl ?_
    refine k_put (n := 20) (ws' := [(a, .inr (6, [.int ro, .int (ta - k), .int ba, .long ma, .long de, .long bl]))]) F uX6 tyX6_ok nmX6 0 1 rfl rfl (by decide) mw_148 rfl rfl rfl (Nat.le_of_ble_eq_true rfl) rfl dX6_handOver_17 rfl ?_
    refine k_aload_n (n := 21) F dX6_handOver_20 rfl 0 rfl rfl ?_
    refine k_dup (n := 22) F dX6_handOver_21 rfl rfl ?_
    refine k_get (n := 25) (v := .long de) F uX6 0 4 rfl rfl (by decide) mw_153 rfl dX6_handOver_22 rfl ?_
    refine k_iload_n (n := 26) F dX6_handOver_25 rfl 1 rfl rfl ?_
    refine k_i2l (n := 27) F dX6_handOver_26 rfl ?_
    refine k_ladd (n := 28) F dX6_handOver_27 rfl ?_
    refine k_put (n := 31) (ws' := [(a, .inr (6, [.int ro, .int (ta - k), .int ba, .long ma, .long (de + k.toInt64), .long bl]))]) F uX6 tyX6_ok nmX6 0 4 rfl rfl (by decide) mw_153 rfl rfl rfl (Nat.le_of_ble_eq_true rfl) rfl dX6_handOver_28 rfl ?_
    refine k_iconst (n := 32) (v := 1) F dX6_handOver_31 rfl rfl ?_
    exact k_zret F rfl (by first | rfl | (simp [hc1, Int32.not_lt.mpr hc1]; done) | (simp_all [hc1, Int32.not_lt.mpr hc1]; done)) (by first | rfl | (simp [hc1, Int32.not_lt.mpr hc1]; done) | (simp_all [hc1, Int32.not_lt.mpr hc1]; done)) dX6_handOver_32
  · refine k_iconst (n := 9) (v := 0) F dX6_handOver_8 rfl rfl ?_
    exact k_zret F rfl (by first | rfl | (simp [hc1, Int32.not_le.mp hc1]; done) | (simp_all [hc1, Int32.not_le.mp hc1]; done)) (by first | rfl | (simp [hc1, Int32.not_le.mp hc1]; done) | (simp_all [hc1, Int32.not_le.mp hc1]; done)) dX6_handOver_9
set_option maxRecDepth 100000 in
set_option maxHeartbeats 4000000 in
theorem c_takeIn (l : Launch) (g : kG) (a : Nat) (ro ta ba q : Int32) (ma de bl : Int64) : kM l yX6_takeIn cX6_takeIn 4 none (rmK 1 0 0 13) g [.ref a, .int q] [(a, .inr (6, [.int ro, .int ta, .int ba, .long ma, .long de, .long bl]))] (kDv g [(a, .inr (6, [.int ro, .int (ta + tkT ro ta q), .int (ba + tkB ro ta ba q), .long (ma + q.toInt64), .long de, .long (bl + (q - tkT ro ta q - tkB ro ta ba q).toInt64)]))]) := by
  refine k_enter (by decide) (Nat.le_of_ble_eq_true rfl) ?_
  intro p e s m args below meth c A F
  refine k_aload_n (n := 1) F dX6_takeIn_0 rfl 0 rfl rfl ?_
  refine k_dup (n := 2) F dX6_takeIn_1 rfl rfl ?_
  refine k_get (n := 5) (v := .long ma) F uX6 0 3 rfl rfl (by decide) mw_152 rfl dX6_takeIn_2 rfl ?_
  refine k_iload_n (n := 6) F dX6_takeIn_5 rfl 1 rfl rfl ?_
  refine k_i2l (n := 7) F dX6_takeIn_6 rfl ?_
  refine k_ladd (n := 8) F dX6_takeIn_7 rfl ?_
  refine k_put (n := 11) (ws' := [(a, .inr (6, [.int ro, .int ta, .int ba, .long (ma + q.toInt64), .long de, .long bl]))]) F uX6 tyX6_ok nmX6 0 3 rfl rfl (by decide) mw_152 rfl rfl rfl (Nat.le_of_ble_eq_true rfl) rfl dX6_takeIn_8 rfl ?_
  refine k_iload_n (n := 12) F dX6_takeIn_11 rfl 1 rfl rfl ?_
  refine k_aload_n (n := 13) F dX6_takeIn_12 rfl 0 rfl rfl ?_
  refine k_get (n := 16) (v := .int ro) F uX6 0 0 rfl rfl (by decide) mw_146 rfl dX6_takeIn_13 rfl ?_
  refine k_aload_n (n := 17) F dX6_takeIn_16 rfl 0 rfl rfl ?_
  refine k_get (n := 20) (v := .int ta) F uX6 0 1 rfl rfl (by decide) mw_148 rfl dX6_takeIn_17 rfl ?_
  refine k_isub (n := 21) F dX6_takeIn_20 rfl ?_
  refine k_mmin (n := 24) F mw_466 mw_326 mw_13 mw_327 dX6_takeIn_21 (by decide) (Nat.le_of_ble_eq_true rfl) (by decide) (by decide) rfl ?_
  refine k_istore_n (n := 25) (lv' := [(2, .int (if ro - ta < q then ro - ta else q)), (0, .ref a), (1, .int q)]) F dX6_takeIn_24 rfl (by decide) rfl rfl ?_
  refine k_iload_n (n := 26) F dX6_takeIn_25 rfl 2 rfl rfl ?_
  refine k_iload_n (n := 27) F dX6_takeIn_26 rfl 0 rfl rfl ?_
  refine k_isub (n := 28) F dX6_takeIn_27 rfl ?_
  refine k_sipush (n := 31) (v := 300) F dX6_takeIn_28 rfl rfl ?_
  refine k_aload_n (n := 32) F dX6_takeIn_31 rfl 1 rfl rfl ?_
  refine k_get (n := 35) (v := .int ba) F uX6 0 2 rfl rfl (by decide) mw_150 rfl dX6_takeIn_32 rfl ?_
  refine k_isub (n := 36) F dX6_takeIn_35 rfl ?_
  refine k_mmin (n := 39) F mw_466 mw_326 mw_13 mw_327 dX6_takeIn_36 (by decide) (Nat.le_of_ble_eq_true rfl) (by decide) (by decide) rfl ?_
  refine k_istore_n (n := 40) (lv' := [(3, .int (if 300 - ba < q - (if ro - ta < q then ro - ta else q) then 300 - ba else q - (if ro - ta < q then ro - ta else q))), (2, .int (if ro - ta < q then ro - ta else q)), (0, .ref a), (1, .int q)]) F dX6_takeIn_39 rfl (by decide) rfl rfl ?_
  refine k_aload_n (n := 41) F dX6_takeIn_40 rfl 2 rfl rfl ?_
  refine k_dup (n := 42) F dX6_takeIn_41 rfl rfl ?_
  refine k_get (n := 45) (v := .int ta) F uX6 0 1 rfl rfl (by decide) mw_148 rfl dX6_takeIn_42 rfl ?_
  refine k_iload_n (n := 46) F dX6_takeIn_45 rfl 1 rfl rfl ?_
  refine k_iadd (n := 47) F dX6_takeIn_46 rfl ?_
  refine k_put (n := 50) (ws' := [(a, .inr (6, [.int ro, .int (ta + (if ro - ta < q then ro - ta else q)), .int ba, .long (ma + q.toInt64), .long de, .long bl]))]) F uX6 tyX6_ok nmX6 0 1 rfl rfl (by decide) mw_148 rfl rfl rfl (Nat.le_of_ble_eq_true rfl) rfl dX6_takeIn_47 rfl ?_
  refine k_aload_n (n := 51) F dX6_takeIn_50 rfl 2 rfl rfl ?_
  refine k_dup (n := 52) F dX6_takeIn_51 rfl rfl ?_
  refine k_get (n := 55) (v := .int ba) F uX6 0 2 rfl rfl (by decide) mw_150 rfl dX6_takeIn_52 rfl ?_
  refine k_iload_n (n := 56) F dX6_takeIn_55 rfl 0 rfl rfl ?_
  refine k_iadd (n := 57) F dX6_takeIn_56 rfl ?_
  refine k_put (n := 60) (ws' := [(a, .inr (6, [.int ro, .int (ta + (if ro - ta < q then ro - ta else q)), .int (ba + (if 300 - ba < q - (if ro - ta < q then ro - ta else q) then 300 - ba else q - (if ro - ta < q then ro - ta else q))), .long (ma + q.toInt64), .long de, .long bl]))]) F uX6 tyX6_ok nmX6 0 2 rfl rfl (by decide) mw_150 rfl rfl rfl (Nat.le_of_ble_eq_true rfl) rfl dX6_takeIn_57 rfl ?_
  refine k_aload_n (n := 61) F dX6_takeIn_60 rfl 2 rfl rfl ?_
  refine k_dup (n := 62) F dX6_takeIn_61 rfl rfl ?_
  refine k_get (n := 65) (v := .long bl) F uX6 0 5 rfl rfl (by decide) mw_154 rfl dX6_takeIn_62 rfl ?_
  refine k_iload_n (n := 66) F dX6_takeIn_65 rfl 3 rfl rfl ?_
  refine k_iload_n (n := 67) F dX6_takeIn_66 rfl 1 rfl rfl ?_
  refine k_isub (n := 68) F dX6_takeIn_67 rfl ?_
  refine k_iload_n (n := 69) F dX6_takeIn_68 rfl 0 rfl rfl ?_
  refine k_isub (n := 70) F dX6_takeIn_69 rfl ?_
  refine k_i2l (n := 71) F dX6_takeIn_70 rfl ?_
  refine k_ladd (n := 72) F dX6_takeIn_71 rfl ?_
  refine k_put (n := 75) (ws' := [(a, .inr (6, [.int ro, .int (ta + (if ro - ta < q then ro - ta else q)), .int (ba + (if 300 - ba < q - (if ro - ta < q then ro - ta else q) then 300 - ba else q - (if ro - ta < q then ro - ta else q))), .long (ma + q.toInt64), .long de, .long (bl + (((q - (if ro - ta < q then ro - ta else q)) - (if 300 - ba < q - (if ro - ta < q then ro - ta else q) then 300 - ba else q - (if ro - ta < q then ro - ta else q))).toInt64))]))]) F uX6 tyX6_ok nmX6 0 5 rfl rfl (by decide) mw_154 rfl rfl rfl (Nat.le_of_ble_eq_true rfl) rfl dX6_takeIn_72 rfl ?_
  exact k_vret F (by first | rfl | (simp [tkT, tkB]; done) | (simp_all [tkT, tkB]; done)) dX6_takeIn_75
end
section
def anyR (h0 h1 : Int32) : Int32 := if h0 = 1 then 1 else if h1 = 1 then 1 else 0
theorem anyR_comm (x y : Int32) : (anyR x y = 0) = (anyR y x = 0) := by unfold anyR; by_cases h1 : x = 1 <;> by_cases h2 : y = 1 <;> simp [h1, h2]
/-- a step of one that goes on, oh: how the other one is -/
def stH (ho ti ht oh : Int32) : Int32 := if goR ho ti ht = 0 then goH ho ti ht else if anyR (goH ho ti ht) oh = 0 then 1 else goH ho ti ht
def stT (ho ti ht oh : Int32) : Int32 := if goR ho ti ht = 0 then goT ho ti ht else if anyR (goH ho ti ht) oh = 0 then 0 else goT ho ti ht
/-- a flow loads the one that is on -/
def lnR (ho lo fl oh : Int32) : Int32 := if ¬ ho = 1 then 0 else if lo + 1 < fl then 1 else if ¬ oh = 0 then 0 else 1
def lnH (ho lo fl : Int32) : Int32 := if ¬ ho = 1 then ho else if lo + 1 < fl then ho else 2
def lnL (ho lo : Int32) : Int32 := if ¬ ho = 1 then lo else lo + 1
def lnT (ho lo ti fl : Int32) : Int32 := if ¬ ho = 1 then ti else if lo + 1 < fl then ti else 0
def lxH (ho lo fl oh : Int32) : Int32 := if ¬ ho = 1 then oh else if lo + 1 < fl then oh else if ¬ oh = 0 then oh else 1
def lxT (ho lo fl oh ot : Int32) : Int32 := if ¬ ho = 1 then ot else if lo + 1 < fl then ot else if ¬ oh = 0 then ot else 0
theorem lnR_b (ho lo fl oh : Int32) : lnR ho lo fl oh = 0 ∨ lnR ho lo fl oh = 1 := by unfold lnR; repeat (first | split | simp)
def ldR (h0 l0 h1 l1 fl : Int32) : Int32 := if h0 = 1 then lnR h0 l0 fl h1 else lnR h1 l1 fl h0
def ldH0 (h0 l0 h1 l1 fl : Int32) : Int32 := if h0 = 1 then lnH h0 l0 fl else lxH h1 l1 fl h0
def ldL0 (h0 l0 : Int32) : Int32 := if h0 = 1 then lnL h0 l0 else l0
def ldT0 (h0 l0 t0 h1 l1 fl : Int32) : Int32 := if h0 = 1 then lnT h0 l0 t0 fl else lxT h1 l1 fl h0 t0
def ldH1 (h0 l0 h1 l1 fl : Int32) : Int32 := if h0 = 1 then lxH h0 l0 fl h1 else lnH h1 l1 fl
def ldL1 (h0 h1 l1 : Int32) : Int32 := if h0 = 1 then l1 else lnL h1 l1
def ldT1 (h0 l0 h1 l1 t1 fl : Int32) : Int32 := if h0 = 1 then lxT h0 l0 fl h1 t1 else lnT h1 l1 t1 fl
def adR (h0 l0 t0 h1 l1 t1 x wh : Int32) : Int32 := if x = 0 then (if wh = 0 then h0 else if wh = 1 then l0 else if wh = 2 then t0 else -1) else if x = 1 then (if wh = 0 then h1 else if wh = 1 then l1 else if wh = 2 then t1 else -1) else -1
/-- a corner, 0 where there is none -/
def kcn (f : Nat → Int32) (x : Int32) : Int32 := if x < 0 then 0 else if 5 ≤ x then 0 else f x.toNatClampNeg
theorem kcn_ix {x : Int32} (h1 : ¬ x < 0) (h2 : ¬ (5 : Int32) ≤ x) : kIx x x.toNatClampNeg 5 := by
  obtain ⟨j, hj, rfl⟩ := nI_of h1
  have h3 : ¬ nI 5 ≤ nI j := h2
  rw [nI_leI (by omega) hj] at h3
  rw [nI_clamp hj]
  exact kIx_nI (by omega) (by omega)
/-- the cold of a wheel -/
def kwc (f : Nat → Int32) (d : Int32) : Int32 := d / 4 + ((10 - (d - d / 10 * 10)) * kcn f (d / 10) + (d - d / 10 * 10) * kcn f (d / 10 + 1)) / 10
set_option maxRecDepth 100000 in
set_option maxHeartbeats 4000000 in
theorem c_anyOn (l : Launch) (g : kG) (a za oa : Nat) (h0 l0 t0 h1 l1 t1 fl ht : Int32) : kM l yX1_anyOn cX1_anyOn 1 (some .boolean) (rmK 0 0 0 0) g [.ref a] [(a, .inr (1, [.ref za, .ref oa, .int fl, .int ht])), (za, .inr (0, [.int h0, .int l0, .int t0])), (oa, .inr (0, [.int h1, .int l1, .int t1]))] (kDi g (anyR h0 h1) [(a, .inr (1, [.ref za, .ref oa, .int fl, .int ht])), (za, .inr (0, [.int h0, .int l0, .int t0])), (oa, .inr (0, [.int h1, .int l1, .int t1]))]) := by
  refine k_enter (by decide) (Nat.le_of_ble_eq_true rfl) ?_
  intro p e s m args below meth c A F
  refine k_aload_n (n := 1) F dX1_anyOn_0 rfl 0 rfl rfl ?_
  refine k_get (n := 4) (v := .ref za) F uX1 0 0 rfl rfl (by decide) mw_125 rfl dX1_anyOn_1 rfl ?_
  refine k_getN (n := 7) (v := .int h0) F uX0 1 0 rfl rfl (by decide) nw_14 rfl dX1_anyOn_4 rfl ?_
  refine k_iconst (n := 8) (v := 1) F dX1_anyOn_7 rfl rfl ?_
  refine k_icmp_eq (n := 11) (tgt := 22) F dX1_anyOn_8 (by decide) rfl (fun hc1 => ?_) (fun hc1 => ?_)
  · refine k_iconst (n := 23) (v := 1) F dX1_anyOn_22 rfl rfl ?_
    refine k_goto (tgt := 27) F dX1_anyOn_23 (by decide) ?_
    exact k_zret F rfl (by first | rfl | (simp [anyR, hc1]; done) | (simp_all [anyR, hc1]; done)) (by first | rfl | (simp [anyR, hc1]; done) | (simp_all [anyR, hc1]; done)) dX1_anyOn_27
  · refine k_aload_n (n := 12) F dX1_anyOn_11 rfl 0 rfl rfl ?_
    refine k_get (n := 15) (v := .ref oa) F uX1 0 1 rfl rfl (by decide) mw_126 rfl dX1_anyOn_12 rfl ?_
    refine k_getN (n := 18) (v := .int h1) F uX0 2 0 rfl rfl (by decide) nw_14 rfl dX1_anyOn_15 rfl ?_
    refine k_iconst (n := 19) (v := 1) F dX1_anyOn_18 rfl rfl ?_
    refine k_icmp_ne (n := 22) (tgt := 26) F dX1_anyOn_19 (by decide) rfl (fun hc2 => ?_) (fun hc2 => ?_)
    · refine k_iconst (n := 27) (v := 0) F dX1_anyOn_26 rfl rfl ?_
      exact k_zret F rfl (by first | rfl | (simp [anyR, hc1, hc2]; done) | (simp_all [anyR, hc1, hc2]; done)) (by first | rfl | (simp [anyR, hc1, hc2]; done) | (simp_all [anyR, hc1, hc2]; done)) dX1_anyOn_27
    · refine k_iconst (n := 23) (v := 1) F dX1_anyOn_22 rfl rfl ?_
      refine k_goto (tgt := 27) F dX1_anyOn_23 (by decide) ?_
      exact k_zret F rfl (by first | rfl | (simp [anyR, hc1, hc2]; done) | (simp_all [anyR, hc1, hc2]; done)) (by first | rfl | (simp [anyR, hc1, hc2]; done) | (simp_all [anyR, hc1, hc2]; done)) dX1_anyOn_27
set_option maxRecDepth 100000 in
set_option maxHeartbeats 4000000 in
theorem c_step0 (l : Launch) (g : kG) (a za oa : Nat) (h0 l0 t0 h1 l1 t1 fl ht : Int32) : kM l yX1_step cX1_step 2 none (rmK 2 0 0 42) g [.ref a, .ref za] [(a, .inr (1, [.ref za, .ref oa, .int fl, .int ht])), (za, .inr (0, [.int h0, .int l0, .int t0])), (oa, .inr (0, [.int h1, .int l1, .int t1]))] (kDv g [(a, .inr (1, [.ref za, .ref oa, .int fl, .int ht])), (za, .inr (0, [.int (stH h0 t0 ht h1), .int (goL h0 l0 t0 ht), .int (stT h0 t0 ht h1)])), (oa, .inr (0, [.int h1, .int l1, .int t1]))]) := by
  refine k_enter (by decide) (Nat.le_of_ble_eq_true rfl) ?_
  intro p e s m args below meth c A F
  refine k_aload_n (n := 1) F dX1_step_0 rfl 1 rfl rfl ?_
  refine k_aload_n (n := 2) F dX1_step_1 rfl 0 rfl rfl ?_
  refine k_get (n := 5) (v := .int ht) F uX1 0 3 rfl rfl (by decide) mw_129 rfl dX1_step_2 rfl ?_
  refine k_ci (n := 8) (ws' := [(a, .inr (1, [.ref za, .ref oa, .int fl, .int ht])), (za, .inr (0, [.int (goH h0 t0 ht), .int (goL h0 l0 t0 ht), .int (goT h0 t0 ht)])), (oa, .inr (0, [.int h1, .int l1, .int t1]))]) F (k_rV (k := 1) (b := za) (As := [.int ht]) (rest := []) F (c_goOn l g za h0 l0 t0 ht) [1] rfl rfl 0 rfl rfl mw_424 mw_421 mw_422 mw_423 mw_6 (by decide) ⟨by decide, by decide⟩ rfl (Nat.le_of_ble_eq_true rfl) ⟨by decide, by decide⟩ dX1_step_5) [1] [0, 2] [0, 2, 1] rfl rfl rfl (by decide) rfl rfl rfl ?_
  refine k_if_eq (n := 11) (tgt := 23) F dX1_step_8 (by decide) rfl (fun hc1 => ?_) (fun hc1 => ?_)
  · exact k_vret F (by first | rfl | (simp [stH, stT, hc1]; done) | (simp_all [stH, stT, hc1]; done)) dX1_step_23
  · refine k_aload_n (n := 12) F dX1_step_11 rfl 0 rfl rfl ?_
    refine k_ciR (n := 15) F (k_rV (k := 0) (b := a) (As := []) (rest := []) F (c_anyOn l g a za oa (goH h0 t0 ht) (goL h0 l0 t0 ht) (goT h0 t0 ht) h1 l1 t1 fl ht) [0, 1, 2] rfl rfl 0 rfl rfl mw_367 mw_429 mw_365 mw_366 mw_5 (by decide) ⟨by decide, by decide⟩ rfl (Nat.le_of_ble_eq_true rfl) ⟨by decide, by decide⟩ dX1_step_12) [0, 1, 2] rfl rfl ?_
    refine k_if_ne (n := 18) (tgt := 23) F dX1_step_15 (by decide) rfl (fun hc2 => ?_) (fun hc2 => ?_)
    · exact k_vret F (by first | rfl | (simp [stH, stT, hc1, hc2]; done) | (simp_all [stH, stT, hc1, hc2]; done)) dX1_step_23
    · refine k_aload_n (n := 19) F dX1_step_18 rfl 1 rfl rfl ?_
      refine k_iconst (n := 20) (v := 1) F dX1_step_19 rfl rfl ?_
      refine k_cv (n := 23) (ws' := [(a, .inr (1, [.ref za, .ref oa, .int fl, .int ht])), (za, .inr (0, [.int 1, .int (goL h0 l0 t0 ht), .int 0])), (oa, .inr (0, [.int h1, .int l1, .int t1]))]) F (k_rV (k := 1) (b := za) (As := [.int 1]) (rest := []) F (c_become l g za (goH h0 t0 ht) (goL h0 l0 t0 ht) (goT h0 t0 ht) 1) [1] rfl rfl 0 rfl rfl mw_428 mw_430 mw_426 mw_427 mw_6 (by decide) ⟨by decide, by decide⟩ rfl (Nat.le_of_ble_eq_true rfl) ⟨by decide, by decide⟩ dX1_step_20) [1] [0, 2] [0, 2, 1] rfl rfl rfl (by decide) rfl rfl rfl ?_
      exact k_vret F (by first | rfl | (simp [stH, stT, hc1, hc2]; done) | (simp_all [stH, stT, hc1, hc2]; done)) dX1_step_23
set_option maxRecDepth 100000 in
set_option maxHeartbeats 4000000 in
theorem c_step1 (l : Launch) (g : kG) (a za oa : Nat) (h0 l0 t0 h1 l1 t1 fl ht : Int32) : kM l yX1_step cX1_step 2 none (rmK 2 0 0 42) g [.ref a, .ref oa] [(a, .inr (1, [.ref za, .ref oa, .int fl, .int ht])), (za, .inr (0, [.int h0, .int l0, .int t0])), (oa, .inr (0, [.int h1, .int l1, .int t1]))] (kDv g [(a, .inr (1, [.ref za, .ref oa, .int fl, .int ht])), (za, .inr (0, [.int h0, .int l0, .int t0])), (oa, .inr (0, [.int (stH h1 t1 ht h0), .int (goL h1 l1 t1 ht), .int (stT h1 t1 ht h0)]))]) := by
  refine k_enter (by decide) (Nat.le_of_ble_eq_true rfl) ?_
  intro p e s m args below meth c A F
  refine k_aload_n (n := 1) F dX1_step_0 rfl 1 rfl rfl ?_
  refine k_aload_n (n := 2) F dX1_step_1 rfl 0 rfl rfl ?_
  refine k_get (n := 5) (v := .int ht) F uX1 0 3 rfl rfl (by decide) mw_129 rfl dX1_step_2 rfl ?_
  refine k_ci (n := 8) (ws' := [(a, .inr (1, [.ref za, .ref oa, .int fl, .int ht])), (za, .inr (0, [.int h0, .int l0, .int t0])), (oa, .inr (0, [.int (goH h1 t1 ht), .int (goL h1 l1 t1 ht), .int (goT h1 t1 ht)]))]) F (k_rV (k := 1) (b := oa) (As := [.int ht]) (rest := []) F (c_goOn l g oa h1 l1 t1 ht) [2] rfl rfl 0 rfl rfl mw_424 mw_421 mw_422 mw_423 mw_6 (by decide) ⟨by decide, by decide⟩ rfl (Nat.le_of_ble_eq_true rfl) ⟨by decide, by decide⟩ dX1_step_5) [2] [0, 1] [0, 1, 2] rfl rfl rfl (by decide) rfl rfl rfl ?_
  refine k_if_eq (n := 11) (tgt := 23) F dX1_step_8 (by decide) rfl (fun hc1 => ?_) (fun hc1 => ?_)
  · exact k_vret F (by first | rfl | (simp [stH, stT, anyR_comm, hc1]; done) | (simp_all [stH, stT, anyR_comm, hc1]; done)) dX1_step_23
  · refine k_aload_n (n := 12) F dX1_step_11 rfl 0 rfl rfl ?_
    refine k_ciR (n := 15) F (k_rV (k := 0) (b := a) (As := []) (rest := []) F (c_anyOn l g a za oa h0 l0 t0 (goH h1 t1 ht) (goL h1 l1 t1 ht) (goT h1 t1 ht) fl ht) [0, 1, 2] rfl rfl 0 rfl rfl mw_367 mw_429 mw_365 mw_366 mw_5 (by decide) ⟨by decide, by decide⟩ rfl (Nat.le_of_ble_eq_true rfl) ⟨by decide, by decide⟩ dX1_step_12) [0, 1, 2] rfl rfl ?_
    refine k_if_ne (n := 18) (tgt := 23) F dX1_step_15 (by decide) rfl (fun hc2 => ?_) (fun hc2 => ?_)
    · exact k_vret F (by first | rfl | (simp [stH, stT, anyR_comm, hc1, hc2]; done) | (simp_all [stH, stT, anyR_comm, hc1, hc2]; done)) dX1_step_23
    · refine k_aload_n (n := 19) F dX1_step_18 rfl 1 rfl rfl ?_
      refine k_iconst (n := 20) (v := 1) F dX1_step_19 rfl rfl ?_
      refine k_cv (n := 23) (ws' := [(a, .inr (1, [.ref za, .ref oa, .int fl, .int ht])), (za, .inr (0, [.int h0, .int l0, .int t0])), (oa, .inr (0, [.int 1, .int (goL h1 l1 t1 ht), .int 0]))]) F (k_rV (k := 1) (b := oa) (As := [.int 1]) (rest := []) F (c_become l g oa (goH h1 t1 ht) (goL h1 l1 t1 ht) (goT h1 t1 ht) 1) [2] rfl rfl 0 rfl rfl mw_428 mw_430 mw_426 mw_427 mw_6 (by decide) ⟨by decide, by decide⟩ rfl (Nat.le_of_ble_eq_true rfl) ⟨by decide, by decide⟩ dX1_step_20) [2] [0, 1] [0, 1, 2] rfl rfl rfl (by decide) rfl rfl rfl ?_
      exact k_vret F (by first | rfl | (simp [stH, stT, anyR_comm, hc1, hc2]; done) | (simp_all [stH, stT, anyR_comm, hc1, hc2]; done)) dX1_step_23
set_option maxRecDepth 100000 in
set_option maxHeartbeats 4000000 in
theorem c_regenerate (l : Launch) (g : kG) (a za oa : Nat) (h0 l0 t0 h1 l1 t1 fl ht : Int32) : kM l yX1_regenerate cX1_regenerate 1 none (rmK 3 0 0 63) g [.ref a] [(a, .inr (1, [.ref za, .ref oa, .int fl, .int ht])), (za, .inr (0, [.int h0, .int l0, .int t0])), (oa, .inr (0, [.int h1, .int l1, .int t1]))] (kDv g [(a, .inr (1, [.ref za, .ref oa, .int fl, .int ht])), (za, .inr (0, [.int (stH h0 t0 ht h1), .int (goL h0 l0 t0 ht), .int (stT h0 t0 ht h1)])), (oa, .inr (0, [.int (stH h1 t1 ht (stH h0 t0 ht h1)), .int (goL h1 l1 t1 ht), .int (stT h1 t1 ht (stH h0 t0 ht h1))]))]) := by
  refine k_enter (by decide) (Nat.le_of_ble_eq_true rfl) ?_
  intro p e s m args below meth c A F
  refine k_aload_n (n := 1) F dX1_regenerate_0 rfl 0 rfl rfl ?_
  refine k_aload_n (n := 2) F dX1_regenerate_1 rfl 0 rfl rfl ?_
  refine k_get (n := 5) (v := .ref za) F uX1 0 0 rfl rfl (by decide) mw_125 rfl dX1_regenerate_2 rfl ?_
  refine k_cv (n := 8) (ws' := [(a, .inr (1, [.ref za, .ref oa, .int fl, .int ht])), (za, .inr (0, [.int (stH h0 t0 ht h1), .int (goL h0 l0 t0 ht), .int (stT h0 t0 ht h1)])), (oa, .inr (0, [.int h1, .int l1, .int t1]))]) F (k_rV (k := 1) (b := a) (As := [.ref za]) (rest := []) F (c_step0 l g a za oa h0 l0 t0 h1 l1 t1 fl ht) [0, 1, 2] rfl rfl 0 rfl rfl mw_420 mw_417 mw_419 mw_s9 mw_5 (by decide) ⟨by decide, by decide⟩ rfl (Nat.le_of_ble_eq_true rfl) ⟨by decide, by decide⟩ dX1_regenerate_5) [0, 1, 2] [] [0, 1, 2] rfl rfl rfl (by decide) rfl rfl rfl ?_
  refine k_aload_n (n := 9) F dX1_regenerate_8 rfl 0 rfl rfl ?_
  refine k_aload_n (n := 10) F dX1_regenerate_9 rfl 0 rfl rfl ?_
  refine k_get (n := 13) (v := .ref oa) F uX1 0 1 rfl rfl (by decide) mw_126 rfl dX1_regenerate_10 rfl ?_
  refine k_cv (n := 16) (ws' := [(a, .inr (1, [.ref za, .ref oa, .int fl, .int ht])), (za, .inr (0, [.int (stH h0 t0 ht h1), .int (goL h0 l0 t0 ht), .int (stT h0 t0 ht h1)])), (oa, .inr (0, [.int (stH h1 t1 ht (stH h0 t0 ht h1)), .int (goL h1 l1 t1 ht), .int (stT h1 t1 ht (stH h0 t0 ht h1))]))]) F (k_rV (k := 1) (b := a) (As := [.ref oa]) (rest := []) F (c_step1 l g a za oa (stH h0 t0 ht h1) (goL h0 l0 t0 ht) (stT h0 t0 ht h1) h1 l1 t1 fl ht) [0, 1, 2] rfl rfl 0 rfl rfl mw_420 mw_417 mw_419 mw_s9 mw_5 (by decide) ⟨by decide, by decide⟩ rfl (Nat.le_of_ble_eq_true rfl) ⟨by decide, by decide⟩ dX1_regenerate_13) [0, 1, 2] [] [0, 1, 2] rfl rfl rfl (by decide) rfl rfl rfl ?_
  exact k_vret F rfl dX1_regenerate_16
set_option maxRecDepth 100000 in
set_option maxHeartbeats 4000000 in
theorem c_loadOne0 (l : Launch) (g : kG) (a za oa : Nat) (h0 l0 t0 h1 l1 t1 fl ht : Int32) : kM l yX1_loadOne cX1_loadOne 3 (some .boolean) (rmK 1 0 0 21) g [.ref a, .ref za, .ref oa] [(a, .inr (1, [.ref za, .ref oa, .int fl, .int ht])), (za, .inr (0, [.int h0, .int l0, .int t0])), (oa, .inr (0, [.int h1, .int l1, .int t1]))] (kDi g (lnR h0 l0 fl h1) [(a, .inr (1, [.ref za, .ref oa, .int fl, .int ht])), (za, .inr (0, [.int (lnH h0 l0 fl), .int (lnL h0 l0), .int (lnT h0 l0 t0 fl)])), (oa, .inr (0, [.int (lxH h0 l0 fl h1), .int l1, .int (lxT h0 l0 fl h1 t1)]))]) := by
  refine k_enter (by decide) (Nat.le_of_ble_eq_true rfl) ?_
  intro p e s m args below meth c A F
  refine k_aload_n (n := 1) F dX1_loadOne_0 rfl 1 rfl rfl ?_
  refine k_getN (n := 4) (v := .int h0) F uX0 1 0 rfl rfl (by decide) nw_14 rfl dX1_loadOne_1 rfl ?_
  refine k_iconst (n := 5) (v := 1) F dX1_loadOne_4 rfl rfl ?_
  refine k_icmp_eq (n := 8) (tgt := 10) F dX1_loadOne_5 (by decide) rfl (fun hc1 => ?_) (fun hc1 => ?_)
  · refine k_aload_n (n := 11) F dX1_loadOne_10 rfl 1 rfl rfl ?_
    refine k_dup (n := 12) F dX1_loadOne_11 rfl rfl ?_
    refine k_getN (n := 15) (v := .int l0) F uX0 1 1 rfl rfl (by decide) nw_15 rfl dX1_loadOne_12 rfl ?_
    refine k_iconst (n := 16) (v := 1) F dX1_loadOne_15 rfl rfl ?_
    refine k_iadd (n := 17) F dX1_loadOne_16 rfl ?_
    refine k_putN (n := 20) (ws' := [(a, .inr (1, [.ref za, .ref oa, .int fl, .int ht])), (za, .inr (0, [.int h0, .int (l0 + 1), .int t0])), (oa, .inr (0, [.int h1, .int l1, .int t1]))]) F uX0 tyX0_ok nmX0 1 1 rfl rfl (by decide) nw_15 rfl rfl rfl (Nat.le_of_ble_eq_true rfl) rfl dX1_loadOne_17 rfl ?_
    refine k_aload_n (n := 21) F dX1_loadOne_20 rfl 1 rfl rfl ?_
    refine k_getN (n := 24) (v := .int (l0 + 1)) F uX0 1 1 rfl rfl (by decide) nw_15 rfl dX1_loadOne_21 rfl ?_
    refine k_aload_n (n := 25) F dX1_loadOne_24 rfl 0 rfl rfl ?_
    refine k_get (n := 28) (v := .int fl) F uX1 0 2 rfl rfl (by decide) mw_127 rfl dX1_loadOne_25 rfl ?_
    refine k_icmp_ge (n := 31) (tgt := 33) F dX1_loadOne_28 (by decide) rfl (fun hc2 => ?_) (fun hc2 => ?_)
    · refine k_aload_n (n := 34) F dX1_loadOne_33 rfl 1 rfl rfl ?_
      refine k_iconst (n := 35) (v := 2) F dX1_loadOne_34 rfl rfl ?_
      refine k_cv (n := 38) (ws' := [(a, .inr (1, [.ref za, .ref oa, .int fl, .int ht])), (za, .inr (0, [.int 2, .int (l0 + 1), .int 0])), (oa, .inr (0, [.int h1, .int l1, .int t1]))]) F (k_rV (k := 1) (b := za) (As := [.int 2]) (rest := []) F (c_become l g za h0 (l0 + 1) t0 2) [1] rfl rfl 0 rfl rfl mw_428 mw_430 mw_426 mw_427 mw_6 (by decide) ⟨by decide, by decide⟩ rfl (Nat.le_of_ble_eq_true rfl) ⟨by decide, by decide⟩ dX1_loadOne_35) [1] [0, 2] [0, 2, 1] rfl rfl rfl (by decide) rfl rfl rfl ?_
      refine k_aload_n (n := 39) F dX1_loadOne_38 rfl 2 rfl rfl ?_
      refine k_getN (n := 42) (v := .int h1) F uX0 2 0 rfl rfl (by decide) nw_14 rfl dX1_loadOne_39 rfl ?_
      refine k_if_eq (n := 45) (tgt := 47) F dX1_loadOne_42 (by decide) rfl (fun hc3 => ?_) (fun hc3 => ?_)
      · refine k_aload_n (n := 48) F dX1_loadOne_47 rfl 2 rfl rfl ?_
        refine k_iconst (n := 49) (v := 1) F dX1_loadOne_48 rfl rfl ?_
        refine k_cv (n := 52) (ws' := [(a, .inr (1, [.ref za, .ref oa, .int fl, .int ht])), (za, .inr (0, [.int 2, .int (l0 + 1), .int 0])), (oa, .inr (0, [.int 1, .int l1, .int 0]))]) F (k_rV (k := 1) (b := oa) (As := [.int 1]) (rest := []) F (c_become l g oa h1 l1 t1 1) [2] rfl rfl 0 rfl rfl mw_428 mw_430 mw_426 mw_427 mw_6 (by decide) ⟨by decide, by decide⟩ rfl (Nat.le_of_ble_eq_true rfl) ⟨by decide, by decide⟩ dX1_loadOne_49) [2] [0, 1] [0, 1, 2] rfl rfl rfl (by decide) rfl rfl rfl ?_
        refine k_iconst (n := 53) (v := 1) F dX1_loadOne_52 rfl rfl ?_
        exact k_zret F rfl (by first | rfl | (simp [lnR, lnH, lnL, lnT, lxH, lxT, hc1, hc2, Int32.not_lt.mpr hc2, hc3]; done) | (simp_all [lnR, lnH, lnL, lnT, lxH, lxT, hc1, hc2, Int32.not_lt.mpr hc2, hc3]; done)) (by first | rfl | (simp [lnR, lnH, lnL, lnT, lxH, lxT, hc1, hc2, Int32.not_lt.mpr hc2, hc3]; done) | (simp_all [lnR, lnH, lnL, lnT, lxH, lxT, hc1, hc2, Int32.not_lt.mpr hc2, hc3]; done)) dX1_loadOne_53
      · refine k_iconst (n := 46) (v := 0) F dX1_loadOne_45 rfl rfl ?_
        exact k_zret F rfl (by first | rfl | (simp [lnR, lnH, lnL, lnT, lxH, lxT, hc1, hc2, Int32.not_lt.mpr hc2, hc3]; done) | (simp_all [lnR, lnH, lnL, lnT, lxH, lxT, hc1, hc2, Int32.not_lt.mpr hc2, hc3]; done)) (by first | rfl | (simp [lnR, lnH, lnL, lnT, lxH, lxT, hc1, hc2, Int32.not_lt.mpr hc2, hc3]; done) | (simp_all [lnR, lnH, lnL, lnT, lxH, lxT, hc1, hc2, Int32.not_lt.mpr hc2, hc3]; done)) dX1_loadOne_46
    · refine k_iconst (n := 32) (v := 1) F dX1_loadOne_31 rfl rfl ?_
      exact k_zret F rfl (by first | rfl | (simp [lnR, lnH, lnL, lnT, lxH, lxT, hc1, hc2, Int32.not_le.mp hc2]; done) | (simp_all [lnR, lnH, lnL, lnT, lxH, lxT, hc1, hc2, Int32.not_le.mp hc2]; done)) (by first | rfl | (simp [lnR, lnH, lnL, lnT, lxH, lxT, hc1, hc2, Int32.not_le.mp hc2]; done) | (simp_all [lnR, lnH, lnL, lnT, lxH, lxT, hc1, hc2, Int32.not_le.mp hc2]; done)) dX1_loadOne_32
  · refine k_iconst (n := 9) (v := 0) F dX1_loadOne_8 rfl rfl ?_
    exact k_zret F rfl (by first | rfl | (simp [lnR, lnH, lnL, lnT, lxH, lxT, hc1]; done) | (simp_all [lnR, lnH, lnL, lnT, lxH, lxT, hc1]; done)) (by first | rfl | (simp [lnR, lnH, lnL, lnT, lxH, lxT, hc1]; done) | (simp_all [lnR, lnH, lnL, lnT, lxH, lxT, hc1]; done)) dX1_loadOne_9
set_option maxRecDepth 100000 in
set_option maxHeartbeats 4000000 in
theorem c_loadOne1 (l : Launch) (g : kG) (a za oa : Nat) (h0 l0 t0 h1 l1 t1 fl ht : Int32) : kM l yX1_loadOne cX1_loadOne 3 (some .boolean) (rmK 1 0 0 21) g [.ref a, .ref oa, .ref za] [(a, .inr (1, [.ref za, .ref oa, .int fl, .int ht])), (za, .inr (0, [.int h0, .int l0, .int t0])), (oa, .inr (0, [.int h1, .int l1, .int t1]))] (kDi g (lnR h1 l1 fl h0) [(a, .inr (1, [.ref za, .ref oa, .int fl, .int ht])), (za, .inr (0, [.int (lxH h1 l1 fl h0), .int l0, .int (lxT h1 l1 fl h0 t0)])), (oa, .inr (0, [.int (lnH h1 l1 fl), .int (lnL h1 l1), .int (lnT h1 l1 t1 fl)]))]) := by
  refine k_enter (by decide) (Nat.le_of_ble_eq_true rfl) ?_
  intro p e s m args below meth c A F
  refine k_aload_n (n := 1) F dX1_loadOne_0 rfl 1 rfl rfl ?_
  refine k_getN (n := 4) (v := .int h1) F uX0 2 0 rfl rfl (by decide) nw_14 rfl dX1_loadOne_1 rfl ?_
  refine k_iconst (n := 5) (v := 1) F dX1_loadOne_4 rfl rfl ?_
  refine k_icmp_eq (n := 8) (tgt := 10) F dX1_loadOne_5 (by decide) rfl (fun hc1 => ?_) (fun hc1 => ?_)
  · refine k_aload_n (n := 11) F dX1_loadOne_10 rfl 1 rfl rfl ?_
    refine k_dup (n := 12) F dX1_loadOne_11 rfl rfl ?_
    refine k_getN (n := 15) (v := .int l1) F uX0 2 1 rfl rfl (by decide) nw_15 rfl dX1_loadOne_12 rfl ?_
    refine k_iconst (n := 16) (v := 1) F dX1_loadOne_15 rfl rfl ?_
    refine k_iadd (n := 17) F dX1_loadOne_16 rfl ?_
    refine k_putN (n := 20) (ws' := [(a, .inr (1, [.ref za, .ref oa, .int fl, .int ht])), (za, .inr (0, [.int h0, .int l0, .int t0])), (oa, .inr (0, [.int h1, .int (l1 + 1), .int t1]))]) F uX0 tyX0_ok nmX0 2 1 rfl rfl (by decide) nw_15 rfl rfl rfl (Nat.le_of_ble_eq_true rfl) rfl dX1_loadOne_17 rfl ?_
    refine k_aload_n (n := 21) F dX1_loadOne_20 rfl 1 rfl rfl ?_
    refine k_getN (n := 24) (v := .int (l1 + 1)) F uX0 2 1 rfl rfl (by decide) nw_15 rfl dX1_loadOne_21 rfl ?_
    refine k_aload_n (n := 25) F dX1_loadOne_24 rfl 0 rfl rfl ?_
    refine k_get (n := 28) (v := .int fl) F uX1 0 2 rfl rfl (by decide) mw_127 rfl dX1_loadOne_25 rfl ?_
    refine k_icmp_ge (n := 31) (tgt := 33) F dX1_loadOne_28 (by decide) rfl (fun hc2 => ?_) (fun hc2 => ?_)
    · refine k_aload_n (n := 34) F dX1_loadOne_33 rfl 1 rfl rfl ?_
      refine k_iconst (n := 35) (v := 2) F dX1_loadOne_34 rfl rfl ?_
      refine k_cv (n := 38) (ws' := [(a, .inr (1, [.ref za, .ref oa, .int fl, .int ht])), (za, .inr (0, [.int h0, .int l0, .int t0])), (oa, .inr (0, [.int 2, .int (l1 + 1), .int 0]))]) F (k_rV (k := 1) (b := oa) (As := [.int 2]) (rest := []) F (c_become l g oa h1 (l1 + 1) t1 2) [2] rfl rfl 0 rfl rfl mw_428 mw_430 mw_426 mw_427 mw_6 (by decide) ⟨by decide, by decide⟩ rfl (Nat.le_of_ble_eq_true rfl) ⟨by decide, by decide⟩ dX1_loadOne_35) [2] [0, 1] [0, 1, 2] rfl rfl rfl (by decide) rfl rfl rfl ?_
      refine k_aload_n (n := 39) F dX1_loadOne_38 rfl 2 rfl rfl ?_
      refine k_getN (n := 42) (v := .int h0) F uX0 1 0 rfl rfl (by decide) nw_14 rfl dX1_loadOne_39 rfl ?_
      refine k_if_eq (n := 45) (tgt := 47) F dX1_loadOne_42 (by decide) rfl (fun hc3 => ?_) (fun hc3 => ?_)
      · refine k_aload_n (n := 48) F dX1_loadOne_47 rfl 2 rfl rfl ?_
        refine k_iconst (n := 49) (v := 1) F dX1_loadOne_48 rfl rfl ?_
        refine k_cv (n := 52) (ws' := [(a, .inr (1, [.ref za, .ref oa, .int fl, .int ht])), (za, .inr (0, [.int 1, .int l0, .int 0])), (oa, .inr (0, [.int 2, .int (l1 + 1), .int 0]))]) F (k_rV (k := 1) (b := za) (As := [.int 1]) (rest := []) F (c_become l g za h0 l0 t0 1) [1] rfl rfl 0 rfl rfl mw_428 mw_430 mw_426 mw_427 mw_6 (by decide) ⟨by decide, by decide⟩ rfl (Nat.le_of_ble_eq_true rfl) ⟨by decide, by decide⟩ dX1_loadOne_49) [1] [0, 2] [0, 2, 1] rfl rfl rfl (by decide) rfl rfl rfl ?_
        refine k_iconst (n := 53) (v := 1) F dX1_loadOne_52 rfl rfl ?_
        exact k_zret F rfl (by first | rfl | (simp [lnR, lnH, lnL, lnT, lxH, lxT, hc1, hc2, Int32.not_lt.mpr hc2, hc3]; done) | (simp_all [lnR, lnH, lnL, lnT, lxH, lxT, hc1, hc2, Int32.not_lt.mpr hc2, hc3]; done)) (by first | rfl | (simp [lnR, lnH, lnL, lnT, lxH, lxT, hc1, hc2, Int32.not_lt.mpr hc2, hc3]; done) | (simp_all [lnR, lnH, lnL, lnT, lxH, lxT, hc1, hc2, Int32.not_lt.mpr hc2, hc3]; done)) dX1_loadOne_53
      · refine k_iconst (n := 46) (v := 0) F dX1_loadOne_45 rfl rfl ?_
        exact k_zret F rfl (by first | rfl | (simp [lnR, lnH, lnL, lnT, lxH, lxT, hc1, hc2, Int32.not_lt.mpr hc2, hc3]; done) | (simp_all [lnR, lnH, lnL, lnT, lxH, lxT, hc1, hc2, Int32.not_lt.mpr hc2, hc3]; done)) (by first | rfl | (simp [lnR, lnH, lnL, lnT, lxH, lxT, hc1, hc2, Int32.not_lt.mpr hc2, hc3]; done) | (simp_all [lnR, lnH, lnL, lnT, lxH, lxT, hc1, hc2, Int32.not_lt.mpr hc2, hc3]; done)) dX1_loadOne_46
    · refine k_iconst (n := 32) (v := 1) F dX1_loadOne_31 rfl rfl ?_
      exact k_zret F rfl (by first | rfl | (simp [lnR, lnH, lnL, lnT, lxH, lxT, hc1, hc2, Int32.not_le.mp hc2]; done) | (simp_all [lnR, lnH, lnL, lnT, lxH, lxT, hc1, hc2, Int32.not_le.mp hc2]; done)) (by first | rfl | (simp [lnR, lnH, lnL, lnT, lxH, lxT, hc1, hc2, Int32.not_le.mp hc2]; done) | (simp_all [lnR, lnH, lnL, lnT, lxH, lxT, hc1, hc2, Int32.not_le.mp hc2]; done)) dX1_loadOne_32
  · refine k_iconst (n := 9) (v := 0) F dX1_loadOne_8 rfl rfl ?_
    exact k_zret F rfl (by first | rfl | (simp [lnR, lnH, lnL, lnT, lxH, lxT, hc1]; done) | (simp_all [lnR, lnH, lnL, lnT, lxH, lxT, hc1]; done)) (by first | rfl | (simp [lnR, lnH, lnL, lnT, lxH, lxT, hc1]; done) | (simp_all [lnR, lnH, lnL, lnT, lxH, lxT, hc1]; done)) dX1_loadOne_9
set_option maxRecDepth 100000 in
set_option maxHeartbeats 4000000 in
theorem c_load (l : Launch) (g : kG) (a za oa : Nat) (h0 l0 t0 h1 l1 t1 fl ht : Int32) : kM l yX1_load cX1_load 1 (some .boolean) (rmK 2 0 0 43) g [.ref a] [(a, .inr (1, [.ref za, .ref oa, .int fl, .int ht])), (za, .inr (0, [.int h0, .int l0, .int t0])), (oa, .inr (0, [.int h1, .int l1, .int t1]))] (kDi g (ldR h0 l0 h1 l1 fl) [(a, .inr (1, [.ref za, .ref oa, .int fl, .int ht])), (za, .inr (0, [.int (ldH0 h0 l0 h1 l1 fl), .int (ldL0 h0 l0), .int (ldT0 h0 l0 t0 h1 l1 fl)])), (oa, .inr (0, [.int (ldH1 h0 l0 h1 l1 fl), .int (ldL1 h0 h1 l1), .int (ldT1 h0 l0 h1 l1 t1 fl)]))]) := by
  refine k_enter (by decide) (Nat.le_of_ble_eq_true rfl) ?_
  intro p e s m args below meth c A F
  refine k_aload_n (n := 1) F dX1_load_0 rfl 0 rfl rfl ?_
  refine k_get (n := 4) (v := .ref za) F uX1 0 0 rfl rfl (by decide) mw_125 rfl dX1_load_1 rfl ?_
  refine k_getN (n := 7) (v := .int h0) F uX0 1 0 rfl rfl (by decide) nw_14 rfl dX1_load_4 rfl ?_
  refine k_iconst (n := 8) (v := 1) F dX1_load_7 rfl rfl ?_
  refine k_icmp_ne (n := 11) (tgt := 26) F dX1_load_8 (by decide) rfl (fun hc1 => ?_) (fun hc1 => ?_)
  · refine k_aload_n (n := 27) F dX1_load_26 rfl 0 rfl rfl ?_
    refine k_aload_n (n := 28) F dX1_load_27 rfl 0 rfl rfl ?_
    refine k_get (n := 31) (v := .ref oa) F uX1 0 1 rfl rfl (by decide) mw_126 rfl dX1_load_28 rfl ?_
    refine k_aload_n (n := 32) F dX1_load_31 rfl 0 rfl rfl ?_
    refine k_get (n := 35) (v := .ref za) F uX1 0 0 rfl rfl (by decide) mw_125 rfl dX1_load_32 rfl ?_
    refine k_ci (n := 38) (ws' := [(a, .inr (1, [.ref za, .ref oa, .int fl, .int ht])), (za, .inr (0, [.int (lxH h1 l1 fl h0), .int l0, .int (lxT h1 l1 fl h0 t0)])), (oa, .inr (0, [.int (lnH h1 l1 fl), .int (lnL h1 l1), .int (lnT h1 l1 t1 fl)]))]) F (k_rV (k := 2) (b := a) (As := [.ref oa, .ref za]) (rest := []) F (c_loadOne1 l g a za oa h0 l0 t0 h1 l1 t1 fl ht) [0, 1, 2] rfl rfl 0 rfl rfl mw_474 mw_471 mw_473 mw_s14 mw_5 (by decide) ⟨by decide, by decide⟩ rfl (Nat.le_of_ble_eq_true rfl) ⟨by decide, by decide⟩ dX1_load_35) [0, 1, 2] [] [0, 1, 2] rfl rfl rfl (by decide) rfl rfl rfl ?_
    exact k_zret F (kZn (lnR_b _ _ _ _)) (by first | rfl | (simp [ldR, ldH0, ldL0, ldT0, ldH1, ldL1, ldT1, hc1]; done) | (simp_all [ldR, ldH0, ldL0, ldT0, ldH1, ldL1, ldT1, hc1]; done)) (by first | rfl | (simp [ldR, ldH0, ldL0, ldT0, ldH1, ldL1, ldT1, hc1]; done) | (simp_all [ldR, ldH0, ldL0, ldT0, ldH1, ldL1, ldT1, hc1]; done)) dX1_load_38
  · refine k_aload_n (n := 12) F dX1_load_11 rfl 0 rfl rfl ?_
    refine k_aload_n (n := 13) F dX1_load_12 rfl 0 rfl rfl ?_
    refine k_get (n := 16) (v := .ref za) F uX1 0 0 rfl rfl (by decide) mw_125 rfl dX1_load_13 rfl ?_
    refine k_aload_n (n := 17) F dX1_load_16 rfl 0 rfl rfl ?_
    refine k_get (n := 20) (v := .ref oa) F uX1 0 1 rfl rfl (by decide) mw_126 rfl dX1_load_17 rfl ?_
    refine k_ci (n := 23) (ws' := [(a, .inr (1, [.ref za, .ref oa, .int fl, .int ht])), (za, .inr (0, [.int (lnH h0 l0 fl), .int (lnL h0 l0), .int (lnT h0 l0 t0 fl)])), (oa, .inr (0, [.int (lxH h0 l0 fl h1), .int l1, .int (lxT h0 l0 fl h1 t1)]))]) F (k_rV (k := 2) (b := a) (As := [.ref za, .ref oa]) (rest := []) F (c_loadOne0 l g a za oa h0 l0 t0 h1 l1 t1 fl ht) [0, 1, 2] rfl rfl 0 rfl rfl mw_474 mw_471 mw_473 mw_s14 mw_5 (by decide) ⟨by decide, by decide⟩ rfl (Nat.le_of_ble_eq_true rfl) ⟨by decide, by decide⟩ dX1_load_20) [0, 1, 2] [] [0, 1, 2] rfl rfl rfl (by decide) rfl rfl rfl ?_
    refine k_goto (tgt := 38) F dX1_load_23 (by decide) ?_
    exact k_zret F (kZn (lnR_b _ _ _ _)) (by first | rfl | (simp [ldR, ldH0, ldL0, ldT0, ldH1, ldL1, ldT1, hc1]; done) | (simp_all [ldR, ldH0, ldL0, ldT0, ldH1, ldL1, ldT1, hc1]; done)) (by first | rfl | (simp [ldR, ldH0, ldL0, ldT0, ldH1, ldL1, ldT1, hc1]; done) | (simp_all [ldR, ldH0, ldL0, ldT0, ldH1, ldL1, ldT1, hc1]; done)) dX1_load_38
set_option maxRecDepth 100000 in
set_option maxHeartbeats 4000000 in
theorem c_tell (l : Launch) (g : kG) (a za oa : Nat) (h0 l0 t0 h1 l1 t1 fl ht x wh : Int32) : kM l yX1_tell cX1_tell 3 (some .int) (rmK 1 0 0 21) g [.ref a, .int x, .int wh] [(a, .inr (1, [.ref za, .ref oa, .int fl, .int ht])), (za, .inr (0, [.int h0, .int l0, .int t0])), (oa, .inr (0, [.int h1, .int l1, .int t1]))] (kDi g (adR h0 l0 t0 h1 l1 t1 x wh) [(a, .inr (1, [.ref za, .ref oa, .int fl, .int ht])), (za, .inr (0, [.int h0, .int l0, .int t0])), (oa, .inr (0, [.int h1, .int l1, .int t1]))]) := by
  refine k_enter (by decide) (Nat.le_of_ble_eq_true rfl) ?_
  intro p e s m args below meth c A F
  refine k_iload_n (n := 1) F dX1_tell_0 rfl 1 rfl rfl ?_
  by_cases hc1 : x = 0
  · refine k_lookup (off := 27) (tgt := 28) F dX1_tell_1 (by decide) (by rw [hc1]; rfl) (by decide) ?_
    refine k_aload_n (n := 29) F dX1_tell_28 rfl 0 rfl rfl ?_
    refine k_get (n := 32) (v := .ref za) F uX1 0 0 rfl rfl (by decide) mw_125 rfl dX1_tell_29 rfl ?_
    refine k_iload_n (n := 33) F dX1_tell_32 rfl 2 rfl rfl ?_
    refine k_ciR (n := 36) F (k_rV (k := 1) (b := za) (As := [.int wh]) (rest := []) F (c_fact l g za h0 l0 t0 wh) [1] rfl rfl 0 rfl rfl mw_486 mw_483 mw_484 mw_485 mw_6 (by decide) ⟨by decide, by decide⟩ rfl (Nat.le_of_ble_eq_true rfl) ⟨by decide, by decide⟩ dX1_tell_33) [1] rfl rfl ?_
    exact k_iret F (by first | rfl | (simp [adR, hc1]; done) | (simp_all [adR, hc1]; done)) (by first | rfl | (simp [adR, hc1]; done) | (simp_all [adR, hc1]; done)) dX1_tell_36
  by_cases hc2 : x = 1
  · refine k_lookup (off := 36) (tgt := 37) F dX1_tell_1 (by decide) (by rw [hc2]; rfl) (by decide) ?_
    refine k_aload_n (n := 38) F dX1_tell_37 rfl 0 rfl rfl ?_
    refine k_get (n := 41) (v := .ref oa) F uX1 0 1 rfl rfl (by decide) mw_126 rfl dX1_tell_38 rfl ?_
    refine k_iload_n (n := 42) F dX1_tell_41 rfl 2 rfl rfl ?_
    refine k_ciR (n := 45) F (k_rV (k := 1) (b := oa) (As := [.int wh]) (rest := []) F (c_fact l g oa h1 l1 t1 wh) [2] rfl rfl 0 rfl rfl mw_486 mw_483 mw_484 mw_485 mw_6 (by decide) ⟨by decide, by decide⟩ rfl (Nat.le_of_ble_eq_true rfl) ⟨by decide, by decide⟩ dX1_tell_42) [2] rfl rfl ?_
    exact k_iret F (by first | rfl | (simp [adR, hc1, hc2]; done) | (simp_all [adR, hc1, hc2]; done)) (by first | rfl | (simp [adR, hc1, hc2]; done) | (simp_all [adR, hc1, hc2]; done)) dX1_tell_45
  refine k_lookup (off := 45) (tgt := 46) F dX1_tell_1 (by decide) (by show Op.lookupswitch.offset [(0, 27), (1, 36)] 45 _ = _; rw [lv_osw hc1 (show (0 : Int32).toInt = 0 from rfl), lv_osw hc2 (show (1 : Int32).toInt = 1 from rfl)]; rfl) (by decide) ?_
  refine k_iconst (n := 47) (v := -1) F dX1_tell_46 rfl rfl ?_
  exact k_iret F (by first | rfl | (simp [adR, hc1, hc2]; done) | (simp_all [adR, hc1, hc2]; done)) (by first | rfl | (simp [adR, hc1, hc2]; done) | (simp_all [adR, hc1, hc2]; done)) dX1_tell_47
set_option maxRecDepth 100000 in
set_option maxHeartbeats 4000000 in
theorem c_thCold_0 (l : Launch) (g : kG) (a : Nat) (d : Int32) : kM l yX7_coldAt cX7_coldAt 2 (some .int) (rmK 0 0 0 0) g [.ref a, .int d] [(a, .inr (7, []))] (kDi g (d / 4) [(a, .inr (7, []))]) := by
  refine k_enter (by decide) (Nat.le_of_ble_eq_true rfl) ?_
  intro p e s m args below meth c A F
  refine k_iload_n (n := 1) F dX7_coldAt_0 rfl 1 rfl rfl ?_
  refine k_iconst (n := 2) (v := 4) F dX7_coldAt_1 rfl rfl ?_
  refine k_idiv (n := 3) F dX7_coldAt_2 (by decide) rfl ?_
  exact k_iret F rfl rfl dX7_coldAt_3
set_option maxRecDepth 100000 in
set_option maxHeartbeats 4000000 in
theorem c_thCold_1 (l : Launch) (g : kG) (a q : Nat) (f : Nat → Int32) (d : Int32) : kM l yX7_coldAt cX7_coldAt 2 (some .int) (rmK 0 0 0 0) g [.ref a, .int d] [(a, .inr (8, [.ref q])), (q, .inl (g.2 0, 5, .inl f))] (kDi g (d / 4) [(a, .inr (8, [.ref q])), (q, .inl (g.2 0, 5, .inl f))]) := by
  refine k_enter (by decide) (Nat.le_of_ble_eq_true rfl) ?_
  intro p e s m args below meth c A F
  refine k_iload_n (n := 1) F dX7_coldAt_0 rfl 1 rfl rfl ?_
  refine k_iconst (n := 2) (v := 4) F dX7_coldAt_1 rfl rfl ?_
  refine k_idiv (n := 3) F dX7_coldAt_2 (by decide) rfl ?_
  exact k_iret F rfl rfl dX7_coldAt_3
set_option maxRecDepth 100000 in
set_option maxHeartbeats 4000000 in
theorem c_thCold_2 (l : Launch) (g : kG) (a q : Nat) (f : Nat → Int32) (lim : Int32) (d : Int32) : kM l yX7_coldAt cX7_coldAt 2 (some .int) (rmK 0 0 0 0) g [.ref a, .int d] [(a, .inr (2, [.ref q, .int lim])), (q, .inl (g.2 0, 5, .inl f))] (kDi g (d / 4) [(a, .inr (2, [.ref q, .int lim])), (q, .inl (g.2 0, 5, .inl f))]) := by
  refine k_enter (by decide) (Nat.le_of_ble_eq_true rfl) ?_
  intro p e s m args below meth c A F
  refine k_iload_n (n := 1) F dX7_coldAt_0 rfl 1 rfl rfl ?_
  refine k_iconst (n := 2) (v := 4) F dX7_coldAt_1 rfl rfl ?_
  refine k_idiv (n := 3) F dX7_coldAt_2 (by decide) rfl ?_
  exact k_iret F rfl rfl dX7_coldAt_3
set_option maxRecDepth 100000 in
set_option maxHeartbeats 4000000 in
theorem c_thTrace_0 (l : Launch) (g : kG) (a : Nat) : kM l yX7_traceWeight cX7_traceWeight 1 (some .int) (rmK 0 0 0 0) g [.ref a] [(a, .inr (7, []))] (kDi g 1 [(a, .inr (7, []))]) := by
  refine k_enter (by decide) (Nat.le_of_ble_eq_true rfl) ?_
  intro p e s m args below meth c A F
  refine k_iconst (n := 1) (v := 1) F dX7_traceWeight_0 rfl rfl ?_
  exact k_iret F rfl rfl dX7_traceWeight_1
set_option maxRecDepth 100000 in
set_option maxHeartbeats 4000000 in
theorem c_thTrace_1 (l : Launch) (g : kG) (a q : Nat) (f : Nat → Int32) : kM l yX7_traceWeight cX7_traceWeight 1 (some .int) (rmK 0 0 0 0) g [.ref a] [(a, .inr (8, [.ref q])), (q, .inl (g.2 0, 5, .inl f))] (kDi g 1 [(a, .inr (8, [.ref q])), (q, .inl (g.2 0, 5, .inl f))]) := by
  refine k_enter (by decide) (Nat.le_of_ble_eq_true rfl) ?_
  intro p e s m args below meth c A F
  refine k_iconst (n := 1) (v := 1) F dX7_traceWeight_0 rfl rfl ?_
  exact k_iret F rfl rfl dX7_traceWeight_1
set_option maxRecDepth 100000 in
set_option maxHeartbeats 4000000 in
theorem c_thTrace_2 (l : Launch) (g : kG) (a q : Nat) (f : Nat → Int32) (lim : Int32) : kM l yX7_traceWeight cX7_traceWeight 1 (some .int) (rmK 0 0 0 0) g [.ref a] [(a, .inr (2, [.ref q, .int lim])), (q, .inl (g.2 0, 5, .inl f))] (kDi g 1 [(a, .inr (2, [.ref q, .int lim])), (q, .inl (g.2 0, 5, .inl f))]) := by
  refine k_enter (by decide) (Nat.le_of_ble_eq_true rfl) ?_
  intro p e s m args below meth c A F
  refine k_iconst (n := 1) (v := 1) F dX7_traceWeight_0 rfl rfl ?_
  exact k_iret F rfl rfl dX7_traceWeight_1
set_option maxRecDepth 100000 in
set_option maxHeartbeats 4000000 in
theorem c_corner_1 (l : Launch) (g : kG) (a q : Nat) (f : Nat → Int32) (x : Int32) : kM l yX8_corner cX8_corner 2 (some .int) (rmK 0 0 0 0) g [.ref a, .int x] [(a, .inr (8, [.ref q])), (q, .inl (g.2 0, 5, .inl f))] (kDi g (kcn f x) [(a, .inr (8, [.ref q])), (q, .inl (g.2 0, 5, .inl f))]) := by
  refine k_enter (by decide) (Nat.le_of_ble_eq_true rfl) ?_
  intro p e s m args below meth c A F
  refine k_iload_n (n := 1) F dX8_corner_0 rfl 1 rfl rfl ?_
  refine k_if_lt (n := 4) (tgt := 22) F dX8_corner_1 (by decide) rfl (fun hc1 => ?_) (fun hc1 => ?_)
  · refine k_iconst (n := 23) (v := 0) F dX8_corner_22 rfl rfl ?_
    exact k_iret F (by first | rfl | (simp [kcn, hc1, Int32.not_le.mpr hc1]; done) | (simp_all [kcn, hc1, Int32.not_le.mpr hc1]; done)) (by first | rfl | (simp [kcn, hc1, Int32.not_le.mpr hc1]; done) | (simp_all [kcn, hc1, Int32.not_le.mpr hc1]; done)) dX8_corner_23
  · refine k_iload_n (n := 5) F dX8_corner_4 rfl 1 rfl rfl ?_
    refine k_aload_n (n := 6) F dX8_corner_5 rfl 0 rfl rfl ?_
    refine k_get (n := 9) (v := .ref q) F uX8 0 0 rfl rfl (by decide) mw_262 rfl dX8_corner_6 rfl ?_
    refine k_alen (n := 10) (v := 5) F 1 rfl rfl dX8_corner_9 rfl ?_
    refine k_icmp_ge (n := 13) (tgt := 22) F dX8_corner_10 (by decide) rfl (fun hc2 => ?_) (fun hc2 => ?_)
    · refine k_iconst (n := 23) (v := 0) F dX8_corner_22 rfl rfl ?_
      exact k_iret F (by first | rfl | (simp [kcn, hc1, Int32.not_lt.mp hc1, hc2, Int32.not_lt.mpr hc2]; done) | (simp_all [kcn, hc1, Int32.not_lt.mp hc1, hc2, Int32.not_lt.mpr hc2]; done)) (by first | rfl | (simp [kcn, hc1, Int32.not_lt.mp hc1, hc2, Int32.not_lt.mpr hc2]; done) | (simp_all [kcn, hc1, Int32.not_lt.mp hc1, hc2, Int32.not_lt.mpr hc2]; done)) dX8_corner_23
    · refine k_aload_n (n := 14) F dX8_corner_13 rfl 0 rfl rfl ?_
      refine k_get (n := 17) (v := .ref q) F uX8 0 0 rfl rfl (by decide) mw_262 rfl dX8_corner_14 rfl ?_
      refine k_iload_n (n := 18) F dX8_corner_17 rfl 1 rfl rfl ?_
      refine k_iald (n := 19) (N := x.toNatClampNeg) F 1 rfl (kcn_ix hc1 hc2) dX8_corner_18 rfl ?_
      refine k_goto (tgt := 23) F dX8_corner_19 (by decide) ?_
      exact k_iret F (by first | rfl | (simp [kcn, hc1, Int32.not_lt.mp hc1, hc2, Int32.not_le.mp hc2]; done) | (simp_all [kcn, hc1, Int32.not_lt.mp hc1, hc2, Int32.not_le.mp hc2]; done)) (by first | rfl | (simp [kcn, hc1, Int32.not_lt.mp hc1, hc2, Int32.not_le.mp hc2]; done) | (simp_all [kcn, hc1, Int32.not_lt.mp hc1, hc2, Int32.not_le.mp hc2]; done)) dX8_corner_23
set_option maxRecDepth 100000 in
set_option maxHeartbeats 4000000 in
theorem c_corner_2 (l : Launch) (g : kG) (a q : Nat) (f : Nat → Int32) (lim : Int32) (x : Int32) : kM l yX8_corner cX8_corner 2 (some .int) (rmK 0 0 0 0) g [.ref a, .int x] [(a, .inr (2, [.ref q, .int lim])), (q, .inl (g.2 0, 5, .inl f))] (kDi g (kcn f x) [(a, .inr (2, [.ref q, .int lim])), (q, .inl (g.2 0, 5, .inl f))]) := by
  refine k_enter (by decide) (Nat.le_of_ble_eq_true rfl) ?_
  intro p e s m args below meth c A F
  refine k_iload_n (n := 1) F dX8_corner_0 rfl 1 rfl rfl ?_
  refine k_if_lt (n := 4) (tgt := 22) F dX8_corner_1 (by decide) rfl (fun hc1 => ?_) (fun hc1 => ?_)
  · refine k_iconst (n := 23) (v := 0) F dX8_corner_22 rfl rfl ?_
    exact k_iret F (by first | rfl | (simp [kcn, hc1, Int32.not_le.mpr hc1]; done) | (simp_all [kcn, hc1, Int32.not_le.mpr hc1]; done)) (by first | rfl | (simp [kcn, hc1, Int32.not_le.mpr hc1]; done) | (simp_all [kcn, hc1, Int32.not_le.mpr hc1]; done)) dX8_corner_23
  · refine k_iload_n (n := 5) F dX8_corner_4 rfl 1 rfl rfl ?_
    refine k_aload_n (n := 6) F dX8_corner_5 rfl 0 rfl rfl ?_
    refine k_get (n := 9) (v := .ref q) F uX2 0 0 rfl rfl (by decide) mw_262 rfl dX8_corner_6 rfl ?_
    refine k_alen (n := 10) (v := 5) F 1 rfl rfl dX8_corner_9 rfl ?_
    refine k_icmp_ge (n := 13) (tgt := 22) F dX8_corner_10 (by decide) rfl (fun hc2 => ?_) (fun hc2 => ?_)
    · refine k_iconst (n := 23) (v := 0) F dX8_corner_22 rfl rfl ?_
      exact k_iret F (by first | rfl | (simp [kcn, hc1, Int32.not_lt.mp hc1, hc2, Int32.not_lt.mpr hc2]; done) | (simp_all [kcn, hc1, Int32.not_lt.mp hc1, hc2, Int32.not_lt.mpr hc2]; done)) (by first | rfl | (simp [kcn, hc1, Int32.not_lt.mp hc1, hc2, Int32.not_lt.mpr hc2]; done) | (simp_all [kcn, hc1, Int32.not_lt.mp hc1, hc2, Int32.not_lt.mpr hc2]; done)) dX8_corner_23
    · refine k_aload_n (n := 14) F dX8_corner_13 rfl 0 rfl rfl ?_
      refine k_get (n := 17) (v := .ref q) F uX2 0 0 rfl rfl (by decide) mw_262 rfl dX8_corner_14 rfl ?_
      refine k_iload_n (n := 18) F dX8_corner_17 rfl 1 rfl rfl ?_
      refine k_iald (n := 19) (N := x.toNatClampNeg) F 1 rfl (kcn_ix hc1 hc2) dX8_corner_18 rfl ?_
      refine k_goto (tgt := 23) F dX8_corner_19 (by decide) ?_
      exact k_iret F (by first | rfl | (simp [kcn, hc1, Int32.not_lt.mp hc1, hc2, Int32.not_le.mp hc2]; done) | (simp_all [kcn, hc1, Int32.not_lt.mp hc1, hc2, Int32.not_le.mp hc2]; done)) (by first | rfl | (simp [kcn, hc1, Int32.not_lt.mp hc1, hc2, Int32.not_le.mp hc2]; done) | (simp_all [kcn, hc1, Int32.not_lt.mp hc1, hc2, Int32.not_le.mp hc2]; done)) dX8_corner_23
set_option maxRecDepth 100000 in
set_option maxHeartbeats 4000000 in
theorem c_whCold_1 (l : Launch) (g : kG) (a q : Nat) (f : Nat → Int32) (d : Int32) : kM l yX8_coldAt cX8_coldAt 4 (some .int) (rmK 1 0 0 21) g [.ref a, .int d] [(a, .inr (8, [.ref q])), (q, .inl (g.2 0, 5, .inl f))] (kDi g (kwc f d) [(a, .inr (8, [.ref q])), (q, .inl (g.2 0, 5, .inl f))]) := by
  refine k_enter (by decide) (Nat.le_of_ble_eq_true rfl) ?_
  intro p e s m args below meth c A F
  refine k_iload_n (n := 1) F dX8_coldAt_0 rfl 1 rfl rfl ?_
  refine k_bipush (n := 3) (v := 10) F dX8_coldAt_1 rfl rfl ?_
  refine k_idiv (n := 4) F dX8_coldAt_3 (by decide) rfl ?_
  refine k_istore_n (n := 5) (lv' := [(2, .int (d / 10)), (0, .ref a), (1, .int d)]) F dX8_coldAt_4 rfl (by decide) rfl rfl ?_
  refine k_iload_n (n := 6) F dX8_coldAt_5 rfl 2 rfl rfl ?_
  refine k_bipush (n := 8) (v := 10) F dX8_coldAt_6 rfl rfl ?_
  refine k_irem (n := 9) F dX8_coldAt_8 (by decide) rfl ?_
  refine k_istore_n (n := 10) (lv' := [(3, .int (d - d / 10 * 10)), (2, .int (d / 10)), (0, .ref a), (1, .int d)]) F dX8_coldAt_9 rfl (by decide) rfl rfl ?_
  refine k_aload_n (n := 11) F dX8_coldAt_10 rfl 2 rfl rfl ?_
  refine k_iload_n (n := 12) F dX8_coldAt_11 rfl 3 rfl rfl ?_
  refine k_ciR (n := 15) F (k_rSU (k := 1) (b := a) (As := [.int d]) (rest := []) F (c_thCold_1 l g a q f d) [0, 1] rfl rfl 0 rfl rfl mw_329 mw_320 mw_313 mw_265 mw_311 mw_10 (by decide) (by decide) ⟨by decide, by decide⟩ rfl (Nat.le_of_ble_eq_true rfl) ⟨by decide, by decide⟩ dX8_coldAt_12) [0, 1] rfl rfl ?_
  refine k_bipush (n := 17) (v := 10) F dX8_coldAt_15 rfl rfl ?_
  refine k_iload_n (n := 18) F dX8_coldAt_17 rfl 0 rfl rfl ?_
  refine k_isub (n := 19) F dX8_coldAt_18 rfl ?_
  refine k_aload_n (n := 20) F dX8_coldAt_19 rfl 2 rfl rfl ?_
  refine k_iload_n (n := 21) F dX8_coldAt_20 rfl 1 rfl rfl ?_
  refine k_ciR (n := 24) F (k_rV (k := 1) (b := a) (As := [.int (d / 10)]) (rest := [.int (10 - (d - d / 10 * 10)), .int (d / 4)]) F (c_corner_1 l g a q f (d / 10)) [0, 1] rfl rfl 0 rfl rfl mw_324 mw_321 mw_323 mw_s4 mw_11 (by decide) ⟨by decide, by decide⟩ rfl (Nat.le_of_ble_eq_true rfl) ⟨by decide, by decide⟩ dX8_coldAt_21) [0, 1] rfl rfl ?_
  refine k_imul (n := 25) F dX8_coldAt_24 rfl ?_
  refine k_iload_n (n := 26) F dX8_coldAt_25 rfl 0 rfl rfl ?_
  refine k_aload_n (n := 27) F dX8_coldAt_26 rfl 2 rfl rfl ?_
  refine k_iload_n (n := 28) F dX8_coldAt_27 rfl 1 rfl rfl ?_
  refine k_iconst (n := 29) (v := 1) F dX8_coldAt_28 rfl rfl ?_
  refine k_iadd (n := 30) F dX8_coldAt_29 rfl ?_
  refine k_ciR (n := 33) F (k_rV (k := 1) (b := a) (As := [.int ((d / 10) + 1)]) (rest := [.int (d - d / 10 * 10), .int ((10 - (d - d / 10 * 10)) * (kcn f (d / 10))), .int (d / 4)]) F (c_corner_1 l g a q f ((d / 10) + 1)) [0, 1] rfl rfl 0 rfl rfl mw_324 mw_321 mw_323 mw_s4 mw_11 (by decide) ⟨by decide, by decide⟩ rfl (Nat.le_of_ble_eq_true rfl) ⟨by decide, by decide⟩ dX8_coldAt_30) [0, 1] rfl rfl ?_
  refine k_imul (n := 34) F dX8_coldAt_33 rfl ?_
  refine k_iadd (n := 35) F dX8_coldAt_34 rfl ?_
  refine k_bipush (n := 37) (v := 10) F dX8_coldAt_35 rfl rfl ?_
  refine k_idiv (n := 38) F dX8_coldAt_37 (by decide) rfl ?_
  refine k_iadd (n := 39) F dX8_coldAt_38 rfl ?_
  exact k_iret F (by first | rfl | (simp [kwc]; done) | (simp_all [kwc]; done)) (by first | rfl | (simp [kwc]; done) | (simp_all [kwc]; done)) dX8_coldAt_39
set_option maxRecDepth 100000 in
set_option maxHeartbeats 4000000 in
theorem c_whCold_2 (l : Launch) (g : kG) (a q : Nat) (f : Nat → Int32) (lim : Int32) (d : Int32) : kM l yX8_coldAt cX8_coldAt 4 (some .int) (rmK 1 0 0 21) g [.ref a, .int d] [(a, .inr (2, [.ref q, .int lim])), (q, .inl (g.2 0, 5, .inl f))] (kDi g (kwc f d) [(a, .inr (2, [.ref q, .int lim])), (q, .inl (g.2 0, 5, .inl f))]) := by
  refine k_enter (by decide) (Nat.le_of_ble_eq_true rfl) ?_
  intro p e s m args below meth c A F
  refine k_iload_n (n := 1) F dX8_coldAt_0 rfl 1 rfl rfl ?_
  refine k_bipush (n := 3) (v := 10) F dX8_coldAt_1 rfl rfl ?_
  refine k_idiv (n := 4) F dX8_coldAt_3 (by decide) rfl ?_
  refine k_istore_n (n := 5) (lv' := [(2, .int (d / 10)), (0, .ref a), (1, .int d)]) F dX8_coldAt_4 rfl (by decide) rfl rfl ?_
  refine k_iload_n (n := 6) F dX8_coldAt_5 rfl 2 rfl rfl ?_
  refine k_bipush (n := 8) (v := 10) F dX8_coldAt_6 rfl rfl ?_
  refine k_irem (n := 9) F dX8_coldAt_8 (by decide) rfl ?_
  refine k_istore_n (n := 10) (lv' := [(3, .int (d - d / 10 * 10)), (2, .int (d / 10)), (0, .ref a), (1, .int d)]) F dX8_coldAt_9 rfl (by decide) rfl rfl ?_
  refine k_aload_n (n := 11) F dX8_coldAt_10 rfl 2 rfl rfl ?_
  refine k_iload_n (n := 12) F dX8_coldAt_11 rfl 3 rfl rfl ?_
  refine k_ciR (n := 15) F (k_rSU (k := 1) (b := a) (As := [.int d]) (rest := []) F (c_thCold_2 l g a q f lim d) [0, 1] rfl rfl 0 rfl rfl mw_329 mw_320 mw_313 mw_265 mw_311 mw_10 (by decide) (by decide) ⟨by decide, by decide⟩ rfl (Nat.le_of_ble_eq_true rfl) ⟨by decide, by decide⟩ dX8_coldAt_12) [0, 1] rfl rfl ?_
  refine k_bipush (n := 17) (v := 10) F dX8_coldAt_15 rfl rfl ?_
  refine k_iload_n (n := 18) F dX8_coldAt_17 rfl 0 rfl rfl ?_
  refine k_isub (n := 19) F dX8_coldAt_18 rfl ?_
  refine k_aload_n (n := 20) F dX8_coldAt_19 rfl 2 rfl rfl ?_
  refine k_iload_n (n := 21) F dX8_coldAt_20 rfl 1 rfl rfl ?_
  refine k_ciR (n := 24) F (k_rV (k := 1) (b := a) (As := [.int (d / 10)]) (rest := [.int (10 - (d - d / 10 * 10)), .int (d / 4)]) F (c_corner_2 l g a q f lim (d / 10)) [0, 1] rfl rfl 0 rfl rfl mw_324 mw_321 mw_323 mw_x mw_11 (by decide) ⟨by decide, by decide⟩ rfl (Nat.le_of_ble_eq_true rfl) ⟨by decide, by decide⟩ dX8_coldAt_21) [0, 1] rfl rfl ?_
  refine k_imul (n := 25) F dX8_coldAt_24 rfl ?_
  refine k_iload_n (n := 26) F dX8_coldAt_25 rfl 0 rfl rfl ?_
  refine k_aload_n (n := 27) F dX8_coldAt_26 rfl 2 rfl rfl ?_
  refine k_iload_n (n := 28) F dX8_coldAt_27 rfl 1 rfl rfl ?_
  refine k_iconst (n := 29) (v := 1) F dX8_coldAt_28 rfl rfl ?_
  refine k_iadd (n := 30) F dX8_coldAt_29 rfl ?_
  refine k_ciR (n := 33) F (k_rV (k := 1) (b := a) (As := [.int ((d / 10) + 1)]) (rest := [.int (d - d / 10 * 10), .int ((10 - (d - d / 10 * 10)) * (kcn f (d / 10))), .int (d / 4)]) F (c_corner_2 l g a q f lim ((d / 10) + 1)) [0, 1] rfl rfl 0 rfl rfl mw_324 mw_321 mw_323 mw_x mw_11 (by decide) ⟨by decide, by decide⟩ rfl (Nat.le_of_ble_eq_true rfl) ⟨by decide, by decide⟩ dX8_coldAt_30) [0, 1] rfl rfl ?_
  refine k_imul (n := 34) F dX8_coldAt_33 rfl ?_
  refine k_iadd (n := 35) F dX8_coldAt_34 rfl ?_
  refine k_bipush (n := 37) (v := 10) F dX8_coldAt_35 rfl rfl ?_
  refine k_idiv (n := 38) F dX8_coldAt_37 (by decide) rfl ?_
  refine k_iadd (n := 39) F dX8_coldAt_38 rfl ?_
  exact k_iret F (by first | rfl | (simp [kwc]; done) | (simp_all [kwc]; done)) (by first | rfl | (simp [kwc]; done) | (simp_all [kwc]; done)) dX8_coldAt_39
set_option maxRecDepth 100000 in
set_option maxHeartbeats 4000000 in
theorem c_whTrace_1 (l : Launch) (g : kG) (a q : Nat) (f : Nat → Int32) : kM l yX8_traceWeight cX8_traceWeight 1 (some .int) (rmK 1 0 0 20) g [.ref a] [(a, .inr (8, [.ref q])), (q, .inl (g.2 0, 5, .inl f))] (kDi g 11 [(a, .inr (8, [.ref q])), (q, .inl (g.2 0, 5, .inl f))]) := by
  refine k_enter (by decide) (Nat.le_of_ble_eq_true rfl) ?_
  intro p e s m args below meth c A F
  refine k_aload_n (n := 1) F dX8_traceWeight_0 rfl 0 rfl rfl ?_
  refine k_ciR (n := 4) F (k_rSU (k := 0) (b := a) (As := []) (rest := []) F (c_thTrace_1 l g a q f) [0, 1] rfl rfl 0 rfl rfl mw_305 mw_303 mw_296 mw_265 mw_294 mw_10 (by decide) (by decide) ⟨by decide, by decide⟩ rfl (Nat.le_of_ble_eq_true rfl) ⟨by decide, by decide⟩ dX8_traceWeight_1) [0, 1] rfl rfl ?_
  refine k_bipush (n := 6) (v := 10) F dX8_traceWeight_4 rfl rfl ?_
  refine k_iadd (n := 7) F dX8_traceWeight_6 rfl ?_
  exact k_iret F rfl rfl dX8_traceWeight_7
set_option maxRecDepth 100000 in
set_option maxHeartbeats 4000000 in
theorem c_whTrace_2 (l : Launch) (g : kG) (a q : Nat) (f : Nat → Int32) (lim : Int32) : kM l yX8_traceWeight cX8_traceWeight 1 (some .int) (rmK 1 0 0 20) g [.ref a] [(a, .inr (2, [.ref q, .int lim])), (q, .inl (g.2 0, 5, .inl f))] (kDi g 11 [(a, .inr (2, [.ref q, .int lim])), (q, .inl (g.2 0, 5, .inl f))]) := by
  refine k_enter (by decide) (Nat.le_of_ble_eq_true rfl) ?_
  intro p e s m args below meth c A F
  refine k_aload_n (n := 1) F dX8_traceWeight_0 rfl 0 rfl rfl ?_
  refine k_ciR (n := 4) F (k_rSU (k := 0) (b := a) (As := []) (rest := []) F (c_thTrace_2 l g a q f lim) [0, 1] rfl rfl 0 rfl rfl mw_305 mw_303 mw_296 mw_265 mw_294 mw_10 (by decide) (by decide) ⟨by decide, by decide⟩ rfl (Nat.le_of_ble_eq_true rfl) ⟨by decide, by decide⟩ dX8_traceWeight_1) [0, 1] rfl rfl ?_
  refine k_bipush (n := 6) (v := 10) F dX8_traceWeight_4 rfl rfl ?_
  refine k_iadd (n := 7) F dX8_traceWeight_6 rfl ?_
  exact k_iret F rfl rfl dX8_traceWeight_7
set_option maxRecDepth 100000 in
set_option maxHeartbeats 4000000 in
theorem c_brCold_2 (l : Launch) (g : kG) (a q : Nat) (f : Nat → Int32) (lim : Int32) (d : Int32) : kM l yX2_coldAt cX2_coldAt 2 (some .int) (rmK 2 0 0 44) g [.ref a, .int d] [(a, .inr (2, [.ref q, .int lim])), (q, .inl (g.2 0, 5, .inl f))] (kDi g (if lim < kwc f d then lim else kwc f d) [(a, .inr (2, [.ref q, .int lim])), (q, .inl (g.2 0, 5, .inl f))]) := by
  refine k_enter (by decide) (Nat.le_of_ble_eq_true rfl) ?_
  intro p e s m args below meth c A F
  refine k_aload_n (n := 1) F dX2_coldAt_0 rfl 0 rfl rfl ?_
  refine k_iload_n (n := 2) F dX2_coldAt_1 rfl 1 rfl rfl ?_
  refine k_ciR (n := 5) F (k_rSU (k := 1) (b := a) (As := [.int d]) (rest := []) F (c_whCold_2 l g a q f lim d) [0, 1] rfl rfl 0 rfl rfl mw_319 mw_317 mw_827 mw_276 mw_318 mw_11 (by decide) (by decide) ⟨by decide, by decide⟩ rfl (Nat.le_of_ble_eq_true rfl) ⟨by decide, by decide⟩ dX2_coldAt_2) [0, 1] rfl rfl ?_
  refine k_aload_n (n := 6) F dX2_coldAt_5 rfl 0 rfl rfl ?_
  refine k_get (n := 9) (v := .int lim) F uX2 0 1 rfl rfl (by decide) mw_272 rfl dX2_coldAt_6 rfl ?_
  refine k_mmin (n := 12) F mw_325 mw_326 mw_13 mw_327 dX2_coldAt_9 (by decide) (Nat.le_of_ble_eq_true rfl) (by decide) (by decide) rfl ?_
  exact k_iret F rfl rfl dX2_coldAt_12
set_option maxRecDepth 100000 in
set_option maxHeartbeats 4000000 in
theorem c_brTrace_2 (l : Launch) (g : kG) (a q : Nat) (f : Nat → Int32) (lim : Int32) : kM l yX2_traceWeight cX2_traceWeight 1 (some .int) (rmK 2 0 0 40) g [.ref a] [(a, .inr (2, [.ref q, .int lim])), (q, .inl (g.2 0, 5, .inl f))] (kDi g 111 [(a, .inr (2, [.ref q, .int lim])), (q, .inl (g.2 0, 5, .inl f))]) := by
  refine k_enter (by decide) (Nat.le_of_ble_eq_true rfl) ?_
  intro p e s m args below meth c A F
  refine k_aload_n (n := 1) F dX2_traceWeight_0 rfl 0 rfl rfl ?_
  refine k_ciR (n := 4) F (k_rSU (k := 0) (b := a) (As := []) (rest := []) F (c_whTrace_2 l g a q f lim) [0, 1] rfl rfl 0 rfl rfl mw_302 mw_300 mw_826 mw_276 mw_301 mw_11 (by decide) (by decide) ⟨by decide, by decide⟩ rfl (Nat.le_of_ble_eq_true rfl) ⟨by decide, by decide⟩ dX2_traceWeight_1) [0, 1] rfl rfl ?_
  refine k_bipush (n := 6) (v := 100) F dX2_traceWeight_4 rfl rfl ?_
  refine k_iadd (n := 7) F dX2_traceWeight_6 rfl ?_
  exact k_iret F rfl rfl dX2_traceWeight_7
end
section
def kfill (v : Int32) (f : Nat → Int32) (i : Nat) : Nat → Int32 := fun j => if j < i then v else f j
theorem kfill_0 {v : Int32} {f : Nat → Int32} : kfill v f 0 = f := by funext j; simp [kfill]
theorem kfill_s {v : Int32} {f : Nat → Int32} {i : Nat} : upd (kfill v f i) i v = kfill v f (i + 1) := by
  funext j
  by_cases h : j = i
  · subst h; simp [upd, kfill]
  · simp only [upd, kfill, h, if_false]
    by_cases h2 : j < i
    · rw [if_pos h2, if_pos (by omega)]
    · rw [if_neg h2, if_neg (by omega)]
set_option maxRecDepth 100000 in
set_option maxHeartbeats 4000000 in
theorem c_fill (l : Launch) (g : kG) (a n : Nat) (f : Nat → Int32) (v : Int32) (hn : n < 2 ^ 31) : kM l yJ7_fill_53178 cJ7_fill_53178 4 none (rmK 0 0 0 0) g [.ref a, .int v] [(a, .inl (g.2 0, n, .inl f))] (kDv g [(a, .inl (g.2 0, n, .inl (kfill v f n)))]) := by
  refine k_enter (by decide) (Nat.le_of_ble_eq_true rfl) ?_
  intro p e s m args below meth c A F
  have loop : ∀ (k j : Nat), j ≤ n → n + 1 ≤ j + k → KW p l e ((rmK 0 0 0 0)) s m args below meth c (MQ below ((kDv g [(a, .inl (g.2 0, n, .inl (kfill v f n)))]) A) args s ((rmK 0 0 0 0)).cells ((rmK 0 0 0 0)).slots A) g A 4 ([(a, .inl (g.2 0, n, .inl (kfill v f j)))]) 0 0 5 [(2, .int (nI j)), (3, .int (nI n)), (0, .ref a), (1, .int v)] [] := by
    intro k
    induction k with
    | zero =>
      intro j h1 h2
      exact absurd h2 (by omega)
    | succ k ih =>
      intro j h1 h2
      refine k_iload_n (n := 6) F dJ7_fill_53178_5 rfl 0 rfl rfl ?_
      refine k_iload_n (n := 7) F dJ7_fill_53178_6 rfl 1 rfl rfl ?_
      refine k_icmp_ge (n := 10) (tgt := 20) F dJ7_fill_53178_7 (by decide) rfl (fun hc101 => ?_) (fun hc101 => ?_)
      · have hj9 : j = n := by have h9 := hc101; rw [nI_leI (by omega) (by omega)] at h9; omega
        subst hj9
        exact k_vret F rfl dJ7_fill_53178_20
      · refine k_aload_n (n := 11) F dJ7_fill_53178_10 rfl 2 rfl rfl ?_
        refine k_iload_n (n := 12) F dJ7_fill_53178_11 rfl 0 rfl rfl ?_
        refine k_iload_n (n := 13) F dJ7_fill_53178_12 rfl 3 rfl rfl ?_
        refine k_iast (n := 14) (N := j) (ws' := [(a, .inl (g.2 0, n, .inl (upd (kfill v f j) j v)))]) F 0 rfl (kIx_nI (by have h9 := hc101; rw [nI_leI (by omega) (by omega)] at h9; omega) hn) rfl dJ7_fill_53178_13 rfl ?_
        refine k_iinc (n := 17) (j := 0) (v := nI (j + 1)) (lv' := [(2, .int (nI (j + 1))), (3, .int (nI n)), (0, .ref a), (1, .int v)]) F dJ7_fill_53178_14 rfl (nI_1 j) (by decide) rfl rfl ?_
        refine k_goto (tgt := 5) F dJ7_fill_53178_17 (by decide) ?_
        have hj9 : j < n := by have h9 := hc101; rw [nI_leI (by omega) (by omega)] at h9; omega
        refine k_lv (lv' := [(2, .int (nI (j + 1))), (3, .int (nI n)), (0, .ref a), (1, .int v)]) [0, 1, 2, 3] rfl ?_
        refine k_world (ws' := [(a, .inl (g.2 0, n, .inl (kfill v f (j + 1))))]) (by rw [kfill_s]) ?_
        exact ih (j + 1) (by omega) (by omega)
  refine k_iconst (n := 1) (v := 0) F dJ7_fill_53178_0 rfl rfl ?_
  refine k_istore_n (n := 2) (lv' := [(2, .int 0), (0, .ref a), (1, .int v)]) F dJ7_fill_53178_1 rfl (by decide) rfl rfl ?_
  refine k_aload_n (n := 3) F dJ7_fill_53178_2 rfl 1 rfl rfl ?_
  refine k_alen (n := 4) (v := nI n) F 0 rfl rfl dJ7_fill_53178_3 rfl ?_
  refine k_istore_n (n := 5) (lv' := [(3, .int (nI n)), (2, .int 0), (0, .ref a), (1, .int v)]) F dJ7_fill_53178_4 rfl (by decide) rfl rfl ?_
  refine k_lv (lv' := [(2, .int (nI 0)), (3, .int (nI n)), (0, .ref a), (1, .int v)]) [1, 0, 2, 3] rfl ?_
  refine k_world (ws' := [(a, .inl (g.2 0, n, .inl (kfill v f 0)))]) (by rw [kfill_0]) ?_
  exact loop (n + 1) 0 (by omega) (by omega)
end
section
theorem kIx_pred {n m : Nat} (h1 : 1 ≤ n) (h2 : n ≤ m) (hm : m < 2 ^ 31) : kIx (nI n - 1) (n - 1) m := by
  have e : nI n - 1 = nI (n - 1) := pk_sub (b := 1) h1
  rw [e]
  exact kIx_nI (by omega) hm
theorem kcz {n : Nat} (h1 : 1 ≤ n) (h2 : n ≤ 8) : ¬ nI n - 1 < 0 ∧ (nI n - 1).toNatClampNeg = n - 1 := by
  have e : nI n - 1 = nI (n - 1) := pk_sub (b := 1) h1
  rw [e]
  exact ⟨nI_pos (by omega), nI_clamp (by omega)⟩
theorem kIx_le {x : Int32} {n : Nat} (h0 : 0 ≤ x) (h1 : x < nI n) (hn : n < 2 ^ 31) : kIx x x.toNatClampNeg n := by
  obtain ⟨j, hj, rfl⟩ := nI_of (Int32.not_lt.mpr h0)
  rw [nI_ltI hj hn] at h1
  rw [nI_clamp hj]
  exact kIx_nI h1 hn
theorem kIx_le2 {x t : Int32} (h0 : ¬ x < 0) (h1 : x < t) (h2 : t ≤ 8) : kIx x x.toNatClampNeg 8 :=
  kIx_le (Int32.not_lt.mp h0) (show x < nI 8 from Int32.lt_of_lt_of_le h1 h2) (by decide)
section
variable {p : Program} {l : Launch} {e : Env} {R : Room} {s : State} {m : MethodId} {args : Array Value} {below : List Frame} {meth : Method} {c : Code} {Q : State → Prop} {g : kG} {A : Nat → Prop} {nL : Nat} {ws : va_W} {cells slots pc : Nat} {lv lv' : List (Nat × Value)} {rest : List Value}
theorem k_lvv (h : lv = lv') (kk : KW p l e R s m args below meth c Q g A nL ws cells slots pc lv' rest) : KW p l e R s m args below meth c Q g A nL ws cells slots pc lv rest := h ▸ kk
end
/-! the exchanger -/
def exq (fw fc : Nat → Int32) (hu : Int32) (j : Nat) : Int32 := (fw j - fc j) * hu / 100
def exW (fw fc : Nat → Int32) (hu : Int32) (n : Nat) : Nat → Int32 := fun j => if j < n then fw j - exq fw fc hu j else fw j
def exC (fw fc : Nat → Int32) (hu : Int32) (n : Nat) : Nat → Int32 := fun j => if j < n then fc j + exq fw fc hu j else fc j
theorem exW_0 {fw fc : Nat → Int32} {hu : Int32} : exW fw fc hu 0 = fw := by funext j; simp [exW]
theorem exC_0 {fw fc : Nat → Int32} {hu : Int32} : exC fw fc hu 0 = fc := by funext j; simp [exC]
theorem exW_s {fw fc : Nat → Int32} {hu : Int32} {j : Nat} : upd (exW fw fc hu j) j (exW fw fc hu j j - (exW fw fc hu j j - exC fw fc hu j j) * hu / 100) = exW fw fc hu (j + 1) := by
  have e1 : exW fw fc hu j j = fw j := by simp [exW]
  have e2 : exC fw fc hu j j = fc j := by simp [exC]
  rw [e1, e2]
  funext k
  by_cases h : k = j
  · subst h; simp [upd, exW, exq]
  · simp only [upd, exW, h, if_false]
    by_cases h2 : k < j
    · rw [if_pos h2, if_pos (by omega)]
    · rw [if_neg h2, if_neg (by omega)]
theorem exC_s {fw fc : Nat → Int32} {hu : Int32} {j : Nat} : upd (exC fw fc hu j) j (exC fw fc hu j j + (exW fw fc hu j j - exC fw fc hu j j) * hu / 100) = exC fw fc hu (j + 1) := by
  have e1 : exW fw fc hu j j = fw j := by simp [exW]
  have e2 : exC fw fc hu j j = fc j := by simp [exC]
  rw [e1, e2]
  funext k
  by_cases h : k = j
  · subst h; simp [upd, exC, exq]
  · simp only [upd, exC, h, if_false]
    by_cases h2 : k < j
    · rw [if_pos h2, if_pos (by omega)]
    · rw [if_neg h2, if_neg (by omega)]
def mvW (f : Nat → Int32) (n : Nat) (v : Int32) : Nat → Int32 := fun j => if j = 0 then v else if j < n then f (j - 1) else f j
def mvC (f : Nat → Int32) (n : Nat) (v : Int32) : Nat → Int32 := fun j => if j = n - 1 then v else if j < n - 1 then f (j + 1) else f j
theorem mvW_e {f : Nat → Int32} {n : Nat} {v : Int32} (h1 : 1 ≤ n) (h8 : n ≤ 8) : upd (va_cpy f f 0 1 (n - 1)) 0 v = mvW f n v := by
  funext j
  by_cases h : j = 0
  · subst h; simp [upd, mvW]
  · simp only [upd, mvW, h, if_false]
    by_cases h2 : j < n
    · rw [if_pos h2, pk_cpy_in (by omega) (by omega)]
      congr 1
      omega
    · rw [if_neg h2, pk_cpy_out (by omega)]
theorem mvC_e {f : Nat → Int32} {n : Nat} {v : Int32} (h1 : 1 ≤ n) (h8 : n ≤ 8) : upd (va_cpy f f 1 0 (n - 1)) (n - 1) v = mvC f n v := by
  funext j
  by_cases h : j = n - 1
  · subst h; simp [upd, mvC]
  · simp only [upd, mvC, h, if_false]
    by_cases h2 : j < n - 1
    · rw [if_pos h2, pk_cpy_in (by omega) (by omega)]
      congr 1
      omega
    · rw [if_neg h2, pk_cpy_out (by omega)]
def psL (fw fc : Nat → Int32) (hu : Int32) (n : Nat) : Int32 := exW fw fc hu n (n - 1)
def psE (fw fc : Nat → Int32) (hu : Int32) (n : Nat) (co : Int32) : Int32 := psL fw fc hu n - co
def psG (fw fc : Nat → Int32) (hu : Int32) (n : Nat) (co : Int32) : Int32 := if psE fw fc hu n co < 80 then 80 else psE fw fc hu n co
def psR (fw fc : Nat → Int32) (hu : Int32) (n : Nat) (co : Int32) : Int32 := if 20 < (psG fw fc hu n co - psE fw fc hu n co) / 5 then 20 else (psG fw fc hu n co - psE fw fc hu n co) / 5
/-! a day's orders: how many were delivered, how each is, how many missed, the tank, all that was delivered -/
abbrev kE : Type := Int32 × (Nat → Int32) × Int32 × Int32 × Int64
def edS (fw fd : Nat → Int32) (nd : Int32) (j : Nat) (x : kE) : kE := if fd j = nd then (x.1 + (if x.2.2.2.1 < fw j then 0 else 1), upd x.2.1 j (if x.2.2.2.1 < fw j then 2 else 1), (if x.2.2.2.1 < fw j then x.2.2.1 + 1 else x.2.2.1), (if x.2.2.2.1 < fw j then x.2.2.2.1 else x.2.2.2.1 - fw j), (if x.2.2.2.1 < fw j then x.2.2.2.2 else x.2.2.2.2 + (fw j).toInt64)) else x
def edL (fw fd : Nat → Int32) (nd : Int32) (x : kE) : Nat → kE
  | 0 => x
  | j + 1 => edS fw fd nd j (edL fw fd nd x j)
def orR (tk : Int32) (fw fd fh : Nat → Int32) (x y : Int32) : Int32 := if x < 0 then -1 else if tk ≤ x then -1 else if y = 0 then fw x.toNatClampNeg else if y = 1 then fd x.toNatClampNeg else if y = 2 then fh x.toNatClampNeg else -1
set_option maxRecDepth 100000 in
set_option maxHeartbeats 4000000 in
theorem c_exchange (l : Launch) (g : kG) (a wa ca : Nat) (ln hu : Int32) (x0 x1 x2 x3 : Int64) (fw fc : Nat → Int32) (n : Nat) (hln : ln = nI n) (hn1 : 1 ≤ n) (hn8 : n ≤ 8) : kM l yX4_exchange cX4_exchange 3 none (rmK 0 0 0 0) g [.ref a] [(a, .inr (4, [.ref wa, .ref ca, .int ln, .int hu, .long x0, .long x1, .long x2, .long x3])), (wa, .inl (g.2 0, 8, .inl fw)), (ca, .inl (g.2 0, 8, .inl fc))] (kDv g [(a, .inr (4, [.ref wa, .ref ca, .int ln, .int hu, .long x0, .long x1, .long x2, .long x3])), (wa, .inl (g.2 0, 8, .inl (exW fw fc hu n))), (ca, .inl (g.2 0, 8, .inl (exC fw fc hu n)))]) := by
  subst hln
  refine k_enter (by decide) (Nat.le_of_ble_eq_true rfl) ?_
  intro p e s m args below meth c A F
  have loop : ∀ (k j : Nat), j ≤ n → n + 1 ≤ j + k → KW p l e ((rmK 0 0 0 0)) s m args below meth c (MQ below ((kDv g [(a, .inr (4, [.ref wa, .ref ca, .int (nI n), .int hu, .long x0, .long x1, .long x2, .long x3])), (wa, .inl (g.2 0, 8, .inl (exW fw fc hu n))), (ca, .inl (g.2 0, 8, .inl (exC fw fc hu n)))]) A) args s ((rmK 0 0 0 0)).cells ((rmK 0 0 0 0)).slots A) g A 3 ([(a, .inr (4, [.ref wa, .ref ca, .int (nI n), .int hu, .long x0, .long x1, .long x2, .long x3])), (wa, .inl (g.2 0, 8, .inl (exW fw fc hu j))), (ca, .inl (g.2 0, 8, .inl (exC fw fc hu j)))]) 0 0 2 [(1, .int (nI j)), (0, .ref a)] [] := by
    intro k
    induction k with
    | zero =>
      intro j h1 h2
      exact absurd h2 (by omega)
    | succ k ih =>
      intro j h1 h2
      refine k_iload_n (n := 3) F dX4_exchange_2 rfl 0 rfl rfl ?_
      refine k_aload_n (n := 4) F dX4_exchange_3 rfl 1 rfl rfl ?_
      refine k_get (n := 7) (v := .int (nI n)) F uX4 0 2 rfl rfl (by decide) mw_42 rfl dX4_exchange_4 rfl ?_
      refine k_icmp_ge (n := 10) (tgt := 58) F dX4_exchange_7 (by decide) rfl (fun hc101 => ?_) (fun hc101 => ?_)
      · have hj9 : j = n := by have h9 := hc101; rw [nI_leI (by omega) (by omega)] at h9; omega
        subst hj9
        exact k_vret F rfl dX4_exchange_58
      · refine k_aload_n (n := 11) F dX4_exchange_10 rfl 1 rfl rfl ?_
        refine k_get (n := 14) (v := .ref wa) F uX4 0 0 rfl rfl (by decide) mw_38 rfl dX4_exchange_11 rfl ?_
        refine k_iload_n (n := 15) F dX4_exchange_14 rfl 0 rfl rfl ?_
        refine k_iald (n := 16) (N := j) F 1 rfl (kIx_nI (by have h9 := hc101; rw [nI_leI (by omega) (by omega)] at h9; omega) (by decide)) dX4_exchange_15 rfl ?_
        refine k_aload_n (n := 17) F dX4_exchange_16 rfl 1 rfl rfl ?_
        refine k_get (n := 20) (v := .ref ca) F uX4 0 1 rfl rfl (by decide) mw_40 rfl dX4_exchange_17 rfl ?_
        refine k_iload_n (n := 21) F dX4_exchange_20 rfl 0 rfl rfl ?_
        refine k_iald (n := 22) (N := j) F 2 rfl (kIx_nI (by have h9 := hc101; rw [nI_leI (by omega) (by omega)] at h9; omega) (by decide)) dX4_exchange_21 rfl ?_
        refine k_isub (n := 23) F dX4_exchange_22 rfl ?_
        refine k_aload_n (n := 24) F dX4_exchange_23 rfl 1 rfl rfl ?_
        refine k_get (n := 27) (v := .int hu) F uX4 0 3 rfl rfl (by decide) mw_44 rfl dX4_exchange_24 rfl ?_
        refine k_imul (n := 28) F dX4_exchange_27 rfl ?_
        refine k_bipush (n := 30) (v := 100) F dX4_exchange_28 rfl rfl ?_
        refine k_idiv (n := 31) F dX4_exchange_30 (by decide) rfl ?_
        refine k_istore_n (n := 32) (lv' := [(2, .int (((((exW fw fc hu j) j) - ((exC fw fc hu j) j)) * hu) / 100)), (1, .int (nI j)), (0, .ref a)]) F dX4_exchange_31 rfl (by decide) rfl rfl ?_
        refine k_aload_n (n := 33) F dX4_exchange_32 rfl 2 rfl rfl ?_
        refine k_get (n := 36) (v := .ref wa) F uX4 0 0 rfl rfl (by decide) mw_38 rfl dX4_exchange_33 rfl ?_
        refine k_iload_n (n := 37) F dX4_exchange_36 rfl 1 rfl rfl ?_
        refine k_dup2_11 (n := 38) F dX4_exchange_37 rfl rfl rfl ?_
        refine k_iald (n := 39) (N := j) F 1 rfl (kIx_nI (by have h9 := hc101; rw [nI_leI (by omega) (by omega)] at h9; omega) (by decide)) dX4_exchange_38 rfl ?_
        refine k_iload_n (n := 40) F dX4_exchange_39 rfl 0 rfl rfl ?_
        refine k_isub (n := 41) F dX4_exchange_40 rfl ?_
        refine k_iast (n := 42) (N := j) (ws' := [(a, .inr (4, [.ref wa, .ref ca, .int (nI n), .int hu, .long x0, .long x1, .long x2, .long x3])), (wa, .inl (g.2 0, 8, .inl (upd (exW fw fc hu j) j (((exW fw fc hu j) j) - (((((exW fw fc hu j) j) - ((exC fw fc hu j) j)) * hu) / 100))))), (ca, .inl (g.2 0, 8, .inl (exC fw fc hu j)))]) F 1 rfl (kIx_nI (by have h9 := hc101; rw [nI_leI (by omega) (by omega)] at h9; omega) (by decide)) rfl dX4_exchange_41 rfl ?_
        refine k_aload_n (n := 43) F dX4_exchange_42 rfl 2 rfl rfl ?_
        refine k_get (n := 46) (v := .ref ca) F uX4 0 1 rfl rfl (by decide) mw_40 rfl dX4_exchange_43 rfl ?_
        refine k_iload_n (n := 47) F dX4_exchange_46 rfl 1 rfl rfl ?_
        refine k_dup2_11 (n := 48) F dX4_exchange_47 rfl rfl rfl ?_
        refine k_iald (n := 49) (N := j) F 2 rfl (kIx_nI (by have h9 := hc101; rw [nI_leI (by omega) (by omega)] at h9; omega) (by decide)) dX4_exchange_48 rfl ?_
        refine k_iload_n (n := 50) F dX4_exchange_49 rfl 0 rfl rfl ?_
        refine k_iadd (n := 51) F dX4_exchange_50 rfl ?_
        refine k_iast (n := 52) (N := j) (ws' := [(a, .inr (4, [.ref wa, .ref ca, .int (nI n), .int hu, .long x0, .long x1, .long x2, .long x3])), (wa, .inl (g.2 0, 8, .inl (upd (exW fw fc hu j) j (((exW fw fc hu j) j) - (((((exW fw fc hu j) j) - ((exC fw fc hu j) j)) * hu) / 100))))), (ca, .inl (g.2 0, 8, .inl (upd (exC fw fc hu j) j (((exC fw fc hu j) j) + (((((exW fw fc hu j) j) - ((exC fw fc hu j) j)) * hu) / 100)))))]) F 2 rfl (kIx_nI (by have h9 := hc101; rw [nI_leI (by omega) (by omega)] at h9; omega) (by decide)) rfl dX4_exchange_51 rfl ?_
        refine k_iinc (n := 55) (j := 1) (v := nI (j + 1)) (lv' := [(1, .int (nI (j + 1))), (2, .int (((((exW fw fc hu j) j) - ((exC fw fc hu j) j)) * hu) / 100)), (0, .ref a)]) F dX4_exchange_52 rfl (nI_1 j) (by decide) rfl rfl ?_
        refine k_goto (tgt := 2) F dX4_exchange_55 (by decide) ?_
        have hj9 : j < n := by have h9 := hc101; rw [nI_leI (by omega) (by omega)] at h9; omega
        refine k_lv (lv' := [(1, .int (nI (j + 1))), (0, .ref a)]) [0, 2] rfl ?_
        refine k_world (ws' := [(a, .inr (4, [.ref wa, .ref ca, .int (nI n), .int hu, .long x0, .long x1, .long x2, .long x3])), (wa, .inl (g.2 0, 8, .inl (exW fw fc hu (j + 1)))), (ca, .inl (g.2 0, 8, .inl (exC fw fc hu (j + 1))))]) (by rw [exW_s, exC_s]) ?_
        exact ih (j + 1) (by omega) (by omega)
  refine k_iconst (n := 1) (v := 0) F dX4_exchange_0 rfl rfl ?_
  refine k_istore_n (n := 2) (lv' := [(1, .int 0), (0, .ref a)]) F dX4_exchange_1 rfl (by decide) rfl rfl ?_
  refine k_lv (lv' := [(1, .int (nI 0)), (0, .ref a)]) [0, 1] rfl ?_
  refine k_world (ws' := [(a, .inr (4, [.ref wa, .ref ca, .int (nI n), .int hu, .long x0, .long x1, .long x2, .long x3])), (wa, .inl (g.2 0, 8, .inl (exW fw fc hu 0))), (ca, .inl (g.2 0, 8, .inl (exC fw fc hu 0)))]) (by rw [exW_0, exC_0]) ?_
  exact loop (n + 1) 0 (by omega) (by omega)
set_option maxRecDepth 100000 in
set_option maxHeartbeats 4000000 in
theorem c_moveOn (l : Launch) (g : kG) (a wa ca : Nat) (ln hu : Int32) (x0 x1 x2 x3 : Int64) (fw fc : Nat → Int32) (n : Nat) (hln : ln = nI n) (hn1 : 1 ≤ n) (hn8 : n ≤ 8) (il gb : Int32) : kM l yX4_moveOn cX4_moveOn 3 none (rmK 1 0 0 60) g [.ref a, .int il, .int gb] [(a, .inr (4, [.ref wa, .ref ca, .int ln, .int hu, .long x0, .long x1, .long x2, .long x3])), (wa, .inl (g.2 0, 8, .inl fw)), (ca, .inl (g.2 0, 8, .inl fc))] (kDv g [(a, .inr (4, [.ref wa, .ref ca, .int ln, .int hu, .long x0, .long x1, .long x2, .long x3])), (wa, .inl (g.2 0, 8, .inl (mvW fw n il))), (ca, .inl (g.2 0, 8, .inl (mvC fc n gb)))]) := by
  subst hln
  refine k_enter (by decide) (Nat.le_of_ble_eq_true rfl) ?_
  intro p e s m args below meth c A F
  refine k_aload_n (n := 1) F dX4_moveOn_0 rfl 0 rfl rfl ?_
  refine k_get (n := 4) (v := .ref wa) F uX4 0 0 rfl rfl (by decide) mw_38 rfl dX4_moveOn_1 rfl ?_
  refine k_iconst (n := 5) (v := 0) F dX4_moveOn_4 rfl rfl ?_
  refine k_aload_n (n := 6) F dX4_moveOn_5 rfl 0 rfl rfl ?_
  refine k_get (n := 9) (v := .ref wa) F uX4 0 0 rfl rfl (by decide) mw_38 rfl dX4_moveOn_6 rfl ?_
  refine k_iconst (n := 10) (v := 1) F dX4_moveOn_9 rfl rfl ?_
  refine k_aload_n (n := 11) F dX4_moveOn_10 rfl 0 rfl rfl ?_
  refine k_get (n := 14) (v := .int (nI n)) F uX4 0 2 rfl rfl (by decide) mw_42 rfl dX4_moveOn_11 rfl ?_
  refine k_iconst (n := 15) (v := 1) F dX4_moveOn_14 rfl rfl ?_
  refine k_isub (n := 16) F dX4_moveOn_15 rfl ?_
  refine k_copyi (n := 19) (S := 0) (D := 1) (N := n - 1) (ws' := [(a, .inr (4, [.ref wa, .ref ca, .int (nI n), .int hu, .long x0, .long x1, .long x2, .long x3])), (wa, .inl (g.2 0, 8, .inl (va_cpy fw fw 0 1 (n - 1)))), (ca, .inl (g.2 0, 8, .inl fc))]) F mw_458 mw_460 mw_459 mw_14 1 1 rfl rfl ⟨by decide, rfl⟩ ⟨by decide, rfl⟩ (kcz hn1 hn8) (by omega) (by omega) rfl dX4_moveOn_16 (by decide) (Nat.le_of_ble_eq_true rfl) rfl ?_
  refine k_aload_n (n := 20) F dX4_moveOn_19 rfl 0 rfl rfl ?_
  refine k_get (n := 23) (v := .ref wa) F uX4 0 0 rfl rfl (by decide) mw_38 rfl dX4_moveOn_20 rfl ?_
  refine k_iconst (n := 24) (v := 0) F dX4_moveOn_23 rfl rfl ?_
  refine k_iload_n (n := 25) F dX4_moveOn_24 rfl 1 rfl rfl ?_
  refine k_iast (n := 26) (N := 0) (ws' := [(a, .inr (4, [.ref wa, .ref ca, .int (nI n), .int hu, .long x0, .long x1, .long x2, .long x3])), (wa, .inl (g.2 0, 8, .inl (upd (va_cpy fw fw 0 1 (n - 1)) 0 il))), (ca, .inl (g.2 0, 8, .inl fc))]) F 1 rfl (kIx_nI (j := 0) (by decide) (by decide)) rfl dX4_moveOn_25 rfl ?_
  refine k_aload_n (n := 27) F dX4_moveOn_26 rfl 0 rfl rfl ?_
  refine k_get (n := 30) (v := .ref ca) F uX4 0 1 rfl rfl (by decide) mw_40 rfl dX4_moveOn_27 rfl ?_
  refine k_iconst (n := 31) (v := 1) F dX4_moveOn_30 rfl rfl ?_
  refine k_aload_n (n := 32) F dX4_moveOn_31 rfl 0 rfl rfl ?_
  refine k_get (n := 35) (v := .ref ca) F uX4 0 1 rfl rfl (by decide) mw_40 rfl dX4_moveOn_32 rfl ?_
  refine k_iconst (n := 36) (v := 0) F dX4_moveOn_35 rfl rfl ?_
  refine k_aload_n (n := 37) F dX4_moveOn_36 rfl 0 rfl rfl ?_
  refine k_get (n := 40) (v := .int (nI n)) F uX4 0 2 rfl rfl (by decide) mw_42 rfl dX4_moveOn_37 rfl ?_
  refine k_iconst (n := 41) (v := 1) F dX4_moveOn_40 rfl rfl ?_
  refine k_isub (n := 42) F dX4_moveOn_41 rfl ?_
  refine k_copyi (n := 45) (S := 1) (D := 0) (N := n - 1) (ws' := [(a, .inr (4, [.ref wa, .ref ca, .int (nI n), .int hu, .long x0, .long x1, .long x2, .long x3])), (wa, .inl (g.2 0, 8, .inl (upd (va_cpy fw fw 0 1 (n - 1)) 0 il))), (ca, .inl (g.2 0, 8, .inl (va_cpy fc fc 1 0 (n - 1))))]) F mw_458 mw_460 mw_459 mw_14 2 2 rfl rfl ⟨by decide, rfl⟩ ⟨by decide, rfl⟩ (kcz hn1 hn8) (by omega) (by omega) rfl dX4_moveOn_42 (by decide) (Nat.le_of_ble_eq_true rfl) rfl ?_
  refine k_aload_n (n := 46) F dX4_moveOn_45 rfl 0 rfl rfl ?_
  refine k_get (n := 49) (v := .ref ca) F uX4 0 1 rfl rfl (by decide) mw_40 rfl dX4_moveOn_46 rfl ?_
  refine k_aload_n (n := 50) F dX4_moveOn_49 rfl 0 rfl rfl ?_
  refine k_get (n := 53) (v := .int (nI n)) F uX4 0 2 rfl rfl (by decide) mw_42 rfl dX4_moveOn_50 rfl ?_
  refine k_iconst (n := 54) (v := 1) F dX4_moveOn_53 rfl rfl ?_
  refine k_isub (n := 55) F dX4_moveOn_54 rfl ?_
  refine k_iload_n (n := 56) F dX4_moveOn_55 rfl 2 rfl rfl ?_
  refine k_iast (n := 57) (N := n - 1) (ws' := [(a, .inr (4, [.ref wa, .ref ca, .int (nI n), .int hu, .long x0, .long x1, .long x2, .long x3])), (wa, .inl (g.2 0, 8, .inl (upd (va_cpy fw fw 0 1 (n - 1)) 0 il))), (ca, .inl (g.2 0, 8, .inl (upd (va_cpy fc fc 1 0 (n - 1)) (n - 1) gb)))]) F 2 rfl (kIx_pred hn1 hn8 (by decide)) rfl dX4_moveOn_56 rfl ?_
  exact k_vret F (by rw [mvW_e hn1 hn8, mvC_e hn1 hn8]) dX4_moveOn_57
set_option maxRecDepth 100000 in
set_option maxHeartbeats 4000000 in
theorem c_pass (l : Launch) (g : kG) (a wa ca : Nat) (ln hu : Int32) (x0 x1 x2 x3 : Int64) (fw fc : Nat → Int32) (n : Nat) (hln : ln = nI n) (hn1 : 1 ≤ n) (hn8 : n ≤ 8) (il co : Int32) : kM l yX4_pass cX4_pass 6 (some .int) (rmK 2 0 0 82) g [.ref a, .int il, .int co] [(a, .inr (4, [.ref wa, .ref ca, .int ln, .int hu, .long x0, .long x1, .long x2, .long x3])), (wa, .inl (g.2 0, 8, .inl fw)), (ca, .inl (g.2 0, 8, .inl fc))] (kDi g (psR fw fc hu n co) [(a, .inr (4, [.ref wa, .ref ca, .int ln, .int hu, .long (x0 + il.toInt64), .long (x1 + (exC fw fc hu n 0).toInt64), .long (x2 + (psL fw fc hu n - psG fw fc hu n co).toInt64), .long (x3 + 1)])), (wa, .inl (g.2 0, 8, .inl (mvW (exW fw fc hu n) n il))), (ca, .inl (g.2 0, 8, .inl (mvC (exC fw fc hu n) n (psG fw fc hu n co))))]) := by
  subst hln
  refine k_enter (by decide) (Nat.le_of_ble_eq_true rfl) ?_
  intro p e s m args below meth c A F
  refine k_aload_n (n := 1) F dX4_pass_0 rfl 0 rfl rfl ?_
  refine k_cv (n := 4) (ws' := [(a, .inr (4, [.ref wa, .ref ca, .int (nI n), .int hu, .long x0, .long x1, .long x2, .long x3])), (wa, .inl (g.2 0, 8, .inl (exW fw fc hu n))), (ca, .inl (g.2 0, 8, .inl (exC fw fc hu n)))]) F (k_rV (k := 0) (b := a) (As := []) (rest := []) F (c_exchange l g a wa ca (nI n) hu x0 x1 x2 x3 fw fc n rfl hn1 hn8) [0, 1, 2] rfl rfl 0 rfl rfl mw_450 mw_447 mw_449 mw_s12 mw_2 (by decide) ⟨by decide, by decide⟩ rfl (Nat.le_of_ble_eq_true rfl) ⟨by decide, by decide⟩ dX4_pass_1) [0, 1, 2] [] [0, 1, 2] rfl rfl rfl (by decide) rfl rfl rfl ?_
  refine k_aload_n (n := 5) F dX4_pass_4 rfl 0 rfl rfl ?_
  refine k_get (n := 8) (v := .ref wa) F uX4 0 0 rfl rfl (by decide) mw_38 rfl dX4_pass_5 rfl ?_
  refine k_aload_n (n := 9) F dX4_pass_8 rfl 0 rfl rfl ?_
  refine k_get (n := 12) (v := .int (nI n)) F uX4 0 2 rfl rfl (by decide) mw_42 rfl dX4_pass_9 rfl ?_
  refine k_iconst (n := 13) (v := 1) F dX4_pass_12 rfl rfl ?_
  refine k_isub (n := 14) F dX4_pass_13 rfl ?_
  refine k_iald (n := 15) (N := n - 1) F 1 rfl (kIx_pred hn1 hn8 (by decide)) dX4_pass_14 rfl ?_
  refine k_istore_n (n := 16) (lv' := [(3, .int ((exW fw fc hu n) (n - 1))), (0, .ref a), (1, .int il), (2, .int co)]) F dX4_pass_15 rfl (by decide) rfl rfl ?_
  refine k_iload_n (n := 17) F dX4_pass_16 rfl 0 rfl rfl ?_
  refine k_iload_n (n := 18) F dX4_pass_17 rfl 3 rfl rfl ?_
  refine k_isub (n := 19) F dX4_pass_18 rfl ?_
  refine k_istore (n := 21) (lv' := [(4, .int (((exW fw fc hu n) (n - 1)) - co)), (3, .int ((exW fw fc hu n) (n - 1))), (0, .ref a), (1, .int il), (2, .int co)]) F dX4_pass_19 (by decide) rfl rfl ?_
  refine k_iload (n := 23) F dX4_pass_21 0 rfl rfl ?_
  refine k_bipush (n := 25) (v := 80) F dX4_pass_23 rfl rfl ?_
  refine k_mmax (n := 28) F mw_451 mw_452 mw_13 mw_453 dX4_pass_25 (by decide) (Nat.le_of_ble_eq_true rfl) (by decide) (by decide) rfl ?_
  refine k_istore (n := 30) (lv' := [(5, .int (if ((exW fw fc hu n) (n - 1)) - co < 80 then 80 else ((exW fw fc hu n) (n - 1)) - co)), (4, .int (((exW fw fc hu n) (n - 1)) - co)), (3, .int ((exW fw fc hu n) (n - 1))), (0, .ref a), (1, .int il), (2, .int co)]) F dX4_pass_28 (by decide) rfl rfl ?_
  refine k_aload_n (n := 31) F dX4_pass_30 rfl 3 rfl rfl ?_
  refine k_dup (n := 32) F dX4_pass_31 rfl rfl ?_
  refine k_get (n := 35) (v := .long x0) F uX4 0 4 rfl rfl (by decide) mw_45 rfl dX4_pass_32 rfl ?_
  refine k_iload_n (n := 36) F dX4_pass_35 rfl 4 rfl rfl ?_
  refine k_i2l (n := 37) F dX4_pass_36 rfl ?_
  refine k_ladd (n := 38) F dX4_pass_37 rfl ?_
  refine k_put (n := 41) (ws' := [(a, .inr (4, [.ref wa, .ref ca, .int (nI n), .int hu, .long (x0 + il.toInt64), .long x1, .long x2, .long x3])), (wa, .inl (g.2 0, 8, .inl (exW fw fc hu n))), (ca, .inl (g.2 0, 8, .inl (exC fw fc hu n)))]) F uX4 tyX4_ok nmX4 0 4 rfl rfl (by decide) mw_45 rfl rfl rfl (Nat.le_of_ble_eq_true rfl) rfl dX4_pass_38 rfl ?_
  refine k_aload_n (n := 42) F dX4_pass_41 rfl 3 rfl rfl ?_
  refine k_dup (n := 43) F dX4_pass_42 rfl rfl ?_
  refine k_get (n := 46) (v := .long x1) F uX4 0 5 rfl rfl (by decide) mw_47 rfl dX4_pass_43 rfl ?_
  refine k_aload_n (n := 47) F dX4_pass_46 rfl 3 rfl rfl ?_
  refine k_get (n := 50) (v := .ref ca) F uX4 0 1 rfl rfl (by decide) mw_40 rfl dX4_pass_47 rfl ?_
  refine k_iconst (n := 51) (v := 0) F dX4_pass_50 rfl rfl ?_
  refine k_iald (n := 52) (N := 0) F 2 rfl (kIx_nI (j := 0) (by decide) (by decide)) dX4_pass_51 rfl ?_
  refine k_i2l (n := 53) F dX4_pass_52 rfl ?_
  refine k_ladd (n := 54) F dX4_pass_53 rfl ?_
  refine k_put (n := 57) (ws' := [(a, .inr (4, [.ref wa, .ref ca, .int (nI n), .int hu, .long (x0 + il.toInt64), .long (x1 + (((exC fw fc hu n) 0).toInt64)), .long x2, .long x3])), (wa, .inl (g.2 0, 8, .inl (exW fw fc hu n))), (ca, .inl (g.2 0, 8, .inl (exC fw fc hu n)))]) F uX4 tyX4_ok nmX4 0 5 rfl rfl (by decide) mw_47 rfl rfl rfl (Nat.le_of_ble_eq_true rfl) rfl dX4_pass_54 rfl ?_
  refine k_aload_n (n := 58) F dX4_pass_57 rfl 3 rfl rfl ?_
  refine k_dup (n := 59) F dX4_pass_58 rfl rfl ?_
  refine k_get (n := 62) (v := .long x2) F uX4 0 6 rfl rfl (by decide) mw_49 rfl dX4_pass_59 rfl ?_
  refine k_iload_n (n := 63) F dX4_pass_62 rfl 2 rfl rfl ?_
  refine k_iload (n := 65) F dX4_pass_63 0 rfl rfl ?_
  refine k_isub (n := 66) F dX4_pass_65 rfl ?_
  refine k_i2l (n := 67) F dX4_pass_66 rfl ?_
  refine k_ladd (n := 68) F dX4_pass_67 rfl ?_
  refine k_put (n := 71) (ws' := [(a, .inr (4, [.ref wa, .ref ca, .int (nI n), .int hu, .long (x0 + il.toInt64), .long (x1 + (((exC fw fc hu n) 0).toInt64)), .long (x2 + ((((exW fw fc hu n) (n - 1)) - (if ((exW fw fc hu n) (n - 1)) - co < 80 then 80 else ((exW fw fc hu n) (n - 1)) - co)).toInt64)), .long x3])), (wa, .inl (g.2 0, 8, .inl (exW fw fc hu n))), (ca, .inl (g.2 0, 8, .inl (exC fw fc hu n)))]) F uX4 tyX4_ok nmX4 0 6 rfl rfl (by decide) mw_49 rfl rfl rfl (Nat.le_of_ble_eq_true rfl) rfl dX4_pass_68 rfl ?_
  refine k_aload_n (n := 72) F dX4_pass_71 rfl 3 rfl rfl ?_
  refine k_dup (n := 73) F dX4_pass_72 rfl rfl ?_
  refine k_get (n := 76) (v := .long x3) F uX4 0 7 rfl rfl (by decide) mw_51 rfl dX4_pass_73 rfl ?_
  refine k_lconst (n := 77) (v := 1) F dX4_pass_76 rfl rfl ?_
  refine k_ladd (n := 78) F dX4_pass_77 rfl ?_
  refine k_put (n := 81) (ws' := [(a, .inr (4, [.ref wa, .ref ca, .int (nI n), .int hu, .long (x0 + il.toInt64), .long (x1 + (((exC fw fc hu n) 0).toInt64)), .long (x2 + ((((exW fw fc hu n) (n - 1)) - (if ((exW fw fc hu n) (n - 1)) - co < 80 then 80 else ((exW fw fc hu n) (n - 1)) - co)).toInt64)), .long (x3 + 1)])), (wa, .inl (g.2 0, 8, .inl (exW fw fc hu n))), (ca, .inl (g.2 0, 8, .inl (exC fw fc hu n)))]) F uX4 tyX4_ok nmX4 0 7 rfl rfl (by decide) mw_51 rfl rfl rfl (Nat.le_of_ble_eq_true rfl) rfl dX4_pass_78 rfl ?_
  refine k_aload_n (n := 82) F dX4_pass_81 rfl 3 rfl rfl ?_
  refine k_iload_n (n := 83) F dX4_pass_82 rfl 4 rfl rfl ?_
  refine k_iload (n := 85) F dX4_pass_83 0 rfl rfl ?_
  refine k_cv (n := 88) (ws' := [(a, .inr (4, [.ref wa, .ref ca, .int (nI n), .int hu, .long (x0 + il.toInt64), .long (x1 + (((exC fw fc hu n) 0).toInt64)), .long (x2 + ((((exW fw fc hu n) (n - 1)) - (if ((exW fw fc hu n) (n - 1)) - co < 80 then 80 else ((exW fw fc hu n) (n - 1)) - co)).toInt64)), .long (x3 + 1)])), (wa, .inl (g.2 0, 8, .inl (mvW (exW fw fc hu n) n il))), (ca, .inl (g.2 0, 8, .inl (mvC (exC fw fc hu n) n (if ((exW fw fc hu n) (n - 1)) - co < 80 then 80 else ((exW fw fc hu n) (n - 1)) - co))))]) F (k_rV (k := 2) (b := a) (As := [.int il, .int (if ((exW fw fc hu n) (n - 1)) - co < 80 then 80 else ((exW fw fc hu n) (n - 1)) - co)]) (rest := []) F (c_moveOn l g a wa ca (nI n) hu (x0 + il.toInt64) (x1 + (((exC fw fc hu n) 0).toInt64)) (x2 + ((((exW fw fc hu n) (n - 1)) - (if ((exW fw fc hu n) (n - 1)) - co < 80 then 80 else ((exW fw fc hu n) (n - 1)) - co)).toInt64)) (x3 + 1) (exW fw fc hu n) (exC fw fc hu n) n rfl hn1 hn8 il (if ((exW fw fc hu n) (n - 1)) - co < 80 then 80 else ((exW fw fc hu n) (n - 1)) - co)) [0, 1, 2] rfl rfl 0 rfl rfl mw_457 mw_454 mw_456 mw_s13 mw_2 (by decide) ⟨by decide, by decide⟩ rfl (Nat.le_of_ble_eq_true rfl) ⟨by decide, by decide⟩ dX4_pass_85) [0, 1, 2] [] [0, 1, 2] rfl rfl rfl (by decide) rfl rfl rfl ?_
  refine k_iload (n := 90) F dX4_pass_88 0 rfl rfl ?_
  refine k_iload (n := 92) F dX4_pass_90 1 rfl rfl ?_
  refine k_isub (n := 93) F dX4_pass_92 rfl ?_
  refine k_iconst (n := 94) (v := 5) F dX4_pass_93 rfl rfl ?_
  refine k_idiv (n := 95) F dX4_pass_94 (by decide) rfl ?_
  refine k_bipush (n := 97) (v := 20) F dX4_pass_95 rfl rfl ?_
  refine k_mmin (n := 100) F mw_461 mw_326 mw_13 mw_327 dX4_pass_97 (by decide) (Nat.le_of_ble_eq_true rfl) (by decide) (by decide) rfl ?_
  exact k_iret F (by first | rfl | (simp [psR, psG, psE, psL]; done) | (simp_all [psR, psG, psE, psL]; done)) (by first | rfl | (simp [psR, psG, psE, psL]; done) | (simp_all [psR, psG, psE, psL]; done)) dX4_pass_100
set_option maxRecDepth 100000 in
set_option maxHeartbeats 4000000 in
theorem c_rebuild (l : Launch) (g : kG) (a wa ca : Nat) (ln hu : Int32) (x0 x1 x2 x3 : Int64) (fw fc : Nat → Int32) (nn pp : Int32) : kM l yX4_rebuild cX4_rebuild 3 none (rmK 1 0 0 23) g [.ref a, .int nn, .int pp] [(a, .inr (4, [.ref wa, .ref ca, .int ln, .int hu, .long x0, .long x1, .long x2, .long x3])), (wa, .inl (g.2 0, 8, .inl fw)), (ca, .inl (g.2 0, 8, .inl fc))] (kDv g [(a, .inr (4, [.ref wa, .ref ca, .int nn, .int pp, .long 0, .long 0, .long 0, .long 0])), (wa, .inl (g.2 0, 8, .inl (kfill 300 fw 8))), (ca, .inl (g.2 0, 8, .inl (kfill 300 fc 8)))]) := by
  refine k_enter (by decide) (Nat.le_of_ble_eq_true rfl) ?_
  intro p e s m args below meth c A F
  refine k_aload_n (n := 1) F dX4_rebuild_0 rfl 0 rfl rfl ?_
  refine k_iload_n (n := 2) F dX4_rebuild_1 rfl 1 rfl rfl ?_
  refine k_put (n := 5) (ws' := [(a, .inr (4, [.ref wa, .ref ca, .int nn, .int hu, .long x0, .long x1, .long x2, .long x3])), (wa, .inl (g.2 0, 8, .inl fw)), (ca, .inl (g.2 0, 8, .inl fc))]) F uX4 tyX4_ok nmX4 0 2 rfl rfl (by decide) mw_42 rfl rfl rfl (Nat.le_of_ble_eq_true rfl) rfl dX4_rebuild_2 rfl ?_
  refine k_aload_n (n := 6) F dX4_rebuild_5 rfl 0 rfl rfl ?_
  refine k_iload_n (n := 7) F dX4_rebuild_6 rfl 2 rfl rfl ?_
  refine k_put (n := 10) (ws' := [(a, .inr (4, [.ref wa, .ref ca, .int nn, .int pp, .long x0, .long x1, .long x2, .long x3])), (wa, .inl (g.2 0, 8, .inl fw)), (ca, .inl (g.2 0, 8, .inl fc))]) F uX4 tyX4_ok nmX4 0 3 rfl rfl (by decide) mw_44 rfl rfl rfl (Nat.le_of_ble_eq_true rfl) rfl dX4_rebuild_7 rfl ?_
  refine k_aload_n (n := 11) F dX4_rebuild_10 rfl 0 rfl rfl ?_
  refine k_get (n := 14) (v := .ref wa) F uX4 0 0 rfl rfl (by decide) mw_38 rfl dX4_rebuild_11 rfl ?_
  refine k_sipush (n := 17) (v := 300) F dX4_rebuild_14 rfl rfl ?_
  refine k_cv (n := 20) (ws' := [(a, .inr (4, [.ref wa, .ref ca, .int nn, .int pp, .long x0, .long x1, .long x2, .long x3])), (wa, .inl (g.2 0, 8, .inl (kfill 300 fw 8))), (ca, .inl (g.2 0, 8, .inl fc))]) F (k_rS (k := 2) (As := [.ref wa, .int 300]) (rest := []) F (c_fill l g wa 8 fw 300 (by decide)) [1] rfl rfl mw_37 mw_35 mw_36 mw_3 (by decide) ⟨by decide, by decide⟩ rfl (Nat.le_of_ble_eq_true rfl) ⟨by decide, by decide⟩ dX4_rebuild_17) [1] [0, 2] [0, 2, 1] rfl rfl rfl (by decide) rfl rfl rfl ?_
  refine k_aload_n (n := 21) F dX4_rebuild_20 rfl 0 rfl rfl ?_
  refine k_get (n := 24) (v := .ref ca) F uX4 0 1 rfl rfl (by decide) mw_40 rfl dX4_rebuild_21 rfl ?_
  refine k_sipush (n := 27) (v := 300) F dX4_rebuild_24 rfl rfl ?_
  refine k_cv (n := 30) (ws' := [(a, .inr (4, [.ref wa, .ref ca, .int nn, .int pp, .long x0, .long x1, .long x2, .long x3])), (wa, .inl (g.2 0, 8, .inl (kfill 300 fw 8))), (ca, .inl (g.2 0, 8, .inl (kfill 300 fc 8)))]) F (k_rS (k := 2) (As := [.ref ca, .int 300]) (rest := []) F (c_fill l g ca 8 fc 300 (by decide)) [2] rfl rfl mw_37 mw_35 mw_36 mw_3 (by decide) ⟨by decide, by decide⟩ rfl (Nat.le_of_ble_eq_true rfl) ⟨by decide, by decide⟩ dX4_rebuild_27) [2] [0, 1] [0, 1, 2] rfl rfl rfl (by decide) rfl rfl rfl ?_
  refine k_aload_n (n := 31) F dX4_rebuild_30 rfl 0 rfl rfl ?_
  refine k_lconst (n := 32) (v := 0) F dX4_rebuild_31 rfl rfl ?_
  refine k_put (n := 35) (ws' := [(a, .inr (4, [.ref wa, .ref ca, .int nn, .int pp, .long 0, .long x1, .long x2, .long x3])), (wa, .inl (g.2 0, 8, .inl (kfill 300 fw 8))), (ca, .inl (g.2 0, 8, .inl (kfill 300 fc 8)))]) F uX4 tyX4_ok nmX4 0 4 rfl rfl (by decide) mw_45 rfl rfl rfl (Nat.le_of_ble_eq_true rfl) rfl dX4_rebuild_32 rfl ?_
  refine k_aload_n (n := 36) F dX4_rebuild_35 rfl 0 rfl rfl ?_
  refine k_lconst (n := 37) (v := 0) F dX4_rebuild_36 rfl rfl ?_
  refine k_put (n := 40) (ws' := [(a, .inr (4, [.ref wa, .ref ca, .int nn, .int pp, .long 0, .long 0, .long x2, .long x3])), (wa, .inl (g.2 0, 8, .inl (kfill 300 fw 8))), (ca, .inl (g.2 0, 8, .inl (kfill 300 fc 8)))]) F uX4 tyX4_ok nmX4 0 5 rfl rfl (by decide) mw_47 rfl rfl rfl (Nat.le_of_ble_eq_true rfl) rfl dX4_rebuild_37 rfl ?_
  refine k_aload_n (n := 41) F dX4_rebuild_40 rfl 0 rfl rfl ?_
  refine k_lconst (n := 42) (v := 0) F dX4_rebuild_41 rfl rfl ?_
  refine k_put (n := 45) (ws' := [(a, .inr (4, [.ref wa, .ref ca, .int nn, .int pp, .long 0, .long 0, .long 0, .long x3])), (wa, .inl (g.2 0, 8, .inl (kfill 300 fw 8))), (ca, .inl (g.2 0, 8, .inl (kfill 300 fc 8)))]) F uX4 tyX4_ok nmX4 0 6 rfl rfl (by decide) mw_49 rfl rfl rfl (Nat.le_of_ble_eq_true rfl) rfl dX4_rebuild_42 rfl ?_
  refine k_aload_n (n := 46) F dX4_rebuild_45 rfl 0 rfl rfl ?_
  refine k_lconst (n := 47) (v := 0) F dX4_rebuild_46 rfl rfl ?_
  refine k_put (n := 50) (ws' := [(a, .inr (4, [.ref wa, .ref ca, .int nn, .int pp, .long 0, .long 0, .long 0, .long 0])), (wa, .inl (g.2 0, 8, .inl (kfill 300 fw 8))), (ca, .inl (g.2 0, 8, .inl (kfill 300 fc 8)))]) F uX4 tyX4_ok nmX4 0 7 rfl rfl (by decide) mw_51 rfl rfl rfl (Nat.le_of_ble_eq_true rfl) rfl dX4_rebuild_47 rfl ?_
  exact k_vret F rfl dX4_rebuild_50
set_option maxRecDepth 100000 in
set_option maxHeartbeats 4000000 in
theorem c_accept (l : Launch) (g : kG) (a wa da ha : Nat) (tk nd mi : Int32) (fw fd fh : Nat → Int32) (x y : Int32) (htk : 0 ≤ tk) : kM l yX5_accept cX5_accept 3 (some .int) (rmK 0 0 0 0) g [.ref a, .int x, .int y] [(a, .inr (5, [.ref wa, .ref da, .ref ha, .int tk, .int nd, .int mi])), (wa, .inl (g.2 0, 8, .inl fw)), (da, .inl (g.2 0, 8, .inl fd)), (ha, .inl (g.2 0, 8, .inl fh))] (kDi g (if tk < 8 then tk + 1 - 1 else -3) [(a, .inr (5, [.ref wa, .ref da, .ref ha, .int (if tk < 8 then tk + 1 else tk), .int nd, .int mi])), (wa, .inl (g.2 0, 8, .inl (if tk < 8 then upd fw tk.toNatClampNeg x else fw))), (da, .inl (g.2 0, 8, .inl (if tk < 8 then upd fd tk.toNatClampNeg y else fd))), (ha, .inl (g.2 0, 8, .inl (if tk < 8 then upd fh tk.toNatClampNeg 0 else fh)))]) := by
  refine k_enter (by decide) (Nat.le_of_ble_eq_true rfl) ?_
  intro p e s m args below meth c A F
  refine k_aload_n (n := 1) F dX5_accept_0 rfl 0 rfl rfl ?_
  refine k_get (n := 4) (v := .int tk) F uX5 0 3 rfl rfl (by decide) mw_177 rfl dX5_accept_1 rfl ?_
  refine k_bipush (n := 6) (v := 8) F dX5_accept_4 rfl rfl ?_
  refine k_icmp_lt (n := 9) (tgt := 12) F dX5_accept_6 (by decide) rfl (fun hc1 => ?_) (fun hc1 => ?_)
  · refine k_aload_n (n := 13) F dX5_accept_12 rfl 0 rfl rfl ?_
    refine k_get (n := 16) (v := .ref wa) F uX5 0 0 rfl rfl (by decide) mw_174 rfl dX5_accept_13 rfl ?_
    refine k_aload_n (n := 17) F dX5_accept_16 rfl 0 rfl rfl ?_
    refine k_get (n := 20) (v := .int tk) F uX5 0 3 rfl rfl (by decide) mw_177 rfl dX5_accept_17 rfl ?_
    refine k_iload_n (n := 21) F dX5_accept_20 rfl 1 rfl rfl ?_
    refine k_iast (n := 22) (N := tk.toNatClampNeg) (ws' := [(a, .inr (5, [.ref wa, .ref da, .ref ha, .int tk, .int nd, .int mi])), (wa, .inl (g.2 0, 8, .inl (upd fw tk.toNatClampNeg x))), (da, .inl (g.2 0, 8, .inl fd)), (ha, .inl (g.2 0, 8, .inl fh))]) F 1 rfl (kIx_le htk (hc1) (by decide)) rfl dX5_accept_21 rfl ?_
    refine k_aload_n (n := 23) F dX5_accept_22 rfl 0 rfl rfl ?_
    refine k_get (n := 26) (v := .ref da) F uX5 0 1 rfl rfl (by decide) mw_175 rfl dX5_accept_23 rfl ?_
    refine k_aload_n (n := 27) F dX5_accept_26 rfl 0 rfl rfl ?_
    refine k_get (n := 30) (v := .int tk) F uX5 0 3 rfl rfl (by decide) mw_177 rfl dX5_accept_27 rfl ?_
    refine k_iload_n (n := 31) F dX5_accept_30 rfl 2 rfl rfl ?_
    refine k_iast (n := 32) (N := tk.toNatClampNeg) (ws' := [(a, .inr (5, [.ref wa, .ref da, .ref ha, .int tk, .int nd, .int mi])), (wa, .inl (g.2 0, 8, .inl (upd fw tk.toNatClampNeg x))), (da, .inl (g.2 0, 8, .inl (upd fd tk.toNatClampNeg y))), (ha, .inl (g.2 0, 8, .inl fh))]) F 2 rfl (kIx_le htk (hc1) (by decide)) rfl dX5_accept_31 rfl ?_
    refine k_aload_n (n := 33) F dX5_accept_32 rfl 0 rfl rfl ?_
    refine k_get (n := 36) (v := .ref ha) F uX5 0 2 rfl rfl (by decide) mw_176 rfl dX5_accept_33 rfl ?_
    refine k_aload_n (n := 37) F dX5_accept_36 rfl 0 rfl rfl ?_
    refine k_get (n := 40) (v := .int tk) F uX5 0 3 rfl rfl (by decide) mw_177 rfl dX5_accept_37 rfl ?_
    refine k_iconst (n := 41) (v := 0) F dX5_accept_40 rfl rfl ?_
    refine k_iast (n := 42) (N := tk.toNatClampNeg) (ws' := [(a, .inr (5, [.ref wa, .ref da, .ref ha, .int tk, .int nd, .int mi])), (wa, .inl (g.2 0, 8, .inl (upd fw tk.toNatClampNeg x))), (da, .inl (g.2 0, 8, .inl (upd fd tk.toNatClampNeg y))), (ha, .inl (g.2 0, 8, .inl (upd fh tk.toNatClampNeg 0)))]) F 3 rfl (kIx_le htk (hc1) (by decide)) rfl dX5_accept_41 rfl ?_
    refine k_aload_n (n := 43) F dX5_accept_42 rfl 0 rfl rfl ?_
    refine k_dup (n := 44) F dX5_accept_43 rfl rfl ?_
    refine k_get (n := 47) (v := .int tk) F uX5 0 3 rfl rfl (by decide) mw_177 rfl dX5_accept_44 rfl ?_
    refine k_iconst (n := 48) (v := 1) F dX5_accept_47 rfl rfl ?_
    refine k_iadd (n := 49) F dX5_accept_48 rfl ?_
    refine k_put (n := 52) (ws' := [(a, .inr (5, [.ref wa, .ref da, .ref ha, .int (tk + 1), .int nd, .int mi])), (wa, .inl (g.2 0, 8, .inl (upd fw tk.toNatClampNeg x))), (da, .inl (g.2 0, 8, .inl (upd fd tk.toNatClampNeg y))), (ha, .inl (g.2 0, 8, .inl (upd fh tk.toNatClampNeg 0)))]) F uX5 tyX5_ok nmX5 0 3 rfl rfl (by decide) mw_177 rfl rfl rfl (Nat.le_of_ble_eq_true rfl) rfl dX5_accept_49 rfl ?_
    refine k_aload_n (n := 53) F dX5_accept_52 rfl 0 rfl rfl ?_
    refine k_get (n := 56) (v := .int (tk + 1)) F uX5 0 3 rfl rfl (by decide) mw_177 rfl dX5_accept_53 rfl ?_
    refine k_iconst (n := 57) (v := 1) F dX5_accept_56 rfl rfl ?_
    refine k_isub (n := 58) F dX5_accept_57 rfl ?_
    exact k_iret F (by first | rfl | (simp [hc1, Int32.not_le.mpr hc1]; done) | (simp_all [hc1, Int32.not_le.mpr hc1]; done)) (by first | rfl | (simp [hc1, Int32.not_le.mpr hc1]; done) | (simp_all [hc1, Int32.not_le.mpr hc1]; done)) dX5_accept_58
  · refine k_bipush (n := 11) (v := -3) F dX5_accept_9 rfl rfl ?_
    exact k_iret F (by first | rfl | (simp [hc1, Int32.not_lt.mp hc1]; done) | (simp_all [hc1, Int32.not_lt.mp hc1]; done)) (by first | rfl | (simp [hc1, Int32.not_lt.mp hc1]; done) | (simp_all [hc1, Int32.not_lt.mp hc1]; done)) dX5_accept_11
set_option maxRecDepth 100000 in
set_option maxHeartbeats 4000000 in
theorem c_settleO (l : Launch) (g : kG) (a wa da ha sa : Nat) (tk nd mi : Int32) (fw fd fh : Nat → Int32) (ro ta ba : Int32) (ma de bl : Int64) (x : Int32) (j : Nat) (hx : x = nI j) (hj : j < 8) : kM l yX5_settle cX5_settle 3 (some .int) (rmK 1 0 0 21) g [.ref a, .int x, .ref sa] [(a, .inr (5, [.ref wa, .ref da, .ref ha, .int tk, .int nd, .int mi])), (wa, .inl (g.2 0, 8, .inl fw)), (da, .inl (g.2 0, 8, .inl fd)), (ha, .inl (g.2 0, 8, .inl fh)), (sa, .inr (6, [.int ro, .int ta, .int ba, .long ma, .long de, .long bl]))] (kDi g (if ta < fw j then 0 else 1) [(a, .inr (5, [.ref wa, .ref da, .ref ha, .int tk, .int nd, .int (if ta < fw j then mi + 1 else mi)])), (wa, .inl (g.2 0, 8, .inl fw)), (da, .inl (g.2 0, 8, .inl fd)), (ha, .inl (g.2 0, 8, .inl (upd fh j (if ta < fw j then 2 else 1)))), (sa, .inr (6, [.int ro, .int (if ta < fw j then ta else ta - fw j), .int ba, .long ma, .long (if ta < fw j then de else de + (fw j).toInt64), .long bl]))]) := by
  subst hx
  refine k_enter (by decide) (Nat.le_of_ble_eq_true rfl) ?_
  intro p e s m args below meth c A F
  refine k_aload_n (n := 1) F dX5_settle_0 rfl 2 rfl rfl ?_
  refine k_aload_n (n := 2) F dX5_settle_1 rfl 0 rfl rfl ?_
  refine k_get (n := 5) (v := .ref wa) F uX5 0 0 rfl rfl (by decide) mw_174 rfl dX5_settle_2 rfl ?_
  refine k_iload_n (n := 6) F dX5_settle_5 rfl 1 rfl rfl ?_
  refine k_iald (n := 7) (N := j) F 1 rfl (kIx_nI hj (by decide)) dX5_settle_6 rfl ?_
  refine k_ci (n := 10) (ws' := [(a, .inr (5, [.ref wa, .ref da, .ref ha, .int tk, .int nd, .int mi])), (wa, .inl (g.2 0, 8, .inl fw)), (da, .inl (g.2 0, 8, .inl fd)), (ha, .inl (g.2 0, 8, .inl fh)), (sa, .inr (6, [.int ro, .int (if ta < (fw j) then ta else ta - (fw j)), .int ba, .long ma, .long (if ta < (fw j) then de else de + (fw j).toInt64), .long bl]))]) F (k_rV (k := 1) (b := sa) (As := [.int (fw j)]) (rest := []) F (c_handOver l g sa ro ta ba (fw j) ma de bl) [4] rfl rfl 0 rfl rfl mw_517 mw_514 mw_515 mw_516 mw_7 (by decide) ⟨by decide, by decide⟩ rfl (Nat.le_of_ble_eq_true rfl) ⟨by decide, by decide⟩ dX5_settle_7) [4] [0, 1, 2, 3] [0, 1, 2, 3, 4] rfl rfl rfl (by decide) rfl rfl rfl ?_
  refine k_if_eq (n := 13) (tgt := 22) F dX5_settle_10 (by decide) rfl (fun hc1 => ?_) (fun hc1 => ?_)
  · replace hc1 := kiteAt hc1
    refine k_aload_n (n := 23) F dX5_settle_22 rfl 0 rfl rfl ?_
    refine k_get (n := 26) (v := .ref ha) F uX5 0 2 rfl rfl (by decide) mw_176 rfl dX5_settle_23 rfl ?_
    refine k_iload_n (n := 27) F dX5_settle_26 rfl 1 rfl rfl ?_
    refine k_iconst (n := 28) (v := 2) F dX5_settle_27 rfl rfl ?_
    refine k_iast (n := 29) (N := j) (ws' := [(a, .inr (5, [.ref wa, .ref da, .ref ha, .int tk, .int nd, .int mi])), (wa, .inl (g.2 0, 8, .inl fw)), (da, .inl (g.2 0, 8, .inl fd)), (ha, .inl (g.2 0, 8, .inl (upd fh j 2))), (sa, .inr (6, [.int ro, .int (if ta < (fw j) then ta else ta - (fw j)), .int ba, .long ma, .long (if ta < (fw j) then de else de + (fw j).toInt64), .long bl]))]) F 3 rfl (kIx_nI hj (by decide)) rfl dX5_settle_28 rfl ?_
    refine k_aload_n (n := 30) F dX5_settle_29 rfl 0 rfl rfl ?_
    refine k_dup (n := 31) F dX5_settle_30 rfl rfl ?_
    refine k_get (n := 34) (v := .int mi) F uX5 0 5 rfl rfl (by decide) mw_181 rfl dX5_settle_31 rfl ?_
    refine k_iconst (n := 35) (v := 1) F dX5_settle_34 rfl rfl ?_
    refine k_iadd (n := 36) F dX5_settle_35 rfl ?_
    refine k_put (n := 39) (ws' := [(a, .inr (5, [.ref wa, .ref da, .ref ha, .int tk, .int nd, .int (mi + 1)])), (wa, .inl (g.2 0, 8, .inl fw)), (da, .inl (g.2 0, 8, .inl fd)), (ha, .inl (g.2 0, 8, .inl (upd fh j 2))), (sa, .inr (6, [.int ro, .int (if ta < (fw j) then ta else ta - (fw j)), .int ba, .long ma, .long (if ta < (fw j) then de else de + (fw j).toInt64), .long bl]))]) F uX5 tyX5_ok nmX5 0 5 rfl rfl (by decide) mw_181 rfl rfl rfl (Nat.le_of_ble_eq_true rfl) rfl dX5_settle_36 rfl ?_
    refine k_iconst (n := 40) (v := 0) F dX5_settle_39 rfl rfl ?_
    exact k_iret F (by first | rfl | (simp [hc1, Int32.not_le.mpr hc1]; done) | (simp_all [hc1, Int32.not_le.mpr hc1]; done)) (by first | rfl | (simp [hc1, Int32.not_le.mpr hc1]; done) | (simp_all [hc1, Int32.not_le.mpr hc1]; done)) dX5_settle_40
  · replace hc1 := kiteAf hc1
    refine k_aload_n (n := 14) F dX5_settle_13 rfl 0 rfl rfl ?_
    refine k_get (n := 17) (v := .ref ha) F uX5 0 2 rfl rfl (by decide) mw_176 rfl dX5_settle_14 rfl ?_
    refine k_iload_n (n := 18) F dX5_settle_17 rfl 1 rfl rfl ?_
    refine k_iconst (n := 19) (v := 1) F dX5_settle_18 rfl rfl ?_
    refine k_iast (n := 20) (N := j) (ws' := [(a, .inr (5, [.ref wa, .ref da, .ref ha, .int tk, .int nd, .int mi])), (wa, .inl (g.2 0, 8, .inl fw)), (da, .inl (g.2 0, 8, .inl fd)), (ha, .inl (g.2 0, 8, .inl (upd fh j 1))), (sa, .inr (6, [.int ro, .int (if ta < (fw j) then ta else ta - (fw j)), .int ba, .long ma, .long (if ta < (fw j) then de else de + (fw j).toInt64), .long bl]))]) F 3 rfl (kIx_nI hj (by decide)) rfl dX5_settle_19 rfl ?_
    refine k_iconst (n := 21) (v := 1) F dX5_settle_20 rfl rfl ?_
    exact k_iret F (by first | rfl | (simp [hc1, Int32.not_lt.mp hc1]; done) | (simp_all [hc1, Int32.not_lt.mp hc1]; done)) (by first | rfl | (simp [hc1, Int32.not_lt.mp hc1]; done) | (simp_all [hc1, Int32.not_lt.mp hc1]; done)) dX5_settle_21
set_option maxRecDepth 100000 in
set_option maxHeartbeats 4000000 in
theorem c_endDay (l : Launch) (g : kG) (a wa da ha sa : Nat) (tk nd mi : Int32) (fw fd fh : Nat → Int32) (ro ta ba : Int32) (ma de bl : Int64) (tn : Nat) (htk : tk = nI tn) (htn : tn ≤ 8) : kM l yX5_endDay cX5_endDay 4 (some .int) (rmK 2 0 0 43) g [.ref a, .ref sa] [(a, .inr (5, [.ref wa, .ref da, .ref ha, .int tk, .int nd, .int mi])), (wa, .inl (g.2 0, 8, .inl fw)), (da, .inl (g.2 0, 8, .inl fd)), (ha, .inl (g.2 0, 8, .inl fh)), (sa, .inr (6, [.int ro, .int ta, .int ba, .long ma, .long de, .long bl]))] (kDi g (edL fw fd nd (0, fh, mi, ta, de) tn).1 [(a, .inr (5, [.ref wa, .ref da, .ref ha, .int tk, .int (nd + 1), .int ((edL fw fd nd (0, fh, mi, ta, de) tn).2.2.1)])), (wa, .inl (g.2 0, 8, .inl fw)), (da, .inl (g.2 0, 8, .inl fd)), (ha, .inl (g.2 0, 8, .inl ((edL fw fd nd (0, fh, mi, ta, de) tn).2.1))), (sa, .inr (6, [.int ro, .int ((edL fw fd nd (0, fh, mi, ta, de) tn).2.2.2.1), .int ba, .long ma, .long ((edL fw fd nd (0, fh, mi, ta, de) tn).2.2.2.2), .long bl]))]) := by
  subst htk
  refine k_enter (by decide) (Nat.le_of_ble_eq_true rfl) ?_
  intro p e s m args below meth c A F
  have loop : ∀ (k j : Nat), j ≤ tn → tn + 1 ≤ j + k → KW p l e ((rmK 2 0 0 43)) s m args below meth c (MQ below ((kDi g (edL fw fd nd (0, fh, mi, ta, de) tn).1 [(a, .inr (5, [.ref wa, .ref da, .ref ha, .int (nI tn), .int (nd + 1), .int ((edL fw fd nd (0, fh, mi, ta, de) tn).2.2.1)])), (wa, .inl (g.2 0, 8, .inl fw)), (da, .inl (g.2 0, 8, .inl fd)), (ha, .inl (g.2 0, 8, .inl ((edL fw fd nd (0, fh, mi, ta, de) tn).2.1))), (sa, .inr (6, [.int ro, .int ((edL fw fd nd (0, fh, mi, ta, de) tn).2.2.2.1), .int ba, .long ma, .long ((edL fw fd nd (0, fh, mi, ta, de) tn).2.2.2.2), .long bl]))]) A) args s ((rmK 2 0 0 43)).cells ((rmK 2 0 0 43)).slots A) g A 4 ([(a, .inr (5, [.ref wa, .ref da, .ref ha, .int (nI tn), .int nd, .int ((edL fw fd nd (0, fh, mi, ta, de) j).2.2.1)])), (wa, .inl (g.2 0, 8, .inl fw)), (da, .inl (g.2 0, 8, .inl fd)), (ha, .inl (g.2 0, 8, .inl ((edL fw fd nd (0, fh, mi, ta, de) j).2.1))), (sa, .inr (6, [.int ro, .int ((edL fw fd nd (0, fh, mi, ta, de) j).2.2.2.1), .int ba, .long ma, .long ((edL fw fd nd (0, fh, mi, ta, de) j).2.2.2.2), .long bl]))]) 0 0 4 [(3, .int (nI j)), (2, .int ((edL fw fd nd (0, fh, mi, ta, de) j).1)), (0, .ref a), (1, .ref sa)] [] := by
    intro k
    induction k with
    | zero =>
      intro j h1 h2
      exact absurd h2 (by omega)
    | succ k ih =>
      intro j h1 h2
      refine k_iload_n (n := 5) F dX5_endDay_4 rfl 0 rfl rfl ?_
      refine k_aload_n (n := 6) F dX5_endDay_5 rfl 2 rfl rfl ?_
      refine k_get (n := 9) (v := .int (nI tn)) F uX5 0 3 rfl rfl (by decide) mw_177 rfl dX5_endDay_6 rfl ?_
      refine k_icmp_ge (n := 12) (tgt := 40) F dX5_endDay_9 (by decide) rfl (fun hc101 => ?_) (fun hc101 => ?_)
      · refine k_aload_n (n := 41) F dX5_endDay_40 rfl 2 rfl rfl ?_
        refine k_dup (n := 42) F dX5_endDay_41 rfl rfl ?_
        refine k_get (n := 45) (v := .int nd) F uX5 0 4 rfl rfl (by decide) mw_179 rfl dX5_endDay_42 rfl ?_
        refine k_iconst (n := 46) (v := 1) F dX5_endDay_45 rfl rfl ?_
        refine k_iadd (n := 47) F dX5_endDay_46 rfl ?_
        refine k_put (n := 50) (ws' := [(a, .inr (5, [.ref wa, .ref da, .ref ha, .int (nI tn), .int (nd + 1), .int ((edL fw fd nd (0, fh, mi, ta, de) j).2.2.1)])), (wa, .inl (g.2 0, 8, .inl fw)), (da, .inl (g.2 0, 8, .inl fd)), (ha, .inl (g.2 0, 8, .inl ((edL fw fd nd (0, fh, mi, ta, de) j).2.1))), (sa, .inr (6, [.int ro, .int ((edL fw fd nd (0, fh, mi, ta, de) j).2.2.2.1), .int ba, .long ma, .long ((edL fw fd nd (0, fh, mi, ta, de) j).2.2.2.2), .long bl]))]) F uX5 tyX5_ok nmX5 0 4 rfl rfl (by decide) mw_179 rfl rfl rfl (Nat.le_of_ble_eq_true rfl) rfl dX5_endDay_47 rfl ?_
        refine k_iload_n (n := 51) F dX5_endDay_50 rfl 1 rfl rfl ?_
        have hj9 : j = tn := by have h9 := hc101; rw [nI_leI (by omega) (by omega)] at h9; omega
        subst hj9
        exact k_iret F rfl rfl dX5_endDay_51
      · have hj9 : j < tn := by have h9 := hc101; rw [nI_leI (by omega) (by omega)] at h9; omega
        have hj8 : j < 8 := by omega
        refine k_aload_n (n := 13) F dX5_endDay_12 rfl 2 rfl rfl ?_
        refine k_get (n := 16) (v := .ref da) F uX5 0 1 rfl rfl (by decide) mw_175 rfl dX5_endDay_13 rfl ?_
        refine k_iload_n (n := 17) F dX5_endDay_16 rfl 0 rfl rfl ?_
        refine k_iald (n := 18) (N := j) F 2 rfl (kIx_nI (by have h9 := hc101; rw [nI_leI (by omega) (by omega)] at h9; omega) (by decide)) dX5_endDay_17 rfl ?_
        refine k_aload_n (n := 19) F dX5_endDay_18 rfl 2 rfl rfl ?_
        refine k_get (n := 22) (v := .int nd) F uX5 0 4 rfl rfl (by decide) mw_179 rfl dX5_endDay_19 rfl ?_
        refine k_icmp_ne (n := 25) (tgt := 34) F dX5_endDay_22 (by decide) rfl (fun hc102 => ?_) (fun hc102 => ?_)
        · refine k_iinc (n := 37) (j := 0) (v := nI (j + 1)) (lv' := [(3, .int (nI (j + 1))), (2, .int ((edL fw fd nd (0, fh, mi, ta, de) j).1)), (0, .ref a), (1, .ref sa)]) F dX5_endDay_34 rfl (nI_1 j) (by decide) rfl rfl ?_
          refine k_goto (tgt := 4) F dX5_endDay_37 (by decide) ?_
          refine k_lv (lv' := [(3, .int (nI (j + 1))), (2, .int ((edL fw fd nd (0, fh, mi, ta, de) j).1)), (0, .ref a), (1, .ref sa)]) [0, 1, 2, 3] rfl ?_
          refine k_lvv (lv' := [(3, .int (nI (j + 1))), (2, .int ((edL fw fd nd (0, fh, mi, ta, de) (j + 1)).1)), (0, .ref a), (1, .ref sa)]) (by simp [edL, edS, hc102]) ?_
          refine k_world (ws' := [(a, .inr (5, [.ref wa, .ref da, .ref ha, .int (nI tn), .int nd, .int ((edL fw fd nd (0, fh, mi, ta, de) (j + 1)).2.2.1)])), (wa, .inl (g.2 0, 8, .inl fw)), (da, .inl (g.2 0, 8, .inl fd)), (ha, .inl (g.2 0, 8, .inl ((edL fw fd nd (0, fh, mi, ta, de) (j + 1)).2.1))), (sa, .inr (6, [.int ro, .int ((edL fw fd nd (0, fh, mi, ta, de) (j + 1)).2.2.2.1), .int ba, .long ma, .long ((edL fw fd nd (0, fh, mi, ta, de) (j + 1)).2.2.2.2), .long bl]))]) (by simp [edL, edS, hc102]) ?_
          exact ih (j + 1) (by omega) (by omega)
        · refine k_iload_n (n := 26) F dX5_endDay_25 rfl 1 rfl rfl ?_
          refine k_aload_n (n := 27) F dX5_endDay_26 rfl 2 rfl rfl ?_
          refine k_iload_n (n := 28) F dX5_endDay_27 rfl 0 rfl rfl ?_
          refine k_aload_n (n := 29) F dX5_endDay_28 rfl 3 rfl rfl ?_
          refine k_ci (n := 32) (ws' := [(a, .inr (5, [.ref wa, .ref da, .ref ha, .int (nI tn), .int nd, .int (if ((edL fw fd nd (0, fh, mi, ta, de) j).2.2.2.1) < fw j then ((edL fw fd nd (0, fh, mi, ta, de) j).2.2.1) + 1 else ((edL fw fd nd (0, fh, mi, ta, de) j).2.2.1))])), (wa, .inl (g.2 0, 8, .inl fw)), (da, .inl (g.2 0, 8, .inl fd)), (ha, .inl (g.2 0, 8, .inl (upd ((edL fw fd nd (0, fh, mi, ta, de) j).2.1) j (if ((edL fw fd nd (0, fh, mi, ta, de) j).2.2.2.1) < fw j then 2 else 1)))), (sa, .inr (6, [.int ro, .int (if ((edL fw fd nd (0, fh, mi, ta, de) j).2.2.2.1) < fw j then ((edL fw fd nd (0, fh, mi, ta, de) j).2.2.2.1) else ((edL fw fd nd (0, fh, mi, ta, de) j).2.2.2.1) - fw j), .int ba, .long ma, .long (if ((edL fw fd nd (0, fh, mi, ta, de) j).2.2.2.1) < fw j then ((edL fw fd nd (0, fh, mi, ta, de) j).2.2.2.2) else ((edL fw fd nd (0, fh, mi, ta, de) j).2.2.2.2) + (fw j).toInt64), .long bl]))]) F (k_rV (k := 2) (b := a) (As := [.int (nI j), .ref sa]) (rest := [.int ((edL fw fd nd (0, fh, mi, ta, de) j).1)]) F (c_settleO l g a wa da ha sa (nI tn) nd ((edL fw fd nd (0, fh, mi, ta, de) j).2.2.1) fw fd ((edL fw fd nd (0, fh, mi, ta, de) j).2.1) ro ((edL fw fd nd (0, fh, mi, ta, de) j).2.2.2.1) ba ma ((edL fw fd nd (0, fh, mi, ta, de) j).2.2.2.2) bl (nI j) j rfl hj8) [0, 1, 2, 3, 4] rfl rfl 0 rfl rfl mw_513 mw_510 mw_512 mw_s15 mw_8 (by decide) ⟨by decide, by decide⟩ rfl (Nat.le_of_ble_eq_true rfl) ⟨by decide, by decide⟩ dX5_endDay_29) [0, 1, 2, 3, 4] [] [0, 1, 2, 3, 4] rfl rfl rfl (by decide) rfl rfl rfl ?_
          refine k_iadd (n := 33) F dX5_endDay_32 rfl ?_
          refine k_istore_n (n := 34) (lv' := [(2, .int (((edL fw fd nd (0, fh, mi, ta, de) j).1) + (if ((edL fw fd nd (0, fh, mi, ta, de) j).2.2.2.1) < fw j then 0 else 1))), (3, .int (nI j)), (0, .ref a), (1, .ref sa)]) F dX5_endDay_33 rfl (by decide) rfl rfl ?_
          refine k_iinc (n := 37) (j := 1) (v := nI (j + 1)) (lv' := [(3, .int (nI (j + 1))), (2, .int (((edL fw fd nd (0, fh, mi, ta, de) j).1) + (if ((edL fw fd nd (0, fh, mi, ta, de) j).2.2.2.1) < fw j then 0 else 1))), (0, .ref a), (1, .ref sa)]) F dX5_endDay_34 rfl (nI_1 j) (by decide) rfl rfl ?_
          refine k_goto (tgt := 4) F dX5_endDay_37 (by decide) ?_
          refine k_lv (lv' := [(3, .int (nI (j + 1))), (2, .int (((edL fw fd nd (0, fh, mi, ta, de) j).1) + (if ((edL fw fd nd (0, fh, mi, ta, de) j).2.2.2.1) < fw j then 0 else 1))), (0, .ref a), (1, .ref sa)]) [0, 1, 2, 3] rfl ?_
          refine k_lvv (lv' := [(3, .int (nI (j + 1))), (2, .int ((edL fw fd nd (0, fh, mi, ta, de) (j + 1)).1)), (0, .ref a), (1, .ref sa)]) (by simp [edL, edS, hc102]) ?_
          refine k_world (ws' := [(a, .inr (5, [.ref wa, .ref da, .ref ha, .int (nI tn), .int nd, .int ((edL fw fd nd (0, fh, mi, ta, de) (j + 1)).2.2.1)])), (wa, .inl (g.2 0, 8, .inl fw)), (da, .inl (g.2 0, 8, .inl fd)), (ha, .inl (g.2 0, 8, .inl ((edL fw fd nd (0, fh, mi, ta, de) (j + 1)).2.1))), (sa, .inr (6, [.int ro, .int ((edL fw fd nd (0, fh, mi, ta, de) (j + 1)).2.2.2.1), .int ba, .long ma, .long ((edL fw fd nd (0, fh, mi, ta, de) (j + 1)).2.2.2.2), .long bl]))]) (by simp [edL, edS, hc102]) ?_
          exact ih (j + 1) (by omega) (by omega)
  refine k_iconst (n := 1) (v := 0) F dX5_endDay_0 rfl rfl ?_
  refine k_istore_n (n := 2) (lv' := [(2, .int 0), (0, .ref a), (1, .ref sa)]) F dX5_endDay_1 rfl (by decide) rfl rfl ?_
  refine k_iconst (n := 3) (v := 0) F dX5_endDay_2 rfl rfl ?_
  refine k_istore_n (n := 4) (lv' := [(3, .int 0), (2, .int 0), (0, .ref a), (1, .ref sa)]) F dX5_endDay_3 rfl (by decide) rfl rfl ?_
  refine k_lv (lv' := [(3, .int (nI 0)), (2, .int ((edL fw fd nd (0, fh, mi, ta, de) 0).1)), (0, .ref a), (1, .ref sa)]) [0, 1, 2, 3] rfl ?_
  exact loop (tn + 1) 0 (by omega) (by omega)
set_option maxRecDepth 100000 in
set_option maxHeartbeats 4000000 in
theorem c_otell (l : Launch) (g : kG) (a wa da ha : Nat) (tk nd mi : Int32) (fw fd fh : Nat → Int32) (x y : Int32) (htk : tk ≤ 8) : kM l yX5_tell cX5_tell 3 (some .int) (rmK 0 0 0 0) g [.ref a, .int x, .int y] [(a, .inr (5, [.ref wa, .ref da, .ref ha, .int tk, .int nd, .int mi])), (wa, .inl (g.2 0, 8, .inl fw)), (da, .inl (g.2 0, 8, .inl fd)), (ha, .inl (g.2 0, 8, .inl fh))] (kDi g (orR tk fw fd fh x y) [(a, .inr (5, [.ref wa, .ref da, .ref ha, .int tk, .int nd, .int mi])), (wa, .inl (g.2 0, 8, .inl fw)), (da, .inl (g.2 0, 8, .inl fd)), (ha, .inl (g.2 0, 8, .inl fh))]) := by
  refine k_enter (by decide) (Nat.le_of_ble_eq_true rfl) ?_
  intro p e s m args below meth c A F
  refine k_iload_n (n := 1) F dX5_tell_0 rfl 1 rfl rfl ?_
  refine k_if_lt (n := 4) (tgt := 12) F dX5_tell_1 (by decide) rfl (fun hc1 => ?_) (fun hc1 => ?_)
  · refine k_iconst (n := 13) (v := -1) F dX5_tell_12 rfl rfl ?_
    exact k_iret F (by first | rfl | (simp [orR, hc1, Int32.not_le.mpr hc1]; done) | (simp_all [orR, hc1, Int32.not_le.mpr hc1]; done)) (by first | rfl | (simp [orR, hc1, Int32.not_le.mpr hc1]; done) | (simp_all [orR, hc1, Int32.not_le.mpr hc1]; done)) dX5_tell_13
  · refine k_iload_n (n := 5) F dX5_tell_4 rfl 1 rfl rfl ?_
    refine k_aload_n (n := 6) F dX5_tell_5 rfl 0 rfl rfl ?_
    refine k_get (n := 9) (v := .int tk) F uX5 0 3 rfl rfl (by decide) mw_177 rfl dX5_tell_6 rfl ?_
    refine k_icmp_lt (n := 12) (tgt := 14) F dX5_tell_9 (by decide) rfl (fun hc2 => ?_) (fun hc2 => ?_)
    · refine k_iload_n (n := 15) F dX5_tell_14 rfl 2 rfl rfl ?_
      by_cases hc3 : y = 0
      · refine k_tableIn (off := 25) (tgt := 40) F dX5_tell_15 (by rw [hc3]; decide) (by rw [hc3]; decide) (by rw [hc3]; rfl) (by decide) ?_
        refine k_aload_n (n := 41) F dX5_tell_40 rfl 0 rfl rfl ?_
        refine k_get (n := 44) (v := .ref wa) F uX5 0 0 rfl rfl (by decide) mw_174 rfl dX5_tell_41 rfl ?_
        refine k_iload_n (n := 45) F dX5_tell_44 rfl 1 rfl rfl ?_
        refine k_iald (n := 46) (N := x.toNatClampNeg) F 1 rfl (kIx_le2 hc1 hc2 htk) dX5_tell_45 rfl ?_
        exact k_iret F (by first | rfl | (simp [orR, hc1, Int32.not_lt.mp hc1, hc2, Int32.not_le.mpr hc2, hc3]; done) | (simp_all [orR, hc1, Int32.not_lt.mp hc1, hc2, Int32.not_le.mpr hc2, hc3]; done)) (by first | rfl | (simp [orR, hc1, Int32.not_lt.mp hc1, hc2, Int32.not_le.mpr hc2, hc3]; done) | (simp_all [orR, hc1, Int32.not_lt.mp hc1, hc2, Int32.not_le.mpr hc2, hc3]; done)) dX5_tell_46
      by_cases hc4 : y = 1
      · refine k_tableIn (off := 32) (tgt := 47) F dX5_tell_15 (by rw [hc4]; decide) (by rw [hc4]; decide) (by rw [hc4]; rfl) (by decide) ?_
        refine k_aload_n (n := 48) F dX5_tell_47 rfl 0 rfl rfl ?_
        refine k_get (n := 51) (v := .ref da) F uX5 0 1 rfl rfl (by decide) mw_175 rfl dX5_tell_48 rfl ?_
        refine k_iload_n (n := 52) F dX5_tell_51 rfl 1 rfl rfl ?_
        refine k_iald (n := 53) (N := x.toNatClampNeg) F 2 rfl (kIx_le2 hc1 hc2 htk) dX5_tell_52 rfl ?_
        exact k_iret F (by first | rfl | (simp [orR, hc1, Int32.not_lt.mp hc1, hc2, Int32.not_le.mpr hc2, hc3, hc4]; done) | (simp_all [orR, hc1, Int32.not_lt.mp hc1, hc2, Int32.not_le.mpr hc2, hc3, hc4]; done)) (by first | rfl | (simp [orR, hc1, Int32.not_lt.mp hc1, hc2, Int32.not_le.mpr hc2, hc3, hc4]; done) | (simp_all [orR, hc1, Int32.not_lt.mp hc1, hc2, Int32.not_le.mpr hc2, hc3, hc4]; done)) dX5_tell_53
      by_cases hc5 : y = 2
      · refine k_tableIn (off := 39) (tgt := 54) F dX5_tell_15 (by rw [hc5]; decide) (by rw [hc5]; decide) (by rw [hc5]; rfl) (by decide) ?_
        refine k_aload_n (n := 55) F dX5_tell_54 rfl 0 rfl rfl ?_
        refine k_get (n := 58) (v := .ref ha) F uX5 0 2 rfl rfl (by decide) mw_176 rfl dX5_tell_55 rfl ?_
        refine k_iload_n (n := 59) F dX5_tell_58 rfl 1 rfl rfl ?_
        refine k_iald (n := 60) (N := x.toNatClampNeg) F 3 rfl (kIx_le2 hc1 hc2 htk) dX5_tell_59 rfl ?_
        exact k_iret F (by first | rfl | (simp [orR, hc1, Int32.not_lt.mp hc1, hc2, Int32.not_le.mpr hc2, hc3, hc4, hc5]; done) | (simp_all [orR, hc1, Int32.not_lt.mp hc1, hc2, Int32.not_le.mpr hc2, hc3, hc4, hc5]; done)) (by first | rfl | (simp [orR, hc1, Int32.not_lt.mp hc1, hc2, Int32.not_le.mpr hc2, hc3, hc4, hc5]; done) | (simp_all [orR, hc1, Int32.not_lt.mp hc1, hc2, Int32.not_le.mpr hc2, hc3, hc4, hc5]; done)) dX5_tell_60
      refine k_tableOut (tgt := 61) F dX5_tell_15 (by have z0 := lv_neT hc3 (show (0 : Int32).toInt = 0 from rfl); have z1 := lv_neT hc4 (show (1 : Int32).toInt = 1 from rfl); have z2 := lv_neT hc5 (show (2 : Int32).toInt = 2 from rfl); omega) (by decide) ?_
      refine k_iconst (n := 62) (v := -1) F dX5_tell_61 rfl rfl ?_
      exact k_iret F (by first | rfl | (simp [orR, hc1, Int32.not_lt.mp hc1, hc2, Int32.not_le.mpr hc2, hc3, hc4, hc5]; done) | (simp_all [orR, hc1, Int32.not_lt.mp hc1, hc2, Int32.not_le.mpr hc2, hc3, hc4, hc5]; done)) (by first | rfl | (simp [orR, hc1, Int32.not_lt.mp hc1, hc2, Int32.not_le.mpr hc2, hc3, hc4, hc5]; done) | (simp_all [orR, hc1, Int32.not_lt.mp hc1, hc2, Int32.not_le.mpr hc2, hc3, hc4, hc5]; done)) dX5_tell_62
    · refine k_iconst (n := 13) (v := -1) F dX5_tell_12 rfl rfl ?_
      exact k_iret F (by first | rfl | (simp [orR, hc1, Int32.not_lt.mp hc1, hc2, Int32.not_lt.mp hc2]; done) | (simp_all [orR, hc1, Int32.not_lt.mp hc1, hc2, Int32.not_lt.mp hc2]; done)) (by first | rfl | (simp [orR, hc1, Int32.not_lt.mp hc1, hc2, Int32.not_lt.mp hc2]; done) | (simp_all [orR, hc1, Int32.not_lt.mp hc1, hc2, Int32.not_lt.mp hc2]; done)) dX5_tell_13
end
section
/-- the cells of the class, told by the same state; cf: the coolers' row -/
def wC (g : kG) (ad : Nat → Nat) (u : kS) (cf : Nat → Option Nat) : va_W := [(ad 0, .inr (9, [.ref (ad 1), .ref (ad 2), .ref (ad 5), .ref (ad 6), .ref (ad 9), .ref (ad 10), .ref (ad 14), .int (u.1 2), .int (u.2.2.1 10 0), .int (u.2.2.1 10 1), .int (u.2.2.1 10 2), .int (u.1 31), .long (u.2.1 1)])),
  (ad 1, .inl (g.2 3, 6, .inr (.inr (.inr (.inr cf))))),
  (ad 2, .inr (4, [.ref (ad 3), .ref (ad 4), .int (u.1 6), .int (u.1 9), .long (u.2.2.2 0), .long (u.2.2.2 1), .long (u.2.2.2 2), .long (u.2.2.2 3)])),
  (ad 3, .inl (g.2 0, 8, .inl (u.2.2.1 7))), (ad 4, .inl (g.2 0, 8, .inl (u.2.2.1 8))),
  (ad 5, .inr (3, [.int (u.1 12), .int (u.1 34), .int (u.1 32), .int (u.1 14), .int (u.1 15), .int (u.1 16)])),
  (ad 6, .inr (1, [.ref (ad 7), .ref (ad 8), .int (u.2.2.1 10 4), .int (u.2.2.1 10 5)])),
  (ad 7, .inr (0, [.int (u.2.2.1 22 0), .int (u.2.2.1 23 0), .int (u.2.2.1 24 0)])),
  (ad 8, .inr (0, [.int (u.2.2.1 22 1), .int (u.2.2.1 23 1), .int (u.2.2.1 24 1)])),
  (ad 9, .inr (6, [.int (u.2.2.1 10 3), .int (u.1 17), .int (u.1 18), .long (u.2.1 19), .long (u.2.1 20), .long (u.2.1 21)])),
  (ad 10, .inr (5, [.ref (ad 11), .ref (ad 12), .ref (ad 13), .int (u.1 25), .int (u.1 29), .int (u.1 30)])),
  (ad 11, .inl (g.2 0, 8, .inl (u.2.2.1 26))), (ad 12, .inl (g.2 0, 8, .inl (u.2.2.1 27))), (ad 13, .inl (g.2 0, 8, .inl (u.2.2.1 28))),
  (ad 14, .inl (g.2 2, 4, .inl (u.2.2.1 33)))]
/-! what each call answers, and the state behind it. Keys: 2 coolers, 6 cells, 9 pass, 12 state, 13 since, 34 ticks of the state, 14 15 16 valves, 17 tank, 18 bag, 25 orders, 29 day, 30 missed, 31 ticks, 32 trips; longs 1 trace, 19 made, 20 delivered, 21 blown; rows 3 kinds, 4 corners, 5 limits, 7 warm, 8 cold, 10 rules, 22 how, 23 load, 24 ticked, 26 wanted, 27 day of, 28 became, 33 lost -/
def kfL (f : Nat → Int64) (n : Nat) : Nat → Int64 := fun j => if j < n then 0 else f j
def sR (u : kS) (k : Nat) (v : Int32) : kS := (u.1, u.2.1, va_up u.2.2.1 10 (upd (u.2.2.1 10) k v), u.2.2.2)
def f_cells (u : kS) (n pp : Int32) : Int32 × kS := if kin n 1 8 = 0 then (-1, u) else if kin pp 1 50 = 0 then (-1, u) else if ¬ u.1 12 = 0 then (-2, u) else (1, (upd (upd u.1 6 n) 9 pp, u.2.1, va_up (va_up u.2.2.1 7 (kfill 300 (u.2.2.1 7) 8)) 8 (kfill 300 (u.2.2.1 8) 8), kfL u.2.2.2 4))
def mayS (u : kS) (wh v : Int32) : Int32 := if wh = 0 then (if v = -9 then 1 else if kin v 0 (u.1 2 - 1) = 0 then 0 else 1) else if wh = 1 then kin v 0 40 else if wh = 2 then kin v 0 400 else if wh = 3 then (if kin v 10 5000 = 0 then 0 else if v < u.1 17 then 0 else 1) else if wh = 4 then kin v 5 60 else if wh = 5 then kin v 1 30 else 0
def setS (u : kS) (wh : Int32) : Int32 := if wh = 0 then u.2.2.1 10 0 else if wh = 1 then u.2.2.1 10 1 else if wh = 2 then u.2.2.1 10 2 else if wh = 3 then u.2.2.1 10 3 else if wh = 4 then u.2.2.1 10 4 else u.2.2.1 10 5
def chgS (u : kS) (wh v : Int32) : kS := if wh = 0 then sR u 0 v else if wh = 1 then sR u 1 v else if wh = 2 then sR u 2 v else if wh = 3 then sR u 3 v else if wh = 4 then sR u 4 v else sR u 5 v
def f_set (u : kS) (wh v : Int32) : Int32 × kS := if mayS u wh v = 0 then (-1, u) else (setS u wh, chgS u wh v)
def f_side (u : kS) (x y : Int32) : Int32 := if kin x 0 1 = 0 then -1 else if kin y 0 (u.1 6 - 1) = 0 then -1 else if x = 0 then u.2.2.1 7 y.toNatClampNeg else u.2.2.1 8 y.toNatClampNeg
def f_heat (u : kS) (x : Int32) : Int64 := if x = 0 then u.2.2.2 0 else if x = 1 then u.2.2.2 1 else if x = 2 then u.2.2.2 2 else if x = 3 then u.2.2.2 3 else -1
def f_start (u : kS) : Int32 × kS := if ¬ u.1 12 = 0 then (-2, u) else if anyR (u.2.2.1 22 0) (u.2.2.1 22 1) = 0 then (-2, u) else if u.2.2.1 10 3 ≤ u.1 17 then (-2, u) else (1, (upd (upd (upd (upd u.1 12 1) 34 0) 14 1) 15 1, u.2))
def f_low (u : kS) : Int32 × kS := if u.1 12 = 2 then (3, (upd (upd (upd u.1 12 3) 34 0) 13 0, u.2)) else (-2, u)
def f_high (u : kS) : Int32 × kS := if u.1 12 = 3 then (2, (upd (upd u.1 12 2) 34 0, u.2)) else (-2, u)
/-- tripped -/
def s_trip (u : kS) : kS := (upd (upd (upd (upd u.1 12 4) 34 0) 13 0) 32 (u.1 32 + 1), u.2)
def f_trip (u : kS) : Int32 × kS := if u.1 12 = 0 then (-2, u) else if u.1 12 = 4 then (-2, u) else (4, s_trip u)
def f_reset (u : kS) : Int32 × kS := if ¬ u.1 12 = 4 then (-2, u) else if u.1 16 = 0 then (-2, u) else (0, (upd (upd (upd u.1 12 0) 34 0) 16 0, u.2))
def f_adsorber (u : kS) (x y : Int32) : Int32 := adR (u.2.2.1 22 0) (u.2.2.1 23 0) (u.2.2.1 24 0) (u.2.2.1 22 1) (u.2.2.1 23 1) (u.2.2.1 24 1) x y
def f_valve (u : kS) (x : Int32) : Int32 := if x = 0 then (if u.1 14 = 0 then 0 else 1) else if x = 1 then (if u.1 15 = 0 then 0 else 1) else if x = 2 then (if u.1 16 = 0 then 0 else 1) else -1
def f_order (u : kS) (n d : Int32) : Int32 × kS := if kin n 1 500 = 0 then (-1, u) else if kin d 0 9 = 0 then (-1, u) else if u.1 25 < 8 then (u.1 25 + 1 - 1, (upd u.1 25 (u.1 25 + 1), u.2.1, va_up (va_up (va_up u.2.2.1 26 (upd (u.2.2.1 26) (u.1 25).toNatClampNeg n)) 27 (upd (u.2.2.1 27) (u.1 25).toNatClampNeg d)) 28 (upd (u.2.2.1 28) (u.1 25).toNatClampNeg 0), u.2.2.2)) else (-3, u)
def dlE (u : kS) : kE := edL (u.2.2.1 26) (u.2.2.1 27) (u.1 29) (0, u.2.2.1 28, u.1 30, u.1 17, u.2.1 20) (u.1 25).toNatClampNeg
def f_deliver (u : kS) : Int32 × kS := if u.1 29 < 10 then ((dlE u).1, (upd (upd (upd u.1 29 (u.1 29 + 1)) 30 (dlE u).2.2.1) 17 (dlE u).2.2.2.1, vp_updL u.2.1 20 (dlE u).2.2.2.2, va_up u.2.2.1 28 (dlE u).2.1, u.2.2.2)) else (-2, u)
def f_about (u : kS) (x y : Int32) : Int32 := orR (u.1 25) (u.2.2.1 26) (u.2.2.1 27) (u.2.2.1 28) x y
def f_back (u : kS) (n : Int32) : Int32 × kS := if n < 1 then (-1, u) else if u.1 18 < n then (-2, u) else if u.2.2.1 10 3 - u.1 17 < n then (-2, u) else (u.1 17 + n, (upd (upd u.1 18 (u.1 18 - n)) 17 (u.1 17 + n), u.2))
def f_lose (u : kS) (x v : Int32) : Int32 × kS := if kin x 0 3 = 0 then (-1, u) else (if u.2.2.1 33 x.toNatClampNeg = 0 then 0 else 1, (u.1, u.2.1, va_up u.2.2.1 33 (upd (u.2.2.1 33) x.toNatClampNeg v), u.2.2.2))
def rdM (u : kS) (x : Int32) : Int64 := if x = 0 then u.2.1 19 else if x = 1 then u.2.1 20 else if x = 2 then u.2.1 21 else (u.1 17 + u.1 18).toInt64
def f_meter (u : kS) (x : Int32) : Int64 := if kin x 0 3 = 0 then -1 else if ¬ u.2.2.1 33 x.toNatClampNeg = 0 then -9 else rdM u x
def zb (v : Int32) : Int32 := if v = 0 then 0 else 1
/-- how many meters are lost -/
def lostN (f : Nat → Int32) : Int32 := 0 + zb (f 0) + zb (f 1) + zb (f 2) + zb (f 3)
/-- what the others tell -/
def toldO (u : kS) (x : Int32) : Int64 := (fun s1 : Int64 => (fun s2 : Int64 => (if ¬ 3 = x then s2 + (u.1 17 + u.1 18).toInt64 else s2)) (if ¬ 2 = x then s1 + u.2.1 21 else s1)) (if ¬ 1 = x then 0 + u.2.1 20 else 0)
def f_balance (u : kS) (x : Int32) : Int64 := if kin x 0 3 = 0 then -1 else if u.2.2.1 33 x.toNatClampNeg = 0 then rdM u x else if lostN (u.2.2.1 33) = 1 then (if x = 0 then toldO u x else u.2.1 19 - toldO u x) else -9
def f_count (u : kS) (x : Int32) : Int32 := if x = 0 then u.1 12 else if x = 1 then u.1 17 else if x = 2 then u.1 18 else if x = 3 then u.1 2 else if x = 4 then u.1 6 else if x = 5 then u.1 25 else if x = 6 then u.1 29 else if x = 7 then u.1 31 else if x = 8 then u.1 32 else if x = 9 then u.1 30 else -1
end
section
theorem kIx_kin {y n : Int32} (h : ¬ kin y 0 (n - 1) = 0) (h1 : 1 ≤ n) (h8 : n ≤ 8) : kIx y y.toNatClampNeg 8 := by
  obtain ⟨a1, a2⟩ := kin_n.mp h
  obtain ⟨k, hk, rfl⟩ := nI_of (x := n) (fun q => absurd (Int32.lt_of_le_of_lt h1 q) (by decide))
  have e1 : 1 ≤ k := (nI_leI (by decide) hk).mp (show nI 1 ≤ nI k from h1)
  have e2 : k ≤ 8 := (nI_leI hk (by decide)).mp (show nI k ≤ nI 8 from h8)
  have e : nI k - 1 = nI (k - 1) := pk_sub (b := 1) e1
  rw [e] at a2
  refine kIx_le a1 ?_ (by decide)
  exact Int32.lt_of_le_of_lt a2 (nI_lt (by omega) (by omega))
theorem kIx_m {x : Int32} (h : ¬ kin x 0 3 = 0) : kIx x x.toNatClampNeg 4 := by
  obtain ⟨a1, a2⟩ := kin_n.mp h
  exact kIx_le a1 (Int32.lt_of_le_of_lt a2 (by decide)) (by decide)
theorem kclamp {x : Int32} (h : 0 ≤ x) : x = nI x.toNatClampNeg := by
  obtain ⟨k, hk, rfl⟩ := nI_of (Int32.not_lt.mpr h)
  rw [nI_clamp hk]
theorem kclamp8 {x : Int32} (h : 0 ≤ x) (h8 : x ≤ 8) : x.toNatClampNeg ≤ 8 := by
  obtain ⟨k, hk, rfl⟩ := nI_of (Int32.not_lt.mpr h)
  rw [nI_clamp hk]
  exact (nI_leI hk (by decide)).mp (show nI k ≤ nI 8 from h8)
set_option maxRecDepth 100000 in
set_option maxHeartbeats 4000000 in
theorem c_isCooler (l : Launch) (g : kG) (ad : Nat → Nat) (cf : Nat → Option Nat) (i : Nat → Int32) (l_ : Nat → Int64) (a : Nat → Nat → Int32) (h : Nat → Int64) (x : Int32) : kM l yX9_isCooler cX9_isCooler 2 (some .boolean) (rmK 1 0 0 22) g [.ref ((ad 0)), .int x] (wC g ad (i, l_, a, h) cf) (kDi g (kin x 0 (i 2 - 1)) (wC g ad (i, l_, a, h) cf)) := by
  refine k_enter (by decide) (Nat.le_of_ble_eq_true rfl) ?_
  intro p e s m args below meth c A F
  refine k_iload_n (n := 1) F dX9_isCooler_0 rfl 1 rfl rfl ?_
  refine k_iconst (n := 2) (v := 0) F dX9_isCooler_1 rfl rfl ?_
  refine k_aload_n (n := 3) F dX9_isCooler_2 rfl 0 rfl rfl ?_
  refine k_get (n := 6) (v := .int (i 2)) F uX9 0 7 rfl rfl (by decide) mw_203 rfl dX9_isCooler_3 rfl ?_
  refine k_iconst (n := 7) (v := 1) F dX9_isCooler_6 rfl rfl ?_
  refine k_isub (n := 8) F dX9_isCooler_7 rfl ?_
  refine k_ciR (n := 11) F (k_rS (k := 3) (As := [.int x, .int 0, .int ((i 2) - 1)]) (rest := []) F (c_within l g x 0 ((i 2) - 1)) [] rfl rfl mw_243 mw_241 mw_242 mw_1 (by decide) ⟨by decide, by decide⟩ rfl (Nat.le_of_ble_eq_true rfl) ⟨by decide, by decide⟩ dX9_isCooler_8) [] rfl rfl ?_
  exact k_zret F (kZn (kin_b _ _ _)) (by first | rfl | (simp only [kin, if_true, if_false, not_true_eq_false, not_false_eq_true]; done) | (simp only [kin, if_true, if_false, not_true_eq_false, not_false_eq_true]; rfl) | (simp [kin]; done) | (simp [kin]; rfl) | (simp_all [kin]; done)) (by first | rfl | (simp only [kin, if_true, if_false, not_true_eq_false, not_false_eq_true]; done) | (simp only [kin, if_true, if_false, not_true_eq_false, not_false_eq_true]; rfl) | (simp [kin]; done) | (simp [kin]; rfl) | (simp_all [kin]; done)) dX9_isCooler_11
set_option maxRecDepth 100000 in
set_option maxHeartbeats 4000000 in
theorem c_cells (l : Launch) (g : kG) (ad : Nat → Nat) (cf : Nat → Option Nat) (i : Nat → Int32) (l_ : Nat → Int64) (a : Nat → Nat → Int32) (h : Nat → Int64) (n pp : Int32) : kM l yX9_cells cX9_cells 3 (some .int) (rmK 2 0 0 45) g [.ref ((ad 0)), .int n, .int pp] (wC g ad (i, l_, a, h) cf) (kDi g (f_cells (i, l_, a, h) n pp).1 (wC g ad (f_cells (i, l_, a, h) n pp).2 cf)) := by
  refine k_enter (by decide) (Nat.le_of_ble_eq_true rfl) ?_
  intro p e s m args below meth c A F
  refine k_iload_n (n := 1) F dX9_cells_0 rfl 1 rfl rfl ?_
  refine k_iconst (n := 2) (v := 1) F dX9_cells_1 rfl rfl ?_
  refine k_bipush (n := 4) (v := 8) F dX9_cells_2 rfl rfl ?_
  refine k_ciR (n := 7) F (k_rS (k := 3) (As := [.int n, .int 1, .int 8]) (rest := []) F (c_within l g n 1 8) [] rfl rfl mw_243 mw_241 mw_242 mw_1 (by decide) ⟨by decide, by decide⟩ rfl (Nat.le_of_ble_eq_true rfl) ⟨by decide, by decide⟩ dX9_cells_4) [] rfl rfl ?_
  refine k_if_eq (n := 10) (tgt := 20) F dX9_cells_7 (by decide) rfl (fun hc1 => ?_) (fun hc1 => ?_)
  · refine k_iconst (n := 21) (v := -1) F dX9_cells_20 rfl rfl ?_
    exact k_iret F (by first | rfl | (simp only [f_cells, hc1, if_true, if_false, not_true_eq_false, not_false_eq_true]; done) | (simp only [f_cells, hc1, if_true, if_false, not_true_eq_false, not_false_eq_true]; rfl) | (simp [f_cells, hc1]; done) | (simp [f_cells, hc1]; rfl) | (simp_all [f_cells, hc1]; done)) (by first | rfl | (simp only [f_cells, hc1, if_true, if_false, not_true_eq_false, not_false_eq_true]; done) | (simp only [f_cells, hc1, if_true, if_false, not_true_eq_false, not_false_eq_true]; rfl) | (simp [f_cells, hc1]; done) | (simp [f_cells, hc1]; rfl) | (simp_all [f_cells, hc1]; done)) dX9_cells_21
  · refine k_iload_n (n := 11) F dX9_cells_10 rfl 2 rfl rfl ?_
    refine k_iconst (n := 12) (v := 1) F dX9_cells_11 rfl rfl ?_
    refine k_bipush (n := 14) (v := 50) F dX9_cells_12 rfl rfl ?_
    refine k_ciR (n := 17) F (k_rS (k := 3) (As := [.int pp, .int 1, .int 50]) (rest := []) F (c_within l g pp 1 50) [] rfl rfl mw_243 mw_241 mw_242 mw_1 (by decide) ⟨by decide, by decide⟩ rfl (Nat.le_of_ble_eq_true rfl) ⟨by decide, by decide⟩ dX9_cells_14) [] rfl rfl ?_
    refine k_if_ne (n := 20) (tgt := 22) F dX9_cells_17 (by decide) rfl (fun hc2 => ?_) (fun hc2 => ?_)
    · refine k_aload_n (n := 23) F dX9_cells_22 rfl 0 rfl rfl ?_
      refine k_get (n := 26) (v := .ref ((ad 5))) F uX9 0 2 rfl rfl (by decide) mw_198 rfl dX9_cells_23 rfl ?_
      refine k_getN (n := 29) (v := .int (i 12)) F uX3 5 0 rfl rfl (by decide) nw_8 rfl dX9_cells_26 rfl ?_
      refine k_if_eq (n := 32) (tgt := 35) F dX9_cells_29 (by decide) rfl (fun hc3 => ?_) (fun hc3 => ?_)
      · refine k_aload_n (n := 36) F dX9_cells_35 rfl 0 rfl rfl ?_
        refine k_get (n := 39) (v := .ref ((ad 2))) F uX9 0 1 rfl rfl (by decide) mw_197 rfl dX9_cells_36 rfl ?_
        refine k_iload_n (n := 40) F dX9_cells_39 rfl 1 rfl rfl ?_
        refine k_iload_n (n := 41) F dX9_cells_40 rfl 2 rfl rfl ?_
        refine k_cv (n := 44) (ws' := wC g ad (upd (upd i 6 n) 9 pp, l_, va_up (va_up a 7 (kfill 300 (a 7) 8)) 8 (kfill 300 (a 8) 8), vp_updL (vp_updL (vp_updL (vp_updL h 0 0) 1 0) 2 0) 3 0) cf) F (k_rV (k := 2) (b := (ad 2)) (As := [.int n, .int pp]) (rest := []) F (c_rebuild l g (ad 2) (ad 3) (ad 4) (i 6) (i 9) (h 0) (h 1) (h 2) (h 3) (a 7) (a 8) n pp) [2, 3, 4] rfl rfl 0 rfl rfl mw_34 mw_334 mw_32 mw_33 mw_2 (by decide) ⟨by decide, by decide⟩ rfl (Nat.le_of_ble_eq_true rfl) ⟨by decide, by decide⟩ dX9_cells_41) [2, 3, 4] [0, 1, 5, 6, 7, 8, 9, 10, 11, 12, 13, 14] [0, 1, 12, 13, 14, 2, 3, 4, 5, 6, 7, 8, 9, 10, 11] rfl rfl rfl (by decide) rfl rfl rfl ?_
        refine k_iconst (n := 45) (v := 1) F dX9_cells_44 rfl rfl ?_
        exact k_iret F (by first | rfl | (simp only [f_cells, hc1, hc2, hc3, if_true, if_false, not_true_eq_false, not_false_eq_true]; done) | (simp only [f_cells, hc1, hc2, hc3, if_true, if_false, not_true_eq_false, not_false_eq_true]; rfl) | (simp [f_cells, hc1, hc2, hc3]; done) | (simp [f_cells, hc1, hc2, hc3]; rfl) | (simp_all [f_cells, hc1, hc2, hc3]; done)) (by first | rfl | (simp only [f_cells, hc1, hc2, hc3, if_true, if_false, not_true_eq_false, not_false_eq_true]; done) | (simp only [f_cells, hc1, hc2, hc3, if_true, if_false, not_true_eq_false, not_false_eq_true]; rfl) | (simp [f_cells, hc1, hc2, hc3]; done) | (simp [f_cells, hc1, hc2, hc3]; rfl) | (simp_all [f_cells, hc1, hc2, hc3]; done)) dX9_cells_45
      · refine k_bipush (n := 34) (v := -2) F dX9_cells_32 rfl rfl ?_
        exact k_iret F (by first | rfl | (simp only [f_cells, hc1, hc2, hc3, if_true, if_false, not_true_eq_false, not_false_eq_true]; done) | (simp only [f_cells, hc1, hc2, hc3, if_true, if_false, not_true_eq_false, not_false_eq_true]; rfl) | (simp [f_cells, hc1, hc2, hc3]; done) | (simp [f_cells, hc1, hc2, hc3]; rfl) | (simp_all [f_cells, hc1, hc2, hc3]; done)) (by first | rfl | (simp only [f_cells, hc1, hc2, hc3, if_true, if_false, not_true_eq_false, not_false_eq_true]; done) | (simp only [f_cells, hc1, hc2, hc3, if_true, if_false, not_true_eq_false, not_false_eq_true]; rfl) | (simp [f_cells, hc1, hc2, hc3]; done) | (simp [f_cells, hc1, hc2, hc3]; rfl) | (simp_all [f_cells, hc1, hc2, hc3]; done)) dX9_cells_34
    · refine k_iconst (n := 21) (v := -1) F dX9_cells_20 rfl rfl ?_
      exact k_iret F (by first | rfl | (simp only [f_cells, hc1, hc2, if_true, if_false, not_true_eq_false, not_false_eq_true]; done) | (simp only [f_cells, hc1, hc2, if_true, if_false, not_true_eq_false, not_false_eq_true]; rfl) | (simp [f_cells, hc1, hc2]; done) | (simp [f_cells, hc1, hc2]; rfl) | (simp_all [f_cells, hc1, hc2]; done)) (by first | rfl | (simp only [f_cells, hc1, hc2, if_true, if_false, not_true_eq_false, not_false_eq_true]; done) | (simp only [f_cells, hc1, hc2, if_true, if_false, not_true_eq_false, not_false_eq_true]; rfl) | (simp [f_cells, hc1, hc2]; done) | (simp [f_cells, hc1, hc2]; rfl) | (simp_all [f_cells, hc1, hc2]; done)) dX9_cells_21
set_option maxRecDepth 100000 in
set_option maxHeartbeats 4000000 in
theorem c_maySet (l : Launch) (g : kG) (ad : Nat → Nat) (cf : Nat → Option Nat) (i : Nat → Int32) (l_ : Nat → Int64) (a : Nat → Nat → Int32) (h : Nat → Int64) (wh v : Int32) : kM l yX9_maySet cX9_maySet 3 (some .boolean) (rmK 2 0 0 43) g [.ref ((ad 0)), .int wh, .int v] (wC g ad (i, l_, a, h) cf) (kDi g (mayS (i, l_, a, h) wh v) (wC g ad (i, l_, a, h) cf)) := by
  refine k_enter (by decide) (Nat.le_of_ble_eq_true rfl) ?_
  intro p e s m args below meth c A F
  refine k_iload_n (n := 1) F dX9_maySet_0 rfl 1 rfl rfl ?_
  by_cases hc1 : wh = 0
  · refine k_tableIn (off := 39) (tgt := 40) F dX9_maySet_1 (by rw [hc1]; decide) (by rw [hc1]; decide) (by rw [hc1]; rfl) (by decide) ?_
    refine k_iload_n (n := 41) F dX9_maySet_40 rfl 2 rfl rfl ?_
    refine k_bipush (n := 43) (v := -9) F dX9_maySet_41 rfl rfl ?_
    refine k_icmp_eq (n := 46) (tgt := 54) F dX9_maySet_43 (by decide) rfl (fun hc2 => ?_) (fun hc2 => ?_)
    · refine k_iconst (n := 55) (v := 1) F dX9_maySet_54 rfl rfl ?_
      refine k_goto (tgt := 59) F dX9_maySet_55 (by decide) ?_
      exact k_zret F rfl (by first | rfl | (simp only [mayS, hc1, hc2, if_true, if_false, not_true_eq_false, not_false_eq_true]; done) | (simp only [mayS, hc1, hc2, if_true, if_false, not_true_eq_false, not_false_eq_true]; rfl) | (simp [mayS, hc1, hc2]; done) | (simp [mayS, hc1, hc2]; rfl) | (simp_all [mayS, hc1, hc2]; done)) (by first | rfl | (simp only [mayS, hc1, hc2, if_true, if_false, not_true_eq_false, not_false_eq_true]; done) | (simp only [mayS, hc1, hc2, if_true, if_false, not_true_eq_false, not_false_eq_true]; rfl) | (simp [mayS, hc1, hc2]; done) | (simp [mayS, hc1, hc2]; rfl) | (simp_all [mayS, hc1, hc2]; done)) dX9_maySet_59
    · refine k_aload_n (n := 47) F dX9_maySet_46 rfl 0 rfl rfl ?_
      refine k_iload_n (n := 48) F dX9_maySet_47 rfl 2 rfl rfl ?_
      refine k_ciR (n := 51) F (k_rV (k := 1) (b := (ad 0)) (As := [.int v]) (rest := []) F (c_isCooler l g ad cf i l_ a h v) [0, 1, 2, 3, 4, 5, 6, 7, 8, 9, 10, 11, 12, 13, 14] rfl rfl 0 rfl rfl mw_284 mw_281 mw_283 mw_s0 mw_1 (by decide) ⟨by decide, by decide⟩ rfl (Nat.le_of_ble_eq_true rfl) ⟨by decide, by decide⟩ dX9_maySet_48) [0, 1, 2, 3, 4, 5, 6, 7, 8, 9, 10, 11, 12, 13, 14] rfl rfl ?_
      refine k_if_eq (n := 54) (tgt := 58) F dX9_maySet_51 (by decide) rfl (fun hc3 => ?_) (fun hc3 => ?_)
      · refine k_iconst (n := 59) (v := 0) F dX9_maySet_58 rfl rfl ?_
        exact k_zret F rfl (by first | rfl | (simp only [mayS, hc1, hc2, hc3, if_true, if_false, not_true_eq_false, not_false_eq_true]; done) | (simp only [mayS, hc1, hc2, hc3, if_true, if_false, not_true_eq_false, not_false_eq_true]; rfl) | (simp [mayS, hc1, hc2, hc3]; done) | (simp [mayS, hc1, hc2, hc3]; rfl) | (simp_all [mayS, hc1, hc2, hc3]; done)) (by first | rfl | (simp only [mayS, hc1, hc2, hc3, if_true, if_false, not_true_eq_false, not_false_eq_true]; done) | (simp only [mayS, hc1, hc2, hc3, if_true, if_false, not_true_eq_false, not_false_eq_true]; rfl) | (simp [mayS, hc1, hc2, hc3]; done) | (simp [mayS, hc1, hc2, hc3]; rfl) | (simp_all [mayS, hc1, hc2, hc3]; done)) dX9_maySet_59
      · refine k_iconst (n := 55) (v := 1) F dX9_maySet_54 rfl rfl ?_
        refine k_goto (tgt := 59) F dX9_maySet_55 (by decide) ?_
        exact k_zret F rfl (by first | rfl | (simp only [mayS, hc1, hc2, hc3, if_true, if_false, not_true_eq_false, not_false_eq_true]; done) | (simp only [mayS, hc1, hc2, hc3, if_true, if_false, not_true_eq_false, not_false_eq_true]; rfl) | (simp [mayS, hc1, hc2, hc3]; done) | (simp [mayS, hc1, hc2, hc3]; rfl) | (simp_all [mayS, hc1, hc2, hc3]; done)) (by first | rfl | (simp only [mayS, hc1, hc2, hc3, if_true, if_false, not_true_eq_false, not_false_eq_true]; done) | (simp only [mayS, hc1, hc2, hc3, if_true, if_false, not_true_eq_false, not_false_eq_true]; rfl) | (simp [mayS, hc1, hc2, hc3]; done) | (simp [mayS, hc1, hc2, hc3]; rfl) | (simp_all [mayS, hc1, hc2, hc3]; done)) dX9_maySet_59
  by_cases hc4 : wh = 1
  · refine k_tableIn (off := 59) (tgt := 60) F dX9_maySet_1 (by rw [hc4]; decide) (by rw [hc4]; decide) (by rw [hc4]; rfl) (by decide) ?_
    refine k_iload_n (n := 61) F dX9_maySet_60 rfl 2 rfl rfl ?_
    refine k_iconst (n := 62) (v := 0) F dX9_maySet_61 rfl rfl ?_
    refine k_bipush (n := 64) (v := 40) F dX9_maySet_62 rfl rfl ?_
    refine k_ciR (n := 67) F (k_rS (k := 3) (As := [.int v, .int 0, .int 40]) (rest := []) F (c_within l g v 0 40) [] rfl rfl mw_243 mw_241 mw_242 mw_1 (by decide) ⟨by decide, by decide⟩ rfl (Nat.le_of_ble_eq_true rfl) ⟨by decide, by decide⟩ dX9_maySet_64) [] rfl rfl ?_
    exact k_zret F (kZn (kin_b _ _ _)) (by first | rfl | (simp only [mayS, hc1, hc4, if_true, if_false, not_true_eq_false, not_false_eq_true]; done) | (simp only [mayS, hc1, hc4, if_true, if_false, not_true_eq_false, not_false_eq_true]; rfl) | (simp [mayS, hc1, hc4]; done) | (simp [mayS, hc1, hc4]; rfl) | (simp_all [mayS, hc1, hc4]; done)) (by first | rfl | (simp only [mayS, hc1, hc4, if_true, if_false, not_true_eq_false, not_false_eq_true]; done) | (simp only [mayS, hc1, hc4, if_true, if_false, not_true_eq_false, not_false_eq_true]; rfl) | (simp [mayS, hc1, hc4]; done) | (simp [mayS, hc1, hc4]; rfl) | (simp_all [mayS, hc1, hc4]; done)) dX9_maySet_67
  by_cases hc5 : wh = 2
  · refine k_tableIn (off := 67) (tgt := 68) F dX9_maySet_1 (by rw [hc5]; decide) (by rw [hc5]; decide) (by rw [hc5]; rfl) (by decide) ?_
    refine k_iload_n (n := 69) F dX9_maySet_68 rfl 2 rfl rfl ?_
    refine k_iconst (n := 70) (v := 0) F dX9_maySet_69 rfl rfl ?_
    refine k_sipush (n := 73) (v := 400) F dX9_maySet_70 rfl rfl ?_
    refine k_ciR (n := 76) F (k_rS (k := 3) (As := [.int v, .int 0, .int 400]) (rest := []) F (c_within l g v 0 400) [] rfl rfl mw_243 mw_241 mw_242 mw_1 (by decide) ⟨by decide, by decide⟩ rfl (Nat.le_of_ble_eq_true rfl) ⟨by decide, by decide⟩ dX9_maySet_73) [] rfl rfl ?_
    exact k_zret F (kZn (kin_b _ _ _)) (by first | rfl | (simp only [mayS, hc1, hc4, hc5, if_true, if_false, not_true_eq_false, not_false_eq_true]; done) | (simp only [mayS, hc1, hc4, hc5, if_true, if_false, not_true_eq_false, not_false_eq_true]; rfl) | (simp [mayS, hc1, hc4, hc5]; done) | (simp [mayS, hc1, hc4, hc5]; rfl) | (simp_all [mayS, hc1, hc4, hc5]; done)) (by first | rfl | (simp only [mayS, hc1, hc4, hc5, if_true, if_false, not_true_eq_false, not_false_eq_true]; done) | (simp only [mayS, hc1, hc4, hc5, if_true, if_false, not_true_eq_false, not_false_eq_true]; rfl) | (simp [mayS, hc1, hc4, hc5]; done) | (simp [mayS, hc1, hc4, hc5]; rfl) | (simp_all [mayS, hc1, hc4, hc5]; done)) dX9_maySet_76
  by_cases hc6 : wh = 3
  · refine k_tableIn (off := 76) (tgt := 77) F dX9_maySet_1 (by rw [hc6]; decide) (by rw [hc6]; decide) (by rw [hc6]; rfl) (by decide) ?_
    refine k_iload_n (n := 78) F dX9_maySet_77 rfl 2 rfl rfl ?_
    refine k_bipush (n := 80) (v := 10) F dX9_maySet_78 rfl rfl ?_
    refine k_sipush (n := 83) (v := 5000) F dX9_maySet_80 rfl rfl ?_
    refine k_ciR (n := 86) F (k_rS (k := 3) (As := [.int v, .int 10, .int 5000]) (rest := []) F (c_within l g v 10 5000) [] rfl rfl mw_243 mw_241 mw_242 mw_1 (by decide) ⟨by decide, by decide⟩ rfl (Nat.le_of_ble_eq_true rfl) ⟨by decide, by decide⟩ dX9_maySet_83) [] rfl rfl ?_
    refine k_if_eq (n := 89) (tgt := 104) F dX9_maySet_86 (by decide) rfl (fun hc7 => ?_) (fun hc7 => ?_)
    · refine k_iconst (n := 105) (v := 0) F dX9_maySet_104 rfl rfl ?_
      exact k_zret F rfl (by first | rfl | (simp only [mayS, hc1, hc4, hc5, hc6, hc7, if_true, if_false, not_true_eq_false, not_false_eq_true]; done) | (simp only [mayS, hc1, hc4, hc5, hc6, hc7, if_true, if_false, not_true_eq_false, not_false_eq_true]; rfl) | (simp [mayS, hc1, hc4, hc5, hc6, hc7]; done) | (simp [mayS, hc1, hc4, hc5, hc6, hc7]; rfl) | (simp_all [mayS, hc1, hc4, hc5, hc6, hc7]; done)) (by first | rfl | (simp only [mayS, hc1, hc4, hc5, hc6, hc7, if_true, if_false, not_true_eq_false, not_false_eq_true]; done) | (simp only [mayS, hc1, hc4, hc5, hc6, hc7, if_true, if_false, not_true_eq_false, not_false_eq_true]; rfl) | (simp [mayS, hc1, hc4, hc5, hc6, hc7]; done) | (simp [mayS, hc1, hc4, hc5, hc6, hc7]; rfl) | (simp_all [mayS, hc1, hc4, hc5, hc6, hc7]; done)) dX9_maySet_105
    · refine k_iload_n (n := 90) F dX9_maySet_89 rfl 2 rfl rfl ?_
      refine k_aload_n (n := 91) F dX9_maySet_90 rfl 0 rfl rfl ?_
      refine k_get (n := 94) (v := .ref ((ad 9))) F uX9 0 4 rfl rfl (by decide) mw_200 rfl dX9_maySet_91 rfl ?_
      refine k_getN (n := 97) (v := .int (i 17)) F uX6 9 1 rfl rfl (by decide) nw_20 rfl dX9_maySet_94 rfl ?_
      refine k_icmp_lt (n := 100) (tgt := 104) F dX9_maySet_97 (by decide) rfl (fun hc8 => ?_) (fun hc8 => ?_)
      · refine k_iconst (n := 105) (v := 0) F dX9_maySet_104 rfl rfl ?_
        exact k_zret F rfl (by first | rfl | (simp only [mayS, hc1, hc4, hc5, hc6, hc7, hc8, Int32.not_le.mpr hc8, if_true, if_false, not_true_eq_false, not_false_eq_true]; done) | (simp only [mayS, hc1, hc4, hc5, hc6, hc7, hc8, Int32.not_le.mpr hc8, if_true, if_false, not_true_eq_false, not_false_eq_true]; rfl) | (simp [mayS, hc1, hc4, hc5, hc6, hc7, hc8, Int32.not_le.mpr hc8]; done) | (simp [mayS, hc1, hc4, hc5, hc6, hc7, hc8, Int32.not_le.mpr hc8]; rfl) | (simp_all [mayS, hc1, hc4, hc5, hc6, hc7, hc8, Int32.not_le.mpr hc8]; done)) (by first | rfl | (simp only [mayS, hc1, hc4, hc5, hc6, hc7, hc8, Int32.not_le.mpr hc8, if_true, if_false, not_true_eq_false, not_false_eq_true]; done) | (simp only [mayS, hc1, hc4, hc5, hc6, hc7, hc8, Int32.not_le.mpr hc8, if_true, if_false, not_true_eq_false, not_false_eq_true]; rfl) | (simp [mayS, hc1, hc4, hc5, hc6, hc7, hc8, Int32.not_le.mpr hc8]; done) | (simp [mayS, hc1, hc4, hc5, hc6, hc7, hc8, Int32.not_le.mpr hc8]; rfl) | (simp_all [mayS, hc1, hc4, hc5, hc6, hc7, hc8, Int32.not_le.mpr hc8]; done)) dX9_maySet_105
      · refine k_iconst (n := 101) (v := 1) F dX9_maySet_100 rfl rfl ?_
        refine k_goto (tgt := 105) F dX9_maySet_101 (by decide) ?_
        exact k_zret F rfl (by first | rfl | (simp only [mayS, hc1, hc4, hc5, hc6, hc7, hc8, Int32.not_lt.mp hc8, if_true, if_false, not_true_eq_false, not_false_eq_true]; done) | (simp only [mayS, hc1, hc4, hc5, hc6, hc7, hc8, Int32.not_lt.mp hc8, if_true, if_false, not_true_eq_false, not_false_eq_true]; rfl) | (simp [mayS, hc1, hc4, hc5, hc6, hc7, hc8, Int32.not_lt.mp hc8]; done) | (simp [mayS, hc1, hc4, hc5, hc6, hc7, hc8, Int32.not_lt.mp hc8]; rfl) | (simp_all [mayS, hc1, hc4, hc5, hc6, hc7, hc8, Int32.not_lt.mp hc8]; done)) (by first | rfl | (simp only [mayS, hc1, hc4, hc5, hc6, hc7, hc8, Int32.not_lt.mp hc8, if_true, if_false, not_true_eq_false, not_false_eq_true]; done) | (simp only [mayS, hc1, hc4, hc5, hc6, hc7, hc8, Int32.not_lt.mp hc8, if_true, if_false, not_true_eq_false, not_false_eq_true]; rfl) | (simp [mayS, hc1, hc4, hc5, hc6, hc7, hc8, Int32.not_lt.mp hc8]; done) | (simp [mayS, hc1, hc4, hc5, hc6, hc7, hc8, Int32.not_lt.mp hc8]; rfl) | (simp_all [mayS, hc1, hc4, hc5, hc6, hc7, hc8, Int32.not_lt.mp hc8]; done)) dX9_maySet_105
  by_cases hc9 : wh = 4
  · refine k_tableIn (off := 105) (tgt := 106) F dX9_maySet_1 (by rw [hc9]; decide) (by rw [hc9]; decide) (by rw [hc9]; rfl) (by decide) ?_
    refine k_iload_n (n := 107) F dX9_maySet_106 rfl 2 rfl rfl ?_
    refine k_iconst (n := 108) (v := 5) F dX9_maySet_107 rfl rfl ?_
    refine k_bipush (n := 110) (v := 60) F dX9_maySet_108 rfl rfl ?_
    refine k_ciR (n := 113) F (k_rS (k := 3) (As := [.int v, .int 5, .int 60]) (rest := []) F (c_within l g v 5 60) [] rfl rfl mw_243 mw_241 mw_242 mw_1 (by decide) ⟨by decide, by decide⟩ rfl (Nat.le_of_ble_eq_true rfl) ⟨by decide, by decide⟩ dX9_maySet_110) [] rfl rfl ?_
    exact k_zret F (kZn (kin_b _ _ _)) (by first | rfl | (simp only [mayS, hc1, hc4, hc5, hc6, hc9, if_true, if_false, not_true_eq_false, not_false_eq_true]; done) | (simp only [mayS, hc1, hc4, hc5, hc6, hc9, if_true, if_false, not_true_eq_false, not_false_eq_true]; rfl) | (simp [mayS, hc1, hc4, hc5, hc6, hc9]; done) | (simp [mayS, hc1, hc4, hc5, hc6, hc9]; rfl) | (simp_all [mayS, hc1, hc4, hc5, hc6, hc9]; done)) (by first | rfl | (simp only [mayS, hc1, hc4, hc5, hc6, hc9, if_true, if_false, not_true_eq_false, not_false_eq_true]; done) | (simp only [mayS, hc1, hc4, hc5, hc6, hc9, if_true, if_false, not_true_eq_false, not_false_eq_true]; rfl) | (simp [mayS, hc1, hc4, hc5, hc6, hc9]; done) | (simp [mayS, hc1, hc4, hc5, hc6, hc9]; rfl) | (simp_all [mayS, hc1, hc4, hc5, hc6, hc9]; done)) dX9_maySet_113
  by_cases hc10 : wh = 5
  · refine k_tableIn (off := 113) (tgt := 114) F dX9_maySet_1 (by rw [hc10]; decide) (by rw [hc10]; decide) (by rw [hc10]; rfl) (by decide) ?_
    refine k_iload_n (n := 115) F dX9_maySet_114 rfl 2 rfl rfl ?_
    refine k_iconst (n := 116) (v := 1) F dX9_maySet_115 rfl rfl ?_
    refine k_bipush (n := 118) (v := 30) F dX9_maySet_116 rfl rfl ?_
    refine k_ciR (n := 121) F (k_rS (k := 3) (As := [.int v, .int 1, .int 30]) (rest := []) F (c_within l g v 1 30) [] rfl rfl mw_243 mw_241 mw_242 mw_1 (by decide) ⟨by decide, by decide⟩ rfl (Nat.le_of_ble_eq_true rfl) ⟨by decide, by decide⟩ dX9_maySet_118) [] rfl rfl ?_
    exact k_zret F (kZn (kin_b _ _ _)) (by first | rfl | (simp only [mayS, hc1, hc4, hc5, hc6, hc9, hc10, if_true, if_false, not_true_eq_false, not_false_eq_true]; done) | (simp only [mayS, hc1, hc4, hc5, hc6, hc9, hc10, if_true, if_false, not_true_eq_false, not_false_eq_true]; rfl) | (simp [mayS, hc1, hc4, hc5, hc6, hc9, hc10]; done) | (simp [mayS, hc1, hc4, hc5, hc6, hc9, hc10]; rfl) | (simp_all [mayS, hc1, hc4, hc5, hc6, hc9, hc10]; done)) (by first | rfl | (simp only [mayS, hc1, hc4, hc5, hc6, hc9, hc10, if_true, if_false, not_true_eq_false, not_false_eq_true]; done) | (simp only [mayS, hc1, hc4, hc5, hc6, hc9, hc10, if_true, if_false, not_true_eq_false, not_false_eq_true]; rfl) | (simp [mayS, hc1, hc4, hc5, hc6, hc9, hc10]; done) | (simp [mayS, hc1, hc4, hc5, hc6, hc9, hc10]; rfl) | (simp_all [mayS, hc1, hc4, hc5, hc6, hc9, hc10]; done)) dX9_maySet_121
  refine k_tableOut (tgt := 122) F dX9_maySet_1 (by have z0 := lv_neT hc1 (show (0 : Int32).toInt = 0 from rfl); have z1 := lv_neT hc4 (show (1 : Int32).toInt = 1 from rfl); have z2 := lv_neT hc5 (show (2 : Int32).toInt = 2 from rfl); have z3 := lv_neT hc6 (show (3 : Int32).toInt = 3 from rfl); have z4 := lv_neT hc9 (show (4 : Int32).toInt = 4 from rfl); have z5 := lv_neT hc10 (show (5 : Int32).toInt = 5 from rfl); omega) (by decide) ?_
  refine k_iconst (n := 123) (v := 0) F dX9_maySet_122 rfl rfl ?_
  exact k_zret F rfl (by first | rfl | (simp only [mayS, hc1, hc4, hc5, hc6, hc9, hc10, if_true, if_false, not_true_eq_false, not_false_eq_true]; done) | (simp only [mayS, hc1, hc4, hc5, hc6, hc9, hc10, if_true, if_false, not_true_eq_false, not_false_eq_true]; rfl) | (simp [mayS, hc1, hc4, hc5, hc6, hc9, hc10]; done) | (simp [mayS, hc1, hc4, hc5, hc6, hc9, hc10]; rfl) | (simp_all [mayS, hc1, hc4, hc5, hc6, hc9, hc10]; done)) (by first | rfl | (simp only [mayS, hc1, hc4, hc5, hc6, hc9, hc10, if_true, if_false, not_true_eq_false, not_false_eq_true]; done) | (simp only [mayS, hc1, hc4, hc5, hc6, hc9, hc10, if_true, if_false, not_true_eq_false, not_false_eq_true]; rfl) | (simp [mayS, hc1, hc4, hc5, hc6, hc9, hc10]; done) | (simp [mayS, hc1, hc4, hc5, hc6, hc9, hc10]; rfl) | (simp_all [mayS, hc1, hc4, hc5, hc6, hc9, hc10]; done)) dX9_maySet_123
set_option maxRecDepth 100000 in
set_option maxHeartbeats 4000000 in
theorem c_setting (l : Launch) (g : kG) (ad : Nat → Nat) (cf : Nat → Option Nat) (i : Nat → Int32) (l_ : Nat → Int64) (a : Nat → Nat → Int32) (h : Nat → Int64) (wh : Int32) : kM l yX9_setting cX9_setting 2 (some .int) (rmK 0 0 0 0) g [.ref ((ad 0)), .int wh] (wC g ad (i, l_, a, h) cf) (kDi g (setS (i, l_, a, h) wh) (wC g ad (i, l_, a, h) cf)) := by
  refine k_enter (by decide) (Nat.le_of_ble_eq_true rfl) ?_
  intro p e s m args below meth c A F
  refine k_iload_n (n := 1) F dX9_setting_0 rfl 1 rfl rfl ?_
  by_cases hc1 : wh = 0
  · refine k_tableIn (off := 35) (tgt := 36) F dX9_setting_1 (by rw [hc1]; decide) (by rw [hc1]; decide) (by rw [hc1]; rfl) (by decide) ?_
    refine k_aload_n (n := 37) F dX9_setting_36 rfl 0 rfl rfl ?_
    refine k_get (n := 40) (v := .int (a 10 0)) F uX9 0 8 rfl rfl (by decide) mw_204 rfl dX9_setting_37 rfl ?_
    exact k_iret F (by first | rfl | (simp only [setS, hc1, if_true, if_false, not_true_eq_false, not_false_eq_true]; done) | (simp only [setS, hc1, if_true, if_false, not_true_eq_false, not_false_eq_true]; rfl) | (simp [setS, hc1]; done) | (simp [setS, hc1]; rfl) | (simp_all [setS, hc1]; done)) (by first | rfl | (simp only [setS, hc1, if_true, if_false, not_true_eq_false, not_false_eq_true]; done) | (simp only [setS, hc1, if_true, if_false, not_true_eq_false, not_false_eq_true]; rfl) | (simp [setS, hc1]; done) | (simp [setS, hc1]; rfl) | (simp_all [setS, hc1]; done)) dX9_setting_40
  by_cases hc2 : wh = 1
  · refine k_tableIn (off := 40) (tgt := 41) F dX9_setting_1 (by rw [hc2]; decide) (by rw [hc2]; decide) (by rw [hc2]; rfl) (by decide) ?_
    refine k_aload_n (n := 42) F dX9_setting_41 rfl 0 rfl rfl ?_
    refine k_get (n := 45) (v := .int (a 10 1)) F uX9 0 9 rfl rfl (by decide) mw_205 rfl dX9_setting_42 rfl ?_
    exact k_iret F (by first | rfl | (simp only [setS, hc1, hc2, if_true, if_false, not_true_eq_false, not_false_eq_true]; done) | (simp only [setS, hc1, hc2, if_true, if_false, not_true_eq_false, not_false_eq_true]; rfl) | (simp [setS, hc1, hc2]; done) | (simp [setS, hc1, hc2]; rfl) | (simp_all [setS, hc1, hc2]; done)) (by first | rfl | (simp only [setS, hc1, hc2, if_true, if_false, not_true_eq_false, not_false_eq_true]; done) | (simp only [setS, hc1, hc2, if_true, if_false, not_true_eq_false, not_false_eq_true]; rfl) | (simp [setS, hc1, hc2]; done) | (simp [setS, hc1, hc2]; rfl) | (simp_all [setS, hc1, hc2]; done)) dX9_setting_45
  by_cases hc3 : wh = 2
  · refine k_tableIn (off := 45) (tgt := 46) F dX9_setting_1 (by rw [hc3]; decide) (by rw [hc3]; decide) (by rw [hc3]; rfl) (by decide) ?_
    refine k_aload_n (n := 47) F dX9_setting_46 rfl 0 rfl rfl ?_
    refine k_get (n := 50) (v := .int (a 10 2)) F uX9 0 10 rfl rfl (by decide) mw_206 rfl dX9_setting_47 rfl ?_
    exact k_iret F (by first | rfl | (simp only [setS, hc1, hc2, hc3, if_true, if_false, not_true_eq_false, not_false_eq_true]; done) | (simp only [setS, hc1, hc2, hc3, if_true, if_false, not_true_eq_false, not_false_eq_true]; rfl) | (simp [setS, hc1, hc2, hc3]; done) | (simp [setS, hc1, hc2, hc3]; rfl) | (simp_all [setS, hc1, hc2, hc3]; done)) (by first | rfl | (simp only [setS, hc1, hc2, hc3, if_true, if_false, not_true_eq_false, not_false_eq_true]; done) | (simp only [setS, hc1, hc2, hc3, if_true, if_false, not_true_eq_false, not_false_eq_true]; rfl) | (simp [setS, hc1, hc2, hc3]; done) | (simp [setS, hc1, hc2, hc3]; rfl) | (simp_all [setS, hc1, hc2, hc3]; done)) dX9_setting_50
  by_cases hc4 : wh = 3
  · refine k_tableIn (off := 50) (tgt := 51) F dX9_setting_1 (by rw [hc4]; decide) (by rw [hc4]; decide) (by rw [hc4]; rfl) (by decide) ?_
    refine k_aload_n (n := 52) F dX9_setting_51 rfl 0 rfl rfl ?_
    refine k_get (n := 55) (v := .ref ((ad 9))) F uX9 0 4 rfl rfl (by decide) mw_200 rfl dX9_setting_52 rfl ?_
    refine k_getN (n := 58) (v := .int (a 10 3)) F uX6 9 0 rfl rfl (by decide) nw_19 rfl dX9_setting_55 rfl ?_
    exact k_iret F (by first | rfl | (simp only [setS, hc1, hc2, hc3, hc4, if_true, if_false, not_true_eq_false, not_false_eq_true]; done) | (simp only [setS, hc1, hc2, hc3, hc4, if_true, if_false, not_true_eq_false, not_false_eq_true]; rfl) | (simp [setS, hc1, hc2, hc3, hc4]; done) | (simp [setS, hc1, hc2, hc3, hc4]; rfl) | (simp_all [setS, hc1, hc2, hc3, hc4]; done)) (by first | rfl | (simp only [setS, hc1, hc2, hc3, hc4, if_true, if_false, not_true_eq_false, not_false_eq_true]; done) | (simp only [setS, hc1, hc2, hc3, hc4, if_true, if_false, not_true_eq_false, not_false_eq_true]; rfl) | (simp [setS, hc1, hc2, hc3, hc4]; done) | (simp [setS, hc1, hc2, hc3, hc4]; rfl) | (simp_all [setS, hc1, hc2, hc3, hc4]; done)) dX9_setting_58
  by_cases hc5 : wh = 4
  · refine k_tableIn (off := 58) (tgt := 59) F dX9_setting_1 (by rw [hc5]; decide) (by rw [hc5]; decide) (by rw [hc5]; rfl) (by decide) ?_
    refine k_aload_n (n := 60) F dX9_setting_59 rfl 0 rfl rfl ?_
    refine k_get (n := 63) (v := .ref ((ad 6))) F uX9 0 3 rfl rfl (by decide) mw_199 rfl dX9_setting_60 rfl ?_
    refine k_getN (n := 66) (v := .int (a 10 4)) F uX1 6 2 rfl rfl (by decide) nw_16 rfl dX9_setting_63 rfl ?_
    exact k_iret F (by first | rfl | (simp only [setS, hc1, hc2, hc3, hc4, hc5, if_true, if_false, not_true_eq_false, not_false_eq_true]; done) | (simp only [setS, hc1, hc2, hc3, hc4, hc5, if_true, if_false, not_true_eq_false, not_false_eq_true]; rfl) | (simp [setS, hc1, hc2, hc3, hc4, hc5]; done) | (simp [setS, hc1, hc2, hc3, hc4, hc5]; rfl) | (simp_all [setS, hc1, hc2, hc3, hc4, hc5]; done)) (by first | rfl | (simp only [setS, hc1, hc2, hc3, hc4, hc5, if_true, if_false, not_true_eq_false, not_false_eq_true]; done) | (simp only [setS, hc1, hc2, hc3, hc4, hc5, if_true, if_false, not_true_eq_false, not_false_eq_true]; rfl) | (simp [setS, hc1, hc2, hc3, hc4, hc5]; done) | (simp [setS, hc1, hc2, hc3, hc4, hc5]; rfl) | (simp_all [setS, hc1, hc2, hc3, hc4, hc5]; done)) dX9_setting_66
  refine k_tableOut (tgt := 67) F dX9_setting_1 (by have z0 := lv_neT hc1 (show (0 : Int32).toInt = 0 from rfl); have z1 := lv_neT hc2 (show (1 : Int32).toInt = 1 from rfl); have z2 := lv_neT hc3 (show (2 : Int32).toInt = 2 from rfl); have z3 := lv_neT hc4 (show (3 : Int32).toInt = 3 from rfl); have z4 := lv_neT hc5 (show (4 : Int32).toInt = 4 from rfl); omega) (by decide) ?_
  refine k_aload_n (n := 68) F dX9_setting_67 rfl 0 rfl rfl ?_
  refine k_get (n := 71) (v := .ref ((ad 6))) F uX9 0 3 rfl rfl (by decide) mw_199 rfl dX9_setting_68 rfl ?_
  refine k_getN (n := 74) (v := .int (a 10 5)) F uX1 6 3 rfl rfl (by decide) nw_17 rfl dX9_setting_71 rfl ?_
  exact k_iret F (by first | rfl | (simp only [setS, hc1, hc2, hc3, hc4, hc5, if_true, if_false, not_true_eq_false, not_false_eq_true]; done) | (simp only [setS, hc1, hc2, hc3, hc4, hc5, if_true, if_false, not_true_eq_false, not_false_eq_true]; rfl) | (simp [setS, hc1, hc2, hc3, hc4, hc5]; done) | (simp [setS, hc1, hc2, hc3, hc4, hc5]; rfl) | (simp_all [setS, hc1, hc2, hc3, hc4, hc5]; done)) (by first | rfl | (simp only [setS, hc1, hc2, hc3, hc4, hc5, if_true, if_false, not_true_eq_false, not_false_eq_true]; done) | (simp only [setS, hc1, hc2, hc3, hc4, hc5, if_true, if_false, not_true_eq_false, not_false_eq_true]; rfl) | (simp [setS, hc1, hc2, hc3, hc4, hc5]; done) | (simp [setS, hc1, hc2, hc3, hc4, hc5]; rfl) | (simp_all [setS, hc1, hc2, hc3, hc4, hc5]; done)) dX9_setting_74
set_option maxRecDepth 100000 in
set_option maxHeartbeats 4000000 in
theorem c_change (l : Launch) (g : kG) (ad : Nat → Nat) (cf : Nat → Option Nat) (i : Nat → Int32) (l_ : Nat → Int64) (a : Nat → Nat → Int32) (h : Nat → Int64) (wh v : Int32) : kM l yX9_change cX9_change 3 none (rmK 0 0 0 0) g [.ref ((ad 0)), .int wh, .int v] (wC g ad (i, l_, a, h) cf) (kDv g (wC g ad (chgS (i, l_, a, h) wh v) cf)) := by
  refine k_enter (by decide) (Nat.le_of_ble_eq_true rfl) ?_
  intro p e s m args below meth c A F
  refine k_iload_n (n := 1) F dX9_change_0 rfl 1 rfl rfl ?_
  by_cases hc1 : wh = 0
  · refine k_tableIn (off := 35) (tgt := 36) F dX9_change_1 (by rw [hc1]; decide) (by rw [hc1]; decide) (by rw [hc1]; rfl) (by decide) ?_
    refine k_aload_n (n := 37) F dX9_change_36 rfl 0 rfl rfl ?_
    refine k_iload_n (n := 38) F dX9_change_37 rfl 2 rfl rfl ?_
    refine k_put (n := 41) (ws' := wC g ad (i, l_, va_up a 10 (upd (a 10) 0 v), h) cf) F uX9 tyX9_ok nmX9 0 8 rfl rfl (by decide) mw_204 rfl rfl rfl (Nat.le_of_ble_eq_true rfl) rfl dX9_change_38 rfl ?_
    refine k_goto (tgt := 90) F dX9_change_41 (by decide) ?_
    exact k_vret F (by first | rfl | (simp only [chgS, sR, hc1, if_true, if_false, not_true_eq_false, not_false_eq_true]; done) | (simp only [chgS, sR, hc1, if_true, if_false, not_true_eq_false, not_false_eq_true]; rfl) | (simp [chgS, sR, hc1]; done) | (simp [chgS, sR, hc1]; rfl) | (simp_all [chgS, sR, hc1]; done)) dX9_change_90
  by_cases hc2 : wh = 1
  · refine k_tableIn (off := 43) (tgt := 44) F dX9_change_1 (by rw [hc2]; decide) (by rw [hc2]; decide) (by rw [hc2]; rfl) (by decide) ?_
    refine k_aload_n (n := 45) F dX9_change_44 rfl 0 rfl rfl ?_
    refine k_iload_n (n := 46) F dX9_change_45 rfl 2 rfl rfl ?_
    refine k_put (n := 49) (ws' := wC g ad (i, l_, va_up a 10 (upd (a 10) 1 v), h) cf) F uX9 tyX9_ok nmX9 0 9 rfl rfl (by decide) mw_205 rfl rfl rfl (Nat.le_of_ble_eq_true rfl) rfl dX9_change_46 rfl ?_
    refine k_goto (tgt := 90) F dX9_change_49 (by decide) ?_
    exact k_vret F (by first | rfl | (simp only [chgS, sR, hc1, hc2, if_true, if_false, not_true_eq_false, not_false_eq_true]; done) | (simp only [chgS, sR, hc1, hc2, if_true, if_false, not_true_eq_false, not_false_eq_true]; rfl) | (simp [chgS, sR, hc1, hc2]; done) | (simp [chgS, sR, hc1, hc2]; rfl) | (simp_all [chgS, sR, hc1, hc2]; done)) dX9_change_90
  by_cases hc3 : wh = 2
  · refine k_tableIn (off := 51) (tgt := 52) F dX9_change_1 (by rw [hc3]; decide) (by rw [hc3]; decide) (by rw [hc3]; rfl) (by decide) ?_
    refine k_aload_n (n := 53) F dX9_change_52 rfl 0 rfl rfl ?_
    refine k_iload_n (n := 54) F dX9_change_53 rfl 2 rfl rfl ?_
    refine k_put (n := 57) (ws' := wC g ad (i, l_, va_up a 10 (upd (a 10) 2 v), h) cf) F uX9 tyX9_ok nmX9 0 10 rfl rfl (by decide) mw_206 rfl rfl rfl (Nat.le_of_ble_eq_true rfl) rfl dX9_change_54 rfl ?_
    refine k_goto (tgt := 90) F dX9_change_57 (by decide) ?_
    exact k_vret F (by first | rfl | (simp only [chgS, sR, hc1, hc2, hc3, if_true, if_false, not_true_eq_false, not_false_eq_true]; done) | (simp only [chgS, sR, hc1, hc2, hc3, if_true, if_false, not_true_eq_false, not_false_eq_true]; rfl) | (simp [chgS, sR, hc1, hc2, hc3]; done) | (simp [chgS, sR, hc1, hc2, hc3]; rfl) | (simp_all [chgS, sR, hc1, hc2, hc3]; done)) dX9_change_90
  by_cases hc4 : wh = 3
  · refine k_tableIn (off := 59) (tgt := 60) F dX9_change_1 (by rw [hc4]; decide) (by rw [hc4]; decide) (by rw [hc4]; rfl) (by decide) ?_
    refine k_aload_n (n := 61) F dX9_change_60 rfl 0 rfl rfl ?_
    refine k_get (n := 64) (v := .ref ((ad 9))) F uX9 0 4 rfl rfl (by decide) mw_200 rfl dX9_change_61 rfl ?_
    refine k_iload_n (n := 65) F dX9_change_64 rfl 2 rfl rfl ?_
    refine k_putN (n := 68) (ws' := wC g ad (i, l_, va_up a 10 (upd (a 10) 3 v), h) cf) F uX6 tyX6_ok nmX6 9 0 rfl rfl (by decide) nw_19 rfl rfl rfl (Nat.le_of_ble_eq_true rfl) rfl dX9_change_65 rfl ?_
    refine k_goto (tgt := 90) F dX9_change_68 (by decide) ?_
    exact k_vret F (by first | rfl | (simp only [chgS, sR, hc1, hc2, hc3, hc4, if_true, if_false, not_true_eq_false, not_false_eq_true]; done) | (simp only [chgS, sR, hc1, hc2, hc3, hc4, if_true, if_false, not_true_eq_false, not_false_eq_true]; rfl) | (simp [chgS, sR, hc1, hc2, hc3, hc4]; done) | (simp [chgS, sR, hc1, hc2, hc3, hc4]; rfl) | (simp_all [chgS, sR, hc1, hc2, hc3, hc4]; done)) dX9_change_90
  by_cases hc5 : wh = 4
  · refine k_tableIn (off := 70) (tgt := 71) F dX9_change_1 (by rw [hc5]; decide) (by rw [hc5]; decide) (by rw [hc5]; rfl) (by decide) ?_
    refine k_aload_n (n := 72) F dX9_change_71 rfl 0 rfl rfl ?_
    refine k_get (n := 75) (v := .ref ((ad 6))) F uX9 0 3 rfl rfl (by decide) mw_199 rfl dX9_change_72 rfl ?_
    refine k_iload_n (n := 76) F dX9_change_75 rfl 2 rfl rfl ?_
    refine k_putN (n := 79) (ws' := wC g ad (i, l_, va_up a 10 (upd (a 10) 4 v), h) cf) F uX1 tyX1_ok nmX1 6 2 rfl rfl (by decide) nw_16 rfl rfl rfl (Nat.le_of_ble_eq_true rfl) rfl dX9_change_76 rfl ?_
    refine k_goto (tgt := 90) F dX9_change_79 (by decide) ?_
    exact k_vret F (by first | rfl | (simp only [chgS, sR, hc1, hc2, hc3, hc4, hc5, if_true, if_false, not_true_eq_false, not_false_eq_true]; done) | (simp only [chgS, sR, hc1, hc2, hc3, hc4, hc5, if_true, if_false, not_true_eq_false, not_false_eq_true]; rfl) | (simp [chgS, sR, hc1, hc2, hc3, hc4, hc5]; done) | (simp [chgS, sR, hc1, hc2, hc3, hc4, hc5]; rfl) | (simp_all [chgS, sR, hc1, hc2, hc3, hc4, hc5]; done)) dX9_change_90
  refine k_tableOut (tgt := 82) F dX9_change_1 (by have z0 := lv_neT hc1 (show (0 : Int32).toInt = 0 from rfl); have z1 := lv_neT hc2 (show (1 : Int32).toInt = 1 from rfl); have z2 := lv_neT hc3 (show (2 : Int32).toInt = 2 from rfl); have z3 := lv_neT hc4 (show (3 : Int32).toInt = 3 from rfl); have z4 := lv_neT hc5 (show (4 : Int32).toInt = 4 from rfl); omega) (by decide) ?_
  refine k_aload_n (n := 83) F dX9_change_82 rfl 0 rfl rfl ?_
  refine k_get (n := 86) (v := .ref ((ad 6))) F uX9 0 3 rfl rfl (by decide) mw_199 rfl dX9_change_83 rfl ?_
  refine k_iload_n (n := 87) F dX9_change_86 rfl 2 rfl rfl ?_
  refine k_putN (n := 90) (ws' := wC g ad (i, l_, va_up a 10 (upd (a 10) 5 v), h) cf) F uX1 tyX1_ok nmX1 6 3 rfl rfl (by decide) nw_17 rfl rfl rfl (Nat.le_of_ble_eq_true rfl) rfl dX9_change_87 rfl ?_
  exact k_vret F (by first | rfl | (simp only [chgS, sR, hc1, hc2, hc3, hc4, hc5, if_true, if_false, not_true_eq_false, not_false_eq_true]; done) | (simp only [chgS, sR, hc1, hc2, hc3, hc4, hc5, if_true, if_false, not_true_eq_false, not_false_eq_true]; rfl) | (simp [chgS, sR, hc1, hc2, hc3, hc4, hc5]; done) | (simp [chgS, sR, hc1, hc2, hc3, hc4, hc5]; rfl) | (simp_all [chgS, sR, hc1, hc2, hc3, hc4, hc5]; done)) dX9_change_90
set_option maxRecDepth 100000 in
set_option maxHeartbeats 4000000 in
theorem c_set (l : Launch) (g : kG) (ad : Nat → Nat) (cf : Nat → Option Nat) (i : Nat → Int32) (l_ : Nat → Int64) (a : Nat → Nat → Int32) (h : Nat → Int64) (wh v : Int32) : kM l yX9_set cX9_set 4 (some .int) (rmK 3 0 0 65) g [.ref ((ad 0)), .int wh, .int v] (wC g ad (i, l_, a, h) cf) (kDi g (f_set (i, l_, a, h) wh v).1 (wC g ad (f_set (i, l_, a, h) wh v).2 cf)) := by
  refine k_enter (by decide) (Nat.le_of_ble_eq_true rfl) ?_
  intro p e s m args below meth c A F
  refine k_aload_n (n := 1) F dX9_set_0 rfl 0 rfl rfl ?_
  refine k_iload_n (n := 2) F dX9_set_1 rfl 1 rfl rfl ?_
  refine k_iload_n (n := 3) F dX9_set_2 rfl 2 rfl rfl ?_
  refine k_ciR (n := 6) F (k_rV (k := 2) (b := (ad 0)) (As := [.int wh, .int v]) (rest := []) F (c_maySet l g ad cf i l_ a h wh v) [0, 1, 2, 3, 4, 5, 6, 7, 8, 9, 10, 11, 12, 13, 14] rfl rfl 0 rfl rfl mw_342 mw_339 mw_341 mw_s5 mw_1 (by decide) ⟨by decide, by decide⟩ rfl (Nat.le_of_ble_eq_true rfl) ⟨by decide, by decide⟩ dX9_set_3) [0, 1, 2, 3, 4, 5, 6, 7, 8, 9, 10, 11, 12, 13, 14] rfl rfl ?_
  refine k_if_ne (n := 9) (tgt := 11) F dX9_set_6 (by decide) rfl (fun hc1 => ?_) (fun hc1 => ?_)
  · refine k_aload_n (n := 12) F dX9_set_11 rfl 0 rfl rfl ?_
    refine k_iload_n (n := 13) F dX9_set_12 rfl 1 rfl rfl ?_
    refine k_ciR (n := 16) F (k_rV (k := 1) (b := (ad 0)) (As := [.int wh]) (rest := []) F (c_setting l g ad cf i l_ a h wh) [0, 1, 2, 3, 4, 5, 6, 7, 8, 9, 10, 11, 12, 13, 14] rfl rfl 0 rfl rfl mw_346 mw_343 mw_345 mw_s6 mw_1 (by decide) ⟨by decide, by decide⟩ rfl (Nat.le_of_ble_eq_true rfl) ⟨by decide, by decide⟩ dX9_set_13) [0, 1, 2, 3, 4, 5, 6, 7, 8, 9, 10, 11, 12, 13, 14] rfl rfl ?_
    refine k_istore_n (n := 17) (lv' := [(3, .int (setS (i, l_, a, h) wh)), (0, .ref ((ad 0))), (1, .int wh), (2, .int v)]) F dX9_set_16 rfl (by decide) rfl rfl ?_
    refine k_aload_n (n := 18) F dX9_set_17 rfl 1 rfl rfl ?_
    refine k_iload_n (n := 19) F dX9_set_18 rfl 2 rfl rfl ?_
    refine k_iload_n (n := 20) F dX9_set_19 rfl 3 rfl rfl ?_
    refine k_cv (n := 23) (ws' := wC g ad (chgS (i, l_, a, h) wh v) cf) F (k_rV (k := 2) (b := (ad 0)) (As := [.int wh, .int v]) (rest := []) F (c_change l g ad cf i l_ a h wh v) [0, 1, 2, 3, 4, 5, 6, 7, 8, 9, 10, 11, 12, 13, 14] rfl rfl 0 rfl rfl mw_350 mw_347 mw_349 mw_s7 mw_1 (by decide) ⟨by decide, by decide⟩ rfl (Nat.le_of_ble_eq_true rfl) ⟨by decide, by decide⟩ dX9_set_20) [0, 1, 2, 3, 4, 5, 6, 7, 8, 9, 10, 11, 12, 13, 14] [] [0, 1, 2, 3, 4, 5, 6, 7, 8, 9, 10, 11, 12, 13, 14] rfl rfl rfl (by decide) rfl rfl rfl ?_
    refine k_iload_n (n := 24) F dX9_set_23 rfl 0 rfl rfl ?_
    exact k_iret F (by first | rfl | (simp only [f_set, hc1, if_true, if_false, not_true_eq_false, not_false_eq_true]; done) | (simp only [f_set, hc1, if_true, if_false, not_true_eq_false, not_false_eq_true]; rfl) | (simp [f_set, hc1]; done) | (simp [f_set, hc1]; rfl) | (simp_all [f_set, hc1]; done)) (by first | rfl | (simp only [f_set, hc1, if_true, if_false, not_true_eq_false, not_false_eq_true]; done) | (simp only [f_set, hc1, if_true, if_false, not_true_eq_false, not_false_eq_true]; rfl) | (simp [f_set, hc1]; done) | (simp [f_set, hc1]; rfl) | (simp_all [f_set, hc1]; done)) dX9_set_24
  · refine k_iconst (n := 10) (v := -1) F dX9_set_9 rfl rfl ?_
    exact k_iret F (by first | rfl | (simp only [f_set, hc1, if_true, if_false, not_true_eq_false, not_false_eq_true]; done) | (simp only [f_set, hc1, if_true, if_false, not_true_eq_false, not_false_eq_true]; rfl) | (simp [f_set, hc1]; done) | (simp [f_set, hc1]; rfl) | (simp_all [f_set, hc1]; done)) (by first | rfl | (simp only [f_set, hc1, if_true, if_false, not_true_eq_false, not_false_eq_true]; done) | (simp only [f_set, hc1, if_true, if_false, not_true_eq_false, not_false_eq_true]; rfl) | (simp [f_set, hc1]; done) | (simp [f_set, hc1]; rfl) | (simp_all [f_set, hc1]; done)) dX9_set_10
set_option maxRecDepth 100000 in
set_option maxHeartbeats 4000000 in
theorem c_side (l : Launch) (g : kG) (ad : Nat → Nat) (cf : Nat → Option Nat) (i : Nat → Int32) (l_ : Nat → Int64) (a : Nat → Nat → Int32) (h : Nat → Int64) (x y : Int32) (h6 : 1 ≤ i 6 ∧ i 6 ≤ 8) : kM l yX9_side cX9_side 3 (some .int) (rmK 1 0 0 22) g [.ref ((ad 0)), .int x, .int y] (wC g ad (i, l_, a, h) cf) (kDi g (f_side (i, l_, a, h) x y) (wC g ad (i, l_, a, h) cf)) := by
  refine k_enter (by decide) (Nat.le_of_ble_eq_true rfl) ?_
  intro p e s m args below meth c A F
  refine k_iload_n (n := 1) F dX9_side_0 rfl 1 rfl rfl ?_
  refine k_iconst (n := 2) (v := 0) F dX9_side_1 rfl rfl ?_
  refine k_iconst (n := 3) (v := 1) F dX9_side_2 rfl rfl ?_
  refine k_ciR (n := 6) F (k_rS (k := 3) (As := [.int x, .int 0, .int 1]) (rest := []) F (c_within l g x 0 1) [] rfl rfl mw_243 mw_241 mw_242 mw_1 (by decide) ⟨by decide, by decide⟩ rfl (Nat.le_of_ble_eq_true rfl) ⟨by decide, by decide⟩ dX9_side_3) [] rfl rfl ?_
  refine k_if_eq (n := 9) (tgt := 26) F dX9_side_6 (by decide) rfl (fun hc1 => ?_) (fun hc1 => ?_)
  · refine k_iconst (n := 27) (v := -1) F dX9_side_26 rfl rfl ?_
    exact k_iret F (by first | rfl | (simp only [f_side, hc1, if_true, if_false, not_true_eq_false, not_false_eq_true]; done) | (simp only [f_side, hc1, if_true, if_false, not_true_eq_false, not_false_eq_true]; rfl) | (simp [f_side, hc1]; done) | (simp [f_side, hc1]; rfl) | (simp_all [f_side, hc1]; done)) (by first | rfl | (simp only [f_side, hc1, if_true, if_false, not_true_eq_false, not_false_eq_true]; done) | (simp only [f_side, hc1, if_true, if_false, not_true_eq_false, not_false_eq_true]; rfl) | (simp [f_side, hc1]; done) | (simp [f_side, hc1]; rfl) | (simp_all [f_side, hc1]; done)) dX9_side_27
  · refine k_iload_n (n := 10) F dX9_side_9 rfl 2 rfl rfl ?_
    refine k_iconst (n := 11) (v := 0) F dX9_side_10 rfl rfl ?_
    refine k_aload_n (n := 12) F dX9_side_11 rfl 0 rfl rfl ?_
    refine k_get (n := 15) (v := .ref ((ad 2))) F uX9 0 1 rfl rfl (by decide) mw_197 rfl dX9_side_12 rfl ?_
    refine k_getN (n := 18) (v := .int (i 6)) F uX4 2 2 rfl rfl (by decide) nw_2 rfl dX9_side_15 rfl ?_
    refine k_iconst (n := 19) (v := 1) F dX9_side_18 rfl rfl ?_
    refine k_isub (n := 20) F dX9_side_19 rfl ?_
    refine k_ciR (n := 23) F (k_rS (k := 3) (As := [.int y, .int 0, .int ((i 6) - 1)]) (rest := []) F (c_within l g y 0 ((i 6) - 1)) [] rfl rfl mw_243 mw_241 mw_242 mw_1 (by decide) ⟨by decide, by decide⟩ rfl (Nat.le_of_ble_eq_true rfl) ⟨by decide, by decide⟩ dX9_side_20) [] rfl rfl ?_
    refine k_if_ne (n := 26) (tgt := 28) F dX9_side_23 (by decide) rfl (fun hc2 => ?_) (fun hc2 => ?_)
    · refine k_iload_n (n := 29) F dX9_side_28 rfl 1 rfl rfl ?_
      refine k_if_ne (n := 32) (tgt := 44) F dX9_side_29 (by decide) rfl (fun hc3 => ?_) (fun hc3 => ?_)
      · refine k_aload_n (n := 45) F dX9_side_44 rfl 0 rfl rfl ?_
        refine k_get (n := 48) (v := .ref ((ad 2))) F uX9 0 1 rfl rfl (by decide) mw_197 rfl dX9_side_45 rfl ?_
        refine k_getN (n := 51) (v := .ref ((ad 4))) F uX4 2 1 rfl rfl (by decide) nw_1 rfl dX9_side_48 rfl ?_
        refine k_iload_n (n := 52) F dX9_side_51 rfl 2 rfl rfl ?_
        refine k_iald (n := 53) (N := y.toNatClampNeg) F 4 rfl (kIx_kin hc2 h6.1 h6.2) dX9_side_52 rfl ?_
        exact k_iret F (by first | rfl | (simp only [f_side, hc1, hc2, hc3, if_true, if_false, not_true_eq_false, not_false_eq_true]; done) | (simp only [f_side, hc1, hc2, hc3, if_true, if_false, not_true_eq_false, not_false_eq_true]; rfl) | (simp [f_side, hc1, hc2, hc3]; done) | (simp [f_side, hc1, hc2, hc3]; rfl) | (simp_all [f_side, hc1, hc2, hc3]; done)) (by first | rfl | (simp only [f_side, hc1, hc2, hc3, if_true, if_false, not_true_eq_false, not_false_eq_true]; done) | (simp only [f_side, hc1, hc2, hc3, if_true, if_false, not_true_eq_false, not_false_eq_true]; rfl) | (simp [f_side, hc1, hc2, hc3]; done) | (simp [f_side, hc1, hc2, hc3]; rfl) | (simp_all [f_side, hc1, hc2, hc3]; done)) dX9_side_53
      · refine k_aload_n (n := 33) F dX9_side_32 rfl 0 rfl rfl ?_
        refine k_get (n := 36) (v := .ref ((ad 2))) F uX9 0 1 rfl rfl (by decide) mw_197 rfl dX9_side_33 rfl ?_
        refine k_getN (n := 39) (v := .ref ((ad 3))) F uX4 2 0 rfl rfl (by decide) nw_0 rfl dX9_side_36 rfl ?_
        refine k_iload_n (n := 40) F dX9_side_39 rfl 2 rfl rfl ?_
        refine k_iald (n := 41) (N := y.toNatClampNeg) F 3 rfl (kIx_kin hc2 h6.1 h6.2) dX9_side_40 rfl ?_
        refine k_goto (tgt := 53) F dX9_side_41 (by decide) ?_
        exact k_iret F (by first | rfl | (simp only [f_side, hc1, hc2, hc3, if_true, if_false, not_true_eq_false, not_false_eq_true]; done) | (simp only [f_side, hc1, hc2, hc3, if_true, if_false, not_true_eq_false, not_false_eq_true]; rfl) | (simp [f_side, hc1, hc2, hc3]; done) | (simp [f_side, hc1, hc2, hc3]; rfl) | (simp_all [f_side, hc1, hc2, hc3]; done)) (by first | rfl | (simp only [f_side, hc1, hc2, hc3, if_true, if_false, not_true_eq_false, not_false_eq_true]; done) | (simp only [f_side, hc1, hc2, hc3, if_true, if_false, not_true_eq_false, not_false_eq_true]; rfl) | (simp [f_side, hc1, hc2, hc3]; done) | (simp [f_side, hc1, hc2, hc3]; rfl) | (simp_all [f_side, hc1, hc2, hc3]; done)) dX9_side_53
    · refine k_iconst (n := 27) (v := -1) F dX9_side_26 rfl rfl ?_
      exact k_iret F (by first | rfl | (simp only [f_side, hc1, hc2, if_true, if_false, not_true_eq_false, not_false_eq_true]; done) | (simp only [f_side, hc1, hc2, if_true, if_false, not_true_eq_false, not_false_eq_true]; rfl) | (simp [f_side, hc1, hc2]; done) | (simp [f_side, hc1, hc2]; rfl) | (simp_all [f_side, hc1, hc2]; done)) (by first | rfl | (simp only [f_side, hc1, hc2, if_true, if_false, not_true_eq_false, not_false_eq_true]; done) | (simp only [f_side, hc1, hc2, if_true, if_false, not_true_eq_false, not_false_eq_true]; rfl) | (simp [f_side, hc1, hc2]; done) | (simp [f_side, hc1, hc2]; rfl) | (simp_all [f_side, hc1, hc2]; done)) dX9_side_27
set_option maxRecDepth 100000 in
set_option maxHeartbeats 4000000 in
theorem c_heat (l : Launch) (g : kG) (ad : Nat → Nat) (cf : Nat → Option Nat) (i : Nat → Int32) (l_ : Nat → Int64) (a : Nat → Nat → Int32) (h : Nat → Int64) (x : Int32) : kM l yX9_heat cX9_heat 2 (some .long) (rmK 0 0 0 0) g [.ref ((ad 0)), .int x] (wC g ad (i, l_, a, h) cf) (kDl g (f_heat (i, l_, a, h) x) (wC g ad (i, l_, a, h) cf)) := by
  refine k_enter (by decide) (Nat.le_of_ble_eq_true rfl) ?_
  intro p e s m args below meth c A F
  refine k_iload_n (n := 1) F dX9_heat_0 rfl 1 rfl rfl ?_
  by_cases hc1 : x = 0
  · refine k_tableIn (off := 31) (tgt := 32) F dX9_heat_1 (by rw [hc1]; decide) (by rw [hc1]; decide) (by rw [hc1]; rfl) (by decide) ?_
    refine k_aload_n (n := 33) F dX9_heat_32 rfl 0 rfl rfl ?_
    refine k_get (n := 36) (v := .ref ((ad 2))) F uX9 0 1 rfl rfl (by decide) mw_197 rfl dX9_heat_33 rfl ?_
    refine k_getN (n := 39) (v := .long (h 0)) F uX4 2 4 rfl rfl (by decide) nw_3 rfl dX9_heat_36 rfl ?_
    exact k_lret F (by first | rfl | (simp only [f_heat, hc1, if_true, if_false, not_true_eq_false, not_false_eq_true]; done) | (simp only [f_heat, hc1, if_true, if_false, not_true_eq_false, not_false_eq_true]; rfl) | (simp [f_heat, hc1]; done) | (simp [f_heat, hc1]; rfl) | (simp_all [f_heat, hc1]; done)) (by first | rfl | (simp only [f_heat, hc1, if_true, if_false, not_true_eq_false, not_false_eq_true]; done) | (simp only [f_heat, hc1, if_true, if_false, not_true_eq_false, not_false_eq_true]; rfl) | (simp [f_heat, hc1]; done) | (simp [f_heat, hc1]; rfl) | (simp_all [f_heat, hc1]; done)) dX9_heat_39
  by_cases hc2 : x = 1
  · refine k_tableIn (off := 39) (tgt := 40) F dX9_heat_1 (by rw [hc2]; decide) (by rw [hc2]; decide) (by rw [hc2]; rfl) (by decide) ?_
    refine k_aload_n (n := 41) F dX9_heat_40 rfl 0 rfl rfl ?_
    refine k_get (n := 44) (v := .ref ((ad 2))) F uX9 0 1 rfl rfl (by decide) mw_197 rfl dX9_heat_41 rfl ?_
    refine k_getN (n := 47) (v := .long (h 1)) F uX4 2 5 rfl rfl (by decide) nw_4 rfl dX9_heat_44 rfl ?_
    exact k_lret F (by first | rfl | (simp only [f_heat, hc1, hc2, if_true, if_false, not_true_eq_false, not_false_eq_true]; done) | (simp only [f_heat, hc1, hc2, if_true, if_false, not_true_eq_false, not_false_eq_true]; rfl) | (simp [f_heat, hc1, hc2]; done) | (simp [f_heat, hc1, hc2]; rfl) | (simp_all [f_heat, hc1, hc2]; done)) (by first | rfl | (simp only [f_heat, hc1, hc2, if_true, if_false, not_true_eq_false, not_false_eq_true]; done) | (simp only [f_heat, hc1, hc2, if_true, if_false, not_true_eq_false, not_false_eq_true]; rfl) | (simp [f_heat, hc1, hc2]; done) | (simp [f_heat, hc1, hc2]; rfl) | (simp_all [f_heat, hc1, hc2]; done)) dX9_heat_47
  by_cases hc3 : x = 2
  · refine k_tableIn (off := 47) (tgt := 48) F dX9_heat_1 (by rw [hc3]; decide) (by rw [hc3]; decide) (by rw [hc3]; rfl) (by decide) ?_
    refine k_aload_n (n := 49) F dX9_heat_48 rfl 0 rfl rfl ?_
    refine k_get (n := 52) (v := .ref ((ad 2))) F uX9 0 1 rfl rfl (by decide) mw_197 rfl dX9_heat_49 rfl ?_
    refine k_getN (n := 55) (v := .long (h 2)) F uX4 2 6 rfl rfl (by decide) nw_5 rfl dX9_heat_52 rfl ?_
    exact k_lret F (by first | rfl | (simp only [f_heat, hc1, hc2, hc3, if_true, if_false, not_true_eq_false, not_false_eq_true]; done) | (simp only [f_heat, hc1, hc2, hc3, if_true, if_false, not_true_eq_false, not_false_eq_true]; rfl) | (simp [f_heat, hc1, hc2, hc3]; done) | (simp [f_heat, hc1, hc2, hc3]; rfl) | (simp_all [f_heat, hc1, hc2, hc3]; done)) (by first | rfl | (simp only [f_heat, hc1, hc2, hc3, if_true, if_false, not_true_eq_false, not_false_eq_true]; done) | (simp only [f_heat, hc1, hc2, hc3, if_true, if_false, not_true_eq_false, not_false_eq_true]; rfl) | (simp [f_heat, hc1, hc2, hc3]; done) | (simp [f_heat, hc1, hc2, hc3]; rfl) | (simp_all [f_heat, hc1, hc2, hc3]; done)) dX9_heat_55
  by_cases hc4 : x = 3
  · refine k_tableIn (off := 55) (tgt := 56) F dX9_heat_1 (by rw [hc4]; decide) (by rw [hc4]; decide) (by rw [hc4]; rfl) (by decide) ?_
    refine k_aload_n (n := 57) F dX9_heat_56 rfl 0 rfl rfl ?_
    refine k_get (n := 60) (v := .ref ((ad 2))) F uX9 0 1 rfl rfl (by decide) mw_197 rfl dX9_heat_57 rfl ?_
    refine k_getN (n := 63) (v := .long (h 3)) F uX4 2 7 rfl rfl (by decide) nw_6 rfl dX9_heat_60 rfl ?_
    exact k_lret F (by first | rfl | (simp only [f_heat, hc1, hc2, hc3, hc4, if_true, if_false, not_true_eq_false, not_false_eq_true]; done) | (simp only [f_heat, hc1, hc2, hc3, hc4, if_true, if_false, not_true_eq_false, not_false_eq_true]; rfl) | (simp [f_heat, hc1, hc2, hc3, hc4]; done) | (simp [f_heat, hc1, hc2, hc3, hc4]; rfl) | (simp_all [f_heat, hc1, hc2, hc3, hc4]; done)) (by first | rfl | (simp only [f_heat, hc1, hc2, hc3, hc4, if_true, if_false, not_true_eq_false, not_false_eq_true]; done) | (simp only [f_heat, hc1, hc2, hc3, hc4, if_true, if_false, not_true_eq_false, not_false_eq_true]; rfl) | (simp [f_heat, hc1, hc2, hc3, hc4]; done) | (simp [f_heat, hc1, hc2, hc3, hc4]; rfl) | (simp_all [f_heat, hc1, hc2, hc3, hc4]; done)) dX9_heat_63
  refine k_tableOut (tgt := 64) F dX9_heat_1 (by have z0 := lv_neT hc1 (show (0 : Int32).toInt = 0 from rfl); have z1 := lv_neT hc2 (show (1 : Int32).toInt = 1 from rfl); have z2 := lv_neT hc3 (show (2 : Int32).toInt = 2 from rfl); have z3 := lv_neT hc4 (show (3 : Int32).toInt = 3 from rfl); omega) (by decide) ?_
  refine k_ldc2 (n := 67) (v := -1) F mw_359 dX9_heat_64 rfl ?_
  exact k_lret F (by first | rfl | (simp only [f_heat, hc1, hc2, hc3, hc4, if_true, if_false, not_true_eq_false, not_false_eq_true]; done) | (simp only [f_heat, hc1, hc2, hc3, hc4, if_true, if_false, not_true_eq_false, not_false_eq_true]; rfl) | (simp [f_heat, hc1, hc2, hc3, hc4]; done) | (simp [f_heat, hc1, hc2, hc3, hc4]; rfl) | (simp_all [f_heat, hc1, hc2, hc3, hc4]; done)) (by first | rfl | (simp only [f_heat, hc1, hc2, hc3, hc4, if_true, if_false, not_true_eq_false, not_false_eq_true]; done) | (simp only [f_heat, hc1, hc2, hc3, hc4, if_true, if_false, not_true_eq_false, not_false_eq_true]; rfl) | (simp [f_heat, hc1, hc2, hc3, hc4]; done) | (simp [f_heat, hc1, hc2, hc3, hc4]; rfl) | (simp_all [f_heat, hc1, hc2, hc3, hc4]; done)) dX9_heat_67
set_option maxRecDepth 100000 in
set_option maxHeartbeats 4000000 in
theorem c_start (l : Launch) (g : kG) (ad : Nat → Nat) (cf : Nat → Option Nat) (i : Nat → Int32) (l_ : Nat → Int64) (a : Nat → Nat → Int32) (h : Nat → Int64) : kM l yX9_start cX9_start 1 (some .int) (rmK 2 0 0 41) g [.ref ((ad 0))] (wC g ad (i, l_, a, h) cf) (kDi g (f_start (i, l_, a, h)).1 (wC g ad (f_start (i, l_, a, h)).2 cf)) := by
  refine k_enter (by decide) (Nat.le_of_ble_eq_true rfl) ?_
  intro p e s m args below meth c A F
  refine k_aload_n (n := 1) F dX9_start_0 rfl 0 rfl rfl ?_
  refine k_get (n := 4) (v := .ref ((ad 5))) F uX9 0 2 rfl rfl (by decide) mw_198 rfl dX9_start_1 rfl ?_
  refine k_getN (n := 7) (v := .int (i 12)) F uX3 5 0 rfl rfl (by decide) nw_8 rfl dX9_start_4 rfl ?_
  refine k_if_ne (n := 10) (tgt := 30) F dX9_start_7 (by decide) rfl (fun hc1 => ?_) (fun hc1 => ?_)
  · refine k_bipush (n := 32) (v := -2) F dX9_start_30 rfl rfl ?_
    exact k_iret F (by first | rfl | (simp only [f_start, hc1, if_true, if_false, not_true_eq_false, not_false_eq_true]; done) | (simp only [f_start, hc1, if_true, if_false, not_true_eq_false, not_false_eq_true]; rfl) | (simp [f_start, hc1]; done) | (simp [f_start, hc1]; rfl) | (simp_all [f_start, hc1]; done)) (by first | rfl | (simp only [f_start, hc1, if_true, if_false, not_true_eq_false, not_false_eq_true]; done) | (simp only [f_start, hc1, if_true, if_false, not_true_eq_false, not_false_eq_true]; rfl) | (simp [f_start, hc1]; done) | (simp [f_start, hc1]; rfl) | (simp_all [f_start, hc1]; done)) dX9_start_32
  · refine k_aload_n (n := 11) F dX9_start_10 rfl 0 rfl rfl ?_
    refine k_get (n := 14) (v := .ref ((ad 6))) F uX9 0 3 rfl rfl (by decide) mw_199 rfl dX9_start_11 rfl ?_
    refine k_ciR (n := 17) F (k_rV (k := 0) (b := (ad 6)) (As := []) (rest := []) F (c_anyOn l g (ad 6) (ad 7) (ad 8) (a 22 0) (a 23 0) (a 24 0) (a 22 1) (a 23 1) (a 24 1) (a 10 4) (a 10 5)) [6, 7, 8] rfl rfl 0 rfl rfl mw_367 mw_364 mw_365 mw_366 mw_5 (by decide) ⟨by decide, by decide⟩ rfl (Nat.le_of_ble_eq_true rfl) ⟨by decide, by decide⟩ dX9_start_14) [6, 7, 8] rfl rfl ?_
    refine k_if_eq (n := 20) (tgt := 30) F dX9_start_17 (by decide) rfl (fun hc2 => ?_) (fun hc2 => ?_)
    · refine k_bipush (n := 32) (v := -2) F dX9_start_30 rfl rfl ?_
      exact k_iret F (by first | rfl | (simp only [f_start, hc1, hc2, if_true, if_false, not_true_eq_false, not_false_eq_true]; done) | (simp only [f_start, hc1, hc2, if_true, if_false, not_true_eq_false, not_false_eq_true]; rfl) | (simp [f_start, hc1, hc2]; done) | (simp [f_start, hc1, hc2]; rfl) | (simp_all [f_start, hc1, hc2]; done)) (by first | rfl | (simp only [f_start, hc1, hc2, if_true, if_false, not_true_eq_false, not_false_eq_true]; done) | (simp only [f_start, hc1, hc2, if_true, if_false, not_true_eq_false, not_false_eq_true]; rfl) | (simp [f_start, hc1, hc2]; done) | (simp [f_start, hc1, hc2]; rfl) | (simp_all [f_start, hc1, hc2]; done)) dX9_start_32
    · refine k_aload_n (n := 21) F dX9_start_20 rfl 0 rfl rfl ?_
      refine k_get (n := 24) (v := .ref ((ad 9))) F uX9 0 4 rfl rfl (by decide) mw_200 rfl dX9_start_21 rfl ?_
      refine k_ciR (n := 27) F (k_rV (k := 0) (b := (ad 9)) (As := []) (rest := []) F (c_isFull l g (ad 9) (a 10 3) (i 17) (i 18) (l_ 19) (l_ 20) (l_ 21)) [9] rfl rfl 0 rfl rfl mw_371 mw_368 mw_369 mw_370 mw_7 (by decide) ⟨by decide, by decide⟩ rfl (Nat.le_of_ble_eq_true rfl) ⟨by decide, by decide⟩ dX9_start_24) [9] rfl rfl ?_
      refine k_if_eq (n := 30) (tgt := 33) F dX9_start_27 (by decide) rfl (fun hc3 => ?_) (fun hc3 => ?_)
      · replace hc3 := kiteBt hc3
        refine k_aload_n (n := 34) F dX9_start_33 rfl 0 rfl rfl ?_
        refine k_get (n := 37) (v := .ref ((ad 5))) F uX9 0 2 rfl rfl (by decide) mw_198 rfl dX9_start_34 rfl ?_
        refine k_ci (n := 40) (ws' := wC g ad (upd (upd (upd (upd i 12 1) 34 0) 14 1) 15 1, l_, a, h) cf) F (k_rV (k := 0) (b := (ad 5)) (As := []) (rest := []) F (c_begin l g (ad 5) (i 12) (i 34) (i 32) (i 14) (i 15) (i 16)) [5] rfl rfl 0 rfl rfl mw_375 mw_372 mw_373 mw_374 mw_4 (by decide) ⟨by decide, by decide⟩ rfl (Nat.le_of_ble_eq_true rfl) ⟨by decide, by decide⟩ dX9_start_37) [5] [0, 1, 2, 3, 4, 6, 7, 8, 9, 10, 11, 12, 13, 14] [0, 1, 2, 3, 4, 14, 5, 6, 7, 8, 9, 10, 11, 12, 13] rfl rfl rfl (by decide) rfl rfl rfl ?_
        exact k_iret F (by first | rfl | (simp only [f_start, hc1, hc2, hc3, Int32.not_le.mp hc3, if_true, if_false, not_true_eq_false, not_false_eq_true]; done) | (simp only [f_start, hc1, hc2, hc3, Int32.not_le.mp hc3, if_true, if_false, not_true_eq_false, not_false_eq_true]; rfl) | (simp [f_start, hc1, hc2, hc3, Int32.not_le.mp hc3]; done) | (simp [f_start, hc1, hc2, hc3, Int32.not_le.mp hc3]; rfl) | (simp_all [f_start, hc1, hc2, hc3, Int32.not_le.mp hc3]; done)) (by first | rfl | (simp only [f_start, hc1, hc2, hc3, Int32.not_le.mp hc3, if_true, if_false, not_true_eq_false, not_false_eq_true]; done) | (simp only [f_start, hc1, hc2, hc3, Int32.not_le.mp hc3, if_true, if_false, not_true_eq_false, not_false_eq_true]; rfl) | (simp [f_start, hc1, hc2, hc3, Int32.not_le.mp hc3]; done) | (simp [f_start, hc1, hc2, hc3, Int32.not_le.mp hc3]; rfl) | (simp_all [f_start, hc1, hc2, hc3, Int32.not_le.mp hc3]; done)) dX9_start_40
      · replace hc3 := kiteBf hc3
        refine k_bipush (n := 32) (v := -2) F dX9_start_30 rfl rfl ?_
        exact k_iret F (by first | rfl | (simp only [f_start, hc1, hc2, hc3, Int32.not_lt.mpr hc3, if_true, if_false, not_true_eq_false, not_false_eq_true]; done) | (simp only [f_start, hc1, hc2, hc3, Int32.not_lt.mpr hc3, if_true, if_false, not_true_eq_false, not_false_eq_true]; rfl) | (simp [f_start, hc1, hc2, hc3, Int32.not_lt.mpr hc3]; done) | (simp [f_start, hc1, hc2, hc3, Int32.not_lt.mpr hc3]; rfl) | (simp_all [f_start, hc1, hc2, hc3, Int32.not_lt.mpr hc3]; done)) (by first | rfl | (simp only [f_start, hc1, hc2, hc3, Int32.not_lt.mpr hc3, if_true, if_false, not_true_eq_false, not_false_eq_true]; done) | (simp only [f_start, hc1, hc2, hc3, Int32.not_lt.mpr hc3, if_true, if_false, not_true_eq_false, not_false_eq_true]; rfl) | (simp [f_start, hc1, hc2, hc3, Int32.not_lt.mpr hc3]; done) | (simp [f_start, hc1, hc2, hc3, Int32.not_lt.mpr hc3]; rfl) | (simp_all [f_start, hc1, hc2, hc3, Int32.not_lt.mpr hc3]; done)) dX9_start_32
set_option maxRecDepth 100000 in
set_option maxHeartbeats 4000000 in
theorem c_low (l : Launch) (g : kG) (ad : Nat → Nat) (cf : Nat → Option Nat) (i : Nat → Int32) (l_ : Nat → Int64) (a : Nat → Nat → Int32) (h : Nat → Int64) : kM l yX9_low cX9_low 1 (some .int) (rmK 1 0 0 21) g [.ref ((ad 0))] (wC g ad (i, l_, a, h) cf) (kDi g (f_low (i, l_, a, h)).1 (wC g ad (f_low (i, l_, a, h)).2 cf)) := by
  refine k_enter (by decide) (Nat.le_of_ble_eq_true rfl) ?_
  intro p e s m args below meth c A F
  refine k_aload_n (n := 1) F dX9_low_0 rfl 0 rfl rfl ?_
  refine k_get (n := 4) (v := .ref ((ad 5))) F uX9 0 2 rfl rfl (by decide) mw_198 rfl dX9_low_1 rfl ?_
  refine k_getN (n := 7) (v := .int (i 12)) F uX3 5 0 rfl rfl (by decide) nw_8 rfl dX9_low_4 rfl ?_
  refine k_iconst (n := 8) (v := 2) F dX9_low_7 rfl rfl ?_
  refine k_icmp_ne (n := 11) (tgt := 22) F dX9_low_8 (by decide) rfl (fun hc1 => ?_) (fun hc1 => ?_)
  · refine k_bipush (n := 24) (v := -2) F dX9_low_22 rfl rfl ?_
    exact k_iret F (by first | rfl | (simp only [f_low, hc1, if_true, if_false, not_true_eq_false, not_false_eq_true]; done) | (simp only [f_low, hc1, if_true, if_false, not_true_eq_false, not_false_eq_true]; rfl) | (simp [f_low, hc1]; done) | (simp [f_low, hc1]; rfl) | (simp_all [f_low, hc1]; done)) (by first | rfl | (simp only [f_low, hc1, if_true, if_false, not_true_eq_false, not_false_eq_true]; done) | (simp only [f_low, hc1, if_true, if_false, not_true_eq_false, not_false_eq_true]; rfl) | (simp [f_low, hc1]; done) | (simp [f_low, hc1]; rfl) | (simp_all [f_low, hc1]; done)) dX9_low_24
  · refine k_aload_n (n := 12) F dX9_low_11 rfl 0 rfl rfl ?_
    refine k_get (n := 15) (v := .ref ((ad 5))) F uX9 0 2 rfl rfl (by decide) mw_198 rfl dX9_low_12 rfl ?_
    refine k_iconst (n := 16) (v := 3) F dX9_low_15 rfl rfl ?_
    refine k_ci (n := 19) (ws' := wC g ad (upd (upd i 12 3) 34 0, l_, a, h) cf) F (k_rV (k := 1) (b := (ad 5)) (As := [.int 3]) (rest := []) F (c_enter l g (ad 5) (i 12) (i 34) (i 32) (i 14) (i 15) (i 16) 3) [5] rfl rfl 0 rfl rfl mw_379 mw_384 mw_377 mw_378 mw_4 (by decide) ⟨by decide, by decide⟩ rfl (Nat.le_of_ble_eq_true rfl) ⟨by decide, by decide⟩ dX9_low_16) [5] [0, 1, 2, 3, 4, 6, 7, 8, 9, 10, 11, 12, 13, 14] [0, 1, 2, 3, 4, 14, 5, 6, 7, 8, 9, 10, 11, 12, 13] rfl rfl rfl (by decide) rfl rfl rfl ?_
    refine k_goto (tgt := 24) F dX9_low_19 (by decide) ?_
    exact k_iret F (by first | rfl | (simp only [f_low, hc1, if_true, if_false, not_true_eq_false, not_false_eq_true]; done) | (simp only [f_low, hc1, if_true, if_false, not_true_eq_false, not_false_eq_true]; rfl) | (simp [f_low, hc1]; done) | (simp [f_low, hc1]; rfl) | (simp_all [f_low, hc1]; done)) (by first | rfl | (simp only [f_low, hc1, if_true, if_false, not_true_eq_false, not_false_eq_true]; done) | (simp only [f_low, hc1, if_true, if_false, not_true_eq_false, not_false_eq_true]; rfl) | (simp [f_low, hc1]; done) | (simp [f_low, hc1]; rfl) | (simp_all [f_low, hc1]; done)) dX9_low_24
set_option maxRecDepth 100000 in
set_option maxHeartbeats 4000000 in
theorem c_high (l : Launch) (g : kG) (ad : Nat → Nat) (cf : Nat → Option Nat) (i : Nat → Int32) (l_ : Nat → Int64) (a : Nat → Nat → Int32) (h : Nat → Int64) : kM l yX9_high cX9_high 1 (some .int) (rmK 1 0 0 21) g [.ref ((ad 0))] (wC g ad (i, l_, a, h) cf) (kDi g (f_high (i, l_, a, h)).1 (wC g ad (f_high (i, l_, a, h)).2 cf)) := by
  refine k_enter (by decide) (Nat.le_of_ble_eq_true rfl) ?_
  intro p e s m args below meth c A F
  refine k_aload_n (n := 1) F dX9_high_0 rfl 0 rfl rfl ?_
  refine k_get (n := 4) (v := .ref ((ad 5))) F uX9 0 2 rfl rfl (by decide) mw_198 rfl dX9_high_1 rfl ?_
  refine k_getN (n := 7) (v := .int (i 12)) F uX3 5 0 rfl rfl (by decide) nw_8 rfl dX9_high_4 rfl ?_
  refine k_iconst (n := 8) (v := 3) F dX9_high_7 rfl rfl ?_
  refine k_icmp_ne (n := 11) (tgt := 22) F dX9_high_8 (by decide) rfl (fun hc1 => ?_) (fun hc1 => ?_)
  · refine k_bipush (n := 24) (v := -2) F dX9_high_22 rfl rfl ?_
    exact k_iret F (by first | rfl | (simp only [f_high, hc1, if_true, if_false, not_true_eq_false, not_false_eq_true]; done) | (simp only [f_high, hc1, if_true, if_false, not_true_eq_false, not_false_eq_true]; rfl) | (simp [f_high, hc1]; done) | (simp [f_high, hc1]; rfl) | (simp_all [f_high, hc1]; done)) (by first | rfl | (simp only [f_high, hc1, if_true, if_false, not_true_eq_false, not_false_eq_true]; done) | (simp only [f_high, hc1, if_true, if_false, not_true_eq_false, not_false_eq_true]; rfl) | (simp [f_high, hc1]; done) | (simp [f_high, hc1]; rfl) | (simp_all [f_high, hc1]; done)) dX9_high_24
  · refine k_aload_n (n := 12) F dX9_high_11 rfl 0 rfl rfl ?_
    refine k_get (n := 15) (v := .ref ((ad 5))) F uX9 0 2 rfl rfl (by decide) mw_198 rfl dX9_high_12 rfl ?_
    refine k_iconst (n := 16) (v := 2) F dX9_high_15 rfl rfl ?_
    refine k_ci (n := 19) (ws' := wC g ad (upd (upd i 12 2) 34 0, l_, a, h) cf) F (k_rV (k := 1) (b := (ad 5)) (As := [.int 2]) (rest := []) F (c_enter l g (ad 5) (i 12) (i 34) (i 32) (i 14) (i 15) (i 16) 2) [5] rfl rfl 0 rfl rfl mw_379 mw_384 mw_377 mw_378 mw_4 (by decide) ⟨by decide, by decide⟩ rfl (Nat.le_of_ble_eq_true rfl) ⟨by decide, by decide⟩ dX9_high_16) [5] [0, 1, 2, 3, 4, 6, 7, 8, 9, 10, 11, 12, 13, 14] [0, 1, 2, 3, 4, 14, 5, 6, 7, 8, 9, 10, 11, 12, 13] rfl rfl rfl (by decide) rfl rfl rfl ?_
    refine k_goto (tgt := 24) F dX9_high_19 (by decide) ?_
    exact k_iret F (by first | rfl | (simp only [f_high, hc1, if_true, if_false, not_true_eq_false, not_false_eq_true]; done) | (simp only [f_high, hc1, if_true, if_false, not_true_eq_false, not_false_eq_true]; rfl) | (simp [f_high, hc1]; done) | (simp [f_high, hc1]; rfl) | (simp_all [f_high, hc1]; done)) (by first | rfl | (simp only [f_high, hc1, if_true, if_false, not_true_eq_false, not_false_eq_true]; done) | (simp only [f_high, hc1, if_true, if_false, not_true_eq_false, not_false_eq_true]; rfl) | (simp [f_high, hc1]; done) | (simp [f_high, hc1]; rfl) | (simp_all [f_high, hc1]; done)) dX9_high_24
set_option maxRecDepth 100000 in
set_option maxHeartbeats 4000000 in
theorem c_trip (l : Launch) (g : kG) (ad : Nat → Nat) (cf : Nat → Option Nat) (i : Nat → Int32) (l_ : Nat → Int64) (a : Nat → Nat → Int32) (h : Nat → Int64) : kM l yX9_trip cX9_trip 1 (some .int) (rmK 2 0 0 41) g [.ref ((ad 0))] (wC g ad (i, l_, a, h) cf) (kDi g (f_trip (i, l_, a, h)).1 (wC g ad (f_trip (i, l_, a, h)).2 cf)) := by
  refine k_enter (by decide) (Nat.le_of_ble_eq_true rfl) ?_
  intro p e s m args below meth c A F
  refine k_aload_n (n := 1) F dX9_trip_0 rfl 0 rfl rfl ?_
  refine k_get (n := 4) (v := .ref ((ad 5))) F uX9 0 2 rfl rfl (by decide) mw_198 rfl dX9_trip_1 rfl ?_
  refine k_getN (n := 7) (v := .int (i 12)) F uX3 5 0 rfl rfl (by decide) nw_8 rfl dX9_trip_4 rfl ?_
  refine k_if_eq (n := 10) (tgt := 21) F dX9_trip_7 (by decide) rfl (fun hc1 => ?_) (fun hc1 => ?_)
  · refine k_bipush (n := 23) (v := -2) F dX9_trip_21 rfl rfl ?_
    exact k_iret F (by first | rfl | (simp only [f_trip, s_trip, hc1, if_true, if_false, not_true_eq_false, not_false_eq_true]; done) | (simp only [f_trip, s_trip, hc1, if_true, if_false, not_true_eq_false, not_false_eq_true]; rfl) | (simp [f_trip, s_trip, hc1]; done) | (simp [f_trip, s_trip, hc1]; rfl) | (simp_all [f_trip, s_trip, hc1]; done)) (by first | rfl | (simp only [f_trip, s_trip, hc1, if_true, if_false, not_true_eq_false, not_false_eq_true]; done) | (simp only [f_trip, s_trip, hc1, if_true, if_false, not_true_eq_false, not_false_eq_true]; rfl) | (simp [f_trip, s_trip, hc1]; done) | (simp [f_trip, s_trip, hc1]; rfl) | (simp_all [f_trip, s_trip, hc1]; done)) dX9_trip_23
  · refine k_aload_n (n := 11) F dX9_trip_10 rfl 0 rfl rfl ?_
    refine k_get (n := 14) (v := .ref ((ad 5))) F uX9 0 2 rfl rfl (by decide) mw_198 rfl dX9_trip_11 rfl ?_
    refine k_getN (n := 17) (v := .int (i 12)) F uX3 5 0 rfl rfl (by decide) nw_8 rfl dX9_trip_14 rfl ?_
    refine k_iconst (n := 18) (v := 4) F dX9_trip_17 rfl rfl ?_
    refine k_icmp_ne (n := 21) (tgt := 24) F dX9_trip_18 (by decide) rfl (fun hc2 => ?_) (fun hc2 => ?_)
    · refine k_aload_n (n := 25) F dX9_trip_24 rfl 0 rfl rfl ?_
      refine k_get (n := 28) (v := .ref ((ad 5))) F uX9 0 2 rfl rfl (by decide) mw_198 rfl dX9_trip_25 rfl ?_
      refine k_ci (n := 31) (ws' := wC g ad (upd (upd (upd i 12 4) 34 0) 32 ((i 32) + 1), l_, a, h) cf) F (k_rV (k := 0) (b := (ad 5)) (As := []) (rest := []) F (c_shutDown l g (ad 5) (i 12) (i 34) (i 32) (i 14) (i 15) (i 16)) [5] rfl rfl 0 rfl rfl mw_396 mw_393 mw_394 mw_395 mw_4 (by decide) ⟨by decide, by decide⟩ rfl (Nat.le_of_ble_eq_true rfl) ⟨by decide, by decide⟩ dX9_trip_28) [5] [0, 1, 2, 3, 4, 6, 7, 8, 9, 10, 11, 12, 13, 14] [0, 1, 2, 3, 4, 14, 5, 6, 7, 8, 9, 10, 11, 12, 13] rfl rfl rfl (by decide) rfl rfl rfl ?_
      exact k_iret F (by first | rfl | (simp only [f_trip, s_trip, hc1, hc2, if_true, if_false, not_true_eq_false, not_false_eq_true]; done) | (simp only [f_trip, s_trip, hc1, hc2, if_true, if_false, not_true_eq_false, not_false_eq_true]; rfl) | (simp [f_trip, s_trip, hc1, hc2]; done) | (simp [f_trip, s_trip, hc1, hc2]; rfl) | (simp_all [f_trip, s_trip, hc1, hc2]; done)) (by first | rfl | (simp only [f_trip, s_trip, hc1, hc2, if_true, if_false, not_true_eq_false, not_false_eq_true]; done) | (simp only [f_trip, s_trip, hc1, hc2, if_true, if_false, not_true_eq_false, not_false_eq_true]; rfl) | (simp [f_trip, s_trip, hc1, hc2]; done) | (simp [f_trip, s_trip, hc1, hc2]; rfl) | (simp_all [f_trip, s_trip, hc1, hc2]; done)) dX9_trip_31
    · refine k_bipush (n := 23) (v := -2) F dX9_trip_21 rfl rfl ?_
      exact k_iret F (by first | rfl | (simp only [f_trip, s_trip, hc1, hc2, if_true, if_false, not_true_eq_false, not_false_eq_true]; done) | (simp only [f_trip, s_trip, hc1, hc2, if_true, if_false, not_true_eq_false, not_false_eq_true]; rfl) | (simp [f_trip, s_trip, hc1, hc2]; done) | (simp [f_trip, s_trip, hc1, hc2]; rfl) | (simp_all [f_trip, s_trip, hc1, hc2]; done)) (by first | rfl | (simp only [f_trip, s_trip, hc1, hc2, if_true, if_false, not_true_eq_false, not_false_eq_true]; done) | (simp only [f_trip, s_trip, hc1, hc2, if_true, if_false, not_true_eq_false, not_false_eq_true]; rfl) | (simp [f_trip, s_trip, hc1, hc2]; done) | (simp [f_trip, s_trip, hc1, hc2]; rfl) | (simp_all [f_trip, s_trip, hc1, hc2]; done)) dX9_trip_23
set_option maxRecDepth 100000 in
set_option maxHeartbeats 4000000 in
theorem c_reset (l : Launch) (g : kG) (ad : Nat → Nat) (cf : Nat → Option Nat) (i : Nat → Int32) (l_ : Nat → Int64) (a : Nat → Nat → Int32) (h : Nat → Int64) : kM l yX9_reset cX9_reset 1 (some .int) (rmK 2 0 0 41) g [.ref ((ad 0))] (wC g ad (i, l_, a, h) cf) (kDi g (f_reset (i, l_, a, h)).1 (wC g ad (f_reset (i, l_, a, h)).2 cf)) := by
  refine k_enter (by decide) (Nat.le_of_ble_eq_true rfl) ?_
  intro p e s m args below meth c A F
  refine k_aload_n (n := 1) F dX9_reset_0 rfl 0 rfl rfl ?_
  refine k_get (n := 4) (v := .ref ((ad 5))) F uX9 0 2 rfl rfl (by decide) mw_198 rfl dX9_reset_1 rfl ?_
  refine k_getN (n := 7) (v := .int (i 12)) F uX3 5 0 rfl rfl (by decide) nw_8 rfl dX9_reset_4 rfl ?_
  refine k_iconst (n := 8) (v := 4) F dX9_reset_7 rfl rfl ?_
  refine k_icmp_ne (n := 11) (tgt := 21) F dX9_reset_8 (by decide) rfl (fun hc1 => ?_) (fun hc1 => ?_)
  · refine k_bipush (n := 23) (v := -2) F dX9_reset_21 rfl rfl ?_
    exact k_iret F (by first | rfl | (simp only [f_reset, hc1, if_true, if_false, not_true_eq_false, not_false_eq_true]; done) | (simp only [f_reset, hc1, if_true, if_false, not_true_eq_false, not_false_eq_true]; rfl) | (simp [f_reset, hc1]; done) | (simp [f_reset, hc1]; rfl) | (simp_all [f_reset, hc1]; done)) (by first | rfl | (simp only [f_reset, hc1, if_true, if_false, not_true_eq_false, not_false_eq_true]; done) | (simp only [f_reset, hc1, if_true, if_false, not_true_eq_false, not_false_eq_true]; rfl) | (simp [f_reset, hc1]; done) | (simp [f_reset, hc1]; rfl) | (simp_all [f_reset, hc1]; done)) dX9_reset_23
  · refine k_aload_n (n := 12) F dX9_reset_11 rfl 0 rfl rfl ?_
    refine k_get (n := 15) (v := .ref ((ad 5))) F uX9 0 2 rfl rfl (by decide) mw_198 rfl dX9_reset_12 rfl ?_
    refine k_getN (n := 18) (v := .int (i 16)) F uX3 5 5 rfl rfl (by decide) nw_12 rfl dX9_reset_15 rfl ?_
    refine k_if_ne (n := 21) (tgt := 24) F dX9_reset_18 (by decide) rfl (fun hc2 => ?_) (fun hc2 => ?_)
    · refine k_aload_n (n := 25) F dX9_reset_24 rfl 0 rfl rfl ?_
      refine k_get (n := 28) (v := .ref ((ad 5))) F uX9 0 2 rfl rfl (by decide) mw_198 rfl dX9_reset_25 rfl ?_
      refine k_ci (n := 31) (ws' := wC g ad (upd (upd (upd i 12 0) 34 0) 16 0, l_, a, h) cf) F (k_rV (k := 0) (b := (ad 5)) (As := []) (rest := []) F (c_settle l g (ad 5) (i 12) (i 34) (i 32) (i 14) (i 15) (i 16)) [5] rfl rfl 0 rfl rfl mw_404 mw_401 mw_402 mw_403 mw_4 (by decide) ⟨by decide, by decide⟩ rfl (Nat.le_of_ble_eq_true rfl) ⟨by decide, by decide⟩ dX9_reset_28) [5] [0, 1, 2, 3, 4, 6, 7, 8, 9, 10, 11, 12, 13, 14] [0, 1, 2, 3, 4, 14, 5, 6, 7, 8, 9, 10, 11, 12, 13] rfl rfl rfl (by decide) rfl rfl rfl ?_
      exact k_iret F (by first | rfl | (simp only [f_reset, hc1, hc2, if_true, if_false, not_true_eq_false, not_false_eq_true]; done) | (simp only [f_reset, hc1, hc2, if_true, if_false, not_true_eq_false, not_false_eq_true]; rfl) | (simp [f_reset, hc1, hc2]; done) | (simp [f_reset, hc1, hc2]; rfl) | (simp_all [f_reset, hc1, hc2]; done)) (by first | rfl | (simp only [f_reset, hc1, hc2, if_true, if_false, not_true_eq_false, not_false_eq_true]; done) | (simp only [f_reset, hc1, hc2, if_true, if_false, not_true_eq_false, not_false_eq_true]; rfl) | (simp [f_reset, hc1, hc2]; done) | (simp [f_reset, hc1, hc2]; rfl) | (simp_all [f_reset, hc1, hc2]; done)) dX9_reset_31
    · refine k_bipush (n := 23) (v := -2) F dX9_reset_21 rfl rfl ?_
      exact k_iret F (by first | rfl | (simp only [f_reset, hc1, hc2, if_true, if_false, not_true_eq_false, not_false_eq_true]; done) | (simp only [f_reset, hc1, hc2, if_true, if_false, not_true_eq_false, not_false_eq_true]; rfl) | (simp [f_reset, hc1, hc2]; done) | (simp [f_reset, hc1, hc2]; rfl) | (simp_all [f_reset, hc1, hc2]; done)) (by first | rfl | (simp only [f_reset, hc1, hc2, if_true, if_false, not_true_eq_false, not_false_eq_true]; done) | (simp only [f_reset, hc1, hc2, if_true, if_false, not_true_eq_false, not_false_eq_true]; rfl) | (simp [f_reset, hc1, hc2]; done) | (simp [f_reset, hc1, hc2]; rfl) | (simp_all [f_reset, hc1, hc2]; done)) dX9_reset_23
set_option maxRecDepth 100000 in
set_option maxHeartbeats 4000000 in
theorem c_adsorber (l : Launch) (g : kG) (ad : Nat → Nat) (cf : Nat → Option Nat) (i : Nat → Int32) (l_ : Nat → Int64) (a : Nat → Nat → Int32) (h : Nat → Int64) (x y : Int32) : kM l yX9_adsorber cX9_adsorber 3 (some .int) (rmK 2 0 0 43) g [.ref ((ad 0)), .int x, .int y] (wC g ad (i, l_, a, h) cf) (kDi g (f_adsorber (i, l_, a, h) x y) (wC g ad (i, l_, a, h) cf)) := by
  refine k_enter (by decide) (Nat.le_of_ble_eq_true rfl) ?_
  intro p e s m args below meth c A F
  refine k_aload_n (n := 1) F dX9_adsorber_0 rfl 0 rfl rfl ?_
  refine k_get (n := 4) (v := .ref ((ad 6))) F uX9 0 3 rfl rfl (by decide) mw_199 rfl dX9_adsorber_1 rfl ?_
  refine k_iload_n (n := 5) F dX9_adsorber_4 rfl 1 rfl rfl ?_
  refine k_iload_n (n := 6) F dX9_adsorber_5 rfl 2 rfl rfl ?_
  refine k_ciR (n := 9) F (k_rV (k := 2) (b := (ad 6)) (As := [.int x, .int y]) (rest := []) F (c_tell l g (ad 6) (ad 7) (ad 8) (a 22 0) (a 23 0) (a 24 0) (a 22 1) (a 23 1) (a 24 1) (a 10 4) (a 10 5) x y) [6, 7, 8] rfl rfl 0 rfl rfl mw_482 mw_479 mw_480 mw_481 mw_5 (by decide) ⟨by decide, by decide⟩ rfl (Nat.le_of_ble_eq_true rfl) ⟨by decide, by decide⟩ dX9_adsorber_6) [6, 7, 8] rfl rfl ?_
  exact k_iret F (by first | rfl | (simp only [f_adsorber, if_true, if_false, not_true_eq_false, not_false_eq_true]; done) | (simp only [f_adsorber, if_true, if_false, not_true_eq_false, not_false_eq_true]; rfl) | (simp [f_adsorber]; done) | (simp [f_adsorber]; rfl) | (simp_all [f_adsorber]; done)) (by first | rfl | (simp only [f_adsorber, if_true, if_false, not_true_eq_false, not_false_eq_true]; done) | (simp only [f_adsorber, if_true, if_false, not_true_eq_false, not_false_eq_true]; rfl) | (simp [f_adsorber]; done) | (simp [f_adsorber]; rfl) | (simp_all [f_adsorber]; done)) dX9_adsorber_9
set_option maxRecDepth 100000 in
set_option maxHeartbeats 4000000 in
theorem c_valve (l : Launch) (g : kG) (ad : Nat → Nat) (cf : Nat → Option Nat) (i : Nat → Int32) (l_ : Nat → Int64) (a : Nat → Nat → Int32) (h : Nat → Int64) (x : Int32) : kM l yX9_valve cX9_valve 2 (some .int) (rmK 1 0 0 20) g [.ref ((ad 0)), .int x] (wC g ad (i, l_, a, h) cf) (kDi g (f_valve (i, l_, a, h) x) (wC g ad (i, l_, a, h) cf)) := by
  refine k_enter (by decide) (Nat.le_of_ble_eq_true rfl) ?_
  intro p e s m args below meth c A F
  refine k_iload_n (n := 1) F dX9_valve_0 rfl 1 rfl rfl ?_
  by_cases hc1 : x = 0
  · refine k_tableIn (off := 27) (tgt := 28) F dX9_valve_1 (by rw [hc1]; decide) (by rw [hc1]; decide) (by rw [hc1]; rfl) (by decide) ?_
    refine k_aload_n (n := 29) F dX9_valve_28 rfl 0 rfl rfl ?_
    refine k_get (n := 32) (v := .ref ((ad 5))) F uX9 0 2 rfl rfl (by decide) mw_198 rfl dX9_valve_29 rfl ?_
    refine k_getN (n := 35) (v := .int (i 14)) F uX3 5 3 rfl rfl (by decide) nw_10 rfl dX9_valve_32 rfl ?_
    refine k_ciR (n := 38) F (k_rS (k := 1) (As := [.int (i 14)]) (rest := []) F (c_asNumber l g (i 14)) [] rfl rfl mw_493 mw_491 mw_492 mw_1 (by decide) ⟨by decide, by decide⟩ rfl (Nat.le_of_ble_eq_true rfl) ⟨by decide, by decide⟩ dX9_valve_35) [] rfl rfl ?_
    exact k_iret F (by first | rfl | (simp only [f_valve, hc1, if_true, if_false, not_true_eq_false, not_false_eq_true]; done) | (simp only [f_valve, hc1, if_true, if_false, not_true_eq_false, not_false_eq_true]; rfl) | (simp [f_valve, hc1]; done) | (simp [f_valve, hc1]; rfl) | (simp_all [f_valve, hc1]; done)) (by first | rfl | (simp only [f_valve, hc1, if_true, if_false, not_true_eq_false, not_false_eq_true]; done) | (simp only [f_valve, hc1, if_true, if_false, not_true_eq_false, not_false_eq_true]; rfl) | (simp [f_valve, hc1]; done) | (simp [f_valve, hc1]; rfl) | (simp_all [f_valve, hc1]; done)) dX9_valve_38
  by_cases hc2 : x = 1
  · refine k_tableIn (off := 38) (tgt := 39) F dX9_valve_1 (by rw [hc2]; decide) (by rw [hc2]; decide) (by rw [hc2]; rfl) (by decide) ?_
    refine k_aload_n (n := 40) F dX9_valve_39 rfl 0 rfl rfl ?_
    refine k_get (n := 43) (v := .ref ((ad 5))) F uX9 0 2 rfl rfl (by decide) mw_198 rfl dX9_valve_40 rfl ?_
    refine k_getN (n := 46) (v := .int (i 15)) F uX3 5 4 rfl rfl (by decide) nw_11 rfl dX9_valve_43 rfl ?_
    refine k_ciR (n := 49) F (k_rS (k := 1) (As := [.int (i 15)]) (rest := []) F (c_asNumber l g (i 15)) [] rfl rfl mw_493 mw_491 mw_492 mw_1 (by decide) ⟨by decide, by decide⟩ rfl (Nat.le_of_ble_eq_true rfl) ⟨by decide, by decide⟩ dX9_valve_46) [] rfl rfl ?_
    exact k_iret F (by first | rfl | (simp only [f_valve, hc1, hc2, if_true, if_false, not_true_eq_false, not_false_eq_true]; done) | (simp only [f_valve, hc1, hc2, if_true, if_false, not_true_eq_false, not_false_eq_true]; rfl) | (simp [f_valve, hc1, hc2]; done) | (simp [f_valve, hc1, hc2]; rfl) | (simp_all [f_valve, hc1, hc2]; done)) (by first | rfl | (simp only [f_valve, hc1, hc2, if_true, if_false, not_true_eq_false, not_false_eq_true]; done) | (simp only [f_valve, hc1, hc2, if_true, if_false, not_true_eq_false, not_false_eq_true]; rfl) | (simp [f_valve, hc1, hc2]; done) | (simp [f_valve, hc1, hc2]; rfl) | (simp_all [f_valve, hc1, hc2]; done)) dX9_valve_49
  by_cases hc3 : x = 2
  · refine k_tableIn (off := 49) (tgt := 50) F dX9_valve_1 (by rw [hc3]; decide) (by rw [hc3]; decide) (by rw [hc3]; rfl) (by decide) ?_
    refine k_aload_n (n := 51) F dX9_valve_50 rfl 0 rfl rfl ?_
    refine k_get (n := 54) (v := .ref ((ad 5))) F uX9 0 2 rfl rfl (by decide) mw_198 rfl dX9_valve_51 rfl ?_
    refine k_getN (n := 57) (v := .int (i 16)) F uX3 5 5 rfl rfl (by decide) nw_12 rfl dX9_valve_54 rfl ?_
    refine k_ciR (n := 60) F (k_rS (k := 1) (As := [.int (i 16)]) (rest := []) F (c_asNumber l g (i 16)) [] rfl rfl mw_493 mw_491 mw_492 mw_1 (by decide) ⟨by decide, by decide⟩ rfl (Nat.le_of_ble_eq_true rfl) ⟨by decide, by decide⟩ dX9_valve_57) [] rfl rfl ?_
    exact k_iret F (by first | rfl | (simp only [f_valve, hc1, hc2, hc3, if_true, if_false, not_true_eq_false, not_false_eq_true]; done) | (simp only [f_valve, hc1, hc2, hc3, if_true, if_false, not_true_eq_false, not_false_eq_true]; rfl) | (simp [f_valve, hc1, hc2, hc3]; done) | (simp [f_valve, hc1, hc2, hc3]; rfl) | (simp_all [f_valve, hc1, hc2, hc3]; done)) (by first | rfl | (simp only [f_valve, hc1, hc2, hc3, if_true, if_false, not_true_eq_false, not_false_eq_true]; done) | (simp only [f_valve, hc1, hc2, hc3, if_true, if_false, not_true_eq_false, not_false_eq_true]; rfl) | (simp [f_valve, hc1, hc2, hc3]; done) | (simp [f_valve, hc1, hc2, hc3]; rfl) | (simp_all [f_valve, hc1, hc2, hc3]; done)) dX9_valve_60
  refine k_tableOut (tgt := 61) F dX9_valve_1 (by have z0 := lv_neT hc1 (show (0 : Int32).toInt = 0 from rfl); have z1 := lv_neT hc2 (show (1 : Int32).toInt = 1 from rfl); have z2 := lv_neT hc3 (show (2 : Int32).toInt = 2 from rfl); omega) (by decide) ?_
  refine k_iconst (n := 62) (v := -1) F dX9_valve_61 rfl rfl ?_
  exact k_iret F (by first | rfl | (simp only [f_valve, hc1, hc2, hc3, if_true, if_false, not_true_eq_false, not_false_eq_true]; done) | (simp only [f_valve, hc1, hc2, hc3, if_true, if_false, not_true_eq_false, not_false_eq_true]; rfl) | (simp [f_valve, hc1, hc2, hc3]; done) | (simp [f_valve, hc1, hc2, hc3]; rfl) | (simp_all [f_valve, hc1, hc2, hc3]; done)) (by first | rfl | (simp only [f_valve, hc1, hc2, hc3, if_true, if_false, not_true_eq_false, not_false_eq_true]; done) | (simp only [f_valve, hc1, hc2, hc3, if_true, if_false, not_true_eq_false, not_false_eq_true]; rfl) | (simp [f_valve, hc1, hc2, hc3]; done) | (simp [f_valve, hc1, hc2, hc3]; rfl) | (simp_all [f_valve, hc1, hc2, hc3]; done)) dX9_valve_62
set_option maxRecDepth 100000 in
set_option maxHeartbeats 4000000 in
theorem c_order (l : Launch) (g : kG) (ad : Nat → Nat) (cf : Nat → Option Nat) (i : Nat → Int32) (l_ : Nat → Int64) (a : Nat → Nat → Int32) (h : Nat → Int64) (n d : Int32) (h25 : 0 ≤ i 25) : kM l yX9_order cX9_order 3 (some .int) (rmK 1 0 0 22) g [.ref ((ad 0)), .int n, .int d] (wC g ad (i, l_, a, h) cf) (kDi g (f_order (i, l_, a, h) n d).1 (wC g ad (f_order (i, l_, a, h) n d).2 cf)) := by
  refine k_enter (by decide) (Nat.le_of_ble_eq_true rfl) ?_
  intro p e s m args below meth c A F
  refine k_iload_n (n := 1) F dX9_order_0 rfl 1 rfl rfl ?_
  refine k_iconst (n := 2) (v := 1) F dX9_order_1 rfl rfl ?_
  refine k_sipush (n := 5) (v := 500) F dX9_order_2 rfl rfl ?_
  refine k_ciR (n := 8) F (k_rS (k := 3) (As := [.int n, .int 1, .int 500]) (rest := []) F (c_within l g n 1 500) [] rfl rfl mw_243 mw_241 mw_242 mw_1 (by decide) ⟨by decide, by decide⟩ rfl (Nat.le_of_ble_eq_true rfl) ⟨by decide, by decide⟩ dX9_order_5) [] rfl rfl ?_
  refine k_if_eq (n := 11) (tgt := 21) F dX9_order_8 (by decide) rfl (fun hc1 => ?_) (fun hc1 => ?_)
  · refine k_iconst (n := 22) (v := -1) F dX9_order_21 rfl rfl ?_
    exact k_iret F (by first | rfl | (simp only [f_order, hc1, if_true, if_false, not_true_eq_false, not_false_eq_true]; done) | (simp only [f_order, hc1, if_true, if_false, not_true_eq_false, not_false_eq_true]; rfl) | (simp [f_order, hc1]; done) | (simp [f_order, hc1]; rfl) | (simp_all [f_order, hc1]; done)) (by first | rfl | (simp only [f_order, hc1, if_true, if_false, not_true_eq_false, not_false_eq_true]; done) | (simp only [f_order, hc1, if_true, if_false, not_true_eq_false, not_false_eq_true]; rfl) | (simp [f_order, hc1]; done) | (simp [f_order, hc1]; rfl) | (simp_all [f_order, hc1]; done)) dX9_order_22
  · refine k_iload_n (n := 12) F dX9_order_11 rfl 2 rfl rfl ?_
    refine k_iconst (n := 13) (v := 0) F dX9_order_12 rfl rfl ?_
    refine k_bipush (n := 15) (v := 9) F dX9_order_13 rfl rfl ?_
    refine k_ciR (n := 18) F (k_rS (k := 3) (As := [.int d, .int 0, .int 9]) (rest := []) F (c_within l g d 0 9) [] rfl rfl mw_243 mw_241 mw_242 mw_1 (by decide) ⟨by decide, by decide⟩ rfl (Nat.le_of_ble_eq_true rfl) ⟨by decide, by decide⟩ dX9_order_15) [] rfl rfl ?_
    refine k_if_ne (n := 21) (tgt := 23) F dX9_order_18 (by decide) rfl (fun hc2 => ?_) (fun hc2 => ?_)
    · refine k_aload_n (n := 24) F dX9_order_23 rfl 0 rfl rfl ?_
      refine k_get (n := 27) (v := .ref ((ad 10))) F uX9 0 5 rfl rfl (by decide) mw_201 rfl dX9_order_24 rfl ?_
      refine k_iload_n (n := 28) F dX9_order_27 rfl 1 rfl rfl ?_
      refine k_iload_n (n := 29) F dX9_order_28 rfl 2 rfl rfl ?_
      refine k_ci (n := 32) (ws' := wC g ad (upd i 25 (if (i 25) < 8 then (i 25) + 1 else (i 25)), l_, va_up (va_up (va_up a 26 (if (i 25) < 8 then upd (a 26) (i 25).toNatClampNeg n else (a 26))) 27 (if (i 25) < 8 then upd (a 27) (i 25).toNatClampNeg d else (a 27))) 28 (if (i 25) < 8 then upd (a 28) (i 25).toNatClampNeg 0 else (a 28)), h) cf) F (k_rV (k := 2) (b := (ad 10)) (As := [.int n, .int d]) (rest := []) F (c_accept l g (ad 10) (ad 11) (ad 12) (ad 13) (i 25) (i 29) (i 30) (a 26) (a 27) (a 28) n d h25) [10, 11, 12, 13] rfl rfl 0 rfl rfl mw_501 mw_498 mw_499 mw_500 mw_8 (by decide) ⟨by decide, by decide⟩ rfl (Nat.le_of_ble_eq_true rfl) ⟨by decide, by decide⟩ dX9_order_29) [10, 11, 12, 13] [0, 1, 2, 3, 4, 5, 6, 7, 8, 9, 14] [0, 1, 2, 3, 4, 5, 6, 7, 8, 9, 11, 12, 13, 14, 10] rfl rfl rfl (by decide) rfl rfl rfl ?_
      by_cases h8 : i 25 < 8
      · exact k_iret F (by first | rfl | (simp only [f_order, hc1, hc2, h8, Int32.not_le.mpr h8, if_true, if_false, not_true_eq_false, not_false_eq_true]; done) | (simp only [f_order, hc1, hc2, h8, Int32.not_le.mpr h8, if_true, if_false, not_true_eq_false, not_false_eq_true]; rfl) | (simp [f_order, hc1, hc2, h8, Int32.not_le.mpr h8]; done) | (simp [f_order, hc1, hc2, h8, Int32.not_le.mpr h8]; rfl) | (simp_all [f_order, hc1, hc2, h8, Int32.not_le.mpr h8]; done)) (by first | rfl | (simp only [f_order, hc1, hc2, h8, Int32.not_le.mpr h8, if_true, if_false, not_true_eq_false, not_false_eq_true]; done) | (simp only [f_order, hc1, hc2, h8, Int32.not_le.mpr h8, if_true, if_false, not_true_eq_false, not_false_eq_true]; rfl) | (simp [f_order, hc1, hc2, h8, Int32.not_le.mpr h8]; done) | (simp [f_order, hc1, hc2, h8, Int32.not_le.mpr h8]; rfl) | (simp_all [f_order, hc1, hc2, h8, Int32.not_le.mpr h8]; done)) dX9_order_32
      · exact k_iret F (by first | rfl | (simp only [f_order, hc1, hc2, h8, Int32.not_lt.mp h8, if_true, if_false, not_true_eq_false, not_false_eq_true]; done) | (simp only [f_order, hc1, hc2, h8, Int32.not_lt.mp h8, if_true, if_false, not_true_eq_false, not_false_eq_true]; rfl) | (simp [f_order, hc1, hc2, h8, Int32.not_lt.mp h8]; done) | (simp [f_order, hc1, hc2, h8, Int32.not_lt.mp h8]; rfl) | (simp_all [f_order, hc1, hc2, h8, Int32.not_lt.mp h8]; done)) (by first | rfl | (simp only [f_order, hc1, hc2, h8, Int32.not_lt.mp h8, if_true, if_false, not_true_eq_false, not_false_eq_true]; done) | (simp only [f_order, hc1, hc2, h8, Int32.not_lt.mp h8, if_true, if_false, not_true_eq_false, not_false_eq_true]; rfl) | (simp [f_order, hc1, hc2, h8, Int32.not_lt.mp h8]; done) | (simp [f_order, hc1, hc2, h8, Int32.not_lt.mp h8]; rfl) | (simp_all [f_order, hc1, hc2, h8, Int32.not_lt.mp h8]; done)) dX9_order_32
    · refine k_iconst (n := 22) (v := -1) F dX9_order_21 rfl rfl ?_
      exact k_iret F (by first | rfl | (simp only [f_order, hc1, hc2, if_true, if_false, not_true_eq_false, not_false_eq_true]; done) | (simp only [f_order, hc1, hc2, if_true, if_false, not_true_eq_false, not_false_eq_true]; rfl) | (simp [f_order, hc1, hc2]; done) | (simp [f_order, hc1, hc2]; rfl) | (simp_all [f_order, hc1, hc2]; done)) (by first | rfl | (simp only [f_order, hc1, hc2, if_true, if_false, not_true_eq_false, not_false_eq_true]; done) | (simp only [f_order, hc1, hc2, if_true, if_false, not_true_eq_false, not_false_eq_true]; rfl) | (simp [f_order, hc1, hc2]; done) | (simp [f_order, hc1, hc2]; rfl) | (simp_all [f_order, hc1, hc2]; done)) dX9_order_22
set_option maxRecDepth 100000 in
set_option maxHeartbeats 4000000 in
theorem c_deliver (l : Launch) (g : kG) (ad : Nat → Nat) (cf : Nat → Option Nat) (i : Nat → Int32) (l_ : Nat → Int64) (a : Nat → Nat → Int32) (h : Nat → Int64) (h25 : 0 ≤ i 25 ∧ i 25 ≤ 8) : kM l yX9_deliver cX9_deliver 1 (some .int) (rmK 3 0 0 66) g [.ref ((ad 0))] (wC g ad (i, l_, a, h) cf) (kDi g (f_deliver (i, l_, a, h)).1 (wC g ad (f_deliver (i, l_, a, h)).2 cf)) := by
  refine k_enter (by decide) (Nat.le_of_ble_eq_true rfl) ?_
  intro p e s m args below meth c A F
  refine k_aload_n (n := 1) F dX9_deliver_0 rfl 0 rfl rfl ?_
  refine k_get (n := 4) (v := .ref ((ad 10))) F uX9 0 5 rfl rfl (by decide) mw_201 rfl dX9_deliver_1 rfl ?_
  refine k_getN (n := 7) (v := .int (i 29)) F uX5 10 4 rfl rfl (by decide) nw_24 rfl dX9_deliver_4 rfl ?_
  refine k_bipush (n := 9) (v := 10) F dX9_deliver_7 rfl rfl ?_
  refine k_icmp_lt (n := 12) (tgt := 17) F dX9_deliver_9 (by decide) rfl (fun hc1 => ?_) (fun hc1 => ?_)
  · refine k_aload_n (n := 18) F dX9_deliver_17 rfl 0 rfl rfl ?_
    refine k_get (n := 21) (v := .ref ((ad 10))) F uX9 0 5 rfl rfl (by decide) mw_201 rfl dX9_deliver_18 rfl ?_
    refine k_aload_n (n := 22) F dX9_deliver_21 rfl 0 rfl rfl ?_
    refine k_get (n := 25) (v := .ref ((ad 9))) F uX9 0 4 rfl rfl (by decide) mw_200 rfl dX9_deliver_22 rfl ?_
    refine k_ci (n := 28) (ws' := wC g ad (upd (upd (upd i 17 ((edL (a 26) (a 27) (i 29) (0, a 28, i 30, i 17, l_ 20) ((i 25).toNatClampNeg)).2.2.2.1)) 29 ((i 29) + 1)) 30 ((edL (a 26) (a 27) (i 29) (0, a 28, i 30, i 17, l_ 20) ((i 25).toNatClampNeg)).2.2.1), vp_updL l_ 20 ((edL (a 26) (a 27) (i 29) (0, a 28, i 30, i 17, l_ 20) ((i 25).toNatClampNeg)).2.2.2.2), va_up a 28 ((edL (a 26) (a 27) (i 29) (0, a 28, i 30, i 17, l_ 20) ((i 25).toNatClampNeg)).2.1), h) cf) F (k_rV (k := 1) (b := (ad 10)) (As := [.ref ((ad 9))]) (rest := []) F (c_endDay l g (ad 10) (ad 11) (ad 12) (ad 13) (ad 9) (i 25) (i 29) (i 30) (a 26) (a 27) (a 28) (a 10 3) (i 17) (i 18) (l_ 19) (l_ 20) (l_ 21) ((i 25).toNatClampNeg) (kclamp h25.1) (kclamp8 h25.1 h25.2)) [10, 11, 12, 13, 9] rfl rfl 0 rfl rfl mw_509 mw_506 mw_507 mw_508 mw_8 (by decide) ⟨by decide, by decide⟩ rfl (Nat.le_of_ble_eq_true rfl) ⟨by decide, by decide⟩ dX9_deliver_25) [10, 11, 12, 13, 9] [0, 1, 2, 3, 4, 5, 6, 7, 8, 14] [0, 1, 2, 3, 4, 5, 6, 7, 8, 14, 10, 11, 12, 13, 9] rfl rfl rfl (by decide) rfl rfl rfl ?_
    exact k_iret F (by first | rfl | (simp only [f_deliver, dlE, hc1, Int32.not_le.mpr hc1, if_true, if_false, not_true_eq_false, not_false_eq_true]; done) | (simp only [f_deliver, dlE, hc1, Int32.not_le.mpr hc1, if_true, if_false, not_true_eq_false, not_false_eq_true]; rfl) | (simp [f_deliver, dlE, hc1, Int32.not_le.mpr hc1]; done) | (simp [f_deliver, dlE, hc1, Int32.not_le.mpr hc1]; rfl) | (simp_all [f_deliver, dlE, hc1, Int32.not_le.mpr hc1]; done)) (by first | rfl | (simp only [f_deliver, dlE, hc1, Int32.not_le.mpr hc1, if_true, if_false, not_true_eq_false, not_false_eq_true]; done) | (simp only [f_deliver, dlE, hc1, Int32.not_le.mpr hc1, if_true, if_false, not_true_eq_false, not_false_eq_true]; rfl) | (simp [f_deliver, dlE, hc1, Int32.not_le.mpr hc1]; done) | (simp [f_deliver, dlE, hc1, Int32.not_le.mpr hc1]; rfl) | (simp_all [f_deliver, dlE, hc1, Int32.not_le.mpr hc1]; done)) dX9_deliver_28
  · refine k_bipush (n := 14) (v := -2) F dX9_deliver_12 rfl rfl ?_
    refine k_goto (tgt := 28) F dX9_deliver_14 (by decide) ?_
    exact k_iret F (by first | rfl | (simp only [f_deliver, dlE, hc1, Int32.not_lt.mp hc1, if_true, if_false, not_true_eq_false, not_false_eq_true]; done) | (simp only [f_deliver, dlE, hc1, Int32.not_lt.mp hc1, if_true, if_false, not_true_eq_false, not_false_eq_true]; rfl) | (simp [f_deliver, dlE, hc1, Int32.not_lt.mp hc1]; done) | (simp [f_deliver, dlE, hc1, Int32.not_lt.mp hc1]; rfl) | (simp_all [f_deliver, dlE, hc1, Int32.not_lt.mp hc1]; done)) (by first | rfl | (simp only [f_deliver, dlE, hc1, Int32.not_lt.mp hc1, if_true, if_false, not_true_eq_false, not_false_eq_true]; done) | (simp only [f_deliver, dlE, hc1, Int32.not_lt.mp hc1, if_true, if_false, not_true_eq_false, not_false_eq_true]; rfl) | (simp [f_deliver, dlE, hc1, Int32.not_lt.mp hc1]; done) | (simp [f_deliver, dlE, hc1, Int32.not_lt.mp hc1]; rfl) | (simp_all [f_deliver, dlE, hc1, Int32.not_lt.mp hc1]; done)) dX9_deliver_28
set_option maxRecDepth 100000 in
set_option maxHeartbeats 4000000 in
theorem c_about (l : Launch) (g : kG) (ad : Nat → Nat) (cf : Nat → Option Nat) (i : Nat → Int32) (l_ : Nat → Int64) (a : Nat → Nat → Int32) (h : Nat → Int64) (x y : Int32) (h25 : i 25 ≤ 8) : kM l yX9_about cX9_about 3 (some .int) (rmK 1 0 0 22) g [.ref ((ad 0)), .int x, .int y] (wC g ad (i, l_, a, h) cf) (kDi g (f_about (i, l_, a, h) x y) (wC g ad (i, l_, a, h) cf)) := by
  refine k_enter (by decide) (Nat.le_of_ble_eq_true rfl) ?_
  intro p e s m args below meth c A F
  refine k_aload_n (n := 1) F dX9_about_0 rfl 0 rfl rfl ?_
  refine k_get (n := 4) (v := .ref ((ad 10))) F uX9 0 5 rfl rfl (by decide) mw_201 rfl dX9_about_1 rfl ?_
  refine k_iload_n (n := 5) F dX9_about_4 rfl 1 rfl rfl ?_
  refine k_iload_n (n := 6) F dX9_about_5 rfl 2 rfl rfl ?_
  refine k_ciR (n := 9) F (k_rV (k := 2) (b := (ad 10)) (As := [.int x, .int y]) (rest := []) F (c_otell l g (ad 10) (ad 11) (ad 12) (ad 13) (i 25) (i 29) (i 30) (a 26) (a 27) (a 28) x y h25) [10, 11, 12, 13] rfl rfl 0 rfl rfl mw_525 mw_522 mw_523 mw_524 mw_8 (by decide) ⟨by decide, by decide⟩ rfl (Nat.le_of_ble_eq_true rfl) ⟨by decide, by decide⟩ dX9_about_6) [10, 11, 12, 13] rfl rfl ?_
  exact k_iret F (by first | rfl | (simp only [f_about, if_true, if_false, not_true_eq_false, not_false_eq_true]; done) | (simp only [f_about, if_true, if_false, not_true_eq_false, not_false_eq_true]; rfl) | (simp [f_about]; done) | (simp [f_about]; rfl) | (simp_all [f_about]; done)) (by first | rfl | (simp only [f_about, if_true, if_false, not_true_eq_false, not_false_eq_true]; done) | (simp only [f_about, if_true, if_false, not_true_eq_false, not_false_eq_true]; rfl) | (simp [f_about]; done) | (simp [f_about]; rfl) | (simp_all [f_about]; done)) dX9_about_9
set_option maxRecDepth 100000 in
set_option maxHeartbeats 4000000 in
theorem c_back (l : Launch) (g : kG) (ad : Nat → Nat) (cf : Nat → Option Nat) (i : Nat → Int32) (l_ : Nat → Int64) (a : Nat → Nat → Int32) (h : Nat → Int64) (n : Int32) : kM l yX9_back cX9_back 2 (some .int) (rmK 0 0 0 0) g [.ref ((ad 0)), .int n] (wC g ad (i, l_, a, h) cf) (kDi g (f_back (i, l_, a, h) n).1 (wC g ad (f_back (i, l_, a, h) n).2 cf)) := by
  refine k_enter (by decide) (Nat.le_of_ble_eq_true rfl) ?_
  intro p e s m args below meth c A F
  refine k_iload_n (n := 1) F dX9_back_0 rfl 1 rfl rfl ?_
  refine k_iconst (n := 2) (v := 1) F dX9_back_1 rfl rfl ?_
  refine k_icmp_ge (n := 5) (tgt := 7) F dX9_back_2 (by decide) rfl (fun hc1 => ?_) (fun hc1 => ?_)
  · refine k_iload_n (n := 8) F dX9_back_7 rfl 1 rfl rfl ?_
    refine k_aload_n (n := 9) F dX9_back_8 rfl 0 rfl rfl ?_
    refine k_get (n := 12) (v := .ref ((ad 9))) F uX9 0 4 rfl rfl (by decide) mw_200 rfl dX9_back_9 rfl ?_
    refine k_getN (n := 15) (v := .int (i 18)) F uX6 9 2 rfl rfl (by decide) nw_21 rfl dX9_back_12 rfl ?_
    refine k_icmp_gt (n := 18) (tgt := 37) F dX9_back_15 (by decide) rfl (fun hc2 => ?_) (fun hc2 => ?_)
    · refine k_bipush (n := 39) (v := -2) F dX9_back_37 rfl rfl ?_
      exact k_iret F (by first | rfl | (simp only [f_back, hc1, Int32.not_lt.mpr hc1, hc2, Int32.not_le.mpr hc2, if_true, if_false, not_true_eq_false, not_false_eq_true]; done) | (simp only [f_back, hc1, Int32.not_lt.mpr hc1, hc2, Int32.not_le.mpr hc2, if_true, if_false, not_true_eq_false, not_false_eq_true]; rfl) | (simp [f_back, hc1, Int32.not_lt.mpr hc1, hc2, Int32.not_le.mpr hc2]; done) | (simp [f_back, hc1, Int32.not_lt.mpr hc1, hc2, Int32.not_le.mpr hc2]; rfl) | (simp_all [f_back, hc1, Int32.not_lt.mpr hc1, hc2, Int32.not_le.mpr hc2]; done)) (by first | rfl | (simp only [f_back, hc1, Int32.not_lt.mpr hc1, hc2, Int32.not_le.mpr hc2, if_true, if_false, not_true_eq_false, not_false_eq_true]; done) | (simp only [f_back, hc1, Int32.not_lt.mpr hc1, hc2, Int32.not_le.mpr hc2, if_true, if_false, not_true_eq_false, not_false_eq_true]; rfl) | (simp [f_back, hc1, Int32.not_lt.mpr hc1, hc2, Int32.not_le.mpr hc2]; done) | (simp [f_back, hc1, Int32.not_lt.mpr hc1, hc2, Int32.not_le.mpr hc2]; rfl) | (simp_all [f_back, hc1, Int32.not_lt.mpr hc1, hc2, Int32.not_le.mpr hc2]; done)) dX9_back_39
    · refine k_iload_n (n := 19) F dX9_back_18 rfl 1 rfl rfl ?_
      refine k_aload_n (n := 20) F dX9_back_19 rfl 0 rfl rfl ?_
      refine k_get (n := 23) (v := .ref ((ad 9))) F uX9 0 4 rfl rfl (by decide) mw_200 rfl dX9_back_20 rfl ?_
      refine k_getN (n := 26) (v := .int (a 10 3)) F uX6 9 0 rfl rfl (by decide) nw_19 rfl dX9_back_23 rfl ?_
      refine k_aload_n (n := 27) F dX9_back_26 rfl 0 rfl rfl ?_
      refine k_get (n := 30) (v := .ref ((ad 9))) F uX9 0 4 rfl rfl (by decide) mw_200 rfl dX9_back_27 rfl ?_
      refine k_getN (n := 33) (v := .int (i 17)) F uX6 9 1 rfl rfl (by decide) nw_20 rfl dX9_back_30 rfl ?_
      refine k_isub (n := 34) F dX9_back_33 rfl ?_
      refine k_icmp_le (n := 37) (tgt := 40) F dX9_back_34 (by decide) rfl (fun hc3 => ?_) (fun hc3 => ?_)
      · refine k_aload_n (n := 41) F dX9_back_40 rfl 0 rfl rfl ?_
        refine k_get (n := 44) (v := .ref ((ad 9))) F uX9 0 4 rfl rfl (by decide) mw_200 rfl dX9_back_41 rfl ?_
        refine k_dup (n := 45) F dX9_back_44 rfl rfl ?_
        refine k_getN (n := 48) (v := .int (i 18)) F uX6 9 2 rfl rfl (by decide) nw_21 rfl dX9_back_45 rfl ?_
        refine k_iload_n (n := 49) F dX9_back_48 rfl 1 rfl rfl ?_
        refine k_isub (n := 50) F dX9_back_49 rfl ?_
        refine k_putN (n := 53) (ws' := wC g ad (upd i 18 ((i 18) - n), l_, a, h) cf) F uX6 tyX6_ok nmX6 9 2 rfl rfl (by decide) nw_21 rfl rfl rfl (Nat.le_of_ble_eq_true rfl) rfl dX9_back_50 rfl ?_
        refine k_aload_n (n := 54) F dX9_back_53 rfl 0 rfl rfl ?_
        refine k_get (n := 57) (v := .ref ((ad 9))) F uX9 0 4 rfl rfl (by decide) mw_200 rfl dX9_back_54 rfl ?_
        refine k_dup (n := 58) F dX9_back_57 rfl rfl ?_
        refine k_getN (n := 61) (v := .int (i 17)) F uX6 9 1 rfl rfl (by decide) nw_20 rfl dX9_back_58 rfl ?_
        refine k_iload_n (n := 62) F dX9_back_61 rfl 1 rfl rfl ?_
        refine k_iadd (n := 63) F dX9_back_62 rfl ?_
        refine k_putN (n := 66) (ws' := wC g ad (upd (upd i 18 ((i 18) - n)) 17 ((i 17) + n), l_, a, h) cf) F uX6 tyX6_ok nmX6 9 1 rfl rfl (by decide) nw_20 rfl rfl rfl (Nat.le_of_ble_eq_true rfl) rfl dX9_back_63 rfl ?_
        refine k_aload_n (n := 67) F dX9_back_66 rfl 0 rfl rfl ?_
        refine k_get (n := 70) (v := .ref ((ad 9))) F uX9 0 4 rfl rfl (by decide) mw_200 rfl dX9_back_67 rfl ?_
        refine k_getN (n := 73) (v := .int ((i 17) + n)) F uX6 9 1 rfl rfl (by decide) nw_20 rfl dX9_back_70 rfl ?_
        exact k_iret F (by first | rfl | (simp only [f_back, hc1, Int32.not_lt.mpr hc1, hc2, Int32.not_lt.mp hc2, hc3, Int32.not_lt.mpr hc3, if_true, if_false, not_true_eq_false, not_false_eq_true]; done) | (simp only [f_back, hc1, Int32.not_lt.mpr hc1, hc2, Int32.not_lt.mp hc2, hc3, Int32.not_lt.mpr hc3, if_true, if_false, not_true_eq_false, not_false_eq_true]; rfl) | (simp [f_back, hc1, Int32.not_lt.mpr hc1, hc2, Int32.not_lt.mp hc2, hc3, Int32.not_lt.mpr hc3]; done) | (simp [f_back, hc1, Int32.not_lt.mpr hc1, hc2, Int32.not_lt.mp hc2, hc3, Int32.not_lt.mpr hc3]; rfl) | (simp_all [f_back, hc1, Int32.not_lt.mpr hc1, hc2, Int32.not_lt.mp hc2, hc3, Int32.not_lt.mpr hc3]; done)) (by first | rfl | (simp only [f_back, hc1, Int32.not_lt.mpr hc1, hc2, Int32.not_lt.mp hc2, hc3, Int32.not_lt.mpr hc3, if_true, if_false, not_true_eq_false, not_false_eq_true]; done) | (simp only [f_back, hc1, Int32.not_lt.mpr hc1, hc2, Int32.not_lt.mp hc2, hc3, Int32.not_lt.mpr hc3, if_true, if_false, not_true_eq_false, not_false_eq_true]; rfl) | (simp [f_back, hc1, Int32.not_lt.mpr hc1, hc2, Int32.not_lt.mp hc2, hc3, Int32.not_lt.mpr hc3]; done) | (simp [f_back, hc1, Int32.not_lt.mpr hc1, hc2, Int32.not_lt.mp hc2, hc3, Int32.not_lt.mpr hc3]; rfl) | (simp_all [f_back, hc1, Int32.not_lt.mpr hc1, hc2, Int32.not_lt.mp hc2, hc3, Int32.not_lt.mpr hc3]; done)) dX9_back_73
      · refine k_bipush (n := 39) (v := -2) F dX9_back_37 rfl rfl ?_
        exact k_iret F (by first | rfl | (simp only [f_back, hc1, Int32.not_lt.mpr hc1, hc2, Int32.not_lt.mp hc2, hc3, Int32.not_le.mp hc3, if_true, if_false, not_true_eq_false, not_false_eq_true]; done) | (simp only [f_back, hc1, Int32.not_lt.mpr hc1, hc2, Int32.not_lt.mp hc2, hc3, Int32.not_le.mp hc3, if_true, if_false, not_true_eq_false, not_false_eq_true]; rfl) | (simp [f_back, hc1, Int32.not_lt.mpr hc1, hc2, Int32.not_lt.mp hc2, hc3, Int32.not_le.mp hc3]; done) | (simp [f_back, hc1, Int32.not_lt.mpr hc1, hc2, Int32.not_lt.mp hc2, hc3, Int32.not_le.mp hc3]; rfl) | (simp_all [f_back, hc1, Int32.not_lt.mpr hc1, hc2, Int32.not_lt.mp hc2, hc3, Int32.not_le.mp hc3]; done)) (by first | rfl | (simp only [f_back, hc1, Int32.not_lt.mpr hc1, hc2, Int32.not_lt.mp hc2, hc3, Int32.not_le.mp hc3, if_true, if_false, not_true_eq_false, not_false_eq_true]; done) | (simp only [f_back, hc1, Int32.not_lt.mpr hc1, hc2, Int32.not_lt.mp hc2, hc3, Int32.not_le.mp hc3, if_true, if_false, not_true_eq_false, not_false_eq_true]; rfl) | (simp [f_back, hc1, Int32.not_lt.mpr hc1, hc2, Int32.not_lt.mp hc2, hc3, Int32.not_le.mp hc3]; done) | (simp [f_back, hc1, Int32.not_lt.mpr hc1, hc2, Int32.not_lt.mp hc2, hc3, Int32.not_le.mp hc3]; rfl) | (simp_all [f_back, hc1, Int32.not_lt.mpr hc1, hc2, Int32.not_lt.mp hc2, hc3, Int32.not_le.mp hc3]; done)) dX9_back_39
  · refine k_iconst (n := 6) (v := -1) F dX9_back_5 rfl rfl ?_
    exact k_iret F (by first | rfl | (simp only [f_back, hc1, Int32.not_le.mp hc1, if_true, if_false, not_true_eq_false, not_false_eq_true]; done) | (simp only [f_back, hc1, Int32.not_le.mp hc1, if_true, if_false, not_true_eq_false, not_false_eq_true]; rfl) | (simp [f_back, hc1, Int32.not_le.mp hc1]; done) | (simp [f_back, hc1, Int32.not_le.mp hc1]; rfl) | (simp_all [f_back, hc1, Int32.not_le.mp hc1]; done)) (by first | rfl | (simp only [f_back, hc1, Int32.not_le.mp hc1, if_true, if_false, not_true_eq_false, not_false_eq_true]; done) | (simp only [f_back, hc1, Int32.not_le.mp hc1, if_true, if_false, not_true_eq_false, not_false_eq_true]; rfl) | (simp [f_back, hc1, Int32.not_le.mp hc1]; done) | (simp [f_back, hc1, Int32.not_le.mp hc1]; rfl) | (simp_all [f_back, hc1, Int32.not_le.mp hc1]; done)) dX9_back_6
set_option maxRecDepth 100000 in
set_option maxHeartbeats 4000000 in
theorem c_lose (l : Launch) (g : kG) (ad : Nat → Nat) (cf : Nat → Option Nat) (i : Nat → Int32) (l_ : Nat → Int64) (a : Nat → Nat → Int32) (h : Nat → Int64) (x v : Int32) (hv : v = 0 ∨ v = 1) : kM l yX9_lose cX9_lose 4 (some .int) (rmK 2 0 0 42) g [.ref ((ad 0)), .int x, .int v] (wC g ad (i, l_, a, h) cf) (kDi g (f_lose (i, l_, a, h) x v).1 (wC g ad (f_lose (i, l_, a, h) x v).2 cf)) := by
  refine k_enter (by decide) (Nat.le_of_ble_eq_true rfl) ?_
  intro p e s m args below meth c A F
  refine k_iload_n (n := 1) F dX9_lose_0 rfl 1 rfl rfl ?_
  refine k_ciR (n := 4) F (k_rS (k := 1) (As := [.int x]) (rest := []) F (c_isMeter l g x) [] rfl rfl mw_536 mw_534 mw_535 mw_1 (by decide) ⟨by decide, by decide⟩ rfl (Nat.le_of_ble_eq_true rfl) ⟨by decide, by decide⟩ dX9_lose_1) [] rfl rfl ?_
  refine k_if_ne (n := 7) (tgt := 9) F dX9_lose_4 (by decide) rfl (fun hc1 => ?_) (fun hc1 => ?_)
  · refine k_aload_n (n := 10) F dX9_lose_9 rfl 0 rfl rfl ?_
    refine k_get (n := 13) (v := .ref ((ad 14))) F uX9 0 6 rfl rfl (by decide) mw_202 rfl dX9_lose_10 rfl ?_
    refine k_iload_n (n := 14) F dX9_lose_13 rfl 1 rfl rfl ?_
    refine k_zald (n := 15) (N := x.toNatClampNeg) F 14 rfl (kIx_m hc1) dX9_lose_14 rfl ?_
    refine k_istore_n (n := 16) (lv' := [(3, .int ((a 33) x.toNatClampNeg)), (0, .ref ((ad 0))), (1, .int x), (2, .int v)]) F dX9_lose_15 rfl (by decide) rfl rfl ?_
    refine k_aload_n (n := 17) F dX9_lose_16 rfl 1 rfl rfl ?_
    refine k_get (n := 20) (v := .ref ((ad 14))) F uX9 0 6 rfl rfl (by decide) mw_202 rfl dX9_lose_17 rfl ?_
    refine k_iload_n (n := 21) F dX9_lose_20 rfl 2 rfl rfl ?_
    refine k_iload_n (n := 22) F dX9_lose_21 rfl 3 rfl rfl ?_
    refine k_zast (n := 23) (N := x.toNatClampNeg) (ws' := wC g ad (i, l_, va_up a 33 (upd (a 33) x.toNatClampNeg v), h) cf) F 14 rfl (kIx_m hc1) (kZv hv) rfl dX9_lose_22 rfl ?_
    refine k_iload_n (n := 24) F dX9_lose_23 rfl 0 rfl rfl ?_
    refine k_ciR (n := 27) F (k_rS (k := 1) (As := [.int ((a 33) x.toNatClampNeg)]) (rest := []) F (c_asNumber l g ((a 33) x.toNatClampNeg)) [] rfl rfl mw_493 mw_491 mw_492 mw_1 (by decide) ⟨by decide, by decide⟩ rfl (Nat.le_of_ble_eq_true rfl) ⟨by decide, by decide⟩ dX9_lose_24) [] rfl rfl ?_
    exact k_iret F (by first | rfl | (simp only [f_lose, hc1, if_true, if_false, not_true_eq_false, not_false_eq_true]; done) | (simp only [f_lose, hc1, if_true, if_false, not_true_eq_false, not_false_eq_true]; rfl) | (simp [f_lose, hc1]; done) | (simp [f_lose, hc1]; rfl) | (simp_all [f_lose, hc1]; done)) (by first | rfl | (simp only [f_lose, hc1, if_true, if_false, not_true_eq_false, not_false_eq_true]; done) | (simp only [f_lose, hc1, if_true, if_false, not_true_eq_false, not_false_eq_true]; rfl) | (simp [f_lose, hc1]; done) | (simp [f_lose, hc1]; rfl) | (simp_all [f_lose, hc1]; done)) dX9_lose_27
  · refine k_iconst (n := 8) (v := -1) F dX9_lose_7 rfl rfl ?_
    exact k_iret F (by first | rfl | (simp only [f_lose, hc1, if_true, if_false, not_true_eq_false, not_false_eq_true]; done) | (simp only [f_lose, hc1, if_true, if_false, not_true_eq_false, not_false_eq_true]; rfl) | (simp [f_lose, hc1]; done) | (simp [f_lose, hc1]; rfl) | (simp_all [f_lose, hc1]; done)) (by first | rfl | (simp only [f_lose, hc1, if_true, if_false, not_true_eq_false, not_false_eq_true]; done) | (simp only [f_lose, hc1, if_true, if_false, not_true_eq_false, not_false_eq_true]; rfl) | (simp [f_lose, hc1]; done) | (simp [f_lose, hc1]; rfl) | (simp_all [f_lose, hc1]; done)) dX9_lose_8
set_option maxRecDepth 100000 in
set_option maxHeartbeats 4000000 in
theorem c_meter (l : Launch) (g : kG) (ad : Nat → Nat) (cf : Nat → Option Nat) (i : Nat → Int32) (l_ : Nat → Int64) (a : Nat → Nat → Int32) (h : Nat → Int64) (x : Int32) : kM l yX9_meter cX9_meter 2 (some .long) (rmK 2 0 0 42) g [.ref ((ad 0)), .int x] (wC g ad (i, l_, a, h) cf) (kDl g (f_meter (i, l_, a, h) x) (wC g ad (i, l_, a, h) cf)) := by
  refine k_enter (by decide) (Nat.le_of_ble_eq_true rfl) ?_
  intro p e s m args below meth c A F
  refine k_iload_n (n := 1) F dX9_meter_0 rfl 1 rfl rfl ?_
  refine k_ciR (n := 4) F (k_rS (k := 1) (As := [.int x]) (rest := []) F (c_isMeter l g x) [] rfl rfl mw_536 mw_534 mw_535 mw_1 (by decide) ⟨by decide, by decide⟩ rfl (Nat.le_of_ble_eq_true rfl) ⟨by decide, by decide⟩ dX9_meter_1) [] rfl rfl ?_
  refine k_if_ne (n := 7) (tgt := 11) F dX9_meter_4 (by decide) rfl (fun hc1 => ?_) (fun hc1 => ?_)
  · refine k_aload_n (n := 12) F dX9_meter_11 rfl 0 rfl rfl ?_
    refine k_get (n := 15) (v := .ref ((ad 14))) F uX9 0 6 rfl rfl (by decide) mw_202 rfl dX9_meter_12 rfl ?_
    refine k_iload_n (n := 16) F dX9_meter_15 rfl 1 rfl rfl ?_
    refine k_zald (n := 17) (N := x.toNatClampNeg) F 14 rfl (kIx_m hc1) dX9_meter_16 rfl ?_
    refine k_if_eq (n := 20) (tgt := 26) F dX9_meter_17 (by decide) rfl (fun hc2 => ?_) (fun hc2 => ?_)
    · refine k_aload_n (n := 27) F dX9_meter_26 rfl 0 rfl rfl ?_
      refine k_get (n := 30) (v := .ref ((ad 9))) F uX9 0 4 rfl rfl (by decide) mw_200 rfl dX9_meter_27 rfl ?_
      refine k_iload_n (n := 31) F dX9_meter_30 rfl 1 rfl rfl ?_
      refine k_clR (n := 34) F (k_rV (k := 1) (b := (ad 9)) (As := [.int x]) (rest := []) F (c_reading l g (ad 9) (a 10 3) (i 17) (i 18) x (l_ 19) (l_ 20) (l_ 21)) [9] rfl rfl 0 rfl rfl mw_545 mw_542 mw_543 mw_544 mw_7 (by decide) ⟨by decide, by decide⟩ rfl (Nat.le_of_ble_eq_true rfl) ⟨by decide, by decide⟩ dX9_meter_31) [9] rfl rfl ?_
      exact k_lret F (by first | rfl | (simp only [f_meter, rdM, hc1, hc2, if_true, if_false, not_true_eq_false, not_false_eq_true]; done) | (simp only [f_meter, rdM, hc1, hc2, if_true, if_false, not_true_eq_false, not_false_eq_true]; rfl) | (simp [f_meter, rdM, hc1, hc2]; done) | (simp [f_meter, rdM, hc1, hc2]; rfl) | (simp_all [f_meter, rdM, hc1, hc2]; done)) (by first | rfl | (simp only [f_meter, rdM, hc1, hc2, if_true, if_false, not_true_eq_false, not_false_eq_true]; done) | (simp only [f_meter, rdM, hc1, hc2, if_true, if_false, not_true_eq_false, not_false_eq_true]; rfl) | (simp [f_meter, rdM, hc1, hc2]; done) | (simp [f_meter, rdM, hc1, hc2]; rfl) | (simp_all [f_meter, rdM, hc1, hc2]; done)) dX9_meter_34
    · refine k_ldc2 (n := 23) (v := -9) F mw_541 dX9_meter_20 rfl ?_
      refine k_goto (tgt := 34) F dX9_meter_23 (by decide) ?_
      exact k_lret F (by first | rfl | (simp only [f_meter, rdM, hc1, hc2, if_true, if_false, not_true_eq_false, not_false_eq_true]; done) | (simp only [f_meter, rdM, hc1, hc2, if_true, if_false, not_true_eq_false, not_false_eq_true]; rfl) | (simp [f_meter, rdM, hc1, hc2]; done) | (simp [f_meter, rdM, hc1, hc2]; rfl) | (simp_all [f_meter, rdM, hc1, hc2]; done)) (by first | rfl | (simp only [f_meter, rdM, hc1, hc2, if_true, if_false, not_true_eq_false, not_false_eq_true]; done) | (simp only [f_meter, rdM, hc1, hc2, if_true, if_false, not_true_eq_false, not_false_eq_true]; rfl) | (simp [f_meter, rdM, hc1, hc2]; done) | (simp [f_meter, rdM, hc1, hc2]; rfl) | (simp_all [f_meter, rdM, hc1, hc2]; done)) dX9_meter_34
  · refine k_ldc2 (n := 10) (v := -1) F mw_359 dX9_meter_7 rfl ?_
    exact k_lret F (by first | rfl | (simp only [f_meter, rdM, hc1, if_true, if_false, not_true_eq_false, not_false_eq_true]; done) | (simp only [f_meter, rdM, hc1, if_true, if_false, not_true_eq_false, not_false_eq_true]; rfl) | (simp [f_meter, rdM, hc1]; done) | (simp [f_meter, rdM, hc1]; rfl) | (simp_all [f_meter, rdM, hc1]; done)) (by first | rfl | (simp only [f_meter, rdM, hc1, if_true, if_false, not_true_eq_false, not_false_eq_true]; done) | (simp only [f_meter, rdM, hc1, if_true, if_false, not_true_eq_false, not_false_eq_true]; rfl) | (simp [f_meter, rdM, hc1]; done) | (simp [f_meter, rdM, hc1]; rfl) | (simp_all [f_meter, rdM, hc1]; done)) dX9_meter_10
set_option maxRecDepth 100000 in
set_option maxHeartbeats 4000000 in
theorem c_count (l : Launch) (g : kG) (ad : Nat → Nat) (cf : Nat → Option Nat) (i : Nat → Int32) (l_ : Nat → Int64) (a : Nat → Nat → Int32) (h : Nat → Int64) (x : Int32) : kM l yX9_count cX9_count 2 (some .int) (rmK 0 0 0 0) g [.ref ((ad 0)), .int x] (wC g ad (i, l_, a, h) cf) (kDi g (f_count (i, l_, a, h) x) (wC g ad (i, l_, a, h) cf)) := by
  refine k_enter (by decide) (Nat.le_of_ble_eq_true rfl) ?_
  intro p e s m args below meth c A F
  refine k_iload_n (n := 1) F dX9_count_0 rfl 1 rfl rfl ?_
  by_cases hc1 : x = 0
  · refine k_tableIn (off := 55) (tgt := 56) F dX9_count_1 (by rw [hc1]; decide) (by rw [hc1]; decide) (by rw [hc1]; rfl) (by decide) ?_
    refine k_aload_n (n := 57) F dX9_count_56 rfl 0 rfl rfl ?_
    refine k_get (n := 60) (v := .ref ((ad 5))) F uX9 0 2 rfl rfl (by decide) mw_198 rfl dX9_count_57 rfl ?_
    refine k_getN (n := 63) (v := .int (i 12)) F uX3 5 0 rfl rfl (by decide) nw_8 rfl dX9_count_60 rfl ?_
    exact k_iret F (by first | rfl | (simp only [f_count, hc1, if_true, if_false, not_true_eq_false, not_false_eq_true]; done) | (simp only [f_count, hc1, if_true, if_false, not_true_eq_false, not_false_eq_true]; rfl) | (simp [f_count, hc1]; done) | (simp [f_count, hc1]; rfl) | (simp_all [f_count, hc1]; done)) (by first | rfl | (simp only [f_count, hc1, if_true, if_false, not_true_eq_false, not_false_eq_true]; done) | (simp only [f_count, hc1, if_true, if_false, not_true_eq_false, not_false_eq_true]; rfl) | (simp [f_count, hc1]; done) | (simp [f_count, hc1]; rfl) | (simp_all [f_count, hc1]; done)) dX9_count_63
  by_cases hc2 : x = 1
  · refine k_tableIn (off := 63) (tgt := 64) F dX9_count_1 (by rw [hc2]; decide) (by rw [hc2]; decide) (by rw [hc2]; rfl) (by decide) ?_
    refine k_aload_n (n := 65) F dX9_count_64 rfl 0 rfl rfl ?_
    refine k_get (n := 68) (v := .ref ((ad 9))) F uX9 0 4 rfl rfl (by decide) mw_200 rfl dX9_count_65 rfl ?_
    refine k_getN (n := 71) (v := .int (i 17)) F uX6 9 1 rfl rfl (by decide) nw_20 rfl dX9_count_68 rfl ?_
    exact k_iret F (by first | rfl | (simp only [f_count, hc1, hc2, if_true, if_false, not_true_eq_false, not_false_eq_true]; done) | (simp only [f_count, hc1, hc2, if_true, if_false, not_true_eq_false, not_false_eq_true]; rfl) | (simp [f_count, hc1, hc2]; done) | (simp [f_count, hc1, hc2]; rfl) | (simp_all [f_count, hc1, hc2]; done)) (by first | rfl | (simp only [f_count, hc1, hc2, if_true, if_false, not_true_eq_false, not_false_eq_true]; done) | (simp only [f_count, hc1, hc2, if_true, if_false, not_true_eq_false, not_false_eq_true]; rfl) | (simp [f_count, hc1, hc2]; done) | (simp [f_count, hc1, hc2]; rfl) | (simp_all [f_count, hc1, hc2]; done)) dX9_count_71
  by_cases hc3 : x = 2
  · refine k_tableIn (off := 71) (tgt := 72) F dX9_count_1 (by rw [hc3]; decide) (by rw [hc3]; decide) (by rw [hc3]; rfl) (by decide) ?_
    refine k_aload_n (n := 73) F dX9_count_72 rfl 0 rfl rfl ?_
    refine k_get (n := 76) (v := .ref ((ad 9))) F uX9 0 4 rfl rfl (by decide) mw_200 rfl dX9_count_73 rfl ?_
    refine k_getN (n := 79) (v := .int (i 18)) F uX6 9 2 rfl rfl (by decide) nw_21 rfl dX9_count_76 rfl ?_
    exact k_iret F (by first | rfl | (simp only [f_count, hc1, hc2, hc3, if_true, if_false, not_true_eq_false, not_false_eq_true]; done) | (simp only [f_count, hc1, hc2, hc3, if_true, if_false, not_true_eq_false, not_false_eq_true]; rfl) | (simp [f_count, hc1, hc2, hc3]; done) | (simp [f_count, hc1, hc2, hc3]; rfl) | (simp_all [f_count, hc1, hc2, hc3]; done)) (by first | rfl | (simp only [f_count, hc1, hc2, hc3, if_true, if_false, not_true_eq_false, not_false_eq_true]; done) | (simp only [f_count, hc1, hc2, hc3, if_true, if_false, not_true_eq_false, not_false_eq_true]; rfl) | (simp [f_count, hc1, hc2, hc3]; done) | (simp [f_count, hc1, hc2, hc3]; rfl) | (simp_all [f_count, hc1, hc2, hc3]; done)) dX9_count_79
  by_cases hc4 : x = 3
  · refine k_tableIn (off := 79) (tgt := 80) F dX9_count_1 (by rw [hc4]; decide) (by rw [hc4]; decide) (by rw [hc4]; rfl) (by decide) ?_
    refine k_aload_n (n := 81) F dX9_count_80 rfl 0 rfl rfl ?_
    refine k_get (n := 84) (v := .int (i 2)) F uX9 0 7 rfl rfl (by decide) mw_203 rfl dX9_count_81 rfl ?_
    exact k_iret F (by first | rfl | (simp only [f_count, hc1, hc2, hc3, hc4, if_true, if_false, not_true_eq_false, not_false_eq_true]; done) | (simp only [f_count, hc1, hc2, hc3, hc4, if_true, if_false, not_true_eq_false, not_false_eq_true]; rfl) | (simp [f_count, hc1, hc2, hc3, hc4]; done) | (simp [f_count, hc1, hc2, hc3, hc4]; rfl) | (simp_all [f_count, hc1, hc2, hc3, hc4]; done)) (by first | rfl | (simp only [f_count, hc1, hc2, hc3, hc4, if_true, if_false, not_true_eq_false, not_false_eq_true]; done) | (simp only [f_count, hc1, hc2, hc3, hc4, if_true, if_false, not_true_eq_false, not_false_eq_true]; rfl) | (simp [f_count, hc1, hc2, hc3, hc4]; done) | (simp [f_count, hc1, hc2, hc3, hc4]; rfl) | (simp_all [f_count, hc1, hc2, hc3, hc4]; done)) dX9_count_84
  by_cases hc5 : x = 4
  · refine k_tableIn (off := 84) (tgt := 85) F dX9_count_1 (by rw [hc5]; decide) (by rw [hc5]; decide) (by rw [hc5]; rfl) (by decide) ?_
    refine k_aload_n (n := 86) F dX9_count_85 rfl 0 rfl rfl ?_
    refine k_get (n := 89) (v := .ref ((ad 2))) F uX9 0 1 rfl rfl (by decide) mw_197 rfl dX9_count_86 rfl ?_
    refine k_getN (n := 92) (v := .int (i 6)) F uX4 2 2 rfl rfl (by decide) nw_2 rfl dX9_count_89 rfl ?_
    exact k_iret F (by first | rfl | (simp only [f_count, hc1, hc2, hc3, hc4, hc5, if_true, if_false, not_true_eq_false, not_false_eq_true]; done) | (simp only [f_count, hc1, hc2, hc3, hc4, hc5, if_true, if_false, not_true_eq_false, not_false_eq_true]; rfl) | (simp [f_count, hc1, hc2, hc3, hc4, hc5]; done) | (simp [f_count, hc1, hc2, hc3, hc4, hc5]; rfl) | (simp_all [f_count, hc1, hc2, hc3, hc4, hc5]; done)) (by first | rfl | (simp only [f_count, hc1, hc2, hc3, hc4, hc5, if_true, if_false, not_true_eq_false, not_false_eq_true]; done) | (simp only [f_count, hc1, hc2, hc3, hc4, hc5, if_true, if_false, not_true_eq_false, not_false_eq_true]; rfl) | (simp [f_count, hc1, hc2, hc3, hc4, hc5]; done) | (simp [f_count, hc1, hc2, hc3, hc4, hc5]; rfl) | (simp_all [f_count, hc1, hc2, hc3, hc4, hc5]; done)) dX9_count_92
  by_cases hc6 : x = 5
  · refine k_tableIn (off := 92) (tgt := 93) F dX9_count_1 (by rw [hc6]; decide) (by rw [hc6]; decide) (by rw [hc6]; rfl) (by decide) ?_
    refine k_aload_n (n := 94) F dX9_count_93 rfl 0 rfl rfl ?_
    refine k_get (n := 97) (v := .ref ((ad 10))) F uX9 0 5 rfl rfl (by decide) mw_201 rfl dX9_count_94 rfl ?_
    refine k_getN (n := 100) (v := .int (i 25)) F uX5 10 3 rfl rfl (by decide) nw_23 rfl dX9_count_97 rfl ?_
    exact k_iret F (by first | rfl | (simp only [f_count, hc1, hc2, hc3, hc4, hc5, hc6, if_true, if_false, not_true_eq_false, not_false_eq_true]; done) | (simp only [f_count, hc1, hc2, hc3, hc4, hc5, hc6, if_true, if_false, not_true_eq_false, not_false_eq_true]; rfl) | (simp [f_count, hc1, hc2, hc3, hc4, hc5, hc6]; done) | (simp [f_count, hc1, hc2, hc3, hc4, hc5, hc6]; rfl) | (simp_all [f_count, hc1, hc2, hc3, hc4, hc5, hc6]; done)) (by first | rfl | (simp only [f_count, hc1, hc2, hc3, hc4, hc5, hc6, if_true, if_false, not_true_eq_false, not_false_eq_true]; done) | (simp only [f_count, hc1, hc2, hc3, hc4, hc5, hc6, if_true, if_false, not_true_eq_false, not_false_eq_true]; rfl) | (simp [f_count, hc1, hc2, hc3, hc4, hc5, hc6]; done) | (simp [f_count, hc1, hc2, hc3, hc4, hc5, hc6]; rfl) | (simp_all [f_count, hc1, hc2, hc3, hc4, hc5, hc6]; done)) dX9_count_100
  by_cases hc7 : x = 6
  · refine k_tableIn (off := 100) (tgt := 101) F dX9_count_1 (by rw [hc7]; decide) (by rw [hc7]; decide) (by rw [hc7]; rfl) (by decide) ?_
    refine k_aload_n (n := 102) F dX9_count_101 rfl 0 rfl rfl ?_
    refine k_get (n := 105) (v := .ref ((ad 10))) F uX9 0 5 rfl rfl (by decide) mw_201 rfl dX9_count_102 rfl ?_
    refine k_getN (n := 108) (v := .int (i 29)) F uX5 10 4 rfl rfl (by decide) nw_24 rfl dX9_count_105 rfl ?_
    exact k_iret F (by first | rfl | (simp only [f_count, hc1, hc2, hc3, hc4, hc5, hc6, hc7, if_true, if_false, not_true_eq_false, not_false_eq_true]; done) | (simp only [f_count, hc1, hc2, hc3, hc4, hc5, hc6, hc7, if_true, if_false, not_true_eq_false, not_false_eq_true]; rfl) | (simp [f_count, hc1, hc2, hc3, hc4, hc5, hc6, hc7]; done) | (simp [f_count, hc1, hc2, hc3, hc4, hc5, hc6, hc7]; rfl) | (simp_all [f_count, hc1, hc2, hc3, hc4, hc5, hc6, hc7]; done)) (by first | rfl | (simp only [f_count, hc1, hc2, hc3, hc4, hc5, hc6, hc7, if_true, if_false, not_true_eq_false, not_false_eq_true]; done) | (simp only [f_count, hc1, hc2, hc3, hc4, hc5, hc6, hc7, if_true, if_false, not_true_eq_false, not_false_eq_true]; rfl) | (simp [f_count, hc1, hc2, hc3, hc4, hc5, hc6, hc7]; done) | (simp [f_count, hc1, hc2, hc3, hc4, hc5, hc6, hc7]; rfl) | (simp_all [f_count, hc1, hc2, hc3, hc4, hc5, hc6, hc7]; done)) dX9_count_108
  by_cases hc8 : x = 7
  · refine k_tableIn (off := 108) (tgt := 109) F dX9_count_1 (by rw [hc8]; decide) (by rw [hc8]; decide) (by rw [hc8]; rfl) (by decide) ?_
    refine k_aload_n (n := 110) F dX9_count_109 rfl 0 rfl rfl ?_
    refine k_get (n := 113) (v := .int (i 31)) F uX9 0 11 rfl rfl (by decide) mw_207 rfl dX9_count_110 rfl ?_
    exact k_iret F (by first | rfl | (simp only [f_count, hc1, hc2, hc3, hc4, hc5, hc6, hc7, hc8, if_true, if_false, not_true_eq_false, not_false_eq_true]; done) | (simp only [f_count, hc1, hc2, hc3, hc4, hc5, hc6, hc7, hc8, if_true, if_false, not_true_eq_false, not_false_eq_true]; rfl) | (simp [f_count, hc1, hc2, hc3, hc4, hc5, hc6, hc7, hc8]; done) | (simp [f_count, hc1, hc2, hc3, hc4, hc5, hc6, hc7, hc8]; rfl) | (simp_all [f_count, hc1, hc2, hc3, hc4, hc5, hc6, hc7, hc8]; done)) (by first | rfl | (simp only [f_count, hc1, hc2, hc3, hc4, hc5, hc6, hc7, hc8, if_true, if_false, not_true_eq_false, not_false_eq_true]; done) | (simp only [f_count, hc1, hc2, hc3, hc4, hc5, hc6, hc7, hc8, if_true, if_false, not_true_eq_false, not_false_eq_true]; rfl) | (simp [f_count, hc1, hc2, hc3, hc4, hc5, hc6, hc7, hc8]; done) | (simp [f_count, hc1, hc2, hc3, hc4, hc5, hc6, hc7, hc8]; rfl) | (simp_all [f_count, hc1, hc2, hc3, hc4, hc5, hc6, hc7, hc8]; done)) dX9_count_113
  by_cases hc9 : x = 8
  · refine k_tableIn (off := 113) (tgt := 114) F dX9_count_1 (by rw [hc9]; decide) (by rw [hc9]; decide) (by rw [hc9]; rfl) (by decide) ?_
    refine k_aload_n (n := 115) F dX9_count_114 rfl 0 rfl rfl ?_
    refine k_get (n := 118) (v := .ref ((ad 5))) F uX9 0 2 rfl rfl (by decide) mw_198 rfl dX9_count_115 rfl ?_
    refine k_getN (n := 121) (v := .int (i 32)) F uX3 5 2 rfl rfl (by decide) nw_9 rfl dX9_count_118 rfl ?_
    exact k_iret F (by first | rfl | (simp only [f_count, hc1, hc2, hc3, hc4, hc5, hc6, hc7, hc8, hc9, if_true, if_false, not_true_eq_false, not_false_eq_true]; done) | (simp only [f_count, hc1, hc2, hc3, hc4, hc5, hc6, hc7, hc8, hc9, if_true, if_false, not_true_eq_false, not_false_eq_true]; rfl) | (simp [f_count, hc1, hc2, hc3, hc4, hc5, hc6, hc7, hc8, hc9]; done) | (simp [f_count, hc1, hc2, hc3, hc4, hc5, hc6, hc7, hc8, hc9]; rfl) | (simp_all [f_count, hc1, hc2, hc3, hc4, hc5, hc6, hc7, hc8, hc9]; done)) (by first | rfl | (simp only [f_count, hc1, hc2, hc3, hc4, hc5, hc6, hc7, hc8, hc9, if_true, if_false, not_true_eq_false, not_false_eq_true]; done) | (simp only [f_count, hc1, hc2, hc3, hc4, hc5, hc6, hc7, hc8, hc9, if_true, if_false, not_true_eq_false, not_false_eq_true]; rfl) | (simp [f_count, hc1, hc2, hc3, hc4, hc5, hc6, hc7, hc8, hc9]; done) | (simp [f_count, hc1, hc2, hc3, hc4, hc5, hc6, hc7, hc8, hc9]; rfl) | (simp_all [f_count, hc1, hc2, hc3, hc4, hc5, hc6, hc7, hc8, hc9]; done)) dX9_count_121
  by_cases hc10 : x = 9
  · refine k_tableIn (off := 121) (tgt := 122) F dX9_count_1 (by rw [hc10]; decide) (by rw [hc10]; decide) (by rw [hc10]; rfl) (by decide) ?_
    refine k_aload_n (n := 123) F dX9_count_122 rfl 0 rfl rfl ?_
    refine k_get (n := 126) (v := .ref ((ad 10))) F uX9 0 5 rfl rfl (by decide) mw_201 rfl dX9_count_123 rfl ?_
    refine k_getN (n := 129) (v := .int (i 30)) F uX5 10 5 rfl rfl (by decide) nw_25 rfl dX9_count_126 rfl ?_
    exact k_iret F (by first | rfl | (simp only [f_count, hc1, hc2, hc3, hc4, hc5, hc6, hc7, hc8, hc9, hc10, if_true, if_false, not_true_eq_false, not_false_eq_true]; done) | (simp only [f_count, hc1, hc2, hc3, hc4, hc5, hc6, hc7, hc8, hc9, hc10, if_true, if_false, not_true_eq_false, not_false_eq_true]; rfl) | (simp [f_count, hc1, hc2, hc3, hc4, hc5, hc6, hc7, hc8, hc9, hc10]; done) | (simp [f_count, hc1, hc2, hc3, hc4, hc5, hc6, hc7, hc8, hc9, hc10]; rfl) | (simp_all [f_count, hc1, hc2, hc3, hc4, hc5, hc6, hc7, hc8, hc9, hc10]; done)) (by first | rfl | (simp only [f_count, hc1, hc2, hc3, hc4, hc5, hc6, hc7, hc8, hc9, hc10, if_true, if_false, not_true_eq_false, not_false_eq_true]; done) | (simp only [f_count, hc1, hc2, hc3, hc4, hc5, hc6, hc7, hc8, hc9, hc10, if_true, if_false, not_true_eq_false, not_false_eq_true]; rfl) | (simp [f_count, hc1, hc2, hc3, hc4, hc5, hc6, hc7, hc8, hc9, hc10]; done) | (simp [f_count, hc1, hc2, hc3, hc4, hc5, hc6, hc7, hc8, hc9, hc10]; rfl) | (simp_all [f_count, hc1, hc2, hc3, hc4, hc5, hc6, hc7, hc8, hc9, hc10]; done)) dX9_count_129
  refine k_tableOut (tgt := 130) F dX9_count_1 (by have z0 := lv_neT hc1 (show (0 : Int32).toInt = 0 from rfl); have z1 := lv_neT hc2 (show (1 : Int32).toInt = 1 from rfl); have z2 := lv_neT hc3 (show (2 : Int32).toInt = 2 from rfl); have z3 := lv_neT hc4 (show (3 : Int32).toInt = 3 from rfl); have z4 := lv_neT hc5 (show (4 : Int32).toInt = 4 from rfl); have z5 := lv_neT hc6 (show (5 : Int32).toInt = 5 from rfl); have z6 := lv_neT hc7 (show (6 : Int32).toInt = 6 from rfl); have z7 := lv_neT hc8 (show (7 : Int32).toInt = 7 from rfl); have z8 := lv_neT hc9 (show (8 : Int32).toInt = 8 from rfl); have z9 := lv_neT hc10 (show (9 : Int32).toInt = 9 from rfl); omega) (by decide) ?_
  refine k_iconst (n := 131) (v := -1) F dX9_count_130 rfl rfl ?_
  exact k_iret F (by first | rfl | (simp only [f_count, hc1, hc2, hc3, hc4, hc5, hc6, hc7, hc8, hc9, hc10, if_true, if_false, not_true_eq_false, not_false_eq_true]; done) | (simp only [f_count, hc1, hc2, hc3, hc4, hc5, hc6, hc7, hc8, hc9, hc10, if_true, if_false, not_true_eq_false, not_false_eq_true]; rfl) | (simp [f_count, hc1, hc2, hc3, hc4, hc5, hc6, hc7, hc8, hc9, hc10]; done) | (simp [f_count, hc1, hc2, hc3, hc4, hc5, hc6, hc7, hc8, hc9, hc10]; rfl) | (simp_all [f_count, hc1, hc2, hc3, hc4, hc5, hc6, hc7, hc8, hc9, hc10]; done)) (by first | rfl | (simp only [f_count, hc1, hc2, hc3, hc4, hc5, hc6, hc7, hc8, hc9, hc10, if_true, if_false, not_true_eq_false, not_false_eq_true]; done) | (simp only [f_count, hc1, hc2, hc3, hc4, hc5, hc6, hc7, hc8, hc9, hc10, if_true, if_false, not_true_eq_false, not_false_eq_true]; rfl) | (simp [f_count, hc1, hc2, hc3, hc4, hc5, hc6, hc7, hc8, hc9, hc10]; done) | (simp [f_count, hc1, hc2, hc3, hc4, hc5, hc6, hc7, hc8, hc9, hc10]; rfl) | (simp_all [f_count, hc1, hc2, hc3, hc4, hc5, hc6, hc7, hc8, hc9, hc10]; done)) dX9_count_131
set_option maxRecDepth 100000 in
set_option maxHeartbeats 4000000 in
theorem c_trace (l : Launch) (g : kG) (ad : Nat → Nat) (cf : Nat → Option Nat) (i : Nat → Int32) (l_ : Nat → Int64) (a : Nat → Nat → Int32) (h : Nat → Int64) : kM l yX9_trace cX9_trace 1 (some .long) (rmK 0 0 0 0) g [.ref ((ad 0))] (wC g ad (i, l_, a, h) cf) (kDl g (l_ 1) (wC g ad (i, l_, a, h) cf)) := by
  refine k_enter (by decide) (Nat.le_of_ble_eq_true rfl) ?_
  intro p e s m args below meth c A F
  refine k_aload_n (n := 1) F dX9_trace_0 rfl 0 rfl rfl ?_
  refine k_get (n := 4) (v := .long (l_ 1)) F uX9 0 12 rfl rfl (by decide) mw_208 rfl dX9_trace_1 rfl ?_
  exact k_lret F (by first | rfl | (simp only [kin, if_true, if_false, not_true_eq_false, not_false_eq_true]; done) | (simp only [kin, if_true, if_false, not_true_eq_false, not_false_eq_true]; rfl) | (simp [kin]; done) | (simp [kin]; rfl) | (simp_all [kin]; done)) (by first | rfl | (simp only [kin, if_true, if_false, not_true_eq_false, not_false_eq_true]; done) | (simp only [kin, if_true, if_false, not_true_eq_false, not_false_eq_true]; rfl) | (simp [kin]; done) | (simp [kin]; rfl) | (simp_all [kin]; done)) dX9_trace_4
end
