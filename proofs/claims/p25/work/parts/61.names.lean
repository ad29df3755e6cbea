/-! names, out of the printed ones -/
/-- a private method of a class that the tables say can be made, by its rows of tables_1 -/
def lw_okq (q : MethodName × Nat) : Prop := (q.1.cls ≠ "java/lang/invoke/MethodHandle" ∧ q.1.cls ≠ "java/lang/invoke/VarHandle") ∧ Cond.instantiable q.1.cls q.2 ∈ tables_1 ∧ Cond.privateMethod q.1 ∈ tables_1 ∧ Cond.instanceMethod q.1 ∈ tables_1
theorem lw_p0 : lw_okq (⟨"java/lang/Throwable", "fillInStackTrace", "(I)Ljava/lang/Throwable;"⟩, 6) := ⟨⟨by decide +kernel, by decide +kernel⟩, List.mem_of_getElem? (i := 211) (by decide +kernel), List.mem_of_getElem? (i := 209) (by decide +kernel), List.mem_of_getElem? (i := 210) (by decide +kernel)⟩
theorem lw_p1 : lw_okq (⟨"KeyframeCourt", "secondsOf", "(I)I"⟩, 6) := ⟨⟨by decide +kernel, by decide +kernel⟩, List.mem_of_getElem? (i := 15) (by decide +kernel), List.mem_of_getElem? (i := 236) (by decide +kernel), List.mem_of_getElem? (i := 237) (by decide +kernel)⟩
theorem lw_p2 : lw_okq (⟨"KeyframeCourt$Stills", "isAsMade", "(ILKeyframeCourt$Rig;)Z"⟩, 3) := ⟨⟨by decide +kernel, by decide +kernel⟩, List.mem_of_getElem? (i := 75) (by decide +kernel), List.mem_of_getElem? (i := 319) (by decide +kernel), List.mem_of_getElem? (i := 320) (by decide +kernel)⟩
theorem lw_p3 : lw_okq (⟨"KeyframeCourt$KeyTable", "openRow", "(I)V"⟩, 5) := ⟨⟨by decide +kernel, by decide +kernel⟩, List.mem_of_getElem? (i := 29) (by decide +kernel), List.mem_of_getElem? (i := 380) (by decide +kernel), List.mem_of_getElem? (i := 381) (by decide +kernel)⟩
theorem lw_p4 : lw_okq (⟨"KeyframeCourt$KeyTable", "copyRow", "(II)V"⟩, 5) := ⟨⟨by decide +kernel, by decide +kernel⟩, List.mem_of_getElem? (i := 29) (by decide +kernel), List.mem_of_getElem? (i := 384) (by decide +kernel), List.mem_of_getElem? (i := 385) (by decide +kernel)⟩
theorem lw_p5 : lw_okq (⟨"KeyframeCourt$Rig", "poseTrack", "(I)V"⟩, 7) := ⟨⟨by decide +kernel, by decide +kernel⟩, List.mem_of_getElem? (i := 23) (by decide +kernel), List.mem_of_getElem? (i := 388) (by decide +kernel), List.mem_of_getElem? (i := 389) (by decide +kernel)⟩
theorem lw_p6 : lw_okq (⟨"KeyframeCourt$Rig", "poseCell", "(IIIII)V"⟩, 7) := ⟨⟨by decide +kernel, by decide +kernel⟩, List.mem_of_getElem? (i := 23) (by decide +kernel), List.mem_of_getElem? (i := 401) (by decide +kernel), List.mem_of_getElem? (i := 402) (by decide +kernel)⟩
theorem lw_p7 : lw_okq (⟨"KeyframeCourt$Rig", "blend", "(III)I"⟩, 7) := ⟨⟨by decide +kernel, by decide +kernel⟩, List.mem_of_getElem? (i := 23) (by decide +kernel), List.mem_of_getElem? (i := 417) (by decide +kernel), List.mem_of_getElem? (i := 418) (by decide +kernel)⟩
theorem lw_p8 : lw_okq (⟨"KeyframeCourt$KeyTable", "closeRow", "(I)V"⟩, 5) := ⟨⟨by decide +kernel, by decide +kernel⟩, List.mem_of_getElem? (i := 29) (by decide +kernel), List.mem_of_getElem? (i := 436) (by decide +kernel), List.mem_of_getElem? (i := 437) (by decide +kernel)⟩
theorem lw_p9 : lw_okq (⟨"KeyframeCourt$Film", "count", "(III)V"⟩, 5) := ⟨⟨by decide +kernel, by decide +kernel⟩, List.mem_of_getElem? (i := 91) (by decide +kernel), List.mem_of_getElem? (i := 453) (by decide +kernel), List.mem_of_getElem? (i := 454) (by decide +kernel)⟩
theorem lw_p10 : lw_okq (⟨"KeyframeCourt$Farm", "rest", "(I)I"⟩, 8) := ⟨⟨by decide +kernel, by decide +kernel⟩, List.mem_of_getElem? (i := 113) (by decide +kernel), List.mem_of_getElem? (i := 501) (by decide +kernel), List.mem_of_getElem? (i := 502) (by decide +kernel)⟩
theorem lw_p11 : lw_okq (⟨"KeyframeCourt$Farm", "cool", "(I)V"⟩, 8) := ⟨⟨by decide +kernel, by decide +kernel⟩, List.mem_of_getElem? (i := 113) (by decide +kernel), List.mem_of_getElem? (i := 505) (by decide +kernel), List.mem_of_getElem? (i := 506) (by decide +kernel)⟩
theorem lw_p12 : lw_okq (⟨"KeyframeCourt$Farm", "work", "(ILKeyframeCourt$Film;LKeyframeCourt$Stills;LKeyframeCourt$Rig;)I"⟩, 8) := ⟨⟨by decide +kernel, by decide +kernel⟩, List.mem_of_getElem? (i := 113) (by decide +kernel), List.mem_of_getElem? (i := 512) (by decide +kernel), List.mem_of_getElem? (i := 513) (by decide +kernel)⟩
theorem lw_p13 : lw_okq (⟨"KeyframeCourt$Farm", "render", "(ILKeyframeCourt$Film;LKeyframeCourt$Stills;LKeyframeCourt$Rig;)I"⟩, 8) := ⟨⟨by decide +kernel, by decide +kernel⟩, List.mem_of_getElem? (i := 113) (by decide +kernel), List.mem_of_getElem? (i := 516) (by decide +kernel), List.mem_of_getElem? (i := 517) (by decide +kernel)⟩
theorem lw_p14 : lw_okq (⟨"KeyframeCourt$Farm", "sell", "(I)I"⟩, 8) := ⟨⟨by decide +kernel, by decide +kernel⟩, List.mem_of_getElem? (i := 113) (by decide +kernel), List.mem_of_getElem? (i := 532) (by decide +kernel), List.mem_of_getElem? (i := 533) (by decide +kernel)⟩
theorem lw_p15 : lw_okq (⟨"KeyframeCourt$Farm", "bestOffer", "()I"⟩, 8) := ⟨⟨by decide +kernel, by decide +kernel⟩, List.mem_of_getElem? (i := 113) (by decide +kernel), List.mem_of_getElem? (i := 536) (by decide +kernel), List.mem_of_getElem? (i := 537) (by decide +kernel)⟩
def lw_privs_1 : List (MethodName × Nat) := [(⟨"java/lang/Throwable", "fillInStackTrace", "(I)Ljava/lang/Throwable;"⟩, 6), (⟨"KeyframeCourt", "secondsOf", "(I)I"⟩, 6), (⟨"KeyframeCourt$Stills", "isAsMade", "(ILKeyframeCourt$Rig;)Z"⟩, 3), (⟨"KeyframeCourt$KeyTable", "openRow", "(I)V"⟩, 5), (⟨"KeyframeCourt$KeyTable", "copyRow", "(II)V"⟩, 5), (⟨"KeyframeCourt$Rig", "poseTrack", "(I)V"⟩, 7), (⟨"KeyframeCourt$Rig", "poseCell", "(IIIII)V"⟩, 7), (⟨"KeyframeCourt$Rig", "blend", "(III)I"⟩, 7), (⟨"KeyframeCourt$KeyTable", "closeRow", "(I)V"⟩, 5), (⟨"KeyframeCourt$Film", "count", "(III)V"⟩, 5), (⟨"KeyframeCourt$Farm", "rest", "(I)I"⟩, 8), (⟨"KeyframeCourt$Farm", "cool", "(I)V"⟩, 8), (⟨"KeyframeCourt$Farm", "work", "(ILKeyframeCourt$Film;LKeyframeCourt$Stills;LKeyframeCourt$Rig;)I"⟩, 8), (⟨"KeyframeCourt$Farm", "render", "(ILKeyframeCourt$Film;LKeyframeCourt$Stills;LKeyframeCourt$Rig;)I"⟩, 8), (⟨"KeyframeCourt$Farm", "sell", "(I)I"⟩, 8), (⟨"KeyframeCourt$Farm", "bestOffer", "()I"⟩, 8)]
theorem lw_r1 : ∀ q ∈ lw_privs_1, lw_okq q := List.forall_mem_cons.mpr ⟨lw_p0, List.forall_mem_cons.mpr ⟨lw_p1, List.forall_mem_cons.mpr ⟨lw_p2, List.forall_mem_cons.mpr ⟨lw_p3, List.forall_mem_cons.mpr ⟨lw_p4, List.forall_mem_cons.mpr ⟨lw_p5, List.forall_mem_cons.mpr ⟨lw_p6, List.forall_mem_cons.mpr ⟨lw_p7, List.forall_mem_cons.mpr ⟨lw_p8, List.forall_mem_cons.mpr ⟨lw_p9, List.forall_mem_cons.mpr ⟨lw_p10, List.forall_mem_cons.mpr ⟨lw_p11, List.forall_mem_cons.mpr ⟨lw_p12, List.forall_mem_cons.mpr ⟨lw_p13, List.forall_mem_cons.mpr ⟨lw_p14, List.forall_mem_cons.mpr ⟨lw_p15, fun _ h => absurd h List.not_mem_nil⟩⟩⟩⟩⟩⟩⟩⟩⟩⟩⟩⟩⟩⟩⟩⟩
theorem lw_p16 : lw_okq (⟨"KeyframeCourt", "isFilmStanding", "()Z"⟩, 6) := ⟨⟨by decide +kernel, by decide +kernel⟩, List.mem_of_getElem? (i := 15) (by decide +kernel), List.mem_of_getElem? (i := 548) (by decide +kernel), List.mem_of_getElem? (i := 549) (by decide +kernel)⟩
theorem lw_p17 : lw_okq (⟨"KeyframeCourt$Rig", "localX", "(II)I"⟩, 7) := ⟨⟨by decide +kernel, by decide +kernel⟩, List.mem_of_getElem? (i := 23) (by decide +kernel), List.mem_of_getElem? (i := 603) (by decide +kernel), List.mem_of_getElem? (i := 604) (by decide +kernel)⟩
theorem lw_p18 : lw_okq (⟨"KeyframeCourt$Rig", "localY", "(II)I"⟩, 7) := ⟨⟨by decide +kernel, by decide +kernel⟩, List.mem_of_getElem? (i := 23) (by decide +kernel), List.mem_of_getElem? (i := 609) (by decide +kernel), List.mem_of_getElem? (i := 610) (by decide +kernel)⟩
def lw_privs_2 : List (MethodName × Nat) := [(⟨"KeyframeCourt", "isFilmStanding", "()Z"⟩, 6), (⟨"KeyframeCourt$Rig", "localX", "(II)I"⟩, 7), (⟨"KeyframeCourt$Rig", "localY", "(II)I"⟩, 7)]
theorem lw_r2 : ∀ q ∈ lw_privs_2, lw_okq q := List.forall_mem_cons.mpr ⟨lw_p16, List.forall_mem_cons.mpr ⟨lw_p17, List.forall_mem_cons.mpr ⟨lw_p18, fun _ h => absurd h List.not_mem_nil⟩⟩⟩
def lw_privs : List (MethodName × Nat) := lw_privs_1 ++ (lw_privs_2)
def lw_tbl : List Cond := k2_sels lw_privs ++ tables_1
theorem lw_privs_ok : ∀ q ∈ lw_privs, lw_okq q := by
  show ∀ q ∈ lw_privs_1 ++ (lw_privs_2), lw_okq q
  exact List.forall_mem_append.mpr ⟨lw_r1, lw_r2⟩
def RX0 : String := "KeyframeCourt$Farm"
def TX0 : u_T := fun k => match k with
  | 0 => ("KeyframeCourt$Farm", "speeds", "[I", true)
  | 1 => ("KeyframeCourt$Farm", "heats", "[I", true)
  | 2 => ("KeyframeCourt$Farm", "resting", "[Z", true)
  | 3 => ("KeyframeCourt$Farm", "machines", "I", false)
  | 4 => ("KeyframeCourt$Farm", "prices", "[I", true)
  | 5 => ("KeyframeCourt$Farm", "hoursLeft", "[I", true)
  | 6 => ("KeyframeCourt$Farm", "offers", "I", false)
  | _ => ("KeyframeCourt$Farm", "earned", "I", false)
def tyX0 : Nat → FieldType := fun k => match k with
  | 0 => .array .int
  | 1 => .array .int
  | 2 => .array .boolean
  | 3 => .int
  | 4 => .array .int
  | 5 => .array .int
  | 6 => .int
  | _ => .int
abbrev wsX00 : List Cond := u_ws RX0 TX0 8
theorem nmX0 : ∀ a, a < 8 → ∀ b, b < 8 → a ≠ b → (TX0 a).2.1 ≠ (TX0 b).2.1 := by decide +kernel
theorem tyX0_ok : ∀ k, k < 8 → parseFieldDescriptor (TX0 k).2.2.1 = some (tyX0 k) := by decide +kernel
abbrev cX0_init : ByteArray := prog_2_method_1_code
def yX0_init : MethodName := ⟨RX0, "<init>", "()V"⟩
abbrev cX0_machineCount : ByteArray := prog_2_method_2_code
def yX0_machineCount : MethodName := ⟨RX0, "machineCount", "()I"⟩
abbrev cX0_offerCount : ByteArray := prog_2_method_3_code
def yX0_offerCount : MethodName := ⟨RX0, "offerCount", "()I"⟩
abbrev cX0_earnings : ByteArray := prog_2_method_4_code
def yX0_earnings : MethodName := ⟨RX0, "earnings", "()I"⟩
abbrev cX0_heatOf : ByteArray := prog_2_method_5_code
def yX0_heatOf : MethodName := ⟨RX0, "heatOf", "(I)I"⟩
abbrev cX0_addMachine : ByteArray := prog_2_method_6_code
def yX0_addMachine : MethodName := ⟨RX0, "addMachine", "(I)I"⟩
abbrev cX0_addOffer : ByteArray := prog_2_method_7_code
def yX0_addOffer : MethodName := ⟨RX0, "addOffer", "(II)I"⟩
abbrev cX0_passHours : ByteArray := prog_2_method_8_code
def yX0_passHours : MethodName := ⟨RX0, "passHours", "(ILKeyframeCourt$Film;LKeyframeCourt$Stills;LKeyframeCourt$Rig;)I"⟩
abbrev cX0_rest : ByteArray := prog_2_method_9_code
def yX0_rest : MethodName := ⟨RX0, "rest", "(I)I"⟩
abbrev cX0_work : ByteArray := prog_2_method_10_code
def yX0_work : MethodName := ⟨RX0, "work", "(ILKeyframeCourt$Film;LKeyframeCourt$Stills;LKeyframeCourt$Rig;)I"⟩
abbrev cX0_render : ByteArray := prog_2_method_11_code
def yX0_render : MethodName := ⟨RX0, "render", "(ILKeyframeCourt$Film;LKeyframeCourt$Stills;LKeyframeCourt$Rig;)I"⟩
abbrev cX0_sell : ByteArray := prog_2_method_12_code
def yX0_sell : MethodName := ⟨RX0, "sell", "(I)I"⟩
abbrev cX0_bestOffer : ByteArray := prog_2_method_13_code
def yX0_bestOffer : MethodName := ⟨RX0, "bestOffer", "()I"⟩
abbrev cX0_cool : ByteArray := prog_2_method_14_code
def yX0_cool : MethodName := ⟨RX0, "cool", "(I)V"⟩
def RX1 : String := "KeyframeCourt$Film"
def TX1 : u_T := fun k => match k with
  | 0 => ("KeyframeCourt$Film", "firsts", "[I", true)
  | 1 => ("KeyframeCourt$Film", "lasts", "[I", true)
  | 2 => ("KeyframeCourt$Film", "times", "[I", true)
  | 3 => ("KeyframeCourt$Film", "shots", "I", false)
  | _ => ("KeyframeCourt$Film", "frames", "I", false)
def tyX1 : Nat → FieldType := fun k => match k with
  | 0 => .array .int
  | 1 => .array .int
  | 2 => .array .int
  | 3 => .int
  | _ => .int
abbrev wsX10 : List Cond := u_ws RX1 TX1 5
theorem nmX1 : ∀ a, a < 5 → ∀ b, b < 5 → a ≠ b → (TX1 a).2.1 ≠ (TX1 b).2.1 := by decide +kernel
theorem tyX1_ok : ∀ k, k < 5 → parseFieldDescriptor (TX1 k).2.2.1 = some (tyX1 k) := by decide +kernel
abbrev cX1_init : ByteArray := prog_3_method_1_code
def yX1_init : MethodName := ⟨RX1, "<init>", "()V"⟩
abbrev cX1_shotCount : ByteArray := prog_3_method_2_code
def yX1_shotCount : MethodName := ⟨RX1, "shotCount", "()I"⟩
abbrev cX1_length : ByteArray := prog_3_method_3_code
def yX1_length : MethodName := ⟨RX1, "length", "()I"⟩
abbrev cX1_timesOf : ByteArray := prog_3_method_4_code
def yX1_timesOf : MethodName := ⟨RX1, "timesOf", "(I)I"⟩
abbrev cX1_needs : ByteArray := prog_3_method_5_code
def yX1_needs : MethodName := ⟨RX1, "needs", "(I)Z"⟩
abbrev cX1_insert : ByteArray := prog_3_method_6_code
def yX1_insert : MethodName := ⟨RX1, "insert", "(III)V"⟩
abbrev cX1_remove : ByteArray := prog_3_method_7_code
def yX1_remove : MethodName := ⟨RX1, "remove", "(I)V"⟩
abbrev cX1_frameAt : ByteArray := prog_3_method_8_code
def yX1_frameAt : MethodName := ⟨RX1, "frameAt", "(I)I"⟩
abbrev cX1_count : ByteArray := prog_3_method_9_code
def yX1_count : MethodName := ⟨RX1, "count", "(III)V"⟩
def RX2 : String := "KeyframeCourt$KeyTable"
def TX2 : u_T := fun k => match k with
  | 0 => ("KeyframeCourt$KeyTable", "codes", "[I", true)
  | 1 => ("KeyframeCourt$KeyTable", "values", "[I", true)
  | 2 => ("KeyframeCourt$KeyTable", "setters", "[I", true)
  | 3 => ("KeyframeCourt$KeyTable", "softs", "[Z", true)
  | _ => ("KeyframeCourt$KeyTable", "count", "I", false)
def tyX2 : Nat → FieldType := fun k => match k with
  | 0 => .array .int
  | 1 => .array .int
  | 2 => .array .int
  | 3 => .array .boolean
  | _ => .int
abbrev wsX20 : List Cond := u_ws RX2 TX2 5
theorem nmX2 : ∀ a, a < 5 → ∀ b, b < 5 → a ≠ b → (TX2 a).2.1 ≠ (TX2 b).2.1 := by decide +kernel
theorem tyX2_ok : ∀ k, k < 5 → parseFieldDescriptor (TX2 k).2.2.1 = some (tyX2 k) := by decide +kernel
abbrev cX2_init : ByteArray := prog_4_method_1_code
def yX2_init : MethodName := ⟨RX2, "<init>", "()V"⟩
abbrev cX2_codeOf : ByteArray := prog_4_method_2_code
def yX2_codeOf : MethodName := ⟨RX2, "codeOf", "(II)I"⟩
abbrev cX2_size : ByteArray := prog_4_method_3_code
def yX2_size : MethodName := ⟨RX2, "size", "()I"⟩
abbrev cX2_codeAt : ByteArray := prog_4_method_4_code
def yX2_codeAt : MethodName := ⟨RX2, "codeAt", "(I)I"⟩
abbrev cX2_frameAt : ByteArray := prog_4_method_5_code
def yX2_frameAt : MethodName := ⟨RX2, "frameAt", "(I)I"⟩
abbrev cX2_valueAt : ByteArray := prog_4_method_6_code
def yX2_valueAt : MethodName := ⟨RX2, "valueAt", "(I)I"⟩
abbrev cX2_setterBit : ByteArray := prog_4_method_7_code
def yX2_setterBit : MethodName := ⟨RX2, "setterBit", "(I)I"⟩
abbrev cX2_isSoft : ByteArray := prog_4_method_8_code
def yX2_isSoft : MethodName := ⟨RX2, "isSoft", "(I)Z"⟩
abbrev cX2_countAhead : ByteArray := prog_4_method_9_code
def yX2_countAhead : MethodName := ⟨RX2, "countAhead", "(I)I"⟩
abbrev cX2_startOf : ByteArray := prog_4_method_10_code
def yX2_startOf : MethodName := ⟨RX2, "startOf", "(I)I"⟩
abbrev cX2_has : ByteArray := prog_4_method_11_code
def yX2_has : MethodName := ⟨RX2, "has", "(I)Z"⟩
abbrev cX2_put : ByteArray := prog_4_method_12_code
def yX2_put : MethodName := ⟨RX2, "put", "(IIIZ)V"⟩
abbrev cX2_take : ByteArray := prog_4_method_13_code
def yX2_take : MethodName := ⟨RX2, "take", "(I)V"⟩
abbrev cX2_openRow : ByteArray := prog_4_method_14_code
def yX2_openRow : MethodName := ⟨RX2, "openRow", "(I)V"⟩
abbrev cX2_closeRow : ByteArray := prog_4_method_15_code
def yX2_closeRow : MethodName := ⟨RX2, "closeRow", "(I)V"⟩
abbrev cX2_copyRow : ByteArray := prog_4_method_16_code
def yX2_copyRow : MethodName := ⟨RX2, "copyRow", "(II)V"⟩
def RX3 : String := "KeyframeCourt$Rig"
def TX3 : u_T := fun k => match k with
  | 0 => ("KeyframeCourt$Rig", "parents", "[I", true)
  | 1 => ("KeyframeCourt$Rig", "offsetsX", "[I", true)
  | 2 => ("KeyframeCourt$Rig", "offsetsY", "[I", true)
  | 3 => ("KeyframeCourt$Rig", "bones", "I", false)
  | 4 => ("KeyframeCourt$Rig", "keys", "LKeyframeCourt$KeyTable;", true)
  | 5 => ("KeyframeCourt$Rig", "poses", "[I", true)
  | _ => ("KeyframeCourt$Rig", "setters", "[I", true)
def tyX3 : Nat → FieldType := fun k => match k with
  | 0 => .array .int
  | 1 => .array .int
  | 2 => .array .int
  | 3 => .int
  | 4 => .object "KeyframeCourt$KeyTable"
  | 5 => .array .int
  | _ => .array .int
abbrev wsX30 : List Cond := u_ws RX3 TX3 7
theorem nmX3 : ∀ a, a < 7 → ∀ b, b < 7 → a ≠ b → (TX3 a).2.1 ≠ (TX3 b).2.1 := by decide +kernel
theorem tyX3_ok : ∀ k, k < 7 → parseFieldDescriptor (TX3 k).2.2.1 = some (tyX3 k) := by decide +kernel
abbrev cX3_init : ByteArray := prog_5_method_1_code
def yX3_init : MethodName := ⟨RX3, "<init>", "()V"⟩
abbrev cX3_boneCount : ByteArray := prog_5_method_2_code
def yX3_boneCount : MethodName := ⟨RX3, "boneCount", "()I"⟩
abbrev cX3_trackCount : ByteArray := prog_5_method_3_code
def yX3_trackCount : MethodName := ⟨RX3, "trackCount", "()I"⟩
abbrev cX3_hasBone : ByteArray := prog_5_method_4_code
def yX3_hasBone : MethodName := ⟨RX3, "hasBone", "(I)Z"⟩
abbrev cX3_hasCell : ByteArray := prog_5_method_5_code
def yX3_hasCell : MethodName := ⟨RX3, "hasCell", "(III)Z"⟩
abbrev cX3_addBone : ByteArray := prog_5_method_6_code
def yX3_addBone : MethodName := ⟨RX3, "addBone", "(III)I"⟩
abbrev cX3_keyCount : ByteArray := prog_5_method_7_code
def yX3_keyCount : MethodName := ⟨RX3, "keyCount", "()I"⟩
abbrev cX3_keyCode : ByteArray := prog_5_method_8_code
def yX3_keyCode : MethodName := ⟨RX3, "keyCode", "(I)I"⟩
abbrev cX3_hasKey : ByteArray := prog_5_method_9_code
def yX3_hasKey : MethodName := ⟨RX3, "hasKey", "(II)Z"⟩
abbrev cX3_setKey : ByteArray := prog_5_method_10_code
def yX3_setKey : MethodName := ⟨RX3, "setKey", "(IIIIZ)V"⟩
abbrev cX3_takeKey : ByteArray := prog_5_method_11_code
def yX3_takeKey : MethodName := ⟨RX3, "takeKey", "(II)V"⟩
abbrev cX3_poseAt : ByteArray := prog_5_method_12_code
def yX3_poseAt : MethodName := ⟨RX3, "poseAt", "(II)I"⟩
abbrev cX3_artistsAt : ByteArray := prog_5_method_13_code
def yX3_artistsAt : MethodName := ⟨RX3, "artistsAt", "(I)I"⟩
abbrev cX3_spanOf : ByteArray := prog_5_method_14_code
def yX3_spanOf : MethodName := ⟨RX3, "spanOf", "(II)I"⟩
abbrev cX3_placeOf : ByteArray := prog_5_method_15_code
def yX3_placeOf : MethodName := ⟨RX3, "placeOf", "(II)I"⟩
abbrev cX3_localX : ByteArray := prog_5_method_16_code
def yX3_localX : MethodName := ⟨RX3, "localX", "(II)I"⟩
abbrev cX3_localY : ByteArray := prog_5_method_17_code
def yX3_localY : MethodName := ⟨RX3, "localY", "(II)I"⟩
abbrev cX3_poseTrack : ByteArray := prog_5_method_18_code
def yX3_poseTrack : MethodName := ⟨RX3, "poseTrack", "(I)V"⟩
abbrev cX3_poseCell : ByteArray := prog_5_method_19_code
def yX3_poseCell : MethodName := ⟨RX3, "poseCell", "(IIIII)V"⟩
abbrev cX3_blend : ByteArray := prog_5_method_20_code
def yX3_blend : MethodName := ⟨RX3, "blend", "(III)I"⟩
def RX4 : String := "KeyframeCourt$Stills"
def TX4 : u_T := fun k => match k with
  | 0 => ("KeyframeCourt$Stills", "made", "[I", true)
  | 1 => ("KeyframeCourt$Stills", "bonesThen", "[I", true)
  | _ => ("KeyframeCourt$Stills", "standings", "[I", true)
def tyX4 : Nat → FieldType := fun k => match k with
  | 0 => .array .int
  | 1 => .array .int
  | _ => .array .int
abbrev wsX40 : List Cond := u_ws RX4 TX4 3
theorem nmX4 : ∀ a, a < 3 → ∀ b, b < 3 → a ≠ b → (TX4 a).2.1 ≠ (TX4 b).2.1 := by decide +kernel
theorem tyX4_ok : ∀ k, k < 3 → parseFieldDescriptor (TX4 k).2.2.1 = some (tyX4 k) := by decide +kernel
abbrev cX4_init : ByteArray := prog_6_method_1_code
def yX4_init : MethodName := ⟨RX4, "<init>", "()V"⟩
abbrev cX4_standing : ByteArray := prog_6_method_2_code
def yX4_standing : MethodName := ⟨RX4, "standing", "(I)I"⟩
abbrev cX4_stands : ByteArray := prog_6_method_3_code
def yX4_stands : MethodName := ⟨RX4, "stands", "(I)Z"⟩
abbrev cX4_render : ByteArray := prog_6_method_4_code
def yX4_render : MethodName := ⟨RX4, "render", "(ILKeyframeCourt$Rig;)V"⟩
abbrev cX4_compareAll : ByteArray := prog_6_method_5_code
def yX4_compareAll : MethodName := ⟨RX4, "compareAll", "(LKeyframeCourt$Rig;)V"⟩
abbrev cX4_voidCount : ByteArray := prog_6_method_6_code
def yX4_voidCount : MethodName := ⟨RX4, "voidCount", "()I"⟩
abbrev cX4_voidCountByAll : ByteArray := prog_6_method_7_code
def yX4_voidCountByAll : MethodName := ⟨RX4, "voidCountByAll", "(LKeyframeCourt$Rig;)I"⟩
abbrev cX4_isAsMade : ByteArray := prog_6_method_8_code
def yX4_isAsMade : MethodName := ⟨RX4, "isAsMade", "(ILKeyframeCourt$Rig;)Z"⟩
def RX5 : String := "KeyframeCourt"
def TX5 : u_T := fun k => match k with
  | 0 => ("KeyframeCourt", "rig", "LKeyframeCourt$Rig;", true)
  | 1 => ("KeyframeCourt", "stills", "LKeyframeCourt$Stills;", true)
  | 2 => ("KeyframeCourt", "film", "LKeyframeCourt$Film;", true)
  | 3 => ("KeyframeCourt", "farm", "LKeyframeCourt$Farm;", true)
  | 4 => ("KeyframeCourt", "paid", "[I", true)
  | _ => ("KeyframeCourt", "rate", "I", false)
def tyX5 : Nat → FieldType := fun k => match k with
  | 0 => .object "KeyframeCourt$Rig"
  | 1 => .object "KeyframeCourt$Stills"
  | 2 => .object "KeyframeCourt$Film"
  | 3 => .object "KeyframeCourt$Farm"
  | 4 => .array .int
  | _ => .int
abbrev wsX50 : List Cond := u_ws RX5 TX5 6
theorem nmX5 : ∀ a, a < 6 → ∀ b, b < 6 → a ≠ b → (TX5 a).2.1 ≠ (TX5 b).2.1 := by decide +kernel
theorem tyX5_ok : ∀ k, k < 6 → parseFieldDescriptor (TX5 k).2.2.1 = some (tyX5 k) := by decide +kernel
abbrev cX5_init : ByteArray := prog_1_method_1_code
def yX5_init : MethodName := ⟨RX5, "<init>", "()V"⟩
abbrev cX5_bone : ByteArray := prog_1_method_2_code
def yX5_bone : MethodName := ⟨RX5, "bone", "(III)I"⟩
abbrev cX5_key : ByteArray := prog_1_method_3_code
def yX5_key : MethodName := ⟨RX5, "key", "(IIIIIZ)I"⟩
abbrev cX5_unkey : ByteArray := prog_1_method_4_code
def yX5_unkey : MethodName := ⟨RX5, "unkey", "(III)I"⟩
abbrev cX5_value : ByteArray := prog_1_method_5_code
def yX5_value : MethodName := ⟨RX5, "value", "(III)I"⟩
abbrev cX5_span : ByteArray := prog_1_method_6_code
def yX5_span : MethodName := ⟨RX5, "span", "(III)I"⟩
abbrev cX5_keyAt : ByteArray := prog_1_method_7_code
def yX5_keyAt : MethodName := ⟨RX5, "keyAt", "(I)I"⟩
abbrev cX5_place : ByteArray := prog_1_method_8_code
def yX5_place : MethodName := ⟨RX5, "place", "(II)I"⟩
abbrev cX5_artists : ByteArray := prog_1_method_9_code
def yX5_artists : MethodName := ⟨RX5, "artists", "(I)I"⟩
abbrev cX5_cut : ByteArray := prog_1_method_10_code
def yX5_cut : MethodName := ⟨RX5, "cut", "(III)I"⟩
abbrev cX5_uncut : ByteArray := prog_1_method_11_code
def yX5_uncut : MethodName := ⟨RX5, "uncut", "(I)I"⟩
abbrev cX5_shown : ByteArray := prog_1_method_12_code
def yX5_shown : MethodName := ⟨RX5, "shown", "(I)I"⟩
abbrev cX5_state : ByteArray := prog_1_method_13_code
def yX5_state : MethodName := ⟨RX5, "state", "(I)I"⟩
abbrev cX5_voids : ByteArray := prog_1_method_14_code
def yX5_voids : MethodName := ⟨RX5, "voids", "()I"⟩
abbrev cX5_voidsByAll : ByteArray := prog_1_method_15_code
def yX5_voidsByAll : MethodName := ⟨RX5, "voidsByAll", "()I"⟩
abbrev cX5_machine : ByteArray := prog_1_method_16_code
def yX5_machine : MethodName := ⟨RX5, "machine", "(I)I"⟩
abbrev cX5_offer : ByteArray := prog_1_method_17_code
def yX5_offer : MethodName := ⟨RX5, "offer", "(II)I"⟩
abbrev cX5_night : ByteArray := prog_1_method_18_code
def yX5_night : MethodName := ⟨RX5, "night", "(I)I"⟩
abbrev cX5_heat : ByteArray := prog_1_method_19_code
def yX5_heat : MethodName := ⟨RX5, "heat", "(I)I"⟩
abbrev cX5_setRate : ByteArray := prog_1_method_20_code
def yX5_setRate : MethodName := ⟨RX5, "setRate", "(I)I"⟩
abbrev cX5_seconds : ByteArray := prog_1_method_21_code
def yX5_seconds : MethodName := ⟨RX5, "seconds", "(I)I"⟩
abbrev cX5_show : ByteArray := prog_1_method_22_code
def yX5_show : MethodName := ⟨RX5, "show", "()I"⟩
abbrev cX5_money : ByteArray := prog_1_method_23_code
def yX5_money : MethodName := ⟨RX5, "money", "(I)I"⟩
abbrev cX5_secondsOf : ByteArray := prog_1_method_24_code
def yX5_secondsOf : MethodName := ⟨RX5, "secondsOf", "(I)I"⟩
abbrev cX5_isFilmStanding : ByteArray := prog_1_method_25_code
def yX5_isFilmStanding : MethodName := ⟨RX5, "isFilmStanding", "()Z"⟩
abbrev cX5_mustExist : ByteArray := prog_1_method_26_code
def yX5_mustExist : MethodName := ⟨RX5, "mustExist", "(Z)V"⟩
abbrev cX5_mustFit : ByteArray := prog_1_method_27_code
def yX5_mustFit : MethodName := ⟨RX5, "mustFit", "(Z)V"⟩
abbrev cX5_mustBePossible : ByteArray := prog_1_method_28_code
def yX5_mustBePossible : MethodName := ⟨RX5, "mustBePossible", "(Z)V"⟩
abbrev cX5_isWithin : ByteArray := prog_1_method_29_code
def yX5_isWithin : MethodName := ⟨RX5, "isWithin", "(III)Z"⟩
abbrev cX5_isFrame : ByteArray := prog_1_method_30_code
def yX5_isFrame : MethodName := ⟨RX5, "isFrame", "(I)Z"⟩
abbrev cX5_trackOf : ByteArray := prog_1_method_31_code
def yX5_trackOf : MethodName := ⟨RX5, "trackOf", "(II)I"⟩
def RX6 : String := "KeyframeCourtModel"
def TX6 : u_T := fun k => match k with
  | _ => ("", "", "", false)
def tyX6 : Nat → FieldType := fun k => match k with
  | _ => .int
abbrev wsX60 : List Cond := u_ws RX6 TX6 0
theorem nmX6 : ∀ a, a < 0 → ∀ b, b < 0 → a ≠ b → (TX6 a).2.1 ≠ (TX6 b).2.1 := by decide +kernel
theorem tyX6_ok : ∀ k, k < 0 → parseFieldDescriptor (TX6 k).2.2.1 = some (tyX6 k) := by decide +kernel
def RJ9 : String := "java/lang/Math"
def TJ9 : u_T := fun k => match k with
  | _ => ("", "", "", false)
def tyJ9 : Nat → FieldType := fun k => match k with
  | _ => .int
abbrev wsJ90 : List Cond := u_ws RJ9 TJ9 0
theorem nmJ9 : ∀ a, a < 0 → ∀ b, b < 0 → a ≠ b → (TJ9 a).2.1 ≠ (TJ9 b).2.1 := by decide +kernel
theorem tyJ9_ok : ∀ k, k < 0 → parseFieldDescriptor (TJ9 k).2.2.1 = some (tyJ9 k) := by decide +kernel
abbrev cJ9_floorDiv_7cf53 : ByteArray := prog_13_method_47_code
def yJ9_floorDiv_7cf53 : MethodName := ⟨RJ9, "floorDiv", "(II)I"⟩
abbrev cJ9_max_7cf53 : ByteArray := prog_13_method_65_code
def yJ9_max_7cf53 : MethodName := ⟨RJ9, "max", "(II)I"⟩
def RL : String := "KeyframeCourtLaw"
abbrev cL_part : ByteArray := method_2_code
def yL_part : MethodName := ⟨RL, "part", "([III)I"⟩
abbrev cL_does : ByteArray := method_3_code
def yL_does : MethodName := ⟨RL, "does", "(LKeyframeCourt;IIIIIIZ)I"⟩
abbrev cL_asks : ByteArray := method_4_code
def yL_asks : MethodName := ⟨RL, "asks", "(LKeyframeCourt;IIII)I"⟩
abbrev cL_find : ByteArray := method_5_code
def yL_find : MethodName := ⟨RL, "find", "([I[II)I"⟩
abbrev cL_near : ByteArray := method_6_code
def yL_near : MethodName := ⟨RL, "near", "([I[IIIZ)I"⟩
abbrev cL_valueAt : ByteArray := method_7_code
def yL_valueAt : MethodName := ⟨RL, "valueAt", "([I[I[I[III)I"⟩
abbrev cL_pack : ByteArray := method_8_code
def yL_pack : MethodName := ⟨RL, "pack", "([I[I[I[II)J"⟩
abbrev cL_made : ByteArray := method_9_code
def yL_made : MethodName := ⟨RL, "made", "([J[JI)J"⟩
abbrev cL_isNeeded : ByteArray := method_10_code
def yL_isNeeded : MethodName := ⟨RL, "isNeeded", "([I[II)Z"⟩
abbrev cL_voids : ByteArray := method_11_code
def yL_voids : MethodName := ⟨RL, "voids", "([I[I[I[I[J[J)I"⟩
abbrev cL_artists : ByteArray := method_12_code
def yL_artists : MethodName := ⟨RL, "artists", "([I[I[II)I"⟩
abbrev cL_seconds : ByteArray := method_13_code
def yL_seconds : MethodName := ⟨RL, "seconds", "([I[I[I[II)I"⟩
abbrev cL_length : ByteArray := method_14_code
def yL_length : MethodName := ⟨RL, "length", "([I[I)I"⟩
abbrev cL_place : ByteArray := method_15_code
def yL_place : MethodName := ⟨RL, "place", "([I[I[I[I[III)I"⟩
abbrev cL_areKeys : ByteArray := method_16_code
def yL_areKeys : MethodName := ⟨RL, "areKeys", "(LKeyframeCourt;[I[I[I[I[II)Z"⟩
abbrev cL_areFrames : ByteArray := method_17_code
def yL_areFrames : MethodName := ⟨RL, "areFrames", "(LKeyframeCourt;[I[I[I[I[I[J[JI)Z"⟩
abbrev cL_areMachines : ByteArray := method_18_code
def yL_areMachines : MethodName := ⟨RL, "areMachines", "(LKeyframeCourt;[I[I)Z"⟩
abbrev cL_isKeyed : ByteArray := method_19_code
def yL_isKeyed : MethodName := ⟨RL, "isKeyed", "(LKeyframeCourt;[I[I[I[I[J[JIIIIIZ)Z"⟩
abbrev cL_isUnkeyed : ByteArray := method_20_code
def yL_isUnkeyed : MethodName := ⟨RL, "isUnkeyed", "(LKeyframeCourt;[I[I[I[I[J[JI)Z"⟩
abbrev cL_hour : ByteArray := method_21_code
def yL_hour : MethodName := ⟨RL, "hour", "([I[I[I[I[I[I[I[J[JI)I"⟩
abbrev cL_isShown : ByteArray := method_22_code
def yL_isShown : MethodName := ⟨RL, "isShown", "(LKeyframeCourt;[I[I[I[I[I[J[J)Z"⟩
abbrev cL_isDone : ByteArray := method_23_code
def yL_isDone : MethodName := ⟨RL, "isDone", "(LKeyframeCourt;[II[I[I[I[I[I[I[I[I[J[J)Z"⟩
abbrev cL_law : ByteArray := code
def yL_law : MethodName := ⟨RL, "law", "([I)Z"⟩
