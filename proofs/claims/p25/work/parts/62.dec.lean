/-! the methods, and what their instructions decode to -/
abbrev sd_mt : Type := MethodName × ByteArray × Nat × Option FieldType × Nat × List (Nat × Nat × Nat × Nat) × Nat
def sd_g0 : List sd_mt := [(⟨"KeyframeCourt$KeyTable", "size", "()I"⟩, prog_4_method_3_code, 1, (some .int), 2, [], 365), (⟨"KeyframeCourt$Film", "shotCount", "()I"⟩, prog_3_method_2_code, 1, (some .int), 1, [], 446), (⟨"KeyframeCourt$Film", "length", "()I"⟩, prog_3_method_3_code, 1, (some .int), 1, [], 459), (⟨"KeyframeCourt$Film", "timesOf", "(I)I"⟩, prog_3_method_4_code, 2, (some .int), 1, [], 250), (⟨"KeyframeCourt$Film", "needs", "(I)Z"⟩, prog_3_method_5_code, 2, (some .boolean), 1, [], 522), (⟨"KeyframeCourt$Farm", "machineCount", "()I"⟩, prog_2_method_2_code, 1, (some .int), 0, [], 475), (⟨"KeyframeCourt$Farm", "earnings", "()I"⟩, prog_2_method_4_code, 1, (some .int), 0, [], 647), (⟨"KeyframeCourt$Rig", "boneCount", "()I"⟩, prog_5_method_2_code, 1, (some .int), 3, [], 291), (⟨"KeyframeCourt$Rig", "trackCount", "()I"⟩, prog_5_method_3_code, 1, (some .int), 3, [], 246), (⟨"KeyframeCourt$Rig", "hasBone", "(I)Z"⟩, prog_5_method_4_code, 2, (some .boolean), 3, [], 268), (⟨"KeyframeCourt$Rig", "hasCell", "(III)Z"⟩, prog_5_method_5_code, 4, (some .boolean), 3, [], 335), (⟨"KeyframeCourt$Rig", "keyCount", "()I"⟩, prog_5_method_7_code, 1, (some .int), 3, [], 361), (⟨"KeyframeCourt$Rig", "poseAt", "(II)I"⟩, prog_5_method_12_code, 3, (some .int), 3, [], 327), (⟨"KeyframeCourt$Rig", "artistsAt", "(I)I"⟩, prog_5_method_13_code, 4, (some .int), 3, [], 242), (⟨"KeyframeCourt$Stills", "standing", "(I)I"⟩, prog_6_method_2_code, 2, (some .int), 4, [], 631), (⟨"KeyframeCourt$Stills", "voidCount", "()I"⟩, prog_6_method_6_code, 3, (some .int), 4, [], 369)]
def sd_g1 : List sd_mt := [(⟨"KeyframeCourt$Stills", "voidCountByAll", "(LKeyframeCourt$Rig;)I"⟩, prog_6_method_7_code, 4, (some .int), 4, [], 683), (⟨"KeyframeCourt$Stills", "isAsMade", "(ILKeyframeCourt$Rig;)Z"⟩, prog_6_method_8_code, 4, (some .boolean), 4, [], 321), (⟨"KeyframeCourt", "bone", "(III)I"⟩, prog_1_method_2_code, 5, (some .int), 5, [], 264), (⟨"KeyframeCourt", "key", "(IIIIIZ)I"⟩, prog_1_method_3_code, 9, (some .int), 5, [], 331), (⟨"KeyframeCourt", "unkey", "(III)I"⟩, prog_1_method_4_code, 6, (some .int), 5, [], 426), (⟨"KeyframeCourt", "value", "(III)I"⟩, prog_1_method_5_code, 4, (some .int), 5, [], 571), (⟨"KeyframeCourt", "keyAt", "(I)I"⟩, prog_1_method_7_code, 2, (some .int), 5, [], 585), (⟨"KeyframeCourt", "place", "(II)I"⟩, prog_1_method_8_code, 3, (some .int), 5, [], 597), (⟨"KeyframeCourt", "artists", "(I)I"⟩, prog_1_method_9_code, 2, (some .int), 5, [], 615), (⟨"KeyframeCourt", "cut", "(III)I"⟩, prog_1_method_10_code, 4, (some .int), 5, [], 442), (⟨"KeyframeCourt", "uncut", "(I)I"⟩, prog_1_method_11_code, 2, (some .int), 5, [], 463), (⟨"KeyframeCourt", "shown", "(I)I"⟩, prog_1_method_12_code, 2, (some .int), 5, [], 619), (⟨"KeyframeCourt", "state", "(I)I"⟩, prog_1_method_13_code, 2, (some .int), 5, [], 627), (⟨"KeyframeCourt", "voids", "()I"⟩, prog_1_method_14_code, 1, (some .int), 5, [], 675), (⟨"KeyframeCourt", "voidsByAll", "()I"⟩, prog_1_method_15_code, 1, (some .int), 5, [], 679), (⟨"KeyframeCourt", "machine", "(I)I"⟩, prog_1_method_16_code, 2, (some .int), 5, [], 471)]
def sd_g2 : List sd_mt := [(⟨"KeyframeCourt", "offer", "(II)I"⟩, prog_1_method_17_code, 3, (some .int), 5, [], 483), (⟨"KeyframeCourt", "night", "(I)I"⟩, prog_1_method_18_code, 2, (some .int), 5, [], 495), (⟨"KeyframeCourt", "heat", "(I)I"⟩, prog_1_method_19_code, 2, (some .int), 5, [], 635), (⟨"KeyframeCourt", "setRate", "(I)I"⟩, prog_1_method_20_code, 3, (some .int), 5, [], 542), (⟨"KeyframeCourt", "seconds", "(I)I"⟩, prog_1_method_21_code, 2, (some .int), 5, [], 165), (⟨"KeyframeCourt", "money", "(I)I"⟩, prog_1_method_23_code, 2, (some .int), 5, [], 643), (⟨"KeyframeCourt", "secondsOf", "(I)I"⟩, prog_1_method_24_code, 4, (some .int), 5, [], 238), (⟨"KeyframeCourt", "mustExist", "(Z)V"⟩, prog_1_method_26_code, 1, none, 5, [], 171), (⟨"KeyframeCourt", "mustFit", "(Z)V"⟩, prog_1_method_27_code, 1, none, 5, [], 272), (⟨"KeyframeCourt", "isWithin", "(III)Z"⟩, prog_1_method_29_code, 3, (some .boolean), 5, [], 168), (⟨"KeyframeCourt", "isFrame", "(I)Z"⟩, prog_1_method_30_code, 1, (some .boolean), 5, [], 339), (⟨"KeyframeCourtLaw", "part", "([III)I"⟩, method_2_code, 4, (some .int), 7, [], 253), (⟨"KeyframeCourtLaw", "does", "(LKeyframeCourt;IIIIIIZ)I"⟩, method_3_code, 9, (some .int), 7, [(0, 142, 143, 45), (0, 142, 149, 47), (0, 142, 155, 49)], 257), (⟨"KeyframeCourtLaw", "asks", "(LKeyframeCourt;IIII)I"⟩, method_4_code, 6, (some .int), 7, [(0, 131, 132, 45)], 567), (⟨"KeyframeCourtLaw", "made", "([J[JI)J"⟩, method_9_code, 3, (some .long), 7, [], 659), (⟨"KeyframeCourtLaw", "isNeeded", "([I[II)Z"⟩, method_10_code, 5, (some .boolean), 7, [], 668)]
def sd_g3 : List sd_mt := [(⟨"KeyframeCourtLaw", "artists", "([I[I[II)I"⟩, method_12_code, 8, (some .int), 7, [], 558), (⟨"KeyframeCourtLaw", "seconds", "([I[I[I[II)I"⟩, method_13_code, 8, (some .int), 7, [], 555), (⟨"KeyframeCourtLaw", "length", "([I[I)I"⟩, method_14_code, 4, (some .int), 7, [], 671), (⟨"KeyframeCourtLaw", "areKeys", "(LKeyframeCourt;[I[I[I[I[II)Z"⟩, method_16_code, 17, (some .boolean), 7, [], 564), (⟨"KeyframeCourtLaw", "areFrames", "(LKeyframeCourt;[I[I[I[I[I[J[JI)Z"⟩, method_17_code, 15, (some .boolean), 7, [], 656), (⟨"KeyframeCourtLaw", "areMachines", "(LKeyframeCourt;[I[I)Z"⟩, method_18_code, 5, (some .boolean), 7, [], 686), (⟨"KeyframeCourtLaw", "isDone", "(LKeyframeCourt;[II[I[I[I[I[I[I[I[I[J[J)Z"⟩, method_23_code, 23, (some .boolean), 7, [], 689), (⟨"KeyframeCourtLaw", "law", "([I)Z"⟩, code, 15, (some .boolean), 7, [], 0)]
def sd_tbl : List (List sd_mt) := [sd_g0, sd_g1, sd_g2, sd_g3]
def sd_m (i : Nat) : sd_mt := (sd_tbl.getD (i / 16) []).getD (i % 16) (⟨"", "", ""⟩, ⟨#[]⟩, 0, none, 0, [], 0)
def sd_y (i : Nat) : MethodName := (sd_m i).1
def sd_b (i : Nat) : ByteArray := (sd_m i).2.1
def sd_l (i : Nat) : Nat := (sd_m i).2.2.1
def sd_r (i : Nat) : Option FieldType := (sd_m i).2.2.2.1
def sd_c (i : Nat) : Nat := (sd_m i).2.2.2.2.1
def sd_h (i : Nat) : List (Nat × Nat × Nat × Nat) := (sd_m i).2.2.2.2.2.1
def sd_x (i : Nat) : Nat := (sd_m i).2.2.2.2.2.2
/-- the static ones -/
def sd_st (i : Nat) : Bool := [39, 40, 41, 42, 43, 44, 45, 46, 47, 48, 49, 50, 51, 52, 53, 54, 55].any (Nat.beq i)
def sd_f4 (a : Nat) : Fin 4 := if h : a < 4 then ⟨a, h⟩ else 0
theorem sd_f4_v {a : Nat} (h : a < 4) : (sd_f4 a : Nat) = a := by unfold sd_f4; rw [dif_pos h]
def sd_bin : Nat → Instr
  | 0 => .iadd
  | 1 => .iadd
  | 2 => .isub
  | 3 => .imul
  | 4 => .idiv
  | 5 => .irem
  | 6 => .iand
  | 7 => .ior
  | 8 => .ishl
  | 9 => .ishr
  | _ => .ixor
def sd_ok (b : ByteArray) (pc op a : Nat) (v : Int) (nx cp : Nat) : Prop :=
  (op = 0 ∧ ((decode b pc = .ok (.iconst v, 1) ∧ nx = pc + 1 ∧ -128 ≤ v ∧ v ≤ 127) ∨ (decode b pc = .ok (.bipush v, 2) ∧ nx = pc + 2 ∧ -128 ≤ v ∧ v ≤ 127) ∨ (decode b pc = .ok (.sipush v, 3) ∧ nx = pc + 3 ∧ -32768 ≤ v ∧ v ≤ 32767))) ∨
  (op = 1 ∧ ((decode b pc = .ok (.iload_n (sd_f4 a), 1) ∧ nx = pc + 1 ∧ a < 4) ∨ (decode b pc = .ok (.iload a, 2) ∧ nx = pc + 2))) ∨
  (op = 2 ∧ ((decode b pc = .ok (.aload_n (sd_f4 a), 1) ∧ nx = pc + 1 ∧ a < 4) ∨ (decode b pc = .ok (.aload a, 2) ∧ nx = pc + 2))) ∨
  (op = 3 ∧ ((decode b pc = .ok (.istore_n (sd_f4 a), 1) ∧ nx = pc + 1 ∧ a < 4) ∨ (decode b pc = .ok (.istore a, 2) ∧ nx = pc + 2))) ∨
  (op = 4 ∧ ((decode b pc = .ok (.astore_n (sd_f4 a), 1) ∧ nx = pc + 1 ∧ a < 4) ∨ (decode b pc = .ok (.astore a, 2) ∧ nx = pc + 2))) ∨
  (op = 5 ∧ decode b pc = .ok (.iinc a v, 3) ∧ nx = pc + 3 ∧ -128 ≤ v ∧ v ≤ 127) ∨
  (op = 6 ∧ decode b pc = .ok (sd_bin a, 1) ∧ nx = pc + 1 ∧ a ≤ 10) ∨
  (op = 10 ∧ decode b pc = .ok ((if a = 0 then .iaload else .baload), 1) ∧ nx = pc + 1) ∨
  (op = 12 ∧ decode b pc = .ok (.getfield cp, 3) ∧ nx = pc + 3) ∨
  (op = 13 ∧ decode b pc = .ok (.getfield cp, 3) ∧ nx = pc + 3) ∨
  (op = 15 ∧ (decode b pc = .ok (.if_icmp .eq (v - pc), 3) ∧ a = 0 ∨ decode b pc = .ok (.if_icmp .ne (v - pc), 3) ∧ a = 1 ∨ decode b pc = .ok (.if_icmp .lt (v - pc), 3) ∧ a = 2 ∨ decode b pc = .ok (.if_icmp .ge (v - pc), 3) ∧ a = 3 ∨ decode b pc = .ok (.if_icmp .gt (v - pc), 3) ∧ a = 4 ∨ decode b pc = .ok (.if_icmp .le (v - pc), 3) ∧ a = 5) ∧ nx = pc + 3) ∨
  (op = 16 ∧ (decode b pc = .ok (.ifCond .eq (v - pc), 3) ∧ a = 0 ∨ decode b pc = .ok (.ifCond .ne (v - pc), 3) ∧ a = 1 ∨ decode b pc = .ok (.ifCond .lt (v - pc), 3) ∧ a = 2 ∨ decode b pc = .ok (.ifCond .ge (v - pc), 3) ∧ a = 3 ∨ decode b pc = .ok (.ifCond .gt (v - pc), 3) ∧ a = 4 ∨ decode b pc = .ok (.ifCond .le (v - pc), 3) ∧ a = 5) ∧ nx = pc + 3) ∨
  (op = 17 ∧ decode b pc = .ok (.goto ((nx : Int) - pc), 3)) ∨
  (op = 18 ∧ decode b pc = .ok ((if sd_st a = true then .invokestatic cp else .invokevirtual cp), 3) ∧ nx = pc + 3) ∨
  (op = 19 ∧ decode b pc = .ok (.ireturn, 1)) ∨
  (op = 20 ∧ decode b pc = .ok (.return_, 1)) ∨
  (op = 21 ∧ decode b pc = .ok (.new cp, 3) ∧ decode b (pc + 3) = .ok (.dup, 1) ∧ decode b (pc + 4) = .ok (.invokespecial v.toNat, 3) ∧ decode b (pc + 7) = .ok (.athrow, 1)) ∨
  (op = 24 ∧ decode b pc = .ok (.laload, 1) ∧ nx = pc + 1) ∨
  (op = 25 ∧ decode b pc = .ok (.lcmp, 1) ∧ nx = pc + 1) ∨
  (op = 26 ∧ decode b pc = .ok (.iaload, 1) ∧ nx = pc + 1) ∨
  (op = 27 ∧ decode b pc = .ok (.arraylength, 1) ∧ nx = pc + 1) ∨
  (op = 29 ∧ decode b pc = .ok (.lstore a, 2) ∧ nx = pc + 2) ∨
  (op = 30 ∧ decode b pc = .ok (.lload a, 2) ∧ nx = pc + 2) ∨
  (op = 31 ∧ decode b pc = .ok (.lconst 0, 1) ∧ nx = pc + 1 ∧ v = 0) ∨
  (op = 32 ∧ decode b pc = .ok (.lreturn, 1)) ∨
  (op = 33 ∧ decode b pc = .ok (.ldc cp, 2) ∧ nx = pc + 2 ∧ -2147483648 ≤ v ∧ v ≤ 2147483647)
def sd_k0 (b : ByteArray) (pc op a : Nat) (v : Int) (nx cp : Nat) : Bool := (decide (op = 0) && ((decide (decode b pc = .ok (.iconst v, 1)) && decide (nx = pc + 1) && decide (-128 ≤ v) && decide (v ≤ 127)) || (decide (decode b pc = .ok (.bipush v, 2)) && decide (nx = pc + 2) && decide (-128 ≤ v) && decide (v ≤ 127)) || (decide (decode b pc = .ok (.sipush v, 3)) && decide (nx = pc + 3) && decide (-32768 ≤ v) && decide (v ≤ 32767))))
def sd_k1 (b : ByteArray) (pc op a : Nat) (v : Int) (nx cp : Nat) : Bool := (decide (op = 1) && ((decide (decode b pc = .ok (.iload_n (sd_f4 a), 1)) && decide (nx = pc + 1) && decide (a < 4)) || (decide (decode b pc = .ok (.iload a, 2)) && decide (nx = pc + 2))))
def sd_k2 (b : ByteArray) (pc op a : Nat) (v : Int) (nx cp : Nat) : Bool := (decide (op = 2) && ((decide (decode b pc = .ok (.aload_n (sd_f4 a), 1)) && decide (nx = pc + 1) && decide (a < 4)) || (decide (decode b pc = .ok (.aload a, 2)) && decide (nx = pc + 2))))
def sd_k3 (b : ByteArray) (pc op a : Nat) (v : Int) (nx cp : Nat) : Bool := (decide (op = 3) && ((decide (decode b pc = .ok (.istore_n (sd_f4 a), 1)) && decide (nx = pc + 1) && decide (a < 4)) || (decide (decode b pc = .ok (.istore a, 2)) && decide (nx = pc + 2))))
def sd_k4 (b : ByteArray) (pc op a : Nat) (v : Int) (nx cp : Nat) : Bool := (decide (op = 4) && ((decide (decode b pc = .ok (.astore_n (sd_f4 a), 1)) && decide (nx = pc + 1) && decide (a < 4)) || (decide (decode b pc = .ok (.astore a, 2)) && decide (nx = pc + 2))))
def sd_k5 (b : ByteArray) (pc op a : Nat) (v : Int) (nx cp : Nat) : Bool := (decide (op = 5) && decide (decode b pc = .ok (.iinc a v, 3)) && decide (nx = pc + 3) && decide (-128 ≤ v) && decide (v ≤ 127))
def sd_k6 (b : ByteArray) (pc op a : Nat) (v : Int) (nx cp : Nat) : Bool := (decide (op = 6) && decide (decode b pc = .ok (sd_bin a, 1)) && decide (nx = pc + 1) && decide (a ≤ 10))
def sd_k7 (b : ByteArray) (pc op a : Nat) (v : Int) (nx cp : Nat) : Bool := (decide (op = 10) && decide (decode b pc = .ok ((if a = 0 then .iaload else .baload), 1)) && decide (nx = pc + 1))
def sd_k8 (b : ByteArray) (pc op a : Nat) (v : Int) (nx cp : Nat) : Bool := (decide (op = 12) && decide (decode b pc = .ok (.getfield cp, 3)) && decide (nx = pc + 3))
def sd_k9 (b : ByteArray) (pc op a : Nat) (v : Int) (nx cp : Nat) : Bool := (decide (op = 13) && decide (decode b pc = .ok (.getfield cp, 3)) && decide (nx = pc + 3))
def sd_k10 (b : ByteArray) (pc op a : Nat) (v : Int) (nx cp : Nat) : Bool := (decide (op = 15) && (decide (decode b pc = .ok (.if_icmp .eq (v - pc), 3)) && decide (a = 0) || decide (decode b pc = .ok (.if_icmp .ne (v - pc), 3)) && decide (a = 1) || decide (decode b pc = .ok (.if_icmp .lt (v - pc), 3)) && decide (a = 2) || decide (decode b pc = .ok (.if_icmp .ge (v - pc), 3)) && decide (a = 3) || decide (decode b pc = .ok (.if_icmp .gt (v - pc), 3)) && decide (a = 4) || decide (decode b pc = .ok (.if_icmp .le (v - pc), 3)) && decide (a = 5)) && decide (nx = pc + 3))
def sd_k11 (b : ByteArray) (pc op a : Nat) (v : Int) (nx cp : Nat) : Bool := (decide (op = 16) && (decide (decode b pc = .ok (.ifCond .eq (v - pc), 3)) && decide (a = 0) || decide (decode b pc = .ok (.ifCond .ne (v - pc), 3)) && decide (a = 1) || decide (decode b pc = .ok (.ifCond .lt (v - pc), 3)) && decide (a = 2) || decide (decode b pc = .ok (.ifCond .ge (v - pc), 3)) && decide (a = 3) || decide (decode b pc = .ok (.ifCond .gt (v - pc), 3)) && decide (a = 4) || decide (decode b pc = .ok (.ifCond .le (v - pc), 3)) && decide (a = 5)) && decide (nx = pc + 3))
def sd_k12 (b : ByteArray) (pc op a : Nat) (v : Int) (nx cp : Nat) : Bool := (decide (op = 17) && decide (decode b pc = .ok (.goto ((nx : Int) - pc), 3)))
def sd_k13 (b : ByteArray) (pc op a : Nat) (v : Int) (nx cp : Nat) : Bool := (decide (op = 18) && decide (decode b pc = .ok ((if sd_st a = true then .invokestatic cp else .invokevirtual cp), 3)) && decide (nx = pc + 3))
def sd_k14 (b : ByteArray) (pc op a : Nat) (v : Int) (nx cp : Nat) : Bool := (decide (op = 19) && decide (decode b pc = .ok (.ireturn, 1)))
def sd_k15 (b : ByteArray) (pc op a : Nat) (v : Int) (nx cp : Nat) : Bool := (decide (op = 20) && decide (decode b pc = .ok (.return_, 1)))
def sd_k16 (b : ByteArray) (pc op a : Nat) (v : Int) (nx cp : Nat) : Bool := (decide (op = 21) && decide (decode b pc = .ok (.new cp, 3)) && decide (decode b (pc + 3) = .ok (.dup, 1)) && decide (decode b (pc + 4) = .ok (.invokespecial v.toNat, 3)) && decide (decode b (pc + 7) = .ok (.athrow, 1)))
def sd_k17 (b : ByteArray) (pc op a : Nat) (v : Int) (nx cp : Nat) : Bool := (decide (op = 24) && decide (decode b pc = .ok (.laload, 1)) && decide (nx = pc + 1))
def sd_k18 (b : ByteArray) (pc op a : Nat) (v : Int) (nx cp : Nat) : Bool := (decide (op = 25) && decide (decode b pc = .ok (.lcmp, 1)) && decide (nx = pc + 1))
def sd_k19 (b : ByteArray) (pc op a : Nat) (v : Int) (nx cp : Nat) : Bool := (decide (op = 26) && decide (decode b pc = .ok (.iaload, 1)) && decide (nx = pc + 1))
def sd_k20 (b : ByteArray) (pc op a : Nat) (v : Int) (nx cp : Nat) : Bool := (decide (op = 27) && decide (decode b pc = .ok (.arraylength, 1)) && decide (nx = pc + 1))
def sd_k21 (b : ByteArray) (pc op a : Nat) (v : Int) (nx cp : Nat) : Bool := (decide (op = 29) && decide (decode b pc = .ok (.lstore a, 2)) && decide (nx = pc + 2))
def sd_k22 (b : ByteArray) (pc op a : Nat) (v : Int) (nx cp : Nat) : Bool := (decide (op = 30) && decide (decode b pc = .ok (.lload a, 2)) && decide (nx = pc + 2))
def sd_k23 (b : ByteArray) (pc op a : Nat) (v : Int) (nx cp : Nat) : Bool := (decide (op = 31) && decide (decode b pc = .ok (.lconst 0, 1)) && decide (nx = pc + 1) && decide (v = 0))
def sd_k24 (b : ByteArray) (pc op a : Nat) (v : Int) (nx cp : Nat) : Bool := (decide (op = 32) && decide (decode b pc = .ok (.lreturn, 1)))
def sd_k25 (b : ByteArray) (pc op a : Nat) (v : Int) (nx cp : Nat) : Bool := (decide (op = 33) && decide (decode b pc = .ok (.ldc cp, 2)) && decide (nx = pc + 2) && decide (-2147483648 ≤ v) && decide (v ≤ 2147483647))
def sd_okB (b : ByteArray) (pc op a : Nat) (v : Int) (nx cp : Nat) : Bool := (sd_k0 b pc op a v nx cp || (sd_k1 b pc op a v nx cp || (sd_k2 b pc op a v nx cp || (sd_k3 b pc op a v nx cp || (sd_k4 b pc op a v nx cp || (sd_k5 b pc op a v nx cp || (sd_k6 b pc op a v nx cp || (sd_k7 b pc op a v nx cp || (sd_k8 b pc op a v nx cp || (sd_k9 b pc op a v nx cp || (sd_k10 b pc op a v nx cp || (sd_k11 b pc op a v nx cp || (sd_k12 b pc op a v nx cp || (sd_k13 b pc op a v nx cp || (sd_k14 b pc op a v nx cp || (sd_k15 b pc op a v nx cp || (sd_k16 b pc op a v nx cp || (sd_k17 b pc op a v nx cp || (sd_k18 b pc op a v nx cp || (sd_k19 b pc op a v nx cp || (sd_k20 b pc op a v nx cp || (sd_k21 b pc op a v nx cp || (sd_k22 b pc op a v nx cp || (sd_k23 b pc op a v nx cp || (sd_k24 b pc op a v nx cp || (sd_k25 b pc op a v nx cp))))))))))))))))))))))))))
theorem sd_p0 {b : ByteArray} {pc op a : Nat} {v : Int} {nx cp : Nat} (h : sd_k0 b pc op a v nx cp = true) : (op = 0 ∧ ((decode b pc = .ok (.iconst v, 1) ∧ nx = pc + 1 ∧ -128 ≤ v ∧ v ≤ 127) ∨ (decode b pc = .ok (.bipush v, 2) ∧ nx = pc + 2 ∧ -128 ≤ v ∧ v ≤ 127) ∨ (decode b pc = .ok (.sipush v, 3) ∧ nx = pc + 3 ∧ -32768 ≤ v ∧ v ≤ 32767))) := by
  unfold sd_k0 at h
  simpa only [Bool.or_eq_true, Bool.and_eq_true, decide_eq_true_eq, and_assoc, or_assoc] using h
theorem sd_p1 {b : ByteArray} {pc op a : Nat} {v : Int} {nx cp : Nat} (h : sd_k1 b pc op a v nx cp = true) : (op = 1 ∧ ((decode b pc = .ok (.iload_n (sd_f4 a), 1) ∧ nx = pc + 1 ∧ a < 4) ∨ (decode b pc = .ok (.iload a, 2) ∧ nx = pc + 2))) := by
  unfold sd_k1 at h
  simpa only [Bool.or_eq_true, Bool.and_eq_true, decide_eq_true_eq, and_assoc, or_assoc] using h
theorem sd_p2 {b : ByteArray} {pc op a : Nat} {v : Int} {nx cp : Nat} (h : sd_k2 b pc op a v nx cp = true) : (op = 2 ∧ ((decode b pc = .ok (.aload_n (sd_f4 a), 1) ∧ nx = pc + 1 ∧ a < 4) ∨ (decode b pc = .ok (.aload a, 2) ∧ nx = pc + 2))) := by
  unfold sd_k2 at h
  simpa only [Bool.or_eq_true, Bool.and_eq_true, decide_eq_true_eq, and_assoc, or_assoc] using h
theorem sd_p3 {b : ByteArray} {pc op a : Nat} {v : Int} {nx cp : Nat} (h : sd_k3 b pc op a v nx cp = true) : (op = 3 ∧ ((decode b pc = .ok (.istore_n (sd_f4 a), 1) ∧ nx = pc + 1 ∧ a < 4) ∨ (decode b pc = .ok (.istore a, 2) ∧ nx = pc + 2))) := by
  unfold sd_k3 at h
  simpa only [Bool.or_eq_true, Bool.and_eq_true, decide_eq_true_eq, and_assoc, or_assoc] using h
theorem sd_p4 {b : ByteArray} {pc op a : Nat} {v : Int} {nx cp : Nat} (h : sd_k4 b pc op a v nx cp = true) : (op = 4 ∧ ((decode b pc = .ok (.astore_n (sd_f4 a), 1) ∧ nx = pc + 1 ∧ a < 4) ∨ (decode b pc = .ok (.astore a, 2) ∧ nx = pc + 2))) := by
  unfold sd_k4 at h
  simpa only [Bool.or_eq_true, Bool.and_eq_true, decide_eq_true_eq, and_assoc, or_assoc] using h
theorem sd_p5 {b : ByteArray} {pc op a : Nat} {v : Int} {nx cp : Nat} (h : sd_k5 b pc op a v nx cp = true) : (op = 5 ∧ decode b pc = .ok (.iinc a v, 3) ∧ nx = pc + 3 ∧ -128 ≤ v ∧ v ≤ 127) := by
  unfold sd_k5 at h
  simpa only [Bool.or_eq_true, Bool.and_eq_true, decide_eq_true_eq, and_assoc, or_assoc] using h
theorem sd_p6 {b : ByteArray} {pc op a : Nat} {v : Int} {nx cp : Nat} (h : sd_k6 b pc op a v nx cp = true) : (op = 6 ∧ decode b pc = .ok (sd_bin a, 1) ∧ nx = pc + 1 ∧ a ≤ 10) := by
  unfold sd_k6 at h
  simpa only [Bool.or_eq_true, Bool.and_eq_true, decide_eq_true_eq, and_assoc, or_assoc] using h
theorem sd_p7 {b : ByteArray} {pc op a : Nat} {v : Int} {nx cp : Nat} (h : sd_k7 b pc op a v nx cp = true) : (op = 10 ∧ decode b pc = .ok ((if a = 0 then .iaload else .baload), 1) ∧ nx = pc + 1) := by
  unfold sd_k7 at h
  simpa only [Bool.or_eq_true, Bool.and_eq_true, decide_eq_true_eq, and_assoc, or_assoc] using h
theorem sd_p8 {b : ByteArray} {pc op a : Nat} {v : Int} {nx cp : Nat} (h : sd_k8 b pc op a v nx cp = true) : (op = 12 ∧ decode b pc = .ok (.getfield cp, 3) ∧ nx = pc + 3) := by
  unfold sd_k8 at h
  simpa only [Bool.or_eq_true, Bool.and_eq_true, decide_eq_true_eq, and_assoc, or_assoc] using h
theorem sd_p9 {b : ByteArray} {pc op a : Nat} {v : Int} {nx cp : Nat} (h : sd_k9 b pc op a v nx cp = true) : (op = 13 ∧ decode b pc = .ok (.getfield cp, 3) ∧ nx = pc + 3) := by
  unfold sd_k9 at h
  simpa only [Bool.or_eq_true, Bool.and_eq_true, decide_eq_true_eq, and_assoc, or_assoc] using h
theorem sd_p10 {b : ByteArray} {pc op a : Nat} {v : Int} {nx cp : Nat} (h : sd_k10 b pc op a v nx cp = true) : (op = 15 ∧ (decode b pc = .ok (.if_icmp .eq (v - pc), 3) ∧ a = 0 ∨ decode b pc = .ok (.if_icmp .ne (v - pc), 3) ∧ a = 1 ∨ decode b pc = .ok (.if_icmp .lt (v - pc), 3) ∧ a = 2 ∨ decode b pc = .ok (.if_icmp .ge (v - pc), 3) ∧ a = 3 ∨ decode b pc = .ok (.if_icmp .gt (v - pc), 3) ∧ a = 4 ∨ decode b pc = .ok (.if_icmp .le (v - pc), 3) ∧ a = 5) ∧ nx = pc + 3) := by
  unfold sd_k10 at h
  simpa only [Bool.or_eq_true, Bool.and_eq_true, decide_eq_true_eq, and_assoc, or_assoc] using h
theorem sd_p11 {b : ByteArray} {pc op a : Nat} {v : Int} {nx cp : Nat} (h : sd_k11 b pc op a v nx cp = true) : (op = 16 ∧ (decode b pc = .ok (.ifCond .eq (v - pc), 3) ∧ a = 0 ∨ decode b pc = .ok (.ifCond .ne (v - pc), 3) ∧ a = 1 ∨ decode b pc = .ok (.ifCond .lt (v - pc), 3) ∧ a = 2 ∨ decode b pc = .ok (.ifCond .ge (v - pc), 3) ∧ a = 3 ∨ decode b pc = .ok (.ifCond .gt (v - pc), 3) ∧ a = 4 ∨ decode b pc = .ok (.ifCond .le (v - pc), 3) ∧ a = 5) ∧ nx = pc + 3) := by
  unfold sd_k11 at h
  simpa only [Bool.or_eq_true, Bool.and_eq_true, decide_eq_true_eq, and_assoc, or_assoc] using h
theorem sd_p12 {b : ByteArray} {pc op a : Nat} {v : Int} {nx cp : Nat} (h : sd_k12 b pc op a v nx cp = true) : (op = 17 ∧ decode b pc = .ok (.goto ((nx : Int) - pc), 3)) := by
  unfold sd_k12 at h
  simpa only [Bool.or_eq_true, Bool.and_eq_true, decide_eq_true_eq, and_assoc, or_assoc] using h
theorem sd_p13 {b : ByteArray} {pc op a : Nat} {v : Int} {nx cp : Nat} (h : sd_k13 b pc op a v nx cp = true) : (op = 18 ∧ decode b pc = .ok ((if sd_st a = true then .invokestatic cp else .invokevirtual cp), 3) ∧ nx = pc + 3) := by
  unfold sd_k13 at h
  simpa only [Bool.or_eq_true, Bool.and_eq_true, decide_eq_true_eq, and_assoc, or_assoc] using h
theorem sd_p14 {b : ByteArray} {pc op a : Nat} {v : Int} {nx cp : Nat} (h : sd_k14 b pc op a v nx cp = true) : (op = 19 ∧ decode b pc = .ok (.ireturn, 1)) := by
  unfold sd_k14 at h
  simpa only [Bool.or_eq_true, Bool.and_eq_true, decide_eq_true_eq, and_assoc, or_assoc] using h
theorem sd_p15 {b : ByteArray} {pc op a : Nat} {v : Int} {nx cp : Nat} (h : sd_k15 b pc op a v nx cp = true) : (op = 20 ∧ decode b pc = .ok (.return_, 1)) := by
  unfold sd_k15 at h
  simpa only [Bool.or_eq_true, Bool.and_eq_true, decide_eq_true_eq, and_assoc, or_assoc] using h
theorem sd_p16 {b : ByteArray} {pc op a : Nat} {v : Int} {nx cp : Nat} (h : sd_k16 b pc op a v nx cp = true) : (op = 21 ∧ decode b pc = .ok (.new cp, 3) ∧ decode b (pc + 3) = .ok (.dup, 1) ∧ decode b (pc + 4) = .ok (.invokespecial v.toNat, 3) ∧ decode b (pc + 7) = .ok (.athrow, 1)) := by
  unfold sd_k16 at h
  simpa only [Bool.or_eq_true, Bool.and_eq_true, decide_eq_true_eq, and_assoc, or_assoc] using h
theorem sd_p17 {b : ByteArray} {pc op a : Nat} {v : Int} {nx cp : Nat} (h : sd_k17 b pc op a v nx cp = true) : (op = 24 ∧ decode b pc = .ok (.laload, 1) ∧ nx = pc + 1) := by
  unfold sd_k17 at h
  simpa only [Bool.or_eq_true, Bool.and_eq_true, decide_eq_true_eq, and_assoc, or_assoc] using h
theorem sd_p18 {b : ByteArray} {pc op a : Nat} {v : Int} {nx cp : Nat} (h : sd_k18 b pc op a v nx cp = true) : (op = 25 ∧ decode b pc = .ok (.lcmp, 1) ∧ nx = pc + 1) := by
  unfold sd_k18 at h
  simpa only [Bool.or_eq_true, Bool.and_eq_true, decide_eq_true_eq, and_assoc, or_assoc] using h
theorem sd_p19 {b : ByteArray} {pc op a : Nat} {v : Int} {nx cp : Nat} (h : sd_k19 b pc op a v nx cp = true) : (op = 26 ∧ decode b pc = .ok (.iaload, 1) ∧ nx = pc + 1) := by
  unfold sd_k19 at h
  simpa only [Bool.or_eq_true, Bool.and_eq_true, decide_eq_true_eq, and_assoc, or_assoc] using h
theorem sd_p20 {b : ByteArray} {pc op a : Nat} {v : Int} {nx cp : Nat} (h : sd_k20 b pc op a v nx cp = true) : (op = 27 ∧ decode b pc = .ok (.arraylength, 1) ∧ nx = pc + 1) := by
  unfold sd_k20 at h
  simpa only [Bool.or_eq_true, Bool.and_eq_true, decide_eq_true_eq, and_assoc, or_assoc] using h
theorem sd_p21 {b : ByteArray} {pc op a : Nat} {v : Int} {nx cp : Nat} (h : sd_k21 b pc op a v nx cp = true) : (op = 29 ∧ decode b pc = .ok (.lstore a, 2) ∧ nx = pc + 2) := by
  unfold sd_k21 at h
  simpa only [Bool.or_eq_true, Bool.and_eq_true, decide_eq_true_eq, and_assoc, or_assoc] using h
theorem sd_p22 {b : ByteArray} {pc op a : Nat} {v : Int} {nx cp : Nat} (h : sd_k22 b pc op a v nx cp = true) : (op = 30 ∧ decode b pc = .ok (.lload a, 2) ∧ nx = pc + 2) := by
  unfold sd_k22 at h
  simpa only [Bool.or_eq_true, Bool.and_eq_true, decide_eq_true_eq, and_assoc, or_assoc] using h
theorem sd_p23 {b : ByteArray} {pc op a : Nat} {v : Int} {nx cp : Nat} (h : sd_k23 b pc op a v nx cp = true) : (op = 31 ∧ decode b pc = .ok (.lconst 0, 1) ∧ nx = pc + 1 ∧ v = 0) := by
  unfold sd_k23 at h
  simpa only [Bool.or_eq_true, Bool.and_eq_true, decide_eq_true_eq, and_assoc, or_assoc] using h
theorem sd_p24 {b : ByteArray} {pc op a : Nat} {v : Int} {nx cp : Nat} (h : sd_k24 b pc op a v nx cp = true) : (op = 32 ∧ decode b pc = .ok (.lreturn, 1)) := by
  unfold sd_k24 at h
  simpa only [Bool.or_eq_true, Bool.and_eq_true, decide_eq_true_eq, and_assoc, or_assoc] using h
theorem sd_p25 {b : ByteArray} {pc op a : Nat} {v : Int} {nx cp : Nat} (h : sd_k25 b pc op a v nx cp = true) : (op = 33 ∧ decode b pc = .ok (.ldc cp, 2) ∧ nx = pc + 2 ∧ -2147483648 ≤ v ∧ v ≤ 2147483647) := by
  unfold sd_k25 at h
  simpa only [Bool.or_eq_true, Bool.and_eq_true, decide_eq_true_eq, and_assoc, or_assoc] using h
theorem sd_okP {b : ByteArray} {pc op a : Nat} {v : Int} {nx cp : Nat} (h : sd_okB b pc op a v nx cp = true) : sd_ok b pc op a v nx cp := by
  unfold sd_okB at h
  unfold sd_ok
  simp only [Bool.or_eq_true] at h
  refine Or.imp sd_p0 (fun h => ?_) h
  refine Or.imp sd_p1 (fun h => ?_) h
  refine Or.imp sd_p2 (fun h => ?_) h
  refine Or.imp sd_p3 (fun h => ?_) h
  refine Or.imp sd_p4 (fun h => ?_) h
  refine Or.imp sd_p5 (fun h => ?_) h
  refine Or.imp sd_p6 (fun h => ?_) h
  refine Or.imp sd_p7 (fun h => ?_) h
  refine Or.imp sd_p8 (fun h => ?_) h
  refine Or.imp sd_p9 (fun h => ?_) h
  refine Or.imp sd_p10 (fun h => ?_) h
  refine Or.imp sd_p11 (fun h => ?_) h
  refine Or.imp sd_p12 (fun h => ?_) h
  refine Or.imp sd_p13 (fun h => ?_) h
  refine Or.imp sd_p14 (fun h => ?_) h
  refine Or.imp sd_p15 (fun h => ?_) h
  refine Or.imp sd_p16 (fun h => ?_) h
  refine Or.imp sd_p17 (fun h => ?_) h
  refine Or.imp sd_p18 (fun h => ?_) h
  refine Or.imp sd_p19 (fun h => ?_) h
  refine Or.imp sd_p20 (fun h => ?_) h
  refine Or.imp sd_p21 (fun h => ?_) h
  refine Or.imp sd_p22 (fun h => ?_) h
  refine Or.imp sd_p23 (fun h => ?_) h
  refine Or.imp sd_p24 (fun h => ?_) h
  exact sd_p25 h
def sd_ck1 (i pc : Nat) : Bool := match qa_code i pc with
  | some q => sd_okB (sd_b i) pc q.1 q.2.1 q.2.2.1 q.2.2.2.1 q.2.2.2.2
  | none => true
theorem sd_ck_0 : (List.range 5).all (sd_ck1 0) = true := by decide +kernel
theorem sd_ck_1 : (List.range 5).all (sd_ck1 1) = true := by decide +kernel
theorem sd_ck_2 : (List.range 5).all (sd_ck1 2) = true := by decide +kernel
theorem sd_ck_3 : (List.range 7).all (sd_ck1 3) = true := by decide +kernel
theorem sd_ck_4 : (List.range 15).all (sd_ck1 4) = true := by decide +kernel
theorem sd_ck_5 : (List.range 5).all (sd_ck1 5) = true := by decide +kernel
theorem sd_ck_6 : (List.range 5).all (sd_ck1 6) = true := by decide +kernel
theorem sd_ck_7 : (List.range 5).all (sd_ck1 7) = true := by decide +kernel
theorem sd_ck_8 : (List.range 7).all (sd_ck1 8) = true := by decide +kernel
theorem sd_ck_9 : (List.range 12).all (sd_ck1 9) = true := by decide +kernel
theorem sd_ck_10 : (List.range 30).all (sd_ck1 10) = true := by decide +kernel
theorem sd_ck_11 : (List.range 8).all (sd_ck1 11) = true := by decide +kernel
theorem sd_ck_12 : (List.range 12).all (sd_ck1 12) = true := by decide +kernel
theorem sd_ck_13 : (List.range 34).all (sd_ck1 13) = true := by decide +kernel
theorem sd_ck_14 : (List.range 7).all (sd_ck1 14) = true := by decide +kernel
theorem sd_ck_15 : (List.range 31).all (sd_ck1 15) = true := by decide +kernel
theorem sd_ck_16 : (List.range 39).all (sd_ck1 16) = true := by decide +kernel
theorem sd_ck_17 : (List.range 55).all (sd_ck1 17) = true := by decide +kernel
theorem sd_ck_18 : (List.range 22).all (sd_ck1 18) = true := by decide +kernel
theorem sd_ck_19 : (List.range 29).all (sd_ck1 19) = true := by decide +kernel
theorem sd_ck_20 : (List.range 11).all (sd_ck1 20) = true := by decide +kernel
theorem sd_ck_21 : (List.range 11).all (sd_ck1 21) = true := by decide +kernel
theorem sd_ck_22 : (List.range 15).all (sd_ck1 22) = true := by decide +kernel
theorem sd_ck_23 : (List.range 24).all (sd_ck1 23) = true := by decide +kernel
theorem sd_ck_24 : (List.range 16).all (sd_ck1 24) = true := by decide +kernel
theorem sd_ck_25 : (List.range 35).all (sd_ck1 25) = true := by decide +kernel
theorem sd_ck_26 : (List.range 15).all (sd_ck1 26) = true := by decide +kernel
theorem sd_ck_27 : (List.range 15).all (sd_ck1 27) = true := by decide +kernel
theorem sd_ck_28 : (List.range 34).all (sd_ck1 28) = true := by decide +kernel
theorem sd_ck_29 : (List.range 8).all (sd_ck1 29) = true := by decide +kernel
theorem sd_ck_30 : (List.range 12).all (sd_ck1 30) = true := by decide +kernel
theorem sd_ck_31 : (List.range 7).all (sd_ck1 31) = true := by decide +kernel
theorem sd_ck_32 : (List.range 26).all (sd_ck1 32) = true := by decide +kernel
theorem sd_ck_33 : (List.range 8).all (sd_ck1 33) = true := by decide +kernel
theorem sd_ck_34 : (List.range 15).all (sd_ck1 34) = true := by decide +kernel
theorem sd_ck_35 : (List.range 9).all (sd_ck1 35) = true := by decide +kernel
theorem sd_ck_36 : (List.range 15).all (sd_ck1 36) = true := by decide +kernel
theorem sd_ck_37 : (List.range 33).all (sd_ck1 37) = true := by decide +kernel
theorem sd_ck_38 : (List.range 47).all (sd_ck1 38) = true := by decide +kernel
theorem sd_ck_39 : (List.range 13).all (sd_ck1 39) = true := by decide +kernel
theorem sd_ck_40 : (List.range 13).all (sd_ck1 40) = true := by decide +kernel
theorem sd_ck_41 : (List.range 16).all (sd_ck1 41) = true := by decide +kernel
theorem sd_ck_42 : (List.range 8).all (sd_ck1 42) = true := by decide +kernel
theorem sd_ck_43 : (List.range 33).all (sd_ck1 43) = true := by decide +kernel
theorem sd_ck_44 : (List.range 155).all (sd_ck1 44) = true := by decide +kernel
theorem sd_ck_45 : (List.range 138).all (sd_ck1 45) = true := by decide +kernel
theorem sd_ck_46 : (List.range 19).all (sd_ck1 46) = true := by decide +kernel
theorem sd_ck_47 : (List.range 50).all (sd_ck1 47) = true := by decide +kernel
theorem sd_ck_48 : (List.range 118).all (sd_ck1 48) = true := by decide +kernel
theorem sd_ck_49 : (List.range 68).all (sd_ck1 49) = true := by decide +kernel
theorem sd_ck_50 : (List.range 34).all (sd_ck1 50) = true := by decide +kernel
theorem sd_ck_51 : (List.range 475).all (sd_ck1 51) = true := by decide +kernel
theorem sd_ck_52 : (List.range 347).all (sd_ck1 52) = true := by decide +kernel
theorem sd_ck_53 : (List.range 152).all (sd_ck1 53) = true := by decide +kernel
theorem sd_ck_54 : (List.range 1011).all (sd_ck1 54) = true := by decide +kernel
