/-! names, out of the printed ones -/
/-- a private method of a class that the tables say can be made, by its rows of tables_1 -/
def lw_okq (q : MethodName × Nat) : Prop := (q.1.cls ≠ "java/lang/invoke/MethodHandle" ∧ q.1.cls ≠ "java/lang/invoke/VarHandle") ∧ Cond.instantiable q.1.cls q.2 ∈ tables_1 ∧ Cond.privateMethod q.1 ∈ tables_1 ∧ Cond.instanceMethod q.1 ∈ tables_1
theorem lw_p0 : lw_okq (⟨"KeyframeCourt$Stills", "isAsMade", "(ILKeyframeCourt$Rig;)Z"⟩, 3) := ⟨⟨by decide +kernel, by decide +kernel⟩, List.mem_of_getElem? (i := 76) (by decide +kernel), List.mem_of_getElem? (i := 180) (by decide +kernel), List.mem_of_getElem? (i := 181) (by decide +kernel)⟩
theorem lw_p1 : lw_okq (⟨"java/lang/Throwable", "fillInStackTrace", "(I)Ljava/lang/Throwable;"⟩, 6) := ⟨⟨by decide +kernel, by decide +kernel⟩, List.mem_of_getElem? (i := 254) (by decide +kernel), List.mem_of_getElem? (i := 252) (by decide +kernel), List.mem_of_getElem? (i := 253) (by decide +kernel)⟩
theorem lw_p2 : lw_okq (⟨"KeyframeCourt$KeyTable", "openRow", "(I)V"⟩, 5) := ⟨⟨by decide +kernel, by decide +kernel⟩, List.mem_of_getElem? (i := 30) (by decide +kernel), List.mem_of_getElem? (i := 375) (by decide +kernel), List.mem_of_getElem? (i := 376) (by decide +kernel)⟩
theorem lw_p3 : lw_okq (⟨"KeyframeCourt$KeyTable", "copyRow", "(II)V"⟩, 5) := ⟨⟨by decide +kernel, by decide +kernel⟩, List.mem_of_getElem? (i := 30) (by decide +kernel), List.mem_of_getElem? (i := 379) (by decide +kernel), List.mem_of_getElem? (i := 380) (by decide +kernel)⟩
theorem lw_p4 : lw_okq (⟨"KeyframeCourt$Rig", "poseTrack", "(I)V"⟩, 7) := ⟨⟨by decide +kernel, by decide +kernel⟩, List.mem_of_getElem? (i := 24) (by decide +kernel), List.mem_of_getElem? (i := 383) (by decide +kernel), List.mem_of_getElem? (i := 384) (by decide +kernel)⟩
theorem lw_p5 : lw_okq (⟨"KeyframeCourt$Rig", "poseCell", "(IIIII)V"⟩, 7) := ⟨⟨by decide +kernel, by decide +kernel⟩, List.mem_of_getElem? (i := 24) (by decide +kernel), List.mem_of_getElem? (i := 396) (by decide +kernel), List.mem_of_getElem? (i := 397) (by decide +kernel)⟩
theorem lw_p6 : lw_okq (⟨"KeyframeCourt$Rig", "blend", "(III)I"⟩, 7) := ⟨⟨by decide +kernel, by decide +kernel⟩, List.mem_of_getElem? (i := 24) (by decide +kernel), List.mem_of_getElem? (i := 412) (by decide +kernel), List.mem_of_getElem? (i := 413) (by decide +kernel)⟩
theorem lw_p7 : lw_okq (⟨"KeyframeCourt$KeyTable", "closeRow", "(I)V"⟩, 5) := ⟨⟨by decide +kernel, by decide +kernel⟩, List.mem_of_getElem? (i := 30) (by decide +kernel), List.mem_of_getElem? (i := 434) (by decide +kernel), List.mem_of_getElem? (i := 435) (by decide +kernel)⟩
theorem lw_p8 : lw_okq (⟨"KeyframeCourt$Rig", "localX", "(II)I"⟩, 7) := ⟨⟨by decide +kernel, by decide +kernel⟩, List.mem_of_getElem? (i := 24) (by decide +kernel), List.mem_of_getElem? (i := 485) (by decide +kernel), List.mem_of_getElem? (i := 486) (by decide +kernel)⟩
theorem lw_p9 : lw_okq (⟨"KeyframeCourt$Rig", "localY", "(II)I"⟩, 7) := ⟨⟨by decide +kernel, by decide +kernel⟩, List.mem_of_getElem? (i := 24) (by decide +kernel), List.mem_of_getElem? (i := 491) (by decide +kernel), List.mem_of_getElem? (i := 492) (by decide +kernel)⟩
theorem lw_p10 : lw_okq (⟨"KeyframeCourt$Film", "count", "(III)V"⟩, 5) := ⟨⟨by decide +kernel, by decide +kernel⟩, List.mem_of_getElem? (i := 92) (by decide +kernel), List.mem_of_getElem? (i := 522) (by decide +kernel), List.mem_of_getElem? (i := 523) (by decide +kernel)⟩
theorem lw_p11 : lw_okq (⟨"KeyframeCourt$Farm", "rest", "(I)I"⟩, 8) := ⟨⟨by decide +kernel, by decide +kernel⟩, List.mem_of_getElem? (i := 114) (by decide +kernel), List.mem_of_getElem? (i := 608) (by decide +kernel), List.mem_of_getElem? (i := 609) (by decide +kernel)⟩
theorem lw_p12 : lw_okq (⟨"KeyframeCourt$Farm", "cool", "(I)V"⟩, 8) := ⟨⟨by decide +kernel, by decide +kernel⟩, List.mem_of_getElem? (i := 114) (by decide +kernel), List.mem_of_getElem? (i := 612) (by decide +kernel), List.mem_of_getElem? (i := 613) (by decide +kernel)⟩
theorem lw_p13 : lw_okq (⟨"KeyframeCourt$Farm", "work", "(ILKeyframeCourt$Film;LKeyframeCourt$Stills;LKeyframeCourt$Rig;)I"⟩, 8) := ⟨⟨by decide +kernel, by decide +kernel⟩, List.mem_of_getElem? (i := 114) (by decide +kernel), List.mem_of_getElem? (i := 619) (by decide +kernel), List.mem_of_getElem? (i := 620) (by decide +kernel)⟩
theorem lw_p14 : lw_okq (⟨"KeyframeCourt$Farm", "render", "(ILKeyframeCourt$Film;LKeyframeCourt$Stills;LKeyframeCourt$Rig;)I"⟩, 8) := ⟨⟨by decide +kernel, by decide +kernel⟩, List.mem_of_getElem? (i := 114) (by decide +kernel), List.mem_of_getElem? (i := 623) (by decide +kernel), List.mem_of_getElem? (i := 624) (by decide +kernel)⟩
theorem lw_p15 : lw_okq (⟨"KeyframeCourt$Farm", "sell", "(I)I"⟩, 8) := ⟨⟨by decide +kernel, by decide +kernel⟩, List.mem_of_getElem? (i := 114) (by decide +kernel), List.mem_of_getElem? (i := 636) (by decide +kernel), List.mem_of_getElem? (i := 637) (by decide +kernel)⟩
def lw_privs_1 : List (MethodName × Nat) := [(⟨"KeyframeCourt$Stills", "isAsMade", "(ILKeyframeCourt$Rig;)Z"⟩, 3), (⟨"java/lang/Throwable", "fillInStackTrace", "(I)Ljava/lang/Throwable;"⟩, 6), (⟨"KeyframeCourt$KeyTable", "openRow", "(I)V"⟩, 5), (⟨"KeyframeCourt$KeyTable", "copyRow", "(II)V"⟩, 5), (⟨"KeyframeCourt$Rig", "poseTrack", "(I)V"⟩, 7), (⟨"KeyframeCourt$Rig", "poseCell", "(IIIII)V"⟩, 7), (⟨"KeyframeCourt$Rig", "blend", "(III)I"⟩, 7), (⟨"KeyframeCourt$KeyTable", "closeRow", "(I)V"⟩, 5), (⟨"KeyframeCourt$Rig", "localX", "(II)I"⟩, 7), (⟨"KeyframeCourt$Rig", "localY", "(II)I"⟩, 7), (⟨"KeyframeCourt$Film", "count", "(III)V"⟩, 5), (⟨"KeyframeCourt$Farm", "rest", "(I)I"⟩, 8), (⟨"KeyframeCourt$Farm", "cool", "(I)V"⟩, 8), (⟨"KeyframeCourt$Farm", "work", "(ILKeyframeCourt$Film;LKeyframeCourt$Stills;LKeyframeCourt$Rig;)I"⟩, 8), (⟨"KeyframeCourt$Farm", "render", "(ILKeyframeCourt$Film;LKeyframeCourt$Stills;LKeyframeCourt$Rig;)I"⟩, 8), (⟨"KeyframeCourt$Farm", "sell", "(I)I"⟩, 8)]
theorem lw_r1 : ∀ q ∈ lw_privs_1, lw_okq q := List.forall_mem_cons.mpr ⟨lw_p0, List.forall_mem_cons.mpr ⟨lw_p1, List.forall_mem_cons.mpr ⟨lw_p2, List.forall_mem_cons.mpr ⟨lw_p3, List.forall_mem_cons.mpr ⟨lw_p4, List.forall_mem_cons.mpr ⟨lw_p5, List.forall_mem_cons.mpr ⟨lw_p6, List.forall_mem_cons.mpr ⟨lw_p7, List.forall_mem_cons.mpr ⟨lw_p8, List.forall_mem_cons.mpr ⟨lw_p9, List.forall_mem_cons.mpr ⟨lw_p10, List.forall_mem_cons.mpr ⟨lw_p11, List.forall_mem_cons.mpr ⟨lw_p12, List.forall_mem_cons.mpr ⟨lw_p13, List.forall_mem_cons.mpr ⟨lw_p14, List.forall_mem_cons.mpr ⟨lw_p15, fun _ h => absurd h List.not_mem_nil⟩⟩⟩⟩⟩⟩⟩⟩⟩⟩⟩⟩⟩⟩⟩⟩
theorem lw_p16 : lw_okq (⟨"KeyframeCourt$Farm", "bestOffer", "()I"⟩, 8) := ⟨⟨by decide +kernel, by decide +kernel⟩, List.mem_of_getElem? (i := 114) (by decide +kernel), List.mem_of_getElem? (i := 640) (by decide +kernel), List.mem_of_getElem? (i := 641) (by decide +kernel)⟩
theorem lw_p17 : lw_okq (⟨"KeyframeCourt", "secondsOf", "(I)I"⟩, 6) := ⟨⟨by decide +kernel, by decide +kernel⟩, List.mem_of_getElem? (i := 16) (by decide +kernel), List.mem_of_getElem? (i := 669) (by decide +kernel), List.mem_of_getElem? (i := 670) (by decide +kernel)⟩
theorem lw_p18 : lw_okq (⟨"KeyframeCourt", "isFilmStanding", "()Z"⟩, 6) := ⟨⟨by decide +kernel, by decide +kernel⟩, List.mem_of_getElem? (i := 16) (by decide +kernel), List.mem_of_getElem? (i := 684) (by decide +kernel), List.mem_of_getElem? (i := 685) (by decide +kernel)⟩
theorem lw_p19 : lw_okq (⟨"KeyframeCourtModel", "isBone", "(I)Z"⟩, 27) := ⟨⟨by decide +kernel, by decide +kernel⟩, List.mem_of_getElem? (i := 700) (by decide +kernel), List.mem_of_getElem? (i := 796) (by decide +kernel), List.mem_of_getElem? (i := 797) (by decide +kernel)⟩
theorem lw_p20 : lw_okq (⟨"KeyframeCourtModel", "fails", "(I)Z"⟩, 27) := ⟨⟨by decide +kernel, by decide +kernel⟩, List.mem_of_getElem? (i := 700) (by decide +kernel), List.mem_of_getElem? (i := 803) (by decide +kernel), List.mem_of_getElem? (i := 804) (by decide +kernel)⟩
theorem lw_p21 : lw_okq (⟨"KeyframeCourtModel", "isPlace", "(III)Z"⟩, 27) := ⟨⟨by decide +kernel, by decide +kernel⟩, List.mem_of_getElem? (i := 700) (by decide +kernel), List.mem_of_getElem? (i := 811) (by decide +kernel), List.mem_of_getElem? (i := 812) (by decide +kernel)⟩
theorem lw_p22 : lw_okq (⟨"KeyframeCourtModel", "allVoids", "()I"⟩, 27) := ⟨⟨by decide +kernel, by decide +kernel⟩, List.mem_of_getElem? (i := 700) (by decide +kernel), List.mem_of_getElem? (i := 821) (by decide +kernel), List.mem_of_getElem? (i := 822) (by decide +kernel)⟩
theorem lw_p23 : lw_okq (⟨"KeyframeCourtModel", "stands", "(I)Z"⟩, 27) := ⟨⟨by decide +kernel, by decide +kernel⟩, List.mem_of_getElem? (i := 700) (by decide +kernel), List.mem_of_getElem? (i := 825) (by decide +kernel), List.mem_of_getElem? (i := 826) (by decide +kernel)⟩
theorem lw_p24 : lw_okq (⟨"KeyframeCourtModel", "valueAt", "(III)I"⟩, 27) := ⟨⟨by decide +kernel, by decide +kernel⟩, List.mem_of_getElem? (i := 700) (by decide +kernel), List.mem_of_getElem? (i := 829) (by decide +kernel), List.mem_of_getElem? (i := 830) (by decide +kernel)⟩
theorem lw_p25 : lw_okq (⟨"KeyframeCourtModel", "before", "(III)I"⟩, 27) := ⟨⟨by decide +kernel, by decide +kernel⟩, List.mem_of_getElem? (i := 700) (by decide +kernel), List.mem_of_getElem? (i := 833) (by decide +kernel), List.mem_of_getElem? (i := 834) (by decide +kernel)⟩
theorem lw_p26 : lw_okq (⟨"KeyframeCourtModel", "behind", "(III)I"⟩, 27) := ⟨⟨by decide +kernel, by decide +kernel⟩, List.mem_of_getElem? (i := 700) (by decide +kernel), List.mem_of_getElem? (i := 837) (by decide +kernel), List.mem_of_getElem? (i := 838) (by decide +kernel)⟩
theorem lw_p27 : lw_okq (⟨"KeyframeCourtModel", "heading", "(II)I"⟩, 27) := ⟨⟨by decide +kernel, by decide +kernel⟩, List.mem_of_getElem? (i := 700) (by decide +kernel), List.mem_of_getElem? (i := 864) (by decide +kernel), List.mem_of_getElem? (i := 865) (by decide +kernel)⟩
theorem lw_p28 : lw_okq (⟨"KeyframeCourtModel", "turns", "(I)V"⟩, 27) := ⟨⟨by decide +kernel, by decide +kernel⟩, List.mem_of_getElem? (i := 700) (by decide +kernel), List.mem_of_getElem? (i := 868) (by decide +kernel), List.mem_of_getElem? (i := 869) (by decide +kernel)⟩
theorem lw_p29 : lw_okq (⟨"KeyframeCourtModel", "artistsOf", "(I)I"⟩, 27) := ⟨⟨by decide +kernel, by decide +kernel⟩, List.mem_of_getElem? (i := 700) (by decide +kernel), List.mem_of_getElem? (i := 876) (by decide +kernel), List.mem_of_getElem? (i := 877) (by decide +kernel)⟩
theorem lw_p30 : lw_okq (⟨"KeyframeCourtModel", "length", "()I"⟩, 27) := ⟨⟨by decide +kernel, by decide +kernel⟩, List.mem_of_getElem? (i := 700) (by decide +kernel), List.mem_of_getElem? (i := 884) (by decide +kernel), List.mem_of_getElem? (i := 885) (by decide +kernel)⟩
theorem lw_p31 : lw_okq (⟨"KeyframeCourtModel", "shownAt", "(I)I"⟩, 27) := ⟨⟨by decide +kernel, by decide +kernel⟩, List.mem_of_getElem? (i := 700) (by decide +kernel), List.mem_of_getElem? (i := 896) (by decide +kernel), List.mem_of_getElem? (i := 897) (by decide +kernel)⟩
def lw_privs_2 : List (MethodName × Nat) := [(⟨"KeyframeCourt$Farm", "bestOffer", "()I"⟩, 8), (⟨"KeyframeCourt", "secondsOf", "(I)I"⟩, 6), (⟨"KeyframeCourt", "isFilmStanding", "()Z"⟩, 6), (⟨"KeyframeCourtModel", "isBone", "(I)Z"⟩, 27), (⟨"KeyframeCourtModel", "fails", "(I)Z"⟩, 27), (⟨"KeyframeCourtModel", "isPlace", "(III)Z"⟩, 27), (⟨"KeyframeCourtModel", "allVoids", "()I"⟩, 27), (⟨"KeyframeCourtModel", "stands", "(I)Z"⟩, 27), (⟨"KeyframeCourtModel", "valueAt", "(III)I"⟩, 27), (⟨"KeyframeCourtModel", "before", "(III)I"⟩, 27), (⟨"KeyframeCourtModel", "behind", "(III)I"⟩, 27), (⟨"KeyframeCourtModel", "heading", "(II)I"⟩, 27), (⟨"KeyframeCourtModel", "turns", "(I)V"⟩, 27), (⟨"KeyframeCourtModel", "artistsOf", "(I)I"⟩, 27), (⟨"KeyframeCourtModel", "length", "()I"⟩, 27), (⟨"KeyframeCourtModel", "shownAt", "(I)I"⟩, 27)]
theorem lw_r2 : ∀ q ∈ lw_privs_2, lw_okq q := List.forall_mem_cons.mpr ⟨lw_p16, List.forall_mem_cons.mpr ⟨lw_p17, List.forall_mem_cons.mpr ⟨lw_p18, List.forall_mem_cons.mpr ⟨lw_p19, List.forall_mem_cons.mpr ⟨lw_p20, List.forall_mem_cons.mpr ⟨lw_p21, List.forall_mem_cons.mpr ⟨lw_p22, List.forall_mem_cons.mpr ⟨lw_p23, List.forall_mem_cons.mpr ⟨lw_p24, List.forall_mem_cons.mpr ⟨lw_p25, List.forall_mem_cons.mpr ⟨lw_p26, List.forall_mem_cons.mpr ⟨lw_p27, List.forall_mem_cons.mpr ⟨lw_p28, List.forall_mem_cons.mpr ⟨lw_p29, List.forall_mem_cons.mpr ⟨lw_p30, List.forall_mem_cons.mpr ⟨lw_p31, fun _ h => absurd h List.not_mem_nil⟩⟩⟩⟩⟩⟩⟩⟩⟩⟩⟩⟩⟩⟩⟩⟩
theorem lw_p32 : lw_okq (⟨"KeyframeCourtModel", "isNeeded", "(I)Z"⟩, 27) := ⟨⟨by decide +kernel, by decide +kernel⟩, List.mem_of_getElem? (i := 700) (by decide +kernel), List.mem_of_getElem? (i := 904) (by decide +kernel), List.mem_of_getElem? (i := 905) (by decide +kernel)⟩
theorem lw_p33 : lw_okq (⟨"KeyframeCourtModel", "hour", "(I)I"⟩, 27) := ⟨⟨by decide +kernel, by decide +kernel⟩, List.mem_of_getElem? (i := 700) (by decide +kernel), List.mem_of_getElem? (i := 928) (by decide +kernel), List.mem_of_getElem? (i := 929) (by decide +kernel)⟩
theorem lw_p34 : lw_okq (⟨"KeyframeCourtModel", "cools", "(I)V"⟩, 27) := ⟨⟨by decide +kernel, by decide +kernel⟩, List.mem_of_getElem? (i := 700) (by decide +kernel), List.mem_of_getElem? (i := 932) (by decide +kernel), List.mem_of_getElem? (i := 933) (by decide +kernel)⟩
theorem lw_p35 : lw_okq (⟨"KeyframeCourtModel", "renders", "(I)V"⟩, 27) := ⟨⟨by decide +kernel, by decide +kernel⟩, List.mem_of_getElem? (i := 700) (by decide +kernel), List.mem_of_getElem? (i := 936) (by decide +kernel), List.mem_of_getElem? (i := 937) (by decide +kernel)⟩
theorem lw_p36 : lw_okq (⟨"KeyframeCourtModel", "dearest", "()I"⟩, 27) := ⟨⟨by decide +kernel, by decide +kernel⟩, List.mem_of_getElem? (i := 700) (by decide +kernel), List.mem_of_getElem? (i := 940) (by decide +kernel), List.mem_of_getElem? (i := 941) (by decide +kernel)⟩
theorem lw_p37 : lw_okq (⟨"KeyframeCourtModel", "secondsOf", "(I)I"⟩, 27) := ⟨⟨by decide +kernel, by decide +kernel⟩, List.mem_of_getElem? (i := 700) (by decide +kernel), List.mem_of_getElem? (i := 956) (by decide +kernel), List.mem_of_getElem? (i := 957) (by decide +kernel)⟩
theorem lw_p38 : lw_okq (⟨"KeyframeCourtModel", "isWhole", "()Z"⟩, 27) := ⟨⟨by decide +kernel, by decide +kernel⟩, List.mem_of_getElem? (i := 700) (by decide +kernel), List.mem_of_getElem? (i := 964) (by decide +kernel), List.mem_of_getElem? (i := 965) (by decide +kernel)⟩
def lw_privs_3 : List (MethodName × Nat) := [(⟨"KeyframeCourtModel", "isNeeded", "(I)Z"⟩, 27), (⟨"KeyframeCourtModel", "hour", "(I)I"⟩, 27), (⟨"KeyframeCourtModel", "cools", "(I)V"⟩, 27), (⟨"KeyframeCourtModel", "renders", "(I)V"⟩, 27), (⟨"KeyframeCourtModel", "dearest", "()I"⟩, 27), (⟨"KeyframeCourtModel", "secondsOf", "(I)I"⟩, 27), (⟨"KeyframeCourtModel", "isWhole", "()Z"⟩, 27)]
theorem lw_r3 : ∀ q ∈ lw_privs_3, lw_okq q := List.forall_mem_cons.mpr ⟨lw_p32, List.forall_mem_cons.mpr ⟨lw_p33, List.forall_mem_cons.mpr ⟨lw_p34, List.forall_mem_cons.mpr ⟨lw_p35, List.forall_mem_cons.mpr ⟨lw_p36, List.forall_mem_cons.mpr ⟨lw_p37, List.forall_mem_cons.mpr ⟨lw_p38, fun _ h => absurd h List.not_mem_nil⟩⟩⟩⟩⟩⟩⟩
def lw_privs : List (MethodName × Nat) := lw_privs_1 ++ (lw_privs_2 ++ (lw_privs_3))
def lw_tbl : List Cond := k2_sels lw_privs ++ tables_1
theorem lw_privs_ok : ∀ q ∈ lw_privs, lw_okq q := by
  show ∀ q ∈ lw_privs_1 ++ (lw_privs_2 ++ (lw_privs_3)), lw_okq q
  exact List.forall_mem_append.mpr ⟨lw_r1, List.forall_mem_append.mpr ⟨lw_r2, lw_r3⟩⟩
def RX0 : String := "KeyframeCourt$Farm"
def TX0 : u_T := fun k => match k with
  | 0 => ("KeyframeCourt$Farm", "speeds", "[I", true)
  | 1 => ("KeyframeCourt$Farm", "heats", "[I", true)
  | 2 => ("KeyframeCourt$Farm", "resting", "[Z", true)
  | 3 => ("KeyframeCourt$Farm", "machines", "I", false)
  | 4 => ("KeyframeCourt$Farm", "prices", "[I", true)
  | 5 => ("KeyframeCourt$Farm", "hoursLeft", "[I", true)
  | 6 => ("KeyframeCourt$Farm", "offers", "I", false)
  | _ => ("KeyframeCourt$Farm", "earned", "I", false)
def tyX0 : Nat → FieldType := fun k => match k with
  | 0 => .array .int
  | 1 => .array .int
  | 2 => .array .boolean
  | 3 => .int
  | 4 => .array .int
  | 5 => .array .int
  | 6 => .int
  | _ => .int
abbrev wsX00 : List Cond := u_ws RX0 TX0 8
theorem nmX0 : ∀ a, a < 8 → ∀ b, b < 8 → a ≠ b → (TX0 a).2.1 ≠ (TX0 b).2.1 := by decide +kernel
theorem tyX0_ok : ∀ k, k < 8 → parseFieldDescriptor (TX0 k).2.2.1 = some (tyX0 k) := by decide +kernel
abbrev cX0_init : ByteArray := prog_2_method_1_code
def yX0_init : MethodName := ⟨RX0, "<init>", "()V"⟩
abbrev cX0_machineCount : ByteArray := prog_2_method_2_code
def yX0_machineCount : MethodName := ⟨RX0, "machineCount", "()I"⟩
abbrev cX0_offerCount : ByteArray := prog_2_method_3_code
def yX0_offerCount : MethodName := ⟨RX0, "offerCount", "()I"⟩
abbrev cX0_earnings : ByteArray := prog_2_method_4_code
def yX0_earnings : MethodName := ⟨RX0, "earnings", "()I"⟩
abbrev cX0_heatOf : ByteArray := prog_2_method_5_code
def yX0_heatOf : MethodName := ⟨RX0, "heatOf", "(I)I"⟩
abbrev cX0_addMachine : ByteArray := prog_2_method_6_code
def yX0_addMachine : MethodName := ⟨RX0, "addMachine", "(I)I"⟩
abbrev cX0_addOffer : ByteArray := prog_2_method_7_code
def yX0_addOffer : MethodName := ⟨RX0, "addOffer", "(II)I"⟩
abbrev cX0_passHours : ByteArray := prog_2_method_8_code
def yX0_passHours : MethodName := ⟨RX0, "passHours", "(ILKeyframeCourt$Film;LKeyframeCourt$Stills;LKeyframeCourt$Rig;)I"⟩
abbrev cX0_rest : ByteArray := prog_2_method_9_code
def yX0_rest : MethodName := ⟨RX0, "rest", "(I)I"⟩
abbrev cX0_work : ByteArray := prog_2_method_10_code
def yX0_work : MethodName := ⟨RX0, "work", "(ILKeyframeCourt$Film;LKeyframeCourt$Stills;LKeyframeCourt$Rig;)I"⟩
abbrev cX0_render : ByteArray := prog_2_method_11_code
def yX0_render : MethodName := ⟨RX0, "render", "(ILKeyframeCourt$Film;LKeyframeCourt$Stills;LKeyframeCourt$Rig;)I"⟩
abbrev cX0_sell : ByteArray := prog_2_method_12_code
def yX0_sell : MethodName := ⟨RX0, "sell", "(I)I"⟩
abbrev cX0_bestOffer : ByteArray := prog_2_method_13_code
def yX0_bestOffer : MethodName := ⟨RX0, "bestOffer", "()I"⟩
abbrev cX0_cool : ByteArray := prog_2_method_14_code
def yX0_cool : MethodName := ⟨RX0, "cool", "(I)V"⟩
def RX1 : String := "KeyframeCourt$Film"
def TX1 : u_T := fun k => match k with
  | 0 => ("KeyframeCourt$Film", "firsts", "[I", true)
  | 1 => ("KeyframeCourt$Film", "lasts", "[I", true)
  | 2 => ("KeyframeCourt$Film", "times", "[I", true)
  | 3 => ("KeyframeCourt$Film", "shots", "I", false)
  | _ => ("KeyframeCourt$Film", "frames", "I", false)
def tyX1 : Nat → FieldType := fun k => match k with
  | 0 => .array .int
  | 1 => .array .int
  | 2 => .array .int
  | 3 => .int
  | _ => .int
abbrev wsX10 : List Cond := u_ws RX1 TX1 5
theorem nmX1 : ∀ a, a < 5 → ∀ b, b < 5 → a ≠ b → (TX1 a).2.1 ≠ (TX1 b).2.1 := by decide +kernel
theorem tyX1_ok : ∀ k, k < 5 → parseFieldDescriptor (TX1 k).2.2.1 = some (tyX1 k) := by decide +kernel
abbrev cX1_init : ByteArray := prog_3_method_1_code
def yX1_init : MethodName := ⟨RX1, "<init>", "()V"⟩
abbrev cX1_shotCount : ByteArray := prog_3_method_2_code
def yX1_shotCount : MethodName := ⟨RX1, "shotCount", "()I"⟩
abbrev cX1_length : ByteArray := prog_3_method_3_code
def yX1_length : MethodName := ⟨RX1, "length", "()I"⟩
abbrev cX1_timesOf : ByteArray := prog_3_method_4_code
def yX1_timesOf : MethodName := ⟨RX1, "timesOf", "(I)I"⟩
abbrev cX1_needs : ByteArray := prog_3_method_5_code
def yX1_needs : MethodName := ⟨RX1, "needs", "(I)Z"⟩
abbrev cX1_insert : ByteArray := prog_3_method_6_code
def yX1_insert : MethodName := ⟨RX1, "insert", "(III)V"⟩
abbrev cX1_remove : ByteArray := prog_3_method_7_code
def yX1_remove : MethodName := ⟨RX1, "remove", "(I)V"⟩
abbrev cX1_frameAt : ByteArray := prog_3_method_8_code
def yX1_frameAt : MethodName := ⟨RX1, "frameAt", "(I)I"⟩
abbrev cX1_count : ByteArray := prog_3_method_9_code
def yX1_count : MethodName := ⟨RX1, "count", "(III)V"⟩
def RX2 : String := "KeyframeCourt$KeyTable"
def TX2 : u_T := fun k => match k with
  | 0 => ("KeyframeCourt$KeyTable", "codes", "[I", true)
  | 1 => ("KeyframeCourt$KeyTable", "values", "[I", true)
  | 2 => ("KeyframeCourt$KeyTable", "setters", "[I", true)
  | 3 => ("KeyframeCourt$KeyTable", "softs", "[Z", true)
  | _ => ("KeyframeCourt$KeyTable", "count", "I", false)
def tyX2 : Nat → FieldType := fun k => match k with
  | 0 => .array .int
  | 1 => .array .int
  | 2 => .array .int
  | 3 => .array .boolean
  | _ => .int
abbrev wsX20 : List Cond := u_ws RX2 TX2 5
theorem nmX2 : ∀ a, a < 5 → ∀ b, b < 5 → a ≠ b → (TX2 a).2.1 ≠ (TX2 b).2.1 := by decide +kernel
theorem tyX2_ok : ∀ k, k < 5 → parseFieldDescriptor (TX2 k).2.2.1 = some (tyX2 k) := by decide +kernel
abbrev cX2_init : ByteArray := prog_4_method_1_code
def yX2_init : MethodName := ⟨RX2, "<init>", "()V"⟩
abbrev cX2_codeOf : ByteArray := prog_4_method_2_code
def yX2_codeOf : MethodName := ⟨RX2, "codeOf", "(II)I"⟩
abbrev cX2_size : ByteArray := prog_4_method_3_code
def yX2_size : MethodName := ⟨RX2, "size", "()I"⟩
abbrev cX2_codeAt : ByteArray := prog_4_method_4_code
def yX2_codeAt : MethodName := ⟨RX2, "codeAt", "(I)I"⟩
abbrev cX2_frameAt : ByteArray := prog_4_method_5_code
def yX2_frameAt : MethodName := ⟨RX2, "frameAt", "(I)I"⟩
abbrev cX2_valueAt : ByteArray := prog_4_method_6_code
def yX2_valueAt : MethodName := ⟨RX2, "valueAt", "(I)I"⟩
abbrev cX2_setterBit : ByteArray := prog_4_method_7_code
def yX2_setterBit : MethodName := ⟨RX2, "setterBit", "(I)I"⟩
abbrev cX2_isSoft : ByteArray := prog_4_method_8_code
def yX2_isSoft : MethodName := ⟨RX2, "isSoft", "(I)Z"⟩
abbrev cX2_countAhead : ByteArray := prog_4_method_9_code
def yX2_countAhead : MethodName := ⟨RX2, "countAhead", "(I)I"⟩
abbrev cX2_startOf : ByteArray := prog_4_method_10_code
def yX2_startOf : MethodName := ⟨RX2, "startOf", "(I)I"⟩
abbrev cX2_has : ByteArray := prog_4_method_11_code
def yX2_has : MethodName := ⟨RX2, "has", "(I)Z"⟩
abbrev cX2_put : ByteArray := prog_4_method_12_code
def yX2_put : MethodName := ⟨RX2, "put", "(IIIZ)V"⟩
abbrev cX2_take : ByteArray := prog_4_method_13_code
def yX2_take : MethodName := ⟨RX2, "take", "(I)V"⟩
abbrev cX2_openRow : ByteArray := prog_4_method_14_code
def yX2_openRow : MethodName := ⟨RX2, "openRow", "(I)V"⟩
abbrev cX2_closeRow : ByteArray := prog_4_method_15_code
def yX2_closeRow : MethodName := ⟨RX2, "closeRow", "(I)V"⟩
abbrev cX2_copyRow : ByteArray := prog_4_method_16_code
def yX2_copyRow : MethodName := ⟨RX2, "copyRow", "(II)V"⟩
def RX3 : String := "KeyframeCourt$Rig"
def TX3 : u_T := fun k => match k with
  | 0 => ("KeyframeCourt$Rig", "parents", "[I", true)
  | 1 => ("KeyframeCourt$Rig", "offsetsX", "[I", true)
  | 2 => ("KeyframeCourt$Rig", "offsetsY", "[I", true)
  | 3 => ("KeyframeCourt$Rig", "bones", "I", false)
  | 4 => ("KeyframeCourt$Rig", "keys", "LKeyframeCourt$KeyTable;", true)
  | 5 => ("KeyframeCourt$Rig", "poses", "[I", true)
  | _ => ("KeyframeCourt$Rig", "setters", "[I", true)
def tyX3 : Nat → FieldType := fun k => match k with
  | 0 => .array .int
  | 1 => .array .int
  | 2 => .array .int
  | 3 => .int
  | 4 => .object "KeyframeCourt$KeyTable"
  | 5 => .array .int
  | _ => .array .int
abbrev wsX30 : List Cond := u_ws RX3 TX3 7
theorem nmX3 : ∀ a, a < 7 → ∀ b, b < 7 → a ≠ b → (TX3 a).2.1 ≠ (TX3 b).2.1 := by decide +kernel
theorem tyX3_ok : ∀ k, k < 7 → parseFieldDescriptor (TX3 k).2.2.1 = some (tyX3 k) := by decide +kernel
abbrev cX3_init : ByteArray := prog_5_method_1_code
def yX3_init : MethodName := ⟨RX3, "<init>", "()V"⟩
abbrev cX3_boneCount : ByteArray := prog_5_method_2_code
def yX3_boneCount : MethodName := ⟨RX3, "boneCount", "()I"⟩
abbrev cX3_trackCount : ByteArray := prog_5_method_3_code
def yX3_trackCount : MethodName := ⟨RX3, "trackCount", "()I"⟩
abbrev cX3_hasBone : ByteArray := prog_5_method_4_code
def yX3_hasBone : MethodName := ⟨RX3, "hasBone", "(I)Z"⟩
abbrev cX3_hasCell : ByteArray := prog_5_method_5_code
def yX3_hasCell : MethodName := ⟨RX3, "hasCell", "(III)Z"⟩
abbrev cX3_addBone : ByteArray := prog_5_method_6_code
def yX3_addBone : MethodName := ⟨RX3, "addBone", "(III)I"⟩
abbrev cX3_keyCount : ByteArray := prog_5_method_7_code
def yX3_keyCount : MethodName := ⟨RX3, "keyCount", "()I"⟩
abbrev cX3_keyCode : ByteArray := prog_5_method_8_code
def yX3_keyCode : MethodName := ⟨RX3, "keyCode", "(I)I"⟩
abbrev cX3_hasKey : ByteArray := prog_5_method_9_code
def yX3_hasKey : MethodName := ⟨RX3, "hasKey", "(II)Z"⟩
abbrev cX3_setKey : ByteArray := prog_5_method_10_code
def yX3_setKey : MethodName := ⟨RX3, "setKey", "(IIIIZ)V"⟩
abbrev cX3_takeKey : ByteArray := prog_5_method_11_code
def yX3_takeKey : MethodName := ⟨RX3, "takeKey", "(II)V"⟩
abbrev cX3_poseAt : ByteArray := prog_5_method_12_code
def yX3_poseAt : MethodName := ⟨RX3, "poseAt", "(II)I"⟩
abbrev cX3_artistsAt : ByteArray := prog_5_method_13_code
def yX3_artistsAt : MethodName := ⟨RX3, "artistsAt", "(I)I"⟩
abbrev cX3_spanOf : ByteArray := prog_5_method_14_code
def yX3_spanOf : MethodName := ⟨RX3, "spanOf", "(II)I"⟩
abbrev cX3_placeOf : ByteArray := prog_5_method_15_code
def yX3_placeOf : MethodName := ⟨RX3, "placeOf", "(II)I"⟩
abbrev cX3_localX : ByteArray := prog_5_method_16_code
def yX3_localX : MethodName := ⟨RX3, "localX", "(II)I"⟩
abbrev cX3_localY : ByteArray := prog_5_method_17_code
def yX3_localY : MethodName := ⟨RX3, "localY", "(II)I"⟩
abbrev cX3_poseTrack : ByteArray := prog_5_method_18_code
def yX3_poseTrack : MethodName := ⟨RX3, "poseTrack", "(I)V"⟩
abbrev cX3_poseCell : ByteArray := prog_5_method_19_code
def yX3_poseCell : MethodName := ⟨RX3, "poseCell", "(IIIII)V"⟩
abbrev cX3_blend : ByteArray := prog_5_method_20_code
def yX3_blend : MethodName := ⟨RX3, "blend", "(III)I"⟩
def RX4 : String := "KeyframeCourt$Stills"
def TX4 : u_T := fun k => match k with
  | 0 => ("KeyframeCourt$Stills", "made", "[I", true)
  | 1 => ("KeyframeCourt$Stills", "bonesThen", "[I", true)
  | _ => ("KeyframeCourt$Stills", "standings", "[I", true)
def tyX4 : Nat → FieldType := fun k => match k with
  | 0 => .array .int
  | 1 => .array .int
  | _ => .array .int
abbrev wsX40 : List Cond := u_ws RX4 TX4 3
theorem nmX4 : ∀ a, a < 3 → ∀ b, b < 3 → a ≠ b → (TX4 a).2.1 ≠ (TX4 b).2.1 := by decide +kernel
theorem tyX4_ok : ∀ k, k < 3 → parseFieldDescriptor (TX4 k).2.2.1 = some (tyX4 k) := by decide +kernel
abbrev cX4_init : ByteArray := prog_6_method_1_code
def yX4_init : MethodName := ⟨RX4, "<init>", "()V"⟩
abbrev cX4_standing : ByteArray := prog_6_method_2_code
def yX4_standing : MethodName := ⟨RX4, "standing", "(I)I"⟩
abbrev cX4_stands : ByteArray := prog_6_method_3_code
def yX4_stands : MethodName := ⟨RX4, "stands", "(I)Z"⟩
abbrev cX4_render : ByteArray := prog_6_method_4_code
def yX4_render : MethodName := ⟨RX4, "render", "(ILKeyframeCourt$Rig;)V"⟩
abbrev cX4_compareAll : ByteArray := prog_6_method_5_code
def yX4_compareAll : MethodName := ⟨RX4, "compareAll", "(LKeyframeCourt$Rig;)V"⟩
abbrev cX4_voidCount : ByteArray := prog_6_method_6_code
def yX4_voidCount : MethodName := ⟨RX4, "voidCount", "()I"⟩
abbrev cX4_voidCountByAll : ByteArray := prog_6_method_7_code
def yX4_voidCountByAll : MethodName := ⟨RX4, "voidCountByAll", "(LKeyframeCourt$Rig;)I"⟩
abbrev cX4_isAsMade : ByteArray := prog_6_method_8_code
def yX4_isAsMade : MethodName := ⟨RX4, "isAsMade", "(ILKeyframeCourt$Rig;)Z"⟩
def RX5 : String := "KeyframeCourt"
def TX5 : u_T := fun k => match k with
  | 0 => ("KeyframeCourt", "rig", "LKeyframeCourt$Rig;", true)
  | 1 => ("KeyframeCourt", "stills", "LKeyframeCourt$Stills;", true)
  | 2 => ("KeyframeCourt", "film", "LKeyframeCourt$Film;", true)
  | 3 => ("KeyframeCourt", "farm", "LKeyframeCourt$Farm;", true)
  | 4 => ("KeyframeCourt", "paid", "[I", true)
  | _ => ("KeyframeCourt", "rate", "I", false)
def tyX5 : Nat → FieldType := fun k => match k with
  | 0 => .object "KeyframeCourt$Rig"
  | 1 => .object "KeyframeCourt$Stills"
  | 2 => .object "KeyframeCourt$Film"
  | 3 => .object "KeyframeCourt$Farm"
  | 4 => .array .int
  | _ => .int
abbrev wsX50 : List Cond := u_ws RX5 TX5 6
theorem nmX5 : ∀ a, a < 6 → ∀ b, b < 6 → a ≠ b → (TX5 a).2.1 ≠ (TX5 b).2.1 := by decide +kernel
theorem tyX5_ok : ∀ k, k < 6 → parseFieldDescriptor (TX5 k).2.2.1 = some (tyX5 k) := by decide +kernel
abbrev cX5_init : ByteArray := prog_1_method_1_code
def yX5_init : MethodName := ⟨RX5, "<init>", "()V"⟩
abbrev cX5_bone : ByteArray := prog_1_method_2_code
def yX5_bone : MethodName := ⟨RX5, "bone", "(III)I"⟩
abbrev cX5_key : ByteArray := prog_1_method_3_code
def yX5_key : MethodName := ⟨RX5, "key", "(IIIIIZ)I"⟩
abbrev cX5_unkey : ByteArray := prog_1_method_4_code
def yX5_unkey : MethodName := ⟨RX5, "unkey", "(III)I"⟩
abbrev cX5_value : ByteArray := prog_1_method_5_code
def yX5_value : MethodName := ⟨RX5, "value", "(III)I"⟩
abbrev cX5_span : ByteArray := prog_1_method_6_code
def yX5_span : MethodName := ⟨RX5, "span", "(III)I"⟩
abbrev cX5_keyAt : ByteArray := prog_1_method_7_code
def yX5_keyAt : MethodName := ⟨RX5, "keyAt", "(I)I"⟩
abbrev cX5_place : ByteArray := prog_1_method_8_code
def yX5_place : MethodName := ⟨RX5, "place", "(II)I"⟩
abbrev cX5_artists : ByteArray := prog_1_method_9_code
def yX5_artists : MethodName := ⟨RX5, "artists", "(I)I"⟩
abbrev cX5_cut : ByteArray := prog_1_method_10_code
def yX5_cut : MethodName := ⟨RX5, "cut", "(III)I"⟩
abbrev cX5_uncut : ByteArray := prog_1_method_11_code
def yX5_uncut : MethodName := ⟨RX5, "uncut", "(I)I"⟩
abbrev cX5_shown : ByteArray := prog_1_method_12_code
def yX5_shown : MethodName := ⟨RX5, "shown", "(I)I"⟩
abbrev cX5_state : ByteArray := prog_1_method_13_code
def yX5_state : MethodName := ⟨RX5, "state", "(I)I"⟩
abbrev cX5_voids : ByteArray := prog_1_method_14_code
def yX5_voids : MethodName := ⟨RX5, "voids", "()I"⟩
abbrev cX5_voidsByAll : ByteArray := prog_1_method_15_code
def yX5_voidsByAll : MethodName := ⟨RX5, "voidsByAll", "()I"⟩
abbrev cX5_machine : ByteArray := prog_1_method_16_code
def yX5_machine : MethodName := ⟨RX5, "machine", "(I)I"⟩
abbrev cX5_offer : ByteArray := prog_1_method_17_code
def yX5_offer : MethodName := ⟨RX5, "offer", "(II)I"⟩
abbrev cX5_night : ByteArray := prog_1_method_18_code
def yX5_night : MethodName := ⟨RX5, "night", "(I)I"⟩
abbrev cX5_heat : ByteArray := prog_1_method_19_code
def yX5_heat : MethodName := ⟨RX5, "heat", "(I)I"⟩
abbrev cX5_setRate : ByteArray := prog_1_method_20_code
def yX5_setRate : MethodName := ⟨RX5, "setRate", "(I)I"⟩
abbrev cX5_seconds : ByteArray := prog_1_method_21_code
def yX5_seconds : MethodName := ⟨RX5, "seconds", "(I)I"⟩
abbrev cX5_show : ByteArray := prog_1_method_22_code
def yX5_show : MethodName := ⟨RX5, "show", "()I"⟩
abbrev cX5_money : ByteArray := prog_1_method_23_code
def yX5_money : MethodName := ⟨RX5, "money", "(I)I"⟩
abbrev cX5_secondsOf : ByteArray := prog_1_method_24_code
def yX5_secondsOf : MethodName := ⟨RX5, "secondsOf", "(I)I"⟩
abbrev cX5_isFilmStanding : ByteArray := prog_1_method_25_code
def yX5_isFilmStanding : MethodName := ⟨RX5, "isFilmStanding", "()Z"⟩
abbrev cX5_mustExist : ByteArray := prog_1_method_26_code
def yX5_mustExist : MethodName := ⟨RX5, "mustExist", "(Z)V"⟩
abbrev cX5_mustFit : ByteArray := prog_1_method_27_code
def yX5_mustFit : MethodName := ⟨RX5, "mustFit", "(Z)V"⟩
abbrev cX5_mustBePossible : ByteArray := prog_1_method_28_code
def yX5_mustBePossible : MethodName := ⟨RX5, "mustBePossible", "(Z)V"⟩
abbrev cX5_isWithin : ByteArray := prog_1_method_29_code
def yX5_isWithin : MethodName := ⟨RX5, "isWithin", "(III)Z"⟩
abbrev cX5_isFrame : ByteArray := prog_1_method_30_code
def yX5_isFrame : MethodName := ⟨RX5, "isFrame", "(I)Z"⟩
abbrev cX5_trackOf : ByteArray := prog_1_method_31_code
def yX5_trackOf : MethodName := ⟨RX5, "trackOf", "(II)I"⟩
def RX6 : String := "KeyframeCourtModel"
def TX6 : u_T := fun k => match k with
  | 0 => ("KeyframeCourtModel", "bones", "I", false)
  | 1 => ("KeyframeCourtModel", "parent", "[I", true)
  | 2 => ("KeyframeCourtModel", "offX", "[I", true)
  | 3 => ("KeyframeCourtModel", "offY", "[I", true)
  | 4 => ("KeyframeCourtModel", "keys", "I", false)
  | 5 => ("KeyframeCourtModel", "isKey", "[Z", true)
  | 6 => ("KeyframeCourtModel", "value", "[I", true)
  | 7 => ("KeyframeCourtModel", "artist", "[I", true)
  | 8 => ("KeyframeCourtModel", "isSoft", "[Z", true)
  | 9 => ("KeyframeCourtModel", "shots", "I", false)
  | 10 => ("KeyframeCourtModel", "first", "[I", true)
  | 11 => ("KeyframeCourtModel", "last", "[I", true)
  | 12 => ("KeyframeCourtModel", "isMade", "[Z", true)
  | 13 => ("KeyframeCourtModel", "madeBones", "[I", true)
  | 14 => ("KeyframeCourtModel", "made", "[I", true)
  | 15 => ("KeyframeCourtModel", "machines", "I", false)
  | 16 => ("KeyframeCourtModel", "speed", "[I", true)
  | 17 => ("KeyframeCourtModel", "heat", "[I", true)
  | 18 => ("KeyframeCourtModel", "rests", "[Z", true)
  | 19 => ("KeyframeCourtModel", "offers", "I", false)
  | 20 => ("KeyframeCourtModel", "price", "[I", true)
  | 21 => ("KeyframeCourtModel", "hours", "[I", true)
  | 22 => ("KeyframeCourtModel", "rate", "I", false)
  | 23 => ("KeyframeCourtModel", "money", "[I", true)
  | 24 => ("KeyframeCourtModel", "atX", "I", false)
  | 25 => ("KeyframeCourtModel", "atY", "I", false)
  | _ => ("KeyframeCourtModel", "thrown", "I", false)
def tyX6 : Nat → FieldType := fun k => match k with
  | 0 => .int
  | 1 => .array .int
  | 2 => .array .int
  | 3 => .array .int
  | 4 => .int
  | 5 => .array .boolean
  | 6 => .array .int
  | 7 => .array .int
  | 8 => .array .boolean
  | 9 => .int
  | 10 => .array .int
  | 11 => .array .int
  | 12 => .array .boolean
  | 13 => .array .int
  | 14 => .array .int
  | 15 => .int
  | 16 => .array .int
  | 17 => .array .int
  | 18 => .array .boolean
  | 19 => .int
  | 20 => .array .int
  | 21 => .array .int
  | 22 => .int
  | 23 => .array .int
  | 24 => .int
  | 25 => .int
  | _ => .int
abbrev wsX60 : List Cond := u_ws RX6 TX6 27
theorem nmX6 : ∀ a, a < 27 → ∀ b, b < 27 → a ≠ b → (TX6 a).2.1 ≠ (TX6 b).2.1 := by decide +kernel
theorem tyX6_ok : ∀ k, k < 27 → parseFieldDescriptor (TX6 k).2.2.1 = some (tyX6 k) := by decide +kernel
abbrev cX6_init : ByteArray := prog_8_method_1_code
def yX6_init : MethodName := ⟨RX6, "<init>", "()V"⟩
abbrev cX6_thrown : ByteArray := prog_8_method_2_code
def yX6_thrown : MethodName := ⟨RX6, "thrown", "()I"⟩
abbrev cX6_fails : ByteArray := prog_8_method_3_code
def yX6_fails : MethodName := ⟨RX6, "fails", "(I)Z"⟩
abbrev cX6_isIn : ByteArray := prog_8_method_4_code
def yX6_isIn : MethodName := ⟨RX6, "isIn", "(III)Z"⟩
abbrev cX6_isBone : ByteArray := prog_8_method_5_code
def yX6_isBone : MethodName := ⟨RX6, "isBone", "(I)Z"⟩
abbrev cX6_isFrame : ByteArray := prog_8_method_6_code
def yX6_isFrame : MethodName := ⟨RX6, "isFrame", "(I)Z"⟩
abbrev cX6_isPlace : ByteArray := prog_8_method_7_code
def yX6_isPlace : MethodName := ⟨RX6, "isPlace", "(III)Z"⟩
abbrev cX6_at : ByteArray := prog_8_method_8_code
def yX6_at : MethodName := ⟨RX6, "at", "(III)I"⟩
abbrev cX6_bone : ByteArray := prog_8_method_9_code
def yX6_bone : MethodName := ⟨RX6, "bone", "(III)I"⟩
abbrev cX6_before : ByteArray := prog_8_method_10_code
def yX6_before : MethodName := ⟨RX6, "before", "(III)I"⟩
abbrev cX6_behind : ByteArray := prog_8_method_11_code
def yX6_behind : MethodName := ⟨RX6, "behind", "(III)I"⟩
abbrev cX6_floor : ByteArray := prog_8_method_12_code
def yX6_floor : MethodName := ⟨RX6, "floor", "(II)I"⟩
abbrev cX6_valueAt : ByteArray := prog_8_method_13_code
def yX6_valueAt : MethodName := ⟨RX6, "valueAt", "(III)I"⟩
abbrev cX6_stands : ByteArray := prog_8_method_14_code
def yX6_stands : MethodName := ⟨RX6, "stands", "(I)Z"⟩
abbrev cX6_allVoids : ByteArray := prog_8_method_15_code
def yX6_allVoids : MethodName := ⟨RX6, "allVoids", "()I"⟩
abbrev cX6_key : ByteArray := prog_8_method_16_code
def yX6_key : MethodName := ⟨RX6, "key", "(IIIIIZ)I"⟩
abbrev cX6_unkey : ByteArray := prog_8_method_17_code
def yX6_unkey : MethodName := ⟨RX6, "unkey", "(III)I"⟩
abbrev cX6_value : ByteArray := prog_8_method_18_code
def yX6_value : MethodName := ⟨RX6, "value", "(III)I"⟩
abbrev cX6_span : ByteArray := prog_8_method_19_code
def yX6_span : MethodName := ⟨RX6, "span", "(III)I"⟩
abbrev cX6_keyAt : ByteArray := prog_8_method_20_code
def yX6_keyAt : MethodName := ⟨RX6, "keyAt", "(I)I"⟩
abbrev cX6_heading : ByteArray := prog_8_method_21_code
def yX6_heading : MethodName := ⟨RX6, "heading", "(II)I"⟩
abbrev cX6_turns : ByteArray := prog_8_method_22_code
def yX6_turns : MethodName := ⟨RX6, "turns", "(I)V"⟩
abbrev cX6_place : ByteArray := prog_8_method_23_code
def yX6_place : MethodName := ⟨RX6, "place", "(II)I"⟩
abbrev cX6_artistsOf : ByteArray := prog_8_method_24_code
def yX6_artistsOf : MethodName := ⟨RX6, "artistsOf", "(I)I"⟩
abbrev cX6_artists : ByteArray := prog_8_method_25_code
def yX6_artists : MethodName := ⟨RX6, "artists", "(I)I"⟩
abbrev cX6_length : ByteArray := prog_8_method_26_code
def yX6_length : MethodName := ⟨RX6, "length", "()I"⟩
abbrev cX6_cut : ByteArray := prog_8_method_27_code
def yX6_cut : MethodName := ⟨RX6, "cut", "(III)I"⟩
abbrev cX6_uncut : ByteArray := prog_8_method_28_code
def yX6_uncut : MethodName := ⟨RX6, "uncut", "(I)I"⟩
abbrev cX6_shownAt : ByteArray := prog_8_method_29_code
def yX6_shownAt : MethodName := ⟨RX6, "shownAt", "(I)I"⟩
abbrev cX6_shown : ByteArray := prog_8_method_30_code
def yX6_shown : MethodName := ⟨RX6, "shown", "(I)I"⟩
abbrev cX6_isNeeded : ByteArray := prog_8_method_31_code
def yX6_isNeeded : MethodName := ⟨RX6, "isNeeded", "(I)Z"⟩
abbrev cX6_state : ByteArray := prog_8_method_32_code
def yX6_state : MethodName := ⟨RX6, "state", "(I)I"⟩
abbrev cX6_voids : ByteArray := prog_8_method_33_code
def yX6_voids : MethodName := ⟨RX6, "voids", "()I"⟩
abbrev cX6_voidsByAll : ByteArray := prog_8_method_34_code
def yX6_voidsByAll : MethodName := ⟨RX6, "voidsByAll", "()I"⟩
abbrev cX6_machine : ByteArray := prog_8_method_35_code
def yX6_machine : MethodName := ⟨RX6, "machine", "(I)I"⟩
abbrev cX6_offer : ByteArray := prog_8_method_36_code
def yX6_offer : MethodName := ⟨RX6, "offer", "(II)I"⟩
abbrev cX6_renders : ByteArray := prog_8_method_37_code
def yX6_renders : MethodName := ⟨RX6, "renders", "(I)V"⟩
abbrev cX6_dearest : ByteArray := prog_8_method_38_code
def yX6_dearest : MethodName := ⟨RX6, "dearest", "()I"⟩
abbrev cX6_cools : ByteArray := prog_8_method_39_code
def yX6_cools : MethodName := ⟨RX6, "cools", "(I)V"⟩
abbrev cX6_hour : ByteArray := prog_8_method_40_code
def yX6_hour : MethodName := ⟨RX6, "hour", "(I)I"⟩
abbrev cX6_night : ByteArray := prog_8_method_41_code
def yX6_night : MethodName := ⟨RX6, "night", "(I)I"⟩
abbrev cX6_heat : ByteArray := prog_8_method_42_code
def yX6_heat : MethodName := ⟨RX6, "heat", "(I)I"⟩
abbrev cX6_setRate : ByteArray := prog_8_method_43_code
def yX6_setRate : MethodName := ⟨RX6, "setRate", "(I)I"⟩
abbrev cX6_secondsOf : ByteArray := prog_8_method_44_code
def yX6_secondsOf : MethodName := ⟨RX6, "secondsOf", "(I)I"⟩
abbrev cX6_seconds : ByteArray := prog_8_method_45_code
def yX6_seconds : MethodName := ⟨RX6, "seconds", "(I)I"⟩
abbrev cX6_isWhole : ByteArray := prog_8_method_46_code
def yX6_isWhole : MethodName := ⟨RX6, "isWhole", "()Z"⟩
abbrev cX6_show : ByteArray := prog_8_method_47_code
def yX6_show : MethodName := ⟨RX6, "show", "()I"⟩
abbrev cX6_money : ByteArray := prog_8_method_48_code
def yX6_money : MethodName := ⟨RX6, "money", "(I)I"⟩
def RJ9 : String := "java/lang/Math"
def TJ9 : u_T := fun k => match k with
  | _ => ("", "", "", false)
def tyJ9 : Nat → FieldType := fun k => match k with
  | _ => .int
abbrev wsJ90 : List Cond := u_ws RJ9 TJ9 0
theorem nmJ9 : ∀ a, a < 0 → ∀ b, b < 0 → a ≠ b → (TJ9 a).2.1 ≠ (TJ9 b).2.1 := by decide +kernel
theorem tyJ9_ok : ∀ k, k < 0 → parseFieldDescriptor (TJ9 k).2.2.1 = some (tyJ9 k) := by decide +kernel
abbrev cJ9_floorDiv_7cf53 : ByteArray := prog_13_method_47_code
def yJ9_floorDiv_7cf53 : MethodName := ⟨RJ9, "floorDiv", "(II)I"⟩
abbrev cJ9_max_7cf53 : ByteArray := prog_13_method_65_code
def yJ9_max_7cf53 : MethodName := ⟨RJ9, "max", "(II)I"⟩
def RL : String := "KeyframeCourtLaw"
abbrev cL_bone : ByteArray := method_3_code
def yL_bone : MethodName := ⟨RL, "bone", "(LKeyframeCourt;III[J)I"⟩
abbrev cL_key : ByteArray := method_4_code
def yL_key : MethodName := ⟨RL, "key", "(LKeyframeCourt;IIIIIZ[J)I"⟩
abbrev cL_unkey : ByteArray := method_5_code
def yL_unkey : MethodName := ⟨RL, "unkey", "(LKeyframeCourt;III[J)I"⟩
abbrev cL_value : ByteArray := method_6_code
def yL_value : MethodName := ⟨RL, "value", "(LKeyframeCourt;III[J)I"⟩
abbrev cL_span : ByteArray := method_7_code
def yL_span : MethodName := ⟨RL, "span", "(LKeyframeCourt;III[J)I"⟩
abbrev cL_keyAt : ByteArray := method_8_code
def yL_keyAt : MethodName := ⟨RL, "keyAt", "(LKeyframeCourt;I[J)I"⟩
abbrev cL_place : ByteArray := method_9_code
def yL_place : MethodName := ⟨RL, "place", "(LKeyframeCourt;II[J)I"⟩
abbrev cL_artists : ByteArray := method_10_code
def yL_artists : MethodName := ⟨RL, "artists", "(LKeyframeCourt;I[J)I"⟩
abbrev cL_cut : ByteArray := method_11_code
def yL_cut : MethodName := ⟨RL, "cut", "(LKeyframeCourt;III[J)I"⟩
abbrev cL_uncut : ByteArray := method_12_code
def yL_uncut : MethodName := ⟨RL, "uncut", "(LKeyframeCourt;I[J)I"⟩
abbrev cL_shown : ByteArray := method_13_code
def yL_shown : MethodName := ⟨RL, "shown", "(LKeyframeCourt;I[J)I"⟩
abbrev cL_state : ByteArray := method_14_code
def yL_state : MethodName := ⟨RL, "state", "(LKeyframeCourt;I[J)I"⟩
abbrev cL_machine : ByteArray := method_15_code
def yL_machine : MethodName := ⟨RL, "machine", "(LKeyframeCourt;I[J)I"⟩
abbrev cL_offer : ByteArray := method_16_code
def yL_offer : MethodName := ⟨RL, "offer", "(LKeyframeCourt;II[J)I"⟩
abbrev cL_night : ByteArray := method_17_code
def yL_night : MethodName := ⟨RL, "night", "(LKeyframeCourt;I[J)I"⟩
abbrev cL_heat : ByteArray := method_18_code
def yL_heat : MethodName := ⟨RL, "heat", "(LKeyframeCourt;I[J)I"⟩
abbrev cL_setRate : ByteArray := method_19_code
def yL_setRate : MethodName := ⟨RL, "setRate", "(LKeyframeCourt;I[J)I"⟩
abbrev cL_seconds : ByteArray := method_20_code
def yL_seconds : MethodName := ⟨RL, "seconds", "(LKeyframeCourt;I[J)I"⟩
abbrev cL_show : ByteArray := method_21_code
def yL_show : MethodName := ⟨RL, "show", "(LKeyframeCourt;[J)I"⟩
abbrev cL_money : ByteArray := method_22_code
def yL_money : MethodName := ⟨RL, "money", "(LKeyframeCourt;I[J)I"⟩
abbrev cL_law : ByteArray := code
def yL_law : MethodName := ⟨RL, "law", "([I)Z"⟩
def wsX0_init : List Cond := .code yX0_init cX0_init 1 none :: ([.methodLink RX0 3 objectInit, .instanceMethod objectInit, .code objectInit ⟨#[0xb1]⟩ 1 none, .arrayClass .int, .fieldLink RX0 9 "KeyframeCourt$Farm" "speeds" "[I", .fieldLink RX0 15 "KeyframeCourt$Farm" "heats" "[I", .arrayClass .boolean, .fieldLink RX0 18 "KeyframeCourt$Farm" "resting" "[Z", .fieldLink RX0 22 "KeyframeCourt$Farm" "machines" "I", .fieldLink RX0 26 "KeyframeCourt$Farm" "prices" "[I", .fieldLink RX0 29 "KeyframeCourt$Farm" "hoursLeft" "[I", .fieldLink RX0 32 "KeyframeCourt$Farm" "offers" "I", .fieldLink RX0 35 "KeyframeCourt$Farm" "earned" "I"] ++ wsX00)
