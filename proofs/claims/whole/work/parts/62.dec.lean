/-! the methods, and what their instructions decode to -/
abbrev sd_mt : Type := MethodName × ByteArray × Nat × Option FieldType × Nat × List (Nat × Nat × Nat × Nat) × Nat
def sd_g0 : List sd_mt := [(⟨"java/lang/Math", "floorDiv", "(II)I"⟩, prog_13_method_47_code, 3, (some .int), 8, [], 417), (⟨"java/lang/Math", "max", "(II)I"⟩, prog_13_method_65_code, 2, (some .int), 8, [], 617), (⟨"KeyframeCourt$KeyTable", "codeOf", "(II)I"⟩, prog_4_method_2_code, 2, (some .int), 2, [], 348), (⟨"KeyframeCourt$KeyTable", "size", "()I"⟩, prog_4_method_3_code, 1, (some .int), 2, [], 364), (⟨"KeyframeCourt$KeyTable", "codeAt", "(I)I"⟩, prog_4_method_4_code, 2, (some .int), 2, [], 471), (⟨"KeyframeCourt$KeyTable", "frameAt", "(I)I"⟩, prog_4_method_5_code, 2, (some .int), 2, [], 394), (⟨"KeyframeCourt$KeyTable", "valueAt", "(I)I"⟩, prog_4_method_6_code, 2, (some .int), 2, [], 402), (⟨"KeyframeCourt$KeyTable", "setterBit", "(I)I"⟩, prog_4_method_7_code, 2, (some .int), 2, [], 406), (⟨"KeyframeCourt$KeyTable", "isSoft", "(I)Z"⟩, prog_4_method_8_code, 2, (some .boolean), 2, [], 410), (⟨"KeyframeCourt$KeyTable", "countAhead", "(I)I"⟩, prog_4_method_9_code, 3, (some .int), 2, [], 356), (⟨"KeyframeCourt$KeyTable", "startOf", "(I)I"⟩, prog_4_method_10_code, 2, (some .int), 2, [], 389), (⟨"KeyframeCourt$KeyTable", "has", "(I)Z"⟩, prog_4_method_11_code, 3, (some .boolean), 2, [], 352), (⟨"KeyframeCourt$KeyTable", "put", "(IIIZ)V"⟩, prog_4_method_12_code, 6, none, 2, [], 372), (⟨"KeyframeCourt$KeyTable", "take", "(I)V"⟩, prog_4_method_13_code, 2, none, 2, [], 432), (⟨"KeyframeCourt$KeyTable", "openRow", "(I)V"⟩, prog_4_method_14_code, 3, none, 2, [], 377), (⟨"KeyframeCourt$KeyTable", "closeRow", "(I)V"⟩, prog_4_method_15_code, 3, none, 2, [], 436)]
def sd_g1 : List sd_mt := [(⟨"KeyframeCourt$KeyTable", "copyRow", "(II)V"⟩, prog_4_method_16_code, 3, none, 2, [], 381), (⟨"KeyframeCourt$Film", "shotCount", "()I"⟩, prog_3_method_2_code, 1, (some .int), 1, [], 516), (⟨"KeyframeCourt$Film", "length", "()I"⟩, prog_3_method_3_code, 1, (some .int), 1, [], 528), (⟨"KeyframeCourt$Film", "timesOf", "(I)I"⟩, prog_3_method_4_code, 2, (some .int), 1, [], 675), (⟨"KeyframeCourt$Film", "needs", "(I)Z"⟩, prog_3_method_5_code, 2, (some .boolean), 1, [], 565), (⟨"KeyframeCourt$Film", "insert", "(III)V"⟩, prog_3_method_6_code, 5, none, 1, [], 520), (⟨"KeyframeCourt$Film", "remove", "(I)V"⟩, prog_3_method_7_code, 3, none, 1, [], 539), (⟨"KeyframeCourt$Film", "frameAt", "(I)I"⟩, prog_3_method_8_code, 5, (some .int), 1, [], 550), (⟨"KeyframeCourt$Film", "count", "(III)V"⟩, prog_3_method_9_code, 5, none, 1, [], 524), (⟨"KeyframeCourt$Farm", "machineCount", "()I"⟩, prog_2_method_2_code, 1, (some .int), 0, [], 576), (⟨"KeyframeCourt$Farm", "offerCount", "()I"⟩, prog_2_method_3_code, 1, (some .int), 0, [], 591), (⟨"KeyframeCourt$Farm", "earnings", "()I"⟩, prog_2_method_4_code, 1, (some .int), 0, [], 698), (⟨"KeyframeCourt$Farm", "heatOf", "(I)I"⟩, prog_2_method_5_code, 2, (some .int), 0, [], 653), (⟨"KeyframeCourt$Farm", "addMachine", "(I)I"⟩, prog_2_method_6_code, 3, (some .int), 0, [], 580), (⟨"KeyframeCourt$Farm", "addOffer", "(II)I"⟩, prog_2_method_7_code, 4, (some .int), 0, [], 595), (⟨"KeyframeCourt$Farm", "passHours", "(ILKeyframeCourt$Film;LKeyframeCourt$Stills;LKeyframeCourt$Rig;)I"⟩, prog_2_method_8_code, 8, (some .int), 0, [], 606)]
def sd_g2 : List sd_mt := [(⟨"KeyframeCourt$Farm", "rest", "(I)I"⟩, prog_2_method_9_code, 2, (some .int), 0, [], 610), (⟨"KeyframeCourt$Farm", "work", "(ILKeyframeCourt$Film;LKeyframeCourt$Stills;LKeyframeCourt$Rig;)I"⟩, prog_2_method_10_code, 7, (some .int), 0, [], 621), (⟨"KeyframeCourt$Farm", "render", "(ILKeyframeCourt$Film;LKeyframeCourt$Stills;LKeyframeCourt$Rig;)I"⟩, prog_2_method_11_code, 7, (some .int), 0, [], 625), (⟨"KeyframeCourt$Farm", "sell", "(I)I"⟩, prog_2_method_12_code, 3, (some .int), 0, [], 638), (⟨"KeyframeCourt$Farm", "bestOffer", "()I"⟩, prog_2_method_13_code, 3, (some .int), 0, [], 642), (⟨"KeyframeCourt$Farm", "cool", "(I)V"⟩, prog_2_method_14_code, 2, none, 0, [], 614), (⟨"KeyframeCourt$Rig", "boneCount", "()I"⟩, prog_5_method_2_code, 1, (some .int), 3, [], 186), (⟨"KeyframeCourt$Rig", "trackCount", "()I"⟩, prog_5_method_3_code, 1, (some .int), 3, [], 190), (⟨"KeyframeCourt$Rig", "hasBone", "(I)Z"⟩, prog_5_method_4_code, 2, (some .boolean), 3, [], 208), (⟨"KeyframeCourt$Rig", "hasCell", "(III)Z"⟩, prog_5_method_5_code, 4, (some .boolean), 3, [], 334), (⟨"KeyframeCourt$Rig", "addBone", "(III)I"⟩, prog_5_method_6_code, 5, (some .int), 3, [], 319), (⟨"KeyframeCourt$Rig", "keyCount", "()I"⟩, prog_5_method_7_code, 1, (some .int), 3, [], 360), (⟨"KeyframeCourt$Rig", "keyCode", "(I)I"⟩, prog_5_method_8_code, 2, (some .int), 3, [], 467), (⟨"KeyframeCourt$Rig", "hasKey", "(II)Z"⟩, prog_5_method_9_code, 3, (some .boolean), 3, [], 345), (⟨"KeyframeCourt$Rig", "setKey", "(IIIIZ)V"⟩, prog_5_method_10_code, 6, none, 3, [], 368), (⟨"KeyframeCourt$Rig", "takeKey", "(II)V"⟩, prog_5_method_11_code, 3, none, 3, [], 428)]
def sd_g3 : List sd_mt := [(⟨"KeyframeCourt$Rig", "poseAt", "(II)I"⟩, prog_5_method_12_code, 3, (some .int), 3, [], 194), (⟨"KeyframeCourt$Rig", "artistsAt", "(I)I"⟩, prog_5_method_13_code, 4, (some .int), 3, [], 504), (⟨"KeyframeCourt$Rig", "spanOf", "(II)I"⟩, prog_5_method_14_code, 8, (some .int), 3, [], 455), (⟨"KeyframeCourt$Rig", "placeOf", "(II)I"⟩, prog_5_method_15_code, 10, (some .int), 3, [], 483), (⟨"KeyframeCourt$Rig", "localX", "(II)I"⟩, prog_5_method_16_code, 3, (some .int), 3, [], 487), (⟨"KeyframeCourt$Rig", "localY", "(II)I"⟩, prog_5_method_17_code, 3, (some .int), 3, [], 493), (⟨"KeyframeCourt$Rig", "poseTrack", "(I)V"⟩, prog_5_method_18_code, 6, none, 3, [], 385), (⟨"KeyframeCourt$Rig", "poseCell", "(IIIII)V"⟩, prog_5_method_19_code, 8, none, 3, [], 398), (⟨"KeyframeCourt$Rig", "blend", "(III)I"⟩, prog_5_method_20_code, 6, (some .int), 3, [], 414), (⟨"KeyframeCourt$Stills", "standing", "(I)I"⟩, prog_6_method_2_code, 2, (some .int), 4, [], 561), (⟨"KeyframeCourt$Stills", "stands", "(I)Z"⟩, prog_6_method_3_code, 2, (some .boolean), 4, [], 630), (⟨"KeyframeCourt$Stills", "render", "(ILKeyframeCourt$Rig;)V"⟩, prog_6_method_4_code, 4, none, 4, [], 634), (⟨"KeyframeCourt$Stills", "compareAll", "(LKeyframeCourt$Rig;)V"⟩, prog_6_method_5_code, 3, none, 4, [], 323), (⟨"KeyframeCourt$Stills", "voidCount", "()I"⟩, prog_6_method_6_code, 3, (some .int), 4, [], 170), (⟨"KeyframeCourt$Stills", "voidCountByAll", "(LKeyframeCourt$Rig;)I"⟩, prog_6_method_7_code, 4, (some .int), 4, [], 178), (⟨"KeyframeCourt$Stills", "isAsMade", "(ILKeyframeCourt$Rig;)Z"⟩, prog_6_method_8_code, 4, (some .boolean), 4, [], 182)]
def sd_g4 : List sd_mt := [(⟨"KeyframeCourtModel", "thrown", "()I"⟩, prog_8_method_2_code, 1, (some .int), 6, [], 790), (⟨"KeyframeCourtModel", "fails", "(I)Z"⟩, prog_8_method_3_code, 2, (some .boolean), 6, [], 805), (⟨"KeyframeCourtModel", "isIn", "(III)Z"⟩, prog_8_method_4_code, 3, (some .boolean), 6, [], 801), (⟨"KeyframeCourtModel", "isBone", "(I)Z"⟩, prog_8_method_5_code, 2, (some .boolean), 6, [], 798), (⟨"KeyframeCourtModel", "isFrame", "(I)Z"⟩, prog_8_method_6_code, 1, (some .boolean), 6, [], 816), (⟨"KeyframeCourtModel", "isPlace", "(III)Z"⟩, prog_8_method_7_code, 4, (some .boolean), 6, [], 813), (⟨"KeyframeCourtModel", "at", "(III)I"⟩, prog_8_method_8_code, 3, (some .int), 6, [], 819), (⟨"KeyframeCourtModel", "bone", "(III)I"⟩, prog_8_method_9_code, 6, (some .int), 6, [], 794), (⟨"KeyframeCourtModel", "before", "(III)I"⟩, prog_8_method_10_code, 5, (some .int), 6, [], 835), (⟨"KeyframeCourtModel", "behind", "(III)I"⟩, prog_8_method_11_code, 5, (some .int), 6, [], 839), (⟨"KeyframeCourtModel", "floor", "(II)I"⟩, prog_8_method_12_code, 3, (some .int), 6, [], 842), (⟨"KeyframeCourtModel", "valueAt", "(III)I"⟩, prog_8_method_13_code, 7, (some .int), 6, [], 831), (⟨"KeyframeCourtModel", "stands", "(I)Z"⟩, prog_8_method_14_code, 4, (some .boolean), 6, [], 827), (⟨"KeyframeCourtModel", "allVoids", "()I"⟩, prog_8_method_15_code, 3, (some .int), 6, [], 823), (⟨"KeyframeCourtModel", "key", "(IIIIIZ)I"⟩, prog_8_method_16_code, 11, (some .int), 6, [], 809), (⟨"KeyframeCourtModel", "unkey", "(III)I"⟩, prog_8_method_17_code, 6, (some .int), 6, [], 846)]
def sd_g5 : List sd_mt := [(⟨"KeyframeCourtModel", "value", "(III)I"⟩, prog_8_method_18_code, 4, (some .int), 6, [], 850), (⟨"KeyframeCourtModel", "span", "(III)I"⟩, prog_8_method_19_code, 7, (some .int), 6, [], 854), (⟨"KeyframeCourtModel", "keyAt", "(I)I"⟩, prog_8_method_20_code, 4, (some .int), 6, [], 858), (⟨"KeyframeCourtModel", "heading", "(II)I"⟩, prog_8_method_21_code, 5, (some .int), 6, [], 866), (⟨"KeyframeCourtModel", "turns", "(I)V"⟩, prog_8_method_22_code, 4, none, 6, [], 870), (⟨"KeyframeCourtModel", "place", "(II)I"⟩, prog_8_method_23_code, 6, (some .int), 6, [], 862), (⟨"KeyframeCourtModel", "artistsOf", "(I)I"⟩, prog_8_method_24_code, 7, (some .int), 6, [], 878), (⟨"KeyframeCourtModel", "artists", "(I)I"⟩, prog_8_method_25_code, 2, (some .int), 6, [], 874), (⟨"KeyframeCourtModel", "length", "()I"⟩, prog_8_method_26_code, 3, (some .int), 6, [], 886), (⟨"KeyframeCourtModel", "cut", "(III)I"⟩, prog_8_method_27_code, 6, (some .int), 6, [], 882), (⟨"KeyframeCourtModel", "uncut", "(I)I"⟩, prog_8_method_28_code, 4, (some .int), 6, [], 890), (⟨"KeyframeCourtModel", "shownAt", "(I)I"⟩, prog_8_method_29_code, 5, (some .int), 6, [], 898), (⟨"KeyframeCourtModel", "shown", "(I)I"⟩, prog_8_method_30_code, 3, (some .int), 6, [], 894), (⟨"KeyframeCourtModel", "isNeeded", "(I)Z"⟩, prog_8_method_31_code, 4, (some .boolean), 6, [], 906), (⟨"KeyframeCourtModel", "state", "(I)I"⟩, prog_8_method_32_code, 2, (some .int), 6, [], 902), (⟨"KeyframeCourtModel", "voids", "()I"⟩, prog_8_method_33_code, 1, (some .int), 6, [], 910)]
def sd_g6 : List sd_mt := [(⟨"KeyframeCourtModel", "voidsByAll", "()I"⟩, prog_8_method_34_code, 1, (some .int), 6, [], 914), (⟨"KeyframeCourtModel", "machine", "(I)I"⟩, prog_8_method_35_code, 2, (some .int), 6, [], 918), (⟨"KeyframeCourtModel", "offer", "(II)I"⟩, prog_8_method_36_code, 4, (some .int), 6, [], 922), (⟨"KeyframeCourtModel", "renders", "(I)V"⟩, prog_8_method_37_code, 3, none, 6, [], 938), (⟨"KeyframeCourtModel", "dearest", "()I"⟩, prog_8_method_38_code, 3, (some .int), 6, [], 942), (⟨"KeyframeCourtModel", "cools", "(I)V"⟩, prog_8_method_39_code, 2, none, 6, [], 934), (⟨"KeyframeCourtModel", "hour", "(I)I"⟩, prog_8_method_40_code, 4, (some .int), 6, [], 930), (⟨"KeyframeCourtModel", "night", "(I)I"⟩, prog_8_method_41_code, 5, (some .int), 6, [], 926), (⟨"KeyframeCourtModel", "heat", "(I)I"⟩, prog_8_method_42_code, 3, (some .int), 6, [], 946), (⟨"KeyframeCourtModel", "setRate", "(I)I"⟩, prog_8_method_43_code, 3, (some .int), 6, [], 950), (⟨"KeyframeCourtModel", "secondsOf", "(I)I"⟩, prog_8_method_44_code, 5, (some .int), 6, [], 958), (⟨"KeyframeCourtModel", "seconds", "(I)I"⟩, prog_8_method_45_code, 2, (some .int), 6, [], 954), (⟨"KeyframeCourtModel", "isWhole", "()Z"⟩, prog_8_method_46_code, 3, (some .boolean), 6, [], 966), (⟨"KeyframeCourtModel", "show", "()I"⟩, prog_8_method_47_code, 4, (some .int), 6, [], 962), (⟨"KeyframeCourtModel", "money", "(I)I"⟩, prog_8_method_48_code, 2, (some .int), 6, [], 970), (⟨"KeyframeCourt", "bone", "(III)I"⟩, prog_1_method_2_code, 5, (some .int), 5, [], 204)]
def sd_g7 : List sd_mt := [(⟨"KeyframeCourt", "key", "(IIIIIZ)I"⟩, prog_1_method_3_code, 9, (some .int), 5, [], 330), (⟨"KeyframeCourt", "unkey", "(III)I"⟩, prog_1_method_4_code, 6, (some .int), 5, [], 424), (⟨"KeyframeCourt", "value", "(III)I"⟩, prog_1_method_5_code, 4, (some .int), 5, [], 443), (⟨"KeyframeCourt", "span", "(III)I"⟩, prog_1_method_6_code, 5, (some .int), 5, [], 451), (⟨"KeyframeCourt", "keyAt", "(I)I"⟩, prog_1_method_7_code, 2, (some .int), 5, [], 463), (⟨"KeyframeCourt", "place", "(II)I"⟩, prog_1_method_8_code, 3, (some .int), 5, [], 478), (⟨"KeyframeCourt", "artists", "(I)I"⟩, prog_1_method_9_code, 2, (some .int), 5, [], 500), (⟨"KeyframeCourt", "cut", "(III)I"⟩, prog_1_method_10_code, 4, (some .int), 5, [], 512), (⟨"KeyframeCourt", "uncut", "(I)I"⟩, prog_1_method_11_code, 2, (some .int), 5, [], 535), (⟨"KeyframeCourt", "shown", "(I)I"⟩, prog_1_method_12_code, 2, (some .int), 5, [], 546), (⟨"KeyframeCourt", "state", "(I)I"⟩, prog_1_method_13_code, 2, (some .int), 5, [], 557), (⟨"KeyframeCourt", "voids", "()I"⟩, prog_1_method_14_code, 1, (some .int), 5, [], 166), (⟨"KeyframeCourt", "voidsByAll", "()I"⟩, prog_1_method_15_code, 1, (some .int), 5, [], 174), (⟨"KeyframeCourt", "machine", "(I)I"⟩, prog_1_method_16_code, 2, (some .int), 5, [], 572), (⟨"KeyframeCourt", "offer", "(II)I"⟩, prog_1_method_17_code, 3, (some .int), 5, [], 587), (⟨"KeyframeCourt", "night", "(I)I"⟩, prog_1_method_18_code, 2, (some .int), 5, [], 602)]
def sd_g8 : List sd_mt := [(⟨"KeyframeCourt", "heat", "(I)I"⟩, prog_1_method_19_code, 2, (some .int), 5, [], 649), (⟨"KeyframeCourt", "setRate", "(I)I"⟩, prog_1_method_20_code, 3, (some .int), 5, [], 660), (⟨"KeyframeCourt", "seconds", "(I)I"⟩, prog_1_method_21_code, 2, (some .int), 5, [], 667), (⟨"KeyframeCourt", "show", "()I"⟩, prog_1_method_22_code, 4, (some .int), 5, [], 682), (⟨"KeyframeCourt", "money", "(I)I"⟩, prog_1_method_23_code, 2, (some .int), 5, [], 694), (⟨"KeyframeCourt", "secondsOf", "(I)I"⟩, prog_1_method_24_code, 4, (some .int), 5, [], 671), (⟨"KeyframeCourt", "isFilmStanding", "()Z"⟩, prog_1_method_25_code, 2, (some .boolean), 5, [], 686), (⟨"KeyframeCourt", "mustExist", "(Z)V"⟩, prog_1_method_26_code, 1, none, 5, [], 214), (⟨"KeyframeCourt", "mustFit", "(Z)V"⟩, prog_1_method_27_code, 1, none, 5, [], 281), (⟨"KeyframeCourt", "mustBePossible", "(Z)V"⟩, prog_1_method_28_code, 1, none, 5, [], 300), (⟨"KeyframeCourt", "isWithin", "(III)Z"⟩, prog_1_method_29_code, 3, (some .boolean), 5, [], 211), (⟨"KeyframeCourt", "isFrame", "(I)Z"⟩, prog_1_method_30_code, 1, (some .boolean), 5, [], 338), (⟨"KeyframeCourt", "trackOf", "(II)I"⟩, prog_1_method_31_code, 2, (some .int), 5, [], 341), (⟨"KeyframeCourtLaw", "bone", "(LKeyframeCourt;III[J)I"⟩, method_3_code, 6, (some .int), 7, [(0, 12, 15, 13), (0, 12, 19, 15), (0, 12, 23, 17)], 197), (⟨"KeyframeCourtLaw", "key", "(LKeyframeCourt;IIIIIZ[J)I"⟩, method_4_code, 9, (some .int), 7, [(0, 18, 21, 13), (0, 18, 25, 15), (0, 18, 29, 17)], 326), (⟨"KeyframeCourtLaw", "unkey", "(LKeyframeCourt;III[J)I"⟩, method_5_code, 6, (some .int), 7, [(0, 12, 15, 13)], 420)]
def sd_g9 : List sd_mt := [(⟨"KeyframeCourtLaw", "value", "(LKeyframeCourt;III[J)I"⟩, method_6_code, 6, (some .int), 7, [(0, 12, 15, 13)], 439), (⟨"KeyframeCourtLaw", "span", "(LKeyframeCourt;III[J)I"⟩, method_7_code, 6, (some .int), 7, [(0, 12, 15, 13)], 447), (⟨"KeyframeCourtLaw", "keyAt", "(LKeyframeCourt;I[J)I"⟩, method_8_code, 4, (some .int), 7, [(0, 9, 12, 13)], 459), (⟨"KeyframeCourtLaw", "place", "(LKeyframeCourt;II[J)I"⟩, method_9_code, 5, (some .int), 7, [(0, 10, 13, 13)], 474), (⟨"KeyframeCourtLaw", "artists", "(LKeyframeCourt;I[J)I"⟩, method_10_code, 4, (some .int), 7, [(0, 9, 12, 13)], 496), (⟨"KeyframeCourtLaw", "cut", "(LKeyframeCourt;III[J)I"⟩, method_11_code, 6, (some .int), 7, [(0, 12, 15, 13), (0, 12, 19, 15), (0, 12, 23, 17)], 508), (⟨"KeyframeCourtLaw", "uncut", "(LKeyframeCourt;I[J)I"⟩, method_12_code, 4, (some .int), 7, [(0, 9, 12, 13)], 531), (⟨"KeyframeCourtLaw", "shown", "(LKeyframeCourt;I[J)I"⟩, method_13_code, 4, (some .int), 7, [(0, 9, 12, 13)], 542), (⟨"KeyframeCourtLaw", "state", "(LKeyframeCourt;I[J)I"⟩, method_14_code, 4, (some .int), 7, [(0, 9, 12, 13)], 553), (⟨"KeyframeCourtLaw", "machine", "(LKeyframeCourt;I[J)I"⟩, method_15_code, 4, (some .int), 7, [(0, 9, 12, 15), (0, 9, 15, 17)], 568), (⟨"KeyframeCourtLaw", "offer", "(LKeyframeCourt;II[J)I"⟩, method_16_code, 5, (some .int), 7, [(0, 10, 13, 15), (0, 10, 17, 17)], 583), (⟨"KeyframeCourtLaw", "night", "(LKeyframeCourt;I[J)I"⟩, method_17_code, 4, (some .int), 7, [(0, 9, 12, 15)], 598), (⟨"KeyframeCourtLaw", "heat", "(LKeyframeCourt;I[J)I"⟩, method_18_code, 4, (some .int), 7, [(0, 9, 12, 13)], 645), (⟨"KeyframeCourtLaw", "setRate", "(LKeyframeCourt;I[J)I"⟩, method_19_code, 4, (some .int), 7, [(0, 9, 12, 15)], 656), (⟨"KeyframeCourtLaw", "seconds", "(LKeyframeCourt;I[J)I"⟩, method_20_code, 4, (some .int), 7, [(0, 9, 12, 13)], 663), (⟨"KeyframeCourtLaw", "show", "(LKeyframeCourt;[J)I"⟩, method_21_code, 3, (some .int), 7, [(0, 8, 11, 17)], 678)]
def sd_g10 : List sd_mt := [(⟨"KeyframeCourtLaw", "money", "(LKeyframeCourt;I[J)I"⟩, method_22_code, 4, (some .int), 7, [(0, 9, 12, 13)], 690), (⟨"KeyframeCourtLaw", "law", "([I)Z"⟩, code, 7, (some .boolean), 7, [], 0)]
def sd_tbl : List (List sd_mt) := [sd_g0, sd_g1, sd_g2, sd_g3, sd_g4, sd_g5, sd_g6, sd_g7, sd_g8, sd_g9, sd_g10]
def sd_m (i : Nat) : sd_mt := (sd_tbl.getD (i / 16) []).getD (i % 16) (⟨"", "", ""⟩, ⟨#[]⟩, 0, none, 0, [], 0)
def sd_y (i : Nat) : MethodName := (sd_m i).1
def sd_b (i : Nat) : ByteArray := (sd_m i).2.1
def sd_l (i : Nat) : Nat := (sd_m i).2.2.1
def sd_r (i : Nat) : Option FieldType := (sd_m i).2.2.2.1
def sd_c (i : Nat) : Nat := (sd_m i).2.2.2.2.1
def sd_h (i : Nat) : List (Nat × Nat × Nat × Nat) := (sd_m i).2.2.2.2.2.1
def sd_x (i : Nat) : Nat := (sd_m i).2.2.2.2.2.2
/-- the static ones -/
def sd_st (i : Nat) : Bool := [0, 1, 2, 66, 68, 70, 74, 135, 136, 137, 138, 139, 140, 141, 142, 143, 144, 145, 146, 147, 148, 149, 150, 151, 152, 153, 154, 155, 156, 157, 158, 159, 160, 161].any (Nat.beq i)
def sd_f4 (a : Nat) : Fin 4 := if h : a < 4 then ⟨a, h⟩ else 0
theorem sd_f4_v {a : Nat} (h : a < 4) : (sd_f4 a : Nat) = a := by unfold sd_f4; rw [dif_pos h]
def sd_bin : Nat → Instr
  | 0 => .iadd
  | 1 => .iadd
  | 2 => .isub
  | 3 => .imul
  | 4 => .idiv
  | 5 => .irem
  | 6 => .iand
  | 7 => .ior
  | 8 => .ishl
  | 9 => .ishr
  | _ => .ixor
def sd_ok (b : ByteArray) (pc op a : Nat) (v : Int) (nx cp : Nat) : Prop :=
  (op = 0 ∧ ((decode b pc = .ok (.iconst v, 1) ∧ nx = pc + 1 ∧ -128 ≤ v ∧ v ≤ 127) ∨ (decode b pc = .ok (.bipush v, 2) ∧ nx = pc + 2 ∧ -128 ≤ v ∧ v ≤ 127) ∨ (decode b pc = .ok (.sipush v, 3) ∧ nx = pc + 3 ∧ -32768 ≤ v ∧ v ≤ 32767))) ∨
  (op = 1 ∧ ((decode b pc = .ok (.iload_n (sd_f4 a), 1) ∧ nx = pc + 1 ∧ a < 4) ∨ (decode b pc = .ok (.iload a, 2) ∧ nx = pc + 2))) ∨
  (op = 2 ∧ ((decode b pc = .ok (.aload_n (sd_f4 a), 1) ∧ nx = pc + 1 ∧ a < 4) ∨ (decode b pc = .ok (.aload a, 2) ∧ nx = pc + 2))) ∨
  (op = 3 ∧ ((decode b pc = .ok (.istore_n (sd_f4 a), 1) ∧ nx = pc + 1 ∧ a < 4) ∨ (decode b pc = .ok (.istore a, 2) ∧ nx = pc + 2))) ∨
  (op = 4 ∧ ((decode b pc = .ok (.astore_n (sd_f4 a), 1) ∧ nx = pc + 1 ∧ a < 4) ∨ (decode b pc = .ok (.astore a, 2) ∧ nx = pc + 2))) ∨
  (op = 5 ∧ decode b pc = .ok (.iinc a v, 3) ∧ nx = pc + 3 ∧ -128 ≤ v ∧ v ≤ 127) ∨
  (op = 6 ∧ decode b pc = .ok (sd_bin a, 1) ∧ nx = pc + 1 ∧ a ≤ 10) ∨
  (op = 7 ∧ decode b pc = .ok (.ineg, 1) ∧ nx = pc + 1) ∨
  (op = 8 ∧ decode b pc = .ok (.dup, 1) ∧ nx = pc + 1) ∨
  (op = 9 ∧ decode b pc = .ok (.dup2, 1) ∧ nx = pc + 1) ∨
  (op = 10 ∧ decode b pc = .ok ((if a = 0 then .iaload else .baload), 1) ∧ nx = pc + 1) ∨
  (op = 11 ∧ decode b pc = .ok ((if a = 0 then .iastore else .bastore), 1) ∧ nx = pc + 1) ∨
  (op = 12 ∧ decode b pc = .ok (.getfield cp, 3) ∧ nx = pc + 3) ∨
  (op = 13 ∧ decode b pc = .ok (.getfield cp, 3) ∧ nx = pc + 3) ∨
  (op = 14 ∧ decode b pc = .ok (.putfield cp, 3) ∧ nx = pc + 3) ∨
  (op = 15 ∧ (decode b pc = .ok (.if_icmp .eq (v - pc), 3) ∧ a = 0 ∨ decode b pc = .ok (.if_icmp .ne (v - pc), 3) ∧ a = 1 ∨ decode b pc = .ok (.if_icmp .lt (v - pc), 3) ∧ a = 2 ∨ decode b pc = .ok (.if_icmp .ge (v - pc), 3) ∧ a = 3 ∨ decode b pc = .ok (.if_icmp .gt (v - pc), 3) ∧ a = 4 ∨ decode b pc = .ok (.if_icmp .le (v - pc), 3) ∧ a = 5) ∧ nx = pc + 3) ∨
  (op = 16 ∧ (decode b pc = .ok (.ifCond .eq (v - pc), 3) ∧ a = 0 ∨ decode b pc = .ok (.ifCond .ne (v - pc), 3) ∧ a = 1 ∨ decode b pc = .ok (.ifCond .lt (v - pc), 3) ∧ a = 2 ∨ decode b pc = .ok (.ifCond .ge (v - pc), 3) ∧ a = 3 ∨ decode b pc = .ok (.ifCond .gt (v - pc), 3) ∧ a = 4 ∨ decode b pc = .ok (.ifCond .le (v - pc), 3) ∧ a = 5) ∧ nx = pc + 3) ∨
  (op = 17 ∧ decode b pc = .ok (.goto ((nx : Int) - pc), 3)) ∨
  (op = 18 ∧ decode b pc = .ok ((if sd_st a = true then .invokestatic cp else .invokevirtual cp), 3) ∧ nx = pc + 3) ∨
  (op = 19 ∧ decode b pc = .ok (.ireturn, 1)) ∨
  (op = 20 ∧ decode b pc = .ok (.return_, 1)) ∨
  (op = 21 ∧ decode b pc = .ok (.new cp, 3) ∧ decode b (pc + 3) = .ok (.dup, 1) ∧ decode b (pc + 4) = .ok (.invokespecial v.toNat, 3) ∧ decode b (pc + 7) = .ok (.athrow, 1)) ∨
  (op = 22 ∧ decode b pc = .ok (.i2l, 1) ∧ nx = pc + 1) ∨
  (op = 23 ∧ decode b pc = .ok (.lastore, 1) ∧ nx = pc + 1) ∨
  (op = 24 ∧ decode b pc = .ok (.laload, 1) ∧ nx = pc + 1) ∨
  (op = 25 ∧ decode b pc = .ok (.lcmp, 1) ∧ nx = pc + 1) ∨
  (op = 26 ∧ decode b pc = .ok (.iaload, 1) ∧ nx = pc + 1) ∨
  (op = 27 ∧ decode b pc = .ok (.arraylength, 1) ∧ nx = pc + 1) ∨
  (op = 28 ∧ pc = 40 ∧ nx = 1500)
def sd_k0 (b : ByteArray) (pc op a : Nat) (v : Int) (nx cp : Nat) : Bool := (decide (op = 0) && ((decide (decode b pc = .ok (.iconst v, 1)) && decide (nx = pc + 1) && decide (-128 ≤ v) && decide (v ≤ 127)) || (decide (decode b pc = .ok (.bipush v, 2)) && decide (nx = pc + 2) && decide (-128 ≤ v) && decide (v ≤ 127)) || (decide (decode b pc = .ok (.sipush v, 3)) && decide (nx = pc + 3) && decide (-32768 ≤ v) && decide (v ≤ 32767))))
def sd_k1 (b : ByteArray) (pc op a : Nat) (v : Int) (nx cp : Nat) : Bool := (decide (op = 1) && ((decide (decode b pc = .ok (.iload_n (sd_f4 a), 1)) && decide (nx = pc + 1) && decide (a < 4)) || (decide (decode b pc = .ok (.iload a, 2)) && decide (nx = pc + 2))))
def sd_k2 (b : ByteArray) (pc op a : Nat) (v : Int) (nx cp : Nat) : Bool := (decide (op = 2) && ((decide (decode b pc = .ok (.aload_n (sd_f4 a), 1)) && decide (nx = pc + 1) && decide (a < 4)) || (decide (decode b pc = .ok (.aload a, 2)) && decide (nx = pc + 2))))
def sd_k3 (b : ByteArray) (pc op a : Nat) (v : Int) (nx cp : Nat) : Bool := (decide (op = 3) && ((decide (decode b pc = .ok (.istore_n (sd_f4 a), 1)) && decide (nx = pc + 1) && decide (a < 4)) || (decide (decode b pc = .ok (.istore a, 2)) && decide (nx = pc + 2))))
def sd_k4 (b : ByteArray) (pc op a : Nat) (v : Int) (nx cp : Nat) : Bool := (decide (op = 4) && ((decide (decode b pc = .ok (.astore_n (sd_f4 a), 1)) && decide (nx = pc + 1) && decide (a < 4)) || (decide (decode b pc = .ok (.astore a, 2)) && decide (nx = pc + 2))))
def sd_k5 (b : ByteArray) (pc op a : Nat) (v : Int) (nx cp : Nat) : Bool := (decide (op = 5) && decide (decode b pc = .ok (.iinc a v, 3)) && decide (nx = pc + 3) && decide (-128 ≤ v) && decide (v ≤ 127))
def sd_k6 (b : ByteArray) (pc op a : Nat) (v : Int) (nx cp : Nat) : Bool := (decide (op = 6) && decide (decode b pc = .ok (sd_bin a, 1)) && decide (nx = pc + 1) && decide (a ≤ 10))
def sd_k7 (b : ByteArray) (pc op a : Nat) (v : Int) (nx cp : Nat) : Bool := (decide (op = 7) && decide (decode b pc = .ok (.ineg, 1)) && decide (nx = pc + 1))
def sd_k8 (b : ByteArray) (pc op a : Nat) (v : Int) (nx cp : Nat) : Bool := (decide (op = 8) && decide (decode b pc = .ok (.dup, 1)) && decide (nx = pc + 1))
def sd_k9 (b : ByteArray) (pc op a : Nat) (v : Int) (nx cp : Nat) : Bool := (decide (op = 9) && decide (decode b pc = .ok (.dup2, 1)) && decide (nx = pc + 1))
def sd_k10 (b : ByteArray) (pc op a : Nat) (v : Int) (nx cp : Nat) : Bool := (decide (op = 10) && decide (decode b pc = .ok ((if a = 0 then .iaload else .baload), 1)) && decide (nx = pc + 1))
def sd_k11 (b : ByteArray) (pc op a : Nat) (v : Int) (nx cp : Nat) : Bool := (decide (op = 11) && decide (decode b pc = .ok ((if a = 0 then .iastore else .bastore), 1)) && decide (nx = pc + 1))
def sd_k12 (b : ByteArray) (pc op a : Nat) (v : Int) (nx cp : Nat) : Bool := (decide (op = 12) && decide (decode b pc = .ok (.getfield cp, 3)) && decide (nx = pc + 3))
def sd_k13 (b : ByteArray) (pc op a : Nat) (v : Int) (nx cp : Nat) : Bool := (decide (op = 13) && decide (decode b pc = .ok (.getfield cp, 3)) && decide (nx = pc + 3))
def sd_k14 (b : ByteArray) (pc op a : Nat) (v : Int) (nx cp : Nat) : Bool := (decide (op = 14) && decide (decode b pc = .ok (.putfield cp, 3)) && decide (nx = pc + 3))
def sd_k15 (b : ByteArray) (pc op a : Nat) (v : Int) (nx cp : Nat) : Bool := (decide (op = 15) && (decide (decode b pc = .ok (.if_icmp .eq (v - pc), 3)) && decide (a = 0) || decide (decode b pc = .ok (.if_icmp .ne (v - pc), 3)) && decide (a = 1) || decide (decode b pc = .ok (.if_icmp .lt (v - pc), 3)) && decide (a = 2) || decide (decode b pc = .ok (.if_icmp .ge (v - pc), 3)) && decide (a = 3) || decide (decode b pc = .ok (.if_icmp .gt (v - pc), 3)) && decide (a = 4) || decide (decode b pc = .ok (.if_icmp .le (v - pc), 3)) && decide (a = 5)) && decide (nx = pc + 3))
def sd_k16 (b : ByteArray) (pc op a : Nat) (v : Int) (nx cp : Nat) : Bool := (decide (op = 16) && (decide (decode b pc = .ok (.ifCond .eq (v - pc), 3)) && decide (a = 0) || decide (decode b pc = .ok (.ifCond .ne (v - pc), 3)) && decide (a = 1) || decide (decode b pc = .ok (.ifCond .lt (v - pc), 3)) && decide (a = 2) || decide (decode b pc = .ok (.ifCond .ge (v - pc), 3)) && decide (a = 3) || decide (decode b pc = .ok (.ifCond .gt (v - pc), 3)) && decide (a = 4) || decide (decode b pc = .ok (.ifCond .le (v - pc), 3)) && decide (a = 5)) && decide (nx = pc + 3))
def sd_k17 (b : ByteArray) (pc op a : Nat) (v : Int) (nx cp : Nat) : Bool := (decide (op = 17) && decide (decode b pc = .ok (.goto ((nx : Int) - pc), 3)))
def sd_k18 (b : ByteArray) (pc op a : Nat) (v : Int) (nx cp : Nat) : Bool := (decide (op = 18) && decide (decode b pc = .ok ((if sd_st a = true then .invokestatic cp else .invokevirtual cp), 3)) && decide (nx = pc + 3))
def sd_k19 (b : ByteArray) (pc op a : Nat) (v : Int) (nx cp : Nat) : Bool := (decide (op = 19) && decide (decode b pc = .ok (.ireturn, 1)))
def sd_k20 (b : ByteArray) (pc op a : Nat) (v : Int) (nx cp : Nat) : Bool := (decide (op = 20) && decide (decode b pc = .ok (.return_, 1)))
def sd_k21 (b : ByteArray) (pc op a : Nat) (v : Int) (nx cp : Nat) : Bool := (decide (op = 21) && decide (decode b pc = .ok (.new cp, 3)) && decide (decode b (pc + 3) = .ok (.dup, 1)) && decide (decode b (pc + 4) = .ok (.invokespecial v.toNat, 3)) && decide (decode b (pc + 7) = .ok (.athrow, 1)))
def sd_k22 (b : ByteArray) (pc op a : Nat) (v : Int) (nx cp : Nat) : Bool := (decide (op = 22) && decide (decode b pc = .ok (.i2l, 1)) && decide (nx = pc + 1))
def sd_k23 (b : ByteArray) (pc op a : Nat) (v : Int) (nx cp : Nat) : Bool := (decide (op = 23) && decide (decode b pc = .ok (.lastore, 1)) && decide (nx = pc + 1))
def sd_k24 (b : ByteArray) (pc op a : Nat) (v : Int) (nx cp : Nat) : Bool := (decide (op = 24) && decide (decode b pc = .ok (.laload, 1)) && decide (nx = pc + 1))
def sd_k25 (b : ByteArray) (pc op a : Nat) (v : Int) (nx cp : Nat) : Bool := (decide (op = 25) && decide (decode b pc = .ok (.lcmp, 1)) && decide (nx = pc + 1))
def sd_k26 (b : ByteArray) (pc op a : Nat) (v : Int) (nx cp : Nat) : Bool := (decide (op = 26) && decide (decode b pc = .ok (.iaload, 1)) && decide (nx = pc + 1))
def sd_k27 (b : ByteArray) (pc op a : Nat) (v : Int) (nx cp : Nat) : Bool := (decide (op = 27) && decide (decode b pc = .ok (.arraylength, 1)) && decide (nx = pc + 1))
def sd_k28 (b : ByteArray) (pc op a : Nat) (v : Int) (nx cp : Nat) : Bool := (decide (op = 28) && decide (pc = 40) && decide (nx = 1500))
def sd_okB (b : ByteArray) (pc op a : Nat) (v : Int) (nx cp : Nat) : Bool := (sd_k0 b pc op a v nx cp || (sd_k1 b pc op a v nx cp || (sd_k2 b pc op a v nx cp || (sd_k3 b pc op a v nx cp || (sd_k4 b pc op a v nx cp || (sd_k5 b pc op a v nx cp || (sd_k6 b pc op a v nx cp || (sd_k7 b pc op a v nx cp || (sd_k8 b pc op a v nx cp || (sd_k9 b pc op a v nx cp || (sd_k10 b pc op a v nx cp || (sd_k11 b pc op a v nx cp || (sd_k12 b pc op a v nx cp || (sd_k13 b pc op a v nx cp || (sd_k14 b pc op a v nx cp || (sd_k15 b pc op a v nx cp || (sd_k16 b pc op a v nx cp || (sd_k17 b pc op a v nx cp || (sd_k18 b pc op a v nx cp || (sd_k19 b pc op a v nx cp || (sd_k20 b pc op a v nx cp || (sd_k21 b pc op a v nx cp || (sd_k22 b pc op a v nx cp || (sd_k23 b pc op a v nx cp || (sd_k24 b pc op a v nx cp || (sd_k25 b pc op a v nx cp || (sd_k26 b pc op a v nx cp || (sd_k27 b pc op a v nx cp || (sd_k28 b pc op a v nx cp)))))))))))))))))))))))))))))
theorem sd_p0 {b : ByteArray} {pc op a : Nat} {v : Int} {nx cp : Nat} (h : sd_k0 b pc op a v nx cp = true) : (op = 0 ∧ ((decode b pc = .ok (.iconst v, 1) ∧ nx = pc + 1 ∧ -128 ≤ v ∧ v ≤ 127) ∨ (decode b pc = .ok (.bipush v, 2) ∧ nx = pc + 2 ∧ -128 ≤ v ∧ v ≤ 127) ∨ (decode b pc = .ok (.sipush v, 3) ∧ nx = pc + 3 ∧ -32768 ≤ v ∧ v ≤ 32767))) := by
  unfold sd_k0 at h
  simpa only [Bool.or_eq_true, Bool.and_eq_true, decide_eq_true_eq, and_assoc, or_assoc] using h
theorem sd_p1 {b : ByteArray} {pc op a : Nat} {v : Int} {nx cp : Nat} (h : sd_k1 b pc op a v nx cp = true) : (op = 1 ∧ ((decode b pc = .ok (.iload_n (sd_f4 a), 1) ∧ nx = pc + 1 ∧ a < 4) ∨ (decode b pc = .ok (.iload a, 2) ∧ nx = pc + 2))) := by
  unfold sd_k1 at h
  simpa only [Bool.or_eq_true, Bool.and_eq_true, decide_eq_true_eq, and_assoc, or_assoc] using h
theorem sd_p2 {b : ByteArray} {pc op a : Nat} {v : Int} {nx cp : Nat} (h : sd_k2 b pc op a v nx cp = true) : (op = 2 ∧ ((decode b pc = .ok (.aload_n (sd_f4 a), 1) ∧ nx = pc + 1 ∧ a < 4) ∨ (decode b pc = .ok (.aload a, 2) ∧ nx = pc + 2))) := by
  unfold sd_k2 at h
  simpa only [Bool.or_eq_true, Bool.and_eq_true, decide_eq_true_eq, and_assoc, or_assoc] using h
theorem sd_p3 {b : ByteArray} {pc op a : Nat} {v : Int} {nx cp : Nat} (h : sd_k3 b pc op a v nx cp = true) : (op = 3 ∧ ((decode b pc = .ok (.istore_n (sd_f4 a), 1) ∧ nx = pc + 1 ∧ a < 4) ∨ (decode b pc = .ok (.istore a, 2) ∧ nx = pc + 2))) := by
  unfold sd_k3 at h
  simpa only [Bool.or_eq_true, Bool.and_eq_true, decide_eq_true_eq, and_assoc, or_assoc] using h
theorem sd_p4 {b : ByteArray} {pc op a : Nat} {v : Int} {nx cp : Nat} (h : sd_k4 b pc op a v nx cp = true) : (op = 4 ∧ ((decode b pc = .ok (.astore_n (sd_f4 a), 1) ∧ nx = pc + 1 ∧ a < 4) ∨ (decode b pc = .ok (.astore a, 2) ∧ nx = pc + 2))) := by
  unfold sd_k4 at h
  simpa only [Bool.or_eq_true, Bool.and_eq_true, decide_eq_true_eq, and_assoc, or_assoc] using h
theorem sd_p5 {b : ByteArray} {pc op a : Nat} {v : Int} {nx cp : Nat} (h : sd_k5 b pc op a v nx cp = true) : (op = 5 ∧ decode b pc = .ok (.iinc a v, 3) ∧ nx = pc + 3 ∧ -128 ≤ v ∧ v ≤ 127) := by
  unfold sd_k5 at h
  simpa only [Bool.or_eq_true, Bool.and_eq_true, decide_eq_true_eq, and_assoc, or_assoc] using h
theorem sd_p6 {b : ByteArray} {pc op a : Nat} {v : Int} {nx cp : Nat} (h : sd_k6 b pc op a v nx cp = true) : (op = 6 ∧ decode b pc = .ok (sd_bin a, 1) ∧ nx = pc + 1 ∧ a ≤ 10) := by
  unfold sd_k6 at h
  simpa only [Bool.or_eq_true, Bool.and_eq_true, decide_eq_true_eq, and_assoc, or_assoc] using h
theorem sd_p7 {b : ByteArray} {pc op a : Nat} {v : Int} {nx cp : Nat} (h : sd_k7 b pc op a v nx cp = true) : (op = 7 ∧ decode b pc = .ok (.ineg, 1) ∧ nx = pc + 1) := by
  unfold sd_k7 at h
  simpa only [Bool.or_eq_true, Bool.and_eq_true, decide_eq_true_eq, and_assoc, or_assoc] using h
theorem sd_p8 {b : ByteArray} {pc op a : Nat} {v : Int} {nx cp : Nat} (h : sd_k8 b pc op a v nx cp = true) : (op = 8 ∧ decode b pc = .ok (.dup, 1) ∧ nx = pc + 1) := by
  unfold sd_k8 at h
  simpa only [Bool.or_eq_true, Bool.and_eq_true, decide_eq_true_eq, and_assoc, or_assoc] using h
theorem sd_p9 {b : ByteArray} {pc op a : Nat} {v : Int} {nx cp : Nat} (h : sd_k9 b pc op a v nx cp = true) : (op = 9 ∧ decode b pc = .ok (.dup2, 1) ∧ nx = pc + 1) := by
  unfold sd_k9 at h
  simpa only [Bool.or_eq_true, Bool.and_eq_true, decide_eq_true_eq, and_assoc, or_assoc] using h
theorem sd_p10 {b : ByteArray} {pc op a : Nat} {v : Int} {nx cp : Nat} (h : sd_k10 b pc op a v nx cp = true) : (op = 10 ∧ decode b pc = .ok ((if a = 0 then .iaload else .baload), 1) ∧ nx = pc + 1) := by
  unfold sd_k10 at h
  simpa only [Bool.or_eq_true, Bool.and_eq_true, decide_eq_true_eq, and_assoc, or_assoc] using h
theorem sd_p11 {b : ByteArray} {pc op a : Nat} {v : Int} {nx cp : Nat} (h : sd_k11 b pc op a v nx cp = true) : (op = 11 ∧ decode b pc = .ok ((if a = 0 then .iastore else .bastore), 1) ∧ nx = pc + 1) := by
  unfold sd_k11 at h
  simpa only [Bool.or_eq_true, Bool.and_eq_true, decide_eq_true_eq, and_assoc, or_assoc] using h
theorem sd_p12 {b : ByteArray} {pc op a : Nat} {v : Int} {nx cp : Nat} (h : sd_k12 b pc op a v nx cp = true) : (op = 12 ∧ decode b pc = .ok (.getfield cp, 3) ∧ nx = pc + 3) := by
  unfold sd_k12 at h
  simpa only [Bool.or_eq_true, Bool.and_eq_true, decide_eq_true_eq, and_assoc, or_assoc] using h
theorem sd_p13 {b : ByteArray} {pc op a : Nat} {v : Int} {nx cp : Nat} (h : sd_k13 b pc op a v nx cp = true) : (op = 13 ∧ decode b pc = .ok (.getfield cp, 3) ∧ nx = pc + 3) := by
  unfold sd_k13 at h
  simpa only [Bool.or_eq_true, Bool.and_eq_true, decide_eq_true_eq, and_assoc, or_assoc] using h
theorem sd_p14 {b : ByteArray} {pc op a : Nat} {v : Int} {nx cp : Nat} (h : sd_k14 b pc op a v nx cp = true) : (op = 14 ∧ decode b pc = .ok (.putfield cp, 3) ∧ nx = pc + 3) := by
  unfold sd_k14 at h
  simpa only [Bool.or_eq_true, Bool.and_eq_true, decide_eq_true_eq, and_assoc, or_assoc] using h
theorem sd_p15 {b : ByteArray} {pc op a : Nat} {v : Int} {nx cp : Nat} (h : sd_k15 b pc op a v nx cp = true) : (op = 15 ∧ (decode b pc = .ok (.if_icmp .eq (v - pc), 3) ∧ a = 0 ∨ decode b pc = .ok (.if_icmp .ne (v - pc), 3) ∧ a = 1 ∨ decode b pc = .ok (.if_icmp .lt (v - pc), 3) ∧ a = 2 ∨ decode b pc = .ok (.if_icmp .ge (v - pc), 3) ∧ a = 3 ∨ decode b pc = .ok (.if_icmp .gt (v - pc), 3) ∧ a = 4 ∨ decode b pc = .ok (.if_icmp .le (v - pc), 3) ∧ a = 5) ∧ nx = pc + 3) := by
  unfold sd_k15 at h
  simpa only [Bool.or_eq_true, Bool.and_eq_true, decide_eq_true_eq, and_assoc, or_assoc] using h
theorem sd_p16 {b : ByteArray} {pc op a : Nat} {v : Int} {nx cp : Nat} (h : sd_k16 b pc op a v nx cp = true) : (op = 16 ∧ (decode b pc = .ok (.ifCond .eq (v - pc), 3) ∧ a = 0 ∨ decode b pc = .ok (.ifCond .ne (v - pc), 3) ∧ a = 1 ∨ decode b pc = .ok (.ifCond .lt (v - pc), 3) ∧ a = 2 ∨ decode b pc = .ok (.ifCond .ge (v - pc), 3) ∧ a = 3 ∨ decode b pc = .ok (.ifCond .gt (v - pc), 3) ∧ a = 4 ∨ decode b pc = .ok (.ifCond .le (v - pc), 3) ∧ a = 5) ∧ nx = pc + 3) := by
  unfold sd_k16 at h
  simpa only [Bool.or_eq_true, Bool.and_eq_true, decide_eq_true_eq, and_assoc, or_assoc] using h
theorem sd_p17 {b : ByteArray} {pc op a : Nat} {v : Int} {nx cp : Nat} (h : sd_k17 b pc op a v nx cp = true) : (op = 17 ∧ decode b pc = .ok (.goto ((nx : Int) - pc), 3)) := by
  unfold sd_k17 at h
  simpa only [Bool.or_eq_true, Bool.and_eq_true, decide_eq_true_eq, and_assoc, or_assoc] using h
theorem sd_p18 {b : ByteArray} {pc op a : Nat} {v : Int} {nx cp : Nat} (h : sd_k18 b pc op a v nx cp = true) : (op = 18 ∧ decode b pc = .ok ((if sd_st a = true then .invokestatic cp else .invokevirtual cp), 3) ∧ nx = pc + 3) := by
  unfold sd_k18 at h
  simpa only [Bool.or_eq_true, Bool.and_eq_true, decide_eq_true_eq, and_assoc, or_assoc] using h
theorem sd_p19 {b : ByteArray} {pc op a : Nat} {v : Int} {nx cp : Nat} (h : sd_k19 b pc op a v nx cp = true) : (op = 19 ∧ decode b pc = .ok (.ireturn, 1)) := by
  unfold sd_k19 at h
  simpa only [Bool.or_eq_true, Bool.and_eq_true, decide_eq_true_eq, and_assoc, or_assoc] using h
theorem sd_p20 {b : ByteArray} {pc op a : Nat} {v : Int} {nx cp : Nat} (h : sd_k20 b pc op a v nx cp = true) : (op = 20 ∧ decode b pc = .ok (.return_, 1)) := by
  unfold sd_k20 at h
  simpa only [Bool.or_eq_true, Bool.and_eq_true, decide_eq_true_eq, and_assoc, or_assoc] using h
theorem sd_p21 {b : ByteArray} {pc op a : Nat} {v : Int} {nx cp : Nat} (h : sd_k21 b pc op a v nx cp = true) : (op = 21 ∧ decode b pc = .ok (.new cp, 3) ∧ decode b (pc + 3) = .ok (.dup, 1) ∧ decode b (pc + 4) = .ok (.invokespecial v.toNat, 3) ∧ decode b (pc + 7) = .ok (.athrow, 1)) := by
  unfold sd_k21 at h
  simpa only [Bool.or_eq_true, Bool.and_eq_true, decide_eq_true_eq, and_assoc, or_assoc] using h
theorem sd_p22 {b : ByteArray} {pc op a : Nat} {v : Int} {nx cp : Nat} (h : sd_k22 b pc op a v nx cp = true) : (op = 22 ∧ decode b pc = .ok (.i2l, 1) ∧ nx = pc + 1) := by
  unfold sd_k22 at h
  simpa only [Bool.or_eq_true, Bool.and_eq_true, decide_eq_true_eq, and_assoc, or_assoc] using h
theorem sd_p23 {b : ByteArray} {pc op a : Nat} {v : Int} {nx cp : Nat} (h : sd_k23 b pc op a v nx cp = true) : (op = 23 ∧ decode b pc = .ok (.lastore, 1) ∧ nx = pc + 1) := by
  unfold sd_k23 at h
  simpa only [Bool.or_eq_true, Bool.and_eq_true, decide_eq_true_eq, and_assoc, or_assoc] using h
theorem sd_p24 {b : ByteArray} {pc op a : Nat} {v : Int} {nx cp : Nat} (h : sd_k24 b pc op a v nx cp = true) : (op = 24 ∧ decode b pc = .ok (.laload, 1) ∧ nx = pc + 1) := by
  unfold sd_k24 at h
  simpa only [Bool.or_eq_true, Bool.and_eq_true, decide_eq_true_eq, and_assoc, or_assoc] using h
theorem sd_p25 {b : ByteArray} {pc op a : Nat} {v : Int} {nx cp : Nat} (h : sd_k25 b pc op a v nx cp = true) : (op = 25 ∧ decode b pc = .ok (.lcmp, 1) ∧ nx = pc + 1) := by
  unfold sd_k25 at h
  simpa only [Bool.or_eq_true, Bool.and_eq_true, decide_eq_true_eq, and_assoc, or_assoc] using h
theorem sd_p26 {b : ByteArray} {pc op a : Nat} {v : Int} {nx cp : Nat} (h : sd_k26 b pc op a v nx cp = true) : (op = 26 ∧ decode b pc = .ok (.iaload, 1) ∧ nx = pc + 1) := by
  unfold sd_k26 at h
  simpa only [Bool.or_eq_true, Bool.and_eq_true, decide_eq_true_eq, and_assoc, or_assoc] using h
theorem sd_p27 {b : ByteArray} {pc op a : Nat} {v : Int} {nx cp : Nat} (h : sd_k27 b pc op a v nx cp = true) : (op = 27 ∧ decode b pc = .ok (.arraylength, 1) ∧ nx = pc + 1) := by
  unfold sd_k27 at h
  simpa only [Bool.or_eq_true, Bool.and_eq_true, decide_eq_true_eq, and_assoc, or_assoc] using h
theorem sd_p28 {b : ByteArray} {pc op a : Nat} {v : Int} {nx cp : Nat} (h : sd_k28 b pc op a v nx cp = true) : (op = 28 ∧ pc = 40 ∧ nx = 1500) := by
  unfold sd_k28 at h
  simpa only [Bool.or_eq_true, Bool.and_eq_true, decide_eq_true_eq, and_assoc, or_assoc] using h
theorem sd_okP {b : ByteArray} {pc op a : Nat} {v : Int} {nx cp : Nat} (h : sd_okB b pc op a v nx cp = true) : sd_ok b pc op a v nx cp := by
  unfold sd_okB at h
  unfold sd_ok
  simp only [Bool.or_eq_true] at h
  refine Or.imp sd_p0 (fun h => ?_) h
  refine Or.imp sd_p1 (fun h => ?_) h
  refine Or.imp sd_p2 (fun h => ?_) h
  refine Or.imp sd_p3 (fun h => ?_) h
  refine Or.imp sd_p4 (fun h => ?_) h
  refine Or.imp sd_p5 (fun h => ?_) h
  refine Or.imp sd_p6 (fun h => ?_) h
  refine Or.imp sd_p7 (fun h => ?_) h
  refine Or.imp sd_p8 (fun h => ?_) h
  refine Or.imp sd_p9 (fun h => ?_) h
  refine Or.imp sd_p10 (fun h => ?_) h
  refine Or.imp sd_p11 (fun h => ?_) h
  refine Or.imp sd_p12 (fun h => ?_) h
  refine Or.imp sd_p13 (fun h => ?_) h
  refine Or.imp sd_p14 (fun h => ?_) h
  refine Or.imp sd_p15 (fun h => ?_) h
  refine Or.imp sd_p16 (fun h => ?_) h
  refine Or.imp sd_p17 (fun h => ?_) h
  refine Or.imp sd_p18 (fun h => ?_) h
  refine Or.imp sd_p19 (fun h => ?_) h
  refine Or.imp sd_p20 (fun h => ?_) h
  refine Or.imp sd_p21 (fun h => ?_) h
  refine Or.imp sd_p22 (fun h => ?_) h
  refine Or.imp sd_p23 (fun h => ?_) h
  refine Or.imp sd_p24 (fun h => ?_) h
  refine Or.imp sd_p25 (fun h => ?_) h
  refine Or.imp sd_p26 (fun h => ?_) h
  refine Or.imp sd_p27 (fun h => ?_) h
  exact sd_p28 h
def sd_ck1 (i pc : Nat) : Bool := match qa_code i pc with
  | some q => sd_okB (sd_b i) pc q.1 q.2.1 q.2.2.1 q.2.2.2.1 q.2.2.2.2
  | none => true
theorem sd_ck_0 : (List.range 23).all (sd_ck1 0) = true := by decide +kernel
theorem sd_ck_1 : (List.range 11).all (sd_ck1 1) = true := by decide +kernel
theorem sd_ck_2 : (List.range 8).all (sd_ck1 2) = true := by decide +kernel
theorem sd_ck_3 : (List.range 5).all (sd_ck1 3) = true := by decide +kernel
theorem sd_ck_4 : (List.range 7).all (sd_ck1 4) = true := by decide +kernel
theorem sd_ck_5 : (List.range 11).all (sd_ck1 5) = true := by decide +kernel
theorem sd_ck_6 : (List.range 7).all (sd_ck1 6) = true := by decide +kernel
theorem sd_ck_7 : (List.range 9).all (sd_ck1 7) = true := by decide +kernel
theorem sd_ck_8 : (List.range 7).all (sd_ck1 8) = true := by decide +kernel
theorem sd_ck_9 : (List.range 28).all (sd_ck1 9) = true := by decide +kernel
theorem sd_ck_10 : (List.range 10).all (sd_ck1 10) = true := by decide +kernel
theorem sd_ck_11 : (List.range 30).all (sd_ck1 11) = true := by decide +kernel
theorem sd_ck_12 : (List.range 55).all (sd_ck1 12) = true := by decide +kernel
theorem sd_ck_13 : (List.range 18).all (sd_ck1 13) = true := by decide +kernel
theorem sd_ck_14 : (List.range 35).all (sd_ck1 14) = true := by decide +kernel
theorem sd_ck_15 : (List.range 35).all (sd_ck1 15) = true := by decide +kernel
theorem sd_ck_16 : (List.range 49).all (sd_ck1 16) = true := by decide +kernel
theorem sd_ck_17 : (List.range 5).all (sd_ck1 17) = true := by decide +kernel
theorem sd_ck_18 : (List.range 5).all (sd_ck1 18) = true := by decide +kernel
theorem sd_ck_19 : (List.range 7).all (sd_ck1 19) = true := by decide +kernel
theorem sd_ck_20 : (List.range 15).all (sd_ck1 20) = true := by decide +kernel
theorem sd_ck_21 : (List.range 82).all (sd_ck1 21) = true := by decide +kernel
theorem sd_ck_22 : (List.range 72).all (sd_ck1 22) = true := by decide +kernel
theorem sd_ck_23 : (List.range 57).all (sd_ck1 23) = true := by decide +kernel
theorem sd_ck_24 : (List.range 37).all (sd_ck1 24) = true := by decide +kernel
theorem sd_ck_25 : (List.range 5).all (sd_ck1 25) = true := by decide +kernel
theorem sd_ck_26 : (List.range 5).all (sd_ck1 26) = true := by decide +kernel
theorem sd_ck_27 : (List.range 5).all (sd_ck1 27) = true := by decide +kernel
theorem sd_ck_28 : (List.range 25).all (sd_ck1 28) = true := by decide +kernel
theorem sd_ck_29 : (List.range 24).all (sd_ck1 29) = true := by decide +kernel
theorem sd_ck_30 : (List.range 31).all (sd_ck1 30) = true := by decide +kernel
theorem sd_ck_31 : (List.range 73).all (sd_ck1 31) = true := by decide +kernel
theorem sd_ck_32 : (List.range 29).all (sd_ck1 32) = true := by decide +kernel
theorem sd_ck_33 : (List.range 74).all (sd_ck1 33) = true := by decide +kernel
theorem sd_ck_34 : (List.range 73).all (sd_ck1 34) = true := by decide +kernel
theorem sd_ck_35 : (List.range 48).all (sd_ck1 35) = true := by decide +kernel
theorem sd_ck_36 : (List.range 50).all (sd_ck1 36) = true := by decide +kernel
theorem sd_ck_37 : (List.range 19).all (sd_ck1 37) = true := by decide +kernel
theorem sd_ck_38 : (List.range 5).all (sd_ck1 38) = true := by decide +kernel
theorem sd_ck_39 : (List.range 7).all (sd_ck1 39) = true := by decide +kernel
theorem sd_ck_40 : (List.range 12).all (sd_ck1 40) = true := by decide +kernel
theorem sd_ck_41 : (List.range 30).all (sd_ck1 41) = true := by decide +kernel
theorem sd_ck_42 : (List.range 43).all (sd_ck1 42) = true := by decide +kernel
theorem sd_ck_43 : (List.range 8).all (sd_ck1 43) = true := by decide +kernel
theorem sd_ck_44 : (List.range 9).all (sd_ck1 44) = true := by decide +kernel
theorem sd_ck_45 : (List.range 13).all (sd_ck1 45) = true := by decide +kernel
theorem sd_ck_46 : (List.range 23).all (sd_ck1 46) = true := by decide +kernel
theorem sd_ck_47 : (List.range 18).all (sd_ck1 47) = true := by decide +kernel
theorem sd_ck_48 : (List.range 12).all (sd_ck1 48) = true := by decide +kernel
theorem sd_ck_49 : (List.range 34).all (sd_ck1 49) = true := by decide +kernel
theorem sd_ck_50 : (List.range 118).all (sd_ck1 50) = true := by decide +kernel
theorem sd_ck_51 : (List.range 132).all (sd_ck1 51) = true := by decide +kernel
theorem sd_ck_52 : (List.range 18).all (sd_ck1 52) = true := by decide +kernel
theorem sd_ck_53 : (List.range 18).all (sd_ck1 53) = true := by decide +kernel
theorem sd_ck_54 : (List.range 80).all (sd_ck1 54) = true := by decide +kernel
theorem sd_ck_55 : (List.range 148).all (sd_ck1 55) = true := by decide +kernel
theorem sd_ck_56 : (List.range 64).all (sd_ck1 56) = true := by decide +kernel
theorem sd_ck_57 : (List.range 7).all (sd_ck1 57) = true := by decide +kernel
theorem sd_ck_58 : (List.range 16).all (sd_ck1 58) = true := by decide +kernel
theorem sd_ck_59 : (List.range 51).all (sd_ck1 59) = true := by decide +kernel
theorem sd_ck_60 : (List.range 44).all (sd_ck1 60) = true := by decide +kernel
theorem sd_ck_61 : (List.range 31).all (sd_ck1 61) = true := by decide +kernel
theorem sd_ck_62 : (List.range 39).all (sd_ck1 62) = true := by decide +kernel
theorem sd_ck_63 : (List.range 55).all (sd_ck1 63) = true := by decide +kernel
theorem sd_ck_64 : (List.range 5).all (sd_ck1 64) = true := by decide +kernel
theorem sd_ck_65 : (List.range 15).all (sd_ck1 65) = true := by decide +kernel
theorem sd_ck_66 : (List.range 16).all (sd_ck1 66) = true := by decide +kernel
theorem sd_ck_67 : (List.range 12).all (sd_ck1 67) = true := by decide +kernel
theorem sd_ck_68 : (List.range 8).all (sd_ck1 68) = true := by decide +kernel
theorem sd_ck_69 : (List.range 30).all (sd_ck1 69) = true := by decide +kernel
theorem sd_ck_70 : (List.range 11).all (sd_ck1 70) = true := by decide +kernel
theorem sd_ck_71 : (List.range 137).all (sd_ck1 71) = true := by decide +kernel
theorem sd_ck_72 : (List.range 32).all (sd_ck1 72) = true := by decide +kernel
theorem sd_ck_73 : (List.range 36).all (sd_ck1 73) = true := by decide +kernel
theorem sd_ck_74 : (List.range 18).all (sd_ck1 74) = true := by decide +kernel
theorem sd_ck_75 : (List.range 119).all (sd_ck1 75) = true := by decide +kernel
theorem sd_ck_76 : (List.range 83).all (sd_ck1 76) = true := by decide +kernel
theorem sd_ck_77 : (List.range 43).all (sd_ck1 77) = true := by decide +kernel
theorem sd_ck_78 : (List.range 204).all (sd_ck1 78) = true := by decide +kernel
theorem sd_ck_79 : (List.range 86).all (sd_ck1 79) = true := by decide +kernel
theorem sd_ck_80 : (List.range 34).all (sd_ck1 80) = true := by decide +kernel
theorem sd_ck_81 : (List.range 113).all (sd_ck1 81) = true := by decide +kernel
theorem sd_ck_82 : (List.range 69).all (sd_ck1 82) = true := by decide +kernel
theorem sd_ck_83 : (List.range 38).all (sd_ck1 83) = true := by decide +kernel
theorem sd_ck_84 : (List.range 33).all (sd_ck1 84) = true := by decide +kernel
theorem sd_ck_85 : (List.range 159).all (sd_ck1 85) = true := by decide +kernel
theorem sd_ck_86 : (List.range 142).all (sd_ck1 86) = true := by decide +kernel
theorem sd_ck_87 : (List.range 29).all (sd_ck1 87) = true := by decide +kernel
theorem sd_ck_88 : (List.range 38).all (sd_ck1 88) = true := by decide +kernel
theorem sd_ck_89 : (List.range 153).all (sd_ck1 89) = true := by decide +kernel
theorem sd_ck_90 : (List.range 89).all (sd_ck1 90) = true := by decide +kernel
theorem sd_ck_91 : (List.range 61).all (sd_ck1 91) = true := by decide +kernel
theorem sd_ck_92 : (List.range 29).all (sd_ck1 92) = true := by decide +kernel
theorem sd_ck_93 : (List.range 49).all (sd_ck1 93) = true := by decide +kernel
theorem sd_ck_94 : (List.range 63).all (sd_ck1 94) = true := by decide +kernel
theorem sd_ck_95 : (List.range 10).all (sd_ck1 95) = true := by decide +kernel
theorem sd_ck_96 : (List.range 10).all (sd_ck1 96) = true := by decide +kernel
theorem sd_ck_97 : (List.range 62).all (sd_ck1 97) = true := by decide +kernel
theorem sd_ck_98 : (List.range 94).all (sd_ck1 98) = true := by decide +kernel
theorem sd_ck_99 : (List.range 58).all (sd_ck1 99) = true := by decide +kernel
theorem sd_ck_100 : (List.range 55).all (sd_ck1 100) = true := by decide +kernel
theorem sd_ck_101 : (List.range 29).all (sd_ck1 101) = true := by decide +kernel
theorem sd_ck_102 : (List.range 203).all (sd_ck1 102) = true := by decide +kernel
theorem sd_ck_103 : (List.range 68).all (sd_ck1 103) = true := by decide +kernel
theorem sd_ck_104 : (List.range 57).all (sd_ck1 104) = true := by decide +kernel
theorem sd_ck_105 : (List.range 37).all (sd_ck1 105) = true := by decide +kernel
theorem sd_ck_106 : (List.range 61).all (sd_ck1 106) = true := by decide +kernel
theorem sd_ck_107 : (List.range 31).all (sd_ck1 107) = true := by decide +kernel
theorem sd_ck_108 : (List.range 55).all (sd_ck1 108) = true := by decide +kernel
theorem sd_ck_109 : (List.range 64).all (sd_ck1 109) = true := by decide +kernel
theorem sd_ck_110 : (List.range 33).all (sd_ck1 110) = true := by decide +kernel
theorem sd_ck_111 : (List.range 100).all (sd_ck1 111) = true := by decide +kernel
theorem sd_ck_112 : (List.range 160).all (sd_ck1 112) = true := by decide +kernel
theorem sd_ck_113 : (List.range 74).all (sd_ck1 113) = true := by decide +kernel
theorem sd_ck_114 : (List.range 27).all (sd_ck1 114) = true := by decide +kernel
theorem sd_ck_115 : (List.range 44).all (sd_ck1 115) = true := by decide +kernel
theorem sd_ck_116 : (List.range 26).all (sd_ck1 116) = true := by decide +kernel
theorem sd_ck_117 : (List.range 36).all (sd_ck1 117) = true := by decide +kernel
theorem sd_ck_118 : (List.range 16).all (sd_ck1 118) = true := by decide +kernel
theorem sd_ck_119 : (List.range 88).all (sd_ck1 119) = true := by decide +kernel
theorem sd_ck_120 : (List.range 33).all (sd_ck1 120) = true := by decide +kernel
theorem sd_ck_121 : (List.range 26).all (sd_ck1 121) = true := by decide +kernel
theorem sd_ck_122 : (List.range 34).all (sd_ck1 122) = true := by decide +kernel
theorem sd_ck_123 : (List.range 8).all (sd_ck1 123) = true := by decide +kernel
theorem sd_ck_124 : (List.range 12).all (sd_ck1 124) = true := by decide +kernel
theorem sd_ck_125 : (List.range 37).all (sd_ck1 125) = true := by decide +kernel
theorem sd_ck_126 : (List.range 58).all (sd_ck1 126) = true := by decide +kernel
theorem sd_ck_127 : (List.range 31).all (sd_ck1 127) = true := by decide +kernel
theorem sd_ck_128 : (List.range 26).all (sd_ck1 128) = true := by decide +kernel
theorem sd_ck_129 : (List.range 23).all (sd_ck1 129) = true := by decide +kernel
theorem sd_ck_130 : (List.range 15).all (sd_ck1 130) = true := by decide +kernel
theorem sd_ck_131 : (List.range 68).all (sd_ck1 131) = true := by decide +kernel
theorem sd_ck_132 : (List.range 33).all (sd_ck1 132) = true := by decide +kernel
theorem sd_ck_133 : (List.range 47).all (sd_ck1 133) = true := by decide +kernel
theorem sd_ck_134 : (List.range 40).all (sd_ck1 134) = true := by decide +kernel
theorem sd_ck_135 : (List.range 13).all (sd_ck1 135) = true := by decide +kernel
theorem sd_ck_136 : (List.range 13).all (sd_ck1 136) = true := by decide +kernel
theorem sd_ck_137 : (List.range 13).all (sd_ck1 137) = true := by decide +kernel
theorem sd_ck_138 : (List.range 16).all (sd_ck1 138) = true := by decide +kernel
theorem sd_ck_139 : (List.range 8).all (sd_ck1 139) = true := by decide +kernel
theorem sd_ck_140 : (List.range 6).all (sd_ck1 140) = true := by decide +kernel
theorem sd_ck_141 : (List.range 29).all (sd_ck1 141) = true := by decide +kernel
theorem sd_ck_142 : (List.range 35).all (sd_ck1 142) = true := by decide +kernel
theorem sd_ck_143 : (List.range 21).all (sd_ck1 143) = true := by decide +kernel
theorem sd_ck_144 : (List.range 21).all (sd_ck1 144) = true := by decide +kernel
theorem sd_ck_145 : (List.range 21).all (sd_ck1 145) = true := by decide +kernel
theorem sd_ck_146 : (List.range 17).all (sd_ck1 146) = true := by decide +kernel
theorem sd_ck_147 : (List.range 19).all (sd_ck1 147) = true := by decide +kernel
theorem sd_ck_148 : (List.range 17).all (sd_ck1 148) = true := by decide +kernel
theorem sd_ck_149 : (List.range 29).all (sd_ck1 149) = true := by decide +kernel
theorem sd_ck_150 : (List.range 17).all (sd_ck1 150) = true := by decide +kernel
theorem sd_ck_151 : (List.range 17).all (sd_ck1 151) = true := by decide +kernel
theorem sd_ck_152 : (List.range 17).all (sd_ck1 152) = true := by decide +kernel
theorem sd_ck_153 : (List.range 20).all (sd_ck1 153) = true := by decide +kernel
theorem sd_ck_154 : (List.range 23).all (sd_ck1 154) = true := by decide +kernel
theorem sd_ck_155 : (List.range 17).all (sd_ck1 155) = true := by decide +kernel
theorem sd_ck_156 : (List.range 17).all (sd_ck1 156) = true := by decide +kernel
theorem sd_ck_157 : (List.range 17).all (sd_ck1 157) = true := by decide +kernel
theorem sd_ck_158 : (List.range 17).all (sd_ck1 158) = true := by decide +kernel
theorem sd_ck_159 : (List.range 16).all (sd_ck1 159) = true := by decide +kernel
theorem sd_ck_160 : (List.range 17).all (sd_ck1 160) = true := by decide +kernel
