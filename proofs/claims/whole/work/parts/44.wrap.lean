/-! the law's own wrappers -/
theorem K_Law_bone0 {p0 p1 p2 v : Int} {M M1 : qa_Mem} (h : qa_E 111 0 [(0, qr 0), (1, qi (p0)), (2, qi (p1)), (3, qi (p2))] [] (M) (.inl (some (qi (v)))) (M1)) : qa_E 141 0 [(0, qr (0)), (1, qi (p0)), (2, qi (p1)), (3, qi (p2)), (4, qr (7))] [] (M) (.inl (some (qi (0)))) (qa_upd M1 7 0 v) := by
  refine R_aload cd_141_0 rfl ?_
  refine R_push cd_141_2 ?_
  refine R_aload cd_141_3 rfl ?_
  refine R_iload cd_141_4 rfl ?_
  refine R_iload cd_141_5 rfl ?_
  refine R_iload cd_141_6 rfl ?_
  refine R_call4 cd_141_7 rfl rfl h ?_
  refine R_i2l cd_141_10 ?_
  refine R_last cd_141_11 rfl (by decide) (by decide) ?_
  refine R_goto cd_141_12 ?_
  refine R_push cd_141_27 ?_
  exact R_iret cd_141_28 (by first | rfl | omega) rfl
theorem K_Law_boneX1 {p0 p1 p2 : Int} {M M1 : qa_Mem} (h : qa_E 111 0 [(0, qr 0), (1, qi (p0)), (2, qi (p1)), (3, qi (p2))] [] (M) (.inr 1) (M1)) : qa_E 141 0 [(0, qr (0)), (1, qi (p0)), (2, qi (p1)), (3, qi (p2)), (4, qr (7))] [] (M) (.inl (some (qi (1)))) (M1) := by
  refine R_aload cd_141_0 rfl ?_
  refine R_push cd_141_2 ?_
  refine R_aload cd_141_3 rfl ?_
  refine R_iload cd_141_4 rfl ?_
  refine R_iload cd_141_5 rfl ?_
  refine R_iload cd_141_6 rfl ?_
  refine R_callc4 cd_141_7 rfl rfl rfl h ?_
  refine R_astore cd_141_15 ?_
  refine R_push cd_141_17 ?_
  exact R_iret cd_141_18 (by first | rfl | omega) rfl
theorem K_Law_boneX2 {p0 p1 p2 : Int} {M M1 : qa_Mem} (h : qa_E 111 0 [(0, qr 0), (1, qi (p0)), (2, qi (p1)), (3, qi (p2))] [] (M) (.inr 2) (M1)) : qa_E 141 0 [(0, qr (0)), (1, qi (p0)), (2, qi (p1)), (3, qi (p2)), (4, qr (7))] [] (M) (.inl (some (qi (2)))) (M1) := by
  refine R_aload cd_141_0 rfl ?_
  refine R_push cd_141_2 ?_
  refine R_aload cd_141_3 rfl ?_
  refine R_iload cd_141_4 rfl ?_
  refine R_iload cd_141_5 rfl ?_
  refine R_iload cd_141_6 rfl ?_
  refine R_callc4 cd_141_7 rfl rfl rfl h ?_
  refine R_astore cd_141_19 ?_
  refine R_push cd_141_21 ?_
  exact R_iret cd_141_22 (by first | rfl | omega) rfl
theorem K_Law_boneX3 {p0 p1 p2 : Int} {M M1 : qa_Mem} (h : qa_E 111 0 [(0, qr 0), (1, qi (p0)), (2, qi (p1)), (3, qi (p2))] [] (M) (.inr 3) (M1)) : qa_E 141 0 [(0, qr (0)), (1, qi (p0)), (2, qi (p1)), (3, qi (p2)), (4, qr (7))] [] (M) (.inl (some (qi (3)))) (M1) := by
  refine R_aload cd_141_0 rfl ?_
  refine R_push cd_141_2 ?_
  refine R_aload cd_141_3 rfl ?_
  refine R_iload cd_141_4 rfl ?_
  refine R_iload cd_141_5 rfl ?_
  refine R_iload cd_141_6 rfl ?_
  refine R_callc4 cd_141_7 rfl rfl rfl h ?_
  refine R_astore cd_141_23 ?_
  refine R_push cd_141_25 ?_
  exact R_iret cd_141_26 (by first | rfl | omega) rfl
theorem K_Law_key0 {p0 p1 p2 p3 p4 p5 v : Int} {M M1 : qa_Mem} (h : qa_E 112 0 [(0, qr 0), (1, qi (p0)), (2, qi (p1)), (3, qi (p2)), (4, qi (p3)), (5, qi (p4)), (6, qi (p5))] [] (M) (.inl (some (qi (v)))) (M1)) : qa_E 142 0 [(0, qr (0)), (1, qi (p0)), (2, qi (p1)), (3, qi (p2)), (4, qi (p3)), (5, qi (p4)), (6, qi (p5)), (7, qr (7))] [] (M) (.inl (some (qi (0)))) (qa_upd M1 7 0 v) := by
  refine R_aload cd_142_0 rfl ?_
  refine R_push cd_142_2 ?_
  refine R_aload cd_142_3 rfl ?_
  refine R_iload cd_142_4 rfl ?_
  refine R_iload cd_142_5 rfl ?_
  refine R_iload cd_142_6 rfl ?_
  refine R_iload cd_142_7 rfl ?_
  refine R_iload cd_142_9 rfl ?_
  refine R_iload cd_142_11 rfl ?_
  refine R_call7 cd_142_13 rfl rfl h ?_
  refine R_i2l cd_142_16 ?_
  refine R_last cd_142_17 rfl (by decide) (by decide) ?_
  refine R_goto cd_142_18 ?_
  refine R_push cd_142_33 ?_
  exact R_iret cd_142_34 (by first | rfl | omega) rfl
theorem K_Law_keyX1 {p0 p1 p2 p3 p4 p5 : Int} {M M1 : qa_Mem} (h : qa_E 112 0 [(0, qr 0), (1, qi (p0)), (2, qi (p1)), (3, qi (p2)), (4, qi (p3)), (5, qi (p4)), (6, qi (p5))] [] (M) (.inr 1) (M1)) : qa_E 142 0 [(0, qr (0)), (1, qi (p0)), (2, qi (p1)), (3, qi (p2)), (4, qi (p3)), (5, qi (p4)), (6, qi (p5)), (7, qr (7))] [] (M) (.inl (some (qi (1)))) (M1) := by
  refine R_aload cd_142_0 rfl ?_
  refine R_push cd_142_2 ?_
  refine R_aload cd_142_3 rfl ?_
  refine R_iload cd_142_4 rfl ?_
  refine R_iload cd_142_5 rfl ?_
  refine R_iload cd_142_6 rfl ?_
  refine R_iload cd_142_7 rfl ?_
  refine R_iload cd_142_9 rfl ?_
  refine R_iload cd_142_11 rfl ?_
  refine R_callc7 cd_142_13 rfl rfl rfl h ?_
  refine R_astore cd_142_21 ?_
  refine R_push cd_142_23 ?_
  exact R_iret cd_142_24 (by first | rfl | omega) rfl
theorem K_Law_keyX2 {p0 p1 p2 p3 p4 p5 : Int} {M M1 : qa_Mem} (h : qa_E 112 0 [(0, qr 0), (1, qi (p0)), (2, qi (p1)), (3, qi (p2)), (4, qi (p3)), (5, qi (p4)), (6, qi (p5))] [] (M) (.inr 2) (M1)) : qa_E 142 0 [(0, qr (0)), (1, qi (p0)), (2, qi (p1)), (3, qi (p2)), (4, qi (p3)), (5, qi (p4)), (6, qi (p5)), (7, qr (7))] [] (M) (.inl (some (qi (2)))) (M1) := by
  refine R_aload cd_142_0 rfl ?_
  refine R_push cd_142_2 ?_
  refine R_aload cd_142_3 rfl ?_
  refine R_iload cd_142_4 rfl ?_
  refine R_iload cd_142_5 rfl ?_
  refine R_iload cd_142_6 rfl ?_
  refine R_iload cd_142_7 rfl ?_
  refine R_iload cd_142_9 rfl ?_
  refine R_iload cd_142_11 rfl ?_
  refine R_callc7 cd_142_13 rfl rfl rfl h ?_
  refine R_astore cd_142_25 ?_
  refine R_push cd_142_27 ?_
  exact R_iret cd_142_28 (by first | rfl | omega) rfl
theorem K_Law_keyX3 {p0 p1 p2 p3 p4 p5 : Int} {M M1 : qa_Mem} (h : qa_E 112 0 [(0, qr 0), (1, qi (p0)), (2, qi (p1)), (3, qi (p2)), (4, qi (p3)), (5, qi (p4)), (6, qi (p5))] [] (M) (.inr 3) (M1)) : qa_E 142 0 [(0, qr (0)), (1, qi (p0)), (2, qi (p1)), (3, qi (p2)), (4, qi (p3)), (5, qi (p4)), (6, qi (p5)), (7, qr (7))] [] (M) (.inl (some (qi (3)))) (M1) := by
  refine R_aload cd_142_0 rfl ?_
  refine R_push cd_142_2 ?_
  refine R_aload cd_142_3 rfl ?_
  refine R_iload cd_142_4 rfl ?_
  refine R_iload cd_142_5 rfl ?_
  refine R_iload cd_142_6 rfl ?_
  refine R_iload cd_142_7 rfl ?_
  refine R_iload cd_142_9 rfl ?_
  refine R_iload cd_142_11 rfl ?_
  refine R_callc7 cd_142_13 rfl rfl rfl h ?_
  refine R_astore cd_142_29 ?_
  refine R_push cd_142_31 ?_
  exact R_iret cd_142_32 (by first | rfl | omega) rfl
theorem K_Law_unkey0 {p0 p1 p2 v : Int} {M M1 : qa_Mem} (h : qa_E 113 0 [(0, qr 0), (1, qi (p0)), (2, qi (p1)), (3, qi (p2))] [] (M) (.inl (some (qi (v)))) (M1)) : qa_E 143 0 [(0, qr (0)), (1, qi (p0)), (2, qi (p1)), (3, qi (p2)), (4, qr (7))] [] (M) (.inl (some (qi (0)))) (qa_upd M1 7 0 v) := by
  refine R_aload cd_143_0 rfl ?_
  refine R_push cd_143_2 ?_
  refine R_aload cd_143_3 rfl ?_
  refine R_iload cd_143_4 rfl ?_
  refine R_iload cd_143_5 rfl ?_
  refine R_iload cd_143_6 rfl ?_
  refine R_call4 cd_143_7 rfl rfl h ?_
  refine R_i2l cd_143_10 ?_
  refine R_last cd_143_11 rfl (by decide) (by decide) ?_
  refine R_goto cd_143_12 ?_
  refine R_push cd_143_19 ?_
  exact R_iret cd_143_20 (by first | rfl | omega) rfl
theorem K_Law_unkeyX1 {p0 p1 p2 : Int} {M M1 : qa_Mem} (h : qa_E 113 0 [(0, qr 0), (1, qi (p0)), (2, qi (p1)), (3, qi (p2))] [] (M) (.inr 1) (M1)) : qa_E 143 0 [(0, qr (0)), (1, qi (p0)), (2, qi (p1)), (3, qi (p2)), (4, qr (7))] [] (M) (.inl (some (qi (1)))) (M1) := by
  refine R_aload cd_143_0 rfl ?_
  refine R_push cd_143_2 ?_
  refine R_aload cd_143_3 rfl ?_
  refine R_iload cd_143_4 rfl ?_
  refine R_iload cd_143_5 rfl ?_
  refine R_iload cd_143_6 rfl ?_
  refine R_callc4 cd_143_7 rfl rfl rfl h ?_
  refine R_astore cd_143_15 ?_
  refine R_push cd_143_17 ?_
  exact R_iret cd_143_18 (by first | rfl | omega) rfl
theorem K_Law_value0 {p0 p1 p2 v : Int} {M M1 : qa_Mem} (h : qa_E 114 0 [(0, qr 0), (1, qi (p0)), (2, qi (p1)), (3, qi (p2))] [] (M) (.inl (some (qi (v)))) (M1)) : qa_E 144 0 [(0, qr (0)), (1, qi (p0)), (2, qi (p1)), (3, qi (p2)), (4, qr (7))] [] (M) (.inl (some (qi (0)))) (qa_upd M1 7 0 v) := by
  refine R_aload cd_144_0 rfl ?_
  refine R_push cd_144_2 ?_
  refine R_aload cd_144_3 rfl ?_
  refine R_iload cd_144_4 rfl ?_
  refine R_iload cd_144_5 rfl ?_
  refine R_iload cd_144_6 rfl ?_
  refine R_call4 cd_144_7 rfl rfl h ?_
  refine R_i2l cd_144_10 ?_
  refine R_last cd_144_11 rfl (by decide) (by decide) ?_
  refine R_goto cd_144_12 ?_
  refine R_push cd_144_19 ?_
  exact R_iret cd_144_20 (by first | rfl | omega) rfl
theorem K_Law_valueX1 {p0 p1 p2 : Int} {M M1 : qa_Mem} (h : qa_E 114 0 [(0, qr 0), (1, qi (p0)), (2, qi (p1)), (3, qi (p2))] [] (M) (.inr 1) (M1)) : qa_E 144 0 [(0, qr (0)), (1, qi (p0)), (2, qi (p1)), (3, qi (p2)), (4, qr (7))] [] (M) (.inl (some (qi (1)))) (M1) := by
  refine R_aload cd_144_0 rfl ?_
  refine R_push cd_144_2 ?_
  refine R_aload cd_144_3 rfl ?_
  refine R_iload cd_144_4 rfl ?_
  refine R_iload cd_144_5 rfl ?_
  refine R_iload cd_144_6 rfl ?_
  refine R_callc4 cd_144_7 rfl rfl rfl h ?_
  refine R_astore cd_144_15 ?_
  refine R_push cd_144_17 ?_
  exact R_iret cd_144_18 (by first | rfl | omega) rfl
theorem K_Law_span0 {p0 p1 p2 v : Int} {M M1 : qa_Mem} (h : qa_E 115 0 [(0, qr 0), (1, qi (p0)), (2, qi (p1)), (3, qi (p2))] [] (M) (.inl (some (qi (v)))) (M1)) : qa_E 145 0 [(0, qr (0)), (1, qi (p0)), (2, qi (p1)), (3, qi (p2)), (4, qr (7))] [] (M) (.inl (some (qi (0)))) (qa_upd M1 7 0 v) := by
  refine R_aload cd_145_0 rfl ?_
  refine R_push cd_145_2 ?_
  refine R_aload cd_145_3 rfl ?_
  refine R_iload cd_145_4 rfl ?_
  refine R_iload cd_145_5 rfl ?_
  refine R_iload cd_145_6 rfl ?_
  refine R_call4 cd_145_7 rfl rfl h ?_
  refine R_i2l cd_145_10 ?_
  refine R_last cd_145_11 rfl (by decide) (by decide) ?_
  refine R_goto cd_145_12 ?_
  refine R_push cd_145_19 ?_
  exact R_iret cd_145_20 (by first | rfl | omega) rfl
theorem K_Law_spanX1 {p0 p1 p2 : Int} {M M1 : qa_Mem} (h : qa_E 115 0 [(0, qr 0), (1, qi (p0)), (2, qi (p1)), (3, qi (p2))] [] (M) (.inr 1) (M1)) : qa_E 145 0 [(0, qr (0)), (1, qi (p0)), (2, qi (p1)), (3, qi (p2)), (4, qr (7))] [] (M) (.inl (some (qi (1)))) (M1) := by
  refine R_aload cd_145_0 rfl ?_
  refine R_push cd_145_2 ?_
  refine R_aload cd_145_3 rfl ?_
  refine R_iload cd_145_4 rfl ?_
  refine R_iload cd_145_5 rfl ?_
  refine R_iload cd_145_6 rfl ?_
  refine R_callc4 cd_145_7 rfl rfl rfl h ?_
  refine R_astore cd_145_15 ?_
  refine R_push cd_145_17 ?_
  exact R_iret cd_145_18 (by first | rfl | omega) rfl
theorem K_Law_keyAt0 {p0 v : Int} {M M1 : qa_Mem} (h : qa_E 116 0 [(0, qr 0), (1, qi (p0))] [] (M) (.inl (some (qi (v)))) (M1)) : qa_E 146 0 [(0, qr (0)), (1, qi (p0)), (2, qr (7))] [] (M) (.inl (some (qi (0)))) (qa_upd M1 7 0 v) := by
  refine R_aload cd_146_0 rfl ?_
  refine R_push cd_146_1 ?_
  refine R_aload cd_146_2 rfl ?_
  refine R_iload cd_146_3 rfl ?_
  refine R_call2 cd_146_4 rfl rfl h ?_
  refine R_i2l cd_146_7 ?_
  refine R_last cd_146_8 rfl (by decide) (by decide) ?_
  refine R_goto cd_146_9 ?_
  refine R_push cd_146_15 ?_
  exact R_iret cd_146_16 (by first | rfl | omega) rfl
theorem K_Law_keyAtX1 {p0 : Int} {M M1 : qa_Mem} (h : qa_E 116 0 [(0, qr 0), (1, qi (p0))] [] (M) (.inr 1) (M1)) : qa_E 146 0 [(0, qr (0)), (1, qi (p0)), (2, qr (7))] [] (M) (.inl (some (qi (1)))) (M1) := by
  refine R_aload cd_146_0 rfl ?_
  refine R_push cd_146_1 ?_
  refine R_aload cd_146_2 rfl ?_
  refine R_iload cd_146_3 rfl ?_
  refine R_callc2 cd_146_4 rfl rfl rfl h ?_
  refine R_astore cd_146_12 ?_
  refine R_push cd_146_13 ?_
  exact R_iret cd_146_14 (by first | rfl | omega) rfl
theorem K_Law_place0 {p0 p1 v : Int} {M M1 : qa_Mem} (h : qa_E 117 0 [(0, qr 0), (1, qi (p0)), (2, qi (p1))] [] (M) (.inl (some (qi (v)))) (M1)) : qa_E 147 0 [(0, qr (0)), (1, qi (p0)), (2, qi (p1)), (3, qr (7))] [] (M) (.inl (some (qi (0)))) (qa_upd M1 7 0 v) := by
  refine R_aload cd_147_0 rfl ?_
  refine R_push cd_147_1 ?_
  refine R_aload cd_147_2 rfl ?_
  refine R_iload cd_147_3 rfl ?_
  refine R_iload cd_147_4 rfl ?_
  refine R_call3 cd_147_5 rfl rfl h ?_
  refine R_i2l cd_147_8 ?_
  refine R_last cd_147_9 rfl (by decide) (by decide) ?_
  refine R_goto cd_147_10 ?_
  refine R_push cd_147_17 ?_
  exact R_iret cd_147_18 (by first | rfl | omega) rfl
theorem K_Law_placeX1 {p0 p1 : Int} {M M1 : qa_Mem} (h : qa_E 117 0 [(0, qr 0), (1, qi (p0)), (2, qi (p1))] [] (M) (.inr 1) (M1)) : qa_E 147 0 [(0, qr (0)), (1, qi (p0)), (2, qi (p1)), (3, qr (7))] [] (M) (.inl (some (qi (1)))) (M1) := by
  refine R_aload cd_147_0 rfl ?_
  refine R_push cd_147_1 ?_
  refine R_aload cd_147_2 rfl ?_
  refine R_iload cd_147_3 rfl ?_
  refine R_iload cd_147_4 rfl ?_
  refine R_callc3 cd_147_5 rfl rfl rfl h ?_
  refine R_astore cd_147_13 ?_
  refine R_push cd_147_15 ?_
  exact R_iret cd_147_16 (by first | rfl | omega) rfl
theorem K_Law_artists0 {p0 v : Int} {M M1 : qa_Mem} (h : qa_E 118 0 [(0, qr 0), (1, qi (p0))] [] (M) (.inl (some (qi (v)))) (M1)) : qa_E 148 0 [(0, qr (0)), (1, qi (p0)), (2, qr (7))] [] (M) (.inl (some (qi (0)))) (qa_upd M1 7 0 v) := by
  refine R_aload cd_148_0 rfl ?_
  refine R_push cd_148_1 ?_
  refine R_aload cd_148_2 rfl ?_
  refine R_iload cd_148_3 rfl ?_
  refine R_call2 cd_148_4 rfl rfl h ?_
  refine R_i2l cd_148_7 ?_
  refine R_last cd_148_8 rfl (by decide) (by decide) ?_
  refine R_goto cd_148_9 ?_
  refine R_push cd_148_15 ?_
  exact R_iret cd_148_16 (by first | rfl | omega) rfl
theorem K_Law_artistsX1 {p0 : Int} {M M1 : qa_Mem} (h : qa_E 118 0 [(0, qr 0), (1, qi (p0))] [] (M) (.inr 1) (M1)) : qa_E 148 0 [(0, qr (0)), (1, qi (p0)), (2, qr (7))] [] (M) (.inl (some (qi (1)))) (M1) := by
  refine R_aload cd_148_0 rfl ?_
  refine R_push cd_148_1 ?_
  refine R_aload cd_148_2 rfl ?_
  refine R_iload cd_148_3 rfl ?_
  refine R_callc2 cd_148_4 rfl rfl rfl h ?_
  refine R_astore cd_148_12 ?_
  refine R_push cd_148_13 ?_
  exact R_iret cd_148_14 (by first | rfl | omega) rfl
theorem K_Law_cut0 {p0 p1 p2 v : Int} {M M1 : qa_Mem} (h : qa_E 119 0 [(0, qr 0), (1, qi (p0)), (2, qi (p1)), (3, qi (p2))] [] (M) (.inl (some (qi (v)))) (M1)) : qa_E 149 0 [(0, qr (0)), (1, qi (p0)), (2, qi (p1)), (3, qi (p2)), (4, qr (7))] [] (M) (.inl (some (qi (0)))) (qa_upd M1 7 0 v) := by
  refine R_aload cd_149_0 rfl ?_
  refine R_push cd_149_2 ?_
  refine R_aload cd_149_3 rfl ?_
  refine R_iload cd_149_4 rfl ?_
  refine R_iload cd_149_5 rfl ?_
  refine R_iload cd_149_6 rfl ?_
  refine R_call4 cd_149_7 rfl rfl h ?_
  refine R_i2l cd_149_10 ?_
  refine R_last cd_149_11 rfl (by decide) (by decide) ?_
  refine R_goto cd_149_12 ?_
  refine R_push cd_149_27 ?_
  exact R_iret cd_149_28 (by first | rfl | omega) rfl
theorem K_Law_cutX1 {p0 p1 p2 : Int} {M M1 : qa_Mem} (h : qa_E 119 0 [(0, qr 0), (1, qi (p0)), (2, qi (p1)), (3, qi (p2))] [] (M) (.inr 1) (M1)) : qa_E 149 0 [(0, qr (0)), (1, qi (p0)), (2, qi (p1)), (3, qi (p2)), (4, qr (7))] [] (M) (.inl (some (qi (1)))) (M1) := by
  refine R_aload cd_149_0 rfl ?_
  refine R_push cd_149_2 ?_
  refine R_aload cd_149_3 rfl ?_
  refine R_iload cd_149_4 rfl ?_
  refine R_iload cd_149_5 rfl ?_
  refine R_iload cd_149_6 rfl ?_
  refine R_callc4 cd_149_7 rfl rfl rfl h ?_
  refine R_astore cd_149_15 ?_
  refine R_push cd_149_17 ?_
  exact R_iret cd_149_18 (by first | rfl | omega) rfl
theorem K_Law_cutX2 {p0 p1 p2 : Int} {M M1 : qa_Mem} (h : qa_E 119 0 [(0, qr 0), (1, qi (p0)), (2, qi (p1)), (3, qi (p2))] [] (M) (.inr 2) (M1)) : qa_E 149 0 [(0, qr (0)), (1, qi (p0)), (2, qi (p1)), (3, qi (p2)), (4, qr (7))] [] (M) (.inl (some (qi (2)))) (M1) := by
  refine R_aload cd_149_0 rfl ?_
  refine R_push cd_149_2 ?_
  refine R_aload cd_149_3 rfl ?_
  refine R_iload cd_149_4 rfl ?_
  refine R_iload cd_149_5 rfl ?_
  refine R_iload cd_149_6 rfl ?_
  refine R_callc4 cd_149_7 rfl rfl rfl h ?_
  refine R_astore cd_149_19 ?_
  refine R_push cd_149_21 ?_
  exact R_iret cd_149_22 (by first | rfl | omega) rfl
theorem K_Law_cutX3 {p0 p1 p2 : Int} {M M1 : qa_Mem} (h : qa_E 119 0 [(0, qr 0), (1, qi (p0)), (2, qi (p1)), (3, qi (p2))] [] (M) (.inr 3) (M1)) : qa_E 149 0 [(0, qr (0)), (1, qi (p0)), (2, qi (p1)), (3, qi (p2)), (4, qr (7))] [] (M) (.inl (some (qi (3)))) (M1) := by
  refine R_aload cd_149_0 rfl ?_
  refine R_push cd_149_2 ?_
  refine R_aload cd_149_3 rfl ?_
  refine R_iload cd_149_4 rfl ?_
  refine R_iload cd_149_5 rfl ?_
  refine R_iload cd_149_6 rfl ?_
  refine R_callc4 cd_149_7 rfl rfl rfl h ?_
  refine R_astore cd_149_23 ?_
  refine R_push cd_149_25 ?_
  exact R_iret cd_149_26 (by first | rfl | omega) rfl
theorem K_Law_uncut0 {p0 v : Int} {M M1 : qa_Mem} (h : qa_E 120 0 [(0, qr 0), (1, qi (p0))] [] (M) (.inl (some (qi (v)))) (M1)) : qa_E 150 0 [(0, qr (0)), (1, qi (p0)), (2, qr (7))] [] (M) (.inl (some (qi (0)))) (qa_upd M1 7 0 v) := by
  refine R_aload cd_150_0 rfl ?_
  refine R_push cd_150_1 ?_
  refine R_aload cd_150_2 rfl ?_
  refine R_iload cd_150_3 rfl ?_
  refine R_call2 cd_150_4 rfl rfl h ?_
  refine R_i2l cd_150_7 ?_
  refine R_last cd_150_8 rfl (by decide) (by decide) ?_
  refine R_goto cd_150_9 ?_
  refine R_push cd_150_15 ?_
  exact R_iret cd_150_16 (by first | rfl | omega) rfl
theorem K_Law_uncutX1 {p0 : Int} {M M1 : qa_Mem} (h : qa_E 120 0 [(0, qr 0), (1, qi (p0))] [] (M) (.inr 1) (M1)) : qa_E 150 0 [(0, qr (0)), (1, qi (p0)), (2, qr (7))] [] (M) (.inl (some (qi (1)))) (M1) := by
  refine R_aload cd_150_0 rfl ?_
  refine R_push cd_150_1 ?_
  refine R_aload cd_150_2 rfl ?_
  refine R_iload cd_150_3 rfl ?_
  refine R_callc2 cd_150_4 rfl rfl rfl h ?_
  refine R_astore cd_150_12 ?_
  refine R_push cd_150_13 ?_
  exact R_iret cd_150_14 (by first | rfl | omega) rfl
theorem K_Law_shown0 {p0 v : Int} {M M1 : qa_Mem} (h : qa_E 121 0 [(0, qr 0), (1, qi (p0))] [] (M) (.inl (some (qi (v)))) (M1)) : qa_E 151 0 [(0, qr (0)), (1, qi (p0)), (2, qr (7))] [] (M) (.inl (some (qi (0)))) (qa_upd M1 7 0 v) := by
  refine R_aload cd_151_0 rfl ?_
  refine R_push cd_151_1 ?_
  refine R_aload cd_151_2 rfl ?_
  refine R_iload cd_151_3 rfl ?_
  refine R_call2 cd_151_4 rfl rfl h ?_
  refine R_i2l cd_151_7 ?_
  refine R_last cd_151_8 rfl (by decide) (by decide) ?_
  refine R_goto cd_151_9 ?_
  refine R_push cd_151_15 ?_
  exact R_iret cd_151_16 (by first | rfl | omega) rfl
theorem K_Law_shownX1 {p0 : Int} {M M1 : qa_Mem} (h : qa_E 121 0 [(0, qr 0), (1, qi (p0))] [] (M) (.inr 1) (M1)) : qa_E 151 0 [(0, qr (0)), (1, qi (p0)), (2, qr (7))] [] (M) (.inl (some (qi (1)))) (M1) := by
  refine R_aload cd_151_0 rfl ?_
  refine R_push cd_151_1 ?_
  refine R_aload cd_151_2 rfl ?_
  refine R_iload cd_151_3 rfl ?_
  refine R_callc2 cd_151_4 rfl rfl rfl h ?_
  refine R_astore cd_151_12 ?_
  refine R_push cd_151_13 ?_
  exact R_iret cd_151_14 (by first | rfl | omega) rfl
theorem K_Law_state0 {p0 v : Int} {M M1 : qa_Mem} (h : qa_E 122 0 [(0, qr 0), (1, qi (p0))] [] (M) (.inl (some (qi (v)))) (M1)) : qa_E 152 0 [(0, qr (0)), (1, qi (p0)), (2, qr (7))] [] (M) (.inl (some (qi (0)))) (qa_upd M1 7 0 v) := by
  refine R_aload cd_152_0 rfl ?_
  refine R_push cd_152_1 ?_
  refine R_aload cd_152_2 rfl ?_
  refine R_iload cd_152_3 rfl ?_
  refine R_call2 cd_152_4 rfl rfl h ?_
  refine R_i2l cd_152_7 ?_
  refine R_last cd_152_8 rfl (by decide) (by decide) ?_
  refine R_goto cd_152_9 ?_
  refine R_push cd_152_15 ?_
  exact R_iret cd_152_16 (by first | rfl | omega) rfl
theorem K_Law_stateX1 {p0 : Int} {M M1 : qa_Mem} (h : qa_E 122 0 [(0, qr 0), (1, qi (p0))] [] (M) (.inr 1) (M1)) : qa_E 152 0 [(0, qr (0)), (1, qi (p0)), (2, qr (7))] [] (M) (.inl (some (qi (1)))) (M1) := by
  refine R_aload cd_152_0 rfl ?_
  refine R_push cd_152_1 ?_
  refine R_aload cd_152_2 rfl ?_
  refine R_iload cd_152_3 rfl ?_
  refine R_callc2 cd_152_4 rfl rfl rfl h ?_
  refine R_astore cd_152_12 ?_
  refine R_push cd_152_13 ?_
  exact R_iret cd_152_14 (by first | rfl | omega) rfl
theorem K_Law_machine0 {p0 v : Int} {M M1 : qa_Mem} (h : qa_E 125 0 [(0, qr 0), (1, qi (p0))] [] (M) (.inl (some (qi (v)))) (M1)) : qa_E 153 0 [(0, qr (0)), (1, qi (p0)), (2, qr (7))] [] (M) (.inl (some (qi (0)))) (qa_upd M1 7 0 v) := by
  refine R_aload cd_153_0 rfl ?_
  refine R_push cd_153_1 ?_
  refine R_aload cd_153_2 rfl ?_
  refine R_iload cd_153_3 rfl ?_
  refine R_call2 cd_153_4 rfl rfl h ?_
  refine R_i2l cd_153_7 ?_
  refine R_last cd_153_8 rfl (by decide) (by decide) ?_
  refine R_goto cd_153_9 ?_
  refine R_push cd_153_18 ?_
  exact R_iret cd_153_19 (by first | rfl | omega) rfl
theorem K_Law_machineX1 {p0 : Int} {M M1 : qa_Mem} (h : qa_E 125 0 [(0, qr 0), (1, qi (p0))] [] (M) (.inr 2) (M1)) : qa_E 153 0 [(0, qr (0)), (1, qi (p0)), (2, qr (7))] [] (M) (.inl (some (qi (1)))) (M1) := by
  refine R_aload cd_153_0 rfl ?_
  refine R_push cd_153_1 ?_
  refine R_aload cd_153_2 rfl ?_
  refine R_iload cd_153_3 rfl ?_
  refine R_callc2 cd_153_4 rfl rfl rfl h ?_
  refine R_astore cd_153_12 ?_
  refine R_push cd_153_13 ?_
  exact R_iret cd_153_14 (by first | rfl | omega) rfl
theorem K_Law_machineX2 {p0 : Int} {M M1 : qa_Mem} (h : qa_E 125 0 [(0, qr 0), (1, qi (p0))] [] (M) (.inr 3) (M1)) : qa_E 153 0 [(0, qr (0)), (1, qi (p0)), (2, qr (7))] [] (M) (.inl (some (qi (2)))) (M1) := by
  refine R_aload cd_153_0 rfl ?_
  refine R_push cd_153_1 ?_
  refine R_aload cd_153_2 rfl ?_
  refine R_iload cd_153_3 rfl ?_
  refine R_callc2 cd_153_4 rfl rfl rfl h ?_
  refine R_astore cd_153_15 ?_
  refine R_push cd_153_16 ?_
  exact R_iret cd_153_17 (by first | rfl | omega) rfl
theorem K_Law_offer0 {p0 p1 v : Int} {M M1 : qa_Mem} (h : qa_E 126 0 [(0, qr 0), (1, qi (p0)), (2, qi (p1))] [] (M) (.inl (some (qi (v)))) (M1)) : qa_E 154 0 [(0, qr (0)), (1, qi (p0)), (2, qi (p1)), (3, qr (7))] [] (M) (.inl (some (qi (0)))) (qa_upd M1 7 0 v) := by
  refine R_aload cd_154_0 rfl ?_
  refine R_push cd_154_1 ?_
  refine R_aload cd_154_2 rfl ?_
  refine R_iload cd_154_3 rfl ?_
  refine R_iload cd_154_4 rfl ?_
  refine R_call3 cd_154_5 rfl rfl h ?_
  refine R_i2l cd_154_8 ?_
  refine R_last cd_154_9 rfl (by decide) (by decide) ?_
  refine R_goto cd_154_10 ?_
  refine R_push cd_154_21 ?_
  exact R_iret cd_154_22 (by first | rfl | omega) rfl
theorem K_Law_offerX1 {p0 p1 : Int} {M M1 : qa_Mem} (h : qa_E 126 0 [(0, qr 0), (1, qi (p0)), (2, qi (p1))] [] (M) (.inr 2) (M1)) : qa_E 154 0 [(0, qr (0)), (1, qi (p0)), (2, qi (p1)), (3, qr (7))] [] (M) (.inl (some (qi (1)))) (M1) := by
  refine R_aload cd_154_0 rfl ?_
  refine R_push cd_154_1 ?_
  refine R_aload cd_154_2 rfl ?_
  refine R_iload cd_154_3 rfl ?_
  refine R_iload cd_154_4 rfl ?_
  refine R_callc3 cd_154_5 rfl rfl rfl h ?_
  refine R_astore cd_154_13 ?_
  refine R_push cd_154_15 ?_
  exact R_iret cd_154_16 (by first | rfl | omega) rfl
theorem K_Law_offerX2 {p0 p1 : Int} {M M1 : qa_Mem} (h : qa_E 126 0 [(0, qr 0), (1, qi (p0)), (2, qi (p1))] [] (M) (.inr 3) (M1)) : qa_E 154 0 [(0, qr (0)), (1, qi (p0)), (2, qi (p1)), (3, qr (7))] [] (M) (.inl (some (qi (2)))) (M1) := by
  refine R_aload cd_154_0 rfl ?_
  refine R_push cd_154_1 ?_
  refine R_aload cd_154_2 rfl ?_
  refine R_iload cd_154_3 rfl ?_
  refine R_iload cd_154_4 rfl ?_
  refine R_callc3 cd_154_5 rfl rfl rfl h ?_
  refine R_astore cd_154_17 ?_
  refine R_push cd_154_19 ?_
  exact R_iret cd_154_20 (by first | rfl | omega) rfl
theorem K_Law_night0 {p0 v : Int} {M M1 : qa_Mem} (h : qa_E 127 0 [(0, qr 0), (1, qi (p0))] [] (M) (.inl (some (qi (v)))) (M1)) : qa_E 155 0 [(0, qr (0)), (1, qi (p0)), (2, qr (7))] [] (M) (.inl (some (qi (0)))) (qa_upd M1 7 0 v) := by
  refine R_aload cd_155_0 rfl ?_
  refine R_push cd_155_1 ?_
  refine R_aload cd_155_2 rfl ?_
  refine R_iload cd_155_3 rfl ?_
  refine R_call2 cd_155_4 rfl rfl h ?_
  refine R_i2l cd_155_7 ?_
  refine R_last cd_155_8 rfl (by decide) (by decide) ?_
  refine R_goto cd_155_9 ?_
  refine R_push cd_155_15 ?_
  exact R_iret cd_155_16 (by first | rfl | omega) rfl
theorem K_Law_nightX1 {p0 : Int} {M M1 : qa_Mem} (h : qa_E 127 0 [(0, qr 0), (1, qi (p0))] [] (M) (.inr 2) (M1)) : qa_E 155 0 [(0, qr (0)), (1, qi (p0)), (2, qr (7))] [] (M) (.inl (some (qi (1)))) (M1) := by
  refine R_aload cd_155_0 rfl ?_
  refine R_push cd_155_1 ?_
  refine R_aload cd_155_2 rfl ?_
  refine R_iload cd_155_3 rfl ?_
  refine R_callc2 cd_155_4 rfl rfl rfl h ?_
  refine R_astore cd_155_12 ?_
  refine R_push cd_155_13 ?_
  exact R_iret cd_155_14 (by first | rfl | omega) rfl
theorem K_Law_heat0 {p0 v : Int} {M M1 : qa_Mem} (h : qa_E 128 0 [(0, qr 0), (1, qi (p0))] [] (M) (.inl (some (qi (v)))) (M1)) : qa_E 156 0 [(0, qr (0)), (1, qi (p0)), (2, qr (7))] [] (M) (.inl (some (qi (0)))) (qa_upd M1 7 0 v) := by
  refine R_aload cd_156_0 rfl ?_
  refine R_push cd_156_1 ?_
  refine R_aload cd_156_2 rfl ?_
  refine R_iload cd_156_3 rfl ?_
  refine R_call2 cd_156_4 rfl rfl h ?_
  refine R_i2l cd_156_7 ?_
  refine R_last cd_156_8 rfl (by decide) (by decide) ?_
  refine R_goto cd_156_9 ?_
  refine R_push cd_156_15 ?_
  exact R_iret cd_156_16 (by first | rfl | omega) rfl
theorem K_Law_heatX1 {p0 : Int} {M M1 : qa_Mem} (h : qa_E 128 0 [(0, qr 0), (1, qi (p0))] [] (M) (.inr 1) (M1)) : qa_E 156 0 [(0, qr (0)), (1, qi (p0)), (2, qr (7))] [] (M) (.inl (some (qi (1)))) (M1) := by
  refine R_aload cd_156_0 rfl ?_
  refine R_push cd_156_1 ?_
  refine R_aload cd_156_2 rfl ?_
  refine R_iload cd_156_3 rfl ?_
  refine R_callc2 cd_156_4 rfl rfl rfl h ?_
  refine R_astore cd_156_12 ?_
  refine R_push cd_156_13 ?_
  exact R_iret cd_156_14 (by first | rfl | omega) rfl
theorem K_Law_setRate0 {p0 v : Int} {M M1 : qa_Mem} (h : qa_E 129 0 [(0, qr 0), (1, qi (p0))] [] (M) (.inl (some (qi (v)))) (M1)) : qa_E 157 0 [(0, qr (0)), (1, qi (p0)), (2, qr (7))] [] (M) (.inl (some (qi (0)))) (qa_upd M1 7 0 v) := by
  refine R_aload cd_157_0 rfl ?_
  refine R_push cd_157_1 ?_
  refine R_aload cd_157_2 rfl ?_
  refine R_iload cd_157_3 rfl ?_
  refine R_call2 cd_157_4 rfl rfl h ?_
  refine R_i2l cd_157_7 ?_
  refine R_last cd_157_8 rfl (by decide) (by decide) ?_
  refine R_goto cd_157_9 ?_
  refine R_push cd_157_15 ?_
  exact R_iret cd_157_16 (by first | rfl | omega) rfl
theorem K_Law_setRateX1 {p0 : Int} {M M1 : qa_Mem} (h : qa_E 129 0 [(0, qr 0), (1, qi (p0))] [] (M) (.inr 2) (M1)) : qa_E 157 0 [(0, qr (0)), (1, qi (p0)), (2, qr (7))] [] (M) (.inl (some (qi (1)))) (M1) := by
  refine R_aload cd_157_0 rfl ?_
  refine R_push cd_157_1 ?_
  refine R_aload cd_157_2 rfl ?_
  refine R_iload cd_157_3 rfl ?_
  refine R_callc2 cd_157_4 rfl rfl rfl h ?_
  refine R_astore cd_157_12 ?_
  refine R_push cd_157_13 ?_
  exact R_iret cd_157_14 (by first | rfl | omega) rfl
theorem K_Law_seconds0 {p0 v : Int} {M M1 : qa_Mem} (h : qa_E 130 0 [(0, qr 0), (1, qi (p0))] [] (M) (.inl (some (qi (v)))) (M1)) : qa_E 158 0 [(0, qr (0)), (1, qi (p0)), (2, qr (7))] [] (M) (.inl (some (qi (0)))) (qa_upd M1 7 0 v) := by
  refine R_aload cd_158_0 rfl ?_
  refine R_push cd_158_1 ?_
  refine R_aload cd_158_2 rfl ?_
  refine R_iload cd_158_3 rfl ?_
  refine R_call2 cd_158_4 rfl rfl h ?_
  refine R_i2l cd_158_7 ?_
  refine R_last cd_158_8 rfl (by decide) (by decide) ?_
  refine R_goto cd_158_9 ?_
  refine R_push cd_158_15 ?_
  exact R_iret cd_158_16 (by first | rfl | omega) rfl
theorem K_Law_secondsX1 {p0 : Int} {M M1 : qa_Mem} (h : qa_E 130 0 [(0, qr 0), (1, qi (p0))] [] (M) (.inr 1) (M1)) : qa_E 158 0 [(0, qr (0)), (1, qi (p0)), (2, qr (7))] [] (M) (.inl (some (qi (1)))) (M1) := by
  refine R_aload cd_158_0 rfl ?_
  refine R_push cd_158_1 ?_
  refine R_aload cd_158_2 rfl ?_
  refine R_iload cd_158_3 rfl ?_
  refine R_callc2 cd_158_4 rfl rfl rfl h ?_
  refine R_astore cd_158_12 ?_
  refine R_push cd_158_13 ?_
  exact R_iret cd_158_14 (by first | rfl | omega) rfl
theorem K_Law_show0 {v : Int} {M M1 : qa_Mem} (h : qa_E 131 0 [(0, qr 0)] [] (M) (.inl (some (qi (v)))) (M1)) : qa_E 159 0 [(0, qr (0)), (1, qr (7))] [] (M) (.inl (some (qi (0)))) (qa_upd M1 7 0 v) := by
  refine R_aload cd_159_0 rfl ?_
  refine R_push cd_159_1 ?_
  refine R_aload cd_159_2 rfl ?_
  refine R_call1 cd_159_3 rfl rfl h ?_
  refine R_i2l cd_159_6 ?_
  refine R_last cd_159_7 rfl (by decide) (by decide) ?_
  refine R_goto cd_159_8 ?_
  refine R_push cd_159_14 ?_
  exact R_iret cd_159_15 (by first | rfl | omega) rfl
theorem K_Law_showX1 {M M1 : qa_Mem} (h : qa_E 131 0 [(0, qr 0)] [] (M) (.inr 3) (M1)) : qa_E 159 0 [(0, qr (0)), (1, qr (7))] [] (M) (.inl (some (qi (1)))) (M1) := by
  refine R_aload cd_159_0 rfl ?_
  refine R_push cd_159_1 ?_
  refine R_aload cd_159_2 rfl ?_
  refine R_callc1 cd_159_3 rfl rfl rfl h ?_
  refine R_astore cd_159_11 ?_
  refine R_push cd_159_12 ?_
  exact R_iret cd_159_13 (by first | rfl | omega) rfl
theorem K_Law_money0 {p0 v : Int} {M M1 : qa_Mem} (h : qa_E 132 0 [(0, qr 0), (1, qi (p0))] [] (M) (.inl (some (qi (v)))) (M1)) : qa_E 160 0 [(0, qr (0)), (1, qi (p0)), (2, qr (7))] [] (M) (.inl (some (qi (0)))) (qa_upd M1 7 0 v) := by
  refine R_aload cd_160_0 rfl ?_
  refine R_push cd_160_1 ?_
  refine R_aload cd_160_2 rfl ?_
  refine R_iload cd_160_3 rfl ?_
  refine R_call2 cd_160_4 rfl rfl h ?_
  refine R_i2l cd_160_7 ?_
  refine R_last cd_160_8 rfl (by decide) (by decide) ?_
  refine R_goto cd_160_9 ?_
  refine R_push cd_160_15 ?_
  exact R_iret cd_160_16 (by first | rfl | omega) rfl
theorem K_Law_moneyX1 {p0 : Int} {M M1 : qa_Mem} (h : qa_E 132 0 [(0, qr 0), (1, qi (p0))] [] (M) (.inr 1) (M1)) : qa_E 160 0 [(0, qr (0)), (1, qi (p0)), (2, qr (7))] [] (M) (.inl (some (qi (1)))) (M1) := by
  refine R_aload cd_160_0 rfl ?_
  refine R_push cd_160_1 ?_
  refine R_aload cd_160_2 rfl ?_
  refine R_iload cd_160_3 rfl ?_
  refine R_callc2 cd_160_4 rfl rfl rfl h ?_
  refine R_astore cd_160_12 ?_
  refine R_push cd_160_13 ?_
  exact R_iret cd_160_14 (by first | rfl | omega) rfl
