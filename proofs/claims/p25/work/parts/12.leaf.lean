/-! the law's own methods on the road -/
theorem qa_and28 : qa_and 28 2147483647 = 28 := by decide +kernel
theorem qa_and0 : qa_and 0 2147483647 = 0 := by decide +kernel
theorem L_part28 {k m n : Int} {M : qa_Mem} (h : zz M) (h0 : 0 ≤ k) (h1 : k < 216) (h2 : k % 4 = 0) (h3 : 28 < m) : qa_E 43 0 [(0, qr (998)), (1, qi (k)), (2, qi (m))] [] (th M n) (.inl (some (qi (28)))) (th M n) := by
  have z := th_zz (n := n) h
  have e1 := z.2.2.2.1
  have e2 : th M n 98 k = 28 := by rw [z.2.2.2.2 k h0 h1, if_pos h2]
  refine R_iload cd_43_0 rfl ?_
  refine R_aload cd_43_1 rfl ?_
  refine R_slen cd_43_2 ?_
  refine R_icmp_ge 12 cd_43_3 rfl (fun b3 => ?_) (fun b3 => ?_)
  · omega
  · refine R_aload cd_43_6 rfl ?_
    refine R_iload cd_43_7 rfl ?_
    refine R_sld cd_43_8 (by omega) (by omega) ?_
    refine R_goto cd_43_9 ?_
    rw [e2]
    refine R_istore cd_43_25 rfl ?_
    refine R_iload cd_43_26 rfl ?_
    refine R_ldc cd_43_27 ?_
    refine R_iand cd_43_29 ?_
    rw [qa_and28]
    refine R_iload cd_43_30 rfl ?_
    refine R_irem cd_43_31 (by omega) ?_
    exact R_iret cd_43_32 (by rw [Int.tmod_eq_emod_of_nonneg (by decide)]; exact Int.emod_eq_of_lt (by decide) h3) rfl
theorem L_part0 {k m n : Int} {M : qa_Mem} (h : zz M) (h0 : 0 ≤ k) (h1 : k < 216) (h2 : k % 4 ≠ 0) (h3 : 0 < m) : qa_E 43 0 [(0, qr (998)), (1, qi (k)), (2, qi (m))] [] (th M n) (.inl (some (qi (0)))) (th M n) := by
  have z := th_zz (n := n) h
  have e1 := z.2.2.2.1
  have e2 : th M n 98 k = 0 := by rw [z.2.2.2.2 k h0 h1, if_neg h2]
  refine R_iload cd_43_0 rfl ?_
  refine R_aload cd_43_1 rfl ?_
  refine R_slen cd_43_2 ?_
  refine R_icmp_ge 12 cd_43_3 rfl (fun b3 => ?_) (fun b3 => ?_)
  · omega
  · refine R_aload cd_43_6 rfl ?_
    refine R_iload cd_43_7 rfl ?_
    refine R_sld cd_43_8 (by omega) (by omega) ?_
    refine R_goto cd_43_9 ?_
    rw [e2]
    refine R_istore cd_43_25 rfl ?_
    refine R_iload cd_43_26 rfl ?_
    refine R_ldc cd_43_27 ?_
    refine R_iand cd_43_29 ?_
    rw [qa_and0]
    refine R_iload cd_43_30 rfl ?_
    refine R_irem cd_43_31 (by omega) ?_
    exact R_iret cd_43_32 (by rw [Int.tmod_eq_emod_of_nonneg (by decide)]; exact Int.emod_eq_of_lt (by decide) h3) rfl
theorem L_made {f n : Int} {M : qa_Mem} (h : zz M) (h0 : 0 ≤ f) (h1 : f < 120) : qa_E 46 0 [(0, qr (35)), (1, qr (36)), (2, qi (f))] [] (th M n) (.inl (some (ql (-1)))) (th M n) := by
  have z := th_zz (n := n) h
  refine R_iload cd_46_0 rfl ?_
  refine R_push cd_46_1 ?_
  refine R_icmp_ge 12 cd_46_3 rfl (fun b3 => ?_) (fun b3 => ?_)
  · refine R_aload cd_46_12 rfl ?_
    refine R_iload cd_46_13 rfl ?_
    refine R_push cd_46_14 ?_
    refine R_isub cd_46_16 (by unfold qa_InR; first | omega | (simp [qa_upd, qa_blk] <;> omega)) ?_
    refine R_lald cd_46_17 rfl (by omega) (by omega) ?_
    first
      | exact R_lret cd_46_18 (z.2.1 _) rfl
      | exact R_lret cd_46_18 (z.2.2.1 _) rfl
  · refine R_aload cd_46_6 rfl ?_
    refine R_iload cd_46_7 rfl ?_
    refine R_lald cd_46_8 rfl (by omega) (by omega) ?_
    refine R_goto cd_46_9 ?_
    first
      | exact R_lret cd_46_18 (z.2.1 _) rfl
      | exact R_lret cd_46_18 (z.2.2.1 _) rfl
theorem L_isNeeded {f n : Int} {M : qa_Mem} (h : zz M) : qa_E 47 0 [(0, qr (31)), (1, qr (34)), (2, qi (f))] [] (th M n) (.inl (some (qi (0)))) (th M n) := by
  have e := th_e (n := n) (k := 34) (j := 2) h (by decide)
  refine R_push cd_47_0 ?_
  refine R_istore cd_47_1 rfl ?_
  refine R_push cd_47_2 ?_
  refine R_istore cd_47_3 rfl ?_
  refine R_iload cd_47_5 rfl ?_
  refine R_aload cd_47_7 rfl ?_
  refine R_push cd_47_8 ?_
  refine R_iald cd_47_9 rfl (by omega) (by omega) ?_
  refine R_icmp_ge 48 cd_47_10 rfl (fun b10 => ?_) (fun b10 => ?_)
  · refine R_iload cd_47_48 rfl ?_
    exact R_zret cd_47_49 rfl (Or.inl rfl) rfl
  · omega
theorem L_length {n : Int} {M : qa_Mem} (h : zz M) : qa_E 50 0 [(0, qr (31)), (1, qr (34))] [] (th M n) (.inl (some (qi (0)))) (th M n) := by
  have e := th_e (n := n) (k := 34) (j := 2) h (by decide)
  refine R_push cd_50_0 ?_
  refine R_istore cd_50_1 rfl ?_
  refine R_push cd_50_2 ?_
  refine R_istore cd_50_3 rfl ?_
  refine R_iload cd_50_4 rfl ?_
  refine R_aload cd_50_5 rfl ?_
  refine R_push cd_50_6 ?_
  refine R_iald cd_50_7 rfl (by omega) (by omega) ?_
  refine R_icmp_ge 32 cd_50_8 rfl (fun b8 => ?_) (fun b8 => ?_)
  · refine R_iload cd_50_32 rfl ?_
    exact R_iret cd_50_33 (by first | rfl | omega) rfl
  · omega
theorem L_artists {f n : Int} {M : qa_Mem} (h : zz M) : qa_E 48 0 [(0, qr (6)), (1, qr (29)), (2, qr (34)), (3, qi (f))] [] (th M n) (.inl (some (qi (0)))) (th M n) := by
  have e := th_e (n := n) (k := 34) (j := 0) h (by decide)
  refine R_push cd_48_0 ?_
  refine R_istore cd_48_1 rfl ?_
  refine R_push cd_48_3 ?_
  refine R_istore cd_48_4 rfl ?_
  refine R_iload cd_48_6 rfl ?_
  refine R_push cd_48_8 ?_
  refine R_aload cd_48_9 rfl ?_
  refine R_push cd_48_10 ?_
  refine R_iald cd_48_11 rfl (by omega) (by omega) ?_
  refine R_imul cd_48_12 (by unfold qa_InR; first | omega | (simp [qa_upd, qa_blk] <;> omega)) ?_
  refine R_icmp_ge 115 cd_48_13 rfl (fun b13 => ?_) (fun b13 => ?_)
  · refine R_iload cd_48_115 rfl ?_
    exact R_iret cd_48_117 (by first | rfl | omega) rfl
  · omega
theorem L_seconds {a n : Int} {M : qa_Mem} (h : zz M) : qa_E 49 0 [(0, qr (6)), (1, qr (29)), (2, qr (31)), (3, qr (34)), (4, qi (a))] [] (th M n) (.inl (some (qi (0)))) (th M n) := by
  have e := th_e (n := n) (k := 34) (j := 2) h (by decide)
  refine R_push cd_49_0 ?_
  refine R_istore cd_49_1 rfl ?_
  refine R_push cd_49_3 ?_
  refine R_istore cd_49_4 rfl ?_
  refine R_iload cd_49_6 rfl ?_
  refine R_aload cd_49_8 rfl ?_
  refine R_push cd_49_9 ?_
  refine R_iald cd_49_10 rfl (by omega) (by omega) ?_
  refine R_icmp_ge 62 cd_49_11 rfl (fun b11 => ?_) (fun b11 => ?_)
  · refine R_iload cd_49_62 rfl ?_
    refine R_push cd_49_64 ?_
    refine R_idiv cd_49_66 (by omega) ?_
    exact R_iret cd_49_67 (by first | rfl | omega) rfl
  · omega
