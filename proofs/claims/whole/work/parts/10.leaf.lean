/-! contracts of the small methods -/
theorem K_Keys_codeOf {t f : Int} {M : qa_Mem} (h1 : 0 ≤ t) (h2 : t ≤ 1000) (h3 : 0 ≤ f) (h4 : f ≤ 1000) : qa_E 2 0 [(0, qi (t)), (1, qi (f))] [] (M) (.inl (some (qi (1000 * t + f)))) (M) := by
  refine R_push cd_2_0 ?_
  refine R_iload cd_2_3 rfl ?_
  refine R_imul cd_2_4 (by unfold qa_InR; omega) ?_
  refine R_iload cd_2_5 rfl ?_
  refine R_iadd cd_2_6 (by unfold qa_InR; omega) ?_
  exact R_iret cd_2_7 (by first | rfl | omega) rfl
theorem K_Keys_size {M : qa_Mem} : qa_E 3 0 [(0, qr 2)] [] (M) (.inl (some (qi (M 2 4)))) (M) := by
  refine R_aload cd_3_0 rfl ?_
  refine R_getf cd_3_1 rfl (by decide) ?_
  exact R_iret cd_3_4 (by first | rfl | omega) rfl
theorem K_Keys_codeAt {p : Int} {M : qa_Mem} (h1 : 0 ≤ p) (h2 : p < 80) : qa_E 4 0 [(0, qr 2), (1, qi (p))] [] (M) (.inl (some (qi (M 14 p)))) (M) := by
  refine R_aload cd_4_0 rfl ?_
  refine R_getr cd_4_1 rfl ?_
  refine R_iload cd_4_4 rfl ?_
  refine R_iald cd_4_5 rfl (by omega) (by omega) ?_
  exact R_iret cd_4_6 (by first | rfl | omega) rfl
