/-! the reference: bones, frames -/
theorem K_Model_boneX1 {p x y : Int} {M : qa_Mem} (h1 : 0 ≤ M 6 0) (h2 : M 6 0 ≤ 8) (h3 : ¬ (p = -1 ∨ 0 ≤ p ∧ p ≤ M 6 0 - 1)) : qa_E 71 0 [(0, qr 6), (1, qi (p)), (2, qi (x)), (3, qi (y))] [] (M) (.inl (some (qi (0)))) (qa_upd M 6 26 1) := by
  refine R_iload cd_71_0 rfl ?_
  refine R_push cd_71_1 ?_
  refine R_icmp_eq 13 cd_71_2 rfl (fun b2 => ?_) (fun b2 => ?_)
  · refine R_push cd_71_13 ?_
    refine R_goto cd_71_14 ?_
    refine R_istore cd_71_18 ?_
    refine R_iload cd_71_20 rfl ?_
    refine R_push cd_71_21 ?_
    refine R_push cd_71_23 ?_
    refine R_call3 cd_71_25 rfl rfl K_Model_isIn ?_
    refine R_ifeq_b 46 cd_71_28 rfl (fun b28 => ?_) (fun b28 => ?_)
    · refine R_push cd_71_46 ?_
      refine R_istore cd_71_47 ?_
      refine R_aload cd_71_49 rfl ?_
      refine R_iload cd_71_50 rfl ?_
      refine R_if_ne 59 cd_71_52 rfl (fun _ => ?_) (fun h => absurd h (by decide))
      refine R_iload cd_71_59 rfl ?_
      refine R_if_ne 68 cd_71_61 rfl (fun h => absurd h (by decide)) (fun _ => ?_)
      refine R_push cd_71_64 ?_
      refine R_goto cd_71_65 ?_
      exfalso
      omega
    · refine R_iload cd_71_31 rfl ?_
      refine R_push cd_71_32 ?_
      refine R_push cd_71_34 ?_
      refine R_call3 cd_71_36 rfl rfl K_Model_isIn ?_
      refine R_ifeq_b 46 cd_71_39 rfl (fun b39 => ?_) (fun b39 => ?_)
      · refine R_push cd_71_46 ?_
        refine R_istore cd_71_47 ?_
        refine R_aload cd_71_49 rfl ?_
        refine R_iload cd_71_50 rfl ?_
        refine R_if_ne 59 cd_71_52 rfl (fun _ => ?_) (fun h => absurd h (by decide))
        refine R_iload cd_71_59 rfl ?_
        refine R_if_ne 68 cd_71_61 rfl (fun h => absurd h (by decide)) (fun _ => ?_)
        refine R_push cd_71_64 ?_
        refine R_goto cd_71_65 ?_
        exfalso
        omega
      · refine R_push cd_71_42 ?_
        refine R_goto cd_71_43 ?_
        refine R_istore cd_71_47 ?_
        refine R_aload cd_71_49 rfl ?_
        refine R_iload cd_71_50 rfl ?_
        refine R_if_ne 59 cd_71_52 rfl (fun _ => ?_) (fun h => absurd h (by decide))
        refine R_iload cd_71_59 rfl ?_
        refine R_if_ne 68 cd_71_61 rfl (fun _ => ?_) (fun h => absurd h (by decide))
        refine R_aload cd_71_68 rfl ?_
        refine R_getf cd_71_69 rfl (by decide) ?_
        refine R_push cd_71_72 ?_
        refine R_icmp_ne 81 cd_71_74 rfl (fun b74 => ?_) (fun b74 => ?_)
        · refine R_push cd_71_81 ?_
          exfalso
          omega
        · refine R_push cd_71_77 ?_
          refine R_goto cd_71_78 ?_
          exfalso
          omega
  · refine R_aload cd_71_5 rfl ?_
    refine R_iload cd_71_6 rfl ?_
    refine R_call2 cd_71_7 rfl rfl (K_Model_isBone (by omega) (by omega)) ?_
    refine R_ifeq_b 17 cd_71_10 rfl (fun b10 => ?_) (fun b10 => ?_)
    · refine R_push cd_71_17 ?_
      refine R_istore cd_71_18 ?_
      refine R_iload cd_71_20 rfl ?_
      refine R_push cd_71_21 ?_
      refine R_push cd_71_23 ?_
      refine R_call3 cd_71_25 rfl rfl K_Model_isIn ?_
      refine R_ifeq_b 46 cd_71_28 rfl (fun b28 => ?_) (fun b28 => ?_)
      · refine R_push cd_71_46 ?_
        refine R_istore cd_71_47 ?_
        refine R_aload cd_71_49 rfl ?_
        refine R_iload cd_71_50 rfl ?_
        refine R_if_ne 59 cd_71_52 rfl (fun h => absurd h (by decide)) (fun _ => ?_)
        refine R_push cd_71_55 ?_
        refine R_goto cd_71_56 ?_
        refine R_call2 cd_71_82 rfl rfl K_Model_fails ?_
        refine R_ifeq_b 90 cd_71_85 rfl (fun h => absurd h (by decide)) (fun _ => ?_)
        refine R_push cd_71_88 ?_
        exact R_iret cd_71_89 (by first | rfl | omega) rfl
      · refine R_iload cd_71_31 rfl ?_
        refine R_push cd_71_32 ?_
        refine R_push cd_71_34 ?_
        refine R_call3 cd_71_36 rfl rfl K_Model_isIn ?_
        refine R_ifeq_b 46 cd_71_39 rfl (fun b39 => ?_) (fun b39 => ?_)
        · refine R_push cd_71_46 ?_
          refine R_istore cd_71_47 ?_
          refine R_aload cd_71_49 rfl ?_
          refine R_iload cd_71_50 rfl ?_
          refine R_if_ne 59 cd_71_52 rfl (fun h => absurd h (by decide)) (fun _ => ?_)
          refine R_push cd_71_55 ?_
          refine R_goto cd_71_56 ?_
          refine R_call2 cd_71_82 rfl rfl K_Model_fails ?_
          refine R_ifeq_b 90 cd_71_85 rfl (fun h => absurd h (by decide)) (fun _ => ?_)
          refine R_push cd_71_88 ?_
          exact R_iret cd_71_89 (by first | rfl | omega) rfl
        · refine R_push cd_71_42 ?_
          refine R_goto cd_71_43 ?_
          refine R_istore cd_71_47 ?_
          refine R_aload cd_71_49 rfl ?_
          refine R_iload cd_71_50 rfl ?_
          refine R_if_ne 59 cd_71_52 rfl (fun h => absurd h (by decide)) (fun _ => ?_)
          refine R_push cd_71_55 ?_
          refine R_goto cd_71_56 ?_
          refine R_call2 cd_71_82 rfl rfl K_Model_fails ?_
          refine R_ifeq_b 90 cd_71_85 rfl (fun h => absurd h (by decide)) (fun _ => ?_)
          refine R_push cd_71_88 ?_
          exact R_iret cd_71_89 (by first | rfl | omega) rfl
    · refine R_push cd_71_13 ?_
      refine R_goto cd_71_14 ?_
      refine R_istore cd_71_18 ?_
      refine R_iload cd_71_20 rfl ?_
      refine R_push cd_71_21 ?_
      refine R_push cd_71_23 ?_
      refine R_call3 cd_71_25 rfl rfl K_Model_isIn ?_
      refine R_ifeq_b 46 cd_71_28 rfl (fun b28 => ?_) (fun b28 => ?_)
      · refine R_push cd_71_46 ?_
        refine R_istore cd_71_47 ?_
        refine R_aload cd_71_49 rfl ?_
        refine R_iload cd_71_50 rfl ?_
        refine R_if_ne 59 cd_71_52 rfl (fun _ => ?_) (fun h => absurd h (by decide))
        refine R_iload cd_71_59 rfl ?_
        refine R_if_ne 68 cd_71_61 rfl (fun h => absurd h (by decide)) (fun _ => ?_)
        refine R_push cd_71_64 ?_
        refine R_goto cd_71_65 ?_
        exfalso
        omega
      · refine R_iload cd_71_31 rfl ?_
        refine R_push cd_71_32 ?_
        refine R_push cd_71_34 ?_
        refine R_call3 cd_71_36 rfl rfl K_Model_isIn ?_
        refine R_ifeq_b 46 cd_71_39 rfl (fun b39 => ?_) (fun b39 => ?_)
        · refine R_push cd_71_46 ?_
          refine R_istore cd_71_47 ?_
          refine R_aload cd_71_49 rfl ?_
          refine R_iload cd_71_50 rfl ?_
          refine R_if_ne 59 cd_71_52 rfl (fun _ => ?_) (fun h => absurd h (by decide))
          refine R_iload cd_71_59 rfl ?_
          refine R_if_ne 68 cd_71_61 rfl (fun h => absurd h (by decide)) (fun _ => ?_)
          refine R_push cd_71_64 ?_
          refine R_goto cd_71_65 ?_
          exfalso
          omega
        · refine R_push cd_71_42 ?_
          refine R_goto cd_71_43 ?_
          refine R_istore cd_71_47 ?_
          refine R_aload cd_71_49 rfl ?_
          refine R_iload cd_71_50 rfl ?_
          refine R_if_ne 59 cd_71_52 rfl (fun _ => ?_) (fun h => absurd h (by decide))
          refine R_iload cd_71_59 rfl ?_
          refine R_if_ne 68 cd_71_61 rfl (fun _ => ?_) (fun h => absurd h (by decide))
          refine R_aload cd_71_68 rfl ?_
          refine R_getf cd_71_69 rfl (by decide) ?_
          refine R_push cd_71_72 ?_
          refine R_icmp_ne 81 cd_71_74 rfl (fun b74 => ?_) (fun b74 => ?_)
          · refine R_push cd_71_81 ?_
            exfalso
            omega
          · refine R_push cd_71_77 ?_
            refine R_goto cd_71_78 ?_
            exfalso
            omega
theorem K_Model_boneX2 {p x y : Int} {M : qa_Mem} (h1 : 0 ≤ M 6 0) (h2 : M 6 0 ≤ 8) (h3 : p = -1 ∨ 0 ≤ p ∧ p ≤ M 6 0 - 1) (h4 : ¬ ((-100 ≤ x ∧ x ≤ 100) ∧ (-100 ≤ y ∧ y ≤ 100))) : qa_E 71 0 [(0, qr 6), (1, qi (p)), (2, qi (x)), (3, qi (y))] [] (M) (.inl (some (qi (0)))) (qa_upd M 6 26 2) := by
  refine R_iload cd_71_0 rfl ?_
  refine R_push cd_71_1 ?_
  refine R_icmp_eq 13 cd_71_2 rfl (fun b2 => ?_) (fun b2 => ?_)
  · refine R_push cd_71_13 ?_
    refine R_goto cd_71_14 ?_
    refine R_istore cd_71_18 ?_
    refine R_iload cd_71_20 rfl ?_
    refine R_push cd_71_21 ?_
    refine R_push cd_71_23 ?_
    refine R_call3 cd_71_25 rfl rfl K_Model_isIn ?_
    refine R_ifeq_b 46 cd_71_28 rfl (fun b28 => ?_) (fun b28 => ?_)
    · refine R_push cd_71_46 ?_
      refine R_istore cd_71_47 ?_
      refine R_aload cd_71_49 rfl ?_
      refine R_iload cd_71_50 rfl ?_
      refine R_if_ne 59 cd_71_52 rfl (fun _ => ?_) (fun h => absurd h (by decide))
      refine R_iload cd_71_59 rfl ?_
      refine R_if_ne 68 cd_71_61 rfl (fun h => absurd h (by decide)) (fun _ => ?_)
      refine R_push cd_71_64 ?_
      refine R_goto cd_71_65 ?_
      refine R_call2 cd_71_82 rfl rfl K_Model_fails ?_
      refine R_ifeq_b 90 cd_71_85 rfl (fun h => absurd h (by decide)) (fun _ => ?_)
      refine R_push cd_71_88 ?_
      exact R_iret cd_71_89 (by first | rfl | omega) rfl
    · refine R_iload cd_71_31 rfl ?_
      refine R_push cd_71_32 ?_
      refine R_push cd_71_34 ?_
      refine R_call3 cd_71_36 rfl rfl K_Model_isIn ?_
      refine R_ifeq_b 46 cd_71_39 rfl (fun b39 => ?_) (fun b39 => ?_)
      · refine R_push cd_71_46 ?_
        refine R_istore cd_71_47 ?_
        refine R_aload cd_71_49 rfl ?_
        refine R_iload cd_71_50 rfl ?_
        refine R_if_ne 59 cd_71_52 rfl (fun _ => ?_) (fun h => absurd h (by decide))
        refine R_iload cd_71_59 rfl ?_
        refine R_if_ne 68 cd_71_61 rfl (fun h => absurd h (by decide)) (fun _ => ?_)
        refine R_push cd_71_64 ?_
        refine R_goto cd_71_65 ?_
        refine R_call2 cd_71_82 rfl rfl K_Model_fails ?_
        refine R_ifeq_b 90 cd_71_85 rfl (fun h => absurd h (by decide)) (fun _ => ?_)
        refine R_push cd_71_88 ?_
        exact R_iret cd_71_89 (by first | rfl | omega) rfl
      · refine R_push cd_71_42 ?_
        refine R_goto cd_71_43 ?_
        refine R_istore cd_71_47 ?_
        refine R_aload cd_71_49 rfl ?_
        refine R_iload cd_71_50 rfl ?_
        refine R_if_ne 59 cd_71_52 rfl (fun _ => ?_) (fun h => absurd h (by decide))
        refine R_iload cd_71_59 rfl ?_
        refine R_if_ne 68 cd_71_61 rfl (fun _ => ?_) (fun h => absurd h (by decide))
        refine R_aload cd_71_68 rfl ?_
        refine R_getf cd_71_69 rfl (by decide) ?_
        refine R_push cd_71_72 ?_
        refine R_icmp_ne 81 cd_71_74 rfl (fun b74 => ?_) (fun b74 => ?_)
        · refine R_push cd_71_81 ?_
          exfalso
          omega
        · refine R_push cd_71_77 ?_
          refine R_goto cd_71_78 ?_
          exfalso
          omega
  · refine R_aload cd_71_5 rfl ?_
    refine R_iload cd_71_6 rfl ?_
    refine R_call2 cd_71_7 rfl rfl (K_Model_isBone (by omega) (by omega)) ?_
    refine R_ifeq_b 17 cd_71_10 rfl (fun b10 => ?_) (fun b10 => ?_)
    · refine R_push cd_71_17 ?_
      refine R_istore cd_71_18 ?_
      refine R_iload cd_71_20 rfl ?_
      refine R_push cd_71_21 ?_
      refine R_push cd_71_23 ?_
      refine R_call3 cd_71_25 rfl rfl K_Model_isIn ?_
      refine R_ifeq_b 46 cd_71_28 rfl (fun b28 => ?_) (fun b28 => ?_)
      · refine R_push cd_71_46 ?_
        refine R_istore cd_71_47 ?_
        refine R_aload cd_71_49 rfl ?_
        refine R_iload cd_71_50 rfl ?_
        refine R_if_ne 59 cd_71_52 rfl (fun h => absurd h (by decide)) (fun _ => ?_)
        refine R_push cd_71_55 ?_
        refine R_goto cd_71_56 ?_
        exfalso
        omega
      · refine R_iload cd_71_31 rfl ?_
        refine R_push cd_71_32 ?_
        refine R_push cd_71_34 ?_
        refine R_call3 cd_71_36 rfl rfl K_Model_isIn ?_
        refine R_ifeq_b 46 cd_71_39 rfl (fun b39 => ?_) (fun b39 => ?_)
        · refine R_push cd_71_46 ?_
          refine R_istore cd_71_47 ?_
          refine R_aload cd_71_49 rfl ?_
          refine R_iload cd_71_50 rfl ?_
          refine R_if_ne 59 cd_71_52 rfl (fun h => absurd h (by decide)) (fun _ => ?_)
          refine R_push cd_71_55 ?_
          refine R_goto cd_71_56 ?_
          exfalso
          omega
        · refine R_push cd_71_42 ?_
          refine R_goto cd_71_43 ?_
          refine R_istore cd_71_47 ?_
          refine R_aload cd_71_49 rfl ?_
          refine R_iload cd_71_50 rfl ?_
          refine R_if_ne 59 cd_71_52 rfl (fun h => absurd h (by decide)) (fun _ => ?_)
          refine R_push cd_71_55 ?_
          refine R_goto cd_71_56 ?_
          exfalso
          omega
    · refine R_push cd_71_13 ?_
      refine R_goto cd_71_14 ?_
      refine R_istore cd_71_18 ?_
      refine R_iload cd_71_20 rfl ?_
      refine R_push cd_71_21 ?_
      refine R_push cd_71_23 ?_
      refine R_call3 cd_71_25 rfl rfl K_Model_isIn ?_
      refine R_ifeq_b 46 cd_71_28 rfl (fun b28 => ?_) (fun b28 => ?_)
      · refine R_push cd_71_46 ?_
        refine R_istore cd_71_47 ?_
        refine R_aload cd_71_49 rfl ?_
        refine R_iload cd_71_50 rfl ?_
        refine R_if_ne 59 cd_71_52 rfl (fun _ => ?_) (fun h => absurd h (by decide))
        refine R_iload cd_71_59 rfl ?_
        refine R_if_ne 68 cd_71_61 rfl (fun h => absurd h (by decide)) (fun _ => ?_)
        refine R_push cd_71_64 ?_
        refine R_goto cd_71_65 ?_
        refine R_call2 cd_71_82 rfl rfl K_Model_fails ?_
        refine R_ifeq_b 90 cd_71_85 rfl (fun h => absurd h (by decide)) (fun _ => ?_)
        refine R_push cd_71_88 ?_
        exact R_iret cd_71_89 (by first | rfl | omega) rfl
      · refine R_iload cd_71_31 rfl ?_
        refine R_push cd_71_32 ?_
        refine R_push cd_71_34 ?_
        refine R_call3 cd_71_36 rfl rfl K_Model_isIn ?_
        refine R_ifeq_b 46 cd_71_39 rfl (fun b39 => ?_) (fun b39 => ?_)
        · refine R_push cd_71_46 ?_
          refine R_istore cd_71_47 ?_
          refine R_aload cd_71_49 rfl ?_
          refine R_iload cd_71_50 rfl ?_
          refine R_if_ne 59 cd_71_52 rfl (fun _ => ?_) (fun h => absurd h (by decide))
          refine R_iload cd_71_59 rfl ?_
          refine R_if_ne 68 cd_71_61 rfl (fun h => absurd h (by decide)) (fun _ => ?_)
          refine R_push cd_71_64 ?_
          refine R_goto cd_71_65 ?_
          refine R_call2 cd_71_82 rfl rfl K_Model_fails ?_
          refine R_ifeq_b 90 cd_71_85 rfl (fun h => absurd h (by decide)) (fun _ => ?_)
          refine R_push cd_71_88 ?_
          exact R_iret cd_71_89 (by first | rfl | omega) rfl
        · refine R_push cd_71_42 ?_
          refine R_goto cd_71_43 ?_
          refine R_istore cd_71_47 ?_
          refine R_aload cd_71_49 rfl ?_
          refine R_iload cd_71_50 rfl ?_
          refine R_if_ne 59 cd_71_52 rfl (fun _ => ?_) (fun h => absurd h (by decide))
          refine R_iload cd_71_59 rfl ?_
          refine R_if_ne 68 cd_71_61 rfl (fun _ => ?_) (fun h => absurd h (by decide))
          refine R_aload cd_71_68 rfl ?_
          refine R_getf cd_71_69 rfl (by decide) ?_
          refine R_push cd_71_72 ?_
          refine R_icmp_ne 81 cd_71_74 rfl (fun b74 => ?_) (fun b74 => ?_)
          · refine R_push cd_71_81 ?_
            exfalso
            omega
          · refine R_push cd_71_77 ?_
            refine R_goto cd_71_78 ?_
            exfalso
            omega
theorem K_Model_boneX3 {p x y : Int} {M : qa_Mem} (h1 : 0 ≤ M 6 0) (h2 : M 6 0 = 8) (h3 : p = -1 ∨ 0 ≤ p ∧ p ≤ M 6 0 - 1) (h4 : (-100 ≤ x ∧ x ≤ 100) ∧ (-100 ≤ y ∧ y ≤ 100)) : qa_E 71 0 [(0, qr 6), (1, qi (p)), (2, qi (x)), (3, qi (y))] [] (M) (.inl (some (qi (0)))) (qa_upd M 6 26 3) := by
  refine R_iload cd_71_0 rfl ?_
  refine R_push cd_71_1 ?_
  refine R_icmp_eq 13 cd_71_2 rfl (fun b2 => ?_) (fun b2 => ?_)
  · refine R_push cd_71_13 ?_
    refine R_goto cd_71_14 ?_
    refine R_istore cd_71_18 ?_
    refine R_iload cd_71_20 rfl ?_
    refine R_push cd_71_21 ?_
    refine R_push cd_71_23 ?_
    refine R_call3 cd_71_25 rfl rfl K_Model_isIn ?_
    refine R_ifeq_b 46 cd_71_28 rfl (fun b28 => ?_) (fun b28 => ?_)
    · refine R_push cd_71_46 ?_
      refine R_istore cd_71_47 ?_
      refine R_aload cd_71_49 rfl ?_
      refine R_iload cd_71_50 rfl ?_
      refine R_if_ne 59 cd_71_52 rfl (fun _ => ?_) (fun h => absurd h (by decide))
      refine R_iload cd_71_59 rfl ?_
      refine R_if_ne 68 cd_71_61 rfl (fun h => absurd h (by decide)) (fun _ => ?_)
      refine R_push cd_71_64 ?_
      refine R_goto cd_71_65 ?_
      exfalso
      omega
    · refine R_iload cd_71_31 rfl ?_
      refine R_push cd_71_32 ?_
      refine R_push cd_71_34 ?_
      refine R_call3 cd_71_36 rfl rfl K_Model_isIn ?_
      refine R_ifeq_b 46 cd_71_39 rfl (fun b39 => ?_) (fun b39 => ?_)
      · refine R_push cd_71_46 ?_
        refine R_istore cd_71_47 ?_
        refine R_aload cd_71_49 rfl ?_
        refine R_iload cd_71_50 rfl ?_
        refine R_if_ne 59 cd_71_52 rfl (fun _ => ?_) (fun h => absurd h (by decide))
        refine R_iload cd_71_59 rfl ?_
        refine R_if_ne 68 cd_71_61 rfl (fun h => absurd h (by decide)) (fun _ => ?_)
        refine R_push cd_71_64 ?_
        refine R_goto cd_71_65 ?_
        exfalso
        omega
      · refine R_push cd_71_42 ?_
        refine R_goto cd_71_43 ?_
        refine R_istore cd_71_47 ?_
        refine R_aload cd_71_49 rfl ?_
        refine R_iload cd_71_50 rfl ?_
        refine R_if_ne 59 cd_71_52 rfl (fun _ => ?_) (fun h => absurd h (by decide))
        refine R_iload cd_71_59 rfl ?_
        refine R_if_ne 68 cd_71_61 rfl (fun _ => ?_) (fun h => absurd h (by decide))
        refine R_aload cd_71_68 rfl ?_
        refine R_getf cd_71_69 rfl (by decide) ?_
        refine R_push cd_71_72 ?_
        refine R_icmp_ne 81 cd_71_74 rfl (fun b74 => ?_) (fun b74 => ?_)
        · refine R_push cd_71_81 ?_
          exfalso
          omega
        · refine R_push cd_71_77 ?_
          refine R_goto cd_71_78 ?_
          refine R_call2 cd_71_82 rfl rfl K_Model_fails ?_
          refine R_ifeq_b 90 cd_71_85 rfl (fun h => absurd h (by decide)) (fun _ => ?_)
          refine R_push cd_71_88 ?_
          exact R_iret cd_71_89 (by first | rfl | omega) rfl
  · refine R_aload cd_71_5 rfl ?_
    refine R_iload cd_71_6 rfl ?_
    refine R_call2 cd_71_7 rfl rfl (K_Model_isBone (by omega) (by omega)) ?_
    refine R_ifeq_b 17 cd_71_10 rfl (fun b10 => ?_) (fun b10 => ?_)
    · refine R_push cd_71_17 ?_
      refine R_istore cd_71_18 ?_
      refine R_iload cd_71_20 rfl ?_
      refine R_push cd_71_21 ?_
      refine R_push cd_71_23 ?_
      refine R_call3 cd_71_25 rfl rfl K_Model_isIn ?_
      refine R_ifeq_b 46 cd_71_28 rfl (fun b28 => ?_) (fun b28 => ?_)
      · refine R_push cd_71_46 ?_
        refine R_istore cd_71_47 ?_
        refine R_aload cd_71_49 rfl ?_
        refine R_iload cd_71_50 rfl ?_
        refine R_if_ne 59 cd_71_52 rfl (fun h => absurd h (by decide)) (fun _ => ?_)
        refine R_push cd_71_55 ?_
        refine R_goto cd_71_56 ?_
        exfalso
        omega
      · refine R_iload cd_71_31 rfl ?_
        refine R_push cd_71_32 ?_
        refine R_push cd_71_34 ?_
        refine R_call3 cd_71_36 rfl rfl K_Model_isIn ?_
        refine R_ifeq_b 46 cd_71_39 rfl (fun b39 => ?_) (fun b39 => ?_)
        · refine R_push cd_71_46 ?_
          refine R_istore cd_71_47 ?_
          refine R_aload cd_71_49 rfl ?_
          refine R_iload cd_71_50 rfl ?_
          refine R_if_ne 59 cd_71_52 rfl (fun h => absurd h (by decide)) (fun _ => ?_)
          refine R_push cd_71_55 ?_
          refine R_goto cd_71_56 ?_
          exfalso
          omega
        · refine R_push cd_71_42 ?_
          refine R_goto cd_71_43 ?_
          refine R_istore cd_71_47 ?_
          refine R_aload cd_71_49 rfl ?_
          refine R_iload cd_71_50 rfl ?_
          refine R_if_ne 59 cd_71_52 rfl (fun h => absurd h (by decide)) (fun _ => ?_)
          refine R_push cd_71_55 ?_
          refine R_goto cd_71_56 ?_
          exfalso
          omega
    · refine R_push cd_71_13 ?_
      refine R_goto cd_71_14 ?_
      refine R_istore cd_71_18 ?_
      refine R_iload cd_71_20 rfl ?_
      refine R_push cd_71_21 ?_
      refine R_push cd_71_23 ?_
      refine R_call3 cd_71_25 rfl rfl K_Model_isIn ?_
      refine R_ifeq_b 46 cd_71_28 rfl (fun b28 => ?_) (fun b28 => ?_)
      · refine R_push cd_71_46 ?_
        refine R_istore cd_71_47 ?_
        refine R_aload cd_71_49 rfl ?_
        refine R_iload cd_71_50 rfl ?_
        refine R_if_ne 59 cd_71_52 rfl (fun _ => ?_) (fun h => absurd h (by decide))
        refine R_iload cd_71_59 rfl ?_
        refine R_if_ne 68 cd_71_61 rfl (fun h => absurd h (by decide)) (fun _ => ?_)
        refine R_push cd_71_64 ?_
        refine R_goto cd_71_65 ?_
        exfalso
        omega
      · refine R_iload cd_71_31 rfl ?_
        refine R_push cd_71_32 ?_
        refine R_push cd_71_34 ?_
        refine R_call3 cd_71_36 rfl rfl K_Model_isIn ?_
        refine R_ifeq_b 46 cd_71_39 rfl (fun b39 => ?_) (fun b39 => ?_)
        · refine R_push cd_71_46 ?_
          refine R_istore cd_71_47 ?_
          refine R_aload cd_71_49 rfl ?_
          refine R_iload cd_71_50 rfl ?_
          refine R_if_ne 59 cd_71_52 rfl (fun _ => ?_) (fun h => absurd h (by decide))
          refine R_iload cd_71_59 rfl ?_
          refine R_if_ne 68 cd_71_61 rfl (fun h => absurd h (by decide)) (fun _ => ?_)
          refine R_push cd_71_64 ?_
          refine R_goto cd_71_65 ?_
          exfalso
          omega
        · refine R_push cd_71_42 ?_
          refine R_goto cd_71_43 ?_
          refine R_istore cd_71_47 ?_
          refine R_aload cd_71_49 rfl ?_
          refine R_iload cd_71_50 rfl ?_
          refine R_if_ne 59 cd_71_52 rfl (fun _ => ?_) (fun h => absurd h (by decide))
          refine R_iload cd_71_59 rfl ?_
          refine R_if_ne 68 cd_71_61 rfl (fun _ => ?_) (fun h => absurd h (by decide))
          refine R_aload cd_71_68 rfl ?_
          refine R_getf cd_71_69 rfl (by decide) ?_
          refine R_push cd_71_72 ?_
          refine R_icmp_ne 81 cd_71_74 rfl (fun b74 => ?_) (fun b74 => ?_)
          · refine R_push cd_71_81 ?_
            exfalso
            omega
          · refine R_push cd_71_77 ?_
            refine R_goto cd_71_78 ?_
            refine R_call2 cd_71_82 rfl rfl K_Model_fails ?_
            refine R_ifeq_b 90 cd_71_85 rfl (fun h => absurd h (by decide)) (fun _ => ?_)
            refine R_push cd_71_88 ?_
            exact R_iret cd_71_89 (by first | rfl | omega) rfl
def qm_bone (M : qa_Mem) (p x y : Int) : qa_Mem := qa_upd (qa_upd (qa_upd (qa_upd (qa_upd M 6 26 0) 29 (M 6 0) p) 30 (M 6 0) x) 31 (M 6 0) y) 6 0 (M 6 0 + 1)
theorem K_Model_bone0 {p x y : Int} {M : qa_Mem} (h1 : 0 ≤ M 6 0) (h2 : M 6 0 < 8) (h3 : p = -1 ∨ 0 ≤ p ∧ p ≤ M 6 0 - 1) (h4 : (-100 ≤ x ∧ x ≤ 100) ∧ (-100 ≤ y ∧ y ≤ 100)) : qa_E 71 0 [(0, qr 6), (1, qi (p)), (2, qi (x)), (3, qi (y))] [] (M) (.inl (some (qi (M 6 0)))) (qm_bone M p x y) := by
  have q0 : 0 ≤ (qa_upd M 6 26 0) 6 0 := h1
  have q1 : (qa_upd M 6 26 0) 6 0 < 8 := h2
  have fin : qa_E 71 90 [(0, qr 6), (1, qi p), (2, qi x), (3, qi y)] [] (qa_upd M 6 26 0) (.inl (some (qi (M 6 0)))) (qm_bone M p x y) := by
    refine R_aload cd_71_90 rfl ?_
    refine R_getr cd_71_91 rfl ?_
    refine R_aload cd_71_94 rfl ?_
    refine R_getf cd_71_95 rfl (by decide) ?_
    refine R_iload cd_71_98 rfl ?_
    refine R_iast cd_71_99 rfl (by first | omega | (simp [qa_upd, qa_blk] <;> omega)) (by first | omega | (simp [qa_upd, qa_blk] <;> omega))  ?_
    refine R_aload cd_71_100 rfl ?_
    refine R_getr cd_71_101 rfl ?_
    refine R_aload cd_71_104 rfl ?_
    refine R_getf cd_71_105 rfl (by decide) ?_
    refine R_iload cd_71_108 rfl ?_
    refine R_iast cd_71_109 rfl (by first | omega | (simp [qa_upd, qa_blk] <;> omega)) (by first | omega | (simp [qa_upd, qa_blk] <;> omega))  ?_
    refine R_aload cd_71_110 rfl ?_
    refine R_getr cd_71_111 rfl ?_
    refine R_aload cd_71_114 rfl ?_
    refine R_getf cd_71_115 rfl (by decide) ?_
    refine R_iload cd_71_118 rfl ?_
    refine R_iast cd_71_119 rfl (by first | omega | (simp [qa_upd, qa_blk] <;> omega)) (by first | omega | (simp [qa_upd, qa_blk] <;> omega))  ?_
    refine R_aload cd_71_120 rfl ?_
    refine R_dup cd_71_121 rfl ?_
    refine R_getf cd_71_122 rfl (by decide) ?_
    refine R_push cd_71_125 ?_
    refine R_iadd cd_71_126 (by unfold qa_InR; first | omega | (simp [qa_upd, qa_blk] <;> omega)) ?_
    refine R_putf cd_71_127 rfl (by decide) ?_
    refine R_aload cd_71_130 rfl ?_
    refine R_getf cd_71_131 rfl (by decide) ?_
    refine R_push cd_71_134 ?_
    refine R_isub cd_71_135 (by unfold qa_InR; first | omega | (simp [qa_upd, qa_blk] <;> omega)) ?_
    exact R_iret cd_71_136 (show M 6 0 + 1 - 1 = M 6 0 by omega) rfl
  refine R_iload cd_71_0 rfl ?_
  refine R_push cd_71_1 ?_
  refine R_icmp_eq 13 cd_71_2 rfl (fun b2 => ?_) (fun b2 => ?_)
  · refine R_push cd_71_13 ?_
    refine R_goto cd_71_14 ?_
    refine R_istore cd_71_18 ?_
    refine R_iload cd_71_20 rfl ?_
    refine R_push cd_71_21 ?_
    refine R_push cd_71_23 ?_
    refine R_call3 cd_71_25 rfl rfl K_Model_isIn ?_
    refine R_ifeq_b 46 cd_71_28 rfl (fun b28 => ?_) (fun b28 => ?_)
    · refine R_push cd_71_46 ?_
      refine R_istore cd_71_47 ?_
      refine R_aload cd_71_49 rfl ?_
      refine R_iload cd_71_50 rfl ?_
      refine R_if_ne 59 cd_71_52 rfl (fun _ => ?_) (fun h => absurd h (by decide))
      refine R_iload cd_71_59 rfl ?_
      refine R_if_ne 68 cd_71_61 rfl (fun h => absurd h (by decide)) (fun _ => ?_)
      refine R_push cd_71_64 ?_
      refine R_goto cd_71_65 ?_
      exfalso
      omega
    · refine R_iload cd_71_31 rfl ?_
      refine R_push cd_71_32 ?_
      refine R_push cd_71_34 ?_
      refine R_call3 cd_71_36 rfl rfl K_Model_isIn ?_
      refine R_ifeq_b 46 cd_71_39 rfl (fun b39 => ?_) (fun b39 => ?_)
      · refine R_push cd_71_46 ?_
        refine R_istore cd_71_47 ?_
        refine R_aload cd_71_49 rfl ?_
        refine R_iload cd_71_50 rfl ?_
        refine R_if_ne 59 cd_71_52 rfl (fun _ => ?_) (fun h => absurd h (by decide))
        refine R_iload cd_71_59 rfl ?_
        refine R_if_ne 68 cd_71_61 rfl (fun h => absurd h (by decide)) (fun _ => ?_)
        refine R_push cd_71_64 ?_
        refine R_goto cd_71_65 ?_
        exfalso
        omega
      · refine R_push cd_71_42 ?_
        refine R_goto cd_71_43 ?_
        refine R_istore cd_71_47 ?_
        refine R_aload cd_71_49 rfl ?_
        refine R_iload cd_71_50 rfl ?_
        refine R_if_ne 59 cd_71_52 rfl (fun _ => ?_) (fun h => absurd h (by decide))
        refine R_iload cd_71_59 rfl ?_
        refine R_if_ne 68 cd_71_61 rfl (fun _ => ?_) (fun h => absurd h (by decide))
        refine R_aload cd_71_68 rfl ?_
        refine R_getf cd_71_69 rfl (by decide) ?_
        refine R_push cd_71_72 ?_
        refine R_icmp_ne 81 cd_71_74 rfl (fun b74 => ?_) (fun b74 => ?_)
        · refine R_push cd_71_81 ?_
          refine R_call2 cd_71_82 rfl rfl K_Model_fails ?_
          refine R_ifeq_b 90 cd_71_85 rfl (fun _ => ?_) (fun h => absurd h (by decide))
          exact R_norm (qs_c rfl (qs_c rfl (qs_c rfl (qs_c rfl qs_n)))) fin
        · refine R_push cd_71_77 ?_
          refine R_goto cd_71_78 ?_
          exfalso
          omega
  · refine R_aload cd_71_5 rfl ?_
    refine R_iload cd_71_6 rfl ?_
    refine R_call2 cd_71_7 rfl rfl (K_Model_isBone (by omega) (by omega)) ?_
    refine R_ifeq_b 17 cd_71_10 rfl (fun b10 => ?_) (fun b10 => ?_)
    · refine R_push cd_71_17 ?_
      refine R_istore cd_71_18 ?_
      refine R_iload cd_71_20 rfl ?_
      refine R_push cd_71_21 ?_
      refine R_push cd_71_23 ?_
      refine R_call3 cd_71_25 rfl rfl K_Model_isIn ?_
      refine R_ifeq_b 46 cd_71_28 rfl (fun b28 => ?_) (fun b28 => ?_)
      · refine R_push cd_71_46 ?_
        refine R_istore cd_71_47 ?_
        refine R_aload cd_71_49 rfl ?_
        refine R_iload cd_71_50 rfl ?_
        refine R_if_ne 59 cd_71_52 rfl (fun h => absurd h (by decide)) (fun _ => ?_)
        refine R_push cd_71_55 ?_
        refine R_goto cd_71_56 ?_
        exfalso
        omega
      · refine R_iload cd_71_31 rfl ?_
        refine R_push cd_71_32 ?_
        refine R_push cd_71_34 ?_
        refine R_call3 cd_71_36 rfl rfl K_Model_isIn ?_
        refine R_ifeq_b 46 cd_71_39 rfl (fun b39 => ?_) (fun b39 => ?_)
        · refine R_push cd_71_46 ?_
          refine R_istore cd_71_47 ?_
          refine R_aload cd_71_49 rfl ?_
          refine R_iload cd_71_50 rfl ?_
          refine R_if_ne 59 cd_71_52 rfl (fun h => absurd h (by decide)) (fun _ => ?_)
          refine R_push cd_71_55 ?_
          refine R_goto cd_71_56 ?_
          exfalso
          omega
        · refine R_push cd_71_42 ?_
          refine R_goto cd_71_43 ?_
          refine R_istore cd_71_47 ?_
          refine R_aload cd_71_49 rfl ?_
          refine R_iload cd_71_50 rfl ?_
          refine R_if_ne 59 cd_71_52 rfl (fun h => absurd h (by decide)) (fun _ => ?_)
          refine R_push cd_71_55 ?_
          refine R_goto cd_71_56 ?_
          exfalso
          omega
    · refine R_push cd_71_13 ?_
      refine R_goto cd_71_14 ?_
      refine R_istore cd_71_18 ?_
      refine R_iload cd_71_20 rfl ?_
      refine R_push cd_71_21 ?_
      refine R_push cd_71_23 ?_
      refine R_call3 cd_71_25 rfl rfl K_Model_isIn ?_
      refine R_ifeq_b 46 cd_71_28 rfl (fun b28 => ?_) (fun b28 => ?_)
      · refine R_push cd_71_46 ?_
        refine R_istore cd_71_47 ?_
        refine R_aload cd_71_49 rfl ?_
        refine R_iload cd_71_50 rfl ?_
        refine R_if_ne 59 cd_71_52 rfl (fun _ => ?_) (fun h => absurd h (by decide))
        refine R_iload cd_71_59 rfl ?_
        refine R_if_ne 68 cd_71_61 rfl (fun h => absurd h (by decide)) (fun _ => ?_)
        refine R_push cd_71_64 ?_
        refine R_goto cd_71_65 ?_
        exfalso
        omega
      · refine R_iload cd_71_31 rfl ?_
        refine R_push cd_71_32 ?_
        refine R_push cd_71_34 ?_
        refine R_call3 cd_71_36 rfl rfl K_Model_isIn ?_
        refine R_ifeq_b 46 cd_71_39 rfl (fun b39 => ?_) (fun b39 => ?_)
        · refine R_push cd_71_46 ?_
          refine R_istore cd_71_47 ?_
          refine R_aload cd_71_49 rfl ?_
          refine R_iload cd_71_50 rfl ?_
          refine R_if_ne 59 cd_71_52 rfl (fun _ => ?_) (fun h => absurd h (by decide))
          refine R_iload cd_71_59 rfl ?_
          refine R_if_ne 68 cd_71_61 rfl (fun h => absurd h (by decide)) (fun _ => ?_)
          refine R_push cd_71_64 ?_
          refine R_goto cd_71_65 ?_
          exfalso
          omega
        · refine R_push cd_71_42 ?_
          refine R_goto cd_71_43 ?_
          refine R_istore cd_71_47 ?_
          refine R_aload cd_71_49 rfl ?_
          refine R_iload cd_71_50 rfl ?_
          refine R_if_ne 59 cd_71_52 rfl (fun _ => ?_) (fun h => absurd h (by decide))
          refine R_iload cd_71_59 rfl ?_
          refine R_if_ne 68 cd_71_61 rfl (fun _ => ?_) (fun h => absurd h (by decide))
          refine R_aload cd_71_68 rfl ?_
          refine R_getf cd_71_69 rfl (by decide) ?_
          refine R_push cd_71_72 ?_
          refine R_icmp_ne 81 cd_71_74 rfl (fun b74 => ?_) (fun b74 => ?_)
          · refine R_push cd_71_81 ?_
            refine R_call2 cd_71_82 rfl rfl K_Model_fails ?_
            refine R_ifeq_b 90 cd_71_85 rfl (fun _ => ?_) (fun h => absurd h (by decide))
            exact R_norm (qs_c rfl (qs_c rfl (qs_c rfl (qs_c rfl qs_n)))) fin
          · refine R_push cd_71_77 ?_
            refine R_goto cd_71_78 ?_
            exfalso
            omega
/-- the reference's frame stands -/
def qm_st (M : qa_Mem) (f : Int) : Prop := M 38 f ≠ 0 ∧ M 39 f = M 6 0 ∧ ∀ k : Int, 0 ≤ k → k < 3 * M 6 0 → M 40 (24 * f + k) = qm_v (M 32) (M 33) (M 35) k f
def qm_wf (M : qa_Mem) : Prop := (0 ≤ M 6 0 ∧ M 6 0 ≤ 8) ∧ qv_v (M 33)
theorem K_Model_stands {f : Int} {M : qa_Mem} (hw : qm_wf M) (h3 : 0 ≤ f) (h4 : f ≤ 119) : qa_E 76 0 [(0, qr 6), (1, qi (f))] [] (M) (.inl (some (qi (qb (qm_st M f))))) (M) := by
  obtain ⟨⟨h1, h2⟩, h5⟩ := hw
  have lp : ∀ (n : Nat) (k : Int) (P : Prop), k + n = 3 * M 6 0 → 0 ≤ k → (P ↔ (M 38 f ≠ 0 ∧ M 39 f = M 6 0 ∧ ∀ j : Int, 0 ≤ j → j < k → M 40 (24 * f + j) = qm_v (M 32) (M 33) (M 35) j f)) → qa_E 76 30 [(0, qr 6), (1, qi f), (2, qi (qb P)), (3, qi k)] [] M (.inl (some (qi (qb (qm_st M f))))) M := by
    intro n
    induction n with
    | zero =>
      intro k P g1 g2 hP
      obtain rfl : k = 3 * M 6 0 := by omega
      refine R_iload cd_76_30 rfl ?_
      refine R_push cd_76_31 ?_
      refine R_aload cd_76_32 rfl ?_
      refine R_getf cd_76_33 rfl (by decide) ?_
      refine R_imul cd_76_36 (by unfold qa_InR; first | omega | (simp [qa_upd, qa_blk] <;> omega)) ?_
      refine R_icmp_ge 81 cd_76_37 rfl (fun b37 => ?_) (fun b37 => ?_)
      · refine R_iload cd_76_81 rfl ?_
        exact R_zret_b cd_76_82 hP rfl
      · omega
    | succ n ih =>
      intro k P g1 g2 hP
      have e1 : k.tdiv 3 = k / 3 := Int.tdiv_eq_ediv_of_nonneg g2
      have e2 : k.tmod 3 = k % 3 := Int.tmod_eq_emod_of_nonneg g2
      have kv := K_Model_valueAt (b := k.tdiv 3) (c := k.tmod 3) (f := f) (t := k) (M := M) (by omega) (by omega) (by omega) (by omega) (by omega) h3 h4 h5
      refine R_iload cd_76_30 rfl ?_
      refine R_push cd_76_31 ?_
      refine R_aload cd_76_32 rfl ?_
      refine R_getf cd_76_33 rfl (by decide) ?_
      refine R_imul cd_76_36 (by unfold qa_InR; first | omega | (simp [qa_upd, qa_blk] <;> omega)) ?_
      refine R_icmp_ge 81 cd_76_37 rfl (fun b37 => ?_) (fun b37 => ?_)
      · first
          | omega
          | exact R_zret_b cd_76_82 ⟨fun p => absurd p b41, fun p => absurd (hP.mpr ⟨p.1, p.2.1, fun j a b => p.2.2 j a (by omega)⟩) b41⟩ rfl
          | refine R_iload cd_76_81 rfl ?_
            exact R_zret_b cd_76_82 ⟨fun p => absurd p b41, fun p => absurd (hP.mpr ⟨p.1, p.2.1, fun j a b => p.2.2 j a (by omega)⟩) b41⟩ rfl
      · refine R_iload cd_76_40 rfl ?_
        refine R_ifeq_b 81 cd_76_41 rfl (fun b41 => ?_) (fun b41 => ?_)
        · first
            | omega
            | exact R_zret_b cd_76_82 ⟨fun p => absurd p b41, fun p => absurd (hP.mpr ⟨p.1, p.2.1, fun j a b => p.2.2 j a (by omega)⟩) b41⟩ rfl
            | refine R_iload cd_76_81 rfl ?_
              exact R_zret_b cd_76_82 ⟨fun p => absurd p b41, fun p => absurd (hP.mpr ⟨p.1, p.2.1, fun j a b => p.2.2 j a (by omega)⟩) b41⟩ rfl
        · refine R_aload cd_76_44 rfl ?_
          refine R_getr cd_76_45 rfl ?_
          refine R_push cd_76_48 ?_
          refine R_iload cd_76_50 rfl ?_
          refine R_imul cd_76_51 (by unfold qa_InR; first | omega | (simp [qa_upd, qa_blk] <;> omega)) ?_
          refine R_iload cd_76_52 rfl ?_
          refine R_iadd cd_76_53 (by unfold qa_InR; first | omega | (simp [qa_upd, qa_blk] <;> omega)) ?_
          refine R_iald cd_76_54 rfl (by first | omega | (simp [qa_upd, qa_blk] <;> omega)) (by first | omega | (simp [qa_upd, qa_blk] <;> omega)) ?_
          refine R_aload cd_76_55 rfl ?_
          refine R_iload cd_76_56 rfl ?_
          refine R_push cd_76_57 ?_
          refine R_idiv cd_76_58 (by omega) ?_
          refine R_iload cd_76_59 rfl ?_
          refine R_push cd_76_60 ?_
          refine R_irem cd_76_61 (by omega) ?_
          refine R_iload cd_76_62 rfl ?_
          refine R_call4 cd_76_63 rfl rfl kv ?_
          refine R_icmp_ne 73 cd_76_66 rfl (fun b66 => ?_) (fun b66 => ?_)
          · refine R_push cd_76_73 ?_
            refine R_istore cd_76_74 ?_
            refine R_iinc cd_76_75 rfl (by unfold qa_InR; first | omega | (simp [qa_upd, qa_blk] <;> omega)) ?_
            refine R_goto cd_76_78 ?_
            first
              | have e := ih (k + 1) True (by omega) (by omega) ⟨fun _ => ⟨(hP.mp b41).1, (hP.mp b41).2.1, fun j a b => by
                  by_cases hj : j = k
                  · subst hj; exact b66
                  · exact (hP.mp b41).2.2 j a (by omega)⟩, fun _ => trivial⟩
                rw [qb_t trivial] at e
                exact R_norm (qs_c rfl (qs_c rfl (qs_c rfl (qs_c rfl qs_n)))) e
              | have e := ih (k + 1) False (by omega) (by omega) ⟨fun p => p.elim, fun p => b66 (p.2.2 k g2 (by omega))⟩
                rw [qb_f id] at e
                exact R_norm (qs_c rfl (qs_c rfl (qs_c rfl (qs_c rfl qs_n)))) e
          · refine R_push cd_76_69 ?_
            refine R_goto cd_76_70 ?_
            refine R_istore cd_76_74 ?_
            refine R_iinc cd_76_75 rfl (by unfold qa_InR; first | omega | (simp [qa_upd, qa_blk] <;> omega)) ?_
            refine R_goto cd_76_78 ?_
            first
              | have e := ih (k + 1) True (by omega) (by omega) ⟨fun _ => ⟨(hP.mp b41).1, (hP.mp b41).2.1, fun j a b => by
                  by_cases hj : j = k
                  · subst hj; exact b66
                  · exact (hP.mp b41).2.2 j a (by omega)⟩, fun _ => trivial⟩
                rw [qb_t trivial] at e
                exact R_norm (qs_c rfl (qs_c rfl (qs_c rfl (qs_c rfl qs_n)))) e
              | have e := ih (k + 1) False (by omega) (by omega) ⟨fun p => p.elim, fun p => b66 (p.2.2 k g2 (by omega))⟩
                rw [qb_f id] at e
                exact R_norm (qs_c rfl (qs_c rfl (qs_c rfl (qs_c rfl qs_n)))) e
  refine R_aload cd_76_0 rfl ?_
  refine R_getr cd_76_1 rfl ?_
  refine R_iload cd_76_4 rfl ?_
  refine R_zald cd_76_5 rfl (by first | omega | (simp [qa_upd, qa_blk] <;> omega)) (by first | omega | (simp [qa_upd, qa_blk] <;> omega)) ?_
  refine R_if_eq 26 cd_76_6 rfl (fun b6 => ?_) (fun b6 => ?_)
  · refine R_push cd_76_26 ?_
    refine R_istore cd_76_27 ?_
    refine R_push cd_76_28 ?_
    refine R_istore cd_76_29 ?_
    first
      | have e := lp _ 0 True (by omega : 0 + ((3 * M 6 0).toNat : Int) = 3 * M 6 0) (by omega) ⟨fun _ => ⟨b6, b19, fun j a b => by omega⟩, fun _ => trivial⟩
        rw [qb_t trivial] at e
        exact R_norm (qs_c rfl (qs_c rfl (qs_c rfl (qs_c rfl qs_n)))) e
      | have e := lp _ 0 False (by omega : 0 + ((3 * M 6 0).toNat : Int) = 3 * M 6 0) (by omega) ⟨fun p => p.elim, fun p => b19 p.2.1⟩
        rw [qb_f id] at e
        exact R_norm (qs_c rfl (qs_c rfl (qs_c rfl (qs_c rfl qs_n)))) e
      | have e := lp _ 0 False (by omega : 0 + ((3 * M 6 0).toNat : Int) = 3 * M 6 0) (by omega) ⟨fun p => p.elim, fun p => p.1 b6⟩
        rw [qb_f id] at e
        exact R_norm (qs_c rfl (qs_c rfl (qs_c rfl (qs_c rfl qs_n)))) e
  · refine R_aload cd_76_9 rfl ?_
    refine R_getr cd_76_10 rfl ?_
    refine R_iload cd_76_13 rfl ?_
    refine R_iald cd_76_14 rfl (by first | omega | (simp [qa_upd, qa_blk] <;> omega)) (by first | omega | (simp [qa_upd, qa_blk] <;> omega)) ?_
    refine R_aload cd_76_15 rfl ?_
    refine R_getf cd_76_16 rfl (by decide) ?_
    refine R_icmp_ne 26 cd_76_19 rfl (fun b19 => ?_) (fun b19 => ?_)
    · refine R_push cd_76_26 ?_
      refine R_istore cd_76_27 ?_
      refine R_push cd_76_28 ?_
      refine R_istore cd_76_29 ?_
      first
        | have e := lp _ 0 True (by omega : 0 + ((3 * M 6 0).toNat : Int) = 3 * M 6 0) (by omega) ⟨fun _ => ⟨b6, b19, fun j a b => by omega⟩, fun _ => trivial⟩
          rw [qb_t trivial] at e
          exact R_norm (qs_c rfl (qs_c rfl (qs_c rfl (qs_c rfl qs_n)))) e
        | have e := lp _ 0 False (by omega : 0 + ((3 * M 6 0).toNat : Int) = 3 * M 6 0) (by omega) ⟨fun p => p.elim, fun p => b19 p.2.1⟩
          rw [qb_f id] at e
          exact R_norm (qs_c rfl (qs_c rfl (qs_c rfl (qs_c rfl qs_n)))) e
        | have e := lp _ 0 False (by omega : 0 + ((3 * M 6 0).toNat : Int) = 3 * M 6 0) (by omega) ⟨fun p => p.elim, fun p => p.1 b6⟩
          rw [qb_f id] at e
          exact R_norm (qs_c rfl (qs_c rfl (qs_c rfl (qs_c rfl qs_n)))) e
    · refine R_push cd_76_22 ?_
      refine R_goto cd_76_23 ?_
      refine R_istore cd_76_27 ?_
      refine R_push cd_76_28 ?_
      refine R_istore cd_76_29 ?_
      first
        | have e := lp _ 0 True (by omega : 0 + ((3 * M 6 0).toNat : Int) = 3 * M 6 0) (by omega) ⟨fun _ => ⟨b6, b19, fun j a b => by omega⟩, fun _ => trivial⟩
          rw [qb_t trivial] at e
          exact R_norm (qs_c rfl (qs_c rfl (qs_c rfl (qs_c rfl qs_n)))) e
        | have e := lp _ 0 False (by omega : 0 + ((3 * M 6 0).toNat : Int) = 3 * M 6 0) (by omega) ⟨fun p => p.elim, fun p => b19 p.2.1⟩
          rw [qb_f id] at e
          exact R_norm (qs_c rfl (qs_c rfl (qs_c rfl (qs_c rfl qs_n)))) e
        | have e := lp _ 0 False (by omega : 0 + ((3 * M 6 0).toNat : Int) = 3 * M 6 0) (by omega) ⟨fun p => p.elim, fun p => p.1 b6⟩
          rw [qb_f id] at e
          exact R_norm (qs_c rfl (qs_c rfl (qs_c rfl (qs_c rfl qs_n)))) e
noncomputable def qm_vo (M : qa_Mem) : Int := qf_cnt (fun f => M 38 f ≠ 0 ∧ ¬ qm_st M f) 120
theorem K_Model_allVoids {M : qa_Mem} (hw : qm_wf M) : qa_E 77 0 [(0, qr 6)] [] (M) (.inl (some (qi (qm_vo M)))) (M) := by
  have lp : ∀ (k : Nat) (j : Nat), j + k = 120 → qa_E 77 4 [(0, qr 6), (1, qi (qf_cnt (fun f => M 38 f ≠ 0 ∧ ¬ qm_st M f) j)), (2, qi j)] [] M (.inl (some (qi (qm_vo M)))) M := by
    intro k
    induction k with
    | zero =>
      intro j g1
      obtain rfl : j = 120 := by omega
      refine R_iload cd_77_4 rfl ?_
      refine R_push cd_77_5 ?_
      refine R_icmp_ge 41 cd_77_7 rfl (fun b7 => ?_) (fun b7 => ?_)
      · refine R_iload cd_77_41 rfl ?_
        exact R_iret cd_77_42 (by first | rfl | omega) rfl
      · omega
    | succ k ih =>
      intro j g1
      have e := ih (j + 1) (by omega)
      rw [Int.natCast_add] at e
      have r1 := qf_cnt_r (fun f => M 38 f ≠ 0 ∧ ¬ qm_st M f) j
      unfold qf_cnt at e
      refine R_iload cd_77_4 rfl ?_
      refine R_push cd_77_5 ?_
      refine R_icmp_ge 41 cd_77_7 rfl (fun b7 => ?_) (fun b7 => ?_)
      · omega
      · refine R_iload cd_77_10 rfl ?_
        refine R_aload cd_77_11 rfl ?_
        refine R_getr cd_77_12 rfl ?_
        refine R_iload cd_77_15 rfl ?_
        refine R_zald cd_77_16 rfl (by first | omega | (simp [qa_upd, qa_blk] <;> omega)) (by first | omega | (simp [qa_upd, qa_blk] <;> omega)) ?_
        refine R_if_eq 32 cd_77_17 rfl (fun b17 => ?_) (fun b17 => ?_)
        · refine R_push cd_77_32 ?_
          refine R_iadd cd_77_33 (by unfold qa_InR; first | omega | (simp [qa_upd, qa_blk] <;> omega)) ?_
          refine R_istore cd_77_34 ?_
          refine R_iinc cd_77_35 rfl (by unfold qa_InR; first | omega | (simp [qa_upd, qa_blk] <;> omega)) ?_
          refine R_goto cd_77_38 ?_
          first
            | rw [qb_t ⟨b17, b25⟩] at e
              exact R_norm (qs_c rfl (qs_c rfl (qs_c rfl qs_n))) e
            | rw [qb_f (fun q => absurd b25 q.2)] at e
              exact R_norm (qs_c rfl (qs_c rfl (qs_c rfl qs_n))) e
            | rw [qb_f (fun q => absurd b17 q.1)] at e
              exact R_norm (qs_c rfl (qs_c rfl (qs_c rfl qs_n))) e
        · refine R_aload cd_77_20 rfl ?_
          refine R_iload cd_77_21 rfl ?_
          refine R_call2 cd_77_22 rfl rfl (K_Model_stands hw (by omega) (by omega)) ?_
          refine R_ifne_b 32 cd_77_25 rfl (fun b25 => ?_) (fun b25 => ?_)
          · refine R_push cd_77_32 ?_
            refine R_iadd cd_77_33 (by unfold qa_InR; first | omega | (simp [qa_upd, qa_blk] <;> omega)) ?_
            refine R_istore cd_77_34 ?_
            refine R_iinc cd_77_35 rfl (by unfold qa_InR; first | omega | (simp [qa_upd, qa_blk] <;> omega)) ?_
            refine R_goto cd_77_38 ?_
            first
              | rw [qb_t ⟨b17, b25⟩] at e
                exact R_norm (qs_c rfl (qs_c rfl (qs_c rfl qs_n))) e
              | rw [qb_f (fun q => absurd b25 q.2)] at e
                exact R_norm (qs_c rfl (qs_c rfl (qs_c rfl qs_n))) e
              | rw [qb_f (fun q => absurd b17 q.1)] at e
                exact R_norm (qs_c rfl (qs_c rfl (qs_c rfl qs_n))) e
          · refine R_push cd_77_28 ?_
            refine R_goto cd_77_29 ?_
            refine R_iadd cd_77_33 (by unfold qa_InR; first | omega | (simp [qa_upd, qa_blk] <;> omega)) ?_
            refine R_istore cd_77_34 ?_
            refine R_iinc cd_77_35 rfl (by unfold qa_InR; first | omega | (simp [qa_upd, qa_blk] <;> omega)) ?_
            refine R_goto cd_77_38 ?_
            first
              | rw [qb_t ⟨b17, b25⟩] at e
                exact R_norm (qs_c rfl (qs_c rfl (qs_c rfl qs_n))) e
              | rw [qb_f (fun q => absurd b25 q.2)] at e
                exact R_norm (qs_c rfl (qs_c rfl (qs_c rfl qs_n))) e
              | rw [qb_f (fun q => absurd b17 q.1)] at e
                exact R_norm (qs_c rfl (qs_c rfl (qs_c rfl qs_n))) e
  refine R_push cd_77_0 ?_
  refine R_istore cd_77_1 ?_
  refine R_push cd_77_2 ?_
  refine R_istore cd_77_3 ?_
  exact R_norm (qs_c rfl (qs_c rfl (qs_c rfl qs_n))) (lp 120 0 (by omega))
theorem K_Model_voids {M : qa_Mem} (hw : qm_wf M) : qa_E 95 0 [(0, qr 6)] [] (M) (.inl (some (qi (qm_vo M)))) (qa_upd M 6 26 0) := by
  refine R_aload cd_95_0 rfl ?_
  refine R_push cd_95_1 ?_
  refine R_putf cd_95_2 rfl (by decide) ?_
  refine R_aload cd_95_5 rfl ?_
  refine R_call1 cd_95_6 rfl rfl (K_Model_allVoids (by exact hw)) ?_
  exact R_iret cd_95_9 (by first | rfl | omega) rfl
theorem K_Model_voidsByAll {M : qa_Mem} (hw : qm_wf M) : qa_E 96 0 [(0, qr 6)] [] (M) (.inl (some (qi (qm_vo M)))) (qa_upd M 6 26 0) := by
  refine R_aload cd_96_0 rfl ?_
  refine R_push cd_96_1 ?_
  refine R_putf cd_96_2 rfl (by decide) ?_
  refine R_aload cd_96_5 rfl ?_
  refine R_call1 cd_96_6 rfl rfl (K_Model_allVoids (by exact hw)) ?_
  exact R_iret cd_96_9 (by first | rfl | omega) rfl
