/-! the reference: keys -/
def qm_cell (M : qa_Mem) (b c f : Int) : Prop := (0 ≤ b ∧ b ≤ M 6 0 - 1) ∧ (0 ≤ c ∧ c ≤ 2) ∧ (0 ≤ f ∧ f ≤ 119)
theorem K_Model_keyX1 {b c f v a s : Int} {M : qa_Mem} (h1 : 0 ≤ M 6 0) (h2 : M 6 0 ≤ 8) (h3 : ¬ (qm_cell M b c f ∧ 0 ≤ a ∧ a ≤ 5)) : qa_E 78 0 [(0, qr 6), (1, qi (b)), (2, qi (c)), (3, qi (f)), (4, qi (v)), (5, qi (a)), (6, qi (s))] [] (M) (.inl (some (qi (0)))) (qa_upd M 6 26 1) := by
  unfold qm_cell at h3
  refine R_aload cd_78_0 rfl ?_
  refine R_iload cd_78_1 rfl ?_
  refine R_iload cd_78_2 rfl ?_
  refine R_iload cd_78_3 rfl ?_
  refine R_call4 cd_78_4 rfl rfl (K_Model_isPlace (by omega) (by omega)) ?_
  refine R_ifeq_b 24 cd_78_7 rfl (fun b7 => ?_) (fun b7 => ?_)
  · refine R_push cd_78_24 ?_
    refine R_istore cd_78_25 ?_
    refine R_iload cd_78_27 rfl ?_
    refine R_push cd_78_28 ?_
    refine R_icmp_ne 55 cd_78_29 rfl (fun b29 => ?_) (fun b29 => ?_)
    · refine R_iload cd_78_55 rfl ?_
      refine R_push cd_78_57 ?_
      refine R_push cd_78_60 ?_
      refine R_call3 cd_78_63 rfl rfl K_Model_isIn ?_
      refine R_istore cd_78_66 ?_
      refine R_aload cd_78_68 rfl ?_
      refine R_iload cd_78_69 rfl ?_
      refine R_if_ne 78 cd_78_71 rfl (fun h => absurd h (by decide)) (fun _ => ?_)
      refine R_push cd_78_74 ?_
      refine R_goto cd_78_75 ?_
      refine R_call2 cd_78_115 rfl rfl K_Model_fails ?_
      refine R_ifeq_b 123 cd_78_118 rfl (fun h => absurd h (by decide)) (fun _ => ?_)
      refine R_push cd_78_121 ?_
      exact R_iret cd_78_122 (by first | rfl | omega) rfl
    · refine R_iload cd_78_32 rfl ?_
      refine R_push cd_78_34 ?_
      refine R_push cd_78_35 ?_
      refine R_call3 cd_78_36 rfl rfl K_Model_isIn ?_
      refine R_ifeq_b 51 cd_78_39 rfl (fun b39 => ?_) (fun b39 => ?_)
      · refine R_push cd_78_51 ?_
        refine R_goto cd_78_52 ?_
        refine R_istore cd_78_66 ?_
        refine R_aload cd_78_68 rfl ?_
        refine R_iload cd_78_69 rfl ?_
        refine R_if_ne 78 cd_78_71 rfl (fun h => absurd h (by decide)) (fun _ => ?_)
        refine R_push cd_78_74 ?_
        refine R_goto cd_78_75 ?_
        refine R_call2 cd_78_115 rfl rfl K_Model_fails ?_
        refine R_ifeq_b 123 cd_78_118 rfl (fun h => absurd h (by decide)) (fun _ => ?_)
        refine R_push cd_78_121 ?_
        exact R_iret cd_78_122 (by first | rfl | omega) rfl
      · refine R_iload cd_78_42 rfl ?_
        refine R_if_ne 51 cd_78_44 rfl (fun b44 => ?_) (fun b44 => ?_)
        · refine R_push cd_78_51 ?_
          refine R_goto cd_78_52 ?_
          refine R_istore cd_78_66 ?_
          refine R_aload cd_78_68 rfl ?_
          refine R_iload cd_78_69 rfl ?_
          refine R_if_ne 78 cd_78_71 rfl (fun h => absurd h (by decide)) (fun _ => ?_)
          refine R_push cd_78_74 ?_
          refine R_goto cd_78_75 ?_
          refine R_call2 cd_78_115 rfl rfl K_Model_fails ?_
          refine R_ifeq_b 123 cd_78_118 rfl (fun h => absurd h (by decide)) (fun _ => ?_)
          refine R_push cd_78_121 ?_
          exact R_iret cd_78_122 (by first | rfl | omega) rfl
        · refine R_push cd_78_47 ?_
          refine R_goto cd_78_48 ?_
          refine R_istore cd_78_66 ?_
          refine R_aload cd_78_68 rfl ?_
          refine R_iload cd_78_69 rfl ?_
          refine R_if_ne 78 cd_78_71 rfl (fun h => absurd h (by decide)) (fun _ => ?_)
          refine R_push cd_78_74 ?_
          refine R_goto cd_78_75 ?_
          refine R_call2 cd_78_115 rfl rfl K_Model_fails ?_
          refine R_ifeq_b 123 cd_78_118 rfl (fun h => absurd h (by decide)) (fun _ => ?_)
          refine R_push cd_78_121 ?_
          exact R_iret cd_78_122 (by first | rfl | omega) rfl
  · refine R_iload cd_78_10 rfl ?_
    refine R_push cd_78_12 ?_
    refine R_push cd_78_13 ?_
    refine R_call3 cd_78_14 rfl rfl K_Model_isIn ?_
    refine R_ifeq_b 24 cd_78_17 rfl (fun b17 => ?_) (fun b17 => ?_)
    · refine R_push cd_78_24 ?_
      refine R_istore cd_78_25 ?_
      refine R_iload cd_78_27 rfl ?_
      refine R_push cd_78_28 ?_
      refine R_icmp_ne 55 cd_78_29 rfl (fun b29 => ?_) (fun b29 => ?_)
      · refine R_iload cd_78_55 rfl ?_
        refine R_push cd_78_57 ?_
        refine R_push cd_78_60 ?_
        refine R_call3 cd_78_63 rfl rfl K_Model_isIn ?_
        refine R_istore cd_78_66 ?_
        refine R_aload cd_78_68 rfl ?_
        refine R_iload cd_78_69 rfl ?_
        refine R_if_ne 78 cd_78_71 rfl (fun h => absurd h (by decide)) (fun _ => ?_)
        refine R_push cd_78_74 ?_
        refine R_goto cd_78_75 ?_
        refine R_call2 cd_78_115 rfl rfl K_Model_fails ?_
        refine R_ifeq_b 123 cd_78_118 rfl (fun h => absurd h (by decide)) (fun _ => ?_)
        refine R_push cd_78_121 ?_
        exact R_iret cd_78_122 (by first | rfl | omega) rfl
      · refine R_iload cd_78_32 rfl ?_
        refine R_push cd_78_34 ?_
        refine R_push cd_78_35 ?_
        refine R_call3 cd_78_36 rfl rfl K_Model_isIn ?_
        refine R_ifeq_b 51 cd_78_39 rfl (fun b39 => ?_) (fun b39 => ?_)
        · refine R_push cd_78_51 ?_
          refine R_goto cd_78_52 ?_
          refine R_istore cd_78_66 ?_
          refine R_aload cd_78_68 rfl ?_
          refine R_iload cd_78_69 rfl ?_
          refine R_if_ne 78 cd_78_71 rfl (fun h => absurd h (by decide)) (fun _ => ?_)
          refine R_push cd_78_74 ?_
          refine R_goto cd_78_75 ?_
          refine R_call2 cd_78_115 rfl rfl K_Model_fails ?_
          refine R_ifeq_b 123 cd_78_118 rfl (fun h => absurd h (by decide)) (fun _ => ?_)
          refine R_push cd_78_121 ?_
          exact R_iret cd_78_122 (by first | rfl | omega) rfl
        · refine R_iload cd_78_42 rfl ?_
          refine R_if_ne 51 cd_78_44 rfl (fun b44 => ?_) (fun b44 => ?_)
          · refine R_push cd_78_51 ?_
            refine R_goto cd_78_52 ?_
            refine R_istore cd_78_66 ?_
            refine R_aload cd_78_68 rfl ?_
            refine R_iload cd_78_69 rfl ?_
            refine R_if_ne 78 cd_78_71 rfl (fun h => absurd h (by decide)) (fun _ => ?_)
            refine R_push cd_78_74 ?_
            refine R_goto cd_78_75 ?_
            refine R_call2 cd_78_115 rfl rfl K_Model_fails ?_
            refine R_ifeq_b 123 cd_78_118 rfl (fun h => absurd h (by decide)) (fun _ => ?_)
            refine R_push cd_78_121 ?_
            exact R_iret cd_78_122 (by first | rfl | omega) rfl
          · refine R_push cd_78_47 ?_
            refine R_goto cd_78_48 ?_
            refine R_istore cd_78_66 ?_
            refine R_aload cd_78_68 rfl ?_
            refine R_iload cd_78_69 rfl ?_
            refine R_if_ne 78 cd_78_71 rfl (fun h => absurd h (by decide)) (fun _ => ?_)
            refine R_push cd_78_74 ?_
            refine R_goto cd_78_75 ?_
            refine R_call2 cd_78_115 rfl rfl K_Model_fails ?_
            refine R_ifeq_b 123 cd_78_118 rfl (fun h => absurd h (by decide)) (fun _ => ?_)
            refine R_push cd_78_121 ?_
            exact R_iret cd_78_122 (by first | rfl | omega) rfl
    · refine R_push cd_78_20 ?_
      refine R_goto cd_78_21 ?_
      refine R_istore cd_78_25 ?_
      refine R_iload cd_78_27 rfl ?_
      refine R_push cd_78_28 ?_
      refine R_icmp_ne 55 cd_78_29 rfl (fun b29 => ?_) (fun b29 => ?_)
      · refine R_iload cd_78_55 rfl ?_
        refine R_push cd_78_57 ?_
        refine R_push cd_78_60 ?_
        refine R_call3 cd_78_63 rfl rfl K_Model_isIn ?_
        refine R_istore cd_78_66 ?_
        refine R_aload cd_78_68 rfl ?_
        refine R_iload cd_78_69 rfl ?_
        refine R_if_ne 78 cd_78_71 rfl (fun _ => ?_) (fun h => absurd h (by decide))
        refine R_iload cd_78_78 rfl ?_
        refine R_ifne_b 87 cd_78_80 rfl (fun b80 => ?_) (fun b80 => ?_)
        · exfalso
          omega
        · refine R_push cd_78_83 ?_
          refine R_goto cd_78_84 ?_
          exfalso
          omega
      · refine R_iload cd_78_32 rfl ?_
        refine R_push cd_78_34 ?_
        refine R_push cd_78_35 ?_
        refine R_call3 cd_78_36 rfl rfl K_Model_isIn ?_
        refine R_ifeq_b 51 cd_78_39 rfl (fun b39 => ?_) (fun b39 => ?_)
        · refine R_push cd_78_51 ?_
          refine R_goto cd_78_52 ?_
          refine R_istore cd_78_66 ?_
          refine R_aload cd_78_68 rfl ?_
          refine R_iload cd_78_69 rfl ?_
          refine R_if_ne 78 cd_78_71 rfl (fun _ => ?_) (fun h => absurd h (by decide))
          refine R_iload cd_78_78 rfl ?_
          refine R_if_ne 87 cd_78_80 rfl (fun h => absurd h (by decide)) (fun _ => ?_)
          refine R_push cd_78_83 ?_
          refine R_goto cd_78_84 ?_
          exfalso
          omega
        · refine R_iload cd_78_42 rfl ?_
          refine R_if_ne 51 cd_78_44 rfl (fun b44 => ?_) (fun b44 => ?_)
          · refine R_push cd_78_51 ?_
            refine R_goto cd_78_52 ?_
            refine R_istore cd_78_66 ?_
            refine R_aload cd_78_68 rfl ?_
            refine R_iload cd_78_69 rfl ?_
            refine R_if_ne 78 cd_78_71 rfl (fun _ => ?_) (fun h => absurd h (by decide))
            refine R_iload cd_78_78 rfl ?_
            refine R_if_ne 87 cd_78_80 rfl (fun h => absurd h (by decide)) (fun _ => ?_)
            refine R_push cd_78_83 ?_
            refine R_goto cd_78_84 ?_
            exfalso
            omega
          · refine R_push cd_78_47 ?_
            refine R_goto cd_78_48 ?_
            refine R_istore cd_78_66 ?_
            refine R_aload cd_78_68 rfl ?_
            refine R_iload cd_78_69 rfl ?_
            refine R_if_ne 78 cd_78_71 rfl (fun _ => ?_) (fun h => absurd h (by decide))
            refine R_iload cd_78_78 rfl ?_
            refine R_if_ne 87 cd_78_80 rfl (fun _ => ?_) (fun h => absurd h (by decide))
            exfalso
            omega
theorem K_Model_keyX2 {b c f v a s : Int} {M : qa_Mem} (h1 : 0 ≤ M 6 0) (h2 : M 6 0 ≤ 8) (h3 : qm_cell M b c f ∧ 0 ≤ a ∧ a ≤ 5) (h4 : ¬ ((c = 2 → (0 ≤ v ∧ v ≤ 3) ∧ s = 0) ∧ (c ≠ 2 → -200 ≤ v ∧ v ≤ 200))) : qa_E 78 0 [(0, qr 6), (1, qi (b)), (2, qi (c)), (3, qi (f)), (4, qi (v)), (5, qi (a)), (6, qi (s))] [] (M) (.inl (some (qi (0)))) (qa_upd M 6 26 2) := by
  unfold qm_cell at h3
  refine R_aload cd_78_0 rfl ?_
  refine R_iload cd_78_1 rfl ?_
  refine R_iload cd_78_2 rfl ?_
  refine R_iload cd_78_3 rfl ?_
  refine R_call4 cd_78_4 rfl rfl (K_Model_isPlace (by omega) (by omega)) ?_
  refine R_ifeq_b 24 cd_78_7 rfl (fun b7 => ?_) (fun b7 => ?_)
  · refine R_push cd_78_24 ?_
    refine R_istore cd_78_25 ?_
    refine R_iload cd_78_27 rfl ?_
    refine R_push cd_78_28 ?_
    refine R_icmp_ne 55 cd_78_29 rfl (fun b29 => ?_) (fun b29 => ?_)
    · refine R_iload cd_78_55 rfl ?_
      refine R_push cd_78_57 ?_
      refine R_push cd_78_60 ?_
      refine R_call3 cd_78_63 rfl rfl K_Model_isIn ?_
      refine R_istore cd_78_66 ?_
      refine R_aload cd_78_68 rfl ?_
      refine R_iload cd_78_69 rfl ?_
      refine R_if_ne 78 cd_78_71 rfl (fun h => absurd h (by decide)) (fun _ => ?_)
      refine R_push cd_78_74 ?_
      refine R_goto cd_78_75 ?_
      exfalso
      omega
    · refine R_iload cd_78_32 rfl ?_
      refine R_push cd_78_34 ?_
      refine R_push cd_78_35 ?_
      refine R_call3 cd_78_36 rfl rfl K_Model_isIn ?_
      refine R_ifeq_b 51 cd_78_39 rfl (fun b39 => ?_) (fun b39 => ?_)
      · refine R_push cd_78_51 ?_
        refine R_goto cd_78_52 ?_
        refine R_istore cd_78_66 ?_
        refine R_aload cd_78_68 rfl ?_
        refine R_iload cd_78_69 rfl ?_
        refine R_if_ne 78 cd_78_71 rfl (fun h => absurd h (by decide)) (fun _ => ?_)
        refine R_push cd_78_74 ?_
        refine R_goto cd_78_75 ?_
        exfalso
        omega
      · refine R_iload cd_78_42 rfl ?_
        refine R_if_ne 51 cd_78_44 rfl (fun b44 => ?_) (fun b44 => ?_)
        · refine R_push cd_78_51 ?_
          refine R_goto cd_78_52 ?_
          refine R_istore cd_78_66 ?_
          refine R_aload cd_78_68 rfl ?_
          refine R_iload cd_78_69 rfl ?_
          refine R_if_ne 78 cd_78_71 rfl (fun h => absurd h (by decide)) (fun _ => ?_)
          refine R_push cd_78_74 ?_
          refine R_goto cd_78_75 ?_
          exfalso
          omega
        · refine R_push cd_78_47 ?_
          refine R_goto cd_78_48 ?_
          refine R_istore cd_78_66 ?_
          refine R_aload cd_78_68 rfl ?_
          refine R_iload cd_78_69 rfl ?_
          refine R_if_ne 78 cd_78_71 rfl (fun h => absurd h (by decide)) (fun _ => ?_)
          refine R_push cd_78_74 ?_
          refine R_goto cd_78_75 ?_
          exfalso
          omega
  · refine R_iload cd_78_10 rfl ?_
    refine R_push cd_78_12 ?_
    refine R_push cd_78_13 ?_
    refine R_call3 cd_78_14 rfl rfl K_Model_isIn ?_
    refine R_ifeq_b 24 cd_78_17 rfl (fun b17 => ?_) (fun b17 => ?_)
    · refine R_push cd_78_24 ?_
      refine R_istore cd_78_25 ?_
      refine R_iload cd_78_27 rfl ?_
      refine R_push cd_78_28 ?_
      refine R_icmp_ne 55 cd_78_29 rfl (fun b29 => ?_) (fun b29 => ?_)
      · refine R_iload cd_78_55 rfl ?_
        refine R_push cd_78_57 ?_
        refine R_push cd_78_60 ?_
        refine R_call3 cd_78_63 rfl rfl K_Model_isIn ?_
        refine R_istore cd_78_66 ?_
        refine R_aload cd_78_68 rfl ?_
        refine R_iload cd_78_69 rfl ?_
        refine R_if_ne 78 cd_78_71 rfl (fun h => absurd h (by decide)) (fun _ => ?_)
        refine R_push cd_78_74 ?_
        refine R_goto cd_78_75 ?_
        exfalso
        omega
      · refine R_iload cd_78_32 rfl ?_
        refine R_push cd_78_34 ?_
        refine R_push cd_78_35 ?_
        refine R_call3 cd_78_36 rfl rfl K_Model_isIn ?_
        refine R_ifeq_b 51 cd_78_39 rfl (fun b39 => ?_) (fun b39 => ?_)
        · refine R_push cd_78_51 ?_
          refine R_goto cd_78_52 ?_
          refine R_istore cd_78_66 ?_
          refine R_aload cd_78_68 rfl ?_
          refine R_iload cd_78_69 rfl ?_
          refine R_if_ne 78 cd_78_71 rfl (fun h => absurd h (by decide)) (fun _ => ?_)
          refine R_push cd_78_74 ?_
          refine R_goto cd_78_75 ?_
          exfalso
          omega
        · refine R_iload cd_78_42 rfl ?_
          refine R_if_ne 51 cd_78_44 rfl (fun b44 => ?_) (fun b44 => ?_)
          · refine R_push cd_78_51 ?_
            refine R_goto cd_78_52 ?_
            refine R_istore cd_78_66 ?_
            refine R_aload cd_78_68 rfl ?_
            refine R_iload cd_78_69 rfl ?_
            refine R_if_ne 78 cd_78_71 rfl (fun h => absurd h (by decide)) (fun _ => ?_)
            refine R_push cd_78_74 ?_
            refine R_goto cd_78_75 ?_
            exfalso
            omega
          · refine R_push cd_78_47 ?_
            refine R_goto cd_78_48 ?_
            refine R_istore cd_78_66 ?_
            refine R_aload cd_78_68 rfl ?_
            refine R_iload cd_78_69 rfl ?_
            refine R_if_ne 78 cd_78_71 rfl (fun h => absurd h (by decide)) (fun _ => ?_)
            refine R_push cd_78_74 ?_
            refine R_goto cd_78_75 ?_
            exfalso
            omega
    · refine R_push cd_78_20 ?_
      refine R_goto cd_78_21 ?_
      refine R_istore cd_78_25 ?_
      refine R_iload cd_78_27 rfl ?_
      refine R_push cd_78_28 ?_
      refine R_icmp_ne 55 cd_78_29 rfl (fun b29 => ?_) (fun b29 => ?_)
      · refine R_iload cd_78_55 rfl ?_
        refine R_push cd_78_57 ?_
        refine R_push cd_78_60 ?_
        refine R_call3 cd_78_63 rfl rfl K_Model_isIn ?_
        refine R_istore cd_78_66 ?_
        refine R_aload cd_78_68 rfl ?_
        refine R_iload cd_78_69 rfl ?_
        refine R_if_ne 78 cd_78_71 rfl (fun _ => ?_) (fun h => absurd h (by decide))
        refine R_iload cd_78_78 rfl ?_
        refine R_ifne_b 87 cd_78_80 rfl (fun b80 => ?_) (fun b80 => ?_)
        · exfalso
          omega
        · refine R_push cd_78_83 ?_
          refine R_goto cd_78_84 ?_
          refine R_call2 cd_78_115 rfl rfl K_Model_fails ?_
          refine R_ifeq_b 123 cd_78_118 rfl (fun h => absurd h (by decide)) (fun _ => ?_)
          refine R_push cd_78_121 ?_
          exact R_iret cd_78_122 (by first | rfl | omega) rfl
      · refine R_iload cd_78_32 rfl ?_
        refine R_push cd_78_34 ?_
        refine R_push cd_78_35 ?_
        refine R_call3 cd_78_36 rfl rfl K_Model_isIn ?_
        refine R_ifeq_b 51 cd_78_39 rfl (fun b39 => ?_) (fun b39 => ?_)
        · refine R_push cd_78_51 ?_
          refine R_goto cd_78_52 ?_
          refine R_istore cd_78_66 ?_
          refine R_aload cd_78_68 rfl ?_
          refine R_iload cd_78_69 rfl ?_
          refine R_if_ne 78 cd_78_71 rfl (fun _ => ?_) (fun h => absurd h (by decide))
          refine R_iload cd_78_78 rfl ?_
          refine R_if_ne 87 cd_78_80 rfl (fun h => absurd h (by decide)) (fun _ => ?_)
          refine R_push cd_78_83 ?_
          refine R_goto cd_78_84 ?_
          refine R_call2 cd_78_115 rfl rfl K_Model_fails ?_
          refine R_ifeq_b 123 cd_78_118 rfl (fun h => absurd h (by decide)) (fun _ => ?_)
          refine R_push cd_78_121 ?_
          exact R_iret cd_78_122 (by first | rfl | omega) rfl
        · refine R_iload cd_78_42 rfl ?_
          refine R_if_ne 51 cd_78_44 rfl (fun b44 => ?_) (fun b44 => ?_)
          · refine R_push cd_78_51 ?_
            refine R_goto cd_78_52 ?_
            refine R_istore cd_78_66 ?_
            refine R_aload cd_78_68 rfl ?_
            refine R_iload cd_78_69 rfl ?_
            refine R_if_ne 78 cd_78_71 rfl (fun _ => ?_) (fun h => absurd h (by decide))
            refine R_iload cd_78_78 rfl ?_
            refine R_if_ne 87 cd_78_80 rfl (fun h => absurd h (by decide)) (fun _ => ?_)
            refine R_push cd_78_83 ?_
            refine R_goto cd_78_84 ?_
            refine R_call2 cd_78_115 rfl rfl K_Model_fails ?_
            refine R_ifeq_b 123 cd_78_118 rfl (fun h => absurd h (by decide)) (fun _ => ?_)
            refine R_push cd_78_121 ?_
            exact R_iret cd_78_122 (by first | rfl | omega) rfl
          · refine R_push cd_78_47 ?_
            refine R_goto cd_78_48 ?_
            refine R_istore cd_78_66 ?_
            refine R_aload cd_78_68 rfl ?_
            refine R_iload cd_78_69 rfl ?_
            refine R_if_ne 78 cd_78_71 rfl (fun _ => ?_) (fun h => absurd h (by decide))
            refine R_iload cd_78_78 rfl ?_
            refine R_if_ne 87 cd_78_80 rfl (fun _ => ?_) (fun h => absurd h (by decide))
            exfalso
            omega
theorem K_Model_keyX3 {b c f v a s : Int} {M : qa_Mem} (h1 : 0 ≤ M 6 0) (h2 : M 6 0 ≤ 8) (h3 : qm_cell M b c f ∧ 0 ≤ a ∧ a ≤ 5) (h4 : (c = 2 → (0 ≤ v ∧ v ≤ 3) ∧ s = 0) ∧ (c ≠ 2 → -200 ≤ v ∧ v ≤ 200)) (h6 : M 6 4 = 80) (h7 : M 32 (120 * (3 * b + c) + f) = 0) : qa_E 78 0 [(0, qr 6), (1, qi (b)), (2, qi (c)), (3, qi (f)), (4, qi (v)), (5, qi (a)), (6, qi (s))] [] (M) (.inl (some (qi (0)))) (qa_upd M 6 26 3) := by
  unfold qm_cell at h3
  refine R_aload cd_78_0 rfl ?_
  refine R_iload cd_78_1 rfl ?_
  refine R_iload cd_78_2 rfl ?_
  refine R_iload cd_78_3 rfl ?_
  refine R_call4 cd_78_4 rfl rfl (K_Model_isPlace (by omega) (by omega)) ?_
  refine R_ifeq_b 24 cd_78_7 rfl (fun b7 => ?_) (fun b7 => ?_)
  · refine R_push cd_78_24 ?_
    refine R_istore cd_78_25 ?_
    refine R_iload cd_78_27 rfl ?_
    refine R_push cd_78_28 ?_
    refine R_icmp_ne 55 cd_78_29 rfl (fun b29 => ?_) (fun b29 => ?_)
    · refine R_iload cd_78_55 rfl ?_
      refine R_push cd_78_57 ?_
      refine R_push cd_78_60 ?_
      refine R_call3 cd_78_63 rfl rfl K_Model_isIn ?_
      refine R_istore cd_78_66 ?_
      refine R_aload cd_78_68 rfl ?_
      refine R_iload cd_78_69 rfl ?_
      refine R_if_ne 78 cd_78_71 rfl (fun h => absurd h (by decide)) (fun _ => ?_)
      refine R_push cd_78_74 ?_
      refine R_goto cd_78_75 ?_
      exfalso
      omega
    · refine R_iload cd_78_32 rfl ?_
      refine R_push cd_78_34 ?_
      refine R_push cd_78_35 ?_
      refine R_call3 cd_78_36 rfl rfl K_Model_isIn ?_
      refine R_ifeq_b 51 cd_78_39 rfl (fun b39 => ?_) (fun b39 => ?_)
      · refine R_push cd_78_51 ?_
        refine R_goto cd_78_52 ?_
        refine R_istore cd_78_66 ?_
        refine R_aload cd_78_68 rfl ?_
        refine R_iload cd_78_69 rfl ?_
        refine R_if_ne 78 cd_78_71 rfl (fun h => absurd h (by decide)) (fun _ => ?_)
        refine R_push cd_78_74 ?_
        refine R_goto cd_78_75 ?_
        exfalso
        omega
      · refine R_iload cd_78_42 rfl ?_
        refine R_if_ne 51 cd_78_44 rfl (fun b44 => ?_) (fun b44 => ?_)
        · refine R_push cd_78_51 ?_
          refine R_goto cd_78_52 ?_
          refine R_istore cd_78_66 ?_
          refine R_aload cd_78_68 rfl ?_
          refine R_iload cd_78_69 rfl ?_
          refine R_if_ne 78 cd_78_71 rfl (fun h => absurd h (by decide)) (fun _ => ?_)
          refine R_push cd_78_74 ?_
          refine R_goto cd_78_75 ?_
          exfalso
          omega
        · refine R_push cd_78_47 ?_
          refine R_goto cd_78_48 ?_
          refine R_istore cd_78_66 ?_
          refine R_aload cd_78_68 rfl ?_
          refine R_iload cd_78_69 rfl ?_
          refine R_if_ne 78 cd_78_71 rfl (fun h => absurd h (by decide)) (fun _ => ?_)
          refine R_push cd_78_74 ?_
          refine R_goto cd_78_75 ?_
          exfalso
          omega
  · refine R_iload cd_78_10 rfl ?_
    refine R_push cd_78_12 ?_
    refine R_push cd_78_13 ?_
    refine R_call3 cd_78_14 rfl rfl K_Model_isIn ?_
    refine R_ifeq_b 24 cd_78_17 rfl (fun b17 => ?_) (fun b17 => ?_)
    · refine R_push cd_78_24 ?_
      refine R_istore cd_78_25 ?_
      refine R_iload cd_78_27 rfl ?_
      refine R_push cd_78_28 ?_
      refine R_icmp_ne 55 cd_78_29 rfl (fun b29 => ?_) (fun b29 => ?_)
      · refine R_iload cd_78_55 rfl ?_
        refine R_push cd_78_57 ?_
        refine R_push cd_78_60 ?_
        refine R_call3 cd_78_63 rfl rfl K_Model_isIn ?_
        refine R_istore cd_78_66 ?_
        refine R_aload cd_78_68 rfl ?_
        refine R_iload cd_78_69 rfl ?_
        refine R_if_ne 78 cd_78_71 rfl (fun h => absurd h (by decide)) (fun _ => ?_)
        refine R_push cd_78_74 ?_
        refine R_goto cd_78_75 ?_
        exfalso
        omega
      · refine R_iload cd_78_32 rfl ?_
        refine R_push cd_78_34 ?_
        refine R_push cd_78_35 ?_
        refine R_call3 cd_78_36 rfl rfl K_Model_isIn ?_
        refine R_ifeq_b 51 cd_78_39 rfl (fun b39 => ?_) (fun b39 => ?_)
        · refine R_push cd_78_51 ?_
          refine R_goto cd_78_52 ?_
          refine R_istore cd_78_66 ?_
          refine R_aload cd_78_68 rfl ?_
          refine R_iload cd_78_69 rfl ?_
          refine R_if_ne 78 cd_78_71 rfl (fun h => absurd h (by decide)) (fun _ => ?_)
          refine R_push cd_78_74 ?_
          refine R_goto cd_78_75 ?_
          exfalso
          omega
        · refine R_iload cd_78_42 rfl ?_
          refine R_if_ne 51 cd_78_44 rfl (fun b44 => ?_) (fun b44 => ?_)
          · refine R_push cd_78_51 ?_
            refine R_goto cd_78_52 ?_
            refine R_istore cd_78_66 ?_
            refine R_aload cd_78_68 rfl ?_
            refine R_iload cd_78_69 rfl ?_
            refine R_if_ne 78 cd_78_71 rfl (fun h => absurd h (by decide)) (fun _ => ?_)
            refine R_push cd_78_74 ?_
            refine R_goto cd_78_75 ?_
            exfalso
            omega
          · refine R_push cd_78_47 ?_
            refine R_goto cd_78_48 ?_
            refine R_istore cd_78_66 ?_
            refine R_aload cd_78_68 rfl ?_
            refine R_iload cd_78_69 rfl ?_
            refine R_if_ne 78 cd_78_71 rfl (fun h => absurd h (by decide)) (fun _ => ?_)
            refine R_push cd_78_74 ?_
            refine R_goto cd_78_75 ?_
            exfalso
            omega
    · refine R_push cd_78_20 ?_
      refine R_goto cd_78_21 ?_
      refine R_istore cd_78_25 ?_
      refine R_iload cd_78_27 rfl ?_
      refine R_push cd_78_28 ?_
      refine R_icmp_ne 55 cd_78_29 rfl (fun b29 => ?_) (fun b29 => ?_)
      · refine R_iload cd_78_55 rfl ?_
        refine R_push cd_78_57 ?_
        refine R_push cd_78_60 ?_
        refine R_call3 cd_78_63 rfl rfl K_Model_isIn ?_
        refine R_istore cd_78_66 ?_
        refine R_aload cd_78_68 rfl ?_
        refine R_iload cd_78_69 rfl ?_
        refine R_if_ne 78 cd_78_71 rfl (fun _ => ?_) (fun h => absurd h (by decide))
        refine R_iload cd_78_78 rfl ?_
        refine R_ifne_b 87 cd_78_80 rfl (fun b80 => ?_) (fun b80 => ?_)
        · refine R_aload cd_78_87 rfl ?_
          refine R_getf cd_78_88 rfl (by decide) ?_
          refine R_push cd_78_91 ?_
          refine R_icmp_ne 114 cd_78_93 rfl (fun b93 => ?_) (fun b93 => ?_)
          · refine R_push cd_78_114 ?_
            exfalso
            omega
          · refine R_aload cd_78_96 rfl ?_
            refine R_getr cd_78_97 rfl ?_
            refine R_iload cd_78_100 rfl ?_
            refine R_iload cd_78_101 rfl ?_
            refine R_iload cd_78_102 rfl ?_
            refine R_call3 cd_78_103 rfl rfl (K_Model_at (by omega) (by omega) (by omega) (by omega) (by omega) (by omega)) ?_
            refine R_zald cd_78_106 rfl (by first | omega | (simp [qa_upd, qa_blk] <;> omega)) (by first | omega | (simp [qa_upd, qa_blk] <;> omega)) ?_
            refine R_if_ne 114 cd_78_107 rfl (fun b107 => ?_) (fun b107 => ?_)
            · refine R_push cd_78_114 ?_
              exfalso
              omega
            · refine R_push cd_78_110 ?_
              refine R_goto cd_78_111 ?_
              refine R_call2 cd_78_115 rfl rfl K_Model_fails ?_
              refine R_ifeq_b 123 cd_78_118 rfl (fun h => absurd h (by decide)) (fun _ => ?_)
              refine R_push cd_78_121 ?_
              exact R_iret cd_78_122 (by first | rfl | omega) rfl
        · refine R_push cd_78_83 ?_
          refine R_goto cd_78_84 ?_
          exfalso
          omega
      · refine R_iload cd_78_32 rfl ?_
        refine R_push cd_78_34 ?_
        refine R_push cd_78_35 ?_
        refine R_call3 cd_78_36 rfl rfl K_Model_isIn ?_
        refine R_ifeq_b 51 cd_78_39 rfl (fun b39 => ?_) (fun b39 => ?_)
        · refine R_push cd_78_51 ?_
          refine R_goto cd_78_52 ?_
          refine R_istore cd_78_66 ?_
          refine R_aload cd_78_68 rfl ?_
          refine R_iload cd_78_69 rfl ?_
          refine R_if_ne 78 cd_78_71 rfl (fun _ => ?_) (fun h => absurd h (by decide))
          refine R_iload cd_78_78 rfl ?_
          refine R_if_ne 87 cd_78_80 rfl (fun h => absurd h (by decide)) (fun _ => ?_)
          refine R_push cd_78_83 ?_
          refine R_goto cd_78_84 ?_
          exfalso
          omega
        · refine R_iload cd_78_42 rfl ?_
          refine R_if_ne 51 cd_78_44 rfl (fun b44 => ?_) (fun b44 => ?_)
          · refine R_push cd_78_51 ?_
            refine R_goto cd_78_52 ?_
            refine R_istore cd_78_66 ?_
            refine R_aload cd_78_68 rfl ?_
            refine R_iload cd_78_69 rfl ?_
            refine R_if_ne 78 cd_78_71 rfl (fun _ => ?_) (fun h => absurd h (by decide))
            refine R_iload cd_78_78 rfl ?_
            refine R_if_ne 87 cd_78_80 rfl (fun h => absurd h (by decide)) (fun _ => ?_)
            refine R_push cd_78_83 ?_
            refine R_goto cd_78_84 ?_
            exfalso
            omega
          · refine R_push cd_78_47 ?_
            refine R_goto cd_78_48 ?_
            refine R_istore cd_78_66 ?_
            refine R_aload cd_78_68 rfl ?_
            refine R_iload cd_78_69 rfl ?_
            refine R_if_ne 78 cd_78_71 rfl (fun _ => ?_) (fun h => absurd h (by decide))
            refine R_iload cd_78_78 rfl ?_
            refine R_if_ne 87 cd_78_80 rfl (fun _ => ?_) (fun h => absurd h (by decide))
            refine R_aload cd_78_87 rfl ?_
            refine R_getf cd_78_88 rfl (by decide) ?_
            refine R_push cd_78_91 ?_
            refine R_icmp_ne 114 cd_78_93 rfl (fun b93 => ?_) (fun b93 => ?_)
            · refine R_push cd_78_114 ?_
              exfalso
              omega
            · refine R_aload cd_78_96 rfl ?_
              refine R_getr cd_78_97 rfl ?_
              refine R_iload cd_78_100 rfl ?_
              refine R_iload cd_78_101 rfl ?_
              refine R_iload cd_78_102 rfl ?_
              refine R_call3 cd_78_103 rfl rfl (K_Model_at (by omega) (by omega) (by omega) (by omega) (by omega) (by omega)) ?_
              refine R_zald cd_78_106 rfl (by first | omega | (simp [qa_upd, qa_blk] <;> omega)) (by first | omega | (simp [qa_upd, qa_blk] <;> omega)) ?_
              refine R_if_ne 114 cd_78_107 rfl (fun b107 => ?_) (fun b107 => ?_)
              · refine R_push cd_78_114 ?_
                exfalso
                omega
              · refine R_push cd_78_110 ?_
                refine R_goto cd_78_111 ?_
                refine R_call2 cd_78_115 rfl rfl K_Model_fails ?_
                refine R_ifeq_b 123 cd_78_118 rfl (fun h => absurd h (by decide)) (fun _ => ?_)
                refine R_push cd_78_121 ?_
                exact R_iret cd_78_122 (by first | rfl | omega) rfl
def qm_key (M : qa_Mem) (j v a s : Int) : qa_Mem := qa_upd (qa_upd (qa_upd (qa_upd (qa_upd (qa_upd M 6 26 0) 6 4 (M 6 4 + (if M 32 j = 0 then 1 else 0))) 32 j 1) 33 j v) 34 j a) 35 j s
theorem qv_v_upd {M : qa_Mem} {k : Nat} {j v : Int} (h : qv_v (M k)) (hv : -200 ≤ v ∧ v ≤ 200) : qv_v ((qa_upd M k j v) k) := by
  intro i h1 h2
  by_cases hi : i = j
  · subst hi; rw [qa_upd_e]; exact hv
  · rw [qa_upd_i hi]; exact h i h1 h2
theorem K_Model_key0 {b c f v a s : Int} {M : qa_Mem} (hw : qm_wf M) (h3 : qm_cell M b c f ∧ 0 ≤ a ∧ a ≤ 5) (h4 : (c = 2 → (0 ≤ v ∧ v ≤ 3) ∧ s = 0) ∧ (c ≠ 2 → -200 ≤ v ∧ v ≤ 200)) (h5 : 0 ≤ M 6 4) (h6 : M 6 4 ≤ 80) (h7 : M 6 4 < 80 ∨ M 32 (120 * (3 * b + c) + f) ≠ 0) (h8 : s = 0 ∨ s = 1) : qa_E 78 0 [(0, qr 6), (1, qi (b)), (2, qi (c)), (3, qi (f)), (4, qi (v)), (5, qi (a)), (6, qi (s))] [] (M) (.inl (some (qi (qm_vo (qm_key M (120 * (3 * b + c) + f) v a s) - qm_vo M)))) (qm_key M (120 * (3 * b + c) + f) v a s) := by
  unfold qm_cell at h3
  obtain ⟨j, hj⟩ : ∃ x, x = 120 * (3 * b + c) + f := ⟨_, rfl⟩
  have h1 := hw.1.1
  have h2 := hw.1.2
  have ka := K_Model_at (b := b) (c := c) (f := f) (M := qa_upd M 6 26 0) (by omega) (by omega) (by omega) (by omega) (by omega) (by omega)
  rw [← hj] at h7 ka ⊢
  have hw0 : qm_wf (qa_upd M 6 26 0) := ⟨hw.1, hw.2⟩
  have hv : -200 ≤ v ∧ v ≤ 200 := by omega
  have hw1 : qm_wf (qm_key M j v a s) := ⟨hw.1, qv_v_upd (M := qa_upd (qa_upd (qa_upd M 6 26 0) 6 4 (M 6 4 + (if M 32 j = 0 then 1 else 0))) 32 j 1) hw.2 hv⟩
  have q1 : 0 ≤ qm_vo (qm_key M j v a s) ∧ qm_vo (qm_key M j v a s) ≤ (120 : Nat) := qf_cnt_r _ 120
  have q2 : 0 ≤ qm_vo M ∧ qm_vo M ≤ (120 : Nat) := qf_cnt_r _ 120
  have e0 : qm_vo (qa_upd M 6 26 0) = qm_vo M := rfl
  have fin : ∀ x : Int, x = (if M 32 j = 0 then 1 else 0) → qa_E 78 157 [(0, qr 6), (1, qi b), (2, qi c), (3, qi f), (4, qi v), (5, qi a), (6, qi s), (9, qi (qm_vo M)), (10, qi j)] [qi x, qi (M 6 4), qr 6] (qa_upd M 6 26 0) (.inl (some (qi (qm_vo (qm_key M j v a s) - qm_vo M)))) (qm_key M j v a s) := by
    intro x hx
    have hx1 : 0 ≤ x ∧ x ≤ 1 := by rw [hx]; split <;> omega
    rw [hx]
    rw [hx] at hx1
    have kv := K_Model_allVoids (M := qm_key M j v a s) hw1
    refine R_iadd cd_78_157 (by unfold qa_InR; first | omega | (simp [qa_upd, qa_blk] <;> omega)) ?_
    refine R_putf cd_78_158 rfl (by decide) ?_
    refine R_aload cd_78_161 rfl ?_
    refine R_getr cd_78_162 rfl ?_
    refine R_iload cd_78_165 rfl ?_
    refine R_push cd_78_167 ?_
    refine R_zast cd_78_168 rfl (by first | omega | (simp [qa_upd, qa_blk] <;> omega)) (by first | omega | (simp [qa_upd, qa_blk] <;> omega)) (Or.inr rfl) ?_
    refine R_aload cd_78_169 rfl ?_
    refine R_getr cd_78_170 rfl ?_
    refine R_iload cd_78_173 rfl ?_
    refine R_iload cd_78_175 rfl ?_
    refine R_iast cd_78_177 rfl (by first | omega | (simp [qa_upd, qa_blk] <;> omega)) (by first | omega | (simp [qa_upd, qa_blk] <;> omega))  ?_
    refine R_aload cd_78_178 rfl ?_
    refine R_getr cd_78_179 rfl ?_
    refine R_iload cd_78_182 rfl ?_
    refine R_iload cd_78_184 rfl ?_
    refine R_iast cd_78_186 rfl (by first | omega | (simp [qa_upd, qa_blk] <;> omega)) (by first | omega | (simp [qa_upd, qa_blk] <;> omega))  ?_
    refine R_aload cd_78_187 rfl ?_
    refine R_getr cd_78_188 rfl ?_
    refine R_iload cd_78_191 rfl ?_
    refine R_iload cd_78_193 rfl ?_
    refine R_zast cd_78_195 rfl (by first | omega | (simp [qa_upd, qa_blk] <;> omega)) (by first | omega | (simp [qa_upd, qa_blk] <;> omega)) h8 ?_
    refine R_aload cd_78_196 rfl ?_
    refine R_call1 cd_78_197 rfl rfl kv ?_
    refine R_iload cd_78_200 rfl ?_
    refine R_isub cd_78_202 (by unfold qa_InR; omega) ?_
    exact R_iret cd_78_203 (by first | rfl | omega) rfl
  have fin2 : qa_E 78 123 [(0, qr 6), (1, qi b), (2, qi c), (3, qi f), (4, qi v), (5, qi a), (6, qi s)] [] (qa_upd M 6 26 0) (.inl (some (qi (qm_vo (qm_key M j v a s) - qm_vo M)))) (qm_key M j v a s) := by
    have kv0 := K_Model_allVoids (M := qa_upd M 6 26 0) hw0
    rw [e0] at kv0
    refine R_aload cd_78_123 rfl ?_
    refine R_call1 cd_78_124 rfl rfl kv0 ?_
    refine R_istore cd_78_127 ?_
    refine R_iload cd_78_129 rfl ?_
    refine R_iload cd_78_130 rfl ?_
    refine R_iload cd_78_131 rfl ?_
    refine R_call3 cd_78_132 rfl rfl ka ?_
    refine R_istore cd_78_135 ?_
    refine R_aload cd_78_137 rfl ?_
    refine R_dup cd_78_138 rfl ?_
    refine R_getf cd_78_139 rfl (by decide) ?_
    refine R_aload cd_78_142 rfl ?_
    refine R_getr cd_78_143 rfl ?_
    refine R_iload cd_78_146 rfl ?_
    refine R_zald cd_78_148 rfl (by first | omega | (simp [qa_upd, qa_blk] <;> omega)) (by first | omega | (simp [qa_upd, qa_blk] <;> omega)) ?_
    refine R_if_eq 156 cd_78_149 rfl (fun b149 => ?_) (fun b149 => ?_)
    · refine R_push cd_78_156 ?_
      first
        | exact R_norm (qs_c rfl (qs_c rfl (qs_c rfl (qs_c rfl (qs_c rfl (qs_c rfl (qs_c rfl (qs_c rfl (qs_c rfl qs_n))))))))) (fin 0 (by rw [if_neg (show ¬ M 32 j = 0 from b149)]))
        | exact R_norm (qs_c rfl (qs_c rfl (qs_c rfl (qs_c rfl (qs_c rfl (qs_c rfl (qs_c rfl (qs_c rfl (qs_c rfl qs_n))))))))) (fin 1 (by rw [if_pos (show M 32 j = 0 from b149)]))
    · refine R_push cd_78_152 ?_
      refine R_goto cd_78_153 ?_
      first
        | exact R_norm (qs_c rfl (qs_c rfl (qs_c rfl (qs_c rfl (qs_c rfl (qs_c rfl (qs_c rfl (qs_c rfl (qs_c rfl qs_n))))))))) (fin 0 (by rw [if_neg (show ¬ M 32 j = 0 from b149)]))
        | exact R_norm (qs_c rfl (qs_c rfl (qs_c rfl (qs_c rfl (qs_c rfl (qs_c rfl (qs_c rfl (qs_c rfl (qs_c rfl qs_n))))))))) (fin 1 (by rw [if_pos (show M 32 j = 0 from b149)]))
  have h7' : M 6 4 < 80 ∨ M 32 (120 * (3 * b + c) + f) ≠ 0 := by rw [← hj]; exact h7
  refine R_aload cd_78_0 rfl ?_
  refine R_iload cd_78_1 rfl ?_
  refine R_iload cd_78_2 rfl ?_
  refine R_iload cd_78_3 rfl ?_
  refine R_call4 cd_78_4 rfl rfl (K_Model_isPlace (by omega) (by omega)) ?_
  refine R_ifeq_b 24 cd_78_7 rfl (fun b7 => ?_) (fun b7 => ?_)
  · refine R_push cd_78_24 ?_
    refine R_istore cd_78_25 ?_
    refine R_iload cd_78_27 rfl ?_
    refine R_push cd_78_28 ?_
    refine R_icmp_ne 55 cd_78_29 rfl (fun b29 => ?_) (fun b29 => ?_)
    · refine R_iload cd_78_55 rfl ?_
      refine R_push cd_78_57 ?_
      refine R_push cd_78_60 ?_
      refine R_call3 cd_78_63 rfl rfl K_Model_isIn ?_
      refine R_istore cd_78_66 ?_
      refine R_aload cd_78_68 rfl ?_
      refine R_iload cd_78_69 rfl ?_
      refine R_if_ne 78 cd_78_71 rfl (fun h => absurd h (by decide)) (fun _ => ?_)
      refine R_push cd_78_74 ?_
      refine R_goto cd_78_75 ?_
      exfalso
      omega
    · refine R_iload cd_78_32 rfl ?_
      refine R_push cd_78_34 ?_
      refine R_push cd_78_35 ?_
      refine R_call3 cd_78_36 rfl rfl K_Model_isIn ?_
      refine R_ifeq_b 51 cd_78_39 rfl (fun b39 => ?_) (fun b39 => ?_)
      · refine R_push cd_78_51 ?_
        refine R_goto cd_78_52 ?_
        refine R_istore cd_78_66 ?_
        refine R_aload cd_78_68 rfl ?_
        refine R_iload cd_78_69 rfl ?_
        refine R_if_ne 78 cd_78_71 rfl (fun h => absurd h (by decide)) (fun _ => ?_)
        refine R_push cd_78_74 ?_
        refine R_goto cd_78_75 ?_
        exfalso
        omega
      · refine R_iload cd_78_42 rfl ?_
        refine R_if_ne 51 cd_78_44 rfl (fun b44 => ?_) (fun b44 => ?_)
        · refine R_push cd_78_51 ?_
          refine R_goto cd_78_52 ?_
          refine R_istore cd_78_66 ?_
          refine R_aload cd_78_68 rfl ?_
          refine R_iload cd_78_69 rfl ?_
          refine R_if_ne 78 cd_78_71 rfl (fun h => absurd h (by decide)) (fun _ => ?_)
          refine R_push cd_78_74 ?_
          refine R_goto cd_78_75 ?_
          exfalso
          omega
        · refine R_push cd_78_47 ?_
          refine R_goto cd_78_48 ?_
          refine R_istore cd_78_66 ?_
          refine R_aload cd_78_68 rfl ?_
          refine R_iload cd_78_69 rfl ?_
          refine R_if_ne 78 cd_78_71 rfl (fun h => absurd h (by decide)) (fun _ => ?_)
          refine R_push cd_78_74 ?_
          refine R_goto cd_78_75 ?_
          exfalso
          omega
  · refine R_iload cd_78_10 rfl ?_
    refine R_push cd_78_12 ?_
    refine R_push cd_78_13 ?_
    refine R_call3 cd_78_14 rfl rfl K_Model_isIn ?_
    refine R_ifeq_b 24 cd_78_17 rfl (fun b17 => ?_) (fun b17 => ?_)
    · refine R_push cd_78_24 ?_
      refine R_istore cd_78_25 ?_
      refine R_iload cd_78_27 rfl ?_
      refine R_push cd_78_28 ?_
      refine R_icmp_ne 55 cd_78_29 rfl (fun b29 => ?_) (fun b29 => ?_)
      · refine R_iload cd_78_55 rfl ?_
        refine R_push cd_78_57 ?_
        refine R_push cd_78_60 ?_
        refine R_call3 cd_78_63 rfl rfl K_Model_isIn ?_
        refine R_istore cd_78_66 ?_
        refine R_aload cd_78_68 rfl ?_
        refine R_iload cd_78_69 rfl ?_
        refine R_if_ne 78 cd_78_71 rfl (fun h => absurd h (by decide)) (fun _ => ?_)
        refine R_push cd_78_74 ?_
        refine R_goto cd_78_75 ?_
        exfalso
        omega
      · refine R_iload cd_78_32 rfl ?_
        refine R_push cd_78_34 ?_
        refine R_push cd_78_35 ?_
        refine R_call3 cd_78_36 rfl rfl K_Model_isIn ?_
        refine R_ifeq_b 51 cd_78_39 rfl (fun b39 => ?_) (fun b39 => ?_)
        · refine R_push cd_78_51 ?_
          refine R_goto cd_78_52 ?_
          refine R_istore cd_78_66 ?_
          refine R_aload cd_78_68 rfl ?_
          refine R_iload cd_78_69 rfl ?_
          refine R_if_ne 78 cd_78_71 rfl (fun h => absurd h (by decide)) (fun _ => ?_)
          refine R_push cd_78_74 ?_
          refine R_goto cd_78_75 ?_
          exfalso
          omega
        · refine R_iload cd_78_42 rfl ?_
          refine R_if_ne 51 cd_78_44 rfl (fun b44 => ?_) (fun b44 => ?_)
          · refine R_push cd_78_51 ?_
            refine R_goto cd_78_52 ?_
            refine R_istore cd_78_66 ?_
            refine R_aload cd_78_68 rfl ?_
            refine R_iload cd_78_69 rfl ?_
            refine R_if_ne 78 cd_78_71 rfl (fun h => absurd h (by decide)) (fun _ => ?_)
            refine R_push cd_78_74 ?_
            refine R_goto cd_78_75 ?_
            exfalso
            omega
          · refine R_push cd_78_47 ?_
            refine R_goto cd_78_48 ?_
            refine R_istore cd_78_66 ?_
            refine R_aload cd_78_68 rfl ?_
            refine R_iload cd_78_69 rfl ?_
            refine R_if_ne 78 cd_78_71 rfl (fun h => absurd h (by decide)) (fun _ => ?_)
            refine R_push cd_78_74 ?_
            refine R_goto cd_78_75 ?_
            exfalso
            omega
    · refine R_push cd_78_20 ?_
      refine R_goto cd_78_21 ?_
      refine R_istore cd_78_25 ?_
      refine R_iload cd_78_27 rfl ?_
      refine R_push cd_78_28 ?_
      refine R_icmp_ne 55 cd_78_29 rfl (fun b29 => ?_) (fun b29 => ?_)
      · refine R_iload cd_78_55 rfl ?_
        refine R_push cd_78_57 ?_
        refine R_push cd_78_60 ?_
        refine R_call3 cd_78_63 rfl rfl K_Model_isIn ?_
        refine R_istore cd_78_66 ?_
        refine R_aload cd_78_68 rfl ?_
        refine R_iload cd_78_69 rfl ?_
        refine R_if_ne 78 cd_78_71 rfl (fun _ => ?_) (fun h => absurd h (by decide))
        refine R_iload cd_78_78 rfl ?_
        refine R_ifne_b 87 cd_78_80 rfl (fun b80 => ?_) (fun b80 => ?_)
        · refine R_aload cd_78_87 rfl ?_
          refine R_getf cd_78_88 rfl (by decide) ?_
          refine R_push cd_78_91 ?_
          refine R_icmp_ne 114 cd_78_93 rfl (fun b93 => ?_) (fun b93 => ?_)
          · refine R_push cd_78_114 ?_
            refine R_call2 cd_78_115 rfl rfl K_Model_fails ?_
            refine R_ifeq_b 123 cd_78_118 rfl (fun _ => ?_) (fun h => absurd h (by decide))
            exact R_norm (qs_c rfl (qs_c rfl (qs_c rfl (qs_c rfl (qs_c rfl (qs_c rfl (qs_c rfl qs_n))))))) fin2
          · refine R_aload cd_78_96 rfl ?_
            refine R_getr cd_78_97 rfl ?_
            refine R_iload cd_78_100 rfl ?_
            refine R_iload cd_78_101 rfl ?_
            refine R_iload cd_78_102 rfl ?_
            refine R_call3 cd_78_103 rfl rfl (K_Model_at (by omega) (by omega) (by omega) (by omega) (by omega) (by omega)) ?_
            refine R_zald cd_78_106 rfl (by first | omega | (simp [qa_upd, qa_blk] <;> omega)) (by first | omega | (simp [qa_upd, qa_blk] <;> omega)) ?_
            refine R_if_ne 114 cd_78_107 rfl (fun b107 => ?_) (fun b107 => ?_)
            · refine R_push cd_78_114 ?_
              refine R_call2 cd_78_115 rfl rfl K_Model_fails ?_
              refine R_ifeq_b 123 cd_78_118 rfl (fun _ => ?_) (fun h => absurd h (by decide))
              exact R_norm (qs_c rfl (qs_c rfl (qs_c rfl (qs_c rfl (qs_c rfl (qs_c rfl (qs_c rfl qs_n))))))) fin2
            · refine R_push cd_78_110 ?_
              refine R_goto cd_78_111 ?_
              exfalso
              omega
        · refine R_push cd_78_83 ?_
          refine R_goto cd_78_84 ?_
          exfalso
          omega
      · refine R_iload cd_78_32 rfl ?_
        refine R_push cd_78_34 ?_
        refine R_push cd_78_35 ?_
        refine R_call3 cd_78_36 rfl rfl K_Model_isIn ?_
        refine R_ifeq_b 51 cd_78_39 rfl (fun b39 => ?_) (fun b39 => ?_)
        · refine R_push cd_78_51 ?_
          refine R_goto cd_78_52 ?_
          refine R_istore cd_78_66 ?_
          refine R_aload cd_78_68 rfl ?_
          refine R_iload cd_78_69 rfl ?_
          refine R_if_ne 78 cd_78_71 rfl (fun _ => ?_) (fun h => absurd h (by decide))
          refine R_iload cd_78_78 rfl ?_
          refine R_if_ne 87 cd_78_80 rfl (fun h => absurd h (by decide)) (fun _ => ?_)
          refine R_push cd_78_83 ?_
          refine R_goto cd_78_84 ?_
          exfalso
          omega
        · refine R_iload cd_78_42 rfl ?_
          refine R_if_ne 51 cd_78_44 rfl (fun b44 => ?_) (fun b44 => ?_)
          · refine R_push cd_78_51 ?_
            refine R_goto cd_78_52 ?_
            refine R_istore cd_78_66 ?_
            refine R_aload cd_78_68 rfl ?_
            refine R_iload cd_78_69 rfl ?_
            refine R_if_ne 78 cd_78_71 rfl (fun _ => ?_) (fun h => absurd h (by decide))
            refine R_iload cd_78_78 rfl ?_
            refine R_if_ne 87 cd_78_80 rfl (fun h => absurd h (by decide)) (fun _ => ?_)
            refine R_push cd_78_83 ?_
            refine R_goto cd_78_84 ?_
            exfalso
            omega
          · refine R_push cd_78_47 ?_
            refine R_goto cd_78_48 ?_
            refine R_istore cd_78_66 ?_
            refine R_aload cd_78_68 rfl ?_
            refine R_iload cd_78_69 rfl ?_
            refine R_if_ne 78 cd_78_71 rfl (fun _ => ?_) (fun h => absurd h (by decide))
            refine R_iload cd_78_78 rfl ?_
            refine R_if_ne 87 cd_78_80 rfl (fun _ => ?_) (fun h => absurd h (by decide))
            refine R_aload cd_78_87 rfl ?_
            refine R_getf cd_78_88 rfl (by decide) ?_
            refine R_push cd_78_91 ?_
            refine R_icmp_ne 114 cd_78_93 rfl (fun b93 => ?_) (fun b93 => ?_)
            · refine R_push cd_78_114 ?_
              refine R_call2 cd_78_115 rfl rfl K_Model_fails ?_
              refine R_ifeq_b 123 cd_78_118 rfl (fun _ => ?_) (fun h => absurd h (by decide))
              exact R_norm (qs_c rfl (qs_c rfl (qs_c rfl (qs_c rfl (qs_c rfl (qs_c rfl (qs_c rfl qs_n))))))) fin2
            · refine R_aload cd_78_96 rfl ?_
              refine R_getr cd_78_97 rfl ?_
              refine R_iload cd_78_100 rfl ?_
              refine R_iload cd_78_101 rfl ?_
              refine R_iload cd_78_102 rfl ?_
              refine R_call3 cd_78_103 rfl rfl (K_Model_at (by omega) (by omega) (by omega) (by omega) (by omega) (by omega)) ?_
              refine R_zald cd_78_106 rfl (by first | omega | (simp [qa_upd, qa_blk] <;> omega)) (by first | omega | (simp [qa_upd, qa_blk] <;> omega)) ?_
              refine R_if_ne 114 cd_78_107 rfl (fun b107 => ?_) (fun b107 => ?_)
              · refine R_push cd_78_114 ?_
                refine R_call2 cd_78_115 rfl rfl K_Model_fails ?_
                refine R_ifeq_b 123 cd_78_118 rfl (fun _ => ?_) (fun h => absurd h (by decide))
                exact R_norm (qs_c rfl (qs_c rfl (qs_c rfl (qs_c rfl (qs_c rfl (qs_c rfl (qs_c rfl qs_n))))))) fin2
              · refine R_push cd_78_110 ?_
                refine R_goto cd_78_111 ?_
                exfalso
                omega
theorem K_Model_unkeyX1 {b c f : Int} {M : qa_Mem} (h1 : 0 ≤ M 6 0) (h2 : M 6 0 ≤ 8) (h3 : ¬ (qm_cell M b c f ∧ M 32 (120 * (3 * b + c) + f) ≠ 0)) : qa_E 79 0 [(0, qr 6), (1, qi (b)), (2, qi (c)), (3, qi (f))] [] (M) (.inl (some (qi (0)))) (qa_upd M 6 26 1) := by
  unfold qm_cell at h3
  refine R_aload cd_79_0 rfl ?_
  refine R_iload cd_79_1 rfl ?_
  refine R_iload cd_79_2 rfl ?_
  refine R_iload cd_79_3 rfl ?_
  refine R_call4 cd_79_4 rfl rfl (K_Model_isPlace (by omega) (by omega)) ?_
  refine R_ifeq_b 28 cd_79_7 rfl (fun b7 => ?_) (fun b7 => ?_)
  · refine R_push cd_79_28 ?_
    refine R_istore cd_79_29 ?_
    refine R_aload cd_79_31 rfl ?_
    refine R_iload cd_79_32 rfl ?_
    refine R_if_eq 41 cd_79_34 rfl (fun _ => ?_) (fun h => absurd h (by decide))
    refine R_push cd_79_41 ?_
    refine R_call2 cd_79_42 rfl rfl K_Model_fails ?_
    refine R_ifeq_b 50 cd_79_45 rfl (fun h => absurd h (by decide)) (fun _ => ?_)
    refine R_push cd_79_48 ?_
    exact R_iret cd_79_49 (by first | rfl | omega) rfl
  · refine R_aload cd_79_10 rfl ?_
    refine R_getr cd_79_11 rfl ?_
    refine R_iload cd_79_14 rfl ?_
    refine R_iload cd_79_15 rfl ?_
    refine R_iload cd_79_16 rfl ?_
    refine R_call3 cd_79_17 rfl rfl (K_Model_at (by omega) (by omega) (by omega) (by omega) (by omega) (by omega)) ?_
    refine R_zald cd_79_20 rfl (by first | omega | (simp [qa_upd, qa_blk] <;> omega)) (by first | omega | (simp [qa_upd, qa_blk] <;> omega)) ?_
    refine R_if_eq 28 cd_79_21 rfl (fun b21 => ?_) (fun b21 => ?_)
    · refine R_push cd_79_28 ?_
      refine R_istore cd_79_29 ?_
      refine R_aload cd_79_31 rfl ?_
      refine R_iload cd_79_32 rfl ?_
      refine R_if_eq 41 cd_79_34 rfl (fun _ => ?_) (fun h => absurd h (by decide))
      refine R_push cd_79_41 ?_
      refine R_call2 cd_79_42 rfl rfl K_Model_fails ?_
      refine R_ifeq_b 50 cd_79_45 rfl (fun h => absurd h (by decide)) (fun _ => ?_)
      refine R_push cd_79_48 ?_
      exact R_iret cd_79_49 (by first | rfl | omega) rfl
    · refine R_push cd_79_24 ?_
      refine R_goto cd_79_25 ?_
      refine R_istore cd_79_29 ?_
      refine R_aload cd_79_31 rfl ?_
      refine R_iload cd_79_32 rfl ?_
      refine R_if_eq 41 cd_79_34 rfl (fun h => absurd h (by decide)) (fun _ => ?_)
      refine R_push cd_79_37 ?_
      refine R_goto cd_79_38 ?_
      exfalso
      omega
def qm_unkey (M : qa_Mem) (j : Int) : qa_Mem := qa_upd (qa_upd (qa_upd M 6 26 0) 32 j 0) 6 4 (M 6 4 - 1)
theorem K_Model_unkey0 {b c f : Int} {M : qa_Mem} (hw : qm_wf M) (h3 : qm_cell M b c f) (h4 : M 32 (120 * (3 * b + c) + f) ≠ 0) (h5 : 0 ≤ M 6 4) (h6 : M 6 4 ≤ 80) : qa_E 79 0 [(0, qr 6), (1, qi (b)), (2, qi (c)), (3, qi (f))] [] (M) (.inl (some (qi (qm_vo (qm_unkey M (120 * (3 * b + c) + f)) - qm_vo M)))) (qm_unkey M (120 * (3 * b + c) + f)) := by
  unfold qm_cell at h3
  have h1 := hw.1.1
  have h2 := hw.1.2
  obtain ⟨j, hj⟩ : ∃ x, x = 120 * (3 * b + c) + f := ⟨_, rfl⟩
  have ka := K_Model_at (b := b) (c := c) (f := f) (M := qa_upd M 6 26 0) (by omega) (by omega) (by omega) (by omega) (by omega) (by omega)
  rw [← hj] at ka ⊢
  have hw0 : qm_wf (qa_upd M 6 26 0) := ⟨hw.1, hw.2⟩
  have hw1 : qm_wf (qm_unkey M j) := ⟨hw.1, hw.2⟩
  have q1 : 0 ≤ qm_vo (qm_unkey M j) ∧ qm_vo (qm_unkey M j) ≤ (120 : Nat) := qf_cnt_r _ 120
  have q2 : 0 ≤ qm_vo M ∧ qm_vo M ≤ (120 : Nat) := qf_cnt_r _ 120
  have e0 : qm_vo (qa_upd M 6 26 0) = qm_vo M := rfl
  have kv0 := K_Model_allVoids (M := qa_upd M 6 26 0) hw0
  have kv1 := K_Model_allVoids (M := qm_unkey M j) hw1
  rw [e0] at kv0
  have fin : qa_E 79 50 [(0, qr 6), (1, qi b), (2, qi c), (3, qi f)] [] (qa_upd M 6 26 0) (.inl (some (qi (qm_vo (qm_unkey M j) - qm_vo M)))) (qm_unkey M j) := by
    refine R_aload cd_79_50 rfl ?_
    refine R_call1 cd_79_51 rfl rfl kv0 ?_
    refine R_istore cd_79_54 ?_
    refine R_aload cd_79_56 rfl ?_
    refine R_getr cd_79_57 rfl ?_
    refine R_iload cd_79_60 rfl ?_
    refine R_iload cd_79_61 rfl ?_
    refine R_iload cd_79_62 rfl ?_
    refine R_call3 cd_79_63 rfl rfl ka ?_
    refine R_push cd_79_66 ?_
    refine R_zast cd_79_67 rfl (by first | omega | (simp [qa_upd, qa_blk] <;> omega)) (by first | omega | (simp [qa_upd, qa_blk] <;> omega)) (Or.inl rfl) ?_
    refine R_aload cd_79_68 rfl ?_
    refine R_dup cd_79_69 rfl ?_
    refine R_getf cd_79_70 rfl (by decide) ?_
    refine R_push cd_79_73 ?_
    refine R_isub cd_79_74 (by unfold qa_InR; first | omega | (simp [qa_upd, qa_blk] <;> omega)) ?_
    refine R_putf cd_79_75 rfl (by decide) ?_
    refine R_aload cd_79_78 rfl ?_
    refine R_call1 cd_79_79 rfl rfl kv1 ?_
    refine R_iload cd_79_82 rfl ?_
    refine R_isub cd_79_84 (by unfold qa_InR; omega) ?_
    exact R_iret cd_79_85 (by first | rfl | omega) rfl
  refine R_aload cd_79_0 rfl ?_
  refine R_iload cd_79_1 rfl ?_
  refine R_iload cd_79_2 rfl ?_
  refine R_iload cd_79_3 rfl ?_
  refine R_call4 cd_79_4 rfl rfl (K_Model_isPlace (by omega) (by omega)) ?_
  refine R_ifeq_b 28 cd_79_7 rfl (fun b7 => ?_) (fun b7 => ?_)
  · refine R_push cd_79_28 ?_
    refine R_istore cd_79_29 ?_
    refine R_aload cd_79_31 rfl ?_
    refine R_iload cd_79_32 rfl ?_
    refine R_if_eq 41 cd_79_34 rfl (fun _ => ?_) (fun h => absurd h (by decide))
    refine R_push cd_79_41 ?_
    exfalso
    omega
  · refine R_aload cd_79_10 rfl ?_
    refine R_getr cd_79_11 rfl ?_
    refine R_iload cd_79_14 rfl ?_
    refine R_iload cd_79_15 rfl ?_
    refine R_iload cd_79_16 rfl ?_
    refine R_call3 cd_79_17 rfl rfl (K_Model_at (by omega) (by omega) (by omega) (by omega) (by omega) (by omega)) ?_
    refine R_zald cd_79_20 rfl (by first | omega | (simp [qa_upd, qa_blk] <;> omega)) (by first | omega | (simp [qa_upd, qa_blk] <;> omega)) ?_
    refine R_if_eq 28 cd_79_21 rfl (fun b21 => ?_) (fun b21 => ?_)
    · refine R_push cd_79_28 ?_
      refine R_istore cd_79_29 ?_
      refine R_aload cd_79_31 rfl ?_
      refine R_iload cd_79_32 rfl ?_
      refine R_if_eq 41 cd_79_34 rfl (fun _ => ?_) (fun h => absurd h (by decide))
      refine R_push cd_79_41 ?_
      exfalso
      omega
    · refine R_push cd_79_24 ?_
      refine R_goto cd_79_25 ?_
      refine R_istore cd_79_29 ?_
      refine R_aload cd_79_31 rfl ?_
      refine R_iload cd_79_32 rfl ?_
      refine R_if_eq 41 cd_79_34 rfl (fun h => absurd h (by decide)) (fun _ => ?_)
      refine R_push cd_79_37 ?_
      refine R_goto cd_79_38 ?_
      refine R_call2 cd_79_42 rfl rfl K_Model_fails ?_
      refine R_ifeq_b 50 cd_79_45 rfl (fun _ => ?_) (fun h => absurd h (by decide))
      exact R_norm (qs_c rfl (qs_c rfl (qs_c rfl (qs_c rfl qs_n)))) fin
theorem K_Model_valueX1 {b c f : Int} {M : qa_Mem} (h1 : 0 ≤ M 6 0) (h2 : M 6 0 ≤ 8) (h3 : ¬ qm_cell M b c f) : qa_E 80 0 [(0, qr 6), (1, qi (b)), (2, qi (c)), (3, qi (f))] [] (M) (.inl (some (qi (0)))) (qa_upd M 6 26 1) := by
  unfold qm_cell at h3
  refine R_aload cd_80_0 rfl ?_
  refine R_aload cd_80_1 rfl ?_
  refine R_iload cd_80_2 rfl ?_
  refine R_iload cd_80_3 rfl ?_
  refine R_iload cd_80_4 rfl ?_
  refine R_call4 cd_80_5 rfl rfl (K_Model_isPlace (by omega) (by omega)) ?_
  refine R_ifeq_b 15 cd_80_8 rfl (fun b8 => ?_) (fun b8 => ?_)
  · refine R_push cd_80_15 ?_
    refine R_call2 cd_80_16 rfl rfl K_Model_fails ?_
    refine R_ifeq_b 26 cd_80_19 rfl (fun h => absurd h (by decide)) (fun _ => ?_)
    refine R_push cd_80_22 ?_
    refine R_goto cd_80_23 ?_
    exact R_iret cd_80_33 (by first | rfl | omega) rfl
  · refine R_push cd_80_11 ?_
    refine R_goto cd_80_12 ?_
    exfalso
    omega
theorem K_Model_value0 {b c f : Int} {M : qa_Mem} (hw : qm_wf M) (h3 : qm_cell M b c f) : qa_E 80 0 [(0, qr 6), (1, qi (b)), (2, qi (c)), (3, qi (f))] [] (M) (.inl (some (qi (qm_v (M 32) (M 33) (M 35) (3 * b + c) f)))) (qa_upd M 6 26 0) := by
  have h1 := hw.1.1
  have h2 := hw.1.2
  unfold qm_cell at h3
  refine R_aload cd_80_0 rfl ?_
  refine R_aload cd_80_1 rfl ?_
  refine R_iload cd_80_2 rfl ?_
  refine R_iload cd_80_3 rfl ?_
  refine R_iload cd_80_4 rfl ?_
  refine R_call4 cd_80_5 rfl rfl (K_Model_isPlace (by omega) (by omega)) ?_
  refine R_ifeq_b 15 cd_80_8 rfl (fun b8 => ?_) (fun b8 => ?_)
  · refine R_push cd_80_15 ?_
    exfalso
    omega
  · refine R_push cd_80_11 ?_
    refine R_goto cd_80_12 ?_
    refine R_call2 cd_80_16 rfl rfl K_Model_fails ?_
    refine R_ifeq_b 26 cd_80_19 rfl (fun _ => ?_) (fun h => absurd h (by decide))
    refine R_aload cd_80_26 rfl ?_
    refine R_iload cd_80_27 rfl ?_
    refine R_iload cd_80_28 rfl ?_
    refine R_iload cd_80_29 rfl ?_
    refine R_call4 cd_80_30 rfl rfl (K_Model_valueAt (t := 3 * b + c) (by omega) (by omega) (by omega) (by omega) rfl (by omega) (by omega) hw.2) ?_
    exact R_iret cd_80_33 (by first | rfl | omega) rfl
theorem K_Model_spanX1 {b c f : Int} {M : qa_Mem} (h1 : 0 ≤ M 6 0) (h2 : M 6 0 ≤ 8) (h3 : ¬ (qm_cell M b c f ∧ M 32 (120 * (3 * b + c) + f) ≠ 0)) : qa_E 81 0 [(0, qr 6), (1, qi (b)), (2, qi (c)), (3, qi (f))] [] (M) (.inl (some (qi (0)))) (qa_upd M 6 26 1) := by
  unfold qm_cell at h3
  refine R_aload cd_81_0 rfl ?_
  refine R_iload cd_81_1 rfl ?_
  refine R_iload cd_81_2 rfl ?_
  refine R_iload cd_81_3 rfl ?_
  refine R_call4 cd_81_4 rfl rfl (K_Model_isPlace (by omega) (by omega)) ?_
  refine R_ifeq_b 28 cd_81_7 rfl (fun b7 => ?_) (fun b7 => ?_)
  · refine R_push cd_81_28 ?_
    refine R_istore cd_81_29 ?_
    refine R_aload cd_81_31 rfl ?_
    refine R_iload cd_81_32 rfl ?_
    refine R_if_eq 41 cd_81_34 rfl (fun _ => ?_) (fun h => absurd h (by decide))
    refine R_push cd_81_41 ?_
    refine R_call2 cd_81_42 rfl rfl K_Model_fails ?_
    refine R_ifeq_b 50 cd_81_45 rfl (fun h => absurd h (by decide)) (fun _ => ?_)
    refine R_push cd_81_48 ?_
    exact R_iret cd_81_49 (by first | rfl | omega) rfl
  · refine R_aload cd_81_10 rfl ?_
    refine R_getr cd_81_11 rfl ?_
    refine R_iload cd_81_14 rfl ?_
    refine R_iload cd_81_15 rfl ?_
    refine R_iload cd_81_16 rfl ?_
    refine R_call3 cd_81_17 rfl rfl (K_Model_at (by omega) (by omega) (by omega) (by omega) (by omega) (by omega)) ?_
    refine R_zald cd_81_20 rfl (by first | omega | (simp [qa_upd, qa_blk] <;> omega)) (by first | omega | (simp [qa_upd, qa_blk] <;> omega)) ?_
    refine R_if_eq 28 cd_81_21 rfl (fun b21 => ?_) (fun b21 => ?_)
    · refine R_push cd_81_28 ?_
      refine R_istore cd_81_29 ?_
      refine R_aload cd_81_31 rfl ?_
      refine R_iload cd_81_32 rfl ?_
      refine R_if_eq 41 cd_81_34 rfl (fun _ => ?_) (fun h => absurd h (by decide))
      refine R_push cd_81_41 ?_
      refine R_call2 cd_81_42 rfl rfl K_Model_fails ?_
      refine R_ifeq_b 50 cd_81_45 rfl (fun h => absurd h (by decide)) (fun _ => ?_)
      refine R_push cd_81_48 ?_
      exact R_iret cd_81_49 (by first | rfl | omega) rfl
    · refine R_push cd_81_24 ?_
      refine R_goto cd_81_25 ?_
      refine R_istore cd_81_29 ?_
      refine R_aload cd_81_31 rfl ?_
      refine R_iload cd_81_32 rfl ?_
      refine R_if_eq 41 cd_81_34 rfl (fun h => absurd h (by decide)) (fun _ => ?_)
      refine R_push cd_81_37 ?_
      refine R_goto cd_81_38 ?_
      exfalso
      omega
theorem K_Model_span0 {b c f : Int} {M : qa_Mem} (hw : qm_wf M) (h3 : qm_cell M b c f) (h4 : M 32 (120 * (3 * b + c) + f) ≠ 0) : qa_E 81 0 [(0, qr 6), (1, qi (b)), (2, qi (c)), (3, qi (f))] [] (M) (.inl (some (qi (1000 * (if qm_bf (M 32) (3 * b + c) f.toNat = -1 then 0 else if M 35 (120 * (3 * b + c) + qm_bf (M 32) (3 * b + c) f.toNat) ≠ 0 then qm_bf (M 32) (3 * b + c) f.toNat + 1 else f) + qm_bh (M 32) (3 * b + c) (119 - f).toNat - 1)))) (qa_upd M 6 26 0) := by
  have h1 := hw.1.1
  have h2 := hw.1.2
  unfold qm_cell at h3
  have rf := qm_bf_r (M 32) (3 * b + c) f.toNat
  have rh := qm_bh_r (M 32) (3 * b + c) (119 - f).toNat (by omega)
  have k1 := K_Model_before (f := f - 1) (t := 3 * b + c) (M := qa_upd M 6 26 0) (by omega) (by omega : b < 8) (by omega) (by omega) rfl (by omega) (by omega)
  rw [show (f - 1 + 1).toNat = f.toNat by rw [show f - 1 + 1 = f by omega], show (qa_upd M 6 26 0) 32 = M 32 from rfl] at k1
  have k2 := K_Model_behind (f := f) (t := 3 * b + c) (M := qa_upd M 6 26 0) (by omega) (by omega : b < 8) (by omega) (by omega) rfl (by omega) (by omega)
  rw [show (qa_upd M 6 26 0) 32 = M 32 from rfl] at k2
  generalize qm_bf (M 32) (3 * b + c) f.toNat = p at *
  generalize qm_bh (M 32) (3 * b + c) (119 - f).toNat = q at *
  have fin : qa_E 81 50 [(0, qr 6), (1, qi b), (2, qi c), (3, qi f)] [] (qa_upd M 6 26 0) (.inl (some (qi (1000 * (if p = -1 then 0 else if M 35 (120 * (3 * b + c) + p) ≠ 0 then p + 1 else f) + q - 1)))) (qa_upd M 6 26 0) := by
    have tail : ∀ x : Int, 0 ≤ x → x ≤ 120 → x = (if p = -1 then 0 else if M 35 (120 * (3 * b + c) + p) ≠ 0 then p + 1 else f) → qa_E 81 94 [(0, qr 6), (1, qi b), (2, qi c), (3, qi f), (5, qi p)] [qi x] (qa_upd M 6 26 0) (.inl (some (qi (1000 * (if p = -1 then 0 else if M 35 (120 * (3 * b + c) + p) ≠ 0 then p + 1 else f) + q - 1)))) (qa_upd M 6 26 0) := by
      intro x x1 x2 hx
      rw [← hx]
      refine R_istore cd_81_94 ?_
      refine R_push cd_81_96 ?_
      refine R_iload cd_81_99 rfl ?_
      refine R_imul cd_81_101 (by unfold qa_InR; first | omega | (simp [qa_upd, qa_blk] <;> omega)) ?_
      refine R_aload cd_81_102 rfl ?_
      refine R_iload cd_81_103 rfl ?_
      refine R_iload cd_81_104 rfl ?_
      refine R_iload cd_81_105 rfl ?_
      refine R_call4 cd_81_106 rfl rfl k2 ?_
      refine R_iadd cd_81_109 (by unfold qa_InR; first | omega | (simp [qa_upd, qa_blk] <;> omega)) ?_
      refine R_push cd_81_110 ?_
      refine R_isub cd_81_111 (by unfold qa_InR; first | omega | (simp [qa_upd, qa_blk] <;> omega)) ?_
      exact R_iret cd_81_112 (by first | rfl | omega) rfl
    refine R_aload cd_81_50 rfl ?_
    refine R_iload cd_81_51 rfl ?_
    refine R_iload cd_81_52 rfl ?_
    refine R_iload cd_81_53 rfl ?_
    refine R_push cd_81_54 ?_
    refine R_isub cd_81_55 (by unfold qa_InR; first | omega | (simp [qa_upd, qa_blk] <;> omega)) ?_
    refine R_call4 cd_81_56 rfl rfl k1 ?_
    refine R_istore cd_81_59 ?_
    refine R_iload cd_81_61 rfl ?_
    refine R_push cd_81_63 ?_
    refine R_icmp_ne 71 cd_81_64 rfl (fun b64 => ?_) (fun b64 => ?_)
    · refine R_aload cd_81_71 rfl ?_
      refine R_getr cd_81_72 rfl ?_
      refine R_iload cd_81_75 rfl ?_
      refine R_iload cd_81_76 rfl ?_
      refine R_iload cd_81_77 rfl ?_
      refine R_call3 cd_81_79 rfl rfl (K_Model_at (by omega) (by omega) (by omega) (by omega) (by omega) (by omega)) ?_
      refine R_zald cd_81_82 rfl (by first | omega | (simp [qa_upd, qa_blk] <;> omega)) (by first | omega | (simp [qa_upd, qa_blk] <;> omega)) ?_
      refine R_if_eq 93 cd_81_83 rfl (fun b83 => ?_) (fun b83 => ?_)
      · refine R_iload cd_81_93 rfl ?_
        first
          | exact R_norm (qs_c rfl (qs_c rfl (qs_c rfl (qs_c rfl (qs_c rfl qs_n))))) (tail 0 (by omega) (by omega) (by rw [if_pos b64]))
          | exact R_norm (qs_c rfl (qs_c rfl (qs_c rfl (qs_c rfl (qs_c rfl qs_n))))) (tail (p + 1) (by omega) (by omega) (by rw [if_neg b64, if_pos (show M 35 (120 * (3 * b + c) + p) ≠ 0 from b83)]))
          | exact R_norm (qs_c rfl (qs_c rfl (qs_c rfl (qs_c rfl (qs_c rfl qs_n))))) (tail f (by omega) (by omega) (by rw [if_neg b64, if_neg (fun z => z b83)]))
      · refine R_iload cd_81_86 rfl ?_
        refine R_push cd_81_88 ?_
        refine R_iadd cd_81_89 (by unfold qa_InR; first | omega | (simp [qa_upd, qa_blk] <;> omega)) ?_
        refine R_goto cd_81_90 ?_
        first
          | exact R_norm (qs_c rfl (qs_c rfl (qs_c rfl (qs_c rfl (qs_c rfl qs_n))))) (tail 0 (by omega) (by omega) (by rw [if_pos b64]))
          | exact R_norm (qs_c rfl (qs_c rfl (qs_c rfl (qs_c rfl (qs_c rfl qs_n))))) (tail (p + 1) (by omega) (by omega) (by rw [if_neg b64, if_pos (show M 35 (120 * (3 * b + c) + p) ≠ 0 from b83)]))
          | exact R_norm (qs_c rfl (qs_c rfl (qs_c rfl (qs_c rfl (qs_c rfl qs_n))))) (tail f (by omega) (by omega) (by rw [if_neg b64, if_neg (fun z => z b83)]))
    · refine R_push cd_81_67 ?_
      refine R_goto cd_81_68 ?_
      first
        | exact R_norm (qs_c rfl (qs_c rfl (qs_c rfl (qs_c rfl (qs_c rfl qs_n))))) (tail 0 (by omega) (by omega) (by rw [if_pos b64]))
        | exact R_norm (qs_c rfl (qs_c rfl (qs_c rfl (qs_c rfl (qs_c rfl qs_n))))) (tail (p + 1) (by omega) (by omega) (by rw [if_neg b64, if_pos (show M 35 (120 * (3 * b + c) + p) ≠ 0 from b83)]))
        | exact R_norm (qs_c rfl (qs_c rfl (qs_c rfl (qs_c rfl (qs_c rfl qs_n))))) (tail f (by omega) (by omega) (by rw [if_neg b64, if_neg (fun z => z b83)]))
  refine R_aload cd_81_0 rfl ?_
  refine R_iload cd_81_1 rfl ?_
  refine R_iload cd_81_2 rfl ?_
  refine R_iload cd_81_3 rfl ?_
  refine R_call4 cd_81_4 rfl rfl (K_Model_isPlace (by omega) (by omega)) ?_
  refine R_ifeq_b 28 cd_81_7 rfl (fun b7 => ?_) (fun b7 => ?_)
  · refine R_push cd_81_28 ?_
    refine R_istore cd_81_29 ?_
    refine R_aload cd_81_31 rfl ?_
    refine R_iload cd_81_32 rfl ?_
    refine R_if_eq 41 cd_81_34 rfl (fun _ => ?_) (fun h => absurd h (by decide))
    refine R_push cd_81_41 ?_
    exfalso
    omega
  · refine R_aload cd_81_10 rfl ?_
    refine R_getr cd_81_11 rfl ?_
    refine R_iload cd_81_14 rfl ?_
    refine R_iload cd_81_15 rfl ?_
    refine R_iload cd_81_16 rfl ?_
    refine R_call3 cd_81_17 rfl rfl (K_Model_at (by omega) (by omega) (by omega) (by omega) (by omega) (by omega)) ?_
    refine R_zald cd_81_20 rfl (by first | omega | (simp [qa_upd, qa_blk] <;> omega)) (by first | omega | (simp [qa_upd, qa_blk] <;> omega)) ?_
    refine R_if_eq 28 cd_81_21 rfl (fun b21 => ?_) (fun b21 => ?_)
    · refine R_push cd_81_28 ?_
      refine R_istore cd_81_29 ?_
      refine R_aload cd_81_31 rfl ?_
      refine R_iload cd_81_32 rfl ?_
      refine R_if_eq 41 cd_81_34 rfl (fun _ => ?_) (fun h => absurd h (by decide))
      refine R_push cd_81_41 ?_
      exfalso
      omega
    · refine R_push cd_81_24 ?_
      refine R_goto cd_81_25 ?_
      refine R_istore cd_81_29 ?_
      refine R_aload cd_81_31 rfl ?_
      refine R_iload cd_81_32 rfl ?_
      refine R_if_eq 41 cd_81_34 rfl (fun h => absurd h (by decide)) (fun _ => ?_)
      refine R_push cd_81_37 ?_
      refine R_goto cd_81_38 ?_
      refine R_call2 cd_81_42 rfl rfl K_Model_fails ?_
      refine R_ifeq_b 50 cd_81_45 rfl (fun _ => ?_) (fun h => absurd h (by decide))
      exact R_norm (qs_c rfl (qs_c rfl (qs_c rfl (qs_c rfl qs_n)))) fin
