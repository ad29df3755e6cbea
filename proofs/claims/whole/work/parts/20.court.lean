/-! the class's face -/
theorem K_Court_bone1 {p x y : Int} {M : qa_Mem} (h1 : 0 ≤ M 1 3) (h2 : M 1 3 ≤ 8) (h3 : ¬ (p = -1 ∨ 0 ≤ p ∧ p ≤ M 1 3 - 1)) : qa_E 111 0 [(0, qr 0), (1, qi (p)), (2, qi (x)), (3, qi (y))] [] (M) (.inr 1) (qa_upd M 99 0 (M 99 0 + 1)) := by
  refine R_iload cd_111_0 rfl ?_
  refine R_push cd_111_1 ?_
  refine R_icmp_eq 16 cd_111_2 rfl (fun b2 => ?_) (fun b2 => ?_)
  · refine R_push cd_111_16 ?_
    refine R_goto cd_111_17 ?_
    exfalso
    omega
  · refine R_aload cd_111_5 rfl ?_
    refine R_getr cd_111_6 rfl ?_
    refine R_iload cd_111_9 rfl ?_
    refine R_call2 cd_111_10 rfl rfl (K_Rig_hasBone (by omega) (by omega)) ?_
    refine R_ifeq_b 20 cd_111_13 rfl (fun b13 => ?_) (fun b13 => ?_)
    · refine R_push cd_111_20 ?_
      exact R_callx1 cd_111_21 rfl rfl rfl (K_Court_mustExistX rfl) rfl rfl
    · refine R_push cd_111_16 ?_
      refine R_goto cd_111_17 ?_
      exfalso
      omega
theorem K_Court_bone2 {p x y : Int} {M : qa_Mem} (h1 : 0 ≤ M 1 3) (h2 : M 1 3 ≤ 8) (h3 : p = -1 ∨ 0 ≤ p ∧ p ≤ M 1 3 - 1) (h4 : ¬ ((-100 ≤ x ∧ x ≤ 100) ∧ (-100 ≤ y ∧ y ≤ 100))) : qa_E 111 0 [(0, qr 0), (1, qi (p)), (2, qi (x)), (3, qi (y))] [] (M) (.inr 2) (qa_upd M 99 0 (M 99 0 + 1)) := by
  refine R_iload cd_111_0 rfl ?_
  refine R_push cd_111_1 ?_
  refine R_icmp_eq 16 cd_111_2 rfl (fun b2 => ?_) (fun b2 => ?_)
  · refine R_push cd_111_16 ?_
    refine R_goto cd_111_17 ?_
    refine R_callv1 cd_111_21 rfl rfl (K_Court_mustExist (by decide)) ?_
    refine R_iload cd_111_24 rfl ?_
    refine R_push cd_111_25 ?_
    refine R_push cd_111_27 ?_
    refine R_call3 cd_111_29 rfl rfl K_Court_isWithin ?_
    refine R_ifeq_b 50 cd_111_32 rfl (fun b32 => ?_) (fun b32 => ?_)
    · refine R_push cd_111_50 ?_
      exact R_callx1 cd_111_51 rfl rfl rfl (K_Court_mustFitX rfl) rfl rfl
    · refine R_iload cd_111_35 rfl ?_
      refine R_push cd_111_36 ?_
      refine R_push cd_111_38 ?_
      refine R_call3 cd_111_40 rfl rfl K_Court_isWithin ?_
      refine R_ifeq_b 50 cd_111_43 rfl (fun b43 => ?_) (fun b43 => ?_)
      · refine R_push cd_111_50 ?_
        exact R_callx1 cd_111_51 rfl rfl rfl (K_Court_mustFitX rfl) rfl rfl
      · refine R_push cd_111_46 ?_
        refine R_goto cd_111_47 ?_
        exfalso
        omega
  · refine R_aload cd_111_5 rfl ?_
    refine R_getr cd_111_6 rfl ?_
    refine R_iload cd_111_9 rfl ?_
    refine R_call2 cd_111_10 rfl rfl (K_Rig_hasBone (by omega) (by omega)) ?_
    refine R_ifeq_b 20 cd_111_13 rfl (fun b13 => ?_) (fun b13 => ?_)
    · refine R_push cd_111_20 ?_
      exfalso
      omega
    · refine R_push cd_111_16 ?_
      refine R_goto cd_111_17 ?_
      refine R_callv1 cd_111_21 rfl rfl (K_Court_mustExist (by decide)) ?_
      refine R_iload cd_111_24 rfl ?_
      refine R_push cd_111_25 ?_
      refine R_push cd_111_27 ?_
      refine R_call3 cd_111_29 rfl rfl K_Court_isWithin ?_
      refine R_ifeq_b 50 cd_111_32 rfl (fun b32 => ?_) (fun b32 => ?_)
      · refine R_push cd_111_50 ?_
        exact R_callx1 cd_111_51 rfl rfl rfl (K_Court_mustFitX rfl) rfl rfl
      · refine R_iload cd_111_35 rfl ?_
        refine R_push cd_111_36 ?_
        refine R_push cd_111_38 ?_
        refine R_call3 cd_111_40 rfl rfl K_Court_isWithin ?_
        refine R_ifeq_b 50 cd_111_43 rfl (fun b43 => ?_) (fun b43 => ?_)
        · refine R_push cd_111_50 ?_
          exact R_callx1 cd_111_51 rfl rfl rfl (K_Court_mustFitX rfl) rfl rfl
        · refine R_push cd_111_46 ?_
          refine R_goto cd_111_47 ?_
          exfalso
          omega
theorem K_Court_bone3 {p x y : Int} {M : qa_Mem} (h1 : 0 ≤ M 1 3) (h2 : M 1 3 = 8) (h3 : p = -1 ∨ 0 ≤ p ∧ p ≤ M 1 3 - 1) (h4 : (-100 ≤ x ∧ x ≤ 100) ∧ (-100 ≤ y ∧ y ≤ 100)) : qa_E 111 0 [(0, qr 0), (1, qi (p)), (2, qi (x)), (3, qi (y))] [] (M) (.inr 3) (qa_upd M 99 0 (M 99 0 + 1)) := by
  refine R_iload cd_111_0 rfl ?_
  refine R_push cd_111_1 ?_
  refine R_icmp_eq 16 cd_111_2 rfl (fun b2 => ?_) (fun b2 => ?_)
  · refine R_push cd_111_16 ?_
    refine R_goto cd_111_17 ?_
    refine R_callv1 cd_111_21 rfl rfl (K_Court_mustExist (by decide)) ?_
    refine R_iload cd_111_24 rfl ?_
    refine R_push cd_111_25 ?_
    refine R_push cd_111_27 ?_
    refine R_call3 cd_111_29 rfl rfl K_Court_isWithin ?_
    refine R_ifeq_b 50 cd_111_32 rfl (fun b32 => ?_) (fun b32 => ?_)
    · refine R_push cd_111_50 ?_
      exfalso
      omega
    · refine R_iload cd_111_35 rfl ?_
      refine R_push cd_111_36 ?_
      refine R_push cd_111_38 ?_
      refine R_call3 cd_111_40 rfl rfl K_Court_isWithin ?_
      refine R_ifeq_b 50 cd_111_43 rfl (fun b43 => ?_) (fun b43 => ?_)
      · refine R_push cd_111_50 ?_
        exfalso
        omega
      · refine R_push cd_111_46 ?_
        refine R_goto cd_111_47 ?_
        refine R_callv1 cd_111_51 rfl rfl (K_Court_mustFit (by decide)) ?_
        refine R_aload cd_111_54 rfl ?_
        refine R_getr cd_111_55 rfl ?_
        refine R_call1 cd_111_58 rfl rfl K_Rig_boneCount ?_
        refine R_push cd_111_61 ?_
        refine R_icmp_ge 70 cd_111_63 rfl (fun b63 => ?_) (fun b63 => ?_)
        · refine R_push cd_111_70 ?_
          exact R_callx1 cd_111_71 rfl rfl rfl (K_Court_mustBePossibleX rfl) rfl rfl
        · refine R_push cd_111_66 ?_
          refine R_goto cd_111_67 ?_
          exfalso
          omega
  · refine R_aload cd_111_5 rfl ?_
    refine R_getr cd_111_6 rfl ?_
    refine R_iload cd_111_9 rfl ?_
    refine R_call2 cd_111_10 rfl rfl (K_Rig_hasBone (by omega) (by omega)) ?_
    refine R_ifeq_b 20 cd_111_13 rfl (fun b13 => ?_) (fun b13 => ?_)
    · refine R_push cd_111_20 ?_
      exfalso
      omega
    · refine R_push cd_111_16 ?_
      refine R_goto cd_111_17 ?_
      refine R_callv1 cd_111_21 rfl rfl (K_Court_mustExist (by decide)) ?_
      refine R_iload cd_111_24 rfl ?_
      refine R_push cd_111_25 ?_
      refine R_push cd_111_27 ?_
      refine R_call3 cd_111_29 rfl rfl K_Court_isWithin ?_
      refine R_ifeq_b 50 cd_111_32 rfl (fun b32 => ?_) (fun b32 => ?_)
      · refine R_push cd_111_50 ?_
        exfalso
        omega
      · refine R_iload cd_111_35 rfl ?_
        refine R_push cd_111_36 ?_
        refine R_push cd_111_38 ?_
        refine R_call3 cd_111_40 rfl rfl K_Court_isWithin ?_
        refine R_ifeq_b 50 cd_111_43 rfl (fun b43 => ?_) (fun b43 => ?_)
        · refine R_push cd_111_50 ?_
          exfalso
          omega
        · refine R_push cd_111_46 ?_
          refine R_goto cd_111_47 ?_
          refine R_callv1 cd_111_51 rfl rfl (K_Court_mustFit (by decide)) ?_
          refine R_aload cd_111_54 rfl ?_
          refine R_getr cd_111_55 rfl ?_
          refine R_call1 cd_111_58 rfl rfl K_Rig_boneCount ?_
          refine R_push cd_111_61 ?_
          refine R_icmp_ge 70 cd_111_63 rfl (fun b63 => ?_) (fun b63 => ?_)
          · refine R_push cd_111_70 ?_
            exact R_callx1 cd_111_71 rfl rfl rfl (K_Court_mustBePossibleX rfl) rfl rfl
          · refine R_push cd_111_66 ?_
            refine R_goto cd_111_67 ?_
            exfalso
            omega
def qc_bone (M : qa_Mem) (p x y : Int) : qa_Mem := qa_upd (qa_upd (qa_upd (qa_upd M 9 (M 1 3) p) 10 (M 1 3) x) 11 (M 1 3) y) 1 3 (M 1 3 + 1)
theorem K_Court_bone0 {p x y : Int} {M : qa_Mem} (h1 : 0 ≤ M 1 3) (h2 : M 1 3 < 8) (h3 : p = -1 ∨ 0 ≤ p ∧ p ≤ M 1 3 - 1) (h4 : (-100 ≤ x ∧ x ≤ 100) ∧ (-100 ≤ y ∧ y ≤ 100)) : qa_E 111 0 [(0, qr 0), (1, qi (p)), (2, qi (x)), (3, qi (y))] [] (M) (.inl (some (qi (M 1 3)))) (qs_cmp (qc_bone M p x y) 120) := by
  have e : (qc_bone M p x y) 1 3 = M 1 3 + 1 := qa_upd_e
  refine R_iload cd_111_0 rfl ?_
  refine R_push cd_111_1 ?_
  refine R_icmp_eq 16 cd_111_2 rfl (fun b2 => ?_) (fun b2 => ?_)
  · refine R_push cd_111_16 ?_
    refine R_goto cd_111_17 ?_
    refine R_callv1 cd_111_21 rfl rfl (K_Court_mustExist (by decide)) ?_
    refine R_iload cd_111_24 rfl ?_
    refine R_push cd_111_25 ?_
    refine R_push cd_111_27 ?_
    refine R_call3 cd_111_29 rfl rfl K_Court_isWithin ?_
    refine R_ifeq_b 50 cd_111_32 rfl (fun b32 => ?_) (fun b32 => ?_)
    · refine R_push cd_111_50 ?_
      exfalso
      omega
    · refine R_iload cd_111_35 rfl ?_
      refine R_push cd_111_36 ?_
      refine R_push cd_111_38 ?_
      refine R_call3 cd_111_40 rfl rfl K_Court_isWithin ?_
      refine R_ifeq_b 50 cd_111_43 rfl (fun b43 => ?_) (fun b43 => ?_)
      · refine R_push cd_111_50 ?_
        exfalso
        omega
      · refine R_push cd_111_46 ?_
        refine R_goto cd_111_47 ?_
        refine R_callv1 cd_111_51 rfl rfl (K_Court_mustFit (by decide)) ?_
        refine R_aload cd_111_54 rfl ?_
        refine R_getr cd_111_55 rfl ?_
        refine R_call1 cd_111_58 rfl rfl K_Rig_boneCount ?_
        refine R_push cd_111_61 ?_
        refine R_icmp_ge 70 cd_111_63 rfl (fun b63 => ?_) (fun b63 => ?_)
        · refine R_push cd_111_70 ?_
          exfalso
          omega
        · refine R_push cd_111_66 ?_
          refine R_goto cd_111_67 ?_
          refine R_callv1 cd_111_71 rfl rfl (K_Court_mustBePossible (by decide)) ?_
          refine R_aload cd_111_74 rfl ?_
          refine R_getr cd_111_75 rfl ?_
          refine R_iload cd_111_78 rfl ?_
          refine R_iload cd_111_79 rfl ?_
          refine R_iload cd_111_80 rfl ?_
          refine R_call4 cd_111_81 rfl rfl (K_Rig_addBone (by omega) (by omega)) ?_
          refine R_istore cd_111_84 ?_
          refine R_aload cd_111_86 rfl ?_
          refine R_getr cd_111_87 rfl ?_
          refine R_aload cd_111_90 rfl ?_
          refine R_getr cd_111_91 rfl ?_
          refine R_callv2 cd_111_94 rfl rfl (K_Stills_compareAll (M := qc_bone M p x y) (by omega) (by omega)) ?_
          refine R_iload cd_111_97 rfl ?_
          exact R_iret cd_111_99 (by first | rfl | omega) rfl
  · refine R_aload cd_111_5 rfl ?_
    refine R_getr cd_111_6 rfl ?_
    refine R_iload cd_111_9 rfl ?_
    refine R_call2 cd_111_10 rfl rfl (K_Rig_hasBone (by omega) (by omega)) ?_
    refine R_ifeq_b 20 cd_111_13 rfl (fun b13 => ?_) (fun b13 => ?_)
    · refine R_push cd_111_20 ?_
      exfalso
      omega
    · refine R_push cd_111_16 ?_
      refine R_goto cd_111_17 ?_
      refine R_callv1 cd_111_21 rfl rfl (K_Court_mustExist (by decide)) ?_
      refine R_iload cd_111_24 rfl ?_
      refine R_push cd_111_25 ?_
      refine R_push cd_111_27 ?_
      refine R_call3 cd_111_29 rfl rfl K_Court_isWithin ?_
      refine R_ifeq_b 50 cd_111_32 rfl (fun b32 => ?_) (fun b32 => ?_)
      · refine R_push cd_111_50 ?_
        exfalso
        omega
      · refine R_iload cd_111_35 rfl ?_
        refine R_push cd_111_36 ?_
        refine R_push cd_111_38 ?_
        refine R_call3 cd_111_40 rfl rfl K_Court_isWithin ?_
        refine R_ifeq_b 50 cd_111_43 rfl (fun b43 => ?_) (fun b43 => ?_)
        · refine R_push cd_111_50 ?_
          exfalso
          omega
        · refine R_push cd_111_46 ?_
          refine R_goto cd_111_47 ?_
          refine R_callv1 cd_111_51 rfl rfl (K_Court_mustFit (by decide)) ?_
          refine R_aload cd_111_54 rfl ?_
          refine R_getr cd_111_55 rfl ?_
          refine R_call1 cd_111_58 rfl rfl K_Rig_boneCount ?_
          refine R_push cd_111_61 ?_
          refine R_icmp_ge 70 cd_111_63 rfl (fun b63 => ?_) (fun b63 => ?_)
          · refine R_push cd_111_70 ?_
            exfalso
            omega
          · refine R_push cd_111_66 ?_
            refine R_goto cd_111_67 ?_
            refine R_callv1 cd_111_71 rfl rfl (K_Court_mustBePossible (by decide)) ?_
            refine R_aload cd_111_74 rfl ?_
            refine R_getr cd_111_75 rfl ?_
            refine R_iload cd_111_78 rfl ?_
            refine R_iload cd_111_79 rfl ?_
            refine R_iload cd_111_80 rfl ?_
            refine R_call4 cd_111_81 rfl rfl (K_Rig_addBone (by omega) (by omega)) ?_
            refine R_istore cd_111_84 ?_
            refine R_aload cd_111_86 rfl ?_
            refine R_getr cd_111_87 rfl ?_
            refine R_aload cd_111_90 rfl ?_
            refine R_getr cd_111_91 rfl ?_
            refine R_callv2 cd_111_94 rfl rfl (K_Stills_compareAll (M := qc_bone M p x y) (by omega) (by omega)) ?_
            refine R_iload cd_111_97 rfl ?_
            exact R_iret cd_111_99 (by first | rfl | omega) rfl
def qp_cell (M : qa_Mem) (b c f : Int) : Prop := (0 ≤ b ∧ b ≤ M 1 3 - 1) ∧ (0 ≤ c ∧ c ≤ 2) ∧ (0 ≤ f ∧ f ≤ 119)
def qp_has (M : qa_Mem) (b c f : Int) : Prop := qf_ca (M 14) (M 2 4) (1000 * (3 * b + c) + f) 80 0 < M 2 4 ∧ M 14 (qf_ca (M 14) (M 2 4) (1000 * (3 * b + c) + f) 80 0) = 1000 * (3 * b + c) + f
theorem K_Court_key1 {b c f v a s : Int} {M : qa_Mem} (h1 : 0 ≤ M 1 3) (h2 : M 1 3 ≤ 8) (h3 : ¬ (qp_cell M b c f ∧ 0 ≤ a ∧ a ≤ 5)) : qa_E 112 0 [(0, qr 0), (1, qi (b)), (2, qi (c)), (3, qi (f)), (4, qi (v)), (5, qi (a)), (6, qi (s))] [] (M) (.inr 1) (qa_upd M 99 0 (M 99 0 + 1)) := by
  unfold qp_cell at h3
  refine R_aload cd_112_0 rfl ?_
  refine R_getr cd_112_1 rfl ?_
  refine R_iload cd_112_4 rfl ?_
  refine R_iload cd_112_5 rfl ?_
  refine R_iload cd_112_6 rfl ?_
  refine R_call4 cd_112_7 rfl rfl (K_Rig_hasCell (by omega) (by omega)) ?_
  refine R_ifeq_b 27 cd_112_10 rfl (fun b10 => ?_) (fun b10 => ?_)
  · refine R_push cd_112_27 ?_
    exact R_callx1 cd_112_28 rfl rfl rfl (K_Court_mustExistX rfl) rfl rfl
  · refine R_iload cd_112_13 rfl ?_
    refine R_push cd_112_15 ?_
    refine R_push cd_112_16 ?_
    refine R_call3 cd_112_17 rfl rfl K_Court_isWithin ?_
    refine R_ifeq_b 27 cd_112_20 rfl (fun b20 => ?_) (fun b20 => ?_)
    · refine R_push cd_112_27 ?_
      exact R_callx1 cd_112_28 rfl rfl rfl (K_Court_mustExistX rfl) rfl rfl
    · refine R_push cd_112_23 ?_
      refine R_goto cd_112_24 ?_
      exfalso
      omega
theorem K_Court_key2 {b c f v a s : Int} {M : qa_Mem} (h1 : 0 ≤ M 1 3) (h2 : M 1 3 ≤ 8) (h3 : qp_cell M b c f ∧ 0 ≤ a ∧ a ≤ 5) (h4 : ¬ ((c = 2 → (0 ≤ v ∧ v ≤ 3) ∧ s = 0) ∧ (c ≠ 2 → -200 ≤ v ∧ v ≤ 200))) : qa_E 112 0 [(0, qr 0), (1, qi (b)), (2, qi (c)), (3, qi (f)), (4, qi (v)), (5, qi (a)), (6, qi (s))] [] (M) (.inr 2) (qa_upd M 99 0 (M 99 0 + 1)) := by
  unfold qp_cell at h3
  refine R_aload cd_112_0 rfl ?_
  refine R_getr cd_112_1 rfl ?_
  refine R_iload cd_112_4 rfl ?_
  refine R_iload cd_112_5 rfl ?_
  refine R_iload cd_112_6 rfl ?_
  refine R_call4 cd_112_7 rfl rfl (K_Rig_hasCell (by omega) (by omega)) ?_
  refine R_ifeq_b 27 cd_112_10 rfl (fun b10 => ?_) (fun b10 => ?_)
  · refine R_push cd_112_27 ?_
    exfalso
    omega
  · refine R_iload cd_112_13 rfl ?_
    refine R_push cd_112_15 ?_
    refine R_push cd_112_16 ?_
    refine R_call3 cd_112_17 rfl rfl K_Court_isWithin ?_
    refine R_ifeq_b 27 cd_112_20 rfl (fun b20 => ?_) (fun b20 => ?_)
    · refine R_push cd_112_27 ?_
      exfalso
      omega
    · refine R_push cd_112_23 ?_
      refine R_goto cd_112_24 ?_
      refine R_callv1 cd_112_28 rfl rfl (K_Court_mustExist (by decide)) ?_
      refine R_iload cd_112_31 rfl ?_
      refine R_push cd_112_32 ?_
      refine R_icmp_ne 59 cd_112_33 rfl (fun b33 => ?_) (fun b33 => ?_)
      · refine R_iload cd_112_59 rfl ?_
        refine R_push cd_112_61 ?_
        refine R_push cd_112_64 ?_
        refine R_call3 cd_112_67 rfl rfl K_Court_isWithin ?_
        exact R_callx1 cd_112_70 rfl rfl rfl (K_Court_mustFitX (qb_f (by omega))) rfl rfl
      · refine R_iload cd_112_36 rfl ?_
        refine R_push cd_112_38 ?_
        refine R_push cd_112_39 ?_
        refine R_call3 cd_112_40 rfl rfl K_Court_isWithin ?_
        refine R_ifeq_b 55 cd_112_43 rfl (fun b43 => ?_) (fun b43 => ?_)
        · refine R_push cd_112_55 ?_
          refine R_goto cd_112_56 ?_
          exact R_callx1 cd_112_70 rfl rfl rfl (K_Court_mustFitX rfl) rfl rfl
        · refine R_iload cd_112_46 rfl ?_
          refine R_if_ne 55 cd_112_48 rfl (fun b48 => ?_) (fun b48 => ?_)
          · refine R_push cd_112_55 ?_
            refine R_goto cd_112_56 ?_
            exact R_callx1 cd_112_70 rfl rfl rfl (K_Court_mustFitX rfl) rfl rfl
          · refine R_push cd_112_51 ?_
            refine R_goto cd_112_52 ?_
            exfalso
            omega
theorem K_Court_key3 {b c f v a s : Int} {M : qa_Mem} (h1 : 0 ≤ M 1 3) (h2 : M 1 3 ≤ 8) (h3 : qp_cell M b c f ∧ 0 ≤ a ∧ a ≤ 5) (h4 : (c = 2 → (0 ≤ v ∧ v ≤ 3) ∧ s = 0) ∧ (c ≠ 2 → -200 ≤ v ∧ v ≤ 200)) (h5 : 0 ≤ M 2 4) (h6 : M 2 4 = 80) (h7 : ¬ qp_has M b c f) : qa_E 112 0 [(0, qr 0), (1, qi (b)), (2, qi (c)), (3, qi (f)), (4, qi (v)), (5, qi (a)), (6, qi (s))] [] (M) (.inr 3) (qa_upd M 99 0 (M 99 0 + 1)) := by
  unfold qp_cell at h3
  unfold qp_has at h7
  refine R_aload cd_112_0 rfl ?_
  refine R_getr cd_112_1 rfl ?_
  refine R_iload cd_112_4 rfl ?_
  refine R_iload cd_112_5 rfl ?_
  refine R_iload cd_112_6 rfl ?_
  refine R_call4 cd_112_7 rfl rfl (K_Rig_hasCell (by omega) (by omega)) ?_
  refine R_ifeq_b 27 cd_112_10 rfl (fun b10 => ?_) (fun b10 => ?_)
  · refine R_push cd_112_27 ?_
    exfalso
    omega
  · refine R_iload cd_112_13 rfl ?_
    refine R_push cd_112_15 ?_
    refine R_push cd_112_16 ?_
    refine R_call3 cd_112_17 rfl rfl K_Court_isWithin ?_
    refine R_ifeq_b 27 cd_112_20 rfl (fun b20 => ?_) (fun b20 => ?_)
    · refine R_push cd_112_27 ?_
      exfalso
      omega
    · refine R_push cd_112_23 ?_
      refine R_goto cd_112_24 ?_
      refine R_callv1 cd_112_28 rfl rfl (K_Court_mustExist (by decide)) ?_
      refine R_iload cd_112_31 rfl ?_
      refine R_push cd_112_32 ?_
      refine R_icmp_ne 59 cd_112_33 rfl (fun b33 => ?_) (fun b33 => ?_)
      · refine R_iload cd_112_59 rfl ?_
        refine R_push cd_112_61 ?_
        refine R_push cd_112_64 ?_
        refine R_call3 cd_112_67 rfl rfl K_Court_isWithin ?_
        refine R_callv1 cd_112_70 rfl rfl (K_Court_mustFit (qb_n0.mpr (by omega))) ?_
        refine R_iload cd_112_73 rfl ?_
        refine R_iload cd_112_74 rfl ?_
        refine R_call2 cd_112_75 rfl rfl (K_Court_trackOf (by omega) (by omega) (by omega) (by omega)) ?_
        refine R_istore cd_112_78 ?_
        refine R_aload cd_112_80 rfl ?_
        refine R_getr cd_112_81 rfl ?_
        refine R_iload cd_112_84 rfl ?_
        refine R_iload cd_112_86 rfl ?_
        refine R_call3 cd_112_87 rfl rfl (K_Rig_hasKey (by omega) (by omega) (by omega) (by omega) (by omega) (by omega)) ?_
        refine R_ifne_b 105 cd_112_90 rfl (fun b90 => ?_) (fun b90 => ?_)
        · refine R_push cd_112_105 ?_
          refine R_goto cd_112_106 ?_
          exfalso
          omega
        · refine R_aload cd_112_93 rfl ?_
          refine R_getr cd_112_94 rfl ?_
          refine R_call1 cd_112_97 rfl rfl K_Rig_keyCount ?_
          refine R_push cd_112_100 ?_
          refine R_icmp_ge 109 cd_112_102 rfl (fun b102 => ?_) (fun b102 => ?_)
          · refine R_push cd_112_109 ?_
            exact R_callx1 cd_112_110 rfl rfl rfl (K_Court_mustBePossibleX rfl) rfl rfl
          · refine R_push cd_112_105 ?_
            refine R_goto cd_112_106 ?_
            exfalso
            omega
      · refine R_iload cd_112_36 rfl ?_
        refine R_push cd_112_38 ?_
        refine R_push cd_112_39 ?_
        refine R_call3 cd_112_40 rfl rfl K_Court_isWithin ?_
        refine R_ifeq_b 55 cd_112_43 rfl (fun b43 => ?_) (fun b43 => ?_)
        · refine R_push cd_112_55 ?_
          refine R_goto cd_112_56 ?_
          exfalso
          omega
        · refine R_iload cd_112_46 rfl ?_
          refine R_if_ne 55 cd_112_48 rfl (fun b48 => ?_) (fun b48 => ?_)
          · refine R_push cd_112_55 ?_
            refine R_goto cd_112_56 ?_
            exfalso
            omega
          · refine R_push cd_112_51 ?_
            refine R_goto cd_112_52 ?_
            refine R_callv1 cd_112_70 rfl rfl (K_Court_mustFit (by decide)) ?_
            refine R_iload cd_112_73 rfl ?_
            refine R_iload cd_112_74 rfl ?_
            refine R_call2 cd_112_75 rfl rfl (K_Court_trackOf (by omega) (by omega) (by omega) (by omega)) ?_
            refine R_istore cd_112_78 ?_
            refine R_aload cd_112_80 rfl ?_
            refine R_getr cd_112_81 rfl ?_
            refine R_iload cd_112_84 rfl ?_
            refine R_iload cd_112_86 rfl ?_
            refine R_call3 cd_112_87 rfl rfl (K_Rig_hasKey (by omega) (by omega) (by omega) (by omega) (by omega) (by omega)) ?_
            refine R_ifne_b 105 cd_112_90 rfl (fun b90 => ?_) (fun b90 => ?_)
            · refine R_push cd_112_105 ?_
              refine R_goto cd_112_106 ?_
              exfalso
              omega
            · refine R_aload cd_112_93 rfl ?_
              refine R_getr cd_112_94 rfl ?_
              refine R_call1 cd_112_97 rfl rfl K_Rig_keyCount ?_
              refine R_push cd_112_100 ?_
              refine R_icmp_ge 109 cd_112_102 rfl (fun b102 => ?_) (fun b102 => ?_)
              · refine R_push cd_112_109 ?_
                exact R_callx1 cd_112_110 rfl rfl rfl (K_Court_mustBePossibleX rfl) rfl rfl
              · refine R_push cd_112_105 ?_
                refine R_goto cd_112_106 ?_
                exfalso
                omega
noncomputable def qc_key (M : qa_Mem) (b c f v a s : Int) : qa_Mem := qs_cmp (qt_M (qk_put M (1000 * (3 * b + c) + f) v a s) (3 * b + c) 120) 120
theorem K_Court_key0 {b c f v a s : Int} {M : qa_Mem} (h1 : 0 ≤ M 1 3) (h2 : M 1 3 ≤ 8) (h3 : qp_cell M b c f ∧ 0 ≤ a ∧ a ≤ 5) (h4 : (c = 2 → (0 ≤ v ∧ v ≤ 3) ∧ s = 0) ∧ (c ≠ 2 → -200 ≤ v ∧ v ≤ 200)) (h5 : 0 ≤ M 2 4) (h6 : M 2 4 ≤ 80) (h7 : M 2 4 < 80 ∨ qp_has M b c f) (h8 : s = 0 ∨ s = 1) (h9 : ∀ j, 0 ≤ j → j < 80 → M 17 j = 0 ∨ M 17 j = 1) (h10 : qk_wf ((qk_put M (1000 * (3 * b + c) + f) v a s) 14) ((qk_put M (1000 * (3 * b + c) + f) v a s) 15) ((qk_put M (1000 * (3 * b + c) + f) v a s) 16) ((qk_put M (1000 * (3 * b + c) + f) v a s) 17) ((qk_put M (1000 * (3 * b + c) + f) v a s) 2 4)) (h11 : (qk_put M (1000 * (3 * b + c) + f) v a s) 1 3 = M 1 3) : qa_E 112 0 [(0, qr 0), (1, qi (b)), (2, qi (c)), (3, qi (f)), (4, qi (v)), (5, qi (a)), (6, qi (s))] [] (M) (.inl (some (qi (qf_cnt (fun f9 => (qc_key M b c f v a s) 20 f9 = 2) 120 - qf_cnt (fun f9 => M 20 f9 = 2) 120)))) (qc_key M b c f v a s) := by
  unfold qp_cell at h3
  unfold qp_has at h7
  have q1 := qf_cnt_r (fun f9 => (qc_key M b c f v a s) 20 f9 = 2) 120
  have q2 := qf_cnt_r (fun f9 => M 20 f9 = 2) 120
  have fin : qa_E 112 113 [(0, qr 0), (1, qi b), (2, qi c), (3, qi f), (4, qi v), (5, qi a), (6, qi s), (7, qi (3 * b + c))] [] M (.inl (some (qi (qf_cnt (fun f9 => (qc_key M b c f v a s) 20 f9 = 2) 120 - qf_cnt (fun f9 => M 20 f9 = 2) 120)))) (qc_key M b c f v a s) := by
    refine R_aload cd_112_113 rfl ?_
    refine R_getr cd_112_114 rfl ?_
    refine R_call1 cd_112_117 rfl rfl K_Stills_voidCount ?_
    refine R_istore cd_112_120 ?_
    refine R_aload cd_112_122 rfl ?_
    refine R_getr cd_112_123 rfl ?_
    refine R_iload cd_112_126 rfl ?_
    refine R_iload cd_112_128 rfl ?_
    refine R_iload cd_112_129 rfl ?_
    refine R_iload cd_112_131 rfl ?_
    refine R_iload cd_112_133 rfl ?_
    refine R_callv6 cd_112_135 rfl rfl (K_Rig_setKey (by omega) (by omega) (by omega) (by omega) h5 h6 h9 h8 h7 h10) ?_
    refine R_aload cd_112_138 rfl ?_
    refine R_getr cd_112_139 rfl ?_
    refine R_aload cd_112_142 rfl ?_
    refine R_getr cd_112_143 rfl ?_
    refine R_callv2 cd_112_146 rfl rfl (K_Stills_compareAll (by show 0 ≤ (qk_put M (1000 * (3 * b + c) + f) v a s) 1 3; omega) (by show (qk_put M (1000 * (3 * b + c) + f) v a s) 1 3 ≤ 8; omega)) ?_
    refine R_aload cd_112_149 rfl ?_
    refine R_getr cd_112_150 rfl ?_
    refine R_call1 cd_112_153 rfl rfl K_Stills_voidCount ?_
    refine R_iload cd_112_156 rfl ?_
    refine R_isub cd_112_158 (by show qa_InR (qf_cnt (fun f9 => (qc_key M b c f v a s) 20 f9 = 2) 120 - qf_cnt (fun f9 => M 20 f9 = 2) 120); unfold qa_InR; omega) ?_
    exact R_iret cd_112_159 (by first | rfl | omega) rfl
  refine R_aload cd_112_0 rfl ?_
  refine R_getr cd_112_1 rfl ?_
  refine R_iload cd_112_4 rfl ?_
  refine R_iload cd_112_5 rfl ?_
  refine R_iload cd_112_6 rfl ?_
  refine R_call4 cd_112_7 rfl rfl (K_Rig_hasCell (by omega) (by omega)) ?_
  refine R_ifeq_b 27 cd_112_10 rfl (fun b10 => ?_) (fun b10 => ?_)
  · refine R_push cd_112_27 ?_
    exfalso
    omega
  · refine R_iload cd_112_13 rfl ?_
    refine R_push cd_112_15 ?_
    refine R_push cd_112_16 ?_
    refine R_call3 cd_112_17 rfl rfl K_Court_isWithin ?_
    refine R_ifeq_b 27 cd_112_20 rfl (fun b20 => ?_) (fun b20 => ?_)
    · refine R_push cd_112_27 ?_
      exfalso
      omega
    · refine R_push cd_112_23 ?_
      refine R_goto cd_112_24 ?_
      refine R_callv1 cd_112_28 rfl rfl (K_Court_mustExist (by decide)) ?_
      refine R_iload cd_112_31 rfl ?_
      refine R_push cd_112_32 ?_
      refine R_icmp_ne 59 cd_112_33 rfl (fun b33 => ?_) (fun b33 => ?_)
      · refine R_iload cd_112_59 rfl ?_
        refine R_push cd_112_61 ?_
        refine R_push cd_112_64 ?_
        refine R_call3 cd_112_67 rfl rfl K_Court_isWithin ?_
        refine R_callv1 cd_112_70 rfl rfl (K_Court_mustFit (qb_n0.mpr (by omega))) ?_
        refine R_iload cd_112_73 rfl ?_
        refine R_iload cd_112_74 rfl ?_
        refine R_call2 cd_112_75 rfl rfl (K_Court_trackOf (by omega) (by omega) (by omega) (by omega)) ?_
        refine R_istore cd_112_78 ?_
        refine R_aload cd_112_80 rfl ?_
        refine R_getr cd_112_81 rfl ?_
        refine R_iload cd_112_84 rfl ?_
        refine R_iload cd_112_86 rfl ?_
        refine R_call3 cd_112_87 rfl rfl (K_Rig_hasKey (by omega) (by omega) (by omega) (by omega) (by omega) (by omega)) ?_
        refine R_ifne_b 105 cd_112_90 rfl (fun b90 => ?_) (fun b90 => ?_)
        · refine R_push cd_112_105 ?_
          refine R_goto cd_112_106 ?_
          refine R_callv1 cd_112_110 rfl rfl (K_Court_mustBePossible (by decide)) ?_
          exact R_norm (qs_c rfl (qs_c rfl (qs_c rfl (qs_c rfl (qs_c rfl (qs_c rfl (qs_c rfl (qs_c rfl qs_n)))))))) fin
        · refine R_aload cd_112_93 rfl ?_
          refine R_getr cd_112_94 rfl ?_
          refine R_call1 cd_112_97 rfl rfl K_Rig_keyCount ?_
          refine R_push cd_112_100 ?_
          refine R_icmp_ge 109 cd_112_102 rfl (fun b102 => ?_) (fun b102 => ?_)
          · refine R_push cd_112_109 ?_
            exfalso
            omega
          · refine R_push cd_112_105 ?_
            refine R_goto cd_112_106 ?_
            refine R_callv1 cd_112_110 rfl rfl (K_Court_mustBePossible (by decide)) ?_
            exact R_norm (qs_c rfl (qs_c rfl (qs_c rfl (qs_c rfl (qs_c rfl (qs_c rfl (qs_c rfl (qs_c rfl qs_n)))))))) fin
      · refine R_iload cd_112_36 rfl ?_
        refine R_push cd_112_38 ?_
        refine R_push cd_112_39 ?_
        refine R_call3 cd_112_40 rfl rfl K_Court_isWithin ?_
        refine R_ifeq_b 55 cd_112_43 rfl (fun b43 => ?_) (fun b43 => ?_)
        · refine R_push cd_112_55 ?_
          refine R_goto cd_112_56 ?_
          exfalso
          omega
        · refine R_iload cd_112_46 rfl ?_
          refine R_if_ne 55 cd_112_48 rfl (fun b48 => ?_) (fun b48 => ?_)
          · refine R_push cd_112_55 ?_
            refine R_goto cd_112_56 ?_
            exfalso
            omega
          · refine R_push cd_112_51 ?_
            refine R_goto cd_112_52 ?_
            refine R_callv1 cd_112_70 rfl rfl (K_Court_mustFit (by decide)) ?_
            refine R_iload cd_112_73 rfl ?_
            refine R_iload cd_112_74 rfl ?_
            refine R_call2 cd_112_75 rfl rfl (K_Court_trackOf (by omega) (by omega) (by omega) (by omega)) ?_
            refine R_istore cd_112_78 ?_
            refine R_aload cd_112_80 rfl ?_
            refine R_getr cd_112_81 rfl ?_
            refine R_iload cd_112_84 rfl ?_
            refine R_iload cd_112_86 rfl ?_
            refine R_call3 cd_112_87 rfl rfl (K_Rig_hasKey (by omega) (by omega) (by omega) (by omega) (by omega) (by omega)) ?_
            refine R_ifne_b 105 cd_112_90 rfl (fun b90 => ?_) (fun b90 => ?_)
            · refine R_push cd_112_105 ?_
              refine R_goto cd_112_106 ?_
              refine R_callv1 cd_112_110 rfl rfl (K_Court_mustBePossible (by decide)) ?_
              exact R_norm (qs_c rfl (qs_c rfl (qs_c rfl (qs_c rfl (qs_c rfl (qs_c rfl (qs_c rfl (qs_c rfl qs_n)))))))) fin
            · refine R_aload cd_112_93 rfl ?_
              refine R_getr cd_112_94 rfl ?_
              refine R_call1 cd_112_97 rfl rfl K_Rig_keyCount ?_
              refine R_push cd_112_100 ?_
              refine R_icmp_ge 109 cd_112_102 rfl (fun b102 => ?_) (fun b102 => ?_)
              · refine R_push cd_112_109 ?_
                exfalso
                omega
              · refine R_push cd_112_105 ?_
                refine R_goto cd_112_106 ?_
                refine R_callv1 cd_112_110 rfl rfl (K_Court_mustBePossible (by decide)) ?_
                exact R_norm (qs_c rfl (qs_c rfl (qs_c rfl (qs_c rfl (qs_c rfl (qs_c rfl (qs_c rfl (qs_c rfl qs_n)))))))) fin
theorem K_Court_unkey1 {b c f : Int} {M : qa_Mem} (h1 : 0 ≤ M 1 3) (h2 : M 1 3 ≤ 8) (h3 : ¬ (qp_cell M b c f ∧ qp_has M b c f)) (h5 : 0 ≤ M 2 4) (h6 : M 2 4 ≤ 80) : qa_E 113 0 [(0, qr 0), (1, qi (b)), (2, qi (c)), (3, qi (f))] [] (M) (.inr 1) (qa_upd M 99 0 (M 99 0 + 1)) := by
  unfold qp_cell qp_has at h3
  by_cases hc : (0 ≤ b ∧ b ≤ M 1 3 - 1) ∧ (0 ≤ c ∧ c ≤ 2) ∧ (0 ≤ f ∧ f ≤ 119)
  · refine R_aload cd_113_0 rfl ?_
    refine R_getr cd_113_1 rfl ?_
    refine R_iload cd_113_4 rfl ?_
    refine R_iload cd_113_5 rfl ?_
    refine R_iload cd_113_6 rfl ?_
    refine R_call4 cd_113_7 rfl rfl (K_Rig_hasCell (by omega) (by omega)) ?_
    refine R_callv1 cd_113_10 rfl rfl (K_Court_mustExist (qb_n0.mpr (by omega))) ?_
    refine R_iload cd_113_13 rfl ?_
    refine R_iload cd_113_14 rfl ?_
    refine R_call2 cd_113_15 rfl rfl (K_Court_trackOf (by omega) (by omega) (by omega) (by omega)) ?_
    refine R_istore cd_113_18 ?_
    refine R_aload cd_113_20 rfl ?_
    refine R_getr cd_113_21 rfl ?_
    refine R_iload cd_113_24 rfl ?_
    refine R_iload cd_113_26 rfl ?_
    refine R_call3 cd_113_27 rfl rfl (K_Rig_hasKey (by omega) (by omega) (by omega) (by omega) (by omega) (by omega)) ?_
    exact R_callx1 cd_113_30 rfl rfl rfl (K_Court_mustExistX (qb_f (by omega))) rfl rfl
  · refine R_aload cd_113_0 rfl ?_
    refine R_getr cd_113_1 rfl ?_
    refine R_iload cd_113_4 rfl ?_
    refine R_iload cd_113_5 rfl ?_
    refine R_iload cd_113_6 rfl ?_
    refine R_call4 cd_113_7 rfl rfl (K_Rig_hasCell (by omega) (by omega)) ?_
    exact R_callx1 cd_113_10 rfl rfl rfl (K_Court_mustExistX (qb_f (by omega))) rfl rfl
noncomputable def qc_unkey (M : qa_Mem) (b c f : Int) : qa_Mem := qs_cmp (qt_M (qk_take M (1000 * (3 * b + c) + f)) (3 * b + c) 120) 120
theorem K_Court_unkey0 {b c f : Int} {M : qa_Mem} (h1 : 0 ≤ M 1 3) (h2 : M 1 3 ≤ 8) (h3 : qp_cell M b c f) (h4 : qp_has M b c f) (h5 : 0 ≤ M 2 4) (h6 : M 2 4 ≤ 80) (h9 : ∀ j, 0 ≤ j → j < 80 → M 17 j = 0 ∨ M 17 j = 1) (h10 : qk_wf ((qk_take M (1000 * (3 * b + c) + f)) 14) ((qk_take M (1000 * (3 * b + c) + f)) 15) ((qk_take M (1000 * (3 * b + c) + f)) 16) ((qk_take M (1000 * (3 * b + c) + f)) 17) ((qk_take M (1000 * (3 * b + c) + f)) 2 4)) : qa_E 113 0 [(0, qr 0), (1, qi (b)), (2, qi (c)), (3, qi (f))] [] (M) (.inl (some (qi (qf_cnt (fun f9 => (qc_unkey M b c f) 20 f9 = 2) 120 - qf_cnt (fun f9 => M 20 f9 = 2) 120)))) (qc_unkey M b c f) := by
  have h4' := h4
  unfold qp_cell at h3
  unfold qp_has at h4
  have q1 := qf_cnt_r (fun f9 => (qc_unkey M b c f) 20 f9 = 2) 120
  have q2 := qf_cnt_r (fun f9 => M 20 f9 = 2) 120
  refine R_aload cd_113_0 rfl ?_
  refine R_getr cd_113_1 rfl ?_
  refine R_iload cd_113_4 rfl ?_
  refine R_iload cd_113_5 rfl ?_
  refine R_iload cd_113_6 rfl ?_
  refine R_call4 cd_113_7 rfl rfl (K_Rig_hasCell (by omega) (by omega)) ?_
  refine R_callv1 cd_113_10 rfl rfl (K_Court_mustExist (qb_n0.mpr (by omega))) ?_
  refine R_iload cd_113_13 rfl ?_
  refine R_iload cd_113_14 rfl ?_
  refine R_call2 cd_113_15 rfl rfl (K_Court_trackOf (by omega) (by omega) (by omega) (by omega)) ?_
  refine R_istore cd_113_18 ?_
  refine R_aload cd_113_20 rfl ?_
  refine R_getr cd_113_21 rfl ?_
  refine R_iload cd_113_24 rfl ?_
  refine R_iload cd_113_26 rfl ?_
  refine R_call3 cd_113_27 rfl rfl (K_Rig_hasKey (by omega) (by omega) (by omega) (by omega) (by omega) (by omega)) ?_
  refine R_callv1 cd_113_30 rfl rfl (K_Court_mustExist (qb_n0.mpr (by omega))) ?_
  refine R_aload cd_113_33 rfl ?_
  refine R_getr cd_113_34 rfl ?_
  refine R_call1 cd_113_37 rfl rfl K_Stills_voidCount ?_
  refine R_istore cd_113_40 ?_
  refine R_aload cd_113_42 rfl ?_
  refine R_getr cd_113_43 rfl ?_
  refine R_iload cd_113_46 rfl ?_
  refine R_iload cd_113_48 rfl ?_
  refine R_callv3 cd_113_49 rfl rfl (K_Rig_takeKey (by omega) (by omega) (by omega) (by omega) h5 h6 h9 h4 h10) ?_
  refine R_aload cd_113_52 rfl ?_
  refine R_getr cd_113_53 rfl ?_
  refine R_aload cd_113_56 rfl ?_
  refine R_getr cd_113_57 rfl ?_
  refine R_callv2 cd_113_60 rfl rfl (K_Stills_compareAll (show 0 ≤ M 1 3 by omega) (show M 1 3 ≤ 8 by omega)) ?_
  refine R_aload cd_113_63 rfl ?_
  refine R_getr cd_113_64 rfl ?_
  refine R_call1 cd_113_67 rfl rfl K_Stills_voidCount ?_
  refine R_iload cd_113_70 rfl ?_
  refine R_isub cd_113_72 (by show qa_InR (qf_cnt (fun f9 => (qc_unkey M b c f) 20 f9 = 2) 120 - qf_cnt (fun f9 => M 20 f9 = 2) 120); unfold qa_InR; omega) ?_
  exact R_iret cd_113_73 (by first | rfl | omega) rfl
theorem K_Court_value1 {b c f : Int} {M : qa_Mem} (h1 : 0 ≤ M 1 3) (h2 : M 1 3 ≤ 8) (h3 : ¬ qp_cell M b c f) : qa_E 114 0 [(0, qr 0), (1, qi (b)), (2, qi (c)), (3, qi (f))] [] (M) (.inr 1) (qa_upd M 99 0 (M 99 0 + 1)) := by
  unfold qp_cell at h3
  refine R_aload cd_114_0 rfl ?_
  refine R_getr cd_114_1 rfl ?_
  refine R_iload cd_114_4 rfl ?_
  refine R_iload cd_114_5 rfl ?_
  refine R_iload cd_114_6 rfl ?_
  refine R_call4 cd_114_7 rfl rfl (K_Rig_hasCell (by omega) (by omega)) ?_
  exact R_callx1 cd_114_10 rfl rfl rfl (K_Court_mustExistX (qb_f (by omega))) rfl rfl
theorem K_Court_value0 {b c f : Int} {M : qa_Mem} (h1 : 0 ≤ M 1 3) (h2 : M 1 3 ≤ 8) (h3 : qp_cell M b c f) : qa_E 114 0 [(0, qr 0), (1, qi (b)), (2, qi (c)), (3, qi (f))] [] (M) (.inl (some (qi (M 12 ((3 * b + c) * 120 + f))))) (M) := by
  unfold qp_cell at h3
  refine R_aload cd_114_0 rfl ?_
  refine R_getr cd_114_1 rfl ?_
  refine R_iload cd_114_4 rfl ?_
  refine R_iload cd_114_5 rfl ?_
  refine R_iload cd_114_6 rfl ?_
  refine R_call4 cd_114_7 rfl rfl (K_Rig_hasCell (by omega) (by omega)) ?_
  refine R_callv1 cd_114_10 rfl rfl (K_Court_mustExist (qb_n0.mpr (by omega))) ?_
  refine R_aload cd_114_13 rfl ?_
  refine R_getr cd_114_14 rfl ?_
  refine R_iload cd_114_17 rfl ?_
  refine R_iload cd_114_18 rfl ?_
  refine R_call2 cd_114_19 rfl rfl (K_Court_trackOf (by omega) (by omega) (by omega) (by omega)) ?_
  refine R_iload cd_114_22 rfl ?_
  refine R_call3 cd_114_23 rfl rfl (K_Rig_poseAt (by omega) (by omega) (by omega) (by omega)) ?_
  exact R_iret cd_114_26 (by first | rfl | omega) rfl
theorem K_Court_span1 {b c f : Int} {M : qa_Mem} (h1 : 0 ≤ M 1 3) (h2 : M 1 3 ≤ 8) (h3 : ¬ (qp_cell M b c f ∧ qp_has M b c f)) (h5 : 0 ≤ M 2 4) (h6 : M 2 4 ≤ 80) : qa_E 115 0 [(0, qr 0), (1, qi (b)), (2, qi (c)), (3, qi (f))] [] (M) (.inr 1) (qa_upd M 99 0 (M 99 0 + 1)) := by
  unfold qp_cell qp_has at h3
  by_cases hc : (0 ≤ b ∧ b ≤ M 1 3 - 1) ∧ (0 ≤ c ∧ c ≤ 2) ∧ (0 ≤ f ∧ f ≤ 119)
  · refine R_aload cd_115_0 rfl ?_
    refine R_getr cd_115_1 rfl ?_
    refine R_iload cd_115_4 rfl ?_
    refine R_iload cd_115_5 rfl ?_
    refine R_iload cd_115_6 rfl ?_
    refine R_call4 cd_115_7 rfl rfl (K_Rig_hasCell (by omega) (by omega)) ?_
    refine R_callv1 cd_115_10 rfl rfl (K_Court_mustExist (qb_n0.mpr (by omega))) ?_
    refine R_iload cd_115_13 rfl ?_
    refine R_iload cd_115_14 rfl ?_
    refine R_call2 cd_115_15 rfl rfl (K_Court_trackOf (by omega) (by omega) (by omega) (by omega)) ?_
    refine R_istore cd_115_18 ?_
    refine R_aload cd_115_20 rfl ?_
    refine R_getr cd_115_21 rfl ?_
    refine R_iload cd_115_24 rfl ?_
    refine R_iload cd_115_26 rfl ?_
    refine R_call3 cd_115_27 rfl rfl (K_Rig_hasKey (by omega) (by omega) (by omega) (by omega) (by omega) (by omega)) ?_
    exact R_callx1 cd_115_30 rfl rfl rfl (K_Court_mustExistX (qb_f (by omega))) rfl rfl
  · refine R_aload cd_115_0 rfl ?_
    refine R_getr cd_115_1 rfl ?_
    refine R_iload cd_115_4 rfl ?_
    refine R_iload cd_115_5 rfl ?_
    refine R_iload cd_115_6 rfl ?_
    refine R_call4 cd_115_7 rfl rfl (K_Rig_hasCell (by omega) (by omega)) ?_
    exact R_callx1 cd_115_10 rfl rfl rfl (K_Court_mustExistX (qb_f (by omega))) rfl rfl
