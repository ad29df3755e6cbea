theorem K_Court_span0 {b c f : Int} {M : qa_Mem} (h1 : 0 ≤ M 1 3) (h2 : M 1 3 ≤ 8) (h3 : qp_cell M b c f) (h4 : qp_has M b c f) (hw : qk_wf (M 14) (M 15) (M 16) (M 17) (M 2 4)) : qa_E 115 0 [(0, qr 0), (1, qi (b)), (2, qi (c)), (3, qi (f))] [] (M) (.inl (some (qi ((let p := qf_ca (M 14) (M 2 4) (1000 * (3 * b + c) + f) 80 0; 1000 * (if p = qf_ca (M 14) (M 2 4) (1000 * (3 * b + c) + 0) 80 0 then 0 else if M 17 (p - 1) ≠ 0 then M 14 (p - 1) % 1000 + 1 else f) + (if p + 1 < qf_ca (M 14) (M 2 4) (1000 * (3 * b + c + 1) + 0) 80 0 then M 14 (p + 1) % 1000 - 1 else 119)))))) (M) := by
  have w1 := hw.1
  have w2 := hw.2.1
  unfold qp_cell at h3
  unfold qp_has at h4
  refine R_aload cd_115_0 rfl ?_
  refine R_getr cd_115_1 rfl ?_
  refine R_iload cd_115_4 rfl ?_
  refine R_iload cd_115_5 rfl ?_
  refine R_iload cd_115_6 rfl ?_
  refine R_call4 cd_115_7 rfl rfl (K_Rig_hasCell (by omega) (by omega)) ?_
  refine R_callv1 cd_115_10 rfl rfl (K_Court_mustExist (qb_n0.mpr (by omega))) ?_
  refine R_iload cd_115_13 rfl ?_
  refine R_iload cd_115_14 rfl ?_
  refine R_call2 cd_115_15 rfl rfl (K_Court_trackOf (by omega) (by omega) (by omega) (by omega)) ?_
  refine R_istore cd_115_18 ?_
  refine R_aload cd_115_20 rfl ?_
  refine R_getr cd_115_21 rfl ?_
  refine R_iload cd_115_24 rfl ?_
  refine R_iload cd_115_26 rfl ?_
  refine R_call3 cd_115_27 rfl rfl (K_Rig_hasKey (by omega) (by omega) (by omega) (by omega) (by omega) (by omega)) ?_
  refine R_callv1 cd_115_30 rfl rfl (K_Court_mustExist (qb_n0.mpr (by omega))) ?_
  refine R_aload cd_115_33 rfl ?_
  refine R_getr cd_115_34 rfl ?_
  refine R_iload cd_115_37 rfl ?_
  refine R_iload cd_115_39 rfl ?_
  refine R_call3 cd_115_40 rfl rfl (K_Rig_spanOf (by omega) (by omega) (by omega) (by omega) hw h4.1) ?_
  exact R_iret cd_115_43 (by first | rfl | omega) rfl
theorem K_Court_keyAt1 {p : Int} {M : qa_Mem} (h1 : 0 ≤ M 2 4) (h2 : M 2 4 ≤ 80) (h3 : ¬ (0 ≤ p ∧ p ≤ M 2 4 - 1)) : qa_E 116 0 [(0, qr 0), (1, qi (p))] [] (M) (.inr 1) (qa_upd M 99 0 (M 99 0 + 1)) := by
  refine R_iload cd_116_0 rfl ?_
  refine R_push cd_116_1 ?_
  refine R_aload cd_116_2 rfl ?_
  refine R_getr cd_116_3 rfl ?_
  refine R_call1 cd_116_6 rfl rfl K_Rig_keyCount ?_
  refine R_push cd_116_9 ?_
  refine R_isub cd_116_10 (by unfold qa_InR; first | omega | (simp [qa_upd, qa_blk] <;> omega)) ?_
  refine R_call3 cd_116_11 rfl rfl K_Court_isWithin ?_
  exact R_callx1 cd_116_14 rfl rfl rfl (K_Court_mustExistX (qb_f (by omega))) rfl rfl
theorem K_Court_keyAt0 {p : Int} {M : qa_Mem} (h1 : 0 ≤ M 2 4) (h2 : M 2 4 ≤ 80) (h3 : 0 ≤ p ∧ p ≤ M 2 4 - 1) : qa_E 116 0 [(0, qr 0), (1, qi (p))] [] (M) (.inl (some (qi (M 14 p)))) (M) := by
  refine R_iload cd_116_0 rfl ?_
  refine R_push cd_116_1 ?_
  refine R_aload cd_116_2 rfl ?_
  refine R_getr cd_116_3 rfl ?_
  refine R_call1 cd_116_6 rfl rfl K_Rig_keyCount ?_
  refine R_push cd_116_9 ?_
  refine R_isub cd_116_10 (by unfold qa_InR; first | omega | (simp [qa_upd, qa_blk] <;> omega)) ?_
  refine R_call3 cd_116_11 rfl rfl K_Court_isWithin ?_
  refine R_callv1 cd_116_14 rfl rfl (K_Court_mustExist (qb_n0.mpr (by omega))) ?_
  refine R_aload cd_116_17 rfl ?_
  refine R_getr cd_116_18 rfl ?_
  refine R_iload cd_116_21 rfl ?_
  refine R_call2 cd_116_22 rfl rfl (K_Rig_keyCode (by omega) (by omega)) ?_
  exact R_iret cd_116_25 (by first | rfl | omega) rfl
theorem K_Court_place1 {b f : Int} {M : qa_Mem} (h1 : 0 ≤ M 1 3) (h2 : M 1 3 ≤ 8) (h3 : ¬ ((0 ≤ b ∧ b ≤ M 1 3 - 1) ∧ 0 ≤ f ∧ f ≤ 119)) : qa_E 117 0 [(0, qr 0), (1, qi (b)), (2, qi (f))] [] (M) (.inr 1) (qa_upd M 99 0 (M 99 0 + 1)) := by
  refine R_aload cd_117_0 rfl ?_
  refine R_getr cd_117_1 rfl ?_
  refine R_iload cd_117_4 rfl ?_
  refine R_call2 cd_117_5 rfl rfl (K_Rig_hasBone (by omega) (by omega)) ?_
  refine R_ifeq_b 22 cd_117_8 rfl (fun b8 => ?_) (fun b8 => ?_)
  · refine R_push cd_117_22 ?_
    exact R_callx1 cd_117_23 rfl rfl rfl (K_Court_mustExistX rfl) rfl rfl
  · refine R_iload cd_117_11 rfl ?_
    refine R_call1 cd_117_12 rfl rfl K_Court_isFrame ?_
    refine R_ifeq_b 22 cd_117_15 rfl (fun b15 => ?_) (fun b15 => ?_)
    · refine R_push cd_117_22 ?_
      exact R_callx1 cd_117_23 rfl rfl rfl (K_Court_mustExistX rfl) rfl rfl
    · refine R_push cd_117_18 ?_
      refine R_goto cd_117_19 ?_
      exfalso
      omega
theorem K_Court_place0 {b f : Int} {M : qa_Mem} (h1 : 0 ≤ M 1 3) (h2 : M 1 3 ≤ 8) (h3 : (0 ≤ b ∧ b ≤ M 1 3 - 1) ∧ 0 ≤ f ∧ f ≤ 119) (h5 : ∀ u, 0 ≤ u → u < 8 → -1 ≤ M 9 u ∧ M 9 u < 8) (h6 : ∀ u, 0 ≤ u → u < 8 → (-100 ≤ M 10 u ∧ M 10 u ≤ 100) ∧ (-100 ≤ M 11 u ∧ M 11 u ≤ 100)) (h7 : ∀ u, 0 ≤ u → u < 8 → (-200 ≤ M 12 ((3 * u + 0) * 120 + f) ∧ M 12 ((3 * u + 0) * 120 + f) ≤ 200) ∧ (-200 ≤ M 12 ((3 * u + 1) * 120 + f) ∧ M 12 ((3 * u + 1) * 120 + f) ≤ 200) ∧ (0 ≤ M 12 ((3 * u + 2) * 120 + f) ∧ M 12 ((3 * u + 2) * 120 + f) ≤ 3)) : qa_E 117 0 [(0, qr 0), (1, qi (b)), (2, qi (f))] [] (M) (.inl (some (qi ((let r := qg_c (M 9) (fun u => M 12 ((3 * u + 2) * 120 + f)) (fun u => M 10 u + M 12 ((3 * u + 0) * 120 + f)) (fun u => M 11 u + M 12 ((3 * u + 1) * 120 + f)) 8 (M 9 b) (M 10 b + M 12 ((3 * b + 0) * 120 + f)) (M 11 b + M 12 ((3 * b + 1) * 120 + f)); 10000 * (r.1 + 5000) + r.2 + 5000))))) (M) := by
  refine R_aload cd_117_0 rfl ?_
  refine R_getr cd_117_1 rfl ?_
  refine R_iload cd_117_4 rfl ?_
  refine R_call2 cd_117_5 rfl rfl (K_Rig_hasBone (by omega) (by omega)) ?_
  refine R_ifeq_b 22 cd_117_8 rfl (fun b8 => ?_) (fun b8 => ?_)
  · refine R_push cd_117_22 ?_
    exfalso
    omega
  · refine R_iload cd_117_11 rfl ?_
    refine R_call1 cd_117_12 rfl rfl K_Court_isFrame ?_
    refine R_ifeq_b 22 cd_117_15 rfl (fun b15 => ?_) (fun b15 => ?_)
    · refine R_push cd_117_22 ?_
      exfalso
      omega
    · refine R_push cd_117_18 ?_
      refine R_goto cd_117_19 ?_
      refine R_callv1 cd_117_23 rfl rfl (K_Court_mustExist (by decide)) ?_
      refine R_aload cd_117_26 rfl ?_
      refine R_getr cd_117_27 rfl ?_
      refine R_iload cd_117_30 rfl ?_
      refine R_iload cd_117_31 rfl ?_
      refine R_call3 cd_117_32 rfl rfl (K_Rig_placeOf (by omega) (by omega) (by omega) (by omega) h5 h6 h7) ?_
      exact R_iret cd_117_35 (by first | rfl | omega) rfl
theorem K_Court_artists1 {f : Int} {M : qa_Mem} (h3 : ¬ (0 ≤ f ∧ f ≤ 119)) : qa_E 118 0 [(0, qr 0), (1, qi (f))] [] (M) (.inr 1) (qa_upd M 99 0 (M 99 0 + 1)) := by
  refine R_iload cd_118_0 rfl ?_
  refine R_call1 cd_118_1 rfl rfl K_Court_isFrame ?_
  exact R_callx1 cd_118_4 rfl rfl rfl (K_Court_mustExistX (qb_f (by omega))) rfl rfl
theorem K_Court_artists0 {f : Int} {M : qa_Mem} (h1 : 0 ≤ M 1 3) (h2 : M 1 3 ≤ 8) (h3 : 0 ≤ f ∧ f ≤ 119) : qa_E 118 0 [(0, qr 0), (1, qi (f))] [] (M) (.inl (some (qi (qf_or (fun t => M 13 (t * 120 + f)) (3 * M 1 3).toNat)))) (M) := by
  refine R_iload cd_118_0 rfl ?_
  refine R_call1 cd_118_1 rfl rfl K_Court_isFrame ?_
  refine R_callv1 cd_118_4 rfl rfl (K_Court_mustExist (qb_n0.mpr (by omega))) ?_
  refine R_aload cd_118_7 rfl ?_
  refine R_getr cd_118_8 rfl ?_
  refine R_iload cd_118_11 rfl ?_
  refine R_call2 cd_118_12 rfl rfl (K_Rig_artistsAt (by omega) (by omega) (by omega) (by omega)) ?_
  exact R_iret cd_118_15 (by first | rfl | omega) rfl
theorem K_Court_cut1 {p a b : Int} {M : qa_Mem} (h3 : ¬ ((0 ≤ p ∧ p ≤ M 4 3) ∧ (0 ≤ a ∧ a ≤ 119) ∧ 0 ≤ b ∧ b ≤ 119)) : qa_E 119 0 [(0, qr 0), (1, qi (p)), (2, qi (a)), (3, qi (b))] [] (M) (.inr 1) (qa_upd M 99 0 (M 99 0 + 1)) := by
  refine R_iload cd_119_0 rfl ?_
  refine R_push cd_119_1 ?_
  refine R_aload cd_119_2 rfl ?_
  refine R_getr cd_119_3 rfl ?_
  refine R_call1 cd_119_6 rfl rfl K_Film_shotCount ?_
  refine R_call3 cd_119_9 rfl rfl K_Court_isWithin ?_
  refine R_ifeq_b 33 cd_119_12 rfl (fun b12 => ?_) (fun b12 => ?_)
  · refine R_push cd_119_33 ?_
    exact R_callx1 cd_119_34 rfl rfl rfl (K_Court_mustExistX rfl) rfl rfl
  · refine R_iload cd_119_15 rfl ?_
    refine R_call1 cd_119_16 rfl rfl K_Court_isFrame ?_
    refine R_ifeq_b 33 cd_119_19 rfl (fun b19 => ?_) (fun b19 => ?_)
    · refine R_push cd_119_33 ?_
      exact R_callx1 cd_119_34 rfl rfl rfl (K_Court_mustExistX rfl) rfl rfl
    · refine R_iload cd_119_22 rfl ?_
      refine R_call1 cd_119_23 rfl rfl K_Court_isFrame ?_
      refine R_ifeq_b 33 cd_119_26 rfl (fun b26 => ?_) (fun b26 => ?_)
      · refine R_push cd_119_33 ?_
        exact R_callx1 cd_119_34 rfl rfl rfl (K_Court_mustExistX rfl) rfl rfl
      · refine R_push cd_119_29 ?_
        refine R_goto cd_119_30 ?_
        exfalso
        omega
theorem K_Court_cut2 {p a b : Int} {M : qa_Mem} (h3 : (0 ≤ p ∧ p ≤ M 4 3) ∧ (0 ≤ a ∧ a ≤ 119) ∧ 0 ≤ b ∧ b ≤ 119) (h4 : b < a) : qa_E 119 0 [(0, qr 0), (1, qi (p)), (2, qi (a)), (3, qi (b))] [] (M) (.inr 2) (qa_upd M 99 0 (M 99 0 + 1)) := by
  refine R_iload cd_119_0 rfl ?_
  refine R_push cd_119_1 ?_
  refine R_aload cd_119_2 rfl ?_
  refine R_getr cd_119_3 rfl ?_
  refine R_call1 cd_119_6 rfl rfl K_Film_shotCount ?_
  refine R_call3 cd_119_9 rfl rfl K_Court_isWithin ?_
  refine R_ifeq_b 33 cd_119_12 rfl (fun b12 => ?_) (fun b12 => ?_)
  · refine R_push cd_119_33 ?_
    exfalso
    omega
  · refine R_iload cd_119_15 rfl ?_
    refine R_call1 cd_119_16 rfl rfl K_Court_isFrame ?_
    refine R_ifeq_b 33 cd_119_19 rfl (fun b19 => ?_) (fun b19 => ?_)
    · refine R_push cd_119_33 ?_
      exfalso
      omega
    · refine R_iload cd_119_22 rfl ?_
      refine R_call1 cd_119_23 rfl rfl K_Court_isFrame ?_
      refine R_ifeq_b 33 cd_119_26 rfl (fun b26 => ?_) (fun b26 => ?_)
      · refine R_push cd_119_33 ?_
        exfalso
        omega
      · refine R_push cd_119_29 ?_
        refine R_goto cd_119_30 ?_
        refine R_callv1 cd_119_34 rfl rfl (K_Court_mustExist (by decide)) ?_
        refine R_iload cd_119_37 rfl ?_
        refine R_iload cd_119_38 rfl ?_
        refine R_icmp_gt 46 cd_119_39 rfl (fun b39 => ?_) (fun b39 => ?_)
        · refine R_push cd_119_46 ?_
          exact R_callx1 cd_119_47 rfl rfl rfl (K_Court_mustFitX rfl) rfl rfl
        · refine R_push cd_119_42 ?_
          refine R_goto cd_119_43 ?_
          exfalso
          omega
theorem K_Court_cut3 {p a b : Int} {M : qa_Mem} (h3 : (0 ≤ p ∧ p ≤ M 4 3) ∧ (0 ≤ a ∧ a ≤ 119) ∧ 0 ≤ b ∧ b ≤ 119) (h4 : a ≤ b) (h5 : M 4 3 = 10) : qa_E 119 0 [(0, qr 0), (1, qi (p)), (2, qi (a)), (3, qi (b))] [] (M) (.inr 3) (qa_upd M 99 0 (M 99 0 + 1)) := by
  refine R_iload cd_119_0 rfl ?_
  refine R_push cd_119_1 ?_
  refine R_aload cd_119_2 rfl ?_
  refine R_getr cd_119_3 rfl ?_
  refine R_call1 cd_119_6 rfl rfl K_Film_shotCount ?_
  refine R_call3 cd_119_9 rfl rfl K_Court_isWithin ?_
  refine R_ifeq_b 33 cd_119_12 rfl (fun b12 => ?_) (fun b12 => ?_)
  · refine R_push cd_119_33 ?_
    exfalso
    omega
  · refine R_iload cd_119_15 rfl ?_
    refine R_call1 cd_119_16 rfl rfl K_Court_isFrame ?_
    refine R_ifeq_b 33 cd_119_19 rfl (fun b19 => ?_) (fun b19 => ?_)
    · refine R_push cd_119_33 ?_
      exfalso
      omega
    · refine R_iload cd_119_22 rfl ?_
      refine R_call1 cd_119_23 rfl rfl K_Court_isFrame ?_
      refine R_ifeq_b 33 cd_119_26 rfl (fun b26 => ?_) (fun b26 => ?_)
      · refine R_push cd_119_33 ?_
        exfalso
        omega
      · refine R_push cd_119_29 ?_
        refine R_goto cd_119_30 ?_
        refine R_callv1 cd_119_34 rfl rfl (K_Court_mustExist (by decide)) ?_
        refine R_iload cd_119_37 rfl ?_
        refine R_iload cd_119_38 rfl ?_
        refine R_icmp_gt 46 cd_119_39 rfl (fun b39 => ?_) (fun b39 => ?_)
        · refine R_push cd_119_46 ?_
          exfalso
          omega
        · refine R_push cd_119_42 ?_
          refine R_goto cd_119_43 ?_
          refine R_callv1 cd_119_47 rfl rfl (K_Court_mustFit (by decide)) ?_
          refine R_aload cd_119_50 rfl ?_
          refine R_getr cd_119_51 rfl ?_
          refine R_call1 cd_119_54 rfl rfl K_Film_shotCount ?_
          refine R_push cd_119_57 ?_
          refine R_icmp_ge 66 cd_119_59 rfl (fun b59 => ?_) (fun b59 => ?_)
          · refine R_push cd_119_66 ?_
            exact R_callx1 cd_119_67 rfl rfl rfl (K_Court_mustBePossibleX rfl) rfl rfl
          · refine R_push cd_119_62 ?_
            refine R_goto cd_119_63 ?_
            exfalso
            omega
theorem K_Court_cut0 {p a b : Int} {M : qa_Mem} (h3 : (0 ≤ p ∧ p ≤ M 4 3) ∧ (0 ≤ a ∧ a ≤ 119) ∧ 0 ≤ b ∧ b ≤ 119) (h4 : a ≤ b) (h5 : M 4 3 < 10) (h7 : ∀ j, 0 ≤ j → j < 120 → -1000 ≤ M 23 j ∧ M 23 j ≤ 1000) (h8 : -10000 ≤ M 4 4 ∧ M 4 4 ≤ 10000) : qa_E 119 0 [(0, qr 0), (1, qi (p)), (2, qi (a)), (3, qi (b))] [] (M) (.inl (some (qi (M 4 4 + 1 * (b + 1 - a))))) (qm_cnt (qm_ins M p a b) a b 1) := by
  refine R_iload cd_119_0 rfl ?_
  refine R_push cd_119_1 ?_
  refine R_aload cd_119_2 rfl ?_
  refine R_getr cd_119_3 rfl ?_
  refine R_call1 cd_119_6 rfl rfl K_Film_shotCount ?_
  refine R_call3 cd_119_9 rfl rfl K_Court_isWithin ?_
  refine R_ifeq_b 33 cd_119_12 rfl (fun b12 => ?_) (fun b12 => ?_)
  · refine R_push cd_119_33 ?_
    exfalso
    omega
  · refine R_iload cd_119_15 rfl ?_
    refine R_call1 cd_119_16 rfl rfl K_Court_isFrame ?_
    refine R_ifeq_b 33 cd_119_19 rfl (fun b19 => ?_) (fun b19 => ?_)
    · refine R_push cd_119_33 ?_
      exfalso
      omega
    · refine R_iload cd_119_22 rfl ?_
      refine R_call1 cd_119_23 rfl rfl K_Court_isFrame ?_
      refine R_ifeq_b 33 cd_119_26 rfl (fun b26 => ?_) (fun b26 => ?_)
      · refine R_push cd_119_33 ?_
        exfalso
        omega
      · refine R_push cd_119_29 ?_
        refine R_goto cd_119_30 ?_
        refine R_callv1 cd_119_34 rfl rfl (K_Court_mustExist (by decide)) ?_
        refine R_iload cd_119_37 rfl ?_
        refine R_iload cd_119_38 rfl ?_
        refine R_icmp_gt 46 cd_119_39 rfl (fun b39 => ?_) (fun b39 => ?_)
        · refine R_push cd_119_46 ?_
          exfalso
          omega
        · refine R_push cd_119_42 ?_
          refine R_goto cd_119_43 ?_
          refine R_callv1 cd_119_47 rfl rfl (K_Court_mustFit (by decide)) ?_
          refine R_aload cd_119_50 rfl ?_
          refine R_getr cd_119_51 rfl ?_
          refine R_call1 cd_119_54 rfl rfl K_Film_shotCount ?_
          refine R_push cd_119_57 ?_
          refine R_icmp_ge 66 cd_119_59 rfl (fun b59 => ?_) (fun b59 => ?_)
          · refine R_push cd_119_66 ?_
            exfalso
            omega
          · refine R_push cd_119_62 ?_
            refine R_goto cd_119_63 ?_
            refine R_callv1 cd_119_67 rfl rfl (K_Court_mustBePossible (by decide)) ?_
            refine R_aload cd_119_70 rfl ?_
            refine R_getr cd_119_71 rfl ?_
            refine R_iload cd_119_74 rfl ?_
            refine R_iload cd_119_75 rfl ?_
            refine R_iload cd_119_76 rfl ?_
            refine R_callv4 cd_119_77 rfl rfl (K_Film_insert (by omega) (by omega) (by omega) (by omega) (by omega) (by omega) h7 h8) ?_
            refine R_aload cd_119_80 rfl ?_
            refine R_getr cd_119_81 rfl ?_
            refine R_call1 cd_119_84 rfl rfl K_Film_length ?_
            exact R_iret cd_119_87 (by unfold qm_cnt; rw [qa_upd_e]; rfl) rfl
theorem K_Court_uncut1 {p : Int} {M : qa_Mem} (h1 : 0 ≤ M 4 3) (h2 : M 4 3 ≤ 10) (h3 : ¬ (0 ≤ p ∧ p ≤ M 4 3 - 1)) : qa_E 120 0 [(0, qr 0), (1, qi (p))] [] (M) (.inr 1) (qa_upd M 99 0 (M 99 0 + 1)) := by
  refine R_iload cd_120_0 rfl ?_
  refine R_push cd_120_1 ?_
  refine R_aload cd_120_2 rfl ?_
  refine R_getr cd_120_3 rfl ?_
  refine R_call1 cd_120_6 rfl rfl K_Film_shotCount ?_
  refine R_push cd_120_9 ?_
  refine R_isub cd_120_10 (by unfold qa_InR; first | omega | (simp [qa_upd, qa_blk] <;> omega)) ?_
  refine R_call3 cd_120_11 rfl rfl K_Court_isWithin ?_
  exact R_callx1 cd_120_14 rfl rfl rfl (K_Court_mustExistX (qb_f (by omega))) rfl rfl
theorem K_Court_uncut0 {p : Int} {M : qa_Mem} (h1 : 0 ≤ M 4 3) (h2 : M 4 3 ≤ 10) (h3 : 0 ≤ p ∧ p ≤ M 4 3 - 1) (h4 : 0 ≤ M 21 p) (h5 : M 21 p ≤ M 22 p) (h6 : M 22 p < 120) (h7 : ∀ j, 0 ≤ j → j < 120 → -1000 ≤ M 23 j ∧ M 23 j ≤ 1000) (h8 : -10000 ≤ M 4 4 ∧ M 4 4 ≤ 10000) : qa_E 120 0 [(0, qr 0), (1, qi (p))] [] (M) (.inl (some (qi (M 4 4 + -1 * (M 22 p + 1 - M 21 p))))) (qm_del (qm_cnt M (M 21 p) (M 22 p) (-1)) p) := by
  refine R_iload cd_120_0 rfl ?_
  refine R_push cd_120_1 ?_
  refine R_aload cd_120_2 rfl ?_
  refine R_getr cd_120_3 rfl ?_
  refine R_call1 cd_120_6 rfl rfl K_Film_shotCount ?_
  refine R_push cd_120_9 ?_
  refine R_isub cd_120_10 (by unfold qa_InR; first | omega | (simp [qa_upd, qa_blk] <;> omega)) ?_
  refine R_call3 cd_120_11 rfl rfl K_Court_isWithin ?_
  refine R_callv1 cd_120_14 rfl rfl (K_Court_mustExist (qb_n0.mpr (by omega))) ?_
  refine R_aload cd_120_17 rfl ?_
  refine R_getr cd_120_18 rfl ?_
  refine R_iload cd_120_21 rfl ?_
  refine R_callv2 cd_120_22 rfl rfl (K_Film_remove (by omega) (by omega) (by omega) h4 h5 h6 h7 h8) ?_
  refine R_aload cd_120_25 rfl ?_
  refine R_getr cd_120_26 rfl ?_
  refine R_call1 cd_120_29 rfl rfl K_Film_length ?_
  exact R_iret cd_120_32 (by unfold qm_del qm_cnt; rw [qa_blk_n (by decide), qa_blk_n (by decide), qa_upd_i (by decide), qa_upd_e]) rfl
theorem K_Court_shown1 {p : Int} {M : qa_Mem} (h1 : 0 ≤ M 4 4) (h2 : M 4 4 ≤ 100000) (h3 : ¬ (0 ≤ p ∧ p ≤ M 4 4 - 1)) : qa_E 121 0 [(0, qr 0), (1, qi (p))] [] (M) (.inr 1) (qa_upd M 99 0 (M 99 0 + 1)) := by
  refine R_iload cd_121_0 rfl ?_
  refine R_push cd_121_1 ?_
  refine R_aload cd_121_2 rfl ?_
  refine R_getr cd_121_3 rfl ?_
  refine R_call1 cd_121_6 rfl rfl K_Film_length ?_
  refine R_push cd_121_9 ?_
  refine R_isub cd_121_10 (by unfold qa_InR; first | omega | (simp [qa_upd, qa_blk] <;> omega)) ?_
  refine R_call3 cd_121_11 rfl rfl K_Court_isWithin ?_
  exact R_callx1 cd_121_14 rfl rfl rfl (K_Court_mustExistX (qb_f (by omega))) rfl rfl
theorem K_Court_shown0 {p : Int} {M : qa_Mem} (h1 : 0 ≤ M 4 4) (h2 : M 4 4 ≤ 100000) (h3 : 0 ≤ p ∧ p ≤ M 4 4 - 1) (h4 : 0 ≤ M 4 3) (h5 : M 4 3 ≤ 10) (h6 : ∀ k, 0 ≤ k → k < M 4 3 → 0 ≤ M 21 k ∧ M 21 k ≤ M 22 k ∧ M 22 k < 120) : qa_E 121 0 [(0, qr 0), (1, qi (p))] [] (M) (.inl (some (qi ((let r := qm_at (M 21) (M 22) (M 4 3).toNat 0 p; if r = -1 then 0 else r))))) (M) := by
  refine R_iload cd_121_0 rfl ?_
  refine R_push cd_121_1 ?_
  refine R_aload cd_121_2 rfl ?_
  refine R_getr cd_121_3 rfl ?_
  refine R_call1 cd_121_6 rfl rfl K_Film_length ?_
  refine R_push cd_121_9 ?_
  refine R_isub cd_121_10 (by unfold qa_InR; first | omega | (simp [qa_upd, qa_blk] <;> omega)) ?_
  refine R_call3 cd_121_11 rfl rfl K_Court_isWithin ?_
  refine R_callv1 cd_121_14 rfl rfl (K_Court_mustExist (qb_n0.mpr (by omega))) ?_
  refine R_aload cd_121_17 rfl ?_
  refine R_getr cd_121_18 rfl ?_
  refine R_iload cd_121_21 rfl ?_
  refine R_call2 cd_121_22 rfl rfl (K_Film_frameAt (by omega) (by omega) h4 h5 h6) ?_
  exact R_iret cd_121_25 (by first | rfl | omega) rfl
theorem K_Court_state1 {f : Int} {M : qa_Mem} (h3 : ¬ (0 ≤ f ∧ f ≤ 119)) : qa_E 122 0 [(0, qr 0), (1, qi (f))] [] (M) (.inr 1) (qa_upd M 99 0 (M 99 0 + 1)) := by
  refine R_iload cd_122_0 rfl ?_
  refine R_call1 cd_122_1 rfl rfl K_Court_isFrame ?_
  exact R_callx1 cd_122_4 rfl rfl rfl (K_Court_mustExistX (qb_f (by omega))) rfl rfl
theorem K_Court_state0 {f : Int} {M : qa_Mem} (h3 : 0 ≤ f ∧ f ≤ 119) (h4 : 0 ≤ M 20 f ∧ M 20 f ≤ 2) : qa_E 122 0 [(0, qr 0), (1, qi (f))] [] (M) (.inl (some (qi (M 20 f + 10 * qb (0 < M 23 f))))) (M) := by
  refine R_iload cd_122_0 rfl ?_
  refine R_call1 cd_122_1 rfl rfl K_Court_isFrame ?_
  refine R_callv1 cd_122_4 rfl rfl (K_Court_mustExist (qb_n0.mpr (by omega))) ?_
  refine R_aload cd_122_7 rfl ?_
  refine R_getr cd_122_8 rfl ?_
  refine R_iload cd_122_11 rfl ?_
  refine R_call2 cd_122_12 rfl rfl (K_Stills_standing (by omega) (by omega)) ?_
  refine R_aload cd_122_15 rfl ?_
  refine R_getr cd_122_16 rfl ?_
  refine R_iload cd_122_19 rfl ?_
  refine R_call2 cd_122_20 rfl rfl (K_Film_needs (by omega) (by omega)) ?_
  refine R_ifeq_b 31 cd_122_23 rfl (fun b23 => ?_) (fun b23 => ?_)
  · refine R_push cd_122_31 ?_
    refine R_iadd cd_122_32 (by unfold qa_InR; first | omega | (simp [qa_upd, qa_blk] <;> omega)) ?_
    first
      | exact R_iret cd_122_33 (by rw [qb_t b23]; omega) rfl
      | exact R_iret cd_122_33 (by rw [qb_f b23]; omega) rfl
  · refine R_push cd_122_26 ?_
    refine R_goto cd_122_28 ?_
    refine R_iadd cd_122_32 (by unfold qa_InR; first | omega | (simp [qa_upd, qa_blk] <;> omega)) ?_
    first
      | exact R_iret cd_122_33 (by rw [qb_t b23]; omega) rfl
      | exact R_iret cd_122_33 (by rw [qb_f b23]; omega) rfl
theorem K_Court_voids {M : qa_Mem} : qa_E 123 0 [(0, qr 0)] [] (M) (.inl (some (qi (qf_cnt (fun f => M 20 f = 2) 120)))) (M) := by
  refine R_aload cd_123_0 rfl ?_
  refine R_getr cd_123_1 rfl ?_
  refine R_call1 cd_123_4 rfl rfl K_Stills_voidCount ?_
  exact R_iret cd_123_7 (by first | rfl | omega) rfl
theorem K_Court_voidsByAll {M : qa_Mem} (h1 : 0 ≤ M 1 3) (h2 : M 1 3 ≤ 8) : qa_E 124 0 [(0, qr 0)] [] (M) (.inl (some (qi (qf_cnt (fun f => M 20 f ≠ 0 ∧ ¬ qs_am M f) 120)))) (M) := by
  refine R_aload cd_124_0 rfl ?_
  refine R_getr cd_124_1 rfl ?_
  refine R_aload cd_124_4 rfl ?_
  refine R_getr cd_124_5 rfl ?_
  refine R_call2 cd_124_8 rfl rfl (K_Stills_voidCountByAll (by omega) (by omega)) ?_
  exact R_iret cd_124_11 (by first | rfl | omega) rfl
theorem K_Court_machine1 {s : Int} {M : qa_Mem} (h3 : ¬ (1 ≤ s ∧ s ≤ 5)) : qa_E 125 0 [(0, qr 0), (1, qi (s))] [] (M) (.inr 2) (qa_upd M 99 0 (M 99 0 + 1)) := by
  refine R_iload cd_125_0 rfl ?_
  refine R_push cd_125_1 ?_
  refine R_push cd_125_2 ?_
  refine R_call3 cd_125_3 rfl rfl K_Court_isWithin ?_
  exact R_callx1 cd_125_6 rfl rfl rfl (K_Court_mustFitX (qb_f (by omega))) rfl rfl
theorem K_Court_machine2 {s : Int} {M : qa_Mem} (h3 : 1 ≤ s ∧ s ≤ 5) (h4 : M 5 3 = 4) : qa_E 125 0 [(0, qr 0), (1, qi (s))] [] (M) (.inr 3) (qa_upd M 99 0 (M 99 0 + 1)) := by
  refine R_iload cd_125_0 rfl ?_
  refine R_push cd_125_1 ?_
  refine R_push cd_125_2 ?_
  refine R_call3 cd_125_3 rfl rfl K_Court_isWithin ?_
  refine R_callv1 cd_125_6 rfl rfl (K_Court_mustFit (qb_n0.mpr (by omega))) ?_
  refine R_aload cd_125_9 rfl ?_
  refine R_getr cd_125_10 rfl ?_
  refine R_call1 cd_125_13 rfl rfl K_Farm_machineCount ?_
  refine R_push cd_125_16 ?_
  refine R_icmp_ge 24 cd_125_17 rfl (fun b17 => ?_) (fun b17 => ?_)
  · refine R_push cd_125_24 ?_
    exact R_callx1 cd_125_25 rfl rfl rfl (K_Court_mustBePossibleX rfl) rfl rfl
  · refine R_push cd_125_20 ?_
    refine R_goto cd_125_21 ?_
    exfalso
    omega
theorem K_Court_machine0 {s : Int} {M : qa_Mem} (h3 : 1 ≤ s ∧ s ≤ 5) (h4 : 0 ≤ M 5 3 ∧ M 5 3 < 4) : qa_E 125 0 [(0, qr 0), (1, qi (s))] [] (M) (.inl (some (qi (M 5 3)))) (qa_upd (qa_upd M 24 (M 5 3) s) 5 3 (M 5 3 + 1)) := by
  refine R_iload cd_125_0 rfl ?_
  refine R_push cd_125_1 ?_
  refine R_push cd_125_2 ?_
  refine R_call3 cd_125_3 rfl rfl K_Court_isWithin ?_
  refine R_callv1 cd_125_6 rfl rfl (K_Court_mustFit (qb_n0.mpr (by omega))) ?_
  refine R_aload cd_125_9 rfl ?_
  refine R_getr cd_125_10 rfl ?_
  refine R_call1 cd_125_13 rfl rfl K_Farm_machineCount ?_
  refine R_push cd_125_16 ?_
  refine R_icmp_ge 24 cd_125_17 rfl (fun b17 => ?_) (fun b17 => ?_)
  · refine R_push cd_125_24 ?_
    exfalso
    omega
  · refine R_push cd_125_20 ?_
    refine R_goto cd_125_21 ?_
    refine R_callv1 cd_125_25 rfl rfl (K_Court_mustBePossible (by decide)) ?_
    refine R_aload cd_125_28 rfl ?_
    refine R_getr cd_125_29 rfl ?_
    refine R_iload cd_125_32 rfl ?_
    refine R_call2 cd_125_33 rfl rfl (K_Farm_addMachine (by omega) (by omega)) ?_
    exact R_iret cd_125_36 (by first | rfl | omega) rfl
theorem K_Court_offer1 {p h : Int} {M : qa_Mem} (h3 : ¬ ((1 ≤ p ∧ p ≤ 100) ∧ 1 ≤ h ∧ h ≤ 50)) : qa_E 126 0 [(0, qr 0), (1, qi (p)), (2, qi (h))] [] (M) (.inr 2) (qa_upd M 99 0 (M 99 0 + 1)) := by
  refine R_iload cd_126_0 rfl ?_
  refine R_push cd_126_1 ?_
  refine R_push cd_126_2 ?_
  refine R_call3 cd_126_4 rfl rfl K_Court_isWithin ?_
  refine R_ifeq_b 24 cd_126_7 rfl (fun b7 => ?_) (fun b7 => ?_)
  · refine R_push cd_126_24 ?_
    exact R_callx1 cd_126_25 rfl rfl rfl (K_Court_mustFitX rfl) rfl rfl
  · refine R_iload cd_126_10 rfl ?_
    refine R_push cd_126_11 ?_
    refine R_push cd_126_12 ?_
    refine R_call3 cd_126_14 rfl rfl K_Court_isWithin ?_
    refine R_ifeq_b 24 cd_126_17 rfl (fun b17 => ?_) (fun b17 => ?_)
    · refine R_push cd_126_24 ?_
      exact R_callx1 cd_126_25 rfl rfl rfl (K_Court_mustFitX rfl) rfl rfl
    · refine R_push cd_126_20 ?_
      refine R_goto cd_126_21 ?_
      exfalso
      omega
theorem K_Court_offer2 {p h : Int} {M : qa_Mem} (h3 : (1 ≤ p ∧ p ≤ 100) ∧ 1 ≤ h ∧ h ≤ 50) (h4 : M 5 6 = 10) : qa_E 126 0 [(0, qr 0), (1, qi (p)), (2, qi (h))] [] (M) (.inr 3) (qa_upd M 99 0 (M 99 0 + 1)) := by
  refine R_iload cd_126_0 rfl ?_
  refine R_push cd_126_1 ?_
  refine R_push cd_126_2 ?_
  refine R_call3 cd_126_4 rfl rfl K_Court_isWithin ?_
  refine R_ifeq_b 24 cd_126_7 rfl (fun b7 => ?_) (fun b7 => ?_)
  · refine R_push cd_126_24 ?_
    exfalso
    omega
  · refine R_iload cd_126_10 rfl ?_
    refine R_push cd_126_11 ?_
    refine R_push cd_126_12 ?_
    refine R_call3 cd_126_14 rfl rfl K_Court_isWithin ?_
    refine R_ifeq_b 24 cd_126_17 rfl (fun b17 => ?_) (fun b17 => ?_)
    · refine R_push cd_126_24 ?_
      exfalso
      omega
    · refine R_push cd_126_20 ?_
      refine R_goto cd_126_21 ?_
      refine R_callv1 cd_126_25 rfl rfl (K_Court_mustFit (by decide)) ?_
      refine R_aload cd_126_28 rfl ?_
      refine R_getr cd_126_29 rfl ?_
      refine R_call1 cd_126_32 rfl rfl K_Farm_offerCount ?_
      refine R_push cd_126_35 ?_
      refine R_icmp_ge 44 cd_126_37 rfl (fun b37 => ?_) (fun b37 => ?_)
      · refine R_push cd_126_44 ?_
        exact R_callx1 cd_126_45 rfl rfl rfl (K_Court_mustBePossibleX rfl) rfl rfl
      · refine R_push cd_126_40 ?_
        refine R_goto cd_126_41 ?_
        exfalso
        omega
theorem K_Court_offer0 {p h : Int} {M : qa_Mem} (h3 : (1 ≤ p ∧ p ≤ 100) ∧ 1 ≤ h ∧ h ≤ 50) (h4 : 0 ≤ M 5 6 ∧ M 5 6 < 10) : qa_E 126 0 [(0, qr 0), (1, qi (p)), (2, qi (h))] [] (M) (.inl (some (qi (M 5 6)))) (qa_upd (qa_upd (qa_upd M 27 (M 5 6) p) 28 (M 5 6) h) 5 6 (M 5 6 + 1)) := by
  refine R_iload cd_126_0 rfl ?_
  refine R_push cd_126_1 ?_
  refine R_push cd_126_2 ?_
  refine R_call3 cd_126_4 rfl rfl K_Court_isWithin ?_
  refine R_ifeq_b 24 cd_126_7 rfl (fun b7 => ?_) (fun b7 => ?_)
  · refine R_push cd_126_24 ?_
    exfalso
    omega
  · refine R_iload cd_126_10 rfl ?_
    refine R_push cd_126_11 ?_
    refine R_push cd_126_12 ?_
    refine R_call3 cd_126_14 rfl rfl K_Court_isWithin ?_
    refine R_ifeq_b 24 cd_126_17 rfl (fun b17 => ?_) (fun b17 => ?_)
    · refine R_push cd_126_24 ?_
      exfalso
      omega
    · refine R_push cd_126_20 ?_
      refine R_goto cd_126_21 ?_
      refine R_callv1 cd_126_25 rfl rfl (K_Court_mustFit (by decide)) ?_
      refine R_aload cd_126_28 rfl ?_
      refine R_getr cd_126_29 rfl ?_
      refine R_call1 cd_126_32 rfl rfl K_Farm_offerCount ?_
      refine R_push cd_126_35 ?_
      refine R_icmp_ge 44 cd_126_37 rfl (fun b37 => ?_) (fun b37 => ?_)
      · refine R_push cd_126_44 ?_
        exfalso
        omega
      · refine R_push cd_126_40 ?_
        refine R_goto cd_126_41 ?_
        refine R_callv1 cd_126_45 rfl rfl (K_Court_mustBePossible (by decide)) ?_
        refine R_aload cd_126_48 rfl ?_
        refine R_getr cd_126_49 rfl ?_
        refine R_iload cd_126_52 rfl ?_
        refine R_iload cd_126_53 rfl ?_
        refine R_call3 cd_126_54 rfl rfl (K_Farm_addOffer (by omega) (by omega)) ?_
        exact R_iret cd_126_57 (by first | rfl | omega) rfl
theorem K_Court_night1 {h : Int} {M : qa_Mem} (h3 : ¬ (1 ≤ h ∧ h ≤ 24)) : qa_E 127 0 [(0, qr 0), (1, qi (h))] [] (M) (.inr 2) (qa_upd M 99 0 (M 99 0 + 1)) := by
  refine R_iload cd_127_0 rfl ?_
  refine R_push cd_127_1 ?_
  refine R_push cd_127_2 ?_
  refine R_call3 cd_127_4 rfl rfl K_Court_isWithin ?_
  exact R_callx1 cd_127_7 rfl rfl rfl (K_Court_mustFitX (qb_f (by omega))) rfl rfl
theorem K_Court_night0 {h : Int} {M : qa_Mem} (hv : qc_fv M) (h3 : 1 ≤ h ∧ h ≤ 24) : qa_E 127 0 [(0, qr 0), (1, qi (h))] [] (M) (.inl (some (qi ((qc_hs (0, M) (M 5 3).toNat h.toNat).1)))) ((qc_hs (0, M) (M 5 3).toNat h.toNat).2) := by
  refine R_iload cd_127_0 rfl ?_
  refine R_push cd_127_1 ?_
  refine R_push cd_127_2 ?_
  refine R_call3 cd_127_4 rfl rfl K_Court_isWithin ?_
  refine R_callv1 cd_127_7 rfl rfl (K_Court_mustFit (qb_n0.mpr (by omega))) ?_
  refine R_aload cd_127_10 rfl ?_
  refine R_getr cd_127_11 rfl ?_
  refine R_iload cd_127_14 rfl ?_
  refine R_aload cd_127_15 rfl ?_
  refine R_getr cd_127_16 rfl ?_
  refine R_aload cd_127_19 rfl ?_
  refine R_getr cd_127_20 rfl ?_
  refine R_aload cd_127_23 rfl ?_
  refine R_getr cd_127_24 rfl ?_
  refine R_call5 cd_127_27 rfl rfl (K_Farm_passHours hv (by omega) (by omega)) ?_
  exact R_iret cd_127_30 (by first | rfl | omega) rfl
theorem K_Court_heat1 {m : Int} {M : qa_Mem} (h1 : 0 ≤ M 5 3 ∧ M 5 3 ≤ 4) (h3 : ¬ (0 ≤ m ∧ m ≤ M 5 3 - 1)) : qa_E 128 0 [(0, qr 0), (1, qi (m))] [] (M) (.inr 1) (qa_upd M 99 0 (M 99 0 + 1)) := by
  refine R_iload cd_128_0 rfl ?_
  refine R_push cd_128_1 ?_
  refine R_aload cd_128_2 rfl ?_
  refine R_getr cd_128_3 rfl ?_
  refine R_call1 cd_128_6 rfl rfl K_Farm_machineCount ?_
  refine R_push cd_128_9 ?_
  refine R_isub cd_128_10 (by unfold qa_InR; first | omega | (simp [qa_upd, qa_blk] <;> omega)) ?_
  refine R_call3 cd_128_11 rfl rfl K_Court_isWithin ?_
  exact R_callx1 cd_128_14 rfl rfl rfl (K_Court_mustExistX (qb_f (by omega))) rfl rfl
theorem K_Court_heat0 {m : Int} {M : qa_Mem} (h1 : 0 ≤ M 5 3 ∧ M 5 3 ≤ 4) (h3 : 0 ≤ m ∧ m ≤ M 5 3 - 1) (h4 : 0 ≤ M 25 m ∧ M 25 m ≤ 24) (h5 : M 26 m = 0 ∨ M 26 m = 1) : qa_E 128 0 [(0, qr 0), (1, qi (m))] [] (M) (.inl (some (qi (10 * M 25 m + M 26 m)))) (M) := by
  refine R_iload cd_128_0 rfl ?_
  refine R_push cd_128_1 ?_
  refine R_aload cd_128_2 rfl ?_
  refine R_getr cd_128_3 rfl ?_
  refine R_call1 cd_128_6 rfl rfl K_Farm_machineCount ?_
  refine R_push cd_128_9 ?_
  refine R_isub cd_128_10 (by unfold qa_InR; first | omega | (simp [qa_upd, qa_blk] <;> omega)) ?_
  refine R_call3 cd_128_11 rfl rfl K_Court_isWithin ?_
  refine R_callv1 cd_128_14 rfl rfl (K_Court_mustExist (qb_n0.mpr (by omega))) ?_
  refine R_aload cd_128_17 rfl ?_
  refine R_getr cd_128_18 rfl ?_
  refine R_iload cd_128_21 rfl ?_
  refine R_call2 cd_128_22 rfl rfl (K_Farm_heatOf (by omega) (by omega) (by omega) (by omega)) ?_
  exact R_iret cd_128_25 (by first | rfl | omega) rfl
theorem K_Court_setRate1 {r : Int} {M : qa_Mem} (h3 : ¬ (0 ≤ r ∧ r ≤ 1000)) : qa_E 129 0 [(0, qr 0), (1, qi (r))] [] (M) (.inr 2) (qa_upd M 99 0 (M 99 0 + 1)) := by
  refine R_iload cd_129_0 rfl ?_
  refine R_push cd_129_1 ?_
  refine R_push cd_129_2 ?_
  refine R_call3 cd_129_5 rfl rfl K_Court_isWithin ?_
  exact R_callx1 cd_129_8 rfl rfl rfl (K_Court_mustFitX (qb_f (by omega))) rfl rfl
theorem K_Court_setRate0 {r : Int} {M : qa_Mem} (h3 : 0 ≤ r ∧ r ≤ 1000) : qa_E 129 0 [(0, qr 0), (1, qi (r))] [] (M) (.inl (some (qi (M 0 5)))) (qa_upd M 0 5 r) := by
  refine R_iload cd_129_0 rfl ?_
  refine R_push cd_129_1 ?_
  refine R_push cd_129_2 ?_
  refine R_call3 cd_129_5 rfl rfl K_Court_isWithin ?_
  refine R_callv1 cd_129_8 rfl rfl (K_Court_mustFit (qb_n0.mpr (by omega))) ?_
  refine R_aload cd_129_11 rfl ?_
  refine R_getf cd_129_12 rfl (by decide) ?_
  refine R_istore cd_129_15 ?_
  refine R_aload cd_129_16 rfl ?_
  refine R_iload cd_129_17 rfl ?_
  refine R_putf cd_129_18 rfl (by decide) ?_
  refine R_iload cd_129_21 rfl ?_
  exact R_iret cd_129_22 (by first | rfl | omega) rfl
theorem K_Court_money1 {w : Int} {M : qa_Mem} (h3 : ¬ (0 ≤ w ∧ w ≤ 6)) : qa_E 132 0 [(0, qr 0), (1, qi (w))] [] (M) (.inr 1) (qa_upd M 99 0 (M 99 0 + 1)) := by
  refine R_iload cd_132_0 rfl ?_
  refine R_push cd_132_1 ?_
  refine R_push cd_132_2 ?_
  refine R_call3 cd_132_4 rfl rfl K_Court_isWithin ?_
  exact R_callx1 cd_132_7 rfl rfl rfl (K_Court_mustExistX (qb_f (by omega))) rfl rfl
theorem K_Court_money0 {w : Int} {M : qa_Mem} (h3 : 0 ≤ w ∧ w ≤ 6) : qa_E 132 0 [(0, qr 0), (1, qi (w))] [] (M) (.inl (some (qi (if w = 6 then M 5 7 else M 8 w)))) (M) := by
  refine R_iload cd_132_0 rfl ?_
  refine R_push cd_132_1 ?_
  refine R_push cd_132_2 ?_
  refine R_call3 cd_132_4 rfl rfl K_Court_isWithin ?_
  refine R_callv1 cd_132_7 rfl rfl (K_Court_mustExist (qb_n0.mpr (by omega))) ?_
  refine R_iload cd_132_10 rfl ?_
  refine R_push cd_132_11 ?_
  refine R_icmp_ne 26 cd_132_13 rfl (fun b13 => ?_) (fun b13 => ?_)
  · refine R_aload cd_132_26 rfl ?_
    refine R_getr cd_132_27 rfl ?_
    refine R_iload cd_132_30 rfl ?_
    refine R_iald cd_132_31 rfl (by omega) (by omega) ?_
    exact R_iret cd_132_32 (by first | rw [if_pos b13] | rw [if_neg b13]) rfl
  · refine R_aload cd_132_16 rfl ?_
    refine R_getr cd_132_17 rfl ?_
    refine R_call1 cd_132_20 rfl rfl K_Farm_earnings ?_
    refine R_goto cd_132_23 ?_
    exact R_iret cd_132_32 (by first | rw [if_pos b13] | rw [if_neg b13]) rfl
/-- the frames of the film that hang on the artist's keys (class) -/
def qc_sec (M : qa_Mem) (w : Int) : Int := qf_sum (fun f => if qa_and (qf_or (fun t => M 13 (t * 120 + f)) (3 * M 1 3).toNat) (qa_shl 1 w) = 0 then 0 else M 23 f) 120
theorem qf_sum_r {A : Int → Int} {B : Int} (n : Nat) (h : ∀ j : Int, 0 ≤ j → j < n → 0 ≤ A j ∧ A j ≤ B) : 0 ≤ qf_sum A n ∧ qf_sum A n ≤ n * B := by
  induction n with
  | zero => exact ⟨Int.le_refl _, by show (0 : Int) ≤ (0 : Nat) * B; simp⟩
  | succ n ih =>
    have i := ih (fun j a b => h j a (by omega))
    have t := h n (by omega) (by omega)
    unfold qf_sum
    rw [Int.natCast_add, Int.add_mul]
    omega
theorem K_Court_secondsOf {w : Int} {M : qa_Mem} (h1 : 0 ≤ M 1 3) (h2 : M 1 3 ≤ 8) (h3 : ∀ j, 0 ≤ j → j < 120 → 0 ≤ M 23 j ∧ M 23 j ≤ 10) : qa_E 133 0 [(0, qr 0), (1, qi (w))] [] (M) (.inl (some (qi (qc_sec M w / 24)))) (M) := by
  obtain ⟨A, hA⟩ : ∃ A : Int → Int, A = (fun f => if qa_and (qf_or (fun t => M 13 (t * 120 + f)) (3 * M 1 3).toNat) (qa_shl 1 w) = 0 then 0 else M 23 f) := ⟨_, rfl⟩
  have hs : qc_sec M w = qf_sum A 120 := by rw [hA]; rfl
  have hb : ∀ j : Int, 0 ≤ j → j < 120 → 0 ≤ A j ∧ A j ≤ 10 := by
    intro j a b
    rw [hA]
    dsimp only
    split
    · omega
    · exact h3 j a b
  rw [hs]
  have lp : ∀ (k : Nat) (j : Nat), j + k = 120 → qa_E 133 4 [(0, qr 0), (1, qi w), (2, qi (qf_sum A j)), (3, qi j)] [] M (.inl (some (qi (qf_sum A 120 / 24)))) M := by
    intro k
    induction k with
    | zero =>
      intro j g1
      obtain rfl : j = 120 := by omega
      have r1 := qf_sum_r (A := A) (B := 10) 120 (fun j a b => hb j a (by omega))
      refine R_iload cd_133_4 rfl ?_
      refine R_push cd_133_5 ?_
      refine R_icmp_ge 42 cd_133_7 rfl (fun b7 => ?_) (fun b7 => ?_)
      · refine R_iload cd_133_42 rfl ?_
        refine R_push cd_133_43 ?_
        refine R_idiv cd_133_45 (by decide) ?_
        exact R_iret cd_133_46 (Int.tdiv_eq_ediv_of_nonneg r1.1) rfl
      · omega
    | succ k ih =>
      intro j g1
      have e := ih (j + 1) (by omega)
      have r1 := qf_sum_r (A := A) (B := 10) j (fun i a b => hb i a (by omega))
      have r2 := hb j (by omega) (by omega)
      rw [Int.natCast_add] at e
      unfold qf_sum at e
      have eA : A j = if qa_and (qf_or (fun t => M 13 (t * 120 + j)) (3 * M 1 3).toNat) (qa_shl 1 w) = 0 then 0 else M 23 j := by rw [hA]
      refine R_iload cd_133_4 rfl ?_
      refine R_push cd_133_5 ?_
      refine R_icmp_ge 42 cd_133_7 rfl (fun b7 => ?_) (fun b7 => ?_)
      · omega
      · refine R_aload cd_133_10 rfl ?_
        refine R_getr cd_133_11 rfl ?_
        refine R_iload cd_133_14 rfl ?_
        refine R_call2 cd_133_15 rfl rfl (K_Rig_artistsAt (by omega) (by omega) (by omega) (by omega)) ?_
        refine R_push cd_133_18 ?_
        refine R_iload cd_133_19 rfl ?_
        refine R_ishl cd_133_20 ?_
        refine R_iand cd_133_21 ?_
        refine R_if_eq 36 cd_133_22 rfl (fun b22 => ?_) (fun b22 => ?_)
        · first
            | rw [eA, if_pos b22, Int.add_zero] at e
              refine R_iinc cd_133_36 rfl (by unfold qa_InR; first | omega | (simp [qa_upd, qa_blk] <;> omega)) ?_
              refine R_goto cd_133_39 ?_
              exact R_norm (qs_c rfl (qs_c rfl (qs_c rfl (qs_c rfl qs_n)))) e
            | rw [eA, if_neg b22] at e
              refine R_iinc cd_133_36 rfl (by unfold qa_InR; first | omega | (simp [qa_upd, qa_blk] <;> omega)) ?_
              refine R_goto cd_133_39 ?_
              exact R_norm (qs_c rfl (qs_c rfl (qs_c rfl (qs_c rfl qs_n)))) e
        · refine R_iload cd_133_25 rfl ?_
          refine R_aload cd_133_26 rfl ?_
          refine R_getr cd_133_27 rfl ?_
          refine R_iload cd_133_30 rfl ?_
          refine R_call2 cd_133_31 rfl rfl (K_Film_timesOf (by omega) (by omega)) ?_
          refine R_iadd cd_133_34 (by rw [eA, if_neg b22] at r2; unfold qa_InR; omega) ?_
          refine R_istore cd_133_35 ?_
          first
            | rw [eA, if_pos b22, Int.add_zero] at e
              refine R_iinc cd_133_36 rfl (by unfold qa_InR; first | omega | (simp [qa_upd, qa_blk] <;> omega)) ?_
              refine R_goto cd_133_39 ?_
              exact R_norm (qs_c rfl (qs_c rfl (qs_c rfl (qs_c rfl qs_n)))) e
            | rw [eA, if_neg b22] at e
              refine R_iinc cd_133_36 rfl (by unfold qa_InR; first | omega | (simp [qa_upd, qa_blk] <;> omega)) ?_
              refine R_goto cd_133_39 ?_
              exact R_norm (qs_c rfl (qs_c rfl (qs_c rfl (qs_c rfl qs_n)))) e
  refine R_push cd_133_0 ?_
  refine R_istore cd_133_1 ?_
  refine R_push cd_133_2 ?_
  refine R_istore cd_133_3 ?_
  exact R_norm (qs_c rfl (qs_c rfl (qs_c rfl (qs_c rfl qs_n)))) (lp 120 0 (by omega))
theorem K_Court_seconds1 {w : Int} {M : qa_Mem} (h3 : ¬ (0 ≤ w ∧ w ≤ 5)) : qa_E 130 0 [(0, qr 0), (1, qi (w))] [] (M) (.inr 1) (qa_upd M 99 0 (M 99 0 + 1)) := by
  refine R_iload cd_130_0 rfl ?_
  refine R_push cd_130_1 ?_
  refine R_push cd_130_2 ?_
  refine R_call3 cd_130_3 rfl rfl K_Court_isWithin ?_
  exact R_callx1 cd_130_6 rfl rfl rfl (K_Court_mustExistX (qb_f (by omega))) rfl rfl
theorem K_Court_seconds0 {w : Int} {M : qa_Mem} (h1 : 0 ≤ M 1 3) (h2 : M 1 3 ≤ 8) (h3 : ∀ j, 0 ≤ j → j < 120 → 0 ≤ M 23 j ∧ M 23 j ≤ 10) (h4 : 0 ≤ w ∧ w ≤ 5) : qa_E 130 0 [(0, qr 0), (1, qi (w))] [] (M) (.inl (some (qi (qc_sec M w / 24)))) (M) := by
  refine R_iload cd_130_0 rfl ?_
  refine R_push cd_130_1 ?_
  refine R_push cd_130_2 ?_
  refine R_call3 cd_130_3 rfl rfl K_Court_isWithin ?_
  refine R_callv1 cd_130_6 rfl rfl (K_Court_mustExist (qb_n0.mpr (by omega))) ?_
  refine R_aload cd_130_9 rfl ?_
  refine R_iload cd_130_10 rfl ?_
  refine R_call2 cd_130_11 rfl rfl (K_Court_secondsOf h1 h2 h3) ?_
  exact R_iret cd_130_14 (by first | rfl | omega) rfl
def qc_std (M : qa_Mem) : Prop := ∀ f : Int, 0 ≤ f → f < 120 → 0 < M 23 f → M 20 f = 1
theorem K_Court_isFilmStanding {M : qa_Mem} : qa_E 134 0 [(0, qr 0)] [] (M) (.inl (some (qi (qb (qc_std M))))) (M) := by
  have lp : ∀ (k : Nat) (j : Int), j + k = 120 → 0 ≤ j → (∀ f : Int, 0 ≤ f → f < j → 0 < M 23 f → M 20 f = 1) → qa_E 134 2 [(0, qr 0), (1, qi j)] [] M (.inl (some (qi (qb (qc_std M))))) M := by
    intro k
    induction k with
    | zero =>
      intro j g1 g2 g3
      refine R_iload cd_134_2 rfl ?_
      refine R_push cd_134_3 ?_
      refine R_icmp_ge 38 cd_134_5 rfl (fun b5 => ?_) (fun b5 => ?_)
      · refine R_push cd_134_38 ?_
        exact R_zret_t cd_134_39 (fun f a b c => g3 f a (by omega) c) rfl
      · omega
    | succ k ih =>
      intro j g1 g2 g3
      refine R_iload cd_134_2 rfl ?_
      refine R_push cd_134_3 ?_
      refine R_icmp_ge 38 cd_134_5 rfl (fun b5 => ?_) (fun b5 => ?_)
      · omega
      · refine R_aload cd_134_8 rfl ?_
        refine R_getr cd_134_9 rfl ?_
        refine R_iload cd_134_12 rfl ?_
        refine R_call2 cd_134_13 rfl rfl (K_Film_needs (by omega) (by omega)) ?_
        refine R_ifeq_b 32 cd_134_16 rfl (fun b16 => ?_) (fun b16 => ?_)
        · refine R_iinc cd_134_32 rfl (by unfold qa_InR; first | omega | (simp [qa_upd, qa_blk] <;> omega)) ?_
          refine R_goto cd_134_35 ?_
          exact R_norm (qs_c rfl (qs_c rfl qs_n)) (ih (j + 1) (by omega) (by omega) (fun f a b c => by
            by_cases hf : f = j
            · subst hf
              first
                | exact b27
                | exact absurd c b16
            · exact g3 f a (by omega) c))
        · refine R_aload cd_134_19 rfl ?_
          refine R_getr cd_134_20 rfl ?_
          refine R_iload cd_134_23 rfl ?_
          refine R_call2 cd_134_24 rfl rfl (K_Stills_stands (by omega) (by omega)) ?_
          refine R_ifne_b 32 cd_134_27 rfl (fun b27 => ?_) (fun b27 => ?_)
          · refine R_iinc cd_134_32 rfl (by unfold qa_InR; first | omega | (simp [qa_upd, qa_blk] <;> omega)) ?_
            refine R_goto cd_134_35 ?_
            exact R_norm (qs_c rfl (qs_c rfl qs_n)) (ih (j + 1) (by omega) (by omega) (fun f a b c => by
              by_cases hf : f = j
              · subst hf
                first
                  | exact b27
                  | exact absurd c b16
              · exact g3 f a (by omega) c))
          · refine R_push cd_134_30 ?_
            exact R_zret_f cd_134_31 (fun q => b27 (q j g2 (by omega) b16)) rfl
  refine R_push cd_134_0 ?_
  refine R_istore cd_134_1 ?_
  exact R_norm (qs_c rfl (qs_c rfl qs_n)) (lp 120 0 (by omega) (by omega) (fun f a b => by omega))
