/-! the class's face, on the road -/
theorem K_Court_bone1 {p x y : Int} {M : qa_Mem} (h1 : 0 ≤ M 1 3) (h2 : M 1 3 ≤ 8) (h3 : ¬ (p = -1 ∨ 0 ≤ p ∧ p ≤ M 1 3 - 1)) : qa_E 18 0 [(0, qr 0), (1, qi (p)), (2, qi (x)), (3, qi (y))] [] (M) (.inr 1) (qa_upd M 99 0 (M 99 0 + 1)) := by
  refine R_iload cd_18_0 rfl ?_
  refine R_push cd_18_1 ?_
  refine R_icmp_eq 16 cd_18_2 rfl (fun b2 => ?_) (fun b2 => ?_)
  · refine R_push cd_18_16 ?_
    refine R_goto cd_18_17 ?_
    exfalso
    omega
  · refine R_aload cd_18_5 rfl ?_
    refine R_getr cd_18_6 rfl ?_
    refine R_iload cd_18_9 rfl ?_
    refine R_call2 cd_18_10 rfl rfl (K_Rig_hasBone (by omega) (by omega)) ?_
    refine R_ifeq_b 20 cd_18_13 rfl (fun b13 => ?_) (fun b13 => ?_)
    · refine R_push cd_18_20 ?_
      exact R_callx1 cd_18_21 rfl rfl rfl (K_Court_mustExistX rfl) rfl rfl
    · refine R_push cd_18_16 ?_
      refine R_goto cd_18_17 ?_
      exfalso
      omega
theorem K_Court_key1 {b c f v a s : Int} {M : qa_Mem} (h1 : 0 ≤ M 1 3) (h2 : M 1 3 ≤ 8) (h3 : ¬ (qp_cell M b c f ∧ 0 ≤ a ∧ a ≤ 5)) : qa_E 19 0 [(0, qr 0), (1, qi (b)), (2, qi (c)), (3, qi (f)), (4, qi (v)), (5, qi (a)), (6, qi (s))] [] (M) (.inr 1) (qa_upd M 99 0 (M 99 0 + 1)) := by
  unfold qp_cell at h3
  refine R_aload cd_19_0 rfl ?_
  refine R_getr cd_19_1 rfl ?_
  refine R_iload cd_19_4 rfl ?_
  refine R_iload cd_19_5 rfl ?_
  refine R_iload cd_19_6 rfl ?_
  refine R_call4 cd_19_7 rfl rfl (K_Rig_hasCell (by omega) (by omega)) ?_
  refine R_ifeq_b 27 cd_19_10 rfl (fun b10 => ?_) (fun b10 => ?_)
  · refine R_push cd_19_27 ?_
    exact R_callx1 cd_19_28 rfl rfl rfl (K_Court_mustExistX rfl) rfl rfl
  · refine R_iload cd_19_13 rfl ?_
    refine R_push cd_19_15 ?_
    refine R_push cd_19_16 ?_
    refine R_call3 cd_19_17 rfl rfl K_Court_isWithin ?_
    refine R_ifeq_b 27 cd_19_20 rfl (fun b20 => ?_) (fun b20 => ?_)
    · refine R_push cd_19_27 ?_
      exact R_callx1 cd_19_28 rfl rfl rfl (K_Court_mustExistX rfl) rfl rfl
    · refine R_push cd_19_23 ?_
      refine R_goto cd_19_24 ?_
      exfalso
      omega
theorem K_Court_value1 {b c f : Int} {M : qa_Mem} (h1 : 0 ≤ M 1 3) (h2 : M 1 3 ≤ 8) (h3 : ¬ qp_cell M b c f) : qa_E 21 0 [(0, qr 0), (1, qi (b)), (2, qi (c)), (3, qi (f))] [] (M) (.inr 1) (qa_upd M 99 0 (M 99 0 + 1)) := by
  unfold qp_cell at h3
  refine R_aload cd_21_0 rfl ?_
  refine R_getr cd_21_1 rfl ?_
  refine R_iload cd_21_4 rfl ?_
  refine R_iload cd_21_5 rfl ?_
  refine R_iload cd_21_6 rfl ?_
  refine R_call4 cd_21_7 rfl rfl (K_Rig_hasCell (by omega) (by omega)) ?_
  exact R_callx1 cd_21_10 rfl rfl rfl (K_Court_mustExistX (qb_f (by omega))) rfl rfl
theorem K_Court_keyAt1 {p : Int} {M : qa_Mem} (h1 : 0 ≤ M 2 4) (h2 : M 2 4 ≤ 80) (h3 : ¬ (0 ≤ p ∧ p ≤ M 2 4 - 1)) : qa_E 22 0 [(0, qr 0), (1, qi (p))] [] (M) (.inr 1) (qa_upd M 99 0 (M 99 0 + 1)) := by
  refine R_iload cd_22_0 rfl ?_
  refine R_push cd_22_1 ?_
  refine R_aload cd_22_2 rfl ?_
  refine R_getr cd_22_3 rfl ?_
  refine R_call1 cd_22_6 rfl rfl K_Rig_keyCount ?_
  refine R_push cd_22_9 ?_
  refine R_isub cd_22_10 (by unfold qa_InR; first | omega | (simp [qa_upd, qa_blk] <;> omega)) ?_
  refine R_call3 cd_22_11 rfl rfl K_Court_isWithin ?_
  exact R_callx1 cd_22_14 rfl rfl rfl (K_Court_mustExistX (qb_f (by omega))) rfl rfl
theorem K_Court_place1 {b f : Int} {M : qa_Mem} (h1 : 0 ≤ M 1 3) (h2 : M 1 3 ≤ 8) (h3 : ¬ ((0 ≤ b ∧ b ≤ M 1 3 - 1) ∧ 0 ≤ f ∧ f ≤ 119)) : qa_E 23 0 [(0, qr 0), (1, qi (b)), (2, qi (f))] [] (M) (.inr 1) (qa_upd M 99 0 (M 99 0 + 1)) := by
  refine R_aload cd_23_0 rfl ?_
  refine R_getr cd_23_1 rfl ?_
  refine R_iload cd_23_4 rfl ?_
  refine R_call2 cd_23_5 rfl rfl (K_Rig_hasBone (by omega) (by omega)) ?_
  refine R_ifeq_b 22 cd_23_8 rfl (fun b8 => ?_) (fun b8 => ?_)
  · refine R_push cd_23_22 ?_
    exact R_callx1 cd_23_23 rfl rfl rfl (K_Court_mustExistX rfl) rfl rfl
  · refine R_iload cd_23_11 rfl ?_
    refine R_call1 cd_23_12 rfl rfl K_Court_isFrame ?_
    refine R_ifeq_b 22 cd_23_15 rfl (fun b15 => ?_) (fun b15 => ?_)
    · refine R_push cd_23_22 ?_
      exact R_callx1 cd_23_23 rfl rfl rfl (K_Court_mustExistX rfl) rfl rfl
    · refine R_push cd_23_18 ?_
      refine R_goto cd_23_19 ?_
      exfalso
      omega
theorem K_Court_artists1 {f : Int} {M : qa_Mem} (h3 : ¬ (0 ≤ f ∧ f ≤ 119)) : qa_E 24 0 [(0, qr 0), (1, qi (f))] [] (M) (.inr 1) (qa_upd M 99 0 (M 99 0 + 1)) := by
  refine R_iload cd_24_0 rfl ?_
  refine R_call1 cd_24_1 rfl rfl K_Court_isFrame ?_
  exact R_callx1 cd_24_4 rfl rfl rfl (K_Court_mustExistX (qb_f (by omega))) rfl rfl
theorem K_Court_artists0 {f : Int} {M : qa_Mem} (h1 : 0 ≤ M 1 3) (h2 : M 1 3 ≤ 8) (h3 : 0 ≤ f ∧ f ≤ 119) : qa_E 24 0 [(0, qr 0), (1, qi (f))] [] (M) (.inl (some (qi (qf_or (fun t => M 13 (t * 120 + f)) (3 * M 1 3).toNat)))) (M) := by
  refine R_iload cd_24_0 rfl ?_
  refine R_call1 cd_24_1 rfl rfl K_Court_isFrame ?_
  refine R_callv1 cd_24_4 rfl rfl (K_Court_mustExist (qb_n0.mpr (by omega))) ?_
  refine R_aload cd_24_7 rfl ?_
  refine R_getr cd_24_8 rfl ?_
  refine R_iload cd_24_11 rfl ?_
  refine R_call2 cd_24_12 rfl rfl (K_Rig_artistsAt (by omega) (by omega) (by omega) (by omega)) ?_
  exact R_iret cd_24_15 (by first | rfl | omega) rfl
theorem K_Court_cut1 {p a b : Int} {M : qa_Mem} (h3 : ¬ ((0 ≤ p ∧ p ≤ M 4 3) ∧ (0 ≤ a ∧ a ≤ 119) ∧ 0 ≤ b ∧ b ≤ 119)) : qa_E 25 0 [(0, qr 0), (1, qi (p)), (2, qi (a)), (3, qi (b))] [] (M) (.inr 1) (qa_upd M 99 0 (M 99 0 + 1)) := by
  refine R_iload cd_25_0 rfl ?_
  refine R_push cd_25_1 ?_
  refine R_aload cd_25_2 rfl ?_
  refine R_getr cd_25_3 rfl ?_
  refine R_call1 cd_25_6 rfl rfl K_Film_shotCount ?_
  refine R_call3 cd_25_9 rfl rfl K_Court_isWithin ?_
  refine R_ifeq_b 33 cd_25_12 rfl (fun b12 => ?_) (fun b12 => ?_)
  · refine R_push cd_25_33 ?_
    exact R_callx1 cd_25_34 rfl rfl rfl (K_Court_mustExistX rfl) rfl rfl
  · refine R_iload cd_25_15 rfl ?_
    refine R_call1 cd_25_16 rfl rfl K_Court_isFrame ?_
    refine R_ifeq_b 33 cd_25_19 rfl (fun b19 => ?_) (fun b19 => ?_)
    · refine R_push cd_25_33 ?_
      exact R_callx1 cd_25_34 rfl rfl rfl (K_Court_mustExistX rfl) rfl rfl
    · refine R_iload cd_25_22 rfl ?_
      refine R_call1 cd_25_23 rfl rfl K_Court_isFrame ?_
      refine R_ifeq_b 33 cd_25_26 rfl (fun b26 => ?_) (fun b26 => ?_)
      · refine R_push cd_25_33 ?_
        exact R_callx1 cd_25_34 rfl rfl rfl (K_Court_mustExistX rfl) rfl rfl
      · refine R_push cd_25_29 ?_
        refine R_goto cd_25_30 ?_
        exfalso
        omega
theorem K_Court_uncut1 {p : Int} {M : qa_Mem} (h1 : 0 ≤ M 4 3) (h2 : M 4 3 ≤ 10) (h3 : ¬ (0 ≤ p ∧ p ≤ M 4 3 - 1)) : qa_E 26 0 [(0, qr 0), (1, qi (p))] [] (M) (.inr 1) (qa_upd M 99 0 (M 99 0 + 1)) := by
  refine R_iload cd_26_0 rfl ?_
  refine R_push cd_26_1 ?_
  refine R_aload cd_26_2 rfl ?_
  refine R_getr cd_26_3 rfl ?_
  refine R_call1 cd_26_6 rfl rfl K_Film_shotCount ?_
  refine R_push cd_26_9 ?_
  refine R_isub cd_26_10 (by unfold qa_InR; first | omega | (simp [qa_upd, qa_blk] <;> omega)) ?_
  refine R_call3 cd_26_11 rfl rfl K_Court_isWithin ?_
  exact R_callx1 cd_26_14 rfl rfl rfl (K_Court_mustExistX (qb_f (by omega))) rfl rfl
theorem K_Court_shown1 {p : Int} {M : qa_Mem} (h1 : 0 ≤ M 4 4) (h2 : M 4 4 ≤ 100000) (h3 : ¬ (0 ≤ p ∧ p ≤ M 4 4 - 1)) : qa_E 27 0 [(0, qr 0), (1, qi (p))] [] (M) (.inr 1) (qa_upd M 99 0 (M 99 0 + 1)) := by
  refine R_iload cd_27_0 rfl ?_
  refine R_push cd_27_1 ?_
  refine R_aload cd_27_2 rfl ?_
  refine R_getr cd_27_3 rfl ?_
  refine R_call1 cd_27_6 rfl rfl K_Film_length ?_
  refine R_push cd_27_9 ?_
  refine R_isub cd_27_10 (by unfold qa_InR; first | omega | (simp [qa_upd, qa_blk] <;> omega)) ?_
  refine R_call3 cd_27_11 rfl rfl K_Court_isWithin ?_
  exact R_callx1 cd_27_14 rfl rfl rfl (K_Court_mustExistX (qb_f (by omega))) rfl rfl
theorem K_Court_state1 {f : Int} {M : qa_Mem} (h3 : ¬ (0 ≤ f ∧ f ≤ 119)) : qa_E 28 0 [(0, qr 0), (1, qi (f))] [] (M) (.inr 1) (qa_upd M 99 0 (M 99 0 + 1)) := by
  refine R_iload cd_28_0 rfl ?_
  refine R_call1 cd_28_1 rfl rfl K_Court_isFrame ?_
  exact R_callx1 cd_28_4 rfl rfl rfl (K_Court_mustExistX (qb_f (by omega))) rfl rfl
theorem K_Court_state0 {f : Int} {M : qa_Mem} (h3 : 0 ≤ f ∧ f ≤ 119) (h4 : 0 ≤ M 20 f ∧ M 20 f ≤ 2) : qa_E 28 0 [(0, qr 0), (1, qi (f))] [] (M) (.inl (some (qi (M 20 f + 10 * qb (0 < M 23 f))))) (M) := by
  refine R_iload cd_28_0 rfl ?_
  refine R_call1 cd_28_1 rfl rfl K_Court_isFrame ?_
  refine R_callv1 cd_28_4 rfl rfl (K_Court_mustExist (qb_n0.mpr (by omega))) ?_
  refine R_aload cd_28_7 rfl ?_
  refine R_getr cd_28_8 rfl ?_
  refine R_iload cd_28_11 rfl ?_
  refine R_call2 cd_28_12 rfl rfl (K_Stills_standing (by omega) (by omega)) ?_
  refine R_aload cd_28_15 rfl ?_
  refine R_getr cd_28_16 rfl ?_
  refine R_iload cd_28_19 rfl ?_
  refine R_call2 cd_28_20 rfl rfl (K_Film_needs (by omega) (by omega)) ?_
  refine R_ifeq_b 31 cd_28_23 rfl (fun b23 => ?_) (fun b23 => ?_)
  · refine R_push cd_28_31 ?_
    refine R_iadd cd_28_32 (by unfold qa_InR; first | omega | (simp [qa_upd, qa_blk] <;> omega)) ?_
    first
      | exact R_iret cd_28_33 (by rw [qb_t b23]; omega) rfl
      | exact R_iret cd_28_33 (by rw [qb_f b23]; omega) rfl
  · refine R_push cd_28_26 ?_
    refine R_goto cd_28_28 ?_
    refine R_iadd cd_28_32 (by unfold qa_InR; first | omega | (simp [qa_upd, qa_blk] <;> omega)) ?_
    first
      | exact R_iret cd_28_33 (by rw [qb_t b23]; omega) rfl
      | exact R_iret cd_28_33 (by rw [qb_f b23]; omega) rfl
theorem K_Court_voids {M : qa_Mem} : qa_E 29 0 [(0, qr 0)] [] (M) (.inl (some (qi (qf_cnt (fun f => M 20 f = 2) 120)))) (M) := by
  refine R_aload cd_29_0 rfl ?_
  refine R_getr cd_29_1 rfl ?_
  refine R_call1 cd_29_4 rfl rfl K_Stills_voidCount ?_
  exact R_iret cd_29_7 (by first | rfl | omega) rfl
theorem K_Court_voidsByAll {M : qa_Mem} (h1 : 0 ≤ M 1 3) (h2 : M 1 3 ≤ 8) : qa_E 30 0 [(0, qr 0)] [] (M) (.inl (some (qi (qf_cnt (fun f => M 20 f ≠ 0 ∧ ¬ qs_am M f) 120)))) (M) := by
  refine R_aload cd_30_0 rfl ?_
  refine R_getr cd_30_1 rfl ?_
  refine R_aload cd_30_4 rfl ?_
  refine R_getr cd_30_5 rfl ?_
  refine R_call2 cd_30_8 rfl rfl (K_Stills_voidCountByAll (by omega) (by omega)) ?_
  exact R_iret cd_30_11 (by first | rfl | omega) rfl
theorem K_Court_machine1 {s : Int} {M : qa_Mem} (h3 : ¬ (1 ≤ s ∧ s ≤ 5)) : qa_E 31 0 [(0, qr 0), (1, qi (s))] [] (M) (.inr 2) (qa_upd M 99 0 (M 99 0 + 1)) := by
  refine R_iload cd_31_0 rfl ?_
  refine R_push cd_31_1 ?_
  refine R_push cd_31_2 ?_
  refine R_call3 cd_31_3 rfl rfl K_Court_isWithin ?_
  exact R_callx1 cd_31_6 rfl rfl rfl (K_Court_mustFitX (qb_f (by omega))) rfl rfl
theorem K_Court_offer1 {p h : Int} {M : qa_Mem} (h3 : ¬ ((1 ≤ p ∧ p ≤ 100) ∧ 1 ≤ h ∧ h ≤ 50)) : qa_E 32 0 [(0, qr 0), (1, qi (p)), (2, qi (h))] [] (M) (.inr 2) (qa_upd M 99 0 (M 99 0 + 1)) := by
  refine R_iload cd_32_0 rfl ?_
  refine R_push cd_32_1 ?_
  refine R_push cd_32_2 ?_
  refine R_call3 cd_32_4 rfl rfl K_Court_isWithin ?_
  refine R_ifeq_b 24 cd_32_7 rfl (fun b7 => ?_) (fun b7 => ?_)
  · refine R_push cd_32_24 ?_
    exact R_callx1 cd_32_25 rfl rfl rfl (K_Court_mustFitX rfl) rfl rfl
  · refine R_iload cd_32_10 rfl ?_
    refine R_push cd_32_11 ?_
    refine R_push cd_32_12 ?_
    refine R_call3 cd_32_14 rfl rfl K_Court_isWithin ?_
    refine R_ifeq_b 24 cd_32_17 rfl (fun b17 => ?_) (fun b17 => ?_)
    · refine R_push cd_32_24 ?_
      exact R_callx1 cd_32_25 rfl rfl rfl (K_Court_mustFitX rfl) rfl rfl
    · refine R_push cd_32_20 ?_
      refine R_goto cd_32_21 ?_
      exfalso
      omega
theorem K_Court_night1 {h : Int} {M : qa_Mem} (h3 : ¬ (1 ≤ h ∧ h ≤ 24)) : qa_E 33 0 [(0, qr 0), (1, qi (h))] [] (M) (.inr 2) (qa_upd M 99 0 (M 99 0 + 1)) := by
  refine R_iload cd_33_0 rfl ?_
  refine R_push cd_33_1 ?_
  refine R_push cd_33_2 ?_
  refine R_call3 cd_33_4 rfl rfl K_Court_isWithin ?_
  exact R_callx1 cd_33_7 rfl rfl rfl (K_Court_mustFitX (qb_f (by omega))) rfl rfl
theorem K_Court_heat1 {m : Int} {M : qa_Mem} (h1 : 0 ≤ M 5 3 ∧ M 5 3 ≤ 4) (h3 : ¬ (0 ≤ m ∧ m ≤ M 5 3 - 1)) : qa_E 34 0 [(0, qr 0), (1, qi (m))] [] (M) (.inr 1) (qa_upd M 99 0 (M 99 0 + 1)) := by
  refine R_iload cd_34_0 rfl ?_
  refine R_push cd_34_1 ?_
  refine R_aload cd_34_2 rfl ?_
  refine R_getr cd_34_3 rfl ?_
  refine R_call1 cd_34_6 rfl rfl K_Farm_machineCount ?_
  refine R_push cd_34_9 ?_
  refine R_isub cd_34_10 (by unfold qa_InR; first | omega | (simp [qa_upd, qa_blk] <;> omega)) ?_
  refine R_call3 cd_34_11 rfl rfl K_Court_isWithin ?_
  exact R_callx1 cd_34_14 rfl rfl rfl (K_Court_mustExistX (qb_f (by omega))) rfl rfl
theorem K_Court_setRate1 {r : Int} {M : qa_Mem} (h3 : ¬ (0 ≤ r ∧ r ≤ 1000)) : qa_E 35 0 [(0, qr 0), (1, qi (r))] [] (M) (.inr 2) (qa_upd M 99 0 (M 99 0 + 1)) := by
  refine R_iload cd_35_0 rfl ?_
  refine R_push cd_35_1 ?_
  refine R_push cd_35_2 ?_
  refine R_call3 cd_35_5 rfl rfl K_Court_isWithin ?_
  exact R_callx1 cd_35_8 rfl rfl rfl (K_Court_mustFitX (qb_f (by omega))) rfl rfl
theorem K_Court_money1 {w : Int} {M : qa_Mem} (h3 : ¬ (0 ≤ w ∧ w ≤ 6)) : qa_E 37 0 [(0, qr 0), (1, qi (w))] [] (M) (.inr 1) (qa_upd M 99 0 (M 99 0 + 1)) := by
  refine R_iload cd_37_0 rfl ?_
  refine R_push cd_37_1 ?_
  refine R_push cd_37_2 ?_
  refine R_call3 cd_37_4 rfl rfl K_Court_isWithin ?_
  exact R_callx1 cd_37_7 rfl rfl rfl (K_Court_mustExistX (qb_f (by omega))) rfl rfl
theorem K_Court_money0 {w : Int} {M : qa_Mem} (h3 : 0 ≤ w ∧ w ≤ 6) : qa_E 37 0 [(0, qr 0), (1, qi (w))] [] (M) (.inl (some (qi (if w = 6 then M 5 7 else M 8 w)))) (M) := by
  refine R_iload cd_37_0 rfl ?_
  refine R_push cd_37_1 ?_
  refine R_push cd_37_2 ?_
  refine R_call3 cd_37_4 rfl rfl K_Court_isWithin ?_
  refine R_callv1 cd_37_7 rfl rfl (K_Court_mustExist (qb_n0.mpr (by omega))) ?_
  refine R_iload cd_37_10 rfl ?_
  refine R_push cd_37_11 ?_
  refine R_icmp_ne 26 cd_37_13 rfl (fun b13 => ?_) (fun b13 => ?_)
  · refine R_aload cd_37_26 rfl ?_
    refine R_getr cd_37_27 rfl ?_
    refine R_iload cd_37_30 rfl ?_
    refine R_iald cd_37_31 rfl (by omega) (by omega) ?_
    exact R_iret cd_37_32 (by first | rw [if_pos b13] | rw [if_neg b13]) rfl
  · refine R_aload cd_37_16 rfl ?_
    refine R_getr cd_37_17 rfl ?_
    refine R_call1 cd_37_20 rfl rfl K_Farm_earnings ?_
    refine R_goto cd_37_23 ?_
    exact R_iret cd_37_32 (by first | rw [if_pos b13] | rw [if_neg b13]) rfl
theorem K_Court_secondsOf {w : Int} {M : qa_Mem} (h1 : 0 ≤ M 1 3) (h2 : M 1 3 ≤ 8) (h3 : ∀ j, 0 ≤ j → j < 120 → 0 ≤ M 23 j ∧ M 23 j ≤ 10) : qa_E 38 0 [(0, qr 0), (1, qi (w))] [] (M) (.inl (some (qi (qc_sec M w / 24)))) (M) := by
  obtain ⟨A, hA⟩ : ∃ A : Int → Int, A = (fun f => if qa_and (qf_or (fun t => M 13 (t * 120 + f)) (3 * M 1 3).toNat) (qa_shl 1 w) = 0 then 0 else M 23 f) := ⟨_, rfl⟩
  have hs : qc_sec M w = qf_sum A 120 := by rw [hA]; rfl
  have hb : ∀ j : Int, 0 ≤ j → j < 120 → 0 ≤ A j ∧ A j ≤ 10 := by
    intro j a b
    rw [hA]
    dsimp only
    split
    · omega
    · exact h3 j a b
  rw [hs]
  have lp : ∀ (k : Nat) (j : Nat), j + k = 120 → qa_E 38 4 [(0, qr 0), (1, qi w), (2, qi (qf_sum A j)), (3, qi j)] [] M (.inl (some (qi (qf_sum A 120 / 24)))) M := by
    intro k
    induction k with
    | zero =>
      intro j g1
      obtain rfl : j = 120 := by omega
      have r1 := qf_sum_r (A := A) (B := 10) 120 (fun j a b => hb j a (by omega))
      refine R_iload cd_38_4 rfl ?_
      refine R_push cd_38_5 ?_
      refine R_icmp_ge 42 cd_38_7 rfl (fun b7 => ?_) (fun b7 => ?_)
      · refine R_iload cd_38_42 rfl ?_
        refine R_push cd_38_43 ?_
        refine R_idiv cd_38_45 (by decide) ?_
        exact R_iret cd_38_46 (Int.tdiv_eq_ediv_of_nonneg r1.1) rfl
      · omega
    | succ k ih =>
      intro j g1
      have e := ih (j + 1) (by omega)
      have r1 := qf_sum_r (A := A) (B := 10) j (fun i a b => hb i a (by omega))
      have r2 := hb j (by omega) (by omega)
      rw [Int.natCast_add] at e
      unfold qf_sum at e
      have eA : A j = if qa_and (qf_or (fun t => M 13 (t * 120 + j)) (3 * M 1 3).toNat) (qa_shl 1 w) = 0 then 0 else M 23 j := by rw [hA]
      refine R_iload cd_38_4 rfl ?_
      refine R_push cd_38_5 ?_
      refine R_icmp_ge 42 cd_38_7 rfl (fun b7 => ?_) (fun b7 => ?_)
      · omega
      · refine R_aload cd_38_10 rfl ?_
        refine R_getr cd_38_11 rfl ?_
        refine R_iload cd_38_14 rfl ?_
        refine R_call2 cd_38_15 rfl rfl (K_Rig_artistsAt (by omega) (by omega) (by omega) (by omega)) ?_
        refine R_push cd_38_18 ?_
        refine R_iload cd_38_19 rfl ?_
        refine R_ishl cd_38_20 ?_
        refine R_iand cd_38_21 ?_
        refine R_if_eq 36 cd_38_22 rfl (fun b22 => ?_) (fun b22 => ?_)
        · first
            | rw [eA, if_pos b22, Int.add_zero] at e
              refine R_iinc cd_38_36 rfl (by unfold qa_InR; first | omega | (simp [qa_upd, qa_blk] <;> omega)) rfl ?_
              refine R_goto cd_38_39 ?_
              exact R_norm (qs_c rfl (qs_c rfl (qs_c rfl (qs_c rfl qs_n)))) e
            | rw [eA, if_neg b22] at e
              refine R_iinc cd_38_36 rfl (by unfold qa_InR; first | omega | (simp [qa_upd, qa_blk] <;> omega)) rfl ?_
              refine R_goto cd_38_39 ?_
              exact R_norm (qs_c rfl (qs_c rfl (qs_c rfl (qs_c rfl qs_n)))) e
        · refine R_iload cd_38_25 rfl ?_
          refine R_aload cd_38_26 rfl ?_
          refine R_getr cd_38_27 rfl ?_
          refine R_iload cd_38_30 rfl ?_
          refine R_call2 cd_38_31 rfl rfl (K_Film_timesOf (by omega) (by omega)) ?_
          refine R_iadd cd_38_34 (by rw [eA, if_neg b22] at r2; unfold qa_InR; omega) ?_
          refine R_istore cd_38_35 rfl ?_
          first
            | rw [eA, if_pos b22, Int.add_zero] at e
              refine R_iinc cd_38_36 rfl (by unfold qa_InR; first | omega | (simp [qa_upd, qa_blk] <;> omega)) rfl ?_
              refine R_goto cd_38_39 ?_
              exact R_norm (qs_c rfl (qs_c rfl (qs_c rfl (qs_c rfl qs_n)))) e
            | rw [eA, if_neg b22] at e
              refine R_iinc cd_38_36 rfl (by unfold qa_InR; first | omega | (simp [qa_upd, qa_blk] <;> omega)) rfl ?_
              refine R_goto cd_38_39 ?_
              exact R_norm (qs_c rfl (qs_c rfl (qs_c rfl (qs_c rfl qs_n)))) e
  refine R_push cd_38_0 ?_
  refine R_istore cd_38_1 rfl ?_
  refine R_push cd_38_2 ?_
  refine R_istore cd_38_3 rfl ?_
  exact R_norm (qs_c rfl (qs_c rfl (qs_c rfl (qs_c rfl qs_n)))) (lp 120 0 (by omega))
theorem K_Court_seconds1 {w : Int} {M : qa_Mem} (h3 : ¬ (0 ≤ w ∧ w ≤ 5)) : qa_E 36 0 [(0, qr 0), (1, qi (w))] [] (M) (.inr 1) (qa_upd M 99 0 (M 99 0 + 1)) := by
  refine R_iload cd_36_0 rfl ?_
  refine R_push cd_36_1 ?_
  refine R_push cd_36_2 ?_
  refine R_call3 cd_36_3 rfl rfl K_Court_isWithin ?_
  exact R_callx1 cd_36_6 rfl rfl rfl (K_Court_mustExistX (qb_f (by omega))) rfl rfl
theorem K_Court_seconds0 {w : Int} {M : qa_Mem} (h1 : 0 ≤ M 1 3) (h2 : M 1 3 ≤ 8) (h3 : ∀ j, 0 ≤ j → j < 120 → 0 ≤ M 23 j ∧ M 23 j ≤ 10) (h4 : 0 ≤ w ∧ w ≤ 5) : qa_E 36 0 [(0, qr 0), (1, qi (w))] [] (M) (.inl (some (qi (qc_sec M w / 24)))) (M) := by
  refine R_iload cd_36_0 rfl ?_
  refine R_push cd_36_1 ?_
  refine R_push cd_36_2 ?_
  refine R_call3 cd_36_3 rfl rfl K_Court_isWithin ?_
  refine R_callv1 cd_36_6 rfl rfl (K_Court_mustExist (qb_n0.mpr (by omega))) ?_
  refine R_aload cd_36_9 rfl ?_
  refine R_iload cd_36_10 rfl ?_
  refine R_call2 cd_36_11 rfl rfl (K_Court_secondsOf h1 h2 h3) ?_
  exact R_iret cd_36_14 (by first | rfl | omega) rfl
theorem K_Court_unkeyC {b c f : Int} {M : qa_Mem} (h1 : 0 ≤ M 1 3) (h2 : M 1 3 ≤ 8) (h3 : ¬ qp_cell M b c f) : qa_E 20 0 [(0, qr 0), (1, qi (b)), (2, qi (c)), (3, qi (f))] [] (M) (.inr 1) (qa_upd M 99 0 (M 99 0 + 1)) := by
  unfold qp_cell at h3
  refine R_aload cd_20_0 rfl ?_
  refine R_getr cd_20_1 rfl ?_
  refine R_iload cd_20_4 rfl ?_
  refine R_iload cd_20_5 rfl ?_
  refine R_iload cd_20_6 rfl ?_
  refine R_call4 cd_20_7 rfl rfl (K_Rig_hasCell (by omega) (by omega)) ?_
  exact R_callx1 cd_20_10 rfl rfl rfl (K_Court_mustExistX (qb_f (by omega))) rfl rfl
