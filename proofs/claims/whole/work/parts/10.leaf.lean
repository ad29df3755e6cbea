/-! contracts of the small methods -/
theorem K_Keys_codeOf {t f : Int} {M : qa_Mem} (h1 : 0 ≤ t) (h2 : t ≤ 1000) (h3 : 0 ≤ f) (h4 : f ≤ 1000) : qa_E 2 0 [(0, qi (t)), (1, qi (f))] [] (M) (.inl (some (qi (1000 * t + f)))) (M) := by
  refine R_push cd_2_0 ?_
  refine R_iload cd_2_3 rfl ?_
  refine R_imul cd_2_4 (by unfold qa_InR; first | omega | (simp [qa_upd, qa_blk] <;> omega)) ?_
  refine R_iload cd_2_5 rfl ?_
  refine R_iadd cd_2_6 (by unfold qa_InR; first | omega | (simp [qa_upd, qa_blk] <;> omega)) ?_
  exact R_iret cd_2_7 (by first | rfl | omega) rfl
theorem K_Keys_size {M : qa_Mem} : qa_E 3 0 [(0, qr 2)] [] (M) (.inl (some (qi (M 2 4)))) (M) := by
  refine R_aload cd_3_0 rfl ?_
  refine R_getf cd_3_1 rfl (by decide) ?_
  exact R_iret cd_3_4 (by first | rfl | omega) rfl
theorem K_Keys_codeAt {p : Int} {M : qa_Mem} (h1 : 0 ≤ p) (h2 : p < 80) : qa_E 4 0 [(0, qr 2), (1, qi (p))] [] (M) (.inl (some (qi (M 14 p)))) (M) := by
  refine R_aload cd_4_0 rfl ?_
  refine R_getr cd_4_1 rfl ?_
  refine R_iload cd_4_4 rfl ?_
  refine R_iald cd_4_5 rfl (by omega) (by omega) ?_
  exact R_iret cd_4_6 (by first | rfl | omega) rfl
theorem K_Keys_frameAt {p : Int} {M : qa_Mem} (h1 : 0 ≤ p) (h2 : p < 80) (h3 : 0 ≤ M 14 p) : qa_E 5 0 [(0, qr 2), (1, qi (p))] [] (M) (.inl (some (qi (M 14 p % 1000)))) (M) := by
  refine R_aload cd_5_0 rfl ?_
  refine R_getr cd_5_1 rfl ?_
  refine R_iload cd_5_4 rfl ?_
  refine R_iald cd_5_5 rfl (by omega) (by omega) ?_
  refine R_push cd_5_6 ?_
  refine R_irem cd_5_9 (by omega) ?_
  exact R_iret cd_5_10 (Int.tmod_eq_emod_of_nonneg h3) rfl
theorem K_Keys_valueAt {p : Int} {M : qa_Mem} (h1 : 0 ≤ p) (h2 : p < 80) : qa_E 6 0 [(0, qr 2), (1, qi (p))] [] (M) (.inl (some (qi (M 15 p)))) (M) := by
  refine R_aload cd_6_0 rfl ?_
  refine R_getr cd_6_1 rfl ?_
  refine R_iload cd_6_4 rfl ?_
  refine R_iald cd_6_5 rfl (by omega) (by omega) ?_
  exact R_iret cd_6_6 (by first | rfl | omega) rfl
theorem K_Keys_setterBit {p : Int} {M : qa_Mem} (h1 : 0 ≤ p) (h2 : p < 80) : qa_E 7 0 [(0, qr 2), (1, qi (p))] [] (M) (.inl (some (qi (qa_shl 1 (M 16 p))))) (M) := by
  refine R_push cd_7_0 ?_
  refine R_aload cd_7_1 rfl ?_
  refine R_getr cd_7_2 rfl ?_
  refine R_iload cd_7_5 rfl ?_
  refine R_iald cd_7_6 rfl (by omega) (by omega) ?_
  refine R_ishl cd_7_7 ?_
  exact R_iret cd_7_8 (by first | rfl | omega) rfl
theorem K_Keys_isSoft {p : Int} {M : qa_Mem} (h1 : 0 ≤ p) (h2 : p < 80) (h3 : M 17 p = 0 ∨ M 17 p = 1) : qa_E 8 0 [(0, qr 2), (1, qi (p))] [] (M) (.inl (some (qi (qb (M 17 p ≠ 0))))) (M) := by
  refine R_aload cd_8_0 rfl ?_
  refine R_getr cd_8_1 rfl ?_
  refine R_iload cd_8_4 rfl ?_
  refine R_zald cd_8_5 rfl (by omega) (by omega) ?_
  exact R_zret cd_8_6 (qb_ne h3) h3 rfl
theorem K_Keys_countAhead {c : Int} {M : qa_Mem} (h1 : 0 ≤ M 2 4) (h2 : M 2 4 ≤ 80) : qa_E 9 0 [(0, qr 2), (1, qi (c))] [] (M) (.inl (some (qi (qf_ca (M 14) (M 2 4) c 80 0)))) (M) := by
  have lp : ∀ (k : Nat) (a : Int), 0 ≤ a → a ≤ M 2 4 → M 2 4 ≤ a + k → qa_E 9 2 [(0, qr 2), (1, qi c), (2, qi a)] [] M (.inl (some (qi (qf_ca (M 14) (M 2 4) c k a)))) M := by
    intro k
    induction k with
    | zero =>
      intro a g1 g2 g3
      refine R_iload cd_9_2 rfl ?_
      refine R_aload cd_9_3 rfl ?_
      refine R_getf cd_9_4 rfl (by decide) ?_
      refine R_icmp_ge 26 cd_9_7 rfl (fun b7 => ?_) (fun b7 => ?_)
      · refine R_iload cd_9_26 rfl ?_
        exact R_iret cd_9_27 (by first | rfl | omega) rfl
      · omega
    | succ k ih =>
      intro a g1 g2 g3
      refine R_iload cd_9_2 rfl ?_
      refine R_aload cd_9_3 rfl ?_
      refine R_getf cd_9_4 rfl (by decide) ?_
      refine R_icmp_ge 26 cd_9_7 rfl (fun b7 => ?_) (fun b7 => ?_)
      · refine R_iload cd_9_26 rfl ?_
        exact R_iret cd_9_27 (by unfold qf_ca; rw [if_neg (by omega)]) rfl
      · refine R_aload cd_9_10 rfl ?_
        refine R_getr cd_9_11 rfl ?_
        refine R_iload cd_9_14 rfl ?_
        refine R_iald cd_9_15 rfl (by omega) (by omega) ?_
        refine R_iload cd_9_16 rfl ?_
        refine R_icmp_ge 26 cd_9_17 rfl (fun b17 => ?_) (fun b17 => ?_)
        · refine R_iload cd_9_26 rfl ?_
          exact R_iret cd_9_27 (by unfold qf_ca; rw [if_neg (by omega)]) rfl
        · refine R_iinc cd_9_20 rfl (by unfold qa_InR; first | omega | (simp [qa_upd, qa_blk] <;> omega)) ?_
          refine R_goto cd_9_23 ?_
          have e := ih (a + 1) (by omega) (by omega) (by omega)
          unfold qf_ca
          rw [if_pos ⟨b7, b17⟩]
          exact R_norm (qs_c rfl (qs_c rfl (qs_c rfl qs_n))) e
  refine R_push cd_9_0 ?_
  refine R_istore cd_9_1 ?_
  exact R_norm (qs_c rfl (qs_c rfl (qs_c rfl qs_n))) (lp 80 0 (by omega) (by omega) (by omega))
theorem K_Keys_startOf {t : Int} {M : qa_Mem} (h1 : 0 ≤ M 2 4) (h2 : M 2 4 ≤ 80) (h3 : 0 ≤ t) (h4 : t ≤ 1000) : qa_E 10 0 [(0, qr 2), (1, qi (t))] [] (M) (.inl (some (qi (qf_ca (M 14) (M 2 4) (1000 * t + 0) 80 0)))) (M) := by
  refine R_aload cd_10_0 rfl ?_
  refine R_iload cd_10_1 rfl ?_
  refine R_push cd_10_2 ?_
  refine R_call2 cd_10_3 rfl rfl (K_Keys_codeOf (by omega) (by omega) (by omega) (by omega)) ?_
  refine R_call2 cd_10_6 rfl rfl (K_Keys_countAhead (by omega) (by omega)) ?_
  exact R_iret cd_10_9 (by first | rfl | omega) rfl
theorem K_Keys_has {c : Int} {M : qa_Mem} (h1 : 0 ≤ M 2 4) (h2 : M 2 4 ≤ 80) : qa_E 11 0 [(0, qr 2), (1, qi (c))] [] (M) (.inl (some (qi (qb (qf_ca (M 14) (M 2 4) c 80 0 < M 2 4 ∧ M 14 (qf_ca (M 14) (M 2 4) c 80 0) = c))))) (M) := by
  have g := qf_ca_r (M 14) (M 2 4) c 80 0 (by omega) (by omega)
  refine R_aload cd_11_0 rfl ?_
  refine R_iload cd_11_1 rfl ?_
  refine R_call2 cd_11_2 rfl rfl (K_Keys_countAhead (by omega) (by omega)) ?_
  refine R_istore cd_11_5 ?_
  refine R_iload cd_11_6 rfl ?_
  refine R_aload cd_11_7 rfl ?_
  refine R_getf cd_11_8 rfl (by decide) ?_
  refine R_icmp_ge 28 cd_11_11 rfl (fun b11 => ?_) (fun b11 => ?_)
  · refine R_push cd_11_28 ?_
    exact R_zret_f cd_11_29 (by omega) rfl
  · refine R_aload cd_11_14 rfl ?_
    refine R_getr cd_11_15 rfl ?_
    refine R_iload cd_11_18 rfl ?_
    refine R_iald cd_11_19 rfl (by omega) (by omega) ?_
    refine R_iload cd_11_20 rfl ?_
    refine R_icmp_ne 28 cd_11_21 rfl (fun b21 => ?_) (fun b21 => ?_)
    · refine R_push cd_11_28 ?_
      exact R_zret_f cd_11_29 (by omega) rfl
    · refine R_push cd_11_24 ?_
      refine R_goto cd_11_25 ?_
      exact R_zret_t cd_11_29 (by omega) rfl
theorem K_Film_shotCount {M : qa_Mem} : qa_E 17 0 [(0, qr 4)] [] (M) (.inl (some (qi (M 4 3)))) (M) := by
  refine R_aload cd_17_0 rfl ?_
  refine R_getf cd_17_1 rfl (by decide) ?_
  exact R_iret cd_17_4 (by first | rfl | omega) rfl
theorem K_Film_length {M : qa_Mem} : qa_E 18 0 [(0, qr 4)] [] (M) (.inl (some (qi (M 4 4)))) (M) := by
  refine R_aload cd_18_0 rfl ?_
  refine R_getf cd_18_1 rfl (by decide) ?_
  exact R_iret cd_18_4 (by first | rfl | omega) rfl
theorem K_Film_timesOf {f : Int} {M : qa_Mem} (h1 : 0 ≤ f) (h2 : f < 120) : qa_E 19 0 [(0, qr 4), (1, qi (f))] [] (M) (.inl (some (qi (M 23 f)))) (M) := by
  refine R_aload cd_19_0 rfl ?_
  refine R_getr cd_19_1 rfl ?_
  refine R_iload cd_19_4 rfl ?_
  refine R_iald cd_19_5 rfl (by omega) (by omega) ?_
  exact R_iret cd_19_6 (by first | rfl | omega) rfl
theorem K_Film_needs {f : Int} {M : qa_Mem} (h1 : 0 ≤ f) (h2 : f < 120) : qa_E 20 0 [(0, qr 4), (1, qi (f))] [] (M) (.inl (some (qi (qb (0 < M 23 f))))) (M) := by
  refine R_aload cd_20_0 rfl ?_
  refine R_getr cd_20_1 rfl ?_
  refine R_iload cd_20_4 rfl ?_
  refine R_iald cd_20_5 rfl (by omega) (by omega) ?_
  refine R_if_le 13 cd_20_6 rfl (fun b6 => ?_) (fun b6 => ?_)
  · refine R_push cd_20_13 ?_
    exact R_zret_f cd_20_14 (by omega) rfl
  · refine R_push cd_20_9 ?_
    refine R_goto cd_20_10 ?_
    exact R_zret_t cd_20_14 (by omega) rfl
theorem K_Farm_machineCount {M : qa_Mem} : qa_E 25 0 [(0, qr 5)] [] (M) (.inl (some (qi (M 5 3)))) (M) := by
  refine R_aload cd_25_0 rfl ?_
  refine R_getf cd_25_1 rfl (by decide) ?_
  exact R_iret cd_25_4 (by first | rfl | omega) rfl
theorem K_Farm_offerCount {M : qa_Mem} : qa_E 26 0 [(0, qr 5)] [] (M) (.inl (some (qi (M 5 6)))) (M) := by
  refine R_aload cd_26_0 rfl ?_
  refine R_getf cd_26_1 rfl (by decide) ?_
  exact R_iret cd_26_4 (by first | rfl | omega) rfl
theorem K_Farm_earnings {M : qa_Mem} : qa_E 27 0 [(0, qr 5)] [] (M) (.inl (some (qi (M 5 7)))) (M) := by
  refine R_aload cd_27_0 rfl ?_
  refine R_getf cd_27_1 rfl (by decide) ?_
  exact R_iret cd_27_4 (by first | rfl | omega) rfl
theorem K_Rig_boneCount {M : qa_Mem} : qa_E 38 0 [(0, qr 1)] [] (M) (.inl (some (qi (M 1 3)))) (M) := by
  refine R_aload cd_38_0 rfl ?_
  refine R_getf cd_38_1 rfl (by decide) ?_
  exact R_iret cd_38_4 (by first | rfl | omega) rfl
theorem K_Rig_trackCount {M : qa_Mem} (h1 : 0 ≤ M 1 3) (h2 : M 1 3 ≤ 8) : qa_E 39 0 [(0, qr 1)] [] (M) (.inl (some (qi (3 * M 1 3)))) (M) := by
  refine R_push cd_39_0 ?_
  refine R_aload cd_39_1 rfl ?_
  refine R_getf cd_39_2 rfl (by decide) ?_
  refine R_imul cd_39_5 (by unfold qa_InR; first | omega | (simp [qa_upd, qa_blk] <;> omega)) ?_
  exact R_iret cd_39_6 (by first | rfl | omega) rfl
theorem K_Court_isWithin {x a b : Int} {M : qa_Mem} : qa_E 138 0 [(0, qi (x)), (1, qi (a)), (2, qi (b))] [] (M) (.inl (some (qi (qb (a ≤ x ∧ x ≤ b))))) (M) := by
  refine R_iload cd_138_0 rfl ?_
  refine R_iload cd_138_1 rfl ?_
  refine R_icmp_lt 14 cd_138_2 rfl (fun b2 => ?_) (fun b2 => ?_)
  · refine R_push cd_138_14 ?_
    exact R_zret_f cd_138_15 (by omega) rfl
  · refine R_iload cd_138_5 rfl ?_
    refine R_iload cd_138_6 rfl ?_
    refine R_icmp_gt 14 cd_138_7 rfl (fun b7 => ?_) (fun b7 => ?_)
    · refine R_push cd_138_14 ?_
      exact R_zret_f cd_138_15 (by omega) rfl
    · refine R_push cd_138_10 ?_
      refine R_goto cd_138_11 ?_
      exact R_zret_t cd_138_15 (by omega) rfl
theorem K_Court_isFrame {x : Int} {M : qa_Mem} : qa_E 139 0 [(0, qi (x))] [] (M) (.inl (some (qi (qb (0 ≤ x ∧ x ≤ 119))))) (M) := by
  refine R_iload cd_139_0 rfl ?_
  refine R_push cd_139_1 ?_
  refine R_push cd_139_2 ?_
  refine R_call3 cd_139_4 rfl rfl K_Court_isWithin ?_
  exact R_zret_b cd_139_7 Iff.rfl rfl
theorem K_Court_trackOf {b c : Int} {M : qa_Mem} (h1 : 0 ≤ b) (h2 : b ≤ 8) (h3 : 0 ≤ c) (h4 : c ≤ 3) : qa_E 140 0 [(0, qi (b)), (1, qi (c))] [] (M) (.inl (some (qi (3 * b + c)))) (M) := by
  refine R_push cd_140_0 ?_
  refine R_iload cd_140_1 rfl ?_
  refine R_imul cd_140_2 (by unfold qa_InR; first | omega | (simp [qa_upd, qa_blk] <;> omega)) ?_
  refine R_iload cd_140_3 rfl ?_
  refine R_iadd cd_140_4 (by unfold qa_InR; first | omega | (simp [qa_upd, qa_blk] <;> omega)) ?_
  exact R_iret cd_140_5 (by first | rfl | omega) rfl
theorem K_Rig_hasBone {b : Int} {M : qa_Mem} (h1 : 0 ≤ M 1 3) (h2 : M 1 3 ≤ 8) : qa_E 40 0 [(0, qr 1), (1, qi (b))] [] (M) (.inl (some (qi (qb (0 ≤ b ∧ b ≤ M 1 3 - 1))))) (M) := by
  refine R_iload cd_40_0 rfl ?_
  refine R_push cd_40_1 ?_
  refine R_aload cd_40_2 rfl ?_
  refine R_getf cd_40_3 rfl (by decide) ?_
  refine R_push cd_40_6 ?_
  refine R_isub cd_40_7 (by unfold qa_InR; first | omega | (simp [qa_upd, qa_blk] <;> omega)) ?_
  refine R_call3 cd_40_8 rfl rfl K_Court_isWithin ?_
  exact R_zret_b cd_40_11 Iff.rfl rfl
theorem K_Rig_hasCell {b c f : Int} {M : qa_Mem} (h1 : 0 ≤ M 1 3) (h2 : M 1 3 ≤ 8) : qa_E 41 0 [(0, qr 1), (1, qi (b)), (2, qi (c)), (3, qi (f))] [] (M) (.inl (some (qi (qb ((0 ≤ b ∧ b ≤ M 1 3 - 1) ∧ (0 ≤ c ∧ c ≤ 2) ∧ (0 ≤ f ∧ f ≤ 119)))))) (M) := by
  refine R_aload cd_41_0 rfl ?_
  refine R_iload cd_41_1 rfl ?_
  refine R_call2 cd_41_2 rfl rfl (K_Rig_hasBone (by omega) (by omega)) ?_
  refine R_ifeq_b 28 cd_41_5 rfl (fun b5 => ?_) (fun b5 => ?_)
  · refine R_push cd_41_28 ?_
    exact R_zret_f cd_41_29 (by omega) rfl
  · refine R_iload cd_41_8 rfl ?_
    refine R_push cd_41_9 ?_
    refine R_push cd_41_10 ?_
    refine R_call3 cd_41_11 rfl rfl K_Court_isWithin ?_
    refine R_ifeq_b 28 cd_41_14 rfl (fun b14 => ?_) (fun b14 => ?_)
    · refine R_push cd_41_28 ?_
      exact R_zret_f cd_41_29 (by omega) rfl
    · refine R_iload cd_41_17 rfl ?_
      refine R_call1 cd_41_18 rfl rfl K_Court_isFrame ?_
      refine R_ifeq_b 28 cd_41_21 rfl (fun b21 => ?_) (fun b21 => ?_)
      · refine R_push cd_41_28 ?_
        exact R_zret_f cd_41_29 (by omega) rfl
      · refine R_push cd_41_24 ?_
        refine R_goto cd_41_25 ?_
        exact R_zret_t cd_41_29 (by omega) rfl
theorem K_Rig_keyCount {M : qa_Mem} : qa_E 43 0 [(0, qr 1)] [] (M) (.inl (some (qi (M 2 4)))) (M) := by
  refine R_aload cd_43_0 rfl ?_
  refine R_getr cd_43_1 rfl ?_
  refine R_call1 cd_43_4 rfl rfl K_Keys_size ?_
  exact R_iret cd_43_7 (by first | rfl | omega) rfl
theorem K_Rig_keyCode {p : Int} {M : qa_Mem} (h1 : 0 ≤ p) (h2 : p < 80) : qa_E 44 0 [(0, qr 1), (1, qi (p))] [] (M) (.inl (some (qi (M 14 p)))) (M) := by
  refine R_aload cd_44_0 rfl ?_
  refine R_getr cd_44_1 rfl ?_
  refine R_iload cd_44_4 rfl ?_
  refine R_call2 cd_44_5 rfl rfl (K_Keys_codeAt (by omega) (by omega)) ?_
  exact R_iret cd_44_8 (by first | rfl | omega) rfl
theorem K_Rig_hasKey {t f : Int} {M : qa_Mem} (h1 : 0 ≤ M 2 4) (h2 : M 2 4 ≤ 80) (h3 : 0 ≤ t) (h4 : t ≤ 1000) (h5 : 0 ≤ f) (h6 : f ≤ 1000) : qa_E 45 0 [(0, qr 1), (1, qi (t)), (2, qi (f))] [] (M) (.inl (some (qi (qb (qf_ca (M 14) (M 2 4) (1000 * t + f) 80 0 < M 2 4 ∧ M 14 (qf_ca (M 14) (M 2 4) (1000 * t + f) 80 0) = 1000 * t + f))))) (M) := by
  refine R_aload cd_45_0 rfl ?_
  refine R_getr cd_45_1 rfl ?_
  refine R_iload cd_45_4 rfl ?_
  refine R_iload cd_45_5 rfl ?_
  refine R_call2 cd_45_6 rfl rfl (K_Keys_codeOf (by omega) (by omega) (by omega) (by omega)) ?_
  refine R_call2 cd_45_9 rfl rfl (K_Keys_has (by omega) (by omega)) ?_
  exact R_zret_b cd_45_12 Iff.rfl rfl
theorem K_Rig_poseAt {t f : Int} {M : qa_Mem} (h1 : 0 ≤ t) (h2 : t < 24) (h3 : 0 ≤ f) (h4 : f < 120) : qa_E 48 0 [(0, qr 1), (1, qi (t)), (2, qi (f))] [] (M) (.inl (some (qi (M 12 (t * 120 + f))))) (M) := by
  refine R_aload cd_48_0 rfl ?_
  refine R_getr cd_48_1 rfl ?_
  refine R_iload cd_48_4 rfl ?_
  refine R_push cd_48_5 ?_
  refine R_imul cd_48_7 (by unfold qa_InR; first | omega | (simp [qa_upd, qa_blk] <;> omega)) ?_
  refine R_iload cd_48_8 rfl ?_
  refine R_iadd cd_48_9 (by unfold qa_InR; first | omega | (simp [qa_upd, qa_blk] <;> omega)) ?_
  refine R_iald cd_48_10 rfl (by omega) (by omega) ?_
  exact R_iret cd_48_11 (by first | rfl | omega) rfl
theorem K_Court_mustExist {x : Int} {M : qa_Mem} (h1 : x ≠ 0) : qa_E 135 0 [(0, qi (x))] [] (M) (.inl none) (M) := by
  refine R_iload cd_135_0 rfl ?_
  refine R_if_ne 12 cd_135_1 rfl (fun b1 => ?_) (fun b1 => ?_)
  · exact R_vret cd_135_12 rfl
  · exact absurd b1 h1
theorem K_Court_mustExistX {x : Int} {M : qa_Mem} (h1 : x = 0) : qa_E 135 0 [(0, qi (x))] [] (M) (.inr 1) (qa_upd M 99 0 (M 99 0 + 1)) := by
  refine R_iload cd_135_0 rfl ?_
  refine R_if_ne 12 cd_135_1 rfl (fun b1 => ?_) (fun b1 => ?_)
  · exact absurd h1 b1
  · exact R_throw cd_135_4
theorem K_Court_mustFit {x : Int} {M : qa_Mem} (h1 : x ≠ 0) : qa_E 136 0 [(0, qi (x))] [] (M) (.inl none) (M) := by
  refine R_iload cd_136_0 rfl ?_
  refine R_if_ne 12 cd_136_1 rfl (fun b1 => ?_) (fun b1 => ?_)
  · exact R_vret cd_136_12 rfl
  · exact absurd b1 h1
theorem K_Court_mustFitX {x : Int} {M : qa_Mem} (h1 : x = 0) : qa_E 136 0 [(0, qi (x))] [] (M) (.inr 2) (qa_upd M 99 0 (M 99 0 + 1)) := by
  refine R_iload cd_136_0 rfl ?_
  refine R_if_ne 12 cd_136_1 rfl (fun b1 => ?_) (fun b1 => ?_)
  · exact absurd h1 b1
  · exact R_throw cd_136_4
theorem K_Court_mustBePossible {x : Int} {M : qa_Mem} (h1 : x ≠ 0) : qa_E 137 0 [(0, qi (x))] [] (M) (.inl none) (M) := by
  refine R_iload cd_137_0 rfl ?_
  refine R_if_ne 12 cd_137_1 rfl (fun b1 => ?_) (fun b1 => ?_)
  · exact R_vret cd_137_12 rfl
  · exact absurd b1 h1
theorem K_Court_mustBePossibleX {x : Int} {M : qa_Mem} (h1 : x = 0) : qa_E 137 0 [(0, qi (x))] [] (M) (.inr 3) (qa_upd M 99 0 (M 99 0 + 1)) := by
  refine R_iload cd_137_0 rfl ?_
  refine R_if_ne 12 cd_137_1 rfl (fun b1 => ?_) (fun b1 => ?_)
  · exact absurd h1 b1
  · exact R_throw cd_137_4
theorem K_Stills_standing {f : Int} {M : qa_Mem} (h1 : 0 ≤ f) (h2 : f < 120) : qa_E 57 0 [(0, qr 3), (1, qi (f))] [] (M) (.inl (some (qi (M 20 f)))) (M) := by
  refine R_aload cd_57_0 rfl ?_
  refine R_getr cd_57_1 rfl ?_
  refine R_iload cd_57_4 rfl ?_
  refine R_iald cd_57_5 rfl (by omega) (by omega) ?_
  exact R_iret cd_57_6 (by first | rfl | omega) rfl
theorem K_Stills_stands {f : Int} {M : qa_Mem} (h1 : 0 ≤ f) (h2 : f < 120) : qa_E 58 0 [(0, qr 3), (1, qi (f))] [] (M) (.inl (some (qi (qb (M 20 f = 1))))) (M) := by
  refine R_aload cd_58_0 rfl ?_
  refine R_getr cd_58_1 rfl ?_
  refine R_iload cd_58_4 rfl ?_
  refine R_iald cd_58_5 rfl (by omega) (by omega) ?_
  refine R_push cd_58_6 ?_
  refine R_icmp_ne 14 cd_58_7 rfl (fun b7 => ?_) (fun b7 => ?_)
  · refine R_push cd_58_14 ?_
    exact R_zret_f cd_58_15 (by omega) rfl
  · refine R_push cd_58_10 ?_
    refine R_goto cd_58_11 ?_
    exact R_zret_t cd_58_15 (by omega) rfl
