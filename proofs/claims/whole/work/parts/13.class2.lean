/-! the rig's other methods -/
theorem K_Rig_setKey {t f v a s : Int} {M : qa_Mem} (h1 : 0 ≤ t) (h2 : t < 24) (h3 : 0 ≤ f) (h4 : f < 120) (h5 : 0 ≤ M 2 4) (h6 : M 2 4 ≤ 80) (h7 : ∀ j, 0 ≤ j → j < 80 → M 17 j = 0 ∨ M 17 j = 1) (h8 : s = 0 ∨ s = 1) (h9 : M 2 4 < 80 ∨ (qf_ca (M 14) (M 2 4) (1000 * t + f) 80 0 < M 2 4 ∧ M 14 (qf_ca (M 14) (M 2 4) (1000 * t + f) 80 0) = 1000 * t + f)) (h10 : qk_wf ((qk_put M (1000 * t + f) v a s) 14) ((qk_put M (1000 * t + f) v a s) 15) ((qk_put M (1000 * t + f) v a s) 16) ((qk_put M (1000 * t + f) v a s) 17) ((qk_put M (1000 * t + f) v a s) 2 4)) : qa_E 46 0 [(0, qr 1), (1, qi (t)), (2, qi (f)), (3, qi (v)), (4, qi (a)), (5, qi (s))] [] (M) (.inl none) (qt_M (qk_put M (1000 * t + f) v a s) t 120) := by
  refine R_aload cd_46_0 rfl ?_
  refine R_getr cd_46_1 rfl ?_
  refine R_iload cd_46_4 rfl ?_
  refine R_iload cd_46_5 rfl ?_
  refine R_call2 cd_46_6 rfl rfl (K_Keys_codeOf (by omega) (by omega) (by omega) (by omega)) ?_
  refine R_iload cd_46_9 rfl ?_
  refine R_iload cd_46_10 rfl ?_
  refine R_iload cd_46_12 rfl ?_
  refine R_callv5 cd_46_14 rfl rfl (K_Keys_put h5 h6 h7 h8 h9) ?_
  refine R_aload cd_46_17 rfl ?_
  refine R_iload cd_46_18 rfl ?_
  refine R_callv2 cd_46_19 rfl rfl (K_Rig_poseTrack h1 h2 h10) ?_
  exact R_vret cd_46_22 rfl
theorem K_Rig_takeKey {t f : Int} {M : qa_Mem} (h1 : 0 ≤ t) (h2 : t < 24) (h3 : 0 ≤ f) (h4 : f < 120) (h5 : 0 ≤ M 2 4) (h6 : M 2 4 ≤ 80) (h7 : ∀ j, 0 ≤ j → j < 80 → M 17 j = 0 ∨ M 17 j = 1) (h9 : qf_ca (M 14) (M 2 4) (1000 * t + f) 80 0 < M 2 4 ∧ M 14 (qf_ca (M 14) (M 2 4) (1000 * t + f) 80 0) = 1000 * t + f) (h10 : qk_wf ((qk_take M (1000 * t + f)) 14) ((qk_take M (1000 * t + f)) 15) ((qk_take M (1000 * t + f)) 16) ((qk_take M (1000 * t + f)) 17) ((qk_take M (1000 * t + f)) 2 4)) : qa_E 47 0 [(0, qr 1), (1, qi (t)), (2, qi (f))] [] (M) (.inl none) (qt_M (qk_take M (1000 * t + f)) t 120) := by
  refine R_aload cd_47_0 rfl ?_
  refine R_getr cd_47_1 rfl ?_
  refine R_iload cd_47_4 rfl ?_
  refine R_iload cd_47_5 rfl ?_
  refine R_call2 cd_47_6 rfl rfl (K_Keys_codeOf (by omega) (by omega) (by omega) (by omega)) ?_
  refine R_callv2 cd_47_9 rfl rfl (K_Keys_take h5 h6 h7 h9) ?_
  refine R_aload cd_47_12 rfl ?_
  refine R_iload cd_47_13 rfl ?_
  refine R_callv2 cd_47_14 rfl rfl (K_Rig_poseTrack h1 h2 h10) ?_
  exact R_vret cd_47_17 rfl
theorem K_Rig_addBone {p x y : Int} {M : qa_Mem} (h1 : 0 ≤ M 1 3) (h2 : M 1 3 < 8) : qa_E 42 0 [(0, qr 1), (1, qi (p)), (2, qi (x)), (3, qi (y))] [] (M) (.inl (some (qi (M 1 3)))) (qa_upd (qa_upd (qa_upd (qa_upd M 9 (M 1 3) p) 10 (M 1 3) x) 11 (M 1 3) y) 1 3 (M 1 3 + 1)) := by
  refine R_aload cd_42_0 rfl ?_
  refine R_getf cd_42_1 rfl (by decide) ?_
  refine R_istore cd_42_4 ?_
  refine R_aload cd_42_6 rfl ?_
  refine R_getr cd_42_7 rfl ?_
  refine R_iload cd_42_10 rfl ?_
  refine R_iload cd_42_12 rfl ?_
  refine R_iast cd_42_13 rfl (by omega) (by omega)  ?_
  refine R_aload cd_42_14 rfl ?_
  refine R_getr cd_42_15 rfl ?_
  refine R_iload cd_42_18 rfl ?_
  refine R_iload cd_42_20 rfl ?_
  refine R_iast cd_42_21 rfl (by omega) (by omega)  ?_
  refine R_aload cd_42_22 rfl ?_
  refine R_getr cd_42_23 rfl ?_
  refine R_iload cd_42_26 rfl ?_
  refine R_iload cd_42_28 rfl ?_
  refine R_iast cd_42_29 rfl (by omega) (by omega)  ?_
  refine R_aload cd_42_30 rfl ?_
  refine R_dup cd_42_31 rfl ?_
  refine R_getf cd_42_32 rfl (by decide) ?_
  refine R_push cd_42_35 ?_
  refine R_iadd cd_42_36 (show qa_InR (M 1 3 + 1) by unfold qa_InR; omega) ?_
  refine R_putf cd_42_37 rfl (by decide) ?_
  refine R_iload cd_42_40 rfl ?_
  exact R_iret cd_42_42 (by first | rfl | omega) rfl
theorem K_Rig_artistsAt {f : Int} {M : qa_Mem} (h1 : 0 ≤ M 1 3) (h2 : M 1 3 ≤ 8) (h3 : 0 ≤ f) (h4 : f < 120) : qa_E 49 0 [(0, qr 1), (1, qi (f))] [] (M) (.inl (some (qi (qf_or (fun t => M 13 (t * 120 + f)) (3 * M 1 3).toNat)))) (M) := by
  have lp : ∀ (k : Nat) (j : Nat), j + k = (3 * M 1 3).toNat → qa_E 49 4 [(0, qr 1), (1, qi f), (2, qi (qf_or (fun t => M 13 (t * 120 + f)) j)), (3, qi j)] [] M (.inl (some (qi (qf_or (fun t => M 13 (t * 120 + f)) (3 * M 1 3).toNat)))) M := by
    intro k
    induction k with
    | zero =>
      intro j g1
      refine R_iload cd_49_4 rfl ?_
      refine R_aload cd_49_5 rfl ?_
      refine R_call1 cd_49_6 rfl rfl (K_Rig_trackCount (by omega) (by omega)) ?_
      refine R_icmp_ge 32 cd_49_9 rfl (fun b9 => ?_) (fun b9 => ?_)
      · refine R_iload cd_49_32 rfl ?_
        exact R_iret cd_49_33 (by rw [← g1]; rfl) rfl
      · omega
    | succ k ih =>
      intro j g1
      have e := ih (j + 1) (by omega)
      rw [Int.natCast_add] at e
      refine R_iload cd_49_4 rfl ?_
      refine R_aload cd_49_5 rfl ?_
      refine R_call1 cd_49_6 rfl rfl (K_Rig_trackCount (by omega) (by omega)) ?_
      refine R_icmp_ge 32 cd_49_9 rfl (fun b9 => ?_) (fun b9 => ?_)
      · omega
      · refine R_iload cd_49_12 rfl ?_
        refine R_aload cd_49_13 rfl ?_
        refine R_getr cd_49_14 rfl ?_
        refine R_iload cd_49_17 rfl ?_
        refine R_push cd_49_18 ?_
        refine R_imul cd_49_20 (by unfold qa_InR; first | omega | (simp [qa_upd, qa_blk] <;> omega)) ?_
        refine R_iload cd_49_21 rfl ?_
        refine R_iadd cd_49_22 (by unfold qa_InR; first | omega | (simp [qa_upd, qa_blk] <;> omega)) ?_
        refine R_iald cd_49_23 rfl (by omega) (by omega) ?_
        refine R_ior cd_49_24 ?_
        refine R_istore cd_49_25 ?_
        refine R_iinc cd_49_26 rfl (by unfold qa_InR; first | omega | (simp [qa_upd, qa_blk] <;> omega)) ?_
        refine R_goto cd_49_29 ?_
        exact R_norm (qs_c rfl (qs_c rfl (qs_c rfl (qs_c rfl qs_n)))) e
  refine R_push cd_49_0 ?_
  refine R_istore cd_49_1 ?_
  refine R_push cd_49_2 ?_
  refine R_istore cd_49_3 ?_
  exact R_norm (qs_c rfl (qs_c rfl (qs_c rfl (qs_c rfl qs_n)))) (lp _ 0 (Nat.zero_add _))
theorem K_Rig_localX {b f : Int} {M : qa_Mem} (h1 : 0 ≤ b) (h2 : b < 8) (h3 : 0 ≤ f) (h4 : f < 120) (h5 : -100 ≤ M 10 b ∧ M 10 b ≤ 100) (h6 : -200 ≤ M 12 ((3 * b + 0) * 120 + f) ∧ M 12 ((3 * b + 0) * 120 + f) ≤ 200) : qa_E 52 0 [(0, qr 1), (1, qi (b)), (2, qi (f))] [] (M) (.inl (some (qi (M 10 b + M 12 ((3 * b + 0) * 120 + f))))) (M) := by
  refine R_aload cd_52_0 rfl ?_
  refine R_getr cd_52_1 rfl ?_
  refine R_iload cd_52_4 rfl ?_
  refine R_iald cd_52_5 rfl (by omega) (by omega) ?_
  refine R_aload cd_52_6 rfl ?_
  refine R_iload cd_52_7 rfl ?_
  refine R_push cd_52_8 ?_
  refine R_call2 cd_52_9 rfl rfl (K_Court_trackOf (by omega) (by omega) (by omega) (by omega)) ?_
  refine R_iload cd_52_12 rfl ?_
  refine R_call3 cd_52_13 rfl rfl (K_Rig_poseAt (by omega) (by omega) (by omega) (by omega)) ?_
  refine R_iadd cd_52_16 (by unfold qa_InR; first | omega | (simp [qa_upd, qa_blk] <;> omega)) ?_
  exact R_iret cd_52_17 (by first | rfl | omega) rfl
theorem K_Rig_localY {b f : Int} {M : qa_Mem} (h1 : 0 ≤ b) (h2 : b < 8) (h3 : 0 ≤ f) (h4 : f < 120) (h5 : -100 ≤ M 11 b ∧ M 11 b ≤ 100) (h6 : -200 ≤ M 12 ((3 * b + 1) * 120 + f) ∧ M 12 ((3 * b + 1) * 120 + f) ≤ 200) : qa_E 53 0 [(0, qr 1), (1, qi (b)), (2, qi (f))] [] (M) (.inl (some (qi (M 11 b + M 12 ((3 * b + 1) * 120 + f))))) (M) := by
  refine R_aload cd_53_0 rfl ?_
  refine R_getr cd_53_1 rfl ?_
  refine R_iload cd_53_4 rfl ?_
  refine R_iald cd_53_5 rfl (by omega) (by omega) ?_
  refine R_aload cd_53_6 rfl ?_
  refine R_iload cd_53_7 rfl ?_
  refine R_push cd_53_8 ?_
  refine R_call2 cd_53_9 rfl rfl (K_Court_trackOf (by omega) (by omega) (by omega) (by omega)) ?_
  refine R_iload cd_53_12 rfl ?_
  refine R_call3 cd_53_13 rfl rfl (K_Rig_poseAt (by omega) (by omega) (by omega) (by omega)) ?_
  refine R_iadd cd_53_16 (by unfold qa_InR; first | omega | (simp [qa_upd, qa_blk] <;> omega)) ?_
  exact R_iret cd_53_17 (by first | rfl | omega) rfl
theorem K_Rig_spanOf {t f : Int} {M : qa_Mem} (h1 : 0 ≤ t) (h2 : t < 24) (h3 : 0 ≤ f) (h4 : f < 120) (hw : qk_wf (M 14) (M 15) (M 16) (M 17) (M 2 4)) (h5 : qf_ca (M 14) (M 2 4) (1000 * t + f) 80 0 < M 2 4) : qa_E 50 0 [(0, qr 1), (1, qi (t)), (2, qi (f))] [] (M) (.inl (some (qi ((let p := qf_ca (M 14) (M 2 4) (1000 * t + f) 80 0; 1000 * (if p = qf_ca (M 14) (M 2 4) (1000 * t + 0) 80 0 then 0 else if M 17 (p - 1) ≠ 0 then M 14 (p - 1) % 1000 + 1 else f) + (if p + 1 < qf_ca (M 14) (M 2 4) (1000 * (t + 1) + 0) 80 0 then M 14 (p + 1) % 1000 - 1 else 119)))))) (M) := by
  have hw' := hw
  obtain ⟨w1, w2, w3, w4, w5, w6, w7⟩ := hw'
  have a1 := qf_ca_s hw (1000 * t + 0)
  have a2 := qf_ca_s hw (1000 * t + f)
  have a3 := qf_ca_s hw (1000 * (t + 1) + 0)
  have a4 := qf_ca_m hw (c := 1000 * t + 0) (d := 1000 * t + f) (by omega)
  have k1 := K_Keys_startOf (t := t) (M := M) w1 w2 h1 (by omega)
  have k2 := K_Keys_startOf (t := t + 1) (M := M) w1 w2 (by omega) (by omega)
  have k3 := K_Keys_countAhead (c := 1000 * t + f) (M := M) w1 w2
  generalize qf_ca (M 14) (M 2 4) (1000 * t + f) 80 0 = p at *
  generalize qf_ca (M 14) (M 2 4) (1000 * t + 0) 80 0 = st at *
  generalize qf_ca (M 14) (M 2 4) (1000 * (t + 1) + 0) 80 0 = en at *
  dsimp only
  have tail : ∀ fi : Int, 0 ≤ fi → fi ≤ 120 → qa_E 50 79 [(0, qr 1), (1, qi t), (2, qi f), (3, qi st), (4, qi en), (5, qi p), (6, qi fi)] [] M (.inl (some (qi (1000 * fi + (if p + 1 < en then M 14 (p + 1) % 1000 - 1 else 119))))) M := by
    intro fi g1 g2
    refine R_iload cd_50_79 rfl ?_
    refine R_push cd_50_81 ?_
    refine R_iadd cd_50_82 (by unfold qa_InR; first | omega | (simp [qa_upd, qa_blk] <;> omega)) ?_
    refine R_iload cd_50_83 rfl ?_
    refine R_icmp_ge 104 cd_50_85 rfl (fun b85 => ?_) (fun b85 => ?_)
    · rw [if_neg (show ¬ p + 1 < en by omega)]
      refine R_push cd_50_104 ?_
      refine R_istore cd_50_106 ?_
      refine R_push cd_50_108 ?_
      refine R_iload cd_50_111 rfl ?_
      refine R_imul cd_50_113 (by unfold qa_InR; first | omega | (simp [qa_upd, qa_blk] <;> omega)) ?_
      refine R_iload cd_50_114 rfl ?_
      refine R_iadd cd_50_116 (by unfold qa_InR; first | omega | (simp [qa_upd, qa_blk] <;> omega)) ?_
      exact R_iret cd_50_117 (by first | rfl | omega) rfl
    · rw [if_pos b85]
      have c4 := w4 (p + 1) (by omega) (by omega)
      refine R_aload cd_50_88 rfl ?_
      refine R_getr cd_50_89 rfl ?_
      refine R_iload cd_50_92 rfl ?_
      refine R_push cd_50_94 ?_
      refine R_iadd cd_50_95 (by unfold qa_InR; first | omega | (simp [qa_upd, qa_blk] <;> omega)) ?_
      refine R_call2 cd_50_96 rfl rfl (K_Keys_frameAt (by omega) (by omega) (w4 (p + 1) (by omega) (by omega)).1) ?_
      refine R_push cd_50_99 ?_
      refine R_isub cd_50_100 (by unfold qa_InR; first | omega | (simp [qa_upd, qa_blk] <;> omega)) ?_
      refine R_goto cd_50_101 ?_
      refine R_istore cd_50_106 ?_
      refine R_push cd_50_108 ?_
      refine R_iload cd_50_111 rfl ?_
      refine R_imul cd_50_113 (by unfold qa_InR; first | omega | (simp [qa_upd, qa_blk] <;> omega)) ?_
      refine R_iload cd_50_114 rfl ?_
      refine R_iadd cd_50_116 (by unfold qa_InR; first | omega | (simp [qa_upd, qa_blk] <;> omega)) ?_
      exact R_iret cd_50_117 (by first | rfl | omega) rfl
  refine R_aload cd_50_0 rfl ?_
  refine R_getr cd_50_1 rfl ?_
  refine R_iload cd_50_4 rfl ?_
  refine R_call2 cd_50_5 rfl rfl k1 ?_
  refine R_istore cd_50_8 ?_
  refine R_aload cd_50_9 rfl ?_
  refine R_getr cd_50_10 rfl ?_
  refine R_iload cd_50_13 rfl ?_
  refine R_push cd_50_14 ?_
  refine R_iadd cd_50_15 (by unfold qa_InR; first | omega | (simp [qa_upd, qa_blk] <;> omega)) ?_
  refine R_call2 cd_50_16 rfl rfl k2 ?_
  refine R_istore cd_50_19 ?_
  refine R_aload cd_50_21 rfl ?_
  refine R_getr cd_50_22 rfl ?_
  refine R_iload cd_50_25 rfl ?_
  refine R_iload cd_50_26 rfl ?_
  refine R_call2 cd_50_27 rfl rfl (K_Keys_codeOf (by omega) (by omega) (by omega) (by omega)) ?_
  refine R_call2 cd_50_30 rfl rfl k3 ?_
  refine R_istore cd_50_33 ?_
  refine R_iload cd_50_35 rfl ?_
  refine R_istore cd_50_36 ?_
  refine R_iload cd_50_38 rfl ?_
  refine R_iload cd_50_40 rfl ?_
  refine R_icmp_ne 50 cd_50_41 rfl (fun b41 => ?_) (fun b41 => ?_)
  · rw [if_neg b41]
    have c4 := w4 (p - 1) (by omega) (by omega)
    refine R_aload cd_50_50 rfl ?_
    refine R_getr cd_50_51 rfl ?_
    refine R_iload cd_50_54 rfl ?_
    refine R_push cd_50_56 ?_
    refine R_isub cd_50_57 (by unfold qa_InR; first | omega | (simp [qa_upd, qa_blk] <;> omega)) ?_
    refine R_call2 cd_50_58 rfl rfl (K_Keys_isSoft (by omega) (by omega) (w7 (p - 1) (by omega) (by omega))) ?_
    refine R_ifeq_b 79 cd_50_61 rfl (fun b61 => ?_) (fun b61 => ?_)
    · first
        | exact R_norm (qs_c rfl (qs_c rfl (qs_c rfl (qs_c rfl (qs_c rfl (qs_c rfl (qs_c rfl qs_n))))))) (tail 0 (by omega) (by omega))
        | exact R_norm (qs_c rfl (qs_c rfl (qs_c rfl (qs_c rfl (qs_c rfl (qs_c rfl (qs_c rfl qs_n))))))) (tail (M 14 (p - 1) % 1000 + 1) (by omega) (by omega))
        | rw [if_neg b61]
          exact R_norm (qs_c rfl (qs_c rfl (qs_c rfl (qs_c rfl (qs_c rfl (qs_c rfl (qs_c rfl qs_n))))))) (tail f (by omega) (by omega))
    · rw [if_pos b61]
      refine R_aload cd_50_64 rfl ?_
      refine R_getr cd_50_65 rfl ?_
      refine R_iload cd_50_68 rfl ?_
      refine R_push cd_50_70 ?_
      refine R_isub cd_50_71 (by unfold qa_InR; first | omega | (simp [qa_upd, qa_blk] <;> omega)) ?_
      refine R_call2 cd_50_72 rfl rfl (K_Keys_frameAt (by omega) (by omega) c4.1) ?_
      refine R_push cd_50_75 ?_
      refine R_iadd cd_50_76 (by unfold qa_InR; first | omega | (simp [qa_upd, qa_blk] <;> omega)) ?_
      refine R_istore cd_50_77 ?_
      first
        | exact R_norm (qs_c rfl (qs_c rfl (qs_c rfl (qs_c rfl (qs_c rfl (qs_c rfl (qs_c rfl qs_n))))))) (tail 0 (by omega) (by omega))
        | exact R_norm (qs_c rfl (qs_c rfl (qs_c rfl (qs_c rfl (qs_c rfl (qs_c rfl (qs_c rfl qs_n))))))) (tail (M 14 (p - 1) % 1000 + 1) (by omega) (by omega))
        | rw [if_neg b61]
          exact R_norm (qs_c rfl (qs_c rfl (qs_c rfl (qs_c rfl (qs_c rfl (qs_c rfl (qs_c rfl qs_n))))))) (tail f (by omega) (by omega))
  · rw [if_pos b41]
    refine R_push cd_50_44 ?_
    refine R_istore cd_50_45 ?_
    refine R_goto cd_50_47 ?_
    first
      | exact R_norm (qs_c rfl (qs_c rfl (qs_c rfl (qs_c rfl (qs_c rfl (qs_c rfl (qs_c rfl qs_n))))))) (tail 0 (by omega) (by omega))
      | exact R_norm (qs_c rfl (qs_c rfl (qs_c rfl (qs_c rfl (qs_c rfl (qs_c rfl (qs_c rfl qs_n))))))) (tail (M 14 (p - 1) % 1000 + 1) (by omega) (by omega))
      | rw [if_neg b61]
        exact R_norm (qs_c rfl (qs_c rfl (qs_c rfl (qs_c rfl (qs_c rfl (qs_c rfl (qs_c rfl qs_n))))))) (tail f (by omega) (by omega))
theorem K_Rig_placeOf {b f : Int} {M : qa_Mem} (h1 : 0 ≤ b) (h2 : b < 8) (h3 : 0 ≤ f) (h4 : f < 120) (h5 : ∀ u, 0 ≤ u → u < 8 → -1 ≤ M 9 u ∧ M 9 u < 8) (h6 : ∀ u, 0 ≤ u → u < 8 → (-100 ≤ M 10 u ∧ M 10 u ≤ 100) ∧ (-100 ≤ M 11 u ∧ M 11 u ≤ 100)) (h7 : ∀ u, 0 ≤ u → u < 8 → (-200 ≤ M 12 ((3 * u + 0) * 120 + f) ∧ M 12 ((3 * u + 0) * 120 + f) ≤ 200) ∧ (-200 ≤ M 12 ((3 * u + 1) * 120 + f) ∧ M 12 ((3 * u + 1) * 120 + f) ≤ 200) ∧ (0 ≤ M 12 ((3 * u + 2) * 120 + f) ∧ M 12 ((3 * u + 2) * 120 + f) ≤ 3)) : qa_E 51 0 [(0, qr 1), (1, qi (b)), (2, qi (f))] [] (M) (.inl (some (qi ((let r := qg_c (M 9) (fun u => M 12 ((3 * u + 2) * 120 + f)) (fun u => M 10 u + M 12 ((3 * u + 0) * 120 + f)) (fun u => M 11 u + M 12 ((3 * u + 1) * 120 + f)) 8 (M 9 b) (M 10 b + M 12 ((3 * b + 0) * 120 + f)) (M 11 b + M 12 ((3 * b + 1) * 120 + f)); 10000 * (r.1 + 5000) + r.2 + 5000))))) (M) := by
  have lp : ∀ (k : Nat) (a u x y : Int) (L : qa_L) (r : Int × Int), a + k = 8 → 0 ≤ a → -1 ≤ u → u < 8 → -(300 * (a + 1)) ≤ x → x ≤ 300 * (a + 1) → -(300 * (a + 1)) ≤ y → y ≤ 300 * (a + 1) → r = qg_c (M 9) (fun u => M 12 ((3 * u + 2) * 120 + f)) (fun u => M 10 u + M 12 ((3 * u + 0) * 120 + f)) (fun u => M 11 u + M 12 ((3 * u + 1) * 120 + f)) k u x y → qa_E 51 26 ([(0, qr 1), (1, qi b), (2, qi f), (3, qi x), (4, qi y), (5, qi u), (6, qi a)]) [] M (.inl (some (qi (10000 * (r.1 + 5000) + r.2 + 5000)))) M := by
    intro k
    induction k with
    | zero =>
      intro a u x y L r g1 g2 g3 g4 g5 g6 g7 g8 hr
      unfold qg_c at hr
      subst hr
      refine R_iload cd_51_26 rfl ?_
      refine R_push cd_51_28 ?_
      refine R_icmp_ge 115 cd_51_30 rfl (fun b30 => ?_) (fun b30 => ?_)
      · refine R_push cd_51_115 ?_
        refine R_iload cd_51_118 rfl ?_
        refine R_push cd_51_119 ?_
        refine R_iadd cd_51_122 (by unfold qa_InR; first | omega | (simp [qa_upd, qa_blk] <;> omega)) ?_
        refine R_imul cd_51_123 (by unfold qa_InR; first | omega | (simp [qa_upd, qa_blk] <;> omega)) ?_
        refine R_iload cd_51_124 rfl ?_
        refine R_iadd cd_51_126 (by unfold qa_InR; first | omega | (simp [qa_upd, qa_blk] <;> omega)) ?_
        refine R_push cd_51_127 ?_
        refine R_iadd cd_51_130 (by unfold qa_InR; first | omega | (simp [qa_upd, qa_blk] <;> omega)) ?_
        exact R_iret cd_51_131 (by first | rfl | omega) rfl
      · omega
    | succ k ih =>
      intro a u x y L r g1 g2 g3 g4 g5 g6 g7 g8 hr
      unfold qg_c at hr
      refine R_iload cd_51_26 rfl ?_
      refine R_push cd_51_28 ?_
      refine R_icmp_ge 115 cd_51_30 rfl (fun b30 => ?_) (fun b30 => ?_)
      · first
          | omega
          | rw [if_pos b35] at hr
            subst hr
            refine R_push cd_51_115 ?_
            refine R_iload cd_51_118 rfl ?_
            refine R_push cd_51_119 ?_
            refine R_iadd cd_51_122 (by unfold qa_InR; first | omega | (simp [qa_upd, qa_blk] <;> omega)) ?_
            refine R_imul cd_51_123 (by unfold qa_InR; first | omega | (simp [qa_upd, qa_blk] <;> omega)) ?_
            refine R_iload cd_51_124 rfl ?_
            refine R_iadd cd_51_126 (by unfold qa_InR; first | omega | (simp [qa_upd, qa_blk] <;> omega)) ?_
            refine R_push cd_51_127 ?_
            refine R_iadd cd_51_130 (by unfold qa_InR; first | omega | (simp [qa_upd, qa_blk] <;> omega)) ?_
            exact R_iret cd_51_131 (by first | rfl | omega) rfl
      · refine R_iload cd_51_33 rfl ?_
        refine R_if_lt 115 cd_51_35 rfl (fun b35 => ?_) (fun b35 => ?_)
        · first
            | omega
            | rw [if_pos b35] at hr
              subst hr
              refine R_push cd_51_115 ?_
              refine R_iload cd_51_118 rfl ?_
              refine R_push cd_51_119 ?_
              refine R_iadd cd_51_122 (by unfold qa_InR; first | omega | (simp [qa_upd, qa_blk] <;> omega)) ?_
              refine R_imul cd_51_123 (by unfold qa_InR; first | omega | (simp [qa_upd, qa_blk] <;> omega)) ?_
              refine R_iload cd_51_124 rfl ?_
              refine R_iadd cd_51_126 (by unfold qa_InR; first | omega | (simp [qa_upd, qa_blk] <;> omega)) ?_
              refine R_push cd_51_127 ?_
              refine R_iadd cd_51_130 (by unfold qa_InR; first | omega | (simp [qa_upd, qa_blk] <;> omega)) ?_
              exact R_iret cd_51_131 (by first | rfl | omega) rfl
        · rw [if_neg (by omega)] at hr
          obtain ⟨p1, p2⟩ := h5 u (by omega) g4
          obtain ⟨o1, o2⟩ := h6 u (by omega) g4
          obtain ⟨q1, q2, q3⟩ := h7 u (by omega) g4
          obtain ⟨tn, htn⟩ : ∃ z, z = M 12 ((3 * u + 2) * 120 + f) := ⟨_, rfl⟩
          rw [← htn] at hr q3
          have e9 := K_Rig_poseAt (t := 3 * u + 2) (f := f) (M := M) (by omega) (by omega) h3 h4
          rw [← htn] at e9
          have inner : ∀ (n : Nat) (c x1 y1 : Int) (w : qa_V), c + n = tn → 0 ≤ c → -(300 * (a + 1)) ≤ x1 → x1 ≤ 300 * (a + 1) → -(300 * (a + 1)) ≤ y1 → y1 ≤ 300 * (a + 1) → r = qg_c (M 9) (fun u => M 12 ((3 * u + 2) * 120 + f)) (fun u => M 10 u + M 12 ((3 * u + 0) * 120 + f)) (fun u => M 11 u + M 12 ((3 * u + 1) * 120 + f)) k (M 9 u) ((qg_rot n (x1, y1)).1 + (M 10 u + M 12 ((3 * u + 0) * 120 + f))) ((qg_rot n (x1, y1)).2 + (M 11 u + M 12 ((3 * u + 1) * 120 + f))) → qa_E 51 54 ([(0, qr 1), (1, qi b), (2, qi f), (3, qi x1), (4, qi y1), (5, qi u), (6, qi a), (7, qi tn), (8, qi c)]) [] M (.inl (some (qi (10000 * (r.1 + 5000) + r.2 + 5000)))) M := by
            intro n
            induction n with
            | zero =>
              intro c x1 y1 w k1 k2 k3 k4 k5 k6 k7
              unfold qg_rot at k7
              have e := ih (a + 1) (M 9 u) (x1 + (M 10 u + M 12 ((3 * u + 0) * 120 + f))) (y1 + (M 11 u + M 12 ((3 * u + 1) * 120 + f))) [] r (by omega) (by omega) p1 p2 (by omega) (by omega) (by omega) (by omega) k7
              refine R_iload cd_51_54 rfl ?_
              refine R_iload cd_51_56 rfl ?_
              refine R_icmp_ge 78 cd_51_58 rfl (fun b58 => ?_) (fun b58 => ?_)
              · refine R_iload cd_51_78 rfl ?_
                refine R_aload cd_51_79 rfl ?_
                refine R_iload cd_51_80 rfl ?_
                refine R_iload cd_51_82 rfl ?_
                refine R_call3 cd_51_83 rfl rfl (K_Rig_localX (by omega) (by omega) h3 h4 o1 q1) ?_
                refine R_iadd cd_51_86 (by unfold qa_InR; first | omega | (simp [qa_upd, qa_blk] <;> omega)) ?_
                refine R_istore cd_51_87 ?_
                refine R_iload cd_51_88 rfl ?_
                refine R_aload cd_51_90 rfl ?_
                refine R_iload cd_51_91 rfl ?_
                refine R_iload cd_51_93 rfl ?_
                refine R_call3 cd_51_94 rfl rfl (K_Rig_localY (by omega) (by omega) h3 h4 o2 q2) ?_
                refine R_iadd cd_51_97 (by unfold qa_InR; first | omega | (simp [qa_upd, qa_blk] <;> omega)) ?_
                refine R_istore cd_51_98 ?_
                refine R_aload cd_51_100 rfl ?_
                refine R_getr cd_51_101 rfl ?_
                refine R_iload cd_51_104 rfl ?_
                refine R_iald cd_51_106 rfl (by omega) (by omega) ?_
                refine R_istore cd_51_107 ?_
                refine R_iinc cd_51_109 rfl (by unfold qa_InR; first | omega | (simp [qa_upd, qa_blk] <;> omega)) ?_
                refine R_goto cd_51_112 ?_
                exact R_norm (qs_c rfl (qs_c rfl (qs_c rfl (qs_c rfl (qs_c rfl (qs_c rfl (qs_c rfl qs_n))))))) e
              · omega
            | succ n ih2 =>
              intro c x1 y1 w k1 k2 k3 k4 k5 k6 k7
              unfold qg_rot at k7
              have e := ih2 (c + 1) (-y1) x1 w (by omega) (by omega) (by omega) (by omega) k3 k4 k7
              refine R_iload cd_51_54 rfl ?_
              refine R_iload cd_51_56 rfl ?_
              refine R_icmp_ge 78 cd_51_58 rfl (fun b58 => ?_) (fun b58 => ?_)
              · omega
              · refine R_iload cd_51_61 rfl ?_
                refine R_ineg cd_51_63 (by unfold qa_InR; first | omega | (simp [qa_upd, qa_blk] <;> omega)) ?_
                refine R_istore cd_51_64 ?_
                refine R_iload cd_51_66 rfl ?_
                refine R_istore cd_51_67 ?_
                refine R_iload cd_51_69 rfl ?_
                refine R_istore cd_51_71 ?_
                refine R_iinc cd_51_72 rfl (by unfold qa_InR; first | omega | (simp [qa_upd, qa_blk] <;> omega)) ?_
                refine R_goto cd_51_75 ?_
                exact R_norm (qs_c rfl (qs_c rfl (qs_c rfl (qs_c rfl (qs_c rfl (qs_c rfl (qs_c rfl (qs_c rfl (qs_c rfl qs_n))))))))) e
          have e := inner tn.toNat 0 x y (qi 0) (by omega) (by omega) g5 g6 g7 g8 hr
          refine R_aload cd_51_38 rfl ?_
          refine R_iload cd_51_39 rfl ?_
          refine R_push cd_51_41 ?_
          refine R_call2 cd_51_42 rfl rfl (K_Court_trackOf (by omega) (by omega) (by omega) (by omega)) ?_
          refine R_iload cd_51_45 rfl ?_
          refine R_call3 cd_51_46 rfl rfl e9 ?_
          refine R_istore cd_51_49 ?_
          refine R_push cd_51_51 ?_
          refine R_istore cd_51_52 ?_
          exact R_norm (qs_c rfl (qs_c rfl (qs_c rfl (qs_c rfl (qs_c rfl (qs_c rfl (qs_c rfl (qs_c rfl (qs_c rfl qs_n))))))))) e
  have hb := h5 b h1 h2
  have ho := h6 b h1 h2
  have hp := h7 b h1 h2
  dsimp only
  have e := lp 8 0 (M 9 b) (M 10 b + M 12 ((3 * b + 0) * 120 + f)) (M 11 b + M 12 ((3 * b + 1) * 120 + f)) [] _ (by omega) (by omega) (by omega) (by omega) (by omega) (by omega) (by omega) (by omega) rfl
  refine R_aload cd_51_0 rfl ?_
  refine R_iload cd_51_1 rfl ?_
  refine R_iload cd_51_2 rfl ?_
  refine R_call3 cd_51_3 rfl rfl (K_Rig_localX h1 h2 h3 h4 ho.1 hp.1) ?_
  refine R_istore cd_51_6 ?_
  refine R_aload cd_51_7 rfl ?_
  refine R_iload cd_51_8 rfl ?_
  refine R_iload cd_51_9 rfl ?_
  refine R_call3 cd_51_10 rfl rfl (K_Rig_localY h1 h2 h3 h4 ho.2 hp.2.1) ?_
  refine R_istore cd_51_13 ?_
  refine R_aload cd_51_15 rfl ?_
  refine R_getr cd_51_16 rfl ?_
  refine R_iload cd_51_19 rfl ?_
  refine R_iald cd_51_20 rfl (by omega) (by omega) ?_
  refine R_istore cd_51_21 ?_
  refine R_push cd_51_23 ?_
  refine R_istore cd_51_24 ?_
  exact R_norm (qs_c rfl (qs_c rfl (qs_c rfl (qs_c rfl (qs_c rfl (qs_c rfl (qs_c rfl qs_n))))))) e
