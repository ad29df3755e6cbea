/-! the reference: cuts, machines, offers, royalties -/
def qm_cut (M : qa_Mem) (p a b : Int) : qa_Mem := qa_upd (qa_blk (qa_blk (qa_upd M 6 26 0) 36 (qf_ins (M 36) p (M 6 9) a)) 37 (qf_ins (M 37) p (M 6 9) b)) 6 9 (M 6 9 + 1)
theorem qm_cut_sh {M : qa_Mem} {p a b : Int} (h : qm_sh M) (h1 : 0 ≤ p ∧ p ≤ M 6 9) (h2 : M 6 9 < 10) (h3 : 0 ≤ a ∧ a ≤ b ∧ b < 120) : qm_sh (qm_cut M p a b) := by
  obtain ⟨g1, g2⟩ := h
  have e1 : (qm_cut M p a b) 6 9 = M 6 9 + 1 := qa_upd_e
  have e2 : (qm_cut M p a b) 36 = qf_ins (M 36) p (M 6 9) a := by unfold qm_cut; rw [qa_upd_n (by decide), qa_blk_n (by decide), qa_blk_e]
  have e3 : (qm_cut M p a b) 37 = qf_ins (M 37) p (M 6 9) b := by unfold qm_cut; rw [qa_upd_n (by decide), qa_blk_e]
  refine ⟨by rw [e1]; omega, fun k k0 k1 => ?_⟩
  rw [e1] at k1
  rw [e2, e3]
  unfold qf_ins
  by_cases c1 : k = p
  · rw [if_pos c1, if_pos c1]; exact h3
  · rw [if_neg c1, if_neg c1]
    by_cases c2 : p < k ∧ k ≤ M 6 9
    · rw [if_pos c2, if_pos c2]; exact g2 (k - 1) (by omega) (by omega)
    · rw [if_neg c2, if_neg c2]; exact g2 k k0 (by omega)
theorem K_Model_cutX1 {p a b : Int} {M : qa_Mem} (h3 : ¬ ((0 ≤ p ∧ p ≤ M 6 9) ∧ (0 ≤ a ∧ a ≤ 119) ∧ 0 ≤ b ∧ b ≤ 119)) : qa_E 89 0 [(0, qr 6), (1, qi (p)), (2, qi (a)), (3, qi (b))] [] (M) (.inl (some (qi (0)))) (qa_upd M 6 26 1) := by
  refine R_iload cd_89_0 rfl ?_
  refine R_push cd_89_1 ?_
  refine R_aload cd_89_2 rfl ?_
  refine R_getf cd_89_3 rfl (by decide) ?_
  refine R_call3 cd_89_6 rfl rfl K_Model_isIn ?_
  refine R_ifeq_b 30 cd_89_9 rfl (fun b9 => ?_) (fun b9 => ?_)
  · refine R_push cd_89_30 ?_
    refine R_istore cd_89_31 ?_
    refine R_aload cd_89_33 rfl ?_
    refine R_iload cd_89_34 rfl ?_
    refine R_if_ne 43 cd_89_36 rfl (fun h => absurd h (by decide)) (fun _ => ?_)
    refine R_push cd_89_39 ?_
    refine R_goto cd_89_40 ?_
    refine R_call2 cd_89_66 rfl rfl K_Model_fails ?_
    refine R_ifeq_b 74 cd_89_69 rfl (fun h => absurd h (by decide)) (fun _ => ?_)
    refine R_push cd_89_72 ?_
    exact R_iret cd_89_73 (by first | rfl | omega) rfl
  · refine R_iload cd_89_12 rfl ?_
    refine R_call1 cd_89_13 rfl rfl K_Model_isFrame ?_
    refine R_ifeq_b 30 cd_89_16 rfl (fun b16 => ?_) (fun b16 => ?_)
    · refine R_push cd_89_30 ?_
      refine R_istore cd_89_31 ?_
      refine R_aload cd_89_33 rfl ?_
      refine R_iload cd_89_34 rfl ?_
      refine R_if_ne 43 cd_89_36 rfl (fun h => absurd h (by decide)) (fun _ => ?_)
      refine R_push cd_89_39 ?_
      refine R_goto cd_89_40 ?_
      refine R_call2 cd_89_66 rfl rfl K_Model_fails ?_
      refine R_ifeq_b 74 cd_89_69 rfl (fun h => absurd h (by decide)) (fun _ => ?_)
      refine R_push cd_89_72 ?_
      exact R_iret cd_89_73 (by first | rfl | omega) rfl
    · refine R_iload cd_89_19 rfl ?_
      refine R_call1 cd_89_20 rfl rfl K_Model_isFrame ?_
      refine R_ifeq_b 30 cd_89_23 rfl (fun b23 => ?_) (fun b23 => ?_)
      · refine R_push cd_89_30 ?_
        refine R_istore cd_89_31 ?_
        refine R_aload cd_89_33 rfl ?_
        refine R_iload cd_89_34 rfl ?_
        refine R_if_ne 43 cd_89_36 rfl (fun h => absurd h (by decide)) (fun _ => ?_)
        refine R_push cd_89_39 ?_
        refine R_goto cd_89_40 ?_
        refine R_call2 cd_89_66 rfl rfl K_Model_fails ?_
        refine R_ifeq_b 74 cd_89_69 rfl (fun h => absurd h (by decide)) (fun _ => ?_)
        refine R_push cd_89_72 ?_
        exact R_iret cd_89_73 (by first | rfl | omega) rfl
      · refine R_push cd_89_26 ?_
        refine R_goto cd_89_27 ?_
        refine R_istore cd_89_31 ?_
        refine R_aload cd_89_33 rfl ?_
        refine R_iload cd_89_34 rfl ?_
        refine R_if_ne 43 cd_89_36 rfl (fun _ => ?_) (fun h => absurd h (by decide))
        refine R_iload cd_89_43 rfl ?_
        refine R_iload cd_89_44 rfl ?_
        refine R_icmp_ge 52 cd_89_45 rfl (fun b45 => ?_) (fun b45 => ?_)
        · refine R_aload cd_89_52 rfl ?_
          refine R_getf cd_89_53 rfl (by decide) ?_
          refine R_push cd_89_56 ?_
          refine R_icmp_ne 65 cd_89_58 rfl (fun b58 => ?_) (fun b58 => ?_)
          · refine R_push cd_89_65 ?_
            exfalso
            omega
          · refine R_push cd_89_61 ?_
            refine R_goto cd_89_62 ?_
            exfalso
            omega
        · refine R_push cd_89_48 ?_
          refine R_goto cd_89_49 ?_
          exfalso
          omega
theorem K_Model_cutX2 {p a b : Int} {M : qa_Mem} (h3 : (0 ≤ p ∧ p ≤ M 6 9) ∧ (0 ≤ a ∧ a ≤ 119) ∧ 0 ≤ b ∧ b ≤ 119) (h4 : b < a) : qa_E 89 0 [(0, qr 6), (1, qi (p)), (2, qi (a)), (3, qi (b))] [] (M) (.inl (some (qi (0)))) (qa_upd M 6 26 2) := by
  refine R_iload cd_89_0 rfl ?_
  refine R_push cd_89_1 ?_
  refine R_aload cd_89_2 rfl ?_
  refine R_getf cd_89_3 rfl (by decide) ?_
  refine R_call3 cd_89_6 rfl rfl K_Model_isIn ?_
  refine R_ifeq_b 30 cd_89_9 rfl (fun b9 => ?_) (fun b9 => ?_)
  · refine R_push cd_89_30 ?_
    refine R_istore cd_89_31 ?_
    refine R_aload cd_89_33 rfl ?_
    refine R_iload cd_89_34 rfl ?_
    refine R_if_ne 43 cd_89_36 rfl (fun h => absurd h (by decide)) (fun _ => ?_)
    refine R_push cd_89_39 ?_
    refine R_goto cd_89_40 ?_
    exfalso
    omega
  · refine R_iload cd_89_12 rfl ?_
    refine R_call1 cd_89_13 rfl rfl K_Model_isFrame ?_
    refine R_ifeq_b 30 cd_89_16 rfl (fun b16 => ?_) (fun b16 => ?_)
    · refine R_push cd_89_30 ?_
      refine R_istore cd_89_31 ?_
      refine R_aload cd_89_33 rfl ?_
      refine R_iload cd_89_34 rfl ?_
      refine R_if_ne 43 cd_89_36 rfl (fun h => absurd h (by decide)) (fun _ => ?_)
      refine R_push cd_89_39 ?_
      refine R_goto cd_89_40 ?_
      exfalso
      omega
    · refine R_iload cd_89_19 rfl ?_
      refine R_call1 cd_89_20 rfl rfl K_Model_isFrame ?_
      refine R_ifeq_b 30 cd_89_23 rfl (fun b23 => ?_) (fun b23 => ?_)
      · refine R_push cd_89_30 ?_
        refine R_istore cd_89_31 ?_
        refine R_aload cd_89_33 rfl ?_
        refine R_iload cd_89_34 rfl ?_
        refine R_if_ne 43 cd_89_36 rfl (fun h => absurd h (by decide)) (fun _ => ?_)
        refine R_push cd_89_39 ?_
        refine R_goto cd_89_40 ?_
        exfalso
        omega
      · refine R_push cd_89_26 ?_
        refine R_goto cd_89_27 ?_
        refine R_istore cd_89_31 ?_
        refine R_aload cd_89_33 rfl ?_
        refine R_iload cd_89_34 rfl ?_
        refine R_if_ne 43 cd_89_36 rfl (fun _ => ?_) (fun h => absurd h (by decide))
        refine R_iload cd_89_43 rfl ?_
        refine R_iload cd_89_44 rfl ?_
        refine R_icmp_ge 52 cd_89_45 rfl (fun b45 => ?_) (fun b45 => ?_)
        · refine R_aload cd_89_52 rfl ?_
          refine R_getf cd_89_53 rfl (by decide) ?_
          refine R_push cd_89_56 ?_
          refine R_icmp_ne 65 cd_89_58 rfl (fun b58 => ?_) (fun b58 => ?_)
          · refine R_push cd_89_65 ?_
            exfalso
            omega
          · refine R_push cd_89_61 ?_
            refine R_goto cd_89_62 ?_
            exfalso
            omega
        · refine R_push cd_89_48 ?_
          refine R_goto cd_89_49 ?_
          refine R_call2 cd_89_66 rfl rfl K_Model_fails ?_
          refine R_ifeq_b 74 cd_89_69 rfl (fun h => absurd h (by decide)) (fun _ => ?_)
          refine R_push cd_89_72 ?_
          exact R_iret cd_89_73 (by first | rfl | omega) rfl
theorem K_Model_cutX3 {p a b : Int} {M : qa_Mem} (h3 : (0 ≤ p ∧ p ≤ M 6 9) ∧ (0 ≤ a ∧ a ≤ 119) ∧ 0 ≤ b ∧ b ≤ 119) (h4 : a ≤ b) (h5 : M 6 9 = 10) : qa_E 89 0 [(0, qr 6), (1, qi (p)), (2, qi (a)), (3, qi (b))] [] (M) (.inl (some (qi (0)))) (qa_upd M 6 26 3) := by
  refine R_iload cd_89_0 rfl ?_
  refine R_push cd_89_1 ?_
  refine R_aload cd_89_2 rfl ?_
  refine R_getf cd_89_3 rfl (by decide) ?_
  refine R_call3 cd_89_6 rfl rfl K_Model_isIn ?_
  refine R_ifeq_b 30 cd_89_9 rfl (fun b9 => ?_) (fun b9 => ?_)
  · refine R_push cd_89_30 ?_
    refine R_istore cd_89_31 ?_
    refine R_aload cd_89_33 rfl ?_
    refine R_iload cd_89_34 rfl ?_
    refine R_if_ne 43 cd_89_36 rfl (fun h => absurd h (by decide)) (fun _ => ?_)
    refine R_push cd_89_39 ?_
    refine R_goto cd_89_40 ?_
    exfalso
    omega
  · refine R_iload cd_89_12 rfl ?_
    refine R_call1 cd_89_13 rfl rfl K_Model_isFrame ?_
    refine R_ifeq_b 30 cd_89_16 rfl (fun b16 => ?_) (fun b16 => ?_)
    · refine R_push cd_89_30 ?_
      refine R_istore cd_89_31 ?_
      refine R_aload cd_89_33 rfl ?_
      refine R_iload cd_89_34 rfl ?_
      refine R_if_ne 43 cd_89_36 rfl (fun h => absurd h (by decide)) (fun _ => ?_)
      refine R_push cd_89_39 ?_
      refine R_goto cd_89_40 ?_
      exfalso
      omega
    · refine R_iload cd_89_19 rfl ?_
      refine R_call1 cd_89_20 rfl rfl K_Model_isFrame ?_
      refine R_ifeq_b 30 cd_89_23 rfl (fun b23 => ?_) (fun b23 => ?_)
      · refine R_push cd_89_30 ?_
        refine R_istore cd_89_31 ?_
        refine R_aload cd_89_33 rfl ?_
        refine R_iload cd_89_34 rfl ?_
        refine R_if_ne 43 cd_89_36 rfl (fun h => absurd h (by decide)) (fun _ => ?_)
        refine R_push cd_89_39 ?_
        refine R_goto cd_89_40 ?_
        exfalso
        omega
      · refine R_push cd_89_26 ?_
        refine R_goto cd_89_27 ?_
        refine R_istore cd_89_31 ?_
        refine R_aload cd_89_33 rfl ?_
        refine R_iload cd_89_34 rfl ?_
        refine R_if_ne 43 cd_89_36 rfl (fun _ => ?_) (fun h => absurd h (by decide))
        refine R_iload cd_89_43 rfl ?_
        refine R_iload cd_89_44 rfl ?_
        refine R_icmp_ge 52 cd_89_45 rfl (fun b45 => ?_) (fun b45 => ?_)
        · refine R_aload cd_89_52 rfl ?_
          refine R_getf cd_89_53 rfl (by decide) ?_
          refine R_push cd_89_56 ?_
          refine R_icmp_ne 65 cd_89_58 rfl (fun b58 => ?_) (fun b58 => ?_)
          · refine R_push cd_89_65 ?_
            exfalso
            omega
          · refine R_push cd_89_61 ?_
            refine R_goto cd_89_62 ?_
            refine R_call2 cd_89_66 rfl rfl K_Model_fails ?_
            refine R_ifeq_b 74 cd_89_69 rfl (fun h => absurd h (by decide)) (fun _ => ?_)
            refine R_push cd_89_72 ?_
            exact R_iret cd_89_73 (by first | rfl | omega) rfl
        · refine R_push cd_89_48 ?_
          refine R_goto cd_89_49 ?_
          exfalso
          omega
theorem K_Model_cut0 {p a b : Int} {M : qa_Mem} (h : qm_sh M) (h3 : (0 ≤ p ∧ p ≤ M 6 9) ∧ (0 ≤ a ∧ a ≤ 119) ∧ 0 ≤ b ∧ b ≤ 119) (h4 : a ≤ b) (h5 : M 6 9 < 10) : qa_E 89 0 [(0, qr 6), (1, qi (p)), (2, qi (a)), (3, qi (b))] [] (M) (.inl (some (qi (qm_len (qm_cut M p a b))))) (qm_cut M p a b) := by
  have hs := qm_cut_sh h h3.1 h5 ⟨h3.2.1.1, h4, by omega⟩
  have kl := K_Model_length hs
  have lp : ∀ (k : Nat) (j : Int) (N : qa_Mem), p + k = j → j ≤ M 6 9 → N = qa_blk (qa_blk (qa_upd M 6 26 0) 36 (fun q => if j < q ∧ q ≤ M 6 9 then M 36 (q - 1) else M 36 q)) 37 (fun q => if j < q ∧ q ≤ M 6 9 then M 37 (q - 1) else M 37 q) → qa_E 89 80 [(0, qr 6), (1, qi p), (2, qi a), (3, qi b), (5, qi j)] [] N (.inl (some (qi (qm_len (qm_cut M p a b))))) (qm_cut M p a b) := by
    intro k
    induction k with
    | zero =>
      intro j N g1 g2 hN
      obtain rfl : p = j := by omega
      have em : qa_upd (qa_upd (qa_upd N 36 p a) 37 p b) 6 9 (M 6 9 + 1) = qm_cut M p a b := by
        rw [hN]
        funext c9 q
        by_cases g36 : c9 = 36
        · subst g36; simp only [qm_cut, qf_ins, qa_upd, qa_blk]; simp <;> (repeat' split) <;> first | rfl | omega | (congr 1 <;> omega)
        · by_cases g37 : c9 = 37
          · subst g37; simp only [qm_cut, qf_ins, qa_upd, qa_blk]; simp <;> (repeat' split) <;> first | rfl | omega | (congr 1 <;> omega)
          · simp [qm_cut, qf_ins, qa_upd, qa_blk, g36, g37]
      have es : N 6 9 = M 6 9 := by rw [hN]; rfl
      refine R_iload cd_89_80 rfl ?_
      refine R_iload cd_89_82 rfl ?_
      refine R_icmp_le 124 cd_89_83 rfl (fun b83 => ?_) (fun b83 => ?_)
      · refine R_aload cd_89_124 rfl ?_
        refine R_getr cd_89_125 rfl ?_
        refine R_iload cd_89_128 rfl ?_
        refine R_iload cd_89_129 rfl ?_
        refine R_iast cd_89_130 rfl (by first | omega | (simp [qa_upd, qa_blk] <;> omega)) (by first | omega | (simp [qa_upd, qa_blk] <;> omega))  ?_
        refine R_aload cd_89_131 rfl ?_
        refine R_getr cd_89_132 rfl ?_
        refine R_iload cd_89_135 rfl ?_
        refine R_iload cd_89_136 rfl ?_
        refine R_iast cd_89_137 rfl (by first | omega | (simp [qa_upd, qa_blk] <;> omega)) (by first | omega | (simp [qa_upd, qa_blk] <;> omega))  ?_
        refine R_aload cd_89_138 rfl ?_
        refine R_dup cd_89_139 rfl ?_
        refine R_getf cd_89_140 rfl (by decide) ?_
        refine R_push cd_89_143 ?_
        refine R_iadd cd_89_144 (show qa_InR (N 6 9 + 1) by rw [es]; unfold qa_InR; omega) ?_
        refine R_putf cd_89_145 rfl (by decide) ?_
        rw [show (qa_upd (qa_upd N 36 p a) 37 p b) 6 9 = N 6 9 from rfl, es, em]
        refine R_aload cd_89_148 rfl ?_
        refine R_call1 cd_89_149 rfl rfl kl ?_
        exact R_iret cd_89_152 (by first | rfl | omega) rfl
      · omega
    | succ k ih =>
      intro j N g1 g2 hN
      have em : qa_upd (qa_upd N 36 j (N 36 (j - 1))) 37 j (N 37 (j - 1)) = qa_blk (qa_blk (qa_upd M 6 26 0) 36 (fun q => if j + -1 < q ∧ q ≤ M 6 9 then M 36 (q - 1) else M 36 q)) 37 (fun q => if j + -1 < q ∧ q ≤ M 6 9 then M 37 (q - 1) else M 37 q) := by
        rw [hN]
        funext c9 q
        by_cases g36 : c9 = 36
        · subst g36; simp only [qa_upd, qa_blk]; simp <;> (repeat' split) <;> first | rfl | omega | (congr 1 <;> omega)
        · by_cases g37 : c9 = 37
          · subst g37; simp only [qa_upd, qa_blk]; simp <;> (repeat' split) <;> first | rfl | omega | (congr 1 <;> omega)
          · simp [qa_upd, qa_blk, g36, g37]
      have e := ih (j + -1) _ (by omega) (by omega) em
      refine R_iload cd_89_80 rfl ?_
      refine R_iload cd_89_82 rfl ?_
      refine R_icmp_le 124 cd_89_83 rfl (fun b83 => ?_) (fun b83 => ?_)
      · omega
      · refine R_aload cd_89_86 rfl ?_
        refine R_getr cd_89_87 rfl ?_
        refine R_iload cd_89_90 rfl ?_
        refine R_aload cd_89_92 rfl ?_
        refine R_getr cd_89_93 rfl ?_
        refine R_iload cd_89_96 rfl ?_
        refine R_push cd_89_98 ?_
        refine R_isub cd_89_99 (by unfold qa_InR; first | omega | (simp [qa_upd, qa_blk] <;> omega)) ?_
        refine R_iald cd_89_100 rfl (by first | omega | (simp [qa_upd, qa_blk] <;> omega)) (by first | omega | (simp [qa_upd, qa_blk] <;> omega)) ?_
        refine R_iast cd_89_101 rfl (by first | omega | (simp [qa_upd, qa_blk] <;> omega)) (by first | omega | (simp [qa_upd, qa_blk] <;> omega))  ?_
        refine R_aload cd_89_102 rfl ?_
        refine R_getr cd_89_103 rfl ?_
        refine R_iload cd_89_106 rfl ?_
        refine R_aload cd_89_108 rfl ?_
        refine R_getr cd_89_109 rfl ?_
        refine R_iload cd_89_112 rfl ?_
        refine R_push cd_89_114 ?_
        refine R_isub cd_89_115 (by unfold qa_InR; first | omega | (simp [qa_upd, qa_blk] <;> omega)) ?_
        refine R_iald cd_89_116 rfl (by first | omega | (simp [qa_upd, qa_blk] <;> omega)) (by first | omega | (simp [qa_upd, qa_blk] <;> omega)) ?_
        refine R_iast cd_89_117 rfl (by first | omega | (simp [qa_upd, qa_blk] <;> omega)) (by first | omega | (simp [qa_upd, qa_blk] <;> omega))  ?_
        refine R_iinc cd_89_118 rfl (by unfold qa_InR; first | omega | (simp [qa_upd, qa_blk] <;> omega)) ?_
        refine R_goto cd_89_121 ?_
        exact R_norm (qs_c rfl (qs_c rfl (qs_c rfl (qs_c rfl (qs_c rfl qs_n))))) e
  have e := lp (M 6 9 - p).toNat (M 6 9) (qa_upd M 6 26 0) (by omega) (by omega) (by
    funext c9 q
    by_cases g36 : c9 = 36
    · subst g36; simp only [qa_blk]; simp [qa_upd] <;> (repeat' split) <;> first | rfl | omega | (congr 1 <;> omega)
    · by_cases g37 : c9 = 37
      · subst g37; simp only [qa_blk]; simp [qa_upd] <;> (repeat' split) <;> first | rfl | omega | (congr 1 <;> omega)
      · simp [qa_blk, g36, g37])
  refine R_iload cd_89_0 rfl ?_
  refine R_push cd_89_1 ?_
  refine R_aload cd_89_2 rfl ?_
  refine R_getf cd_89_3 rfl (by decide) ?_
  refine R_call3 cd_89_6 rfl rfl K_Model_isIn ?_
  refine R_ifeq_b 30 cd_89_9 rfl (fun b9 => ?_) (fun b9 => ?_)
  · refine R_push cd_89_30 ?_
    refine R_istore cd_89_31 ?_
    refine R_aload cd_89_33 rfl ?_
    refine R_iload cd_89_34 rfl ?_
    refine R_if_ne 43 cd_89_36 rfl (fun h => absurd h (by decide)) (fun _ => ?_)
    refine R_push cd_89_39 ?_
    refine R_goto cd_89_40 ?_
    exfalso
    omega
  · refine R_iload cd_89_12 rfl ?_
    refine R_call1 cd_89_13 rfl rfl K_Model_isFrame ?_
    refine R_ifeq_b 30 cd_89_16 rfl (fun b16 => ?_) (fun b16 => ?_)
    · refine R_push cd_89_30 ?_
      refine R_istore cd_89_31 ?_
      refine R_aload cd_89_33 rfl ?_
      refine R_iload cd_89_34 rfl ?_
      refine R_if_ne 43 cd_89_36 rfl (fun h => absurd h (by decide)) (fun _ => ?_)
      refine R_push cd_89_39 ?_
      refine R_goto cd_89_40 ?_
      exfalso
      omega
    · refine R_iload cd_89_19 rfl ?_
      refine R_call1 cd_89_20 rfl rfl K_Model_isFrame ?_
      refine R_ifeq_b 30 cd_89_23 rfl (fun b23 => ?_) (fun b23 => ?_)
      · refine R_push cd_89_30 ?_
        refine R_istore cd_89_31 ?_
        refine R_aload cd_89_33 rfl ?_
        refine R_iload cd_89_34 rfl ?_
        refine R_if_ne 43 cd_89_36 rfl (fun h => absurd h (by decide)) (fun _ => ?_)
        refine R_push cd_89_39 ?_
        refine R_goto cd_89_40 ?_
        exfalso
        omega
      · refine R_push cd_89_26 ?_
        refine R_goto cd_89_27 ?_
        refine R_istore cd_89_31 ?_
        refine R_aload cd_89_33 rfl ?_
        refine R_iload cd_89_34 rfl ?_
        refine R_if_ne 43 cd_89_36 rfl (fun _ => ?_) (fun h => absurd h (by decide))
        refine R_iload cd_89_43 rfl ?_
        refine R_iload cd_89_44 rfl ?_
        refine R_icmp_ge 52 cd_89_45 rfl (fun b45 => ?_) (fun b45 => ?_)
        · refine R_aload cd_89_52 rfl ?_
          refine R_getf cd_89_53 rfl (by decide) ?_
          refine R_push cd_89_56 ?_
          refine R_icmp_ne 65 cd_89_58 rfl (fun b58 => ?_) (fun b58 => ?_)
          · refine R_push cd_89_65 ?_
            refine R_call2 cd_89_66 rfl rfl K_Model_fails ?_
            refine R_ifeq_b 74 cd_89_69 rfl (fun _ => ?_) (fun h => absurd h (by decide))
            refine R_aload cd_89_74 rfl ?_
            refine R_getf cd_89_75 rfl (by decide) ?_
            refine R_istore cd_89_78 ?_
            exact R_norm (qs_c rfl (qs_c rfl (qs_c rfl (qs_c rfl (qs_c rfl qs_n))))) e
          · refine R_push cd_89_61 ?_
            refine R_goto cd_89_62 ?_
            exfalso
            omega
        · refine R_push cd_89_48 ?_
          refine R_goto cd_89_49 ?_
          exfalso
          omega
def qm_uncut (M : qa_Mem) (p : Int) : qa_Mem := qa_blk (qa_blk (qa_upd (qa_upd M 6 26 0) 6 9 (M 6 9 - 1)) 36 (qf_del (M 36) p (M 6 9))) 37 (qf_del (M 37) p (M 6 9))
theorem qm_uncut_sh {M : qa_Mem} {p : Int} (h : qm_sh M) (h1 : 0 ≤ p ∧ p < M 6 9) : qm_sh (qm_uncut M p) := by
  obtain ⟨g1, g2⟩ := h
  have e1 : (qm_uncut M p) 6 9 = M 6 9 - 1 := by unfold qm_uncut; rw [qa_blk_n (by decide), qa_blk_n (by decide), qa_upd_e]
  have e2 : (qm_uncut M p) 36 = qf_del (M 36) p (M 6 9) := by unfold qm_uncut; rw [qa_blk_n (by decide), qa_blk_e]
  have e3 : (qm_uncut M p) 37 = qf_del (M 37) p (M 6 9) := by unfold qm_uncut; rw [qa_blk_e]
  refine ⟨by rw [e1]; omega, fun k k0 k1 => ?_⟩
  rw [e1] at k1
  rw [e2, e3]
  unfold qf_del
  by_cases c2 : p ≤ k ∧ k < M 6 9 - 1
  · rw [if_pos c2, if_pos c2]; exact g2 (k + 1) (by omega) (by omega)
  · rw [if_neg c2, if_neg c2]; exact g2 k k0 (by omega)
theorem K_Model_uncutX1 {p : Int} {M : qa_Mem} (h1 : 0 ≤ M 6 9 ∧ M 6 9 ≤ 10) (h3 : ¬ (0 ≤ p ∧ p ≤ M 6 9 - 1)) : qa_E 90 0 [(0, qr 6), (1, qi (p))] [] (M) (.inl (some (qi (0)))) (qa_upd M 6 26 1) := by
  refine R_iload cd_90_0 rfl ?_
  refine R_push cd_90_1 ?_
  refine R_aload cd_90_2 rfl ?_
  refine R_getf cd_90_3 rfl (by decide) ?_
  refine R_push cd_90_6 ?_
  refine R_isub cd_90_7 (by unfold qa_InR; first | omega | (simp [qa_upd, qa_blk] <;> omega)) ?_
  refine R_call3 cd_90_8 rfl rfl K_Model_isIn ?_
  refine R_istore cd_90_11 ?_
  refine R_aload cd_90_12 rfl ?_
  refine R_iload cd_90_13 rfl ?_
  refine R_ifeq_b 21 cd_90_14 rfl (fun b14 => ?_) (fun b14 => ?_)
  · refine R_push cd_90_21 ?_
    refine R_call2 cd_90_22 rfl rfl K_Model_fails ?_
    refine R_ifeq_b 30 cd_90_25 rfl (fun h => absurd h (by decide)) (fun _ => ?_)
    refine R_push cd_90_28 ?_
    exact R_iret cd_90_29 (by first | rfl | omega) rfl
  · refine R_push cd_90_17 ?_
    refine R_goto cd_90_18 ?_
    exfalso
    omega
theorem K_Model_uncut0 {p : Int} {M : qa_Mem} (h : qm_sh M) (h3 : 0 ≤ p ∧ p ≤ M 6 9 - 1) : qa_E 90 0 [(0, qr 6), (1, qi (p))] [] (M) (.inl (some (qi (qm_len (qm_uncut M p))))) (qm_uncut M p) := by
  have hs := qm_uncut_sh (p := p) h (by omega)
  have kl := K_Model_length hs
  have h1 := h.1
  obtain ⟨N, hN⟩ : ∃ N, N = qa_upd (qa_upd M 6 26 0) 6 9 (M 6 9 - 1) := ⟨_, rfl⟩
  have lp : ∀ (k : Nat) (j : Int), j + k = M 6 9 - 1 → p ≤ j → qa_E 90 42 [(0, qr 6), (1, qi p), (3, qi j)] [] (qa_blk (qa_blk N 36 (fun q => if p ≤ q ∧ q < j then M 36 (q + 1) else M 36 q)) 37 (fun q => if p ≤ q ∧ q < j then M 37 (q + 1) else M 37 q)) (.inl (some (qi (qm_len (qm_uncut M p))))) (qm_uncut M p) := by
    intro k
    induction k with
    | zero =>
      intro j g1 g2
      obtain rfl : j = M 6 9 - 1 := by omega
      have gs : (qa_blk (qa_blk N 36 (fun q => if p ≤ q ∧ q < M 6 9 - 1 then M 36 (q + 1) else M 36 q)) 37 (fun q => if p ≤ q ∧ q < M 6 9 - 1 then M 37 (q + 1) else M 37 q)) 6 9 = M 6 9 - 1 := by rw [qa_blk_n (by decide), qa_blk_n (by decide), hN, qa_upd_e]
      have em : (qa_blk (qa_blk N 36 (fun q => if p ≤ q ∧ q < M 6 9 - 1 then M 36 (q + 1) else M 36 q)) 37 (fun q => if p ≤ q ∧ q < M 6 9 - 1 then M 37 (q + 1) else M 37 q)) = qm_uncut M p := by rw [hN]; rfl
      refine R_iload cd_90_42 rfl ?_
      refine R_aload cd_90_43 rfl ?_
      refine R_getf cd_90_44 rfl (by decide) ?_
      refine R_icmp_ge 84 cd_90_47 rfl (fun b47 => ?_) (fun b47 => ?_)
      · rw [em]
        refine R_aload cd_90_84 rfl ?_
        refine R_call1 cd_90_85 rfl rfl kl ?_
        exact R_iret cd_90_88 (by first | rfl | omega) rfl
      · omega
    | succ k ih =>
      intro j g1 g2
      have gs : (qa_blk (qa_blk N 36 (fun q => if p ≤ q ∧ q < j then M 36 (q + 1) else M 36 q)) 37 (fun q => if p ≤ q ∧ q < j then M 37 (q + 1) else M 37 q)) 6 9 = M 6 9 - 1 := by rw [qa_blk_n (by decide), qa_blk_n (by decide), hN, qa_upd_e]
      have e := ih (j + 1) (by omega) (by omega)
      generalize hW : (qa_blk (qa_blk N 36 (fun q => if p ≤ q ∧ q < j then M 36 (q + 1) else M 36 q)) 37 (fun q => if p ≤ q ∧ q < j then M 37 (q + 1) else M 37 q)) = W at gs ⊢
      have em : qa_upd (qa_upd W 36 j (W 36 (j + 1))) 37 j (W 37 (j + 1)) = qa_blk (qa_blk N 36 (fun q => if p ≤ q ∧ q < j + 1 then M 36 (q + 1) else M 36 q)) 37 (fun q => if p ≤ q ∧ q < j + 1 then M 37 (q + 1) else M 37 q) := by
        rw [← hW]
        funext c9 q
        by_cases g36 : c9 = 36
        · subst g36; simp only [qa_upd, qa_blk]; simp <;> (repeat' split) <;> first | rfl | omega | (congr 1 <;> omega)
        · by_cases g37 : c9 = 37
          · subst g37; simp only [qa_upd, qa_blk]; simp <;> (repeat' split) <;> first | rfl | omega | (congr 1 <;> omega)
          · simp [qa_upd, qa_blk, g36, g37]
      rw [← em] at e
      refine R_iload cd_90_42 rfl ?_
      refine R_aload cd_90_43 rfl ?_
      refine R_getf cd_90_44 rfl (by decide) ?_
      refine R_icmp_ge 84 cd_90_47 rfl (fun b47 => ?_) (fun b47 => ?_)
      · omega
      · refine R_aload cd_90_50 rfl ?_
        refine R_getr cd_90_51 rfl ?_
        refine R_iload cd_90_54 rfl ?_
        refine R_aload cd_90_55 rfl ?_
        refine R_getr cd_90_56 rfl ?_
        refine R_iload cd_90_59 rfl ?_
        refine R_push cd_90_60 ?_
        refine R_iadd cd_90_61 (by unfold qa_InR; first | omega | (simp [qa_upd, qa_blk] <;> omega)) ?_
        refine R_iald cd_90_62 rfl (by first | omega | (simp [qa_upd, qa_blk] <;> omega)) (by first | omega | (simp [qa_upd, qa_blk] <;> omega)) ?_
        refine R_iast cd_90_63 rfl (by first | omega | (simp [qa_upd, qa_blk] <;> omega)) (by first | omega | (simp [qa_upd, qa_blk] <;> omega))  ?_
        refine R_aload cd_90_64 rfl ?_
        refine R_getr cd_90_65 rfl ?_
        refine R_iload cd_90_68 rfl ?_
        refine R_aload cd_90_69 rfl ?_
        refine R_getr cd_90_70 rfl ?_
        refine R_iload cd_90_73 rfl ?_
        refine R_push cd_90_74 ?_
        refine R_iadd cd_90_75 (by unfold qa_InR; first | omega | (simp [qa_upd, qa_blk] <;> omega)) ?_
        refine R_iald cd_90_76 rfl (by first | omega | (simp [qa_upd, qa_blk] <;> omega)) (by first | omega | (simp [qa_upd, qa_blk] <;> omega)) ?_
        refine R_iast cd_90_77 rfl (by first | omega | (simp [qa_upd, qa_blk] <;> omega)) (by first | omega | (simp [qa_upd, qa_blk] <;> omega))  ?_
        refine R_iinc cd_90_78 rfl (by unfold qa_InR; first | omega | (simp [qa_upd, qa_blk] <;> omega)) ?_
        refine R_goto cd_90_81 ?_
        exact R_norm (qs_c rfl (qs_c rfl (qs_c rfl qs_n))) e
  have e := lp (M 6 9 - 1 - p).toNat p (by omega) (by omega)
  have em : (qa_blk (qa_blk N 36 (fun q => if p ≤ q ∧ q < p then M 36 (q + 1) else M 36 q)) 37 (fun q => if p ≤ q ∧ q < p then M 37 (q + 1) else M 37 q)) = qa_upd (qa_upd M 6 26 0) 6 9 (M 6 9 - 1) := by
    rw [hN]
    funext c9 q
    by_cases g36 : c9 = 36
    · subst g36; simp only [qa_upd, qa_blk]; simp <;> (repeat' split) <;> first | rfl | omega | (congr 1 <;> omega)
    · by_cases g37 : c9 = 37
      · subst g37; simp only [qa_upd, qa_blk]; simp <;> (repeat' split) <;> first | rfl | omega | (congr 1 <;> omega)
      · simp [qa_upd, qa_blk, g36, g37]
  rw [em] at e
  refine R_iload cd_90_0 rfl ?_
  refine R_push cd_90_1 ?_
  refine R_aload cd_90_2 rfl ?_
  refine R_getf cd_90_3 rfl (by decide) ?_
  refine R_push cd_90_6 ?_
  refine R_isub cd_90_7 (by unfold qa_InR; first | omega | (simp [qa_upd, qa_blk] <;> omega)) ?_
  refine R_call3 cd_90_8 rfl rfl K_Model_isIn ?_
  refine R_istore cd_90_11 ?_
  refine R_aload cd_90_12 rfl ?_
  refine R_iload cd_90_13 rfl ?_
  refine R_ifeq_b 21 cd_90_14 rfl (fun b14 => ?_) (fun b14 => ?_)
  · refine R_push cd_90_21 ?_
    exfalso
    omega
  · refine R_push cd_90_17 ?_
    refine R_goto cd_90_18 ?_
    refine R_call2 cd_90_22 rfl rfl K_Model_fails ?_
    refine R_ifeq_b 30 cd_90_25 rfl (fun _ => ?_) (fun h => absurd h (by decide))
    refine R_aload cd_90_30 rfl ?_
    refine R_dup cd_90_31 rfl ?_
    refine R_getf cd_90_32 rfl (by decide) ?_
    refine R_push cd_90_35 ?_
    refine R_isub cd_90_36 (by unfold qa_InR; first | omega | (simp [qa_upd, qa_blk] <;> omega)) ?_
    refine R_putf cd_90_37 rfl (by decide) ?_
    refine R_iload cd_90_40 rfl ?_
    refine R_istore cd_90_41 ?_
    exact R_norm (qs_c rfl (qs_c rfl (qs_c rfl qs_n))) e
theorem K_Model_machineX1 {s : Int} {M : qa_Mem} (h3 : ¬ (1 ≤ s ∧ s ≤ 5)) : qa_E 97 0 [(0, qr 6), (1, qi (s))] [] (M) (.inl (some (qi (0)))) (qa_upd M 6 26 1) := by
  refine R_aload cd_97_0 rfl ?_
  refine R_iload cd_97_1 rfl ?_
  refine R_push cd_97_2 ?_
  refine R_push cd_97_3 ?_
  refine R_call3 cd_97_4 rfl rfl K_Model_isIn ?_
  refine R_ifne_b 14 cd_97_7 rfl (fun b7 => ?_) (fun b7 => ?_)
  · exact absurd b7 h3
  · refine R_push cd_97_10 ?_
    refine R_goto cd_97_11 ?_
    refine R_call2 cd_97_27 rfl rfl K_Model_fails ?_
    refine R_ifeq_b 35 cd_97_30 rfl (fun h => absurd h (by decide)) (fun _ => ?_)
    refine R_push cd_97_33 ?_
    exact R_iret cd_97_34 (by first | rfl | omega) rfl
theorem K_Model_machineX2 {s : Int} {M : qa_Mem} (h3 : 1 ≤ s ∧ s ≤ 5) (h4 : M 6 15 = 4) : qa_E 97 0 [(0, qr 6), (1, qi (s))] [] (M) (.inl (some (qi (0)))) (qa_upd M 6 26 2) := by
  refine R_aload cd_97_0 rfl ?_
  refine R_iload cd_97_1 rfl ?_
  refine R_push cd_97_2 ?_
  refine R_push cd_97_3 ?_
  refine R_call3 cd_97_4 rfl rfl K_Model_isIn ?_
  refine R_ifne_b 14 cd_97_7 rfl (fun b7 => ?_) (fun b7 => ?_)
  · refine R_aload cd_97_14 rfl ?_
    refine R_getf cd_97_15 rfl (by decide) ?_
    refine R_push cd_97_18 ?_
    refine R_icmp_ne 26 cd_97_19 rfl (fun b19 => ?_) (fun b19 => ?_)
    · refine R_push cd_97_26 ?_
      exfalso
      omega
    · refine R_push cd_97_22 ?_
      refine R_goto cd_97_23 ?_
      refine R_call2 cd_97_27 rfl rfl K_Model_fails ?_
      refine R_ifeq_b 35 cd_97_30 rfl (fun h => absurd h (by decide)) (fun _ => ?_)
      refine R_push cd_97_33 ?_
      exact R_iret cd_97_34 (by first | rfl | omega) rfl
  · refine R_push cd_97_10 ?_
    refine R_goto cd_97_11 ?_
    exfalso
    omega
theorem K_Model_machine0 {s : Int} {M : qa_Mem} (h3 : 1 ≤ s ∧ s ≤ 5) (h4 : 0 ≤ M 6 15 ∧ M 6 15 < 4) : qa_E 97 0 [(0, qr 6), (1, qi (s))] [] (M) (.inl (some (qi (M 6 15)))) (qa_upd (qa_upd (qa_upd M 6 26 0) 41 (M 6 15) s) 6 15 (M 6 15 + 1)) := by
  refine R_aload cd_97_0 rfl ?_
  refine R_iload cd_97_1 rfl ?_
  refine R_push cd_97_2 ?_
  refine R_push cd_97_3 ?_
  refine R_call3 cd_97_4 rfl rfl K_Model_isIn ?_
  refine R_ifne_b 14 cd_97_7 rfl (fun b7 => ?_) (fun b7 => ?_)
  · refine R_aload cd_97_14 rfl ?_
    refine R_getf cd_97_15 rfl (by decide) ?_
    refine R_push cd_97_18 ?_
    refine R_icmp_ne 26 cd_97_19 rfl (fun b19 => ?_) (fun b19 => ?_)
    · refine R_push cd_97_26 ?_
      refine R_call2 cd_97_27 rfl rfl K_Model_fails ?_
      refine R_ifeq_b 35 cd_97_30 rfl (fun _ => ?_) (fun h => absurd h (by decide))
      refine R_aload cd_97_35 rfl ?_
      refine R_getr cd_97_36 rfl ?_
      refine R_aload cd_97_39 rfl ?_
      refine R_getf cd_97_40 rfl (by decide) ?_
      refine R_iload cd_97_43 rfl ?_
      refine R_iast cd_97_44 rfl (by first | omega | (simp [qa_upd, qa_blk] <;> omega)) (by first | omega | (simp [qa_upd, qa_blk] <;> omega))  ?_
      refine R_aload cd_97_45 rfl ?_
      refine R_dup cd_97_46 rfl ?_
      refine R_getf cd_97_47 rfl (by decide) ?_
      refine R_push cd_97_50 ?_
      refine R_iadd cd_97_51 (by unfold qa_InR; first | omega | (simp [qa_upd, qa_blk] <;> omega)) ?_
      refine R_putf cd_97_52 rfl (by decide) ?_
      refine R_aload cd_97_55 rfl ?_
      refine R_getf cd_97_56 rfl (by decide) ?_
      refine R_push cd_97_59 ?_
      refine R_isub cd_97_60 (by unfold qa_InR; first | omega | (simp [qa_upd, qa_blk] <;> omega)) ?_
      exact R_iret cd_97_61 (show M 6 15 + 1 - 1 = M 6 15 by omega) rfl
    · refine R_push cd_97_22 ?_
      refine R_goto cd_97_23 ?_
      exfalso
      omega
  · refine R_push cd_97_10 ?_
    refine R_goto cd_97_11 ?_
    exfalso
    omega
theorem K_Model_offerX1 {p h : Int} {M : qa_Mem} (h3 : ¬ ((1 ≤ p ∧ p ≤ 100) ∧ 1 ≤ h ∧ h ≤ 50)) : qa_E 98 0 [(0, qr 6), (1, qi (p)), (2, qi (h))] [] (M) (.inl (some (qi (0)))) (qa_upd M 6 26 1) := by
  refine R_iload cd_98_0 rfl ?_
  refine R_push cd_98_1 ?_
  refine R_push cd_98_2 ?_
  refine R_call3 cd_98_4 rfl rfl K_Model_isIn ?_
  refine R_ifeq_b 24 cd_98_7 rfl (fun b7 => ?_) (fun b7 => ?_)
  · refine R_push cd_98_24 ?_
    refine R_istore cd_98_25 ?_
    refine R_aload cd_98_26 rfl ?_
    refine R_iload cd_98_27 rfl ?_
    refine R_if_ne 35 cd_98_28 rfl (fun h => absurd h (by decide)) (fun _ => ?_)
    refine R_push cd_98_31 ?_
    refine R_goto cd_98_32 ?_
    refine R_call2 cd_98_49 rfl rfl K_Model_fails ?_
    refine R_ifeq_b 57 cd_98_52 rfl (fun h => absurd h (by decide)) (fun _ => ?_)
    refine R_push cd_98_55 ?_
    exact R_iret cd_98_56 (by first | rfl | omega) rfl
  · refine R_iload cd_98_10 rfl ?_
    refine R_push cd_98_11 ?_
    refine R_push cd_98_12 ?_
    refine R_call3 cd_98_14 rfl rfl K_Model_isIn ?_
    refine R_ifeq_b 24 cd_98_17 rfl (fun b17 => ?_) (fun b17 => ?_)
    · refine R_push cd_98_24 ?_
      refine R_istore cd_98_25 ?_
      refine R_aload cd_98_26 rfl ?_
      refine R_iload cd_98_27 rfl ?_
      refine R_if_ne 35 cd_98_28 rfl (fun h => absurd h (by decide)) (fun _ => ?_)
      refine R_push cd_98_31 ?_
      refine R_goto cd_98_32 ?_
      refine R_call2 cd_98_49 rfl rfl K_Model_fails ?_
      refine R_ifeq_b 57 cd_98_52 rfl (fun h => absurd h (by decide)) (fun _ => ?_)
      refine R_push cd_98_55 ?_
      exact R_iret cd_98_56 (by first | rfl | omega) rfl
    · refine R_push cd_98_20 ?_
      refine R_goto cd_98_21 ?_
      refine R_istore cd_98_25 ?_
      refine R_aload cd_98_26 rfl ?_
      refine R_iload cd_98_27 rfl ?_
      refine R_if_ne 35 cd_98_28 rfl (fun _ => ?_) (fun h => absurd h (by decide))
      refine R_aload cd_98_35 rfl ?_
      refine R_getf cd_98_36 rfl (by decide) ?_
      refine R_push cd_98_39 ?_
      refine R_icmp_ne 48 cd_98_41 rfl (fun b41 => ?_) (fun b41 => ?_)
      · refine R_push cd_98_48 ?_
        exfalso
        omega
      · refine R_push cd_98_44 ?_
        refine R_goto cd_98_45 ?_
        exfalso
        omega
theorem K_Model_offerX2 {p h : Int} {M : qa_Mem} (h3 : (1 ≤ p ∧ p ≤ 100) ∧ 1 ≤ h ∧ h ≤ 50) (h4 : M 6 19 = 10) : qa_E 98 0 [(0, qr 6), (1, qi (p)), (2, qi (h))] [] (M) (.inl (some (qi (0)))) (qa_upd M 6 26 2) := by
  refine R_iload cd_98_0 rfl ?_
  refine R_push cd_98_1 ?_
  refine R_push cd_98_2 ?_
  refine R_call3 cd_98_4 rfl rfl K_Model_isIn ?_
  refine R_ifeq_b 24 cd_98_7 rfl (fun b7 => ?_) (fun b7 => ?_)
  · refine R_push cd_98_24 ?_
    refine R_istore cd_98_25 ?_
    refine R_aload cd_98_26 rfl ?_
    refine R_iload cd_98_27 rfl ?_
    refine R_if_ne 35 cd_98_28 rfl (fun h => absurd h (by decide)) (fun _ => ?_)
    refine R_push cd_98_31 ?_
    refine R_goto cd_98_32 ?_
    exfalso
    omega
  · refine R_iload cd_98_10 rfl ?_
    refine R_push cd_98_11 ?_
    refine R_push cd_98_12 ?_
    refine R_call3 cd_98_14 rfl rfl K_Model_isIn ?_
    refine R_ifeq_b 24 cd_98_17 rfl (fun b17 => ?_) (fun b17 => ?_)
    · refine R_push cd_98_24 ?_
      refine R_istore cd_98_25 ?_
      refine R_aload cd_98_26 rfl ?_
      refine R_iload cd_98_27 rfl ?_
      refine R_if_ne 35 cd_98_28 rfl (fun h => absurd h (by decide)) (fun _ => ?_)
      refine R_push cd_98_31 ?_
      refine R_goto cd_98_32 ?_
      exfalso
      omega
    · refine R_push cd_98_20 ?_
      refine R_goto cd_98_21 ?_
      refine R_istore cd_98_25 ?_
      refine R_aload cd_98_26 rfl ?_
      refine R_iload cd_98_27 rfl ?_
      refine R_if_ne 35 cd_98_28 rfl (fun _ => ?_) (fun h => absurd h (by decide))
      refine R_aload cd_98_35 rfl ?_
      refine R_getf cd_98_36 rfl (by decide) ?_
      refine R_push cd_98_39 ?_
      refine R_icmp_ne 48 cd_98_41 rfl (fun b41 => ?_) (fun b41 => ?_)
      · refine R_push cd_98_48 ?_
        exfalso
        omega
      · refine R_push cd_98_44 ?_
        refine R_goto cd_98_45 ?_
        refine R_call2 cd_98_49 rfl rfl K_Model_fails ?_
        refine R_ifeq_b 57 cd_98_52 rfl (fun h => absurd h (by decide)) (fun _ => ?_)
        refine R_push cd_98_55 ?_
        exact R_iret cd_98_56 (by first | rfl | omega) rfl
theorem K_Model_offer0 {p h : Int} {M : qa_Mem} (h3 : (1 ≤ p ∧ p ≤ 100) ∧ 1 ≤ h ∧ h ≤ 50) (h4 : 0 ≤ M 6 19 ∧ M 6 19 < 10) : qa_E 98 0 [(0, qr 6), (1, qi (p)), (2, qi (h))] [] (M) (.inl (some (qi (M 6 19)))) (qa_upd (qa_upd (qa_upd (qa_upd M 6 26 0) 44 (M 6 19) p) 45 (M 6 19) h) 6 19 (M 6 19 + 1)) := by
  refine R_iload cd_98_0 rfl ?_
  refine R_push cd_98_1 ?_
  refine R_push cd_98_2 ?_
  refine R_call3 cd_98_4 rfl rfl K_Model_isIn ?_
  refine R_ifeq_b 24 cd_98_7 rfl (fun b7 => ?_) (fun b7 => ?_)
  · refine R_push cd_98_24 ?_
    refine R_istore cd_98_25 ?_
    refine R_aload cd_98_26 rfl ?_
    refine R_iload cd_98_27 rfl ?_
    refine R_if_ne 35 cd_98_28 rfl (fun h => absurd h (by decide)) (fun _ => ?_)
    refine R_push cd_98_31 ?_
    refine R_goto cd_98_32 ?_
    exfalso
    omega
  · refine R_iload cd_98_10 rfl ?_
    refine R_push cd_98_11 ?_
    refine R_push cd_98_12 ?_
    refine R_call3 cd_98_14 rfl rfl K_Model_isIn ?_
    refine R_ifeq_b 24 cd_98_17 rfl (fun b17 => ?_) (fun b17 => ?_)
    · refine R_push cd_98_24 ?_
      refine R_istore cd_98_25 ?_
      refine R_aload cd_98_26 rfl ?_
      refine R_iload cd_98_27 rfl ?_
      refine R_if_ne 35 cd_98_28 rfl (fun h => absurd h (by decide)) (fun _ => ?_)
      refine R_push cd_98_31 ?_
      refine R_goto cd_98_32 ?_
      exfalso
      omega
    · refine R_push cd_98_20 ?_
      refine R_goto cd_98_21 ?_
      refine R_istore cd_98_25 ?_
      refine R_aload cd_98_26 rfl ?_
      refine R_iload cd_98_27 rfl ?_
      refine R_if_ne 35 cd_98_28 rfl (fun _ => ?_) (fun h => absurd h (by decide))
      refine R_aload cd_98_35 rfl ?_
      refine R_getf cd_98_36 rfl (by decide) ?_
      refine R_push cd_98_39 ?_
      refine R_icmp_ne 48 cd_98_41 rfl (fun b41 => ?_) (fun b41 => ?_)
      · refine R_push cd_98_48 ?_
        refine R_call2 cd_98_49 rfl rfl K_Model_fails ?_
        refine R_ifeq_b 57 cd_98_52 rfl (fun _ => ?_) (fun h => absurd h (by decide))
        refine R_aload cd_98_57 rfl ?_
        refine R_getr cd_98_58 rfl ?_
        refine R_aload cd_98_61 rfl ?_
        refine R_getf cd_98_62 rfl (by decide) ?_
        refine R_iload cd_98_65 rfl ?_
        refine R_iast cd_98_66 rfl (by first | omega | (simp [qa_upd, qa_blk] <;> omega)) (by first | omega | (simp [qa_upd, qa_blk] <;> omega))  ?_
        refine R_aload cd_98_67 rfl ?_
        refine R_getr cd_98_68 rfl ?_
        refine R_aload cd_98_71 rfl ?_
        refine R_getf cd_98_72 rfl (by decide) ?_
        refine R_iload cd_98_75 rfl ?_
        refine R_iast cd_98_76 rfl (by first | omega | (simp [qa_upd, qa_blk] <;> omega)) (by first | omega | (simp [qa_upd, qa_blk] <;> omega))  ?_
        refine R_aload cd_98_77 rfl ?_
        refine R_dup cd_98_78 rfl ?_
        refine R_getf cd_98_79 rfl (by decide) ?_
        refine R_push cd_98_82 ?_
        refine R_iadd cd_98_83 (by unfold qa_InR; first | omega | (simp [qa_upd, qa_blk] <;> omega)) ?_
        refine R_putf cd_98_84 rfl (by decide) ?_
        refine R_aload cd_98_87 rfl ?_
        refine R_getf cd_98_88 rfl (by decide) ?_
        refine R_push cd_98_91 ?_
        refine R_isub cd_98_92 (by unfold qa_InR; first | omega | (simp [qa_upd, qa_blk] <;> omega)) ?_
        exact R_iret cd_98_93 (show M 6 19 + 1 - 1 = M 6 19 by omega) rfl
      · refine R_push cd_98_44 ?_
        refine R_goto cd_98_45 ?_
        exfalso
        omega
theorem K_Model_heatX1 {m : Int} {M : qa_Mem} (h1 : 0 ≤ M 6 15 ∧ M 6 15 ≤ 4) (h3 : ¬ (0 ≤ m ∧ m ≤ M 6 15 - 1)) : qa_E 104 0 [(0, qr 6), (1, qi (m))] [] (M) (.inl (some (qi (0)))) (qa_upd M 6 26 1) := by
  refine R_iload cd_104_0 rfl ?_
  refine R_push cd_104_1 ?_
  refine R_aload cd_104_2 rfl ?_
  refine R_getf cd_104_3 rfl (by decide) ?_
  refine R_push cd_104_6 ?_
  refine R_isub cd_104_7 (by unfold qa_InR; first | omega | (simp [qa_upd, qa_blk] <;> omega)) ?_
  refine R_call3 cd_104_8 rfl rfl K_Model_isIn ?_
  refine R_istore cd_104_11 ?_
  refine R_aload cd_104_12 rfl ?_
  refine R_iload cd_104_13 rfl ?_
  refine R_ifeq_b 21 cd_104_14 rfl (fun b14 => ?_) (fun b14 => ?_)
  · refine R_push cd_104_21 ?_
    refine R_call2 cd_104_22 rfl rfl K_Model_fails ?_
    refine R_ifeq_b 32 cd_104_25 rfl (fun h => absurd h (by decide)) (fun _ => ?_)
    refine R_push cd_104_28 ?_
    refine R_goto cd_104_29 ?_
    exact R_iret cd_104_56 (by first | rfl | omega) rfl
  · refine R_push cd_104_17 ?_
    refine R_goto cd_104_18 ?_
    exfalso
    omega
theorem K_Model_heat0 {m : Int} {M : qa_Mem} (h1 : 0 ≤ M 6 15 ∧ M 6 15 ≤ 4) (h3 : 0 ≤ m ∧ m ≤ M 6 15 - 1) (h4 : 0 ≤ M 42 m ∧ M 42 m ≤ 24) (h5 : M 43 m = 0 ∨ M 43 m = 1) : qa_E 104 0 [(0, qr 6), (1, qi (m))] [] (M) (.inl (some (qi (10 * M 42 m + M 43 m)))) (qa_upd M 6 26 0) := by
  have i1 : qa_InR (10 * (qa_upd M 6 26 0) 42 m) := show qa_InR (10 * M 42 m) by unfold qa_InR; omega
  refine R_iload cd_104_0 rfl ?_
  refine R_push cd_104_1 ?_
  refine R_aload cd_104_2 rfl ?_
  refine R_getf cd_104_3 rfl (by decide) ?_
  refine R_push cd_104_6 ?_
  refine R_isub cd_104_7 (by unfold qa_InR; first | omega | (simp [qa_upd, qa_blk] <;> omega)) ?_
  refine R_call3 cd_104_8 rfl rfl K_Model_isIn ?_
  refine R_istore cd_104_11 ?_
  refine R_aload cd_104_12 rfl ?_
  refine R_iload cd_104_13 rfl ?_
  refine R_ifeq_b 21 cd_104_14 rfl (fun b14 => ?_) (fun b14 => ?_)
  · refine R_push cd_104_21 ?_
    exfalso
    omega
  · refine R_push cd_104_17 ?_
    refine R_goto cd_104_18 ?_
    refine R_call2 cd_104_22 rfl rfl K_Model_fails ?_
    refine R_ifeq_b 32 cd_104_25 rfl (fun _ => ?_) (fun h => absurd h (by decide))
    refine R_push cd_104_32 ?_
    refine R_aload cd_104_34 rfl ?_
    refine R_getr cd_104_35 rfl ?_
    refine R_iload cd_104_38 rfl ?_
    refine R_iald cd_104_39 rfl (by first | omega | (simp [qa_upd, qa_blk] <;> omega)) (by first | omega | (simp [qa_upd, qa_blk] <;> omega)) ?_
    refine R_imul cd_104_40 i1 ?_
    refine R_aload cd_104_41 rfl ?_
    refine R_getr cd_104_42 rfl ?_
    refine R_iload cd_104_45 rfl ?_
    refine R_zald cd_104_46 rfl (by first | omega | (simp [qa_upd, qa_blk] <;> omega)) (by first | omega | (simp [qa_upd, qa_blk] <;> omega)) ?_
    refine R_if_eq 54 cd_104_47 rfl (fun b47 => ?_) (fun b47 => ?_)
    · refine R_push cd_104_54 ?_
      refine R_iadd cd_104_55 (by show qa_InR (10 * M 42 m + _); unfold qa_InR; omega) ?_
      first
        | exact R_iret cd_104_56 (show 10 * M 42 m + 1 = _ by have q : M 43 m ≠ 0 := b47; omega) rfl
        | exact R_iret cd_104_56 (show 10 * M 42 m + 0 = _ by have q : M 43 m = 0 := b47; omega) rfl
    · refine R_push cd_104_50 ?_
      refine R_goto cd_104_51 ?_
      refine R_iadd cd_104_55 (by show qa_InR (10 * M 42 m + _); unfold qa_InR; omega) ?_
      first
        | exact R_iret cd_104_56 (show 10 * M 42 m + 1 = _ by have q : M 43 m ≠ 0 := b47; omega) rfl
        | exact R_iret cd_104_56 (show 10 * M 42 m + 0 = _ by have q : M 43 m = 0 := b47; omega) rfl
theorem K_Model_setRateX1 {r : Int} {M : qa_Mem} (h3 : ¬ (0 ≤ r ∧ r ≤ 1000)) : qa_E 105 0 [(0, qr 6), (1, qi (r))] [] (M) (.inl (some (qi (0)))) (qa_upd M 6 26 1) := by
  refine R_aload cd_105_0 rfl ?_
  refine R_iload cd_105_1 rfl ?_
  refine R_push cd_105_2 ?_
  refine R_push cd_105_3 ?_
  refine R_call3 cd_105_6 rfl rfl K_Model_isIn ?_
  refine R_ifeq_b 16 cd_105_9 rfl (fun b9 => ?_) (fun b9 => ?_)
  · refine R_push cd_105_16 ?_
    refine R_call2 cd_105_17 rfl rfl K_Model_fails ?_
    refine R_ifeq_b 25 cd_105_20 rfl (fun h => absurd h (by decide)) (fun _ => ?_)
    refine R_push cd_105_23 ?_
    exact R_iret cd_105_24 (by first | rfl | omega) rfl
  · refine R_push cd_105_12 ?_
    refine R_goto cd_105_13 ?_
    exfalso
    omega
theorem K_Model_setRate0 {r : Int} {M : qa_Mem} (h3 : 0 ≤ r ∧ r ≤ 1000) : qa_E 105 0 [(0, qr 6), (1, qi (r))] [] (M) (.inl (some (qi (M 6 22)))) (qa_upd (qa_upd M 6 26 0) 6 22 r) := by
  refine R_aload cd_105_0 rfl ?_
  refine R_iload cd_105_1 rfl ?_
  refine R_push cd_105_2 ?_
  refine R_push cd_105_3 ?_
  refine R_call3 cd_105_6 rfl rfl K_Model_isIn ?_
  refine R_ifeq_b 16 cd_105_9 rfl (fun b9 => ?_) (fun b9 => ?_)
  · refine R_push cd_105_16 ?_
    exfalso
    omega
  · refine R_push cd_105_12 ?_
    refine R_goto cd_105_13 ?_
    refine R_call2 cd_105_17 rfl rfl K_Model_fails ?_
    refine R_ifeq_b 25 cd_105_20 rfl (fun _ => ?_) (fun h => absurd h (by decide))
    refine R_aload cd_105_25 rfl ?_
    refine R_getf cd_105_26 rfl (by decide) ?_
    refine R_istore cd_105_29 ?_
    refine R_aload cd_105_30 rfl ?_
    refine R_iload cd_105_31 rfl ?_
    refine R_putf cd_105_32 rfl (by decide) ?_
    refine R_iload cd_105_35 rfl ?_
    exact R_iret cd_105_36 (by first | rfl | omega) rfl
theorem K_Model_moneyX1 {w : Int} {M : qa_Mem} (h3 : ¬ (0 ≤ w ∧ w ≤ 6)) : qa_E 110 0 [(0, qr 6), (1, qi (w))] [] (M) (.inl (some (qi (0)))) (qa_upd M 6 26 1) := by
  refine R_aload cd_110_0 rfl ?_
  refine R_iload cd_110_1 rfl ?_
  refine R_push cd_110_2 ?_
  refine R_push cd_110_3 ?_
  refine R_call3 cd_110_5 rfl rfl K_Model_isIn ?_
  refine R_ifeq_b 15 cd_110_8 rfl (fun b8 => ?_) (fun b8 => ?_)
  · refine R_push cd_110_15 ?_
    refine R_call2 cd_110_16 rfl rfl K_Model_fails ?_
    refine R_ifeq_b 26 cd_110_19 rfl (fun h => absurd h (by decide)) (fun _ => ?_)
    refine R_push cd_110_22 ?_
    refine R_goto cd_110_23 ?_
    exact R_iret cd_110_32 (by first | rfl | omega) rfl
  · refine R_push cd_110_11 ?_
    refine R_goto cd_110_12 ?_
    exfalso
    omega
theorem K_Model_money0 {w : Int} {M : qa_Mem} (h3 : 0 ≤ w ∧ w ≤ 6) : qa_E 110 0 [(0, qr 6), (1, qi (w))] [] (M) (.inl (some (qi (M 46 w)))) (qa_upd M 6 26 0) := by
  refine R_aload cd_110_0 rfl ?_
  refine R_iload cd_110_1 rfl ?_
  refine R_push cd_110_2 ?_
  refine R_push cd_110_3 ?_
  refine R_call3 cd_110_5 rfl rfl K_Model_isIn ?_
  refine R_ifeq_b 15 cd_110_8 rfl (fun b8 => ?_) (fun b8 => ?_)
  · refine R_push cd_110_15 ?_
    exfalso
    omega
  · refine R_push cd_110_11 ?_
    refine R_goto cd_110_12 ?_
    refine R_call2 cd_110_16 rfl rfl K_Model_fails ?_
    refine R_ifeq_b 26 cd_110_19 rfl (fun _ => ?_) (fun h => absurd h (by decide))
    refine R_aload cd_110_26 rfl ?_
    refine R_getr cd_110_27 rfl ?_
    refine R_iload cd_110_30 rfl ?_
    refine R_iald cd_110_31 rfl (by first | omega | (simp [qa_upd, qa_blk] <;> omega)) (by first | omega | (simp [qa_upd, qa_blk] <;> omega)) ?_
    exact R_iret cd_110_32 (by first | rfl | omega) rfl
