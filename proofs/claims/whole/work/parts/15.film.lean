/-! the film -/
theorem K_Film_count {lo hi c : Int} {M : qa_Mem} (h1 : 0 ≤ lo) (h2 : lo ≤ hi) (h3 : hi < 120) (h4 : c = 1 ∨ c = -1) (h5 : ∀ j, 0 ≤ j → j < 120 → -1000 ≤ M 23 j ∧ M 23 j ≤ 1000) (h6 : -10000 ≤ M 4 4 ∧ M 4 4 ≤ 10000) : qa_E 24 0 [(0, qr 4), (1, qi (lo)), (2, qi (hi)), (3, qi (c))] [] (M) (.inl none) (qm_cnt M lo hi c) := by
  have lp : ∀ (k : Nat) (j : Int), j + k = hi + 1 → lo ≤ j → qa_E 24 3 [(0, qr 4), (1, qi lo), (2, qi hi), (3, qi c), (4, qi j)] [] (qm_cnt M lo (j - 1) c) (.inl none) (qm_cnt M lo hi c) := by
    intro k
    induction k with
    | zero =>
      intro j g1 g2
      obtain rfl : j = hi + 1 := by omega
      rw [show hi + 1 - 1 = hi by omega]
      refine R_iload cd_24_3 rfl ?_
      refine R_iload cd_24_5 rfl ?_
      refine R_icmp_gt 36 cd_24_6 rfl (fun b6 => ?_) (fun b6 => ?_)
      · exact R_vret cd_24_36 rfl
      · omega
    | succ k ih =>
      intro j g1 g2
      have e := ih (j + 1) (by omega) (by omega)
      have t5 := h5 j (by omega) (by omega)
      have et : (qm_cnt M lo (j - 1) c) 23 j = M 23 j := by
        unfold qm_cnt; rw [qa_upd_n (by decide), qa_blk_e]; unfold qf_add; rw [if_neg (by omega)]
      have ef : (qm_cnt M lo (j - 1) c) 4 4 = M 4 4 + c * (j - lo) := by
        unfold qm_cnt; rw [qa_upd_e, show j - 1 + 1 - lo = j - lo by omega]
      have em : qa_upd (qa_upd (qm_cnt M lo (j - 1) c) 23 j (M 23 j + c)) 4 4 (M 4 4 + c * (j - lo) + c) = qm_cnt M lo (j + 1 - 1) c := by
        rw [show j + 1 - 1 = j by omega]
        have ec : M 4 4 + c * (j - lo) + c = M 4 4 + c * (j + 1 - lo) := by
          rcases h4 with rfl | rfl <;> omega
        rw [ec]
        funext c9 q
        by_cases g23 : c9 = 23
        · subst g23
          simp only [qm_cnt, qa_upd, qa_blk, qf_add]
          by_cases hq : q = j
          · subst hq; simp <;> omega
          · simp [hq] <;> (repeat' split) <;> first | rfl | omega | (congr 1 <;> omega)
        · by_cases g4 : c9 = 4
          · subst g4
            by_cases hq : q = 4
            · subst hq; simp [qm_cnt, qa_upd, qa_blk]
            · simp [qm_cnt, qa_upd, qa_blk, hq]
          · simp [qm_cnt, qa_upd, qa_blk, g23, g4]
      rw [← em] at e
      have hb : -120 ≤ c * (j - lo) ∧ c * (j - lo) ≤ 120 := by rcases h4 with rfl | rfl <;> omega
      refine R_iload cd_24_3 rfl ?_
      refine R_iload cd_24_5 rfl ?_
      refine R_icmp_gt 36 cd_24_6 rfl (fun b6 => ?_) (fun b6 => ?_)
      · omega
      · refine R_aload cd_24_9 rfl ?_
        refine R_getr cd_24_10 rfl ?_
        refine R_iload cd_24_13 rfl ?_
        refine R_dup2 cd_24_15 rfl rfl ?_
        refine R_iald cd_24_16 rfl (by omega) (by omega) ?_
        refine R_iload cd_24_17 rfl ?_
        refine R_iadd cd_24_18 (by rw [et]; unfold qa_InR; omega) ?_
        refine R_iast cd_24_19 rfl (by omega) (by omega)  ?_
        refine R_aload cd_24_20 rfl ?_
        refine R_dup cd_24_21 rfl ?_
        refine R_getf cd_24_22 rfl (by decide) ?_
        refine R_iload cd_24_25 rfl ?_
        refine R_iadd cd_24_26 (by show qa_InR ((qm_cnt M lo (j - 1) c) 4 4 + c); rw [ef]; unfold qa_InR; omega) ?_
        refine R_putf cd_24_27 rfl (by decide) ?_
        refine R_iinc cd_24_30 rfl (by unfold qa_InR; first | omega | (simp [qa_upd, qa_blk] <;> omega)) ?_
        refine R_goto cd_24_33 ?_
        rw [show (qa_upd (qm_cnt M lo (j - 1) c) 23 j ((qm_cnt M lo (j - 1) c) 23 j + c)) 4 4 = (qm_cnt M lo (j - 1) c) 4 4 from rfl, et, ef]
        exact R_norm (qs_c rfl (qs_c rfl (qs_c rfl (qs_c rfl (qs_c rfl qs_n))))) e
  have e := lp (hi + 1 - lo).toNat lo (by omega) (by omega)
  have em : qm_cnt M lo (lo - 1) c = M := by
    funext c9 q
    by_cases g23 : c9 = 23
    · subst g23
      simp only [qm_cnt, qa_upd, qa_blk, qf_add]
      simp <;> omega
    · by_cases g4 : c9 = 4
      · subst g4
        by_cases hq : q = 4
        · subst hq; simp [qm_cnt, qa_upd, qa_blk] <;> (right; omega)
        · simp [qm_cnt, qa_upd, qa_blk, hq]
      · simp [qm_cnt, qa_upd, qa_blk, g23, g4]
  rw [em] at e
  refine R_iload cd_24_0 rfl ?_
  refine R_istore cd_24_1 ?_
  exact R_norm (qs_c rfl (qs_c rfl (qs_c rfl (qs_c rfl (qs_c rfl qs_n))))) e
def qm_ins (M : qa_Mem) (p a b : Int) : qa_Mem := qa_upd (qa_blk (qa_blk M 21 (qf_ins (M 21) p (M 4 3) a)) 22 (qf_ins (M 22) p (M 4 3) b)) 4 3 (M 4 3 + 1)
theorem K_Film_insert {p a b : Int} {M : qa_Mem} (h1 : 0 ≤ p) (h2 : p ≤ M 4 3) (h3 : M 4 3 < 10) (h4 : 0 ≤ a) (h5 : a ≤ b) (h6 : b < 120) (h7 : ∀ j, 0 ≤ j → j < 120 → -1000 ≤ M 23 j ∧ M 23 j ≤ 1000) (h8 : -10000 ≤ M 4 4 ∧ M 4 4 ≤ 10000) : qa_E 21 0 [(0, qr 4), (1, qi (p)), (2, qi (a)), (3, qi (b))] [] (M) (.inl none) (qm_cnt (qm_ins M p a b) a b 1) := by
  have lp : ∀ (k : Nat) (j : Int) (N : qa_Mem), p + k = j → j ≤ M 4 3 → N = qa_blk (qa_blk M 21 (fun q => if j < q ∧ q ≤ M 4 3 then M 21 (q - 1) else M 21 q)) 22 (fun q => if j < q ∧ q ≤ M 4 3 then M 22 (q - 1) else M 22 q) → qa_E 21 6 [(0, qr 4), (1, qi p), (2, qi a), (3, qi b), (4, qi j)] [] N (.inl none) (qm_cnt (qm_ins M p a b) a b 1) := by
    intro k
    induction k with
    | zero =>
      intro j N g1 g2 hN
      obtain rfl : p = j := by omega
      have em : qa_upd (qa_upd (qa_upd N 21 p a) 22 p b) 4 3 (M 4 3 + 1) = qm_ins M p a b := by
        rw [hN]
        funext c9 q
        by_cases g21 : c9 = 21
        · subst g21; simp only [qm_ins, qf_ins, qa_upd, qa_blk]; simp <;> (repeat' split) <;> first | rfl | omega | (congr 1 <;> omega)
        · by_cases g22 : c9 = 22
          · subst g22; simp only [qm_ins, qf_ins, qa_upd, qa_blk]; simp <;> (repeat' split) <;> first | rfl | omega | (congr 1 <;> omega)
          · simp [qm_ins, qf_ins, qa_upd, qa_blk, g21, g22]
      have es : N 4 3 = M 4 3 := by rw [hN]; rfl
      refine R_iload cd_21_6 rfl ?_
      refine R_iload cd_21_8 rfl ?_
      refine R_icmp_le 50 cd_21_9 rfl (fun b9 => ?_) (fun b9 => ?_)
      · refine R_aload cd_21_50 rfl ?_
        refine R_getr cd_21_51 rfl ?_
        refine R_iload cd_21_54 rfl ?_
        refine R_iload cd_21_55 rfl ?_
        refine R_iast cd_21_56 rfl (by omega) (by omega)  ?_
        refine R_aload cd_21_57 rfl ?_
        refine R_getr cd_21_58 rfl ?_
        refine R_iload cd_21_61 rfl ?_
        refine R_iload cd_21_62 rfl ?_
        refine R_iast cd_21_63 rfl (by omega) (by omega)  ?_
        refine R_aload cd_21_64 rfl ?_
        refine R_dup cd_21_65 rfl ?_
        refine R_getf cd_21_66 rfl (by decide) ?_
        refine R_push cd_21_69 ?_
        refine R_iadd cd_21_70 (show qa_InR (N 4 3 + 1) by rw [es]; unfold qa_InR; omega) ?_
        refine R_putf cd_21_71 rfl (by decide) ?_
        rw [show (qa_upd (qa_upd N 21 p a) 22 p b) 4 3 = N 4 3 from rfl, es, em]
        refine R_aload cd_21_74 rfl ?_
        refine R_iload cd_21_75 rfl ?_
        refine R_iload cd_21_76 rfl ?_
        refine R_push cd_21_77 ?_
        refine R_callv4 cd_21_78 rfl rfl (K_Film_count h4 h5 h6 (Or.inl rfl) h7 h8) ?_
        exact R_vret cd_21_81 rfl
      · omega
    | succ k ih =>
      intro j N g1 g2 hN
      have em : qa_upd (qa_upd N 21 j (N 21 (j - 1))) 22 j (N 22 (j - 1)) = qa_blk (qa_blk M 21 (fun q => if j + -1 < q ∧ q ≤ M 4 3 then M 21 (q - 1) else M 21 q)) 22 (fun q => if j + -1 < q ∧ q ≤ M 4 3 then M 22 (q - 1) else M 22 q) := by
        rw [hN]
        funext c9 q
        by_cases g21 : c9 = 21
        · subst g21; simp only [qa_upd, qa_blk]; simp <;> (repeat' split) <;> first | rfl | omega | (congr 1 <;> omega)
        · by_cases g22 : c9 = 22
          · subst g22; simp only [qa_upd, qa_blk]; simp <;> (repeat' split) <;> first | rfl | omega | (congr 1 <;> omega)
          · simp [qa_upd, qa_blk, g21, g22]
      have e := ih (j + -1) _ (by omega) (by omega) em
      refine R_iload cd_21_6 rfl ?_
      refine R_iload cd_21_8 rfl ?_
      refine R_icmp_le 50 cd_21_9 rfl (fun b9 => ?_) (fun b9 => ?_)
      · omega
      · refine R_aload cd_21_12 rfl ?_
        refine R_getr cd_21_13 rfl ?_
        refine R_iload cd_21_16 rfl ?_
        refine R_aload cd_21_18 rfl ?_
        refine R_getr cd_21_19 rfl ?_
        refine R_iload cd_21_22 rfl ?_
        refine R_push cd_21_24 ?_
        refine R_isub cd_21_25 (by unfold qa_InR; first | omega | (simp [qa_upd, qa_blk] <;> omega)) ?_
        refine R_iald cd_21_26 rfl (by omega) (by omega) ?_
        refine R_iast cd_21_27 rfl (by omega) (by omega)  ?_
        refine R_aload cd_21_28 rfl ?_
        refine R_getr cd_21_29 rfl ?_
        refine R_iload cd_21_32 rfl ?_
        refine R_aload cd_21_34 rfl ?_
        refine R_getr cd_21_35 rfl ?_
        refine R_iload cd_21_38 rfl ?_
        refine R_push cd_21_40 ?_
        refine R_isub cd_21_41 (by unfold qa_InR; first | omega | (simp [qa_upd, qa_blk] <;> omega)) ?_
        refine R_iald cd_21_42 rfl (by omega) (by omega) ?_
        refine R_iast cd_21_43 rfl (by omega) (by omega)  ?_
        refine R_iinc cd_21_44 rfl (by unfold qa_InR; first | omega | (simp [qa_upd, qa_blk] <;> omega)) ?_
        refine R_goto cd_21_47 ?_
        exact R_norm (qs_c rfl (qs_c rfl (qs_c rfl (qs_c rfl (qs_c rfl qs_n))))) e
  have e := lp (M 4 3 - p).toNat (M 4 3) M (by omega) (by omega) (by
    funext c9 q
    by_cases g21 : c9 = 21
    · subst g21; simp only [qa_blk]; simp <;> (repeat' split) <;> first | rfl | omega | (congr 1 <;> omega)
    · by_cases g22 : c9 = 22
      · subst g22; simp only [qa_blk]; simp <;> (repeat' split) <;> first | rfl | omega | (congr 1 <;> omega)
      · simp [qa_blk, g21, g22])
  refine R_aload cd_21_0 rfl ?_
  refine R_getf cd_21_1 rfl (by decide) ?_
  refine R_istore cd_21_4 ?_
  exact R_norm (qs_c rfl (qs_c rfl (qs_c rfl (qs_c rfl (qs_c rfl qs_n))))) e
def qm_del (M : qa_Mem) (p : Int) : qa_Mem := qa_blk (qa_blk (qa_upd M 4 3 (M 4 3 - 1)) 21 (qf_del (M 21) p (M 4 3))) 22 (qf_del (M 22) p (M 4 3))
theorem K_Film_remove {p : Int} {M : qa_Mem} (h1 : 0 ≤ p) (h2 : p < M 4 3) (h3 : M 4 3 ≤ 10) (h4 : 0 ≤ M 21 p) (h5 : M 21 p ≤ M 22 p) (h6 : M 22 p < 120) (h7 : ∀ j, 0 ≤ j → j < 120 → -1000 ≤ M 23 j ∧ M 23 j ≤ 1000) (h8 : -10000 ≤ M 4 4 ∧ M 4 4 ≤ 10000) : qa_E 22 0 [(0, qr 4), (1, qi (p))] [] (M) (.inl none) (qm_del (qm_cnt M (M 21 p) (M 22 p) (-1)) p) := by
  obtain ⟨N, hN⟩ : ∃ N, N = qm_cnt M (M 21 p) (M 22 p) (-1) := ⟨_, rfl⟩
  have k1 := K_Film_count (M := M) (c := -1) h4 h5 h6 (Or.inr rfl) h7 h8
  rw [← hN] at k1 ⊢
  have es : N 4 3 = M 4 3 := by rw [hN]; rfl
  have lp : ∀ (k : Nat) (j : Int), j + k = M 4 3 - 1 → p ≤ j → qa_E 22 29 [(0, qr 4), (1, qi p), (2, qi j)] [] (qa_blk (qa_blk (qa_upd N 4 3 (N 4 3 - 1)) 21 (fun q => if p ≤ q ∧ q < j then N 21 (q + 1) else N 21 q)) 22 (fun q => if p ≤ q ∧ q < j then N 22 (q + 1) else N 22 q)) (.inl none) (qm_del N p) := by
    intro k
    induction k with
    | zero =>
      intro j g1 g2
      have gs : (qa_blk (qa_blk (qa_upd N 4 3 (N 4 3 - 1)) 21 (fun q => if p ≤ q ∧ q < j then N 21 (q + 1) else N 21 q)) 22 (fun q => if p ≤ q ∧ q < j then N 22 (q + 1) else N 22 q)) 4 3 = M 4 3 - 1 := by rw [qa_blk_n (by decide), qa_blk_n (by decide), qa_upd_e, es]
      refine R_iload cd_22_29 rfl ?_
      refine R_aload cd_22_30 rfl ?_
      refine R_getf cd_22_31 rfl (by decide) ?_
      refine R_icmp_ge 71 cd_22_34 rfl (fun b34 => ?_) (fun b34 => ?_)
      · refine R_vret cd_22_71 ?_
        obtain rfl : j = N 4 3 - 1 := by omega
        rfl
      · omega
    | succ k ih =>
      intro j g1 g2
      have gs : (qa_blk (qa_blk (qa_upd N 4 3 (N 4 3 - 1)) 21 (fun q => if p ≤ q ∧ q < j then N 21 (q + 1) else N 21 q)) 22 (fun q => if p ≤ q ∧ q < j then N 22 (q + 1) else N 22 q)) 4 3 = M 4 3 - 1 := by rw [qa_blk_n (by decide), qa_blk_n (by decide), qa_upd_e, es]
      have e := ih (j + 1) (by omega) (by omega)
      generalize hW : (qa_blk (qa_blk (qa_upd N 4 3 (N 4 3 - 1)) 21 (fun q => if p ≤ q ∧ q < j then N 21 (q + 1) else N 21 q)) 22 (fun q => if p ≤ q ∧ q < j then N 22 (q + 1) else N 22 q)) = W at gs ⊢
      have em : qa_upd (qa_upd W 21 j (W 21 (j + 1))) 22 j (W 22 (j + 1)) = qa_blk (qa_blk (qa_upd N 4 3 (N 4 3 - 1)) 21 (fun q => if p ≤ q ∧ q < j + 1 then N 21 (q + 1) else N 21 q)) 22 (fun q => if p ≤ q ∧ q < j + 1 then N 22 (q + 1) else N 22 q) := by
        rw [← hW]
        funext c9 q
        by_cases g21 : c9 = 21
        · subst g21; simp only [qa_upd, qa_blk]; simp <;> (repeat' split) <;> first | rfl | omega | (congr 1 <;> omega)
        · by_cases g22 : c9 = 22
          · subst g22; simp only [qa_upd, qa_blk]; simp <;> (repeat' split) <;> first | rfl | omega | (congr 1 <;> omega)
          · simp [qa_upd, qa_blk, g21, g22]
      rw [← em] at e
      refine R_iload cd_22_29 rfl ?_
      refine R_aload cd_22_30 rfl ?_
      refine R_getf cd_22_31 rfl (by decide) ?_
      refine R_icmp_ge 71 cd_22_34 rfl (fun b34 => ?_) (fun b34 => ?_)
      · omega
      · refine R_aload cd_22_37 rfl ?_
        refine R_getr cd_22_38 rfl ?_
        refine R_iload cd_22_41 rfl ?_
        refine R_aload cd_22_42 rfl ?_
        refine R_getr cd_22_43 rfl ?_
        refine R_iload cd_22_46 rfl ?_
        refine R_push cd_22_47 ?_
        refine R_iadd cd_22_48 (by unfold qa_InR; first | omega | (simp [qa_upd, qa_blk] <;> omega)) ?_
        refine R_iald cd_22_49 rfl (by omega) (by omega) ?_
        refine R_iast cd_22_50 rfl (by omega) (by omega)  ?_
        refine R_aload cd_22_51 rfl ?_
        refine R_getr cd_22_52 rfl ?_
        refine R_iload cd_22_55 rfl ?_
        refine R_aload cd_22_56 rfl ?_
        refine R_getr cd_22_57 rfl ?_
        refine R_iload cd_22_60 rfl ?_
        refine R_push cd_22_61 ?_
        refine R_iadd cd_22_62 (by unfold qa_InR; first | omega | (simp [qa_upd, qa_blk] <;> omega)) ?_
        refine R_iald cd_22_63 rfl (by omega) (by omega) ?_
        refine R_iast cd_22_64 rfl (by omega) (by omega)  ?_
        refine R_iinc cd_22_65 rfl (by unfold qa_InR; first | omega | (simp [qa_upd, qa_blk] <;> omega)) ?_
        refine R_goto cd_22_68 ?_
        exact R_norm (qs_c rfl (qs_c rfl (qs_c rfl qs_n))) e
  have e := lp (M 4 3 - 1 - p).toNat p (by omega) (by omega)
  have em : (qa_blk (qa_blk (qa_upd N 4 3 (N 4 3 - 1)) 21 (fun q => if p ≤ q ∧ q < p then N 21 (q + 1) else N 21 q)) 22 (fun q => if p ≤ q ∧ q < p then N 22 (q + 1) else N 22 q)) = qa_upd N 4 3 (N 4 3 - 1) := by
    funext c9 q
    by_cases g21 : c9 = 21
    · subst g21; simp only [qa_upd, qa_blk]; simp <;> (repeat' split) <;> first | rfl | omega | (congr 1 <;> omega)
    · by_cases g22 : c9 = 22
      · subst g22; simp only [qa_upd, qa_blk]; simp <;> (repeat' split) <;> first | rfl | omega | (congr 1 <;> omega)
      · simp [qa_upd, qa_blk, g21, g22]
  rw [em] at e
  refine R_aload cd_22_0 rfl ?_
  refine R_aload cd_22_1 rfl ?_
  refine R_getr cd_22_2 rfl ?_
  refine R_iload cd_22_5 rfl ?_
  refine R_iald cd_22_6 rfl (by omega) (by omega) ?_
  refine R_aload cd_22_7 rfl ?_
  refine R_getr cd_22_8 rfl ?_
  refine R_iload cd_22_11 rfl ?_
  refine R_iald cd_22_12 rfl (by omega) (by omega) ?_
  refine R_push cd_22_13 ?_
  refine R_callv4 cd_22_14 rfl rfl k1 ?_
  refine R_aload cd_22_17 rfl ?_
  refine R_dup cd_22_18 rfl ?_
  refine R_getf cd_22_19 rfl (by decide) ?_
  refine R_push cd_22_22 ?_
  refine R_isub cd_22_23 (by rw [es]; unfold qa_InR; omega) ?_
  refine R_putf cd_22_24 rfl (by decide) ?_
  refine R_iload cd_22_27 rfl ?_
  refine R_istore cd_22_28 ?_
  exact R_norm (qs_c rfl (qs_c rfl (qs_c rfl qs_n))) e
theorem K_Film_frameAt {p : Int} {M : qa_Mem} (h1 : 0 ≤ p) (h2 : p ≤ 100000) (h3 : 0 ≤ M 4 3) (h4 : M 4 3 ≤ 10) (h5 : ∀ k, 0 ≤ k → k < M 4 3 → 0 ≤ M 21 k ∧ M 21 k ≤ M 22 k ∧ M 22 k < 120) : qa_E 23 0 [(0, qr 4), (1, qi (p))] [] (M) (.inl (some (qi ((let r := qm_at (M 21) (M 22) (M 4 3).toNat 0 p; if r = -1 then 0 else r))))) (M) := by
  have lp : ∀ (n : Nat) (k left : Int), k + n = M 4 3 → 0 ≤ k → 0 ≤ left → left ≤ p → qa_E 23 4 [(0, qr 4), (1, qi p), (2, qi left), (3, qi k)] [] M (.inl (some (qi (if qm_at (M 21) (M 22) n k left = -1 then 0 else qm_at (M 21) (M 22) n k left)))) M := by
    intro n
    induction n with
    | zero =>
      intro k left g1 g2 g3 g4
      refine R_iload cd_23_4 rfl ?_
      refine R_aload cd_23_5 rfl ?_
      refine R_getf cd_23_6 rfl (by decide) ?_
      refine R_icmp_ge 55 cd_23_9 rfl (fun b9 => ?_) (fun b9 => ?_)
      · refine R_push cd_23_55 ?_
        exact R_iret cd_23_56 (by first | rfl | omega) rfl
      · omega
    | succ n ih =>
      intro k left g1 g2 g3 g4
      have w := h5 k g2 (by omega)
      unfold qm_at
      refine R_iload cd_23_4 rfl ?_
      refine R_aload cd_23_5 rfl ?_
      refine R_getf cd_23_6 rfl (by decide) ?_
      refine R_icmp_ge 55 cd_23_9 rfl (fun b9 => ?_) (fun b9 => ?_)
      · omega
      · refine R_aload cd_23_12 rfl ?_
        refine R_getr cd_23_13 rfl ?_
        refine R_iload cd_23_16 rfl ?_
        refine R_iald cd_23_17 rfl (by omega) (by omega) ?_
        refine R_aload cd_23_18 rfl ?_
        refine R_getr cd_23_19 rfl ?_
        refine R_iload cd_23_22 rfl ?_
        refine R_iald cd_23_23 rfl (by omega) (by omega) ?_
        refine R_isub cd_23_24 (by unfold qa_InR; first | omega | (simp [qa_upd, qa_blk] <;> omega)) ?_
        refine R_push cd_23_25 ?_
        refine R_iadd cd_23_26 (by unfold qa_InR; first | omega | (simp [qa_upd, qa_blk] <;> omega)) ?_
        refine R_istore cd_23_27 ?_
        refine R_iload cd_23_29 rfl ?_
        refine R_iload cd_23_30 rfl ?_
        refine R_icmp_ge 44 cd_23_32 rfl (fun b32 => ?_) (fun b32 => ?_)
        · refine R_iload cd_23_44 rfl ?_
          refine R_iload cd_23_45 rfl ?_
          refine R_isub cd_23_47 (by unfold qa_InR; first | omega | (simp [qa_upd, qa_blk] <;> omega)) ?_
          refine R_istore cd_23_48 ?_
          refine R_iinc cd_23_49 rfl (by unfold qa_InR; first | omega | (simp [qa_upd, qa_blk] <;> omega)) ?_
          refine R_goto cd_23_52 ?_
          rw [if_neg (show ¬ left < M 22 k - M 21 k + 1 by omega)]
          exact R_norm (qs_c rfl (qs_c rfl (qs_c rfl (qs_c rfl qs_n)))) (ih (k + 1) _ (by omega) (by omega) (by omega) (by omega))
        · refine R_aload cd_23_35 rfl ?_
          refine R_getr cd_23_36 rfl ?_
          refine R_iload cd_23_39 rfl ?_
          refine R_iald cd_23_40 rfl (by omega) (by omega) ?_
          refine R_iload cd_23_41 rfl ?_
          refine R_iadd cd_23_42 (by unfold qa_InR; first | omega | (simp [qa_upd, qa_blk] <;> omega)) ?_
          exact R_iret cd_23_43 (by rw [if_pos b32, if_neg (by omega)]) rfl
  dsimp only
  refine R_iload cd_23_0 rfl ?_
  refine R_istore cd_23_1 ?_
  refine R_push cd_23_2 ?_
  refine R_istore cd_23_3 ?_
  exact R_norm (qs_c rfl (qs_c rfl (qs_c rfl (qs_c rfl qs_n)))) (lp _ 0 p (by omega) (by omega) h1 (by omega))
