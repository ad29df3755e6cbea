/-! the key table's writes, the film's writes -/
theorem K_Keys_copyRow {p q : Int} {M : qa_Mem} (h1 : 0 ≤ p) (h2 : p < 80) (h3 : 0 ≤ q) (h4 : q < 80) (h5 : M 17 p = 0 ∨ M 17 p = 1) : qa_E 16 0 [(0, qr 2), (1, qi (p)), (2, qi (q))] [] (M) (.inl none) (qf_rows M (fun A => qf_set A q (A p))) := by
  refine R_aload cd_16_0 rfl ?_
  refine R_getr cd_16_1 rfl ?_
  refine R_iload cd_16_4 rfl ?_
  refine R_aload cd_16_5 rfl ?_
  refine R_getr cd_16_6 rfl ?_
  refine R_iload cd_16_9 rfl ?_
  refine R_iald cd_16_10 rfl (by omega) (by omega) ?_
  refine R_iast cd_16_11 rfl (by omega) (by omega)  ?_
  refine R_aload cd_16_12 rfl ?_
  refine R_getr cd_16_13 rfl ?_
  refine R_iload cd_16_16 rfl ?_
  refine R_aload cd_16_17 rfl ?_
  refine R_getr cd_16_18 rfl ?_
  refine R_iload cd_16_21 rfl ?_
  refine R_iald cd_16_22 rfl (by omega) (by omega) ?_
  refine R_iast cd_16_23 rfl (by omega) (by omega)  ?_
  refine R_aload cd_16_24 rfl ?_
  refine R_getr cd_16_25 rfl ?_
  refine R_iload cd_16_28 rfl ?_
  refine R_aload cd_16_29 rfl ?_
  refine R_getr cd_16_30 rfl ?_
  refine R_iload cd_16_33 rfl ?_
  refine R_iald cd_16_34 rfl (by omega) (by omega) ?_
  refine R_iast cd_16_35 rfl (by omega) (by omega)  ?_
  refine R_aload cd_16_36 rfl ?_
  refine R_getr cd_16_37 rfl ?_
  refine R_iload cd_16_40 rfl ?_
  refine R_aload cd_16_41 rfl ?_
  refine R_getr cd_16_42 rfl ?_
  refine R_iload cd_16_45 rfl ?_
  refine R_zald cd_16_46 rfl (by omega) (by omega) ?_
  refine R_zast cd_16_47 rfl (by omega) (by omega) (by simpa [qa_upd] using h5) ?_
  refine R_vret cd_16_48 ?_
  funext c j
  by_cases hc : 14 ≤ c ∧ c ≤ 17
  · rw [qf_rows_i hc]
    have : c = 14 ∨ c = 15 ∨ c = 16 ∨ c = 17 := by omega
    rcases this with rfl | rfl | rfl | rfl <;> simp [qa_upd, qf_set]
  · rw [qf_rows_n hc]
    have : c ≠ 14 ∧ c ≠ 15 ∧ c ≠ 16 ∧ c ≠ 17 := by omega
    simp [qa_upd, this]
theorem K_Keys_openRow {p : Int} {M : qa_Mem} (h1 : 0 ≤ M 2 4) (h2 : M 2 4 < 80) (h3 : 0 ≤ p) (h4 : p ≤ M 2 4) (h5 : ∀ j, 0 ≤ j → j < 80 → M 17 j = 0 ∨ M 17 j = 1) : qa_E 14 0 [(0, qr 2), (1, qi (p))] [] (M) (.inl none) (qa_upd (qf_rows M (fun A => qf_ins A p (M 2 4) (A p))) 2 4 (M 2 4 + 1)) := by
  have lp : ∀ (k : Nat) (a : Int), a = p + k → a ≤ M 2 4 → qa_E 14 5 [(0, qr 2), (1, qi p), (2, qi a)] [] (qf_rows M (fun A j => if a < j ∧ j ≤ M 2 4 then A (j - 1) else A j)) (.inl none) (qa_upd (qf_rows M (fun A => qf_ins A p (M 2 4) (A p))) 2 4 (M 2 4 + 1)) := by
    intro k
    induction k with
    | zero =>
      intro a g1 g2
      obtain rfl : a = p := by omega
      have e : (fun (A : Int → Int) j => if a < j ∧ j ≤ M 2 4 then A (j - 1) else A j) = (fun A => qf_ins A a (M 2 4) (A a)) := by
        funext A j
        unfold qf_ins
        (repeat' split) <;> first | rfl | omega | (congr 1 <;> omega)
      rw [e]
      refine R_iload cd_14_5 rfl ?_
      refine R_iload cd_14_6 rfl ?_
      refine R_icmp_le 24 cd_14_7 rfl (fun b7 => ?_) (fun b7 => ?_)
      · refine R_aload cd_14_24 rfl ?_
        refine R_dup cd_14_25 rfl ?_
        refine R_getf cd_14_26 rfl (by decide) ?_
        refine R_push cd_14_29 ?_
        refine R_iadd cd_14_30 (by rw [qf_rows_n (by decide)]; unfold qa_InR; omega) ?_
        refine R_putf cd_14_31 rfl (by decide) ?_
        exact R_vret cd_14_34 (by rw [qf_rows_n (by decide)])
      · omega
    | succ k ih =>
      intro a g1 g2
      refine R_iload cd_14_5 rfl ?_
      refine R_iload cd_14_6 rfl ?_
      refine R_icmp_le 24 cd_14_7 rfl (fun b7 => ?_) (fun b7 => ?_)
      · omega
      · refine R_aload cd_14_10 rfl ?_
        refine R_iload cd_14_11 rfl ?_
        refine R_push cd_14_12 ?_
        refine R_isub cd_14_13 (by unfold qa_InR; first | omega | (simp [qa_upd, qa_blk] <;> omega)) ?_
        refine R_iload cd_14_14 rfl ?_
        refine R_callv3 cd_14_15 rfl rfl (K_Keys_copyRow (by omega) (by omega) (by omega) (by omega) (by rw [qf_rows_i (by decide)]; rw [if_neg (by omega)]; exact h5 _ (by omega) (by omega))) ?_
        refine R_iinc cd_14_18 rfl (by unfold qa_InR; first | omega | (simp [qa_upd, qa_blk] <;> omega)) ?_
        refine R_goto cd_14_21 ?_
        have e := ih (a + -1) (by omega) (by omega)
        rw [qf_rows_2]
        have e2 : (fun A : Int → Int => qf_set (fun j => if a < j ∧ j ≤ M 2 4 then A (j - 1) else A j) a ((fun j => if a < j ∧ j ≤ M 2 4 then A (j - 1) else A j) (a - 1))) = (fun A j => if a + -1 < j ∧ j ≤ M 2 4 then A (j - 1) else A j) := by
          funext A j
          unfold qf_set
          dsimp only
          (repeat' split) <;> first | rfl | omega | (congr 1 <;> omega)
        rw [e2]
        exact R_norm (qs_c rfl (qs_c rfl (qs_c rfl qs_n))) e
  have e := lp (M 2 4 - p).toNat (M 2 4) (by omega) (by omega)
  rw [qf_rows_id (fun A => by funext j; rw [if_neg (by omega)])] at e
  refine R_aload cd_14_0 rfl ?_
  refine R_getf cd_14_1 rfl (by decide) ?_
  refine R_istore cd_14_4 ?_
  exact R_norm (qs_c rfl (qs_c rfl (qs_c rfl qs_n))) e
theorem K_Keys_closeRow {p : Int} {M : qa_Mem} (h1 : 0 < M 2 4) (h2 : M 2 4 ≤ 80) (h3 : 0 ≤ p) (h4 : p < M 2 4) (h5 : ∀ j, 0 ≤ j → j < 80 → M 17 j = 0 ∨ M 17 j = 1) : qa_E 15 0 [(0, qr 2), (1, qi (p))] [] (M) (.inl none) (qf_rows (qa_upd M 2 4 (M 2 4 - 1)) (fun A => qf_del A p (M 2 4))) := by
  obtain ⟨N, hN⟩ : ∃ N, N = qa_upd M 2 4 (M 2 4 - 1) := ⟨_, rfl⟩
  have hc : N 2 4 = M 2 4 - 1 := by rw [hN]; rfl
  have h6 : ∀ j, 0 ≤ j → j < 80 → N 17 j = 0 ∨ N 17 j = 1 := by rw [hN, qa_upd_n (by decide)]; exact h5
  have lp : ∀ (k : Nat) (a : Int), a + k = M 2 4 - 1 → p ≤ a → qa_E 15 12 [(0, qr 2), (1, qi p), (2, qi a)] [] (qf_rows N (fun A j => if p ≤ j ∧ j < a then A (j + 1) else A j)) (.inl none) (qf_rows N (fun A => qf_del A p (M 2 4))) := by
    intro k
    induction k with
    | zero =>
      intro a g1 g2
      obtain rfl : a = M 2 4 - 1 := by omega
      have gc : (qf_rows N (fun A j => if p ≤ j ∧ j < M 2 4 - 1 then A (j + 1) else A j)) 2 4 = M 2 4 - 1 := by rw [qf_rows_n (by decide)]; exact hc
      refine R_iload cd_15_12 rfl ?_
      refine R_aload cd_15_13 rfl ?_
      refine R_getf cd_15_14 rfl (by decide) ?_
      refine R_icmp_ge 34 cd_15_17 rfl (fun b17 => ?_) (fun b17 => ?_)
      · exact R_vret cd_15_34 rfl
      · omega
    | succ k ih =>
      intro a g1 g2
      have gc : (qf_rows N (fun A j => if p ≤ j ∧ j < a then A (j + 1) else A j)) 2 4 = M 2 4 - 1 := by rw [qf_rows_n (by decide)]; exact hc
      refine R_iload cd_15_12 rfl ?_
      refine R_aload cd_15_13 rfl ?_
      refine R_getf cd_15_14 rfl (by decide) ?_
      refine R_icmp_ge 34 cd_15_17 rfl (fun b17 => ?_) (fun b17 => ?_)
      · omega
      · refine R_aload cd_15_20 rfl ?_
        refine R_iload cd_15_21 rfl ?_
        refine R_push cd_15_22 ?_
        refine R_iadd cd_15_23 (by unfold qa_InR; first | omega | (simp [qa_upd, qa_blk] <;> omega)) ?_
        refine R_iload cd_15_24 rfl ?_
        refine R_callv3 cd_15_25 rfl rfl (K_Keys_copyRow (by omega) (by omega) (by omega) (by omega) (by rw [qf_rows_i (by decide)]; rw [if_neg (by omega)]; exact h6 _ (by omega) (by omega))) ?_
        refine R_iinc cd_15_28 rfl (by unfold qa_InR; first | omega | (simp [qa_upd, qa_blk] <;> omega)) ?_
        refine R_goto cd_15_31 ?_
        have e := ih (a + 1) (by omega) (by omega)
        rw [qf_rows_2]
        have e2 : (fun A : Int → Int => qf_set (fun j => if p ≤ j ∧ j < a then A (j + 1) else A j) a ((fun j => if p ≤ j ∧ j < a then A (j + 1) else A j) (a + 1))) = (fun A j => if p ≤ j ∧ j < a + 1 then A (j + 1) else A j) := by
          funext A j
          unfold qf_set
          dsimp only
          (repeat' split) <;> first | rfl | omega | (congr 1 <;> omega)
        rw [e2]
        exact R_norm (qs_c rfl (qs_c rfl (qs_c rfl qs_n))) e
  have e := lp (M 2 4 - 1 - p).toNat p (by omega) (by omega)
  rw [qf_rows_id (fun A => by funext j; rw [if_neg (by omega)]), hN] at e
  refine R_aload cd_15_0 rfl ?_
  refine R_dup cd_15_1 rfl ?_
  refine R_getf cd_15_2 rfl (by decide) ?_
  refine R_push cd_15_5 ?_
  refine R_isub cd_15_6 (by unfold qa_InR; first | omega | (simp [qa_upd, qa_blk] <;> omega)) ?_
  refine R_putf cd_15_7 rfl (by decide) ?_
  refine R_iload cd_15_10 rfl ?_
  refine R_istore cd_15_11 ?_
  exact R_norm (qs_c rfl (qs_c rfl (qs_c rfl qs_n))) e
/-- the table behind a write of a new key, or of an old one -/
def qk_put (M : qa_Mem) (c v a s : Int) : qa_Mem :=
  let p := qf_ca (M 14) (M 2 4) c 80 0
  if p < M 2 4 ∧ M 14 p = c then qa_upd (qa_upd (qa_upd (qa_upd M 14 p c) 15 p v) 16 p a) 17 p s
  else qa_upd (qa_upd (qa_upd (qa_upd (qa_upd (qf_rows M (fun A => qf_ins A p (M 2 4) (A p))) 2 4 (M 2 4 + 1)) 14 p c) 15 p v) 16 p a) 17 p s
theorem K_Keys_put {c v a s : Int} {M : qa_Mem} (h1 : 0 ≤ M 2 4) (h2 : M 2 4 ≤ 80) (h3 : ∀ j, 0 ≤ j → j < 80 → M 17 j = 0 ∨ M 17 j = 1) (h4 : s = 0 ∨ s = 1) (h5 : M 2 4 < 80 ∨ (qf_ca (M 14) (M 2 4) c 80 0 < M 2 4 ∧ M 14 (qf_ca (M 14) (M 2 4) c 80 0) = c)) : qa_E 12 0 [(0, qr 2), (1, qi (c)), (2, qi (v)), (3, qi (a)), (4, qi (s))] [] (M) (.inl none) (qk_put M c v a s) := by
  have g := qf_ca_r (M 14) (M 2 4) c 80 0 (by omega) (by omega)
  unfold qk_put
  refine R_aload cd_12_0 rfl ?_
  refine R_iload cd_12_1 rfl ?_
  refine R_call2 cd_12_2 rfl rfl (K_Keys_countAhead (by omega) (by omega)) ?_
  refine R_istore cd_12_5 ?_
  refine R_aload cd_12_7 rfl ?_
  refine R_iload cd_12_8 rfl ?_
  refine R_call2 cd_12_9 rfl rfl (K_Keys_has (by omega) (by omega)) ?_
  refine R_ifne_b 21 cd_12_12 rfl (fun b12 => ?_) (fun b12 => ?_)
  · rw [if_pos b12]
    refine R_aload cd_12_21 rfl ?_
    refine R_getr cd_12_22 rfl ?_
    refine R_iload cd_12_25 rfl ?_
    refine R_iload cd_12_27 rfl ?_
    refine R_iast cd_12_28 rfl (by omega) (by omega)  ?_
    refine R_aload cd_12_29 rfl ?_
    refine R_getr cd_12_30 rfl ?_
    refine R_iload cd_12_33 rfl ?_
    refine R_iload cd_12_35 rfl ?_
    refine R_iast cd_12_36 rfl (by omega) (by omega)  ?_
    refine R_aload cd_12_37 rfl ?_
    refine R_getr cd_12_38 rfl ?_
    refine R_iload cd_12_41 rfl ?_
    refine R_iload cd_12_43 rfl ?_
    refine R_iast cd_12_44 rfl (by omega) (by omega)  ?_
    refine R_aload cd_12_45 rfl ?_
    refine R_getr cd_12_46 rfl ?_
    refine R_iload cd_12_49 rfl ?_
    refine R_iload cd_12_51 rfl ?_
    refine R_zast cd_12_53 rfl (by omega) (by omega) h4 ?_
    exact R_vret cd_12_54 rfl
  · rw [if_neg b12]
    refine R_aload cd_12_15 rfl ?_
    refine R_iload cd_12_16 rfl ?_
    refine R_callv2 cd_12_18 rfl rfl (K_Keys_openRow h1 (by omega) (by omega) (by omega) h3) ?_
    refine R_aload cd_12_21 rfl ?_
    refine R_getr cd_12_22 rfl ?_
    refine R_iload cd_12_25 rfl ?_
    refine R_iload cd_12_27 rfl ?_
    refine R_iast cd_12_28 rfl (by omega) (by omega)  ?_
    refine R_aload cd_12_29 rfl ?_
    refine R_getr cd_12_30 rfl ?_
    refine R_iload cd_12_33 rfl ?_
    refine R_iload cd_12_35 rfl ?_
    refine R_iast cd_12_36 rfl (by omega) (by omega)  ?_
    refine R_aload cd_12_37 rfl ?_
    refine R_getr cd_12_38 rfl ?_
    refine R_iload cd_12_41 rfl ?_
    refine R_iload cd_12_43 rfl ?_
    refine R_iast cd_12_44 rfl (by omega) (by omega)  ?_
    refine R_aload cd_12_45 rfl ?_
    refine R_getr cd_12_46 rfl ?_
    refine R_iload cd_12_49 rfl ?_
    refine R_iload cd_12_51 rfl ?_
    refine R_zast cd_12_53 rfl (by omega) (by omega) h4 ?_
    exact R_vret cd_12_54 rfl
def qk_take (M : qa_Mem) (c : Int) : qa_Mem := qf_rows (qa_upd M 2 4 (M 2 4 - 1)) (fun A => qf_del A (qf_ca (M 14) (M 2 4) c 80 0) (M 2 4))
theorem K_Keys_take {c : Int} {M : qa_Mem} (h1 : 0 ≤ M 2 4) (h2 : M 2 4 ≤ 80) (h3 : ∀ j, 0 ≤ j → j < 80 → M 17 j = 0 ∨ M 17 j = 1) (h5 : qf_ca (M 14) (M 2 4) c 80 0 < M 2 4 ∧ M 14 (qf_ca (M 14) (M 2 4) c 80 0) = c) : qa_E 13 0 [(0, qr 2), (1, qi (c))] [] (M) (.inl none) (qk_take M c) := by
  have g := qf_ca_r (M 14) (M 2 4) c 80 0 (by omega) (by omega)
  refine R_aload cd_13_0 rfl ?_
  refine R_iload cd_13_1 rfl ?_
  refine R_call2 cd_13_2 rfl rfl (K_Keys_has (by omega) (by omega)) ?_
  refine R_ifeq_b 17 cd_13_5 rfl (fun b5 => ?_) (fun b5 => ?_)
  · first | exact absurd h5 b5 | exact R_vret cd_13_17 rfl
  · refine R_aload cd_13_8 rfl ?_
    refine R_aload cd_13_9 rfl ?_
    refine R_iload cd_13_10 rfl ?_
    refine R_call2 cd_13_11 rfl rfl (K_Keys_countAhead (by omega) (by omega)) ?_
    refine R_callv2 cd_13_14 rfl rfl (K_Keys_closeRow (by omega) (by omega) (by omega) (by omega) h3) ?_
    first | exact absurd h5 b5 | exact R_vret cd_13_17 rfl
