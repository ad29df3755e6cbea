/-! the farm -/
theorem K_Math_max {x y : Int} {M : qa_Mem} : qa_E 1 0 [(0, qi (x)), (1, qi (y))] [] (M) (.inl (some (qi (if x < y then y else x)))) (M) := by
  refine R_iload cd_1_0 rfl ?_
  refine R_iload cd_1_1 rfl ?_
  refine R_icmp_lt 9 cd_1_2 rfl (fun b2 => ?_) (fun b2 => ?_)
  · refine R_iload cd_1_9 rfl ?_
    exact R_iret cd_1_10 (by first | (rw [if_pos (by omega)]) | (rw [if_neg (by omega)])) rfl
  · refine R_iload cd_1_5 rfl ?_
    refine R_goto cd_1_6 ?_
    exact R_iret cd_1_10 (by first | (rw [if_pos (by omega)]) | (rw [if_neg (by omega)])) rfl
theorem K_Farm_heatOf {m : Int} {M : qa_Mem} (h1 : 0 ≤ m) (h2 : m < 4) (h3 : 0 ≤ M 25 m ∧ M 25 m ≤ 24) (h4 : M 26 m = 0 ∨ M 26 m = 1) : qa_E 28 0 [(0, qr 5), (1, qi (m))] [] (M) (.inl (some (qi (10 * M 25 m + M 26 m)))) (M) := by
  refine R_push cd_28_0 ?_
  refine R_aload cd_28_2 rfl ?_
  refine R_getr cd_28_3 rfl ?_
  refine R_iload cd_28_6 rfl ?_
  refine R_iald cd_28_7 rfl (by omega) (by omega) ?_
  refine R_imul cd_28_8 (by unfold qa_InR; first | omega | (simp [qa_upd, qa_blk] <;> omega)) ?_
  refine R_aload cd_28_9 rfl ?_
  refine R_getr cd_28_10 rfl ?_
  refine R_iload cd_28_13 rfl ?_
  refine R_zald cd_28_14 rfl (by omega) (by omega) ?_
  refine R_if_eq 22 cd_28_15 rfl (fun b15 => ?_) (fun b15 => ?_)
  · refine R_push cd_28_22 ?_
    refine R_iadd cd_28_23 (by unfold qa_InR; first | omega | (simp [qa_upd, qa_blk] <;> omega)) ?_
    exact R_iret cd_28_24 (by first | rfl | omega) rfl
  · refine R_push cd_28_18 ?_
    refine R_goto cd_28_19 ?_
    refine R_iadd cd_28_23 (by unfold qa_InR; first | omega | (simp [qa_upd, qa_blk] <;> omega)) ?_
    exact R_iret cd_28_24 (by first | rfl | omega) rfl
theorem K_Farm_addMachine {s : Int} {M : qa_Mem} (h1 : 0 ≤ M 5 3) (h2 : M 5 3 < 4) : qa_E 29 0 [(0, qr 5), (1, qi (s))] [] (M) (.inl (some (qi (M 5 3)))) (qa_upd (qa_upd M 24 (M 5 3) s) 5 3 (M 5 3 + 1)) := by
  refine R_aload cd_29_0 rfl ?_
  refine R_getf cd_29_1 rfl (by decide) ?_
  refine R_istore cd_29_4 ?_
  refine R_aload cd_29_5 rfl ?_
  refine R_getr cd_29_6 rfl ?_
  refine R_iload cd_29_9 rfl ?_
  refine R_iload cd_29_10 rfl ?_
  refine R_iast cd_29_11 rfl (by omega) (by omega)  ?_
  refine R_aload cd_29_12 rfl ?_
  refine R_dup cd_29_13 rfl ?_
  refine R_getf cd_29_14 rfl (by decide) ?_
  refine R_push cd_29_17 ?_
  refine R_iadd cd_29_18 (show qa_InR (M 5 3 + 1) by unfold qa_InR; omega) ?_
  refine R_putf cd_29_19 rfl (by decide) ?_
  refine R_iload cd_29_22 rfl ?_
  exact R_iret cd_29_23 (by first | rfl | omega) rfl
theorem K_Farm_addOffer {p h : Int} {M : qa_Mem} (h1 : 0 ≤ M 5 6) (h2 : M 5 6 < 10) : qa_E 30 0 [(0, qr 5), (1, qi (p)), (2, qi (h))] [] (M) (.inl (some (qi (M 5 6)))) (qa_upd (qa_upd (qa_upd M 27 (M 5 6) p) 28 (M 5 6) h) 5 6 (M 5 6 + 1)) := by
  refine R_aload cd_30_0 rfl ?_
  refine R_getf cd_30_1 rfl (by decide) ?_
  refine R_istore cd_30_4 ?_
  refine R_aload cd_30_5 rfl ?_
  refine R_getr cd_30_6 rfl ?_
  refine R_iload cd_30_9 rfl ?_
  refine R_iload cd_30_10 rfl ?_
  refine R_iast cd_30_11 rfl (by omega) (by omega)  ?_
  refine R_aload cd_30_12 rfl ?_
  refine R_getr cd_30_13 rfl ?_
  refine R_iload cd_30_16 rfl ?_
  refine R_iload cd_30_17 rfl ?_
  refine R_iast cd_30_18 rfl (by omega) (by omega)  ?_
  refine R_aload cd_30_19 rfl ?_
  refine R_dup cd_30_20 rfl ?_
  refine R_getf cd_30_21 rfl (by decide) ?_
  refine R_push cd_30_24 ?_
  refine R_iadd cd_30_25 (show qa_InR (M 5 6 + 1) by unfold qa_InR; omega) ?_
  refine R_putf cd_30_26 rfl (by decide) ?_
  refine R_iload cd_30_29 rfl ?_
  exact R_iret cd_30_30 (by first | rfl | omega) rfl
theorem K_Farm_cool {m : Int} {M : qa_Mem} (h1 : 0 ≤ m) (h2 : m < 4) (h3 : 0 ≤ M 25 m ∧ M 25 m ≤ 100) : qa_E 37 0 [(0, qr 5), (1, qi (m))] [] (M) (.inl none) (qa_upd M 25 m (qf_cool (M 25 m))) := by
  have e : (if 0 < M 25 m - 4 then M 25 m - 4 else 0) = qf_cool (M 25 m) := by unfold qf_cool; (repeat' split) <;> first | rfl | omega | (congr 1 <;> omega)
  rw [← e]
  refine R_aload cd_37_0 rfl ?_
  refine R_getr cd_37_1 rfl ?_
  refine R_iload cd_37_4 rfl ?_
  refine R_push cd_37_5 ?_
  refine R_aload cd_37_6 rfl ?_
  refine R_getr cd_37_7 rfl ?_
  refine R_iload cd_37_10 rfl ?_
  refine R_iald cd_37_11 rfl (by omega) (by omega) ?_
  refine R_push cd_37_12 ?_
  refine R_isub cd_37_13 (by unfold qa_InR; first | omega | (simp [qa_upd, qa_blk] <;> omega)) ?_
  refine R_call2 cd_37_14 rfl rfl K_Math_max ?_
  refine R_iast cd_37_17 rfl (by omega) (by omega)  ?_
  exact R_vret cd_37_18 rfl
theorem K_Farm_rest {m : Int} {M : qa_Mem} (h1 : 0 ≤ m) (h2 : m < 4) (h3 : 0 ≤ M 25 m ∧ M 25 m ≤ 100) : qa_E 32 0 [(0, qr 5), (1, qi (m))] [] (M) (.inl (some (qi (0)))) (qc_rM M m) := by
  have e : (qa_upd M 25 m (qf_cool (M 25 m))) 25 m = qf_cool (M 25 m) := qa_upd_e
  refine R_aload cd_32_0 rfl ?_
  refine R_iload cd_32_1 rfl ?_
  refine R_callv2 cd_32_2 rfl rfl (K_Farm_cool (by omega) (by omega) (by omega)) ?_
  refine R_aload cd_32_5 rfl ?_
  refine R_getr cd_32_6 rfl ?_
  refine R_iload cd_32_9 rfl ?_
  refine R_aload cd_32_10 rfl ?_
  refine R_getr cd_32_11 rfl ?_
  refine R_iload cd_32_14 rfl ?_
  refine R_iald cd_32_15 rfl (by omega) (by omega) ?_
  refine R_push cd_32_16 ?_
  refine R_icmp_le 25 cd_32_18 rfl (fun b18 => ?_) (fun b18 => ?_)
  · refine R_push cd_32_25 ?_
    first
      | rw [e] at b18
        refine R_zast cd_32_26 rfl (by omega) (by omega) (by decide) ?_
        refine R_push cd_32_27 ?_
        refine R_iret cd_32_28 rfl ?_
        unfold qc_rM
        rw [qb_t (by omega)]
      | rw [e] at b18
        refine R_zast cd_32_26 rfl (by omega) (by omega) (by decide) ?_
        refine R_push cd_32_27 ?_
        refine R_iret cd_32_28 rfl ?_
        unfold qc_rM
        rw [qb_f (by omega)]
  · refine R_push cd_32_21 ?_
    refine R_goto cd_32_22 ?_
    first
      | rw [e] at b18
        refine R_zast cd_32_26 rfl (by omega) (by omega) (by decide) ?_
        refine R_push cd_32_27 ?_
        refine R_iret cd_32_28 rfl ?_
        unfold qc_rM
        rw [qb_t (by omega)]
      | rw [e] at b18
        refine R_zast cd_32_26 rfl (by omega) (by omega) (by decide) ?_
        refine R_push cd_32_27 ?_
        refine R_iret cd_32_28 rfl ?_
        unfold qc_rM
        rw [qb_f (by omega)]
theorem K_Farm_bestOffer {M : qa_Mem} (h1 : 0 ≤ M 5 6) (h2 : M 5 6 ≤ 10) : qa_E 36 0 [(0, qr 5)] [] (M) (.inl (some (qi (qc_wb M)))) (M) := by
  have lp : ∀ (k : Nat) (j : Nat), j + k = (M 5 6).toNat → qa_E 36 4 [(0, qr 5), (1, qi (qf_best (M 28) (M 27) j)), (2, qi j)] [] M (.inl (some (qi (qc_wb M)))) M := by
    intro k
    induction k with
    | zero =>
      intro j g1
      refine R_iload cd_36_4 rfl ?_
      refine R_aload cd_36_5 rfl ?_
      refine R_getf cd_36_6 rfl (by decide) ?_
      refine R_icmp_ge 48 cd_36_9 rfl (fun b9 => ?_) (fun b9 => ?_)
      · refine R_iload cd_36_48 rfl ?_
        exact R_iret cd_36_49 (by unfold qc_wb; rw [← g1]; rfl) rfl
      · omega
    | succ k ih =>
      intro j g1
      have e := ih (j + 1) (by omega)
      rw [Int.natCast_add] at e
      have r1 := qf_best_r (M 28) (M 27) j
      unfold qf_best at e
      refine R_iload cd_36_4 rfl ?_
      refine R_aload cd_36_5 rfl ?_
      refine R_getf cd_36_6 rfl (by decide) ?_
      refine R_icmp_ge 48 cd_36_9 rfl (fun b9 => ?_) (fun b9 => ?_)
      · omega
      · refine R_aload cd_36_12 rfl ?_
        refine R_getr cd_36_13 rfl ?_
        refine R_iload cd_36_16 rfl ?_
        refine R_iald cd_36_17 rfl (by omega) (by omega) ?_
        refine R_if_le 42 cd_36_18 rfl (fun b18 => ?_) (fun b18 => ?_)
        · refine R_iinc cd_36_42 rfl (by unfold qa_InR; first | omega | (simp [qa_upd, qa_blk] <;> omega)) ?_
          refine R_goto cd_36_45 ?_
          first
            | rw [if_pos ⟨by omega, by omega⟩] at e
              exact R_norm (qs_c rfl (qs_c rfl (qs_c rfl qs_n))) e
            | rw [if_neg (by omega)] at e
              exact R_norm (qs_c rfl (qs_c rfl (qs_c rfl qs_n))) e
        · refine R_iload cd_36_21 rfl ?_
          refine R_if_lt 40 cd_36_22 rfl (fun b22 => ?_) (fun b22 => ?_)
          · refine R_iload cd_36_40 rfl ?_
            refine R_istore cd_36_41 ?_
            refine R_iinc cd_36_42 rfl (by unfold qa_InR; first | omega | (simp [qa_upd, qa_blk] <;> omega)) ?_
            refine R_goto cd_36_45 ?_
            first
              | rw [if_pos ⟨by omega, by omega⟩] at e
                exact R_norm (qs_c rfl (qs_c rfl (qs_c rfl qs_n))) e
              | rw [if_neg (by omega)] at e
                exact R_norm (qs_c rfl (qs_c rfl (qs_c rfl qs_n))) e
          · refine R_aload cd_36_25 rfl ?_
            refine R_getr cd_36_26 rfl ?_
            refine R_iload cd_36_29 rfl ?_
            refine R_iald cd_36_30 rfl (by omega) (by omega) ?_
            refine R_aload cd_36_31 rfl ?_
            refine R_getr cd_36_32 rfl ?_
            refine R_iload cd_36_35 rfl ?_
            refine R_iald cd_36_36 rfl (by omega) (by omega) ?_
            refine R_icmp_le 42 cd_36_37 rfl (fun b37 => ?_) (fun b37 => ?_)
            · refine R_iinc cd_36_42 rfl (by unfold qa_InR; first | omega | (simp [qa_upd, qa_blk] <;> omega)) ?_
              refine R_goto cd_36_45 ?_
              first
                | rw [if_pos ⟨by omega, by omega⟩] at e
                  exact R_norm (qs_c rfl (qs_c rfl (qs_c rfl qs_n))) e
                | rw [if_neg (by omega)] at e
                  exact R_norm (qs_c rfl (qs_c rfl (qs_c rfl qs_n))) e
            · refine R_iload cd_36_40 rfl ?_
              refine R_istore cd_36_41 ?_
              refine R_iinc cd_36_42 rfl (by unfold qa_InR; first | omega | (simp [qa_upd, qa_blk] <;> omega)) ?_
              refine R_goto cd_36_45 ?_
              first
                | rw [if_pos ⟨by omega, by omega⟩] at e
                  exact R_norm (qs_c rfl (qs_c rfl (qs_c rfl qs_n))) e
                | rw [if_neg (by omega)] at e
                  exact R_norm (qs_c rfl (qs_c rfl (qs_c rfl qs_n))) e
  refine R_push cd_36_0 ?_
  refine R_istore cd_36_1 ?_
  refine R_push cd_36_2 ?_
  refine R_istore cd_36_3 ?_
  exact R_norm (qs_c rfl (qs_c rfl (qs_c rfl qs_n))) (lp _ 0 (Nat.zero_add _))
theorem K_Farm_sell0 {m : Int} {M : qa_Mem} (h1 : 0 ≤ M 5 6) (h2 : M 5 6 ≤ 10) (h3 : qc_wb M < 0) : qa_E 35 0 [(0, qr 5), (1, qi (m))] [] (M) (.inl (some (qi (0)))) (M) := by
  refine R_aload cd_35_0 rfl ?_
  refine R_call1 cd_35_1 rfl rfl (K_Farm_bestOffer (by omega) (by omega)) ?_
  refine R_istore cd_35_4 ?_
  refine R_iload cd_35_5 rfl ?_
  refine R_if_ge 11 cd_35_6 rfl (fun b6 => ?_) (fun b6 => ?_)
  · omega
  · refine R_push cd_35_9 ?_
    exact R_iret cd_35_10 (by first | rfl | omega) rfl
theorem K_Farm_sell1 {m : Int} {M : qa_Mem} (h1 : 0 ≤ M 5 6) (h2 : M 5 6 ≤ 10) (h3 : 0 ≤ qc_wb M) (h4 : M 28 (qc_wb M) ≤ 50) (h5 : 0 ≤ m) (h6 : m < 4) (h7 : 0 ≤ M 25 m ∧ M 25 m ≤ 100) : qa_E 35 0 [(0, qr 5), (1, qi (m))] [] (M) (.inl (some (qi (1)))) (qa_upd (qa_upd (qa_upd M 28 (qc_wb M) (M 28 (qc_wb M) - 1)) 5 7 (qa_wrap (M 5 7 + M 27 (qc_wb M)))) 25 m (M 25 m + 3)) := by
  have r1 := qf_best_r (M 28) (M 27) (M 5 6).toNat
  rw [show qf_best (M 28) (M 27) (M 5 6).toNat = qc_wb M from rfl] at r1
  refine R_aload cd_35_0 rfl ?_
  refine R_call1 cd_35_1 rfl rfl (K_Farm_bestOffer (by omega) (by omega)) ?_
  refine R_istore cd_35_4 ?_
  refine R_iload cd_35_5 rfl ?_
  refine R_if_ge 11 cd_35_6 rfl (fun b6 => ?_) (fun b6 => ?_)
  · refine R_aload cd_35_11 rfl ?_
    refine R_getr cd_35_12 rfl ?_
    refine R_iload cd_35_15 rfl ?_
    refine R_dup2 cd_35_16 rfl rfl ?_
    refine R_iald cd_35_17 rfl (by omega) (by omega) ?_
    refine R_push cd_35_18 ?_
    refine R_isub cd_35_19 (by unfold qa_InR; first | omega | (simp [qa_upd, qa_blk] <;> omega)) ?_
    refine R_iast cd_35_20 rfl (by omega) (by omega)  ?_
    refine R_aload cd_35_21 rfl ?_
    refine R_dup cd_35_22 rfl ?_
    refine R_getf cd_35_23 rfl (by decide) ?_
    refine R_aload cd_35_26 rfl ?_
    refine R_getr cd_35_27 rfl ?_
    refine R_iload cd_35_30 rfl ?_
    refine R_iald cd_35_31 rfl (by omega) (by omega) ?_
    refine R_iaddw cd_35_32 ?_
    refine R_putf cd_35_33 rfl (by decide) ?_
    refine R_aload cd_35_36 rfl ?_
    refine R_getr cd_35_37 rfl ?_
    refine R_iload cd_35_40 rfl ?_
    refine R_dup2 cd_35_41 rfl rfl ?_
    refine R_iald cd_35_42 rfl (by omega) (by omega) ?_
    refine R_push cd_35_43 ?_
    refine R_iadd cd_35_44 (show qa_InR (M 25 m + 3) by unfold qa_InR; omega) ?_
    refine R_iast cd_35_45 rfl (by omega) (by omega)  ?_
    refine R_push cd_35_46 ?_
    exact R_iret cd_35_47 (by first | rfl | omega) rfl
  · omega
