def qw_sum (A : Int → Int) : Nat → Int
  | 0 => 0
  | n + 1 => qa_wrap (qw_sum A n + A n)
theorem K_Court_show1 {M : qa_Mem} (h3 : ¬ (0 < M 4 4 ∧ qc_std M)) : qa_E 131 0 [(0, qr 0)] [] (M) (.inr 3) (qa_upd M 99 0 (M 99 0 + 1)) := by
  refine R_aload cd_131_0 rfl ?_
  refine R_getr cd_131_1 rfl ?_
  refine R_call1 cd_131_4 rfl rfl K_Film_length ?_
  refine R_if_le 21 cd_131_7 rfl (fun b7 => ?_) (fun b7 => ?_)
  · refine R_push cd_131_21 ?_
    exact R_callx1 cd_131_22 rfl rfl rfl (K_Court_mustBePossibleX rfl) rfl rfl
  · refine R_aload cd_131_10 rfl ?_
    refine R_call1 cd_131_11 rfl rfl K_Court_isFilmStanding ?_
    refine R_ifeq_b 21 cd_131_14 rfl (fun b14 => ?_) (fun b14 => ?_)
    · refine R_push cd_131_21 ?_
      exact R_callx1 cd_131_22 rfl rfl rfl (K_Court_mustBePossibleX rfl) rfl rfl
    · refine R_push cd_131_17 ?_
      refine R_goto cd_131_18 ?_
      exfalso
      first | omega | exact absurd ⟨b7, b14⟩ h3
def qc_due (M : qa_Mem) (w : Int) : Int := qc_sec M w / 24 * M 0 5
def qc_pay (M : qa_Mem) (a : Int) : qa_Mem := qa_blk M 8 (fun w => if 0 ≤ w ∧ w < a then qa_wrap (M 8 w + qc_due M w) else M 8 w)
theorem K_Court_show0 {M : qa_Mem} (h1 : 0 ≤ M 1 3) (h2 : M 1 3 ≤ 8) (h3 : ∀ j, 0 ≤ j → j < 120 → 0 ≤ M 23 j ∧ M 23 j ≤ 10) (h4 : 0 < M 4 4) (h5 : qc_std M) (h6 : 0 ≤ M 0 5 ∧ M 0 5 ≤ 1000) : qa_E 131 0 [(0, qr 0)] [] (M) (.inl (some (qi (qw_sum (qc_due M) 6)))) (qc_pay M 6) := by
  have lp : ∀ (k : Nat) (j : Nat), j + k = 6 → qa_E 131 29 [(0, qr 0), (1, qi (qw_sum (qc_due M) j)), (2, qi j)] [] (qc_pay M j) (.inl (some (qi (qw_sum (qc_due M) 6)))) (qc_pay M 6) := by
    intro k
    induction k with
    | zero =>
      intro j g1
      obtain rfl : j = 6 := by omega
      refine R_iload cd_131_29 rfl ?_
      refine R_push cd_131_30 ?_
      refine R_icmp_ge 66 cd_131_32 rfl (fun b32 => ?_) (fun b32 => ?_)
      · refine R_iload cd_131_66 rfl ?_
        exact R_iret cd_131_67 (by first | rfl | omega) rfl
      · omega
    | succ k ih =>
      intro j g1
      have e := ih (j + 1) (by omega)
      have es := K_Court_secondsOf (w := (j : Int)) (M := qc_pay M j) h1 h2 h3
      rw [show qc_sec (qc_pay M j) j = qc_sec M j from rfl] at es
      have r1 : 0 ≤ qc_sec M j ∧ qc_sec M j ≤ 120 * 10 := by
        unfold qc_sec
        have := qf_sum_r (A := fun f => if qa_and (qf_or (fun t => M 13 (t * 120 + f)) (3 * M 1 3).toNat) (qa_shl 1 j) = 0 then 0 else M 23 f) (B := 10) 120 (fun i a b => by
          split
          · omega
          · exact h3 i a (by omega))
        exact this
      have r2 := qf_mulb (d := qc_sec M j / 24) (e := M 0 5) (A := 50) (B := 1000) (by omega) (by omega) (by omega) (by omega)
      have ep : (qc_pay M j) 8 j = M 8 j := by unfold qc_pay; rw [qa_blk_e, if_neg (by omega)]
      have em : qa_upd (qc_pay M j) 8 j (qa_wrap (M 8 j + qc_due M j)) = qc_pay M ((j + 1 : Nat) : Int) := by
        rw [Int.natCast_add]
        funext c9 q
        by_cases g8 : c9 = 8
        · subst g8
          simp only [qc_pay, qa_upd, qa_blk, if_true, true_and]
          by_cases hq : q = (j : Int)
          · subst hq; rw [if_pos rfl, if_pos (by omega)]
          · rw [if_neg hq]
            (repeat' split) <;> first | rfl | omega | (congr 1 <;> omega)
        · simp [qc_pay, qa_upd, qa_blk, g8]
      rw [← em, show qw_sum (qc_due M) (j + 1) = qa_wrap (qw_sum (qc_due M) j + qc_due M j) from rfl, Int.natCast_add] at e
      refine R_iload cd_131_29 rfl ?_
      refine R_push cd_131_30 ?_
      refine R_icmp_ge 66 cd_131_32 rfl (fun b32 => ?_) (fun b32 => ?_)
      · omega
      · refine R_aload cd_131_35 rfl ?_
        refine R_iload cd_131_36 rfl ?_
        refine R_call2 cd_131_37 rfl rfl es ?_
        refine R_aload cd_131_40 rfl ?_
        refine R_getf cd_131_41 rfl (by decide) ?_
        refine R_imul cd_131_44 (show qa_InR (qc_sec M j / 24 * M 0 5) by unfold qa_InR; omega) ?_
        refine R_istore cd_131_45 ?_
        refine R_aload cd_131_46 rfl ?_
        refine R_getr cd_131_47 rfl ?_
        refine R_iload cd_131_50 rfl ?_
        refine R_dup2 cd_131_51 rfl rfl ?_
        refine R_iald cd_131_52 rfl (by omega) (by omega) ?_
        refine R_iload cd_131_53 rfl ?_
        refine R_iaddw cd_131_54 ?_
        refine R_iast cd_131_55 rfl (by omega) (by omega)  ?_
        refine R_iload cd_131_56 rfl ?_
        refine R_iload cd_131_57 rfl ?_
        refine R_iaddw cd_131_58 ?_
        refine R_istore cd_131_59 ?_
        refine R_iinc cd_131_60 rfl (by unfold qa_InR; first | omega | (simp [qa_upd, qa_blk] <;> omega)) ?_
        refine R_goto cd_131_63 ?_
        rw [ep]
        exact R_norm (qs_c rfl (qs_c rfl (qs_c rfl qs_n))) e
  have e := lp 6 0 (by omega)
  rw [show qc_pay M ((0 : Nat) : Int) = M by
    funext c9 q
    by_cases g8 : c9 = 8
    · subst g8; simp only [qc_pay, qa_blk, if_true]; rw [if_neg (by omega)]
    · simp [qc_pay, qa_blk, g8]] at e
  refine R_aload cd_131_0 rfl ?_
  refine R_getr cd_131_1 rfl ?_
  refine R_call1 cd_131_4 rfl rfl K_Film_length ?_
  refine R_if_le 21 cd_131_7 rfl (fun b7 => ?_) (fun b7 => ?_)
  · refine R_push cd_131_21 ?_
    exfalso
    first | omega | exact b14 h5
  · refine R_aload cd_131_10 rfl ?_
    refine R_call1 cd_131_11 rfl rfl K_Court_isFilmStanding ?_
    refine R_ifeq_b 21 cd_131_14 rfl (fun b14 => ?_) (fun b14 => ?_)
    · refine R_push cd_131_21 ?_
      exfalso
      first | omega | exact b14 h5
    · refine R_push cd_131_17 ?_
      refine R_goto cd_131_18 ?_
      refine R_callv1 cd_131_22 rfl rfl (K_Court_mustBePossible (by decide)) ?_
      refine R_push cd_131_25 ?_
      refine R_istore cd_131_26 ?_
      refine R_push cd_131_27 ?_
      refine R_istore cd_131_28 ?_
      exact R_norm (qs_c rfl (qs_c rfl (qs_c rfl qs_n))) e
