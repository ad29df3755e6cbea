/-! the rendered frames -/
theorem K_Stills_render {f : Int} {M : qa_Mem} (h1 : 0 ≤ M 1 3) (h2 : M 1 3 ≤ 8) (h3 : 0 ≤ f) (h4 : f < 120) : qa_E 59 0 [(0, qr 3), (1, qi (f)), (2, qr (1))] [] (M) (.inl none) (qs_rend M f) := by
  have lp : ∀ (k : Nat) (j : Int), j + k = 3 * M 1 3 → 0 ≤ j → qa_E 59 2 [(0, qr 3), (1, qi f), (2, qr 1), (3, qi j)] [] (qa_blk M 18 (fun q => if q % 120 = f ∧ 0 ≤ q ∧ q < 120 * j then M 12 q else M 18 q)) (.inl none) (qs_rend M f) := by
    intro k
    induction k with
    | zero =>
      intro j g1 g2
      have e : (fun q : Int => if q % 120 = f ∧ 0 ≤ q ∧ q < 120 * j then M 12 q else M 18 q) = (fun q => if q % 120 = f ∧ 0 ≤ q ∧ q < 360 * M 1 3 then M 12 q else M 18 q) := by
        funext q
        (repeat' split) <;> first | rfl | omega | (congr 1 <;> omega)
      rw [e]
      refine R_iload cd_59_2 rfl ?_
      refine R_aload cd_59_3 rfl ?_
      refine R_call1 cd_59_4 rfl rfl (K_Rig_trackCount h1 h2) ?_
      refine R_icmp_ge 33 cd_59_7 rfl (fun b7 => ?_) (fun b7 => ?_)
      · refine R_aload cd_59_33 rfl ?_
        refine R_getr cd_59_34 rfl ?_
        refine R_iload cd_59_37 rfl ?_
        refine R_aload cd_59_38 rfl ?_
        refine R_call1 cd_59_39 rfl rfl K_Rig_boneCount ?_
        refine R_iast cd_59_42 rfl (by omega) (by omega)  ?_
        refine R_aload cd_59_43 rfl ?_
        refine R_getr cd_59_44 rfl ?_
        refine R_iload cd_59_47 rfl ?_
        refine R_push cd_59_48 ?_
        refine R_iast cd_59_49 rfl (by omega) (by omega)  ?_
        exact R_vret cd_59_50 rfl
      · exact absurd b7 (show ¬ j < 3 * M 1 3 by omega)
    | succ k ih =>
      intro j g1 g2
      have e := ih (j + 1) (by omega) (by omega)
      have em : qa_upd (qa_blk M 18 (fun q => if q % 120 = f ∧ 0 ≤ q ∧ q < 120 * j then M 12 q else M 18 q)) 18 (j * 120 + f) (M 12 (j * 120 + f)) = qa_blk M 18 (fun q => if q % 120 = f ∧ 0 ≤ q ∧ q < 120 * (j + 1) then M 12 q else M 18 q) := by
        funext c9 q
        by_cases g18 : c9 = 18
        · subst g18
          simp only [qa_upd, qa_blk, if_true, true_and]
          by_cases hq : q = j * 120 + f
          · subst hq; rw [if_pos rfl, if_pos (by omega)]
          · rw [if_neg hq]
            (repeat' split) <;> first | rfl | omega | (congr 1 <;> omega)
        · simp [qa_upd, qa_blk, g18]
      rw [← em] at e
      refine R_iload cd_59_2 rfl ?_
      refine R_aload cd_59_3 rfl ?_
      refine R_call1 cd_59_4 rfl rfl (K_Rig_trackCount h1 h2) ?_
      refine R_icmp_ge 33 cd_59_7 rfl (fun b7 => ?_) (fun b7 => ?_)
      · exact absurd b7 (show ¬ 3 * M 1 3 ≤ j by omega)
      · refine R_aload cd_59_10 rfl ?_
        refine R_getr cd_59_11 rfl ?_
        refine R_iload cd_59_14 rfl ?_
        refine R_push cd_59_15 ?_
        refine R_imul cd_59_17 (by unfold qa_InR; first | omega | (simp [qa_upd, qa_blk] <;> omega)) ?_
        refine R_iload cd_59_18 rfl ?_
        refine R_iadd cd_59_19 (by unfold qa_InR; first | omega | (simp [qa_upd, qa_blk] <;> omega)) ?_
        refine R_aload cd_59_20 rfl ?_
        refine R_iload cd_59_21 rfl ?_
        refine R_iload cd_59_22 rfl ?_
        refine R_call3 cd_59_23 rfl rfl (K_Rig_poseAt (by omega) (by omega) (by omega) (by omega)) ?_
        refine R_iast cd_59_26 rfl (by omega) (by omega)  ?_
        refine R_iinc cd_59_27 rfl (by unfold qa_InR; first | omega | (simp [qa_upd, qa_blk] <;> omega)) ?_
        refine R_goto cd_59_30 ?_
        exact R_norm (qs_c rfl (qs_c rfl (qs_c rfl (qs_c rfl qs_n)))) e
  have e := lp (3 * M 1 3).toNat 0 (by omega) (by omega)
  have em : qa_blk M 18 (fun q => if q % 120 = f ∧ 0 ≤ q ∧ q < 120 * 0 then M 12 q else M 18 q) = M := by
    funext c9 j9
    by_cases g18 : c9 = 18
    · subst g18; simp [qa_upd, qa_blk] <;> ((repeat' split) <;> first | rfl | omega | (congr 1 <;> omega) | (simp_all; done) | (simp_all; omega))
    · skip
      simp [qa_upd, qa_blk, g18]
  rw [em] at e
  refine R_push cd_59_0 ?_
  refine R_istore cd_59_1 ?_
  exact R_norm (qs_c rfl (qs_c rfl (qs_c rfl (qs_c rfl qs_n)))) e
theorem K_Stills_isAsMade {f : Int} {M : qa_Mem} (h1 : 0 ≤ M 1 3) (h2 : M 1 3 ≤ 8) (h3 : 0 ≤ f) (h4 : f < 120) : qa_E 63 0 [(0, qr 3), (1, qi (f)), (2, qr (1))] [] (M) (.inl (some (qi (qb (qs_am M f))))) (M) := by
  have lp : ∀ (k : Nat) (j : Int), j + k = 3 * M 1 3 → 0 ≤ j → M 19 f = M 1 3 → (∀ t : Int, 0 ≤ t → t < j → M 18 (t * 120 + f) = M 12 (t * 120 + f)) → qa_E 63 17 [(0, qr 3), (1, qi f), (2, qr 1), (3, qi j)] [] M (.inl (some (qi (qb (qs_am M f))))) M := by
    intro k
    induction k with
    | zero =>
      intro j g1 g2 g3 g4
      refine R_iload cd_63_17 rfl ?_
      refine R_aload cd_63_18 rfl ?_
      refine R_call1 cd_63_19 rfl rfl (K_Rig_trackCount (by omega) (by omega)) ?_
      refine R_icmp_ge 53 cd_63_22 rfl (fun b22 => ?_) (fun b22 => ?_)
      · refine R_push cd_63_53 ?_
        exact R_zret_t cd_63_54 ⟨g3, fun t q1 q2 => g4 t q1 (by omega)⟩ rfl
      · omega
    | succ k ih =>
      intro j g1 g2 g3 g4
      refine R_iload cd_63_17 rfl ?_
      refine R_aload cd_63_18 rfl ?_
      refine R_call1 cd_63_19 rfl rfl (K_Rig_trackCount (by omega) (by omega)) ?_
      refine R_icmp_ge 53 cd_63_22 rfl (fun b22 => ?_) (fun b22 => ?_)
      · omega
      · refine R_aload cd_63_25 rfl ?_
        refine R_getr cd_63_26 rfl ?_
        refine R_iload cd_63_29 rfl ?_
        refine R_push cd_63_30 ?_
        refine R_imul cd_63_32 (by unfold qa_InR; first | omega | (simp [qa_upd, qa_blk] <;> omega)) ?_
        refine R_iload cd_63_33 rfl ?_
        refine R_iadd cd_63_34 (by unfold qa_InR; first | omega | (simp [qa_upd, qa_blk] <;> omega)) ?_
        refine R_iald cd_63_35 rfl (by omega) (by omega) ?_
        refine R_aload cd_63_36 rfl ?_
        refine R_iload cd_63_37 rfl ?_
        refine R_iload cd_63_38 rfl ?_
        refine R_call3 cd_63_39 rfl rfl (K_Rig_poseAt (by omega) (by omega) (by omega) (by omega)) ?_
        refine R_icmp_eq 47 cd_63_42 rfl (fun b42 => ?_) (fun b42 => ?_)
        · refine R_iinc cd_63_47 rfl (by unfold qa_InR; first | omega | (simp [qa_upd, qa_blk] <;> omega)) ?_
          refine R_goto cd_63_50 ?_
          have e := ih (j + 1) (by omega) (by omega) g3 (fun t q1 q2 => by
            by_cases hq : t = j
            · subst hq; exact b42
            · exact g4 t q1 (by omega))
          exact R_norm (qs_c rfl (qs_c rfl (qs_c rfl (qs_c rfl qs_n)))) e
        · refine R_push cd_63_45 ?_
          exact R_zret_f cd_63_46 (fun q => b42 (q.2 j g2 (by omega))) rfl
  refine R_aload cd_63_0 rfl ?_
  refine R_getr cd_63_1 rfl ?_
  refine R_iload cd_63_4 rfl ?_
  refine R_iald cd_63_5 rfl (by omega) (by omega) ?_
  refine R_aload cd_63_6 rfl ?_
  refine R_call1 cd_63_7 rfl rfl K_Rig_boneCount ?_
  refine R_icmp_eq 15 cd_63_10 rfl (fun b10 => ?_) (fun b10 => ?_)
  · refine R_push cd_63_15 ?_
    refine R_istore cd_63_16 ?_
    exact R_norm (qs_c rfl (qs_c rfl (qs_c rfl (qs_c rfl qs_n)))) (lp (3 * M 1 3).toNat 0 (by omega) (by omega) b10 (fun t q1 q2 => by omega))
  · refine R_push cd_63_13 ?_
    exact R_zret_f cd_63_14 (fun q => b10 q.1) rfl
theorem K_Stills_compareAll {M : qa_Mem} (h1 : 0 ≤ M 1 3) (h2 : M 1 3 ≤ 8) : qa_E 60 0 [(0, qr 3), (1, qr (1))] [] (M) (.inl none) (qs_cmp M 120) := by
  have lp : ∀ (k : Nat) (j : Int), j + k = 120 → 0 ≤ j → qa_E 60 2 [(0, qr 3), (1, qr 1), (2, qi j)] [] (qs_cmp M j) (.inl none) (qs_cmp M 120) := by
    intro k
    induction k with
    | zero =>
      intro j g1 g2
      obtain rfl : j = 120 := by omega
      refine R_iload cd_60_2 rfl ?_
      refine R_push cd_60_3 ?_
      refine R_icmp_ge 43 cd_60_5 rfl (fun b5 => ?_) (fun b5 => ?_)
      · exact R_vret cd_60_43 rfl
      · omega
    | succ k ih =>
      intro j g1 g2
      have e := ih (j + 1) (by omega) (by omega)
      have es : (qs_cmp M j) 20 j = M 20 j := by
        unfold qs_cmp; rw [qa_blk_e, if_neg (by omega)]
      have ea : qs_am (qs_cmp M j) j ↔ qs_am M j := Iff.rfl
      have key : M 20 j ≠ 0 → ∀ x, x = 2 - qb (qs_am M j) → qa_upd (qs_cmp M j) 20 j x = qs_cmp M (j + 1) := by
        intro q0 x hx
        subst hx
        funext c9 q
        by_cases g20 : c9 = 20
        · subst g20
          simp only [qa_upd, qs_cmp, qa_blk, if_true, true_and]
          by_cases hq : q = j
          · subst hq; rw [if_pos rfl, if_pos (by omega)]
          · rw [if_neg hq]
            (repeat' split) <;> first | rfl | omega | (congr 1 <;> omega)
        · simp [qa_upd, qs_cmp, qa_blk, g20]
      have key0 : M 20 j = 0 → qs_cmp M j = qs_cmp M (j + 1) := by
        intro q0
        funext c9 q
        by_cases g20 : c9 = 20
        · subst g20
          simp only [qs_cmp, qa_blk, if_true]
          by_cases hq : q = j
          · subst hq; rw [if_neg (by omega), if_neg (by omega)]
          · (repeat' split) <;> first | rfl | omega | (congr 1 <;> omega)
        · simp [qs_cmp, qa_blk, g20]
      refine R_iload cd_60_2 rfl ?_
      refine R_push cd_60_3 ?_
      refine R_icmp_ge 43 cd_60_5 rfl (fun b5 => ?_) (fun b5 => ?_)
      · omega
      · refine R_aload cd_60_8 rfl ?_
        refine R_getr cd_60_9 rfl ?_
        refine R_iload cd_60_12 rfl ?_
        refine R_iald cd_60_13 rfl (by omega) (by omega) ?_
        refine R_if_eq 37 cd_60_14 rfl (fun b14 => ?_) (fun b14 => ?_)
        · refine R_iinc cd_60_37 rfl (by unfold qa_InR; first | omega | (simp [qa_upd, qa_blk] <;> omega)) ?_
          refine R_goto cd_60_40 ?_
          first
            | rw [key (by rw [← es]; exact b14) _ (by rw [qb_t (ea.mp b28)]; decide)]
              exact R_norm (qs_c rfl (qs_c rfl (qs_c rfl qs_n))) e
            | rw [key (by rw [← es]; exact b14) _ (by rw [qb_f (fun z => b28 (ea.mpr z))]; decide)]
              exact R_norm (qs_c rfl (qs_c rfl (qs_c rfl qs_n))) e
            | rw [key0 (by rw [← es]; exact b14)]
              exact R_norm (qs_c rfl (qs_c rfl (qs_c rfl qs_n))) e
        · refine R_aload cd_60_17 rfl ?_
          refine R_getr cd_60_18 rfl ?_
          refine R_iload cd_60_21 rfl ?_
          refine R_aload cd_60_22 rfl ?_
          refine R_iload cd_60_23 rfl ?_
          refine R_aload cd_60_24 rfl ?_
          refine R_call3 cd_60_25 rfl rfl (K_Stills_isAsMade (M := qs_cmp M j) h1 h2 g2 (by omega)) ?_
          refine R_ifeq_b 35 cd_60_28 rfl (fun b28 => ?_) (fun b28 => ?_)
          · refine R_push cd_60_35 ?_
            refine R_iast cd_60_36 rfl (by omega) (by omega)  ?_
            refine R_iinc cd_60_37 rfl (by unfold qa_InR; first | omega | (simp [qa_upd, qa_blk] <;> omega)) ?_
            refine R_goto cd_60_40 ?_
            first
              | rw [key (by rw [← es]; exact b14) _ (by rw [qb_t (ea.mp b28)]; decide)]
                exact R_norm (qs_c rfl (qs_c rfl (qs_c rfl qs_n))) e
              | rw [key (by rw [← es]; exact b14) _ (by rw [qb_f (fun z => b28 (ea.mpr z))]; decide)]
                exact R_norm (qs_c rfl (qs_c rfl (qs_c rfl qs_n))) e
              | rw [key0 (by rw [← es]; exact b14)]
                exact R_norm (qs_c rfl (qs_c rfl (qs_c rfl qs_n))) e
          · refine R_push cd_60_31 ?_
            refine R_goto cd_60_32 ?_
            refine R_iast cd_60_36 rfl (by omega) (by omega)  ?_
            refine R_iinc cd_60_37 rfl (by unfold qa_InR; first | omega | (simp [qa_upd, qa_blk] <;> omega)) ?_
            refine R_goto cd_60_40 ?_
            first
              | rw [key (by rw [← es]; exact b14) _ (by rw [qb_t (ea.mp b28)]; decide)]
                exact R_norm (qs_c rfl (qs_c rfl (qs_c rfl qs_n))) e
              | rw [key (by rw [← es]; exact b14) _ (by rw [qb_f (fun z => b28 (ea.mpr z))]; decide)]
                exact R_norm (qs_c rfl (qs_c rfl (qs_c rfl qs_n))) e
              | rw [key0 (by rw [← es]; exact b14)]
                exact R_norm (qs_c rfl (qs_c rfl (qs_c rfl qs_n))) e
  have e := lp 120 0 (by omega) (by omega)
  have em : qs_cmp M 0 = M := by
    funext c9 q
    by_cases g20 : c9 = 20
    · subst g20; simp only [qs_cmp, qa_blk, if_true]; rw [if_neg (by omega)]
    · simp [qs_cmp, qa_blk, g20]
  rw [em] at e
  refine R_push cd_60_0 ?_
  refine R_istore cd_60_1 ?_
  exact R_norm (qs_c rfl (qs_c rfl (qs_c rfl qs_n))) e
theorem K_Stills_voidCount {M : qa_Mem} : qa_E 61 0 [(0, qr 3)] [] (M) (.inl (some (qi (qf_cnt (fun f => M 20 f = 2) 120)))) (M) := by
  have lp : ∀ (k : Nat) (j : Nat), j + k = 120 → qa_E 61 4 [(0, qr 3), (1, qi (qf_cnt (fun f => M 20 f = 2) j)), (2, qi j)] [] M (.inl (some (qi (qf_cnt (fun f => M 20 f = 2) 120)))) M := by
    intro k
    induction k with
    | zero =>
      intro j g1
      obtain rfl : j = 120 := by omega
      refine R_iload cd_61_4 rfl ?_
      refine R_push cd_61_5 ?_
      refine R_icmp_ge 29 cd_61_7 rfl (fun b7 => ?_) (fun b7 => ?_)
      · refine R_iload cd_61_29 rfl ?_
        exact R_iret cd_61_30 (by first | rfl | omega) rfl
      · omega
    | succ k ih =>
      intro j g1
      have e := ih (j + 1) (by omega)
      rw [Int.natCast_add] at e
      have r1 := qf_cnt_r (fun f => M 20 f = 2) j
      unfold qf_cnt at e
      refine R_iload cd_61_4 rfl ?_
      refine R_push cd_61_5 ?_
      refine R_icmp_ge 29 cd_61_7 rfl (fun b7 => ?_) (fun b7 => ?_)
      · omega
      · refine R_aload cd_61_10 rfl ?_
        refine R_getr cd_61_11 rfl ?_
        refine R_iload cd_61_14 rfl ?_
        refine R_iald cd_61_15 rfl (by omega) (by omega) ?_
        refine R_push cd_61_16 ?_
        refine R_icmp_ne 23 cd_61_17 rfl (fun b17 => ?_) (fun b17 => ?_)
        · refine R_iinc cd_61_23 rfl (by unfold qa_InR; first | omega | (simp [qa_upd, qa_blk] <;> omega)) ?_
          refine R_goto cd_61_26 ?_
          first
            | rw [qb_t (by assumption)] at e
              exact R_norm (qs_c rfl (qs_c rfl (qs_c rfl qs_n))) e
            | rw [qb_f (by assumption), Int.add_zero] at e
              exact R_norm (qs_c rfl (qs_c rfl (qs_c rfl qs_n))) e
        · refine R_iinc cd_61_20 rfl (by unfold qa_InR; first | omega | (simp [qa_upd, qa_blk] <;> omega)) ?_
          refine R_iinc cd_61_23 rfl (by unfold qa_InR; first | omega | (simp [qa_upd, qa_blk] <;> omega)) ?_
          refine R_goto cd_61_26 ?_
          first
            | rw [qb_t (by assumption)] at e
              exact R_norm (qs_c rfl (qs_c rfl (qs_c rfl qs_n))) e
            | rw [qb_f (by assumption), Int.add_zero] at e
              exact R_norm (qs_c rfl (qs_c rfl (qs_c rfl qs_n))) e
  refine R_push cd_61_0 ?_
  refine R_istore cd_61_1 ?_
  refine R_push cd_61_2 ?_
  refine R_istore cd_61_3 ?_
  exact R_norm (qs_c rfl (qs_c rfl (qs_c rfl qs_n))) (lp 120 0 (by omega))
theorem K_Stills_voidCountByAll {M : qa_Mem} (h1 : 0 ≤ M 1 3) (h2 : M 1 3 ≤ 8) : qa_E 62 0 [(0, qr 3), (1, qr (1))] [] (M) (.inl (some (qi (qf_cnt (fun f => M 20 f ≠ 0 ∧ ¬ qs_am M f) 120)))) (M) := by
  have lp : ∀ (k : Nat) (j : Nat), j + k = 120 → qa_E 62 4 [(0, qr 3), (1, qr 1), (2, qi (qf_cnt (fun f => M 20 f ≠ 0 ∧ ¬ qs_am M f) j)), (3, qi j)] [] M (.inl (some (qi (qf_cnt (fun f => M 20 f ≠ 0 ∧ ¬ qs_am M f) 120)))) M := by
    intro k
    induction k with
    | zero =>
      intro j g1
      obtain rfl : j = 120 := by omega
      refine R_iload cd_62_4 rfl ?_
      refine R_push cd_62_5 ?_
      refine R_icmp_ge 37 cd_62_7 rfl (fun b7 => ?_) (fun b7 => ?_)
      · refine R_iload cd_62_37 rfl ?_
        exact R_iret cd_62_38 (by first | rfl | omega) rfl
      · omega
    | succ k ih =>
      intro j g1
      have e := ih (j + 1) (by omega)
      rw [Int.natCast_add] at e
      have r1 := qf_cnt_r (fun f => M 20 f ≠ 0 ∧ ¬ qs_am M f) j
      unfold qf_cnt at e
      refine R_iload cd_62_4 rfl ?_
      refine R_push cd_62_5 ?_
      refine R_icmp_ge 37 cd_62_7 rfl (fun b7 => ?_) (fun b7 => ?_)
      · omega
      · refine R_aload cd_62_10 rfl ?_
        refine R_getr cd_62_11 rfl ?_
        refine R_iload cd_62_14 rfl ?_
        refine R_iald cd_62_15 rfl (by omega) (by omega) ?_
        refine R_if_eq 31 cd_62_16 rfl (fun b16 => ?_) (fun b16 => ?_)
        · refine R_iinc cd_62_31 rfl (by unfold qa_InR; first | omega | (simp [qa_upd, qa_blk] <;> omega)) ?_
          refine R_goto cd_62_34 ?_
          first
            | rw [qb_t ⟨b16, b25⟩] at e
              exact R_norm (qs_c rfl (qs_c rfl (qs_c rfl (qs_c rfl qs_n)))) e
            | rw [qb_f (fun q => absurd b25 q.2), Int.add_zero] at e
              exact R_norm (qs_c rfl (qs_c rfl (qs_c rfl (qs_c rfl qs_n)))) e
            | rw [qb_f (fun q => absurd b16 q.1), Int.add_zero] at e
              exact R_norm (qs_c rfl (qs_c rfl (qs_c rfl (qs_c rfl qs_n)))) e
        · refine R_aload cd_62_19 rfl ?_
          refine R_iload cd_62_20 rfl ?_
          refine R_aload cd_62_21 rfl ?_
          refine R_call3 cd_62_22 rfl rfl (K_Stills_isAsMade (by omega) (by omega) (by omega) (by omega)) ?_
          refine R_ifne_b 31 cd_62_25 rfl (fun b25 => ?_) (fun b25 => ?_)
          · refine R_iinc cd_62_31 rfl (by unfold qa_InR; first | omega | (simp [qa_upd, qa_blk] <;> omega)) ?_
            refine R_goto cd_62_34 ?_
            first
              | rw [qb_t ⟨b16, b25⟩] at e
                exact R_norm (qs_c rfl (qs_c rfl (qs_c rfl (qs_c rfl qs_n)))) e
              | rw [qb_f (fun q => absurd b25 q.2), Int.add_zero] at e
                exact R_norm (qs_c rfl (qs_c rfl (qs_c rfl (qs_c rfl qs_n)))) e
              | rw [qb_f (fun q => absurd b16 q.1), Int.add_zero] at e
                exact R_norm (qs_c rfl (qs_c rfl (qs_c rfl (qs_c rfl qs_n)))) e
          · refine R_iinc cd_62_28 rfl (by unfold qa_InR; first | omega | (simp [qa_upd, qa_blk] <;> omega)) ?_
            refine R_iinc cd_62_31 rfl (by unfold qa_InR; first | omega | (simp [qa_upd, qa_blk] <;> omega)) ?_
            refine R_goto cd_62_34 ?_
            first
              | rw [qb_t ⟨b16, b25⟩] at e
                exact R_norm (qs_c rfl (qs_c rfl (qs_c rfl (qs_c rfl qs_n)))) e
              | rw [qb_f (fun q => absurd b25 q.2), Int.add_zero] at e
                exact R_norm (qs_c rfl (qs_c rfl (qs_c rfl (qs_c rfl qs_n)))) e
              | rw [qb_f (fun q => absurd b16 q.1), Int.add_zero] at e
                exact R_norm (qs_c rfl (qs_c rfl (qs_c rfl (qs_c rfl qs_n)))) e
  refine R_push cd_62_0 ?_
  refine R_istore cd_62_1 ?_
  refine R_push cd_62_2 ?_
  refine R_istore cd_62_3 ?_
  exact R_norm (qs_c rfl (qs_c rfl (qs_c rfl (qs_c rfl qs_n)))) (lp 120 0 (by omega))
