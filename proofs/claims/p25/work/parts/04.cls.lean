/-! the class's methods on the road, small ones -/
theorem qa_upd_n {M : qa_Mem} {k a : Nat} {i v : Int} (h : a ≠ k) : qa_upd M k i v a = M a := by funext b; unfold qa_upd; rw [if_neg (fun q => h q.1)]
theorem qa_upd_i {M : qa_Mem} {k : Nat} {i v j : Int} (h : j ≠ i) : qa_upd M k i v k j = M k j := by unfold qa_upd; rw [if_neg (fun q => h q.2)]
theorem qa_upd_e {M : qa_Mem} {k : Nat} {i v : Int} : qa_upd M k i v k i = v := by unfold qa_upd; rw [if_pos ⟨rfl, rfl⟩]
/-- how many of the first n hold P -/
noncomputable def qf_cnt (P : Int → Prop) : Nat → Int
  | 0 => 0
  | n + 1 => qf_cnt P n + qb (P n)
theorem qf_cnt_r (P : Int → Prop) (n : Nat) : 0 ≤ qf_cnt P n ∧ qf_cnt P n ≤ n := by
  induction n with
  | zero => exact ⟨Int.le_refl _, Int.le_refl _⟩
  | succ n ih =>
    unfold qf_cnt
    rcases qb_01 (P n) with h | h <;> rw [h] <;> omega
theorem qb_ne {x : Int} (h : x = 0 ∨ x = 1) : x = qb (x ≠ 0) := by
  rcases h with h | h
  · rw [h, qb_f (by decide)]
  · rw [h, qb_t (by decide)]
def qf_or (A : Int → Int) : Nat → Int
  | 0 => 0
  | n + 1 => qa_or (qf_or A n) (A n)
def qf_sum (A : Int → Int) : Nat → Int
  | 0 => 0
  | n + 1 => qf_sum A n + A n
theorem qa_upd_2 {M : qa_Mem} {k : Nat} {i v w : Int} : qa_upd (qa_upd M k i v) k i w = qa_upd M k i w := by
  funext a b
  unfold qa_upd
  by_cases h : a = k ∧ b = i
  · rw [if_pos h, if_pos h]
  · rw [if_neg h, if_neg h, if_neg h]
/-- a frame's values are those of which it was made (class) -/
def qs_am (M : qa_Mem) (f : Int) : Prop := M 19 f = M 1 3 ∧ ∀ t : Int, 0 ≤ t → t < 3 * M 1 3 → M 18 (t * 120 + f) = M 12 (t * 120 + f)
theorem qf_sum_r {A : Int → Int} {B : Int} (n : Nat) (h : ∀ j : Int, 0 ≤ j → j < n → 0 ≤ A j ∧ A j ≤ B) : 0 ≤ qf_sum A n ∧ qf_sum A n ≤ n * B := by
  induction n with
  | zero => exact ⟨Int.le_refl _, by show (0 : Int) ≤ (0 : Nat) * B; simp⟩
  | succ n ih =>
    have i := ih (fun j a b => h j a (by omega))
    have t := h n (by omega) (by omega)
    unfold qf_sum
    rw [Int.natCast_add, Int.add_mul]
    omega
def qp_cell (M : qa_Mem) (b c f : Int) : Prop := (0 ≤ b ∧ b ≤ M 1 3 - 1) ∧ (0 ≤ c ∧ c ≤ 2) ∧ (0 ≤ f ∧ f ≤ 119)
/-- the frames of the film that hang on the artist's keys (class) -/
def qc_sec (M : qa_Mem) (w : Int) : Int := qf_sum (fun f => if qa_and (qf_or (fun t => M 13 (t * 120 + f)) (3 * M 1 3).toNat) (qa_shl 1 w) = 0 then 0 else M 23 f) 120
theorem K_Keys_size {M : qa_Mem} : qa_E 0 0 [(0, qr 2)] [] (M) (.inl (some (qi (M 2 4)))) (M) := by
  refine R_aload cd_0_0 rfl ?_
  refine R_getf cd_0_1 rfl (by decide) ?_
  exact R_iret cd_0_4 (by first | rfl | omega) rfl
theorem K_Film_shotCount {M : qa_Mem} : qa_E 1 0 [(0, qr 4)] [] (M) (.inl (some (qi (M 4 3)))) (M) := by
  refine R_aload cd_1_0 rfl ?_
  refine R_getf cd_1_1 rfl (by decide) ?_
  exact R_iret cd_1_4 (by first | rfl | omega) rfl
theorem K_Film_length {M : qa_Mem} : qa_E 2 0 [(0, qr 4)] [] (M) (.inl (some (qi (M 4 4)))) (M) := by
  refine R_aload cd_2_0 rfl ?_
  refine R_getf cd_2_1 rfl (by decide) ?_
  exact R_iret cd_2_4 (by first | rfl | omega) rfl
theorem K_Film_timesOf {f : Int} {M : qa_Mem} (h1 : 0 ≤ f) (h2 : f < 120) : qa_E 3 0 [(0, qr 4), (1, qi (f))] [] (M) (.inl (some (qi (M 23 f)))) (M) := by
  refine R_aload cd_3_0 rfl ?_
  refine R_getr cd_3_1 rfl ?_
  refine R_iload cd_3_4 rfl ?_
  refine R_iald cd_3_5 rfl (by omega) (by omega) ?_
  exact R_iret cd_3_6 (by first | rfl | omega) rfl
theorem K_Film_needs {f : Int} {M : qa_Mem} (h1 : 0 ≤ f) (h2 : f < 120) : qa_E 4 0 [(0, qr 4), (1, qi (f))] [] (M) (.inl (some (qi (qb (0 < M 23 f))))) (M) := by
  refine R_aload cd_4_0 rfl ?_
  refine R_getr cd_4_1 rfl ?_
  refine R_iload cd_4_4 rfl ?_
  refine R_iald cd_4_5 rfl (by omega) (by omega) ?_
  refine R_if_le 13 cd_4_6 rfl (fun b6 => ?_) (fun b6 => ?_)
  · refine R_push cd_4_13 ?_
    exact R_zret_f cd_4_14 (by omega) rfl
  · refine R_push cd_4_9 ?_
    refine R_goto cd_4_10 ?_
    exact R_zret_t cd_4_14 (by omega) rfl
theorem K_Farm_machineCount {M : qa_Mem} : qa_E 5 0 [(0, qr 5)] [] (M) (.inl (some (qi (M 5 3)))) (M) := by
  refine R_aload cd_5_0 rfl ?_
  refine R_getf cd_5_1 rfl (by decide) ?_
  exact R_iret cd_5_4 (by first | rfl | omega) rfl
theorem K_Farm_earnings {M : qa_Mem} : qa_E 6 0 [(0, qr 5)] [] (M) (.inl (some (qi (M 5 7)))) (M) := by
  refine R_aload cd_6_0 rfl ?_
  refine R_getf cd_6_1 rfl (by decide) ?_
  exact R_iret cd_6_4 (by first | rfl | omega) rfl
theorem K_Rig_boneCount {M : qa_Mem} : qa_E 7 0 [(0, qr 1)] [] (M) (.inl (some (qi (M 1 3)))) (M) := by
  refine R_aload cd_7_0 rfl ?_
  refine R_getf cd_7_1 rfl (by decide) ?_
  exact R_iret cd_7_4 (by first | rfl | omega) rfl
theorem K_Rig_trackCount {M : qa_Mem} (h1 : 0 ≤ M 1 3) (h2 : M 1 3 ≤ 8) : qa_E 8 0 [(0, qr 1)] [] (M) (.inl (some (qi (3 * M 1 3)))) (M) := by
  refine R_push cd_8_0 ?_
  refine R_aload cd_8_1 rfl ?_
  refine R_getf cd_8_2 rfl (by decide) ?_
  refine R_imul cd_8_5 (by unfold qa_InR; first | omega | (simp [qa_upd, qa_blk] <;> omega)) ?_
  exact R_iret cd_8_6 (by first | rfl | omega) rfl
theorem K_Court_isWithin {x a b : Int} {M : qa_Mem} : qa_E 41 0 [(0, qi (x)), (1, qi (a)), (2, qi (b))] [] (M) (.inl (some (qi (qb (a ≤ x ∧ x ≤ b))))) (M) := by
  refine R_iload cd_41_0 rfl ?_
  refine R_iload cd_41_1 rfl ?_
  refine R_icmp_lt 14 cd_41_2 rfl (fun b2 => ?_) (fun b2 => ?_)
  · refine R_push cd_41_14 ?_
    exact R_zret_f cd_41_15 (by omega) rfl
  · refine R_iload cd_41_5 rfl ?_
    refine R_iload cd_41_6 rfl ?_
    refine R_icmp_gt 14 cd_41_7 rfl (fun b7 => ?_) (fun b7 => ?_)
    · refine R_push cd_41_14 ?_
      exact R_zret_f cd_41_15 (by omega) rfl
    · refine R_push cd_41_10 ?_
      refine R_goto cd_41_11 ?_
      exact R_zret_t cd_41_15 (by omega) rfl
theorem K_Court_isFrame {x : Int} {M : qa_Mem} : qa_E 42 0 [(0, qi (x))] [] (M) (.inl (some (qi (qb (0 ≤ x ∧ x ≤ 119))))) (M) := by
  refine R_iload cd_42_0 rfl ?_
  refine R_push cd_42_1 ?_
  refine R_push cd_42_2 ?_
  refine R_call3 cd_42_4 rfl rfl K_Court_isWithin ?_
  exact R_zret_b cd_42_7 Iff.rfl rfl
theorem K_Rig_hasBone {b : Int} {M : qa_Mem} (h1 : 0 ≤ M 1 3) (h2 : M 1 3 ≤ 8) : qa_E 9 0 [(0, qr 1), (1, qi (b))] [] (M) (.inl (some (qi (qb (0 ≤ b ∧ b ≤ M 1 3 - 1))))) (M) := by
  refine R_iload cd_9_0 rfl ?_
  refine R_push cd_9_1 ?_
  refine R_aload cd_9_2 rfl ?_
  refine R_getf cd_9_3 rfl (by decide) ?_
  refine R_push cd_9_6 ?_
  refine R_isub cd_9_7 (by unfold qa_InR; first | omega | (simp [qa_upd, qa_blk] <;> omega)) ?_
  refine R_call3 cd_9_8 rfl rfl K_Court_isWithin ?_
  exact R_zret_b cd_9_11 Iff.rfl rfl
theorem K_Rig_hasCell {b c f : Int} {M : qa_Mem} (h1 : 0 ≤ M 1 3) (h2 : M 1 3 ≤ 8) : qa_E 10 0 [(0, qr 1), (1, qi (b)), (2, qi (c)), (3, qi (f))] [] (M) (.inl (some (qi (qb ((0 ≤ b ∧ b ≤ M 1 3 - 1) ∧ (0 ≤ c ∧ c ≤ 2) ∧ (0 ≤ f ∧ f ≤ 119)))))) (M) := by
  refine R_aload cd_10_0 rfl ?_
  refine R_iload cd_10_1 rfl ?_
  refine R_call2 cd_10_2 rfl rfl (K_Rig_hasBone (by omega) (by omega)) ?_
  refine R_ifeq_b 28 cd_10_5 rfl (fun b5 => ?_) (fun b5 => ?_)
  · refine R_push cd_10_28 ?_
    exact R_zret_f cd_10_29 (by omega) rfl
  · refine R_iload cd_10_8 rfl ?_
    refine R_push cd_10_9 ?_
    refine R_push cd_10_10 ?_
    refine R_call3 cd_10_11 rfl rfl K_Court_isWithin ?_
    refine R_ifeq_b 28 cd_10_14 rfl (fun b14 => ?_) (fun b14 => ?_)
    · refine R_push cd_10_28 ?_
      exact R_zret_f cd_10_29 (by omega) rfl
    · refine R_iload cd_10_17 rfl ?_
      refine R_call1 cd_10_18 rfl rfl K_Court_isFrame ?_
      refine R_ifeq_b 28 cd_10_21 rfl (fun b21 => ?_) (fun b21 => ?_)
      · refine R_push cd_10_28 ?_
        exact R_zret_f cd_10_29 (by omega) rfl
      · refine R_push cd_10_24 ?_
        refine R_goto cd_10_25 ?_
        exact R_zret_t cd_10_29 (by omega) rfl
theorem K_Rig_keyCount {M : qa_Mem} : qa_E 11 0 [(0, qr 1)] [] (M) (.inl (some (qi (M 2 4)))) (M) := by
  refine R_aload cd_11_0 rfl ?_
  refine R_getr cd_11_1 rfl ?_
  refine R_call1 cd_11_4 rfl rfl K_Keys_size ?_
  exact R_iret cd_11_7 (by first | rfl | omega) rfl
theorem K_Rig_poseAt {t f : Int} {M : qa_Mem} (h1 : 0 ≤ t) (h2 : t < 24) (h3 : 0 ≤ f) (h4 : f < 120) : qa_E 12 0 [(0, qr 1), (1, qi (t)), (2, qi (f))] [] (M) (.inl (some (qi (M 12 (t * 120 + f))))) (M) := by
  refine R_aload cd_12_0 rfl ?_
  refine R_getr cd_12_1 rfl ?_
  refine R_iload cd_12_4 rfl ?_
  refine R_push cd_12_5 ?_
  refine R_imul cd_12_7 (by unfold qa_InR; first | omega | (simp [qa_upd, qa_blk] <;> omega)) ?_
  refine R_iload cd_12_8 rfl ?_
  refine R_iadd cd_12_9 (by unfold qa_InR; first | omega | (simp [qa_upd, qa_blk] <;> omega)) ?_
  refine R_iald cd_12_10 rfl (by omega) (by omega) ?_
  exact R_iret cd_12_11 (by first | rfl | omega) rfl
theorem K_Court_mustExist {x : Int} {M : qa_Mem} (h1 : x ≠ 0) : qa_E 39 0 [(0, qi (x))] [] (M) (.inl none) (M) := by
  refine R_iload cd_39_0 rfl ?_
  refine R_if_ne 12 cd_39_1 rfl (fun b1 => ?_) (fun b1 => ?_)
  · exact R_vret cd_39_12 rfl
  · exact absurd b1 h1
theorem K_Court_mustExistX {x : Int} {M : qa_Mem} (h1 : x = 0) : qa_E 39 0 [(0, qi (x))] [] (M) (.inr 1) (qa_upd M 99 0 (M 99 0 + 1)) := by
  refine R_iload cd_39_0 rfl ?_
  refine R_if_ne 12 cd_39_1 rfl (fun b1 => ?_) (fun b1 => ?_)
  · exact absurd h1 b1
  · exact R_throw cd_39_4
theorem K_Court_mustFit {x : Int} {M : qa_Mem} (h1 : x ≠ 0) : qa_E 40 0 [(0, qi (x))] [] (M) (.inl none) (M) := by
  refine R_iload cd_40_0 rfl ?_
  refine R_if_ne 12 cd_40_1 rfl (fun b1 => ?_) (fun b1 => ?_)
  · exact R_vret cd_40_12 rfl
  · exact absurd b1 h1
theorem K_Court_mustFitX {x : Int} {M : qa_Mem} (h1 : x = 0) : qa_E 40 0 [(0, qi (x))] [] (M) (.inr 2) (qa_upd M 99 0 (M 99 0 + 1)) := by
  refine R_iload cd_40_0 rfl ?_
  refine R_if_ne 12 cd_40_1 rfl (fun b1 => ?_) (fun b1 => ?_)
  · exact absurd h1 b1
  · exact R_throw cd_40_4
theorem K_Stills_standing {f : Int} {M : qa_Mem} (h1 : 0 ≤ f) (h2 : f < 120) : qa_E 14 0 [(0, qr 3), (1, qi (f))] [] (M) (.inl (some (qi (M 20 f)))) (M) := by
  refine R_aload cd_14_0 rfl ?_
  refine R_getr cd_14_1 rfl ?_
  refine R_iload cd_14_4 rfl ?_
  refine R_iald cd_14_5 rfl (by omega) (by omega) ?_
  exact R_iret cd_14_6 (by first | rfl | omega) rfl
theorem K_Rig_artistsAt {f : Int} {M : qa_Mem} (h1 : 0 ≤ M 1 3) (h2 : M 1 3 ≤ 8) (h3 : 0 ≤ f) (h4 : f < 120) : qa_E 13 0 [(0, qr 1), (1, qi (f))] [] (M) (.inl (some (qi (qf_or (fun t => M 13 (t * 120 + f)) (3 * M 1 3).toNat)))) (M) := by
  have lp : ∀ (k : Nat) (j : Nat), j + k = (3 * M 1 3).toNat → qa_E 13 4 [(0, qr 1), (1, qi f), (2, qi (qf_or (fun t => M 13 (t * 120 + f)) j)), (3, qi j)] [] M (.inl (some (qi (qf_or (fun t => M 13 (t * 120 + f)) (3 * M 1 3).toNat)))) M := by
    intro k
    induction k with
    | zero =>
      intro j g1
      refine R_iload cd_13_4 rfl ?_
      refine R_aload cd_13_5 rfl ?_
      refine R_call1 cd_13_6 rfl rfl (K_Rig_trackCount (by omega) (by omega)) ?_
      refine R_icmp_ge 32 cd_13_9 rfl (fun b9 => ?_) (fun b9 => ?_)
      · refine R_iload cd_13_32 rfl ?_
        exact R_iret cd_13_33 (by rw [← g1]; rfl) rfl
      · omega
    | succ k ih =>
      intro j g1
      have e := ih (j + 1) (by omega)
      rw [Int.natCast_add] at e
      refine R_iload cd_13_4 rfl ?_
      refine R_aload cd_13_5 rfl ?_
      refine R_call1 cd_13_6 rfl rfl (K_Rig_trackCount (by omega) (by omega)) ?_
      refine R_icmp_ge 32 cd_13_9 rfl (fun b9 => ?_) (fun b9 => ?_)
      · omega
      · refine R_iload cd_13_12 rfl ?_
        refine R_aload cd_13_13 rfl ?_
        refine R_getr cd_13_14 rfl ?_
        refine R_iload cd_13_17 rfl ?_
        refine R_push cd_13_18 ?_
        refine R_imul cd_13_20 (by unfold qa_InR; first | omega | (simp [qa_upd, qa_blk] <;> omega)) ?_
        refine R_iload cd_13_21 rfl ?_
        refine R_iadd cd_13_22 (by unfold qa_InR; first | omega | (simp [qa_upd, qa_blk] <;> omega)) ?_
        refine R_iald cd_13_23 rfl (by omega) (by omega) ?_
        refine R_ior cd_13_24 ?_
        refine R_istore cd_13_25 rfl ?_
        refine R_iinc cd_13_26 rfl (by unfold qa_InR; first | omega | (simp [qa_upd, qa_blk] <;> omega)) rfl ?_
        refine R_goto cd_13_29 ?_
        exact R_norm (qs_c rfl (qs_c rfl (qs_c rfl (qs_c rfl qs_n)))) e
  refine R_push cd_13_0 ?_
  refine R_istore cd_13_1 rfl ?_
  refine R_push cd_13_2 ?_
  refine R_istore cd_13_3 rfl ?_
  exact R_norm (qs_c rfl (qs_c rfl (qs_c rfl (qs_c rfl qs_n)))) (lp _ 0 (Nat.zero_add _))
theorem K_Stills_isAsMade {f : Int} {M : qa_Mem} (h1 : 0 ≤ M 1 3) (h2 : M 1 3 ≤ 8) (h3 : 0 ≤ f) (h4 : f < 120) : qa_E 17 0 [(0, qr 3), (1, qi (f)), (2, qr (1))] [] (M) (.inl (some (qi (qb (qs_am M f))))) (M) := by
  have lp : ∀ (k : Nat) (j : Int), j + k = 3 * M 1 3 → 0 ≤ j → M 19 f = M 1 3 → (∀ t : Int, 0 ≤ t → t < j → M 18 (t * 120 + f) = M 12 (t * 120 + f)) → qa_E 17 17 [(0, qr 3), (1, qi f), (2, qr 1), (3, qi j)] [] M (.inl (some (qi (qb (qs_am M f))))) M := by
    intro k
    induction k with
    | zero =>
      intro j g1 g2 g3 g4
      refine R_iload cd_17_17 rfl ?_
      refine R_aload cd_17_18 rfl ?_
      refine R_call1 cd_17_19 rfl rfl (K_Rig_trackCount (by omega) (by omega)) ?_
      refine R_icmp_ge 53 cd_17_22 rfl (fun b22 => ?_) (fun b22 => ?_)
      · refine R_push cd_17_53 ?_
        exact R_zret_t cd_17_54 ⟨g3, fun t q1 q2 => g4 t q1 (by omega)⟩ rfl
      · omega
    | succ k ih =>
      intro j g1 g2 g3 g4
      refine R_iload cd_17_17 rfl ?_
      refine R_aload cd_17_18 rfl ?_
      refine R_call1 cd_17_19 rfl rfl (K_Rig_trackCount (by omega) (by omega)) ?_
      refine R_icmp_ge 53 cd_17_22 rfl (fun b22 => ?_) (fun b22 => ?_)
      · omega
      · refine R_aload cd_17_25 rfl ?_
        refine R_getr cd_17_26 rfl ?_
        refine R_iload cd_17_29 rfl ?_
        refine R_push cd_17_30 ?_
        refine R_imul cd_17_32 (by unfold qa_InR; first | omega | (simp [qa_upd, qa_blk] <;> omega)) ?_
        refine R_iload cd_17_33 rfl ?_
        refine R_iadd cd_17_34 (by unfold qa_InR; first | omega | (simp [qa_upd, qa_blk] <;> omega)) ?_
        refine R_iald cd_17_35 rfl (by omega) (by omega) ?_
        refine R_aload cd_17_36 rfl ?_
        refine R_iload cd_17_37 rfl ?_
        refine R_iload cd_17_38 rfl ?_
        refine R_call3 cd_17_39 rfl rfl (K_Rig_poseAt (by omega) (by omega) (by omega) (by omega)) ?_
        refine R_icmp_eq 47 cd_17_42 rfl (fun b42 => ?_) (fun b42 => ?_)
        · refine R_iinc cd_17_47 rfl (by unfold qa_InR; first | omega | (simp [qa_upd, qa_blk] <;> omega)) rfl ?_
          refine R_goto cd_17_50 ?_
          have e := ih (j + 1) (by omega) (by omega) g3 (fun t q1 q2 => by
            by_cases hq : t = j
            · subst hq; exact b42
            · exact g4 t q1 (by omega))
          exact R_norm (qs_c rfl (qs_c rfl (qs_c rfl (qs_c rfl qs_n)))) e
        · refine R_push cd_17_45 ?_
          exact R_zret_f cd_17_46 (fun q => b42 (q.2 j g2 (by omega))) rfl
  refine R_aload cd_17_0 rfl ?_
  refine R_getr cd_17_1 rfl ?_
  refine R_iload cd_17_4 rfl ?_
  refine R_iald cd_17_5 rfl (by omega) (by omega) ?_
  refine R_aload cd_17_6 rfl ?_
  refine R_call1 cd_17_7 rfl rfl K_Rig_boneCount ?_
  refine R_icmp_eq 15 cd_17_10 rfl (fun b10 => ?_) (fun b10 => ?_)
  · refine R_push cd_17_15 ?_
    refine R_istore cd_17_16 rfl ?_
    exact R_norm (qs_c rfl (qs_c rfl (qs_c rfl (qs_c rfl qs_n)))) (lp (3 * M 1 3).toNat 0 (by omega) (by omega) b10 (fun t q1 q2 => by omega))
  · refine R_push cd_17_13 ?_
    exact R_zret_f cd_17_14 (fun q => b10 q.1) rfl
theorem K_Stills_voidCount {M : qa_Mem} : qa_E 15 0 [(0, qr 3)] [] (M) (.inl (some (qi (qf_cnt (fun f => M 20 f = 2) 120)))) (M) := by
  have lp : ∀ (k : Nat) (j : Nat), j + k = 120 → qa_E 15 4 [(0, qr 3), (1, qi (qf_cnt (fun f => M 20 f = 2) j)), (2, qi j)] [] M (.inl (some (qi (qf_cnt (fun f => M 20 f = 2) 120)))) M := by
    intro k
    induction k with
    | zero =>
      intro j g1
      obtain rfl : j = 120 := by omega
      refine R_iload cd_15_4 rfl ?_
      refine R_push cd_15_5 ?_
      refine R_icmp_ge 29 cd_15_7 rfl (fun b7 => ?_) (fun b7 => ?_)
      · refine R_iload cd_15_29 rfl ?_
        exact R_iret cd_15_30 (by first | rfl | omega) rfl
      · omega
    | succ k ih =>
      intro j g1
      have e := ih (j + 1) (by omega)
      rw [Int.natCast_add] at e
      have r1 := qf_cnt_r (fun f => M 20 f = 2) j
      unfold qf_cnt at e
      refine R_iload cd_15_4 rfl ?_
      refine R_push cd_15_5 ?_
      refine R_icmp_ge 29 cd_15_7 rfl (fun b7 => ?_) (fun b7 => ?_)
      · omega
      · refine R_aload cd_15_10 rfl ?_
        refine R_getr cd_15_11 rfl ?_
        refine R_iload cd_15_14 rfl ?_
        refine R_iald cd_15_15 rfl (by omega) (by omega) ?_
        refine R_push cd_15_16 ?_
        refine R_icmp_ne 23 cd_15_17 rfl (fun b17 => ?_) (fun b17 => ?_)
        · refine R_iinc cd_15_23 rfl (by unfold qa_InR; first | omega | (simp [qa_upd, qa_blk] <;> omega)) rfl ?_
          refine R_goto cd_15_26 ?_
          first
            | rw [qb_t (by assumption)] at e
              exact R_norm (qs_c rfl (qs_c rfl (qs_c rfl qs_n))) e
            | rw [qb_f (by assumption), Int.add_zero] at e
              exact R_norm (qs_c rfl (qs_c rfl (qs_c rfl qs_n))) e
        · refine R_iinc cd_15_20 rfl (by unfold qa_InR; first | omega | (simp [qa_upd, qa_blk] <;> omega)) rfl ?_
          refine R_iinc cd_15_23 rfl (by unfold qa_InR; first | omega | (simp [qa_upd, qa_blk] <;> omega)) rfl ?_
          refine R_goto cd_15_26 ?_
          first
            | rw [qb_t (by assumption)] at e
              exact R_norm (qs_c rfl (qs_c rfl (qs_c rfl qs_n))) e
            | rw [qb_f (by assumption), Int.add_zero] at e
              exact R_norm (qs_c rfl (qs_c rfl (qs_c rfl qs_n))) e
  refine R_push cd_15_0 ?_
  refine R_istore cd_15_1 rfl ?_
  refine R_push cd_15_2 ?_
  refine R_istore cd_15_3 rfl ?_
  exact R_norm (qs_c rfl (qs_c rfl (qs_c rfl qs_n))) (lp 120 0 (by omega))
theorem K_Stills_voidCountByAll {M : qa_Mem} (h1 : 0 ≤ M 1 3) (h2 : M 1 3 ≤ 8) : qa_E 16 0 [(0, qr 3), (1, qr (1))] [] (M) (.inl (some (qi (qf_cnt (fun f => M 20 f ≠ 0 ∧ ¬ qs_am M f) 120)))) (M) := by
  have lp : ∀ (k : Nat) (j : Nat), j + k = 120 → qa_E 16 4 [(0, qr 3), (1, qr 1), (2, qi (qf_cnt (fun f => M 20 f ≠ 0 ∧ ¬ qs_am M f) j)), (3, qi j)] [] M (.inl (some (qi (qf_cnt (fun f => M 20 f ≠ 0 ∧ ¬ qs_am M f) 120)))) M := by
    intro k
    induction k with
    | zero =>
      intro j g1
      obtain rfl : j = 120 := by omega
      refine R_iload cd_16_4 rfl ?_
      refine R_push cd_16_5 ?_
      refine R_icmp_ge 37 cd_16_7 rfl (fun b7 => ?_) (fun b7 => ?_)
      · refine R_iload cd_16_37 rfl ?_
        exact R_iret cd_16_38 (by first | rfl | omega) rfl
      · omega
    | succ k ih =>
      intro j g1
      have e := ih (j + 1) (by omega)
      rw [Int.natCast_add] at e
      have r1 := qf_cnt_r (fun f => M 20 f ≠ 0 ∧ ¬ qs_am M f) j
      unfold qf_cnt at e
      refine R_iload cd_16_4 rfl ?_
      refine R_push cd_16_5 ?_
      refine R_icmp_ge 37 cd_16_7 rfl (fun b7 => ?_) (fun b7 => ?_)
      · omega
      · refine R_aload cd_16_10 rfl ?_
        refine R_getr cd_16_11 rfl ?_
        refine R_iload cd_16_14 rfl ?_
        refine R_iald cd_16_15 rfl (by omega) (by omega) ?_
        refine R_if_eq 31 cd_16_16 rfl (fun b16 => ?_) (fun b16 => ?_)
        · refine R_iinc cd_16_31 rfl (by unfold qa_InR; first | omega | (simp [qa_upd, qa_blk] <;> omega)) rfl ?_
          refine R_goto cd_16_34 ?_
          first
            | rw [qb_t ⟨b16, b25⟩] at e
              exact R_norm (qs_c rfl (qs_c rfl (qs_c rfl (qs_c rfl qs_n)))) e
            | rw [qb_f (fun q => absurd b25 q.2), Int.add_zero] at e
              exact R_norm (qs_c rfl (qs_c rfl (qs_c rfl (qs_c rfl qs_n)))) e
            | rw [qb_f (fun q => absurd b16 q.1), Int.add_zero] at e
              exact R_norm (qs_c rfl (qs_c rfl (qs_c rfl (qs_c rfl qs_n)))) e
        · refine R_aload cd_16_19 rfl ?_
          refine R_iload cd_16_20 rfl ?_
          refine R_aload cd_16_21 rfl ?_
          refine R_call3 cd_16_22 rfl rfl (K_Stills_isAsMade (by omega) (by omega) (by omega) (by omega)) ?_
          refine R_ifne_b 31 cd_16_25 rfl (fun b25 => ?_) (fun b25 => ?_)
          · refine R_iinc cd_16_31 rfl (by unfold qa_InR; first | omega | (simp [qa_upd, qa_blk] <;> omega)) rfl ?_
            refine R_goto cd_16_34 ?_
            first
              | rw [qb_t ⟨b16, b25⟩] at e
                exact R_norm (qs_c rfl (qs_c rfl (qs_c rfl (qs_c rfl qs_n)))) e
              | rw [qb_f (fun q => absurd b25 q.2), Int.add_zero] at e
                exact R_norm (qs_c rfl (qs_c rfl (qs_c rfl (qs_c rfl qs_n)))) e
              | rw [qb_f (fun q => absurd b16 q.1), Int.add_zero] at e
                exact R_norm (qs_c rfl (qs_c rfl (qs_c rfl (qs_c rfl qs_n)))) e
          · refine R_iinc cd_16_28 rfl (by unfold qa_InR; first | omega | (simp [qa_upd, qa_blk] <;> omega)) rfl ?_
            refine R_iinc cd_16_31 rfl (by unfold qa_InR; first | omega | (simp [qa_upd, qa_blk] <;> omega)) rfl ?_
            refine R_goto cd_16_34 ?_
            first
              | rw [qb_t ⟨b16, b25⟩] at e
                exact R_norm (qs_c rfl (qs_c rfl (qs_c rfl (qs_c rfl qs_n)))) e
              | rw [qb_f (fun q => absurd b25 q.2), Int.add_zero] at e
                exact R_norm (qs_c rfl (qs_c rfl (qs_c rfl (qs_c rfl qs_n)))) e
              | rw [qb_f (fun q => absurd b16 q.1), Int.add_zero] at e
                exact R_norm (qs_c rfl (qs_c rfl (qs_c rfl (qs_c rfl qs_n)))) e
  refine R_push cd_16_0 ?_
  refine R_istore cd_16_1 rfl ?_
  refine R_push cd_16_2 ?_
  refine R_istore cd_16_3 rfl ?_
  exact R_norm (qs_c rfl (qs_c rfl (qs_c rfl (qs_c rfl qs_n)))) (lp 120 0 (by omega))
