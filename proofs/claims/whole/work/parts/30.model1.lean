/-! the reference: small methods, values -/
theorem K_Model_thrown {M : qa_Mem} : qa_E 64 0 [(0, qr 6)] [] (M) (.inl (some (qi (M 6 26)))) (M) := by
  refine R_aload cd_64_0 rfl ?_
  refine R_getf cd_64_1 rfl (by decide) ?_
  exact R_iret cd_64_4 (by first | rfl | omega) rfl
theorem K_Model_fails {w : Int} {M : qa_Mem} : qa_E 65 0 [(0, qr 6), (1, qi (w))] [] (M) (.inl (some (qi (qb (0 < w))))) (qa_upd M 6 26 w) := by
  refine R_aload cd_65_0 rfl ?_
  refine R_iload cd_65_1 rfl ?_
  refine R_putf cd_65_2 rfl (by decide) ?_
  refine R_iload cd_65_5 rfl ?_
  refine R_if_le 13 cd_65_6 rfl (fun b6 => ?_) (fun b6 => ?_)
  · refine R_push cd_65_13 ?_
    exact R_zret_f cd_65_14 (by omega) rfl
  · refine R_push cd_65_9 ?_
    refine R_goto cd_65_10 ?_
    exact R_zret_t cd_65_14 (by omega) rfl
theorem K_Model_isIn {x a b : Int} {M : qa_Mem} : qa_E 66 0 [(0, qi (x)), (1, qi (a)), (2, qi (b))] [] (M) (.inl (some (qi (qb (a ≤ x ∧ x ≤ b))))) (M) := by
  refine R_iload cd_66_0 rfl ?_
  refine R_iload cd_66_1 rfl ?_
  refine R_icmp_lt 14 cd_66_2 rfl (fun b2 => ?_) (fun b2 => ?_)
  · refine R_push cd_66_14 ?_
    exact R_zret_f cd_66_15 (by omega) rfl
  · refine R_iload cd_66_5 rfl ?_
    refine R_iload cd_66_6 rfl ?_
    refine R_icmp_gt 14 cd_66_7 rfl (fun b7 => ?_) (fun b7 => ?_)
    · refine R_push cd_66_14 ?_
      exact R_zret_f cd_66_15 (by omega) rfl
    · refine R_push cd_66_10 ?_
      refine R_goto cd_66_11 ?_
      exact R_zret_t cd_66_15 (by omega) rfl
theorem K_Model_isBone {b : Int} {M : qa_Mem} (h1 : 0 ≤ M 6 0) (h2 : M 6 0 ≤ 8) : qa_E 67 0 [(0, qr 6), (1, qi (b))] [] (M) (.inl (some (qi (qb (0 ≤ b ∧ b ≤ M 6 0 - 1))))) (M) := by
  refine R_iload cd_67_0 rfl ?_
  refine R_push cd_67_1 ?_
  refine R_aload cd_67_2 rfl ?_
  refine R_getf cd_67_3 rfl (by decide) ?_
  refine R_push cd_67_6 ?_
  refine R_isub cd_67_7 (by unfold qa_InR; first | omega | (simp [qa_upd, qa_blk] <;> omega)) ?_
  refine R_call3 cd_67_8 rfl rfl K_Model_isIn ?_
  exact R_zret_b cd_67_11 Iff.rfl rfl
theorem K_Model_isFrame {x : Int} {M : qa_Mem} : qa_E 68 0 [(0, qi (x))] [] (M) (.inl (some (qi (qb (0 ≤ x ∧ x ≤ 119))))) (M) := by
  refine R_iload cd_68_0 rfl ?_
  refine R_push cd_68_1 ?_
  refine R_push cd_68_2 ?_
  refine R_call3 cd_68_4 rfl rfl K_Model_isIn ?_
  exact R_zret_b cd_68_7 Iff.rfl rfl
theorem K_Model_isPlace {b c f : Int} {M : qa_Mem} (h1 : 0 ≤ M 6 0) (h2 : M 6 0 ≤ 8) : qa_E 69 0 [(0, qr 6), (1, qi (b)), (2, qi (c)), (3, qi (f))] [] (M) (.inl (some (qi (qb ((0 ≤ b ∧ b ≤ M 6 0 - 1) ∧ (0 ≤ c ∧ c ≤ 2) ∧ (0 ≤ f ∧ f ≤ 119)))))) (M) := by
  refine R_aload cd_69_0 rfl ?_
  refine R_iload cd_69_1 rfl ?_
  refine R_call2 cd_69_2 rfl rfl (K_Model_isBone (by omega) (by omega)) ?_
  refine R_ifeq_b 28 cd_69_5 rfl (fun b5 => ?_) (fun b5 => ?_)
  · refine R_push cd_69_28 ?_
    exact R_zret_f cd_69_29 (by omega) rfl
  · refine R_iload cd_69_8 rfl ?_
    refine R_push cd_69_9 ?_
    refine R_push cd_69_10 ?_
    refine R_call3 cd_69_11 rfl rfl K_Model_isIn ?_
    refine R_ifeq_b 28 cd_69_14 rfl (fun b14 => ?_) (fun b14 => ?_)
    · refine R_push cd_69_28 ?_
      exact R_zret_f cd_69_29 (by omega) rfl
    · refine R_iload cd_69_17 rfl ?_
      refine R_call1 cd_69_18 rfl rfl K_Model_isFrame ?_
      refine R_ifeq_b 28 cd_69_21 rfl (fun b21 => ?_) (fun b21 => ?_)
      · refine R_push cd_69_28 ?_
        exact R_zret_f cd_69_29 (by omega) rfl
      · refine R_push cd_69_24 ?_
        refine R_goto cd_69_25 ?_
        exact R_zret_t cd_69_29 (by omega) rfl
theorem K_Model_at {b c f : Int} {M : qa_Mem} (h1 : 0 ≤ b) (h2 : b ≤ 100) (h3 : 0 ≤ c) (h4 : c ≤ 100) (h5 : -1000 ≤ f) (h6 : f ≤ 1000) : qa_E 70 0 [(0, qi (b)), (1, qi (c)), (2, qi (f))] [] (M) (.inl (some (qi (120 * (3 * b + c) + f)))) (M) := by
  refine R_push cd_70_0 ?_
  refine R_push cd_70_2 ?_
  refine R_iload cd_70_3 rfl ?_
  refine R_imul cd_70_4 (by unfold qa_InR; first | omega | (simp [qa_upd, qa_blk] <;> omega)) ?_
  refine R_iload cd_70_5 rfl ?_
  refine R_iadd cd_70_6 (by unfold qa_InR; first | omega | (simp [qa_upd, qa_blk] <;> omega)) ?_
  refine R_imul cd_70_7 (by unfold qa_InR; first | omega | (simp [qa_upd, qa_blk] <;> omega)) ?_
  refine R_iload cd_70_8 rfl ?_
  refine R_iadd cd_70_9 (by unfold qa_InR; first | omega | (simp [qa_upd, qa_blk] <;> omega)) ?_
  exact R_iret cd_70_10 (by first | rfl | omega) rfl
/-- the last key of a track among its frames ahead of n; the first among its last n -/
def qm_bf (K : Int → Int) (t : Int) : Nat → Int
  | 0 => -1
  | n + 1 => if K (120 * t + n) ≠ 0 then (n : Int) else qm_bf K t n
def qm_bh (K : Int → Int) (t : Int) : Nat → Int
  | 0 => 120
  | n + 1 => if K (120 * t + (119 - (n : Int))) ≠ 0 then 119 - (n : Int) else qm_bh K t n
theorem qm_bf_r (K : Int → Int) (t : Int) (n : Nat) : -1 ≤ qm_bf K t n ∧ qm_bf K t n < n ∧ (0 ≤ qm_bf K t n → K (120 * t + qm_bf K t n) ≠ 0) ∧ (∀ j : Int, qm_bf K t n < j → j < n → K (120 * t + j) = 0) := by
  induction n with
  | zero => exact ⟨show -1 ≤ (-1 : Int) by decide, show (-1 : Int) < 0 by decide, fun h => absurd (show (0 : Int) ≤ -1 from h) (by decide), fun j h1 h2 => by have : (-1 : Int) < j := h1; omega⟩
  | succ n ih =>
    unfold qm_bf
    by_cases hc : K (120 * t + n) ≠ 0
    · rw [if_pos hc]; exact ⟨by omega, by omega, fun _ => hc, fun j h1 h2 => by omega⟩
    · rw [if_neg hc]
      refine ⟨ih.1, by omega, ih.2.2.1, fun j h1 h2 => ?_⟩
      by_cases hj : j = n
      · subst hj; exact Classical.byContradiction hc
      · exact ih.2.2.2 j h1 (by omega)
theorem qm_bh_r (K : Int → Int) (t : Int) (n : Nat) (hn : n ≤ 120) : 120 - (n : Int) ≤ qm_bh K t n ∧ qm_bh K t n ≤ 120 ∧ (qm_bh K t n < 120 → K (120 * t + qm_bh K t n) ≠ 0) ∧ (∀ j : Int, 120 - (n : Int) ≤ j → j < qm_bh K t n → K (120 * t + j) = 0) := by
  induction n with
  | zero => exact ⟨show (120 : Int) - 0 ≤ 120 by decide, show (120 : Int) ≤ 120 by decide, fun h => absurd (show (120 : Int) < 120 from h) (by decide), fun j h1 h2 => by have : j < (120 : Int) := h2; omega⟩
  | succ n ih =>
    have ih := ih (by omega)
    unfold qm_bh
    by_cases hc : K (120 * t + (119 - (n : Int))) ≠ 0
    · rw [if_pos hc]; exact ⟨by omega, by omega, fun _ => hc, fun j h1 h2 => by omega⟩
    · rw [if_neg hc]
      refine ⟨by omega, ih.2.1, ih.2.2.1, fun j h1 h2 => ?_⟩
      by_cases hj : j = 119 - (n : Int)
      · subst hj; exact Classical.byContradiction hc
      · exact ih.2.2.2 j (by omega) h2
theorem K_Model_before {b c f t : Int} {M : qa_Mem} (h1 : 0 ≤ b) (h2 : b < 8) (h3 : 0 ≤ c) (h4 : c ≤ 2) (h5 : t = 3 * b + c) (h6 : -1 ≤ f) (h7 : f ≤ 119) : qa_E 72 0 [(0, qr 6), (1, qi (b)), (2, qi (c)), (3, qi (f))] [] (M) (.inl (some (qi (qm_bf (M 32) t (f + 1).toNat)))) (M) := by
  subst h5
  have lp : ∀ (n : Nat) (k : Int), k + 1 = n → k ≤ 119 → qa_E 72 3 [(0, qr 6), (1, qi b), (2, qi c), (3, qi f), (4, qi k)] [] M (.inl (some (qi (qm_bf (M 32) (3 * b + c) n)))) M := by
    intro n
    induction n with
    | zero =>
      intro k g1 g2
      obtain rfl : k = -1 := by omega
      refine R_iload cd_72_3 rfl ?_
      refine R_if_lt 29 cd_72_5 rfl (fun b5 => ?_) (fun b5 => ?_)
      · refine R_iload cd_72_29 rfl ?_
        exact R_iret cd_72_31 (by first | rfl | omega) rfl
      · omega
    | succ n ih =>
      intro k g1 g2
      have e := ih (k + -1) (by omega) (by omega)
      unfold qm_bf
      rw [show ((n : Nat) : Int) = k by omega]
      refine R_iload cd_72_3 rfl ?_
      refine R_if_lt 29 cd_72_5 rfl (fun b5 => ?_) (fun b5 => ?_)
      · first
          | omega
          | rw [if_pos b20]
            refine R_iload cd_72_29 rfl ?_
            exact R_iret cd_72_31 (by first | rfl | omega) rfl
      · refine R_aload cd_72_8 rfl ?_
        refine R_getr cd_72_9 rfl ?_
        refine R_iload cd_72_12 rfl ?_
        refine R_iload cd_72_13 rfl ?_
        refine R_iload cd_72_14 rfl ?_
        refine R_call3 cd_72_16 rfl rfl (K_Model_at (by omega) (by omega) (by omega) (by omega) (by omega) (by omega)) ?_
        refine R_zald cd_72_19 rfl (by first | omega | (simp [qa_upd, qa_blk] <;> omega)) (by first | omega | (simp [qa_upd, qa_blk] <;> omega)) ?_
        refine R_if_ne 29 cd_72_20 rfl (fun b20 => ?_) (fun b20 => ?_)
        · first
            | omega
            | rw [if_pos b20]
              refine R_iload cd_72_29 rfl ?_
              exact R_iret cd_72_31 (by first | rfl | omega) rfl
        · refine R_iinc cd_72_23 rfl (by unfold qa_InR; first | omega | (simp [qa_upd, qa_blk] <;> omega)) ?_
          refine R_goto cd_72_26 ?_
          rw [if_neg (fun z => z b20)]
          exact R_norm (qs_c rfl (qs_c rfl (qs_c rfl (qs_c rfl (qs_c rfl qs_n))))) e
  refine R_iload cd_72_0 rfl ?_
  refine R_istore cd_72_1 ?_
  exact R_norm (qs_c rfl (qs_c rfl (qs_c rfl (qs_c rfl (qs_c rfl qs_n))))) (lp _ f (by omega) h7)
theorem K_Model_behind {b c f t : Int} {M : qa_Mem} (h1 : 0 ≤ b) (h2 : b < 8) (h3 : 0 ≤ c) (h4 : c ≤ 2) (h5 : t = 3 * b + c) (h6 : -1 ≤ f) (h7 : f ≤ 119) : qa_E 73 0 [(0, qr 6), (1, qi (b)), (2, qi (c)), (3, qi (f))] [] (M) (.inl (some (qi (qm_bh (M 32) t (119 - f).toNat)))) (M) := by
  subst h5
  have lp : ∀ (n : Nat) (k : Int), k + n = 120 → 0 ≤ k → qa_E 73 5 [(0, qr 6), (1, qi b), (2, qi c), (3, qi f), (4, qi k)] [] M (.inl (some (qi (qm_bh (M 32) (3 * b + c) n)))) M := by
    intro n
    induction n with
    | zero =>
      intro k g1 g2
      obtain rfl : k = 120 := by omega
      refine R_iload cd_73_5 rfl ?_
      refine R_push cd_73_7 ?_
      refine R_icmp_ge 33 cd_73_9 rfl (fun b9 => ?_) (fun b9 => ?_)
      · refine R_iload cd_73_33 rfl ?_
        exact R_iret cd_73_35 (by first | rfl | omega) rfl
      · omega
    | succ n ih =>
      intro k g1 g2
      have e := ih (k + 1) (by omega) (by omega)
      unfold qm_bh
      rw [show 119 - ((n : Nat) : Int) = k by omega]
      refine R_iload cd_73_5 rfl ?_
      refine R_push cd_73_7 ?_
      refine R_icmp_ge 33 cd_73_9 rfl (fun b9 => ?_) (fun b9 => ?_)
      · first
          | omega
          | rw [if_pos b24]
            refine R_iload cd_73_33 rfl ?_
            exact R_iret cd_73_35 (by first | rfl | omega) rfl
      · refine R_aload cd_73_12 rfl ?_
        refine R_getr cd_73_13 rfl ?_
        refine R_iload cd_73_16 rfl ?_
        refine R_iload cd_73_17 rfl ?_
        refine R_iload cd_73_18 rfl ?_
        refine R_call3 cd_73_20 rfl rfl (K_Model_at (by omega) (by omega) (by omega) (by omega) (by omega) (by omega)) ?_
        refine R_zald cd_73_23 rfl (by first | omega | (simp [qa_upd, qa_blk] <;> omega)) (by first | omega | (simp [qa_upd, qa_blk] <;> omega)) ?_
        refine R_if_ne 33 cd_73_24 rfl (fun b24 => ?_) (fun b24 => ?_)
        · first
            | omega
            | rw [if_pos b24]
              refine R_iload cd_73_33 rfl ?_
              exact R_iret cd_73_35 (by first | rfl | omega) rfl
        · refine R_iinc cd_73_27 rfl (by unfold qa_InR; first | omega | (simp [qa_upd, qa_blk] <;> omega)) ?_
          refine R_goto cd_73_30 ?_
          rw [if_neg (fun z => z b24)]
          exact R_norm (qs_c rfl (qs_c rfl (qs_c rfl (qs_c rfl (qs_c rfl qs_n))))) e
  refine R_iload cd_73_0 rfl ?_
  refine R_push cd_73_1 ?_
  refine R_iadd cd_73_2 (by unfold qa_InR; first | omega | (simp [qa_upd, qa_blk] <;> omega)) ?_
  refine R_istore cd_73_3 ?_
  exact R_norm (qs_c rfl (qs_c rfl (qs_c rfl (qs_c rfl (qs_c rfl qs_n))))) (lp _ (f + 1) (by omega) (by omega))
theorem K_Model_floor {a b : Int} {M : qa_Mem} (h1 : 0 < b) (h2 : b ≤ 1000000) (h3 : -1000000 ≤ a) (h4 : a ≤ 1000000) : qa_E 74 0 [(0, qi (a)), (1, qi (b))] [] (M) (.inl (some (qi (a / b)))) (M) := by
  obtain ⟨e1, e2, e3, e4, e5, e6, e7, e8⟩ := qf_tdiv (x := a) h1
  have eb : -2000000 ≤ a.tdiv b ∧ a.tdiv b ≤ 2000000 := by
    have hq : a / b ≤ a.natAbs ∧ -(a.natAbs : Int) - 1 ≤ a / b := by
      constructor
      · by_cases hx : 0 ≤ a
        · have := Int.ediv_le_self b hx; omega
        · have := Int.ediv_neg_of_neg_of_pos (a := a) (b := b) (by omega) h1; omega
      · by_cases hx : 0 ≤ a
        · have := Int.ediv_nonneg hx (Int.le_of_lt h1); omega
        · have h5 : a ≤ a / b := by
            have : a * b ≤ a := by
              have h6 : a * b ≤ a * 1 := Int.mul_le_mul_of_nonpos_left (by omega) (by omega)
              omega
            exact (Int.le_ediv_iff_mul_le h1).mpr this
          omega
    by_cases hx : 0 ≤ a
    · have := e2 hx; omega
    · by_cases h0 : a.tmod b = 0
      · have := e3 (by omega) h0; omega
      · have := e4 (by omega) h0; omega
  refine R_iload cd_74_0 rfl ?_
  refine R_iload cd_74_1 rfl ?_
  refine R_idiv cd_74_2 (by omega) ?_
  refine R_istore cd_74_3 ?_
  refine R_iload cd_74_4 rfl ?_
  refine R_iload cd_74_5 rfl ?_
  refine R_irem cd_74_6 (by omega) ?_
  refine R_if_ge 16 cd_74_7 rfl (fun b7 => ?_) (fun b7 => ?_)
  · refine R_iload cd_74_16 rfl ?_
    first
      | exact R_iret cd_74_17 (e4 (by omega) (by omega)) rfl
      | refine R_iret cd_74_17 ?_ rfl
        by_cases hx : 0 ≤ a
        · exact e2 hx
        · exact e3 (by omega) (by omega)
  · refine R_iload cd_74_10 rfl ?_
    refine R_push cd_74_11 ?_
    refine R_isub cd_74_12 (by unfold qa_InR; first | omega | (simp [qa_upd, qa_blk] <;> omega)) ?_
    refine R_goto cd_74_13 ?_
    first
      | exact R_iret cd_74_17 (e4 (by omega) (by omega)) rfl
      | refine R_iret cd_74_17 ?_ rfl
        by_cases hx : 0 ≤ a
        · exact e2 hx
        · exact e3 (by omega) (by omega)
def qm_v (K V F : Int → Int) (t f : Int) : Int :=
  if qm_bf K t (f + 1).toNat = -1 then (if qm_bh K t (119 - f).toNat = 120 then 0 else V (120 * t + qm_bh K t (119 - f).toNat))
  else if F (120 * t + qm_bf K t (f + 1).toNat) = 0 ∨ qm_bh K t (119 - f).toNat = 120 then V (120 * t + qm_bf K t (f + 1).toNat)
  else V (120 * t + qm_bf K t (f + 1).toNat) + (V (120 * t + qm_bh K t (119 - f).toNat) - V (120 * t + qm_bf K t (f + 1).toNat)) * (f - qm_bf K t (f + 1).toNat) / (qm_bh K t (119 - f).toNat - qm_bf K t (f + 1).toNat)
def qv_v (V : Int → Int) : Prop := ∀ j : Int, 0 ≤ j → j < 2880 → -200 ≤ V j ∧ V j ≤ 200
theorem qf_divb {X G : Int} (hg : 0 < G) (h1 : -400000 ≤ X) (h2 : X ≤ 400000) : -400000 ≤ X / G ∧ X / G ≤ 400000 := by
  constructor
  · rw [Int.le_ediv_iff_mul_le hg]
    have h6 : -400000 * G ≤ -400000 * 1 := Int.mul_le_mul_of_nonpos_left (by omega) (by omega)
    omega
  · by_cases hx : 0 ≤ X
    · have := Int.ediv_le_self G hx; omega
    · have := Int.ediv_neg_of_neg_of_pos (a := X) (by omega) hg; omega
theorem K_Model_valueAt {b c f t : Int} {M : qa_Mem} (h1 : 0 ≤ b) (h2 : b < 8) (h3 : 0 ≤ c) (h4 : c ≤ 2) (h5 : t = 3 * b + c) (h6 : 0 ≤ f) (h7 : f ≤ 119) (h8 : qv_v (M 33)) : qa_E 75 0 [(0, qr 6), (1, qi (b)), (2, qi (c)), (3, qi (f))] [] (M) (.inl (some (qi (qm_v (M 32) (M 33) (M 35) t f)))) (M) := by
  subst h5
  have rf := qm_bf_r (M 32) (3 * b + c) (f + 1).toNat
  have rh := qm_bh_r (M 32) (3 * b + c) (119 - f).toNat (by omega)
  have k1 := K_Model_before (f := f) (M := M) h1 h2 h3 h4 rfl (by omega) h7
  have k2 := K_Model_behind (f := f) (M := M) h1 h2 h3 h4 rfl (by omega) h7
  unfold qm_v
  generalize qm_bf (M 32) (3 * b + c) (f + 1).toNat = p at *
  generalize qm_bh (M 32) (3 * b + c) (119 - f).toNat = q at *
  have main : ¬ p = -1 → ¬ (M 35 (120 * (3 * b + c) + p) = 0 ∨ q = 120) → (-200 ≤ M 33 (120 * (3 * b + c) + p) ∧ M 33 (120 * (3 * b + c) + p) ≤ 200) ∧ (-200 ≤ M 33 (120 * (3 * b + c) + q) ∧ M 33 (120 * (3 * b + c) + q) ≤ 200) ∧ (-400000 ≤ (M 33 (120 * (3 * b + c) + q) - M 33 (120 * (3 * b + c) + p)) * (f - p) ∧ (M 33 (120 * (3 * b + c) + q) - M 33 (120 * (3 * b + c) + p)) * (f - p) ≤ 400000) ∧ -400000 ≤ (M 33 (120 * (3 * b + c) + q) - M 33 (120 * (3 * b + c) + p)) * (f - p) / (q - p) ∧ (M 33 (120 * (3 * b + c) + q) - M 33 (120 * (3 * b + c) + p)) * (f - p) / (q - p) ≤ 400000 := by
    intro a1 a2
    have a3 := h8 (120 * (3 * b + c) + p) (by omega) (by omega)
    have a4 := h8 (120 * (3 * b + c) + q) (by omega) (by omega)
    have hm := qf_mulb (d := M 33 (120 * (3 * b + c) + q) - M 33 (120 * (3 * b + c) + p)) (e := f - p) (A := 400) (B := 1000) (by omega) (by omega) (by omega) (by omega)
    have hd := qf_divb (X := (M 33 (120 * (3 * b + c) + q) - M 33 (120 * (3 * b + c) + p)) * (f - p)) (G := q - p) (by omega) (by omega) (by omega)
    exact ⟨a3, a4, by omega, hd⟩
  refine R_aload cd_75_0 rfl ?_
  refine R_iload cd_75_1 rfl ?_
  refine R_iload cd_75_2 rfl ?_
  refine R_iload cd_75_3 rfl ?_
  refine R_call4 cd_75_4 rfl rfl k1 ?_
  refine R_istore cd_75_7 ?_
  refine R_aload cd_75_9 rfl ?_
  refine R_iload cd_75_10 rfl ?_
  refine R_iload cd_75_11 rfl ?_
  refine R_iload cd_75_12 rfl ?_
  refine R_call4 cd_75_13 rfl rfl k2 ?_
  refine R_istore cd_75_16 ?_
  refine R_iload cd_75_18 rfl ?_
  refine R_push cd_75_20 ?_
  refine R_icmp_ne 48 cd_75_21 rfl (fun b21 => ?_) (fun b21 => ?_)
  · refine R_aload cd_75_48 rfl ?_
    refine R_getr cd_75_49 rfl ?_
    refine R_iload cd_75_52 rfl ?_
    refine R_iload cd_75_53 rfl ?_
    refine R_iload cd_75_54 rfl ?_
    refine R_call3 cd_75_56 rfl rfl (K_Model_at (by omega) (by omega) (by omega) (by omega) (by omega) (by omega)) ?_
    refine R_iald cd_75_59 rfl (by first | omega | (simp [qa_upd, qa_blk] <;> omega)) (by first | omega | (simp [qa_upd, qa_blk] <;> omega)) ?_
    refine R_istore cd_75_60 ?_
    refine R_aload cd_75_62 rfl ?_
    refine R_getr cd_75_63 rfl ?_
    refine R_iload cd_75_66 rfl ?_
    refine R_iload cd_75_67 rfl ?_
    refine R_iload cd_75_68 rfl ?_
    refine R_call3 cd_75_70 rfl rfl (K_Model_at (by omega) (by omega) (by omega) (by omega) (by omega) (by omega)) ?_
    refine R_zald cd_75_73 rfl (by first | omega | (simp [qa_upd, qa_blk] <;> omega)) (by first | omega | (simp [qa_upd, qa_blk] <;> omega)) ?_
    refine R_if_eq 84 cd_75_74 rfl (fun b74 => ?_) (fun b74 => ?_)
    · refine R_iload cd_75_84 rfl ?_
      exact R_iret cd_75_86 (by rw [if_neg b21, if_pos (by first | exact Or.inl b74 | exact Or.inr b81)]) rfl
    · refine R_iload cd_75_77 rfl ?_
      refine R_push cd_75_79 ?_
      refine R_icmp_ne 87 cd_75_81 rfl (fun b81 => ?_) (fun b81 => ?_)
      · have mm := main b21 (fun z => z.elim b74 b81)
        refine R_iload cd_75_87 rfl ?_
        refine R_aload cd_75_89 rfl ?_
        refine R_getr cd_75_90 rfl ?_
        refine R_iload cd_75_93 rfl ?_
        refine R_iload cd_75_94 rfl ?_
        refine R_iload cd_75_95 rfl ?_
        refine R_call3 cd_75_97 rfl rfl (K_Model_at (by omega) (by omega) (by omega) (by omega) (by omega) (by omega)) ?_
        refine R_iald cd_75_100 rfl (by first | omega | (simp [qa_upd, qa_blk] <;> omega)) (by first | omega | (simp [qa_upd, qa_blk] <;> omega)) ?_
        refine R_iload cd_75_101 rfl ?_
        refine R_isub cd_75_103 (by unfold qa_InR; first | omega | (simp [qa_upd, qa_blk] <;> omega)) ?_
        refine R_iload cd_75_104 rfl ?_
        refine R_iload cd_75_105 rfl ?_
        refine R_isub cd_75_107 (by unfold qa_InR; first | omega | (simp [qa_upd, qa_blk] <;> omega)) ?_
        refine R_imul cd_75_108 (by unfold qa_InR; first | omega | (simp [qa_upd, qa_blk] <;> omega)) ?_
        refine R_iload cd_75_109 rfl ?_
        refine R_iload cd_75_111 rfl ?_
        refine R_isub cd_75_113 (by unfold qa_InR; first | omega | (simp [qa_upd, qa_blk] <;> omega)) ?_
        refine R_call2 cd_75_114 rfl rfl (K_Model_floor (by omega) (by omega) (by omega) (by omega)) ?_
        refine R_iadd cd_75_117 (by unfold qa_InR; first | omega | (simp [qa_upd, qa_blk] <;> omega)) ?_
        exact R_iret cd_75_118 (by rw [if_neg b21, if_neg (fun z => z.elim b74 b81)]) rfl
      · refine R_iload cd_75_84 rfl ?_
        exact R_iret cd_75_86 (by rw [if_neg b21, if_pos (by first | exact Or.inl b74 | exact Or.inr b81)]) rfl
  · refine R_iload cd_75_24 rfl ?_
    refine R_push cd_75_26 ?_
    refine R_icmp_ne 35 cd_75_28 rfl (fun b28 => ?_) (fun b28 => ?_)
    · refine R_aload cd_75_35 rfl ?_
      refine R_getr cd_75_36 rfl ?_
      refine R_iload cd_75_39 rfl ?_
      refine R_iload cd_75_40 rfl ?_
      refine R_iload cd_75_41 rfl ?_
      refine R_call3 cd_75_43 rfl rfl (K_Model_at (by omega) (by omega) (by omega) (by omega) (by omega) (by omega)) ?_
      refine R_iald cd_75_46 rfl (by first | omega | (simp [qa_upd, qa_blk] <;> omega)) (by first | omega | (simp [qa_upd, qa_blk] <;> omega)) ?_
      exact R_iret cd_75_47 (by rw [if_pos b21, if_neg b28]) rfl
    · refine R_push cd_75_31 ?_
      refine R_goto cd_75_32 ?_
      exact R_iret cd_75_47 (by rw [if_pos b21, if_pos b28]) rfl
