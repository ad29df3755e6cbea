/-! the reference: artists, the film -/
def qm_b1 (K A : Int → Int) (t f : Int) : Int := if qm_bf K t (f + 1).toNat = -1 then 0 else qa_shl 1 (A (120 * t + qm_bf K t (f + 1).toNat))
def qm_b2 (K A F : Int → Int) (t f : Int) : Int := if qm_bh K t (119 - f).toNat < 120 ∧ (qm_bf K t (f + 1).toNat = -1 ∨ F (120 * t + qm_bf K t (f + 1).toNat) ≠ 0 ∧ qm_bf K t (f + 1).toNat < f) then qa_shl 1 (A (120 * t + qm_bh K t (119 - f).toNat)) else 0
def qm_ar (K A F : Int → Int) (f : Int) : Nat → Int
  | 0 => 0
  | n + 1 => qa_or (qa_or (qm_ar K A F f n) (qm_b1 K A n f)) (qm_b2 K A F n f)
theorem K_Model_artistsOf {f : Int} {M : qa_Mem} (h1 : 0 ≤ M 6 0) (h2 : M 6 0 ≤ 8) (h3 : 0 ≤ f) (h4 : f ≤ 119) : qa_E 86 0 [(0, qr 6), (1, qi (f))] [] (M) (.inl (some (qi (qm_ar (M 32) (M 34) (M 35) f (3 * M 6 0).toNat)))) (M) := by
  have lp : ∀ (k : Nat) (j : Nat) (L : qa_L), j + k = (3 * M 6 0).toNat → qa_E 86 4 [(0, qr 6), (1, qi f), (2, qi (qm_ar (M 32) (M 34) (M 35) f j)), (3, qi j)] [] M (.inl (some (qi (qm_ar (M 32) (M 34) (M 35) f (3 * M 6 0).toNat)))) M := by
    intro k
    induction k with
    | zero =>
      intro j L g1
      refine R_iload cd_86_4 rfl ?_
      refine R_push cd_86_5 ?_
      refine R_aload cd_86_6 rfl ?_
      refine R_getf cd_86_7 rfl (by decide) ?_
      refine R_imul cd_86_10 (by unfold qa_InR; first | omega | (simp [qa_upd, qa_blk] <;> omega)) ?_
      refine R_icmp_ge 140 cd_86_11 rfl (fun b11 => ?_) (fun b11 => ?_)
      · refine R_iload cd_86_140 rfl ?_
        exact R_iret cd_86_141 (by rw [← g1]; rfl) rfl
      · omega
    | succ k ih =>
      intro j L g1
      have e := ih (j + 1) [] (by omega)
      rw [Int.natCast_add, show qm_ar (M 32) (M 34) (M 35) f (j + 1) = qa_or (qa_or (qm_ar (M 32) (M 34) (M 35) f j) (qm_b1 (M 32) (M 34) j f)) (qm_b2 (M 32) (M 34) (M 35) j f) from rfl] at e
      have e1 : (j : Int).tdiv 3 = (j : Int) / 3 := Int.tdiv_eq_ediv_of_nonneg (by omega)
      have e2 : (j : Int).tmod 3 = (j : Int) % 3 := Int.tmod_eq_emod_of_nonneg (by omega)
      have rf := qm_bf_r (M 32) j (f + 1).toNat
      have rh := qm_bh_r (M 32) j (119 - f).toNat (by omega)
      have k1 := K_Model_before (b := (j : Int).tdiv 3) (c := (j : Int).tmod 3) (f := f) (t := j) (M := M) (by omega) (by omega) (by omega) (by omega) (by omega) (by omega) h4
      have k2 := K_Model_behind (b := (j : Int).tdiv 3) (c := (j : Int).tmod 3) (f := f) (t := j) (M := M) (by omega) (by omega) (by omega) (by omega) (by omega) (by omega) h4
      obtain ⟨p, hp⟩ : ∃ p, p = qm_bf (M 32) j (f + 1).toNat := ⟨_, rfl⟩
      obtain ⟨q, hq⟩ : ∃ q, q = qm_bh (M 32) j (119 - f).toNat := ⟨_, rfl⟩
      have eb1 : qm_b1 (M 32) (M 34) j f = if p = -1 then 0 else qa_shl 1 (M 34 (120 * j + p)) := by rw [hp]; rfl
      have eb2 : qm_b2 (M 32) (M 34) (M 35) j f = if q < 120 ∧ (p = -1 ∨ M 35 (120 * j + p) ≠ 0 ∧ p < f) then qa_shl 1 (M 34 (120 * j + q)) else 0 := by rw [hp, hq]; rfl
      rw [← hp] at k1 rf
      rw [← hq] at k2 rh
      obtain ⟨A, hA⟩ : ∃ A, A = qm_ar (M 32) (M 34) (M 35) f j := ⟨_, rfl⟩
      rw [← hA] at e ⊢
      have fin : ∀ (h z : Int), (h = 1 → z = qa_shl 1 (M 34 (120 * j + q)) ∧ 0 ≤ q ∧ q < 120) → (h = 0 → z = 0) → (h = 0 ∨ h = 1) → qm_b2 (M 32) (M 34) (M 35) j f = z → qa_E 86 106 [(0, qr 6), (1, qi f), (2, qi (qa_or A (qm_b1 (M 32) (M 34) j f))), (3, qi j), (4, qi p), (5, qi q)] [qi h] M (.inl (some (qi (qm_ar (M 32) (M 34) (M 35) f (3 * M 6 0).toNat)))) M := by
        intro h z z1 z0 h01 hz
        rw [hz] at e
        refine R_istore cd_86_106 ?_
        refine R_iload cd_86_108 rfl ?_
        refine R_iload cd_86_109 rfl ?_
        refine R_if_eq 131 cd_86_111 rfl (fun b111 => ?_) (fun b111 => ?_)
        · rw [z0 b111] at e
          refine R_push cd_86_131 ?_
          refine R_ior cd_86_132 ?_
          refine R_istore cd_86_133 ?_
          refine R_iinc cd_86_134 rfl (by unfold qa_InR; first | omega | (simp [qa_upd, qa_blk] <;> omega)) ?_
          refine R_goto cd_86_137 ?_
          exact R_norm (qs_c rfl (qs_c rfl (qs_c rfl (qs_c rfl qs_n)))) e
        · have zz := z1 (by omega)
          rw [zz.1] at e
          refine R_push cd_86_114 ?_
          refine R_aload cd_86_115 rfl ?_
          refine R_getr cd_86_116 rfl ?_
          refine R_push cd_86_119 ?_
          refine R_iload cd_86_121 rfl ?_
          refine R_imul cd_86_122 (by unfold qa_InR; first | omega | (simp [qa_upd, qa_blk] <;> omega)) ?_
          refine R_iload cd_86_123 rfl ?_
          refine R_iadd cd_86_125 (by unfold qa_InR; first | omega | (simp [qa_upd, qa_blk] <;> omega)) ?_
          refine R_iald cd_86_126 rfl (by first | omega | (simp [qa_upd, qa_blk] <;> omega)) (by first | omega | (simp [qa_upd, qa_blk] <;> omega)) ?_
          refine R_ishl cd_86_127 ?_
          refine R_goto cd_86_128 ?_
          refine R_ior cd_86_132 ?_
          refine R_istore cd_86_133 ?_
          refine R_iinc cd_86_134 rfl (by unfold qa_InR; first | omega | (simp [qa_upd, qa_blk] <;> omega)) ?_
          refine R_goto cd_86_137 ?_
          exact R_norm (qs_c rfl (qs_c rfl (qs_c rfl (qs_c rfl qs_n)))) e
      have mid : qa_E 86 67 [(0, qr 6), (1, qi f), (2, qi (qa_or A (qm_b1 (M 32) (M 34) j f))), (3, qi j), (4, qi p), (5, qi q)] [] M (.inl (some (qi (qm_ar (M 32) (M 34) (M 35) f (3 * M 6 0).toNat)))) M := by
        refine R_iload cd_86_67 rfl ?_
        refine R_push cd_86_69 ?_
        refine R_icmp_ge 105 cd_86_71 rfl (fun b71 => ?_) (fun b71 => ?_)
        · refine R_push cd_86_105 ?_
          first
            | exact R_norm (qs_c rfl (qs_c rfl (qs_c rfl (qs_c rfl (qs_c rfl (qs_c rfl qs_n)))))) (fin 1 _ (fun _ => ⟨rfl, by omega, by omega⟩) (fun z => absurd z (by decide)) (Or.inr rfl) (by rw [eb2, if_pos (by omega)]))
            | exact R_norm (qs_c rfl (qs_c rfl (qs_c rfl (qs_c rfl (qs_c rfl (qs_c rfl qs_n)))))) (fin 0 0 (fun z => absurd z (by decide)) (fun _ => rfl) (Or.inl rfl) (by rw [eb2, if_neg (by omega)]))
        · refine R_iload cd_86_74 rfl ?_
          refine R_push cd_86_76 ?_
          refine R_icmp_eq 101 cd_86_77 rfl (fun b77 => ?_) (fun b77 => ?_)
          · refine R_push cd_86_101 ?_
            refine R_goto cd_86_102 ?_
            first
              | exact R_norm (qs_c rfl (qs_c rfl (qs_c rfl (qs_c rfl (qs_c rfl (qs_c rfl qs_n)))))) (fin 1 _ (fun _ => ⟨rfl, by omega, by omega⟩) (fun z => absurd z (by decide)) (Or.inr rfl) (by rw [eb2, if_pos (by omega)]))
              | exact R_norm (qs_c rfl (qs_c rfl (qs_c rfl (qs_c rfl (qs_c rfl (qs_c rfl qs_n)))))) (fin 0 0 (fun z => absurd z (by decide)) (fun _ => rfl) (Or.inl rfl) (by rw [eb2, if_neg (by omega)]))
          · refine R_aload cd_86_80 rfl ?_
            refine R_getr cd_86_81 rfl ?_
            refine R_push cd_86_84 ?_
            refine R_iload cd_86_86 rfl ?_
            refine R_imul cd_86_87 (by unfold qa_InR; first | omega | (simp [qa_upd, qa_blk] <;> omega)) ?_
            refine R_iload cd_86_88 rfl ?_
            refine R_iadd cd_86_90 (by unfold qa_InR; first | omega | (simp [qa_upd, qa_blk] <;> omega)) ?_
            refine R_zald cd_86_91 rfl (by first | omega | (simp [qa_upd, qa_blk] <;> omega)) (by first | omega | (simp [qa_upd, qa_blk] <;> omega)) ?_
            refine R_if_eq 105 cd_86_92 rfl (fun b92 => ?_) (fun b92 => ?_)
            · refine R_push cd_86_105 ?_
              first
                | exact R_norm (qs_c rfl (qs_c rfl (qs_c rfl (qs_c rfl (qs_c rfl (qs_c rfl qs_n)))))) (fin 1 _ (fun _ => ⟨rfl, by omega, by omega⟩) (fun z => absurd z (by decide)) (Or.inr rfl) (by rw [eb2, if_pos (by omega)]))
                | exact R_norm (qs_c rfl (qs_c rfl (qs_c rfl (qs_c rfl (qs_c rfl (qs_c rfl qs_n)))))) (fin 0 0 (fun z => absurd z (by decide)) (fun _ => rfl) (Or.inl rfl) (by rw [eb2, if_neg (by omega)]))
            · refine R_iload cd_86_95 rfl ?_
              refine R_iload cd_86_97 rfl ?_
              refine R_icmp_ge 105 cd_86_98 rfl (fun b98 => ?_) (fun b98 => ?_)
              · refine R_push cd_86_105 ?_
                first
                  | exact R_norm (qs_c rfl (qs_c rfl (qs_c rfl (qs_c rfl (qs_c rfl (qs_c rfl qs_n)))))) (fin 1 _ (fun _ => ⟨rfl, by omega, by omega⟩) (fun z => absurd z (by decide)) (Or.inr rfl) (by rw [eb2, if_pos (by omega)]))
                  | exact R_norm (qs_c rfl (qs_c rfl (qs_c rfl (qs_c rfl (qs_c rfl (qs_c rfl qs_n)))))) (fin 0 0 (fun z => absurd z (by decide)) (fun _ => rfl) (Or.inl rfl) (by rw [eb2, if_neg (by omega)]))
              · refine R_push cd_86_101 ?_
                refine R_goto cd_86_102 ?_
                first
                  | exact R_norm (qs_c rfl (qs_c rfl (qs_c rfl (qs_c rfl (qs_c rfl (qs_c rfl qs_n)))))) (fin 1 _ (fun _ => ⟨rfl, by omega, by omega⟩) (fun z => absurd z (by decide)) (Or.inr rfl) (by rw [eb2, if_pos (by omega)]))
                  | exact R_norm (qs_c rfl (qs_c rfl (qs_c rfl (qs_c rfl (qs_c rfl (qs_c rfl qs_n)))))) (fin 0 0 (fun z => absurd z (by decide)) (fun _ => rfl) (Or.inl rfl) (by rw [eb2, if_neg (by omega)]))
      refine R_iload cd_86_4 rfl ?_
      refine R_push cd_86_5 ?_
      refine R_aload cd_86_6 rfl ?_
      refine R_getf cd_86_7 rfl (by decide) ?_
      refine R_imul cd_86_10 (by unfold qa_InR; first | omega | (simp [qa_upd, qa_blk] <;> omega)) ?_
      refine R_icmp_ge 140 cd_86_11 rfl (fun b11 => ?_) (fun b11 => ?_)
      · omega
      · refine R_aload cd_86_14 rfl ?_
        refine R_iload cd_86_15 rfl ?_
        refine R_push cd_86_16 ?_
        refine R_idiv cd_86_17 (by decide) ?_
        refine R_iload cd_86_18 rfl ?_
        refine R_push cd_86_19 ?_
        refine R_irem cd_86_20 (by decide) ?_
        refine R_iload cd_86_21 rfl ?_
        refine R_call4 cd_86_22 rfl rfl k1 ?_
        refine R_istore cd_86_25 ?_
        refine R_aload cd_86_27 rfl ?_
        refine R_iload cd_86_28 rfl ?_
        refine R_push cd_86_29 ?_
        refine R_idiv cd_86_30 (by decide) ?_
        refine R_iload cd_86_31 rfl ?_
        refine R_push cd_86_32 ?_
        refine R_irem cd_86_33 (by decide) ?_
        refine R_iload cd_86_34 rfl ?_
        refine R_call4 cd_86_35 rfl rfl k2 ?_
        refine R_istore cd_86_38 ?_
        refine R_iload cd_86_40 rfl ?_
        refine R_iload cd_86_41 rfl ?_
        refine R_push cd_86_43 ?_
        refine R_icmp_ne 51 cd_86_44 rfl (fun b44 => ?_) (fun b44 => ?_)
        · refine R_push cd_86_51 ?_
          refine R_aload cd_86_52 rfl ?_
          refine R_getr cd_86_53 rfl ?_
          refine R_push cd_86_56 ?_
          refine R_iload cd_86_58 rfl ?_
          refine R_imul cd_86_59 (by unfold qa_InR; first | omega | (simp [qa_upd, qa_blk] <;> omega)) ?_
          refine R_iload cd_86_60 rfl ?_
          refine R_iadd cd_86_62 (by unfold qa_InR; first | omega | (simp [qa_upd, qa_blk] <;> omega)) ?_
          refine R_iald cd_86_63 rfl (by first | omega | (simp [qa_upd, qa_blk] <;> omega)) (by first | omega | (simp [qa_upd, qa_blk] <;> omega)) ?_
          refine R_ishl cd_86_64 ?_
          refine R_ior cd_86_65 ?_
          refine R_istore cd_86_66 ?_
          first
            | rw [eb1, if_pos b44] at mid
              exact R_norm (qs_c rfl (qs_c rfl (qs_c rfl (qs_c rfl (qs_c rfl (qs_c rfl qs_n)))))) mid
            | rw [eb1, if_neg b44] at mid
              exact R_norm (qs_c rfl (qs_c rfl (qs_c rfl (qs_c rfl (qs_c rfl (qs_c rfl qs_n)))))) mid
        · refine R_push cd_86_47 ?_
          refine R_goto cd_86_48 ?_
          refine R_ior cd_86_65 ?_
          refine R_istore cd_86_66 ?_
          first
            | rw [eb1, if_pos b44] at mid
              exact R_norm (qs_c rfl (qs_c rfl (qs_c rfl (qs_c rfl (qs_c rfl (qs_c rfl qs_n)))))) mid
            | rw [eb1, if_neg b44] at mid
              exact R_norm (qs_c rfl (qs_c rfl (qs_c rfl (qs_c rfl (qs_c rfl (qs_c rfl qs_n)))))) mid
  refine R_push cd_86_0 ?_
  refine R_istore cd_86_1 ?_
  refine R_push cd_86_2 ?_
  refine R_istore cd_86_3 ?_
  exact R_norm (qs_c rfl (qs_c rfl (qs_c rfl (qs_c rfl qs_n)))) (lp _ 0 [] (Nat.zero_add _))
theorem K_Model_artistsX1 {f : Int} {M : qa_Mem} (h3 : ¬ (0 ≤ f ∧ f ≤ 119)) : qa_E 87 0 [(0, qr 6), (1, qi (f))] [] (M) (.inl (some (qi (0)))) (qa_upd M 6 26 1) := by
  refine R_aload cd_87_0 rfl ?_
  refine R_iload cd_87_1 rfl ?_
  refine R_call1 cd_87_2 rfl rfl K_Model_isFrame ?_
  refine R_ifeq_b 12 cd_87_5 rfl (fun b5 => ?_) (fun b5 => ?_)
  · refine R_push cd_87_12 ?_
    refine R_call2 cd_87_13 rfl rfl K_Model_fails ?_
    refine R_ifeq_b 23 cd_87_16 rfl (fun h => absurd h (by decide)) (fun _ => ?_)
    refine R_push cd_87_19 ?_
    refine R_goto cd_87_20 ?_
    exact R_iret cd_87_28 (by first | rfl | omega) rfl
  · refine R_push cd_87_8 ?_
    refine R_goto cd_87_9 ?_
    exfalso
    omega
theorem K_Model_artists0 {f : Int} {M : qa_Mem} (h1 : 0 ≤ M 6 0) (h2 : M 6 0 ≤ 8) (h3 : 0 ≤ f ∧ f ≤ 119) : qa_E 87 0 [(0, qr 6), (1, qi (f))] [] (M) (.inl (some (qi (qm_ar (M 32) (M 34) (M 35) f (3 * M 6 0).toNat)))) (qa_upd M 6 26 0) := by
  refine R_aload cd_87_0 rfl ?_
  refine R_iload cd_87_1 rfl ?_
  refine R_call1 cd_87_2 rfl rfl K_Model_isFrame ?_
  refine R_ifeq_b 12 cd_87_5 rfl (fun b5 => ?_) (fun b5 => ?_)
  · refine R_push cd_87_12 ?_
    exfalso
    omega
  · refine R_push cd_87_8 ?_
    refine R_goto cd_87_9 ?_
    refine R_call2 cd_87_13 rfl rfl K_Model_fails ?_
    refine R_ifeq_b 23 cd_87_16 rfl (fun _ => ?_) (fun h => absurd h (by decide))
    refine R_aload cd_87_23 rfl ?_
    refine R_iload cd_87_24 rfl ?_
    refine R_call2 cd_87_25 rfl rfl (K_Model_artistsOf h1 h2 (by omega) (by omega)) ?_
    exact R_iret cd_87_28 (by first | rfl | omega) rfl
/-- shots (the reference) -/
def qm_sh (M : qa_Mem) : Prop := (0 ≤ M 6 9 ∧ M 6 9 ≤ 10) ∧ ∀ k : Int, 0 ≤ k → k < M 6 9 → 0 ≤ M 36 k ∧ M 36 k ≤ M 37 k ∧ M 37 k < 120
def qm_len (M : qa_Mem) : Int := qf_sum (fun k => M 37 k - M 36 k + 1) (M 6 9).toNat
theorem K_Model_length {M : qa_Mem} (h : qm_sh M) : qa_E 88 0 [(0, qr 6)] [] (M) (.inl (some (qi (qm_len M)))) (M) := by
  obtain ⟨h1, h2⟩ := h
  have lp : ∀ (k : Nat) (j : Nat), j + k = (M 6 9).toNat → qa_E 88 4 [(0, qr 6), (1, qi (qf_sum (fun k => M 37 k - M 36 k + 1) j)), (2, qi j)] [] M (.inl (some (qi (qm_len M)))) M := by
    intro k
    induction k with
    | zero =>
      intro j g1
      refine R_iload cd_88_4 rfl ?_
      refine R_aload cd_88_5 rfl ?_
      refine R_getf cd_88_6 rfl (by decide) ?_
      refine R_icmp_ge 36 cd_88_9 rfl (fun b9 => ?_) (fun b9 => ?_)
      · refine R_iload cd_88_36 rfl ?_
        exact R_iret cd_88_37 (by unfold qm_len; rw [← g1]; rfl) rfl
      · omega
    | succ k ih =>
      intro j g1
      have e := ih (j + 1) (by omega)
      rw [Int.natCast_add] at e
      unfold qf_sum at e
      have w := h2 j (by omega) (by omega)
      have r1 := qf_sum_r (A := fun k => M 37 k - M 36 k + 1) (B := 120) j (fun i a b => by
        have := h2 i a (by omega)
        exact ⟨by omega, by omega⟩)
      refine R_iload cd_88_4 rfl ?_
      refine R_aload cd_88_5 rfl ?_
      refine R_getf cd_88_6 rfl (by decide) ?_
      refine R_icmp_ge 36 cd_88_9 rfl (fun b9 => ?_) (fun b9 => ?_)
      · omega
      · refine R_iload cd_88_12 rfl ?_
        refine R_aload cd_88_13 rfl ?_
        refine R_getr cd_88_14 rfl ?_
        refine R_iload cd_88_17 rfl ?_
        refine R_iald cd_88_18 rfl (by first | omega | (simp [qa_upd, qa_blk] <;> omega)) (by first | omega | (simp [qa_upd, qa_blk] <;> omega)) ?_
        refine R_aload cd_88_19 rfl ?_
        refine R_getr cd_88_20 rfl ?_
        refine R_iload cd_88_23 rfl ?_
        refine R_iald cd_88_24 rfl (by first | omega | (simp [qa_upd, qa_blk] <;> omega)) (by first | omega | (simp [qa_upd, qa_blk] <;> omega)) ?_
        refine R_isub cd_88_25 (by unfold qa_InR; first | omega | (simp [qa_upd, qa_blk] <;> omega)) ?_
        refine R_push cd_88_26 ?_
        refine R_iadd cd_88_27 (by unfold qa_InR; first | omega | (simp [qa_upd, qa_blk] <;> omega)) ?_
        refine R_iadd cd_88_28 (by unfold qa_InR; first | omega | (simp [qa_upd, qa_blk] <;> omega)) ?_
        refine R_istore cd_88_29 ?_
        refine R_iinc cd_88_30 rfl (by unfold qa_InR; first | omega | (simp [qa_upd, qa_blk] <;> omega)) ?_
        refine R_goto cd_88_33 ?_
        exact R_norm (qs_c rfl (qs_c rfl (qs_c rfl qs_n))) e
  refine R_push cd_88_0 ?_
  refine R_istore cd_88_1 ?_
  refine R_push cd_88_2 ?_
  refine R_istore cd_88_3 ?_
  exact R_norm (qs_c rfl (qs_c rfl (qs_c rfl qs_n))) (lp _ 0 (Nat.zero_add _))
def qm_nd (M : qa_Mem) (f : Int) : Prop := ∃ k : Int, 0 ≤ k ∧ k < M 6 9 ∧ M 36 k ≤ f ∧ f ≤ M 37 k
theorem K_Model_isNeeded {f : Int} {M : qa_Mem} (h1 : 0 ≤ M 6 9) (h2 : M 6 9 ≤ 10) : qa_E 93 0 [(0, qr 6), (1, qi (f))] [] (M) (.inl (some (qi (qb (qm_nd M f))))) (M) := by
  have lp : ∀ (n : Nat) (j : Int) (P : Prop), j + n = M 6 9 → 0 ≤ j → (P ↔ ∃ k : Int, 0 ≤ k ∧ k < j ∧ M 36 k ≤ f ∧ f ≤ M 37 k) → qa_E 93 4 [(0, qr 6), (1, qi f), (2, qi (qb P)), (3, qi j)] [] M (.inl (some (qi (qb (qm_nd M f))))) M := by
    intro n
    induction n with
    | zero =>
      intro j P g1 g2 hP
      obtain rfl : j = M 6 9 := by omega
      refine R_iload cd_93_4 rfl ?_
      refine R_aload cd_93_5 rfl ?_
      refine R_getf cd_93_6 rfl (by decide) ?_
      refine R_icmp_ge 47 cd_93_9 rfl (fun b9 => ?_) (fun b9 => ?_)
      · refine R_iload cd_93_47 rfl ?_
        exact R_zret_b cd_93_48 hP rfl
      · omega
    | succ n ih =>
      intro j P g1 g2 hP
      refine R_iload cd_93_4 rfl ?_
      refine R_aload cd_93_5 rfl ?_
      refine R_getf cd_93_6 rfl (by decide) ?_
      refine R_icmp_ge 47 cd_93_9 rfl (fun b9 => ?_) (fun b9 => ?_)
      · omega
      · refine R_iload cd_93_12 rfl ?_
        refine R_ifne_b 35 cd_93_13 rfl (fun b13 => ?_) (fun b13 => ?_)
        · refine R_push cd_93_35 ?_
          refine R_goto cd_93_36 ?_
          refine R_istore cd_93_40 ?_
          refine R_iinc cd_93_41 rfl (by unfold qa_InR; first | omega | (simp [qa_upd, qa_blk] <;> omega)) ?_
          refine R_goto cd_93_44 ?_
          first
            | have e := ih (j + 1) True (by omega) (by omega) ⟨fun _ => by
                obtain ⟨k, a, b, c⟩ := hP.mp b13
                exact ⟨k, a, by omega, c⟩, fun _ => trivial⟩
              rw [qb_t trivial] at e
              exact R_norm (qs_c rfl (qs_c rfl (qs_c rfl (qs_c rfl qs_n)))) e
            | have e := ih (j + 1) True (by omega) (by omega) ⟨fun _ => ⟨j, g2, by omega, b32⟩, fun _ => trivial⟩
              rw [qb_t trivial] at e
              exact R_norm (qs_c rfl (qs_c rfl (qs_c rfl (qs_c rfl qs_n)))) e
            | have e := ih (j + 1) False (by omega) (by omega) ⟨fun q => q.elim, fun ⟨k, a, b, c⟩ => by
                by_cases hk : k = j
                · subst hk; exact b32 c
                · exact b13 (hP.mpr ⟨k, a, by omega, c⟩)⟩
              rw [qb_f id] at e
              exact R_norm (qs_c rfl (qs_c rfl (qs_c rfl (qs_c rfl qs_n)))) e
        · refine R_iload cd_93_16 rfl ?_
          refine R_aload cd_93_17 rfl ?_
          refine R_getr cd_93_18 rfl ?_
          refine R_iload cd_93_21 rfl ?_
          refine R_iald cd_93_22 rfl (by first | omega | (simp [qa_upd, qa_blk] <;> omega)) (by first | omega | (simp [qa_upd, qa_blk] <;> omega)) ?_
          refine R_aload cd_93_23 rfl ?_
          refine R_getr cd_93_24 rfl ?_
          refine R_iload cd_93_27 rfl ?_
          refine R_iald cd_93_28 rfl (by first | omega | (simp [qa_upd, qa_blk] <;> omega)) (by first | omega | (simp [qa_upd, qa_blk] <;> omega)) ?_
          refine R_call3 cd_93_29 rfl rfl K_Model_isIn ?_
          refine R_ifeq_b 39 cd_93_32 rfl (fun b32 => ?_) (fun b32 => ?_)
          · refine R_push cd_93_39 ?_
            refine R_istore cd_93_40 ?_
            refine R_iinc cd_93_41 rfl (by unfold qa_InR; first | omega | (simp [qa_upd, qa_blk] <;> omega)) ?_
            refine R_goto cd_93_44 ?_
            first
              | have e := ih (j + 1) True (by omega) (by omega) ⟨fun _ => by
                  obtain ⟨k, a, b, c⟩ := hP.mp b13
                  exact ⟨k, a, by omega, c⟩, fun _ => trivial⟩
                rw [qb_t trivial] at e
                exact R_norm (qs_c rfl (qs_c rfl (qs_c rfl (qs_c rfl qs_n)))) e
              | have e := ih (j + 1) True (by omega) (by omega) ⟨fun _ => ⟨j, g2, by omega, b32⟩, fun _ => trivial⟩
                rw [qb_t trivial] at e
                exact R_norm (qs_c rfl (qs_c rfl (qs_c rfl (qs_c rfl qs_n)))) e
              | have e := ih (j + 1) False (by omega) (by omega) ⟨fun q => q.elim, fun ⟨k, a, b, c⟩ => by
                  by_cases hk : k = j
                  · subst hk; exact b32 c
                  · exact b13 (hP.mpr ⟨k, a, by omega, c⟩)⟩
                rw [qb_f id] at e
                exact R_norm (qs_c rfl (qs_c rfl (qs_c rfl (qs_c rfl qs_n)))) e
          · refine R_push cd_93_35 ?_
            refine R_goto cd_93_36 ?_
            refine R_istore cd_93_40 ?_
            refine R_iinc cd_93_41 rfl (by unfold qa_InR; first | omega | (simp [qa_upd, qa_blk] <;> omega)) ?_
            refine R_goto cd_93_44 ?_
            first
              | have e := ih (j + 1) True (by omega) (by omega) ⟨fun _ => by
                  obtain ⟨k, a, b, c⟩ := hP.mp b13
                  exact ⟨k, a, by omega, c⟩, fun _ => trivial⟩
                rw [qb_t trivial] at e
                exact R_norm (qs_c rfl (qs_c rfl (qs_c rfl (qs_c rfl qs_n)))) e
              | have e := ih (j + 1) True (by omega) (by omega) ⟨fun _ => ⟨j, g2, by omega, b32⟩, fun _ => trivial⟩
                rw [qb_t trivial] at e
                exact R_norm (qs_c rfl (qs_c rfl (qs_c rfl (qs_c rfl qs_n)))) e
              | have e := ih (j + 1) False (by omega) (by omega) ⟨fun q => q.elim, fun ⟨k, a, b, c⟩ => by
                  by_cases hk : k = j
                  · subst hk; exact b32 c
                  · exact b13 (hP.mpr ⟨k, a, by omega, c⟩)⟩
                rw [qb_f id] at e
                exact R_norm (qs_c rfl (qs_c rfl (qs_c rfl (qs_c rfl qs_n)))) e
  have e := lp (M 6 9).toNat 0 False (by omega) (by omega) ⟨fun q => q.elim, fun ⟨k, a, b, c⟩ => by omega⟩
  rw [qb_f id] at e
  refine R_push cd_93_0 ?_
  refine R_istore cd_93_1 ?_
  refine R_push cd_93_2 ?_
  refine R_istore cd_93_3 ?_
  exact R_norm (qs_c rfl (qs_c rfl (qs_c rfl (qs_c rfl qs_n)))) e
theorem K_Model_stateX1 {f : Int} {M : qa_Mem} (h3 : ¬ (0 ≤ f ∧ f ≤ 119)) : qa_E 94 0 [(0, qr 6), (1, qi (f))] [] (M) (.inl (some (qi (0)))) (qa_upd M 6 26 1) := by
  refine R_aload cd_94_0 rfl ?_
  refine R_iload cd_94_1 rfl ?_
  refine R_call1 cd_94_2 rfl rfl K_Model_isFrame ?_
  refine R_ifeq_b 12 cd_94_5 rfl (fun b5 => ?_) (fun b5 => ?_)
  · refine R_push cd_94_12 ?_
    refine R_call2 cd_94_13 rfl rfl K_Model_fails ?_
    refine R_ifeq_b 21 cd_94_16 rfl (fun h => absurd h (by decide)) (fun _ => ?_)
    refine R_push cd_94_19 ?_
    exact R_iret cd_94_20 (by first | rfl | omega) rfl
  · refine R_push cd_94_8 ?_
    refine R_goto cd_94_9 ?_
    exfalso
    omega
noncomputable def qm_ss (M : qa_Mem) (f : Int) : Int := if M 38 f = 0 then 0 else 2 - qb (qm_st M f)
theorem K_Model_state0 {f : Int} {M : qa_Mem} (hw : qm_wf M) (h1 : 0 ≤ M 6 9) (h2 : M 6 9 ≤ 10) (h3 : 0 ≤ f ∧ f ≤ 119) : qa_E 94 0 [(0, qr 6), (1, qi (f))] [] (M) (.inl (some (qi (qm_ss M f + 10 * qb (qm_nd M f))))) (qa_upd M 6 26 0) := by
  have hw0 : qm_wf (qa_upd M 6 26 0) := ⟨hw.1, hw.2⟩
  have tail : ∀ z : Int, z = qm_ss M f → 0 ≤ z → z ≤ 2 → qa_E 94 47 [(0, qr 6), (1, qi f)] [qi z] (qa_upd M 6 26 0) (.inl (some (qi (qm_ss M f + 10 * qb (qm_nd M f))))) (qa_upd M 6 26 0) := by
    intro z hz z0 z2
    rw [← hz]
    refine R_aload cd_94_47 rfl ?_
    refine R_iload cd_94_48 rfl ?_
    refine R_call2 cd_94_49 rfl rfl (K_Model_isNeeded (M := qa_upd M 6 26 0) h1 h2) ?_
    refine R_ifeq_b 60 cd_94_52 rfl (fun b52 => ?_) (fun b52 => ?_)
    · refine R_push cd_94_60 ?_
      refine R_iadd cd_94_61 (by unfold qa_InR; first | omega | (simp [qa_upd, qa_blk] <;> omega)) ?_
      first
        | exact R_iret cd_94_62 (by rw [qb_t (show qm_nd M f from b52)]; omega) rfl
        | exact R_iret cd_94_62 (by rw [qb_f (show ¬ qm_nd M f from b52)]; omega) rfl
    · refine R_push cd_94_55 ?_
      refine R_goto cd_94_57 ?_
      refine R_iadd cd_94_61 (by unfold qa_InR; first | omega | (simp [qa_upd, qa_blk] <;> omega)) ?_
      first
        | exact R_iret cd_94_62 (by rw [qb_t (show qm_nd M f from b52)]; omega) rfl
        | exact R_iret cd_94_62 (by rw [qb_f (show ¬ qm_nd M f from b52)]; omega) rfl
  refine R_aload cd_94_0 rfl ?_
  refine R_iload cd_94_1 rfl ?_
  refine R_call1 cd_94_2 rfl rfl K_Model_isFrame ?_
  refine R_ifeq_b 12 cd_94_5 rfl (fun b5 => ?_) (fun b5 => ?_)
  · refine R_push cd_94_12 ?_
    exfalso
    omega
  · refine R_push cd_94_8 ?_
    refine R_goto cd_94_9 ?_
    refine R_call2 cd_94_13 rfl rfl K_Model_fails ?_
    refine R_ifeq_b 21 cd_94_16 rfl (fun _ => ?_) (fun h => absurd h (by decide))
    refine R_aload cd_94_21 rfl ?_
    refine R_getr cd_94_22 rfl ?_
    refine R_iload cd_94_25 rfl ?_
    refine R_zald cd_94_26 rfl (by first | omega | (simp [qa_upd, qa_blk] <;> omega)) (by first | omega | (simp [qa_upd, qa_blk] <;> omega)) ?_
    refine R_if_ne 34 cd_94_27 rfl (fun b27 => ?_) (fun b27 => ?_)
    · refine R_aload cd_94_34 rfl ?_
      refine R_iload cd_94_35 rfl ?_
      refine R_call2 cd_94_36 rfl rfl (K_Model_stands hw0 (by omega) (by omega)) ?_
      refine R_ifeq_b 46 cd_94_39 rfl (fun b39 => ?_) (fun b39 => ?_)
      · refine R_push cd_94_46 ?_
        first
          | exact R_norm (qs_c rfl (qs_c rfl qs_n)) (tail 0 (by unfold qm_ss; rw [if_pos (show M 38 f = 0 from b27)]) (by omega) (by omega))
          | exact R_norm (qs_c rfl (qs_c rfl qs_n)) (tail 1 (by unfold qm_ss; rw [if_neg (show ¬ M 38 f = 0 from b27), qb_t (show qm_st M f from b39)]; rfl) (by omega) (by omega))
          | exact R_norm (qs_c rfl (qs_c rfl qs_n)) (tail 2 (by unfold qm_ss; rw [if_neg (show ¬ M 38 f = 0 from b27), qb_f (show ¬ qm_st M f from b39)]; rfl) (by omega) (by omega))
      · refine R_push cd_94_42 ?_
        refine R_goto cd_94_43 ?_
        first
          | exact R_norm (qs_c rfl (qs_c rfl qs_n)) (tail 0 (by unfold qm_ss; rw [if_pos (show M 38 f = 0 from b27)]) (by omega) (by omega))
          | exact R_norm (qs_c rfl (qs_c rfl qs_n)) (tail 1 (by unfold qm_ss; rw [if_neg (show ¬ M 38 f = 0 from b27), qb_t (show qm_st M f from b39)]; rfl) (by omega) (by omega))
          | exact R_norm (qs_c rfl (qs_c rfl qs_n)) (tail 2 (by unfold qm_ss; rw [if_neg (show ¬ M 38 f = 0 from b27), qb_f (show ¬ qm_st M f from b39)]; rfl) (by omega) (by omega))
    · refine R_push cd_94_30 ?_
      refine R_goto cd_94_31 ?_
      first
        | exact R_norm (qs_c rfl (qs_c rfl qs_n)) (tail 0 (by unfold qm_ss; rw [if_pos (show M 38 f = 0 from b27)]) (by omega) (by omega))
        | exact R_norm (qs_c rfl (qs_c rfl qs_n)) (tail 1 (by unfold qm_ss; rw [if_neg (show ¬ M 38 f = 0 from b27), qb_t (show qm_st M f from b39)]; rfl) (by omega) (by omega))
        | exact R_norm (qs_c rfl (qs_c rfl qs_n)) (tail 2 (by unfold qm_ss; rw [if_neg (show ¬ M 38 f = 0 from b27), qb_f (show ¬ qm_st M f from b39)]; rfl) (by omega) (by omega))
theorem K_Model_shownAt {p : Int} {M : qa_Mem} (h : qm_sh M) (h1 : p ≤ 2147483647) : qa_E 91 0 [(0, qr 6), (1, qi (p))] [] (M) (.inl (some (qi (if p < 0 then -1 else qm_at (M 36) (M 37) (M 6 9).toNat 0 p)))) (M) := by
  obtain ⟨h2, h3⟩ := h
  have lp : ∀ (n : Nat) (k left : Int), k + n = M 6 9 → 0 ≤ k → 0 ≤ left → left ≤ p → qa_E 91 4 [(0, qr 6), (1, qi p), (2, qi left), (3, qi k)] [] M (.inl (some (qi (qm_at (M 36) (M 37) n k left)))) M := by
    intro n
    induction n with
    | zero =>
      intro k left g1 g2 g3 g4
      refine R_iload cd_91_4 rfl ?_
      refine R_aload cd_91_5 rfl ?_
      refine R_getf cd_91_6 rfl (by decide) ?_
      refine R_icmp_ge 59 cd_91_9 rfl (fun b9 => ?_) (fun b9 => ?_)
      · refine R_push cd_91_59 ?_
        exact R_iret cd_91_60 (by first | rfl | omega) rfl
      · refine R_iload cd_91_12 rfl ?_
        refine R_if_lt 59 cd_91_13 rfl (fun b13 => ?_) (fun b13 => ?_)
        · refine R_push cd_91_59 ?_
          exact R_iret cd_91_60 (by first | rfl | omega) rfl
        · omega
    | succ n ih =>
      intro k left g1 g2 g3 g4
      have w := h3 k g2 (by omega)
      unfold qm_at
      refine R_iload cd_91_4 rfl ?_
      refine R_aload cd_91_5 rfl ?_
      refine R_getf cd_91_6 rfl (by decide) ?_
      refine R_icmp_ge 59 cd_91_9 rfl (fun b9 => ?_) (fun b9 => ?_)
      · omega
      · refine R_iload cd_91_12 rfl ?_
        refine R_if_lt 59 cd_91_13 rfl (fun b13 => ?_) (fun b13 => ?_)
        · omega
        · refine R_aload cd_91_16 rfl ?_
          refine R_getr cd_91_17 rfl ?_
          refine R_iload cd_91_20 rfl ?_
          refine R_iald cd_91_21 rfl (by first | omega | (simp [qa_upd, qa_blk] <;> omega)) (by first | omega | (simp [qa_upd, qa_blk] <;> omega)) ?_
          refine R_aload cd_91_22 rfl ?_
          refine R_getr cd_91_23 rfl ?_
          refine R_iload cd_91_26 rfl ?_
          refine R_iald cd_91_27 rfl (by first | omega | (simp [qa_upd, qa_blk] <;> omega)) (by first | omega | (simp [qa_upd, qa_blk] <;> omega)) ?_
          refine R_isub cd_91_28 (by unfold qa_InR; first | omega | (simp [qa_upd, qa_blk] <;> omega)) ?_
          refine R_push cd_91_29 ?_
          refine R_iadd cd_91_30 (by unfold qa_InR; first | omega | (simp [qa_upd, qa_blk] <;> omega)) ?_
          refine R_istore cd_91_31 ?_
          refine R_iload cd_91_33 rfl ?_
          refine R_iload cd_91_34 rfl ?_
          refine R_icmp_ge 48 cd_91_36 rfl (fun b36 => ?_) (fun b36 => ?_)
          · refine R_iload cd_91_48 rfl ?_
            refine R_iload cd_91_49 rfl ?_
            refine R_isub cd_91_51 (by unfold qa_InR; first | omega | (simp [qa_upd, qa_blk] <;> omega)) ?_
            refine R_istore cd_91_52 ?_
            refine R_iinc cd_91_53 rfl (by unfold qa_InR; first | omega | (simp [qa_upd, qa_blk] <;> omega)) ?_
            refine R_goto cd_91_56 ?_
            rw [if_neg (show ¬ left < M 37 k - M 36 k + 1 by omega)]
            exact R_norm (qs_c rfl (qs_c rfl (qs_c rfl (qs_c rfl qs_n)))) (ih (k + 1) _ (by omega) (by omega) (by omega) (by omega))
          · refine R_aload cd_91_39 rfl ?_
            refine R_getr cd_91_40 rfl ?_
            refine R_iload cd_91_43 rfl ?_
            refine R_iald cd_91_44 rfl (by first | omega | (simp [qa_upd, qa_blk] <;> omega)) (by first | omega | (simp [qa_upd, qa_blk] <;> omega)) ?_
            refine R_iload cd_91_45 rfl ?_
            refine R_iadd cd_91_46 (by unfold qa_InR; first | omega | (simp [qa_upd, qa_blk] <;> omega)) ?_
            exact R_iret cd_91_47 (by rw [if_pos b36]) rfl
  by_cases hp : p < 0
  · rw [if_pos hp]
    refine R_iload cd_91_0 rfl ?_
    refine R_istore cd_91_1 ?_
    refine R_push cd_91_2 ?_
    refine R_istore cd_91_3 ?_
    refine R_iload cd_91_4 rfl ?_
    refine R_aload cd_91_5 rfl ?_
    refine R_getf cd_91_6 rfl (by decide) ?_
    refine R_icmp_ge 59 cd_91_9 rfl (fun b9 => ?_) (fun b9 => ?_)
    · refine R_push cd_91_59 ?_
      exact R_iret cd_91_60 (by first | rfl | omega) rfl
    · refine R_iload cd_91_12 rfl ?_
      refine R_if_lt 59 cd_91_13 rfl (fun b13 => ?_) (fun b13 => ?_)
      · refine R_push cd_91_59 ?_
        exact R_iret cd_91_60 (by first | rfl | omega) rfl
      · omega
  · rw [if_neg hp]
    refine R_iload cd_91_0 rfl ?_
    refine R_istore cd_91_1 ?_
    refine R_push cd_91_2 ?_
    refine R_istore cd_91_3 ?_
    exact R_norm (qs_c rfl (qs_c rfl (qs_c rfl (qs_c rfl qs_n)))) (lp _ 0 p (by omega) (by omega) (by omega) (by omega))
theorem K_Model_shownX1 {p : Int} {M : qa_Mem} (h : qm_sh M) (h1 : p ≤ 2147483647) (h3 : p < 0 ∨ qm_at (M 36) (M 37) (M 6 9).toNat 0 p = -1) : qa_E 92 0 [(0, qr 6), (1, qi (p))] [] (M) (.inl (some (qi (0)))) (qa_upd M 6 26 1) := by
  have ks := K_Model_shownAt (p := p) h h1
  rw [show (if p < 0 then -1 else qm_at (M 36) (M 37) (M 6 9).toNat 0 p) = -1 by split; rfl; omega] at ks
  refine R_aload cd_92_0 rfl ?_
  refine R_iload cd_92_1 rfl ?_
  refine R_call2 cd_92_2 rfl rfl ks ?_
  refine R_istore cd_92_5 ?_
  refine R_aload cd_92_6 rfl ?_
  refine R_iload cd_92_7 rfl ?_
  refine R_push cd_92_8 ?_
  refine R_icmp_ne 16 cd_92_9 rfl (fun b9 => ?_) (fun b9 => ?_)
  · refine R_push cd_92_16 ?_
    exfalso
    omega
  · refine R_push cd_92_12 ?_
    refine R_goto cd_92_13 ?_
    refine R_call2 cd_92_17 rfl rfl K_Model_fails ?_
    refine R_ifeq_b 27 cd_92_20 rfl (fun h => absurd h (by decide)) (fun _ => ?_)
    refine R_push cd_92_23 ?_
    refine R_goto cd_92_24 ?_
    exact R_iret cd_92_28 (by first | rfl | omega) rfl
theorem K_Model_shown0 {p : Int} {M : qa_Mem} (h : qm_sh M) (h1 : p ≤ 2147483647) (h2 : 0 ≤ p) (h3 : qm_at (M 36) (M 37) (M 6 9).toNat 0 p ≠ -1) : qa_E 92 0 [(0, qr 6), (1, qi (p))] [] (M) (.inl (some (qi (qm_at (M 36) (M 37) (M 6 9).toNat 0 p)))) (qa_upd M 6 26 0) := by
  have ks := K_Model_shownAt (p := p) h h1
  rw [if_neg (by omega)] at ks
  refine R_aload cd_92_0 rfl ?_
  refine R_iload cd_92_1 rfl ?_
  refine R_call2 cd_92_2 rfl rfl ks ?_
  refine R_istore cd_92_5 ?_
  refine R_aload cd_92_6 rfl ?_
  refine R_iload cd_92_7 rfl ?_
  refine R_push cd_92_8 ?_
  refine R_icmp_ne 16 cd_92_9 rfl (fun b9 => ?_) (fun b9 => ?_)
  · refine R_push cd_92_16 ?_
    refine R_call2 cd_92_17 rfl rfl K_Model_fails ?_
    refine R_ifeq_b 27 cd_92_20 rfl (fun _ => ?_) (fun h => absurd h (by decide))
    refine R_iload cd_92_27 rfl ?_
    exact R_iret cd_92_28 (by first | rfl | omega) rfl
  · refine R_push cd_92_12 ?_
    refine R_goto cd_92_13 ?_
    exfalso
    omega
