/-! the reference: night, seconds, show -/
theorem qm_rM_v {M : qa_Mem} {m : Int} (hv : qm_fv M) (h1 : 0 ≤ m) (h2 : m < M 6 15) : qm_fv (qm_rM M m) := by
  obtain ⟨⟨v1, v2, v3, v4, v5⟩, v6, v7, v8⟩ := hv
  refine ⟨⟨v1, v2, fun k k1 k2 => ?_, v4, v5⟩, v6, v7, v8⟩
  obtain ⟨t1, t2, t3, t4⟩ := v3 k k1 k2
  by_cases hk : k = m
  · subst hk
    have e1 : (qm_rM M k) 42 k = qf_cool (M 42 k) := by unfold qm_rM; rw [qa_upd_n (by decide), qa_upd_e]
    have e2 : (qm_rM M k) 43 k = qb (8 < qf_cool (M 42 k)) := by unfold qm_rM; rw [qa_upd_e]
    rw [e1, e2]
    have hc : 0 ≤ qf_cool (M 42 k) ∧ qf_cool (M 42 k) ≤ 20 := by unfold qf_cool; split <;> omega
    exact ⟨hc.1, by omega, qb_01 _, fun z => by have := qb_e0.mp z; omega⟩
  · have e1 : (qm_rM M m) 42 k = M 42 k := by unfold qm_rM; rw [qa_upd_n (by decide), qa_upd_i hk]
    have e2 : (qm_rM M m) 43 k = M 43 k := by unfold qm_rM; rw [qa_upd_i hk, qa_upd_n (by decide)]
    rw [e1, e2]
    exact ⟨t1, t2, t3, t4⟩
theorem qm_wM_eq {M : qa_Mem} {m : Int} : ∀ k : Nat, k ≠ 38 → k ≠ 39 → k ≠ 40 → k ≠ 42 → k ≠ 43 → k ≠ 45 → k ≠ 46 → (qm_wM M m) k = M k := by
  intro k a1 a2 a3 a4 a5 a6 a7
  have eN : (qm_rm M (qm_need M) (M 41 m) 120) k = M k := by unfold qm_rm; rw [qa_blk_n a1, qa_blk_n a2, qa_blk_n a3]
  unfold qm_wM
  show (qa_upd (qa_upd (qx _ _ _) 42 m _) 43 m _) k = M k
  rw [qa_upd_n a5, qa_upd_n a4]
  by_cases hc : qm_wr M m = 0 ∧ 0 ≤ qm_wb M
  · rw [qx_t hc, qa_upd_n a7, qa_upd_n a6]; exact eN
  · rw [qx_f hc]; exact eN
theorem qm_wM_v {M : qa_Mem} {m : Int} (hv : qm_fv M) (h1 : 0 ≤ m) (h2 : m < M 6 15) (h3 : M 43 m = 0) : qm_fv (qm_wM M m) := by
  obtain ⟨⟨v1, v2, v3, v4, v5⟩, v6, v7, v8⟩ := hv
  have rb := qf_best_r (M 45) (M 44) (M 6 19).toNat
  rw [show qf_best (M 45) (M 44) (M 6 19).toNat = qm_wb M from rfl] at rb
  have t5 := v4 m h1 h2
  have rr := qr_c_r (qm_need M) (M 41 m) (by omega) 120
  rw [show qr_c (qm_need M) (M 41 m) 120 = qm_wr M m from rfl] at rr
  have q6 : (qm_wM M m) 6 = M 6 := qm_wM_eq 6 (by decide) (by decide) (by decide) (by decide) (by decide) (by decide) (by decide)
  have q41 : (qm_wM M m) 41 = M 41 := qm_wM_eq 41 (by decide) (by decide) (by decide) (by decide) (by decide) (by decide) (by decide)
  have q44 : (qm_wM M m) 44 = M 44 := qm_wM_eq 44 (by decide) (by decide) (by decide) (by decide) (by decide) (by decide) (by decide)
  have q33 : (qm_wM M m) 33 = M 33 := qm_wM_eq 33 (by decide) (by decide) (by decide) (by decide) (by decide) (by decide) (by decide)
  obtain ⟨K, hK⟩ : ∃ x, x = qx (qm_wr M m = 0 ∧ 0 ≤ qm_wb M) (qa_upd (qa_upd (qm_rm M (qm_need M) (M 41 m) 120) 45 (qm_wb M) (M 45 (qm_wb M) - 1)) 46 6 (qa_wrap (M 46 6 + M 44 (qm_wb M)))) (qm_rm M (qm_need M) (M 41 m) 120) := ⟨_, rfl⟩
  have hW : qm_wM M m = qa_upd (qa_upd K 42 m (qw_h (M 42 m) (qm_wr M m) (qm_wb M))) 43 m (qb (20 ≤ qw_h (M 42 m) (qm_wr M m) (qm_wb M))) := by rw [hK]; rfl
  have k42 : K 42 = M 42 := by
    rw [hK]
    by_cases hc : qm_wr M m = 0 ∧ 0 ≤ qm_wb M
    · rw [qx_t hc, qa_upd_n (by decide), qa_upd_n (by decide)]; rfl
    · rw [qx_f hc]; rfl
  have k43 : K 43 = M 43 := by
    rw [hK]
    by_cases hc : qm_wr M m = 0 ∧ 0 ≤ qm_wb M
    · rw [qx_t hc, qa_upd_n (by decide), qa_upd_n (by decide)]; rfl
    · rw [qx_f hc]; rfl
  unfold qm_fv qv_farm qm_wf
  rw [q6, q41, q44, q33]
  refine ⟨⟨v1, v2, fun k k1 k2 => ?_, v4, fun o o1 o2 => ?_⟩, v6, v7, v8⟩
  · obtain ⟨t1, t2, t3, t4⟩ := v3 k k1 k2
    rw [hW]
    by_cases hk : k = m
    · subst hk
      have t4 := t4 h3
      have e1 : (qa_upd (qa_upd K 42 k (qw_h (M 42 k) (qm_wr M k) (qm_wb M))) 43 k (qb (20 ≤ qw_h (M 42 k) (qm_wr M k) (qm_wb M)))) 42 k = qw_h (M 42 k) (qm_wr M k) (qm_wb M) := by rw [qa_upd_n (by decide), qa_upd_e]
      have e2 : (qa_upd (qa_upd K 42 k (qw_h (M 42 k) (qm_wr M k) (qm_wb M))) 43 k (qb (20 ≤ qw_h (M 42 k) (qm_wr M k) (qm_wb M)))) 43 k = qb (20 ≤ qw_h (M 42 k) (qm_wr M k) (qm_wb M)) := qa_upd_e
      rw [e1, e2]
      have hc : 0 ≤ qw_h (M 42 k) (qm_wr M k) (qm_wb M) ∧ qw_h (M 42 k) (qm_wr M k) (qm_wb M) ≤ 24 := by
        unfold qw_h
        by_cases c1 : qm_wr M k ≠ 0
        · rw [qx_t c1]; omega
        · rw [qx_f c1]
          by_cases c2 : 0 ≤ qm_wb M
          · rw [qx_t c2]; omega
          · rw [qx_f c2]; unfold qf_cool; split <;> omega
      exact ⟨hc.1, hc.2, qb_01 _, fun z => by have := qb_e0.mp z; omega⟩
    · have e1 : (qa_upd (qa_upd K 42 m (qw_h (M 42 m) (qm_wr M m) (qm_wb M))) 43 m (qb (20 ≤ qw_h (M 42 m) (qm_wr M m) (qm_wb M)))) 42 k = M 42 k := by rw [qa_upd_n (by decide), qa_upd_i hk, k42]
      have e2 : (qa_upd (qa_upd K 42 m (qw_h (M 42 m) (qm_wr M m) (qm_wb M))) 43 m (qb (20 ≤ qw_h (M 42 m) (qm_wr M m) (qm_wb M)))) 43 k = M 43 k := by rw [qa_upd_i hk, qa_upd_n (by decide), k43]
      rw [e1, e2]
      exact ⟨t1, t2, t3, t4⟩
  · have w := v5 o o1 o2
    refine ⟨?_, w.2⟩
    rw [hW, qa_upd_n (by decide), qa_upd_n (by decide), hK]
    by_cases hc : qm_wr M m = 0 ∧ 0 ≤ qm_wb M
    · rw [qx_t hc, qa_upd_n (by decide)]
      by_cases ho : o = qm_wb M
      · subst ho
        rw [qa_upd_e]
        have := rb.2.2 hc.2
        omega
      · rw [qa_upd_i ho]; exact w.1
    · rw [qx_f hc]; exact w.1
noncomputable def qm_h (m : Int) (q : Int × qa_Mem) : Int × qa_Mem := qx (q.2 43 m ≠ 0) (qa_wrap (q.1 + 0), qm_rM q.2 m) (qa_wrap (q.1 + qm_wx q.2 m), qm_wM q.2 m)
noncomputable def qm_ms (q : Int × qa_Mem) : Nat → Int × qa_Mem
  | 0 => q
  | n + 1 => qm_h n (qm_ms q n)
noncomputable def qm_hs (q : Int × qa_Mem) (k : Nat) : Nat → Int × qa_Mem
  | 0 => q
  | n + 1 => qm_ms (qm_hs q k n) k
theorem qm_h_v {q : Int × qa_Mem} {m : Int} (hv : qm_fv q.2) (h1 : 0 ≤ m) (h2 : m < q.2 6 15) : qm_fv (qm_h m q).2 ∧ (qm_h m q).2 6 15 = q.2 6 15 := by
  unfold qm_h
  by_cases hr : q.2 43 m ≠ 0
  · rw [qx_t hr]
    exact ⟨qm_rM_v hv h1 h2, rfl⟩
  · rw [qx_f hr]
    exact ⟨qm_wM_v hv h1 h2 (Classical.byContradiction hr), by show (qm_wM q.2 m) 6 15 = _; rw [qm_wM_eq 6 (by decide) (by decide) (by decide) (by decide) (by decide) (by decide) (by decide)]⟩
theorem qm_ms_v {q : Int × qa_Mem} (hv : qm_fv q.2) (k : Nat) (hk : (k : Int) ≤ q.2 6 15) : qm_fv (qm_ms q k).2 ∧ (qm_ms q k).2 6 15 = q.2 6 15 := by
  induction k with
  | zero => exact ⟨hv, rfl⟩
  | succ k ih =>
    obtain ⟨i1, i2⟩ := ih (by omega)
    have := qm_h_v (m := k) i1 (by omega) (by omega)
    exact ⟨this.1, this.2.trans i2⟩
theorem qm_hs_v {q : Int × qa_Mem} (hv : qm_fv q.2) (k : Nat) (hk : (k : Int) ≤ q.2 6 15) (n : Nat) : qm_fv (qm_hs q k n).2 ∧ (qm_hs q k n).2 6 15 = q.2 6 15 := by
  induction n with
  | zero => exact ⟨hv, rfl⟩
  | succ n ih =>
    have := qm_ms_v ih.1 k (by rw [ih.2]; exact hk)
    exact ⟨this.1, this.2.trans ih.2⟩
theorem K_Model_nightX1 {h : Int} {M : qa_Mem} (h3 : ¬ (1 ≤ h ∧ h ≤ 24)) : qa_E 103 0 [(0, qr 6), (1, qi (h))] [] (M) (.inl (some (qi (0)))) (qa_upd M 6 26 1) := by
  refine R_aload cd_103_0 rfl ?_
  refine R_iload cd_103_1 rfl ?_
  refine R_push cd_103_2 ?_
  refine R_push cd_103_3 ?_
  refine R_call3 cd_103_5 rfl rfl K_Model_isIn ?_
  refine R_ifeq_b 15 cd_103_8 rfl (fun b8 => ?_) (fun b8 => ?_)
  · refine R_push cd_103_15 ?_
    refine R_call2 cd_103_16 rfl rfl K_Model_fails ?_
    refine R_ifeq_b 24 cd_103_19 rfl (fun h => absurd h (by decide)) (fun _ => ?_)
    refine R_push cd_103_22 ?_
    exact R_iret cd_103_23 (by first | rfl | omega) rfl
  · refine R_push cd_103_11 ?_
    refine R_goto cd_103_12 ?_
    exfalso
    omega
theorem K_Model_night0 {h : Int} {M : qa_Mem} (hv : qm_fv M) (h3 : 1 ≤ h ∧ h ≤ 24) : qa_E 103 0 [(0, qr 6), (1, qi (h))] [] (M) (.inl (some (qi ((qm_hs (0, qa_upd M 6 26 0) (M 6 15).toNat h.toNat).1)))) ((qm_hs (0, qa_upd M 6 26 0) (M 6 15).toNat h.toNat).2) := by
  obtain ⟨T, hT⟩ : ∃ T, T = qa_upd M 6 26 0 := ⟨_, rfl⟩
  have hvT : qm_fv T := by rw [hT]; exact ⟨hv.1, ⟨hv.2.1.1, hv.2.1.2⟩, hv.2.2⟩
  obtain ⟨nM, hnM⟩ : ∃ x, x = M 6 15 := ⟨_, rfl⟩
  have hnT : T 6 15 = nM := by rw [hT, hnM]; rfl
  have hm := hv.1.1
  rw [← hT]
  rw [← hnM] at hm ⊢
  obtain ⟨R, hR⟩ : ∃ x, x = qm_hs (0, T) nM.toNat h.toNat := ⟨_, rfl⟩
  rw [← hR]
  have outer : ∀ (k : Nat) (j : Nat), j + k = h.toNat → qa_E 103 28 [(0, qr 6), (1, qi h), (2, qi (qm_hs (0, T) nM.toNat j).1), (3, qi j)] [] (qm_hs (0, T) nM.toNat j).2 (.inl (some (qi R.1))) R.2 := by
    intro k
    induction k with
    | zero =>
      intro j g1
      obtain rfl : j = h.toNat := by omega
      rw [← hR]
      refine R_iload cd_103_28 rfl ?_
      refine R_iload cd_103_29 rfl ?_
      refine R_icmp_ge 66 cd_103_30 rfl (fun b30 => ?_) (fun b30 => ?_)
      · refine R_iload cd_103_66 rfl ?_
        exact R_iret cd_103_67 (by first | rfl | omega) rfl
      · omega
    | succ k ih =>
      intro j g1
      have e := ih (j + 1) (by omega)
      rw [show qm_hs (0, T) nM.toNat (j + 1) = qm_ms (qm_hs (0, T) nM.toNat j) nM.toNat from rfl, Int.natCast_add] at e
      obtain ⟨v1, v2⟩ := qm_hs_v (q := (0, T)) hvT nM.toNat (by show ((nM.toNat : Nat) : Int) ≤ T 6 15; rw [hnT]; omega) j
      obtain ⟨q, hq⟩ : ∃ x, x = qm_hs (0, T) nM.toNat j := ⟨_, rfl⟩
      rw [← hq] at e v1 v2 ⊢
      have v2 : q.2 6 15 = nM := v2.trans hnT
      have inner : ∀ (k : Nat) (i : Nat), i + k = nM.toNat → qa_E 103 36 [(0, qr 6), (1, qi h), (2, qi (qm_ms q i).1), (3, qi j), (4, qi i)] [] (qm_ms q i).2 (.inl (some (qi R.1))) R.2 := by
        intro k
        induction k with
        | zero =>
          intro i f1
          obtain rfl : i = nM.toNat := by omega
          obtain ⟨w1, w2⟩ := qm_ms_v v1 nM.toNat (by omega)
          refine R_iload cd_103_36 rfl ?_
          refine R_aload cd_103_38 rfl ?_
          refine R_getf cd_103_39 rfl (by decide) ?_
          refine R_icmp_ge 60 cd_103_42 rfl (fun b42 => ?_) (fun b42 => ?_)
          · refine R_iinc cd_103_60 rfl (by unfold qa_InR; first | omega | (simp [qa_upd, qa_blk] <;> omega)) ?_
            refine R_goto cd_103_63 ?_
            exact R_norm (qs_c rfl (qs_c rfl (qs_c rfl (qs_c rfl qs_n)))) e
          · omega
        | succ k ih3 =>
          intro i f1
          have e3 := ih3 (i + 1) (by omega)
          obtain ⟨w1, w2⟩ := qm_ms_v v1 i (by omega)
          rw [show qm_ms q (i + 1) = qm_h i (qm_ms q i) from rfl, Int.natCast_add] at e3
          obtain ⟨p, hp⟩ : ∃ x, x = qm_ms q i := ⟨_, rfl⟩
          rw [← hp] at e3 w1 w2 ⊢
          unfold qm_h at e3
          by_cases hr : p.2 43 i ≠ 0
          · rw [qx_t hr] at e3
            refine R_iload cd_103_36 rfl ?_
            refine R_aload cd_103_38 rfl ?_
            refine R_getf cd_103_39 rfl (by decide) ?_
            refine R_icmp_ge 60 cd_103_42 rfl (fun b42 => ?_) (fun b42 => ?_)
            · omega
            · refine R_iload cd_103_45 rfl ?_
              refine R_aload cd_103_46 rfl ?_
              refine R_iload cd_103_47 rfl ?_
              refine R_call2 cd_103_49 rfl rfl (K_Model_hourR w1 (by omega) (by omega) hr) ?_
              refine R_iaddw cd_103_52 ?_
              refine R_istore cd_103_53 ?_
              refine R_iinc cd_103_54 rfl (by unfold qa_InR; first | omega | (simp [qa_upd, qa_blk] <;> omega)) ?_
              refine R_goto cd_103_57 ?_
              exact R_norm (qs_c rfl (qs_c rfl (qs_c rfl (qs_c rfl (qs_c rfl qs_n))))) e3
          · rw [qx_f hr] at e3
            refine R_iload cd_103_36 rfl ?_
            refine R_aload cd_103_38 rfl ?_
            refine R_getf cd_103_39 rfl (by decide) ?_
            refine R_icmp_ge 60 cd_103_42 rfl (fun b42 => ?_) (fun b42 => ?_)
            · omega
            · refine R_iload cd_103_45 rfl ?_
              refine R_aload cd_103_46 rfl ?_
              refine R_iload cd_103_47 rfl ?_
              refine R_call2 cd_103_49 rfl rfl (K_Model_hourW w1 (by omega) (by omega) (Classical.byContradiction hr)) ?_
              refine R_iaddw cd_103_52 ?_
              refine R_istore cd_103_53 ?_
              refine R_iinc cd_103_54 rfl (by unfold qa_InR; first | omega | (simp [qa_upd, qa_blk] <;> omega)) ?_
              refine R_goto cd_103_57 ?_
              exact R_norm (qs_c rfl (qs_c rfl (qs_c rfl (qs_c rfl (qs_c rfl qs_n))))) e3
      refine R_iload cd_103_28 rfl ?_
      refine R_iload cd_103_29 rfl ?_
      refine R_icmp_ge 66 cd_103_30 rfl (fun b30 => ?_) (fun b30 => ?_)
      · omega
      · refine R_push cd_103_33 ?_
        refine R_istore cd_103_34 ?_
        exact R_norm (qs_c rfl (qs_c rfl (qs_c rfl (qs_c rfl (qs_c rfl qs_n))))) (inner nM.toNat 0 (Nat.zero_add _))
  have e := outer h.toNat 0 (Nat.zero_add _)
  rw [show (qm_hs (0, T) nM.toNat 0).2 = T from rfl, hT] at e
  refine R_aload cd_103_0 rfl ?_
  refine R_iload cd_103_1 rfl ?_
  refine R_push cd_103_2 ?_
  refine R_push cd_103_3 ?_
  refine R_call3 cd_103_5 rfl rfl K_Model_isIn ?_
  refine R_ifeq_b 15 cd_103_8 rfl (fun b8 => ?_) (fun b8 => ?_)
  · refine R_push cd_103_15 ?_
    exfalso
    omega
  · refine R_push cd_103_11 ?_
    refine R_goto cd_103_12 ?_
    refine R_call2 cd_103_16 rfl rfl K_Model_fails ?_
    refine R_ifeq_b 24 cd_103_19 rfl (fun _ => ?_) (fun h => absurd h (by decide))
    refine R_push cd_103_24 ?_
    refine R_istore cd_103_25 ?_
    refine R_push cd_103_26 ?_
    refine R_istore cd_103_27 ?_
    exact R_norm (qs_c rfl (qs_c rfl (qs_c rfl (qs_c rfl qs_n)))) e
theorem qa_and1 (x : Int) : qa_and x 1 = 0 ∨ qa_and x 1 = 1 := by
  unfold qa_and
  have h : (Int32.ofInt x &&& Int32.ofInt 1).toBitVec = 0#32 ∨ (Int32.ofInt x &&& Int32.ofInt 1).toBitVec = 1#32 := by
    rw [Int32.toBitVec_and, show (Int32.ofInt 1).toBitVec = 1#32 from rfl]
    generalize (Int32.ofInt x).toBitVec = b
    have : (b &&& 1#32).toNat = b.toNat % 2 := by rw [BitVec.toNat_and]; exact Nat.and_one_is_mod _
    rcases Nat.mod_two_eq_zero_or_one b.toNat with h | h
    · left; apply BitVec.eq_of_toNat_eq; rw [this, h]; rfl
    · right; apply BitVec.eq_of_toNat_eq; rw [this, h]; rfl
  rw [← Int32.toInt_toBitVec]
  rcases h with h | h
  · left; rw [h]; rfl
  · right; rw [h]; rfl
def qm_sf (g : Int → Int) (a : Int) : Nat → Int
  | 0 => 0
  | n + 1 => qm_sf g a n + g (a + n)
theorem qm_sf_r {g : Int → Int} {a : Int} (hg : ∀ x, g x = 0 ∨ g x = 1) (n : Nat) : 0 ≤ qm_sf g a n ∧ qm_sf g a n ≤ n := by
  induction n with
  | zero => exact ⟨Int.le_refl _, Int.le_refl _⟩
  | succ n ih =>
    have := hg (a + n)
    unfold qm_sf
    omega
def qm_g (M : qa_Mem) (w : Int) : Int → Int := fun f => qa_and (qa_shr (qm_ar (M 32) (M 34) (M 35) f (3 * M 6 0).toNat) w) 1
def qm_sc (M : qa_Mem) (w : Int) : Int := qf_sum (fun k => qm_sf (qm_g M w) (M 36 k) (M 37 k - M 36 k + 1).toNat) (M 6 9).toNat
theorem K_Model_secondsOf {w : Int} {M : qa_Mem} (h1 : 0 ≤ M 6 0) (h2 : M 6 0 ≤ 8) (h3 : qm_sh M) : qa_E 106 0 [(0, qr 6), (1, qi (w))] [] (M) (.inl (some (qi (qm_sc M w / 24)))) (M) := by
  obtain ⟨h4, h5⟩ := h3
  have hg : ∀ x, qm_g M w x = 0 ∨ qm_g M w x = 1 := fun x => qa_and1 _
  obtain ⟨A, hA⟩ : ∃ A : Int → Int, A = (fun k => qm_sf (qm_g M w) (M 36 k) (M 37 k - M 36 k + 1).toNat) := ⟨_, rfl⟩
  have hb : ∀ j : Int, 0 ≤ j → j < M 6 9 → 0 ≤ A j ∧ A j ≤ 120 := by
    intro j a b
    have := h5 j a b
    have := qm_sf_r (a := M 36 j) hg (M 37 j - M 36 j + 1).toNat
    rw [hA]
    dsimp only
    omega
  have hs : qm_sc M w = qf_sum A (M 6 9).toNat := by rw [hA]; rfl
  rw [hs]
  have lp : ∀ (k : Nat) (j : Nat) (L : qa_L), j + k = (M 6 9).toNat → qa_E 106 4 [(0, qr 6), (1, qi w), (2, qi (qf_sum A j)), (3, qi j)] [] M (.inl (some (qi (qf_sum A (M 6 9).toNat / 24)))) M := by
    intro k
    induction k with
    | zero =>
      intro j L g1
      have r1 := qf_sum_r (A := A) (B := 120) j (fun i a b => hb i a (by omega))
      refine R_iload cd_106_4 rfl ?_
      refine R_aload cd_106_5 rfl ?_
      refine R_getf cd_106_6 rfl (by decide) ?_
      refine R_icmp_ge 56 cd_106_9 rfl (fun b9 => ?_) (fun b9 => ?_)
      · refine R_iload cd_106_56 rfl ?_
        refine R_push cd_106_57 ?_
        refine R_idiv cd_106_59 (by decide) ?_
        exact R_iret cd_106_60 (by rw [← g1]; exact Int.tdiv_eq_ediv_of_nonneg r1.1) rfl
      · omega
    | succ k ih =>
      intro j L g1
      have e := ih (j + 1) [] (by omega)
      have r1 := qf_sum_r (A := A) (B := 120) j (fun i a b => hb i a (by omega))
      have w5 := h5 j (by omega) (by omega)
      rw [Int.natCast_add, show qf_sum A (j + 1) = qf_sum A j + A j from rfl] at e
      have eA : A j = qm_sf (qm_g M w) (M 36 j) (M 37 j - M 36 j + 1).toNat := by rw [hA]
      have inner : ∀ (n : Nat) (f : Int) (i : Nat), f + n = M 37 j + 1 → f = M 36 j + i → qa_E 106 20 [(0, qr 6), (1, qi w), (2, qi (qf_sum A j + qm_sf (qm_g M w) (M 36 j) i)), (3, qi j), (4, qi f)] [] M (.inl (some (qi (qf_sum A (M 6 9).toNat / 24)))) M := by
        intro n
        induction n with
        | zero =>
          intro f i f1 f2
          rw [eA, show (M 37 j - M 36 j + 1).toNat = i by omega] at e
          refine R_iload cd_106_20 rfl ?_
          refine R_aload cd_106_22 rfl ?_
          refine R_getr cd_106_23 rfl ?_
          refine R_iload cd_106_26 rfl ?_
          refine R_iald cd_106_27 rfl (by first | omega | (simp [qa_upd, qa_blk] <;> omega)) (by first | omega | (simp [qa_upd, qa_blk] <;> omega)) ?_
          refine R_icmp_gt 50 cd_106_28 rfl (fun b28 => ?_) (fun b28 => ?_)
          · refine R_iinc cd_106_50 rfl (by unfold qa_InR; first | omega | (simp [qa_upd, qa_blk] <;> omega)) ?_
            refine R_goto cd_106_53 ?_
            exact R_norm (qs_c rfl (qs_c rfl (qs_c rfl (qs_c rfl qs_n)))) e
          · omega
        | succ n ih2 =>
          intro f i f1 f2
          have e2 := ih2 (f + 1) (i + 1) (by omega) (by rw [Int.natCast_add]; omega)
          rw [show qm_sf (qm_g M w) (M 36 j) (i + 1) = qm_sf (qm_g M w) (M 36 j) i + qm_g M w (M 36 j + i) from rfl, ← f2, ← Int.add_assoc] at e2
          have r2 := qm_sf_r (a := M 36 j) hg i
          have r3 := hg f
          refine R_iload cd_106_20 rfl ?_
          refine R_aload cd_106_22 rfl ?_
          refine R_getr cd_106_23 rfl ?_
          refine R_iload cd_106_26 rfl ?_
          refine R_iald cd_106_27 rfl (by first | omega | (simp [qa_upd, qa_blk] <;> omega)) (by first | omega | (simp [qa_upd, qa_blk] <;> omega)) ?_
          refine R_icmp_gt 50 cd_106_28 rfl (fun b28 => ?_) (fun b28 => ?_)
          · omega
          · refine R_iload cd_106_31 rfl ?_
            refine R_aload cd_106_32 rfl ?_
            refine R_iload cd_106_33 rfl ?_
            refine R_call2 cd_106_35 rfl rfl (K_Model_artistsOf h1 h2 (by omega) (by omega)) ?_
            refine R_iload cd_106_38 rfl ?_
            refine R_ishr cd_106_39 ?_
            refine R_push cd_106_40 ?_
            refine R_iand cd_106_41 ?_
            refine R_iadd cd_106_42 (show qa_InR (qf_sum A j + qm_sf (qm_g M w) (M 36 j) i + qm_g M w f) by unfold qa_InR; omega) ?_
            refine R_istore cd_106_43 ?_
            refine R_iinc cd_106_44 rfl (by unfold qa_InR; first | omega | (simp [qa_upd, qa_blk] <;> omega)) ?_
            refine R_goto cd_106_47 ?_
            exact R_norm (qs_c rfl (qs_c rfl (qs_c rfl (qs_c rfl (qs_c rfl qs_n))))) e2
      have e3 := inner (M 37 j + 1 - M 36 j).toNat (M 36 j) 0 (by omega) (by omega)
      rw [show qm_sf (qm_g M w) (M 36 j) 0 = 0 from rfl, Int.add_zero] at e3
      refine R_iload cd_106_4 rfl ?_
      refine R_aload cd_106_5 rfl ?_
      refine R_getf cd_106_6 rfl (by decide) ?_
      refine R_icmp_ge 56 cd_106_9 rfl (fun b9 => ?_) (fun b9 => ?_)
      · omega
      · refine R_aload cd_106_12 rfl ?_
        refine R_getr cd_106_13 rfl ?_
        refine R_iload cd_106_16 rfl ?_
        refine R_iald cd_106_17 rfl (by first | omega | (simp [qa_upd, qa_blk] <;> omega)) (by first | omega | (simp [qa_upd, qa_blk] <;> omega)) ?_
        refine R_istore cd_106_18 ?_
        exact R_norm (qs_c rfl (qs_c rfl (qs_c rfl (qs_c rfl (qs_c rfl qs_n))))) e3
  refine R_push cd_106_0 ?_
  refine R_istore cd_106_1 ?_
  refine R_push cd_106_2 ?_
  refine R_istore cd_106_3 ?_
  exact R_norm (qs_c rfl (qs_c rfl (qs_c rfl (qs_c rfl qs_n)))) (lp _ 0 [] (Nat.zero_add _))
theorem K_Model_secondsX1 {w : Int} {M : qa_Mem} (h3 : ¬ (0 ≤ w ∧ w ≤ 5)) : qa_E 107 0 [(0, qr 6), (1, qi (w))] [] (M) (.inl (some (qi (0)))) (qa_upd M 6 26 1) := by
  refine R_aload cd_107_0 rfl ?_
  refine R_iload cd_107_1 rfl ?_
  refine R_push cd_107_2 ?_
  refine R_push cd_107_3 ?_
  refine R_call3 cd_107_4 rfl rfl K_Model_isIn ?_
  refine R_ifeq_b 14 cd_107_7 rfl (fun b7 => ?_) (fun b7 => ?_)
  · refine R_push cd_107_14 ?_
    refine R_call2 cd_107_15 rfl rfl K_Model_fails ?_
    refine R_ifeq_b 25 cd_107_18 rfl (fun h => absurd h (by decide)) (fun _ => ?_)
    refine R_push cd_107_21 ?_
    refine R_goto cd_107_22 ?_
    exact R_iret cd_107_30 (by first | rfl | omega) rfl
  · refine R_push cd_107_10 ?_
    refine R_goto cd_107_11 ?_
    exfalso
    omega
theorem K_Model_seconds0 {w : Int} {M : qa_Mem} (h1 : 0 ≤ M 6 0) (h2 : M 6 0 ≤ 8) (h3 : qm_sh M) (h4 : 0 ≤ w ∧ w ≤ 5) : qa_E 107 0 [(0, qr 6), (1, qi (w))] [] (M) (.inl (some (qi (qm_sc M w / 24)))) (qa_upd M 6 26 0) := by
  refine R_aload cd_107_0 rfl ?_
  refine R_iload cd_107_1 rfl ?_
  refine R_push cd_107_2 ?_
  refine R_push cd_107_3 ?_
  refine R_call3 cd_107_4 rfl rfl K_Model_isIn ?_
  refine R_ifeq_b 14 cd_107_7 rfl (fun b7 => ?_) (fun b7 => ?_)
  · refine R_push cd_107_14 ?_
    exfalso
    omega
  · refine R_push cd_107_10 ?_
    refine R_goto cd_107_11 ?_
    refine R_call2 cd_107_15 rfl rfl K_Model_fails ?_
    refine R_ifeq_b 25 cd_107_18 rfl (fun _ => ?_) (fun h => absurd h (by decide))
    refine R_aload cd_107_25 rfl ?_
    refine R_iload cd_107_26 rfl ?_
    refine R_call2 cd_107_27 rfl rfl (K_Model_secondsOf (M := qa_upd M 6 26 0) h1 h2 h3) ?_
    exact R_iret cd_107_30 (by first | rfl | omega) rfl
def qm_who (M : qa_Mem) : Prop := 0 < M 6 9 ∧ ∀ f : Int, 0 ≤ f → f < 120 → qm_nd M f → qm_st M f
theorem K_Model_isWhole {M : qa_Mem} (hw : qm_wf M) (h1 : 0 ≤ M 6 9) (h2 : M 6 9 ≤ 10) : qa_E 108 0 [(0, qr 6)] [] (M) (.inl (some (qi (qb (qm_who M))))) (M) := by
  have lp : ∀ (n : Nat) (j : Int) (P : Prop), j + n = 120 → 0 ≤ j → (P ↔ 0 < M 6 9 ∧ ∀ f : Int, 0 ≤ f → f < j → qm_nd M f → qm_st M f) → qa_E 108 15 [(0, qr 6), (1, qi (qb P)), (2, qi j)] [] M (.inl (some (qi (qb (qm_who M))))) M := by
    intro n
    induction n with
    | zero =>
      intro j P g1 g2 hP
      obtain rfl : j = 120 := by omega
      refine R_iload cd_108_15 rfl ?_
      refine R_push cd_108_16 ?_
      refine R_icmp_ge 53 cd_108_18 rfl (fun b18 => ?_) (fun b18 => ?_)
      · refine R_iload cd_108_53 rfl ?_
        exact R_zret_b cd_108_54 hP rfl
      · omega
    | succ n ih =>
      intro j P g1 g2 hP
      have e1 : P → (qm_nd M j → qm_st M j) → qa_E 108 15 [(0, qr 6), (1, qi 1), (2, qi (j + 1))] [] M (.inl (some (qi (qb (qm_who M))))) M := by
        intro p hj
        have e := ih (j + 1) True (by omega) (by omega) ⟨fun _ => ⟨(hP.mp p).1, fun f f0 f1 fn => by
          by_cases hf : f = j
          · subst hf; exact hj fn
          · exact (hP.mp p).2 f f0 (by omega) fn⟩, fun _ => trivial⟩
        rw [qb_t trivial] at e
        exact e
      refine R_iload cd_108_15 rfl ?_
      refine R_push cd_108_16 ?_
      refine R_icmp_ge 53 cd_108_18 rfl (fun b18 => ?_) (fun b18 => ?_)
      · first
          | omega
          | refine R_iload cd_108_53 rfl ?_
            exact R_zret_b cd_108_54 ⟨fun p => absurd p b22, fun p => absurd (hP.mpr ⟨p.1, fun f f0 f1 => p.2 f f0 (by omega)⟩) b22⟩ rfl
      · refine R_iload cd_108_21 rfl ?_
        refine R_ifeq_b 53 cd_108_22 rfl (fun b22 => ?_) (fun b22 => ?_)
        · first
            | omega
            | refine R_iload cd_108_53 rfl ?_
              exact R_zret_b cd_108_54 ⟨fun p => absurd p b22, fun p => absurd (hP.mpr ⟨p.1, fun f f0 f1 => p.2 f f0 (by omega)⟩) b22⟩ rfl
        · refine R_aload cd_108_25 rfl ?_
          refine R_iload cd_108_26 rfl ?_
          refine R_call2 cd_108_27 rfl rfl (K_Model_isNeeded h1 h2) ?_
          refine R_ifeq_b 41 cd_108_30 rfl (fun b30 => ?_) (fun b30 => ?_)
          · refine R_push cd_108_41 ?_
            refine R_goto cd_108_42 ?_
            refine R_istore cd_108_46 ?_
            refine R_iinc cd_108_47 rfl (by unfold qa_InR; first | omega | (simp [qa_upd, qa_blk] <;> omega)) ?_
            refine R_goto cd_108_50 ?_
            first
              | exact R_norm (qs_c rfl (qs_c rfl (qs_c rfl qs_n))) (e1 b22 (fun _ => b38))
              | exact R_norm (qs_c rfl (qs_c rfl (qs_c rfl qs_n))) (e1 b22 (fun z => absurd z b30))
              | have e := ih (j + 1) False (by omega) (by omega) ⟨fun p => p.elim, fun p => b38 (p.2 j g2 (by omega) b30)⟩
                rw [qb_f id] at e
                exact R_norm (qs_c rfl (qs_c rfl (qs_c rfl qs_n))) e
          · refine R_aload cd_108_33 rfl ?_
            refine R_iload cd_108_34 rfl ?_
            refine R_call2 cd_108_35 rfl rfl (K_Model_stands hw (by omega) (by omega)) ?_
            refine R_ifeq_b 45 cd_108_38 rfl (fun b38 => ?_) (fun b38 => ?_)
            · refine R_push cd_108_45 ?_
              refine R_istore cd_108_46 ?_
              refine R_iinc cd_108_47 rfl (by unfold qa_InR; first | omega | (simp [qa_upd, qa_blk] <;> omega)) ?_
              refine R_goto cd_108_50 ?_
              first
                | exact R_norm (qs_c rfl (qs_c rfl (qs_c rfl qs_n))) (e1 b22 (fun _ => b38))
                | exact R_norm (qs_c rfl (qs_c rfl (qs_c rfl qs_n))) (e1 b22 (fun z => absurd z b30))
                | have e := ih (j + 1) False (by omega) (by omega) ⟨fun p => p.elim, fun p => b38 (p.2 j g2 (by omega) b30)⟩
                  rw [qb_f id] at e
                  exact R_norm (qs_c rfl (qs_c rfl (qs_c rfl qs_n))) e
            · refine R_push cd_108_41 ?_
              refine R_goto cd_108_42 ?_
              refine R_istore cd_108_46 ?_
              refine R_iinc cd_108_47 rfl (by unfold qa_InR; first | omega | (simp [qa_upd, qa_blk] <;> omega)) ?_
              refine R_goto cd_108_50 ?_
              first
                | exact R_norm (qs_c rfl (qs_c rfl (qs_c rfl qs_n))) (e1 b22 (fun _ => b38))
                | exact R_norm (qs_c rfl (qs_c rfl (qs_c rfl qs_n))) (e1 b22 (fun z => absurd z b30))
                | have e := ih (j + 1) False (by omega) (by omega) ⟨fun p => p.elim, fun p => b38 (p.2 j g2 (by omega) b30)⟩
                  rw [qb_f id] at e
                  exact R_norm (qs_c rfl (qs_c rfl (qs_c rfl qs_n))) e
  refine R_aload cd_108_0 rfl ?_
  refine R_getf cd_108_1 rfl (by decide) ?_
  refine R_if_le 11 cd_108_4 rfl (fun b4 => ?_) (fun b4 => ?_)
  · refine R_push cd_108_11 ?_
    refine R_istore cd_108_12 ?_
    refine R_push cd_108_13 ?_
    refine R_istore cd_108_14 ?_
    first
      | have e := lp 120 0 True (by omega) (by omega) ⟨fun _ => ⟨b4, fun f f0 f1 => by omega⟩, fun _ => trivial⟩
        rw [qb_t trivial] at e
        exact R_norm (qs_c rfl (qs_c rfl (qs_c rfl qs_n))) e
      | have e := lp 120 0 False (by omega) (by omega) ⟨fun p => p.elim, fun p => by have := p.1; omega⟩
        rw [qb_f id] at e
        exact R_norm (qs_c rfl (qs_c rfl (qs_c rfl qs_n))) e
  · refine R_push cd_108_7 ?_
    refine R_goto cd_108_8 ?_
    refine R_istore cd_108_12 ?_
    refine R_push cd_108_13 ?_
    refine R_istore cd_108_14 ?_
    first
      | have e := lp 120 0 True (by omega) (by omega) ⟨fun _ => ⟨b4, fun f f0 f1 => by omega⟩, fun _ => trivial⟩
        rw [qb_t trivial] at e
        exact R_norm (qs_c rfl (qs_c rfl (qs_c rfl qs_n))) e
      | have e := lp 120 0 False (by omega) (by omega) ⟨fun p => p.elim, fun p => by have := p.1; omega⟩
        rw [qb_f id] at e
        exact R_norm (qs_c rfl (qs_c rfl (qs_c rfl qs_n))) e
theorem K_Model_showX1 {M : qa_Mem} (hw : qm_wf M) (h1 : 0 ≤ M 6 9) (h2 : M 6 9 ≤ 10) (h3 : ¬ qm_who M) : qa_E 109 0 [(0, qr 6)] [] (M) (.inl (some (qi (0)))) (qa_upd M 6 26 1) := by
  refine R_aload cd_109_0 rfl ?_
  refine R_aload cd_109_1 rfl ?_
  refine R_call1 cd_109_2 rfl rfl (K_Model_isWhole (by assumption) (by assumption) (by assumption)) ?_
  refine R_ifeq_b 12 cd_109_5 rfl (fun b5 => ?_) (fun b5 => ?_)
  · refine R_push cd_109_12 ?_
    refine R_call2 cd_109_13 rfl rfl K_Model_fails ?_
    refine R_ifeq_b 21 cd_109_16 rfl (fun h => absurd h (by decide)) (fun _ => ?_)
    refine R_push cd_109_19 ?_
    exact R_iret cd_109_20 (by first | rfl | omega) rfl
  · refine R_push cd_109_8 ?_
    refine R_goto cd_109_9 ?_
    exfalso
    exact h3 b5
def qm_due (M : qa_Mem) (w : Int) : Int := qm_sc M w / 24 * M 6 22
def qm_pay (M : qa_Mem) (a : Int) : qa_Mem := qa_blk (qa_upd M 6 26 0) 46 (fun w => if 0 ≤ w ∧ w < a then qa_wrap (M 46 w + qm_due M w) else M 46 w)
theorem K_Model_show0 {M : qa_Mem} (hw : qm_wf M) (hs : qm_sh M) (h3 : qm_who M) (h6 : 0 ≤ M 6 22 ∧ M 6 22 ≤ 1000) : qa_E 109 0 [(0, qr 6)] [] (M) (.inl (some (qi (qw_sum (qm_due M) 6)))) (qm_pay M 6) := by
  have h1 := hs.1.1
  have h2 := hs.1.2
  have lp : ∀ (k : Nat) (j : Nat), j + k = 6 → qa_E 109 25 [(0, qr 6), (1, qi (qw_sum (qm_due M) j)), (2, qi j)] [] (qm_pay M j) (.inl (some (qi (qw_sum (qm_due M) 6)))) (qm_pay M 6) := by
    intro k
    induction k with
    | zero =>
      intro j g1
      obtain rfl : j = 6 := by omega
      refine R_iload cd_109_25 rfl ?_
      refine R_push cd_109_26 ?_
      refine R_icmp_ge 62 cd_109_28 rfl (fun b28 => ?_) (fun b28 => ?_)
      · refine R_iload cd_109_62 rfl ?_
        exact R_iret cd_109_63 (by first | rfl | omega) rfl
      · omega
    | succ k ih =>
      intro j g1
      have e := ih (j + 1) (by omega)
      have es := K_Model_secondsOf (w := (j : Int)) (M := qm_pay M j) hw.1.1 hw.1.2 hs
      rw [show qm_sc (qm_pay M j) j = qm_sc M j from rfl] at es
      have hg : ∀ x, qm_g M j x = 0 ∨ qm_g M j x = 1 := fun x => qa_and1 _
      have r1 : 0 ≤ qm_sc M j ∧ qm_sc M j ≤ ((M 6 9).toNat : Int) * 120 := by
        unfold qm_sc
        refine qf_sum_r (B := 120) _ (fun i a b => ?_)
        have := hs.2 i a (by omega)
        have := qm_sf_r (a := M 36 i) hg (M 37 i - M 36 i + 1).toNat
        omega
      have r2 := qf_mulb (d := qm_sc M j / 24) (e := M 6 22) (A := 50) (B := 1000) (by omega) (by omega) (by omega) (by omega)
      have ep : (qm_pay M j) 46 j = M 46 j := by unfold qm_pay; rw [qa_blk_e, if_neg (by omega)]
      have em : qa_upd (qm_pay M j) 46 j (qa_wrap (M 46 j + qm_due M j)) = qm_pay M ((j + 1 : Nat) : Int) := by
        rw [Int.natCast_add]
        funext c9 q
        by_cases g46 : c9 = 46
        · subst g46
          simp only [qm_pay, qa_upd, qa_blk, if_true, true_and]
          by_cases hq : q = (j : Int)
          · subst hq; rw [if_pos rfl, if_pos (by omega)]
          · rw [if_neg hq]
            (repeat' split) <;> first | rfl | omega | (congr 1 <;> omega)
        · simp [qm_pay, qa_upd, qa_blk, g46]
      rw [← em, show qw_sum (qm_due M) (j + 1) = qa_wrap (qw_sum (qm_due M) j + qm_due M j) from rfl, Int.natCast_add] at e
      refine R_iload cd_109_25 rfl ?_
      refine R_push cd_109_26 ?_
      refine R_icmp_ge 62 cd_109_28 rfl (fun b28 => ?_) (fun b28 => ?_)
      · omega
      · refine R_aload cd_109_31 rfl ?_
        refine R_iload cd_109_32 rfl ?_
        refine R_call2 cd_109_33 rfl rfl es ?_
        refine R_aload cd_109_36 rfl ?_
        refine R_getf cd_109_37 rfl (by decide) ?_
        refine R_imul cd_109_40 (show qa_InR (qm_sc M j / 24 * M 6 22) by unfold qa_InR; omega) ?_
        refine R_istore cd_109_41 ?_
        refine R_aload cd_109_42 rfl ?_
        refine R_getr cd_109_43 rfl ?_
        refine R_iload cd_109_46 rfl ?_
        refine R_dup2 cd_109_47 rfl rfl ?_
        refine R_iald cd_109_48 rfl (by first | omega | (simp [qa_upd, qa_blk] <;> omega)) (by first | omega | (simp [qa_upd, qa_blk] <;> omega)) ?_
        refine R_iload cd_109_49 rfl ?_
        refine R_iaddw cd_109_50 ?_
        refine R_iast cd_109_51 rfl (by first | omega | (simp [qa_upd, qa_blk] <;> omega)) (by first | omega | (simp [qa_upd, qa_blk] <;> omega))  ?_
        refine R_iload cd_109_52 rfl ?_
        refine R_iload cd_109_53 rfl ?_
        refine R_iaddw cd_109_54 ?_
        refine R_istore cd_109_55 ?_
        refine R_iinc cd_109_56 rfl (by unfold qa_InR; first | omega | (simp [qa_upd, qa_blk] <;> omega)) ?_
        refine R_goto cd_109_59 ?_
        rw [ep]
        exact R_norm (qs_c rfl (qs_c rfl (qs_c rfl qs_n))) e
  have e := lp 6 0 (by omega)
  rw [show qm_pay M ((0 : Nat) : Int) = qa_upd M 6 26 0 by
    funext c9 q
    by_cases g46 : c9 = 46
    · subst g46; simp only [qm_pay, qa_blk, if_true]; rw [if_neg (by omega)]; rfl
    · simp [qm_pay, qa_blk, g46]] at e
  refine R_aload cd_109_0 rfl ?_
  refine R_aload cd_109_1 rfl ?_
  refine R_call1 cd_109_2 rfl rfl (K_Model_isWhole (by assumption) (by assumption) (by assumption)) ?_
  refine R_ifeq_b 12 cd_109_5 rfl (fun b5 => ?_) (fun b5 => ?_)
  · refine R_push cd_109_12 ?_
    exfalso
    exact b5 h3
  · refine R_push cd_109_8 ?_
    refine R_goto cd_109_9 ?_
    refine R_call2 cd_109_13 rfl rfl K_Model_fails ?_
    refine R_ifeq_b 21 cd_109_16 rfl (fun _ => ?_) (fun h => absurd h (by decide))
    refine R_push cd_109_21 ?_
    refine R_istore cd_109_22 ?_
    refine R_push cd_109_23 ?_
    refine R_istore cd_109_24 ?_
    exact R_norm (qs_c rfl (qs_c rfl (qs_c rfl qs_n))) e
