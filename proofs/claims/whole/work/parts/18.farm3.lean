/-! work, and the hours of a night -/
def qc_fv (M : qa_Mem) : Prop := qv_farm (M 25) (M 26) (M 24) (M 28) (M 27) (M 5 3) (M 5 6) ∧ 0 ≤ M 1 3 ∧ M 1 3 ≤ 8
theorem K_Farm_work {m : Int} {M : qa_Mem} (hv : qc_fv M) (h1 : 0 ≤ m) (h2 : m < M 5 3) (h3 : M 26 m = 0) : qa_E 33 0 [(0, qr 5), (1, qi (m)), (2, qr (4)), (3, qr (3)), (4, qr (1))] [] (M) (.inl (some (qi (qc_wx M m)))) (qc_wM M m) := by
  obtain ⟨⟨v1, v2, v3, v4, v5⟩, v6, v7⟩ := hv
  obtain ⟨t1, t2, t3, t4⟩ := v3 m h1 (by omega)
  have t4 := t4 h3
  have t5 := v4 m h1 h2
  have rr := qr_c_r (qc_need M) (M 24 m) (by omega) 120
  rw [show qr_c (qc_need M) (M 24 m) 120 = qc_wr M m from rfl] at rr
  have rb := qf_best_r (M 28) (M 27) (M 5 6).toNat
  rw [show qf_best (M 28) (M 27) (M 5 6).toNat = qc_wb M from rfl] at rb
  obtain ⟨N, hN⟩ : ∃ x, x = qs_rm M (qc_need M) (M 24 m) 120 := ⟨_, rfl⟩
  have kr := K_Farm_render (M := M) h1 (by omega) t5 ⟨t1, by omega⟩ v6 v7
  rw [← hN] at kr
  have eN : ∀ k : Nat, k ≠ 18 → k ≠ 19 → k ≠ 20 → N k = M k := by
    intro k a b c
    rw [hN]; unfold qs_rm
    rw [qa_blk_n c, qa_blk_n b, qa_blk_n a]
  have tail : ∀ (K : qa_Mem) (z h : Int), h = K 25 m → (z = 0 ∨ z = 1) → qa_upd K 26 m (qb (20 ≤ h)) = qc_wM M m → 1000 * qc_wr M m + z = qc_wx M m → qa_E 33 42 [(0, qr 5), (1, qi m), (2, qr 4), (3, qr 3), (4, qr 1), (5, qi (qc_wr M m)), (6, qi z)] [] K (.inl (some (qi (qc_wx M m)))) (qc_wM M m) := by
    intro K z h hh hz hm hx
    rw [hh] at hm
    refine R_aload cd_33_42 rfl ?_
    refine R_getr cd_33_43 rfl ?_
    refine R_iload cd_33_46 rfl ?_
    refine R_aload cd_33_47 rfl ?_
    refine R_getr cd_33_48 rfl ?_
    refine R_iload cd_33_51 rfl ?_
    refine R_iald cd_33_52 rfl (by omega) (by omega) ?_
    refine R_push cd_33_53 ?_
    refine R_icmp_lt 62 cd_33_55 rfl (fun b55 => ?_) (fun b55 => ?_)
    · refine R_push cd_33_62 ?_
      first
        | rw [qb_t b55] at hm
          refine R_zast cd_33_63 rfl (by omega) (by omega) (by decide) ?_
          refine R_push cd_33_64 ?_
          refine R_iload cd_33_67 rfl ?_
          refine R_imul cd_33_69 (by unfold qa_InR; first | omega | (simp [qa_upd, qa_blk] <;> omega)) ?_
          refine R_iload cd_33_70 rfl ?_
          refine R_iadd cd_33_72 (by unfold qa_InR; first | omega | (simp [qa_upd, qa_blk] <;> omega)) ?_
          exact R_iret cd_33_73 hx hm
        | rw [qb_f (by omega)] at hm
          refine R_zast cd_33_63 rfl (by omega) (by omega) (by decide) ?_
          refine R_push cd_33_64 ?_
          refine R_iload cd_33_67 rfl ?_
          refine R_imul cd_33_69 (by unfold qa_InR; first | omega | (simp [qa_upd, qa_blk] <;> omega)) ?_
          refine R_iload cd_33_70 rfl ?_
          refine R_iadd cd_33_72 (by unfold qa_InR; first | omega | (simp [qa_upd, qa_blk] <;> omega)) ?_
          exact R_iret cd_33_73 hx hm
    · refine R_push cd_33_58 ?_
      refine R_goto cd_33_59 ?_
      first
        | rw [qb_t b55] at hm
          refine R_zast cd_33_63 rfl (by omega) (by omega) (by decide) ?_
          refine R_push cd_33_64 ?_
          refine R_iload cd_33_67 rfl ?_
          refine R_imul cd_33_69 (by unfold qa_InR; first | omega | (simp [qa_upd, qa_blk] <;> omega)) ?_
          refine R_iload cd_33_70 rfl ?_
          refine R_iadd cd_33_72 (by unfold qa_InR; first | omega | (simp [qa_upd, qa_blk] <;> omega)) ?_
          exact R_iret cd_33_73 hx hm
        | rw [qb_f (by omega)] at hm
          refine R_zast cd_33_63 rfl (by omega) (by omega) (by decide) ?_
          refine R_push cd_33_64 ?_
          refine R_iload cd_33_67 rfl ?_
          refine R_imul cd_33_69 (by unfold qa_InR; first | omega | (simp [qa_upd, qa_blk] <;> omega)) ?_
          refine R_iload cd_33_70 rfl ?_
          refine R_iadd cd_33_72 (by unfold qa_InR; first | omega | (simp [qa_upd, qa_blk] <;> omega)) ?_
          exact R_iret cd_33_73 hx hm
  by_cases hr0 : qc_wr M m = 0
  · by_cases hb : 0 ≤ qc_wb M
    · have kb := v5 (qc_wb M) hb (by omega)
      have ks := K_Farm_sell1 (M := qa_upd N 25 m (M 25 m + qc_wr M m)) (m := m) (by rw [qa_upd_n (by decide), eN 5 (by decide) (by decide) (by decide)]; exact v2.1) (by rw [qa_upd_n (by decide), eN 5 (by decide) (by decide) (by decide)]; exact v2.2) (by show 0 ≤ qc_wb N; unfold qc_wb; rw [eN 5 (by decide) (by decide) (by decide), eN 28 (by decide) (by decide) (by decide), eN 27 (by decide) (by decide) (by decide)]; exact hb) (by show N 28 (qc_wb N) ≤ 50; unfold qc_wb; rw [eN 5 (by decide) (by decide) (by decide), eN 28 (by decide) (by decide) (by decide), eN 27 (by decide) (by decide) (by decide)]; exact kb.1.2) h1 (by omega) (by rw [qa_upd_e]; omega)
      rw [show qc_wb (qa_upd N 25 m (M 25 m + qc_wr M m)) = qc_wb M by show qc_wb N = _; unfold qc_wb; rw [eN 5 (by decide) (by decide) (by decide), eN 28 (by decide) (by decide) (by decide), eN 27 (by decide) (by decide) (by decide)]] at ks
      rw [qa_upd_n (by decide), qa_upd_n (by decide), qa_upd_n (by decide), eN 5 (by decide) (by decide) (by decide), eN 28 (by decide) (by decide) (by decide), eN 27 (by decide) (by decide) (by decide), qa_upd_e] at ks
      have ew : qw_h (M 25 m) (qc_wr M m) (qc_wb M) = M 25 m + 3 := by unfold qw_h; rw [qx_f (fun z => z hr0), qx_t hb]
      have em : qa_upd (qa_upd (qa_upd (qa_upd (qa_upd N 25 m (M 25 m + qc_wr M m)) 28 (qc_wb M) (M 28 (qc_wb M) - 1)) 5 7 (qa_wrap (M 5 7 + M 27 (qc_wb M)))) 25 m (M 25 m + qc_wr M m + 3)) 26 m (qb (20 ≤ M 25 m + 3)) = qc_wM M m := by
        unfold qc_wM
        dsimp only
        rw [← hN, qx_t ⟨hr0, hb⟩, ew, hr0, Int.add_zero, qa_upd_x (k := 25) (k1 := 28) (by decide), qa_upd_x (k := 25) (k1 := 5) (by decide), qa_upd_2]
      have tl := tail _ 1 (M 25 m + 3) (by rw [qa_upd_e]; omega) (Or.inr rfl) em (by unfold qc_wx; rw [qb_t ⟨hr0, hb⟩])
      refine R_aload cd_33_0 rfl ?_
      refine R_iload cd_33_1 rfl ?_
      refine R_aload cd_33_2 rfl ?_
      refine R_aload cd_33_3 rfl ?_
      refine R_aload cd_33_4 rfl ?_
      refine R_call5 cd_33_6 rfl rfl kr ?_
      refine R_istore cd_33_9 ?_
      refine R_iload cd_33_11 rfl ?_
      refine R_if_ne 24 cd_33_13 rfl (fun b13 => ?_) (fun b13 => ?_)
      · exact absurd hr0 b13
      · refine R_aload cd_33_16 rfl ?_
        refine R_iload cd_33_17 rfl ?_
        refine R_call2 cd_33_18 rfl rfl ks ?_
        refine R_goto cd_33_21 ?_
        refine R_istore cd_33_25 ?_
        refine R_iload cd_33_27 rfl ?_
        refine R_if_ne 42 cd_33_29 rfl (fun b29 => ?_) (fun b29 => ?_)
        · first | exact absurd hr0 b29 | exact R_norm (qs_c rfl (qs_c rfl (qs_c rfl (qs_c rfl (qs_c rfl (qs_c rfl (qs_c rfl qs_n))))))) tl
        · refine R_iload cd_33_32 rfl ?_
          refine R_if_ne 42 cd_33_34 rfl (fun b34 => ?_) (fun b34 => ?_)
          · first | exact absurd hr0 b29 | exact R_norm (qs_c rfl (qs_c rfl (qs_c rfl (qs_c rfl (qs_c rfl (qs_c rfl (qs_c rfl qs_n))))))) tl
          · exact absurd b34 (by decide)
    · have ks := K_Farm_sell0 (M := qa_upd N 25 m (M 25 m + qc_wr M m)) (m := m) (by rw [qa_upd_n (by decide), eN 5 (by decide) (by decide) (by decide)]; exact v2.1) (by rw [qa_upd_n (by decide), eN 5 (by decide) (by decide) (by decide)]; exact v2.2) (by show qc_wb N < 0; unfold qc_wb; rw [eN 5 (by decide) (by decide) (by decide), eN 28 (by decide) (by decide) (by decide), eN 27 (by decide) (by decide) (by decide)]; exact Int.not_le.mp hb)
      have ew : qw_h (M 25 m) (qc_wr M m) (qc_wb M) = qf_cool (M 25 m) := by unfold qw_h; rw [qx_f (fun z => z hr0), qx_f hb]
      have kc := K_Farm_cool (M := qa_upd N 25 m (M 25 m + qc_wr M m)) (m := m) h1 (by omega) (by rw [qa_upd_e]; omega)
      rw [qa_upd_e, qa_upd_2] at kc
      have em : qa_upd (qa_upd N 25 m (qf_cool (M 25 m + qc_wr M m))) 26 m (qb (20 ≤ qf_cool (M 25 m))) = qc_wM M m := by
        unfold qc_wM
        dsimp only
        rw [← hN, qx_f (fun z => hb z.2), ew, hr0, Int.add_zero]
      have tl := tail _ 0 (qf_cool (M 25 m)) (by rw [qa_upd_e, hr0, Int.add_zero]) (Or.inl rfl) em (by unfold qc_wx; rw [qb_f (fun z => hb z.2)])
      refine R_aload cd_33_0 rfl ?_
      refine R_iload cd_33_1 rfl ?_
      refine R_aload cd_33_2 rfl ?_
      refine R_aload cd_33_3 rfl ?_
      refine R_aload cd_33_4 rfl ?_
      refine R_call5 cd_33_6 rfl rfl kr ?_
      refine R_istore cd_33_9 ?_
      refine R_iload cd_33_11 rfl ?_
      refine R_if_ne 24 cd_33_13 rfl (fun b13 => ?_) (fun b13 => ?_)
      · exact absurd hr0 b13
      · refine R_aload cd_33_16 rfl ?_
        refine R_iload cd_33_17 rfl ?_
        refine R_call2 cd_33_18 rfl rfl ks ?_
        refine R_goto cd_33_21 ?_
        refine R_istore cd_33_25 ?_
        refine R_iload cd_33_27 rfl ?_
        refine R_if_ne 42 cd_33_29 rfl (fun b29 => ?_) (fun b29 => ?_)
        · first | exact absurd hr0 b29 | exact absurd rfl b34 | exact R_norm (qs_c rfl (qs_c rfl (qs_c rfl (qs_c rfl (qs_c rfl (qs_c rfl (qs_c rfl qs_n))))))) tl
        · refine R_iload cd_33_32 rfl ?_
          refine R_if_ne 42 cd_33_34 rfl (fun b34 => ?_) (fun b34 => ?_)
          · first | exact absurd hr0 b29 | exact absurd rfl b34 | exact R_norm (qs_c rfl (qs_c rfl (qs_c rfl (qs_c rfl (qs_c rfl (qs_c rfl (qs_c rfl qs_n))))))) tl
          · refine R_aload cd_33_37 rfl ?_
            refine R_iload cd_33_38 rfl ?_
            refine R_callv2 cd_33_39 rfl rfl kc ?_
            first | exact absurd hr0 b29 | exact absurd rfl b34 | exact R_norm (qs_c rfl (qs_c rfl (qs_c rfl (qs_c rfl (qs_c rfl (qs_c rfl (qs_c rfl qs_n))))))) tl
  · have ew : qw_h (M 25 m) (qc_wr M m) (qc_wb M) = M 25 m + qc_wr M m := by unfold qw_h; rw [qx_t hr0]
    have em : qa_upd (qa_upd N 25 m (M 25 m + qc_wr M m)) 26 m (qb (20 ≤ M 25 m + qc_wr M m)) = qc_wM M m := by
      unfold qc_wM
      dsimp only
      rw [← hN, qx_f (fun z => hr0 z.1), ew]
    have tl := tail _ 0 (M 25 m + qc_wr M m) (by rw [qa_upd_e]) (Or.inl rfl) em (by unfold qc_wx; rw [qb_f (fun z => hr0 z.1)])
    refine R_aload cd_33_0 rfl ?_
    refine R_iload cd_33_1 rfl ?_
    refine R_aload cd_33_2 rfl ?_
    refine R_aload cd_33_3 rfl ?_
    refine R_aload cd_33_4 rfl ?_
    refine R_call5 cd_33_6 rfl rfl kr ?_
    refine R_istore cd_33_9 ?_
    refine R_iload cd_33_11 rfl ?_
    refine R_if_ne 24 cd_33_13 rfl (fun b13 => ?_) (fun b13 => ?_)
    · refine R_push cd_33_24 ?_
      refine R_istore cd_33_25 ?_
      refine R_iload cd_33_27 rfl ?_
      refine R_if_ne 42 cd_33_29 rfl (fun b29 => ?_) (fun b29 => ?_)
      · exact R_norm (qs_c rfl (qs_c rfl (qs_c rfl (qs_c rfl (qs_c rfl (qs_c rfl (qs_c rfl qs_n))))))) tl
      · exact absurd b29 hr0
    · exact absurd b13 hr0
theorem qc_rM_v {M : qa_Mem} {m : Int} (hv : qc_fv M) (h1 : 0 ≤ m) (h2 : m < M 5 3) : qc_fv (qc_rM M m) := by
  obtain ⟨⟨v1, v2, v3, v4, v5⟩, v6, v7⟩ := hv
  refine ⟨⟨v1, v2, fun k k1 k2 => ?_, v4, v5⟩, v6, v7⟩
  obtain ⟨t1, t2, t3, t4⟩ := v3 k k1 k2
  by_cases hk : k = m
  · subst hk
    have e1 : (qc_rM M k) 25 k = qf_cool (M 25 k) := by unfold qc_rM; rw [qa_upd_n (by decide), qa_upd_e]
    have e2 : (qc_rM M k) 26 k = qb (8 < qf_cool (M 25 k)) := by unfold qc_rM; rw [qa_upd_e]
    rw [e1, e2]
    have hc : 0 ≤ qf_cool (M 25 k) ∧ qf_cool (M 25 k) ≤ 20 := by unfold qf_cool; split <;> omega
    exact ⟨hc.1, by omega, qb_01 _, fun z => by have := qb_e0.mp z; omega⟩
  · have e1 : (qc_rM M m) 25 k = M 25 k := by unfold qc_rM; rw [qa_upd_n (by decide), qa_upd_i hk]
    have e2 : (qc_rM M m) 26 k = M 26 k := by unfold qc_rM; rw [qa_upd_i hk, qa_upd_n (by decide)]
    rw [e1, e2]
    exact ⟨t1, t2, t3, t4⟩
theorem qc_wM_v {M : qa_Mem} {m : Int} (hv : qc_fv M) (h1 : 0 ≤ m) (h2 : m < M 5 3) (h3 : M 26 m = 0) : qc_fv (qc_wM M m) := by
  obtain ⟨⟨v1, v2, v3, v4, v5⟩, v6, v7⟩ := hv
  have rb := qf_best_r (M 28) (M 27) (M 5 6).toNat
  rw [show qf_best (M 28) (M 27) (M 5 6).toNat = qc_wb M from rfl] at rb
  obtain ⟨N, hN⟩ : ∃ x, x = qs_rm M (qc_need M) (M 24 m) 120 := ⟨_, rfl⟩
  obtain ⟨K, hK⟩ : ∃ x, x = qx (qc_wr M m = 0 ∧ 0 ≤ qc_wb M) (qa_upd (qa_upd N 28 (qc_wb M) (M 28 (qc_wb M) - 1)) 5 7 (qa_wrap (M 5 7 + M 27 (qc_wb M)))) N := ⟨_, rfl⟩
  have hW : qc_wM M m = qa_upd (qa_upd K 25 m (qw_h (M 25 m) (qc_wr M m) (qc_wb M))) 26 m (qb (20 ≤ qw_h (M 25 m) (qc_wr M m) (qc_wb M))) := by rw [hK, hN]; rfl
  have eN : ∀ k : Nat, k ≠ 18 → k ≠ 19 → k ≠ 20 → N k = M k := by
    intro k a b c
    rw [hN]; unfold qs_rm
    rw [qa_blk_n c, qa_blk_n b, qa_blk_n a]
  have eK : ∀ k : Nat, k ≠ 18 → k ≠ 19 → k ≠ 20 → k ≠ 28 → k ≠ 5 → K k = M k := by
    intro k a b c d f
    rw [hK]
    by_cases hc : qc_wr M m = 0 ∧ 0 ≤ qc_wb M
    · rw [qx_t hc, qa_upd_n f, qa_upd_n d, eN k a b c]
    · rw [qx_f hc, eN k a b c]
  have e5 : ∀ j : Int, j ≠ 7 → K 5 j = M 5 j := by
    intro j hj
    rw [hK]
    by_cases hc : qc_wr M m = 0 ∧ 0 ≤ qc_wb M
    · rw [qx_t hc, qa_upd_i hj, qa_upd_n (by decide), eN 5 (by decide) (by decide) (by decide)]
    · rw [qx_f hc, eN 5 (by decide) (by decide) (by decide)]
  have rr := qr_c_r (qc_need M) (M 24 m) (by have := v4 m h1 h2; omega) 120
  rw [show qr_c (qc_need M) (M 24 m) 120 = qc_wr M m from rfl] at rr
  rw [hW]
  refine ⟨⟨?_, ?_, ?_, ?_, ?_⟩, ?_, ?_⟩
  · rw [qa_upd_n (by decide), qa_upd_n (by decide), e5 3 (by decide)]; exact v1
  · rw [qa_upd_n (by decide), qa_upd_n (by decide), e5 6 (by decide)]; exact v2
  · intro k k1 k2
    obtain ⟨t1, t2, t3, t4⟩ := v3 k k1 k2
    by_cases hk : k = m
    · subst hk
      have t4 := t4 h3
      have t5 := v4 k h1 h2
      have e1 : (qa_upd (qa_upd K 25 k (qw_h (M 25 k) (qc_wr M k) (qc_wb M))) 26 k (qb (20 ≤ qw_h (M 25 k) (qc_wr M k) (qc_wb M)))) 25 k = qw_h (M 25 k) (qc_wr M k) (qc_wb M) := by rw [qa_upd_n (by decide), qa_upd_e]
      have e2 : (qa_upd (qa_upd K 25 k (qw_h (M 25 k) (qc_wr M k) (qc_wb M))) 26 k (qb (20 ≤ qw_h (M 25 k) (qc_wr M k) (qc_wb M)))) 26 k = qb (20 ≤ qw_h (M 25 k) (qc_wr M k) (qc_wb M)) := qa_upd_e
      rw [e1, e2]
      have hc : 0 ≤ qw_h (M 25 k) (qc_wr M k) (qc_wb M) ∧ qw_h (M 25 k) (qc_wr M k) (qc_wb M) ≤ 24 := by
        unfold qw_h
        by_cases c1 : qc_wr M k ≠ 0
        · rw [qx_t c1]; omega
        · rw [qx_f c1]
          by_cases c2 : 0 ≤ qc_wb M
          · rw [qx_t c2]; omega
          · rw [qx_f c2]; unfold qf_cool; split <;> omega
      exact ⟨hc.1, hc.2, qb_01 _, fun z => by have := qb_e0.mp z; omega⟩
    · have e1 : (qa_upd (qa_upd K 25 m (qw_h (M 25 m) (qc_wr M m) (qc_wb M))) 26 m (qb (20 ≤ qw_h (M 25 m) (qc_wr M m) (qc_wb M)))) 25 k = M 25 k := by rw [qa_upd_n (by decide), qa_upd_i hk, eK 25 (by decide) (by decide) (by decide) (by decide) (by decide)]
      have e2 : (qa_upd (qa_upd K 25 m (qw_h (M 25 m) (qc_wr M m) (qc_wb M))) 26 m (qb (20 ≤ qw_h (M 25 m) (qc_wr M m) (qc_wb M)))) 26 k = M 26 k := by rw [qa_upd_i hk, qa_upd_n (by decide), eK 26 (by decide) (by decide) (by decide) (by decide) (by decide)]
      rw [e1, e2]
      exact ⟨t1, t2, t3, t4⟩
  · rw [qa_upd_n (by decide), qa_upd_n (by decide), qa_upd_n (by decide), qa_upd_n (by decide), e5 3 (by decide), eK 24 (by decide) (by decide) (by decide) (by decide) (by decide)]
    exact v4
  · rw [qa_upd_n (by decide), qa_upd_n (by decide), qa_upd_n (by decide), qa_upd_n (by decide), qa_upd_n (by decide), qa_upd_n (by decide), e5 6 (by decide), eK 27 (by decide) (by decide) (by decide) (by decide) (by decide)]
    intro o o1 o2
    have w := v5 o o1 o2
    refine ⟨?_, w.2⟩
    rw [hK]
    by_cases hc : qc_wr M m = 0 ∧ 0 ≤ qc_wb M
    · rw [qx_t hc, qa_upd_n (by decide)]
      by_cases ho : o = qc_wb M
      · subst ho
        rw [qa_upd_e]
        have := rb.2.2 hc.2
        omega
      · rw [qa_upd_i ho, eN 28 (by decide) (by decide) (by decide)]; exact w.1
    · rw [qx_f hc, eN 28 (by decide) (by decide) (by decide)]; exact w.1
  · rw [qa_upd_n (by decide), qa_upd_n (by decide), eK 1 (by decide) (by decide) (by decide) (by decide) (by decide)]; exact v6
  · rw [qa_upd_n (by decide), qa_upd_n (by decide), eK 1 (by decide) (by decide) (by decide) (by decide) (by decide)]; exact v7
