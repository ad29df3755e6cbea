noncomputable def qm_wr (M : qa_Mem) (m : Int) : Int := qr_c (qm_need M) (M 41 m) 120
def qm_wb (M : qa_Mem) : Int := qf_best (M 45) (M 44) (M 6 19).toNat
noncomputable def qm_wM (M : qa_Mem) (m : Int) : qa_Mem :=
  let N := qm_rm M (qm_need M) (M 41 m) 120
  let K := qx (qm_wr M m = 0 ∧ 0 ≤ qm_wb M) (qa_upd (qa_upd N 45 (qm_wb M) (M 45 (qm_wb M) - 1)) 46 6 (qa_wrap (M 46 6 + M 44 (qm_wb M)))) N
  qa_upd (qa_upd K 42 m (qw_h (M 42 m) (qm_wr M m) (qm_wb M))) 43 m (qb (20 ≤ qw_h (M 42 m) (qm_wr M m) (qm_wb M)))
noncomputable def qm_wx (M : qa_Mem) (m : Int) : Int := 1000 * qm_wr M m + qb (qm_wr M m = 0 ∧ 0 ≤ qm_wb M)
noncomputable def qm_rM (M : qa_Mem) (m : Int) : qa_Mem := qa_upd (qa_upd M 42 m (qf_cool (M 42 m))) 43 m (qb (8 < qf_cool (M 42 m)))
def qm_fv (M : qa_Mem) : Prop := qv_farm (M 42) (M 43) (M 41) (M 45) (M 44) (M 6 15) (M 6 19) ∧ qm_wf M ∧ 0 ≤ M 6 9 ∧ M 6 9 ≤ 10
theorem K_Model_hourR {m : Int} {M : qa_Mem} (hv : qm_fv M) (h1 : 0 ≤ m) (h2 : m < M 6 15) (h3 : M 43 m ≠ 0) : qa_E 102 0 [(0, qr 6), (1, qi (m))] [] (M) (.inl (some (qi (0)))) (qm_rM M m) := by
  obtain ⟨⟨v1, v2, v3, v4, v5⟩, v6, v7, v8⟩ := hv
  have t := v3 m h1 (by omega)
  have e : (qa_upd M 42 m (qf_cool (M 42 m))) 42 m = qf_cool (M 42 m) := qa_upd_e
  refine R_aload cd_102_0 rfl ?_
  refine R_getr cd_102_1 rfl ?_
  refine R_iload cd_102_4 rfl ?_
  refine R_zald cd_102_5 rfl (by first | omega | (simp [qa_upd, qa_blk] <;> omega)) (by first | omega | (simp [qa_upd, qa_blk] <;> omega)) ?_
  refine R_if_eq 38 cd_102_6 rfl (fun b6 => ?_) (fun b6 => ?_)
  · exact absurd b6 h3
  · refine R_aload cd_102_9 rfl ?_
    refine R_iload cd_102_10 rfl ?_
    refine R_callv2 cd_102_11 rfl rfl (K_Model_cools (by omega) (by omega) (by omega)) ?_
    refine R_aload cd_102_14 rfl ?_
    refine R_getr cd_102_15 rfl ?_
    refine R_iload cd_102_18 rfl ?_
    refine R_aload cd_102_19 rfl ?_
    refine R_getr cd_102_20 rfl ?_
    refine R_iload cd_102_23 rfl ?_
    refine R_iald cd_102_24 rfl (by first | omega | (simp [qa_upd, qa_blk] <;> omega)) (by first | omega | (simp [qa_upd, qa_blk] <;> omega)) ?_
    refine R_push cd_102_25 ?_
    refine R_icmp_le 34 cd_102_27 rfl (fun b27 => ?_) (fun b27 => ?_)
    · refine R_push cd_102_34 ?_
      first
        | rw [e] at b27
          refine R_zast cd_102_35 rfl (by first | omega | (simp [qa_upd, qa_blk] <;> omega)) (by first | omega | (simp [qa_upd, qa_blk] <;> omega)) (by decide) ?_
          refine R_push cd_102_36 ?_
          refine R_iret cd_102_37 rfl ?_
          unfold qm_rM
          rw [qb_t (by omega)]
        | rw [e] at b27
          refine R_zast cd_102_35 rfl (by first | omega | (simp [qa_upd, qa_blk] <;> omega)) (by first | omega | (simp [qa_upd, qa_blk] <;> omega)) (by decide) ?_
          refine R_push cd_102_36 ?_
          refine R_iret cd_102_37 rfl ?_
          unfold qm_rM
          rw [qb_f (by omega)]
    · refine R_push cd_102_30 ?_
      refine R_goto cd_102_31 ?_
      first
        | rw [e] at b27
          refine R_zast cd_102_35 rfl (by first | omega | (simp [qa_upd, qa_blk] <;> omega)) (by first | omega | (simp [qa_upd, qa_blk] <;> omega)) (by decide) ?_
          refine R_push cd_102_36 ?_
          refine R_iret cd_102_37 rfl ?_
          unfold qm_rM
          rw [qb_t (by omega)]
        | rw [e] at b27
          refine R_zast cd_102_35 rfl (by first | omega | (simp [qa_upd, qa_blk] <;> omega)) (by first | omega | (simp [qa_upd, qa_blk] <;> omega)) (by decide) ?_
          refine R_push cd_102_36 ?_
          refine R_iret cd_102_37 rfl ?_
          unfold qm_rM
          rw [qb_f (by omega)]
theorem K_Model_hourW {m : Int} {M : qa_Mem} (hv : qm_fv M) (h1 : 0 ≤ m) (h2 : m < M 6 15) (h3 : M 43 m = 0) : qa_E 102 0 [(0, qr 6), (1, qi (m))] [] (M) (.inl (some (qi (qm_wx M m)))) (qm_wM M m) := by
  obtain ⟨⟨v1, v2, v3, v4, v5⟩, v6, v7, v8⟩ := hv
  obtain ⟨t1, t2, t3, t4⟩ := v3 m h1 (by omega)
  have t4 := t4 h3
  have t5 := v4 m h1 h2
  obtain ⟨sp, hsp⟩ : ∃ x, x = M 41 m := ⟨_, rfl⟩
  obtain ⟨nd, hnd⟩ : ∃ x, x = qm_need M := ⟨_, rfl⟩
  obtain ⟨r, hr⟩ : ∃ x, x = qr_c nd sp 120 := ⟨_, rfl⟩
  have hwr : qm_wr M m = r := by unfold qm_wr; rw [hr, hnd, hsp]
  obtain ⟨N, hN⟩ : ∃ x, x = qm_rm M nd sp 120 := ⟨_, rfl⟩
  have hWM : qm_wM M m = qa_upd (qa_upd (qx (r = 0 ∧ 0 ≤ qm_wb M) (qa_upd (qa_upd N 45 (qm_wb M) (M 45 (qm_wb M) - 1)) 46 6 (qa_wrap (M 46 6 + M 44 (qm_wb M)))) N) 42 m (qw_h (M 42 m) r (qm_wb M))) 43 m (qb (20 ≤ qw_h (M 42 m) r (qm_wb M))) := by rw [hN, hnd, hsp, ← hwr]; rfl
  have hWX : qm_wx M m = 1000 * r + qb (r = 0 ∧ 0 ≤ qm_wb M) := by rw [← hwr]; rfl
  have rr := qr_c_r nd sp (by omega) 120
  rw [← hr] at rr
  rw [← hsp] at t5
  have rb := qf_best_r (M 45) (M 44) (M 6 19).toNat
  rw [show qf_best (M 45) (M 44) (M 6 19).toNat = qm_wb M from rfl] at rb
  have eN : ∀ k : Nat, k ≠ 38 → k ≠ 39 → k ≠ 40 → N k = M k := by
    intro k a b c
    rw [hN]; unfold qm_rm
    rw [qa_blk_n a, qa_blk_n b, qa_blk_n c]
  rw [hWX, hWM]
  obtain ⟨W, hW⟩ : ∃ W, W = qa_upd (qa_upd (qx (r = 0 ∧ 0 ≤ qm_wb M) (qa_upd (qa_upd N 45 (qm_wb M) (M 45 (qm_wb M) - 1)) 46 6 (qa_wrap (M 46 6 + M 44 (qm_wb M)))) N) 42 m (qw_h (M 42 m) r (qm_wb M))) 43 m (qb (20 ≤ qw_h (M 42 m) r (qm_wb M))) := ⟨_, rfl⟩
  rw [← hW]
  have tail : ∀ (K : qa_Mem) (z h : Int), h = K 42 m → -1 ≤ z → qa_upd K 43 m (qb (20 ≤ h)) = W → 1000 * r + qb (0 ≤ z) = 1000 * r + qb (r = 0 ∧ 0 ≤ qm_wb M) → qa_E 102 164 [(0, qr 6), (1, qi m), (2, qi r), (3, qi z)] [] K (.inl (some (qi (1000 * r + qb (r = 0 ∧ 0 ≤ qm_wb M))))) W := by
    intro K z h hh hz hm hx
    rw [hh] at hm
    rw [← hx]
    have t2 : qa_E 102 186 [(0, qr 6), (1, qi m), (2, qi r), (3, qi z)] [] W (.inl (some (qi (1000 * r + qb (0 ≤ z))))) W := by
      refine R_push cd_102_186 ?_
      refine R_iload cd_102_189 rfl ?_
      refine R_imul cd_102_190 (by unfold qa_InR; first | omega | (simp [qa_upd, qa_blk] <;> omega)) ?_
      refine R_iload cd_102_191 rfl ?_
      refine R_push cd_102_192 ?_
      refine R_icmp_ne 200 cd_102_193 rfl (fun b193 => ?_) (fun b193 => ?_)
      · refine R_push cd_102_200 ?_
        refine R_iadd cd_102_201 (by unfold qa_InR; first | omega | (simp [qa_upd, qa_blk] <;> omega)) ?_
        first
          | exact R_iret cd_102_202 (by rw [qb_f (by omega)]) rfl
          | exact R_iret cd_102_202 (by rw [qb_t (by omega)]) rfl
      · refine R_push cd_102_196 ?_
        refine R_goto cd_102_197 ?_
        refine R_iadd cd_102_201 (by unfold qa_InR; first | omega | (simp [qa_upd, qa_blk] <;> omega)) ?_
        first
          | exact R_iret cd_102_202 (by rw [qb_f (by omega)]) rfl
          | exact R_iret cd_102_202 (by rw [qb_t (by omega)]) rfl
    refine R_aload cd_102_164 rfl ?_
    refine R_getr cd_102_165 rfl ?_
    refine R_iload cd_102_168 rfl ?_
    refine R_aload cd_102_169 rfl ?_
    refine R_getr cd_102_170 rfl ?_
    refine R_iload cd_102_173 rfl ?_
    refine R_iald cd_102_174 rfl (by first | omega | (simp [qa_upd, qa_blk] <;> omega)) (by first | omega | (simp [qa_upd, qa_blk] <;> omega)) ?_
    refine R_push cd_102_175 ?_
    refine R_icmp_lt 184 cd_102_177 rfl (fun b177 => ?_) (fun b177 => ?_)
    · refine R_push cd_102_184 ?_
      first
        | rw [qb_t b177] at hm
          refine R_zast cd_102_185 rfl (by first | omega | (simp [qa_upd, qa_blk] <;> omega)) (by first | omega | (simp [qa_upd, qa_blk] <;> omega)) (by decide) ?_
          rw [hm]
          exact R_norm (qs_c rfl (qs_c rfl (qs_c rfl (qs_c rfl qs_n)))) t2
        | rw [qb_f (by omega)] at hm
          refine R_zast cd_102_185 rfl (by first | omega | (simp [qa_upd, qa_blk] <;> omega)) (by first | omega | (simp [qa_upd, qa_blk] <;> omega)) (by decide) ?_
          rw [hm]
          exact R_norm (qs_c rfl (qs_c rfl (qs_c rfl (qs_c rfl qs_n)))) t2
    · refine R_push cd_102_180 ?_
      refine R_goto cd_102_181 ?_
      first
        | rw [qb_t b177] at hm
          refine R_zast cd_102_185 rfl (by first | omega | (simp [qa_upd, qa_blk] <;> omega)) (by first | omega | (simp [qa_upd, qa_blk] <;> omega)) (by decide) ?_
          rw [hm]
          exact R_norm (qs_c rfl (qs_c rfl (qs_c rfl (qs_c rfl qs_n)))) t2
        | rw [qb_f (by omega)] at hm
          refine R_zast cd_102_185 rfl (by first | omega | (simp [qa_upd, qa_blk] <;> omega)) (by first | omega | (simp [qa_upd, qa_blk] <;> omega)) (by decide) ?_
          rw [hm]
          exact R_norm (qs_c rfl (qs_c rfl (qs_c rfl (qs_c rfl qs_n)))) t2
  have seg : qa_E 102 88 [(0, qr 6), (1, qi m), (2, qi r)] [] N (.inl (some (qi (1000 * r + qb (r = 0 ∧ 0 ≤ qm_wb M))))) W := by
    have i1 : N 42 m = M 42 m := by rw [eN 42 (by decide) (by decide) (by decide)]
    by_cases hr0 : r = 0
    · have kd := K_Model_dearest (M := qa_upd N 42 m (N 42 m + r)) (by rw [qa_upd_n (by decide), eN 6 (by decide) (by decide) (by decide)]; exact v2.1) (by rw [qa_upd_n (by decide), eN 6 (by decide) (by decide) (by decide)]; exact v2.2)
      rw [qa_upd_n (by decide), qa_upd_n (by decide), qa_upd_n (by decide), eN 6 (by decide) (by decide) (by decide), eN 45 (by decide) (by decide) (by decide), eN 44 (by decide) (by decide) (by decide), show qf_best (M 45) (M 44) (M 6 19).toNat = qm_wb M from rfl, i1] at kd
      by_cases hb : 0 ≤ qm_wb M
      · have kb := v5 (qm_wb M) hb (by omega)
        have ew : qw_h (M 42 m) r (qm_wb M) = M 42 m + 3 := by unfold qw_h; rw [qx_f (fun z => z hr0), qx_t hb]
        have em : qa_upd (qa_upd (qa_upd (qa_upd (qa_upd N 42 m (M 42 m + r)) 45 (qm_wb M) (M 45 (qm_wb M) - 1)) 42 m (M 42 m + r + 3)) 46 6 (qa_wrap (M 46 6 + M 44 (qm_wb M)))) 43 m (qb (20 ≤ M 42 m + 3)) = W := by
          rw [hW, qx_t ⟨hr0, hb⟩, ew, hr0, Int.add_zero, qa_upd_x (k := 42) (k1 := 45) (by decide), qa_upd_2, qa_upd_x (k := 42) (k1 := 46) (by decide)]
        have tl := tail _ (qm_wb M) (M 42 m + 3) (by rw [qa_upd_n (by decide), qa_upd_e]; omega) (by omega) em (by rw [qb_t hb, qb_t ⟨hr0, hb⟩])
        have j1 : (qa_upd N 42 m (M 42 m + r)) 45 (qm_wb M) = M 45 (qm_wb M) := by rw [qa_upd_n (by decide), eN 45 (by decide) (by decide) (by decide)]
        have j2 : (qa_upd (qa_upd N 42 m (M 42 m + r)) 45 (qm_wb M) (M 45 (qm_wb M) - 1)) 42 m = M 42 m + r := by rw [qa_upd_n (by decide), qa_upd_e]
        have j3 : (qa_upd (qa_upd (qa_upd N 42 m (M 42 m + r)) 45 (qm_wb M) (M 45 (qm_wb M) - 1)) 42 m (M 42 m + r + 3)) 46 6 = M 46 6 := by rw [qa_upd_n (by decide), qa_upd_n (by decide), qa_upd_n (by decide), eN 46 (by decide) (by decide) (by decide)]
        have j4 : (qa_upd (qa_upd (qa_upd N 42 m (M 42 m + r)) 45 (qm_wb M) (M 45 (qm_wb M) - 1)) 42 m (M 42 m + r + 3)) 44 (qm_wb M) = M 44 (qm_wb M) := by rw [qa_upd_n (by decide), qa_upd_n (by decide), qa_upd_n (by decide), eN 44 (by decide) (by decide) (by decide)]
        refine R_aload cd_102_88 rfl ?_
        refine R_getr cd_102_89 rfl ?_
        refine R_iload cd_102_92 rfl ?_
        refine R_dup2 cd_102_93 rfl rfl ?_
        refine R_iald cd_102_94 rfl (by first | omega | (simp [qa_upd, qa_blk] <;> omega)) (by first | omega | (simp [qa_upd, qa_blk] <;> omega)) ?_
        refine R_iload cd_102_95 rfl ?_
        refine R_iadd cd_102_96 (by rw [i1]; unfold qa_InR; omega) ?_
        refine R_iast cd_102_97 rfl (by first | omega | (simp [qa_upd, qa_blk] <;> omega)) (by first | omega | (simp [qa_upd, qa_blk] <;> omega))  ?_
        rw [i1]
        refine R_iload cd_102_98 rfl ?_
        refine R_if_ne 109 cd_102_99 rfl (fun b99 => ?_) (fun b99 => ?_)
        · exact absurd hr0 b99
        · refine R_aload cd_102_102 rfl ?_
          refine R_call1 cd_102_103 rfl rfl kd ?_
          refine R_goto cd_102_106 ?_
          refine R_istore cd_102_110 ?_
          refine R_iload cd_102_111 rfl ?_
          refine R_push cd_102_112 ?_
          refine R_icmp_eq 155 cd_102_113 rfl (fun b113 => ?_) (fun b113 => ?_)
          · omega
          · refine R_aload cd_102_116 rfl ?_
            refine R_getr cd_102_117 rfl ?_
            refine R_iload cd_102_120 rfl ?_
            refine R_dup2 cd_102_121 rfl rfl ?_
            refine R_iald cd_102_122 rfl (by first | omega | (simp [qa_upd, qa_blk] <;> omega)) (by first | omega | (simp [qa_upd, qa_blk] <;> omega)) ?_
            refine R_push cd_102_123 ?_
            refine R_isub cd_102_124 (by rw [j1]; unfold qa_InR; omega) ?_
            rw [j1]
            refine R_iast cd_102_125 rfl (by first | omega | (simp [qa_upd, qa_blk] <;> omega)) (by first | omega | (simp [qa_upd, qa_blk] <;> omega))  ?_
            refine R_aload cd_102_126 rfl ?_
            refine R_getr cd_102_127 rfl ?_
            refine R_iload cd_102_130 rfl ?_
            refine R_dup2 cd_102_131 rfl rfl ?_
            refine R_iald cd_102_132 rfl (by first | omega | (simp [qa_upd, qa_blk] <;> omega)) (by first | omega | (simp [qa_upd, qa_blk] <;> omega)) ?_
            refine R_push cd_102_133 ?_
            refine R_iadd cd_102_134 (by rw [j2]; unfold qa_InR; omega) ?_
            rw [j2]
            refine R_iast cd_102_135 rfl (by first | omega | (simp [qa_upd, qa_blk] <;> omega)) (by first | omega | (simp [qa_upd, qa_blk] <;> omega))  ?_
            refine R_aload cd_102_136 rfl ?_
            refine R_getr cd_102_137 rfl ?_
            refine R_push cd_102_140 ?_
            refine R_dup2 cd_102_142 rfl rfl ?_
            refine R_iald cd_102_143 rfl (by first | omega | (simp [qa_upd, qa_blk] <;> omega)) (by first | omega | (simp [qa_upd, qa_blk] <;> omega)) ?_
            refine R_aload cd_102_144 rfl ?_
            refine R_getr cd_102_145 rfl ?_
            refine R_iload cd_102_148 rfl ?_
            refine R_iald cd_102_149 rfl (by first | omega | (simp [qa_upd, qa_blk] <;> omega)) (by first | omega | (simp [qa_upd, qa_blk] <;> omega)) ?_
            refine R_iaddw cd_102_150 ?_
            rw [j3, j4]
            refine R_iast cd_102_151 rfl (by first | omega | (simp [qa_upd, qa_blk] <;> omega)) (by first | omega | (simp [qa_upd, qa_blk] <;> omega))  ?_
            refine R_goto cd_102_152 ?_
            exact R_norm (qs_c rfl (qs_c rfl (qs_c rfl (qs_c rfl qs_n)))) tl
      · have hbm : qm_wb M = -1 := by omega
        have ew : qw_h (M 42 m) r (qm_wb M) = qf_cool (M 42 m) := by unfold qw_h; rw [qx_f (fun z => z hr0), qx_f hb]
        have kc := K_Model_cools (M := qa_upd N 42 m (M 42 m + r)) (m := m) h1 (by omega) (by rw [qa_upd_e]; omega)
        rw [qa_upd_e, qa_upd_2] at kc
        have em : qa_upd (qa_upd N 42 m (qf_cool (M 42 m + r))) 43 m (qb (20 ≤ qf_cool (M 42 m))) = W := by
          rw [hW, qx_f (fun z => hb z.2), ew, hr0, Int.add_zero]
        have tl := tail _ (qm_wb M) (qf_cool (M 42 m)) (by rw [qa_upd_e, hr0, Int.add_zero]) (by omega) em (by rw [qb_f hb, qb_f (fun z => hb z.2)])
        refine R_aload cd_102_88 rfl ?_
        refine R_getr cd_102_89 rfl ?_
        refine R_iload cd_102_92 rfl ?_
        refine R_dup2 cd_102_93 rfl rfl ?_
        refine R_iald cd_102_94 rfl (by first | omega | (simp [qa_upd, qa_blk] <;> omega)) (by first | omega | (simp [qa_upd, qa_blk] <;> omega)) ?_
        refine R_iload cd_102_95 rfl ?_
        refine R_iadd cd_102_96 (by rw [i1]; unfold qa_InR; omega) ?_
        refine R_iast cd_102_97 rfl (by first | omega | (simp [qa_upd, qa_blk] <;> omega)) (by first | omega | (simp [qa_upd, qa_blk] <;> omega))  ?_
        rw [i1]
        refine R_iload cd_102_98 rfl ?_
        refine R_if_ne 109 cd_102_99 rfl (fun b99 => ?_) (fun b99 => ?_)
        · exact absurd hr0 b99
        · refine R_aload cd_102_102 rfl ?_
          refine R_call1 cd_102_103 rfl rfl kd ?_
          refine R_goto cd_102_106 ?_
          refine R_istore cd_102_110 ?_
          refine R_iload cd_102_111 rfl ?_
          refine R_push cd_102_112 ?_
          refine R_icmp_eq 155 cd_102_113 rfl (fun b113 => ?_) (fun b113 => ?_)
          · refine R_iload cd_102_155 rfl ?_
            refine R_if_ne 164 cd_102_156 rfl (fun b156 => ?_) (fun b156 => ?_)
            · first | exact absurd hr0 b156 | exact R_norm (qs_c rfl (qs_c rfl (qs_c rfl (qs_c rfl qs_n)))) tl
            · refine R_aload cd_102_159 rfl ?_
              refine R_iload cd_102_160 rfl ?_
              refine R_callv2 cd_102_161 rfl rfl kc ?_
              first | exact absurd hr0 b156 | exact R_norm (qs_c rfl (qs_c rfl (qs_c rfl (qs_c rfl qs_n)))) tl
          · exact absurd hbm b113
    · have ew : qw_h (M 42 m) r (qm_wb M) = M 42 m + r := by unfold qw_h; rw [qx_t hr0]
      have em : qa_upd (qa_upd N 42 m (M 42 m + r)) 43 m (qb (20 ≤ M 42 m + r)) = W := by
        rw [hW, qx_f (fun z => hr0 z.1), ew]
      have tl := tail _ (-1) (M 42 m + r) (by rw [qa_upd_e]) (by omega) em (by rw [qb_f (by omega), qb_f (fun z => hr0 z.1)])
      refine R_aload cd_102_88 rfl ?_
      refine R_getr cd_102_89 rfl ?_
      refine R_iload cd_102_92 rfl ?_
      refine R_dup2 cd_102_93 rfl rfl ?_
      refine R_iald cd_102_94 rfl (by first | omega | (simp [qa_upd, qa_blk] <;> omega)) (by first | omega | (simp [qa_upd, qa_blk] <;> omega)) ?_
      refine R_iload cd_102_95 rfl ?_
      refine R_iadd cd_102_96 (by rw [i1]; unfold qa_InR; omega) ?_
      refine R_iast cd_102_97 rfl (by first | omega | (simp [qa_upd, qa_blk] <;> omega)) (by first | omega | (simp [qa_upd, qa_blk] <;> omega))  ?_
      rw [i1]
      refine R_iload cd_102_98 rfl ?_
      refine R_if_ne 109 cd_102_99 rfl (fun b99 => ?_) (fun b99 => ?_)
      · refine R_push cd_102_109 ?_
        refine R_istore cd_102_110 ?_
        refine R_iload cd_102_111 rfl ?_
        refine R_push cd_102_112 ?_
        refine R_icmp_eq 155 cd_102_113 rfl (fun _ => ?_) (fun h => absurd h (by decide))
        refine R_iload cd_102_155 rfl ?_
        refine R_if_ne 164 cd_102_156 rfl (fun b156 => ?_) (fun b156 => ?_)
        · exact R_norm (qs_c rfl (qs_c rfl (qs_c rfl (qs_c rfl qs_n)))) tl
        · exact absurd b156 hr0
      · exact absurd b99 hr0
  have fin : ∀ (j : Nat) (L : qa_L), j ≤ 120 → (j = 120 ∨ sp ≤ qr_c nd sp j) → qa_E 102 88 [(0, qr 6), (1, qi m), (2, qi (qr_c nd sp j)), (3, qi j)] [] (qm_rm M nd sp j) (.inl (some (qi (1000 * r + qb (r = 0 ∧ 0 ≤ qm_wb M))))) W := by
    intro j L g1 g2
    have ec : qr_c nd sp j = r := by
      rw [hr]
      rcases g2 with g2 | g2
      · rw [g2]
      · have := qr_stop nd sp j (120 - j) g2
        rw [show j + (120 - j) = 120 by omega] at this
        exact this.symm
    have em : qm_rm M nd sp j = N := by
      rw [hN]
      rcases g2 with g2 | g2
      · rw [g2]; rfl
      · have hp : ∀ f : Int, (j : Int) ≤ f → ¬ qr_p nd sp f := by
          intro f hf hq
          have := qr_stop nd sp j (f.toNat - j) g2
          rw [show j + (f.toNat - j) = f.toNat by omega] at this
          have := hq.1
          omega
        exact qm_rm_c (fun f f0 fp => ⟨fun _ => by
          by_cases hh : f < 120
          · exact hh
          · exact absurd fp (hp f (by omega)), fun _ => by
          by_cases hh : f < j
          · exact hh
          · exact absurd fp (hp f (by omega))⟩)
    rw [ec, em]
    exact R_norm (qs_c rfl (qs_c rfl (qs_c rfl qs_n))) seg
  have lp : ∀ (k : Nat) (j : Nat), j + k = 120 → qa_E 102 42 [(0, qr 6), (1, qi m), (2, qi (qr_c nd sp j)), (3, qi j)] [] (qm_rm M nd sp j) (.inl (some (qi (1000 * r + qb (r = 0 ∧ 0 ≤ qm_wb M))))) W := by
    intro k
    induction k with
    | zero =>
      intro j g1
      refine R_iload cd_102_42 rfl ?_
      refine R_push cd_102_43 ?_
      refine R_icmp_ge 88 cd_102_45 rfl (fun b45 => ?_) (fun b45 => ?_)
      · exact R_norm (qs_c rfl (qs_c rfl (qs_c rfl (qs_c rfl qs_n)))) (fin j [] (by omega) (Or.inl (by omega)))
      · omega
    | succ k ih =>
      intro j g1
      have rj := qr_c_r nd sp (by omega) j
      have e := ih (j + 1) (by omega)
      have es : (qm_rm M nd sp j) 41 m = sp := by rw [hsp]; rfl
      have hneed : nd j ↔ (qm_nd M j ∧ ¬ qm_st M j) := by rw [hnd]; exact Iff.rfl
      have hst := qm_rm_st (M := M) (nd := nd) (sp := sp) (j := (j : Int)) (by omega) v6.1.2
      have hpj : qr_p nd sp (j : Int) ↔ (qr_c nd sp j < sp ∧ nd j) := by unfold qr_p; rw [Int.toNat_natCast]
      have wj : qm_wf (qm_rm M nd sp j) := ⟨v6.1, v6.2⟩
      refine R_iload cd_102_42 rfl ?_
      refine R_push cd_102_43 ?_
      refine R_icmp_ge 88 cd_102_45 rfl (fun b45 => ?_) (fun b45 => ?_)
      · first | omega | exact R_norm (qs_c rfl (qs_c rfl (qs_c rfl (qs_c rfl qs_n)))) (fin j [] (by omega) (Or.inr (by omega)))
      · refine R_iload cd_102_48 rfl ?_
        refine R_aload cd_102_49 rfl ?_
        refine R_getr cd_102_50 rfl ?_
        refine R_iload cd_102_53 rfl ?_
        refine R_iald cd_102_54 rfl (by first | omega | (simp [qa_upd, qa_blk] <;> omega)) (by first | omega | (simp [qa_upd, qa_blk] <;> omega)) ?_
        refine R_icmp_ge 88 cd_102_55 rfl (fun b55 => ?_) (fun b55 => ?_)
        · first | omega | exact R_norm (qs_c rfl (qs_c rfl (qs_c rfl (qs_c rfl qs_n)))) (fin j [] (by omega) (Or.inr (by omega)))
        · refine R_aload cd_102_58 rfl ?_
          refine R_iload cd_102_59 rfl ?_
          refine R_call2 cd_102_60 rfl rfl (K_Model_isNeeded (M := qm_rm M nd sp j) v7 v8) ?_
          refine R_ifeq_b 82 cd_102_63 rfl (fun b63 => ?_) (fun b63 => ?_)
          · refine R_iinc cd_102_82 rfl (by unfold qa_InR; first | omega | (simp [qa_upd, qa_blk] <;> omega)) ?_
            refine R_goto cd_102_85 ?_
            first
              | have hn : qr_c nd sp j < sp ∧ nd j := ⟨by omega, hneed.mpr ⟨b63, fun z => b71 (hst.mpr z)⟩⟩
                rw [show qr_c nd sp (j + 1) = qr_c nd sp j + 1 by rw [qr_c, qb_t hn], qm_rm_go (hpj.mpr hn), Int.natCast_add] at e
                exact R_norm (qs_c rfl (qs_c rfl (qs_c rfl (qs_c rfl qs_n)))) e
              | have hn : ¬ (qr_c nd sp j < sp ∧ nd j) := fun z => (hneed.mp z.2).2 (hst.mp b71)
                rw [show qr_c nd sp (j + 1) = qr_c nd sp j by rw [qr_c, qb_f hn, Int.add_zero], qm_rm_stay (fun z => hn (hpj.mp z)), Int.natCast_add] at e
                exact R_norm (qs_c rfl (qs_c rfl (qs_c rfl (qs_c rfl qs_n)))) e
              | have hn : ¬ (qr_c nd sp j < sp ∧ nd j) := fun z => b63 (hneed.mp z.2).1
                rw [show qr_c nd sp (j + 1) = qr_c nd sp j by rw [qr_c, qb_f hn, Int.add_zero], qm_rm_stay (fun z => hn (hpj.mp z)), Int.natCast_add] at e
                exact R_norm (qs_c rfl (qs_c rfl (qs_c rfl (qs_c rfl qs_n)))) e
          · refine R_aload cd_102_66 rfl ?_
            refine R_iload cd_102_67 rfl ?_
            refine R_call2 cd_102_68 rfl rfl (K_Model_stands wj (by omega) (by omega)) ?_
            refine R_ifne_b 82 cd_102_71 rfl (fun b71 => ?_) (fun b71 => ?_)
            · refine R_iinc cd_102_82 rfl (by unfold qa_InR; first | omega | (simp [qa_upd, qa_blk] <;> omega)) ?_
              refine R_goto cd_102_85 ?_
              first
                | have hn : qr_c nd sp j < sp ∧ nd j := ⟨by omega, hneed.mpr ⟨b63, fun z => b71 (hst.mpr z)⟩⟩
                  rw [show qr_c nd sp (j + 1) = qr_c nd sp j + 1 by rw [qr_c, qb_t hn], qm_rm_go (hpj.mpr hn), Int.natCast_add] at e
                  exact R_norm (qs_c rfl (qs_c rfl (qs_c rfl (qs_c rfl qs_n)))) e
                | have hn : ¬ (qr_c nd sp j < sp ∧ nd j) := fun z => (hneed.mp z.2).2 (hst.mp b71)
                  rw [show qr_c nd sp (j + 1) = qr_c nd sp j by rw [qr_c, qb_f hn, Int.add_zero], qm_rm_stay (fun z => hn (hpj.mp z)), Int.natCast_add] at e
                  exact R_norm (qs_c rfl (qs_c rfl (qs_c rfl (qs_c rfl qs_n)))) e
                | have hn : ¬ (qr_c nd sp j < sp ∧ nd j) := fun z => b63 (hneed.mp z.2).1
                  rw [show qr_c nd sp (j + 1) = qr_c nd sp j by rw [qr_c, qb_f hn, Int.add_zero], qm_rm_stay (fun z => hn (hpj.mp z)), Int.natCast_add] at e
                  exact R_norm (qs_c rfl (qs_c rfl (qs_c rfl (qs_c rfl qs_n)))) e
            · refine R_aload cd_102_74 rfl ?_
              refine R_iload cd_102_75 rfl ?_
              refine R_callv2 cd_102_76 rfl rfl (K_Model_renders wj (by omega) (by omega)) ?_
              refine R_iinc cd_102_79 rfl (by unfold qa_InR; first | omega | (simp [qa_upd, qa_blk] <;> omega)) ?_
              refine R_iinc cd_102_82 rfl (by unfold qa_InR; first | omega | (simp [qa_upd, qa_blk] <;> omega)) ?_
              refine R_goto cd_102_85 ?_
              first
                | have hn : qr_c nd sp j < sp ∧ nd j := ⟨by omega, hneed.mpr ⟨b63, fun z => b71 (hst.mpr z)⟩⟩
                  rw [show qr_c nd sp (j + 1) = qr_c nd sp j + 1 by rw [qr_c, qb_t hn], qm_rm_go (hpj.mpr hn), Int.natCast_add] at e
                  exact R_norm (qs_c rfl (qs_c rfl (qs_c rfl (qs_c rfl qs_n)))) e
                | have hn : ¬ (qr_c nd sp j < sp ∧ nd j) := fun z => (hneed.mp z.2).2 (hst.mp b71)
                  rw [show qr_c nd sp (j + 1) = qr_c nd sp j by rw [qr_c, qb_f hn, Int.add_zero], qm_rm_stay (fun z => hn (hpj.mp z)), Int.natCast_add] at e
                  exact R_norm (qs_c rfl (qs_c rfl (qs_c rfl (qs_c rfl qs_n)))) e
                | have hn : ¬ (qr_c nd sp j < sp ∧ nd j) := fun z => b63 (hneed.mp z.2).1
                  rw [show qr_c nd sp (j + 1) = qr_c nd sp j by rw [qr_c, qb_f hn, Int.add_zero], qm_rm_stay (fun z => hn (hpj.mp z)), Int.natCast_add] at e
                  exact R_norm (qs_c rfl (qs_c rfl (qs_c rfl (qs_c rfl qs_n)))) e
  have e := lp 120 0 (by omega)
  rw [show qm_rm M nd sp ((0 : Nat) : Int) = M from qm_rm_0] at e
  refine R_aload cd_102_0 rfl ?_
  refine R_getr cd_102_1 rfl ?_
  refine R_iload cd_102_4 rfl ?_
  refine R_zald cd_102_5 rfl (by first | omega | (simp [qa_upd, qa_blk] <;> omega)) (by first | omega | (simp [qa_upd, qa_blk] <;> omega)) ?_
  refine R_if_eq 38 cd_102_6 rfl (fun b6 => ?_) (fun b6 => ?_)
  · refine R_push cd_102_38 ?_
    refine R_istore cd_102_39 ?_
    refine R_push cd_102_40 ?_
    refine R_istore cd_102_41 ?_
    exact R_norm (qs_c rfl (qs_c rfl (qs_c rfl (qs_c rfl qs_n)))) e
  · exact absurd h3 b6
