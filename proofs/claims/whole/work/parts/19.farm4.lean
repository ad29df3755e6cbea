theorem qc_wM_m {M : qa_Mem} {m : Int} : (qc_wM M m) 5 3 = M 5 3 := by
  unfold qc_wM
  rw [qa_upd_n (by decide), qa_upd_n (by decide)]
  by_cases hc : qc_wr M m = 0 ∧ 0 ≤ qc_wb M
  · rw [qx_t hc, qa_upd_i (by decide), qa_upd_n (by decide)]; rfl
  · rw [qx_f hc]; rfl
theorem qc_h_v {q : Int × qa_Mem} {m : Int} (hv : qc_fv q.2) (h1 : 0 ≤ m) (h2 : m < q.2 5 3) : qc_fv (qc_h m q).2 ∧ (qc_h m q).2 5 3 = q.2 5 3 := by
  unfold qc_h
  by_cases hr : q.2 26 m ≠ 0
  · rw [qx_t hr]
    exact ⟨qc_rM_v hv h1 h2, rfl⟩
  · rw [qx_f hr]
    exact ⟨qc_wM_v hv h1 h2 (Classical.byContradiction hr), qc_wM_m⟩
theorem qc_ms_v {q : Int × qa_Mem} (hv : qc_fv q.2) (k : Nat) (hk : (k : Int) ≤ q.2 5 3) : qc_fv (qc_ms q k).2 ∧ (qc_ms q k).2 5 3 = q.2 5 3 := by
  induction k with
  | zero => exact ⟨hv, rfl⟩
  | succ k ih =>
    obtain ⟨i1, i2⟩ := ih (by omega)
    have := qc_h_v (m := k) i1 (by omega) (by omega)
    exact ⟨this.1, this.2.trans i2⟩
theorem qc_hs_v {q : Int × qa_Mem} (hv : qc_fv q.2) (k : Nat) (hk : (k : Int) ≤ q.2 5 3) (n : Nat) : qc_fv (qc_hs q k n).2 ∧ (qc_hs q k n).2 5 3 = q.2 5 3 := by
  induction n with
  | zero => exact ⟨hv, rfl⟩
  | succ n ih =>
    have := qc_ms_v ih.1 k (by rw [ih.2]; exact hk)
    exact ⟨this.1, this.2.trans ih.2⟩
theorem K_Farm_passHours {h : Int} {M : qa_Mem} (hv : qc_fv M) (h1 : 0 ≤ h) (h2 : h ≤ 24) : qa_E 31 0 [(0, qr 5), (1, qi (h)), (2, qr (4)), (3, qr (3)), (4, qr (1))] [] (M) (.inl (some (qi ((qc_hs (0, M) (M 5 3).toNat h.toNat).1)))) ((qc_hs (0, M) (M 5 3).toNat h.toNat).2) := by
  obtain ⟨nM, hnM⟩ : ∃ x, x = M 5 3 := ⟨_, rfl⟩
  have hm := hv.1.1
  rw [← hnM] at hm ⊢
  obtain ⟨R, hR⟩ : ∃ x, x = qc_hs (0, M) nM.toNat h.toNat := ⟨_, rfl⟩
  rw [← hR]
  have outer : ∀ (k : Nat) (j : Nat), j + k = h.toNat → qa_E 31 6 [(0, qr 5), (1, qi h), (2, qr 4), (3, qr 3), (4, qr 1), (5, qi (qc_hs (0, M) nM.toNat j).1), (6, qi j)] [] (qc_hs (0, M) nM.toNat j).2 (.inl (some (qi R.1))) R.2 := by
    intro k
    induction k with
    | zero =>
      intro j g1
      obtain rfl : j = h.toNat := by omega
      rw [← hR]
      refine R_iload cd_31_6 rfl ?_
      refine R_iload cd_31_8 rfl ?_
      refine R_icmp_ge 70 cd_31_9 rfl (fun b9 => ?_) (fun b9 => ?_)
      · refine R_iload cd_31_70 rfl ?_
        exact R_iret cd_31_72 (by first | rfl | omega) rfl
      · omega
    | succ k ih =>
      intro j g1
      have e := ih (j + 1) (by omega)
      rw [show qc_hs (0, M) nM.toNat (j + 1) = qc_ms (qc_hs (0, M) nM.toNat j) nM.toNat from rfl, Int.natCast_add] at e
      obtain ⟨v1, v2⟩ := qc_hs_v (q := (0, M)) hv nM.toNat (by show ((nM.toNat : Nat) : Int) ≤ M 5 3; omega) j
      obtain ⟨q, hq⟩ : ∃ x, x = qc_hs (0, M) nM.toNat j := ⟨_, rfl⟩
      rw [← hq] at e v1 v2 ⊢
      have v2 : q.2 5 3 = nM := v2.trans hnM.symm
      have inner : ∀ (k : Nat) (i : Nat), i + k = nM.toNat → qa_E 31 15 [(0, qr 5), (1, qi h), (2, qr 4), (3, qr 3), (4, qr 1), (5, qi (qc_ms q i).1), (6, qi j), (7, qi i)] [] (qc_ms q i).2 (.inl (some (qi R.1))) R.2 := by
        intro k
        induction k with
        | zero =>
          intro i f1
          obtain rfl : i = nM.toNat := by omega
          obtain ⟨w1, w2⟩ := qc_ms_v v1 nM.toNat (by omega)
          refine R_iload cd_31_15 rfl ?_
          refine R_aload cd_31_17 rfl ?_
          refine R_getf cd_31_18 rfl (by decide) ?_
          refine R_icmp_ge 64 cd_31_21 rfl (fun b21 => ?_) (fun b21 => ?_)
          · refine R_iinc cd_31_64 rfl (by unfold qa_InR; first | omega | (simp [qa_upd, qa_blk] <;> omega)) ?_
            refine R_goto cd_31_67 ?_
            exact R_norm (qs_c rfl (qs_c rfl (qs_c rfl (qs_c rfl (qs_c rfl (qs_c rfl (qs_c rfl qs_n))))))) e
          · omega
        | succ k ih3 =>
          intro i f1
          have e3 := ih3 (i + 1) (by omega)
          obtain ⟨w1, w2⟩ := qc_ms_v v1 i (by omega)
          have w0 := w1.1.2.2.1 i (by omega) (by omega)
          rw [show qc_ms q (i + 1) = qc_h i (qc_ms q i) from rfl, Int.natCast_add] at e3
          obtain ⟨p, hp⟩ : ∃ x, x = qc_ms q i := ⟨_, rfl⟩
          rw [← hp] at e3 w1 w2 w0 ⊢
          unfold qc_h at e3
          refine R_iload cd_31_15 rfl ?_
          refine R_aload cd_31_17 rfl ?_
          refine R_getf cd_31_18 rfl (by decide) ?_
          refine R_icmp_ge 64 cd_31_21 rfl (fun b21 => ?_) (fun b21 => ?_)
          · omega
          · refine R_iload cd_31_24 rfl ?_
            refine R_aload cd_31_26 rfl ?_
            refine R_getr cd_31_27 rfl ?_
            refine R_iload cd_31_30 rfl ?_
            refine R_zald cd_31_32 rfl (by omega) (by omega) ?_
            refine R_if_eq 45 cd_31_33 rfl (fun b33 => ?_) (fun b33 => ?_)
            · rw [qx_f (fun z => z b33)] at e3
              refine R_aload cd_31_45 rfl ?_
              refine R_iload cd_31_46 rfl ?_
              refine R_aload cd_31_48 rfl ?_
              refine R_aload cd_31_49 rfl ?_
              refine R_aload cd_31_50 rfl ?_
              refine R_call5 cd_31_52 rfl rfl (K_Farm_work w1 (by omega) (by omega) b33) ?_
              refine R_iaddw cd_31_55 ?_
              refine R_istore cd_31_56 ?_
              refine R_iinc cd_31_58 rfl (by unfold qa_InR; first | omega | (simp [qa_upd, qa_blk] <;> omega)) ?_
              refine R_goto cd_31_61 ?_
              exact R_norm (qs_c rfl (qs_c rfl (qs_c rfl (qs_c rfl (qs_c rfl (qs_c rfl (qs_c rfl (qs_c rfl qs_n)))))))) e3
            · rw [qx_t b33] at e3
              refine R_aload cd_31_36 rfl ?_
              refine R_iload cd_31_37 rfl ?_
              refine R_call2 cd_31_39 rfl rfl (K_Farm_rest (by omega) (by omega) (by omega)) ?_
              refine R_goto cd_31_42 ?_
              refine R_iaddw cd_31_55 ?_
              refine R_istore cd_31_56 ?_
              refine R_iinc cd_31_58 rfl (by unfold qa_InR; first | omega | (simp [qa_upd, qa_blk] <;> omega)) ?_
              refine R_goto cd_31_61 ?_
              exact R_norm (qs_c rfl (qs_c rfl (qs_c rfl (qs_c rfl (qs_c rfl (qs_c rfl (qs_c rfl (qs_c rfl qs_n)))))))) e3
      refine R_iload cd_31_6 rfl ?_
      refine R_iload cd_31_8 rfl ?_
      refine R_icmp_ge 70 cd_31_9 rfl (fun b9 => ?_) (fun b9 => ?_)
      · omega
      · refine R_push cd_31_12 ?_
        refine R_istore cd_31_13 ?_
        exact R_norm (qs_c rfl (qs_c rfl (qs_c rfl (qs_c rfl (qs_c rfl (qs_c rfl (qs_c rfl (qs_c rfl qs_n)))))))) (inner nM.toNat 0 (Nat.zero_add _))
  refine R_push cd_31_0 ?_
  refine R_istore cd_31_1 ?_
  refine R_push cd_31_3 ?_
  refine R_istore cd_31_4 ?_
  exact R_norm (qs_c rfl (qs_c rfl (qs_c rfl (qs_c rfl (qs_c rfl (qs_c rfl (qs_c rfl qs_n))))))) (outer h.toNat 0 (Nat.zero_add _))
