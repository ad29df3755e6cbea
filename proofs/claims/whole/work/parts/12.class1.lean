/-! the rig's values -/
theorem K_Math_floorDiv {x y : Int} {M : qa_Mem} (h1 : 0 < y) (h2 : y ≤ 1000000) (h3 : -1000000 ≤ x) (h4 : x ≤ 1000000) : qa_E 0 0 [(0, qi (x)), (1, qi (y))] [] (M) (.inl (some (qi (x / y)))) (M) := by
  obtain ⟨e1, e2, e3, e4, e5, e6, e7, e8⟩ := qf_tdiv (x := x) h1
  have ex := qa_xor_neg (x := x) (y := y) (by unfold qa_InR; omega) (by omega) (by unfold qa_InR; omega)
  have eb : -2000000 ≤ x.tdiv y ∧ x.tdiv y ≤ 2000000 := by
    have hq : x / y ≤ x.natAbs ∧ -(x.natAbs : Int) - 1 ≤ x / y := by
      have a1 := Int.ediv_mul_le x (b := y) (by omega)
      have a2 := Int.lt_ediv_add_one_mul_self x h1
      constructor
      · by_cases hx : 0 ≤ x
        · have := Int.ediv_le_self y hx; omega
        · have := Int.ediv_neg_of_neg_of_pos (a := x) (b := y) (by omega) h1; omega
      · by_cases hx : 0 ≤ x
        · have := Int.ediv_nonneg hx (Int.le_of_lt h1); omega
        · have h5 : x ≤ x / y := by
            have : x * y ≤ x := by
              have h6 : x * y ≤ x * 1 := Int.mul_le_mul_of_nonpos_left (by omega) (by omega)
              omega
            exact (Int.le_ediv_iff_mul_le h1).mpr this
          omega
    by_cases hx : 0 ≤ x
    · have := e2 hx; omega
    · by_cases h0 : x.tmod y = 0
      · have := e3 (by omega) h0; omega
      · have := e4 (by omega) h0; omega
  refine R_iload cd_0_0 rfl ?_
  refine R_iload cd_0_1 rfl ?_
  refine R_idiv cd_0_2 (by omega) ?_
  refine R_istore cd_0_3 ?_
  refine R_iload cd_0_4 rfl ?_
  refine R_iload cd_0_5 rfl ?_
  refine R_ixor cd_0_6 ?_
  refine R_if_ge 21 cd_0_7 rfl (fun b7 => ?_) (fun b7 => ?_)
  · refine R_iload cd_0_21 rfl ?_
    refine R_iret cd_0_22 ?_ rfl
    first | exact e2 (by omega) | exact e3 (by omega) (by rw [e1] at b14; omega)
  · refine R_iload cd_0_10 rfl ?_
    refine R_iload cd_0_11 rfl ?_
    refine R_imul cd_0_12 (by rw [e1]; unfold qa_InR; omega) ?_
    refine R_iload cd_0_13 rfl ?_
    refine R_icmp_eq 21 cd_0_14 rfl (fun b14 => ?_) (fun b14 => ?_)
    · refine R_iload cd_0_21 rfl ?_
      refine R_iret cd_0_22 ?_ rfl
      first | exact e2 (by omega) | exact e3 (by omega) (by rw [e1] at b14; omega)
    · refine R_iload cd_0_17 rfl ?_
      refine R_push cd_0_18 ?_
      refine R_isub cd_0_19 (by unfold qa_InR; first | omega | (simp [qa_upd, qa_blk] <;> omega)) ?_
      exact R_iret cd_0_20 (e4 (by omega) (by rw [e1] at b14; omega)) rfl
theorem K_Rig_blend {p q f : Int} {M : qa_Mem} (h1 : 0 ≤ p) (h2 : p < 80) (h3 : 0 ≤ q) (h4 : q < 80) (h5 : 0 ≤ M 14 p) (h6 : 0 ≤ M 14 q) (h7 : M 14 p % 1000 < M 14 q % 1000) (h8 : -200 ≤ M 15 p ∧ M 15 p ≤ 200) (h9 : -200 ≤ M 15 q ∧ M 15 q ≤ 200) (h10 : 0 ≤ f) (h11 : f < 120) : qa_E 56 0 [(0, qr 1), (1, qi (p)), (2, qi (q)), (3, qi (f))] [] (M) (.inl (some (qi ((M 15 q - M 15 p) * (f - M 14 p % 1000) / (M 14 q % 1000 - M 14 p % 1000))))) (M) := by
  have hm := qf_mulb (d := M 15 q - M 15 p) (e := f - M 14 p % 1000) (A := 400) (B := 1000) (by omega) (by omega) (by omega) (by omega)
  refine R_aload cd_56_0 rfl ?_
  refine R_getr cd_56_1 rfl ?_
  refine R_iload cd_56_4 rfl ?_
  refine R_call2 cd_56_5 rfl rfl (K_Keys_frameAt (by omega) (by omega) (by omega)) ?_
  refine R_aload cd_56_8 rfl ?_
  refine R_getr cd_56_9 rfl ?_
  refine R_iload cd_56_12 rfl ?_
  refine R_call2 cd_56_13 rfl rfl (K_Keys_frameAt (by omega) (by omega) (by omega)) ?_
  refine R_isub cd_56_16 (by unfold qa_InR; first | omega | (simp [qa_upd, qa_blk] <;> omega)) ?_
  refine R_istore cd_56_17 ?_
  refine R_iload cd_56_19 rfl ?_
  refine R_if_gt 26 cd_56_21 rfl (fun b21 => ?_) (fun b21 => ?_)
  · refine R_aload cd_56_26 rfl ?_
    refine R_getr cd_56_27 rfl ?_
    refine R_iload cd_56_30 rfl ?_
    refine R_call2 cd_56_31 rfl rfl (K_Keys_valueAt (by omega) (by omega)) ?_
    refine R_aload cd_56_34 rfl ?_
    refine R_getr cd_56_35 rfl ?_
    refine R_iload cd_56_38 rfl ?_
    refine R_call2 cd_56_39 rfl rfl (K_Keys_valueAt (by omega) (by omega)) ?_
    refine R_isub cd_56_42 (by unfold qa_InR; first | omega | (simp [qa_upd, qa_blk] <;> omega)) ?_
    refine R_istore cd_56_43 ?_
    refine R_iload cd_56_45 rfl ?_
    refine R_iload cd_56_47 rfl ?_
    refine R_aload cd_56_48 rfl ?_
    refine R_getr cd_56_49 rfl ?_
    refine R_iload cd_56_52 rfl ?_
    refine R_call2 cd_56_53 rfl rfl (K_Keys_frameAt (by omega) (by omega) (by omega)) ?_
    refine R_isub cd_56_56 (by unfold qa_InR; first | omega | (simp [qa_upd, qa_blk] <;> omega)) ?_
    refine R_imul cd_56_57 (by unfold qa_InR; first | omega | (simp [qa_upd, qa_blk] <;> omega)) ?_
    refine R_iload cd_56_58 rfl ?_
    refine R_call2 cd_56_60 rfl rfl (K_Math_floorDiv (by omega) (by omega) (by omega) (by omega)) ?_
    exact R_iret cd_56_63 (by first | rfl | omega) rfl
  · omega
theorem K_Rig_poseCell {cell f st nx en : Int} {M : qa_Mem} (h1 : 0 ≤ cell ∧ cell < 2880) (h2 : 0 ≤ f ∧ f < 120) (h3 : 0 ≤ st) (h4 : st ≤ nx ∧ nx ≤ en) (h5 : en ≤ M 2 4) (hw : qk_wf (M 14) (M 15) (M 16) (M 17) (M 2 4)) (h6 : nx < en → st < nx → M 14 (nx - 1) % 1000 < M 14 nx % 1000) (h7 : nx = st → st < en → f < M 14 st % 1000) : qa_E 55 0 [(0, qr 1), (1, qi (cell)), (2, qi (f)), (3, qi (st)), (4, qi (nx)), (5, qi (en))] [] (M) (.inl none) (qa_upd (qa_upd M 12 cell (qp_v (M 14) (M 15) (M 17) st nx en f)) 13 cell (qp_b (M 14) (M 16) (M 17) st nx en f)) := by
  obtain ⟨w1, w2, w3, w4, w5, w6, w7⟩ := hw
  by_cases hse : st = en
  · have ev : qp_v (M 14) (M 15) (M 17) st nx en f = 0 := by unfold qp_v; rw [if_pos hse]
    have eb : qp_b (M 14) (M 16) (M 17) st nx en f = 0 := by unfold qp_b; rw [if_pos hse]
    rw [ev, eb]
    refine R_iload cd_55_0 rfl ?_
    refine R_iload cd_55_1 rfl ?_
    refine R_icmp_ne 21 cd_55_3 rfl (fun b3 => ?_) (fun b3 => ?_)
    · exact absurd hse b3
    · refine R_aload cd_55_6 rfl ?_
      refine R_getr cd_55_7 rfl ?_
      refine R_iload cd_55_10 rfl ?_
      refine R_push cd_55_11 ?_
      refine R_iast cd_55_12 rfl (by omega) (by omega)  ?_
      refine R_aload cd_55_13 rfl ?_
      refine R_getr cd_55_14 rfl ?_
      refine R_iload cd_55_17 rfl ?_
      refine R_push cd_55_18 ?_
      refine R_iast cd_55_19 rfl (by omega) (by omega)  ?_
      exact R_vret cd_55_20 rfl
  · obtain ⟨la, hla⟩ : ∃ la, la = qf_last nx st := ⟨_, rfl⟩
    have hlr : st ≤ la ∧ la < en ∧ la ≤ nx := by rw [hla]; unfold qf_last; split <;> omega
    have main : qa_E 55 35 [(0, qr 1), (1, qi cell), (2, qi f), (3, qi st), (4, qi nx), (5, qi en)] [qi la] M (.inl none) (qa_upd (qa_upd M 12 cell (qp_v (M 14) (M 15) (M 17) st nx en f)) 13 cell (qp_b (M 14) (M 16) (M 17) st nx en f)) := by
      have c4 := w4 la (by omega) (by omega)
      have c5 := w5 la (by omega) (by omega)
      have c7 := w7 la (by omega) (by omega)
      have fin : ∀ (P : Prop), (P ↔ (nx < en ∧ M 14 la % 1000 < f)) → qa_E 55 92 [(0, qr 1), (1, qi cell), (2, qi f), (3, qi st), (4, qi nx), (5, qi en), (6, qi la)] [qi (qb P)] (qa_upd (qa_upd M 12 cell (M 15 la)) 13 cell (qa_shl 1 (M 16 la))) (.inl none) (qa_upd (qa_upd M 12 cell (qp_v (M 14) (M 15) (M 17) st nx en f)) 13 cell (qp_b (M 14) (M 16) (M 17) st nx en f)) := by
        intro P hP
        by_cases hso : (nx < en ∧ M 14 la % 1000 < f) ∧ M 17 la ≠ 0
        · have ev : qp_v (M 14) (M 15) (M 17) st nx en f = M 15 la + (M 15 nx - M 15 la) * (f - M 14 la % 1000) / (M 14 nx % 1000 - M 14 la % 1000) := by
            unfold qp_v; rw [if_neg hse, ← hla, if_pos hso]
          have eb : qp_b (M 14) (M 16) (M 17) st nx en f = qa_or (qa_shl 1 (M 16 la)) (qa_shl 1 (M 16 nx)) := by
            unfold qp_b; rw [if_neg hse, ← hla, if_pos hso]
          have d4 := w4 nx (by omega) (by omega)
          have d5 := w5 nx (by omega) (by omega)
          have hlt : st < nx := by
            by_cases hq : st < nx
            · exact hq
            · have := h7 (by omega) (by omega)
              have : la = st := by rw [hla]; unfold qf_last; rw [if_neg hq]
              subst this
              omega
          have hln : la = nx - 1 := by rw [hla]; unfold qf_last; rw [if_pos hlt]
          have hgap : M 14 la % 1000 < M 14 nx % 1000 := by rw [hln]; exact h6 hso.1.1 hlt
          have hbl : -200 ≤ (M 15 nx - M 15 la) * (f - M 14 la % 1000) / (M 14 nx % 1000 - M 14 la % 1000) + 100000 * 1000 ∧ (M 15 nx - M 15 la) * (f - M 14 la % 1000) / (M 14 nx % 1000 - M 14 la % 1000) ≤ 100000000 := by
            have hm := qf_mulb (d := M 15 nx - M 15 la) (e := f - M 14 la % 1000) (A := 400) (B := 1000) (by omega) (by omega) (by omega) (by omega)
            generalize (M 15 nx - M 15 la) * (f - M 14 la % 1000) = X at hm ⊢
            have hg : 0 < M 14 nx % 1000 - M 14 la % 1000 := by omega
            generalize M 14 nx % 1000 - M 14 la % 1000 = G at hg ⊢
            constructor
            · have : -400000 ≤ X / G := by
                rw [Int.le_ediv_iff_mul_le hg]
                have h6 : -400000 * G ≤ -400000 * 1 := Int.mul_le_mul_of_nonpos_left (by omega) (by omega)
                omega
              omega
            · by_cases hx : 0 ≤ X
              · have := Int.ediv_le_self G hx; omega
              · have := Int.ediv_neg_of_neg_of_pos (a := X) (by omega) hg; omega
          refine R_istore cd_55_92 ?_
          refine R_iload cd_55_94 rfl ?_
          refine R_ifeq_b 147 cd_55_96 rfl (fun b96 => ?_) (fun b96 => ?_)
          · first
              | exact absurd (hP.mpr hso.1) b96
              | exact absurd hso.2 b108
              | refine R_vret cd_55_147 ?_
                rw [ev, eb]
                funext c9 j9
                by_cases g1 : c9 = 12 ∧ j9 = cell
                · obtain ⟨rfl, rfl⟩ := g1; simp [qa_upd]
                · by_cases g2 : c9 = 13 ∧ j9 = cell
                  · obtain ⟨rfl, rfl⟩ := g2; simp [qa_upd]
                  · simp [qa_upd, g1, g2]
          · refine R_aload cd_55_99 rfl ?_
            refine R_getr cd_55_100 rfl ?_
            refine R_iload cd_55_103 rfl ?_
            refine R_call2 cd_55_105 rfl rfl (K_Keys_isSoft (by omega) (by omega) c7) ?_
            refine R_ifeq_b 147 cd_55_108 rfl (fun b108 => ?_) (fun b108 => ?_)
            · first
                | exact absurd (hP.mpr hso.1) b96
                | exact absurd hso.2 b108
                | refine R_vret cd_55_147 ?_
                  rw [ev, eb]
                  funext c9 j9
                  by_cases g1 : c9 = 12 ∧ j9 = cell
                  · obtain ⟨rfl, rfl⟩ := g1; simp [qa_upd]
                  · by_cases g2 : c9 = 13 ∧ j9 = cell
                    · obtain ⟨rfl, rfl⟩ := g2; simp [qa_upd]
                    · simp [qa_upd, g1, g2]
            · refine R_aload cd_55_111 rfl ?_
              refine R_getr cd_55_112 rfl ?_
              refine R_iload cd_55_115 rfl ?_
              refine R_dup2 cd_55_116 rfl rfl ?_
              refine R_iald cd_55_117 rfl (by omega) (by omega) ?_
              refine R_aload cd_55_118 rfl ?_
              refine R_iload cd_55_119 rfl ?_
              refine R_iload cd_55_121 rfl ?_
              refine R_iload cd_55_123 rfl ?_
              refine R_call4 cd_55_124 rfl rfl (K_Rig_blend (by omega) (by omega) (by omega) (by omega) c4.1 d4.1 hgap c5 d5 (by omega) (by omega)) ?_
              refine R_iadd cd_55_127 (by rw [qa_upd_n (by decide), qa_upd_e]; show qa_InR (M 15 la + (M 15 nx - M 15 la) * (f - M 14 la % 1000) / (M 14 nx % 1000 - M 14 la % 1000)); unfold qa_InR; omega) ?_
              refine R_iast cd_55_128 rfl (by omega) (by omega)  ?_
              refine R_aload cd_55_129 rfl ?_
              refine R_getr cd_55_130 rfl ?_
              refine R_iload cd_55_133 rfl ?_
              refine R_dup2 cd_55_134 rfl rfl ?_
              refine R_iald cd_55_135 rfl (by omega) (by omega) ?_
              refine R_aload cd_55_136 rfl ?_
              refine R_getr cd_55_137 rfl ?_
              refine R_iload cd_55_140 rfl ?_
              refine R_call2 cd_55_142 rfl rfl (K_Keys_setterBit (by omega) (by omega)) ?_
              refine R_ior cd_55_145 ?_
              refine R_iast cd_55_146 rfl (by omega) (by omega)  ?_
              first
                | exact absurd (hP.mpr hso.1) b96
                | exact absurd hso.2 b108
                | refine R_vret cd_55_147 ?_
                  rw [ev, eb]
                  funext c9 j9
                  by_cases g1 : c9 = 12 ∧ j9 = cell
                  · obtain ⟨rfl, rfl⟩ := g1; simp [qa_upd]
                  · by_cases g2 : c9 = 13 ∧ j9 = cell
                    · obtain ⟨rfl, rfl⟩ := g2; simp [qa_upd]
                    · simp [qa_upd, g1, g2]
        · have ev : qp_v (M 14) (M 15) (M 17) st nx en f = M 15 la := by
            unfold qp_v; rw [if_neg hse, ← hla, if_neg hso]
          have eb : qp_b (M 14) (M 16) (M 17) st nx en f = qa_shl 1 (M 16 la) := by
            unfold qp_b; rw [if_neg hse, ← hla, if_neg hso]
          rw [ev, eb]
          refine R_istore cd_55_92 ?_
          refine R_iload cd_55_94 rfl ?_
          refine R_ifeq_b 147 cd_55_96 rfl (fun b96 => ?_) (fun b96 => ?_)
          · exact R_vret cd_55_147 rfl
          · refine R_aload cd_55_99 rfl ?_
            refine R_getr cd_55_100 rfl ?_
            refine R_iload cd_55_103 rfl ?_
            refine R_call2 cd_55_105 rfl rfl (K_Keys_isSoft (by omega) (by omega) c7) ?_
            refine R_ifeq_b 147 cd_55_108 rfl (fun b108 => ?_) (fun b108 => ?_)
            · exact R_vret cd_55_147 rfl
            · exact absurd ⟨hP.mp b96, b108⟩ hso
      refine R_istore cd_55_35 ?_
      refine R_aload cd_55_37 rfl ?_
      refine R_getr cd_55_38 rfl ?_
      refine R_iload cd_55_41 rfl ?_
      refine R_aload cd_55_42 rfl ?_
      refine R_getr cd_55_43 rfl ?_
      refine R_iload cd_55_46 rfl ?_
      refine R_call2 cd_55_48 rfl rfl (K_Keys_valueAt (by omega) (by omega)) ?_
      refine R_iast cd_55_51 rfl (by omega) (by omega)  ?_
      refine R_aload cd_55_52 rfl ?_
      refine R_getr cd_55_53 rfl ?_
      refine R_iload cd_55_56 rfl ?_
      refine R_aload cd_55_57 rfl ?_
      refine R_getr cd_55_58 rfl ?_
      refine R_iload cd_55_61 rfl ?_
      refine R_call2 cd_55_63 rfl rfl (K_Keys_setterBit (by omega) (by omega)) ?_
      refine R_iast cd_55_66 rfl (by omega) (by omega)  ?_
      refine R_iload cd_55_67 rfl ?_
      refine R_iload cd_55_69 rfl ?_
      refine R_icmp_ge 91 cd_55_71 rfl (fun b71 => ?_) (fun b71 => ?_)
      · refine R_push cd_55_91 ?_
        first
          | have b9 : M 14 la % 1000 < f := b84
            have m := fin True ⟨fun _ => ⟨b71, b9⟩, fun _ => trivial⟩
            rw [qb_t trivial] at m
            exact R_norm (qs_c rfl (qs_c rfl (qs_c rfl (qs_c rfl (qs_c rfl (qs_c rfl (qs_c rfl qs_n))))))) m
          | have m := fin False ⟨fun q => q.elim, fun q => absurd q.1 (by omega)⟩
            rw [qb_f id] at m
            exact R_norm (qs_c rfl (qs_c rfl (qs_c rfl (qs_c rfl (qs_c rfl (qs_c rfl (qs_c rfl qs_n))))))) m
          | have b9 : f ≤ M 14 la % 1000 := b84
            have m := fin False ⟨fun q => q.elim, fun q => absurd q.2 (by omega)⟩
            rw [qb_f id] at m
            exact R_norm (qs_c rfl (qs_c rfl (qs_c rfl (qs_c rfl (qs_c rfl (qs_c rfl (qs_c rfl qs_n))))))) m
      · refine R_aload cd_55_74 rfl ?_
        refine R_getr cd_55_75 rfl ?_
        refine R_iload cd_55_78 rfl ?_
        refine R_call2 cd_55_80 rfl rfl (K_Keys_frameAt (by omega) (by omega) c4.1) ?_
        refine R_iload cd_55_83 rfl ?_
        refine R_icmp_ge 91 cd_55_84 rfl (fun b84 => ?_) (fun b84 => ?_)
        · refine R_push cd_55_91 ?_
          first
            | have b9 : M 14 la % 1000 < f := b84
              have m := fin True ⟨fun _ => ⟨b71, b9⟩, fun _ => trivial⟩
              rw [qb_t trivial] at m
              exact R_norm (qs_c rfl (qs_c rfl (qs_c rfl (qs_c rfl (qs_c rfl (qs_c rfl (qs_c rfl qs_n))))))) m
            | have m := fin False ⟨fun q => q.elim, fun q => absurd q.1 (by omega)⟩
              rw [qb_f id] at m
              exact R_norm (qs_c rfl (qs_c rfl (qs_c rfl (qs_c rfl (qs_c rfl (qs_c rfl (qs_c rfl qs_n))))))) m
            | have b9 : f ≤ M 14 la % 1000 := b84
              have m := fin False ⟨fun q => q.elim, fun q => absurd q.2 (by omega)⟩
              rw [qb_f id] at m
              exact R_norm (qs_c rfl (qs_c rfl (qs_c rfl (qs_c rfl (qs_c rfl (qs_c rfl (qs_c rfl qs_n))))))) m
        · refine R_push cd_55_87 ?_
          refine R_goto cd_55_88 ?_
          first
            | have b9 : M 14 la % 1000 < f := b84
              have m := fin True ⟨fun _ => ⟨b71, b9⟩, fun _ => trivial⟩
              rw [qb_t trivial] at m
              exact R_norm (qs_c rfl (qs_c rfl (qs_c rfl (qs_c rfl (qs_c rfl (qs_c rfl (qs_c rfl qs_n))))))) m
            | have m := fin False ⟨fun q => q.elim, fun q => absurd q.1 (by omega)⟩
              rw [qb_f id] at m
              exact R_norm (qs_c rfl (qs_c rfl (qs_c rfl (qs_c rfl (qs_c rfl (qs_c rfl (qs_c rfl qs_n))))))) m
            | have b9 : f ≤ M 14 la % 1000 := b84
              have m := fin False ⟨fun q => q.elim, fun q => absurd q.2 (by omega)⟩
              rw [qb_f id] at m
              exact R_norm (qs_c rfl (qs_c rfl (qs_c rfl (qs_c rfl (qs_c rfl (qs_c rfl (qs_c rfl qs_n))))))) m
    refine R_iload cd_55_0 rfl ?_
    refine R_iload cd_55_1 rfl ?_
    refine R_icmp_ne 21 cd_55_3 rfl (fun b3 => ?_) (fun b3 => ?_)
    · refine R_iload cd_55_21 rfl ?_
      refine R_iload cd_55_23 rfl ?_
      refine R_icmp_le 34 cd_55_24 rfl (fun b24 => ?_) (fun b24 => ?_)
      · refine R_iload cd_55_34 rfl ?_
        have m := main
        first
          | rw [show la = nx - 1 by rw [hla]; unfold qf_last; rw [if_pos (by omega)]] at m
            exact R_norm (qs_c rfl (qs_c rfl (qs_c rfl (qs_c rfl (qs_c rfl (qs_c rfl qs_n)))))) m
          | rw [show la = st by rw [hla]; unfold qf_last; rw [if_neg (by omega)]] at m
            exact R_norm (qs_c rfl (qs_c rfl (qs_c rfl (qs_c rfl (qs_c rfl (qs_c rfl qs_n)))))) m
      · refine R_iload cd_55_27 rfl ?_
        refine R_push cd_55_29 ?_
        refine R_isub cd_55_30 (by unfold qa_InR; first | omega | (simp [qa_upd, qa_blk] <;> omega)) ?_
        refine R_goto cd_55_31 ?_
        have m := main
        first
          | rw [show la = nx - 1 by rw [hla]; unfold qf_last; rw [if_pos (by omega)]] at m
            exact R_norm (qs_c rfl (qs_c rfl (qs_c rfl (qs_c rfl (qs_c rfl (qs_c rfl qs_n)))))) m
          | rw [show la = st by rw [hla]; unfold qf_last; rw [if_neg (by omega)]] at m
            exact R_norm (qs_c rfl (qs_c rfl (qs_c rfl (qs_c rfl (qs_c rfl (qs_c rfl qs_n)))))) m
    · exact absurd b3 hse
theorem K_Rig_poseTrack {t : Int} {M : qa_Mem} (h1 : 0 ≤ t) (h2 : t < 24) (hw : qk_wf (M 14) (M 15) (M 16) (M 17) (M 2 4)) : qa_E 54 0 [(0, qr 1), (1, qi (t))] [] (M) (.inl none) (qt_M M t 120) := by
  have hw' := hw
  obtain ⟨w1, w2, w3, w4, w5, w6, w7⟩ := hw'
  obtain ⟨st, hst⟩ : ∃ x, x = qf_ca (M 14) (M 2 4) (1000 * t + 0) 80 0 := ⟨_, rfl⟩
  obtain ⟨en, hen⟩ : ∃ x, x = qf_ca (M 14) (M 2 4) (1000 * (t + 1) + 0) 80 0 := ⟨_, rfl⟩
  have hS := qf_ca_s hw (1000 * t + 0)
  have hE := qf_ca_s hw (1000 * (t + 1) + 0)
  have hSE := qf_ca_m hw (c := 1000 * t + 0) (d := 1000 * (t + 1) + 0) (by omega)
  rw [← hst] at hS hSE
  rw [← hen] at hE hSE
  have lp : ∀ (k : Nat) (a : Int), a + k = 120 → 0 ≤ a → qa_E 54 26 [(0, qr 1), (1, qi t), (2, qi st), (3, qi en), (4, qi (qf_ca (M 14) (M 2 4) (1000 * t + a) 80 0)), (5, qi a)] [] (qt_M M t a) (.inl none) (qt_M M t 120) := by
    intro k
    induction k with
    | zero =>
      intro a g1 g2
      obtain rfl : a = 120 := by omega
      refine R_iload cd_54_26 rfl ?_
      refine R_push cd_54_28 ?_
      refine R_icmp_ge 79 cd_54_30 rfl (fun b30 => ?_) (fun b30 => ?_)
      · exact R_vret cd_54_79 rfl
      · omega
    | succ k ih =>
      intro a g1 g2
      obtain ⟨nx, hnx⟩ : ∃ x, x = qf_ca (M 14) (M 2 4) (1000 * t + a) 80 0 := ⟨_, rfl⟩
      have hN := qf_ca_s hw (1000 * t + a)
      have hSN := qf_ca_m hw (c := 1000 * t + 0) (d := 1000 * t + a) (by omega)
      have hNE := qf_ca_m hw (c := 1000 * t + a) (d := 1000 * (t + 1) + 0) (by omega)
      rw [← hst] at hSN
      rw [← hen] at hNE
      rw [← hnx] at hN hSN hNE ⊢
      obtain ⟨n2, hn2⟩ : ∃ x, x = qf_ca (M 14) (M 2 4) (1000 * t + a + 1) 80 0 := ⟨_, rfl⟩
      have hN2 := qf_ca_s hw (1000 * t + a + 1)
      have hSN2 := qf_ca_m hw (c := 1000 * t + 0) (d := 1000 * t + a + 1) (by omega)
      have hN2E := qf_ca_m hw (c := 1000 * t + a + 1) (d := 1000 * (t + 1) + 0) (by omega)
      rw [← hst, ← hn2] at hSN2
      rw [← hen, ← hn2] at hN2E
      rw [← hn2] at hN2
      have main : qa_E 54 56 [(0, qr 1), (1, qi t), (2, qi st), (3, qi en), (4, qi n2), (5, qi a)] [] (qt_M M t a) (.inl none) (qt_M M t 120) := by
        have i6 : n2 < en → st < n2 → (qt_M M t a) 14 (n2 - 1) % 1000 < (qt_M M t a) 14 n2 % 1000 := by
          intro q1 q2
          show M 14 (n2 - 1) % 1000 < M 14 n2 % 1000
          have p1 := hS.2.2.2 (n2 - 1) (by omega) (by omega)
          have p2 := hE.2.2.1 n2 (by omega) (by omega)
          have p3 := w3 (n2 - 1) n2 (by omega) (by omega) (by omega)
          omega
        have i7 : n2 = st → st < en → a < (qt_M M t a) 14 st % 1000 := by
          intro q1 q2
          show a < M 14 st % 1000
          have p1 := hN2.2.2.2 st (by omega) (by omega)
          have p2 := hE.2.2.1 st (by omega) (by omega)
          omega
        refine R_aload cd_54_56 rfl ?_
        refine R_iload cd_54_57 rfl ?_
        refine R_push cd_54_58 ?_
        refine R_imul cd_54_60 (by unfold qa_InR; first | omega | (simp [qa_upd, qa_blk] <;> omega)) ?_
        refine R_iload cd_54_61 rfl ?_
        refine R_iadd cd_54_63 (by unfold qa_InR; first | omega | (simp [qa_upd, qa_blk] <;> omega)) ?_
        refine R_iload cd_54_64 rfl ?_
        refine R_iload cd_54_66 rfl ?_
        refine R_iload cd_54_67 rfl ?_
        refine R_iload cd_54_69 rfl ?_
        refine R_callv6 cd_54_70 rfl rfl (K_Rig_poseCell (by omega) (by omega) (by omega) (by omega) (show en ≤ M 2 4 by omega) hw i6 i7) ?_
        refine R_iinc cd_54_73 rfl (by unfold qa_InR; first | omega | (simp [qa_upd, qa_blk] <;> omega)) ?_
        refine R_goto cd_54_76 ?_
        have e := ih (a + 1) (by omega) (by omega)
        rw [show 1000 * t + (a + 1) = 1000 * t + a + 1 by omega, ← hn2] at e
        have ev : qp_v (M 14) (M 15) (M 17) st n2 en a = qt_v (M 14) (M 15) (M 17) (M 2 4) t a := by
          unfold qt_v; rw [← hst, ← hen, ← hn2]
        have eb : qp_b (M 14) (M 16) (M 17) st n2 en a = qt_b (M 14) (M 16) (M 17) (M 2 4) t a := by
          unfold qt_b; rw [← hst, ← hen, ← hn2]
        have em : qa_upd (qa_upd (qt_M M t a) 12 (t * 120 + a) (qp_v (M 14) (M 15) (M 17) st n2 en a)) 13 (t * 120 + a) (qp_b (M 14) (M 16) (M 17) st n2 en a) = qt_M M t (a + 1) := by
          rw [ev, eb]
          funext c9 j9
          by_cases g12 : c9 = 12
          · subst g12; simp [qa_upd, qa_blk, qt_M] <;> ((repeat' split) <;> first | rfl | omega | (congr 1 <;> omega) | (simp_all; done) | (simp_all; omega))
          · skip
            by_cases g13 : c9 = 13
            · subst g13; simp [qa_upd, qa_blk, qt_M] <;> ((repeat' split) <;> first | rfl | omega | (congr 1 <;> omega) | (simp_all; done) | (simp_all; omega))
            · skip
              simp [qa_upd, qa_blk, qt_M, g12, g13]
        rw [← em] at e
        exact R_norm (qs_c rfl (qs_c rfl (qs_c rfl (qs_c rfl (qs_c rfl (qs_c rfl qs_n)))))) e
      refine R_iload cd_54_26 rfl ?_
      refine R_push cd_54_28 ?_
      refine R_icmp_ge 79 cd_54_30 rfl (fun b30 => ?_) (fun b30 => ?_)
      · omega
      · refine R_iload cd_54_33 rfl ?_
        refine R_iload cd_54_35 rfl ?_
        refine R_icmp_ge 56 cd_54_36 rfl (fun b36 => ?_) (fun b36 => ?_)
        · have m := main
          first
            | rw [show n2 = nx by
                refine hn2.trans (qf_ca_u hw hN.1 hN.2.1 ?_ ?_)
                · by_cases hq : nx = 0
                  · exact Or.inl hq
                  · right; have := hN.2.2.1 (nx - 1) (by omega) (by omega); omega
                · by_cases hq : nx = M 2 4
                  · exact Or.inl hq
                  · right
                    have p1 := hN.2.2.2 nx (Int.le_refl _) (by omega)
                    first
                      | have p2 := hE.2.2.2 nx (by omega) (by omega); omega
                      | have b9 : M 14 nx % 1000 ≠ a := b50
                        have p2 := hE.2.2.1 nx (by omega) (by omega)
                        omega] at m
              exact R_norm (qs_c rfl (qs_c rfl (qs_c rfl (qs_c rfl (qs_c rfl (qs_c rfl qs_n)))))) m
            | rw [show n2 = nx + 1 by
                have b9 : M 14 nx % 1000 = a := b50
                have p1 := hN.2.2.2 nx (Int.le_refl _) (by omega)
                have p2 := hE.2.2.1 nx (by omega) (by omega)
                refine hn2.trans (qf_ca_u hw (by omega) (by omega) (Or.inr ?_) ?_)
                · rw [show nx + 1 - 1 = nx by omega]; omega
                · by_cases hq : nx + 1 = M 2 4
                  · exact Or.inl hq
                  · right
                    have := w3 nx (nx + 1) (by omega) (by omega) (by omega)
                    omega] at m
              exact R_norm (qs_c rfl (qs_c rfl (qs_c rfl (qs_c rfl (qs_c rfl (qs_c rfl qs_n)))))) m
        · refine R_aload cd_54_39 rfl ?_
          refine R_getr cd_54_40 rfl ?_
          refine R_iload cd_54_43 rfl ?_
          refine R_call2 cd_54_45 rfl rfl (K_Keys_frameAt (by omega) (by omega) (w4 nx (by omega) (by omega)).1) ?_
          refine R_iload cd_54_48 rfl ?_
          refine R_icmp_ne 56 cd_54_50 rfl (fun b50 => ?_) (fun b50 => ?_)
          · have m := main
            first
              | rw [show n2 = nx by
                  refine hn2.trans (qf_ca_u hw hN.1 hN.2.1 ?_ ?_)
                  · by_cases hq : nx = 0
                    · exact Or.inl hq
                    · right; have := hN.2.2.1 (nx - 1) (by omega) (by omega); omega
                  · by_cases hq : nx = M 2 4
                    · exact Or.inl hq
                    · right
                      have p1 := hN.2.2.2 nx (Int.le_refl _) (by omega)
                      first
                        | have p2 := hE.2.2.2 nx (by omega) (by omega); omega
                        | have b9 : M 14 nx % 1000 ≠ a := b50
                          have p2 := hE.2.2.1 nx (by omega) (by omega)
                          omega] at m
                exact R_norm (qs_c rfl (qs_c rfl (qs_c rfl (qs_c rfl (qs_c rfl (qs_c rfl qs_n)))))) m
              | rw [show n2 = nx + 1 by
                  have b9 : M 14 nx % 1000 = a := b50
                  have p1 := hN.2.2.2 nx (Int.le_refl _) (by omega)
                  have p2 := hE.2.2.1 nx (by omega) (by omega)
                  refine hn2.trans (qf_ca_u hw (by omega) (by omega) (Or.inr ?_) ?_)
                  · rw [show nx + 1 - 1 = nx by omega]; omega
                  · by_cases hq : nx + 1 = M 2 4
                    · exact Or.inl hq
                    · right
                      have := w3 nx (nx + 1) (by omega) (by omega) (by omega)
                      omega] at m
                exact R_norm (qs_c rfl (qs_c rfl (qs_c rfl (qs_c rfl (qs_c rfl (qs_c rfl qs_n)))))) m
          · refine R_iinc cd_54_53 rfl (by unfold qa_InR; first | omega | (simp [qa_upd, qa_blk] <;> omega)) ?_
            have m := main
            first
              | rw [show n2 = nx by
                  refine hn2.trans (qf_ca_u hw hN.1 hN.2.1 ?_ ?_)
                  · by_cases hq : nx = 0
                    · exact Or.inl hq
                    · right; have := hN.2.2.1 (nx - 1) (by omega) (by omega); omega
                  · by_cases hq : nx = M 2 4
                    · exact Or.inl hq
                    · right
                      have p1 := hN.2.2.2 nx (Int.le_refl _) (by omega)
                      first
                        | have p2 := hE.2.2.2 nx (by omega) (by omega); omega
                        | have b9 : M 14 nx % 1000 ≠ a := b50
                          have p2 := hE.2.2.1 nx (by omega) (by omega)
                          omega] at m
                exact R_norm (qs_c rfl (qs_c rfl (qs_c rfl (qs_c rfl (qs_c rfl (qs_c rfl qs_n)))))) m
              | rw [show n2 = nx + 1 by
                  have b9 : M 14 nx % 1000 = a := b50
                  have p1 := hN.2.2.2 nx (Int.le_refl _) (by omega)
                  have p2 := hE.2.2.1 nx (by omega) (by omega)
                  refine hn2.trans (qf_ca_u hw (by omega) (by omega) (Or.inr ?_) ?_)
                  · rw [show nx + 1 - 1 = nx by omega]; omega
                  · by_cases hq : nx + 1 = M 2 4
                    · exact Or.inl hq
                    · right
                      have := w3 nx (nx + 1) (by omega) (by omega) (by omega)
                      omega] at m
                exact R_norm (qs_c rfl (qs_c rfl (qs_c rfl (qs_c rfl (qs_c rfl (qs_c rfl qs_n)))))) m
  have e := lp 120 0 (by omega) (by omega)
  rw [← hst] at e
  have em : qt_M M t 0 = M := by
    funext c9 j9
    by_cases g12 : c9 = 12
    · subst g12; simp [qa_upd, qa_blk, qt_M] <;> ((repeat' split) <;> first | rfl | omega | (congr 1 <;> omega) | (simp_all; done) | (simp_all; omega))
    · skip
      by_cases g13 : c9 = 13
      · subst g13; simp [qa_upd, qa_blk, qt_M] <;> ((repeat' split) <;> first | rfl | omega | (congr 1 <;> omega) | (simp_all; done) | (simp_all; omega))
      · skip
        simp [qa_upd, qa_blk, qt_M, g12, g13]
  rw [em] at e
  have k1 := K_Keys_startOf (t := t) (M := M) w1 w2 h1 (by omega)
  rw [← hst] at k1
  have k2 := K_Keys_startOf (t := t + 1) (M := M) w1 w2 (by omega) (by omega)
  rw [← hen] at k2
  refine R_aload cd_54_0 rfl ?_
  refine R_getr cd_54_1 rfl ?_
  refine R_iload cd_54_4 rfl ?_
  refine R_call2 cd_54_5 rfl rfl k1 ?_
  refine R_istore cd_54_8 ?_
  refine R_aload cd_54_9 rfl ?_
  refine R_getr cd_54_10 rfl ?_
  refine R_iload cd_54_13 rfl ?_
  refine R_push cd_54_14 ?_
  refine R_iadd cd_54_15 (by unfold qa_InR; first | omega | (simp [qa_upd, qa_blk] <;> omega)) ?_
  refine R_call2 cd_54_16 rfl rfl k2 ?_
  refine R_istore cd_54_19 ?_
  refine R_iload cd_54_20 rfl ?_
  refine R_istore cd_54_21 ?_
  refine R_push cd_54_23 ?_
  refine R_istore cd_54_24 ?_
  exact R_norm (qs_c rfl (qs_c rfl (qs_c rfl (qs_c rfl (qs_c rfl (qs_c rfl qs_n)))))) e
