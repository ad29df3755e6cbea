/-! one look at all: keys, frames, machines -/
theorem L_areKeys {f n : Int} {M : qa_Mem} (h : zz M) (h0 : 0 ≤ f) (h1 : f < 120) : qa_E 51 0 [(0, qr (0)), (1, qr (6)), (2, qr (7)), (3, qr (29)), (4, qr (30)), (5, qr (34)), (6, qi (f))] [] (th M n) (.inl (some (qi (1)))) (th M (n + 7)) := by
  have e0 := th_e (n := n + 7) (k := 34) (j := 0) h (by decide)
  have e1 := th_e (n := n + 7) (k := 34) (j := 1) h (by decide)
  have ka := Z_artists (th_zz (n := n + 7) h) (f := f) (by omega)
  have t : qa_E 51 111 [(0, qr 0), (1, qr 6), (2, qr 7), (3, qr 29), (4, qr 30), (5, qr 34), (6, qi f)] [qi 1] (th M (n + 7)) (.inl (some (qi 1))) (th M (n + 7)) := by
    refine R_istore cd_51_111 rfl ?_
    refine R_push cd_51_113 ?_
    refine R_istore cd_51_114 rfl ?_
    refine R_iload cd_51_116 rfl ?_
    refine R_push cd_51_118 ?_
    refine R_aload cd_51_119 rfl ?_
    refine R_push cd_51_121 ?_
    refine R_iald cd_51_122 rfl (by omega) (by omega) ?_
    refine R_imul cd_51_123 (by unfold qa_InR; first | omega | (simp [qa_upd, qa_blk] <;> omega)) ?_
    refine R_icmp_ge 174 cd_51_124 rfl (fun b124 => ?_) (fun b124 => ?_)
    · refine R_push cd_51_174 ?_
      refine R_istore cd_51_175 rfl ?_
      refine R_iload cd_51_177 rfl ?_
      refine R_aload cd_51_179 rfl ?_
      refine R_push cd_51_181 ?_
      refine R_iald cd_51_182 rfl (by omega) (by omega) ?_
      refine R_icmp_ge 229 cd_51_183 rfl (fun b183 => ?_) (fun b183 => ?_)
      · refine R_push cd_51_229 ?_
        refine R_istore cd_51_230 rfl ?_
        refine R_iload cd_51_232 rfl ?_
        refine R_aload cd_51_234 rfl ?_
        refine R_push cd_51_236 ?_
        refine R_iald cd_51_237 rfl (by omega) (by omega) ?_
        refine R_icmp_ge 446 cd_51_238 rfl (fun b238 => ?_) (fun b238 => ?_)
        · refine R_iload cd_51_446 rfl ?_
          refine R_if_eq 473 cd_51_448 rfl (fun h => absurd h (by decide)) (fun _ => ?_)
          refine R_aload cd_51_451 rfl ?_
          refine R_iload cd_51_452 rfl ?_
          refine R_call2 cd_51_454 rfl rfl ka ?_
          refine R_aload cd_51_457 rfl ?_
          refine R_aload cd_51_458 rfl ?_
          refine R_aload cd_51_459 rfl ?_
          refine R_iload cd_51_461 rfl ?_
          refine R_call4 cd_51_463 rfl rfl (L_artists h) ?_
          refine R_icmp_ne 473 cd_51_466 rfl (fun h => absurd h (by decide)) (fun _ => ?_)
          refine R_push cd_51_469 ?_
          refine R_goto cd_51_470 ?_
          exact R_zret cd_51_474 rfl (by decide) rfl
        · omega
      · omega
    · omega
  have a1 := fun (a b c m : Int) => A_value (a := a) (b := b) (c := c) (n := m) h
  rw [show n + 7 = n + 1 + 1 + 1 + 1 + 1 + 1 + 1 by omega] at t ⊢
  refine R_aload cd_51_0 rfl ?_
  refine R_push cd_51_1 ?_
  refine R_aload cd_51_2 rfl ?_
  refine R_push cd_51_4 ?_
  refine R_iald cd_51_5 rfl (by omega) (by omega) ?_
  refine R_push cd_51_6 ?_
  refine R_push cd_51_7 ?_
  refine R_call5 cd_51_8 rfl rfl (A_value h) ?_
  refine R_push cd_51_11 ?_
  refine R_icmp_ne 110 cd_51_14 rfl (fun h => absurd h (by decide)) (fun _ => ?_)
  refine R_aload cd_51_17 rfl ?_
  refine R_push cd_51_18 ?_
  refine R_push cd_51_19 ?_
  refine R_push cd_51_20 ?_
  refine R_push cd_51_21 ?_
  refine R_call5 cd_51_22 rfl rfl (A_value h) ?_
  refine R_push cd_51_25 ?_
  refine R_icmp_ne 110 cd_51_28 rfl (fun h => absurd h (by decide)) (fun _ => ?_)
  refine R_aload cd_51_31 rfl ?_
  refine R_push cd_51_32 ?_
  refine R_push cd_51_33 ?_
  refine R_push cd_51_34 ?_
  refine R_push cd_51_35 ?_
  refine R_call5 cd_51_37 rfl rfl (A_value h) ?_
  refine R_push cd_51_40 ?_
  refine R_icmp_ne 110 cd_51_43 rfl (fun h => absurd h (by decide)) (fun _ => ?_)
  refine R_aload cd_51_46 rfl ?_
  refine R_push cd_51_47 ?_
  refine R_aload cd_51_48 rfl ?_
  refine R_push cd_51_50 ?_
  refine R_iald cd_51_51 rfl (by omega) (by omega) ?_
  refine R_push cd_51_52 ?_
  refine R_push cd_51_53 ?_
  refine R_call5 cd_51_54 rfl rfl (A_keyAt h) ?_
  refine R_push cd_51_57 ?_
  refine R_icmp_ne 110 cd_51_60 rfl (fun h => absurd h (by decide)) (fun _ => ?_)
  refine R_aload cd_51_63 rfl ?_
  refine R_push cd_51_64 ?_
  refine R_push cd_51_65 ?_
  refine R_push cd_51_66 ?_
  refine R_push cd_51_67 ?_
  refine R_call5 cd_51_68 rfl rfl (A_keyAt h) ?_
  refine R_push cd_51_71 ?_
  refine R_icmp_ne 110 cd_51_74 rfl (fun h => absurd h (by decide)) (fun _ => ?_)
  refine R_aload cd_51_77 rfl ?_
  refine R_push cd_51_78 ?_
  refine R_push cd_51_79 ?_
  refine R_push cd_51_80 ?_
  refine R_push cd_51_81 ?_
  refine R_call5 cd_51_82 rfl rfl (A_place h) ?_
  refine R_push cd_51_85 ?_
  refine R_icmp_ne 110 cd_51_88 rfl (fun h => absurd h (by decide)) (fun _ => ?_)
  refine R_aload cd_51_91 rfl ?_
  refine R_push cd_51_92 ?_
  refine R_push cd_51_93 ?_
  refine R_push cd_51_95 ?_
  refine R_push cd_51_96 ?_
  refine R_call5 cd_51_97 rfl rfl (A_artists h (by decide)) ?_
  refine R_push cd_51_100 ?_
  refine R_icmp_ne 110 cd_51_103 rfl (fun h => absurd h (by decide)) (fun _ => ?_)
  refine R_push cd_51_106 ?_
  refine R_goto cd_51_107 ?_
  exact R_norm (qs_c rfl (qs_c rfl (qs_c rfl (qs_c rfl (qs_c rfl (qs_c rfl (qs_c rfl qs_n))))))) t
theorem L_areFrames {p n : Int} {M : qa_Mem} (h : zz M) : qa_E 52 0 [(0, qr (0)), (1, qr (6)), (2, qr (7)), (3, qr (29)), (4, qr (31)), (5, qr (34)), (6, qr (35)), (7, qr (36)), (8, qi (p))] [] (th M n) (.inl (some (qi (1)))) (th M (n + 4)) := by
  have e2 := th_e (n := n + 2) (k := 34) (j := 2) h (by decide)
  have fin : qa_E 52 181 [(0, qr 0), (1, qr 6), (2, qr 7), (3, qr 29), (4, qr 31), (5, qr 34), (6, qr 35), (7, qr 36), (8, qi p), (9, qi 0), (10, qi 1)] [] (th M (n + 2)) (.inl (some (qi 1))) (th M (n + 4)) := by
    rw [show n + 4 = n + 2 + 1 + 1 by omega]
    refine R_aload cd_52_181 rfl ?_
    refine R_aload cd_52_183 rfl ?_
    refine R_call2 cd_52_185 rfl rfl (L_length h) ?_
    refine R_istore cd_52_188 rfl ?_
    refine R_iload cd_52_190 rfl ?_
    refine R_if_ne 199 cd_52_192 rfl (fun h => absurd h (by decide)) (fun _ => ?_)
    refine R_push cd_52_195 ?_
    refine R_goto cd_52_196 ?_
    refine R_istore cd_52_204 rfl ?_
    refine R_push cd_52_206 ?_
    refine R_istore cd_52_207 rfl ?_
    refine R_iload cd_52_209 rfl ?_
    refine R_aload cd_52_211 rfl ?_
    refine R_push cd_52_213 ?_
    refine R_iald cd_52_214 rfl (by omega) (by omega) ?_
    refine R_icmp_ge 264 cd_52_215 rfl (fun b215 => ?_) (fun b215 => ?_)
    · refine R_iload cd_52_264 rfl ?_
      refine R_if_eq 345 cd_52_266 rfl (fun h => absurd h (by decide)) (fun _ => ?_)
      refine R_aload cd_52_269 rfl ?_
      refine R_call1 cd_52_270 rfl rfl (Z_voids (th_zz h)) ?_
      refine R_iload cd_52_273 rfl ?_
      refine R_icmp_ne 345 cd_52_275 rfl (fun h => absurd h (by decide)) (fun _ => ?_)
      refine R_aload cd_52_278 rfl ?_
      refine R_call1 cd_52_279 rfl rfl (Z_voidsByAll (th_zz h)) ?_
      refine R_iload cd_52_282 rfl ?_
      refine R_icmp_ne 345 cd_52_284 rfl (fun h => absurd h (by decide)) (fun _ => ?_)
      refine R_aload cd_52_287 rfl ?_
      refine R_push cd_52_288 ?_
      refine R_iload cd_52_289 rfl ?_
      refine R_push cd_52_291 ?_
      refine R_push cd_52_292 ?_
      refine R_call5 cd_52_293 rfl rfl (A_shown h) ?_
      refine R_push cd_52_296 ?_
      refine R_icmp_ne 345 cd_52_299 rfl (fun h => absurd h (by decide)) (fun _ => ?_)
      refine R_aload cd_52_302 rfl ?_
      refine R_push cd_52_303 ?_
      refine R_push cd_52_304 ?_
      refine R_push cd_52_305 ?_
      refine R_push cd_52_306 ?_
      refine R_call5 cd_52_307 rfl rfl (A_shown h) ?_
      refine R_push cd_52_310 ?_
      refine R_icmp_ne 345 cd_52_313 rfl (fun h => absurd h (by decide)) (fun _ => ?_)
      refine R_iload cd_52_316 rfl ?_
      refine R_if_eq 341 cd_52_318 rfl (fun _ => ?_) (fun h => absurd h (by decide))
      refine R_push cd_52_341 ?_
      refine R_goto cd_52_342 ?_
      exact R_zret cd_52_346 rfl (by decide) rfl
    · omega
  have lp : ∀ (k : Nat) (j : Int), j + k = 120 → 0 ≤ j → qa_E 52 44 [(0, qr 0), (1, qr 6), (2, qr 7), (3, qr 29), (4, qr 31), (5, qr 34), (6, qr 35), (7, qr 36), (8, qi p), (9, qi 0), (10, qi 1), (11, qi j)] [] (th M (n + 2)) (.inl (some (qi 1))) (th M (n + 4)) := by
    intro k
    induction k with
    | zero =>
      intro j g1 g2
      refine R_iload cd_52_44 rfl ?_
      refine R_push cd_52_46 ?_
      refine R_icmp_ge 181 cd_52_48 rfl (fun b48 => ?_) (fun b48 => ?_)
      · exact R_norm (qs_c rfl (qs_c rfl (qs_c rfl (qs_c rfl (qs_c rfl (qs_c rfl (qs_c rfl (qs_c rfl (qs_c rfl (qs_c rfl (qs_c rfl qs_n))))))))))) fin
      · omega
    | succ k ih =>
      intro j g1 g2
      have e := ih (j + 1) (by omega) (by omega)
      refine R_iload cd_52_44 rfl ?_
      refine R_push cd_52_46 ?_
      refine R_icmp_ge 181 cd_52_48 rfl (fun b48 => ?_) (fun b48 => ?_)
      · omega
      · refine R_iload cd_52_51 rfl ?_
        refine R_if_eq 181 cd_52_53 rfl (fun h => absurd h (by decide)) (fun _ => ?_)
        refine R_aload cd_52_56 rfl ?_
        refine R_aload cd_52_58 rfl ?_
        refine R_iload cd_52_60 rfl ?_
        refine R_call3 cd_52_62 rfl rfl (L_made h (by omega) (by omega)) ?_
        refine R_lstore cd_52_65 rfl rfl ?_
        refine R_lload cd_52_67 rfl ?_
        refine R_lpush cd_52_69 ?_
        refine R_lcmp cd_52_70 ?_
        refine R_if_lt 94 cd_52_71 rfl (fun b71 => ?_) (fun b71 => ?_)
        · refine R_push cd_52_94 ?_
          refine R_istore cd_52_95 rfl ?_
          refine R_iload cd_52_97 rfl ?_
          refine R_lload cd_52_99 rfl ?_
          refine R_lpush cd_52_101 ?_
          refine R_lcmp cd_52_102 ?_
          refine R_if_lt 115 cd_52_103 rfl (fun b103 => ?_) (fun b103 => ?_)
          · refine R_push cd_52_115 ?_
            refine R_iadd cd_52_116 (by unfold qa_InR; first | omega | (simp [qa_upd, qa_blk] <;> omega)) ?_
            refine R_istore cd_52_117 rfl ?_
            refine R_aload cd_52_119 rfl ?_
            refine R_iload cd_52_120 rfl ?_
            refine R_call2 cd_52_122 rfl rfl (Z_state (th_zz h) (by omega)) ?_
            refine R_lload cd_52_125 rfl ?_
            refine R_lpush cd_52_127 ?_
            refine R_lcmp cd_52_128 ?_
            refine R_if_ge 136 cd_52_129 rfl (fun b129 => ?_) (fun b129 => ?_)
            · exact absurd b129 (by decide)
            · refine R_push cd_52_132 ?_
              refine R_goto cd_52_133 ?_
              refine R_aload cd_52_146 rfl ?_
              refine R_aload cd_52_148 rfl ?_
              refine R_iload cd_52_150 rfl ?_
              refine R_call3 cd_52_152 rfl rfl (L_isNeeded h) ?_
              refine R_if_eq 163 cd_52_155 rfl (fun _ => ?_) (fun h => absurd h (by decide))
              refine R_push cd_52_163 ?_
              refine R_iadd cd_52_164 (by unfold qa_InR; first | omega | (simp [qa_upd, qa_blk] <;> omega)) ?_
              refine R_icmp_ne 172 cd_52_165 rfl (fun h => absurd h (by decide)) (fun _ => ?_)
              refine R_push cd_52_168 ?_
              refine R_goto cd_52_169 ?_
              refine R_istore cd_52_173 rfl ?_
              refine R_iinc cd_52_175 rfl (by unfold qa_InR; first | omega | (simp [qa_upd, qa_blk] <;> omega)) rfl ?_
              refine R_goto cd_52_178 ?_
              exact R_norm (qs_c rfl (qs_c rfl (qs_c rfl (qs_c rfl (qs_c rfl (qs_c rfl (qs_c rfl (qs_c rfl (qs_c rfl (qs_c rfl (qs_c rfl (qs_c rfl qs_n)))))))))))) e
          · exact absurd b103 (by decide)
        · exact absurd b71 (by decide)
  rw [show n + 2 = n + 1 + 1 by omega] at lp
  refine R_push cd_52_0 ?_
  refine R_istore cd_52_1 rfl ?_
  refine R_aload cd_52_3 rfl ?_
  refine R_push cd_52_4 ?_
  refine R_push cd_52_6 ?_
  refine R_push cd_52_8 ?_
  refine R_push cd_52_9 ?_
  refine R_call5 cd_52_10 rfl rfl (A_state h (by decide)) ?_
  refine R_push cd_52_13 ?_
  refine R_icmp_ne 38 cd_52_16 rfl (fun h => absurd h (by decide)) (fun _ => ?_)
  refine R_aload cd_52_19 rfl ?_
  refine R_push cd_52_20 ?_
  refine R_push cd_52_22 ?_
  refine R_push cd_52_23 ?_
  refine R_push cd_52_24 ?_
  refine R_call5 cd_52_25 rfl rfl (A_state h (by decide)) ?_
  refine R_push cd_52_28 ?_
  refine R_icmp_ne 38 cd_52_31 rfl (fun h => absurd h (by decide)) (fun _ => ?_)
  refine R_push cd_52_34 ?_
  refine R_goto cd_52_35 ?_
  refine R_istore cd_52_39 rfl ?_
  refine R_push cd_52_41 ?_
  refine R_istore cd_52_42 rfl ?_
  exact R_norm (qs_c rfl (qs_c rfl (qs_c rfl (qs_c rfl (qs_c rfl (qs_c rfl (qs_c rfl (qs_c rfl (qs_c rfl (qs_c rfl (qs_c rfl (qs_c rfl qs_n)))))))))))) (lp 120 0 (by omega) (by omega))
theorem L_areMachines {n : Int} {M : qa_Mem} (h : zz M) : qa_E 53 0 [(0, qr (0)), (1, qr (32)), (2, qr (34))] [] (th M n) (.inl (some (qi (1)))) (th M (n + 3)) := by
  have e3 := th_e (n := n + 3) (k := 34) (j := 3) h (by decide)
  have lp : ∀ (k : Nat) (j : Int), j + k = 7 → 0 ≤ j → qa_E 53 111 [(0, qr 0), (1, qr 32), (2, qr 34), (3, qi 1), (4, qi j)] [] (th M (n + 3)) (.inl (some (qi 1))) (th M (n + 3)) := by
    intro k
    induction k with
    | zero =>
      intro j g1 g2
      refine R_iload cd_53_111 rfl ?_
      refine R_push cd_53_113 ?_
      refine R_icmp_ge 150 cd_53_115 rfl (fun b115 => ?_) (fun b115 => ?_)
      · refine R_iload cd_53_150 rfl ?_
        exact R_zret cd_53_151 rfl (by decide) rfl
      · omega
    | succ k ih =>
      intro j g1 g2
      have e := ih (j + 1) (by omega) (by omega)
      have e6 := th_e (n := n + 3) (k := 34) (j := 6 + j) h (by decide)
      refine R_iload cd_53_111 rfl ?_
      refine R_push cd_53_113 ?_
      refine R_icmp_ge 150 cd_53_115 rfl (fun b115 => ?_) (fun b115 => ?_)
      · omega
      · refine R_iload cd_53_118 rfl ?_
        refine R_if_eq 150 cd_53_119 rfl (fun h => absurd h (by decide)) (fun _ => ?_)
        refine R_aload cd_53_122 rfl ?_
        refine R_iload cd_53_123 rfl ?_
        refine R_call2 cd_53_125 rfl rfl (Z_money (th_zz h) (by omega)) ?_
        refine R_aload cd_53_128 rfl ?_
        refine R_push cd_53_129 ?_
        refine R_iload cd_53_131 rfl ?_
        refine R_iadd cd_53_133 (by unfold qa_InR; first | omega | (simp [qa_upd, qa_blk] <;> omega)) ?_
        refine R_iald cd_53_134 rfl (by omega) (by omega) ?_
        refine R_icmp_ne 142 cd_53_135 rfl (fun b135 => ?_) (fun b135 => ?_)
        · omega
        · refine R_push cd_53_138 ?_
          refine R_goto cd_53_139 ?_
          refine R_istore cd_53_143 rfl ?_
          refine R_iinc cd_53_144 rfl (by unfold qa_InR; first | omega | (simp [qa_upd, qa_blk] <;> omega)) rfl ?_
          refine R_goto cd_53_147 ?_
          exact R_norm (qs_c rfl (qs_c rfl (qs_c rfl (qs_c rfl (qs_c rfl qs_n))))) e
  rw [show n + 3 = n + 1 + 1 + 1 by omega] at lp e3 ⊢
  refine R_aload cd_53_0 rfl ?_
  refine R_push cd_53_1 ?_
  refine R_aload cd_53_3 rfl ?_
  refine R_push cd_53_4 ?_
  refine R_iald cd_53_5 rfl (by omega) (by omega) ?_
  refine R_push cd_53_6 ?_
  refine R_push cd_53_7 ?_
  refine R_call5 cd_53_8 rfl rfl (A_heat h) ?_
  refine R_push cd_53_11 ?_
  refine R_icmp_ne 53 cd_53_14 rfl (fun h => absurd h (by decide)) (fun _ => ?_)
  refine R_aload cd_53_17 rfl ?_
  refine R_push cd_53_18 ?_
  refine R_push cd_53_20 ?_
  refine R_push cd_53_22 ?_
  refine R_push cd_53_23 ?_
  refine R_call5 cd_53_24 rfl rfl (A_money h (by decide)) ?_
  refine R_push cd_53_27 ?_
  refine R_icmp_ne 53 cd_53_30 rfl (fun h => absurd h (by decide)) (fun _ => ?_)
  refine R_aload cd_53_33 rfl ?_
  refine R_push cd_53_34 ?_
  refine R_push cd_53_36 ?_
  refine R_push cd_53_38 ?_
  refine R_push cd_53_39 ?_
  refine R_call5 cd_53_40 rfl rfl (A_seconds h (by decide)) ?_
  refine R_push cd_53_43 ?_
  refine R_icmp_ne 53 cd_53_46 rfl (fun h => absurd h (by decide)) (fun _ => ?_)
  refine R_push cd_53_49 ?_
  refine R_goto cd_53_50 ?_
  refine R_istore cd_53_54 rfl ?_
  refine R_push cd_53_55 ?_
  refine R_istore cd_53_56 rfl ?_
  refine R_iload cd_53_58 rfl ?_
  refine R_aload cd_53_60 rfl ?_
  refine R_push cd_53_61 ?_
  refine R_iald cd_53_62 rfl (by omega) (by omega) ?_
  refine R_icmp_ge 108 cd_53_63 rfl (fun b63 => ?_) (fun b63 => ?_)
  · refine R_push cd_53_108 ?_
    refine R_istore cd_53_109 rfl ?_
    exact R_norm (qs_c rfl (qs_c rfl (qs_c rfl (qs_c rfl (qs_c rfl qs_n))))) (lp 7 0 (by omega) (by omega))
  · omega
