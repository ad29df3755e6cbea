/-! a step of the law, and the law -/
theorem L_isDone {at0 n : Int} {M : qa_Mem} (h : zz M) (h0 : 0 ≤ at0) (h1 : at0 % 4 = 0) (h2 : at0 + 3 < 216) : qa_E 54 0 [(0, qr (0)), (1, qr (998)), (2, qi (at0)), (3, qr (6)), (4, qr (7)), (5, qr (29)), (6, qr (30)), (7, qr (31)), (8, qr (32)), (9, qr (33)), (10, qr (34)), (11, qr (35)), (12, qr (36))] [] (th M n) (.inl (some (qi (1)))) (th M (n + 1)) := by
  refine R_aload cd_54_0 rfl ?_
  refine R_iload cd_54_1 rfl ?_
  refine R_push cd_54_2 ?_
  refine R_call3 cd_54_4 rfl rfl (L_part28 h (by omega) (by omega) (by omega) (by decide)) ?_
  refine R_istore cd_54_7 rfl ?_
  refine R_aload cd_54_9 rfl ?_
  refine R_iload cd_54_10 rfl ?_
  refine R_push cd_54_11 ?_
  refine R_iadd cd_54_12 (by unfold qa_InR; first | omega | (simp [qa_upd, qa_blk] <;> omega)) ?_
  refine R_push cd_54_13 ?_
  refine R_call3 cd_54_16 rfl rfl (L_part0 h (by omega) (by omega) (by omega) (by decide)) ?_
  refine R_istore cd_54_19 rfl ?_
  refine R_aload cd_54_21 rfl ?_
  refine R_iload cd_54_22 rfl ?_
  refine R_push cd_54_23 ?_
  refine R_iadd cd_54_24 (by unfold qa_InR; first | omega | (simp [qa_upd, qa_blk] <;> omega)) ?_
  refine R_push cd_54_25 ?_
  refine R_call3 cd_54_28 rfl rfl (L_part0 h (by omega) (by omega) (by omega) (by decide)) ?_
  refine R_istore cd_54_31 rfl ?_
  refine R_aload cd_54_33 rfl ?_
  refine R_iload cd_54_34 rfl ?_
  refine R_push cd_54_35 ?_
  refine R_iadd cd_54_36 (by unfold qa_InR; first | omega | (simp [qa_upd, qa_blk] <;> omega)) ?_
  refine R_push cd_54_37 ?_
  refine R_call3 cd_54_40 rfl rfl (L_part0 h (by omega) (by omega) (by omega) (by decide)) ?_
  refine R_istore cd_54_43 rfl ?_
  refine R_iload cd_54_45 rfl ?_
  refine R_push cd_54_47 ?_
  refine R_irem cd_54_49 (by omega) ?_
  refine R_if_ne 58 cd_54_50 rfl (fun h => absurd h (by decide)) (fun _ => ?_)
  refine R_push cd_54_53 ?_
  refine R_goto cd_54_55 ?_
  refine R_istore cd_54_82 rfl ?_
  refine R_iload cd_54_84 rfl ?_
  refine R_push cd_54_86 ?_
  refine R_icmp_ge 296 cd_54_87 rfl (fun _ => ?_) (fun h => absurd h (by decide))
  refine R_iload cd_54_296 rfl ?_
  refine R_push cd_54_298 ?_
  refine R_icmp_ge 475 cd_54_300 rfl (fun _ => ?_) (fun h => absurd h (by decide))
  refine R_iload cd_54_475 rfl ?_
  refine R_push cd_54_477 ?_
  refine R_icmp_ge 530 cd_54_479 rfl (fun _ => ?_) (fun h => absurd h (by decide))
  refine R_iload cd_54_530 rfl ?_
  refine R_push cd_54_532 ?_
  refine R_icmp_ge 783 cd_54_534 rfl (fun _ => ?_) (fun h => absurd h (by decide))
  refine R_iload cd_54_783 rfl ?_
  refine R_push cd_54_785 ?_
  refine R_icmp_ge 916 cd_54_787 rfl (fun _ => ?_) (fun h => absurd h (by decide))
  refine R_iload cd_54_916 rfl ?_
  refine R_push cd_54_918 ?_
  refine R_icmp_ge 1011 cd_54_920 rfl (fun h => absurd h (by decide)) (fun _ => ?_)
  refine R_iload cd_54_923 rfl ?_
  refine R_push cd_54_925 ?_
  refine R_irem cd_54_927 (by omega) ?_
  refine R_istore cd_54_928 rfl ?_
  refine R_iload cd_54_930 rfl ?_
  refine R_if_eq 942 cd_54_932 rfl (fun _ => ?_) (fun h => absurd h (by decide))
  refine R_push cd_54_942 ?_
  refine R_goto cd_54_945 ?_
  refine R_istore cd_54_966 rfl ?_
  refine R_iload cd_54_968 rfl ?_
  refine R_if_lt 988 cd_54_970 rfl (fun _ => ?_) (fun h => absurd h (by decide))
  refine R_aload cd_54_988 rfl ?_
  refine R_push cd_54_989 ?_
  refine R_iload cd_54_990 rfl ?_
  refine R_push cd_54_992 ?_
  refine R_push cd_54_993 ?_
  refine R_push cd_54_994 ?_
  refine R_push cd_54_995 ?_
  refine R_push cd_54_996 ?_
  refine R_call8 cd_54_997 rfl rfl (D_machine h (by decide)) ?_
  refine R_iload cd_54_1000 rfl ?_
  refine R_icmp_ne 1009 cd_54_1002 rfl (fun h => absurd h (by decide)) (fun _ => ?_)
  refine R_push cd_54_1005 ?_
  refine R_goto cd_54_1006 ?_
  exact R_zret cd_54_1010 rfl (by decide) rfl
theorem L_law {M : qa_Mem} (h : zz M) (h99 : M 99 0 = 0) : ∃ M9, qa_E 55 98 [(0, qr 998), (1, qr 0), (2, qr 6), (3, qr 7), (4, qr 29), (5, qr 30), (6, qr 31), (7, qr 32), (8, qr 33), (9, qr 34), (10, qr 35), (11, qr 36)] [] M (.inl (some (qi 1))) M9 ∧ M9 99 0 = 833 := by
  refine ⟨th M 833, ?_, by unfold th; rw [qa_upd_e, h99]; rfl⟩
  have fin : qa_E 55 315 [(0, qr 998), (1, qr 0), (12, qi 1)] [] (th M 824) (.inl (some (qi 1))) (th M (824 + 1 + 1 + 1 + 1 + 1 + 1 + 1 + 1 + 1)) := by
    refine R_iload cd_55_315 rfl ?_
    refine R_if_eq 484 cd_55_317 rfl (fun h => absurd h (by decide)) (fun _ => ?_)
    refine R_aload cd_55_320 rfl ?_
    refine R_push cd_55_321 ?_
    refine R_push cd_55_322 ?_
    refine R_push cd_55_324 ?_
    refine R_push cd_55_325 ?_
    refine R_push cd_55_326 ?_
    refine R_push cd_55_327 ?_
    refine R_push cd_55_328 ?_
    refine R_call8 cd_55_329 rfl rfl (D_bone h (by decide)) ?_
    refine R_push cd_55_332 ?_
    refine R_icmp_ne 484 cd_55_335 rfl (fun h => absurd h (by decide)) (fun _ => ?_)
    refine R_aload cd_55_338 rfl ?_
    refine R_push cd_55_339 ?_
    refine R_push cd_55_340 ?_
    refine R_push cd_55_342 ?_
    refine R_push cd_55_343 ?_
    refine R_push cd_55_344 ?_
    refine R_push cd_55_345 ?_
    refine R_push cd_55_346 ?_
    refine R_call8 cd_55_347 rfl rfl (D_key h) ?_
    refine R_push cd_55_350 ?_
    refine R_icmp_ne 484 cd_55_353 rfl (fun h => absurd h (by decide)) (fun _ => ?_)
    refine R_aload cd_55_356 rfl ?_
    refine R_push cd_55_357 ?_
    refine R_push cd_55_358 ?_
    refine R_push cd_55_359 ?_
    refine R_push cd_55_360 ?_
    refine R_push cd_55_361 ?_
    refine R_push cd_55_362 ?_
    refine R_push cd_55_363 ?_
    refine R_call8 cd_55_364 rfl rfl (D_unkey h) ?_
    refine R_push cd_55_367 ?_
    refine R_icmp_ne 484 cd_55_370 rfl (fun h => absurd h (by decide)) (fun _ => ?_)
    refine R_aload cd_55_373 rfl ?_
    refine R_push cd_55_374 ?_
    refine R_push cd_55_375 ?_
    refine R_push cd_55_376 ?_
    refine R_push cd_55_377 ?_
    refine R_push cd_55_378 ?_
    refine R_push cd_55_379 ?_
    refine R_push cd_55_380 ?_
    refine R_call8 cd_55_381 rfl rfl (D_cut h (by decide)) ?_
    refine R_push cd_55_384 ?_
    refine R_icmp_ne 484 cd_55_387 rfl (fun h => absurd h (by decide)) (fun _ => ?_)
    refine R_aload cd_55_390 rfl ?_
    refine R_push cd_55_391 ?_
    refine R_push cd_55_392 ?_
    refine R_push cd_55_394 ?_
    refine R_push cd_55_395 ?_
    refine R_push cd_55_396 ?_
    refine R_push cd_55_397 ?_
    refine R_push cd_55_398 ?_
    refine R_call8 cd_55_399 rfl rfl (D_uncut h) ?_
    refine R_push cd_55_402 ?_
    refine R_icmp_ne 484 cd_55_405 rfl (fun h => absurd h (by decide)) (fun _ => ?_)
    refine R_aload cd_55_408 rfl ?_
    refine R_push cd_55_409 ?_
    refine R_push cd_55_410 ?_
    refine R_push cd_55_411 ?_
    refine R_push cd_55_412 ?_
    refine R_push cd_55_413 ?_
    refine R_push cd_55_414 ?_
    refine R_push cd_55_415 ?_
    refine R_call8 cd_55_416 rfl rfl (D_machine h (by decide)) ?_
    refine R_push cd_55_419 ?_
    refine R_icmp_ne 484 cd_55_422 rfl (fun h => absurd h (by decide)) (fun _ => ?_)
    refine R_aload cd_55_425 rfl ?_
    refine R_push cd_55_426 ?_
    refine R_push cd_55_428 ?_
    refine R_push cd_55_429 ?_
    refine R_push cd_55_431 ?_
    refine R_push cd_55_432 ?_
    refine R_push cd_55_433 ?_
    refine R_push cd_55_434 ?_
    refine R_call8 cd_55_435 rfl rfl (D_offer h (by decide)) ?_
    refine R_push cd_55_438 ?_
    refine R_icmp_ne 484 cd_55_441 rfl (fun h => absurd h (by decide)) (fun _ => ?_)
    refine R_aload cd_55_444 rfl ?_
    refine R_push cd_55_445 ?_
    refine R_push cd_55_447 ?_
    refine R_push cd_55_448 ?_
    refine R_push cd_55_449 ?_
    refine R_push cd_55_450 ?_
    refine R_push cd_55_451 ?_
    refine R_push cd_55_452 ?_
    refine R_call8 cd_55_453 rfl rfl (D_night h (by decide)) ?_
    refine R_push cd_55_456 ?_
    refine R_icmp_ne 484 cd_55_459 rfl (fun h => absurd h (by decide)) (fun _ => ?_)
    refine R_aload cd_55_462 rfl ?_
    refine R_push cd_55_463 ?_
    refine R_push cd_55_465 ?_
    refine R_push cd_55_466 ?_
    refine R_push cd_55_467 ?_
    refine R_push cd_55_468 ?_
    refine R_push cd_55_469 ?_
    refine R_push cd_55_470 ?_
    refine R_call8 cd_55_471 rfl rfl (D_setRate h (by decide)) ?_
    refine R_push cd_55_474 ?_
    refine R_icmp_ne 484 cd_55_477 rfl (fun h => absurd h (by decide)) (fun _ => ?_)
    refine R_push cd_55_480 ?_
    refine R_goto cd_55_481 ?_
    exact R_zret cd_55_485 rfl (by decide) rfl
  have lp : ∀ (k : Nat) (j : Int), j + k = 54 → 0 ≤ j → qa_E 55 155 [(0, qr 998), (1, qr 0), (2, qr 6), (3, qr 7), (4, qr 29), (5, qr 30), (6, qr 31), (7, qr 32), (8, qr 33), (9, qr 34), (10, qr 35), (11, qr 36), (12, qi 1), (13, qi j)] [] (th M (14 + 15 * j)) (.inl (some (qi 1))) (th M 833) := by
    intro k
    induction k with
    | zero =>
      intro j g1 g2
      obtain rfl : j = 54 := by omega
      refine R_iload cd_55_155 rfl ?_
      refine R_push cd_55_157 ?_
      refine R_icmp_ge 315 cd_55_159 rfl (fun _ => ?_) (fun h => absurd h (by decide))
      exact R_norm (qs_c rfl (qs_c rfl (qs_c rfl qs_n))) fin
    | succ k ih =>
      intro j g1 g2
      have e := ih (j + 1) (by omega) (by omega)
      rw [show 14 + 15 * (j + 1) = 14 + 15 * j + 1 + 7 + 4 + 3 by omega] at e
      refine R_iload cd_55_155 rfl ?_
      refine R_push cd_55_157 ?_
      refine R_icmp_ge 315 cd_55_159 rfl (fun b159 => ?_) (fun b159 => ?_)
      · omega
      · refine R_iload cd_55_162 rfl ?_
        refine R_if_eq 315 cd_55_164 rfl (fun h => absurd h (by decide)) (fun _ => ?_)
        refine R_aload cd_55_167 rfl ?_
        refine R_push cd_55_168 ?_
        refine R_iload cd_55_169 rfl ?_
        refine R_imul cd_55_171 (by unfold qa_InR; first | omega | (simp [qa_upd, qa_blk] <;> omega)) ?_
        refine R_push cd_55_172 ?_
        refine R_iadd cd_55_173 (by unfold qa_InR; first | omega | (simp [qa_upd, qa_blk] <;> omega)) ?_
        refine R_push cd_55_174 ?_
        refine R_call3 cd_55_176 rfl rfl (L_part0 h (by omega) (by omega) (by omega) (by decide)) ?_
        refine R_istore cd_55_179 rfl ?_
        refine R_aload cd_55_181 rfl ?_
        refine R_aload cd_55_182 rfl ?_
        refine R_push cd_55_183 ?_
        refine R_iload cd_55_184 rfl ?_
        refine R_imul cd_55_186 (by unfold qa_InR; first | omega | (simp [qa_upd, qa_blk] <;> omega)) ?_
        refine R_aload cd_55_187 rfl ?_
        refine R_aload cd_55_188 rfl ?_
        refine R_aload cd_55_189 rfl ?_
        refine R_aload cd_55_191 rfl ?_
        refine R_aload cd_55_193 rfl ?_
        refine R_aload cd_55_195 rfl ?_
        refine R_aload cd_55_197 rfl ?_
        refine R_aload cd_55_199 rfl ?_
        refine R_aload cd_55_201 rfl ?_
        refine R_aload cd_55_203 rfl ?_
        refine R_call13 cd_55_205 rfl rfl (L_isDone h (by omega) (by omega) (by omega)) ?_
        refine R_if_eq 306 cd_55_208 rfl (fun h => absurd h (by decide)) (fun _ => ?_)
        refine R_aload cd_55_211 rfl ?_
        refine R_aload cd_55_212 rfl ?_
        refine R_aload cd_55_213 rfl ?_
        refine R_aload cd_55_214 rfl ?_
        refine R_aload cd_55_216 rfl ?_
        refine R_aload cd_55_218 rfl ?_
        refine R_aload cd_55_220 rfl ?_
        refine R_push cd_55_221 ?_
        refine R_iload cd_55_222 rfl ?_
        refine R_imul cd_55_224 (by unfold qa_InR; first | omega | (simp [qa_upd, qa_blk] <;> omega)) ?_
        refine R_push cd_55_225 ?_
        refine R_iadd cd_55_226 (by unfold qa_InR; first | omega | (simp [qa_upd, qa_blk] <;> omega)) ?_
        refine R_push cd_55_227 ?_
        refine R_call3 cd_55_229 rfl rfl (L_part0 h (by omega) (by omega) (by omega) (by decide)) ?_
        refine R_call7 cd_55_232 rfl rfl (L_areKeys h (by decide) (by decide)) ?_
        refine R_if_eq 306 cd_55_235 rfl (fun h => absurd h (by decide)) (fun _ => ?_)
        refine R_aload cd_55_238 rfl ?_
        refine R_aload cd_55_239 rfl ?_
        refine R_aload cd_55_240 rfl ?_
        refine R_aload cd_55_241 rfl ?_
        refine R_aload cd_55_243 rfl ?_
        refine R_aload cd_55_245 rfl ?_
        refine R_aload cd_55_247 rfl ?_
        refine R_aload cd_55_249 rfl ?_
        refine R_aload cd_55_251 rfl ?_
        refine R_push cd_55_252 ?_
        refine R_iload cd_55_253 rfl ?_
        refine R_imul cd_55_255 (by unfold qa_InR; first | omega | (simp [qa_upd, qa_blk] <;> omega)) ?_
        refine R_push cd_55_256 ?_
        refine R_iadd cd_55_257 (by unfold qa_InR; first | omega | (simp [qa_upd, qa_blk] <;> omega)) ?_
        refine R_push cd_55_258 ?_
        refine R_call3 cd_55_261 rfl rfl (L_part0 h (by omega) (by omega) (by omega) (by decide)) ?_
        refine R_call9 cd_55_264 rfl rfl (L_areFrames h) ?_
        refine R_if_eq 306 cd_55_267 rfl (fun h => absurd h (by decide)) (fun _ => ?_)
        refine R_aload cd_55_270 rfl ?_
        refine R_aload cd_55_271 rfl ?_
        refine R_aload cd_55_273 rfl ?_
        refine R_call3 cd_55_275 rfl rfl (L_areMachines h) ?_
        refine R_if_eq 306 cd_55_278 rfl (fun h => absurd h (by decide)) (fun _ => ?_)
        refine R_aload cd_55_281 rfl ?_
        refine R_iload cd_55_282 rfl ?_
        refine R_call2 cd_55_284 rfl rfl (Z_seconds (th_zz h) (by decide)) ?_
        refine R_aload cd_55_287 rfl ?_
        refine R_aload cd_55_288 rfl ?_
        refine R_aload cd_55_290 rfl ?_
        refine R_aload cd_55_292 rfl ?_
        refine R_iload cd_55_294 rfl ?_
        refine R_call5 cd_55_296 rfl rfl (L_seconds h) ?_
        refine R_icmp_ne 306 cd_55_299 rfl (fun h => absurd h (by decide)) (fun _ => ?_)
        refine R_push cd_55_302 ?_
        refine R_goto cd_55_303 ?_
        refine R_istore cd_55_307 rfl ?_
        refine R_iinc cd_55_309 rfl (by unfold qa_InR; first | omega | (simp [qa_upd, qa_blk] <;> omega)) rfl ?_
        refine R_goto cd_55_312 ?_
        exact R_norm (qs_c rfl (qs_c rfl (qs_c rfl (qs_c rfl (qs_c rfl (qs_c rfl (qs_c rfl (qs_c rfl (qs_c rfl (qs_c rfl (qs_c rfl (qs_c rfl (qs_c rfl (qs_c rfl qs_n)))))))))))))) e
  have e := lp 54 0 (by omega) (by omega)
  rw [show (14 : Int) + 15 * 0 = 0 + 7 + 4 + 3 by omega] at e
  have e0 : M = th M 0 := th_0.symm
  have main : qa_E 55 98 [(0, qr 998), (1, qr 0), (2, qr 6), (3, qr 7), (4, qr 29), (5, qr 30), (6, qr 31), (7, qr 32), (8, qr 33), (9, qr 34), (10, qr 35), (11, qr 36)] [] (th M 0) (.inl (some (qi 1))) (th M 833) := by
    refine R_aload cd_55_98 rfl ?_
    refine R_aload cd_55_99 rfl ?_
    refine R_aload cd_55_100 rfl ?_
    refine R_aload cd_55_101 rfl ?_
    refine R_aload cd_55_103 rfl ?_
    refine R_aload cd_55_105 rfl ?_
    refine R_push cd_55_107 ?_
    refine R_call7 cd_55_108 rfl rfl (L_areKeys h (by decide) (by decide)) ?_
    refine R_if_eq 149 cd_55_111 rfl (fun h => absurd h (by decide)) (fun _ => ?_)
    refine R_aload cd_55_114 rfl ?_
    refine R_aload cd_55_115 rfl ?_
    refine R_aload cd_55_116 rfl ?_
    refine R_aload cd_55_117 rfl ?_
    refine R_aload cd_55_119 rfl ?_
    refine R_aload cd_55_121 rfl ?_
    refine R_aload cd_55_123 rfl ?_
    refine R_aload cd_55_125 rfl ?_
    refine R_push cd_55_127 ?_
    refine R_call9 cd_55_128 rfl rfl (L_areFrames h) ?_
    refine R_if_eq 149 cd_55_131 rfl (fun h => absurd h (by decide)) (fun _ => ?_)
    refine R_aload cd_55_134 rfl ?_
    refine R_aload cd_55_135 rfl ?_
    refine R_aload cd_55_137 rfl ?_
    refine R_call3 cd_55_139 rfl rfl (L_areMachines h) ?_
    refine R_if_eq 149 cd_55_142 rfl (fun h => absurd h (by decide)) (fun _ => ?_)
    refine R_push cd_55_145 ?_
    refine R_goto cd_55_146 ?_
    refine R_istore cd_55_150 rfl ?_
    refine R_push cd_55_152 ?_
    refine R_istore cd_55_153 rfl ?_
    exact R_norm (qs_c rfl (qs_c rfl (qs_c rfl (qs_c rfl (qs_c rfl (qs_c rfl (qs_c rfl (qs_c rfl (qs_c rfl (qs_c rfl (qs_c rfl (qs_c rfl (qs_c rfl (qs_c rfl qs_n)))))))))))))) e
  rw [← e0] at main
  exact main
