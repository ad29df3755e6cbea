/-! the law: its steps -/
theorem qa_sgn_e {x : Int} : qa_sgn x x = 0 := by unfold qa_sgn; rw [if_neg (by omega), if_pos rfl]
def law_ok (M M2 : qa_Mem) : Prop := iv M2 ∧ M 99 0 ≤ M2 99 0 ∧ M2 99 0 ≤ M 99 0 + 1 ∧ M2 97 = M 97 ∧ M2 98 = M 98
theorem law_st {M M2 : qa_Mem} {k b : Int} (h : st_ok M M2 k b) : law_ok M M2 := ⟨h.2.2.1, h.2.2.2.1, h.2.2.2.2.1, h.2.2.2.2.2.1, h.2.2.2.2.2.2⟩
theorem law_bone {i : Int} {M : qa_Mem} (h : iv M) (i0 : 0 ≤ i) (i1 : i + 7 ≤ M 97 0) (hL : M 97 0 ≤ 3584) (hV : ∀ x : Int, 0 ≤ x → x < M 97 0 → M 98 x ≤ 2147483647) : ∃ M2, law_ok M M2 ∧ ∀ (r : qa_R) (M9 : qa_Mem), qa_E 161 1500 [(0, qr 998), (1, qr 0), (2, qr 6), (3, qr 7), (4, qi i)] [] M2 r M9 → qa_E 161 144 [(0, qr 998), (1, qr 0), (2, qr 6), (3, qr 7), (4, qi i)] [] M r M9 := by
  obtain ⟨k, v, M1, M2, C, D, S⟩ := op_bone (p := M 98 (i + 1)) (x := M 98 (i + 2)) (y := M 98 (i + 3)) h
  have fr := qa_frame C
  rw [← fr.2] at D
  have l1 : i + 7 ≤ M1 97 0 := by rw [fr.1]; exact i1
  refine ⟨M2, law_st S, fun r M9 K => ?_⟩
  refine R_aload cd_161_144 rfl ?_
  refine R_aload cd_161_145 rfl ?_
  refine R_iload cd_161_146 rfl ?_
  refine R_push cd_161_148 ?_
  refine R_iadd cd_161_149 (by unfold qa_InR; first | omega | (simp [qa_upd, qa_blk] <;> omega)) ?_
  refine R_sld cd_161_150 (by omega) (by omega) ?_
  refine R_aload cd_161_151 rfl ?_
  refine R_iload cd_161_152 rfl ?_
  refine R_push cd_161_154 ?_
  refine R_iadd cd_161_155 (by unfold qa_InR; first | omega | (simp [qa_upd, qa_blk] <;> omega)) ?_
  refine R_sld cd_161_156 (by omega) (by omega) ?_
  refine R_aload cd_161_157 rfl ?_
  refine R_iload cd_161_158 rfl ?_
  refine R_push cd_161_160 ?_
  refine R_iadd cd_161_161 (by unfold qa_InR; first | omega | (simp [qa_upd, qa_blk] <;> omega)) ?_
  refine R_sld cd_161_162 (by omega) (by omega) ?_
  refine R_aload cd_161_163 rfl ?_
  refine R_call5 cd_161_164 rfl rfl C ?_
  refine R_istore cd_161_167 ?_
  refine R_aload cd_161_169 rfl ?_
  refine R_aload cd_161_170 rfl ?_
  refine R_iload cd_161_171 rfl ?_
  refine R_push cd_161_173 ?_
  refine R_iadd cd_161_174 (by unfold qa_InR; first | omega | (simp [qa_upd, qa_blk] <;> omega)) ?_
  refine R_sld cd_161_175 (by omega) (by omega) ?_
  refine R_aload cd_161_176 rfl ?_
  refine R_iload cd_161_177 rfl ?_
  refine R_push cd_161_179 ?_
  refine R_iadd cd_161_180 (by unfold qa_InR; first | omega | (simp [qa_upd, qa_blk] <;> omega)) ?_
  refine R_sld cd_161_181 (by omega) (by omega) ?_
  refine R_aload cd_161_182 rfl ?_
  refine R_iload cd_161_183 rfl ?_
  refine R_push cd_161_185 ?_
  refine R_iadd cd_161_186 (by unfold qa_InR; first | omega | (simp [qa_upd, qa_blk] <;> omega)) ?_
  refine R_sld cd_161_187 (by omega) (by omega) ?_
  refine R_call4 cd_161_188 rfl rfl D ?_
  refine R_istore cd_161_191 ?_
  refine R_aload cd_161_193 rfl ?_
  refine R_call1 cd_161_194 rfl rfl K_Model_thrown ?_
  refine R_iload cd_161_197 rfl ?_
  refine R_icmp_eq 204 cd_161_199 rfl (fun b199 => ?_) (fun b199 => ?_)
  · refine R_iload cd_161_204 rfl ?_
    refine R_if_ne 221 cd_161_206 rfl (fun b206 => ?_) (fun b206 => ?_)
    · refine R_goto cd_161_221 ?_
      exact R_norm (qs_c rfl (qs_c rfl (qs_c rfl (qs_c rfl (qs_c rfl qs_n))))) K
    · refine R_aload cd_161_209 rfl ?_
      refine R_push cd_161_210 ?_
      refine R_lald cd_161_211 rfl (by omega) (by omega) ?_
      refine R_iload cd_161_212 rfl ?_
      refine R_i2l cd_161_214 ?_
      refine R_lcmp cd_161_215 ?_
      refine R_if_eq 221 cd_161_216 rfl (fun b216 => ?_) (fun b216 => ?_)
      · refine R_goto cd_161_221 ?_
        exact R_norm (qs_c rfl (qs_c rfl (qs_c rfl (qs_c rfl (qs_c rfl qs_n))))) K
      · exact absurd (by rw [S.2.1 b206]; exact qa_sgn_e) b216
  · exact absurd S.1 b199
theorem law_key {i : Int} {M : qa_Mem} (h : iv M) (i0 : 0 ≤ i) (i1 : i + 7 ≤ M 97 0) (hL : M 97 0 ≤ 3584) (hV : ∀ x : Int, 0 ≤ x → x < M 97 0 → M 98 x ≤ 2147483647) : ∃ M2, law_ok M M2 ∧ ∀ (r : qa_R) (M9 : qa_Mem), qa_E 161 1500 [(0, qr 998), (1, qr 0), (2, qr 6), (3, qr 7), (4, qi i)] [] M2 r M9 → qa_E 161 224 [(0, qr 998), (1, qr 0), (2, qr 6), (3, qr 7), (4, qi i)] [] M r M9 := by
  by_cases hs : M 98 (i + 6) = 0
  · skip
    obtain ⟨k, v, M1, M2, C, D, S⟩ := op_key (b := M 98 (i + 1)) (c := M 98 (i + 2)) (f := M 98 (i + 3)) (v := M 98 (i + 4)) (a := M 98 (i + 5)) (s := 0) h (Or.inl rfl)
    have fr := qa_frame C
    rw [← fr.2] at D
    have l1 : i + 7 ≤ M1 97 0 := by rw [fr.1]; exact i1
    refine ⟨M2, law_st S, fun r M9 K => ?_⟩
    refine R_aload cd_161_224 rfl ?_
    refine R_aload cd_161_225 rfl ?_
    refine R_iload cd_161_226 rfl ?_
    refine R_push cd_161_228 ?_
    refine R_iadd cd_161_229 (by unfold qa_InR; first | omega | (simp [qa_upd, qa_blk] <;> omega)) ?_
    refine R_sld cd_161_230 (by omega) (by omega) ?_
    refine R_aload cd_161_231 rfl ?_
    refine R_iload cd_161_232 rfl ?_
    refine R_push cd_161_234 ?_
    refine R_iadd cd_161_235 (by unfold qa_InR; first | omega | (simp [qa_upd, qa_blk] <;> omega)) ?_
    refine R_sld cd_161_236 (by omega) (by omega) ?_
    refine R_aload cd_161_237 rfl ?_
    refine R_iload cd_161_238 rfl ?_
    refine R_push cd_161_240 ?_
    refine R_iadd cd_161_241 (by unfold qa_InR; first | omega | (simp [qa_upd, qa_blk] <;> omega)) ?_
    refine R_sld cd_161_242 (by omega) (by omega) ?_
    refine R_aload cd_161_243 rfl ?_
    refine R_iload cd_161_244 rfl ?_
    refine R_push cd_161_246 ?_
    refine R_iadd cd_161_247 (by unfold qa_InR; first | omega | (simp [qa_upd, qa_blk] <;> omega)) ?_
    refine R_sld cd_161_248 (by omega) (by omega) ?_
    refine R_aload cd_161_249 rfl ?_
    refine R_iload cd_161_250 rfl ?_
    refine R_push cd_161_252 ?_
    refine R_iadd cd_161_253 (by unfold qa_InR; first | omega | (simp [qa_upd, qa_blk] <;> omega)) ?_
    refine R_sld cd_161_254 (by omega) (by omega) ?_
    refine R_aload cd_161_255 rfl ?_
    refine R_iload cd_161_256 rfl ?_
    refine R_push cd_161_258 ?_
    refine R_iadd cd_161_260 (by unfold qa_InR; first | omega | (simp [qa_upd, qa_blk] <;> omega)) ?_
    refine R_sld cd_161_261 (by omega) (by omega) ?_
    refine R_if_eq 269 cd_161_262 rfl (fun b262 => ?_) (fun b262 => ?_)
    · refine R_push cd_161_269 ?_
      refine R_aload cd_161_270 rfl ?_
      refine R_call8 cd_161_271 rfl rfl C ?_
      refine R_istore cd_161_274 ?_
      refine R_aload cd_161_276 rfl ?_
      refine R_aload cd_161_277 rfl ?_
      refine R_iload cd_161_278 rfl ?_
      refine R_push cd_161_280 ?_
      refine R_iadd cd_161_281 (by unfold qa_InR; first | omega | (simp [qa_upd, qa_blk] <;> omega)) ?_
      refine R_sld cd_161_282 (by omega) (by omega) ?_
      refine R_aload cd_161_283 rfl ?_
      refine R_iload cd_161_284 rfl ?_
      refine R_push cd_161_286 ?_
      refine R_iadd cd_161_287 (by unfold qa_InR; first | omega | (simp [qa_upd, qa_blk] <;> omega)) ?_
      refine R_sld cd_161_288 (by omega) (by omega) ?_
      refine R_aload cd_161_289 rfl ?_
      refine R_iload cd_161_290 rfl ?_
      refine R_push cd_161_292 ?_
      refine R_iadd cd_161_293 (by unfold qa_InR; first | omega | (simp [qa_upd, qa_blk] <;> omega)) ?_
      refine R_sld cd_161_294 (by omega) (by omega) ?_
      refine R_aload cd_161_295 rfl ?_
      refine R_iload cd_161_296 rfl ?_
      refine R_push cd_161_298 ?_
      refine R_iadd cd_161_299 (by unfold qa_InR; first | omega | (simp [qa_upd, qa_blk] <;> omega)) ?_
      refine R_sld cd_161_300 (by omega) (by omega) ?_
      refine R_aload cd_161_301 rfl ?_
      refine R_iload cd_161_302 rfl ?_
      refine R_push cd_161_304 ?_
      refine R_iadd cd_161_305 (by unfold qa_InR; first | omega | (simp [qa_upd, qa_blk] <;> omega)) ?_
      refine R_sld cd_161_306 (by omega) (by omega) ?_
      refine R_aload cd_161_307 rfl ?_
      refine R_iload cd_161_308 rfl ?_
      refine R_push cd_161_310 ?_
      refine R_iadd cd_161_312 (by unfold qa_InR; first | omega | (simp [qa_upd, qa_blk] <;> omega)) ?_
      refine R_sld cd_161_313 (by omega) (by omega) ?_
      refine R_if_eq 321 cd_161_314 rfl (fun b314 => ?_) (fun b314 => ?_)
      · refine R_push cd_161_321 ?_
        refine R_call7 cd_161_322 rfl rfl D ?_
        refine R_istore cd_161_325 ?_
        refine R_aload cd_161_327 rfl ?_
        refine R_call1 cd_161_328 rfl rfl K_Model_thrown ?_
        refine R_iload cd_161_331 rfl ?_
        refine R_icmp_eq 338 cd_161_333 rfl (fun b333 => ?_) (fun b333 => ?_)
        · refine R_iload cd_161_338 rfl ?_
          refine R_if_ne 355 cd_161_340 rfl (fun b340 => ?_) (fun b340 => ?_)
          · refine R_goto cd_161_355 ?_
            exact R_norm (qs_c rfl (qs_c rfl (qs_c rfl (qs_c rfl (qs_c rfl qs_n))))) K
          · refine R_aload cd_161_343 rfl ?_
            refine R_push cd_161_344 ?_
            refine R_lald cd_161_345 rfl (by omega) (by omega) ?_
            refine R_iload cd_161_346 rfl ?_
            refine R_i2l cd_161_348 ?_
            refine R_lcmp cd_161_349 ?_
            refine R_if_eq 355 cd_161_350 rfl (fun b350 => ?_) (fun b350 => ?_)
            · refine R_goto cd_161_355 ?_
              exact R_norm (qs_c rfl (qs_c rfl (qs_c rfl (qs_c rfl (qs_c rfl qs_n))))) K
            · exact absurd (by rw [S.2.1 b340]; exact qa_sgn_e) b350
        · exact absurd S.1 b333
      · exact absurd (by rw [fr.2]; exact hs) b314
    · exact absurd hs b262
  · skip
    obtain ⟨k, v, M1, M2, C, D, S⟩ := op_key (b := M 98 (i + 1)) (c := M 98 (i + 2)) (f := M 98 (i + 3)) (v := M 98 (i + 4)) (a := M 98 (i + 5)) (s := 1) h (Or.inr rfl)
    have fr := qa_frame C
    rw [← fr.2] at D
    have l1 : i + 7 ≤ M1 97 0 := by rw [fr.1]; exact i1
    refine ⟨M2, law_st S, fun r M9 K => ?_⟩
    refine R_aload cd_161_224 rfl ?_
    refine R_aload cd_161_225 rfl ?_
    refine R_iload cd_161_226 rfl ?_
    refine R_push cd_161_228 ?_
    refine R_iadd cd_161_229 (by unfold qa_InR; first | omega | (simp [qa_upd, qa_blk] <;> omega)) ?_
    refine R_sld cd_161_230 (by omega) (by omega) ?_
    refine R_aload cd_161_231 rfl ?_
    refine R_iload cd_161_232 rfl ?_
    refine R_push cd_161_234 ?_
    refine R_iadd cd_161_235 (by unfold qa_InR; first | omega | (simp [qa_upd, qa_blk] <;> omega)) ?_
    refine R_sld cd_161_236 (by omega) (by omega) ?_
    refine R_aload cd_161_237 rfl ?_
    refine R_iload cd_161_238 rfl ?_
    refine R_push cd_161_240 ?_
    refine R_iadd cd_161_241 (by unfold qa_InR; first | omega | (simp [qa_upd, qa_blk] <;> omega)) ?_
    refine R_sld cd_161_242 (by omega) (by omega) ?_
    refine R_aload cd_161_243 rfl ?_
    refine R_iload cd_161_244 rfl ?_
    refine R_push cd_161_246 ?_
    refine R_iadd cd_161_247 (by unfold qa_InR; first | omega | (simp [qa_upd, qa_blk] <;> omega)) ?_
    refine R_sld cd_161_248 (by omega) (by omega) ?_
    refine R_aload cd_161_249 rfl ?_
    refine R_iload cd_161_250 rfl ?_
    refine R_push cd_161_252 ?_
    refine R_iadd cd_161_253 (by unfold qa_InR; first | omega | (simp [qa_upd, qa_blk] <;> omega)) ?_
    refine R_sld cd_161_254 (by omega) (by omega) ?_
    refine R_aload cd_161_255 rfl ?_
    refine R_iload cd_161_256 rfl ?_
    refine R_push cd_161_258 ?_
    refine R_iadd cd_161_260 (by unfold qa_InR; first | omega | (simp [qa_upd, qa_blk] <;> omega)) ?_
    refine R_sld cd_161_261 (by omega) (by omega) ?_
    refine R_if_eq 269 cd_161_262 rfl (fun b262 => ?_) (fun b262 => ?_)
    · exact absurd b262 hs
    · refine R_push cd_161_265 ?_
      refine R_goto cd_161_266 ?_
      refine R_aload cd_161_270 rfl ?_
      refine R_call8 cd_161_271 rfl rfl C ?_
      refine R_istore cd_161_274 ?_
      refine R_aload cd_161_276 rfl ?_
      refine R_aload cd_161_277 rfl ?_
      refine R_iload cd_161_278 rfl ?_
      refine R_push cd_161_280 ?_
      refine R_iadd cd_161_281 (by unfold qa_InR; first | omega | (simp [qa_upd, qa_blk] <;> omega)) ?_
      refine R_sld cd_161_282 (by omega) (by omega) ?_
      refine R_aload cd_161_283 rfl ?_
      refine R_iload cd_161_284 rfl ?_
      refine R_push cd_161_286 ?_
      refine R_iadd cd_161_287 (by unfold qa_InR; first | omega | (simp [qa_upd, qa_blk] <;> omega)) ?_
      refine R_sld cd_161_288 (by omega) (by omega) ?_
      refine R_aload cd_161_289 rfl ?_
      refine R_iload cd_161_290 rfl ?_
      refine R_push cd_161_292 ?_
      refine R_iadd cd_161_293 (by unfold qa_InR; first | omega | (simp [qa_upd, qa_blk] <;> omega)) ?_
      refine R_sld cd_161_294 (by omega) (by omega) ?_
      refine R_aload cd_161_295 rfl ?_
      refine R_iload cd_161_296 rfl ?_
      refine R_push cd_161_298 ?_
      refine R_iadd cd_161_299 (by unfold qa_InR; first | omega | (simp [qa_upd, qa_blk] <;> omega)) ?_
      refine R_sld cd_161_300 (by omega) (by omega) ?_
      refine R_aload cd_161_301 rfl ?_
      refine R_iload cd_161_302 rfl ?_
      refine R_push cd_161_304 ?_
      refine R_iadd cd_161_305 (by unfold qa_InR; first | omega | (simp [qa_upd, qa_blk] <;> omega)) ?_
      refine R_sld cd_161_306 (by omega) (by omega) ?_
      refine R_aload cd_161_307 rfl ?_
      refine R_iload cd_161_308 rfl ?_
      refine R_push cd_161_310 ?_
      refine R_iadd cd_161_312 (by unfold qa_InR; first | omega | (simp [qa_upd, qa_blk] <;> omega)) ?_
      refine R_sld cd_161_313 (by omega) (by omega) ?_
      refine R_if_eq 321 cd_161_314 rfl (fun b314 => ?_) (fun b314 => ?_)
      · exact absurd b314 (by rw [fr.2]; exact hs)
      · refine R_push cd_161_317 ?_
        refine R_goto cd_161_318 ?_
        refine R_call7 cd_161_322 rfl rfl D ?_
        refine R_istore cd_161_325 ?_
        refine R_aload cd_161_327 rfl ?_
        refine R_call1 cd_161_328 rfl rfl K_Model_thrown ?_
        refine R_iload cd_161_331 rfl ?_
        refine R_icmp_eq 338 cd_161_333 rfl (fun b333 => ?_) (fun b333 => ?_)
        · refine R_iload cd_161_338 rfl ?_
          refine R_if_ne 355 cd_161_340 rfl (fun b340 => ?_) (fun b340 => ?_)
          · refine R_goto cd_161_355 ?_
            exact R_norm (qs_c rfl (qs_c rfl (qs_c rfl (qs_c rfl (qs_c rfl qs_n))))) K
          · refine R_aload cd_161_343 rfl ?_
            refine R_push cd_161_344 ?_
            refine R_lald cd_161_345 rfl (by omega) (by omega) ?_
            refine R_iload cd_161_346 rfl ?_
            refine R_i2l cd_161_348 ?_
            refine R_lcmp cd_161_349 ?_
            refine R_if_eq 355 cd_161_350 rfl (fun b350 => ?_) (fun b350 => ?_)
            · refine R_goto cd_161_355 ?_
              exact R_norm (qs_c rfl (qs_c rfl (qs_c rfl (qs_c rfl (qs_c rfl qs_n))))) K
            · exact absurd (by rw [S.2.1 b340]; exact qa_sgn_e) b350
        · exact absurd S.1 b333
theorem law_unkey {i : Int} {M : qa_Mem} (h : iv M) (i0 : 0 ≤ i) (i1 : i + 7 ≤ M 97 0) (hL : M 97 0 ≤ 3584) (hV : ∀ x : Int, 0 ≤ x → x < M 97 0 → M 98 x ≤ 2147483647) : ∃ M2, law_ok M M2 ∧ ∀ (r : qa_R) (M9 : qa_Mem), qa_E 161 1500 [(0, qr 998), (1, qr 0), (2, qr 6), (3, qr 7), (4, qi i)] [] M2 r M9 → qa_E 161 358 [(0, qr 998), (1, qr 0), (2, qr 6), (3, qr 7), (4, qi i)] [] M r M9 := by
  obtain ⟨k, v, M1, M2, C, D, S⟩ := op_unkey (b := M 98 (i + 1)) (c := M 98 (i + 2)) (f := M 98 (i + 3)) h
  have fr := qa_frame C
  rw [← fr.2] at D
  have l1 : i + 7 ≤ M1 97 0 := by rw [fr.1]; exact i1
  refine ⟨M2, law_st S, fun r M9 K => ?_⟩
  refine R_aload cd_161_358 rfl ?_
  refine R_aload cd_161_359 rfl ?_
  refine R_iload cd_161_360 rfl ?_
  refine R_push cd_161_362 ?_
  refine R_iadd cd_161_363 (by unfold qa_InR; first | omega | (simp [qa_upd, qa_blk] <;> omega)) ?_
  refine R_sld cd_161_364 (by omega) (by omega) ?_
  refine R_aload cd_161_365 rfl ?_
  refine R_iload cd_161_366 rfl ?_
  refine R_push cd_161_368 ?_
  refine R_iadd cd_161_369 (by unfold qa_InR; first | omega | (simp [qa_upd, qa_blk] <;> omega)) ?_
  refine R_sld cd_161_370 (by omega) (by omega) ?_
  refine R_aload cd_161_371 rfl ?_
  refine R_iload cd_161_372 rfl ?_
  refine R_push cd_161_374 ?_
  refine R_iadd cd_161_375 (by unfold qa_InR; first | omega | (simp [qa_upd, qa_blk] <;> omega)) ?_
  refine R_sld cd_161_376 (by omega) (by omega) ?_
  refine R_aload cd_161_377 rfl ?_
  refine R_call5 cd_161_378 rfl rfl C ?_
  refine R_istore cd_161_381 ?_
  refine R_aload cd_161_383 rfl ?_
  refine R_aload cd_161_384 rfl ?_
  refine R_iload cd_161_385 rfl ?_
  refine R_push cd_161_387 ?_
  refine R_iadd cd_161_388 (by unfold qa_InR; first | omega | (simp [qa_upd, qa_blk] <;> omega)) ?_
  refine R_sld cd_161_389 (by omega) (by omega) ?_
  refine R_aload cd_161_390 rfl ?_
  refine R_iload cd_161_391 rfl ?_
  refine R_push cd_161_393 ?_
  refine R_iadd cd_161_394 (by unfold qa_InR; first | omega | (simp [qa_upd, qa_blk] <;> omega)) ?_
  refine R_sld cd_161_395 (by omega) (by omega) ?_
  refine R_aload cd_161_396 rfl ?_
  refine R_iload cd_161_397 rfl ?_
  refine R_push cd_161_399 ?_
  refine R_iadd cd_161_400 (by unfold qa_InR; first | omega | (simp [qa_upd, qa_blk] <;> omega)) ?_
  refine R_sld cd_161_401 (by omega) (by omega) ?_
  refine R_call4 cd_161_402 rfl rfl D ?_
  refine R_istore cd_161_405 ?_
  refine R_aload cd_161_407 rfl ?_
  refine R_call1 cd_161_408 rfl rfl K_Model_thrown ?_
  refine R_iload cd_161_411 rfl ?_
  refine R_icmp_eq 418 cd_161_413 rfl (fun b413 => ?_) (fun b413 => ?_)
  · refine R_iload cd_161_418 rfl ?_
    refine R_if_ne 435 cd_161_420 rfl (fun b420 => ?_) (fun b420 => ?_)
    · refine R_goto cd_161_435 ?_
      exact R_norm (qs_c rfl (qs_c rfl (qs_c rfl (qs_c rfl (qs_c rfl qs_n))))) K
    · refine R_aload cd_161_423 rfl ?_
      refine R_push cd_161_424 ?_
      refine R_lald cd_161_425 rfl (by omega) (by omega) ?_
      refine R_iload cd_161_426 rfl ?_
      refine R_i2l cd_161_428 ?_
      refine R_lcmp cd_161_429 ?_
      refine R_if_eq 435 cd_161_430 rfl (fun b430 => ?_) (fun b430 => ?_)
      · refine R_goto cd_161_435 ?_
        exact R_norm (qs_c rfl (qs_c rfl (qs_c rfl (qs_c rfl (qs_c rfl qs_n))))) K
      · exact absurd (by rw [S.2.1 b420]; exact qa_sgn_e) b430
  · exact absurd S.1 b413
theorem law_value {i : Int} {M : qa_Mem} (h : iv M) (i0 : 0 ≤ i) (i1 : i + 7 ≤ M 97 0) (hL : M 97 0 ≤ 3584) (hV : ∀ x : Int, 0 ≤ x → x < M 97 0 → M 98 x ≤ 2147483647) : ∃ M2, law_ok M M2 ∧ ∀ (r : qa_R) (M9 : qa_Mem), qa_E 161 1500 [(0, qr 998), (1, qr 0), (2, qr 6), (3, qr 7), (4, qi i)] [] M2 r M9 → qa_E 161 438 [(0, qr 998), (1, qr 0), (2, qr 6), (3, qr 7), (4, qi i)] [] M r M9 := by
  obtain ⟨k, v, M1, M2, C, D, S⟩ := op_value (b := M 98 (i + 1)) (c := M 98 (i + 2)) (f := M 98 (i + 3)) h
  have fr := qa_frame C
  rw [← fr.2] at D
  have l1 : i + 7 ≤ M1 97 0 := by rw [fr.1]; exact i1
  refine ⟨M2, law_st S, fun r M9 K => ?_⟩
  refine R_aload cd_161_438 rfl ?_
  refine R_aload cd_161_439 rfl ?_
  refine R_iload cd_161_440 rfl ?_
  refine R_push cd_161_442 ?_
  refine R_iadd cd_161_443 (by unfold qa_InR; first | omega | (simp [qa_upd, qa_blk] <;> omega)) ?_
  refine R_sld cd_161_444 (by omega) (by omega) ?_
  refine R_aload cd_161_445 rfl ?_
  refine R_iload cd_161_446 rfl ?_
  refine R_push cd_161_448 ?_
  refine R_iadd cd_161_449 (by unfold qa_InR; first | omega | (simp [qa_upd, qa_blk] <;> omega)) ?_
  refine R_sld cd_161_450 (by omega) (by omega) ?_
  refine R_aload cd_161_451 rfl ?_
  refine R_iload cd_161_452 rfl ?_
  refine R_push cd_161_454 ?_
  refine R_iadd cd_161_455 (by unfold qa_InR; first | omega | (simp [qa_upd, qa_blk] <;> omega)) ?_
  refine R_sld cd_161_456 (by omega) (by omega) ?_
  refine R_aload cd_161_457 rfl ?_
  refine R_call5 cd_161_458 rfl rfl C ?_
  refine R_istore cd_161_461 ?_
  refine R_aload cd_161_463 rfl ?_
  refine R_aload cd_161_464 rfl ?_
  refine R_iload cd_161_465 rfl ?_
  refine R_push cd_161_467 ?_
  refine R_iadd cd_161_468 (by unfold qa_InR; first | omega | (simp [qa_upd, qa_blk] <;> omega)) ?_
  refine R_sld cd_161_469 (by omega) (by omega) ?_
  refine R_aload cd_161_470 rfl ?_
  refine R_iload cd_161_471 rfl ?_
  refine R_push cd_161_473 ?_
  refine R_iadd cd_161_474 (by unfold qa_InR; first | omega | (simp [qa_upd, qa_blk] <;> omega)) ?_
  refine R_sld cd_161_475 (by omega) (by omega) ?_
  refine R_aload cd_161_476 rfl ?_
  refine R_iload cd_161_477 rfl ?_
  refine R_push cd_161_479 ?_
  refine R_iadd cd_161_480 (by unfold qa_InR; first | omega | (simp [qa_upd, qa_blk] <;> omega)) ?_
  refine R_sld cd_161_481 (by omega) (by omega) ?_
  refine R_call4 cd_161_482 rfl rfl D ?_
  refine R_istore cd_161_485 ?_
  refine R_aload cd_161_487 rfl ?_
  refine R_call1 cd_161_488 rfl rfl K_Model_thrown ?_
  refine R_iload cd_161_491 rfl ?_
  refine R_icmp_eq 498 cd_161_493 rfl (fun b493 => ?_) (fun b493 => ?_)
  · refine R_iload cd_161_498 rfl ?_
    refine R_if_ne 515 cd_161_500 rfl (fun b500 => ?_) (fun b500 => ?_)
    · refine R_goto cd_161_515 ?_
      exact R_norm (qs_c rfl (qs_c rfl (qs_c rfl (qs_c rfl (qs_c rfl qs_n))))) K
    · refine R_aload cd_161_503 rfl ?_
      refine R_push cd_161_504 ?_
      refine R_lald cd_161_505 rfl (by omega) (by omega) ?_
      refine R_iload cd_161_506 rfl ?_
      refine R_i2l cd_161_508 ?_
      refine R_lcmp cd_161_509 ?_
      refine R_if_eq 515 cd_161_510 rfl (fun b510 => ?_) (fun b510 => ?_)
      · refine R_goto cd_161_515 ?_
        exact R_norm (qs_c rfl (qs_c rfl (qs_c rfl (qs_c rfl (qs_c rfl qs_n))))) K
      · exact absurd (by rw [S.2.1 b500]; exact qa_sgn_e) b510
  · exact absurd S.1 b493
theorem law_span {i : Int} {M : qa_Mem} (h : iv M) (i0 : 0 ≤ i) (i1 : i + 7 ≤ M 97 0) (hL : M 97 0 ≤ 3584) (hV : ∀ x : Int, 0 ≤ x → x < M 97 0 → M 98 x ≤ 2147483647) : ∃ M2, law_ok M M2 ∧ ∀ (r : qa_R) (M9 : qa_Mem), qa_E 161 1500 [(0, qr 998), (1, qr 0), (2, qr 6), (3, qr 7), (4, qi i)] [] M2 r M9 → qa_E 161 518 [(0, qr 998), (1, qr 0), (2, qr 6), (3, qr 7), (4, qi i)] [] M r M9 := by
  obtain ⟨k, v, M1, M2, C, D, S⟩ := op_span (b := M 98 (i + 1)) (c := M 98 (i + 2)) (f := M 98 (i + 3)) h
  have fr := qa_frame C
  rw [← fr.2] at D
  have l1 : i + 7 ≤ M1 97 0 := by rw [fr.1]; exact i1
  refine ⟨M2, law_st S, fun r M9 K => ?_⟩
  refine R_aload cd_161_518 rfl ?_
  refine R_aload cd_161_519 rfl ?_
  refine R_iload cd_161_520 rfl ?_
  refine R_push cd_161_522 ?_
  refine R_iadd cd_161_523 (by unfold qa_InR; first | omega | (simp [qa_upd, qa_blk] <;> omega)) ?_
  refine R_sld cd_161_524 (by omega) (by omega) ?_
  refine R_aload cd_161_525 rfl ?_
  refine R_iload cd_161_526 rfl ?_
  refine R_push cd_161_528 ?_
  refine R_iadd cd_161_529 (by unfold qa_InR; first | omega | (simp [qa_upd, qa_blk] <;> omega)) ?_
  refine R_sld cd_161_530 (by omega) (by omega) ?_
  refine R_aload cd_161_531 rfl ?_
  refine R_iload cd_161_532 rfl ?_
  refine R_push cd_161_534 ?_
  refine R_iadd cd_161_535 (by unfold qa_InR; first | omega | (simp [qa_upd, qa_blk] <;> omega)) ?_
  refine R_sld cd_161_536 (by omega) (by omega) ?_
  refine R_aload cd_161_537 rfl ?_
  refine R_call5 cd_161_538 rfl rfl C ?_
  refine R_istore cd_161_541 ?_
  refine R_aload cd_161_543 rfl ?_
  refine R_aload cd_161_544 rfl ?_
  refine R_iload cd_161_545 rfl ?_
  refine R_push cd_161_547 ?_
  refine R_iadd cd_161_548 (by unfold qa_InR; first | omega | (simp [qa_upd, qa_blk] <;> omega)) ?_
  refine R_sld cd_161_549 (by omega) (by omega) ?_
  refine R_aload cd_161_550 rfl ?_
  refine R_iload cd_161_551 rfl ?_
  refine R_push cd_161_553 ?_
  refine R_iadd cd_161_554 (by unfold qa_InR; first | omega | (simp [qa_upd, qa_blk] <;> omega)) ?_
  refine R_sld cd_161_555 (by omega) (by omega) ?_
  refine R_aload cd_161_556 rfl ?_
  refine R_iload cd_161_557 rfl ?_
  refine R_push cd_161_559 ?_
  refine R_iadd cd_161_560 (by unfold qa_InR; first | omega | (simp [qa_upd, qa_blk] <;> omega)) ?_
  refine R_sld cd_161_561 (by omega) (by omega) ?_
  refine R_call4 cd_161_562 rfl rfl D ?_
  refine R_istore cd_161_565 ?_
  refine R_aload cd_161_567 rfl ?_
  refine R_call1 cd_161_568 rfl rfl K_Model_thrown ?_
  refine R_iload cd_161_571 rfl ?_
  refine R_icmp_eq 578 cd_161_573 rfl (fun b573 => ?_) (fun b573 => ?_)
  · refine R_iload cd_161_578 rfl ?_
    refine R_if_ne 595 cd_161_580 rfl (fun b580 => ?_) (fun b580 => ?_)
    · refine R_goto cd_161_595 ?_
      exact R_norm (qs_c rfl (qs_c rfl (qs_c rfl (qs_c rfl (qs_c rfl qs_n))))) K
    · refine R_aload cd_161_583 rfl ?_
      refine R_push cd_161_584 ?_
      refine R_lald cd_161_585 rfl (by omega) (by omega) ?_
      refine R_iload cd_161_586 rfl ?_
      refine R_i2l cd_161_588 ?_
      refine R_lcmp cd_161_589 ?_
      refine R_if_eq 595 cd_161_590 rfl (fun b590 => ?_) (fun b590 => ?_)
      · refine R_goto cd_161_595 ?_
        exact R_norm (qs_c rfl (qs_c rfl (qs_c rfl (qs_c rfl (qs_c rfl qs_n))))) K
      · exact absurd (by rw [S.2.1 b580]; exact qa_sgn_e) b590
  · exact absurd S.1 b573
theorem law_keyAt {i : Int} {M : qa_Mem} (h : iv M) (i0 : 0 ≤ i) (i1 : i + 7 ≤ M 97 0) (hL : M 97 0 ≤ 3584) (hV : ∀ x : Int, 0 ≤ x → x < M 97 0 → M 98 x ≤ 2147483647) : ∃ M2, law_ok M M2 ∧ ∀ (r : qa_R) (M9 : qa_Mem), qa_E 161 1500 [(0, qr 998), (1, qr 0), (2, qr 6), (3, qr 7), (4, qi i)] [] M2 r M9 → qa_E 161 598 [(0, qr 998), (1, qr 0), (2, qr 6), (3, qr 7), (4, qi i)] [] M r M9 := by
  obtain ⟨k, v, M1, M2, C, D, S⟩ := op_keyAt (p := M 98 (i + 1)) h (hV (i + 1) (by omega) (by omega))
  have fr := qa_frame C
  rw [← fr.2] at D
  have l1 : i + 7 ≤ M1 97 0 := by rw [fr.1]; exact i1
  refine ⟨M2, law_st S, fun r M9 K => ?_⟩
  refine R_aload cd_161_598 rfl ?_
  refine R_aload cd_161_599 rfl ?_
  refine R_iload cd_161_600 rfl ?_
  refine R_push cd_161_602 ?_
  refine R_iadd cd_161_603 (by unfold qa_InR; first | omega | (simp [qa_upd, qa_blk] <;> omega)) ?_
  refine R_sld cd_161_604 (by omega) (by omega) ?_
  refine R_aload cd_161_605 rfl ?_
  refine R_call3 cd_161_606 rfl rfl C ?_
  refine R_istore cd_161_609 ?_
  refine R_aload cd_161_611 rfl ?_
  refine R_aload cd_161_612 rfl ?_
  refine R_iload cd_161_613 rfl ?_
  refine R_push cd_161_615 ?_
  refine R_iadd cd_161_616 (by unfold qa_InR; first | omega | (simp [qa_upd, qa_blk] <;> omega)) ?_
  refine R_sld cd_161_617 (by omega) (by omega) ?_
  refine R_call2 cd_161_618 rfl rfl D ?_
  refine R_istore cd_161_621 ?_
  refine R_aload cd_161_623 rfl ?_
  refine R_call1 cd_161_624 rfl rfl K_Model_thrown ?_
  refine R_iload cd_161_627 rfl ?_
  refine R_icmp_eq 634 cd_161_629 rfl (fun b629 => ?_) (fun b629 => ?_)
  · refine R_iload cd_161_634 rfl ?_
    refine R_if_ne 651 cd_161_636 rfl (fun b636 => ?_) (fun b636 => ?_)
    · refine R_goto cd_161_651 ?_
      exact R_norm (qs_c rfl (qs_c rfl (qs_c rfl (qs_c rfl (qs_c rfl qs_n))))) K
    · refine R_aload cd_161_639 rfl ?_
      refine R_push cd_161_640 ?_
      refine R_lald cd_161_641 rfl (by omega) (by omega) ?_
      refine R_iload cd_161_642 rfl ?_
      refine R_i2l cd_161_644 ?_
      refine R_lcmp cd_161_645 ?_
      refine R_if_eq 651 cd_161_646 rfl (fun b646 => ?_) (fun b646 => ?_)
      · refine R_goto cd_161_651 ?_
        exact R_norm (qs_c rfl (qs_c rfl (qs_c rfl (qs_c rfl (qs_c rfl qs_n))))) K
      · exact absurd (by rw [S.2.1 b636]; exact qa_sgn_e) b646
  · exact absurd S.1 b629
theorem law_place {i : Int} {M : qa_Mem} (h : iv M) (i0 : 0 ≤ i) (i1 : i + 7 ≤ M 97 0) (hL : M 97 0 ≤ 3584) (hV : ∀ x : Int, 0 ≤ x → x < M 97 0 → M 98 x ≤ 2147483647) : ∃ M2, law_ok M M2 ∧ ∀ (r : qa_R) (M9 : qa_Mem), qa_E 161 1500 [(0, qr 998), (1, qr 0), (2, qr 6), (3, qr 7), (4, qi i)] [] M2 r M9 → qa_E 161 654 [(0, qr 998), (1, qr 0), (2, qr 6), (3, qr 7), (4, qi i)] [] M r M9 := by
  obtain ⟨k, v, M1, M2, C, D, S⟩ := op_place (b := M 98 (i + 1)) (f := M 98 (i + 2)) h
  have fr := qa_frame C
  rw [← fr.2] at D
  have l1 : i + 7 ≤ M1 97 0 := by rw [fr.1]; exact i1
  refine ⟨M2, law_st S, fun r M9 K => ?_⟩
  refine R_aload cd_161_654 rfl ?_
  refine R_aload cd_161_655 rfl ?_
  refine R_iload cd_161_656 rfl ?_
  refine R_push cd_161_658 ?_
  refine R_iadd cd_161_659 (by unfold qa_InR; first | omega | (simp [qa_upd, qa_blk] <;> omega)) ?_
  refine R_sld cd_161_660 (by omega) (by omega) ?_
  refine R_aload cd_161_661 rfl ?_
  refine R_iload cd_161_662 rfl ?_
  refine R_push cd_161_664 ?_
  refine R_iadd cd_161_665 (by unfold qa_InR; first | omega | (simp [qa_upd, qa_blk] <;> omega)) ?_
  refine R_sld cd_161_666 (by omega) (by omega) ?_
  refine R_aload cd_161_667 rfl ?_
  refine R_call4 cd_161_668 rfl rfl C ?_
  refine R_istore cd_161_671 ?_
  refine R_aload cd_161_673 rfl ?_
  refine R_aload cd_161_674 rfl ?_
  refine R_iload cd_161_675 rfl ?_
  refine R_push cd_161_677 ?_
  refine R_iadd cd_161_678 (by unfold qa_InR; first | omega | (simp [qa_upd, qa_blk] <;> omega)) ?_
  refine R_sld cd_161_679 (by omega) (by omega) ?_
  refine R_aload cd_161_680 rfl ?_
  refine R_iload cd_161_681 rfl ?_
  refine R_push cd_161_683 ?_
  refine R_iadd cd_161_684 (by unfold qa_InR; first | omega | (simp [qa_upd, qa_blk] <;> omega)) ?_
  refine R_sld cd_161_685 (by omega) (by omega) ?_
  refine R_call3 cd_161_686 rfl rfl D ?_
  refine R_istore cd_161_689 ?_
  refine R_aload cd_161_691 rfl ?_
  refine R_call1 cd_161_692 rfl rfl K_Model_thrown ?_
  refine R_iload cd_161_695 rfl ?_
  refine R_icmp_eq 702 cd_161_697 rfl (fun b697 => ?_) (fun b697 => ?_)
  · refine R_iload cd_161_702 rfl ?_
    refine R_if_ne 719 cd_161_704 rfl (fun b704 => ?_) (fun b704 => ?_)
    · refine R_goto cd_161_719 ?_
      exact R_norm (qs_c rfl (qs_c rfl (qs_c rfl (qs_c rfl (qs_c rfl qs_n))))) K
    · refine R_aload cd_161_707 rfl ?_
      refine R_push cd_161_708 ?_
      refine R_lald cd_161_709 rfl (by omega) (by omega) ?_
      refine R_iload cd_161_710 rfl ?_
      refine R_i2l cd_161_712 ?_
      refine R_lcmp cd_161_713 ?_
      refine R_if_eq 719 cd_161_714 rfl (fun b714 => ?_) (fun b714 => ?_)
      · refine R_goto cd_161_719 ?_
        exact R_norm (qs_c rfl (qs_c rfl (qs_c rfl (qs_c rfl (qs_c rfl qs_n))))) K
      · exact absurd (by rw [S.2.1 b704]; exact qa_sgn_e) b714
  · exact absurd S.1 b697
theorem law_artists {i : Int} {M : qa_Mem} (h : iv M) (i0 : 0 ≤ i) (i1 : i + 7 ≤ M 97 0) (hL : M 97 0 ≤ 3584) (hV : ∀ x : Int, 0 ≤ x → x < M 97 0 → M 98 x ≤ 2147483647) : ∃ M2, law_ok M M2 ∧ ∀ (r : qa_R) (M9 : qa_Mem), qa_E 161 1500 [(0, qr 998), (1, qr 0), (2, qr 6), (3, qr 7), (4, qi i)] [] M2 r M9 → qa_E 161 722 [(0, qr 998), (1, qr 0), (2, qr 6), (3, qr 7), (4, qi i)] [] M r M9 := by
  obtain ⟨k, v, M1, M2, C, D, S⟩ := op_artists (f := M 98 (i + 1)) h
  have fr := qa_frame C
  rw [← fr.2] at D
  have l1 : i + 7 ≤ M1 97 0 := by rw [fr.1]; exact i1
  refine ⟨M2, law_st S, fun r M9 K => ?_⟩
  refine R_aload cd_161_722 rfl ?_
  refine R_aload cd_161_723 rfl ?_
  refine R_iload cd_161_724 rfl ?_
  refine R_push cd_161_726 ?_
  refine R_iadd cd_161_727 (by unfold qa_InR; first | omega | (simp [qa_upd, qa_blk] <;> omega)) ?_
  refine R_sld cd_161_728 (by omega) (by omega) ?_
  refine R_aload cd_161_729 rfl ?_
  refine R_call3 cd_161_730 rfl rfl C ?_
  refine R_istore cd_161_733 ?_
  refine R_aload cd_161_735 rfl ?_
  refine R_aload cd_161_736 rfl ?_
  refine R_iload cd_161_737 rfl ?_
  refine R_push cd_161_739 ?_
  refine R_iadd cd_161_740 (by unfold qa_InR; first | omega | (simp [qa_upd, qa_blk] <;> omega)) ?_
  refine R_sld cd_161_741 (by omega) (by omega) ?_
  refine R_call2 cd_161_742 rfl rfl D ?_
  refine R_istore cd_161_745 ?_
  refine R_aload cd_161_747 rfl ?_
  refine R_call1 cd_161_748 rfl rfl K_Model_thrown ?_
  refine R_iload cd_161_751 rfl ?_
  refine R_icmp_eq 758 cd_161_753 rfl (fun b753 => ?_) (fun b753 => ?_)
  · refine R_iload cd_161_758 rfl ?_
    refine R_if_ne 775 cd_161_760 rfl (fun b760 => ?_) (fun b760 => ?_)
    · refine R_goto cd_161_775 ?_
      exact R_norm (qs_c rfl (qs_c rfl (qs_c rfl (qs_c rfl (qs_c rfl qs_n))))) K
    · refine R_aload cd_161_763 rfl ?_
      refine R_push cd_161_764 ?_
      refine R_lald cd_161_765 rfl (by omega) (by omega) ?_
      refine R_iload cd_161_766 rfl ?_
      refine R_i2l cd_161_768 ?_
      refine R_lcmp cd_161_769 ?_
      refine R_if_eq 775 cd_161_770 rfl (fun b770 => ?_) (fun b770 => ?_)
      · refine R_goto cd_161_775 ?_
        exact R_norm (qs_c rfl (qs_c rfl (qs_c rfl (qs_c rfl (qs_c rfl qs_n))))) K
      · exact absurd (by rw [S.2.1 b760]; exact qa_sgn_e) b770
  · exact absurd S.1 b753
theorem law_cut {i : Int} {M : qa_Mem} (h : iv M) (i0 : 0 ≤ i) (i1 : i + 7 ≤ M 97 0) (hL : M 97 0 ≤ 3584) (hV : ∀ x : Int, 0 ≤ x → x < M 97 0 → M 98 x ≤ 2147483647) : ∃ M2, law_ok M M2 ∧ ∀ (r : qa_R) (M9 : qa_Mem), qa_E 161 1500 [(0, qr 998), (1, qr 0), (2, qr 6), (3, qr 7), (4, qi i)] [] M2 r M9 → qa_E 161 778 [(0, qr 998), (1, qr 0), (2, qr 6), (3, qr 7), (4, qi i)] [] M r M9 := by
  obtain ⟨k, v, M1, M2, C, D, S⟩ := op_cut (p := M 98 (i + 1)) (a := M 98 (i + 2)) (b := M 98 (i + 3)) h
  have fr := qa_frame C
  rw [← fr.2] at D
  have l1 : i + 7 ≤ M1 97 0 := by rw [fr.1]; exact i1
  refine ⟨M2, law_st S, fun r M9 K => ?_⟩
  refine R_aload cd_161_778 rfl ?_
  refine R_aload cd_161_779 rfl ?_
  refine R_iload cd_161_780 rfl ?_
  refine R_push cd_161_782 ?_
  refine R_iadd cd_161_783 (by unfold qa_InR; first | omega | (simp [qa_upd, qa_blk] <;> omega)) ?_
  refine R_sld cd_161_784 (by omega) (by omega) ?_
  refine R_aload cd_161_785 rfl ?_
  refine R_iload cd_161_786 rfl ?_
  refine R_push cd_161_788 ?_
  refine R_iadd cd_161_789 (by unfold qa_InR; first | omega | (simp [qa_upd, qa_blk] <;> omega)) ?_
  refine R_sld cd_161_790 (by omega) (by omega) ?_
  refine R_aload cd_161_791 rfl ?_
  refine R_iload cd_161_792 rfl ?_
  refine R_push cd_161_794 ?_
  refine R_iadd cd_161_795 (by unfold qa_InR; first | omega | (simp [qa_upd, qa_blk] <;> omega)) ?_
  refine R_sld cd_161_796 (by omega) (by omega) ?_
  refine R_aload cd_161_797 rfl ?_
  refine R_call5 cd_161_798 rfl rfl C ?_
  refine R_istore cd_161_801 ?_
  refine R_aload cd_161_803 rfl ?_
  refine R_aload cd_161_804 rfl ?_
  refine R_iload cd_161_805 rfl ?_
  refine R_push cd_161_807 ?_
  refine R_iadd cd_161_808 (by unfold qa_InR; first | omega | (simp [qa_upd, qa_blk] <;> omega)) ?_
  refine R_sld cd_161_809 (by omega) (by omega) ?_
  refine R_aload cd_161_810 rfl ?_
  refine R_iload cd_161_811 rfl ?_
  refine R_push cd_161_813 ?_
  refine R_iadd cd_161_814 (by unfold qa_InR; first | omega | (simp [qa_upd, qa_blk] <;> omega)) ?_
  refine R_sld cd_161_815 (by omega) (by omega) ?_
  refine R_aload cd_161_816 rfl ?_
  refine R_iload cd_161_817 rfl ?_
  refine R_push cd_161_819 ?_
  refine R_iadd cd_161_820 (by unfold qa_InR; first | omega | (simp [qa_upd, qa_blk] <;> omega)) ?_
  refine R_sld cd_161_821 (by omega) (by omega) ?_
  refine R_call4 cd_161_822 rfl rfl D ?_
  refine R_istore cd_161_825 ?_
  refine R_aload cd_161_827 rfl ?_
  refine R_call1 cd_161_828 rfl rfl K_Model_thrown ?_
  refine R_iload cd_161_831 rfl ?_
  refine R_icmp_eq 838 cd_161_833 rfl (fun b833 => ?_) (fun b833 => ?_)
  · refine R_iload cd_161_838 rfl ?_
    refine R_if_ne 855 cd_161_840 rfl (fun b840 => ?_) (fun b840 => ?_)
    · refine R_goto cd_161_855 ?_
      exact R_norm (qs_c rfl (qs_c rfl (qs_c rfl (qs_c rfl (qs_c rfl qs_n))))) K
    · refine R_aload cd_161_843 rfl ?_
      refine R_push cd_161_844 ?_
      refine R_lald cd_161_845 rfl (by omega) (by omega) ?_
      refine R_iload cd_161_846 rfl ?_
      refine R_i2l cd_161_848 ?_
      refine R_lcmp cd_161_849 ?_
      refine R_if_eq 855 cd_161_850 rfl (fun b850 => ?_) (fun b850 => ?_)
      · refine R_goto cd_161_855 ?_
        exact R_norm (qs_c rfl (qs_c rfl (qs_c rfl (qs_c rfl (qs_c rfl qs_n))))) K
      · exact absurd (by rw [S.2.1 b840]; exact qa_sgn_e) b850
  · exact absurd S.1 b833
theorem law_uncut {i : Int} {M : qa_Mem} (h : iv M) (i0 : 0 ≤ i) (i1 : i + 7 ≤ M 97 0) (hL : M 97 0 ≤ 3584) (hV : ∀ x : Int, 0 ≤ x → x < M 97 0 → M 98 x ≤ 2147483647) : ∃ M2, law_ok M M2 ∧ ∀ (r : qa_R) (M9 : qa_Mem), qa_E 161 1500 [(0, qr 998), (1, qr 0), (2, qr 6), (3, qr 7), (4, qi i)] [] M2 r M9 → qa_E 161 858 [(0, qr 998), (1, qr 0), (2, qr 6), (3, qr 7), (4, qi i)] [] M r M9 := by
  obtain ⟨k, v, M1, M2, C, D, S⟩ := op_uncut (p := M 98 (i + 1)) h
  have fr := qa_frame C
  rw [← fr.2] at D
  have l1 : i + 7 ≤ M1 97 0 := by rw [fr.1]; exact i1
  refine ⟨M2, law_st S, fun r M9 K => ?_⟩
  refine R_aload cd_161_858 rfl ?_
  refine R_aload cd_161_859 rfl ?_
  refine R_iload cd_161_860 rfl ?_
  refine R_push cd_161_862 ?_
  refine R_iadd cd_161_863 (by unfold qa_InR; first | omega | (simp [qa_upd, qa_blk] <;> omega)) ?_
  refine R_sld cd_161_864 (by omega) (by omega) ?_
  refine R_aload cd_161_865 rfl ?_
  refine R_call3 cd_161_866 rfl rfl C ?_
  refine R_istore cd_161_869 ?_
  refine R_aload cd_161_871 rfl ?_
  refine R_aload cd_161_872 rfl ?_
  refine R_iload cd_161_873 rfl ?_
  refine R_push cd_161_875 ?_
  refine R_iadd cd_161_876 (by unfold qa_InR; first | omega | (simp [qa_upd, qa_blk] <;> omega)) ?_
  refine R_sld cd_161_877 (by omega) (by omega) ?_
  refine R_call2 cd_161_878 rfl rfl D ?_
  refine R_istore cd_161_881 ?_
  refine R_aload cd_161_883 rfl ?_
  refine R_call1 cd_161_884 rfl rfl K_Model_thrown ?_
  refine R_iload cd_161_887 rfl ?_
  refine R_icmp_eq 894 cd_161_889 rfl (fun b889 => ?_) (fun b889 => ?_)
  · refine R_iload cd_161_894 rfl ?_
    refine R_if_ne 911 cd_161_896 rfl (fun b896 => ?_) (fun b896 => ?_)
    · refine R_goto cd_161_911 ?_
      exact R_norm (qs_c rfl (qs_c rfl (qs_c rfl (qs_c rfl (qs_c rfl qs_n))))) K
    · refine R_aload cd_161_899 rfl ?_
      refine R_push cd_161_900 ?_
      refine R_lald cd_161_901 rfl (by omega) (by omega) ?_
      refine R_iload cd_161_902 rfl ?_
      refine R_i2l cd_161_904 ?_
      refine R_lcmp cd_161_905 ?_
      refine R_if_eq 911 cd_161_906 rfl (fun b906 => ?_) (fun b906 => ?_)
      · refine R_goto cd_161_911 ?_
        exact R_norm (qs_c rfl (qs_c rfl (qs_c rfl (qs_c rfl (qs_c rfl qs_n))))) K
      · exact absurd (by rw [S.2.1 b896]; exact qa_sgn_e) b906
  · exact absurd S.1 b889
theorem law_shown {i : Int} {M : qa_Mem} (h : iv M) (i0 : 0 ≤ i) (i1 : i + 7 ≤ M 97 0) (hL : M 97 0 ≤ 3584) (hV : ∀ x : Int, 0 ≤ x → x < M 97 0 → M 98 x ≤ 2147483647) : ∃ M2, law_ok M M2 ∧ ∀ (r : qa_R) (M9 : qa_Mem), qa_E 161 1500 [(0, qr 998), (1, qr 0), (2, qr 6), (3, qr 7), (4, qi i)] [] M2 r M9 → qa_E 161 914 [(0, qr 998), (1, qr 0), (2, qr 6), (3, qr 7), (4, qi i)] [] M r M9 := by
  obtain ⟨k, v, M1, M2, C, D, S⟩ := op_shown (p := M 98 (i + 1)) h (hV (i + 1) (by omega) (by omega))
  have fr := qa_frame C
  rw [← fr.2] at D
  have l1 : i + 7 ≤ M1 97 0 := by rw [fr.1]; exact i1
  refine ⟨M2, law_st S, fun r M9 K => ?_⟩
  refine R_aload cd_161_914 rfl ?_
  refine R_aload cd_161_915 rfl ?_
  refine R_iload cd_161_916 rfl ?_
  refine R_push cd_161_918 ?_
  refine R_iadd cd_161_919 (by unfold qa_InR; first | omega | (simp [qa_upd, qa_blk] <;> omega)) ?_
  refine R_sld cd_161_920 (by omega) (by omega) ?_
  refine R_aload cd_161_921 rfl ?_
  refine R_call3 cd_161_922 rfl rfl C ?_
  refine R_istore cd_161_925 ?_
  refine R_aload cd_161_927 rfl ?_
  refine R_aload cd_161_928 rfl ?_
  refine R_iload cd_161_929 rfl ?_
  refine R_push cd_161_931 ?_
  refine R_iadd cd_161_932 (by unfold qa_InR; first | omega | (simp [qa_upd, qa_blk] <;> omega)) ?_
  refine R_sld cd_161_933 (by omega) (by omega) ?_
  refine R_call2 cd_161_934 rfl rfl D ?_
  refine R_istore cd_161_937 ?_
  refine R_aload cd_161_939 rfl ?_
  refine R_call1 cd_161_940 rfl rfl K_Model_thrown ?_
  refine R_iload cd_161_943 rfl ?_
  refine R_icmp_eq 950 cd_161_945 rfl (fun b945 => ?_) (fun b945 => ?_)
  · refine R_iload cd_161_950 rfl ?_
    refine R_if_ne 967 cd_161_952 rfl (fun b952 => ?_) (fun b952 => ?_)
    · refine R_goto cd_161_967 ?_
      exact R_norm (qs_c rfl (qs_c rfl (qs_c rfl (qs_c rfl (qs_c rfl qs_n))))) K
    · refine R_aload cd_161_955 rfl ?_
      refine R_push cd_161_956 ?_
      refine R_lald cd_161_957 rfl (by omega) (by omega) ?_
      refine R_iload cd_161_958 rfl ?_
      refine R_i2l cd_161_960 ?_
      refine R_lcmp cd_161_961 ?_
      refine R_if_eq 967 cd_161_962 rfl (fun b962 => ?_) (fun b962 => ?_)
      · refine R_goto cd_161_967 ?_
        exact R_norm (qs_c rfl (qs_c rfl (qs_c rfl (qs_c rfl (qs_c rfl qs_n))))) K
      · exact absurd (by rw [S.2.1 b952]; exact qa_sgn_e) b962
  · exact absurd S.1 b945
theorem law_state {i : Int} {M : qa_Mem} (h : iv M) (i0 : 0 ≤ i) (i1 : i + 7 ≤ M 97 0) (hL : M 97 0 ≤ 3584) (hV : ∀ x : Int, 0 ≤ x → x < M 97 0 → M 98 x ≤ 2147483647) : ∃ M2, law_ok M M2 ∧ ∀ (r : qa_R) (M9 : qa_Mem), qa_E 161 1500 [(0, qr 998), (1, qr 0), (2, qr 6), (3, qr 7), (4, qi i)] [] M2 r M9 → qa_E 161 970 [(0, qr 998), (1, qr 0), (2, qr 6), (3, qr 7), (4, qi i)] [] M r M9 := by
  obtain ⟨k, v, M1, M2, C, D, S⟩ := op_state (f := M 98 (i + 1)) h
  have fr := qa_frame C
  rw [← fr.2] at D
  have l1 : i + 7 ≤ M1 97 0 := by rw [fr.1]; exact i1
  refine ⟨M2, law_st S, fun r M9 K => ?_⟩
  refine R_aload cd_161_970 rfl ?_
  refine R_aload cd_161_971 rfl ?_
  refine R_iload cd_161_972 rfl ?_
  refine R_push cd_161_974 ?_
  refine R_iadd cd_161_975 (by unfold qa_InR; first | omega | (simp [qa_upd, qa_blk] <;> omega)) ?_
  refine R_sld cd_161_976 (by omega) (by omega) ?_
  refine R_aload cd_161_977 rfl ?_
  refine R_call3 cd_161_978 rfl rfl C ?_
  refine R_istore cd_161_981 ?_
  refine R_aload cd_161_983 rfl ?_
  refine R_aload cd_161_984 rfl ?_
  refine R_iload cd_161_985 rfl ?_
  refine R_push cd_161_987 ?_
  refine R_iadd cd_161_988 (by unfold qa_InR; first | omega | (simp [qa_upd, qa_blk] <;> omega)) ?_
  refine R_sld cd_161_989 (by omega) (by omega) ?_
  refine R_call2 cd_161_990 rfl rfl D ?_
  refine R_istore cd_161_993 ?_
  refine R_aload cd_161_995 rfl ?_
  refine R_call1 cd_161_996 rfl rfl K_Model_thrown ?_
  refine R_iload cd_161_999 rfl ?_
  refine R_icmp_eq 1006 cd_161_1001 rfl (fun b1001 => ?_) (fun b1001 => ?_)
  · refine R_iload cd_161_1006 rfl ?_
    refine R_if_ne 1023 cd_161_1008 rfl (fun b1008 => ?_) (fun b1008 => ?_)
    · refine R_goto cd_161_1023 ?_
      exact R_norm (qs_c rfl (qs_c rfl (qs_c rfl (qs_c rfl (qs_c rfl qs_n))))) K
    · refine R_aload cd_161_1011 rfl ?_
      refine R_push cd_161_1012 ?_
      refine R_lald cd_161_1013 rfl (by omega) (by omega) ?_
      refine R_iload cd_161_1014 rfl ?_
      refine R_i2l cd_161_1016 ?_
      refine R_lcmp cd_161_1017 ?_
      refine R_if_eq 1023 cd_161_1018 rfl (fun b1018 => ?_) (fun b1018 => ?_)
      · refine R_goto cd_161_1023 ?_
        exact R_norm (qs_c rfl (qs_c rfl (qs_c rfl (qs_c rfl (qs_c rfl qs_n))))) K
      · exact absurd (by rw [S.2.1 b1008]; exact qa_sgn_e) b1018
  · exact absurd S.1 b1001
theorem law_voids {i : Int} {M : qa_Mem} (h : iv M) (i0 : 0 ≤ i) (i1 : i + 7 ≤ M 97 0) (hL : M 97 0 ≤ 3584) (hV : ∀ x : Int, 0 ≤ x → x < M 97 0 → M 98 x ≤ 2147483647) : ∃ M2, law_ok M M2 ∧ ∀ (r : qa_R) (M9 : qa_Mem), qa_E 161 1500 [(0, qr 998), (1, qr 0), (2, qr 6), (3, qr 7), (4, qi i)] [] M2 r M9 → qa_E 161 1026 [(0, qr 998), (1, qr 0), (2, qr 6), (3, qr 7), (4, qi i)] [] M r M9 := by
  obtain ⟨v, M2, C, D, e⟩ := op_voids h
  refine ⟨M2, (by rw [e]; exact ⟨⟨h.1, h.2.1, h.2.2.1, h.2.2.2.1, h.2.2.2.2.1, h.2.2.2.2.2.1, h.2.2.2.2.2.2⟩, Int.le_refl _, show M 99 0 ≤ M 99 0 + 1 by omega, rfl, rfl⟩), fun r M9 K => ?_⟩
  refine R_aload cd_161_1026 rfl ?_
  refine R_call1 cd_161_1027 rfl rfl C ?_
  refine R_aload cd_161_1030 rfl ?_
  refine R_call1 cd_161_1031 rfl rfl D ?_
  refine R_icmp_eq 1500 cd_161_1034 rfl (fun b1034 => ?_) (fun b1034 => ?_)
  · exact K
  · exact absurd rfl b1034
theorem law_voidsByAll {i : Int} {M : qa_Mem} (h : iv M) (i0 : 0 ≤ i) (i1 : i + 7 ≤ M 97 0) (hL : M 97 0 ≤ 3584) (hV : ∀ x : Int, 0 ≤ x → x < M 97 0 → M 98 x ≤ 2147483647) : ∃ M2, law_ok M M2 ∧ ∀ (r : qa_R) (M9 : qa_Mem), qa_E 161 1500 [(0, qr 998), (1, qr 0), (2, qr 6), (3, qr 7), (4, qi i)] [] M2 r M9 → qa_E 161 1039 [(0, qr 998), (1, qr 0), (2, qr 6), (3, qr 7), (4, qi i)] [] M r M9 := by
  obtain ⟨v, M2, C, D, e⟩ := op_voidsByAll h
  refine ⟨M2, (by rw [e]; exact ⟨⟨h.1, h.2.1, h.2.2.1, h.2.2.2.1, h.2.2.2.2.1, h.2.2.2.2.2.1, h.2.2.2.2.2.2⟩, Int.le_refl _, show M 99 0 ≤ M 99 0 + 1 by omega, rfl, rfl⟩), fun r M9 K => ?_⟩
  refine R_aload cd_161_1039 rfl ?_
  refine R_call1 cd_161_1040 rfl rfl C ?_
  refine R_aload cd_161_1043 rfl ?_
  refine R_call1 cd_161_1044 rfl rfl D ?_
  refine R_icmp_eq 1500 cd_161_1047 rfl (fun b1047 => ?_) (fun b1047 => ?_)
  · exact K
  · exact absurd rfl b1047
theorem law_machine {i : Int} {M : qa_Mem} (h : iv M) (i0 : 0 ≤ i) (i1 : i + 7 ≤ M 97 0) (hL : M 97 0 ≤ 3584) (hV : ∀ x : Int, 0 ≤ x → x < M 97 0 → M 98 x ≤ 2147483647) : ∃ M2, law_ok M M2 ∧ ∀ (r : qa_R) (M9 : qa_Mem), qa_E 161 1500 [(0, qr 998), (1, qr 0), (2, qr 6), (3, qr 7), (4, qi i)] [] M2 r M9 → qa_E 161 1052 [(0, qr 998), (1, qr 0), (2, qr 6), (3, qr 7), (4, qi i)] [] M r M9 := by
  obtain ⟨k, v, M1, M2, C, D, S⟩ := op_machine (s := M 98 (i + 1)) h
  have fr := qa_frame C
  rw [← fr.2] at D
  have l1 : i + 7 ≤ M1 97 0 := by rw [fr.1]; exact i1
  refine ⟨M2, law_st S, fun r M9 K => ?_⟩
  refine R_aload cd_161_1052 rfl ?_
  refine R_aload cd_161_1053 rfl ?_
  refine R_iload cd_161_1054 rfl ?_
  refine R_push cd_161_1056 ?_
  refine R_iadd cd_161_1057 (by unfold qa_InR; first | omega | (simp [qa_upd, qa_blk] <;> omega)) ?_
  refine R_sld cd_161_1058 (by omega) (by omega) ?_
  refine R_aload cd_161_1059 rfl ?_
  refine R_call3 cd_161_1060 rfl rfl C ?_
  refine R_istore cd_161_1063 ?_
  refine R_aload cd_161_1065 rfl ?_
  refine R_aload cd_161_1066 rfl ?_
  refine R_iload cd_161_1067 rfl ?_
  refine R_push cd_161_1069 ?_
  refine R_iadd cd_161_1070 (by unfold qa_InR; first | omega | (simp [qa_upd, qa_blk] <;> omega)) ?_
  refine R_sld cd_161_1071 (by omega) (by omega) ?_
  refine R_call2 cd_161_1072 rfl rfl D ?_
  refine R_istore cd_161_1075 ?_
  refine R_aload cd_161_1077 rfl ?_
  refine R_call1 cd_161_1078 rfl rfl K_Model_thrown ?_
  refine R_iload cd_161_1081 rfl ?_
  refine R_icmp_eq 1088 cd_161_1083 rfl (fun b1083 => ?_) (fun b1083 => ?_)
  · refine R_iload cd_161_1088 rfl ?_
    refine R_if_ne 1105 cd_161_1090 rfl (fun b1090 => ?_) (fun b1090 => ?_)
    · refine R_goto cd_161_1105 ?_
      exact R_norm (qs_c rfl (qs_c rfl (qs_c rfl (qs_c rfl (qs_c rfl qs_n))))) K
    · refine R_aload cd_161_1093 rfl ?_
      refine R_push cd_161_1094 ?_
      refine R_lald cd_161_1095 rfl (by omega) (by omega) ?_
      refine R_iload cd_161_1096 rfl ?_
      refine R_i2l cd_161_1098 ?_
      refine R_lcmp cd_161_1099 ?_
      refine R_if_eq 1105 cd_161_1100 rfl (fun b1100 => ?_) (fun b1100 => ?_)
      · refine R_goto cd_161_1105 ?_
        exact R_norm (qs_c rfl (qs_c rfl (qs_c rfl (qs_c rfl (qs_c rfl qs_n))))) K
      · exact absurd (by rw [S.2.1 b1090]; exact qa_sgn_e) b1100
  · exact absurd S.1 b1083
theorem law_offer {i : Int} {M : qa_Mem} (h : iv M) (i0 : 0 ≤ i) (i1 : i + 7 ≤ M 97 0) (hL : M 97 0 ≤ 3584) (hV : ∀ x : Int, 0 ≤ x → x < M 97 0 → M 98 x ≤ 2147483647) : ∃ M2, law_ok M M2 ∧ ∀ (r : qa_R) (M9 : qa_Mem), qa_E 161 1500 [(0, qr 998), (1, qr 0), (2, qr 6), (3, qr 7), (4, qi i)] [] M2 r M9 → qa_E 161 1108 [(0, qr 998), (1, qr 0), (2, qr 6), (3, qr 7), (4, qi i)] [] M r M9 := by
  obtain ⟨k, v, M1, M2, C, D, S⟩ := op_offer (p := M 98 (i + 1)) (t := M 98 (i + 2)) h
  have fr := qa_frame C
  rw [← fr.2] at D
  have l1 : i + 7 ≤ M1 97 0 := by rw [fr.1]; exact i1
  refine ⟨M2, law_st S, fun r M9 K => ?_⟩
  refine R_aload cd_161_1108 rfl ?_
  refine R_aload cd_161_1109 rfl ?_
  refine R_iload cd_161_1110 rfl ?_
  refine R_push cd_161_1112 ?_
  refine R_iadd cd_161_1113 (by unfold qa_InR; first | omega | (simp [qa_upd, qa_blk] <;> omega)) ?_
  refine R_sld cd_161_1114 (by omega) (by omega) ?_
  refine R_aload cd_161_1115 rfl ?_
  refine R_iload cd_161_1116 rfl ?_
  refine R_push cd_161_1118 ?_
  refine R_iadd cd_161_1119 (by unfold qa_InR; first | omega | (simp [qa_upd, qa_blk] <;> omega)) ?_
  refine R_sld cd_161_1120 (by omega) (by omega) ?_
  refine R_aload cd_161_1121 rfl ?_
  refine R_call4 cd_161_1122 rfl rfl C ?_
  refine R_istore cd_161_1125 ?_
  refine R_aload cd_161_1127 rfl ?_
  refine R_aload cd_161_1128 rfl ?_
  refine R_iload cd_161_1129 rfl ?_
  refine R_push cd_161_1131 ?_
  refine R_iadd cd_161_1132 (by unfold qa_InR; first | omega | (simp [qa_upd, qa_blk] <;> omega)) ?_
  refine R_sld cd_161_1133 (by omega) (by omega) ?_
  refine R_aload cd_161_1134 rfl ?_
  refine R_iload cd_161_1135 rfl ?_
  refine R_push cd_161_1137 ?_
  refine R_iadd cd_161_1138 (by unfold qa_InR; first | omega | (simp [qa_upd, qa_blk] <;> omega)) ?_
  refine R_sld cd_161_1139 (by omega) (by omega) ?_
  refine R_call3 cd_161_1140 rfl rfl D ?_
  refine R_istore cd_161_1143 ?_
  refine R_aload cd_161_1145 rfl ?_
  refine R_call1 cd_161_1146 rfl rfl K_Model_thrown ?_
  refine R_iload cd_161_1149 rfl ?_
  refine R_icmp_eq 1156 cd_161_1151 rfl (fun b1151 => ?_) (fun b1151 => ?_)
  · refine R_iload cd_161_1156 rfl ?_
    refine R_if_ne 1173 cd_161_1158 rfl (fun b1158 => ?_) (fun b1158 => ?_)
    · refine R_goto cd_161_1173 ?_
      exact R_norm (qs_c rfl (qs_c rfl (qs_c rfl (qs_c rfl (qs_c rfl qs_n))))) K
    · refine R_aload cd_161_1161 rfl ?_
      refine R_push cd_161_1162 ?_
      refine R_lald cd_161_1163 rfl (by omega) (by omega) ?_
      refine R_iload cd_161_1164 rfl ?_
      refine R_i2l cd_161_1166 ?_
      refine R_lcmp cd_161_1167 ?_
      refine R_if_eq 1173 cd_161_1168 rfl (fun b1168 => ?_) (fun b1168 => ?_)
      · refine R_goto cd_161_1173 ?_
        exact R_norm (qs_c rfl (qs_c rfl (qs_c rfl (qs_c rfl (qs_c rfl qs_n))))) K
      · exact absurd (by rw [S.2.1 b1158]; exact qa_sgn_e) b1168
  · exact absurd S.1 b1151
theorem law_night {i : Int} {M : qa_Mem} (h : iv M) (i0 : 0 ≤ i) (i1 : i + 7 ≤ M 97 0) (hL : M 97 0 ≤ 3584) (hV : ∀ x : Int, 0 ≤ x → x < M 97 0 → M 98 x ≤ 2147483647) : ∃ M2, law_ok M M2 ∧ ∀ (r : qa_R) (M9 : qa_Mem), qa_E 161 1500 [(0, qr 998), (1, qr 0), (2, qr 6), (3, qr 7), (4, qi i)] [] M2 r M9 → qa_E 161 1176 [(0, qr 998), (1, qr 0), (2, qr 6), (3, qr 7), (4, qi i)] [] M r M9 := by
  obtain ⟨k, v, M1, M2, C, D, S⟩ := op_night (t := M 98 (i + 1)) h
  have fr := qa_frame C
  rw [← fr.2] at D
  have l1 : i + 7 ≤ M1 97 0 := by rw [fr.1]; exact i1
  refine ⟨M2, law_st S, fun r M9 K => ?_⟩
  refine R_aload cd_161_1176 rfl ?_
  refine R_aload cd_161_1177 rfl ?_
  refine R_iload cd_161_1178 rfl ?_
  refine R_push cd_161_1180 ?_
  refine R_iadd cd_161_1181 (by unfold qa_InR; first | omega | (simp [qa_upd, qa_blk] <;> omega)) ?_
  refine R_sld cd_161_1182 (by omega) (by omega) ?_
  refine R_aload cd_161_1183 rfl ?_
  refine R_call3 cd_161_1184 rfl rfl C ?_
  refine R_istore cd_161_1187 ?_
  refine R_aload cd_161_1189 rfl ?_
  refine R_aload cd_161_1190 rfl ?_
  refine R_iload cd_161_1191 rfl ?_
  refine R_push cd_161_1193 ?_
  refine R_iadd cd_161_1194 (by unfold qa_InR; first | omega | (simp [qa_upd, qa_blk] <;> omega)) ?_
  refine R_sld cd_161_1195 (by omega) (by omega) ?_
  refine R_call2 cd_161_1196 rfl rfl D ?_
  refine R_istore cd_161_1199 ?_
  refine R_aload cd_161_1201 rfl ?_
  refine R_call1 cd_161_1202 rfl rfl K_Model_thrown ?_
  refine R_iload cd_161_1205 rfl ?_
  refine R_icmp_eq 1212 cd_161_1207 rfl (fun b1207 => ?_) (fun b1207 => ?_)
  · refine R_iload cd_161_1212 rfl ?_
    refine R_if_ne 1229 cd_161_1214 rfl (fun b1214 => ?_) (fun b1214 => ?_)
    · refine R_goto cd_161_1229 ?_
      exact R_norm (qs_c rfl (qs_c rfl (qs_c rfl (qs_c rfl (qs_c rfl qs_n))))) K
    · refine R_aload cd_161_1217 rfl ?_
      refine R_push cd_161_1218 ?_
      refine R_lald cd_161_1219 rfl (by omega) (by omega) ?_
      refine R_iload cd_161_1220 rfl ?_
      refine R_i2l cd_161_1222 ?_
      refine R_lcmp cd_161_1223 ?_
      refine R_if_eq 1229 cd_161_1224 rfl (fun b1224 => ?_) (fun b1224 => ?_)
      · refine R_goto cd_161_1229 ?_
        exact R_norm (qs_c rfl (qs_c rfl (qs_c rfl (qs_c rfl (qs_c rfl qs_n))))) K
      · exact absurd (by rw [S.2.1 b1214]; exact qa_sgn_e) b1224
  · exact absurd S.1 b1207
theorem law_heat {i : Int} {M : qa_Mem} (h : iv M) (i0 : 0 ≤ i) (i1 : i + 7 ≤ M 97 0) (hL : M 97 0 ≤ 3584) (hV : ∀ x : Int, 0 ≤ x → x < M 97 0 → M 98 x ≤ 2147483647) : ∃ M2, law_ok M M2 ∧ ∀ (r : qa_R) (M9 : qa_Mem), qa_E 161 1500 [(0, qr 998), (1, qr 0), (2, qr 6), (3, qr 7), (4, qi i)] [] M2 r M9 → qa_E 161 1232 [(0, qr 998), (1, qr 0), (2, qr 6), (3, qr 7), (4, qi i)] [] M r M9 := by
  obtain ⟨k, v, M1, M2, C, D, S⟩ := op_heat (m := M 98 (i + 1)) h
  have fr := qa_frame C
  rw [← fr.2] at D
  have l1 : i + 7 ≤ M1 97 0 := by rw [fr.1]; exact i1
  refine ⟨M2, law_st S, fun r M9 K => ?_⟩
  refine R_aload cd_161_1232 rfl ?_
  refine R_aload cd_161_1233 rfl ?_
  refine R_iload cd_161_1234 rfl ?_
  refine R_push cd_161_1236 ?_
  refine R_iadd cd_161_1237 (by unfold qa_InR; first | omega | (simp [qa_upd, qa_blk] <;> omega)) ?_
  refine R_sld cd_161_1238 (by omega) (by omega) ?_
  refine R_aload cd_161_1239 rfl ?_
  refine R_call3 cd_161_1240 rfl rfl C ?_
  refine R_istore cd_161_1243 ?_
  refine R_aload cd_161_1245 rfl ?_
  refine R_aload cd_161_1246 rfl ?_
  refine R_iload cd_161_1247 rfl ?_
  refine R_push cd_161_1249 ?_
  refine R_iadd cd_161_1250 (by unfold qa_InR; first | omega | (simp [qa_upd, qa_blk] <;> omega)) ?_
  refine R_sld cd_161_1251 (by omega) (by omega) ?_
  refine R_call2 cd_161_1252 rfl rfl D ?_
  refine R_istore cd_161_1255 ?_
  refine R_aload cd_161_1257 rfl ?_
  refine R_call1 cd_161_1258 rfl rfl K_Model_thrown ?_
  refine R_iload cd_161_1261 rfl ?_
  refine R_icmp_eq 1268 cd_161_1263 rfl (fun b1263 => ?_) (fun b1263 => ?_)
  · refine R_iload cd_161_1268 rfl ?_
    refine R_if_ne 1285 cd_161_1270 rfl (fun b1270 => ?_) (fun b1270 => ?_)
    · refine R_goto cd_161_1285 ?_
      exact R_norm (qs_c rfl (qs_c rfl (qs_c rfl (qs_c rfl (qs_c rfl qs_n))))) K
    · refine R_aload cd_161_1273 rfl ?_
      refine R_push cd_161_1274 ?_
      refine R_lald cd_161_1275 rfl (by omega) (by omega) ?_
      refine R_iload cd_161_1276 rfl ?_
      refine R_i2l cd_161_1278 ?_
      refine R_lcmp cd_161_1279 ?_
      refine R_if_eq 1285 cd_161_1280 rfl (fun b1280 => ?_) (fun b1280 => ?_)
      · refine R_goto cd_161_1285 ?_
        exact R_norm (qs_c rfl (qs_c rfl (qs_c rfl (qs_c rfl (qs_c rfl qs_n))))) K
      · exact absurd (by rw [S.2.1 b1270]; exact qa_sgn_e) b1280
  · exact absurd S.1 b1263
theorem law_setRate {i : Int} {M : qa_Mem} (h : iv M) (i0 : 0 ≤ i) (i1 : i + 7 ≤ M 97 0) (hL : M 97 0 ≤ 3584) (hV : ∀ x : Int, 0 ≤ x → x < M 97 0 → M 98 x ≤ 2147483647) : ∃ M2, law_ok M M2 ∧ ∀ (r : qa_R) (M9 : qa_Mem), qa_E 161 1500 [(0, qr 998), (1, qr 0), (2, qr 6), (3, qr 7), (4, qi i)] [] M2 r M9 → qa_E 161 1288 [(0, qr 998), (1, qr 0), (2, qr 6), (3, qr 7), (4, qi i)] [] M r M9 := by
  obtain ⟨k, v, M1, M2, C, D, S⟩ := op_setRate (r := M 98 (i + 1)) h
  have fr := qa_frame C
  rw [← fr.2] at D
  have l1 : i + 7 ≤ M1 97 0 := by rw [fr.1]; exact i1
  refine ⟨M2, law_st S, fun r M9 K => ?_⟩
  refine R_aload cd_161_1288 rfl ?_
  refine R_aload cd_161_1289 rfl ?_
  refine R_iload cd_161_1290 rfl ?_
  refine R_push cd_161_1292 ?_
  refine R_iadd cd_161_1293 (by unfold qa_InR; first | omega | (simp [qa_upd, qa_blk] <;> omega)) ?_
  refine R_sld cd_161_1294 (by omega) (by omega) ?_
  refine R_aload cd_161_1295 rfl ?_
  refine R_call3 cd_161_1296 rfl rfl C ?_
  refine R_istore cd_161_1299 ?_
  refine R_aload cd_161_1301 rfl ?_
  refine R_aload cd_161_1302 rfl ?_
  refine R_iload cd_161_1303 rfl ?_
  refine R_push cd_161_1305 ?_
  refine R_iadd cd_161_1306 (by unfold qa_InR; first | omega | (simp [qa_upd, qa_blk] <;> omega)) ?_
  refine R_sld cd_161_1307 (by omega) (by omega) ?_
  refine R_call2 cd_161_1308 rfl rfl D ?_
  refine R_istore cd_161_1311 ?_
  refine R_aload cd_161_1313 rfl ?_
  refine R_call1 cd_161_1314 rfl rfl K_Model_thrown ?_
  refine R_iload cd_161_1317 rfl ?_
  refine R_icmp_eq 1324 cd_161_1319 rfl (fun b1319 => ?_) (fun b1319 => ?_)
  · refine R_iload cd_161_1324 rfl ?_
    refine R_if_ne 1341 cd_161_1326 rfl (fun b1326 => ?_) (fun b1326 => ?_)
    · refine R_goto cd_161_1341 ?_
      exact R_norm (qs_c rfl (qs_c rfl (qs_c rfl (qs_c rfl (qs_c rfl qs_n))))) K
    · refine R_aload cd_161_1329 rfl ?_
      refine R_push cd_161_1330 ?_
      refine R_lald cd_161_1331 rfl (by omega) (by omega) ?_
      refine R_iload cd_161_1332 rfl ?_
      refine R_i2l cd_161_1334 ?_
      refine R_lcmp cd_161_1335 ?_
      refine R_if_eq 1341 cd_161_1336 rfl (fun b1336 => ?_) (fun b1336 => ?_)
      · refine R_goto cd_161_1341 ?_
        exact R_norm (qs_c rfl (qs_c rfl (qs_c rfl (qs_c rfl (qs_c rfl qs_n))))) K
      · exact absurd (by rw [S.2.1 b1326]; exact qa_sgn_e) b1336
  · exact absurd S.1 b1319
theorem law_seconds {i : Int} {M : qa_Mem} (h : iv M) (i0 : 0 ≤ i) (i1 : i + 7 ≤ M 97 0) (hL : M 97 0 ≤ 3584) (hV : ∀ x : Int, 0 ≤ x → x < M 97 0 → M 98 x ≤ 2147483647) : ∃ M2, law_ok M M2 ∧ ∀ (r : qa_R) (M9 : qa_Mem), qa_E 161 1500 [(0, qr 998), (1, qr 0), (2, qr 6), (3, qr 7), (4, qi i)] [] M2 r M9 → qa_E 161 1344 [(0, qr 998), (1, qr 0), (2, qr 6), (3, qr 7), (4, qi i)] [] M r M9 := by
  obtain ⟨k, v, M1, M2, C, D, S⟩ := op_seconds (w := M 98 (i + 1)) h
  have fr := qa_frame C
  rw [← fr.2] at D
  have l1 : i + 7 ≤ M1 97 0 := by rw [fr.1]; exact i1
  refine ⟨M2, law_st S, fun r M9 K => ?_⟩
  refine R_aload cd_161_1344 rfl ?_
  refine R_aload cd_161_1345 rfl ?_
  refine R_iload cd_161_1346 rfl ?_
  refine R_push cd_161_1348 ?_
  refine R_iadd cd_161_1349 (by unfold qa_InR; first | omega | (simp [qa_upd, qa_blk] <;> omega)) ?_
  refine R_sld cd_161_1350 (by omega) (by omega) ?_
  refine R_aload cd_161_1351 rfl ?_
  refine R_call3 cd_161_1352 rfl rfl C ?_
  refine R_istore cd_161_1355 ?_
  refine R_aload cd_161_1357 rfl ?_
  refine R_aload cd_161_1358 rfl ?_
  refine R_iload cd_161_1359 rfl ?_
  refine R_push cd_161_1361 ?_
  refine R_iadd cd_161_1362 (by unfold qa_InR; first | omega | (simp [qa_upd, qa_blk] <;> omega)) ?_
  refine R_sld cd_161_1363 (by omega) (by omega) ?_
  refine R_call2 cd_161_1364 rfl rfl D ?_
  refine R_istore cd_161_1367 ?_
  refine R_aload cd_161_1369 rfl ?_
  refine R_call1 cd_161_1370 rfl rfl K_Model_thrown ?_
  refine R_iload cd_161_1373 rfl ?_
  refine R_icmp_eq 1380 cd_161_1375 rfl (fun b1375 => ?_) (fun b1375 => ?_)
  · refine R_iload cd_161_1380 rfl ?_
    refine R_if_ne 1397 cd_161_1382 rfl (fun b1382 => ?_) (fun b1382 => ?_)
    · refine R_goto cd_161_1397 ?_
      exact R_norm (qs_c rfl (qs_c rfl (qs_c rfl (qs_c rfl (qs_c rfl qs_n))))) K
    · refine R_aload cd_161_1385 rfl ?_
      refine R_push cd_161_1386 ?_
      refine R_lald cd_161_1387 rfl (by omega) (by omega) ?_
      refine R_iload cd_161_1388 rfl ?_
      refine R_i2l cd_161_1390 ?_
      refine R_lcmp cd_161_1391 ?_
      refine R_if_eq 1397 cd_161_1392 rfl (fun b1392 => ?_) (fun b1392 => ?_)
      · refine R_goto cd_161_1397 ?_
        exact R_norm (qs_c rfl (qs_c rfl (qs_c rfl (qs_c rfl (qs_c rfl qs_n))))) K
      · exact absurd (by rw [S.2.1 b1382]; exact qa_sgn_e) b1392
  · exact absurd S.1 b1375
theorem law_show {i : Int} {M : qa_Mem} (h : iv M) (i0 : 0 ≤ i) (i1 : i + 7 ≤ M 97 0) (hL : M 97 0 ≤ 3584) (hV : ∀ x : Int, 0 ≤ x → x < M 97 0 → M 98 x ≤ 2147483647) : ∃ M2, law_ok M M2 ∧ ∀ (r : qa_R) (M9 : qa_Mem), qa_E 161 1500 [(0, qr 998), (1, qr 0), (2, qr 6), (3, qr 7), (4, qi i)] [] M2 r M9 → qa_E 161 1400 [(0, qr 998), (1, qr 0), (2, qr 6), (3, qr 7), (4, qi i)] [] M r M9 := by
  obtain ⟨k, v, M1, M2, C, D, S⟩ := op_show  h
  have fr := qa_frame C
  have l1 : i + 7 ≤ M1 97 0 := by rw [fr.1]; exact i1
  refine ⟨M2, law_st S, fun r M9 K => ?_⟩
  refine R_aload cd_161_1400 rfl ?_
  refine R_aload cd_161_1401 rfl ?_
  refine R_call2 cd_161_1402 rfl rfl C ?_
  refine R_istore cd_161_1405 ?_
  refine R_aload cd_161_1407 rfl ?_
  refine R_call1 cd_161_1408 rfl rfl D ?_
  refine R_istore cd_161_1411 ?_
  refine R_aload cd_161_1413 rfl ?_
  refine R_call1 cd_161_1414 rfl rfl K_Model_thrown ?_
  refine R_iload cd_161_1417 rfl ?_
  refine R_icmp_eq 1424 cd_161_1419 rfl (fun b1419 => ?_) (fun b1419 => ?_)
  · refine R_iload cd_161_1424 rfl ?_
    refine R_if_ne 1441 cd_161_1426 rfl (fun b1426 => ?_) (fun b1426 => ?_)
    · refine R_goto cd_161_1441 ?_
      exact R_norm (qs_c rfl (qs_c rfl (qs_c rfl (qs_c rfl (qs_c rfl qs_n))))) K
    · refine R_aload cd_161_1429 rfl ?_
      refine R_push cd_161_1430 ?_
      refine R_lald cd_161_1431 rfl (by omega) (by omega) ?_
      refine R_iload cd_161_1432 rfl ?_
      refine R_i2l cd_161_1434 ?_
      refine R_lcmp cd_161_1435 ?_
      refine R_if_eq 1441 cd_161_1436 rfl (fun b1436 => ?_) (fun b1436 => ?_)
      · refine R_goto cd_161_1441 ?_
        exact R_norm (qs_c rfl (qs_c rfl (qs_c rfl (qs_c rfl (qs_c rfl qs_n))))) K
      · exact absurd (by rw [S.2.1 b1426]; exact qa_sgn_e) b1436
  · exact absurd S.1 b1419
theorem law_money {i : Int} {M : qa_Mem} (h : iv M) (i0 : 0 ≤ i) (i1 : i + 7 ≤ M 97 0) (hL : M 97 0 ≤ 3584) (hV : ∀ x : Int, 0 ≤ x → x < M 97 0 → M 98 x ≤ 2147483647) : ∃ M2, law_ok M M2 ∧ ∀ (r : qa_R) (M9 : qa_Mem), qa_E 161 1500 [(0, qr 998), (1, qr 0), (2, qr 6), (3, qr 7), (4, qi i)] [] M2 r M9 → qa_E 161 1444 [(0, qr 998), (1, qr 0), (2, qr 6), (3, qr 7), (4, qi i)] [] M r M9 := by
  obtain ⟨k, v, M1, M2, C, D, S⟩ := op_money (w := M 98 (i + 1)) h
  have fr := qa_frame C
  rw [← fr.2] at D
  have l1 : i + 7 ≤ M1 97 0 := by rw [fr.1]; exact i1
  refine ⟨M2, law_st S, fun r M9 K => ?_⟩
  refine R_aload cd_161_1444 rfl ?_
  refine R_aload cd_161_1445 rfl ?_
  refine R_iload cd_161_1446 rfl ?_
  refine R_push cd_161_1448 ?_
  refine R_iadd cd_161_1449 (by unfold qa_InR; first | omega | (simp [qa_upd, qa_blk] <;> omega)) ?_
  refine R_sld cd_161_1450 (by omega) (by omega) ?_
  refine R_aload cd_161_1451 rfl ?_
  refine R_call3 cd_161_1452 rfl rfl C ?_
  refine R_istore cd_161_1455 ?_
  refine R_aload cd_161_1457 rfl ?_
  refine R_aload cd_161_1458 rfl ?_
  refine R_iload cd_161_1459 rfl ?_
  refine R_push cd_161_1461 ?_
  refine R_iadd cd_161_1462 (by unfold qa_InR; first | omega | (simp [qa_upd, qa_blk] <;> omega)) ?_
  refine R_sld cd_161_1463 (by omega) (by omega) ?_
  refine R_call2 cd_161_1464 rfl rfl D ?_
  refine R_istore cd_161_1467 ?_
  refine R_aload cd_161_1469 rfl ?_
  refine R_call1 cd_161_1470 rfl rfl K_Model_thrown ?_
  refine R_iload cd_161_1473 rfl ?_
  refine R_icmp_eq 1480 cd_161_1475 rfl (fun b1475 => ?_) (fun b1475 => ?_)
  · refine R_iload cd_161_1480 rfl ?_
    refine R_if_ne 1497 cd_161_1482 rfl (fun b1482 => ?_) (fun b1482 => ?_)
    · refine R_goto cd_161_1497 ?_
      exact R_norm (qs_c rfl (qs_c rfl (qs_c rfl (qs_c rfl (qs_c rfl qs_n))))) K
    · refine R_aload cd_161_1485 rfl ?_
      refine R_push cd_161_1486 ?_
      refine R_lald cd_161_1487 rfl (by omega) (by omega) ?_
      refine R_iload cd_161_1488 rfl ?_
      refine R_i2l cd_161_1490 ?_
      refine R_lcmp cd_161_1491 ?_
      refine R_if_eq 1497 cd_161_1492 rfl (fun b1492 => ?_) (fun b1492 => ?_)
      · refine R_goto cd_161_1497 ?_
        exact R_norm (qs_c rfl (qs_c rfl (qs_c rfl (qs_c rfl (qs_c rfl qs_n))))) K
      · exact absurd (by rw [S.2.1 b1482]; exact qa_sgn_e) b1492
  · exact absurd S.1 b1475
