/-! keys: the calls -/
theorem iv_bones_c {M N : qa_Mem} (h : iv_bones M) (e0 : N 1 3 = M 1 3) (e1 : N 6 0 = M 6 0) (e2 : N 9 = M 9) (e3 : N 10 = M 10) (e4 : N 11 = M 11) (e5 : N 29 = M 29) (e6 : N 30 = M 30) (e7 : N 31 = M 31) : iv_bones N := by
  unfold iv_bones
  rw [e0, e1, e2, e3, e4, e5, e6, e7]
  exact h
theorem iv_film_c {M N : qa_Mem} (h : iv_film M) (e0 : N 4 3 = M 4 3) (e1 : N 4 4 = M 4 4) (e2 : N 6 9 = M 6 9) (e3 : N 21 = M 21) (e4 : N 22 = M 22) (e5 : N 36 = M 36) (e6 : N 37 = M 37) (e7 : N 23 = M 23) : iv_film N := by
  unfold iv_film qm_sh qm_len
  rw [e0, e1, e2, e3, e4, e5, e6, e7]
  exact h
theorem iv_farm_c {M N : qa_Mem} (h : iv_farm M) (e0 : N 24 = M 24) (e1 : N 25 = M 25) (e2 : N 26 = M 26) (e3 : N 27 = M 27) (e4 : N 28 = M 28) (e5 : N 41 = M 41) (e6 : N 42 = M 42) (e7 : N 43 = M 43) (e8 : N 44 = M 44) (e9 : N 45 = M 45) (f0 : N 5 3 = M 5 3) (f1 : N 5 6 = M 5 6) (f2 : N 6 15 = M 6 15) (f3 : N 6 19 = M 6 19) : iv_farm N := by
  unfold iv_farm
  rw [e0, e1, e2, e3, e4, e5, e6, e7, e8, e9, f0, f1, f2, f3]
  exact h
theorem iv_money_c {M N : qa_Mem} (h : iv_money M) (e0 : N 0 5 = M 0 5) (e1 : N 6 22 = M 6 22) (e2 : N 5 7 = M 5 7) (e3 : N 8 = M 8) (e4 : N 46 = M 46) : iv_money N := by
  unfold iv_money
  rw [e0, e1, e2, e3, e4]
  exact h
theorem qm_vo_c {M N : qa_Mem} (e0 : N 38 = M 38) (e1 : N 39 = M 39) (e2 : N 40 = M 40) (e3 : N 32 = M 32) (e4 : N 33 = M 33) (e5 : N 35 = M 35) (e6 : N 6 0 = M 6 0) : qm_vo N = qm_vo M := by
  unfold qm_vo qm_st
  rw [e0, e1, e2, e3, e4, e5, e6]
theorem iv_rekey {M P N : qa_Mem} {t0 : Int} {K V A F : Int → Int} (h : iv M) (hq : qk_cp (P 14) (P 15) (P 16) (P 17) (P 2 4) K V A F) (pk : ∀ k : Nat, k ≠ 2 → ¬ (14 ≤ k ∧ k ≤ 17) → P k = M k) (hs : ∀ i : Int, ¬ (120 * t0 ≤ i ∧ i < 120 * t0 + 120) → M 32 i = K i ∧ M 33 i = V i ∧ M 34 i = A i ∧ M 35 i = F i) (hn : P 2 4 = N 6 4) (hB : ∀ p : Int, 0 ≤ p → p < P 2 4 → P 14 p < 3000 * M 6 0) (hV : qv_v V) (hT : ∀ j : Int, 0 ≤ j → j < 2880 → (j / 120) % 3 = 2 → (0 ≤ V j ∧ V j ≤ 3) ∧ F j = 0) (hA : ∀ j : Int, 0 ≤ j → j < 2880 → 0 ≤ A j ∧ A j < 6) (cN : ∀ k : Nat, k ≠ 6 → k ≠ 7 → ¬ (32 ≤ k ∧ k ≤ 35) → N k = qs_cmp (qt_M P t0 120) 120 k) (e32 : N 32 = K) (e33 : N 33 = V) (e34 : N 34 = A) (e35 : N 35 = F) (c6 : ∀ i : Int, i ≠ 4 → i ≠ 26 → N 6 i = M 6 i) : iv N := by
  have cP : ∀ k : Nat, k ≠ 6 → k ≠ 7 → ¬ (32 ≤ k ∧ k ≤ 35) → k ≠ 12 → k ≠ 13 → k ≠ 20 → N k = P k := fun k a1 a2 a3 a4 a5 a6 => by
    rw [cN k a1 a2 a3]
    unfold qs_cmp qt_M
    rw [qa_blk_n a6, qa_blk_n a5, qa_blk_n a4]
  have nk : ∀ k : Nat, k ≠ 6 → k ≠ 7 → ¬ (32 ≤ k ∧ k ≤ 35) → k ≠ 12 → k ≠ 13 → k ≠ 20 → k ≠ 2 → ¬ (14 ≤ k ∧ k ≤ 17) → N k = M k := fun k a1 a2 a3 a4 a5 a6 a7 a8 => by
    rw [cP k a1 a2 a3 a4 a5 a6, pk k a7 a8]
  have ps := iv_poses h hq (pk 12 (by decide) (by decide)) (pk 13 (by decide) (by decide)) hs
  have hps : iv_pose N := by
    intro t f t0 t1 f0 f1
    rw [cN 12 (by decide) (by decide) (by decide), cN 13 (by decide) (by decide) (by decide), e32, e33, e34, e35]
    exact ps t f t0 t1 f0 f1
  obtain ⟨i1, i2, i3, i4, i5, i6, i7⟩ := id h
  refine ⟨?_, ⟨?_, ?_, ?_, ?_, ?_, ?_⟩, hps, ⟨?_, ?_, ?_⟩, ?_, ?_, ?_⟩
  · refine iv_bones_c i1 ?_ (c6 0 (by decide) (by decide)) ?_ ?_ ?_ ?_ ?_ ?_
    · rw [nk 1 (by decide) (by decide) (by decide) (by decide) (by decide) (by decide) (by decide) (by decide)]
    all_goals exact nk _ (by decide) (by decide) (by decide) (by decide) (by decide) (by decide) (by decide) (by decide)
  · rw [cP 14 (by decide) (by decide) (by decide) (by decide) (by decide) (by decide), cP 15 (by decide) (by decide) (by decide) (by decide) (by decide) (by decide), cP 16 (by decide) (by decide) (by decide) (by decide) (by decide) (by decide), cP 17 (by decide) (by decide) (by decide) (by decide) (by decide) (by decide), cP 2 (by decide) (by decide) (by decide) (by decide) (by decide) (by decide), e32, e33, e34, e35]
    exact hq
  · rw [cP 2 (by decide) (by decide) (by decide) (by decide) (by decide) (by decide)]
    exact hn
  · rw [cP 2 (by decide) (by decide) (by decide) (by decide) (by decide) (by decide), cP 14 (by decide) (by decide) (by decide) (by decide) (by decide) (by decide), c6 0 (by decide) (by decide)]
    exact hB
  · rw [e33]; exact hV
  · rw [e33, e35]; exact hT
  · rw [e34]; exact hA
  · rw [nk 19 (by decide) (by decide) (by decide) (by decide) (by decide) (by decide) (by decide) (by decide), nk 39 (by decide) (by decide) (by decide) (by decide) (by decide) (by decide) (by decide) (by decide)]
    exact i4.1
  · rw [cN 20 (by decide) (by decide) (by decide)]
    have q : ∀ k : Nat, k ≠ 12 → k ≠ 13 → k ≠ 2 → ¬ (14 ≤ k ∧ k ≤ 17) → qt_M P t0 120 k = M k := fun k a4 a5 a7 a8 => by
      unfold qt_M
      rw [qa_blk_n a5, qa_blk_n a4, pk k a7 a8]
    refine iv_cmp ?_ ?_ ?_ ?_ ?_ ?_
    · rw [q 1 (by decide) (by decide) (by decide) (by decide), c6 0 (by decide) (by decide)]; exact i1.1
    · rw [c6 0 (by decide) (by decide)]; exact i1.2.1.2
    · rw [e32, e33, e35]
      exact fun t f t0 t1 f0 f1 => (ps t f t0 t1 f0 f1).1
    · rw [q 19 (by decide) (by decide) (by decide) (by decide), nk 39 (by decide) (by decide) (by decide) (by decide) (by decide) (by decide) (by decide) (by decide)]
      exact i4.1
    · rw [q 18 (by decide) (by decide) (by decide) (by decide), nk 40 (by decide) (by decide) (by decide) (by decide) (by decide) (by decide) (by decide) (by decide)]
      exact i4.2.2
    · rw [q 20 (by decide) (by decide) (by decide) (by decide), nk 38 (by decide) (by decide) (by decide) (by decide) (by decide) (by decide) (by decide) (by decide)]
      exact fun f f0 f1 => iv_z h f0 f1
  · rw [nk 18 (by decide) (by decide) (by decide) (by decide) (by decide) (by decide) (by decide) (by decide), nk 40 (by decide) (by decide) (by decide) (by decide) (by decide) (by decide) (by decide) (by decide)]
    exact i4.2.2
  · refine iv_film_c i5 ?_ ?_ (c6 9 (by decide) (by decide)) ?_ ?_ ?_ ?_ ?_
    iterate 2 (rw [nk 4 (by decide) (by decide) (by decide) (by decide) (by decide) (by decide) (by decide) (by decide)])
    all_goals exact nk _ (by decide) (by decide) (by decide) (by decide) (by decide) (by decide) (by decide) (by decide)
  · refine iv_farm_c i6 ?_ ?_ ?_ ?_ ?_ ?_ ?_ ?_ ?_ ?_ ?_ ?_ (c6 15 (by decide) (by decide)) (c6 19 (by decide) (by decide))
    iterate 10 (focus exact nk _ (by decide) (by decide) (by decide) (by decide) (by decide) (by decide) (by decide) (by decide))
    all_goals rw [nk 5 (by decide) (by decide) (by decide) (by decide) (by decide) (by decide) (by decide) (by decide)]
  · refine iv_money_c i7 ?_ (c6 22 (by decide) (by decide)) ?_ ?_ ?_
    · rw [nk 0 (by decide) (by decide) (by decide) (by decide) (by decide) (by decide) (by decide) (by decide)]
    · rw [nk 5 (by decide) (by decide) (by decide) (by decide) (by decide) (by decide) (by decide) (by decide)]
    all_goals exact nk _ (by decide) (by decide) (by decide) (by decide) (by decide) (by decide) (by decide) (by decide)
