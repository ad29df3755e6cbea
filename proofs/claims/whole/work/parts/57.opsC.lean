/-! the night: the call -/
theorem iv_keys_c {M N : qa_Mem} (h : iv_keys M) (e0 : N 14 = M 14) (e1 : N 15 = M 15) (e2 : N 16 = M 16) (e3 : N 17 = M 17) (e4 : N 2 = M 2) (e5 : N 32 = M 32) (e6 : N 33 = M 33) (e7 : N 34 = M 34) (e8 : N 35 = M 35) (e9 : N 6 4 = M 6 4) (f0 : N 6 0 = M 6 0) : iv_keys N := by
  unfold iv_keys
  rw [e0, e1, e2, e3, e4, e5, e6, e7, e8, e9, f0]
  exact h
theorem iv_pose_c {M N : qa_Mem} (h : iv_pose M) (e0 : N 12 = M 12) (e1 : N 13 = M 13) (e5 : N 32 = M 32) (e6 : N 33 = M 33) (e7 : N 34 = M 34) (e8 : N 35 = M 35) : iv_pose N := by
  unfold iv_pose
  rw [e0, e1, e5, e6, e7, e8]
  exact h
theorem op_night {t : Int} {M : qa_Mem} (h : iv M) : ∃ k v M1 M2, qa_E 155 0 [(0, qr (0)), (1, qi (t)), (2, qr (7))] [] (M) (.inl (some (qi (k)))) (M1) ∧ qa_E 103 0 [(0, qr 6), (1, qi (t))] [] (M1) (.inl (some (qi (v)))) (M2) ∧ st_ok M M2 k v := by
  by_cases hc : 1 ≤ t ∧ t ≤ 24
  · obtain ⟨i1, i2, i3, i4, i5, ⟨a1, a2, a3, a4, a5, a6, a7, a8⟩, i7⟩ := id h
    have hv : qc_fv M := ⟨by rw [a1, a2, a3, a4, a5, a6, a7]; exact a8, iv_c h⟩
    have C := K_Court_night0 hv hc
    obtain ⟨q, eq⟩ : ∃ q, q = qc_hs (0, M) (M 5 3).toNat t.toNat := ⟨_, rfl⟩
    have F : qc_fr M q.2 := by rw [eq]; exact qc_fr_hs _ _
    rw [← eq] at C
    obtain ⟨M1, e1⟩ : ∃ M1, M1 = qa_upd q.2 7 0 q.1 := ⟨_, rfl⟩
    have k1 : ∀ k : Nat, k ≠ 18 → k ≠ 19 → k ≠ 20 → k ≠ 25 → k ≠ 26 → k ≠ 28 → k ≠ 5 → k ≠ 7 → M1 k = M k := fun k b1 b2 b3 b4 b5 b6 b7 b8 => by rw [e1, qa_upd_n b8, F.1 k b1 b2 b3 b4 b5 b6 b7]
    have k1' : ∀ k : Nat, 29 ≤ k → M1 k = M k := fun k b => k1 k (by omega) (by omega) (by omega) (by omega) (by omega) (by omega) (by omega) (by omega)
    have m6 : M1 6 = M 6 := k1 6 (by decide) (by decide) (by decide) (by decide) (by decide) (by decide) (by decide) (by decide)
    have nv : qm_fv M1 := by
      unfold qm_fv qm_wf
      rw [k1' 42 (by decide), k1' 43 (by decide), k1' 41 (by decide), k1' 45 (by decide), k1' 44 (by decide), k1' 33 (by decide), m6]
      exact ⟨a8, iv_w h, i5.2.2.2.1.1⟩
    have D := K_Model_night0 nv hc
    obtain ⟨p, ep⟩ : ∃ p, p = qm_hs (0, qa_upd M1 6 26 0) (M1 6 15).toNat t.toNat := ⟨_, rfl⟩
    have G : qm_fr (qa_upd M1 6 26 0) p.2 := by rw [ep]; exact qm_fr_hs _ _
    have fv : qm_fv p.2 := by
      rw [ep]
      have r := a8.1
      exact (qm_hs_v (q := (0, qa_upd M1 6 26 0)) nv (M1 6 15).toNat (by show ((M1 6 15).toNat : Int) ≤ M1 6 15; rw [m6]; omega) t.toNat).1
    rw [← ep] at D
    have n6 : ∀ i : Int, i ≠ 26 → qa_upd M1 6 26 0 6 i = M 6 i := fun i hi => by rw [qa_upd_i hi, m6]
    have f0 : fr M (qa_upd M1 6 26 0) := by
      have ss : ∀ f, qm_ss (qa_upd M1 6 26 0) f = qm_ss M f := fun f => by
        unfold qm_ss qm_st
        rw [n6 0 (by decide), qa_upd_n (by decide), qa_upd_n (by decide), qa_upd_n (by decide), qa_upd_n (by decide), qa_upd_n (by decide), qa_upd_n (by decide), k1' 38 (by decide), k1' 39 (by decide), k1' 40 (by decide), k1' 32 (by decide), k1' 33 (by decide), k1' 35 (by decide)]
      refine ⟨⟨?_, ?_, ?_, ?_, ?_, ?_, ?_⟩, ⟨?_, ?_, ?_⟩, ⟨?_, ?_, ?_⟩, ?_⟩
      · rw [qa_upd_n (by decide), k1' 41 (by decide)]; exact a1
      · rw [qa_upd_n (by decide), k1' 42 (by decide)]; exact a2
      · rw [qa_upd_n (by decide), k1' 43 (by decide)]; exact a3
      · rw [qa_upd_n (by decide), k1' 44 (by decide)]; exact a4
      · rw [qa_upd_n (by decide), k1' 45 (by decide)]; exact a5
      · rw [n6 19 (by decide)]; exact a7
      · rw [qa_upd_n (by decide), k1' 46 (by decide)]; exact i7.2.2.1
      · rw [qa_upd_n (by decide), k1' 39 (by decide)]; exact i4.1
      · intro f f0 f1
        rw [ss f]; exact i4.2.1 f f0 f1
      · rw [qa_upd_n (by decide), k1' 40 (by decide)]; exact i4.2.2
      · rw [n6 0 (by decide)]; exact i1.1
      · rw [n6 0 (by decide)]; exact i1.2.1.2
      · rw [qa_upd_n (by decide), qa_upd_n (by decide), qa_upd_n (by decide), k1' 32 (by decide), k1' 33 (by decide), k1' 35 (by decide)]
        exact fun t f t0 t1 f0 f1 => (i3 t f t0 t1 f0 f1).1
      · unfold qm_nd
        rw [n6 9 (by decide), qa_upd_n (by decide), qa_upd_n (by decide), k1' 36 (by decide), k1' 37 (by decide)]
        exact fun f f0 f1 => iv_nd i5 f0 f1
    have R := fr_hs (q := (0, M)) (p := (0, qa_upd M1 6 26 0)) f0 rfl (M 5 3).toNat t.toNat
    rw [← eq, show (M 5 3).toNat = (M1 6 15).toNat by rw [m6, a6], ← ep] at R
    obtain ⟨⟨⟨r1, r2, r3, r4, r5, r6, r7⟩, ⟨s1, s2, s3⟩, -, -⟩, ev⟩ := R
    -- what the reference leaves of the class's cells
    have c1 : ∀ k : Nat, k ≠ 38 → k ≠ 39 → k ≠ 40 → k ≠ 42 → k ≠ 43 → k ≠ 45 → k ≠ 46 → k ≠ 6 → k ≠ 7 → p.2 k = q.2 k := fun k b1 b2 b3 b4 b5 b6 b7 b8 b9 => by
      rw [G.1 k b1 b2 b3 b4 b5 b6 b7, qa_upd_n b8, e1, qa_upd_n b9]
    have c1' : ∀ k : Nat, k ≤ 37 → k ≠ 6 → k ≠ 7 → p.2 k = q.2 k := fun k b1 b2 b3 => c1 k (by omega) (by omega) (by omega) (by omega) (by omega) (by omega) (by omega) b2 b3
    have c2 : ∀ k : Nat, k ≤ 37 → k ≠ 6 → k ≠ 7 → k ≠ 18 → k ≠ 19 → k ≠ 20 → k ≠ 25 → k ≠ 26 → k ≠ 28 → k ≠ 5 → p.2 k = M k := fun k b1 b2 b3 d1 d2 d3 d4 d5 d6 d7 => by rw [c1' k b1 b2 b3, F.1 k d1 d2 d3 d4 d5 d6 d7]
    have c6 : ∀ i : Int, i ≠ 26 → p.2 6 i = M 6 i := fun i hi => by rw [G.1 6 (by decide) (by decide) (by decide) (by decide) (by decide) (by decide) (by decide), n6 i hi]
    have d2 : ∀ k : Nat, k ≤ 37 → ¬ (k = 6 ∨ k = 7 ∨ k = 18 ∨ k = 19 ∨ k = 20 ∨ k = 25 ∨ k = 26 ∨ k = 28 ∨ k = 5) → p.2 k = M k := fun k b1 b2 => c2 k b1 (by omega) (by omega) (by omega) (by omega) (by omega) (by omega) (by omega) (by omega) (by omega)
    refine ⟨_, _, _, _, K_Law_night0 C, (by rw [← e1]; exact D), st_go ?_ ?_ ⟨?_, ?_, ?_, ⟨?_, ?_, ?_⟩, ?_, ⟨?_, ?_, ?_, ?_, ?_, ?_, ?_, fv.1⟩, ⟨?_, ?_, ?_, ?_⟩⟩ ?_ ?_ ?_⟩
    · rw [G.1 6 (by decide) (by decide) (by decide) (by decide) (by decide) (by decide) (by decide)]; exact qa_upd_e
    · rw [G.1 7 (by decide) (by decide) (by decide) (by decide) (by decide) (by decide) (by decide), qa_upd_n (by decide), e1, qa_upd_e]
      exact ev
    · exact iv_bones_c i1 (by rw [d2 1 (by decide) (by decide)]) (c6 0 (by decide)) (d2 9 (by decide) (by decide)) (d2 10 (by decide) (by decide)) (d2 11 (by decide) (by decide)) (d2 29 (by decide) (by decide)) (d2 30 (by decide) (by decide)) (d2 31 (by decide) (by decide))
    · exact iv_keys_c i2 (d2 14 (by decide) (by decide)) (d2 15 (by decide) (by decide)) (d2 16 (by decide) (by decide)) (d2 17 (by decide) (by decide)) (d2 2 (by decide) (by decide)) (d2 32 (by decide) (by decide)) (d2 33 (by decide) (by decide)) (d2 34 (by decide) (by decide)) (d2 35 (by decide) (by decide)) (c6 4 (by decide)) (c6 0 (by decide))
    · exact iv_pose_c i3 (d2 12 (by decide) (by decide)) (d2 13 (by decide) (by decide)) (d2 32 (by decide) (by decide)) (d2 33 (by decide) (by decide)) (d2 34 (by decide) (by decide)) (d2 35 (by decide) (by decide))
    · rw [c1' 19 (by decide) (by decide) (by decide)]; exact s1
    · rw [c1' 20 (by decide) (by decide) (by decide)]; exact s2
    · rw [c1' 18 (by decide) (by decide) (by decide)]; exact s3
    · exact iv_film_c i5 (by rw [d2 4 (by decide) (by decide)]) (by rw [d2 4 (by decide) (by decide)]) (c6 9 (by decide)) (d2 21 (by decide) (by decide)) (d2 22 (by decide) (by decide)) (d2 36 (by decide) (by decide)) (d2 37 (by decide) (by decide)) (d2 23 (by decide) (by decide))
    · rw [c1' 24 (by decide) (by decide) (by decide)]; exact r1
    · rw [c1' 25 (by decide) (by decide) (by decide)]; exact r2
    · rw [c1' 26 (by decide) (by decide) (by decide)]; exact r3
    · rw [c1' 27 (by decide) (by decide) (by decide)]; exact r4
    · rw [c1' 28 (by decide) (by decide) (by decide)]; exact r5
    · rw [c1' 5 (by decide) (by decide) (by decide), F.2 3 (by decide), c6 15 (by decide)]; exact a6
    · rw [c1' 5 (by decide) (by decide) (by decide)]; exact r6
    · rw [d2 0 (by decide) (by decide), c6 22 (by decide)]; exact i7.1
    · rw [c6 22 (by decide)]; exact i7.2.1
    · rw [c1' 5 (by decide) (by decide) (by decide)]; exact r7
    · intro w hw
      rw [d2 8 (by decide) (by decide), G.2 w hw, qa_upd_n (by decide), k1' 46 (by decide)]
      exact i7.2.2.2 w hw
    all_goals rw [G.1 _ (by decide) (by decide) (by decide) (by decide) (by decide) (by decide) (by decide), qa_upd_n (by decide), k1' _ (by decide)]
  · exact ⟨_, _, _, _, K_Law_nightX1 (K_Court_night1 hc), K_Model_nightX1 (M := qa_upd M 99 0 (M 99 0 + 1)) hc, st_err h (by decide)⟩
