/-! bones -/
theorem iv_cmp {C N : qa_Mem} (hb : C 1 3 = N 6 0) (hb2 : N 6 0 ≤ 8) (hp : ∀ t f : Int, 0 ≤ t → t < 24 → 0 ≤ f → f ≤ 119 → C 12 (t * 120 + f) = qm_v (N 32) (N 33) (N 35) t f) (h19 : C 19 = N 39) (h18 : ∀ t f : Int, 0 ≤ t → t < 24 → 0 ≤ f → f < 120 → C 18 (t * 120 + f) = N 40 (24 * f + t)) (h20 : ∀ f : Int, 0 ≤ f → f < 120 → (C 20 f = 0 ↔ N 38 f = 0)) : ∀ f : Int, 0 ≤ f → f < 120 → qs_cmp C 120 20 f = qm_ss N f := by
  intro f f0 f1
  show (if 0 ≤ f ∧ f < 120 ∧ C 20 f ≠ 0 then 2 - qb (qs_am C f) else C 20 f) = _
  unfold qm_ss
  by_cases c : N 38 f = 0
  · have c' := (h20 f f0 f1).mpr c
    rw [if_pos c, if_neg (fun z => z.2.2 c'), c']
  · rw [if_neg c, if_pos ⟨f0, f1, fun z => c ((h20 f f0 f1).mp z)⟩, qb_c (iv_am hb hb2 hp h19 h18 f0 f1 c)]
theorem iv_z {M : qa_Mem} (h : iv M) {f : Int} (f0 : 0 ≤ f) (f1 : f < 120) : M 20 f = 0 ↔ M 38 f = 0 := by
  rw [h.2.2.2.1.2.1 f f0 f1]
  exact iv_ss0
theorem op_bone {p x y : Int} {M : qa_Mem} (h : iv M) : ∃ k v M1 M2, qa_E 141 0 [(0, qr (0)), (1, qi (p)), (2, qi (x)), (3, qi (y)), (4, qr (7))] [] (M) (.inl (some (qi (k)))) (M1) ∧ qa_E 71 0 [(0, qr 6), (1, qi (p)), (2, qi (x)), (3, qi (y))] [] (M1) (.inl (some (qi (v)))) (M2) ∧ st_ok M M2 k v := by
  have hb := iv_c h
  have e := h.1.1
  have h3 := h.1.2.1
  by_cases hc : p = -1 ∨ 0 ≤ p ∧ p ≤ M 6 0 - 1
  · have hc' : p = -1 ∨ 0 ≤ p ∧ p ≤ M 1 3 - 1 := by rw [e]; exact hc
    by_cases hd : (-100 ≤ x ∧ x ≤ 100) ∧ (-100 ≤ y ∧ y ≤ 100)
    · by_cases hf : M 6 0 = 8
      · exact ⟨_, _, _, _, K_Law_boneX3 (K_Court_bone3 hb.1 (by omega) hc' hd), K_Model_boneX3 (M := qa_upd M 99 0 (M 99 0 + 1)) h3.1 hf hc hd, st_err h (by decide)⟩
      · have lt : M 6 0 < 8 := by omega
        have h' := h
        obtain ⟨⟨b1, b2, b3, b4, b5, b6, b7, b8⟩, ⟨k1, k2, k3, k4⟩, i3, i4, i5, i6, i7⟩ := h'
        refine ⟨_, _, _, _, K_Law_bone0 (K_Court_bone0 hb.1 (by omega) hc' hd), K_Model_bone0 (M := qa_upd (qs_cmp (qc_bone M p x y) 120) 7 0 _) h3.1 lt hc hd, st_go rfl b1 ⟨⟨?_, ?_, ?_, ?_, ?_, ?_, ?_, ?_⟩, ⟨k1, k2, ?_, k4⟩, i3, ⟨i4.1, ?_, i4.2.2⟩, i5, i6, i7⟩ rfl rfl rfl⟩
        · show M 1 3 + 1 = M 6 0 + 1
          rw [b1]
        · show 0 ≤ M 6 0 + 1 ∧ M 6 0 + 1 ≤ 8
          omega
        · show qa_upd M 9 (M 1 3) p 9 = qa_upd M 29 (M 6 0) p 29
          rw [qa_upd_s, qa_upd_s, b3, b1]
        · show qa_upd M 10 (M 1 3) x 10 = qa_upd M 30 (M 6 0) x 30
          rw [qa_upd_s, qa_upd_s, b4, b1]
        · show qa_upd M 11 (M 1 3) y 11 = qa_upd M 31 (M 6 0) y 31
          rw [qa_upd_s, qa_upd_s, b5, b1]
        · show ∀ u : Int, 0 ≤ u → u < M 6 0 + 1 → -1 ≤ qa_upd M 29 (M 6 0) p 29 u ∧ qa_upd M 29 (M 6 0) p 29 u < u
          intro u u0 u1
          rw [qa_upd_s]
          unfold qf_set
          by_cases c : u = M 6 0
          · rw [if_pos c]; omega
          · rw [if_neg c]; exact b6 u u0 (by omega)
        · show ∀ u : Int, M 6 0 + 1 ≤ u → u < 8 → qa_upd M 29 (M 6 0) p 29 u = 0
          intro u u0 u1
          rw [qa_upd_s]
          unfold qf_set
          rw [if_neg (by omega)]
          exact b7 u (by omega) u1
        · show ∀ u : Int, 0 ≤ u → u < 8 → (-100 ≤ qa_upd M 30 (M 6 0) x 30 u ∧ qa_upd M 30 (M 6 0) x 30 u ≤ 100) ∧ -100 ≤ qa_upd M 31 (M 6 0) y 31 u ∧ qa_upd M 31 (M 6 0) y 31 u ≤ 100
          intro u u0 u1
          rw [qa_upd_s, qa_upd_s]
          unfold qf_set
          by_cases c : u = M 6 0
          · rw [if_pos c, if_pos c]; exact hd
          · rw [if_neg c, if_neg c]; exact b8 u u0 u1
        · show ∀ q : Int, 0 ≤ q → q < M 2 4 → M 14 q < 3000 * (M 6 0 + 1)
          intro q q0 q1
          have := k3 q q0 q1
          omega
        · exact iv_cmp (C := qc_bone M p x y) (show M 1 3 + 1 = M 6 0 + 1 by rw [b1]) (show M 6 0 + 1 ≤ 8 by omega) (fun t f t0 t1 f0 f1 => (i3 t f t0 t1 f0 f1).1) i4.1 i4.2.2 (fun f f0 f1 => iv_z h f0 f1)
    · exact ⟨_, _, _, _, K_Law_boneX2 (K_Court_bone2 hb.1 hb.2 hc' hd), K_Model_boneX2 (M := qa_upd M 99 0 (M 99 0 + 1)) h3.1 h3.2 hc hd, st_err h (by decide)⟩
  · exact ⟨_, _, _, _, K_Law_boneX1 (K_Court_bone1 hb.1 hb.2 (by rw [e]; exact hc)), K_Model_boneX1 (M := qa_upd M 99 0 (M 99 0 + 1)) h3.1 h3.2 hc, st_err h (by decide)⟩
