/-! key, unkey -/
theorem iv_chg {P : qa_Mem} {t0 w : Int} {k : Nat} (h12 : k ≠ 12) (h13 : k ≠ 13) (h20 : k ≠ 20) (h7 : k ≠ 7) : qa_upd (qs_cmp (qt_M P t0 120) 120) 7 0 w k = P k := by
  unfold qs_cmp qt_M
  rw [qa_upd_n h7, qa_blk_n h20, qa_blk_n h13, qa_blk_n h12]
theorem op_key {b c f v a s : Int} {M : qa_Mem} (h : iv M) (hs : s = 0 ∨ s = 1) : ∃ k v' M1 M2, qa_E 142 0 [(0, qr (0)), (1, qi (b)), (2, qi (c)), (3, qi (f)), (4, qi (v)), (5, qi (a)), (6, qi (s)), (7, qr (7))] [] (M) (.inl (some (qi (k)))) (M1) ∧ qa_E 78 0 [(0, qr 6), (1, qi (b)), (2, qi (c)), (3, qi (f)), (4, qi (v)), (5, qi (a)), (6, qi (s))] [] (M1) (.inl (some (qi (v')))) (M2) ∧ st_ok M M2 k v' := by
  have hb := iv_c h
  have hk := iv_k h
  have h3 := h.1.2.1
  by_cases hc : qm_cell M b c f ∧ 0 ≤ a ∧ a ≤ 5
  · have hc' : qp_cell M b c f ∧ 0 ≤ a ∧ a ≤ 5 := ⟨(iv_cell h).mpr hc.1, hc.2⟩
    by_cases hd : (c = 2 → (0 ≤ v ∧ v ≤ 3) ∧ s = 0) ∧ (c ≠ 2 → -200 ≤ v ∧ v ≤ 200)
    · by_cases hf : M 6 4 = 80 ∧ M 32 (120 * (3 * b + c) + f) = 0
      · exact ⟨_, _, _, _, K_Law_keyX3 (K_Court_key3 hb.1 hb.2 hc' hd hk.1 (by rw [h.2.1.2.1]; exact hf.1) (fun z => (iv_has h hc.1).mp z hf.2)), K_Model_keyX3 (M := qa_upd M 99 0 (M 99 0 + 1)) h3.1 h3.2 hc hd hf.1 hf.2, st_err h (by decide)⟩
      · have hv : -200 ≤ v ∧ v ≤ 200 := by
          by_cases z : c = 2
          · have := (hd.1 z).1; omega
          · exact hd.2 z
        have hcel := hc.1
        unfold qm_cell at hcel
        have k2 := h.2.1.2.1
        have hj : 120 * (3 * b + c) + f = qk_j (1000 * (3 * b + c) + f) := by unfold qk_j; omega
        have hx := iv_has h hc.1
        have hn : M 2 4 < 80 ∨ qp_has M b c f := by
          by_cases z : M 6 4 = 80
          · exact Or.inr (hx.mpr (fun y => hf ⟨z, y⟩))
          · exact Or.inl (by omega)
        obtain ⟨cp, cn, cb⟩ := qk_put_cp (v := v) (a := a) (s := s) h.2.1.1 (show 0 ≤ 1000 * (3 * b + c) + f ∧ 1000 * (3 * b + c) + f < 24000 ∧ (1000 * (3 * b + c) + f) % 1000 < 120 by omega) hv (by omega) hs hj hn
        have pk : ∀ k : Nat, k ≠ 2 → ¬ (14 ≤ k ∧ k ≤ 17) → qk_put M (1000 * (3 * b + c) + f) v a s k = M k := fun k h2 h14 => qk_put_k h2 (by omega) (by omega) (by omega) (by omega)
        have C := K_Court_key0 hb.1 hb.2 hc' hd hk.1 hk.2 hn hs h.2.1.1.1.2.2.2.2.2.2 cp.1 (by rw [pk 1 (by decide) (by decide)])
        obtain ⟨w, ew⟩ : ∃ w, w = qf_cnt (fun f9 => (qc_key M b c f v a s) 20 f9 = 2) 120 - qf_cnt (fun f9 => M 20 f9 = 2) 120 := ⟨_, rfl⟩
        rw [← ew] at C
        have m1 : ∀ k : Nat, k ≠ 12 → k ≠ 13 → k ≠ 20 → k ≠ 7 → k ≠ 2 → ¬ (14 ≤ k ∧ k ≤ 17) → qa_upd (qc_key M b c f v a s) 7 0 w k = M k := fun k a1 a2 a3 a4 a5 a6 => (iv_chg a1 a2 a3 a4).trans (pk k a5 a6)
        have q0 : qa_upd (qc_key M b c f v a s) 7 0 w 6 = M 6 := m1 6 (by decide) (by decide) (by decide) (by decide) (by decide) (by decide)
        have q32 : qa_upd (qc_key M b c f v a s) 7 0 w 32 = M 32 := m1 32 (by decide) (by decide) (by decide) (by decide) (by decide) (by decide)
        have q33 : qa_upd (qc_key M b c f v a s) 7 0 w 33 = M 33 := m1 33 (by decide) (by decide) (by decide) (by decide) (by decide) (by decide)
        have q34 : qa_upd (qc_key M b c f v a s) 7 0 w 34 = M 34 := m1 34 (by decide) (by decide) (by decide) (by decide) (by decide) (by decide)
        have q35 : qa_upd (qc_key M b c f v a s) 7 0 w 35 = M 35 := m1 35 (by decide) (by decide) (by decide) (by decide) (by decide) (by decide)
        have wf : qm_wf (qa_upd (qc_key M b c f v a s) 7 0 w) := by unfold qm_wf; rw [q0, q33]; exact iv_w h
        have D := K_Model_key0 (b := b) (c := c) (f := f) (v := v) (a := a) (s := s) wf (by unfold qm_cell at hc ⊢; rw [q0]; exact hc) hd (by rw [q0]; omega) (by rw [q0]; omega) (by
          rw [q0, q32]
          rcases hn with z | z
          · exact Or.inl (by omega)
          · exact Or.inr (hx.mp z)) hs
        have e32 : qm_key (qa_upd (qc_key M b c f v a s) 7 0 w) (120 * (3 * b + c) + f) v a s 32 = qf_set (M 32) (120 * (3 * b + c) + f) 1 := by
          rw [← q32]; exact qa_upd_s
        have e33 : qm_key (qa_upd (qc_key M b c f v a s) 7 0 w) (120 * (3 * b + c) + f) v a s 33 = qf_set (M 33) (120 * (3 * b + c) + f) v := by
          rw [← q33]; exact qa_upd_s
        have e34 : qm_key (qa_upd (qc_key M b c f v a s) 7 0 w) (120 * (3 * b + c) + f) v a s 34 = qf_set (M 34) (120 * (3 * b + c) + f) a := by
          rw [← q34]; exact qa_upd_s
        have e35 : qm_key (qa_upd (qc_key M b c f v a s) 7 0 w) (120 * (3 * b + c) + f) v a s 35 = qf_set (M 35) (120 * (3 * b + c) + f) s := by
          rw [← q35]; exact qa_upd_s
        have e64 : qm_key (qa_upd (qc_key M b c f v a s) 7 0 w) (120 * (3 * b + c) + f) v a s 6 4 = M 6 4 + (if M 32 (120 * (3 * b + c) + f) = 0 then 1 else 0) := by
          rw [← q32, ← q0]; rfl
        have I : iv (qm_key (qa_upd (qc_key M b c f v a s) 7 0 w) (120 * (3 * b + c) + f) v a s) := by
          refine iv_rekey (t0 := 3 * b + c) h cp pk ?_ ?_ ?_ ?_ ?_ ?_ ?_ e32 e33 e34 e35 ?_
          · intro i hi
            unfold qf_set
            rw [if_neg (by omega), if_neg (by omega), if_neg (by omega), if_neg (by omega)]
            exact ⟨rfl, rfl, rfl, rfl⟩
          · rw [cn, e64, ← k2]
            unfold qp_has at hx
            by_cases z : M 32 (120 * (3 * b + c) + f) = 0
            · rw [if_pos z, if_neg (fun y => hx.mp y z)]
            · rw [if_neg z, if_pos (hx.mpr z)]
          · exact cb (3000 * M 6 0) (by omega) h.2.1.2.2.1
          · intro i i0 i1
            unfold qf_set
            by_cases z : i = 120 * (3 * b + c) + f
            · rw [if_pos z]; exact hv
            · rw [if_neg z]; exact h.2.1.2.2.2.1 i i0 i1
          · intro i i0 i1 i2
            unfold qf_set
            by_cases z : i = 120 * (3 * b + c) + f
            · rw [if_pos z, if_pos z]; exact hd.1 (by omega)
            · rw [if_neg z, if_neg z]; exact h.2.1.2.2.2.2.1 i i0 i1 i2
          · intro i i0 i1
            unfold qf_set
            by_cases z : i = 120 * (3 * b + c) + f
            · rw [if_pos z]; omega
            · rw [if_neg z]; exact h.2.1.2.2.2.2.2 i i0 i1
          · intro k a1 a2 a3
            unfold qm_key
            rw [qa_upd_n (by omega), qa_upd_n (by omega), qa_upd_n (by omega), qa_upd_n (by omega), qa_upd_n a1, qa_upd_n a1, qa_upd_n a2]
            rfl
          · intro i a1 a2
            rw [← q0]
            unfold qm_key
            rw [qa_upd_n (by decide), qa_upd_n (by decide), qa_upd_n (by decide), qa_upd_n (by decide), qa_upd_i a1, qa_upd_i a2]
        refine ⟨_, _, _, _, K_Law_key0 C, D, st_go rfl ?_ I ?_ ?_ ?_⟩
        · have v1 := iv_vo I.2.2.2.1.2.1
          have v2 := iv_vo h.2.2.2.1.2.1
          have v3 : qm_vo (qa_upd (qc_key M b c f v a s) 7 0 w) = qm_vo M := qm_vo_c (m1 38 (by decide) (by decide) (by decide) (by decide) (by decide) (by decide)) (m1 39 (by decide) (by decide) (by decide) (by decide) (by decide) (by decide)) (m1 40 (by decide) (by decide) (by decide) (by decide) (by decide) (by decide)) q32 q33 q35 (by rw [q0])
          rw [v3, ← v1, ← v2]
          exact ew
        · exact m1 99 (by decide) (by decide) (by decide) (by decide) (by decide) (by decide)
        · exact m1 97 (by decide) (by decide) (by decide) (by decide) (by decide) (by decide)
        · exact m1 98 (by decide) (by decide) (by decide) (by decide) (by decide) (by decide)
    · exact ⟨_, _, _, _, K_Law_keyX2 (K_Court_key2 hb.1 hb.2 hc' hd), K_Model_keyX2 (M := qa_upd M 99 0 (M 99 0 + 1)) h3.1 h3.2 hc hd, st_err h (by decide)⟩
  · exact ⟨_, _, _, _, K_Law_keyX1 (K_Court_key1 hb.1 hb.2 (fun z => hc ⟨(iv_cell h).mp z.1, z.2⟩)), K_Model_keyX1 (M := qa_upd M 99 0 (M 99 0 + 1)) h3.1 h3.2 hc, st_err h (by decide)⟩
theorem op_unkey {b c f : Int} {M : qa_Mem} (h : iv M) : ∃ k v' M1 M2, qa_E 143 0 [(0, qr (0)), (1, qi (b)), (2, qi (c)), (3, qi (f)), (4, qr (7))] [] (M) (.inl (some (qi (k)))) (M1) ∧ qa_E 79 0 [(0, qr 6), (1, qi (b)), (2, qi (c)), (3, qi (f))] [] (M1) (.inl (some (qi (v')))) (M2) ∧ st_ok M M2 k v' := by
  have hb := iv_c h
  have hk := iv_k h
  have h3 := h.1.2.1
  by_cases hc : qm_cell M b c f ∧ M 32 (120 * (3 * b + c) + f) ≠ 0
  · have hc' := (iv_cell h).mpr hc.1
    have hx := (iv_has h hc.1).mpr hc.2
    have hcel := hc.1
    unfold qm_cell at hcel
    have k2 := h.2.1.2.1
    have hj : 120 * (3 * b + c) + f = qk_j (1000 * (3 * b + c) + f) := by unfold qk_j; omega
    obtain ⟨cp, cn, cb⟩ := qk_take_cp h.2.1.1 (show 0 ≤ 1000 * (3 * b + c) + f ∧ 1000 * (3 * b + c) + f < 24000 ∧ (1000 * (3 * b + c) + f) % 1000 < 120 by omega) hj hx
    have pk : ∀ k : Nat, k ≠ 2 → ¬ (14 ≤ k ∧ k ≤ 17) → qk_take M (1000 * (3 * b + c) + f) k = M k := fun k h2 h14 => qk_take_k h2 h14
    have C := K_Court_unkey0 hb.1 hb.2 hc' hx hk.1 hk.2 h.2.1.1.1.2.2.2.2.2.2 cp.1
    obtain ⟨w, ew⟩ : ∃ w, w = qf_cnt (fun f9 => (qc_unkey M b c f) 20 f9 = 2) 120 - qf_cnt (fun f9 => M 20 f9 = 2) 120 := ⟨_, rfl⟩
    rw [← ew] at C
    have m1 : ∀ k : Nat, k ≠ 12 → k ≠ 13 → k ≠ 20 → k ≠ 7 → k ≠ 2 → ¬ (14 ≤ k ∧ k ≤ 17) → qa_upd (qc_unkey M b c f) 7 0 w k = M k := fun k a1 a2 a3 a4 a5 a6 => (iv_chg a1 a2 a3 a4).trans (pk k a5 a6)
    have q0 : qa_upd (qc_unkey M b c f) 7 0 w 6 = M 6 := m1 6 (by decide) (by decide) (by decide) (by decide) (by decide) (by decide)
    have q32 : qa_upd (qc_unkey M b c f) 7 0 w 32 = M 32 := m1 32 (by decide) (by decide) (by decide) (by decide) (by decide) (by decide)
    have q33 : qa_upd (qc_unkey M b c f) 7 0 w 33 = M 33 := m1 33 (by decide) (by decide) (by decide) (by decide) (by decide) (by decide)
    have q34 : qa_upd (qc_unkey M b c f) 7 0 w 34 = M 34 := m1 34 (by decide) (by decide) (by decide) (by decide) (by decide) (by decide)
    have q35 : qa_upd (qc_unkey M b c f) 7 0 w 35 = M 35 := m1 35 (by decide) (by decide) (by decide) (by decide) (by decide) (by decide)
    have wf : qm_wf (qa_upd (qc_unkey M b c f) 7 0 w) := by unfold qm_wf; rw [q0, q33]; exact iv_w h
    have D := K_Model_unkey0 (b := b) (c := c) (f := f) wf (by unfold qm_cell at hc ⊢; rw [q0]; exact hc.1) (by rw [q32]; exact hc.2) (by rw [q0]; omega) (by rw [q0]; omega)
    have e32 : qm_unkey (qa_upd (qc_unkey M b c f) 7 0 w) (120 * (3 * b + c) + f) 32 = qf_set (M 32) (120 * (3 * b + c) + f) 0 := by
      rw [← q32]; exact qa_upd_s
    have e64 : qm_unkey (qa_upd (qc_unkey M b c f) 7 0 w) (120 * (3 * b + c) + f) 6 4 = M 6 4 - 1 := by
      rw [← q0]; rfl
    have I : iv (qm_unkey (qa_upd (qc_unkey M b c f) 7 0 w) (120 * (3 * b + c) + f)) := by
      refine iv_rekey (t0 := 3 * b + c) h cp pk ?_ ?_ ?_ h.2.1.2.2.2.1 h.2.1.2.2.2.2.1 h.2.1.2.2.2.2.2 ?_ e32 q33 q34 q35 ?_
      · intro i hi
        unfold qf_set
        rw [if_neg (by omega)]
        exact ⟨rfl, rfl, rfl, rfl⟩
      · rw [cn, e64, k2]
      · exact cb (3000 * M 6 0) h.2.1.2.2.1
      · intro k a1 a2 a3
        unfold qm_unkey
        rw [qa_upd_n a1, qa_upd_n (by omega), qa_upd_n a1, qa_upd_n a2]
        rfl
      · intro i a1 a2
        rw [← q0]
        unfold qm_unkey
        rw [qa_upd_i a1, qa_upd_n (by decide), qa_upd_i a2]
    refine ⟨_, _, _, _, K_Law_unkey0 C, D, st_go rfl ?_ I ?_ ?_ ?_⟩
    · have v1 := iv_vo I.2.2.2.1.2.1
      have v2 := iv_vo h.2.2.2.1.2.1
      have v3 : qm_vo (qa_upd (qc_unkey M b c f) 7 0 w) = qm_vo M := qm_vo_c (m1 38 (by decide) (by decide) (by decide) (by decide) (by decide) (by decide)) (m1 39 (by decide) (by decide) (by decide) (by decide) (by decide) (by decide)) (m1 40 (by decide) (by decide) (by decide) (by decide) (by decide) (by decide)) q32 q33 q35 (by rw [q0])
      rw [v3, ← v1, ← v2]
      exact ew
    · exact m1 99 (by decide) (by decide) (by decide) (by decide) (by decide) (by decide)
    · exact m1 97 (by decide) (by decide) (by decide) (by decide) (by decide) (by decide)
    · exact m1 98 (by decide) (by decide) (by decide) (by decide) (by decide) (by decide)
  · exact ⟨_, _, _, _, K_Law_unkeyX1 (K_Court_unkey1 hb.1 hb.2 (fun z => hc ⟨(iv_cell h).mp z.1, (iv_has h ((iv_cell h).mp z.1)).mp z.2⟩) hk.1 hk.2), K_Model_unkeyX1 (M := qa_upd M 99 0 (M 99 0 + 1)) h3.1 h3.2 hc, st_err h (by decide)⟩
