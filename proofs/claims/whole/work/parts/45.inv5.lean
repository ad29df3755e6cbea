/-! the invariant -/
def iv_bones (M : qa_Mem) : Prop := M 1 3 = M 6 0 ∧ (0 ≤ M 6 0 ∧ M 6 0 ≤ 8) ∧ M 9 = M 29 ∧ M 10 = M 30 ∧ M 11 = M 31 ∧ (∀ u : Int, 0 ≤ u → u < M 6 0 → -1 ≤ M 29 u ∧ M 29 u < u) ∧ (∀ u : Int, M 6 0 ≤ u → u < 8 → M 29 u = 0) ∧ (∀ u : Int, 0 ≤ u → u < 8 → (-100 ≤ M 30 u ∧ M 30 u ≤ 100) ∧ -100 ≤ M 31 u ∧ M 31 u ≤ 100)
def iv_keys (M : qa_Mem) : Prop := qk_cp (M 14) (M 15) (M 16) (M 17) (M 2 4) (M 32) (M 33) (M 34) (M 35) ∧ M 2 4 = M 6 4 ∧ (∀ p : Int, 0 ≤ p → p < M 2 4 → M 14 p < 3000 * M 6 0) ∧ qv_v (M 33) ∧ (∀ j : Int, 0 ≤ j → j < 2880 → (j / 120) % 3 = 2 → (0 ≤ M 33 j ∧ M 33 j ≤ 3) ∧ M 35 j = 0) ∧ (∀ j : Int, 0 ≤ j → j < 2880 → 0 ≤ M 34 j ∧ M 34 j < 6)
def iv_pose (M : qa_Mem) : Prop := ∀ t f : Int, 0 ≤ t → t < 24 → 0 ≤ f → f ≤ 119 → M 12 (t * 120 + f) = qm_v (M 32) (M 33) (M 35) t f ∧ M 13 (t * 120 + f) = qa_or (qm_b1 (M 32) (M 34) t f) (qm_b2 (M 32) (M 34) (M 35) t f)
def iv_still (M : qa_Mem) : Prop := M 19 = M 39 ∧ (∀ f : Int, 0 ≤ f → f < 120 → M 20 f = qm_ss M f) ∧ (∀ t f : Int, 0 ≤ t → t < 24 → 0 ≤ f → f < 120 → M 18 (t * 120 + f) = M 40 (24 * f + t))
def iv_film (M : qa_Mem) : Prop := M 4 3 = M 6 9 ∧ M 21 = M 36 ∧ M 22 = M 37 ∧ qm_sh M ∧ (∀ f : Int, 0 ≤ f → f < 120 → M 23 f = qf_tm (M 36) (M 37) (M 6 9).toNat f) ∧ M 4 4 = qm_len M
def iv_farm (M : qa_Mem) : Prop := M 24 = M 41 ∧ M 25 = M 42 ∧ M 26 = M 43 ∧ M 27 = M 44 ∧ M 28 = M 45 ∧ M 5 3 = M 6 15 ∧ M 5 6 = M 6 19 ∧ qv_farm (M 42) (M 43) (M 41) (M 45) (M 44) (M 6 15) (M 6 19)
def iv_money (M : qa_Mem) : Prop := M 0 5 = M 6 22 ∧ (0 ≤ M 6 22 ∧ M 6 22 ≤ 1000) ∧ M 5 7 = M 46 6 ∧ (∀ w : Int, w ≠ 6 → M 8 w = M 46 w)
def iv (M : qa_Mem) : Prop := iv_bones M ∧ iv_keys M ∧ iv_pose M ∧ iv_still M ∧ iv_film M ∧ iv_farm M ∧ iv_money M
theorem iv_err {M : qa_Mem} {a k : Int} (h : iv M) : iv (qa_upd (qa_upd M 99 0 a) 6 26 k) := ⟨h.1, h.2.1, h.2.2.1, h.2.2.2.1, h.2.2.2.2.1, h.2.2.2.2.2.1, h.2.2.2.2.2.2⟩
theorem iv_rd {M : qa_Mem} {v k : Int} (h : iv M) : iv (qa_upd (qa_upd M 7 0 v) 6 26 k) := ⟨h.1, h.2.1, h.2.2.1, h.2.2.2.1, h.2.2.2.2.1, h.2.2.2.2.2.1, h.2.2.2.2.2.2⟩
/-- what a call of both leaves: the reference tells the same throw, the answers are alike, the invariant holds -/
def st_ok (M M2 : qa_Mem) (k b : Int) : Prop := M2 6 26 = k ∧ (k = 0 → M2 7 0 = b) ∧ iv M2 ∧ M 99 0 ≤ M2 99 0 ∧ M2 99 0 ≤ M 99 0 + 1 ∧ M2 97 = M 97 ∧ M2 98 = M 98
theorem st_err {M : qa_Mem} {k : Int} (h : iv M) (hk : k ≠ 0) : st_ok M (qa_upd (qa_upd M 99 0 (M 99 0 + 1)) 6 26 k) k 0 := ⟨qa_upd_e, fun z => absurd z hk, iv_err h, show M 99 0 ≤ M 99 0 + 1 by omega, show M 99 0 + 1 ≤ M 99 0 + 1 from Int.le_refl _, rfl, rfl⟩
theorem st_rd {M : qa_Mem} {v b : Int} (h : iv M) (hv : v = b) : st_ok M (qa_upd (qa_upd M 7 0 v) 6 26 0) 0 b := ⟨qa_upd_e, fun _ => hv, iv_rd h, Int.le_refl _, show M 99 0 ≤ M 99 0 + 1 by omega, rfl, rfl⟩
theorem iv_w {M : qa_Mem} (h : iv M) : qm_wf M := ⟨h.1.2.1, h.2.1.2.2.2.1⟩
theorem iv_c {M : qa_Mem} (h : iv M) : 0 ≤ M 1 3 ∧ M 1 3 ≤ 8 := by rw [h.1.1]; exact h.1.2.1
theorem iv_k {M : qa_Mem} (h : iv M) : 0 ≤ M 2 4 ∧ M 2 4 ≤ 80 := ⟨h.2.1.1.1.1, h.2.1.1.1.2.1⟩
/-- there is a key, as both say -/
theorem iv_has {M : qa_Mem} (h : iv M) {b c f : Int} (hc : qm_cell M b c f) : qp_has M b c f ↔ M 32 (120 * (3 * b + c) + f) ≠ 0 := by
  obtain ⟨⟨hw, hF, hB⟩, -⟩ := h.2.1
  unfold qm_cell at hc
  have hb := h.1.2.1
  have S := qf_ca_s hw (1000 * (3 * b + c) + f)
  unfold qp_has
  generalize qf_ca (M 14) (M 2 4) (1000 * (3 * b + c) + f) 80 0 = p at *
  constructor
  · intro ⟨p1, p2⟩
    have := (hF p S.1 p1).1
    rw [p2] at this
    rw [show qk_j (1000 * (3 * b + c) + f) = 120 * (3 * b + c) + f by unfold qk_j; omega] at this
    exact this
  · intro hk
    obtain ⟨q, q0, q1, q2⟩ := hB (120 * (3 * b + c) + f) (by omega) (by omega) hk
    rw [show 1000 * ((120 * (3 * b + c) + f) / 120) + (120 * (3 * b + c) + f) % 120 = 1000 * (3 * b + c) + f by omega] at q2
    obtain ⟨w1, w2, w3, w4, w5, w6, w7⟩ := hw
    have hqp : q = p := by
      rcases Int.lt_trichotomy q p with z | z | z
      · have := S.2.2.1 q q0 z; omega
      · exact z
      · have a := S.2.2.2 p (Int.le_refl _) (by omega)
        have b := w3 p q S.1 z q1
        omega
    subst hqp
    exact ⟨q1, q2⟩
theorem iv_cell {M : qa_Mem} (h : iv M) {b c f : Int} : qp_cell M b c f ↔ qm_cell M b c f := by
  unfold qp_cell qm_cell
  rw [h.1.1]
theorem op_value {b c f : Int} {M : qa_Mem} (h : iv M) : ∃ k v M1 M2, qa_E 144 0 [(0, qr (0)), (1, qi (b)), (2, qi (c)), (3, qi (f)), (4, qr (7))] [] (M) (.inl (some (qi (k)))) (M1) ∧ qa_E 80 0 [(0, qr 6), (1, qi (b)), (2, qi (c)), (3, qi (f))] [] (M1) (.inl (some (qi (v)))) (M2) ∧ st_ok M M2 k v := by
  have hb := iv_c h
  by_cases hc : qm_cell M b c f
  · have hc' := (iv_cell h).mpr hc
    refine ⟨_, _, _, _, K_Law_value0 (K_Court_value0 hb.1 hb.2 hc'), K_Model_value0 (M := qa_upd M 7 0 _) (iv_w h) hc, st_rd h ?_⟩
    have hb := h.1.2.1
    unfold qm_cell at hc
    exact (h.2.2.1 (3 * b + c) f (by omega) (by omega) (by omega) (by omega)).1
  · exact ⟨_, _, _, _, K_Law_valueX1 (K_Court_value1 hb.1 hb.2 (fun z => hc ((iv_cell h).mp z))), K_Model_valueX1 (M := qa_upd M 99 0 (M 99 0 + 1)) h.1.2.1.1 h.1.2.1.2 hc, st_err h (by decide)⟩
