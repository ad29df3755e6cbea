/-! what the checks say of one instruction -/
theorem sd_lt {i pc : Nat} {q : qa_I} (h : qa_code i pc = some q) : pc < sd_n i := by
  have hi := sd_i h
  have e := List.all_eq_true.mp sd_e i (List.mem_range.mpr hi)
  unfold sd_e1 at e
  simp only [Bool.and_eq_true, decide_eq_true_eq] at e
  refine Classical.byContradiction (fun hp => ?_)
  by_cases h2 : pc < sd_n i + 64
  · have e1 := List.all_eq_true.mp e.1 (pc - sd_n i) (List.mem_range.mpr (by omega))
    rw [show sd_n i + (pc - sd_n i) = pc by omega, h] at e1
    cases e1
  · have e2 : ((qa_tbl.getD (i / 16) []).getD (i % 16) []).getD (pc / 64) [] = [] := gd_out (by omega)
    unfold qa_code at h
    rw [e2] at h
    cases h
theorem sd_fw {i pc op a nx cp : Nat} {v : Int} (h : qa_code i pc = some (op, a, v, nx, cp)) (h1 : 12 ≤ op) (h2 : op ≤ 14) : 0 ≤ v ∧ v.toNat < sd_N a ∧ a < 6 ∧ Cond.fieldLink (sd_R (sd_c i)) cp (sd_R a) (sd_T a v.toNat).2.1 (sd_T a v.toNat).2.2.1 ∈ AW ∧ (sd_T a v.toNat).1 = sd_R a := by
  have c := List.all_eq_true.mp (List.all_eq_true.mp sd_f2_a i (List.mem_range.mpr (sd_i h))) pc (List.mem_range.mpr (sd_lt h))
  unfold sd_f1 at c
  rw [h] at c
  simp only [Bool.or_eq_true, Bool.and_eq_true, decide_eq_true_eq, Bool.not_eq_true', Bool.and_eq_false_iff, List.any_eq_true] at c
  rcases c with c | ⟨c, t, m, ⟨⟨e1, e2⟩, e3⟩, e4⟩
  · exfalso
    rcases c with c | c
    · rw [Nat.ble_eq_true_of_le h1] at c; cases c
    · rw [Nat.ble_eq_true_of_le h2] at c; cases c
  · have w := List.all_eq_true.mp sd_fl_a t m
    unfold sd_flB at w
    simp only [Bool.and_eq_true, decide_eq_true_eq] at w
    obtain ⟨⟨⟨w1, w2⟩, w3⟩, w4⟩ := w
    rw [Nat.eq_of_beq_eq_true e1, Nat.eq_of_beq_eq_true e2, Nat.eq_of_beq_eq_true e3, Nat.eq_of_beq_eq_true e4] at w1
    rw [Nat.eq_of_beq_eq_true e3, Nat.eq_of_beq_eq_true e4] at w2 w3
    rw [Nat.eq_of_beq_eq_true e3] at w4
    exact ⟨c, w3, w4, aw_t w1 rfl, w2⟩
theorem sd_cw {i pc a nx cp : Nat} {v : Int} (h : qa_code i pc = some (18, a, v, nx, cp)) : (a < 55 ∧ sd_F a + 1 ≤ sd_F i ∧ 8 + (sd_l a + 11) + sd_Q a ≤ sd_Q i ∧ (parseMethodDescriptor (sd_y a).desc).map (fun d => d.parameters.length) = some (v.toNat - (bif sd_st a then 0 else 1)) ∧ (bif sd_st a then 0 else 1) ≤ v ∧ Cond.initialized (sd_y a).cls ∈ AW) ∧
    ((sd_st a = true ∧ sd_h a = [] ∧ Cond.methodLink (sd_R (sd_c i)) cp (sd_y a) ∈ AW ∧ Cond.static (sd_y a) ∈ AW) ∨
     (sd_st a = false ∧ sd_h a = [] ∧ Cond.methodLink (sd_R (sd_c i)) cp (sd_y a) ∈ AW ∧ Cond.instanceMethod (sd_y a) ∈ AW ∧ Cond.selects (sd_y a).cls (sd_y a) (sd_y a) ∈ AW) ∨
     (sd_st a = true ∧ sd_h a = [] ∧ Cond.methodLinkNest (sd_R (sd_c i)) cp (sd_y a) "KeyframeCourt" ∈ lw_tbl ∧ Cond.static (sd_y a) ∈ AW) ∨
     (sd_st a = true ∧ sd_h a ≠ [] ∧ Cond.methodLink (sd_R (sd_c i)) cp (sd_y a) ∈ AW ∧ Cond.static (sd_y a) ∈ AW)) := by
  have c := List.all_eq_true.mp (List.all_eq_true.mp sd_c2_a i (List.mem_range.mpr (sd_i h))) pc (List.mem_range.mpr (sd_lt h))
  unfold sd_c1 at c
  rw [h] at c
  simp only [Bool.or_eq_true, Bool.and_eq_true, decide_eq_true_eq, Bool.not_eq_true', List.any_eq_true] at c
  rcases c with c | ⟨⟨⟨⟨⟨c1, c2⟩, c3⟩, c4⟩, c5⟩, t, m, ⟨e1, e2⟩, e3⟩
  · cases c
  · have w := List.all_eq_true.mp sd_ct_a t m
    unfold sd_ctB at w
    simp only [Bool.and_eq_true, decide_eq_true_eq] at w
    obtain ⟨⟨w0, -⟩, w⟩ := w
    rw [Nat.eq_of_beq_eq_true e1, Nat.eq_of_beq_eq_true e2] at w
    rw [Nat.eq_of_beq_eq_true e3] at w w0
    refine ⟨⟨c1, c2, c3, c4, c5, aw_t w0 rfl⟩, ?_⟩
    split at w
    · simp only [Bool.and_eq_true, decide_eq_true_eq, List.isEmpty_iff] at w
      exact Or.inl ⟨w.1.2, w.2, aw_t w.1.1.1 rfl, aw_t w.1.1.2 rfl⟩
    · simp only [Bool.and_eq_true, decide_eq_true_eq, List.isEmpty_iff, Bool.not_eq_true'] at w
      exact Or.inr (Or.inl ⟨w.1.2, w.2, aw_t w.1.1.1.1 rfl, aw_t w.1.1.1.2 rfl, aw_in (List.mem_of_getElem? w.1.1.2) rfl⟩)
    · simp only [Bool.and_eq_true, decide_eq_true_eq, List.isEmpty_iff] at w
      exact Or.inr (Or.inr (Or.inl ⟨w.1.2, w.2, List.mem_append_right _ (List.mem_of_getElem? w.1.1.1), aw_t w.1.1.2 rfl⟩))
    · simp only [Bool.and_eq_true, decide_eq_true_eq, Bool.not_eq_true', List.isEmpty_eq_false_iff] at w
      exact Or.inr (Or.inr (Or.inr ⟨w.1.2, w.2, aw_t w.1.1.1 rfl, aw_t w.1.1.2 rfl⟩))
theorem sd_kq {i pc a nx cp : Nat} {v : Int} (h : qa_code i pc = some (33, a, v, nx, cp)) : Cond.constant (sd_R (sd_c i)) cp (Int32.ofInt v) ∈ AW := by
  have c := List.all_eq_true.mp (List.all_eq_true.mp sd_q2_a i (List.mem_range.mpr (sd_i h))) pc (List.mem_range.mpr (sd_lt h))
  unfold sd_q1 at c
  rw [h] at c
  simp only [Bool.or_eq_true, Bool.not_eq_true', decide_eq_true_eq] at c
  rcases c with c | c
  · cases c
  · exact aw_t c rfl
