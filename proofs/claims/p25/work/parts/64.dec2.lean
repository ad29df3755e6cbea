/-! what an instruction decodes to, for all methods at once -/
theorem gd_out {α : Type} {l : List α} {n : Nat} {d : α} (h : l.length ≤ n) : l.getD n d = d := by
  rw [List.getD_eq_getElem?_getD, List.getElem?_eq_none h]
  rfl
def sd_ns : List Nat := [5, 5, 5, 7, 15, 5, 5, 5, 7, 12, 30, 8, 12, 34, 7, 31, 39, 55, 22, 29, 11, 11, 15, 24, 16, 35, 15, 15, 34, 8, 12, 7, 26, 8, 15, 9, 15, 33, 47, 13, 13, 16, 8, 33, 155, 138, 19, 50, 118, 68, 34, 475, 347, 152, 1011, 486]
def sd_n (i : Nat) : Nat := sd_ns.getD i 0
theorem sd_a0 : ∀ i ∈ [0, 1, 2, 3, 4, 5, 6, 7, 8, 9, 10, 11, 12, 13, 14, 15], (List.range (sd_n i)).all (sd_ck1 i) = true := List.forall_mem_cons.mpr ⟨sd_ck_0, List.forall_mem_cons.mpr ⟨sd_ck_1, List.forall_mem_cons.mpr ⟨sd_ck_2, List.forall_mem_cons.mpr ⟨sd_ck_3, List.forall_mem_cons.mpr ⟨sd_ck_4, List.forall_mem_cons.mpr ⟨sd_ck_5, List.forall_mem_cons.mpr ⟨sd_ck_6, List.forall_mem_cons.mpr ⟨sd_ck_7, List.forall_mem_cons.mpr ⟨sd_ck_8, List.forall_mem_cons.mpr ⟨sd_ck_9, List.forall_mem_cons.mpr ⟨sd_ck_10, List.forall_mem_cons.mpr ⟨sd_ck_11, List.forall_mem_cons.mpr ⟨sd_ck_12, List.forall_mem_cons.mpr ⟨sd_ck_13, List.forall_mem_cons.mpr ⟨sd_ck_14, List.forall_mem_cons.mpr ⟨sd_ck_15, fun _ h => absurd h List.not_mem_nil⟩⟩⟩⟩⟩⟩⟩⟩⟩⟩⟩⟩⟩⟩⟩⟩
theorem sd_a1 : ∀ i ∈ [16, 17, 18, 19, 20, 21, 22, 23, 24, 25, 26, 27, 28, 29, 30, 31], (List.range (sd_n i)).all (sd_ck1 i) = true := List.forall_mem_cons.mpr ⟨sd_ck_16, List.forall_mem_cons.mpr ⟨sd_ck_17, List.forall_mem_cons.mpr ⟨sd_ck_18, List.forall_mem_cons.mpr ⟨sd_ck_19, List.forall_mem_cons.mpr ⟨sd_ck_20, List.forall_mem_cons.mpr ⟨sd_ck_21, List.forall_mem_cons.mpr ⟨sd_ck_22, List.forall_mem_cons.mpr ⟨sd_ck_23, List.forall_mem_cons.mpr ⟨sd_ck_24, List.forall_mem_cons.mpr ⟨sd_ck_25, List.forall_mem_cons.mpr ⟨sd_ck_26, List.forall_mem_cons.mpr ⟨sd_ck_27, List.forall_mem_cons.mpr ⟨sd_ck_28, List.forall_mem_cons.mpr ⟨sd_ck_29, List.forall_mem_cons.mpr ⟨sd_ck_30, List.forall_mem_cons.mpr ⟨sd_ck_31, fun _ h => absurd h List.not_mem_nil⟩⟩⟩⟩⟩⟩⟩⟩⟩⟩⟩⟩⟩⟩⟩⟩
theorem sd_a2 : ∀ i ∈ [32, 33, 34, 35, 36, 37, 38, 39, 40, 41, 42, 43, 44, 45, 46, 47], (List.range (sd_n i)).all (sd_ck1 i) = true := List.forall_mem_cons.mpr ⟨sd_ck_32, List.forall_mem_cons.mpr ⟨sd_ck_33, List.forall_mem_cons.mpr ⟨sd_ck_34, List.forall_mem_cons.mpr ⟨sd_ck_35, List.forall_mem_cons.mpr ⟨sd_ck_36, List.forall_mem_cons.mpr ⟨sd_ck_37, List.forall_mem_cons.mpr ⟨sd_ck_38, List.forall_mem_cons.mpr ⟨sd_ck_39, List.forall_mem_cons.mpr ⟨sd_ck_40, List.forall_mem_cons.mpr ⟨sd_ck_41, List.forall_mem_cons.mpr ⟨sd_ck_42, List.forall_mem_cons.mpr ⟨sd_ck_43, List.forall_mem_cons.mpr ⟨sd_ck_44, List.forall_mem_cons.mpr ⟨sd_ck_45, List.forall_mem_cons.mpr ⟨sd_ck_46, List.forall_mem_cons.mpr ⟨sd_ck_47, fun _ h => absurd h List.not_mem_nil⟩⟩⟩⟩⟩⟩⟩⟩⟩⟩⟩⟩⟩⟩⟩⟩
theorem sd_a3 : ∀ i ∈ [48, 49, 50, 51, 52, 53, 54], (List.range (sd_n i)).all (sd_ck1 i) = true := List.forall_mem_cons.mpr ⟨sd_ck_48, List.forall_mem_cons.mpr ⟨sd_ck_49, List.forall_mem_cons.mpr ⟨sd_ck_50, List.forall_mem_cons.mpr ⟨sd_ck_51, List.forall_mem_cons.mpr ⟨sd_ck_52, List.forall_mem_cons.mpr ⟨sd_ck_53, List.forall_mem_cons.mpr ⟨sd_ck_54, fun _ h => absurd h List.not_mem_nil⟩⟩⟩⟩⟩⟩⟩
theorem sd_law : ∀ q ∈ [0, 1, 2, 3, 4, 5, 6, 7], (List.range 64).all (fun r => sd_ck1 55 (64 * q + r)) = true := List.forall_mem_cons.mpr ⟨sd_cl_0, List.forall_mem_cons.mpr ⟨sd_cl_1, List.forall_mem_cons.mpr ⟨sd_cl_2, List.forall_mem_cons.mpr ⟨sd_cl_3, List.forall_mem_cons.mpr ⟨sd_cl_4, List.forall_mem_cons.mpr ⟨sd_cl_5, List.forall_mem_cons.mpr ⟨sd_cl_6, List.forall_mem_cons.mpr ⟨sd_cl_7, fun _ h => absurd h List.not_mem_nil⟩⟩⟩⟩⟩⟩⟩⟩
theorem sd_all {i : Nat} (hi : i < 56) {pc : Nat} (hp : pc < sd_n i) : sd_ck1 i pc = true := by
  by_cases h1 : i = 55
  · subst h1
    have hp : pc < 486 := hp
    have h := List.all_eq_true.mp (sd_law (pc / 64) (by have : pc / 64 ∈ List.range 8 := List.mem_range.mpr (by omega); exact this)) (pc % 64) (List.mem_range.mpr (by omega))
    rw [show 64 * (pc / 64) + pc % 64 = pc by omega] at h
    exact h
  · have m : i ∈ List.range 55 := List.mem_range.mpr (by omega)
    have e : List.range 55 = ([0, 1, 2, 3, 4, 5, 6, 7, 8, 9, 10, 11, 12, 13, 14, 15] : List Nat) ++ (([16, 17, 18, 19, 20, 21, 22, 23, 24, 25, 26, 27, 28, 29, 30, 31] : List Nat) ++ (([32, 33, 34, 35, 36, 37, 38, 39, 40, 41, 42, 43, 44, 45, 46, 47] : List Nat) ++ ([48, 49, 50, 51, 52, 53, 54] : List Nat))) := by decide +kernel
    rw [e] at m
    have h : (List.range (sd_n i)).all (sd_ck1 i) = true := by
      rcases List.mem_append.mp m with m | m
      · exact sd_a0 i m
      rcases List.mem_append.mp m with m | m
      · exact sd_a1 i m
      rcases List.mem_append.mp m with m | m
      · exact sd_a2 i m
      exact sd_a3 i m
    exact List.all_eq_true.mp h pc (List.mem_range.mpr hp)
def sd_e1 (i : Nat) : Bool := (List.range 64).all (fun r => (qa_code i (sd_n i + r)).isNone) && decide (((qa_tbl.getD (i / 16) []).getD (i % 16) []).length * 64 < sd_n i + 64)
theorem sd_e : (List.range 56).all sd_e1 = true := by decide +kernel
theorem sd_t : qa_tbl.all (fun g => decide (g.length ≤ 16)) = true ∧ qa_tbl.length = 4 ∧ (qa_tbl.getD 3 []).length = 8 := by decide +kernel
theorem sd_i {i pc : Nat} {q : qa_I} (h : qa_code i pc = some q) : i < 56 := by
  obtain ⟨-, h2, h3⟩ := sd_t
  refine Classical.byContradiction (fun hi => ?_)
  have e : (qa_tbl.getD (i / 16) []).getD (i % 16) [] = [] := by
    by_cases h4 : i / 16 = 3
    · rw [h4]
      exact gd_out (by rw [h3]; omega)
    · rw [gd_out (l := qa_tbl) (by rw [h2]; omega)]
      rfl
  unfold qa_code at h
  rw [e] at h
  cases h
theorem sd_dec {i pc : Nat} {q : qa_I} (h : qa_code i pc = some q) : sd_ok (sd_b i) pc q.1 q.2.1 q.2.2.1 q.2.2.2.1 q.2.2.2.2 := by
  have hi := sd_i h
  have hp : pc < sd_n i := by
    have e := List.all_eq_true.mp sd_e i (List.mem_range.mpr hi)
    unfold sd_e1 at e
    simp only [Bool.and_eq_true, decide_eq_true_eq] at e
    refine Classical.byContradiction (fun hp => ?_)
    by_cases h2 : pc < sd_n i + 64
    · have e1 := List.all_eq_true.mp e.1 (pc - sd_n i) (List.mem_range.mpr (by omega))
      rw [show sd_n i + (pc - sd_n i) = pc by omega, h] at e1
      cases e1
    · have e2 : ((qa_tbl.getD (i / 16) []).getD (i % 16) []).getD (pc / 64) [] = [] := gd_out (by omega)
      unfold qa_code at h
      rw [e2] at h
      cases h
  have c := sd_all hi hp
  unfold sd_ck1 at c
  rw [h] at c
  exact sd_okP c
