/-! what an instruction decodes to, for all methods at once -/
theorem gd_out {α : Type} {l : List α} {n : Nat} {d : α} (h : l.length ≤ n) : l.getD n d = d := by
  rw [List.getD_eq_getElem?_getD, List.getElem?_eq_none h]
  rfl
def sd_ns : List Nat := [23, 11, 8, 5, 7, 11, 7, 9, 7, 28, 10, 30, 55, 18, 35, 35, 49, 5, 5, 7, 15, 82, 72, 57, 37, 5, 5, 5, 25, 24, 31, 73, 29, 74, 73, 48, 50, 19, 5, 7, 12, 30, 43, 8, 9, 13, 23, 18, 12, 34, 118, 132, 18, 18, 80, 148, 64, 7, 16, 51, 44, 31, 39, 55, 5, 15, 16, 12, 8, 30, 11, 137, 32, 36, 18, 119, 83, 43, 204, 86, 34, 113, 69, 38, 33, 159, 142, 29, 38, 153, 89, 61, 29, 49, 63, 10, 10, 62, 94, 58, 55, 29, 203, 68, 57, 37, 61, 31, 55, 64, 33, 100, 160, 74, 27, 44, 26, 36, 16, 88, 33, 26, 34, 8, 12, 37, 58, 31, 26, 23, 15, 68, 33, 47, 40, 13, 13, 13, 16, 8, 6, 29, 35, 21, 21, 21, 17, 19, 17, 29, 17, 17, 17, 20, 23, 17, 17, 17, 17, 16, 17, 1508]
def sd_n (i : Nat) : Nat := sd_ns.getD i 0
theorem sd_a0 : ∀ i ∈ [0, 1, 2, 3, 4, 5, 6, 7, 8, 9, 10, 11, 12, 13, 14, 15], (List.range (sd_n i)).all (sd_ck1 i) = true := List.forall_mem_cons.mpr ⟨sd_ck_0, List.forall_mem_cons.mpr ⟨sd_ck_1, List.forall_mem_cons.mpr ⟨sd_ck_2, List.forall_mem_cons.mpr ⟨sd_ck_3, List.forall_mem_cons.mpr ⟨sd_ck_4, List.forall_mem_cons.mpr ⟨sd_ck_5, List.forall_mem_cons.mpr ⟨sd_ck_6, List.forall_mem_cons.mpr ⟨sd_ck_7, List.forall_mem_cons.mpr ⟨sd_ck_8, List.forall_mem_cons.mpr ⟨sd_ck_9, List.forall_mem_cons.mpr ⟨sd_ck_10, List.forall_mem_cons.mpr ⟨sd_ck_11, List.forall_mem_cons.mpr ⟨sd_ck_12, List.forall_mem_cons.mpr ⟨sd_ck_13, List.forall_mem_cons.mpr ⟨sd_ck_14, List.forall_mem_cons.mpr ⟨sd_ck_15, fun _ h => absurd h List.not_mem_nil⟩⟩⟩⟩⟩⟩⟩⟩⟩⟩⟩⟩⟩⟩⟩⟩
theorem sd_a1 : ∀ i ∈ [16, 17, 18, 19, 20, 21, 22, 23, 24, 25, 26, 27, 28, 29, 30, 31], (List.range (sd_n i)).all (sd_ck1 i) = true := List.forall_mem_cons.mpr ⟨sd_ck_16, List.forall_mem_cons.mpr ⟨sd_ck_17, List.forall_mem_cons.mpr ⟨sd_ck_18, List.forall_mem_cons.mpr ⟨sd_ck_19, List.forall_mem_cons.mpr ⟨sd_ck_20, List.forall_mem_cons.mpr ⟨sd_ck_21, List.forall_mem_cons.mpr ⟨sd_ck_22, List.forall_mem_cons.mpr ⟨sd_ck_23, List.forall_mem_cons.mpr ⟨sd_ck_24, List.forall_mem_cons.mpr ⟨sd_ck_25, List.forall_mem_cons.mpr ⟨sd_ck_26, List.forall_mem_cons.mpr ⟨sd_ck_27, List.forall_mem_cons.mpr ⟨sd_ck_28, List.forall_mem_cons.mpr ⟨sd_ck_29, List.forall_mem_cons.mpr ⟨sd_ck_30, List.forall_mem_cons.mpr ⟨sd_ck_31, fun _ h => absurd h List.not_mem_nil⟩⟩⟩⟩⟩⟩⟩⟩⟩⟩⟩⟩⟩⟩⟩⟩
theorem sd_a2 : ∀ i ∈ [32, 33, 34, 35, 36, 37, 38, 39, 40, 41, 42, 43, 44, 45, 46, 47], (List.range (sd_n i)).all (sd_ck1 i) = true := List.forall_mem_cons.mpr ⟨sd_ck_32, List.forall_mem_cons.mpr ⟨sd_ck_33, List.forall_mem_cons.mpr ⟨sd_ck_34, List.forall_mem_cons.mpr ⟨sd_ck_35, List.forall_mem_cons.mpr ⟨sd_ck_36, List.forall_mem_cons.mpr ⟨sd_ck_37, List.forall_mem_cons.mpr ⟨sd_ck_38, List.forall_mem_cons.mpr ⟨sd_ck_39, List.forall_mem_cons.mpr ⟨sd_ck_40, List.forall_mem_cons.mpr ⟨sd_ck_41, List.forall_mem_cons.mpr ⟨sd_ck_42, List.forall_mem_cons.mpr ⟨sd_ck_43, List.forall_mem_cons.mpr ⟨sd_ck_44, List.forall_mem_cons.mpr ⟨sd_ck_45, List.forall_mem_cons.mpr ⟨sd_ck_46, List.forall_mem_cons.mpr ⟨sd_ck_47, fun _ h => absurd h List.not_mem_nil⟩⟩⟩⟩⟩⟩⟩⟩⟩⟩⟩⟩⟩⟩⟩⟩
theorem sd_a3 : ∀ i ∈ [48, 49, 50, 51, 52, 53, 54, 55, 56, 57, 58, 59, 60, 61, 62, 63], (List.range (sd_n i)).all (sd_ck1 i) = true := List.forall_mem_cons.mpr ⟨sd_ck_48, List.forall_mem_cons.mpr ⟨sd_ck_49, List.forall_mem_cons.mpr ⟨sd_ck_50, List.forall_mem_cons.mpr ⟨sd_ck_51, List.forall_mem_cons.mpr ⟨sd_ck_52, List.forall_mem_cons.mpr ⟨sd_ck_53, List.forall_mem_cons.mpr ⟨sd_ck_54, List.forall_mem_cons.mpr ⟨sd_ck_55, List.forall_mem_cons.mpr ⟨sd_ck_56, List.forall_mem_cons.mpr ⟨sd_ck_57, List.forall_mem_cons.mpr ⟨sd_ck_58, List.forall_mem_cons.mpr ⟨sd_ck_59, List.forall_mem_cons.mpr ⟨sd_ck_60, List.forall_mem_cons.mpr ⟨sd_ck_61, List.forall_mem_cons.mpr ⟨sd_ck_62, List.forall_mem_cons.mpr ⟨sd_ck_63, fun _ h => absurd h List.not_mem_nil⟩⟩⟩⟩⟩⟩⟩⟩⟩⟩⟩⟩⟩⟩⟩⟩
theorem sd_a4 : ∀ i ∈ [64, 65, 66, 67, 68, 69, 70, 71, 72, 73, 74, 75, 76, 77, 78, 79], (List.range (sd_n i)).all (sd_ck1 i) = true := List.forall_mem_cons.mpr ⟨sd_ck_64, List.forall_mem_cons.mpr ⟨sd_ck_65, List.forall_mem_cons.mpr ⟨sd_ck_66, List.forall_mem_cons.mpr ⟨sd_ck_67, List.forall_mem_cons.mpr ⟨sd_ck_68, List.forall_mem_cons.mpr ⟨sd_ck_69, List.forall_mem_cons.mpr ⟨sd_ck_70, List.forall_mem_cons.mpr ⟨sd_ck_71, List.forall_mem_cons.mpr ⟨sd_ck_72, List.forall_mem_cons.mpr ⟨sd_ck_73, List.forall_mem_cons.mpr ⟨sd_ck_74, List.forall_mem_cons.mpr ⟨sd_ck_75, List.forall_mem_cons.mpr ⟨sd_ck_76, List.forall_mem_cons.mpr ⟨sd_ck_77, List.forall_mem_cons.mpr ⟨sd_ck_78, List.forall_mem_cons.mpr ⟨sd_ck_79, fun _ h => absurd h List.not_mem_nil⟩⟩⟩⟩⟩⟩⟩⟩⟩⟩⟩⟩⟩⟩⟩⟩
theorem sd_a5 : ∀ i ∈ [80, 81, 82, 83, 84, 85, 86, 87, 88, 89, 90, 91, 92, 93, 94, 95], (List.range (sd_n i)).all (sd_ck1 i) = true := List.forall_mem_cons.mpr ⟨sd_ck_80, List.forall_mem_cons.mpr ⟨sd_ck_81, List.forall_mem_cons.mpr ⟨sd_ck_82, List.forall_mem_cons.mpr ⟨sd_ck_83, List.forall_mem_cons.mpr ⟨sd_ck_84, List.forall_mem_cons.mpr ⟨sd_ck_85, List.forall_mem_cons.mpr ⟨sd_ck_86, List.forall_mem_cons.mpr ⟨sd_ck_87, List.forall_mem_cons.mpr ⟨sd_ck_88, List.forall_mem_cons.mpr ⟨sd_ck_89, List.forall_mem_cons.mpr ⟨sd_ck_90, List.forall_mem_cons.mpr ⟨sd_ck_91, List.forall_mem_cons.mpr ⟨sd_ck_92, List.forall_mem_cons.mpr ⟨sd_ck_93, List.forall_mem_cons.mpr ⟨sd_ck_94, List.forall_mem_cons.mpr ⟨sd_ck_95, fun _ h => absurd h List.not_mem_nil⟩⟩⟩⟩⟩⟩⟩⟩⟩⟩⟩⟩⟩⟩⟩⟩
theorem sd_a6 : ∀ i ∈ [96, 97, 98, 99, 100, 101, 102, 103, 104, 105, 106, 107, 108, 109, 110, 111], (List.range (sd_n i)).all (sd_ck1 i) = true := List.forall_mem_cons.mpr ⟨sd_ck_96, List.forall_mem_cons.mpr ⟨sd_ck_97, List.forall_mem_cons.mpr ⟨sd_ck_98, List.forall_mem_cons.mpr ⟨sd_ck_99, List.forall_mem_cons.mpr ⟨sd_ck_100, List.forall_mem_cons.mpr ⟨sd_ck_101, List.forall_mem_cons.mpr ⟨sd_ck_102, List.forall_mem_cons.mpr ⟨sd_ck_103, List.forall_mem_cons.mpr ⟨sd_ck_104, List.forall_mem_cons.mpr ⟨sd_ck_105, List.forall_mem_cons.mpr ⟨sd_ck_106, List.forall_mem_cons.mpr ⟨sd_ck_107, List.forall_mem_cons.mpr ⟨sd_ck_108, List.forall_mem_cons.mpr ⟨sd_ck_109, List.forall_mem_cons.mpr ⟨sd_ck_110, List.forall_mem_cons.mpr ⟨sd_ck_111, fun _ h => absurd h List.not_mem_nil⟩⟩⟩⟩⟩⟩⟩⟩⟩⟩⟩⟩⟩⟩⟩⟩
theorem sd_a7 : ∀ i ∈ [112, 113, 114, 115, 116, 117, 118, 119, 120, 121, 122, 123, 124, 125, 126, 127], (List.range (sd_n i)).all (sd_ck1 i) = true := List.forall_mem_cons.mpr ⟨sd_ck_112, List.forall_mem_cons.mpr ⟨sd_ck_113, List.forall_mem_cons.mpr ⟨sd_ck_114, List.forall_mem_cons.mpr ⟨sd_ck_115, List.forall_mem_cons.mpr ⟨sd_ck_116, List.forall_mem_cons.mpr ⟨sd_ck_117, List.forall_mem_cons.mpr ⟨sd_ck_118, List.forall_mem_cons.mpr ⟨sd_ck_119, List.forall_mem_cons.mpr ⟨sd_ck_120, List.forall_mem_cons.mpr ⟨sd_ck_121, List.forall_mem_cons.mpr ⟨sd_ck_122, List.forall_mem_cons.mpr ⟨sd_ck_123, List.forall_mem_cons.mpr ⟨sd_ck_124, List.forall_mem_cons.mpr ⟨sd_ck_125, List.forall_mem_cons.mpr ⟨sd_ck_126, List.forall_mem_cons.mpr ⟨sd_ck_127, fun _ h => absurd h List.not_mem_nil⟩⟩⟩⟩⟩⟩⟩⟩⟩⟩⟩⟩⟩⟩⟩⟩
theorem sd_a8 : ∀ i ∈ [128, 129, 130, 131, 132, 133, 134, 135, 136, 137, 138, 139, 140, 141, 142, 143], (List.range (sd_n i)).all (sd_ck1 i) = true := List.forall_mem_cons.mpr ⟨sd_ck_128, List.forall_mem_cons.mpr ⟨sd_ck_129, List.forall_mem_cons.mpr ⟨sd_ck_130, List.forall_mem_cons.mpr ⟨sd_ck_131, List.forall_mem_cons.mpr ⟨sd_ck_132, List.forall_mem_cons.mpr ⟨sd_ck_133, List.forall_mem_cons.mpr ⟨sd_ck_134, List.forall_mem_cons.mpr ⟨sd_ck_135, List.forall_mem_cons.mpr ⟨sd_ck_136, List.forall_mem_cons.mpr ⟨sd_ck_137, List.forall_mem_cons.mpr ⟨sd_ck_138, List.forall_mem_cons.mpr ⟨sd_ck_139, List.forall_mem_cons.mpr ⟨sd_ck_140, List.forall_mem_cons.mpr ⟨sd_ck_141, List.forall_mem_cons.mpr ⟨sd_ck_142, List.forall_mem_cons.mpr ⟨sd_ck_143, fun _ h => absurd h List.not_mem_nil⟩⟩⟩⟩⟩⟩⟩⟩⟩⟩⟩⟩⟩⟩⟩⟩
theorem sd_a9 : ∀ i ∈ [144, 145, 146, 147, 148, 149, 150, 151, 152, 153, 154, 155, 156, 157, 158, 159], (List.range (sd_n i)).all (sd_ck1 i) = true := List.forall_mem_cons.mpr ⟨sd_ck_144, List.forall_mem_cons.mpr ⟨sd_ck_145, List.forall_mem_cons.mpr ⟨sd_ck_146, List.forall_mem_cons.mpr ⟨sd_ck_147, List.forall_mem_cons.mpr ⟨sd_ck_148, List.forall_mem_cons.mpr ⟨sd_ck_149, List.forall_mem_cons.mpr ⟨sd_ck_150, List.forall_mem_cons.mpr ⟨sd_ck_151, List.forall_mem_cons.mpr ⟨sd_ck_152, List.forall_mem_cons.mpr ⟨sd_ck_153, List.forall_mem_cons.mpr ⟨sd_ck_154, List.forall_mem_cons.mpr ⟨sd_ck_155, List.forall_mem_cons.mpr ⟨sd_ck_156, List.forall_mem_cons.mpr ⟨sd_ck_157, List.forall_mem_cons.mpr ⟨sd_ck_158, List.forall_mem_cons.mpr ⟨sd_ck_159, fun _ h => absurd h List.not_mem_nil⟩⟩⟩⟩⟩⟩⟩⟩⟩⟩⟩⟩⟩⟩⟩⟩
theorem sd_a10 : ∀ i ∈ [160], (List.range (sd_n i)).all (sd_ck1 i) = true := List.forall_mem_cons.mpr ⟨sd_ck_160, fun _ h => absurd h List.not_mem_nil⟩
theorem sd_law : ∀ q ∈ [0, 1, 2, 3, 4, 5, 6, 7, 8, 9, 10, 11, 12, 13, 14, 15, 16, 17, 18, 19, 20, 21, 22, 23], (List.range 64).all (fun r => sd_ck1 161 (64 * q + r)) = true := List.forall_mem_cons.mpr ⟨sd_cl_0, List.forall_mem_cons.mpr ⟨sd_cl_1, List.forall_mem_cons.mpr ⟨sd_cl_2, List.forall_mem_cons.mpr ⟨sd_cl_3, List.forall_mem_cons.mpr ⟨sd_cl_4, List.forall_mem_cons.mpr ⟨sd_cl_5, List.forall_mem_cons.mpr ⟨sd_cl_6, List.forall_mem_cons.mpr ⟨sd_cl_7, List.forall_mem_cons.mpr ⟨sd_cl_8, List.forall_mem_cons.mpr ⟨sd_cl_9, List.forall_mem_cons.mpr ⟨sd_cl_10, List.forall_mem_cons.mpr ⟨sd_cl_11, List.forall_mem_cons.mpr ⟨sd_cl_12, List.forall_mem_cons.mpr ⟨sd_cl_13, List.forall_mem_cons.mpr ⟨sd_cl_14, List.forall_mem_cons.mpr ⟨sd_cl_15, List.forall_mem_cons.mpr ⟨sd_cl_16, List.forall_mem_cons.mpr ⟨sd_cl_17, List.forall_mem_cons.mpr ⟨sd_cl_18, List.forall_mem_cons.mpr ⟨sd_cl_19, List.forall_mem_cons.mpr ⟨sd_cl_20, List.forall_mem_cons.mpr ⟨sd_cl_21, List.forall_mem_cons.mpr ⟨sd_cl_22, List.forall_mem_cons.mpr ⟨sd_cl_23, fun _ h => absurd h List.not_mem_nil⟩⟩⟩⟩⟩⟩⟩⟩⟩⟩⟩⟩⟩⟩⟩⟩⟩⟩⟩⟩⟩⟩⟩⟩
theorem sd_all {i : Nat} (hi : i < 162) {pc : Nat} (hp : pc < sd_n i) : sd_ck1 i pc = true := by
  by_cases h1 : i = 161
  · subst h1
    have hp : pc < 1508 := hp
    have h := List.all_eq_true.mp (sd_law (pc / 64) (by have : pc / 64 ∈ List.range 24 := List.mem_range.mpr (by omega); exact this)) (pc % 64) (List.mem_range.mpr (by omega))
    rw [show 64 * (pc / 64) + pc % 64 = pc by omega] at h
    exact h
  · have m : i ∈ List.range 161 := List.mem_range.mpr (by omega)
    have e : List.range 161 = ([0, 1, 2, 3, 4, 5, 6, 7, 8, 9, 10, 11, 12, 13, 14, 15] : List Nat) ++ (([16, 17, 18, 19, 20, 21, 22, 23, 24, 25, 26, 27, 28, 29, 30, 31] : List Nat) ++ (([32, 33, 34, 35, 36, 37, 38, 39, 40, 41, 42, 43, 44, 45, 46, 47] : List Nat) ++ (([48, 49, 50, 51, 52, 53, 54, 55, 56, 57, 58, 59, 60, 61, 62, 63] : List Nat) ++ (([64, 65, 66, 67, 68, 69, 70, 71, 72, 73, 74, 75, 76, 77, 78, 79] : List Nat) ++ (([80, 81, 82, 83, 84, 85, 86, 87, 88, 89, 90, 91, 92, 93, 94, 95] : List Nat) ++ (([96, 97, 98, 99, 100, 101, 102, 103, 104, 105, 106, 107, 108, 109, 110, 111] : List Nat) ++ (([112, 113, 114, 115, 116, 117, 118, 119, 120, 121, 122, 123, 124, 125, 126, 127] : List Nat) ++ (([128, 129, 130, 131, 132, 133, 134, 135, 136, 137, 138, 139, 140, 141, 142, 143] : List Nat) ++ (([144, 145, 146, 147, 148, 149, 150, 151, 152, 153, 154, 155, 156, 157, 158, 159] : List Nat) ++ ([160] : List Nat)))))))))) := by decide +kernel
    rw [e] at m
    have h : (List.range (sd_n i)).all (sd_ck1 i) = true := by
      rcases List.mem_append.mp m with m | m
      · exact sd_a0 i m
      rcases List.mem_append.mp m with m | m
      · exact sd_a1 i m
      rcases List.mem_append.mp m with m | m
      · exact sd_a2 i m
      rcases List.mem_append.mp m with m | m
      · exact sd_a3 i m
      rcases List.mem_append.mp m with m | m
      · exact sd_a4 i m
      rcases List.mem_append.mp m with m | m
      · exact sd_a5 i m
      rcases List.mem_append.mp m with m | m
      · exact sd_a6 i m
      rcases List.mem_append.mp m with m | m
      · exact sd_a7 i m
      rcases List.mem_append.mp m with m | m
      · exact sd_a8 i m
      rcases List.mem_append.mp m with m | m
      · exact sd_a9 i m
      exact sd_a10 i m
    exact List.all_eq_true.mp h pc (List.mem_range.mpr hp)
def sd_e1 (i : Nat) : Bool := (List.range 64).all (fun r => (qa_code i (sd_n i + r)).isNone) && decide (((qa_tbl.getD (i / 16) []).getD (i % 16) []).length * 64 < sd_n i + 64)
theorem sd_e : (List.range 162).all sd_e1 = true := by decide +kernel
theorem sd_t : qa_tbl.all (fun g => decide (g.length ≤ 16)) = true ∧ qa_tbl.length = 11 ∧ (qa_tbl.getD 10 []).length = 2 := by decide +kernel
theorem sd_i {i pc : Nat} {q : qa_I} (h : qa_code i pc = some q) : i < 162 := by
  obtain ⟨-, h2, h3⟩ := sd_t
  refine Classical.byContradiction (fun hi => ?_)
  have e : (qa_tbl.getD (i / 16) []).getD (i % 16) [] = [] := by
    by_cases h4 : i / 16 = 10
    · rw [h4]
      exact gd_out (by rw [h3]; omega)
    · rw [gd_out (l := qa_tbl) (by rw [h2]; omega)]
      rfl
  unfold qa_code at h
  rw [e] at h
  cases h
theorem sd_dec {i pc : Nat} {q : qa_I} (h : qa_code i pc = some q) : sd_ok (sd_b i) pc q.1 q.2.1 q.2.2.1 q.2.2.2.1 q.2.2.2.2 := by
  have hi := sd_i h
  have hp : pc < sd_n i := by
    have e := List.all_eq_true.mp sd_e i (List.mem_range.mpr hi)
    unfold sd_e1 at e
    simp only [Bool.and_eq_true, decide_eq_true_eq] at e
    refine Classical.byContradiction (fun hp => ?_)
    by_cases h2 : pc < sd_n i + 64
    · have e1 := List.all_eq_true.mp e.1 (pc - sd_n i) (List.mem_range.mpr (by omega))
      rw [show sd_n i + (pc - sd_n i) = pc by omega, h] at e1
      cases e1
    · have e2 : ((qa_tbl.getD (i / 16) []).getD (i % 16) []).getD (pc / 64) [] = [] := gd_out (by omega)
      unfold qa_code at h
      rw [e2] at h
      cases h
  have c := sd_all hi hp
  unfold sd_ck1 at c
  rw [h] at c
  exact sd_okP c
