/-! the words of the tables that the instructions need; each method's room -/
def sd_R : Nat → String
  | 0 => RX0
  | 1 => RX1
  | 2 => RX2
  | 3 => RX3
  | 4 => RX4
  | 5 => RX5
  | 6 => RX6
  | 7 => RL
  | _ => RJ9
def sd_T : Nat → u_T
  | 0 => TX0
  | 1 => TX1
  | 2 => TX2
  | 3 => TX3
  | 4 => TX4
  | 5 => TX5
  | _ => TX6
def sd_N : Nat → Nat
  | 0 => 8
  | 1 => 5
  | 2 => 5
  | 3 => 7
  | 4 => 3
  | 5 => 6
  | _ => 27
def sd_F : Nat → Nat := fun i => ([0, 0, 0, 0, 0, 0, 0, 0, 0, 0, 1, 1, 2, 2, 1, 1, 0, 0, 0, 0, 0, 1, 1, 0, 0, 0, 0, 0, 0, 0, 0, 4, 2, 3, 2, 1, 0, 1, 0, 0, 1, 2, 0, 1, 1, 2, 4, 4, 0, 1, 2, 2, 1, 1, 3, 2, 1, 0, 0, 1, 2, 0, 2, 1, 0, 0, 0, 1, 1, 2, 0, 2, 1, 1, 0, 2, 3, 4, 5, 5, 3, 3, 0, 3, 0, 4, 2, 3, 0, 2, 1, 0, 1, 1, 4, 5, 5, 1, 1, 3, 0, 0, 4, 5, 1, 1, 3, 4, 4, 5, 1, 7, 7, 7, 7, 7, 7, 7, 7, 7, 7, 7, 7, 1, 3, 7, 7, 7, 7, 7, 7, 7, 7, 2, 1, 6, 6, 6, 0, 1, 0, 8, 8, 8, 8, 8, 8, 8, 8, 8, 8, 8, 8, 8, 8, 8, 8, 8, 8, 8, 8, 9] : List Nat).getD i 0
def sd_Q : Nat → Nat := fun i => ([0, 0, 0, 0, 0, 0, 0, 0, 0, 0, 22, 22, 44, 44, 22, 22, 0, 0, 0, 0, 0, 24, 24, 0, 0, 0, 0, 0, 0, 0, 0, 97, 42, 71, 45, 22, 0, 21, 0, 0, 22, 43, 0, 20, 21, 44, 99, 99, 0, 20, 43, 44, 22, 22, 74, 47, 22, 0, 0, 22, 45, 0, 45, 22, 0, 0, 0, 22, 22, 43, 0, 43, 22, 22, 0, 46, 72, 95, 117, 117, 72, 66, 0, 72, 0, 96, 46, 72, 0, 42, 22, 0, 24, 22, 95, 117, 117, 22, 22, 72, 0, 0, 95, 118, 22, 22, 72, 96, 95, 117, 22, 101, 124, 121, 101, 101, 101, 101, 101, 101, 101, 101, 101, 22, 68, 101, 101, 124, 101, 101, 101, 101, 101, 43, 21, 81, 81, 81, 0, 22, 0, 125, 152, 146, 124, 125, 122, 123, 122, 124, 122, 122, 122, 122, 123, 145, 122, 123, 122, 124, 122, 180] : List Nat).getD i 0
def AW : List Cond := lw_tbl.filter goodWord
theorem aw_in {w : Cond} (h : w ∈ lw_tbl) (g : goodWord w = true) : w ∈ AW := List.mem_filter.mpr ⟨h, g⟩
theorem aw_t {w : Cond} {n : Nat} (h : tables_1[n]? = some w) (g : goodWord w = true) : w ∈ AW := aw_in (List.mem_append_right _ (List.mem_of_getElem? h)) g
theorem aw_good {ws : List Cond} {big : List Cond} (h : ∀ w ∈ ws, w ∈ big) (g : ∀ w ∈ ws, w ∈ AW) : GoodIn big ws := fun w hw => ⟨h w hw, good_of_word (List.mem_filter.mp (g w hw)).2⟩
/-- a method's own word, and all its words -/
def sd_wd (i : Nat) : Cond := bif (sd_h i).isEmpty then Cond.code (sd_y i) (sd_b i) (sd_l i) (sd_r i) else Cond.codeWith (sd_y i) (sd_b i) (sd_l i) (sd_r i) (sd_h i)
def sd_w (i : Nat) : List Cond := sd_wd i :: AW
theorem sd_wd_g {i : Nat} : goodWord (sd_wd i) = true := by
  unfold sd_wd
  cases (sd_h i).isEmpty <;> rfl
def sd_wdB (i : Nat) : Bool := decide (tables_1[sd_x i]? = some (sd_wd i))
theorem sd_v0 : [0, 1, 2, 3, 4, 5, 6, 7].all sd_wdB = true := by decide +kernel
theorem sd_v1 : [8, 9, 10, 11, 12, 13, 14, 15].all sd_wdB = true := by decide +kernel
theorem sd_v2 : [16, 17, 18, 19, 20, 21, 22, 23].all sd_wdB = true := by decide +kernel
theorem sd_v3 : [24, 25, 26, 27, 28, 29, 30, 31].all sd_wdB = true := by decide +kernel
theorem sd_v4 : [32, 33, 34, 35, 36, 37, 38, 39].all sd_wdB = true := by decide +kernel
theorem sd_v5 : [40, 41, 42, 43, 44, 45, 46, 47].all sd_wdB = true := by decide +kernel
theorem sd_v6 : [48, 49, 50, 51, 52, 53, 54, 55].all sd_wdB = true := by decide +kernel
theorem sd_v7 : [56, 57, 58, 59, 60, 61, 62, 63].all sd_wdB = true := by decide +kernel
theorem sd_v8 : [64, 65, 66, 67, 68, 69, 70, 71].all sd_wdB = true := by decide +kernel
theorem sd_v9 : [72, 73, 74, 75, 76, 77, 78, 79].all sd_wdB = true := by decide +kernel
theorem sd_v10 : [80, 81, 82, 83, 84, 85, 86, 87].all sd_wdB = true := by decide +kernel
theorem sd_v11 : [88, 89, 90, 91, 92, 93, 94, 95].all sd_wdB = true := by decide +kernel
theorem sd_v12 : [96, 97, 98, 99, 100, 101, 102, 103].all sd_wdB = true := by decide +kernel
theorem sd_v13 : [104, 105, 106, 107, 108, 109, 110, 111].all sd_wdB = true := by decide +kernel
theorem sd_v14 : [112, 113, 114, 115, 116, 117, 118, 119].all sd_wdB = true := by decide +kernel
theorem sd_v15 : [120, 121, 122, 123, 124, 125, 126, 127].all sd_wdB = true := by decide +kernel
theorem sd_v16 : [128, 129, 130, 131, 132, 133, 134, 135].all sd_wdB = true := by decide +kernel
theorem sd_v17 : [136, 137, 138, 139, 140, 141, 142, 143].all sd_wdB = true := by decide +kernel
theorem sd_v18 : [144, 145, 146, 147, 148, 149, 150, 151].all sd_wdB = true := by decide +kernel
theorem sd_v19 : [152, 153, 154, 155, 156, 157, 158, 159].all sd_wdB = true := by decide +kernel
theorem sd_v20 : [160].all sd_wdB = true := by decide +kernel
theorem sd_wd_in {i : Nat} (hi : i < 161) : sd_wd i ∈ AW := by
  have m : i ∈ List.range 161 := List.mem_range.mpr hi
  have e : List.range 161 = ([0, 1, 2, 3, 4, 5, 6, 7] : List Nat) ++ (([8, 9, 10, 11, 12, 13, 14, 15] : List Nat) ++ (([16, 17, 18, 19, 20, 21, 22, 23] : List Nat) ++ (([24, 25, 26, 27, 28, 29, 30, 31] : List Nat) ++ (([32, 33, 34, 35, 36, 37, 38, 39] : List Nat) ++ (([40, 41, 42, 43, 44, 45, 46, 47] : List Nat) ++ (([48, 49, 50, 51, 52, 53, 54, 55] : List Nat) ++ (([56, 57, 58, 59, 60, 61, 62, 63] : List Nat) ++ (([64, 65, 66, 67, 68, 69, 70, 71] : List Nat) ++ (([72, 73, 74, 75, 76, 77, 78, 79] : List Nat) ++ (([80, 81, 82, 83, 84, 85, 86, 87] : List Nat) ++ (([88, 89, 90, 91, 92, 93, 94, 95] : List Nat) ++ (([96, 97, 98, 99, 100, 101, 102, 103] : List Nat) ++ (([104, 105, 106, 107, 108, 109, 110, 111] : List Nat) ++ (([112, 113, 114, 115, 116, 117, 118, 119] : List Nat) ++ (([120, 121, 122, 123, 124, 125, 126, 127] : List Nat) ++ (([128, 129, 130, 131, 132, 133, 134, 135] : List Nat) ++ (([136, 137, 138, 139, 140, 141, 142, 143] : List Nat) ++ (([144, 145, 146, 147, 148, 149, 150, 151] : List Nat) ++ (([152, 153, 154, 155, 156, 157, 158, 159] : List Nat) ++ ([160] : List Nat)))))))))))))))))))) := by decide +kernel
  have k : ∀ {l : List Nat}, l.all sd_wdB = true → i ∈ l → sd_wd i ∈ AW := fun h m => aw_t (of_decide_eq_true (List.all_eq_true.mp h i m)) sd_wd_g
  rw [e] at m
  rcases List.mem_append.mp m with m | m
  · exact k sd_v0 m
  rcases List.mem_append.mp m with m | m
  · exact k sd_v1 m
  rcases List.mem_append.mp m with m | m
  · exact k sd_v2 m
  rcases List.mem_append.mp m with m | m
  · exact k sd_v3 m
  rcases List.mem_append.mp m with m | m
  · exact k sd_v4 m
  rcases List.mem_append.mp m with m | m
  · exact k sd_v5 m
  rcases List.mem_append.mp m with m | m
  · exact k sd_v6 m
  rcases List.mem_append.mp m with m | m
  · exact k sd_v7 m
  rcases List.mem_append.mp m with m | m
  · exact k sd_v8 m
  rcases List.mem_append.mp m with m | m
  · exact k sd_v9 m
  rcases List.mem_append.mp m with m | m
  · exact k sd_v10 m
  rcases List.mem_append.mp m with m | m
  · exact k sd_v11 m
  rcases List.mem_append.mp m with m | m
  · exact k sd_v12 m
  rcases List.mem_append.mp m with m | m
  · exact k sd_v13 m
  rcases List.mem_append.mp m with m | m
  · exact k sd_v14 m
  rcases List.mem_append.mp m with m | m
  · exact k sd_v15 m
  rcases List.mem_append.mp m with m | m
  · exact k sd_v16 m
  rcases List.mem_append.mp m with m | m
  · exact k sd_v17 m
  rcases List.mem_append.mp m with m | m
  · exact k sd_v18 m
  rcases List.mem_append.mp m with m | m
  · exact k sd_v19 m
  exact k sd_v20 m
/-- names: plain, none a handle's; of the class -/
def sd_nmB (i : Nat) : Bool := (plainName (sd_y i).cls || (decide ((sd_y i).cls = "java/lang/Math") && decide (Jvm.Free.JP.floatDescs.contains (sd_y i).desc = false))) && decide ((sd_y i).cls ≠ "java/lang/invoke/MethodHandle") && decide ((sd_y i).cls ≠ "java/lang/invoke/VarHandle") && decide ((sd_y i).cls = sd_R (sd_c i))
theorem sd_nm_a : (List.range 162).all sd_nmB = true := by decide +kernel
theorem sd_nm {i : Nat} (hi : i < 162) : plainFor (sd_y i) = true ∧ (sd_y i).cls ≠ "java/lang/invoke/MethodHandle" ∧ (sd_y i).cls ≠ "java/lang/invoke/VarHandle" ∧ (sd_y i).cls = sd_R (sd_c i) := by
  have h := List.all_eq_true.mp sd_nm_a i (List.mem_range.mpr hi)
  unfold sd_nmB at h
  simp only [Bool.and_eq_true, Bool.or_eq_true, decide_eq_true_eq] at h
  exact ⟨h.1.1.1.elim plainFor_of_name (fun g => Jvm.Free.JP.mathPlain g.1 g.2), h.1.1.2, h.1.2, h.2⟩
