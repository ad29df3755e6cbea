/-! the words of the tables that the instructions need; each method's room -/
def sd_R : Nat → String
  | 0 => RX0
  | 1 => RX1
  | 2 => RX2
  | 3 => RX3
  | 4 => RX4
  | 5 => RX5
  | _ => RL
def sd_T : Nat → u_T
  | 0 => TX0
  | 1 => TX1
  | 2 => TX2
  | 3 => TX3
  | 4 => TX4
  | _ => TX5
def sd_N : Nat → Nat
  | 0 => 8
  | 1 => 5
  | 2 => 5
  | 3 => 7
  | 4 => 3
  | _ => 6
def sd_F : Nat → Nat := fun i => ([0, 0, 0, 0, 0, 0, 0, 0, 0, 1, 2, 1, 0, 1, 0, 0, 2, 1, 7, 7, 7, 7, 7, 7, 7, 7, 7, 7, 7, 1, 3, 7, 7, 7, 7, 7, 7, 7, 2, 6, 6, 0, 1, 0, 8, 8, 0, 0, 0, 0, 0, 9, 9, 9, 9, 10] : List Nat).getD i 0
def sd_Q : Nat → Nat := fun i => ([0, 0, 0, 0, 0, 0, 0, 0, 0, 22, 43, 20, 0, 20, 0, 0, 45, 22, 101, 101, 101, 101, 101, 101, 101, 101, 101, 101, 101, 22, 68, 101, 101, 101, 101, 101, 101, 101, 43, 81, 81, 0, 22, 0, 129, 124, 0, 0, 0, 0, 0, 149, 149, 149, 157, 199] : List Nat).getD i 0
def AW : List Cond := lw_tbl.filter goodWord
theorem aw_in {w : Cond} (h : w ∈ lw_tbl) (g : goodWord w = true) : w ∈ AW := List.mem_filter.mpr ⟨h, g⟩
theorem aw_t {w : Cond} {n : Nat} (h : tables_1[n]? = some w) (g : goodWord w = true) : w ∈ AW := aw_in (List.mem_append_right _ (List.mem_of_getElem? h)) g
theorem aw_good {ws : List Cond} {big : List Cond} (h : ∀ w ∈ ws, w ∈ big) (g : ∀ w ∈ ws, w ∈ AW) : GoodIn big ws := fun w hw => ⟨h w hw, good_of_word (List.mem_filter.mp (g w hw)).2⟩
/-- a method's own word, and all its words -/
def sd_wd (i : Nat) : Cond := bif (sd_h i).isEmpty then Cond.code (sd_y i) (sd_b i) (sd_l i) (sd_r i) else Cond.codeWith (sd_y i) (sd_b i) (sd_l i) (sd_r i) (sd_h i)
def sd_w (i : Nat) : List Cond := sd_wd i :: AW
theorem sd_wd_g {i : Nat} : goodWord (sd_wd i) = true := by
  unfold sd_wd
  cases (sd_h i).isEmpty <;> rfl
def sd_wdB (i : Nat) : Bool := decide (tables_1[sd_x i]? = some (sd_wd i))
theorem sd_v0 : [0, 1, 2, 3, 4, 5, 6, 7].all sd_wdB = true := by decide +kernel
theorem sd_v1 : [8, 9, 10, 11, 12, 13, 14, 15].all sd_wdB = true := by decide +kernel
theorem sd_v2 : [16, 17, 18, 19, 20, 21, 22, 23].all sd_wdB = true := by decide +kernel
theorem sd_v3 : [24, 25, 26, 27, 28, 29, 30, 31].all sd_wdB = true := by decide +kernel
theorem sd_v4 : [32, 33, 34, 35, 36, 37, 38, 39].all sd_wdB = true := by decide +kernel
theorem sd_v5 : [40, 41, 42].all sd_wdB = true := by decide +kernel
set_option maxRecDepth 100000 in
theorem sd_w43 : tables_1[253]? = some (sd_wd 43) := by rfl
theorem sd_v6 : [43].all sd_wdB = true := by
  show (decide (tables_1[sd_x 43]? = some (sd_wd 43)) && true) = true
  rw [Bool.and_true]
  exact decide_eq_true sd_w43
set_option maxRecDepth 100000 in
theorem sd_w44 : tables_1[257]? = some (sd_wd 44) := by rfl
theorem sd_v7 : [44].all sd_wdB = true := by
  show (decide (tables_1[sd_x 44]? = some (sd_wd 44)) && true) = true
  rw [Bool.and_true]
  exact decide_eq_true sd_w44
set_option maxRecDepth 100000 in
theorem sd_w45 : tables_1[567]? = some (sd_wd 45) := by rfl
theorem sd_v8 : [45].all sd_wdB = true := by
  show (decide (tables_1[sd_x 45]? = some (sd_wd 45)) && true) = true
  rw [Bool.and_true]
  exact decide_eq_true sd_w45
set_option maxRecDepth 100000 in
theorem sd_w46 : tables_1[659]? = some (sd_wd 46) := by rfl
theorem sd_v9 : [46].all sd_wdB = true := by
  show (decide (tables_1[sd_x 46]? = some (sd_wd 46)) && true) = true
  rw [Bool.and_true]
  exact decide_eq_true sd_w46
set_option maxRecDepth 100000 in
theorem sd_w47 : tables_1[668]? = some (sd_wd 47) := by rfl
theorem sd_v10 : [47].all sd_wdB = true := by
  show (decide (tables_1[sd_x 47]? = some (sd_wd 47)) && true) = true
  rw [Bool.and_true]
  exact decide_eq_true sd_w47
set_option maxRecDepth 100000 in
theorem sd_w48 : tables_1[558]? = some (sd_wd 48) := by rfl
theorem sd_v11 : [48].all sd_wdB = true := by
  show (decide (tables_1[sd_x 48]? = some (sd_wd 48)) && true) = true
  rw [Bool.and_true]
  exact decide_eq_true sd_w48
set_option maxRecDepth 100000 in
theorem sd_w49 : tables_1[555]? = some (sd_wd 49) := by rfl
theorem sd_v12 : [49].all sd_wdB = true := by
  show (decide (tables_1[sd_x 49]? = some (sd_wd 49)) && true) = true
  rw [Bool.and_true]
  exact decide_eq_true sd_w49
set_option maxRecDepth 100000 in
theorem sd_w50 : tables_1[671]? = some (sd_wd 50) := by rfl
theorem sd_v13 : [50].all sd_wdB = true := by
  show (decide (tables_1[sd_x 50]? = some (sd_wd 50)) && true) = true
  rw [Bool.and_true]
  exact decide_eq_true sd_w50
set_option maxRecDepth 100000 in
theorem sd_w51 : tables_1[564]? = some (sd_wd 51) := by rfl
theorem sd_v14 : [51].all sd_wdB = true := by
  show (decide (tables_1[sd_x 51]? = some (sd_wd 51)) && true) = true
  rw [Bool.and_true]
  exact decide_eq_true sd_w51
set_option maxRecDepth 100000 in
theorem sd_w52 : tables_1[656]? = some (sd_wd 52) := by rfl
theorem sd_v15 : [52].all sd_wdB = true := by
  show (decide (tables_1[sd_x 52]? = some (sd_wd 52)) && true) = true
  rw [Bool.and_true]
  exact decide_eq_true sd_w52
set_option maxRecDepth 100000 in
theorem sd_w53 : tables_1[686]? = some (sd_wd 53) := by rfl
theorem sd_v16 : [53].all sd_wdB = true := by
  show (decide (tables_1[sd_x 53]? = some (sd_wd 53)) && true) = true
  rw [Bool.and_true]
  exact decide_eq_true sd_w53
set_option maxRecDepth 100000 in
theorem sd_w54 : tables_1[689]? = some (sd_wd 54) := by rfl
theorem sd_v17 : [54].all sd_wdB = true := by
  show (decide (tables_1[sd_x 54]? = some (sd_wd 54)) && true) = true
  rw [Bool.and_true]
  exact decide_eq_true sd_w54
theorem sd_wd_in {i : Nat} (hi : i < 55) : sd_wd i ∈ AW := by
  have m : i ∈ List.range 55 := List.mem_range.mpr hi
  have e : List.range 55 = ([0, 1, 2, 3, 4, 5, 6, 7] : List Nat) ++ (([8, 9, 10, 11, 12, 13, 14, 15] : List Nat) ++ (([16, 17, 18, 19, 20, 21, 22, 23] : List Nat) ++ (([24, 25, 26, 27, 28, 29, 30, 31] : List Nat) ++ (([32, 33, 34, 35, 36, 37, 38, 39] : List Nat) ++ (([40, 41, 42] : List Nat) ++ (([43] : List Nat) ++ (([44] : List Nat) ++ (([45] : List Nat) ++ (([46] : List Nat) ++ (([47] : List Nat) ++ (([48] : List Nat) ++ (([49] : List Nat) ++ (([50] : List Nat) ++ (([51] : List Nat) ++ (([52] : List Nat) ++ (([53] : List Nat) ++ ([54] : List Nat))))))))))))))))) := by decide +kernel
  have k : ∀ {l : List Nat}, l.all sd_wdB = true → i ∈ l → sd_wd i ∈ AW := fun h m => aw_t (of_decide_eq_true (List.all_eq_true.mp h i m)) sd_wd_g
  rw [e] at m
  rcases List.mem_append.mp m with m | m
  · exact k sd_v0 m
  rcases List.mem_append.mp m with m | m
  · exact k sd_v1 m
  rcases List.mem_append.mp m with m | m
  · exact k sd_v2 m
  rcases List.mem_append.mp m with m | m
  · exact k sd_v3 m
  rcases List.mem_append.mp m with m | m
  · exact k sd_v4 m
  rcases List.mem_append.mp m with m | m
  · exact k sd_v5 m
  rcases List.mem_append.mp m with m | m
  · exact k sd_v6 m
  rcases List.mem_append.mp m with m | m
  · exact k sd_v7 m
  rcases List.mem_append.mp m with m | m
  · exact k sd_v8 m
  rcases List.mem_append.mp m with m | m
  · exact k sd_v9 m
  rcases List.mem_append.mp m with m | m
  · exact k sd_v10 m
  rcases List.mem_append.mp m with m | m
  · exact k sd_v11 m
  rcases List.mem_append.mp m with m | m
  · exact k sd_v12 m
  rcases List.mem_append.mp m with m | m
  · exact k sd_v13 m
  rcases List.mem_append.mp m with m | m
  · exact k sd_v14 m
  rcases List.mem_append.mp m with m | m
  · exact k sd_v15 m
  rcases List.mem_append.mp m with m | m
  · exact k sd_v16 m
  exact k sd_v17 m
/-- names: plain, none a handle's; of the class -/
def sd_nmB (i : Nat) : Bool := plainName (sd_y i).cls && decide ((sd_y i).cls ≠ "java/lang/invoke/MethodHandle") && decide ((sd_y i).cls ≠ "java/lang/invoke/VarHandle") && decide ((sd_y i).cls = sd_R (sd_c i))
theorem sd_nm_a : (List.range 56).all sd_nmB = true := by decide +kernel
theorem sd_nm {i : Nat} (hi : i < 56) : plainFor (sd_y i) = true ∧ (sd_y i).cls ≠ "java/lang/invoke/MethodHandle" ∧ (sd_y i).cls ≠ "java/lang/invoke/VarHandle" ∧ (sd_y i).cls = sd_R (sd_c i) := by
  have h := List.all_eq_true.mp sd_nm_a i (List.mem_range.mpr hi)
  unfold sd_nmB at h
  simp only [Bool.and_eq_true, decide_eq_true_eq] at h
  exact ⟨plainFor_of_name h.1.1.1, h.1.1.2, h.1.2, h.2⟩
