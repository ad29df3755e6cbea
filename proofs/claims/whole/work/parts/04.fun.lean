/-! arrays as functions -/
def qa_blk (M : qa_Mem) (k : Nat) (f : Int → Int) : qa_Mem := fun a b => if a = k then f b else M a b
theorem qa_blk_e {M : qa_Mem} {k : Nat} {f : Int → Int} : qa_blk M k f k = f := by funext b; unfold qa_blk; rw [if_pos rfl]
theorem qa_blk_n {M : qa_Mem} {k a : Nat} {f : Int → Int} (h : a ≠ k) : qa_blk M k f a = M a := by funext b; unfold qa_blk; rw [if_neg h]
theorem qa_upd_n {M : qa_Mem} {k a : Nat} {i v : Int} (h : a ≠ k) : qa_upd M k i v a = M a := by funext b; unfold qa_upd; rw [if_neg (fun q => h q.1)]
theorem qa_upd_i {M : qa_Mem} {k : Nat} {i v j : Int} (h : j ≠ i) : qa_upd M k i v k j = M k j := by unfold qa_upd; rw [if_neg (fun q => h q.2)]
theorem qa_upd_e {M : qa_Mem} {k : Nat} {i v : Int} : qa_upd M k i v k i = v := by unfold qa_upd; rw [if_pos ⟨rfl, rfl⟩]
def qf_ca (C : Int → Int) (n code : Int) : Nat → Int → Int
  | 0, a => a
  | k + 1, a => if a < n ∧ C a < code then qf_ca C n code k (a + 1) else a
def qf_ins (A : Int → Int) (p n v : Int) : Int → Int := fun j => if j = p then v else if p < j ∧ j ≤ n then A (j - 1) else A j
def qf_del (A : Int → Int) (p n : Int) : Int → Int := fun j => if p ≤ j ∧ j < n - 1 then A (j + 1) else A j
def qf_add (A : Int → Int) (lo hi c : Int) : Int → Int := fun j => if lo ≤ j ∧ j ≤ hi then A j + c else A j
def qf_set (A : Int → Int) (p v : Int) : Int → Int := fun j => if j = p then v else A j
/-- how many of the first n hold P -/
noncomputable def qf_cnt (P : Int → Prop) : Nat → Int
  | 0 => 0
  | n + 1 => qf_cnt P n + qb (P n)
theorem qf_cnt_r (P : Int → Prop) (n : Nat) : 0 ≤ qf_cnt P n ∧ qf_cnt P n ≤ n := by
  induction n with
  | zero => exact ⟨Int.le_refl _, Int.le_refl _⟩
  | succ n ih =>
    unfold qf_cnt
    rcases qb_01 (P n) with h | h <;> rw [h] <;> omega
theorem qf_cnt_c {P Q : Int → Prop} (n : Nat) (h : ∀ j : Int, 0 ≤ j → j < n → (P j ↔ Q j)) : qf_cnt P n = qf_cnt Q n := by
  induction n with
  | zero => rfl
  | succ n ih =>
    unfold qf_cnt
    rw [ih (fun j h0 h1 => h j h0 (by omega)), qb_c (h n (by omega) (by omega))]
theorem qb_ne {x : Int} (h : x = 0 ∨ x = 1) : x = qb (x ≠ 0) := by
  rcases h with h | h
  · rw [h, qb_f (by decide)]
  · rw [h, qb_t (by decide)]
theorem qf_ca_r (C : Int → Int) (n code : Int) (k : Nat) : ∀ a, a ≤ n → n ≤ a + k → a ≤ qf_ca C n code k a ∧ qf_ca C n code k a ≤ n ∧ (∀ j, a ≤ j → j < qf_ca C n code k a → C j < code) ∧ (qf_ca C n code k a < n → code ≤ C (qf_ca C n code k a)) := by
  induction k with
  | zero => intro a h1 h2; unfold qf_ca; exact ⟨by omega, by omega, fun j _ _ => by omega, fun h => by omega⟩
  | succ k ih =>
    intro a h1 h2
    unfold qf_ca
    by_cases hc : a < n ∧ C a < code
    · rw [if_pos hc]
      obtain ⟨g1, g2, g3, g4⟩ := ih (a + 1) (by omega) (by omega)
      refine ⟨by omega, g2, fun j h3 h4 => ?_, g4⟩
      by_cases hj : j = a
      · subst hj; exact hc.2
      · exact g3 j (by omega) h4
    · rw [if_neg hc]
      exact ⟨by omega, h1, fun j _ _ => by omega, fun h => by omega⟩
theorem qa_shl_b : ∀ a : Fin 6, qa_shl 1 (a.val : Int) = 2 ^ a.val := by decide +kernel
/-- the four rows of the key table, each changed alike -/
def qf_rows (M : qa_Mem) (g : (Int → Int) → Int → Int) : qa_Mem := fun c j => if 14 ≤ c ∧ c ≤ 17 then g (M c) j else M c j
theorem qf_rows_i {M : qa_Mem} {g : (Int → Int) → Int → Int} {c : Nat} (h : 14 ≤ c ∧ c ≤ 17) : qf_rows M g c = g (M c) := by funext j; unfold qf_rows; rw [if_pos h]
theorem qf_rows_n {M : qa_Mem} {g : (Int → Int) → Int → Int} {c : Nat} (h : ¬ (14 ≤ c ∧ c ≤ 17)) : qf_rows M g c = M c := by funext j; unfold qf_rows; rw [if_neg h]
theorem qf_rows_2 {M : qa_Mem} {g h : (Int → Int) → Int → Int} : qf_rows (qf_rows M g) h = qf_rows M (fun A => h (g A)) := by
  funext c j
  by_cases hc : 14 ≤ c ∧ c ≤ 17
  · rw [qf_rows_i hc, qf_rows_i hc, qf_rows_i hc]
  · rw [qf_rows_n hc, qf_rows_n hc, qf_rows_n hc]
theorem qf_rows_id {M : qa_Mem} {g : (Int → Int) → Int → Int} (h : ∀ A, g A = A) : qf_rows M g = M := by
  funext c j
  by_cases hc : 14 ≤ c ∧ c ≤ 17
  · rw [qf_rows_i hc, h]
  · rw [qf_rows_n hc]
