/-! the road of refused calls: all stays as it was but the count of throws -/
def th (M : qa_Mem) (n : Int) : qa_Mem := qa_upd M 99 0 (M 99 0 + n)
/-- the start: no bone, no key, no shot, no machine; the script names an unfit machine at each step -/
def zz (M : qa_Mem) : Prop := (∀ (k : Nat) (j : Int), k < 35 → M k j = 0) ∧ (∀ j : Int, M 35 j = -1) ∧ (∀ j : Int, M 36 j = -1) ∧ M 97 0 = 216 ∧ ∀ j : Int, 0 ≤ j → j < 216 → M 98 j = if j % 4 = 0 then 28 else 0
theorem th_th {M : qa_Mem} {a b : Int} : th (th M a) b = th M (a + b) := by
  unfold th
  rw [qa_upd_e, qa_upd_2, Int.add_assoc]
theorem th_k {M : qa_Mem} {n : Int} {k : Nat} (hk : k ≠ 99) : th M n k = M k := qa_upd_n hk
theorem th_0 {M : qa_Mem} : th M 0 = M := by
  funext a b
  unfold th qa_upd
  by_cases h : a = 99 ∧ b = 0
  · rw [if_pos h, h.1, h.2, Int.add_zero]
  · rw [if_neg h]
theorem th_zz {M : qa_Mem} {n : Int} (h : zz M) : zz (th M n) := by
  obtain ⟨h1, h2, h3, h4, h5⟩ := h
  refine ⟨fun k j hk => ?_, fun j => ?_, fun j => ?_, ?_, fun j h0 h1 => ?_⟩
  · rw [th_k (by omega)]; exact h1 k j hk
  · rw [th_k (by decide)]; exact h2 j
  · rw [th_k (by decide)]; exact h3 j
  · rw [th_k (by decide)]; exact h4
  · rw [th_k (by decide)]; exact h5 j h0 h1
theorem th_e {M : qa_Mem} {n : Int} {k : Nat} {j : Int} (h : zz M) (hk : k < 35) : th M n k j = 0 := (th_zz h).1 k j hk
theorem qf_cnt_0 {P : Int → Prop} (h : ∀ j, ¬ P j) (n : Nat) : qf_cnt P n = 0 := by
  induction n with
  | zero => rfl
  | succ n ih =>
    unfold qf_cnt
    rw [ih, qb_f (h _)]
    rfl
theorem qf_sum_z {A : Int → Int} (h : ∀ j, A j = 0) (n : Nat) : qf_sum A n = 0 := by
  induction n with
  | zero => rfl
  | succ n ih =>
    unfold qf_sum
    rw [ih, h]
    rfl
/-! the class's answers there -/
theorem Z_value {b c f : Int} {M : qa_Mem} (h : zz M) : qa_E 21 0 [(0, qr 0), (1, qi (b)), (2, qi (c)), (3, qi (f))] [] (M) (.inr 1) (th M 1) := by
  have e := h.1 1 3 (by decide)
  exact K_Court_value1 (by omega) (by omega) (by unfold qp_cell; omega)
theorem Z_keyAt {p : Int} {M : qa_Mem} (h : zz M) : qa_E 22 0 [(0, qr 0), (1, qi (p))] [] (M) (.inr 1) (th M 1) := by
  have e := h.1 2 4 (by decide)
  exact K_Court_keyAt1 (by omega) (by omega) (by omega)
theorem Z_place {b f : Int} {M : qa_Mem} (h : zz M) : qa_E 23 0 [(0, qr 0), (1, qi (b)), (2, qi (f))] [] (M) (.inr 1) (th M 1) := by
  have e := h.1 1 3 (by decide)
  exact K_Court_place1 (by omega) (by omega) (by omega)
theorem Z_shown {p : Int} {M : qa_Mem} (h : zz M) : qa_E 27 0 [(0, qr 0), (1, qi (p))] [] (M) (.inr 1) (th M 1) := by
  have e := h.1 4 4 (by decide)
  exact K_Court_shown1 (by omega) (by omega) (by omega)
theorem Z_heat {m : Int} {M : qa_Mem} (h : zz M) : qa_E 34 0 [(0, qr 0), (1, qi (m))] [] (M) (.inr 1) (th M 1) := by
  have e := h.1 5 3 (by decide)
  exact K_Court_heat1 (by omega) (by omega)
theorem Z_bone {p x y : Int} {M : qa_Mem} (h : zz M) (hp : p ≠ -1) : qa_E 18 0 [(0, qr 0), (1, qi (p)), (2, qi (x)), (3, qi (y))] [] (M) (.inr 1) (th M 1) := by
  have e := h.1 1 3 (by decide)
  exact K_Court_bone1 (by omega) (by omega) (by omega)
theorem Z_key {b c f v a s : Int} {M : qa_Mem} (h : zz M) : qa_E 19 0 [(0, qr 0), (1, qi (b)), (2, qi (c)), (3, qi (f)), (4, qi (v)), (5, qi (a)), (6, qi (s))] [] (M) (.inr 1) (th M 1) := by
  have e := h.1 1 3 (by decide)
  exact K_Court_key1 (by omega) (by omega) (by unfold qp_cell; omega)
theorem Z_unkey {b c f : Int} {M : qa_Mem} (h : zz M) : qa_E 20 0 [(0, qr 0), (1, qi (b)), (2, qi (c)), (3, qi (f))] [] (M) (.inr 1) (th M 1) := by
  have e := h.1 1 3 (by decide)
  exact K_Court_unkeyC (by omega) (by omega) (by unfold qp_cell; omega)
theorem Z_uncut {p : Int} {M : qa_Mem} (h : zz M) : qa_E 26 0 [(0, qr 0), (1, qi (p))] [] (M) (.inr 1) (th M 1) := by
  have e := h.1 4 3 (by decide)
  exact K_Court_uncut1 (by omega) (by omega) (by omega)
theorem Z_artists {f : Int} {M : qa_Mem} (h : zz M) (hf : 0 ≤ f ∧ f ≤ 119) : qa_E 24 0 [(0, qr 0), (1, qi (f))] [] (M) (.inl (some (qi (0)))) (M) := by
  have e := h.1 1 3 (by decide)
  have k := K_Court_artists0 (M := M) (f := f) (by omega) (by omega) hf
  rw [e] at k
  exact k
theorem Z_state {f : Int} {M : qa_Mem} (h : zz M) (hf : 0 ≤ f ∧ f ≤ 119) : qa_E 28 0 [(0, qr 0), (1, qi (f))] [] (M) (.inl (some (qi (0)))) (M) := by
  have e := h.1 20 f (by decide)
  have e2 := h.1 23 f (by decide)
  have k := K_Court_state0 (M := M) (f := f) hf (by omega)
  rw [e, e2, qb_f (by decide)] at k
  exact k
theorem Z_voids {M : qa_Mem} (h : zz M) : qa_E 29 0 [(0, qr 0)] [] (M) (.inl (some (qi (0)))) (M) := by
  have k := K_Court_voids (M := M)
  rw [qf_cnt_0 (fun j => by rw [h.1 20 j (by decide)]; decide)] at k
  exact k
theorem Z_voidsByAll {M : qa_Mem} (h : zz M) : qa_E 30 0 [(0, qr 0)] [] (M) (.inl (some (qi (0)))) (M) := by
  have e := h.1 1 3 (by decide)
  have k := K_Court_voidsByAll (M := M) (by omega) (by omega)
  rw [qf_cnt_0 (fun j z => z.1 (h.1 20 j (by decide)))] at k
  exact k
theorem Z_money {w : Int} {M : qa_Mem} (h : zz M) (hw : 0 ≤ w ∧ w ≤ 6) : qa_E 37 0 [(0, qr 0), (1, qi (w))] [] (M) (.inl (some (qi (0)))) (M) := by
  have k := K_Court_money0 (M := M) (w := w) hw
  rw [h.1 5 7 (by decide), h.1 8 w (by decide), show (if w = 6 then (0 : Int) else 0) = 0 by split <;> rfl] at k
  exact k
theorem Z_seconds {w : Int} {M : qa_Mem} (h : zz M) (hw : 0 ≤ w ∧ w ≤ 5) : qa_E 36 0 [(0, qr 0), (1, qi (w))] [] (M) (.inl (some (qi (0)))) (M) := by
  have e := h.1 1 3 (by decide)
  have k := K_Court_seconds0 (M := M) (w := w) (by omega) (by omega) (fun j _ _ => by have := h.1 23 j (by decide); omega) hw
  have z : qc_sec M w = 0 := by
    unfold qc_sec
    refine qf_sum_z (fun j => ?_) 120
    rw [h.1 23 j (by decide)]
    split <;> rfl
  rw [z] at k
  exact k
