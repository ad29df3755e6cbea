/-! keys -/
theorem qk_put_o {M : qa_Mem} {c v a s p : Int} (hp : p = qf_ca (M 14) (M 2 4) c 80 0) (h : p < M 2 4 ∧ M 14 p = c) : qk_put M c v a s = qa_upd (qa_upd (qa_upd (qa_upd M 14 p c) 15 p v) 16 p a) 17 p s := by
  subst hp
  show (if _ then _ else _) = _
  rw [if_pos h]
theorem qk_put_n {M : qa_Mem} {c v a s p : Int} (hp : p = qf_ca (M 14) (M 2 4) c 80 0) (h : ¬ (p < M 2 4 ∧ M 14 p = c)) : qk_put M c v a s = qa_upd (qa_upd (qa_upd (qa_upd (qa_upd (qf_rows M (fun A => qf_ins A p (M 2 4) (A p))) 2 4 (M 2 4 + 1)) 14 p c) 15 p v) 16 p a) 17 p s := by
  subst hp
  show (if _ then _ else _) = _
  rw [if_neg h]
theorem qf_ins_set {A : Int → Int} {p n v w : Int} : qf_set (qf_ins A p n w) p v = qf_ins A p n v := by
  funext j
  unfold qf_set qf_ins
  by_cases c : j = p
  · rw [if_pos c, if_pos c]
  · rw [if_neg c, if_neg c, if_neg c]
theorem qk_put_k {M : qa_Mem} {c v a s : Int} {k : Nat} (h2 : k ≠ 2) (h14 : k ≠ 14) (h15 : k ≠ 15) (h16 : k ≠ 16) (h17 : k ≠ 17) : qk_put M c v a s k = M k := by
  by_cases h : qf_ca (M 14) (M 2 4) c 80 0 < M 2 4 ∧ M 14 (qf_ca (M 14) (M 2 4) c 80 0) = c
  · rw [qk_put_o rfl h, qa_upd_n h17, qa_upd_n h16, qa_upd_n h15, qa_upd_n h14]
  · rw [qk_put_n rfl h, qa_upd_n h17, qa_upd_n h16, qa_upd_n h15, qa_upd_n h14, qa_upd_n h2, qf_rows_n (by omega)]
/-- a key put, the map of the keys written -/
theorem qk_put_cp {M : qa_Mem} {K V A F : Int → Int} {c v a s j : Int} (h : qk_cp (M 14) (M 15) (M 16) (M 17) (M 2 4) K V A F) (hc : 0 ≤ c ∧ c < 24000 ∧ c % 1000 < 120) (hv : -200 ≤ v ∧ v ≤ 200) (ha : 0 ≤ a ∧ a < 6) (hs : s = 0 ∨ s = 1) (hj : j = qk_j c) (hn : M 2 4 < 80 ∨ (qf_ca (M 14) (M 2 4) c 80 0 < M 2 4 ∧ M 14 (qf_ca (M 14) (M 2 4) c 80 0) = c)) : qk_cp (qk_put M c v a s 14) (qk_put M c v a s 15) (qk_put M c v a s 16) (qk_put M c v a s 17) (qk_put M c v a s 2 4) (qf_set K j 1) (qf_set V j v) (qf_set A j a) (qf_set F j s) ∧ qk_put M c v a s 2 4 = M 2 4 + (if qf_ca (M 14) (M 2 4) c 80 0 < M 2 4 ∧ M 14 (qf_ca (M 14) (M 2 4) c 80 0) = c then 0 else 1) ∧ ∀ B : Int, c < B → (∀ p : Int, 0 ≤ p → p < M 2 4 → M 14 p < B) → ∀ p : Int, 0 ≤ p → p < qk_put M c v a s 2 4 → qk_put M c v a s 14 p < B := by
  have S := qf_ca_s h.1 c
  obtain ⟨p, hp⟩ : ∃ p, p = qf_ca (M 14) (M 2 4) c 80 0 := ⟨_, rfl⟩
  rw [← hp] at hn S ⊢
  by_cases hh : p < M 2 4 ∧ M 14 p = c
  · have e := qk_put_o (v := v) (a := a) (s := s) hp hh
    have c14 : qk_put M c v a s 14 = qf_set (M 14) p c := by rw [e]; exact qa_upd_s
    have c15 : qk_put M c v a s 15 = qf_set (M 15) p v := by rw [e]; exact qa_upd_s
    have c16 : qk_put M c v a s 16 = qf_set (M 16) p a := by rw [e]; exact qa_upd_s
    have c17 : qk_put M c v a s 17 = qf_set (M 17) p s := by rw [e]; exact qa_upd_s
    have c2 : qk_put M c v a s 2 4 = M 2 4 := by rw [e]; rfl
    rw [c14, c15, c16, c17, c2, if_pos hh]
    refine ⟨qk_cp_set h hc S.1 hh hv ha hs hj, (Int.add_zero _).symm, fun B b0 b1 q q0 q1 => ?_⟩
    unfold qf_set
    by_cases z : q = p
    · rw [if_pos z]; exact b0
    · rw [if_neg z]; exact b1 q q0 q1
  · have lt : M 2 4 < 80 := by
      rcases hn with z | z
      · exact z
      · exact absurd z hh
    have e := qk_put_n (v := v) (a := a) (s := s) hp hh
    have r : ∀ i : Nat, 14 ≤ i ∧ i ≤ 17 → qa_upd (qf_rows M (fun A => qf_ins A p (M 2 4) (A p))) 2 4 (M 2 4 + 1) i = qf_ins (M i) p (M 2 4) (M i p) := fun i hi => by
      rw [qa_upd_n (by omega), qf_rows_i hi]
    have c14 : qk_put M c v a s 14 = qf_ins (M 14) p (M 2 4) c := by
      rw [e]
      refine Eq.trans (show _ = qa_upd (qa_upd (qf_rows M (fun A => qf_ins A p (M 2 4) (A p))) 2 4 (M 2 4 + 1)) 14 p c 14 from rfl) ?_
      rw [qa_upd_s, r 14 (by decide), qf_ins_set]
    have c15 : qk_put M c v a s 15 = qf_ins (M 15) p (M 2 4) v := by
      rw [e]
      refine Eq.trans (show _ = qa_upd (qa_upd (qf_rows M (fun A => qf_ins A p (M 2 4) (A p))) 2 4 (M 2 4 + 1)) 15 p v 15 from rfl) ?_
      rw [qa_upd_s, r 15 (by decide), qf_ins_set]
    have c16 : qk_put M c v a s 16 = qf_ins (M 16) p (M 2 4) a := by
      rw [e]
      refine Eq.trans (show _ = qa_upd (qa_upd (qf_rows M (fun A => qf_ins A p (M 2 4) (A p))) 2 4 (M 2 4 + 1)) 16 p a 16 from rfl) ?_
      rw [qa_upd_s, r 16 (by decide), qf_ins_set]
    have c17 : qk_put M c v a s 17 = qf_ins (M 17) p (M 2 4) s := by
      rw [e]
      refine Eq.trans (show _ = qa_upd (qa_upd (qf_rows M (fun A => qf_ins A p (M 2 4) (A p))) 2 4 (M 2 4 + 1)) 17 p s 17 from rfl) ?_
      rw [qa_upd_s, r 17 (by decide), qf_ins_set]
    have c2 : qk_put M c v a s 2 4 = M 2 4 + 1 := by rw [e]; rfl
    rw [c14, c15, c16, c17, c2, if_neg hh]
    refine ⟨qk_cp_ins h lt hc hp hh hv ha hs hj, rfl, fun B b0 b1 q q0 q1 => ?_⟩
    unfold qf_ins
    by_cases z : q = p
    · rw [if_pos z]; exact b0
    · rw [if_neg z]
      by_cases y : p < q ∧ q ≤ M 2 4
      · rw [if_pos y]; exact b1 (q - 1) (by omega) (by omega)
      · rw [if_neg y]; exact b1 q q0 (by omega)
theorem qk_take_k {M : qa_Mem} {c : Int} {k : Nat} (h2 : k ≠ 2) (h : ¬ (14 ≤ k ∧ k ≤ 17)) : qk_take M c k = M k := by
  unfold qk_take
  rw [qf_rows_n h, qa_upd_n h2]
theorem qk_take_cp {M : qa_Mem} {K V A F : Int → Int} {c j : Int} (h : qk_cp (M 14) (M 15) (M 16) (M 17) (M 2 4) K V A F) (hc : 0 ≤ c ∧ c < 24000 ∧ c % 1000 < 120) (hj : j = qk_j c) (hn : qf_ca (M 14) (M 2 4) c 80 0 < M 2 4 ∧ M 14 (qf_ca (M 14) (M 2 4) c 80 0) = c) : qk_cp (qk_take M c 14) (qk_take M c 15) (qk_take M c 16) (qk_take M c 17) (qk_take M c 2 4) (qf_set K j 0) V A F ∧ qk_take M c 2 4 = M 2 4 - 1 ∧ ∀ B : Int, (∀ p : Int, 0 ≤ p → p < M 2 4 → M 14 p < B) → ∀ p : Int, 0 ≤ p → p < qk_take M c 2 4 → qk_take M c 14 p < B := by
  have S := qf_ca_s h.1 c
  have r : ∀ i : Nat, 14 ≤ i ∧ i ≤ 17 → qk_take M c i = qf_del (M i) (qf_ca (M 14) (M 2 4) c 80 0) (M 2 4) := fun i hi => by
    unfold qk_take
    rw [qf_rows_i hi, qa_upd_n (by omega)]
  have c2 : qk_take M c 2 4 = M 2 4 - 1 := by
    unfold qk_take
    rw [qf_rows_n (by decide), qa_upd_e]
  rw [r 14 (by decide), r 15 (by decide), r 16 (by decide), r 17 (by decide), c2]
  refine ⟨qk_cp_del h hc S.1 hn hj, rfl, fun B b1 q q0 q1 => ?_⟩
  unfold qf_del
  by_cases y : qf_ca (M 14) (M 2 4) c 80 0 ≤ q ∧ q < M 2 4 - 1
  · rw [if_pos y]; exact b1 (q + 1) (by omega) (by omega)
  · rw [if_neg y]; exact b1 q q0 (by omega)
theorem qm_bf_c {K K' : Int → Int} {t : Int} (n : Nat) (hn : n ≤ 120) (h : ∀ i : Int, 120 * t ≤ i → i < 120 * t + 120 → K i = K' i) : qm_bf K t n = qm_bf K' t n := by
  induction n with
  | zero => rfl
  | succ n ih =>
    unfold qm_bf
    rw [h (120 * t + n) (by omega) (by omega), ih (by omega)]
theorem qm_bh_c {K K' : Int → Int} {t : Int} (n : Nat) (hn : n ≤ 120) (h : ∀ i : Int, 120 * t ≤ i → i < 120 * t + 120 → K i = K' i) : qm_bh K t n = qm_bh K' t n := by
  induction n with
  | zero => rfl
  | succ n ih =>
    unfold qm_bh
    rw [h (120 * t + (119 - (n : Int))) (by omega) (by omega), ih (by omega)]
theorem qm_vb_c {K K' V V' A A' F F' : Int → Int} {t f : Int} (hf : 0 ≤ f) (hf2 : f ≤ 119) (h : ∀ i : Int, 120 * t ≤ i → i < 120 * t + 120 → K i = K' i ∧ V i = V' i ∧ A i = A' i ∧ F i = F' i) : qm_v K V F t f = qm_v K' V' F' t f ∧ qm_b1 K A t f = qm_b1 K' A' t f ∧ qm_b2 K A F t f = qm_b2 K' A' F' t f := by
  have e1 := qm_bf_c (f + 1).toNat (by omega) (fun i a b => (h i a b).1)
  have e2 := qm_bh_c (119 - f).toNat (by omega) (fun i a b => (h i a b).1)
  have r := qm_bf_r K t (f + 1).toNat
  have s := qm_bh_r K t (119 - f).toNat (by omega)
  unfold qm_v qm_b1 qm_b2
  rw [← e1, ← e2]
  generalize qm_bf K t (f + 1).toNat = p at *
  generalize qm_bh K t (119 - f).toNat = q at *
  by_cases c1 : p = -1
  · rw [if_pos c1, if_pos c1, if_pos c1, if_pos c1]
    by_cases c2 : q = 120
    · rw [if_pos c2, if_pos c2, if_neg (by omega), if_neg (by omega)]; exact ⟨rfl, rfl, rfl⟩
    · have b := h (120 * t + q) (by omega) (by omega)
      rw [if_neg c2, if_neg c2, if_pos ⟨by omega, Or.inl c1⟩, if_pos ⟨by omega, Or.inl c1⟩, b.2.1, b.2.2.1]; exact ⟨rfl, rfl, rfl⟩
  · have a := h (120 * t + p) (by omega) (by omega)
    rw [if_neg c1, if_neg c1, if_neg c1, if_neg c1, a.2.1, a.2.2.1, a.2.2.2]
    by_cases c2 : q = 120
    · rw [if_pos (Or.inr c2), if_pos (Or.inr c2), if_neg (by omega), if_neg (by omega)]; exact ⟨rfl, rfl, rfl⟩
    · have b := h (120 * t + q) (by omega) (by omega)
      rw [b.2.1, b.2.2.1]; exact ⟨rfl, rfl, rfl⟩
/-- the poses behind a change of one track -/
theorem iv_poses {M P : qa_Mem} {K V A F : Int → Int} {t0 : Int} (h : iv M) (hq : qk_cp (P 14) (P 15) (P 16) (P 17) (P 2 4) K V A F) (e12 : P 12 = M 12) (e13 : P 13 = M 13) (hs : ∀ i : Int, ¬ (120 * t0 ≤ i ∧ i < 120 * t0 + 120) → M 32 i = K i ∧ M 33 i = V i ∧ M 34 i = A i ∧ M 35 i = F i) : ∀ t f : Int, 0 ≤ t → t < 24 → 0 ≤ f → f ≤ 119 → qt_M P t0 120 12 (t * 120 + f) = qm_v K V F t f ∧ qt_M P t0 120 13 (t * 120 + f) = qa_or (qm_b1 K A t f) (qm_b2 K A F t f) := by
  intro t f ht0 ht1 f0 f1
  show (if 120 * t0 ≤ t * 120 + f ∧ t * 120 + f < 120 * t0 + 120 then qt_v (P 14) (P 15) (P 17) (P 2 4) t0 (t * 120 + f - 120 * t0) else P 12 (t * 120 + f)) = _ ∧ (if 120 * t0 ≤ t * 120 + f ∧ t * 120 + f < 120 * t0 + 120 then qt_b (P 14) (P 16) (P 17) (P 2 4) t0 (t * 120 + f - 120 * t0) else P 13 (t * 120 + f)) = _
  by_cases c : t = t0
  · subst c
    rw [if_pos (by omega), if_pos (by omega), show t * 120 + f - 120 * t = f by omega]
    exact qk_pose hq ht0 ht1 f0 f1
  · rw [if_neg (by omega), if_neg (by omega), e12, e13]
    obtain ⟨a, b⟩ := h.2.2.1 t f ht0 ht1 f0 f1
    obtain ⟨x, y, z⟩ := qm_vb_c (K := M 32) (V := M 33) (A := M 34) (F := M 35) (K' := K) (V' := V) (A' := A) (F' := F) (t := t) f0 f1 (fun i i0 i1 => hs i (by omega))
    rw [a, b, x, y, z]
    exact ⟨rfl, rfl⟩
