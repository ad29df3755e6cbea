/-! cutting -/
theorem qf_len_ins {F G : Int → Int} {p n a b : Int} : (fun k => qf_ins G p n b k - qf_ins F p n a k + 1) = qf_ins (fun k => G k - F k + 1) p n (b - a + 1) := by
  funext k
  unfold qf_ins
  split
  · rfl
  · split <;> rfl
theorem qf_in_ins {F G : Int → Int} {p n a b f : Int} : qf_in (qf_ins F p n a) (qf_ins G p n b) f = qf_ins (qf_in F G f) p n (qb (a ≤ f ∧ f ≤ b)) := by
  funext k
  unfold qf_in qf_ins
  by_cases h1 : k = p
  · rw [if_pos h1, if_pos h1, if_pos h1]
  · by_cases h2 : p < k ∧ k ≤ n
    · rw [if_neg h1, if_neg h1, if_neg h1, if_pos h2, if_pos h2, if_pos h2]
    · rw [if_neg h1, if_neg h1, if_neg h1, if_neg h2, if_neg h2, if_neg h2]
theorem qf_len_del {F G : Int → Int} {p n : Int} : (fun k => qf_del G p n k - qf_del F p n k + 1) = qf_del (fun k => G k - F k + 1) p n := by
  funext k
  unfold qf_del
  split <;> rfl
theorem qf_in_del {F G : Int → Int} {p n f : Int} : qf_in (qf_del F p n) (qf_del G p n) f = qf_del (qf_in F G f) p n := by
  funext k
  unfold qf_in qf_del
  by_cases h1 : p ≤ k ∧ k < n - 1
  · rw [if_pos h1, if_pos h1, if_pos h1]
  · rw [if_neg h1, if_neg h1, if_neg h1]
theorem qm_len_cut {M : qa_Mem} {p a b : Int} (h : 0 ≤ p ∧ p ≤ M 6 9) : qm_len (qm_cut M p a b) = qm_len M + (b - a + 1) := by
  show qf_sum (fun k => qf_ins (M 37) p (M 6 9) b k - qf_ins (M 36) p (M 6 9) a k + 1) (M 6 9 + 1).toNat = _
  rw [qf_len_ins]
  have e : M 6 9 = ((M 6 9).toNat : Int) := by omega
  have i := qf_sum_ins (A := fun k => M 37 k - M 36 k + 1) (p := p) (v := b - a + 1) (M 6 9).toNat h.1 (by omega)
  rw [← e] at i
  rw [show (M 6 9 + 1).toNat = (M 6 9).toNat + 1 by omega, i]
  rfl
theorem qf_tm_cut {F G : Int → Int} {n p a b f : Int} (h : 0 ≤ p ∧ p ≤ n) : qf_tm (qf_ins F p n a) (qf_ins G p n b) (n + 1).toNat f = qf_tm F G n.toNat f + qb (a ≤ f ∧ f ≤ b) := by
  unfold qf_tm
  rw [qf_in_ins]
  have e : n = (n.toNat : Int) := by omega
  have i := qf_sum_ins (A := qf_in F G f) (p := p) (v := qb (a ≤ f ∧ f ≤ b)) n.toNat h.1 (by omega)
  rw [← e] at i
  rw [show (n + 1).toNat = n.toNat + 1 by omega, i]
theorem qm_len_unc {M : qa_Mem} {p : Int} (h : 0 ≤ p ∧ p ≤ M 6 9 - 1) : qm_len (qm_uncut M p) = qm_len M - (M 37 p - M 36 p + 1) := by
  show qf_sum (fun k => qf_del (M 37) p (M 6 9) k - qf_del (M 36) p (M 6 9) k + 1) (M 6 9 - 1).toNat = _
  rw [qf_len_del]
  have e : M 6 9 = (((M 6 9).toNat - 1 + 1 : Nat) : Int) := by omega
  have i := qf_sum_del (A := fun k => M 37 k - M 36 k + 1) (p := p) ((M 6 9).toNat - 1) h.1 (by omega)
  rw [← e] at i
  rw [show (M 6 9 - 1).toNat = (M 6 9).toNat - 1 by omega, i]
  rw [show (M 6 9).toNat - 1 + 1 = (M 6 9).toNat by omega]
  rfl
theorem qf_tm_unc {F G : Int → Int} {n p f : Int} (h : 0 ≤ p ∧ p ≤ n - 1) : qf_tm (qf_del F p n) (qf_del G p n) (n - 1).toNat f = qf_tm F G n.toNat f - qb (F p ≤ f ∧ f ≤ G p) := by
  unfold qf_tm
  rw [qf_in_del]
  have e : n = ((n.toNat - 1 + 1 : Nat) : Int) := by omega
  have i := qf_sum_del (A := qf_in F G f) (p := p) (n.toNat - 1) h.1 (by omega)
  rw [← e] at i
  rw [show (n - 1).toNat = n.toNat - 1 by omega, i]
  rw [show n.toNat - 1 + 1 = n.toNat by omega]
  rfl
theorem op_cut {p a b : Int} {M : qa_Mem} (h : iv M) : ∃ k v M1 M2, qa_E 149 0 [(0, qr (0)), (1, qi (p)), (2, qi (a)), (3, qi (b)), (4, qr (7))] [] (M) (.inl (some (qi (k)))) (M1) ∧ qa_E 89 0 [(0, qr 6), (1, qi (p)), (2, qi (a)), (3, qi (b))] [] (M1) (.inl (some (qi (v)))) (M2) ∧ st_ok M M2 k v := by
  have h' := h
  obtain ⟨i1, i2, i3, i4, ⟨a1, a2, a3, a4, a5, a6⟩, i6, i7⟩ := h'
  have hl := iv_len a4
  have s1 := a4.1
  by_cases hc : (0 ≤ p ∧ p ≤ M 6 9) ∧ (0 ≤ a ∧ a ≤ 119) ∧ 0 ≤ b ∧ b ≤ 119
  · have hc' : (0 ≤ p ∧ p ≤ M 4 3) ∧ (0 ≤ a ∧ a ≤ 119) ∧ 0 ≤ b ∧ b ≤ 119 := by rw [a1]; exact hc
    by_cases hd : b < a
    · exact ⟨_, _, _, _, K_Law_cutX2 (K_Court_cut2 hc' hd), K_Model_cutX2 (M := qa_upd M 99 0 (M 99 0 + 1)) hc hd, st_err h (by decide)⟩
    · by_cases hf : M 6 9 = 10
      · exact ⟨_, _, _, _, K_Law_cutX3 (K_Court_cut3 hc' (by omega) (by omega)), K_Model_cutX3 (M := qa_upd M 99 0 (M 99 0 + 1)) hc (by omega) hf, st_err h (by decide)⟩
      · have r9 : M 6 9 < 10 := by omega
        refine ⟨_, _, _, _, K_Law_cut0 (K_Court_cut0 hc' (by omega) (by omega) (fun j j0 j1 => by have := iv_tm h.2.2.2.2.1 j j0 j1; omega) (by omega)), K_Model_cut0 (M := qa_upd (qm_cnt (qm_ins M p a b) a b 1) 7 0 _) a4 hc (by omega) r9, ?_⟩
        have L : qm_len (qm_cut (qa_upd (qm_cnt (qm_ins M p a b) a b 1) 7 0 (M 4 4 + 1 * (b + 1 - a))) p a b) = qm_len M + (b - a + 1) := qm_len_cut (M := qa_upd (qm_cnt (qm_ins M p a b) a b 1) 7 0 (M 4 4 + 1 * (b + 1 - a))) hc.1
        refine st_go rfl ?_ ⟨i1, i2, i3, i4, ⟨?_, ?_, ?_, ⟨?_, ?_⟩, ?_, ?_⟩, i6, i7⟩ rfl rfl rfl
        · show M 4 4 + 1 * (b + 1 - a) = _
          rw [L, a6]; omega
        · show M 4 3 + 1 = M 6 9 + 1
          rw [a1]
        · show qf_ins (M 21) p (M 4 3) a = qf_ins (M 36) p (M 6 9) a
          rw [a1, a2]
        · show qf_ins (M 22) p (M 4 3) b = qf_ins (M 37) p (M 6 9) b
          rw [a1, a3]
        · show 0 ≤ M 6 9 + 1 ∧ M 6 9 + 1 ≤ 10
          omega
        · show ∀ k : Int, 0 ≤ k → k < M 6 9 + 1 → 0 ≤ qf_ins (M 36) p (M 6 9) a k ∧ qf_ins (M 36) p (M 6 9) a k ≤ qf_ins (M 37) p (M 6 9) b k ∧ qf_ins (M 37) p (M 6 9) b k < 120
          intro k k0 k1
          unfold qf_ins
          by_cases e1 : k = p
          · rw [if_pos e1, if_pos e1]; omega
          · by_cases e2 : p < k ∧ k ≤ M 6 9
            · rw [if_neg e1, if_neg e1, if_pos e2, if_pos e2]; exact a4.2 (k - 1) (by omega) (by omega)
            · rw [if_neg e1, if_neg e1, if_neg e2, if_neg e2]; exact a4.2 k k0 (by omega)
        · show ∀ f : Int, 0 ≤ f → f < 120 → qf_add (M 23) a b 1 f = qf_tm (qf_ins (M 36) p (M 6 9) a) (qf_ins (M 37) p (M 6 9) b) (M 6 9 + 1).toNat f
          intro f f0 f1
          rw [qf_tm_cut hc.1, ← a5 f f0 f1]
          unfold qf_add
          by_cases e : a ≤ f ∧ f ≤ b
          · rw [if_pos e, qb_t e]
          · rw [if_neg e, qb_f e]; omega
        · show M 4 4 + 1 * (b + 1 - a) = _
          refine Eq.trans ?_ L.symm
          rw [a6]; omega
  · have hc' : ¬ ((0 ≤ p ∧ p ≤ M 4 3) ∧ (0 ≤ a ∧ a ≤ 119) ∧ 0 ≤ b ∧ b ≤ 119) := by rw [a1]; exact hc
    exact ⟨_, _, _, _, K_Law_cutX1 (K_Court_cut1 hc'), K_Model_cutX1 (M := qa_upd M 99 0 (M 99 0 + 1)) hc, st_err h (by decide)⟩
theorem op_uncut {p : Int} {M : qa_Mem} (h : iv M) : ∃ k v M1 M2, qa_E 150 0 [(0, qr (0)), (1, qi (p)), (2, qr (7))] [] (M) (.inl (some (qi (k)))) (M1) ∧ qa_E 90 0 [(0, qr 6), (1, qi (p))] [] (M1) (.inl (some (qi (v)))) (M2) ∧ st_ok M M2 k v := by
  have h' := h
  obtain ⟨i1, i2, i3, i4, ⟨a1, a2, a3, a4, a5, a6⟩, i6, i7⟩ := h'
  have hl := iv_len a4
  have s1 := a4.1
  by_cases hc : 0 ≤ p ∧ p ≤ M 6 9 - 1
  · have w := a4.2 p hc.1 (by omega)
    refine ⟨_, _, _, _, K_Law_uncut0 (K_Court_uncut0 (by omega) (by omega) (by omega) (by rw [a2]; omega) (by rw [a2, a3]; omega) (by rw [a3]; omega) (fun j j0 j1 => by have := iv_tm h.2.2.2.2.1 j j0 j1; omega) (by omega)), K_Model_uncut0 (M := qa_upd (qm_del (qm_cnt M (M 21 p) (M 22 p) (-1)) p) 7 0 _) a4 hc, ?_⟩
    have L : qm_len (qm_uncut (qa_upd (qm_del (qm_cnt M (M 21 p) (M 22 p) (-1)) p) 7 0 (M 4 4 + -1 * (M 22 p + 1 - M 21 p))) p) = qm_len M - (M 37 p - M 36 p + 1) := qm_len_unc (M := qa_upd (qm_del (qm_cnt M (M 21 p) (M 22 p) (-1)) p) 7 0 (M 4 4 + -1 * (M 22 p + 1 - M 21 p))) hc
    refine st_go rfl ?_ ⟨i1, i2, i3, i4, ⟨?_, ?_, ?_, ⟨?_, ?_⟩, ?_, ?_⟩, i6, i7⟩ rfl rfl rfl
    · show M 4 4 + -1 * (M 22 p + 1 - M 21 p) = _
      rw [L, a6, a2, a3]; omega
    · show M 4 3 - 1 = M 6 9 - 1
      rw [a1]
    · show qf_del (M 21) p (M 4 3) = qf_del (M 36) p (M 6 9)
      rw [a1, a2]
    · show qf_del (M 22) p (M 4 3) = qf_del (M 37) p (M 6 9)
      rw [a1, a3]
    · show 0 ≤ M 6 9 - 1 ∧ M 6 9 - 1 ≤ 10
      omega
    · show ∀ k : Int, 0 ≤ k → k < M 6 9 - 1 → 0 ≤ qf_del (M 36) p (M 6 9) k ∧ qf_del (M 36) p (M 6 9) k ≤ qf_del (M 37) p (M 6 9) k ∧ qf_del (M 37) p (M 6 9) k < 120
      intro k k0 k1
      unfold qf_del
      by_cases e1 : p ≤ k ∧ k < M 6 9 - 1
      · rw [if_pos e1, if_pos e1]; exact a4.2 (k + 1) (by omega) (by omega)
      · rw [if_neg e1, if_neg e1]; exact a4.2 k k0 (by omega)
    · show ∀ f : Int, 0 ≤ f → f < 120 → qf_add (M 23) (M 21 p) (M 22 p) (-1) f = qf_tm (qf_del (M 36) p (M 6 9)) (qf_del (M 37) p (M 6 9)) (M 6 9 - 1).toNat f
      intro f f0 f1
      rw [qf_tm_unc hc, ← a5 f f0 f1, a2, a3]
      unfold qf_add
      by_cases e : M 36 p ≤ f ∧ f ≤ M 37 p
      · rw [if_pos e, qb_t e]; omega
      · rw [if_neg e, qb_f e]; omega
    · show M 4 4 + -1 * (M 22 p + 1 - M 21 p) = _
      refine Eq.trans ?_ L.symm
      rw [a6, a2, a3]; omega
  · exact ⟨_, _, _, _, K_Law_uncutX1 (K_Court_uncut1 (by omega) (by omega) (by rw [a1]; exact hc)), K_Model_uncutX1 (M := qa_upd M 99 0 (M 99 0 + 1)) s1 hc, st_err h (by decide)⟩
