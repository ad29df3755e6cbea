/-! writes of keys keep the two tables alike -/
theorem qa_upd_s {M : qa_Mem} {k : Nat} {i v : Int} : qa_upd M k i v k = qf_set (M k) i v := by
  funext j
  unfold qa_upd qf_set
  by_cases h : j = i
  · rw [if_pos ⟨rfl, h⟩, if_pos h]
  · rw [if_neg (fun z => h z.2), if_neg h]
theorem qk_cp_ins {C V A F K V' A' F' : Int → Int} {n c p v a s j : Int} (h : qk_cp C V A F n K V' A' F') (hn : n < 80) (hc : 0 ≤ c ∧ c < 24000 ∧ c % 1000 < 120) (hp : p = qf_ca C n c 80 0) (hnew : ¬ (p < n ∧ C p = c)) (hv : -200 ≤ v ∧ v ≤ 200) (ha : 0 ≤ a ∧ a < 6) (hs : s = 0 ∨ s = 1) (hj : j = qk_j c) : qk_cp (qf_ins C p n c) (qf_ins V p n v) (qf_ins A p n a) (qf_ins F p n s) (n + 1) (qf_set K j 1) (qf_set V' j v) (qf_set A' j a) (qf_set F' j s) := by
  obtain ⟨hw, hF, hB⟩ := h
  have S := qf_ca_s hw c
  rw [← hp] at S
  obtain ⟨w1, w2, w3, w4, w5, w6, w7⟩ := hw
  have hcp : p < n → c < C p := fun q => by
    have := S.2.2.2 p (Int.le_refl _) q
    omega
  have inj : ∀ i : Int, 0 ≤ i → i < n → qk_j (C i) ≠ j := by
    intro i i0 i1 he
    have := w4 i i0 i1
    rw [hj] at he
    unfold qk_j at he
    have e : C i = c := by omega
    by_cases hi : i < p
    · have := S.2.2.1 i i0 hi; omega
    · have := hcp (by omega)
      by_cases hi2 : i = p
      · subst hi2; omega
      · have := w3 p i (by omega) (by omega) i1; omega
  refine ⟨⟨by omega, by omega, fun x y x0 xy yn => ?_, fun i i0 i1 => ?_, fun i i0 i1 => ?_, fun i i0 i1 => ?_, fun i i0 i1 => ?_⟩, fun i i0 i1 => ?_, fun x x0 x1 hx => ?_⟩
  · unfold qf_ins
    by_cases y1 : y = p
    · rw [if_neg (show ¬ x = p by omega), if_neg (show ¬ (p < x ∧ x ≤ n) by omega), if_pos y1]
      exact S.2.2.1 x x0 (by omega)
    · rw [if_neg y1]
      by_cases y2 : p < y
      · rw [if_pos (show p < y ∧ y ≤ n by omega)]
        by_cases x1 : x = p
        · rw [if_pos x1]
          have h1 := hcp (by omega)
          by_cases y3 : y - 1 = p
          · rw [y3]; exact h1
          · have := w3 p (y - 1) (by omega) (by omega) (by omega); omega
        · rw [if_neg x1]
          by_cases x2 : p < x
          · rw [if_pos (show p < x ∧ x ≤ n by omega)]
            exact w3 (x - 1) (y - 1) (by omega) (by omega) (by omega)
          · rw [if_neg (show ¬ (p < x ∧ x ≤ n) by omega)]
            exact w3 x (y - 1) x0 (by omega) (by omega)
      · rw [if_neg (show ¬ (p < y ∧ y ≤ n) by omega), if_neg (show ¬ x = p by omega), if_neg (show ¬ (p < x ∧ x ≤ n) by omega)]
        exact w3 x y x0 xy (by omega)
  · unfold qf_ins
    by_cases y1 : i = p
    · rw [if_pos y1]; exact hc
    · rw [if_neg y1]
      by_cases y2 : p < i ∧ i ≤ n
      · rw [if_pos y2]; exact w4 (i - 1) (by omega) (by omega)
      · rw [if_neg y2]; exact w4 i i0 (by omega)
  · unfold qf_ins
    by_cases y1 : i = p
    · rw [if_pos y1]; exact hv
    · rw [if_neg y1]
      by_cases y2 : p < i ∧ i ≤ n
      · rw [if_pos y2]; exact w5 (i - 1) (by omega) (by omega)
      · rw [if_neg y2]; exact w5 i i0 i1
  · unfold qf_ins
    by_cases y1 : i = p
    · rw [if_pos y1]; exact ha
    · rw [if_neg y1]
      by_cases y2 : p < i ∧ i ≤ n
      · rw [if_pos y2]; exact w6 (i - 1) (by omega) (by omega)
      · rw [if_neg y2]; exact w6 i i0 i1
  · unfold qf_ins
    by_cases y1 : i = p
    · rw [if_pos y1]; exact hs
    · rw [if_neg y1]
      by_cases y2 : p < i ∧ i ≤ n
      · rw [if_pos y2]; exact w7 (i - 1) (by omega) (by omega)
      · rw [if_neg y2]; exact w7 i i0 i1
  · by_cases y1 : i = p
    · have e : ∀ (X : Int → Int) (z : Int), qf_ins X p n z i = z := fun X z => by unfold qf_ins; rw [if_pos y1]
      rw [e, e, e, e, ← hj]
      unfold qf_set
      rw [if_pos rfl, if_pos rfl, if_pos rfl, if_pos rfl]
      exact ⟨by decide, rfl, rfl, rfl⟩
    · obtain ⟨i', hi', b0, b1⟩ : ∃ i', (∀ (X : Int → Int) (z : Int), qf_ins X p n z i = X i') ∧ 0 ≤ i' ∧ i' < n := by
        by_cases y2 : p < i ∧ i ≤ n
        · exact ⟨i - 1, fun X z => by unfold qf_ins; rw [if_neg y1, if_pos y2], by omega, by omega⟩
        · exact ⟨i, fun X z => by unfold qf_ins; rw [if_neg y1, if_neg y2], by omega, by omega⟩
      rw [hi', hi', hi', hi']
      have q := inj i' b0 b1
      unfold qf_set
      rw [if_neg q, if_neg q, if_neg q, if_neg q]
      exact hF i' b0 b1
  · unfold qf_set at hx
    by_cases hxj : x = j
    · refine ⟨p, S.1, by omega, ?_⟩
      unfold qf_ins
      rw [if_pos rfl, hxj, hj]
      unfold qk_j
      omega
    · rw [if_neg hxj] at hx
      obtain ⟨p0, a0, a1, a2⟩ := hB x x0 x1 hx
      by_cases hpp : p0 < p
      · refine ⟨p0, a0, by omega, ?_⟩
        unfold qf_ins
        rw [if_neg (show ¬ p0 = p by omega), if_neg (show ¬ (p < p0 ∧ p0 ≤ n) by omega)]
        exact a2
      · refine ⟨p0 + 1, by omega, by omega, ?_⟩
        unfold qf_ins
        rw [if_neg (show ¬ p0 + 1 = p by omega), if_pos (show p < p0 + 1 ∧ p0 + 1 ≤ n by omega), show p0 + 1 - 1 = p0 by omega]
        exact a2
theorem qk_cp_set {C V A F K V' A' F' : Int → Int} {n c p v a s j : Int} (h : qk_cp C V A F n K V' A' F') (hc : 0 ≤ c ∧ c < 24000 ∧ c % 1000 < 120) (hp0 : 0 ≤ p) (hp : p < n ∧ C p = c) (hv : -200 ≤ v ∧ v ≤ 200) (ha : 0 ≤ a ∧ a < 6) (hs : s = 0 ∨ s = 1) (hj : j = qk_j c) : qk_cp (qf_set C p c) (qf_set V p v) (qf_set A p a) (qf_set F p s) n (qf_set K j 1) (qf_set V' j v) (qf_set A' j a) (qf_set F' j s) := by
  have eC : qf_set C p c = C := by
    funext i
    unfold qf_set
    by_cases hi : i = p
    · rw [if_pos hi, hi, hp.2]
    · rw [if_neg hi]
  rw [eC]
  obtain ⟨hw, hF, hB⟩ := h
  obtain ⟨w1, w2, w3, w4, w5, w6, w7⟩ := hw
  have inj : ∀ i : Int, 0 ≤ i → i < n → i ≠ p → qk_j (C i) ≠ j := by
    intro i i0 i1 ip he
    have := w4 i i0 i1
    rw [hj] at he
    unfold qk_j at he
    have e : C i = c := by omega
    by_cases hi : i < p
    · have := w3 i p i0 hi hp.1; omega
    · have := w3 p i hp0 (by omega) i1; omega
  refine ⟨⟨w1, w2, w3, w4, fun i i0 i1 => ?_, fun i i0 i1 => ?_, fun i i0 i1 => ?_⟩, fun i i0 i1 => ?_, fun x x0 x1 hx => ?_⟩
  · unfold qf_set
    by_cases hi : i = p
    · rw [if_pos hi]; exact hv
    · rw [if_neg hi]; exact w5 i i0 i1
  · unfold qf_set
    by_cases hi : i = p
    · rw [if_pos hi]; exact ha
    · rw [if_neg hi]; exact w6 i i0 i1
  · unfold qf_set
    by_cases hi : i = p
    · rw [if_pos hi]; exact hs
    · rw [if_neg hi]; exact w7 i i0 i1
  · by_cases hi : i = p
    · subst hi
      rw [hp.2, ← hj]
      unfold qf_set
      rw [if_pos rfl, if_pos rfl, if_pos rfl, if_pos rfl, if_pos rfl, if_pos rfl, if_pos rfl]
      exact ⟨by decide, rfl, rfl, rfl⟩
    · have q := inj i i0 i1 hi
      unfold qf_set
      rw [if_neg q, if_neg q, if_neg q, if_neg q, if_neg hi, if_neg hi, if_neg hi]
      exact hF i i0 i1
  · unfold qf_set at hx
    by_cases hxj : x = j
    · refine ⟨p, hp0, hp.1, ?_⟩
      rw [hp.2, hxj, hj]
      unfold qk_j
      omega
    · rw [if_neg hxj] at hx
      exact hB x x0 x1 hx
theorem qk_cp_del {C V A F K V' A' F' : Int → Int} {n c p j : Int} (h : qk_cp C V A F n K V' A' F') (hc : 0 ≤ c ∧ c < 24000 ∧ c % 1000 < 120) (hp0 : 0 ≤ p) (hp : p < n ∧ C p = c) (hj : j = qk_j c) : qk_cp (qf_del C p n) (qf_del V p n) (qf_del A p n) (qf_del F p n) (n - 1) (qf_set K j 0) V' A' F' := by
  obtain ⟨hw, hF, hB⟩ := h
  obtain ⟨w1, w2, w3, w4, w5, w6, w7⟩ := hw
  have inj : ∀ i : Int, 0 ≤ i → i < n → i ≠ p → qk_j (C i) ≠ j := by
    intro i i0 i1 ip he
    have := w4 i i0 i1
    rw [hj] at he
    unfold qk_j at he
    have e : C i = c := by omega
    by_cases hi : i < p
    · have := w3 i p i0 hi hp.1; omega
    · have := w3 p i hp0 (by omega) i1; omega
  have pick : ∀ i : Int, 0 ≤ i → ∃ i', (∀ X : Int → Int, qf_del X p n i = X i') ∧ 0 ≤ i' ∧ (i < n - 1 → i' < n) ∧ (i < 80 → i' < 80) ∧ i ≤ i' ∧ (i < n - 1 → i' ≠ p) ∧ (i' = i ∧ ¬ (p ≤ i ∧ i < n - 1) ∨ i' = i + 1 ∧ p ≤ i ∧ i < n - 1) := by
    intro i i0
    by_cases y2 : p ≤ i ∧ i < n - 1
    · exact ⟨i + 1, fun X => by unfold qf_del; rw [if_pos y2], by omega, by omega, by omega, by omega, by omega, by omega⟩
    · exact ⟨i, fun X => by unfold qf_del; rw [if_neg y2], by omega, by omega, by omega, by omega, by omega, by omega⟩
  refine ⟨⟨by omega, by omega, fun x y x0 xy yn => ?_, fun i i0 i1 => ?_, fun i i0 i1 => ?_, fun i i0 i1 => ?_, fun i i0 i1 => ?_⟩, fun i i0 i1 => ?_, fun x x0 x1 hx => ?_⟩
  · obtain ⟨x', e1, b1, b2, b3, b4, b5, b6⟩ := pick x x0
    obtain ⟨y', f1, g1, g2, g3, g4, g5, g6⟩ := pick y (by omega)
    rw [e1, f1]
    exact w3 x' y' b1 (by omega) (g2 yn)
  · obtain ⟨x', e1, b1, b2, b3, b4, b5, b6⟩ := pick i i0
    rw [e1]; exact w4 x' b1 (b2 i1)
  · obtain ⟨x', e1, b1, b2, b3, b4, b5, b6⟩ := pick i i0
    rw [e1]; exact w5 x' b1 (b3 i1)
  · obtain ⟨x', e1, b1, b2, b3, b4, b5, b6⟩ := pick i i0
    rw [e1]; exact w6 x' b1 (b3 i1)
  · obtain ⟨x', e1, b1, b2, b3, b4, b5, b6⟩ := pick i i0
    rw [e1]; exact w7 x' b1 (b3 i1)
  · obtain ⟨x', e1, b1, b2, b3, b4, b5, b6⟩ := pick i i0
    rw [e1, e1, e1, e1]
    have q := inj x' b1 (b2 i1) (b5 i1)
    unfold qf_set
    rw [if_neg q]
    exact hF x' b1 (b2 i1)
  · unfold qf_set at hx
    by_cases hxj : x = j
    · rw [if_pos hxj] at hx; exact absurd rfl hx
    · rw [if_neg hxj] at hx
      obtain ⟨p0, a0, a1, a2⟩ := hB x x0 x1 hx
      have hne : p0 ≠ p := by
        intro he
        rw [he, hp.2] at a2
        apply hxj
        rw [hj]
        unfold qk_j
        omega
      by_cases hpp : p0 < p
      · refine ⟨p0, a0, by omega, ?_⟩
        unfold qf_del
        rw [if_neg (show ¬ (p ≤ p0 ∧ p0 < n - 1) by omega)]
        exact a2
      · refine ⟨p0 - 1, by omega, by omega, ?_⟩
        unfold qf_del
        rw [if_pos (show p ≤ p0 - 1 ∧ p0 - 1 < n - 1 by omega), show p0 - 1 + 1 = p0 by omega]
        exact a2
/-- the key by its place -/
theorem qm_ka_s {C V A F K V' A' F' : Int → Int} {n : Int} (h : qk_cp C V A F n K V' A' F') (N : Int) (hN : N ≤ 2880) (hC : ∀ p : Int, 0 ≤ p → p < n → qk_j (C p) < N) (k : Nat) : ∀ (x left q : Int), x + k = N → 0 ≤ x → 0 ≤ left → 0 ≤ q → q ≤ n → (∀ p : Int, 0 ≤ p → p < q → qk_j (C p) < x) → (∀ p : Int, q ≤ p → p < n → x ≤ qk_j (C p)) → qm_ka K k x left = if q + left < n then qk_j (C (q + left)) else -1 := by
  obtain ⟨hw, hF, hB⟩ := h
  obtain ⟨w1, w2, w3, w4, w5, w6, w7⟩ := hw
  induction k with
  | zero =>
    intro x left q g1 g2 g3 g4 g5 g6 g7
    unfold qm_ka
    rw [if_neg]
    intro hlt
    have a := g7 (q + left) (by omega) hlt
    have b := hC (q + left) (by omega) hlt
    omega
  | succ k ih =>
    intro x left q g1 g2 g3 g4 g5 g6 g7
    unfold qm_ka
    by_cases hk : K x ≠ 0
    · rw [if_pos hk]
      obtain ⟨p, p0, p1, p2⟩ := hB x g2 (by omega) hk
      have ej : qk_j (C p) = x := by unfold qk_j; omega
      have hpq : p = q := by
        rcases Int.lt_trichotomy p q with z | z | z
        · have := g6 p p0 z; omega
        · exact z
        · have a := g7 q (Int.le_refl _) (by omega)
          have b := w3 q p g4 z p1
          have c := w4 q g4 (by omega)
          have d := w4 p p0 p1
          unfold qk_j at a ej
          omega
      subst hpq
      by_cases hl : left = 0
      · rw [if_pos hl, hl, Int.add_zero, if_pos p1, ej]
      · rw [if_neg hl]
        have e := ih (x + 1) (left - 1) (p + 1) (by omega) (by omega) (by omega) (by omega) (by omega) (fun r r0 r1 => by
          by_cases hr : r = p
          · rw [hr, ej]; omega
          · have := g6 r r0 (by omega); omega) (fun r r0 r1 => by
          have a := w3 p r p0 (by omega) r1
          have c := w4 r (by omega) r1
          have d := w4 p p0 p1
          unfold qk_j at ej ⊢
          omega)
        rw [e, show p + 1 + (left - 1) = p + left by omega]
    · rw [if_neg hk]
      refine ih (x + 1) left q (by omega) (by omega) g3 g4 g5 (fun r r0 r1 => by have := g6 r r0 r1; omega) (fun r r0 r1 => ?_)
      have a := g7 r r0 r1
      by_cases hr : qk_j (C r) = x
      · exact absurd (hF r (by omega) r1).1 (by rw [hr]; exact hk)
      · omega
