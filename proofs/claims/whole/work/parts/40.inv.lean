/-! class and reference, side by side -/
def qk_j (c : Int) : Int := 120 * (c / 1000) + c % 1000
def qk_cp (C V A F : Int → Int) (n : Int) (K V' A' F' : Int → Int) : Prop := qk_wf C V A F n ∧ (∀ p : Int, 0 ≤ p → p < n → K (qk_j (C p)) ≠ 0 ∧ V' (qk_j (C p)) = V p ∧ A' (qk_j (C p)) = A p ∧ F' (qk_j (C p)) = F p) ∧ (∀ j : Int, 0 ≤ j → j < 2880 → K j ≠ 0 → ∃ p : Int, 0 ≤ p ∧ p < n ∧ C p = 1000 * (j / 120) + j % 120)
theorem qm_bf_u {K : Int → Int} {t g : Int} {n : Nat} (h0 : -1 ≤ g) (h1 : g < n) (h2 : 0 ≤ g → K (120 * t + g) ≠ 0) (h3 : ∀ j : Int, g < j → j < n → K (120 * t + j) = 0) : qm_bf K t n = g := by
  obtain ⟨r1, r2, r3, r4⟩ := qm_bf_r K t n
  rcases Int.lt_trichotomy (qm_bf K t n) g with h | h | h
  · exact absurd (r4 g h h1) (h2 (by omega))
  · exact h
  · exact absurd (h3 _ h r2) (r3 (by omega))
theorem qm_bh_u {K : Int → Int} {t g : Int} {n : Nat} (hn : n ≤ 120) (h0 : 120 - (n : Int) ≤ g) (h1 : g ≤ 120) (h2 : g < 120 → K (120 * t + g) ≠ 0) (h3 : ∀ j : Int, 120 - (n : Int) ≤ j → j < g → K (120 * t + j) = 0) : qm_bh K t n = g := by
  obtain ⟨r1, r2, r3, r4⟩ := qm_bh_r K t n hn
  rcases Int.lt_trichotomy (qm_bh K t n) g with h | h | h
  · exact absurd (h3 _ r1 h) (r3 (by omega))
  · exact h
  · exact absurd (r4 g h0 h) (h2 (by omega))
/-- what the sorted keys say of the keys by frames -/
theorem qk_bf {C V A F K V' A' F' : Int → Int} {n t f : Int} (h : qk_cp C V A F n K V' A' F') (ht : 0 ≤ t) (ht2 : t < 24) (hf : -1 ≤ f) (hf2 : f ≤ 119) : (qf_ca C n (1000 * t + 0) 80 0 < qf_ca C n (1000 * t + f + 1) 80 0 → qm_bf K t (f + 1).toNat = C (qf_ca C n (1000 * t + f + 1) 80 0 - 1) - 1000 * t ∧ C (qf_ca C n (1000 * t + f + 1) 80 0 - 1) % 1000 = C (qf_ca C n (1000 * t + f + 1) 80 0 - 1) - 1000 * t ∧ 0 ≤ C (qf_ca C n (1000 * t + f + 1) 80 0 - 1) - 1000 * t ∧ C (qf_ca C n (1000 * t + f + 1) 80 0 - 1) - 1000 * t ≤ f ∧ qk_j (C (qf_ca C n (1000 * t + f + 1) 80 0 - 1)) = 120 * t + (C (qf_ca C n (1000 * t + f + 1) 80 0 - 1) - 1000 * t)) ∧ (qf_ca C n (1000 * t + 0) 80 0 = qf_ca C n (1000 * t + f + 1) 80 0 → qm_bf K t (f + 1).toNat = -1) := by
  obtain ⟨hw, hF, hB⟩ := h
  have S := qf_ca_s hw (1000 * t + 0)
  have N := qf_ca_s hw (1000 * t + f + 1)
  generalize qf_ca C n (1000 * t + 0) 80 0 = st at *
  generalize qf_ca C n (1000 * t + f + 1) 80 0 = nx at *
  obtain ⟨w1, w2, w3, w4, w5, w6, w7⟩ := hw
  constructor
  · intro hlt
    have a1 := S.2.2.2 (nx - 1) (by omega) (by omega)
    have a2 := N.2.2.1 (nx - 1) (by omega) (by omega)
    have a3 := w4 (nx - 1) (by omega) (by omega)
    have b := hF (nx - 1) (by omega) (by omega)
    have ej : qk_j (C (nx - 1)) = 120 * t + (C (nx - 1) - 1000 * t) := by unfold qk_j; omega
    rw [ej] at b
    refine ⟨qm_bf_u (by omega) (by omega) (fun _ => b.1) (fun j j1 j2 => ?_), by omega, by omega, by omega, ej⟩
    refine Classical.byContradiction fun hk => ?_
    obtain ⟨p, p0, p1, p2⟩ := hB (120 * t + j) (by omega) (by omega) hk
    rw [show (120 * t + j) / 120 = t by omega, show (120 * t + j) % 120 = j by omega] at p2
    by_cases hp : p < nx
    · by_cases hp2 : p = nx - 1
      · subst hp2; omega
      · have := w3 p (nx - 1) p0 (by omega) (by omega); omega
    · have := N.2.2.2 p (by omega) p1; omega
  · intro he
    refine qm_bf_u (by omega) (by omega) (fun h => absurd h (by omega)) (fun j j1 j2 => ?_)
    refine Classical.byContradiction fun hk => ?_
    obtain ⟨p, p0, p1, p2⟩ := hB (120 * t + j) (by omega) (by omega) hk
    rw [show (120 * t + j) / 120 = t by omega, show (120 * t + j) % 120 = j by omega] at p2
    by_cases hp : p < nx
    · have := S.2.2.1 p p0 (by omega); omega
    · have := N.2.2.2 p (by omega) p1; omega
theorem qk_bh {C V A F K V' A' F' : Int → Int} {n t f : Int} (h : qk_cp C V A F n K V' A' F') (ht : 0 ≤ t) (ht2 : t < 24) (hf : -1 ≤ f) (hf2 : f ≤ 119) : (qf_ca C n (1000 * t + f + 1) 80 0 < qf_ca C n (1000 * (t + 1) + 0) 80 0 → qm_bh K t (119 - f).toNat = C (qf_ca C n (1000 * t + f + 1) 80 0) - 1000 * t ∧ C (qf_ca C n (1000 * t + f + 1) 80 0) % 1000 = C (qf_ca C n (1000 * t + f + 1) 80 0) - 1000 * t ∧ f < C (qf_ca C n (1000 * t + f + 1) 80 0) - 1000 * t ∧ C (qf_ca C n (1000 * t + f + 1) 80 0) - 1000 * t < 120 ∧ qk_j (C (qf_ca C n (1000 * t + f + 1) 80 0)) = 120 * t + (C (qf_ca C n (1000 * t + f + 1) 80 0) - 1000 * t)) ∧ (qf_ca C n (1000 * t + f + 1) 80 0 = qf_ca C n (1000 * (t + 1) + 0) 80 0 → qm_bh K t (119 - f).toNat = 120) := by
  obtain ⟨hw, hF, hB⟩ := h
  have N := qf_ca_s hw (1000 * t + f + 1)
  have E := qf_ca_s hw (1000 * (t + 1) + 0)
  generalize qf_ca C n (1000 * t + f + 1) 80 0 = nx at *
  generalize qf_ca C n (1000 * (t + 1) + 0) 80 0 = en at *
  obtain ⟨w1, w2, w3, w4, w5, w6, w7⟩ := hw
  constructor
  · intro hlt
    have a1 := N.2.2.2 nx (Int.le_refl _) (by omega)
    have a2 := E.2.2.1 nx (by omega) (by omega)
    have a3 := w4 nx (by omega) (by omega)
    have b := hF nx (by omega) (by omega)
    have ej : qk_j (C nx) = 120 * t + (C nx - 1000 * t) := by unfold qk_j; omega
    rw [ej] at b
    refine ⟨qm_bh_u (by omega) (by omega) (by omega) (fun _ => b.1) (fun j j1 j2 => ?_), by omega, by omega, by omega, ej⟩
    refine Classical.byContradiction fun hk => ?_
    obtain ⟨p, p0, p1, p2⟩ := hB (120 * t + j) (by omega) (by omega) hk
    rw [show (120 * t + j) / 120 = t by omega, show (120 * t + j) % 120 = j by omega] at p2
    by_cases hp : p < nx
    · have := N.2.2.1 p p0 hp; omega
    · by_cases hp2 : p = nx
      · subst hp2; omega
      · have := w3 nx p (by omega) (by omega) p1; omega
  · intro he
    refine qm_bh_u (by omega) (by omega) (by omega) (fun h => absurd h (by omega)) (fun j j1 j2 => ?_)
    refine Classical.byContradiction fun hk => ?_
    obtain ⟨p, p0, p1, p2⟩ := hB (120 * t + j) (by omega) (by omega) hk
    rw [show (120 * t + j) / 120 = t by omega, show (120 * t + j) % 120 = j by omega] at p2
    by_cases hp : p < nx
    · have := N.2.2.1 p p0 hp; omega
    · have := E.2.2.2 p (by omega) p1; omega
/-- the rows of values agree -/
theorem qk_pose {C V A F K V' A' F' : Int → Int} {n t f : Int} (h : qk_cp C V A F n K V' A' F') (ht : 0 ≤ t) (ht2 : t < 24) (hf : 0 ≤ f) (hf2 : f ≤ 119) : qt_v C V F n t f = qm_v K V' F' t f ∧ qt_b C A F n t f = qa_or (qm_b1 K A' t f) (qm_b2 K A' F' t f) := by
  have hbf := qk_bf h ht ht2 (f := f) (by omega) hf2
  have hbh := qk_bh h ht ht2 (f := f) (by omega) hf2
  obtain ⟨hw, hF, hB⟩ := h
  have S := qf_ca_s hw (1000 * t + 0)
  have N := qf_ca_s hw (1000 * t + f + 1)
  have E := qf_ca_s hw (1000 * (t + 1) + 0)
  have SN := qf_ca_m hw (c := 1000 * t + 0) (d := 1000 * t + f + 1) (by omega)
  have NE := qf_ca_m hw (c := 1000 * t + f + 1) (d := 1000 * (t + 1) + 0) (by omega)
  unfold qt_v qt_b qm_v qm_b1 qm_b2
  generalize qf_ca C n (1000 * t + 0) 80 0 = st at *
  generalize qf_ca C n (1000 * t + f + 1) 80 0 = nx at *
  generalize qf_ca C n (1000 * (t + 1) + 0) 80 0 = en at *
  generalize qm_bf K t (f + 1).toNat = p at *
  generalize qm_bh K t (119 - f).toNat = q at *
  have o0 : ∀ x : Int, qa_or 0 (qa_shl 1 x) = qa_shl 1 x := by
    intro x
    unfold qa_or qa_shl
    have : (Int32.ofInt 0 ||| Int32.ofInt ((Int32.ofInt 1 <<< (Int32.ofInt x &&& 31)).toInt)) = (Int32.ofInt 1 <<< (Int32.ofInt x &&& 31)) := by
      rw [Int32.ofInt_toInt]; exact Int32.zero_or
    rw [this]
  have o1 : ∀ x : Int, qa_or (qa_shl 1 x) 0 = qa_shl 1 x := by
    intro x
    unfold qa_or qa_shl
    have : (Int32.ofInt ((Int32.ofInt 1 <<< (Int32.ofInt x &&& 31)).toInt) ||| Int32.ofInt 0) = (Int32.ofInt 1 <<< (Int32.ofInt x &&& 31)) := by
      rw [Int32.ofInt_toInt]; exact Int32.or_zero
    rw [this]
  have o2 : qa_or 0 0 = 0 := by decide
  by_cases c1 : st < nx
  · obtain ⟨p1, p2, p3, p4, p5⟩ := hbf.1 c1
    have bl := hF (nx - 1) (by omega) (by omega)
    have e2 : C (nx - 1) % 1000 = p := by omega
    rw [show qk_j (C (nx - 1)) = 120 * t + p by rw [p5]; omega] at bl
    have hl : qf_last nx st = nx - 1 := by unfold qf_last; rw [if_pos c1]
    unfold qp_v qp_b
    rw [if_neg (show ¬ st = en by omega), if_neg (show ¬ st = en by omega), hl, e2, if_neg (show ¬ p = -1 by omega), if_neg (show ¬ p = -1 by omega), ← bl.2.2.2, ← bl.2.1, ← bl.2.2.1]
    by_cases c2 : nx < en
    · obtain ⟨q1, q2, q3, q4, q5⟩ := hbh.1 c2
      have bh := hF nx (by omega) (by omega)
      have e3 : C nx % 1000 = q := by omega
      rw [show qk_j (C nx) = 120 * t + q by rw [q5]; omega] at bh
      rw [e3, ← bh.2.1, ← bh.2.2.1]
      by_cases c4 : F' (120 * t + p) = 0
      · have X1 : ¬ ((nx < en ∧ p < f) ∧ F' (120 * t + p) ≠ 0) := fun z => z.2 c4
        have X3 : ¬ (q < 120 ∧ (p = -1 ∨ F' (120 * t + p) ≠ 0 ∧ p < f)) := by omega
        rw [if_neg X1, if_neg X1, if_pos (Or.inl c4), if_neg X3, o1]
        exact ⟨rfl, rfl⟩
      · rw [if_neg (show ¬ (F' (120 * t + p) = 0 ∨ q = 120) by omega)]
        by_cases c5 : p < f
        · have X1 : (nx < en ∧ p < f) ∧ F' (120 * t + p) ≠ 0 := ⟨⟨c2, c5⟩, c4⟩
          have X3 : q < 120 ∧ (p = -1 ∨ F' (120 * t + p) ≠ 0 ∧ p < f) := by omega
          rw [if_pos X1, if_pos X1, if_pos X3]
          exact ⟨rfl, rfl⟩
        · have hpf : p = f := by omega
          have X1 : ¬ ((nx < en ∧ p < f) ∧ F' (120 * t + p) ≠ 0) := by omega
          have X3 : ¬ (q < 120 ∧ (p = -1 ∨ F' (120 * t + p) ≠ 0 ∧ p < f)) := by omega
          rw [if_neg X1, if_neg X1, if_neg X3, o1, hpf, Int.sub_self, Int.mul_zero, Int.zero_ediv, Int.add_zero]
          exact ⟨rfl, rfl⟩
    · have hq := hbh.2 (by omega)
      have X1 : ¬ ((nx < en ∧ p < f) ∧ F' (120 * t + p) ≠ 0) := by omega
      have X3 : ¬ (q < 120 ∧ (p = -1 ∨ F' (120 * t + p) ≠ 0 ∧ p < f)) := by omega
      rw [if_neg X1, if_neg X1, if_pos (show F' (120 * t + p) = 0 ∨ q = 120 from Or.inr hq), if_neg X3, o1]
      exact ⟨rfl, rfl⟩
  · have hp := hbf.2 (by omega)
    rw [if_pos hp, if_pos hp]
    have hl : qf_last nx st = st := by unfold qf_last; rw [if_neg c1]
    have hs : st = nx := by omega
    unfold qp_v qp_b
    rw [hl]
    by_cases c2 : nx < en
    · obtain ⟨q1, q2, q3, q4, q5⟩ := hbh.1 c2
      have bh := hF nx (by omega) (by omega)
      have e3 : C nx % 1000 = q := by omega
      rw [show qk_j (C nx) = 120 * t + q by rw [q5]; omega] at bh
      have X1 : ¬ ((nx < en ∧ q < f) ∧ F nx ≠ 0) := by omega
      have X3 : q < 120 ∧ (p = -1 ∨ F' (120 * t + p) ≠ 0 ∧ p < f) := by omega
      rw [hs, if_neg (show ¬ nx = en by omega), if_neg (show ¬ nx = en by omega), e3, if_neg X1, if_neg X1, if_neg (show ¬ q = 120 by omega), if_pos X3, bh.2.1, bh.2.2.1, o0]
      exact ⟨rfl, rfl⟩
    · have hq := hbh.2 (by omega)
      rw [if_pos (show st = en by omega), if_pos (show st = en by omega), if_pos hq, if_neg (show ¬ (q < 120 ∧ (p = -1 ∨ F' (120 * t + p) ≠ 0 ∧ p < f)) by omega), o2]
      exact ⟨rfl, rfl⟩
