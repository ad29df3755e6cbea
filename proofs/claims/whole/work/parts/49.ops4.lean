/-! where a bone is -/
theorem qm_v_b {K V F : Int → Int} {t f lo hi : Int} (hl : lo ≤ 0) (hh : 0 ≤ hi) (hf : 0 ≤ f) (hf2 : f ≤ 119) (hV : ∀ j : Int, 120 * t ≤ j → j < 120 * t + 120 → lo ≤ V j ∧ V j ≤ hi) : lo ≤ qm_v K V F t f ∧ qm_v K V F t f ≤ hi := by
  have r := qm_bf_r K t (f + 1).toNat
  have s := qm_bh_r K t (119 - f).toNat (by omega)
  unfold qm_v
  generalize qm_bf K t (f + 1).toNat = p at *
  generalize qm_bh K t (119 - f).toNat = q at *
  by_cases c1 : p = -1
  · rw [if_pos c1]
    by_cases c2 : q = 120
    · rw [if_pos c2]; omega
    · rw [if_neg c2]; exact hV (120 * t + q) (by omega) (by omega)
  · rw [if_neg c1]
    have a := hV (120 * t + p) (by omega) (by omega)
    by_cases c2 : F (120 * t + p) = 0 ∨ q = 120
    · rw [if_pos c2]; exact a
    · rw [if_neg c2]
      have b := hV (120 * t + q) (by omega) (by omega)
      generalize V (120 * t + p) = x at *
      generalize V (120 * t + q) = y at *
      have g : 0 < q - p := by omega
      have d1 : 0 ≤ f - p := by omega
      have d2 : f - p ≤ q - p := by omega
      have l : lo - x ≤ (y - x) * (f - p) / (q - p) := by
        rw [Int.le_ediv_iff_mul_le g]
        have m1 : (lo - x) * (q - p) ≤ (lo - x) * (f - p) := Int.mul_le_mul_of_nonpos_left (by omega) d2
        have m2 : (lo - x) * (f - p) ≤ (y - x) * (f - p) := Int.mul_le_mul_of_nonneg_right (by omega) d1
        omega
      have u : (y - x) * (f - p) / (q - p) ≤ hi - x := by
        refine Int.ediv_le_of_le_mul g ?_
        have m1 : (hi - x) * (f - p) ≤ (hi - x) * (q - p) := Int.mul_le_mul_of_nonneg_left d2 (by omega)
        have m2 : (y - x) * (f - p) ≤ (hi - x) * (f - p) := Int.mul_le_mul_of_nonneg_right (by omega) d1
        omega
      omega
theorem qm_hd_c {P T T' : Int → Int} (hP : ∀ u : Int, 0 ≤ u → u < 8 → -1 ≤ P u ∧ P u < u) (hT : ∀ u : Int, 0 ≤ u → u < 8 → T u = T' u) (n : Nat) : ∀ u : Int, -1 ≤ u → u < 8 → qm_hd P T n u = qm_hd P T' n u := by
  induction n with
  | zero => intro u _ _; rfl
  | succ n ih =>
    intro u h0 h1
    unfold qm_hd
    by_cases c : u = -1
    · rw [if_pos c, if_pos c]
    · rw [if_neg c, if_neg c, hT u (by omega) h1]
      have := hP u (by omega) h1
      rw [ih (P u) (by omega) (by omega)]
theorem qm_pl_c {P T X Y T' X' Y' : Int → Int} (hP : ∀ u : Int, 0 ≤ u → u < 8 → -1 ≤ P u ∧ P u < u) (hT : ∀ u : Int, 0 ≤ u → u < 8 → T u = T' u) (hX : ∀ u : Int, 0 ≤ u → u < 8 → X u = X' u) (hY : ∀ u : Int, 0 ≤ u → u < 8 → Y u = Y' u) (n : Nat) : ∀ u : Int, -1 ≤ u → u < 8 → qm_pl P T X Y n u = qm_pl P T' X' Y' n u := by
  induction n with
  | zero => intro u _ _; rfl
  | succ n ih =>
    intro u h0 h1
    unfold qm_pl
    by_cases c : u = -1
    · rw [if_pos c, if_pos c]
    · have := hP u (by omega) h1
      have e : qm_q P T u = qm_q P T' u := by
        unfold qm_q
        rw [qm_hd_c hP hT 8 (P u) (by omega) (by omega)]
      rw [if_neg c, if_neg c, hX u (by omega) h1, hY u (by omega) h1, ih (P u) (by omega) (by omega), e]
theorem iv_tree {M : qa_Mem} (h : iv M) {f : Int} (hf : 0 ≤ f ∧ f ≤ 119) (hb : 0 < M 6 0) : qm_tree M f := by
  obtain ⟨⟨b1, b2, b3, b4, b5, b6, b7, b8⟩, ⟨-, -, -, k4, k5, -⟩, -⟩ := h
  have xy : ∀ u c : Int, 0 ≤ u → u < 8 → 0 ≤ c → c ≤ 2 → -200 ≤ qm_v (M 32) (M 33) (M 35) (3 * u + c) f ∧ qm_v (M 32) (M 33) (M 35) (3 * u + c) f ≤ 200 := fun u c u0 u1 c0 c1 => qm_v_b (by decide) (by decide) hf.1 hf.2 (fun j j0 j1 => k4 j (by omega) (by omega))
  refine ⟨fun u u0 u1 => ?_, fun u u0 u1 => qm_v_b (by decide) (by decide) hf.1 hf.2 (fun j j0 j1 => (k5 j (by omega) (by omega) (by omega)).1), fun u u0 u1 => ⟨xy u 0 u0 u1 (by decide) (by decide), xy u 1 u0 u1 (by decide) (by decide)⟩, b8⟩
  by_cases c : u < M 6 0
  · exact b6 u u0 c
  · rw [b7 u (by omega) u1]; omega
theorem op_place {b f : Int} {M : qa_Mem} (h : iv M) : ∃ k v M1 M2, qa_E 147 0 [(0, qr (0)), (1, qi (b)), (2, qi (f)), (3, qr (7))] [] (M) (.inl (some (qi (k)))) (M1) ∧ qa_E 85 0 [(0, qr 6), (1, qi (b)), (2, qi (f))] [] (M1) (.inl (some (qi (v)))) (M2) ∧ st_ok M M2 k v := by
  have hb := iv_c h
  have hb2 := h.1.1
  have h3 := h.1.2.1
  by_cases hc : (0 ≤ b ∧ b ≤ M 6 0 - 1) ∧ 0 ≤ f ∧ f ≤ 119
  · have tr := iv_tree h hc.2 (by omega)
    have tr' := tr
    obtain ⟨t1, t2, t3, t4⟩ := tr'
    have P12 : ∀ u c : Int, 0 ≤ u → u < 8 → 0 ≤ c → c ≤ 2 → M 12 ((3 * u + c) * 120 + f) = qm_v (M 32) (M 33) (M 35) (3 * u + c) f := fun u c u0 u1 c0 c1 => (h.2.2.1 (3 * u + c) f (by omega) (by omega) hc.2.1 hc.2.2).1
    have e9 := h.1.2.2.1
    have e10 := h.1.2.2.2.1
    have e11 := h.1.2.2.2.2.1
    have C := K_Court_place0 (b := b) (f := f) hb.1 hb.2 (by rw [hb2]; exact hc) (fun u u0 u1 => by have := t1 u u0 u1; rw [e9]; omega) (by rw [e10, e11]; exact t4) (fun u u0 u1 => by
      rw [P12 u 0 u0 u1 (by decide) (by decide), P12 u 1 u0 u1 (by decide) (by decide), P12 u 2 u0 u1 (by decide) (by decide)]
      exact ⟨(t3 u u0 u1).1, (t3 u u0 u1).2, t2 u u0 u1⟩)
    have g : qg_c (M 9) (fun u => M 12 ((3 * u + 2) * 120 + f)) (fun u => M 10 u + M 12 ((3 * u + 0) * 120 + f)) (fun u => M 11 u + M 12 ((3 * u + 1) * 120 + f)) 8 (M 9 b) (M 10 b + M 12 ((3 * b + 0) * 120 + f)) (M 11 b + M 12 ((3 * b + 1) * 120 + f)) = qm_pl (M 29) (qm_T M f) (qm_X M f) (qm_Y M f) 8 b := by
      have q := qg_place_b (P := M 9) (T := fun u => M 12 ((3 * u + 2) * 120 + f)) (X := fun u => M 10 u + M 12 ((3 * u + 0) * 120 + f)) (Y := fun u => M 11 u + M 12 ((3 * u + 1) * 120 + f)) (by rw [e9]; exact t1) (fun u u0 u1 => by
        show 0 ≤ M 12 ((3 * u + 2) * 120 + f) ∧ M 12 ((3 * u + 2) * 120 + f) ≤ 3
        rw [P12 u 2 u0 u1 (by decide) (by decide)]; exact t2 u u0 u1) hc.1.1 (show b < 8 by omega)
      refine Eq.trans q ?_
      rw [e9]
      refine qm_pl_c t1 (fun u u0 u1 => P12 u 2 u0 u1 (by decide) (by decide)) (fun u u0 u1 => ?_) (fun u u0 u1 => ?_) 8 b (by omega) (by omega)
      · show M 10 u + M 12 ((3 * u + 0) * 120 + f) = M 30 u + _
        rw [P12 u 0 u0 u1 (by decide) (by decide), e10]
      · show M 11 u + M 12 ((3 * u + 1) * 120 + f) = M 31 u + _
        rw [P12 u 1 u0 u1 (by decide) (by decide), e11]
    dsimp only at C
    rw [g] at C
    obtain ⟨ax, ay, D⟩ := K_Model_place0 (M := qa_upd M 7 0 (10000 * ((qm_pl (M 29) (qm_T M f) (qm_X M f) (qm_Y M f) 8 b).1 + 5000) + (qm_pl (M 29) (qm_T M f) (qm_X M f) (qm_Y M f) 8 b).2 + 5000)) (iv_w h) hc tr
    obtain ⟨i1, i2, i3, i4, i5, i6, i7⟩ := h
    exact ⟨_, _, _, _, K_Law_place0 C, D, st_go rfl rfl ⟨i1, i2, i3, i4, i5, i6, i7⟩ rfl rfl rfl⟩
  · exact ⟨_, _, _, _, K_Law_placeX1 (K_Court_place1 hb.1 hb.2 (by rw [hb2]; exact hc)), K_Model_placeX1 (M := qa_upd M 99 0 (M 99 0 + 1)) h3.1 h3.2 hc, st_err h (by decide)⟩
