/-! the calls that change nothing -/
theorem op_span {b c f : Int} {M : qa_Mem} (h : iv M) : ∃ k v M1 M2, qa_E 145 0 [(0, qr (0)), (1, qi (b)), (2, qi (c)), (3, qi (f)), (4, qr (7))] [] (M) (.inl (some (qi (k)))) (M1) ∧ qa_E 81 0 [(0, qr 6), (1, qi (b)), (2, qi (c)), (3, qi (f))] [] (M1) (.inl (some (qi (v)))) (M2) ∧ st_ok M M2 k v := by
  have hb := iv_c h
  have hk := iv_k h
  by_cases hc : qm_cell M b c f ∧ M 32 (120 * (3 * b + c) + f) ≠ 0
  · obtain ⟨hc, hk2⟩ := hc
    have hc' := (iv_cell h).mpr hc
    have hh := (iv_has h hc).mpr hk2
    have hcp := h.2.1.1
    have hw := hcp.1
    refine ⟨_, _, _, _, K_Law_span0 (K_Court_span0 hb.1 hb.2 hc' hh hw), K_Model_span0 (M := qa_upd M 7 0 _) (iv_w h) hc hk2, st_rd h ?_⟩
    have hb2 := h.1.2.1
    unfold qm_cell at hc
    unfold qp_has at hh
    obtain ⟨t, ht⟩ : ∃ t, t = 3 * b + c := ⟨_, rfl⟩
    show _ = 1000 * (if qm_bf (M 32) (3 * b + c) f.toNat = -1 then 0 else if M 35 (120 * (3 * b + c) + qm_bf (M 32) (3 * b + c) f.toNat) ≠ 0 then qm_bf (M 32) (3 * b + c) f.toNat + 1 else f) + qm_bh (M 32) (3 * b + c) (119 - f).toNat - 1
    dsimp only
    rw [← ht] at hh hk2 ⊢
    have f1 := qk_bf hcp (t := t) (f := f - 1) (by omega) (by omega) (by omega) (by omega)
    have f2 := qk_bh hcp (t := t) (f := f) (by omega) (by omega) (by omega) (by omega)
    rw [show 1000 * t + (f - 1) + 1 = 1000 * t + f by omega, show (f - 1 + 1).toNat = f.toNat by rw [show f - 1 + 1 = f by omega]] at f1
    have S := qf_ca_s hw (1000 * t + f)
    have S0 := qf_ca_m hw (c := 1000 * t + 0) (d := 1000 * t + f) (by omega)
    have E := qf_ca_s hw (1000 * (t + 1) + 0)
    have S1 := (qf_ca_s hw (1000 * t + 0)).1
    obtain ⟨w1, w2, w3, w4, w5, w6, w7⟩ := id hw
    have enx : qf_ca (M 14) (M 2 4) (1000 * t + f + 1) 80 0 = qf_ca (M 14) (M 2 4) (1000 * t + f) 80 0 + 1 := by
      refine qf_ca_u hw (by omega) (by omega) (Or.inr ?_) ?_
      · rw [show qf_ca (M 14) (M 2 4) (1000 * t + f) 80 0 + 1 - 1 = qf_ca (M 14) (M 2 4) (1000 * t + f) 80 0 by omega]; omega
      · by_cases hq : qf_ca (M 14) (M 2 4) (1000 * t + f) 80 0 + 1 = M 2 4
        · exact Or.inl hq
        · right
          have := w3 (qf_ca (M 14) (M 2 4) (1000 * t + f) 80 0) (qf_ca (M 14) (M 2 4) (1000 * t + f) 80 0 + 1) (by omega) (by omega) (by omega)
          omega
    rw [enx] at f2
    have NE := qf_ca_m hw (c := 1000 * t + f + 1) (d := 1000 * (t + 1) + 0) (by omega)
    rw [enx] at NE
    generalize qf_ca (M 14) (M 2 4) (1000 * t + f) 80 0 = p at *
    generalize qf_ca (M 14) (M 2 4) (1000 * t + 0) 80 0 = st at *
    generalize qf_ca (M 14) (M 2 4) (1000 * (t + 1) + 0) 80 0 = en at *
    have e1 : (if p = st then 0 else if M 17 (p - 1) ≠ 0 then M 14 (p - 1) % 1000 + 1 else f) = (if qm_bf (M 32) t f.toNat = -1 then 0 else if M 35 (120 * t + qm_bf (M 32) t f.toNat) ≠ 0 then qm_bf (M 32) t f.toNat + 1 else f) := by
      by_cases c1 : p = st
      · rw [if_pos c1, if_pos (f1.2 (by omega))]
      · obtain ⟨g1, g2, g3, g4, g5⟩ := f1.1 (by omega)
        have bl := (hcp.2.1 (p - 1) (by omega) (by omega)).2.2.2
        rw [show qk_j (M 14 (p - 1)) = 120 * t + qm_bf (M 32) t f.toNat by rw [g5]; omega] at bl
        rw [if_neg c1, if_neg (show ¬ qm_bf (M 32) t f.toNat = -1 by omega), bl, g2, ← g1]
    have e2 : (if p + 1 < en then M 14 (p + 1) % 1000 - 1 else 119) = qm_bh (M 32) t (119 - f).toNat - 1 := by
      by_cases c1 : p + 1 < en
      · obtain ⟨g1, g2, g3, g4, g5⟩ := f2.1 c1
        rw [if_pos c1, g2, g1]
      · rw [if_neg c1, f2.2 (by omega)]; rfl
    rw [e1, e2]
    omega
  · refine ⟨_, _, _, _, K_Law_spanX1 (K_Court_span1 hb.1 hb.2 (fun z => hc ⟨(iv_cell h).mp z.1, (iv_has h ((iv_cell h).mp z.1)).mp z.2⟩) hk.1 hk.2), K_Model_spanX1 (M := qa_upd M 99 0 (M 99 0 + 1)) h.1.2.1.1 h.1.2.1.2 hc, st_err h (by decide)⟩
theorem op_keyAt {p : Int} {M : qa_Mem} (h : iv M) (hp : p ≤ 2147483647) : ∃ k v M1 M2, qa_E 146 0 [(0, qr (0)), (1, qi (p)), (2, qr (7))] [] (M) (.inl (some (qi (k)))) (M1) ∧ qa_E 82 0 [(0, qr 6), (1, qi (p))] [] (M1) (.inl (some (qi (v)))) (M2) ∧ st_ok M M2 k v := by
  have hb := h.1.2.1
  have hk := iv_k h
  obtain ⟨hcp, k1, k2, -⟩ := h.2.1
  have hC : ∀ q : Int, 0 ≤ q → q < M 2 4 → qk_j (M 14 q) < 360 * M 6 0 := by
    intro q q0 q1
    have a := k2 q q0 q1
    have b := hcp.1.2.2.2.1 q q0 q1
    unfold qk_j
    omega
  have ka : 0 ≤ p → qm_ka (M 32) (360 * M 6 0).toNat 0 p = if 0 + p < M 2 4 then qk_j (M 14 (0 + p)) else -1 := fun p0 => qm_ka_s hcp (360 * M 6 0) (by omega) hC _ 0 p 0 (by omega) (by omega) p0 (by omega) hk.1 (fun q a b => by omega) (fun q a b => by
    have := hcp.1.2.2.2.1 q a b
    unfold qk_j
    omega)
  by_cases hc : 0 ≤ p ∧ p ≤ M 2 4 - 1
  · have e := ka hc.1
    rw [if_pos (by omega), Int.zero_add] at e
    have w := hcp.1.2.2.2.1 p hc.1 (by omega)
    have en : qm_ka (M 32) (360 * M 6 0).toNat 0 p ≠ -1 := by rw [e]; unfold qk_j; omega
    refine ⟨_, _, _, _, K_Law_keyAt0 (K_Court_keyAt0 hk.1 hk.2 hc), (K_Model_keyAt (M := qa_upd M 7 0 _) hb.1 hb.2 hp).1 hc.1 en, st_rd h ?_⟩
    show M 14 p = 1000 * (qm_ka (M 32) (360 * M 6 0).toNat 0 p / 120) + qm_ka (M 32) (360 * M 6 0).toNat 0 p % 120
    rw [e]
    unfold qk_j
    omega
  · have en : p < 0 ∨ qm_ka (M 32) (360 * M 6 0).toNat 0 p = -1 := by
      by_cases p0 : 0 ≤ p
      · right
        rw [ka p0, if_neg (by omega)]
      · left; omega
    exact ⟨_, _, _, _, K_Law_keyAtX1 (K_Court_keyAt1 hk.1 hk.2 hc), (K_Model_keyAt (M := qa_upd M 99 0 (M 99 0 + 1)) hb.1 hb.2 hp).2 en, st_err h (by decide)⟩
theorem op_artists {f : Int} {M : qa_Mem} (h : iv M) : ∃ k v M1 M2, qa_E 148 0 [(0, qr (0)), (1, qi (f)), (2, qr (7))] [] (M) (.inl (some (qi (k)))) (M1) ∧ qa_E 87 0 [(0, qr 6), (1, qi (f))] [] (M1) (.inl (some (qi (v)))) (M2) ∧ st_ok M M2 k v := by
  have hb := iv_c h
  by_cases hc : 0 ≤ f ∧ f ≤ 119
  · refine ⟨_, _, _, _, K_Law_artists0 (K_Court_artists0 hb.1 hb.2 hc), K_Model_artists0 (M := qa_upd M 7 0 _) h.1.2.1.1 h.1.2.1.2 hc, st_rd h ?_⟩
    show qf_or _ (3 * M 1 3).toNat = qm_ar (M 32) (M 34) (M 35) f (3 * M 6 0).toNat
    rw [h.1.1]
    have hb2 := h.1.2.1
    exact qf_or_ar _ (fun t t0 t1 => (h.2.2.1 t f t0 (by omega) hc.1 hc.2).2)
  · exact ⟨_, _, _, _, K_Law_artistsX1 (K_Court_artists1 hc), K_Model_artistsX1 (M := qa_upd M 99 0 (M 99 0 + 1)) hc, st_err h (by decide)⟩
theorem iv_nd {M : qa_Mem} (h : iv_film M) {f : Int} (h0 : 0 ≤ f) (h1 : f < 120) : 0 < M 23 f ↔ qm_nd M f := by
  obtain ⟨a1, a2, a3, a4, a5, a6⟩ := h
  rw [a5 f h0 h1, qf_tm_p]
  unfold qm_nd
  have := a4.1
  constructor
  · intro ⟨k, x, y, z⟩; exact ⟨k, x, by omega, z⟩
  · intro ⟨k, x, y, z⟩; exact ⟨k, x, by omega, z⟩
theorem op_state {f : Int} {M : qa_Mem} (h : iv M) : ∃ k v M1 M2, qa_E 152 0 [(0, qr (0)), (1, qi (f)), (2, qr (7))] [] (M) (.inl (some (qi (k)))) (M1) ∧ qa_E 94 0 [(0, qr 6), (1, qi (f))] [] (M1) (.inl (some (qi (v)))) (M2) ∧ st_ok M M2 k v := by
  by_cases hc : 0 ≤ f ∧ f ≤ 119
  · have es := h.2.2.2.1.2.1 f hc.1 (by omega)
    have r1 : 0 ≤ M 20 f ∧ M 20 f ≤ 2 := by
      rw [es]; unfold qm_ss
      split
      · omega
      · rcases qb_01 (qm_st M f) with z | z <;> rw [z] <;> decide
    have hs := h.2.2.2.2.1.2.2.2.1.1
    refine ⟨_, _, _, _, K_Law_state0 (K_Court_state0 hc r1), K_Model_state0 (M := qa_upd M 7 0 _) (iv_w h) hs.1 hs.2 hc, st_rd h ?_⟩
    show M 20 f + 10 * qb (0 < M 23 f) = qm_ss M f + 10 * qb (qm_nd M f)
    rw [es, qb_c (iv_nd h.2.2.2.2.1 hc.1 (by omega))]
  · exact ⟨_, _, _, _, K_Law_stateX1 (K_Court_state1 hc), K_Model_stateX1 (M := qa_upd M 99 0 (M 99 0 + 1)) hc, st_err h (by decide)⟩
theorem iv_ss2 {M : qa_Mem} {f : Int} : qm_ss M f = 2 ↔ (M 38 f ≠ 0 ∧ ¬ qm_st M f) := by
  unfold qm_ss
  by_cases h0 : M 38 f = 0
  · rw [if_pos h0]
    exact ⟨fun z => absurd z (by decide), fun z => absurd h0 z.1⟩
  · rw [if_neg h0]
    by_cases hs : qm_st M f
    · rw [qb_t hs]; exact ⟨fun z => absurd z (by decide), fun z => absurd hs z.2⟩
    · rw [qb_f hs]; exact ⟨fun _ => ⟨h0, hs⟩, fun _ => by decide⟩
theorem iv_ss0 {M : qa_Mem} {f : Int} : qm_ss M f = 0 ↔ M 38 f = 0 := by
  unfold qm_ss
  by_cases h0 : M 38 f = 0
  · rw [if_pos h0]; exact ⟨fun _ => h0, fun _ => rfl⟩
  · rw [if_neg h0]
    constructor
    · intro z; rcases qb_01 (qm_st M f) with q | q <;> rw [q] at z <;> exact absurd z (by decide)
    · intro z; exact absurd z h0
/-- the class's voids are the reference's -/
theorem iv_vo {M N : qa_Mem} (h : ∀ f : Int, 0 ≤ f → f < 120 → M 20 f = qm_ss N f) : qf_cnt (fun f => M 20 f = 2) 120 = qm_vo N := by
  refine qf_cnt_c 120 (fun j a b => ?_)
  rw [h j a b]
  exact iv_ss2
/-- as the class compares, so does the reference -/
theorem iv_am {M N : qa_Mem} (hb : M 1 3 = N 6 0) (hb2 : N 6 0 ≤ 8) (hp : ∀ t f : Int, 0 ≤ t → t < 24 → 0 ≤ f → f ≤ 119 → M 12 (t * 120 + f) = qm_v (N 32) (N 33) (N 35) t f) (h19 : M 19 = N 39) (h18 : ∀ t f : Int, 0 ≤ t → t < 24 → 0 ≤ f → f < 120 → M 18 (t * 120 + f) = N 40 (24 * f + t)) {f : Int} (h0 : 0 ≤ f) (h1 : f < 120) (hm : N 38 f ≠ 0) : qs_am M f ↔ qm_st N f := by
  unfold qs_am qm_st
  rw [hb, h19]
  constructor
  · intro ⟨a, c⟩
    refine ⟨hm, a, fun k k0 k1 => ?_⟩
    rw [← h18 k f k0 (by omega) h0 h1, c k k0 k1, hp k f k0 (by omega) h0 (by omega)]
  · intro ⟨_, a, c⟩
    refine ⟨a, fun k k0 k1 => ?_⟩
    rw [h18 k f k0 (by omega) h0 h1, c k k0 k1, hp k f k0 (by omega) h0 (by omega)]
theorem op_voids {M : qa_Mem} (h : iv M) : ∃ v M2, qa_E 123 0 [(0, qr 0)] [] (M) (.inl (some (qi (v)))) (M) ∧ qa_E 95 0 [(0, qr 6)] [] (M) (.inl (some (qi (v)))) (M2) ∧ M2 = qa_upd M 6 26 0 := by
  refine ⟨_, _, K_Court_voids, ?_, rfl⟩
  rw [iv_vo h.2.2.2.1.2.1]
  exact K_Model_voids (iv_w h)
theorem op_voidsByAll {M : qa_Mem} (h : iv M) : ∃ v M2, qa_E 124 0 [(0, qr 0)] [] (M) (.inl (some (qi (v)))) (M) ∧ qa_E 96 0 [(0, qr 6)] [] (M) (.inl (some (qi (v)))) (M2) ∧ M2 = qa_upd M 6 26 0 := by
  have hb := iv_c h
  refine ⟨_, _, K_Court_voidsByAll hb.1 hb.2, ?_, rfl⟩
  rw [show qf_cnt (fun f => M 20 f ≠ 0 ∧ ¬ qs_am M f) 120 = qm_vo M from qf_cnt_c 120 (fun j a b => by
    rw [h.2.2.2.1.2.1 j a b]
    constructor
    · intro ⟨x, y⟩
      have x' : M 38 j ≠ 0 := fun z => x (iv_ss0.mpr z)
      exact ⟨x', fun z => y ((iv_am h.1.1 h.1.2.1.2 (fun t f a b c d => (h.2.2.1 t f a b c d).1) h.2.2.2.1.1 h.2.2.2.1.2.2 a b x').mpr z)⟩
    · intro ⟨x, y⟩
      exact ⟨fun z => x (iv_ss0.mp z), fun z => y ((iv_am h.1.1 h.1.2.1.2 (fun t f a b c d => (h.2.2.1 t f a b c d).1) h.2.2.2.1.1 h.2.2.2.1.2.2 a b x).mp z)⟩)]
  exact K_Model_voidsByAll (iv_w h)
theorem op_heat {m : Int} {M : qa_Mem} (h : iv M) : ∃ k v M1 M2, qa_E 156 0 [(0, qr (0)), (1, qi (m)), (2, qr (7))] [] (M) (.inl (some (qi (k)))) (M1) ∧ qa_E 104 0 [(0, qr 6), (1, qi (m))] [] (M1) (.inl (some (qi (v)))) (M2) ∧ st_ok M M2 k v := by
  obtain ⟨a1, a2, a3, a4, a5, a6, a7, v1, v2, v3, v4, v5⟩ := h.2.2.2.2.2.1
  by_cases hc : 0 ≤ m ∧ m ≤ M 6 15 - 1
  · have w := v3 m hc.1 (by omega)
    refine ⟨_, _, _, _, K_Law_heat0 (K_Court_heat0 (by rw [a6]; exact v1) (by rw [a6]; exact hc) (by rw [a2]; omega) (by rw [a3]; exact w.2.2.1)), K_Model_heat0 (M := qa_upd M 7 0 _) v1 hc (show 0 ≤ M 42 m ∧ M 42 m ≤ 24 by omega) w.2.2.1, st_rd h ?_⟩
    show 10 * M 25 m + M 26 m = 10 * M 42 m + M 43 m
    rw [a2, a3]
  · exact ⟨_, _, _, _, K_Law_heatX1 (K_Court_heat1 (by rw [a6]; exact v1) (by rw [a6]; exact hc)), K_Model_heatX1 (M := qa_upd M 99 0 (M 99 0 + 1)) v1 hc, st_err h (by decide)⟩
theorem op_money {w : Int} {M : qa_Mem} (h : iv M) : ∃ k v M1 M2, qa_E 160 0 [(0, qr (0)), (1, qi (w)), (2, qr (7))] [] (M) (.inl (some (qi (k)))) (M1) ∧ qa_E 110 0 [(0, qr 6), (1, qi (w))] [] (M1) (.inl (some (qi (v)))) (M2) ∧ st_ok M M2 k v := by
  obtain ⟨a1, a2, a3, a4⟩ := h.2.2.2.2.2.2
  by_cases hc : 0 ≤ w ∧ w ≤ 6
  · refine ⟨_, _, _, _, K_Law_money0 (K_Court_money0 hc), K_Model_money0 (M := qa_upd M 7 0 _) hc, st_rd h ?_⟩
    show (if w = 6 then M 5 7 else M 8 w) = M 46 w
    split
    · rename_i hw; rw [hw]; exact a3
    · rename_i hw; exact a4 w hw
  · exact ⟨_, _, _, _, K_Law_moneyX1 (K_Court_money1 hc), K_Model_moneyX1 (M := qa_upd M 99 0 (M 99 0 + 1)) hc, st_err h (by decide)⟩
theorem iv_tm {M : qa_Mem} (h : iv_film M) : ∀ j : Int, 0 ≤ j → j < 120 → 0 ≤ M 23 j ∧ M 23 j ≤ 10 := by
  intro j a b
  obtain ⟨a1, a2, a3, a4, a5, a6⟩ := h
  have := qf_tm_r (M 36) (M 37) (M 6 9).toNat j
  have := a4.1
  rw [a5 j a b]
  omega
theorem iv_sec {M : qa_Mem} (h : iv M) {w : Int} (hw : 0 ≤ w ∧ w ≤ 5) : qc_sec M w = qm_sc M w := by
  have hb := h.1.2.1
  obtain ⟨a1, a2, a3, a4, a5, a6⟩ := h.2.2.2.2.1
  have hg : ∀ x, qm_g M w x = 0 ∨ qm_g M w x = 1 := fun x => qa_and1 _
  have e2 := qf_two hg (F := M 36) (G := M 37) (M 6 9).toNat (fun k x y => a4.2 k x (by omega))
  unfold qm_sc
  rw [← e2]
  unfold qc_sec
  rw [h.1.1]
  refine qf_sum_c 120 (fun f f0 f1 => ?_)
  have eo : qf_or (fun t => M 13 (t * 120 + f)) (3 * M 6 0).toNat = qm_ar (M 32) (M 34) (M 35) f (3 * M 6 0).toNat := qf_or_ar _ (fun t t0 t1 => (h.2.2.1 t f t0 (by omega) f0 (by omega)).2)
  have lt := qm_ar_lt (K := M 32) (A := M 34) (F := M 35) (f := f) h.2.1.2.2.2.2.2 (by omega) (3 * M 6 0).toNat (by omega)
  have bt := qa_bit lt (w := w) (by omega)
  rw [eo, a5 f f0 f1]
  unfold qm_g
  by_cases hz : qa_and (qm_ar (M 32) (M 34) (M 35) f (3 * M 6 0).toNat) (qa_shl 1 w) = 0
  · rw [if_pos hz, if_pos (bt.1 hz)]
  · rw [if_neg hz, if_neg (by rw [bt.2 hz]; decide)]
theorem op_seconds {w : Int} {M : qa_Mem} (h : iv M) : ∃ k v M1 M2, qa_E 158 0 [(0, qr (0)), (1, qi (w)), (2, qr (7))] [] (M) (.inl (some (qi (k)))) (M1) ∧ qa_E 107 0 [(0, qr 6), (1, qi (w))] [] (M1) (.inl (some (qi (v)))) (M2) ∧ st_ok M M2 k v := by
  have hb := iv_c h
  by_cases hc : 0 ≤ w ∧ w ≤ 5
  · refine ⟨_, _, _, _, K_Law_seconds0 (K_Court_seconds0 hb.1 hb.2 (iv_tm h.2.2.2.2.1) hc), K_Model_seconds0 (M := qa_upd M 7 0 _) h.1.2.1.1 h.1.2.1.2 h.2.2.2.2.1.2.2.2.1 hc, st_rd h ?_⟩
    show qc_sec M w / 24 = qm_sc M w / 24
    rw [iv_sec h hc]
  · exact ⟨_, _, _, _, K_Law_secondsX1 (K_Court_seconds1 hc), K_Model_secondsX1 (M := qa_upd M 99 0 (M 99 0 + 1)) hc, st_err h (by decide)⟩
theorem iv_len {M : qa_Mem} (h : qm_sh M) : 0 ≤ qm_len M ∧ qm_len M ≤ 1200 := by
  have := qf_sum_r (A := fun k => M 37 k - M 36 k + 1) (B := 120) (M 6 9).toNat (fun i a b => by
    have := h.2 i a (by omega)
    exact ⟨by omega, by omega⟩)
  have := h.1
  unfold qm_len
  omega
theorem op_shown {p : Int} {M : qa_Mem} (h : iv M) (hp : p ≤ 2147483647) : ∃ k v M1 M2, qa_E 151 0 [(0, qr (0)), (1, qi (p)), (2, qr (7))] [] (M) (.inl (some (qi (k)))) (M1) ∧ qa_E 92 0 [(0, qr 6), (1, qi (p))] [] (M1) (.inl (some (qi (v)))) (M2) ∧ st_ok M M2 k v := by
  obtain ⟨a1, a2, a3, a4, a5, a6⟩ := h.2.2.2.2.1
  have hl := iv_len a4
  have at' : 0 ≤ p → (qm_at (M 36) (M 37) (M 6 9).toNat 0 p = -1 ↔ qm_len M ≤ p) := fun p0 => by
    have e := (qm_at_s (F := M 36) (G := M 37) (M 6 9).toNat 0 p p0 (fun j x y => by
      have := a4.2 j x (by omega)
      exact ⟨this.1, this.2.1⟩)).1
    rw [e]
    unfold qm_len
    rw [show (fun j : Int => M 37 (0 + j) - M 36 (0 + j) + 1) = (fun k => M 37 k - M 36 k + 1) by funext j; rw [Int.zero_add]]
  by_cases hc : 0 ≤ p ∧ p ≤ M 4 4 - 1
  · have ne : qm_at (M 36) (M 37) (M 6 9).toNat 0 p ≠ -1 := fun z => by have := (at' hc.1).mp z; omega
    refine ⟨_, _, _, _, K_Law_shown0 (K_Court_shown0 (by rw [a6]; omega) (by rw [a6]; omega) hc (by rw [a1]; exact a4.1.1) (by rw [a1]; exact a4.1.2) (by rw [a1, a2, a3]; exact a4.2)), K_Model_shown0 (M := qa_upd M 7 0 _) a4 hp hc.1 ne, st_rd h ?_⟩
    show (if qm_at (M 21) (M 22) (M 4 3).toNat 0 p = -1 then 0 else qm_at (M 21) (M 22) (M 4 3).toNat 0 p) = qm_at (M 36) (M 37) (M 6 9).toNat 0 p
    rw [a1, a2, a3, if_neg ne]
  · refine ⟨_, _, _, _, K_Law_shownX1 (K_Court_shown1 (by rw [a6]; omega) (by rw [a6]; omega) hc), K_Model_shownX1 (M := qa_upd M 99 0 (M 99 0 + 1)) a4 hp ?_, st_err h (by decide)⟩
    by_cases p0 : p < 0
    · exact Or.inl p0
    · right
      exact (at' (by omega)).mpr (by omega)
