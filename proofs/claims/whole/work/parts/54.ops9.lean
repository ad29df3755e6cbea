/-! the show -/
theorem qw_sum_c {A B : Int → Int} (n : Nat) (h : ∀ j : Int, 0 ≤ j → j < n → A j = B j) : qw_sum A n = qw_sum B n := by
  induction n with
  | zero => rfl
  | succ n ih =>
    unfold qw_sum
    rw [ih (fun j a b => h j a (by omega)), h n (by omega) (by omega)]
theorem qf_sum_1 {A : Int → Int} (n : Nat) (h : ∀ j : Int, 0 ≤ j → j < n → 1 ≤ A j) : (n : Int) ≤ qf_sum A n := by
  induction n with
  | zero => exact Int.le_refl _
  | succ n ih =>
    have a := ih (fun j a b => h j a (by omega))
    have b := h n (by omega) (by omega)
    show _ ≤ qf_sum A n + A n
    omega
theorem iv_ss1 {M : qa_Mem} {f : Int} : qm_ss M f = 1 ↔ qm_st M f := by
  unfold qm_ss
  by_cases h0 : M 38 f = 0
  · rw [if_pos h0]
    exact ⟨fun z => absurd z (by decide), fun z => absurd h0 z.1⟩
  · rw [if_neg h0]
    by_cases hs : qm_st M f
    · rw [qb_t hs]; exact ⟨fun _ => hs, fun _ => by decide⟩
    · rw [qb_f hs]; exact ⟨fun z => absurd z (by decide), fun z => absurd z hs⟩
theorem iv_who {M : qa_Mem} (h : iv M) : (0 < M 4 4 ∧ qc_std M) ↔ qm_who M := by
  obtain ⟨a1, a2, a3, a4, a5, a6⟩ := h.2.2.2.2.1
  have e : 0 < M 4 4 ↔ 0 < M 6 9 := by
    rw [a6]
    unfold qm_len
    have n0 := a4.1
    constructor
    · intro z
      by_cases c : M 6 9 = 0
      · rw [c] at z; exact absurd (show (0 : Int) < 0 from z) (by decide)
      · omega
    · intro z
      have := qf_sum_1 (A := fun k => M 37 k - M 36 k + 1) (M 6 9).toNat (fun j x y => by
        have := a4.2 j x (by omega)
        omega)
      omega
  have e2 : qc_std M ↔ ∀ f : Int, 0 ≤ f → f < 120 → qm_nd M f → qm_st M f := by
    unfold qc_std
    constructor
    · intro z f f0 f1 n
      have := z f f0 f1 ((iv_nd h.2.2.2.2.1 f0 f1).mpr n)
      rw [h.2.2.2.1.2.1 f f0 f1] at this
      exact iv_ss1.mp this
    · intro z f f0 f1 n
      rw [h.2.2.2.1.2.1 f f0 f1]
      exact iv_ss1.mpr (z f f0 f1 ((iv_nd h.2.2.2.2.1 f0 f1).mp n))
  unfold qm_who
  rw [e, e2]
theorem op_show {M : qa_Mem} (h : iv M) : ∃ k v M1 M2, qa_E 159 0 [(0, qr (0)), (1, qr (7))] [] (M) (.inl (some (qi (k)))) (M1) ∧ qa_E 109 0 [(0, qr 6)] [] (M1) (.inl (some (qi (v)))) (M2) ∧ st_ok M M2 k v := by
  have hb := iv_c h
  have wh := iv_who h
  obtain ⟨i1, i2, i3, i4, i5, i6, i7⟩ := id h
  by_cases hc : qm_who M
  · have hc' := wh.mpr hc
    have du : ∀ w : Int, 0 ≤ w → w < 6 → qc_due M w = qm_due M w := fun w w0 w1 => by
      unfold qc_due qm_due
      rw [iv_sec h (w := w) (by omega), i7.1]
    have C := K_Court_show0 hb.1 hb.2 (iv_tm i5) hc'.1 hc'.2 (by rw [i7.1]; exact i7.2.1)
    rw [qw_sum_c 6 (fun j a b => du j a (by omega))] at C
    refine ⟨_, _, _, _, K_Law_show0 C, K_Model_show0 (M := qa_upd (qc_pay M 6) 7 0 (qw_sum (qm_due M) 6)) (iv_w (M := M) h) i5.2.2.2.1 hc i7.2.1, st_go rfl rfl ⟨i1, i2, i3, i4, i5, i6, ⟨i7.1, i7.2.1, ?_, ?_⟩⟩ rfl rfl rfl⟩
    · show M 5 7 = (if 0 ≤ (6 : Int) ∧ (6 : Int) < 6 then qa_wrap (M 46 6 + qm_due M 6) else M 46 6)
      rw [if_neg (by decide)]
      exact i7.2.2.1
    · intro w hw
      show (if 0 ≤ w ∧ w < 6 then qa_wrap (M 8 w + qc_due M w) else M 8 w) = (if 0 ≤ w ∧ w < 6 then qa_wrap (M 46 w + qm_due M w) else M 46 w)
      by_cases z : 0 ≤ w ∧ w < 6
      · rw [if_pos z, if_pos z, du w z.1 z.2, i7.2.2.2 w hw]
      · rw [if_neg z, if_neg z, i7.2.2.2 w hw]
  · exact ⟨_, _, _, _, K_Law_showX1 (K_Court_show1 (fun z => hc (wh.mp z))), K_Model_showX1 (M := qa_upd M 99 0 (M 99 0 + 1)) (iv_w h) i5.2.2.2.1.1.1 i5.2.2.2.1.1.2 hc, st_err h (by decide)⟩
