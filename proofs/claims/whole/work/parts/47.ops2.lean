/-! the calls that change little -/
theorem st_go {M M2 : qa_Mem} {b : Int} (h6 : M2 6 26 = 0) (h7 : M2 7 0 = b) (hi : iv M2) (e1 : M2 99 = M 99) (e2 : M2 97 = M 97) (e3 : M2 98 = M 98) : st_ok M M2 0 b := ⟨h6, fun _ => h7, hi, by rw [e1]; exact Int.le_refl _, by rw [e1]; omega, e2, e3⟩
theorem op_setRate {r : Int} {M : qa_Mem} (h : iv M) : ∃ k v M1 M2, qa_E 157 0 [(0, qr (0)), (1, qi (r)), (2, qr (7))] [] (M) (.inl (some (qi (k)))) (M1) ∧ qa_E 105 0 [(0, qr 6), (1, qi (r))] [] (M1) (.inl (some (qi (v)))) (M2) ∧ st_ok M M2 k v := by
  by_cases hc : 0 ≤ r ∧ r ≤ 1000
  · obtain ⟨i1, i2, i3, i4, i5, i6, i7⟩ := h
    exact ⟨_, _, _, _, K_Law_setRate0 (K_Court_setRate0 hc), K_Model_setRate0 (M := qa_upd (qa_upd M 0 5 r) 7 0 _) hc, st_go rfl i7.1 ⟨i1, i2, i3, i4, i5, i6, ⟨rfl, hc, i7.2.2.1, i7.2.2.2⟩⟩ rfl rfl rfl⟩
  · exact ⟨_, _, _, _, K_Law_setRateX1 (K_Court_setRate1 hc), K_Model_setRateX1 (M := qa_upd M 99 0 (M 99 0 + 1)) hc, st_err h (by decide)⟩
theorem op_machine {s : Int} {M : qa_Mem} (h : iv M) : ∃ k v M1 M2, qa_E 153 0 [(0, qr (0)), (1, qi (s)), (2, qr (7))] [] (M) (.inl (some (qi (k)))) (M1) ∧ qa_E 97 0 [(0, qr 6), (1, qi (s))] [] (M1) (.inl (some (qi (v)))) (M2) ∧ st_ok M M2 k v := by
  have h' := h
  obtain ⟨i1, i2, i3, i4, i5, ⟨a1, a2, a3, a4, a5, a6, a7, v1, v2, v3, v4, v5⟩, i7⟩ := h'
  by_cases hc : 1 ≤ s ∧ s ≤ 5
  · by_cases hf : M 6 15 = 4
    · exact ⟨_, _, _, _, K_Law_machineX2 (K_Court_machine2 hc (by omega)), K_Model_machineX2 (M := qa_upd M 99 0 (M 99 0 + 1)) hc hf, st_err h (by decide)⟩
    · refine ⟨_, _, _, _, K_Law_machine0 (K_Court_machine0 hc (by omega)), K_Model_machine0 (M := qa_upd (qa_upd (qa_upd M 24 (M 5 3) s) 5 3 (M 5 3 + 1)) 7 0 _) hc (show 0 ≤ M 6 15 ∧ M 6 15 < 4 by omega), st_go rfl a6 ⟨i1, i2, i3, i4, i5, ⟨?_, a2, a3, a4, a5, ?_, a7, ⟨?_, v2, v3, ?_, v5⟩⟩, i7⟩ rfl rfl rfl⟩
      · show qa_upd M 24 (M 5 3) s 24 = qa_upd M 41 (M 6 15) s 41
        rw [qa_upd_s, qa_upd_s, a1, a6]
      · show M 5 3 + 1 = M 6 15 + 1
        rw [a6]
      · show 0 ≤ M 6 15 + 1 ∧ M 6 15 + 1 ≤ 4
        omega
      · show ∀ m : Int, 0 ≤ m → m < M 6 15 + 1 → 1 ≤ qa_upd M 41 (M 6 15) s 41 m ∧ qa_upd M 41 (M 6 15) s 41 m ≤ 5
        intro m m0 m1
        rw [qa_upd_s]
        unfold qf_set
        split
        · exact hc
        · exact v4 m m0 (by omega)
  · exact ⟨_, _, _, _, K_Law_machineX1 (K_Court_machine1 hc), K_Model_machineX1 (M := qa_upd M 99 0 (M 99 0 + 1)) hc, st_err h (by decide)⟩
theorem op_offer {p t : Int} {M : qa_Mem} (h : iv M) : ∃ k v M1 M2, qa_E 154 0 [(0, qr (0)), (1, qi (p)), (2, qi (t)), (3, qr (7))] [] (M) (.inl (some (qi (k)))) (M1) ∧ qa_E 98 0 [(0, qr 6), (1, qi (p)), (2, qi (t))] [] (M1) (.inl (some (qi (v)))) (M2) ∧ st_ok M M2 k v := by
  have h' := h
  obtain ⟨i1, i2, i3, i4, i5, ⟨a1, a2, a3, a4, a5, a6, a7, v1, v2, v3, v4, v5⟩, i7⟩ := h'
  by_cases hc : (1 ≤ p ∧ p ≤ 100) ∧ 1 ≤ t ∧ t ≤ 50
  · by_cases hf : M 6 19 = 10
    · exact ⟨_, _, _, _, K_Law_offerX2 (K_Court_offer2 hc (by omega)), K_Model_offerX2 (M := qa_upd M 99 0 (M 99 0 + 1)) hc hf, st_err h (by decide)⟩
    · refine ⟨_, _, _, _, K_Law_offer0 (K_Court_offer0 hc (by omega)), K_Model_offer0 (M := qa_upd (qa_upd (qa_upd (qa_upd M 27 (M 5 6) p) 28 (M 5 6) t) 5 6 (M 5 6 + 1)) 7 0 _) hc (show 0 ≤ M 6 19 ∧ M 6 19 < 10 by omega), st_go rfl a7 ⟨i1, i2, i3, i4, i5, ⟨a1, a2, a3, ?_, ?_, a6, ?_, ⟨v1, ?_, v3, v4, ?_⟩⟩, i7⟩ rfl rfl rfl⟩
      · show qa_upd M 27 (M 5 6) p 27 = qa_upd M 44 (M 6 19) p 44
        rw [qa_upd_s, qa_upd_s, a4, a7]
      · show qa_upd M 28 (M 5 6) t 28 = qa_upd M 45 (M 6 19) t 45
        rw [qa_upd_s, qa_upd_s, a5, a7]
      · show M 5 6 + 1 = M 6 19 + 1
        rw [a7]
      · show 0 ≤ M 6 19 + 1 ∧ M 6 19 + 1 ≤ 10
        omega
      · show ∀ m : Int, 0 ≤ m → m < M 6 19 + 1 → (0 ≤ qa_upd M 45 (M 6 19) t 45 m ∧ qa_upd M 45 (M 6 19) t 45 m ≤ 50) ∧ 1 ≤ qa_upd M 44 (M 6 19) p 44 m ∧ qa_upd M 44 (M 6 19) p 44 m ≤ 100
        intro m m0 m1
        rw [qa_upd_s, qa_upd_s]
        unfold qf_set
        by_cases e : m = M 6 19
        · rw [if_pos e, if_pos e]; omega
        · rw [if_neg e, if_neg e]; exact v5 m m0 (by omega)
  · exact ⟨_, _, _, _, K_Law_offerX1 (K_Court_offer1 hc), K_Model_offerX1 (M := qa_upd M 99 0 (M 99 0 + 1)) hc, st_err h (by decide)⟩
