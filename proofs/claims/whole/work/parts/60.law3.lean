/-! the law: its loop -/
theorem qa_and31 (x : Int) : 0 ≤ qa_and x 31 ∧ qa_and x 31 ≤ 31 := by
  unfold qa_and
  have h : (Int32.ofInt x &&& Int32.ofInt 31).toBitVec.toNat ≤ 31 := by
    rw [Int32.toBitVec_and, BitVec.toNat_and]
    exact Nat.and_le_right
  rw [← Int32.toInt_toBitVec, BitVec.toInt_eq_toNat_of_lt (by omega)]
  omega
theorem law_cs {i : Int} {M : qa_Mem} (h : iv M) (i0 : 0 ≤ i) (i1 : i + 7 ≤ M 97 0) (hL : M 97 0 ≤ 3584) (hV : ∀ x : Int, 0 ≤ x → x < M 97 0 → M 98 x ≤ 2147483647) (x : Int) : ∃ M2, law_ok M M2 ∧ ∀ (r : qa_R) (M9 : qa_Mem), qa_E 161 1500 [(0, qr 998), (1, qr 0), (2, qr 6), (3, qr 7), (4, qi i)] [] M2 r M9 → qa_E 161 40 [(0, qr 998), (1, qr 0), (2, qr 6), (3, qr 7), (4, qi i)] [qi x] M r M9 := by
  by_cases z : x < 0 ∨ (qa_sw.length : Int) ≤ x
  · refine ⟨M, ⟨h, Int.le_refl _, by omega, rfl, rfl⟩, fun r M9 K => R_sw cd_161_40 (fun j t ht hx => ?_) (fun _ => K)⟩
    exfalso
    have := (List.getElem?_eq_some_iff.mp ht).1
    omega
  · have zl : (qa_sw.length : Int) = 22 := rfl
    by_cases c0 : x = 0
    · obtain ⟨M2, g, F⟩ := law_bone h i0 i1 hL hV
      refine ⟨M2, g, fun r M9 K => R_sw cd_161_40 (fun j t ht hx => ?_) (fun y => absurd y z)⟩
      obtain rfl : j = 0 := by omega
      obtain rfl : 144 = t := Option.some.inj ht
      exact F r M9 K
    by_cases c1 : x = 1
    · obtain ⟨M2, g, F⟩ := law_key h i0 i1 hL hV
      refine ⟨M2, g, fun r M9 K => R_sw cd_161_40 (fun j t ht hx => ?_) (fun y => absurd y z)⟩
      obtain rfl : j = 1 := by omega
      obtain rfl : 224 = t := Option.some.inj ht
      exact F r M9 K
    by_cases c2 : x = 2
    · obtain ⟨M2, g, F⟩ := law_unkey h i0 i1 hL hV
      refine ⟨M2, g, fun r M9 K => R_sw cd_161_40 (fun j t ht hx => ?_) (fun y => absurd y z)⟩
      obtain rfl : j = 2 := by omega
      obtain rfl : 358 = t := Option.some.inj ht
      exact F r M9 K
    by_cases c3 : x = 3
    · obtain ⟨M2, g, F⟩ := law_value h i0 i1 hL hV
      refine ⟨M2, g, fun r M9 K => R_sw cd_161_40 (fun j t ht hx => ?_) (fun y => absurd y z)⟩
      obtain rfl : j = 3 := by omega
      obtain rfl : 438 = t := Option.some.inj ht
      exact F r M9 K
    by_cases c4 : x = 4
    · obtain ⟨M2, g, F⟩ := law_span h i0 i1 hL hV
      refine ⟨M2, g, fun r M9 K => R_sw cd_161_40 (fun j t ht hx => ?_) (fun y => absurd y z)⟩
      obtain rfl : j = 4 := by omega
      obtain rfl : 518 = t := Option.some.inj ht
      exact F r M9 K
    by_cases c5 : x = 5
    · obtain ⟨M2, g, F⟩ := law_keyAt h i0 i1 hL hV
      refine ⟨M2, g, fun r M9 K => R_sw cd_161_40 (fun j t ht hx => ?_) (fun y => absurd y z)⟩
      obtain rfl : j = 5 := by omega
      obtain rfl : 598 = t := Option.some.inj ht
      exact F r M9 K
    by_cases c6 : x = 6
    · obtain ⟨M2, g, F⟩ := law_place h i0 i1 hL hV
      refine ⟨M2, g, fun r M9 K => R_sw cd_161_40 (fun j t ht hx => ?_) (fun y => absurd y z)⟩
      obtain rfl : j = 6 := by omega
      obtain rfl : 654 = t := Option.some.inj ht
      exact F r M9 K
    by_cases c7 : x = 7
    · obtain ⟨M2, g, F⟩ := law_artists h i0 i1 hL hV
      refine ⟨M2, g, fun r M9 K => R_sw cd_161_40 (fun j t ht hx => ?_) (fun y => absurd y z)⟩
      obtain rfl : j = 7 := by omega
      obtain rfl : 722 = t := Option.some.inj ht
      exact F r M9 K
    by_cases c8 : x = 8
    · obtain ⟨M2, g, F⟩ := law_cut h i0 i1 hL hV
      refine ⟨M2, g, fun r M9 K => R_sw cd_161_40 (fun j t ht hx => ?_) (fun y => absurd y z)⟩
      obtain rfl : j = 8 := by omega
      obtain rfl : 778 = t := Option.some.inj ht
      exact F r M9 K
    by_cases c9 : x = 9
    · obtain ⟨M2, g, F⟩ := law_uncut h i0 i1 hL hV
      refine ⟨M2, g, fun r M9 K => R_sw cd_161_40 (fun j t ht hx => ?_) (fun y => absurd y z)⟩
      obtain rfl : j = 9 := by omega
      obtain rfl : 858 = t := Option.some.inj ht
      exact F r M9 K
    by_cases c10 : x = 10
    · obtain ⟨M2, g, F⟩ := law_shown h i0 i1 hL hV
      refine ⟨M2, g, fun r M9 K => R_sw cd_161_40 (fun j t ht hx => ?_) (fun y => absurd y z)⟩
      obtain rfl : j = 10 := by omega
      obtain rfl : 914 = t := Option.some.inj ht
      exact F r M9 K
    by_cases c11 : x = 11
    · obtain ⟨M2, g, F⟩ := law_state h i0 i1 hL hV
      refine ⟨M2, g, fun r M9 K => R_sw cd_161_40 (fun j t ht hx => ?_) (fun y => absurd y z)⟩
      obtain rfl : j = 11 := by omega
      obtain rfl : 970 = t := Option.some.inj ht
      exact F r M9 K
    by_cases c12 : x = 12
    · obtain ⟨M2, g, F⟩ := law_voids h i0 i1 hL hV
      refine ⟨M2, g, fun r M9 K => R_sw cd_161_40 (fun j t ht hx => ?_) (fun y => absurd y z)⟩
      obtain rfl : j = 12 := by omega
      obtain rfl : 1026 = t := Option.some.inj ht
      exact F r M9 K
    by_cases c13 : x = 13
    · obtain ⟨M2, g, F⟩ := law_voidsByAll h i0 i1 hL hV
      refine ⟨M2, g, fun r M9 K => R_sw cd_161_40 (fun j t ht hx => ?_) (fun y => absurd y z)⟩
      obtain rfl : j = 13 := by omega
      obtain rfl : 1039 = t := Option.some.inj ht
      exact F r M9 K
    by_cases c14 : x = 14
    · obtain ⟨M2, g, F⟩ := law_machine h i0 i1 hL hV
      refine ⟨M2, g, fun r M9 K => R_sw cd_161_40 (fun j t ht hx => ?_) (fun y => absurd y z)⟩
      obtain rfl : j = 14 := by omega
      obtain rfl : 1052 = t := Option.some.inj ht
      exact F r M9 K
    by_cases c15 : x = 15
    · obtain ⟨M2, g, F⟩ := law_offer h i0 i1 hL hV
      refine ⟨M2, g, fun r M9 K => R_sw cd_161_40 (fun j t ht hx => ?_) (fun y => absurd y z)⟩
      obtain rfl : j = 15 := by omega
      obtain rfl : 1108 = t := Option.some.inj ht
      exact F r M9 K
    by_cases c16 : x = 16
    · obtain ⟨M2, g, F⟩ := law_night h i0 i1 hL hV
      refine ⟨M2, g, fun r M9 K => R_sw cd_161_40 (fun j t ht hx => ?_) (fun y => absurd y z)⟩
      obtain rfl : j = 16 := by omega
      obtain rfl : 1176 = t := Option.some.inj ht
      exact F r M9 K
    by_cases c17 : x = 17
    · obtain ⟨M2, g, F⟩ := law_heat h i0 i1 hL hV
      refine ⟨M2, g, fun r M9 K => R_sw cd_161_40 (fun j t ht hx => ?_) (fun y => absurd y z)⟩
      obtain rfl : j = 17 := by omega
      obtain rfl : 1232 = t := Option.some.inj ht
      exact F r M9 K
    by_cases c18 : x = 18
    · obtain ⟨M2, g, F⟩ := law_setRate h i0 i1 hL hV
      refine ⟨M2, g, fun r M9 K => R_sw cd_161_40 (fun j t ht hx => ?_) (fun y => absurd y z)⟩
      obtain rfl : j = 18 := by omega
      obtain rfl : 1288 = t := Option.some.inj ht
      exact F r M9 K
    by_cases c19 : x = 19
    · obtain ⟨M2, g, F⟩ := law_seconds h i0 i1 hL hV
      refine ⟨M2, g, fun r M9 K => R_sw cd_161_40 (fun j t ht hx => ?_) (fun y => absurd y z)⟩
      obtain rfl : j = 19 := by omega
      obtain rfl : 1344 = t := Option.some.inj ht
      exact F r M9 K
    by_cases c20 : x = 20
    · obtain ⟨M2, g, F⟩ := law_show h i0 i1 hL hV
      refine ⟨M2, g, fun r M9 K => R_sw cd_161_40 (fun j t ht hx => ?_) (fun y => absurd y z)⟩
      obtain rfl : j = 20 := by omega
      obtain rfl : 1400 = t := Option.some.inj ht
      exact F r M9 K
    by_cases c21 : x = 21
    · obtain ⟨M2, g, F⟩ := law_money h i0 i1 hL hV
      refine ⟨M2, g, fun r M9 K => R_sw cd_161_40 (fun j t ht hx => ?_) (fun y => absurd y z)⟩
      obtain rfl : j = 21 := by omega
      obtain rfl : 1444 = t := Option.some.inj ht
      exact F r M9 K
    exfalso
    omega
theorem law_lp (n : Nat) : ∀ (i : Int) (M : qa_Mem), iv M → 0 ≤ i → M 97 0 ≤ i + 7 * (n : Int) + 6 → M 97 0 ≤ 3584 → 0 ≤ M 97 0 → i ≤ 3584 → (∀ x : Int, 0 ≤ x → x < M 97 0 → M 98 x ≤ 2147483647) → ∃ M9, qa_E 161 23 [(0, qr 998), (1, qr 0), (2, qr 6), (3, qr 7), (4, qi i)] [] M (.inl (some (qi 1))) M9 ∧ M 99 0 ≤ M9 99 0 ∧ M9 99 0 ≤ M 99 0 + n := by
  induction n with
  | zero =>
    intro i M h i0 i1 hL hL0 i2 hV
    refine ⟨M, ?_, Int.le_refl _, by omega⟩
    refine R_iload cd_161_23 rfl ?_
    refine R_aload cd_161_25 rfl ?_
    refine R_slen cd_161_26 ?_
    refine R_push cd_161_27 ?_
    refine R_isub cd_161_29 (by unfold qa_InR; first | omega | (simp [qa_upd, qa_blk] <;> omega)) ?_
    refine R_icmp_gt 1506 cd_161_30 rfl (fun b30 => ?_) (fun b30 => ?_)
    · refine R_push cd_161_1506 ?_
      exact R_zret cd_161_1507 rfl (by decide) rfl
    · exfalso; omega
  | succ n ih =>
    intro i M h i0 i1 hL hL0 i2 hV
    by_cases hc : M 97 0 - 7 < i
    · refine ⟨M, ?_, Int.le_refl _, by omega⟩
      refine R_iload cd_161_23 rfl ?_
      refine R_aload cd_161_25 rfl ?_
      refine R_slen cd_161_26 ?_
      refine R_push cd_161_27 ?_
      refine R_isub cd_161_29 (by unfold qa_InR; first | omega | (simp [qa_upd, qa_blk] <;> omega)) ?_
      refine R_icmp_gt 1506 cd_161_30 rfl (fun b30 => ?_) (fun b30 => ?_)
      · refine R_push cd_161_1506 ?_
        exact R_zret cd_161_1507 rfl (by decide) rfl
      · exfalso; omega
    · obtain ⟨M2, ⟨g1, g2, g3, g4, g5⟩, F⟩ := law_cs h i0 (by omega) hL hV (qa_and (M 98 i) 31)
      obtain ⟨M9, K, k1, k2⟩ := ih (i + 7) M2 g1 (by omega) (by rw [g4]; omega) (by rw [g4]; exact hL) (by rw [g4]; exact hL0) (by omega) (by rw [g4, g5]; exact hV)
      refine ⟨M9, ?_, by omega, by omega⟩
      have B : qa_E 161 1500 [(0, qr 998), (1, qr 0), (2, qr 6), (3, qr 7), (4, qi i)] [] M2 (.inl (some (qi 1))) M9 := by
        refine R_iinc cd_161_1500 rfl (by unfold qa_InR; first | omega | (simp [qa_upd, qa_blk] <;> omega)) ?_
        refine R_goto cd_161_1503 ?_
        exact R_norm (qs_c rfl (qs_c rfl (qs_c rfl (qs_c rfl (qs_c rfl qs_n))))) K
      have T := F _ _ B
      refine R_iload cd_161_23 rfl ?_
      refine R_aload cd_161_25 rfl ?_
      refine R_slen cd_161_26 ?_
      refine R_push cd_161_27 ?_
      refine R_isub cd_161_29 (by unfold qa_InR; first | omega | (simp [qa_upd, qa_blk] <;> omega)) ?_
      refine R_icmp_gt 1506 cd_161_30 rfl (fun b30 => ?_) (fun b30 => ?_)
      · exfalso; omega
      · refine R_aload cd_161_33 rfl ?_
        refine R_iload cd_161_34 rfl ?_
        refine R_sld cd_161_36 (by omega) (by omega) ?_
        refine R_push cd_161_37 ?_
        refine R_iand cd_161_39 ?_
        exact T
