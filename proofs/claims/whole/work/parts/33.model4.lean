/-! the reference: keys by place, places, artists -/
def qm_ka (K : Int → Int) : Nat → Int → Int → Int
  | 0, _, _ => -1
  | n + 1, k, left => if K k ≠ 0 then (if left = 0 then k else qm_ka K n (k + 1) (left - 1)) else qm_ka K n (k + 1) left
theorem K_Model_keyAt {p : Int} {M : qa_Mem} (h1 : 0 ≤ M 6 0) (h2 : M 6 0 ≤ 8) (h3 : p ≤ 2147483647) : (0 ≤ p → qm_ka (M 32) (360 * M 6 0).toNat 0 p ≠ -1 → qa_E 82 0 [(0, qr 6), (1, qi (p))] [] (M) (.inl (some (qi (1000 * (qm_ka (M 32) (360 * M 6 0).toNat 0 p / 120) + qm_ka (M 32) (360 * M 6 0).toNat 0 p % 120)))) (qa_upd M 6 26 0)) ∧ (p < 0 ∨ qm_ka (M 32) (360 * M 6 0).toNat 0 p = -1 → qa_E 82 0 [(0, qr 6), (1, qi (p))] [] (M) (.inl (some (qi (0)))) (qa_upd M 6 26 1)) := by
  have lp : ∀ (n : Nat) (k left : Int), k + n = 360 * M 6 0 → 0 ≤ k → 0 ≤ p → 0 ≤ left → left ≤ p → (qm_ka (M 32) n k left ≠ -1 → qa_E 82 4 [(0, qr 6), (1, qi p), (2, qi left), (3, qi k)] [] M (.inl (some (qi (1000 * (qm_ka (M 32) n k left / 120) + qm_ka (M 32) n k left % 120)))) (qa_upd M 6 26 0)) ∧ (qm_ka (M 32) n k left = -1 → qa_E 82 4 [(0, qr 6), (1, qi p), (2, qi left), (3, qi k)] [] M (.inl (some (qi 0))) (qa_upd M 6 26 1)) := by
    intro n
    induction n with
    | zero =>
      intro k left g1 g2 g3 g4 g5
      refine ⟨fun hh => absurd rfl hh, fun _ => ?_⟩
      refine R_iload cd_82_4 rfl ?_
      refine R_push cd_82_5 ?_
      refine R_aload cd_82_6 rfl ?_
      refine R_getf cd_82_7 rfl (by decide) ?_
      refine R_imul cd_82_10 (by unfold qa_InR; first | omega | (simp [qa_upd, qa_blk] <;> omega)) ?_
      refine R_push cd_82_11 ?_
      refine R_imul cd_82_13 (by unfold qa_InR; first | omega | (simp [qa_upd, qa_blk] <;> omega)) ?_
      refine R_icmp_ge 62 cd_82_14 rfl (fun b14 => ?_) (fun b14 => ?_)
      · refine R_aload cd_82_62 rfl ?_
        refine R_push cd_82_63 ?_
        refine R_putf cd_82_64 rfl (by decide) ?_
        refine R_push cd_82_67 ?_
        exact R_iret cd_82_68 (by first | rfl | omega) rfl
      · omega
    | succ n ih =>
      intro k left g1 g2 g3 g4 g5
      have e1 : k.tdiv 120 = k / 120 := Int.tdiv_eq_ediv_of_nonneg g2
      have e2 : k.tmod 120 = k % 120 := Int.tmod_eq_emod_of_nonneg g2
      unfold qm_ka
      constructor
      · intro hh
        refine R_iload cd_82_4 rfl ?_
        refine R_push cd_82_5 ?_
        refine R_aload cd_82_6 rfl ?_
        refine R_getf cd_82_7 rfl (by decide) ?_
        refine R_imul cd_82_10 (by unfold qa_InR; first | omega | (simp [qa_upd, qa_blk] <;> omega)) ?_
        refine R_push cd_82_11 ?_
        refine R_imul cd_82_13 (by unfold qa_InR; first | omega | (simp [qa_upd, qa_blk] <;> omega)) ?_
        refine R_icmp_ge 62 cd_82_14 rfl (fun b14 => ?_) (fun b14 => ?_)
        · omega
        · refine R_iload cd_82_17 rfl ?_
          refine R_if_lt 62 cd_82_18 rfl (fun b18 => ?_) (fun b18 => ?_)
          · omega
          · refine R_aload cd_82_21 rfl ?_
            refine R_getr cd_82_22 rfl ?_
            refine R_iload cd_82_25 rfl ?_
            refine R_zald cd_82_26 rfl (by first | omega | (simp [qa_upd, qa_blk] <;> omega)) (by first | omega | (simp [qa_upd, qa_blk] <;> omega)) ?_
            refine R_if_eq 56 cd_82_27 rfl (fun b27 => ?_) (fun b27 => ?_)
            · refine R_iinc cd_82_56 rfl (by unfold qa_InR; first | omega | (simp [qa_upd, qa_blk] <;> omega)) ?_
              refine R_goto cd_82_59 ?_
              first
                | rw [if_pos b27, if_neg b31] at hh ⊢
                  exact R_norm (qs_c rfl (qs_c rfl (qs_c rfl (qs_c rfl qs_n)))) ((ih (k + 1) (left - 1) (by omega) (by omega) g3 (by omega) (by omega)).1 hh)
                | rw [if_neg (fun z => z b27)] at hh ⊢
                  exact R_norm (qs_c rfl (qs_c rfl (qs_c rfl (qs_c rfl qs_n)))) ((ih (k + 1) left (by omega) (by omega) g3 (by omega) (by omega)).1 hh)
            · refine R_iload cd_82_30 rfl ?_
              refine R_if_ne 53 cd_82_31 rfl (fun b31 => ?_) (fun b31 => ?_)
              · refine R_iinc cd_82_53 rfl (by unfold qa_InR; first | omega | (simp [qa_upd, qa_blk] <;> omega)) ?_
                refine R_iinc cd_82_56 rfl (by unfold qa_InR; first | omega | (simp [qa_upd, qa_blk] <;> omega)) ?_
                refine R_goto cd_82_59 ?_
                first
                  | rw [if_pos b27, if_neg b31] at hh ⊢
                    exact R_norm (qs_c rfl (qs_c rfl (qs_c rfl (qs_c rfl qs_n)))) ((ih (k + 1) (left - 1) (by omega) (by omega) g3 (by omega) (by omega)).1 hh)
                  | rw [if_neg (fun z => z b27)] at hh ⊢
                    exact R_norm (qs_c rfl (qs_c rfl (qs_c rfl (qs_c rfl qs_n)))) ((ih (k + 1) left (by omega) (by omega) g3 (by omega) (by omega)).1 hh)
              · rw [if_pos b27, if_pos b31]
                refine R_aload cd_82_34 rfl ?_
                refine R_push cd_82_35 ?_
                refine R_putf cd_82_36 rfl (by decide) ?_
                refine R_push cd_82_39 ?_
                refine R_iload cd_82_42 rfl ?_
                refine R_push cd_82_43 ?_
                refine R_idiv cd_82_45 (by omega) ?_
                refine R_imul cd_82_46 (by rw [e1]; unfold qa_InR; omega) ?_
                refine R_iload cd_82_47 rfl ?_
                refine R_push cd_82_48 ?_
                refine R_irem cd_82_50 (by omega) ?_
                refine R_iadd cd_82_51 (by rw [e1, e2]; unfold qa_InR; omega) ?_
                exact R_iret cd_82_52 (by rw [e1, e2]) rfl
      · intro hh
        refine R_iload cd_82_4 rfl ?_
        refine R_push cd_82_5 ?_
        refine R_aload cd_82_6 rfl ?_
        refine R_getf cd_82_7 rfl (by decide) ?_
        refine R_imul cd_82_10 (by unfold qa_InR; first | omega | (simp [qa_upd, qa_blk] <;> omega)) ?_
        refine R_push cd_82_11 ?_
        refine R_imul cd_82_13 (by unfold qa_InR; first | omega | (simp [qa_upd, qa_blk] <;> omega)) ?_
        refine R_icmp_ge 62 cd_82_14 rfl (fun b14 => ?_) (fun b14 => ?_)
        · omega
        · refine R_iload cd_82_17 rfl ?_
          refine R_if_lt 62 cd_82_18 rfl (fun b18 => ?_) (fun b18 => ?_)
          · omega
          · refine R_aload cd_82_21 rfl ?_
            refine R_getr cd_82_22 rfl ?_
            refine R_iload cd_82_25 rfl ?_
            refine R_zald cd_82_26 rfl (by first | omega | (simp [qa_upd, qa_blk] <;> omega)) (by first | omega | (simp [qa_upd, qa_blk] <;> omega)) ?_
            refine R_if_eq 56 cd_82_27 rfl (fun b27 => ?_) (fun b27 => ?_)
            · refine R_iinc cd_82_56 rfl (by unfold qa_InR; first | omega | (simp [qa_upd, qa_blk] <;> omega)) ?_
              refine R_goto cd_82_59 ?_
              first
                | rw [if_pos b27, if_neg b31] at hh
                  exact R_norm (qs_c rfl (qs_c rfl (qs_c rfl (qs_c rfl qs_n)))) ((ih (k + 1) (left - 1) (by omega) (by omega) g3 (by omega) (by omega)).2 hh)
                | rw [if_neg (fun z => z b27)] at hh
                  exact R_norm (qs_c rfl (qs_c rfl (qs_c rfl (qs_c rfl qs_n)))) ((ih (k + 1) left (by omega) (by omega) g3 (by omega) (by omega)).2 hh)
            · refine R_iload cd_82_30 rfl ?_
              refine R_if_ne 53 cd_82_31 rfl (fun b31 => ?_) (fun b31 => ?_)
              · refine R_iinc cd_82_53 rfl (by unfold qa_InR; first | omega | (simp [qa_upd, qa_blk] <;> omega)) ?_
                refine R_iinc cd_82_56 rfl (by unfold qa_InR; first | omega | (simp [qa_upd, qa_blk] <;> omega)) ?_
                refine R_goto cd_82_59 ?_
                first
                  | rw [if_pos b27, if_neg b31] at hh
                    exact R_norm (qs_c rfl (qs_c rfl (qs_c rfl (qs_c rfl qs_n)))) ((ih (k + 1) (left - 1) (by omega) (by omega) g3 (by omega) (by omega)).2 hh)
                  | rw [if_neg (fun z => z b27)] at hh
                    exact R_norm (qs_c rfl (qs_c rfl (qs_c rfl (qs_c rfl qs_n)))) ((ih (k + 1) left (by omega) (by omega) g3 (by omega) (by omega)).2 hh)
              · rw [if_pos b27, if_pos b31] at hh
                exact absurd hh (by omega)
  constructor
  · intro p0 hh
    refine R_iload cd_82_0 rfl ?_
    refine R_istore cd_82_1 ?_
    refine R_push cd_82_2 ?_
    refine R_istore cd_82_3 ?_
    exact R_norm (qs_c rfl (qs_c rfl (qs_c rfl (qs_c rfl qs_n)))) ((lp _ 0 p (by omega) (by omega) p0 p0 (by omega)).1 hh)
  · intro hh
    by_cases p0 : 0 ≤ p
    · refine R_iload cd_82_0 rfl ?_
      refine R_istore cd_82_1 ?_
      refine R_push cd_82_2 ?_
      refine R_istore cd_82_3 ?_
      exact R_norm (qs_c rfl (qs_c rfl (qs_c rfl (qs_c rfl qs_n)))) ((lp _ 0 p (by omega) (by omega) p0 p0 (by omega)).2 (hh.elim (fun z => by omega) id))
    · refine R_iload cd_82_0 rfl ?_
      refine R_istore cd_82_1 ?_
      refine R_push cd_82_2 ?_
      refine R_istore cd_82_3 ?_
      refine R_iload cd_82_4 rfl ?_
      refine R_push cd_82_5 ?_
      refine R_aload cd_82_6 rfl ?_
      refine R_getf cd_82_7 rfl (by decide) ?_
      refine R_imul cd_82_10 (by unfold qa_InR; first | omega | (simp [qa_upd, qa_blk] <;> omega)) ?_
      refine R_push cd_82_11 ?_
      refine R_imul cd_82_13 (by unfold qa_InR; first | omega | (simp [qa_upd, qa_blk] <;> omega)) ?_
      refine R_icmp_ge 62 cd_82_14 rfl (fun b14 => ?_) (fun b14 => ?_)
      · refine R_aload cd_82_62 rfl ?_
        refine R_push cd_82_63 ?_
        refine R_putf cd_82_64 rfl (by decide) ?_
        refine R_push cd_82_67 ?_
        exact R_iret cd_82_68 (by first | rfl | omega) rfl
      · refine R_iload cd_82_17 rfl ?_
        refine R_if_lt 62 cd_82_18 rfl (fun b18 => ?_) (fun b18 => ?_)
        · refine R_aload cd_82_62 rfl ?_
          refine R_push cd_82_63 ?_
          refine R_putf cd_82_64 rfl (by decide) ?_
          refine R_push cd_82_67 ?_
          exact R_iret cd_82_68 (by first | rfl | omega) rfl
        · omega
def qm_hd (P T : Int → Int) : Nat → Int → Int
  | 0, _ => 0
  | n + 1, u => if u = -1 then 0 else T u + qm_hd P T n (P u)
theorem qm_hd_r {P T : Int → Int} (hP : ∀ u : Int, 0 ≤ u → u < 8 → -1 ≤ P u ∧ P u < u) (hT : ∀ u : Int, 0 ≤ u → u < 8 → 0 ≤ T u ∧ T u ≤ 3) (n : Nat) : ∀ u : Int, -1 ≤ u → u < 8 → 0 ≤ qm_hd P T n u ∧ qm_hd P T n u ≤ 3 * n := by
  induction n with
  | zero => intro u _ _; exact ⟨Int.le_refl _, Int.le_refl _⟩
  | succ n ih =>
    intro u h1 h2
    unfold qm_hd
    by_cases hu : u = -1
    · rw [if_pos hu]; omega
    · rw [if_neg hu]
      have a := hP u (by omega) h2
      have b := hT u (by omega) h2
      have c := ih (P u) a.1 (by omega)
      omega
def qm_tree (M : qa_Mem) (f : Int) : Prop := (∀ u : Int, 0 ≤ u → u < 8 → -1 ≤ M 29 u ∧ M 29 u < u) ∧ (∀ u : Int, 0 ≤ u → u < 8 → 0 ≤ qm_v (M 32) (M 33) (M 35) (3 * u + 2) f ∧ qm_v (M 32) (M 33) (M 35) (3 * u + 2) f ≤ 3) ∧ (∀ u : Int, 0 ≤ u → u < 8 → (-200 ≤ qm_v (M 32) (M 33) (M 35) (3 * u + 0) f ∧ qm_v (M 32) (M 33) (M 35) (3 * u + 0) f ≤ 200) ∧ -200 ≤ qm_v (M 32) (M 33) (M 35) (3 * u + 1) f ∧ qm_v (M 32) (M 33) (M 35) (3 * u + 1) f ≤ 200) ∧ (∀ u : Int, 0 ≤ u → u < 8 → (-100 ≤ M 30 u ∧ M 30 u ≤ 100) ∧ -100 ≤ M 31 u ∧ M 31 u ≤ 100)
def qm_T (M : qa_Mem) (f : Int) : Int → Int := fun u => qm_v (M 32) (M 33) (M 35) (3 * u + 2) f
def qm_X (M : qa_Mem) (f : Int) : Int → Int := fun u => M 30 u + qm_v (M 32) (M 33) (M 35) (3 * u + 0) f
def qm_Y (M : qa_Mem) (f : Int) : Int → Int := fun u => M 31 u + qm_v (M 32) (M 33) (M 35) (3 * u + 1) f
theorem K_Model_heading {u f : Int} {M : qa_Mem} (h1 : -1 ≤ u) (h2 : u < 8) (h3 : 0 ≤ f) (h4 : f ≤ 119) (h5 : qv_v (M 33)) (h6 : qm_tree M f) : qa_E 83 0 [(0, qr 6), (1, qi (u)), (2, qi (f))] [] (M) (.inl (some (qi (qm_hd (M 29) (qm_T M f) 8 u % 4)))) (M) := by
  obtain ⟨t1, t2, t3, t4⟩ := h6
  have lp : ∀ (n : Nat) (k acc z : Int), -1 ≤ k → k < 8 → k < n → n ≤ 8 → 0 ≤ acc → acc ≤ 24 - 3 * (n : Int) → z = acc + qm_hd (M 29) (qm_T M f) n k → qa_E 83 5 [(0, qr 6), (1, qi u), (2, qi f), (3, qi acc), (4, qi k)] [] M (.inl (some (qi (z % 4)))) M := by
    intro n
    induction n with
    | zero =>
      intro k acc z g1 g2 g3 g4 g5 g6 g7
      obtain rfl : k = -1 := by omega
      have : z = acc := by rw [g7]; exact Int.add_zero acc
      subst this
      refine R_iload cd_83_5 rfl ?_
      refine R_push cd_83_7 ?_
      refine R_icmp_eq 34 cd_83_8 rfl (fun b8 => ?_) (fun b8 => ?_)
      · refine R_iload cd_83_34 rfl ?_
        refine R_push cd_83_35 ?_
        refine R_irem cd_83_36 (by decide) ?_
        exact R_iret cd_83_37 (Int.tmod_eq_emod_of_nonneg g5) rfl
      · exact absurd rfl b8
    | succ n ih =>
      intro k acc z g1 g2 g3 g4 g5 g6 g7
      unfold qm_hd at g7
      by_cases hk : k = -1
      · rw [if_pos hk, Int.add_zero] at g7
        subst g7
        refine R_iload cd_83_5 rfl ?_
        refine R_push cd_83_7 ?_
        refine R_icmp_eq 34 cd_83_8 rfl (fun b8 => ?_) (fun b8 => ?_)
        · refine R_iload cd_83_34 rfl ?_
          refine R_push cd_83_35 ?_
          refine R_irem cd_83_36 (by decide) ?_
          exact R_iret cd_83_37 (Int.tmod_eq_emod_of_nonneg g5) rfl
        · exact absurd hk b8
      · rw [if_neg hk] at g7
        have a := t1 k (by omega) g2
        have b := t2 k (by omega) g2
        have hr := qm_hd_r (P := M 29) (T := qm_T M f) t1 t2 n (M 29 k) a.1 (by omega)
        have kv := K_Model_valueAt (b := k) (c := 2) (f := f) (t := 3 * k + 2) (M := M) (by omega) g2 (by omega) (by omega) rfl h3 h4 h5
        have e := ih (M 29 k) (acc + qm_v (M 32) (M 33) (M 35) (3 * k + 2) f) z a.1 (by omega) (by omega) (by omega) (by omega) (by omega) (by rw [g7]; unfold qm_T; omega)
        refine R_iload cd_83_5 rfl ?_
        refine R_push cd_83_7 ?_
        refine R_icmp_eq 34 cd_83_8 rfl (fun b8 => ?_) (fun b8 => ?_)
        · exact absurd b8 hk
        · refine R_iload cd_83_11 rfl ?_
          refine R_aload cd_83_12 rfl ?_
          refine R_iload cd_83_13 rfl ?_
          refine R_push cd_83_15 ?_
          refine R_iload cd_83_16 rfl ?_
          refine R_call4 cd_83_17 rfl rfl kv ?_
          refine R_iadd cd_83_20 (by unfold qa_InR; first | omega | (simp [qa_upd, qa_blk] <;> omega)) ?_
          refine R_istore cd_83_21 ?_
          refine R_aload cd_83_22 rfl ?_
          refine R_getr cd_83_23 rfl ?_
          refine R_iload cd_83_26 rfl ?_
          refine R_iald cd_83_28 rfl (by first | omega | (simp [qa_upd, qa_blk] <;> omega)) (by first | omega | (simp [qa_upd, qa_blk] <;> omega)) ?_
          refine R_istore cd_83_29 ?_
          refine R_goto cd_83_31 ?_
          exact R_norm (qs_c rfl (qs_c rfl (qs_c rfl (qs_c rfl (qs_c rfl qs_n))))) e
  refine R_push cd_83_0 ?_
  refine R_istore cd_83_1 ?_
  refine R_iload cd_83_2 rfl ?_
  refine R_istore cd_83_3 ?_
  exact R_norm (qs_c rfl (qs_c rfl (qs_c rfl (qs_c rfl (qs_c rfl qs_n))))) (lp 8 u 0 _ h1 h2 h2 (by omega) (by omega) (by omega) (by omega))
theorem qm_xy {M : qa_Mem} : qa_upd (qa_upd M 6 24 (M 6 24)) 6 25 (M 6 25) = M := by
  funext c j
  unfold qa_upd
  by_cases h : c = 6 ∧ j = 25
  · rw [if_pos h, h.1, h.2]
  · rw [if_neg h]
    by_cases h' : c = 6 ∧ j = 24
    · rw [if_pos h', h'.1, h'.2]
    · rw [if_neg h']
theorem qm_xy2 {M : qa_Mem} {a b c d : Int} : qa_upd (qa_upd (qa_upd (qa_upd M 6 24 a) 6 25 b) 6 24 c) 6 25 d = qa_upd (qa_upd M 6 24 c) 6 25 d := by
  funext k j
  unfold qa_upd
  by_cases h : k = 6 ∧ j = 25
  · rw [if_pos h, if_pos h]
  · rw [if_neg h, if_neg h, if_neg h]
    by_cases h' : k = 6 ∧ j = 24
    · rw [if_pos h', if_pos h']
    · rw [if_neg h', if_neg h', if_neg h']
theorem K_Model_turns {q x y : Int} {M : qa_Mem} (h1 : 0 ≤ q) (h2 : q ≤ 3) (h3 : M 6 24 = x) (h4 : M 6 25 = y) (h5 : -1000 ≤ x ∧ x ≤ 1000) (h6 : -1000 ≤ y ∧ y ≤ 1000) : qa_E 84 0 [(0, qr 6), (1, qi (q))] [] (M) (.inl none) (qa_upd (qa_upd M 6 24 (qg_rot q.toNat (x, y)).1) 6 25 (qg_rot q.toNat (x, y)).2) := by
  obtain ⟨R, hR⟩ : ∃ z, z = qg_rot q.toNat (x, y) := ⟨_, rfl⟩
  rw [← hR]
  have lp : ∀ (n : Nat) (k a b : Int), k + n = q → 0 ≤ k → -1000 ≤ a → a ≤ 1000 → -1000 ≤ b → b ≤ 1000 → R = qg_rot n (a, b) → qa_E 84 2 [(0, qr 6), (1, qi q), (2, qi k)] [] (qa_upd (qa_upd M 6 24 a) 6 25 b) (.inl none) (qa_upd (qa_upd M 6 24 R.1) 6 25 R.2) := by
    intro n
    induction n with
    | zero =>
      intro k a b g1 g2 g3 g4 g5 g6 g7
      unfold qg_rot at g7
      rw [g7]
      refine R_iload cd_84_2 rfl ?_
      refine R_iload cd_84_3 rfl ?_
      refine R_icmp_ge 32 cd_84_4 rfl (fun b4 => ?_) (fun b4 => ?_)
      · exact R_vret cd_84_32 rfl
      · omega
    | succ n ih =>
      intro k a b g1 g2 g3 g4 g5 g6 g7
      unfold qg_rot at g7
      have e := ih (k + 1) (-b) a (by omega) (by omega) (by omega) (by omega) g3 g4 g7
      rw [← qm_xy2 (a := a) (b := b)] at e
      refine R_iload cd_84_2 rfl ?_
      refine R_iload cd_84_3 rfl ?_
      refine R_icmp_ge 32 cd_84_4 rfl (fun b4 => ?_) (fun b4 => ?_)
      · omega
      · refine R_aload cd_84_7 rfl ?_
        refine R_getf cd_84_8 rfl (by decide) ?_
        refine R_istore cd_84_11 ?_
        refine R_aload cd_84_12 rfl ?_
        refine R_aload cd_84_13 rfl ?_
        refine R_getf cd_84_14 rfl (by decide) ?_
        refine R_ineg cd_84_17 (show qa_InR (-b) by unfold qa_InR; omega) ?_
        refine R_putf cd_84_18 rfl (by decide) ?_
        refine R_aload cd_84_21 rfl ?_
        refine R_iload cd_84_22 rfl ?_
        refine R_putf cd_84_23 rfl (by decide) ?_
        refine R_iinc cd_84_26 rfl (by unfold qa_InR; first | omega | (simp [qa_upd, qa_blk] <;> omega)) ?_
        refine R_goto cd_84_29 ?_
        exact R_norm (qs_c rfl (qs_c rfl (qs_c rfl qs_n))) e
  have e := lp q.toNat 0 x y (by omega) (by omega) h5.1 h5.2 h6.1 h6.2 hR
  rw [← h3, ← h4, qm_xy] at e
  refine R_push cd_84_0 ?_
  refine R_istore cd_84_1 ?_
  exact R_norm (qs_c rfl (qs_c rfl (qs_c rfl qs_n))) e
/-- the place as the reference adds it up, from the bone u upwards -/
def qm_q (P T : Int → Int) (u : Int) : Int := if P u = -1 then 0 else qm_hd P T 8 (P u) % 4
def qm_pl (P T X Y : Int → Int) : Nat → Int → Int × Int
  | 0, _ => (0, 0)
  | n + 1, u => if u = -1 then (0, 0) else ((qg_rot (qm_q P T u).toNat (X u, Y u)).1 + (qm_pl P T X Y n (P u)).1, (qg_rot (qm_q P T u).toNat (X u, Y u)).2 + (qm_pl P T X Y n (P u)).2)
theorem K_Model_placeX1 {b f : Int} {M : qa_Mem} (h1 : 0 ≤ M 6 0) (h2 : M 6 0 ≤ 8) (h3 : ¬ ((0 ≤ b ∧ b ≤ M 6 0 - 1) ∧ 0 ≤ f ∧ f ≤ 119)) : qa_E 85 0 [(0, qr 6), (1, qi (b)), (2, qi (f))] [] (M) (.inl (some (qi (0)))) (qa_upd M 6 26 1) := by
  refine R_aload cd_85_0 rfl ?_
  refine R_aload cd_85_1 rfl ?_
  refine R_iload cd_85_2 rfl ?_
  refine R_call2 cd_85_3 rfl rfl (K_Model_isBone (by omega) (by omega)) ?_
  refine R_ifeq_b 20 cd_85_6 rfl (fun b6 => ?_) (fun b6 => ?_)
  · refine R_push cd_85_20 ?_
    refine R_call2 cd_85_21 rfl rfl K_Model_fails ?_
    refine R_ifeq_b 29 cd_85_24 rfl (fun h => absurd h (by decide)) (fun _ => ?_)
    refine R_push cd_85_27 ?_
    exact R_iret cd_85_28 (by first | rfl | omega) rfl
  · refine R_iload cd_85_9 rfl ?_
    refine R_call1 cd_85_10 rfl rfl K_Model_isFrame ?_
    refine R_ifeq_b 20 cd_85_13 rfl (fun b13 => ?_) (fun b13 => ?_)
    · refine R_push cd_85_20 ?_
      refine R_call2 cd_85_21 rfl rfl K_Model_fails ?_
      refine R_ifeq_b 29 cd_85_24 rfl (fun h => absurd h (by decide)) (fun _ => ?_)
      refine R_push cd_85_27 ?_
      exact R_iret cd_85_28 (by first | rfl | omega) rfl
    · refine R_push cd_85_16 ?_
      refine R_goto cd_85_17 ?_
      exfalso
      omega
theorem K_Model_place0 {b f : Int} {M : qa_Mem} (hw : qm_wf M) (h3 : (0 ≤ b ∧ b ≤ M 6 0 - 1) ∧ 0 ≤ f ∧ f ≤ 119) (h6 : qm_tree M f) : ∃ ax ay : Int, qa_E 85 0 [(0, qr 6), (1, qi (b)), (2, qi (f))] [] (M) (.inl (some (qi (10000 * ((qm_pl (M 29) (qm_T M f) (qm_X M f) (qm_Y M f) 8 b).1 + 5000) + (qm_pl (M 29) (qm_T M f) (qm_X M f) (qm_Y M f) 8 b).2 + 5000)))) (qa_upd (qa_upd (qa_upd M 6 26 0) 6 24 ax) 6 25 ay) := by
  have h1 := hw.1.1
  have h2 := hw.1.2
  obtain ⟨t1, t2, t3, t4⟩ := id h6
  obtain ⟨R, hR⟩ : ∃ x, x = qm_pl (M 29) (qm_T M f) (qm_X M f) (qm_Y M f) 8 b := ⟨_, rfl⟩
  rw [← hR]
  have lp : ∀ (n : Nat) (k x y u v : Int), -1 ≤ k → k < 8 → k < n → n ≤ 8 → (-300 * (8 - n) ≤ x ∧ x ≤ 300 * (8 - n)) → (-300 * (8 - n) ≤ y ∧ y ≤ 300 * (8 - n)) → R = (x + (qm_pl (M 29) (qm_T M f) (qm_X M f) (qm_Y M f) n k).1, y + (qm_pl (M 29) (qm_T M f) (qm_X M f) (qm_Y M f) n k).2) → ∃ ax ay : Int, qa_E 85 37 [(0, qr 6), (1, qi b), (2, qi f), (3, qi x), (4, qi y), (5, qi k)] [] (qa_upd (qa_upd (qa_upd M 6 26 0) 6 24 u) 6 25 v) (.inl (some (qi (10000 * (R.1 + 5000) + R.2 + 5000)))) (qa_upd (qa_upd (qa_upd M 6 26 0) 6 24 ax) 6 25 ay) := by
    intro n
    induction n with
    | zero =>
      intro k x y u v g1 g2 g3 g4 g5 g6 g7
      obtain rfl : k = -1 := by omega
      unfold qm_pl at g7
      rw [Int.add_zero, Int.add_zero] at g7
      refine ⟨u, v, ?_⟩
      rw [g7]
      refine R_iload cd_85_37 rfl ?_
      refine R_push cd_85_39 ?_
      refine R_icmp_eq 142 cd_85_40 rfl (fun b40 => ?_) (fun b40 => ?_)
      · refine R_push cd_85_142 ?_
        refine R_iload cd_85_145 rfl ?_
        refine R_push cd_85_146 ?_
        refine R_iadd cd_85_149 (by unfold qa_InR; first | omega | (simp [qa_upd, qa_blk] <;> omega)) ?_
        refine R_imul cd_85_150 (by unfold qa_InR; first | omega | (simp [qa_upd, qa_blk] <;> omega)) ?_
        refine R_iload cd_85_151 rfl ?_
        refine R_iadd cd_85_153 (by unfold qa_InR; first | omega | (simp [qa_upd, qa_blk] <;> omega)) ?_
        refine R_push cd_85_154 ?_
        refine R_iadd cd_85_157 (by unfold qa_InR; first | omega | (simp [qa_upd, qa_blk] <;> omega)) ?_
        exact R_iret cd_85_158 (by first | rfl | omega) rfl
      · exact absurd rfl b40
    | succ n ih =>
      intro k x y u v g1 g2 g3 g4 g5 g6 g7
      by_cases hk : k = -1
      · unfold qm_pl at g7
        rw [if_pos hk, Int.add_zero, Int.add_zero] at g7
        refine ⟨u, v, ?_⟩
        rw [g7]
        refine R_iload cd_85_37 rfl ?_
        refine R_push cd_85_39 ?_
        refine R_icmp_eq 142 cd_85_40 rfl (fun b40 => ?_) (fun b40 => ?_)
        · refine R_push cd_85_142 ?_
          refine R_iload cd_85_145 rfl ?_
          refine R_push cd_85_146 ?_
          refine R_iadd cd_85_149 (by unfold qa_InR; first | omega | (simp [qa_upd, qa_blk] <;> omega)) ?_
          refine R_imul cd_85_150 (by unfold qa_InR; first | omega | (simp [qa_upd, qa_blk] <;> omega)) ?_
          refine R_iload cd_85_151 rfl ?_
          refine R_iadd cd_85_153 (by unfold qa_InR; first | omega | (simp [qa_upd, qa_blk] <;> omega)) ?_
          refine R_push cd_85_154 ?_
          refine R_iadd cd_85_157 (by unfold qa_InR; first | omega | (simp [qa_upd, qa_blk] <;> omega)) ?_
          exact R_iret cd_85_158 (by first | rfl | omega) rfl
        · exact absurd hk b40
      · unfold qm_pl at g7
        rw [if_neg hk] at g7
        have a := t1 k (by omega) g2
        have c3 := t3 k (by omega) g2
        have c4 := t4 k (by omega) g2
        obtain ⟨X, hX⟩ : ∃ X, X = qm_X M f k := ⟨_, rfl⟩
        obtain ⟨Y, hY⟩ : ∃ Y, Y = qm_Y M f k := ⟨_, rfl⟩
        obtain ⟨Q, hQ⟩ : ∃ Q, Q = qm_q (M 29) (qm_T M f) k := ⟨_, rfl⟩
        rw [← hX, ← hY, ← hQ] at g7
        have bX : -300 ≤ X ∧ X ≤ 300 := by rw [hX]; unfold qm_X; omega
        have bY : -300 ≤ Y ∧ Y ≤ 300 := by rw [hY]; unfold qm_Y; omega
        have bQ : 0 ≤ Q ∧ Q ≤ 3 := by rw [hQ]; unfold qm_q; split <;> omega
        have br := qg_rot_b (B := 300) Q.toNat (X, Y) bX.1 bX.2 bY.1 bY.2
        dsimp only at g7
        obtain ⟨ax, ay, e⟩ := ih (M 29 k) (x + (qg_rot Q.toNat (X, Y)).1) (y + (qg_rot Q.toNat (X, Y)).2) (qg_rot Q.toNat (X, Y)).1 (qg_rot Q.toNat (X, Y)).2 a.1 (by omega) (by omega) (by omega) (by omega) (by omega) (by rw [g7]; congr 1 <;> omega)
        refine ⟨ax, ay, ?_⟩
        have kx := K_Model_valueAt (b := k) (c := 0) (f := f) (t := 3 * k + 0) (M := qa_upd (qa_upd (qa_upd M 6 26 0) 6 24 u) 6 25 v) (by omega) g2 (by omega) (by omega) rfl h3.2.1 h3.2.2 hw.2
        have ky := K_Model_valueAt (b := k) (c := 1) (f := f) (t := 3 * k + 1) (M := qa_upd (qa_upd (qa_upd (qa_upd M 6 26 0) 6 24 u) 6 25 v) 6 24 (qm_X M f k)) (by omega) g2 (by omega) (by omega) rfl h3.2.1 h3.2.2 hw.2
        have kh := K_Model_heading (u := M 29 k) (f := f) (M := qa_upd (qa_upd (qa_upd (qa_upd (qa_upd M 6 26 0) 6 24 u) 6 25 v) 6 24 (qm_X M f k)) 6 25 (qm_Y M f k)) a.1 (by omega) h3.2.1 h3.2.2 hw.2 h6
        have kt := K_Model_turns (q := Q) (x := qm_X M f k) (y := qm_Y M f k) (M := qa_upd (qa_upd (qa_upd (qa_upd (qa_upd M 6 26 0) 6 24 u) 6 25 v) 6 24 (qm_X M f k)) 6 25 (qm_Y M f k)) bQ.1 bQ.2 rfl rfl (by rw [← hX]; omega) (by rw [← hY]; omega)
        rw [hX, hY] at e br
        have em : qa_upd (qa_upd (qa_upd (qa_upd (qa_upd (qa_upd (qa_upd M 6 26 0) 6 24 u) 6 25 v) 6 24 (qm_X M f k)) 6 25 (qm_Y M f k)) 6 24 (qg_rot Q.toNat (qm_X M f k, qm_Y M f k)).1) 6 25 (qg_rot Q.toNat (qm_X M f k, qm_Y M f k)).2 = qa_upd (qa_upd (qa_upd M 6 26 0) 6 24 (qg_rot Q.toNat (qm_X M f k, qm_Y M f k)).1) 6 25 (qg_rot Q.toNat (qm_X M f k, qm_Y M f k)).2 := by rw [qm_xy2, qm_xy2]
        rw [← em] at e
        have tail : qa_E 85 114 [(0, qr 6), (1, qi b), (2, qi f), (3, qi x), (4, qi y), (5, qi k)] [] (qa_upd (qa_upd (qa_upd (qa_upd (qa_upd (qa_upd (qa_upd M 6 26 0) 6 24 u) 6 25 v) 6 24 (qm_X M f k)) 6 25 (qm_Y M f k)) 6 24 (qg_rot Q.toNat (qm_X M f k, qm_Y M f k)).1) 6 25 (qg_rot Q.toNat (qm_X M f k, qm_Y M f k)).2) (.inl (some (qi (10000 * (R.1 + 5000) + R.2 + 5000)))) (qa_upd (qa_upd (qa_upd M 6 26 0) 6 24 ax) 6 25 ay) := by
          refine R_iload cd_85_114 rfl ?_
          refine R_aload cd_85_115 rfl ?_
          refine R_getf cd_85_116 rfl (by decide) ?_
          refine R_iadd cd_85_119 (show qa_InR (x + (qg_rot Q.toNat (qm_X M f k, qm_Y M f k)).1) by unfold qa_InR; omega) ?_
          refine R_istore cd_85_120 ?_
          refine R_iload cd_85_121 rfl ?_
          refine R_aload cd_85_123 rfl ?_
          refine R_getf cd_85_124 rfl (by decide) ?_
          refine R_iadd cd_85_127 (show qa_InR (y + (qg_rot Q.toNat (qm_X M f k, qm_Y M f k)).2) by unfold qa_InR; omega) ?_
          refine R_istore cd_85_128 ?_
          refine R_aload cd_85_130 rfl ?_
          refine R_getr cd_85_131 rfl ?_
          refine R_iload cd_85_134 rfl ?_
          refine R_iald cd_85_136 rfl (by first | omega | (simp [qa_upd, qa_blk] <;> omega)) (by first | omega | (simp [qa_upd, qa_blk] <;> omega)) ?_
          refine R_istore cd_85_137 ?_
          refine R_goto cd_85_139 ?_
          exact R_norm (qs_c rfl (qs_c rfl (qs_c rfl (qs_c rfl (qs_c rfl (qs_c rfl qs_n)))))) e
        have main : ∀ w : Int, w = Q → qa_E 85 111 [(0, qr 6), (1, qi b), (2, qi f), (3, qi x), (4, qi y), (5, qi k)] [qi w, qr 6] (qa_upd (qa_upd (qa_upd (qa_upd (qa_upd M 6 26 0) 6 24 u) 6 25 v) 6 24 (qm_X M f k)) 6 25 (qm_Y M f k)) (.inl (some (qi (10000 * (R.1 + 5000) + R.2 + 5000)))) (qa_upd (qa_upd (qa_upd M 6 26 0) 6 24 ax) 6 25 ay) := by
          intro w hwq
          subst hwq
          refine R_callv2 cd_85_111 rfl rfl kt ?_
          exact R_norm (qs_c rfl (qs_c rfl (qs_c rfl (qs_c rfl (qs_c rfl (qs_c rfl qs_n)))))) tail
        have eX : qa_InR (qm_X M f k) := by rw [← hX]; unfold qa_InR; omega
        have eY : qa_InR (qm_Y M f k) := by rw [← hY]; unfold qa_InR; omega
        refine R_iload cd_85_37 rfl ?_
        refine R_push cd_85_39 ?_
        refine R_icmp_eq 142 cd_85_40 rfl (fun b40 => ?_) (fun b40 => ?_)
        · exact absurd b40 hk
        · refine R_aload cd_85_43 rfl ?_
          refine R_aload cd_85_44 rfl ?_
          refine R_getr cd_85_45 rfl ?_
          refine R_iload cd_85_48 rfl ?_
          refine R_iald cd_85_50 rfl (by first | omega | (simp [qa_upd, qa_blk] <;> omega)) (by first | omega | (simp [qa_upd, qa_blk] <;> omega)) ?_
          refine R_aload cd_85_51 rfl ?_
          refine R_iload cd_85_52 rfl ?_
          refine R_push cd_85_54 ?_
          refine R_iload cd_85_55 rfl ?_
          refine R_call4 cd_85_56 rfl rfl kx ?_
          refine R_iadd cd_85_59 eX ?_
          refine R_putf cd_85_60 rfl (by decide) ?_
          refine R_aload cd_85_63 rfl ?_
          refine R_aload cd_85_64 rfl ?_
          refine R_getr cd_85_65 rfl ?_
          refine R_iload cd_85_68 rfl ?_
          refine R_iald cd_85_70 rfl (by first | omega | (simp [qa_upd, qa_blk] <;> omega)) (by first | omega | (simp [qa_upd, qa_blk] <;> omega)) ?_
          refine R_aload cd_85_71 rfl ?_
          refine R_iload cd_85_72 rfl ?_
          refine R_push cd_85_74 ?_
          refine R_iload cd_85_75 rfl ?_
          refine R_call4 cd_85_76 rfl rfl ky ?_
          refine R_iadd cd_85_79 eY ?_
          refine R_putf cd_85_80 rfl (by decide) ?_
          refine R_aload cd_85_83 rfl ?_
          refine R_aload cd_85_84 rfl ?_
          refine R_getr cd_85_85 rfl ?_
          refine R_iload cd_85_88 rfl ?_
          refine R_iald cd_85_90 rfl (by first | omega | (simp [qa_upd, qa_blk] <;> omega)) (by first | omega | (simp [qa_upd, qa_blk] <;> omega)) ?_
          refine R_push cd_85_91 ?_
          refine R_icmp_ne 99 cd_85_92 rfl (fun b92 => ?_) (fun b92 => ?_)
          · refine R_aload cd_85_99 rfl ?_
            refine R_aload cd_85_100 rfl ?_
            refine R_getr cd_85_101 rfl ?_
            refine R_iload cd_85_104 rfl ?_
            refine R_iald cd_85_106 rfl (by first | omega | (simp [qa_upd, qa_blk] <;> omega)) (by first | omega | (simp [qa_upd, qa_blk] <;> omega)) ?_
            refine R_iload cd_85_107 rfl ?_
            refine R_call3 cd_85_108 rfl rfl kh ?_
            first
              | exact R_norm (qs_c rfl (qs_c rfl (qs_c rfl (qs_c rfl (qs_c rfl (qs_c rfl qs_n)))))) (main 0 (by rw [hQ]; unfold qm_q; rw [if_pos (show M 29 k = -1 from b92)]))
              | exact R_norm (qs_c rfl (qs_c rfl (qs_c rfl (qs_c rfl (qs_c rfl (qs_c rfl qs_n)))))) (main _ (by rw [hQ]; unfold qm_q; rw [if_neg (show ¬ M 29 k = -1 from b92)]; rfl))
          · refine R_push cd_85_95 ?_
            refine R_goto cd_85_96 ?_
            first
              | exact R_norm (qs_c rfl (qs_c rfl (qs_c rfl (qs_c rfl (qs_c rfl (qs_c rfl qs_n)))))) (main 0 (by rw [hQ]; unfold qm_q; rw [if_pos (show M 29 k = -1 from b92)]))
              | exact R_norm (qs_c rfl (qs_c rfl (qs_c rfl (qs_c rfl (qs_c rfl (qs_c rfl qs_n)))))) (main _ (by rw [hQ]; unfold qm_q; rw [if_neg (show ¬ M 29 k = -1 from b92)]; rfl))
  have e0 := lp 8 b 0 0 (M 6 24) (M 6 25) (by omega) (by omega) (by omega) (by omega) (by omega) (by omega) (by rw [hR, Int.zero_add, Int.zero_add])
  obtain ⟨ax, ay, e⟩ := e0
  refine ⟨ax, ay, ?_⟩
  rw [show M 6 24 = (qa_upd M 6 26 0) 6 24 from rfl, show M 6 25 = (qa_upd M 6 26 0) 6 25 from rfl, qm_xy] at e
  refine R_aload cd_85_0 rfl ?_
  refine R_aload cd_85_1 rfl ?_
  refine R_iload cd_85_2 rfl ?_
  refine R_call2 cd_85_3 rfl rfl (K_Model_isBone (by omega) (by omega)) ?_
  refine R_ifeq_b 20 cd_85_6 rfl (fun b6 => ?_) (fun b6 => ?_)
  · refine R_push cd_85_20 ?_
    exfalso
    omega
  · refine R_iload cd_85_9 rfl ?_
    refine R_call1 cd_85_10 rfl rfl K_Model_isFrame ?_
    refine R_ifeq_b 20 cd_85_13 rfl (fun b13 => ?_) (fun b13 => ?_)
    · refine R_push cd_85_20 ?_
      exfalso
      omega
    · refine R_push cd_85_16 ?_
      refine R_goto cd_85_17 ?_
      refine R_call2 cd_85_21 rfl rfl K_Model_fails ?_
      refine R_ifeq_b 29 cd_85_24 rfl (fun _ => ?_) (fun h => absurd h (by decide))
      refine R_push cd_85_29 ?_
      refine R_istore cd_85_30 ?_
      refine R_push cd_85_31 ?_
      refine R_istore cd_85_32 ?_
      refine R_iload cd_85_34 rfl ?_
      refine R_istore cd_85_35 ?_
      exact R_norm (qs_c rfl (qs_c rfl (qs_c rfl (qs_c rfl (qs_c rfl (qs_c rfl qs_n)))))) e
