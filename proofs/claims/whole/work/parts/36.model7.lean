/-! the reference: hours, royalties -/
theorem K_Model_cools {m : Int} {M : qa_Mem} (h1 : 0 ≤ m) (h2 : m < 4) (h3 : 0 ≤ M 42 m ∧ M 42 m ≤ 100) : qa_E 101 0 [(0, qr 6), (1, qi (m))] [] (M) (.inl none) (qa_upd M 42 m (qf_cool (M 42 m))) := by
  unfold qf_cool
  refine R_aload cd_101_0 rfl ?_
  refine R_getr cd_101_1 rfl ?_
  refine R_iload cd_101_4 rfl ?_
  refine R_aload cd_101_5 rfl ?_
  refine R_getr cd_101_6 rfl ?_
  refine R_iload cd_101_9 rfl ?_
  refine R_iald cd_101_10 rfl (by first | omega | (simp [qa_upd, qa_blk] <;> omega)) (by first | omega | (simp [qa_upd, qa_blk] <;> omega)) ?_
  refine R_push cd_101_11 ?_
  refine R_icmp_le 26 cd_101_12 rfl (fun b12 => ?_) (fun b12 => ?_)
  · rw [if_neg (by omega)]
    refine R_push cd_101_26 ?_
    refine R_iast cd_101_27 rfl (by first | omega | (simp [qa_upd, qa_blk] <;> omega)) (by first | omega | (simp [qa_upd, qa_blk] <;> omega))  ?_
    exact R_vret cd_101_28 rfl
  · rw [if_pos b12]
    refine R_aload cd_101_15 rfl ?_
    refine R_getr cd_101_16 rfl ?_
    refine R_iload cd_101_19 rfl ?_
    refine R_iald cd_101_20 rfl (by first | omega | (simp [qa_upd, qa_blk] <;> omega)) (by first | omega | (simp [qa_upd, qa_blk] <;> omega)) ?_
    refine R_push cd_101_21 ?_
    refine R_isub cd_101_22 (by unfold qa_InR; first | omega | (simp [qa_upd, qa_blk] <;> omega)) ?_
    refine R_goto cd_101_23 ?_
    refine R_iast cd_101_27 rfl (by first | omega | (simp [qa_upd, qa_blk] <;> omega)) (by first | omega | (simp [qa_upd, qa_blk] <;> omega))  ?_
    exact R_vret cd_101_28 rfl
theorem K_Model_dearest {M : qa_Mem} (h1 : 0 ≤ M 6 19) (h2 : M 6 19 ≤ 10) : qa_E 100 0 [(0, qr 6)] [] (M) (.inl (some (qi (qf_best (M 45) (M 44) (M 6 19).toNat)))) (M) := by
  have lp : ∀ (k : Nat) (j : Nat), j + k = (M 6 19).toNat → qa_E 100 4 [(0, qr 6), (1, qi (qf_best (M 45) (M 44) j)), (2, qi j)] [] M (.inl (some (qi (qf_best (M 45) (M 44) (M 6 19).toNat)))) M := by
    intro k
    induction k with
    | zero =>
      intro j g1
      refine R_iload cd_100_4 rfl ?_
      refine R_aload cd_100_5 rfl ?_
      refine R_getf cd_100_6 rfl (by decide) ?_
      refine R_icmp_ge 53 cd_100_9 rfl (fun b9 => ?_) (fun b9 => ?_)
      · refine R_iload cd_100_53 rfl ?_
        exact R_iret cd_100_54 (by rw [← g1]; rfl) rfl
      · omega
    | succ k ih =>
      intro j g1
      have e := ih (j + 1) (by omega)
      rw [Int.natCast_add, show qf_best (M 45) (M 44) (j + 1) = if 0 < M 45 j ∧ (qf_best (M 45) (M 44) j < 0 ∨ M 44 (qf_best (M 45) (M 44) j) < M 44 j) then (j : Int) else qf_best (M 45) (M 44) j from rfl] at e
      have r1 := qf_best_r (M 45) (M 44) j
      refine R_iload cd_100_4 rfl ?_
      refine R_aload cd_100_5 rfl ?_
      refine R_getf cd_100_6 rfl (by decide) ?_
      refine R_icmp_ge 53 cd_100_9 rfl (fun b9 => ?_) (fun b9 => ?_)
      · omega
      · refine R_aload cd_100_12 rfl ?_
        refine R_getr cd_100_13 rfl ?_
        refine R_iload cd_100_16 rfl ?_
        refine R_iald cd_100_17 rfl (by first | omega | (simp [qa_upd, qa_blk] <;> omega)) (by first | omega | (simp [qa_upd, qa_blk] <;> omega)) ?_
        refine R_if_le 45 cd_100_18 rfl (fun b18 => ?_) (fun b18 => ?_)
        · refine R_iload cd_100_45 rfl ?_
          refine R_istore cd_100_46 ?_
          refine R_iinc cd_100_47 rfl (by unfold qa_InR; first | omega | (simp [qa_upd, qa_blk] <;> omega)) ?_
          refine R_goto cd_100_50 ?_
          first
            | rw [if_pos (by omega)] at e
              exact R_norm (qs_c rfl (qs_c rfl (qs_c rfl qs_n))) e
            | rw [if_neg (by omega)] at e
              exact R_norm (qs_c rfl (qs_c rfl (qs_c rfl qs_n))) e
        · refine R_iload cd_100_21 rfl ?_
          refine R_push cd_100_22 ?_
          refine R_icmp_eq 41 cd_100_23 rfl (fun b23 => ?_) (fun b23 => ?_)
          · refine R_iload cd_100_41 rfl ?_
            refine R_goto cd_100_42 ?_
            refine R_istore cd_100_46 ?_
            refine R_iinc cd_100_47 rfl (by unfold qa_InR; first | omega | (simp [qa_upd, qa_blk] <;> omega)) ?_
            refine R_goto cd_100_50 ?_
            first
              | rw [if_pos (by omega)] at e
                exact R_norm (qs_c rfl (qs_c rfl (qs_c rfl qs_n))) e
              | rw [if_neg (by omega)] at e
                exact R_norm (qs_c rfl (qs_c rfl (qs_c rfl qs_n))) e
          · refine R_aload cd_100_26 rfl ?_
            refine R_getr cd_100_27 rfl ?_
            refine R_iload cd_100_30 rfl ?_
            refine R_iald cd_100_31 rfl (by first | omega | (simp [qa_upd, qa_blk] <;> omega)) (by first | omega | (simp [qa_upd, qa_blk] <;> omega)) ?_
            refine R_aload cd_100_32 rfl ?_
            refine R_getr cd_100_33 rfl ?_
            refine R_iload cd_100_36 rfl ?_
            refine R_iald cd_100_37 rfl (by first | omega | (simp [qa_upd, qa_blk] <;> omega)) (by first | omega | (simp [qa_upd, qa_blk] <;> omega)) ?_
            refine R_icmp_le 45 cd_100_38 rfl (fun b38 => ?_) (fun b38 => ?_)
            · refine R_iload cd_100_45 rfl ?_
              refine R_istore cd_100_46 ?_
              refine R_iinc cd_100_47 rfl (by unfold qa_InR; first | omega | (simp [qa_upd, qa_blk] <;> omega)) ?_
              refine R_goto cd_100_50 ?_
              first
                | rw [if_pos (by omega)] at e
                  exact R_norm (qs_c rfl (qs_c rfl (qs_c rfl qs_n))) e
                | rw [if_neg (by omega)] at e
                  exact R_norm (qs_c rfl (qs_c rfl (qs_c rfl qs_n))) e
            · refine R_iload cd_100_41 rfl ?_
              refine R_goto cd_100_42 ?_
              refine R_istore cd_100_46 ?_
              refine R_iinc cd_100_47 rfl (by unfold qa_InR; first | omega | (simp [qa_upd, qa_blk] <;> omega)) ?_
              refine R_goto cd_100_50 ?_
              first
                | rw [if_pos (by omega)] at e
                  exact R_norm (qs_c rfl (qs_c rfl (qs_c rfl qs_n))) e
                | rw [if_neg (by omega)] at e
                  exact R_norm (qs_c rfl (qs_c rfl (qs_c rfl qs_n))) e
  refine R_push cd_100_0 ?_
  refine R_istore cd_100_1 ?_
  refine R_push cd_100_2 ?_
  refine R_istore cd_100_3 ?_
  exact R_norm (qs_c rfl (qs_c rfl (qs_c rfl qs_n))) (lp _ 0 (Nat.zero_add _))
def qm_rend (M : qa_Mem) (f : Int) : qa_Mem := qa_blk (qa_upd (qa_upd M 38 f 1) 39 f (M 6 0)) 40 (fun j => if j / 24 = f ∧ 0 ≤ j ∧ j % 24 < 3 * M 6 0 then qm_v (M 32) (M 33) (M 35) (j % 24) f else M 40 j)
theorem K_Model_renders {f : Int} {M : qa_Mem} (hw : qm_wf M) (h3 : 0 ≤ f) (h4 : f ≤ 119) : qa_E 99 0 [(0, qr 6), (1, qi (f))] [] (M) (.inl none) (qm_rend M f) := by
  obtain ⟨⟨h1, h2⟩, h5⟩ := hw
  obtain ⟨N, hN⟩ : ∃ N, N = qa_upd (qa_upd M 38 f 1) 39 f (M 6 0) := ⟨_, rfl⟩
  have eb : N 6 0 = M 6 0 := by rw [hN]; rfl
  have lp : ∀ (n : Nat) (k : Int), k + n = 3 * M 6 0 → 0 ≤ k → qa_E 99 19 [(0, qr 6), (1, qi f), (2, qi k)] [] (qa_blk N 40 (fun j => if j / 24 = f ∧ 0 ≤ j ∧ j % 24 < k then qm_v (M 32) (M 33) (M 35) (j % 24) f else M 40 j)) (.inl none) (qm_rend M f) := by
    intro n
    induction n with
    | zero =>
      intro k g1 g2
      obtain rfl : k = 3 * M 6 0 := by omega
      have gb : (qa_blk N 40 (fun j => if j / 24 = f ∧ 0 ≤ j ∧ j % 24 < 3 * M 6 0 then qm_v (M 32) (M 33) (M 35) (j % 24) f else M 40 j)) 6 0 = M 6 0 := by rw [qa_blk_n (by decide)]; exact eb
      refine R_iload cd_99_19 rfl ?_
      refine R_push cd_99_20 ?_
      refine R_aload cd_99_21 rfl ?_
      refine R_getf cd_99_22 rfl (by decide) ?_
      refine R_imul cd_99_25 (by unfold qa_InR; first | omega | (simp [qa_upd, qa_blk] <;> omega)) ?_
      refine R_icmp_ge 57 cd_99_26 rfl (fun b26 => ?_) (fun b26 => ?_)
      · exact R_vret cd_99_57 (by rw [hN]; rfl)
      · omega
    | succ n ih =>
      intro k g1 g2
      have e := ih (k + 1) (by omega) (by omega)
      have e1 : k.tdiv 3 = k / 3 := Int.tdiv_eq_ediv_of_nonneg g2
      have e2 : k.tmod 3 = k % 3 := Int.tmod_eq_emod_of_nonneg g2
      have em : qa_upd (qa_blk N 40 (fun j => if j / 24 = f ∧ 0 ≤ j ∧ j % 24 < k then qm_v (M 32) (M 33) (M 35) (j % 24) f else M 40 j)) 40 (24 * f + k) (qm_v (M 32) (M 33) (M 35) k f) = qa_blk N 40 (fun j => if j / 24 = f ∧ 0 ≤ j ∧ j % 24 < k + 1 then qm_v (M 32) (M 33) (M 35) (j % 24) f else M 40 j) := by
        funext c9 q
        by_cases g40 : c9 = 40
        · subst g40
          simp only [qa_upd, qa_blk, if_true, true_and]
          by_cases hq : q = 24 * f + k
          · rw [if_pos hq, if_pos (by omega), show q % 24 = k by omega]
          · rw [if_neg hq]
            by_cases hc : q / 24 = f ∧ 0 ≤ q ∧ q % 24 < k
            · rw [if_pos hc, if_pos (by omega)]
            · rw [if_neg hc, if_neg (by omega)]
        · simp [qa_upd, qa_blk, g40]
      generalize hW : qa_blk N 40 (fun j => if j / 24 = f ∧ 0 ≤ j ∧ j % 24 < k then qm_v (M 32) (M 33) (M 35) (j % 24) f else M 40 j) = W at em ⊢
      have gb : W 6 0 = M 6 0 := by rw [← hW, qa_blk_n (by decide)]; exact eb
      have w2 : W 32 = M 32 := by rw [← hW, hN]; rfl
      have w3 : W 33 = M 33 := by rw [← hW, hN]; rfl
      have w5 : W 35 = M 35 := by rw [← hW, hN]; rfl
      have kv := K_Model_valueAt (b := k.tdiv 3) (c := k.tmod 3) (f := f) (t := k) (M := W) (by omega) (by omega) (by omega) (by omega) (by omega) h3 h4 (by rw [w3]; exact h5)
      rw [w2, w3, w5] at kv
      rw [← em] at e
      refine R_iload cd_99_19 rfl ?_
      refine R_push cd_99_20 ?_
      refine R_aload cd_99_21 rfl ?_
      refine R_getf cd_99_22 rfl (by decide) ?_
      refine R_imul cd_99_25 (by unfold qa_InR; first | omega | (simp [qa_upd, qa_blk] <;> omega)) ?_
      refine R_icmp_ge 57 cd_99_26 rfl (fun b26 => ?_) (fun b26 => ?_)
      · omega
      · refine R_aload cd_99_29 rfl ?_
        refine R_getr cd_99_30 rfl ?_
        refine R_push cd_99_33 ?_
        refine R_iload cd_99_35 rfl ?_
        refine R_imul cd_99_36 (by unfold qa_InR; first | omega | (simp [qa_upd, qa_blk] <;> omega)) ?_
        refine R_iload cd_99_37 rfl ?_
        refine R_iadd cd_99_38 (by unfold qa_InR; first | omega | (simp [qa_upd, qa_blk] <;> omega)) ?_
        refine R_aload cd_99_39 rfl ?_
        refine R_iload cd_99_40 rfl ?_
        refine R_push cd_99_41 ?_
        refine R_idiv cd_99_42 (by decide) ?_
        refine R_iload cd_99_43 rfl ?_
        refine R_push cd_99_44 ?_
        refine R_irem cd_99_45 (by decide) ?_
        refine R_iload cd_99_46 rfl ?_
        refine R_call4 cd_99_47 rfl rfl kv ?_
        refine R_iast cd_99_50 rfl (by first | omega | (simp [qa_upd, qa_blk] <;> omega)) (by first | omega | (simp [qa_upd, qa_blk] <;> omega))  ?_
        refine R_iinc cd_99_51 rfl (by unfold qa_InR; first | omega | (simp [qa_upd, qa_blk] <;> omega)) ?_
        refine R_goto cd_99_54 ?_
        exact R_norm (qs_c rfl (qs_c rfl (qs_c rfl qs_n))) e
  have e := lp (3 * M 6 0).toNat 0 (by omega) (by omega)
  have em : qa_blk N 40 (fun j => if j / 24 = f ∧ 0 ≤ j ∧ j % 24 < 0 then qm_v (M 32) (M 33) (M 35) (j % 24) f else M 40 j) = N := by
    funext c9 q
    by_cases g40 : c9 = 40
    · subst g40
      simp only [qa_blk, if_true]
      rw [if_neg (by omega), hN]; rfl
    · simp [qa_blk, g40]
  rw [em, hN] at e
  refine R_aload cd_99_0 rfl ?_
  refine R_getr cd_99_1 rfl ?_
  refine R_iload cd_99_4 rfl ?_
  refine R_push cd_99_5 ?_
  refine R_zast cd_99_6 rfl (by first | omega | (simp [qa_upd, qa_blk] <;> omega)) (by first | omega | (simp [qa_upd, qa_blk] <;> omega)) (Or.inr rfl) ?_
  refine R_aload cd_99_7 rfl ?_
  refine R_getr cd_99_8 rfl ?_
  refine R_iload cd_99_11 rfl ?_
  refine R_aload cd_99_12 rfl ?_
  refine R_getf cd_99_13 rfl (by decide) ?_
  refine R_iast cd_99_16 rfl (by first | omega | (simp [qa_upd, qa_blk] <;> omega)) (by first | omega | (simp [qa_upd, qa_blk] <;> omega))  ?_
  refine R_push cd_99_17 ?_
  refine R_istore cd_99_18 ?_
  exact R_norm (qs_c rfl (qs_c rfl (qs_c rfl qs_n))) e
def qm_need (M : qa_Mem) : Int → Prop := fun f => qm_nd M f ∧ ¬ qm_st M f
noncomputable def qm_rm (M : qa_Mem) (need : Int → Prop) (sp a : Int) : qa_Mem := qa_blk (qa_blk (qa_blk M 40 (fun j => qx (qr_p need sp (j / 24) ∧ j / 24 < a ∧ 0 ≤ j ∧ j % 24 < 3 * M 6 0) (qm_v (M 32) (M 33) (M 35) (j % 24) (j / 24)) (M 40 j))) 39 (fun f => qx (qr_p need sp f ∧ 0 ≤ f ∧ f < a) (M 6 0) (M 39 f))) 38 (fun f => qx (qr_p need sp f ∧ 0 ≤ f ∧ f < a) 1 (M 38 f))
theorem qm_rm_c {M : qa_Mem} {nd : Int → Prop} {sp a b : Int} (h : ∀ f : Int, 0 ≤ f → qr_p nd sp f → (f < a ↔ f < b)) : qm_rm M nd sp a = qm_rm M nd sp b := by
  have e1 : (fun j : Int => qx (qr_p nd sp (j / 24) ∧ j / 24 < a ∧ 0 ≤ j ∧ j % 24 < 3 * M 6 0) (qm_v (M 32) (M 33) (M 35) (j % 24) (j / 24)) (M 40 j)) = (fun j => qx (qr_p nd sp (j / 24) ∧ j / 24 < b ∧ 0 ≤ j ∧ j % 24 < 3 * M 6 0) (qm_v (M 32) (M 33) (M 35) (j % 24) (j / 24)) (M 40 j)) := by
    funext j
    exact qx_c ⟨fun ⟨p, q, r⟩ => ⟨p, (h _ (by omega) p).mp q, r⟩, fun ⟨p, q, r⟩ => ⟨p, (h _ (by omega) p).mpr q, r⟩⟩
  have e2 : ∀ x : Int, ∀ k : Nat, (fun f : Int => qx (qr_p nd sp f ∧ 0 ≤ f ∧ f < a) x (M k f)) = (fun f => qx (qr_p nd sp f ∧ 0 ≤ f ∧ f < b) x (M k f)) := by
    intro x k
    funext j
    exact qx_c ⟨fun ⟨p, q, r⟩ => ⟨p, q, (h _ q p).mp r⟩, fun ⟨p, q, r⟩ => ⟨p, q, (h _ q p).mpr r⟩⟩
  unfold qm_rm
  rw [e1, e2, e2]
theorem qm_rm_0 {M : qa_Mem} {nd : Int → Prop} {sp : Int} : qm_rm M nd sp 0 = M := by
  funext c9 q
  by_cases g40 : c9 = 40
  · subst g40; show qx _ _ _ = _; rw [qx_f (fun z => by omega)]
  · by_cases g39 : c9 = 39
    · subst g39; show qx _ _ _ = _; rw [qx_f (fun z => by omega)]
    · by_cases g38 : c9 = 38
      · subst g38; show qx _ _ _ = _; rw [qx_f (fun z => by omega)]
      · simp [qm_rm, qa_blk, g40, g39, g38]
theorem qm_rm_stay {M : qa_Mem} {nd : Int → Prop} {sp : Int} {j : Nat} (hp : ¬ qr_p nd sp (j : Int)) : qm_rm M nd sp ((j + 1 : Nat) : Int) = qm_rm M nd sp j := by
  rw [Int.natCast_add]
  exact qm_rm_c (fun f f0 fp => ⟨fun _ => by
    by_cases hh : f = j
    · rw [hh] at fp; exact absurd fp hp
    · omega, fun _ => by omega⟩)
theorem qm_rm_go {M : qa_Mem} {nd : Int → Prop} {sp : Int} {j : Nat} (hp : qr_p nd sp (j : Int)) : qm_rm M nd sp ((j + 1 : Nat) : Int) = qm_rend (qm_rm M nd sp j) j := by
  rw [Int.natCast_add]
  have e1 : ∀ q, (qm_rm M nd sp (j + 1)) 40 q = (qm_rend (qm_rm M nd sp j) j) 40 q := by
    intro q
    show qx (qr_p nd sp (q / 24) ∧ q / 24 < (j : Int) + 1 ∧ 0 ≤ q ∧ q % 24 < 3 * M 6 0) (qm_v (M 32) (M 33) (M 35) (q % 24) (q / 24)) (M 40 q) = (if q / 24 = (j : Int) ∧ 0 ≤ q ∧ q % 24 < 3 * M 6 0 then qm_v (M 32) (M 33) (M 35) (q % 24) j else qx (qr_p nd sp (q / 24) ∧ q / 24 < (j : Int) ∧ 0 ≤ q ∧ q % 24 < 3 * M 6 0) (qm_v (M 32) (M 33) (M 35) (q % 24) (q / 24)) (M 40 q))
    by_cases hq : q / 24 = (j : Int) ∧ 0 ≤ q ∧ q % 24 < 3 * M 6 0
    · rw [if_pos hq, qx_t ⟨by rw [hq.1]; exact hp, by omega, hq.2⟩, hq.1]
    · rw [if_neg hq]
      exact qx_c ⟨fun ⟨a, b, c⟩ => ⟨a, by omega, c⟩, fun ⟨a, b, c⟩ => ⟨a, by omega, c⟩⟩
  have e2 : ∀ q, (qm_rm M nd sp (j + 1)) 39 q = (qm_rend (qm_rm M nd sp j) j) 39 q := by
    intro q
    show qx (qr_p nd sp q ∧ 0 ≤ q ∧ q < (j : Int) + 1) (M 6 0) (M 39 q) = (if 39 = 39 ∧ q = (j : Int) then M 6 0 else qx (qr_p nd sp q ∧ 0 ≤ q ∧ q < (j : Int)) (M 6 0) (M 39 q))
    by_cases hq : q = (j : Int)
    · subst hq; rw [if_pos ⟨rfl, rfl⟩, qx_t ⟨hp, by omega, by omega⟩]
    · rw [if_neg (fun z => hq z.2)]
      exact qx_c ⟨fun ⟨a, b, c⟩ => ⟨a, b, by omega⟩, fun ⟨a, b, c⟩ => ⟨a, b, by omega⟩⟩
  have e3 : ∀ q, (qm_rm M nd sp (j + 1)) 38 q = (qm_rend (qm_rm M nd sp j) j) 38 q := by
    intro q
    show qx (qr_p nd sp q ∧ 0 ≤ q ∧ q < (j : Int) + 1) 1 (M 38 q) = (if 38 = 38 ∧ q = (j : Int) then 1 else qx (qr_p nd sp q ∧ 0 ≤ q ∧ q < (j : Int)) 1 (M 38 q))
    by_cases hq : q = (j : Int)
    · subst hq; rw [if_pos ⟨rfl, rfl⟩, qx_t ⟨hp, by omega, by omega⟩]
    · rw [if_neg (fun z => hq z.2)]
      exact qx_c ⟨fun ⟨a, b, c⟩ => ⟨a, b, by omega⟩, fun ⟨a, b, c⟩ => ⟨a, b, by omega⟩⟩
  funext c9 q
  by_cases g40 : c9 = 40
  · subst g40; exact e1 q
  · by_cases g39 : c9 = 39
    · subst g39; exact e2 q
    · by_cases g38 : c9 = 38
      · subst g38; exact e3 q
      · simp [qm_rm, qm_rend, qa_upd, qa_blk, g40, g39, g38]
theorem qm_rm_st {M : qa_Mem} {nd : Int → Prop} {sp : Int} {j : Int} (h0 : 0 ≤ j) (hb : M 6 0 ≤ 8) : qm_st (qm_rm M nd sp j) j ↔ qm_st M j := by
  have a1 : (qm_rm M nd sp j) 38 j = M 38 j := by show qx _ _ _ = _; rw [qx_f (fun z => by omega)]
  have a2 : (qm_rm M nd sp j) 39 j = M 39 j := by show qx _ _ _ = _; rw [qx_f (fun z => by omega)]
  have a3 : ∀ k : Int, 0 ≤ k → k < 24 → (qm_rm M nd sp j) 40 (24 * j + k) = M 40 (24 * j + k) := by
    intro k k0 k1
    show qx _ _ _ = _
    rw [qx_f (fun z => by omega)]
  unfold qm_st
  rw [a1, a2]
  show (M 38 j ≠ 0 ∧ M 39 j = M 6 0 ∧ ∀ k : Int, 0 ≤ k → k < 3 * M 6 0 → (qm_rm M nd sp j) 40 (24 * j + k) = qm_v (M 32) (M 33) (M 35) k j) ↔ _
  constructor
  · intro ⟨p, q, r⟩
    refine ⟨p, q, fun k k0 k1 => ?_⟩
    rw [← a3 k k0 (by omega)]; exact r k k0 k1
  · intro ⟨p, q, r⟩
    refine ⟨p, q, fun k k0 k1 => ?_⟩
    rw [a3 k k0 (by omega)]; exact r k k0 k1
