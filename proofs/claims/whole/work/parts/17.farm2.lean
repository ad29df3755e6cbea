/-! the farm's hours -/
theorem qs_rm_c {M : qa_Mem} {nd : Int → Prop} {sp a b : Int} (h : ∀ f : Int, 0 ≤ f → qr_p nd sp f → (f < a ↔ f < b)) : qs_rm M nd sp a = qs_rm M nd sp b := by
  have e1 : (fun j : Int => qx (qr_p nd sp (j % 120) ∧ j % 120 < a ∧ 0 ≤ j ∧ j < 360 * M 1 3) (M 12 j) (M 18 j)) = (fun j => qx (qr_p nd sp (j % 120) ∧ j % 120 < b ∧ 0 ≤ j ∧ j < 360 * M 1 3) (M 12 j) (M 18 j)) := by
    funext j
    exact qx_c ⟨fun ⟨p, q, r⟩ => ⟨p, (h _ (by omega) p).mp q, r⟩, fun ⟨p, q, r⟩ => ⟨p, (h _ (by omega) p).mpr q, r⟩⟩
  have e2 : ∀ x : Int, ∀ k : Nat, (fun f : Int => qx (qr_p nd sp f ∧ 0 ≤ f ∧ f < a) x (M k f)) = (fun f => qx (qr_p nd sp f ∧ 0 ≤ f ∧ f < b) x (M k f)) := by
    intro x k
    funext j
    exact qx_c ⟨fun ⟨p, q, r⟩ => ⟨p, q, (h _ q p).mp r⟩, fun ⟨p, q, r⟩ => ⟨p, q, (h _ q p).mpr r⟩⟩
  unfold qs_rm
  rw [e1, e2, e2]
theorem K_Farm_render {m : Int} {M : qa_Mem} (h1 : 0 ≤ m) (h2 : m < 4) (h3 : 1 ≤ M 24 m ∧ M 24 m ≤ 5) (h4 : 0 ≤ M 25 m ∧ M 25 m ≤ 100) (h5 : 0 ≤ M 1 3) (h6 : M 1 3 ≤ 8) : qa_E 34 0 [(0, qr 5), (1, qi (m)), (2, qr (4)), (3, qr (3)), (4, qr (1))] [] (M) (.inl (some (qi (qc_wr M m)))) (qa_upd (qs_rm M (qc_need M) (M 24 m) 120) 25 m (M 25 m + qc_wr M m)) := by
  obtain ⟨sp, hsp⟩ : ∃ x, x = M 24 m := ⟨_, rfl⟩
  obtain ⟨nd, hnd⟩ : ∃ x, x = qc_need M := ⟨_, rfl⟩
  have hr : qc_wr M m = qr_c nd sp 120 := by unfold qc_wr; rw [hnd, hsp]
  rw [hr, ← hnd, ← hsp]
  rw [← hsp] at h3
  have fin : ∀ (j : Nat), j ≤ 120 → (j = 120 ∨ sp ≤ qr_c nd sp j) → qa_E 34 59 [(0, qr 5), (1, qi m), (2, qr 4), (3, qr 3), (4, qr 1), (5, qi (qr_c nd sp j)), (6, qi j)] [] (qs_rm M nd sp j) (.inl (some (qi (qr_c nd sp 120)))) (qa_upd (qs_rm M nd sp 120) 25 m (M 25 m + qr_c nd sp 120)) := by
    intro j g1 g2
    have ec : qr_c nd sp 120 = qr_c nd sp j := by
      rcases g2 with g2 | g2
      · rw [g2]
      · have := qr_stop nd sp j (120 - j) g2
        rw [show j + (120 - j) = 120 by omega] at this
        exact this
    have em : qs_rm M nd sp j = qs_rm M nd sp 120 := by
      rcases g2 with g2 | g2
      · rw [g2]; rfl
      · have hp : ∀ f : Int, (j : Int) ≤ f → ¬ qr_p nd sp f := by
          intro f hf hq
          have := qr_stop nd sp j (f.toNat - j) g2
          rw [show j + (f.toNat - j) = f.toNat by omega] at this
          have := hq.1
          omega
        exact qs_rm_c (fun f f0 fp => ⟨fun _ => by
          by_cases hh : f < 120
          · exact hh
          · exact absurd fp (hp f (by omega)), fun _ => by
          by_cases hh : f < j
          · exact hh
          · exact absurd fp (hp f (by omega))⟩)
    have rr := qr_c_r nd sp (by omega) j
    rw [ec, ← em]
    have eh : (qs_rm M nd sp j) 25 m = M 25 m := by rfl
    refine R_aload cd_34_59 rfl ?_
    refine R_getr cd_34_60 rfl ?_
    refine R_iload cd_34_63 rfl ?_
    refine R_dup2 cd_34_64 rfl rfl ?_
    refine R_iald cd_34_65 rfl (by omega) (by omega) ?_
    refine R_iload cd_34_66 rfl ?_
    refine R_iadd cd_34_68 (by rw [eh]; unfold qa_InR; omega) ?_
    refine R_iast cd_34_69 rfl (by omega) (by omega)  ?_
    refine R_iload cd_34_70 rfl ?_
    exact R_iret cd_34_72 (by first | rfl | omega) rfl
  have lp : ∀ (k : Nat) (j : Nat), j + k = 120 → qa_E 34 6 [(0, qr 5), (1, qi m), (2, qr 4), (3, qr 3), (4, qr 1), (5, qi (qr_c nd sp j)), (6, qi j)] [] (qs_rm M nd sp j) (.inl (some (qi (qr_c nd sp 120)))) (qa_upd (qs_rm M nd sp 120) 25 m (M 25 m + qr_c nd sp 120)) := by
    intro k
    induction k with
    | zero =>
      intro j g1
      refine R_iload cd_34_6 rfl ?_
      refine R_push cd_34_8 ?_
      refine R_icmp_ge 59 cd_34_10 rfl (fun b10 => ?_) (fun b10 => ?_)
      · exact R_norm (qs_c rfl (qs_c rfl (qs_c rfl (qs_c rfl (qs_c rfl (qs_c rfl (qs_c rfl qs_n))))))) (fin j (by omega) (Or.inl (by omega)))
      · omega
    | succ k ih =>
      intro j g1
      have rr := qr_c_r nd sp (by omega) j
      have e := ih (j + 1) (by omega)
      have es : (qs_rm M nd sp j) 24 m = sp := by rw [hsp]; rfl
      have et : (qs_rm M nd sp j) 23 j = M 23 j := rfl
      have ed : (qs_rm M nd sp j) 20 j = M 20 j := by
        unfold qs_rm; rw [qa_blk_e, qx_f (fun q => by omega)]
      have hneed : nd j ↔ (0 < M 23 j ∧ M 20 j ≠ 1) := by rw [hnd]; exact Iff.rfl
      have stay : ¬ (qr_c nd sp j < sp ∧ nd j) → qr_c nd sp (j + 1) = qr_c nd sp j ∧ qs_rm M nd sp ((j + 1 : Nat) : Int) = qs_rm M nd sp j := by
        intro hn
        have hp : ¬ qr_p nd sp (j : Int) := by unfold qr_p; rw [Int.toNat_natCast]; exact hn
        refine ⟨by rw [qr_c, qb_f hn, Int.add_zero], ?_⟩
        rw [Int.natCast_add]
        exact qs_rm_c (fun f f0 fp => ⟨fun _ => by
          by_cases hh : f = j
          · rw [hh] at fp; exact absurd fp hp
          · omega, fun _ => by omega⟩)
      have go : (qr_c nd sp j < sp ∧ nd j) → qr_c nd sp (j + 1) = qr_c nd sp j + 1 ∧ qs_rm M nd sp ((j + 1 : Nat) : Int) = qs_rend (qs_rm M nd sp j) j := by
        intro hn
        have hp : qr_p nd sp (j : Int) := by unfold qr_p; rw [Int.toNat_natCast]; exact hn
        refine ⟨by rw [qr_c, qb_t hn], ?_⟩
        rw [Int.natCast_add]
        have e1 : ∀ q, (qs_rm M nd sp (j + 1)) 18 q = (qs_rend (qs_rm M nd sp j) j) 18 q := by
          intro q
          have hb : (qs_rm M nd sp j) 1 3 = M 1 3 := rfl
          show qx (qr_p nd sp (q % 120) ∧ q % 120 < (j : Int) + 1 ∧ 0 ≤ q ∧ q < 360 * M 1 3) (M 12 q) (M 18 q) = (if q % 120 = (j : Int) ∧ 0 ≤ q ∧ q < 360 * M 1 3 then M 12 q else qx (qr_p nd sp (q % 120) ∧ q % 120 < (j : Int) ∧ 0 ≤ q ∧ q < 360 * M 1 3) (M 12 q) (M 18 q))
          by_cases hq : q % 120 = (j : Int) ∧ 0 ≤ q ∧ q < 360 * M 1 3
          · rw [if_pos hq, qx_t ⟨by rw [hq.1]; exact hp, by omega, hq.2⟩]
          · rw [if_neg hq]
            refine qx_c ⟨fun ⟨a, b, c⟩ => ⟨a, by omega, c⟩, fun ⟨a, b, c⟩ => ⟨a, by omega, c⟩⟩
        have e2 : ∀ q, (qs_rm M nd sp (j + 1)) 19 q = (qs_rend (qs_rm M nd sp j) j) 19 q := by
          intro q
          show qx (qr_p nd sp q ∧ 0 ≤ q ∧ q < (j : Int) + 1) (M 1 3) (M 19 q) = (if 19 = 19 ∧ q = (j : Int) then M 1 3 else qx (qr_p nd sp q ∧ 0 ≤ q ∧ q < (j : Int)) (M 1 3) (M 19 q))
          by_cases hq : q = (j : Int)
          · subst hq; rw [if_pos ⟨rfl, rfl⟩, qx_t ⟨hp, by omega, by omega⟩]
          · rw [if_neg (fun z => hq z.2)]
            refine qx_c ⟨fun ⟨a, b, c⟩ => ⟨a, b, by omega⟩, fun ⟨a, b, c⟩ => ⟨a, b, by omega⟩⟩
        have e3 : ∀ q, (qs_rm M nd sp (j + 1)) 20 q = (qs_rend (qs_rm M nd sp j) j) 20 q := by
          intro q
          show qx (qr_p nd sp q ∧ 0 ≤ q ∧ q < (j : Int) + 1) 1 (M 20 q) = (if 20 = 20 ∧ q = (j : Int) then 1 else qx (qr_p nd sp q ∧ 0 ≤ q ∧ q < (j : Int)) 1 (M 20 q))
          by_cases hq : q = (j : Int)
          · subst hq; rw [if_pos ⟨rfl, rfl⟩, qx_t ⟨hp, by omega, by omega⟩]
          · rw [if_neg (fun z => hq z.2)]
            refine qx_c ⟨fun ⟨a, b, c⟩ => ⟨a, b, by omega⟩, fun ⟨a, b, c⟩ => ⟨a, b, by omega⟩⟩
        funext c9 q
        by_cases g18 : c9 = 18
        · subst g18; exact e1 q
        · by_cases g19 : c9 = 19
          · subst g19; exact e2 q
          · by_cases g20 : c9 = 20
            · subst g20; exact e3 q
            · simp [qs_rm, qs_rend, qa_upd, qa_blk, g18, g19, g20]
      refine R_iload cd_34_6 rfl ?_
      refine R_push cd_34_8 ?_
      refine R_icmp_ge 59 cd_34_10 rfl (fun b10 => ?_) (fun b10 => ?_)
      · first | omega | exact R_norm (qs_c rfl (qs_c rfl (qs_c rfl (qs_c rfl (qs_c rfl (qs_c rfl (qs_c rfl qs_n))))))) (fin j (by omega) (Or.inr (by omega)))
      · refine R_iload cd_34_13 rfl ?_
        refine R_aload cd_34_15 rfl ?_
        refine R_getr cd_34_16 rfl ?_
        refine R_iload cd_34_19 rfl ?_
        refine R_iald cd_34_20 rfl (by omega) (by omega) ?_
        refine R_icmp_ge 59 cd_34_21 rfl (fun b21 => ?_) (fun b21 => ?_)
        · first | omega | exact R_norm (qs_c rfl (qs_c rfl (qs_c rfl (qs_c rfl (qs_c rfl (qs_c rfl (qs_c rfl qs_n))))))) (fin j (by omega) (Or.inr (by omega)))
        · refine R_aload cd_34_24 rfl ?_
          refine R_iload cd_34_25 rfl ?_
          refine R_call2 cd_34_27 rfl rfl (K_Film_needs (by omega) (by omega)) ?_
          refine R_ifeq_b 53 cd_34_30 rfl (fun b30 => ?_) (fun b30 => ?_)
          · refine R_iinc cd_34_53 rfl (by unfold qa_InR; first | omega | (simp [qa_upd, qa_blk] <;> omega)) ?_
            refine R_goto cd_34_56 ?_
            first
              | have hh := go ⟨by omega, hneed.mpr ⟨by rw [← et]; exact b30, by rw [← ed]; exact b39⟩⟩
                rw [hh.1, hh.2, Int.natCast_add] at e
                exact R_norm (qs_c rfl (qs_c rfl (qs_c rfl (qs_c rfl (qs_c rfl (qs_c rfl (qs_c rfl qs_n))))))) e
              | have hh := stay (fun q => absurd (hneed.mp q.2).2 (by rw [← ed]; exact fun z => z b39))
                rw [hh.1, hh.2, Int.natCast_add] at e
                exact R_norm (qs_c rfl (qs_c rfl (qs_c rfl (qs_c rfl (qs_c rfl (qs_c rfl (qs_c rfl qs_n))))))) e
              | have hh := stay (fun q => absurd (hneed.mp q.2).1 (by rw [← et]; exact b30))
                rw [hh.1, hh.2, Int.natCast_add] at e
                exact R_norm (qs_c rfl (qs_c rfl (qs_c rfl (qs_c rfl (qs_c rfl (qs_c rfl (qs_c rfl qs_n))))))) e
          · refine R_aload cd_34_33 rfl ?_
            refine R_iload cd_34_34 rfl ?_
            refine R_call2 cd_34_36 rfl rfl (K_Stills_stands (by omega) (by omega)) ?_
            refine R_ifne_b 53 cd_34_39 rfl (fun b39 => ?_) (fun b39 => ?_)
            · refine R_iinc cd_34_53 rfl (by unfold qa_InR; first | omega | (simp [qa_upd, qa_blk] <;> omega)) ?_
              refine R_goto cd_34_56 ?_
              first
                | have hh := go ⟨by omega, hneed.mpr ⟨by rw [← et]; exact b30, by rw [← ed]; exact b39⟩⟩
                  rw [hh.1, hh.2, Int.natCast_add] at e
                  exact R_norm (qs_c rfl (qs_c rfl (qs_c rfl (qs_c rfl (qs_c rfl (qs_c rfl (qs_c rfl qs_n))))))) e
                | have hh := stay (fun q => absurd (hneed.mp q.2).2 (by rw [← ed]; exact fun z => z b39))
                  rw [hh.1, hh.2, Int.natCast_add] at e
                  exact R_norm (qs_c rfl (qs_c rfl (qs_c rfl (qs_c rfl (qs_c rfl (qs_c rfl (qs_c rfl qs_n))))))) e
                | have hh := stay (fun q => absurd (hneed.mp q.2).1 (by rw [← et]; exact b30))
                  rw [hh.1, hh.2, Int.natCast_add] at e
                  exact R_norm (qs_c rfl (qs_c rfl (qs_c rfl (qs_c rfl (qs_c rfl (qs_c rfl (qs_c rfl qs_n))))))) e
            · refine R_aload cd_34_42 rfl ?_
              refine R_iload cd_34_43 rfl ?_
              refine R_aload cd_34_45 rfl ?_
              refine R_callv3 cd_34_47 rfl rfl (K_Stills_render h5 h6 (by omega) (by omega)) ?_
              refine R_iinc cd_34_50 rfl (by unfold qa_InR; first | omega | (simp [qa_upd, qa_blk] <;> omega)) ?_
              refine R_iinc cd_34_53 rfl (by unfold qa_InR; first | omega | (simp [qa_upd, qa_blk] <;> omega)) ?_
              refine R_goto cd_34_56 ?_
              first
                | have hh := go ⟨by omega, hneed.mpr ⟨by rw [← et]; exact b30, by rw [← ed]; exact b39⟩⟩
                  rw [hh.1, hh.2, Int.natCast_add] at e
                  exact R_norm (qs_c rfl (qs_c rfl (qs_c rfl (qs_c rfl (qs_c rfl (qs_c rfl (qs_c rfl qs_n))))))) e
                | have hh := stay (fun q => absurd (hneed.mp q.2).2 (by rw [← ed]; exact fun z => z b39))
                  rw [hh.1, hh.2, Int.natCast_add] at e
                  exact R_norm (qs_c rfl (qs_c rfl (qs_c rfl (qs_c rfl (qs_c rfl (qs_c rfl (qs_c rfl qs_n))))))) e
                | have hh := stay (fun q => absurd (hneed.mp q.2).1 (by rw [← et]; exact b30))
                  rw [hh.1, hh.2, Int.natCast_add] at e
                  exact R_norm (qs_c rfl (qs_c rfl (qs_c rfl (qs_c rfl (qs_c rfl (qs_c rfl (qs_c rfl qs_n))))))) e
  have e0 : qs_rm M nd sp ((0 : Nat) : Int) = M := by
    funext c9 q
    by_cases g18 : c9 = 18
    · subst g18; show qx _ _ _ = _; rw [qx_f (fun z => by omega)]
    · by_cases g19 : c9 = 19
      · subst g19; show qx _ _ _ = _; rw [qx_f (fun z => by omega)]
      · by_cases g20 : c9 = 20
        · subst g20; show qx _ _ _ = _; rw [qx_f (fun z => by omega)]
        · simp [qs_rm, qa_blk, g18, g19, g20]
  have e := lp 120 0 (by omega)
  rw [e0] at e
  refine R_push cd_34_0 ?_
  refine R_istore cd_34_1 ?_
  refine R_push cd_34_3 ?_
  refine R_istore cd_34_4 ?_
  exact R_norm (qs_c rfl (qs_c rfl (qs_c rfl (qs_c rfl (qs_c rfl (qs_c rfl (qs_c rfl qs_n))))))) e
