/-! the claim -/
theorem ql_nests {args : Array Value} {s : State} (hts : ∀ w ∈ lw_tbl, w.before args s = true) : qw_nest s := fun w hw o n y z e => by
  subst e
  exact va_tabs rfl rfl (hts _ hw)
theorem ql_cw_a : qw_cw.all (fun w => decide (w ∈ lw_tbl)) = true := by decide +kernel
theorem ql_cast {args : Array Value} {s : State} (hts : ∀ w ∈ lw_tbl, w.before args s = true) : qw_ca s := fun w hw => va_tabs (qw_cw_t w hw) rfl (hts w (of_decide_eq_true (List.all_eq_true.mp ql_cw_a w hw)))
theorem ql_fx {l : Launch} {s : State} {b : Nat} {D : va_G} {cA : Nat → ClassId} {A : Nat → Prop} (hK : va_K D qw_cl (qw_ty cA) s) (hts : ∀ w ∈ lw_tbl, w.before #[Value.ref b] s = true) (hgv : (Jvm.Cond.and given_1 narrow_1).before #[Value.ref b] s = true) (hA : ∀ a : Nat, a < s.heap.size → ¬ A a) : qw_fx D cA A s s.heap := by
  have hf := flat_of_before _ hgv
  refine ⟨hK, vx_Zqof (args := #[Value.ref b]) (hts _ (List.mem_append_right _ (List.mem_of_getElem? (i := 242) (by decide +kernel)))) (hts _ (List.mem_append_right _ (List.mem_of_getElem? (i := 8) (by decide +kernel)))) (hf _ (by decide +kernel)) hA, vx_Zqof (args := #[Value.ref b]) (hts _ (List.mem_append_right _ (List.mem_of_getElem? (i := 244) (by decide +kernel)))) (hts _ (List.mem_append_right _ (List.mem_of_getElem? (i := 8) (by decide +kernel)))) (hf _ (by decide +kernel)) hA, ql_nests hts, ⟨?_, ?_, ?_⟩, ql_cast hts⟩
  · exact va_Nc.of (args := #[Value.ref b]) (hf _ (by decide +kernel))
  · exact va_Nc.of (args := #[Value.ref b]) (hf _ (by decide +kernel))
  · exact va_Nc.of (args := #[Value.ref b]) (hf _ (by decide +kernel))
/-- the script is the machine's, under the number 998 -/
def ql_ad (f : Nat → Nat) (b : Nat) : Nat → Nat := fun k => if k = 998 then b else f k
theorem ql_ad_n {f : Nat → Nat} {b k : Nat} (h : k < 47) : ql_ad f b k = f k := by
  unfold ql_ad
  rw [if_neg (by omega)]
theorem ql_q {D : va_G} {cA : Nat → ClassId} {ad : Nat → Nat} {n : Nat} (hD : va_D (fun q : Nat => n ≤ q) (qw_ws cA ad ql_C)) : (∀ a b, a < 47 → b < 47 → ad a = ad b → a = b) ∧ (fun q : Nat => n ≤ q) = qw_A ad n := by
  refine ⟨fun a b ha hb e => hD.1 a b _ _ (qw_at ha) (qw_at hb) e, ?_⟩
  funext q
  refine propext ⟨fun h => Or.inr h, fun h => ?_⟩
  rcases h with ⟨k, hk, rfl⟩ | h
  · exact hD.2 k _ (qw_at hk)
  · exact h
set_option maxHeartbeats 4000000 in
set_option maxRecDepth 100000 in
theorem ql_perm {D : va_G} {cA : Nat → ClassId} {A : Nat → Prop} {ad : Nat → Nat} {q0 q8 q17 : Nat} {u4 u12 : Nat → Nat} {H : Heap} (h : ∀ k : Nat, k < 47 → ad k = ql_f q0 q8 q17 u4 u12 k) (hP : va_P D qw_cl (ql_w cA q0 q8 q17 u4 u12) H) (hD : va_D A (ql_w cA q0 q8 q17 u4 u12)) : va_P D qw_cl (qw_ws cA ad ql_C) H ∧ va_D A (qw_ws cA ad ql_C) := by
  have e := ql_w_eq (cA := cA) h
  refine ⟨hP.sub [0, 1, 5, 12, 16, 20, 27, 46, 26, 2, 3, 4, 10, 11, 6, 7, 8, 9, 13, 14, 15, 17, 18, 19, 21, 22, 23, 24, 25, 28, 29, 30, 31, 32, 33, 34, 35, 36, 37, 38, 39, 40, 41, 42, 43, 44, 45] e, ?_⟩
  refine hD.sub [0, 1, 5, 12, 16, 20, 27, 46, 26, 2, 3, 4, 10, 11, 6, 7, 8, 9, 13, 14, 15, 17, 18, 19, 21, 22, 23, 24, 25, 28, 29, 30, 31, 32, 33, 34, 35, 36, 37, 38, 39, 40, 41, 42, 43, 44, 45] (by decide) ?_
  rw [← e]
  rfl
set_option maxRecDepth 20000 in
theorem whole_start {p : Program} {e : Env} {s : State} {m : MethodId} {below : List Frame} {meth : Method} {c : Code} (l : Launch) (hflags : l.flags = flags0) {b L : Nat} {xs : Nat → Int32} (hL : L ≤ 3584) (C0 : lw_At p s m meth c b L xs) : W p l e room_1 s m #[Value.ref b] below meth c s.heap [] 0 0 (lw_Z below #[Value.ref b] s) (entryFrame m ([Value.ref b] : List Value).toArray 7) := by
  obtain ⟨hx, hb, hr, hml, hown, hts, hX, hbl, hlocks, hgv⟩ := id C0
  have hw : ∀ w ∈ AW, w.before #[Value.ref b] s = true := fun w h => hts w (List.mem_filter.mp h).1
  obtain ⟨D, cA, hK⟩ := ql_K hw
  refine ql_start l C0 hK (ql_nests hts) (fun q0 q8 q17 u4 u12 H locs ls hP hD hS hl => ?_)
  obtain ⟨ad, had⟩ : ∃ ad : Nat → Nat, ad = ql_ad (ql_f q0 q8 q17 u4 u12) b := ⟨_, rfl⟩
  have hk : ∀ k : Nat, k < 47 → ad k = ql_f q0 q8 q17 u4 u12 k := fun k h => by rw [had]; exact ql_ad_n h
  have h998 : ad 998 = b := by rw [had]; rfl
  obtain ⟨hP, hD⟩ := ql_perm hk hP hD
  obtain ⟨inj, eA⟩ := ql_q (D := D) hD
  obtain ⟨M9, hE, t1, t2⟩ := law_lp 512 0 (ql_M L xs) (ql_iv L xs) (by decide) (show (L : Int) ≤ 0 + 7 * ((512 : Nat) : Int) + 6 by omega) (show (L : Int) ≤ 3584 by omega) (show (0 : Int) ≤ (L : Int) by omega) (by decide) (fun x _ _ => by
    have := i32_r (xs x.toNat)
    unfold qa_InR at this
    exact this.2)
  have t1 : (0 : Int) ≤ M9 99 0 := t1
  have t2 : M9 99 0 ≤ 0 + ((512 : Nat) : Int) := t2
  obtain ⟨t, ht⟩ := Int.eq_ofNat_of_zero_le t1
  have hM0 : ql_M L xs 99 0 = 0 := rfl
  have K := (cl_E (ql_nost hflags) hE).2 p e room_1 s m #[Value.ref b] below meth c D cA ad (fun q : Nat => s.heap.size ≤ q) H locs ql_C 47 (47 + t) 23905 ls [] (lw_Z below #[Value.ref b] s) ⟨hx, hb, hml, hr, hlocks, hown, hw, ql_fx (l := l) hK hts hgv (fun a h => Nat.not_le.mpr h), inj, eA, ql_nost hflags, fun h => absurd rfl h, Nat.le_of_ble_eq_true rfl, Nat.le_of_ble_eq_true rfl⟩ (fun _ => ⟨b, L, xs, h998, hX, hbl, Nat.not_le.mpr hbl, hL, rfl, fun j hj => rfl⟩) hP hS (ql_RM L xs) ?_ trivial (by rw [hM0, ht]; omega) (by show 47 + t ≤ 1074; omega) (by show 6 * (47 + t) + 23905 ≤ 32397; omega) ⟨?_, ?_, ?_⟩
  · exact K
  · refine ⟨[(4, .int 0), (3, .ref q17), (2, .ref q8), (1, .ref q0), (0, .ref b)], hl, fun q hq => ?_, fun a v hv => ?_⟩
    · rcases List.mem_cons.mp hq with e | hq
      · rw [e]; rfl
      rcases List.mem_cons.mp hq with e | hq
      · rw [e]; rfl
      rcases List.mem_cons.mp hq with e | hq
      · rw [e]; rfl
      rcases List.mem_cons.mp hq with e | hq
      · rw [e]; rfl
      rcases List.mem_cons.mp hq with e | hq
      · rw [e]; rfl
      · cases hq
    · have z0 : ad 0 = q0 := hk 0 (by decide)
      have z6 : ad 6 = q8 := hk 6 (by decide)
      have z7 : ad 7 = q17 := hk 7 (by decide)
      by_cases e0 : a = 0
      · subst e0
        cases hv
        exact ⟨.ref b, by simp, ⟨b, rfl, Or.inr h998.symm⟩⟩
      by_cases e1 : a = 1
      · subst e1
        cases hv
        exact ⟨.ref q0, by simp, ⟨q0, rfl, Or.inr z0.symm⟩⟩
      by_cases e2 : a = 2
      · subst e2
        cases hv
        exact ⟨.ref q8, by simp, ⟨q8, rfl, Or.inr z6.symm⟩⟩
      by_cases e3 : a = 3
      · subst e3
        cases hv
        exact ⟨.ref q17, by simp, ⟨q17, rfl, Or.inr z7.symm⟩⟩
      by_cases e4 : a = 4
      · subst e4
        cases hv
        exact ⟨.int 0, by simp, ⟨0, rfl, rfl⟩⟩
      · exfalso
        have b0 : Nat.beq 0 a = false := Bool.eq_false_iff.mpr (fun z => e0 (Nat.eq_of_beq_eq_true z).symm)
        have b1 : Nat.beq 1 a = false := Bool.eq_false_iff.mpr (fun z => e1 (Nat.eq_of_beq_eq_true z).symm)
        have b2 : Nat.beq 2 a = false := Bool.eq_false_iff.mpr (fun z => e2 (Nat.eq_of_beq_eq_true z).symm)
        have b3 : Nat.beq 3 a = false := Bool.eq_false_iff.mpr (fun z => e3 (Nat.eq_of_beq_eq_true z).symm)
        have b4 : Nat.beq 4 a = false := Bool.eq_false_iff.mpr (fun z => e4 (Nat.eq_of_beq_eq_true z).symm)
        unfold qa_lk at hv
        rw [b0] at hv
        simp only [cond_false] at hv
        unfold qa_lk at hv
        rw [b1] at hv
        simp only [cond_false] at hv
        unfold qa_lk at hv
        rw [b2] at hv
        simp only [cond_false] at hv
        unfold qa_lk at hv
        rw [b3] at hv
        simp only [cond_false] at hv
        unfold qa_lk at hv
        rw [b4] at hv
        simp only [cond_false] at hv
        cases hv
  · intro o pc op a nx cp v H1 locs1 C1 ls1 st1 e1 hc hop h01 hP1 hA1 hM1 hS1
    cases e1
    rcases hop with ⟨rfl, -⟩ | ⟨-, z⟩
    · obtain ⟨y, s1, rfl, ⟨z, rfl, hz⟩, h3⟩ := RS_cons (S := []) hS1
      cases RS_nil h3
      have ez : z = 1 := Int32.toInt_inj.mp (by rw [hz]; rfl)
      subst ez
      refine va_forget (fun q hq => hA1.2.2 q hq) ?_
      refine W.widen (k := 1074) (n := 32397) (by omega) (by omega) ?_
      have eb : sd_b 161 = code := rfl
      have d := sd_d19 hc
      rw [eb] at d
      exact lw_ret hx hb hr hlocks d
    · cases z
  · intro E pc a nx cp v H1 locs1 C1 n ls1 e1
    cases e1
  · intro E pc H1 locs1 C1 ls1 st1 ce q e1
    cases e1
