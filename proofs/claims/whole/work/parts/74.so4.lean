/-! single instructions: longs, the switch -/
theorem sd_lg_a : (List.range 47).all (fun k => match qa_lay k with
  | some (.inr q) => !(Nat.beq q.1 2) || (Nat.beq k 7 && Nat.beq q.2 1)
  | _ => true) = true := by decide +kernel
theorem sd_lg {k n : Nat} (h : qa_len 2 k = some n) : k = 7 ∧ n = 1 := by
  have hl := qw_lenL h
  have g := List.all_eq_true.mp sd_lg_a k (List.mem_range.mpr (qw_lay_lt hl))
  rw [hl] at g
  simp only [Bool.or_eq_true, Bool.and_eq_true, Bool.not_eq_true'] at g
  rcases g with g | ⟨g1, g2⟩
  · cases g
  · exact ⟨Nat.eq_of_beq_eq_true g1, Nat.eq_of_beq_eq_true g2⟩
def sd_w1 (i pc : Nat) : Bool := match qa_code i pc with
  | some q => !(Nat.beq q.1 28) || Nat.beq i 161
  | none => true
def sd_w2 (i : Nat) : Bool := (List.range (sd_n i)).all (sd_w1 i)
theorem sd_w2_a : (List.range 162).all sd_w2 = true := by decide +kernel
theorem sd_sw {i pc a nx cp : Nat} {v : Int} (h : qa_code i pc = some (28, a, v, nx, cp)) : i = 161 := by
  have c := List.all_eq_true.mp (List.all_eq_true.mp sd_w2_a i (List.mem_range.mpr (sd_i h))) pc (List.mem_range.mpr (sd_lt h))
  unfold sd_w1 at c
  rw [h] at c
  simp only [Bool.or_eq_true, Bool.not_eq_true'] at c
  rcases c with c | c
  · cases c
  · exact Nat.eq_of_beq_eq_true c
theorem sd_d40 : decode (sd_b 161) 40 = .ok (.tableswitch 1460 0 21 #[104, 184, 318, 398, 478, 558, 614, 682, 738, 818, 874, 930, 986, 999, 1012, 1068, 1136, 1192, 1248, 1304, 1360, 1404], 104) := by decide +kernel
theorem sd_swo : (List.range 22).all (fun j => decide ((#[104, 184, 318, 398, 478, 558, 614, 682, 738, 818, 874, 930, 986, 999, 1012, 1068, 1136, 1192, 1248, 1304, 1360, 1404] : Array Int)[j]? = (qa_sw[j]?).map (fun t => (t : Int) - 40))) = true := by decide +kernel
section SL
variable {p : Program} {l : Launch} {e : Env} {R : Room} {s : State} {m : MethodId} {args : Array Value} {below : List Frame} {meth : Method} {c : Code} {H : Heap} {locs : List Loc} {cells slots : Nat} {Q : State → Prop} {ad : Nat → Nat} {i pc a nx cp : Nat} {v : Int} {ls : Array Slot} {S : List qa_V} {st : List Value} {D : va_G} {cA : Nat → ClassId} {C : qw_C} {M : qa_Mem} {A : Nat → Prop} {H0 : Heap}
theorem so_28 {x : Int} (hx : p.tables.exec = Jvm.exec) (hb : c.code = sd_b i) (hc : qa_code i pc = some (28, a, v, nx, cp)) (hS : RS ad (qi x :: S) st) (kt : ∀ (st' : List Value) (j t : Nat), RS ad S st' → qa_sw[j]? = some t → x = (j : Int) → W p l e R s m args below meth c H locs cells slots Q (F0 m t ls st')) (kf : ∀ st', RS ad S st' → (x < 0 ∨ (qa_sw.length : Int) ≤ x) → W p l e R s m args below meth c H locs cells slots Q (F0 m nx ls st')) : W p l e R s m args below meth c H locs cells slots Q (F0 m pc ls st) := by
  obtain ⟨-, s2, rfl, ⟨x1, rfl, rfl⟩, h4⟩ := RS_cons hS
  obtain rfl := sd_sw hc
  obtain ⟨rfl, rfl⟩ := sd_d28 hc
  have zl : (qa_sw.length : Int) = 22 := rfl
  by_cases h : x1.toInt < 0 ∨ 21 < x1.toInt
  · exact lv_tableOut hx hb sd_d40 h (by decide) (kf _ h4 (by omega))
  · have hj : x1.toInt.toNat < qa_sw.length := by omega
    have g := List.all_eq_true.mp sd_swo x1.toInt.toNat (List.mem_range.mpr (by omega))
    have g := of_decide_eq_true g
    rw [List.getElem?_eq_getElem hj] at g
    refine lv_tableIn hx hb sd_d40 (by omega) (by omega) (off := ((qa_sw[x1.toInt.toNat] : Nat) : Int) - 40) (tgt := qa_sw[x1.toInt.toNat]) ?_ (by omega) (kt _ x1.toInt.toNat _ h4 (List.getElem?_eq_getElem hj) (by omega))
    rw [Int.sub_zero]
    exact g
theorem so_24 {x : Int} {k n : Nat} (hx : p.tables.exec = Jvm.exec) (hb : c.code = sd_b i) (hc : qa_code i pc = some (24, a, v, nx, cp)) (hS : RS ad (qi x :: qr k :: S) st) (hK : va_K D qw_cl (qw_ty cA) s) (hP : va_P D qw_cl (qw_ws cA ad C) H) (hM : RM C M) (hn : qa_len 2 k = some n) (h0 : 0 ≤ x) (h1 : x < n) (K : ∀ st', RS ad (ql (M k x) :: S) st' → W p l e R s m args below meth c H locs cells slots Q (F0 m nx ls st')) : W p l e R s m args below meth c H locs cells slots Q (F0 m pc ls st) := by
  obtain ⟨-, s1, rfl, ⟨x1, rfl, rfl⟩, h3⟩ := RS_cons hS
  obtain ⟨w0, s2, rfl, h5, h4⟩ := RS_cons h3
  obtain ⟨rfl, rfl⟩ := sd_lg hn
  obtain rfl := qw_ref h5 (by decide)
  obtain ⟨d, rfl⟩ := sd_d24 hc
  have w : (qw_ws cA ad C)[7]? = some (ad 7, .inl (cA 2, 1, .inr (.inl C.2))) := by rw [qw_at (by decide)]; rfl
  have cl := qw_clamp h0
  have z : x1.toNatClampNeg = 0 := by omega
  have z2 : x1.toInt = 0 := by omega
  refine va_lald hx hb hK hP 7 2 w rfl (vp_in_iff.mpr ⟨h0, h1⟩) d (K _ ⟨⟨_, rfl, ?_⟩, h4⟩)
  rw [z, z2]
  exact hM.2
theorem so_23 {y x : Int} {k n : Nat} (hx : p.tables.exec = Jvm.exec) (hb : c.code = sd_b i) (hc : qa_code i pc = some (23, a, v, nx, cp)) (hS : RS ad (ql y :: qi x :: qr k :: S) st) (hK : va_K D qw_cl (qw_ty cA) s) (hP : va_P D qw_cl (qw_ws cA ad C) H) (hD : va_D A (qw_ws cA ad C)) (hA : va_S A H0 H locs) (hM : RM C M) (hn : qa_len 2 k = some n) (h0 : 0 ≤ x) (h1 : x < n) (K : ∀ (st' : List Value) (H1 : Heap) (locs1 : List Loc) (C1 : qw_C), RS ad S st' → va_P D qw_cl (qw_ws cA ad C1) H1 → va_D A (qw_ws cA ad C1) → va_S A H0 H1 locs1 → RM C1 (qa_upd M k x y) → W p l e R s m args below meth c H1 locs1 cells slots Q (F0 m nx ls st')) : W p l e R s m args below meth c H locs cells slots Q (F0 m pc ls st) := by
  obtain ⟨-, s0, rfl, ⟨y1, rfl, rfl⟩, h2⟩ := RS_cons hS
  obtain ⟨-, s1, rfl, ⟨x1, rfl, rfl⟩, h3⟩ := RS_cons h2
  obtain ⟨w0, s2, rfl, h5, h4⟩ := RS_cons h3
  obtain ⟨rfl, rfl⟩ := sd_lg hn
  obtain rfl := qw_ref h5 (by decide)
  obtain ⟨d, rfl⟩ := sd_d23 hc
  have w : (qw_ws cA ad C)[7]? = some (ad 7, .inl (cA 2, 1, .inr (.inl C.2))) := by rw [qw_at (by decide)]; rfl
  have cl := qw_clamp h0
  have z : x1.toNatClampNeg = 0 := by omega
  have z2 : x1.toInt = 0 := by omega
  have e2 : (qw_ws cA ad C).set 7 (ad 7, .inl (cA 2, 1, .inr (.inl (vp_updL C.2 x1.toNatClampNeg y1)))) = qw_ws cA ad (C.1, vp_updL C.2 0 y1) := by
    rw [z]
    refine qw_set (C1 := (C.1, vp_updL C.2 0 y1)) rfl (fun j hj => ?_)
    unfold qw_c
    cases hq : qa_lay j with
    | none => rfl
    | some q =>
      cases q with
      | inl q => rfl
      | inr q =>
        cases hb2 : Nat.beq q.1 2 with
        | false => show Sum.inl (cA q.1, q.2, bif Nat.beq q.1 2 then _ else _) = Sum.inl (cA q.1, q.2, bif Nat.beq q.1 2 then _ else _); rw [hb2]; rfl
        | true =>
          exfalso
          refine hj (sd_lg (k := j) (n := q.2) ?_).1
          unfold qa_len
          rw [hq]
          show (bif Nat.beq q.1 2 then some q.2 else none) = _
          rw [hb2]; rfl
  have e1 : RM (C.1, vp_updL C.2 0 y1) (qa_upd M 7 x1.toInt y1.toInt) := by
    rw [z2]
    refine ⟨fun k j hk => ?_, ?_⟩
    · show (C.1 k j).toInt = (if k = 7 ∧ (j : Int) = 0 then y1.toInt else M k j)
      rw [if_neg]
      · exact hM.1 k j hk
      · rintro ⟨rfl, -⟩
        have hk : (2 : Nat) ≠ 2 ∧ _ := hk
        exact hk.1 rfl
    · show (if (0 : Nat) = 0 then y1 else C.2 0).toInt = (if (7 : Nat) = 7 ∧ (0 : Int) = 0 then y1.toInt else M 7 0)
      rw [if_pos rfl, if_pos ⟨rfl, rfl⟩]
  refine va_last hx hb hK hP hD hA 7 2 w rfl (vp_in_iff.mpr ⟨h0, h1⟩) d (fun H1 locs1 q1 q2 q3 => ?_)
  rw [e2] at q1 q2
  exact K s2 H1 locs1 _ h4 q1 q2 q3 e1
end SL
