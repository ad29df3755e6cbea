/-! single instructions: branches, arrays -/
section SB
variable {p : Program} {l : Launch} {e : Env} {R : Room} {s : State} {m : MethodId} {args : Array Value} {below : List Frame} {meth : Method} {c : Code} {H : Heap} {locs : List Loc} {cells slots : Nat} {Q : State → Prop} {ad : Nat → Nat} {i pc a nx cp : Nat} {v : Int} {ls : Array Slot} {S : List qa_V} {st : List Value} {L : qa_L}
theorem so_15 {x y : Int} {t : Nat} (hx : p.tables.exec = Jvm.exec) (hb : c.code = sd_b i) (hc : qa_code i pc = some (15, a, v, nx, cp)) (hS : RS ad (qi y :: qi x :: S) st) (ht : (t : Int) = v) (kt : ∀ st', RS ad S st' → qa_cmp a x y → W p l e R s m args below meth c H locs cells slots Q (F0 m t ls st')) (kf : ∀ st', RS ad S st' → ¬ qa_cmp a x y → W p l e R s m args below meth c H locs cells slots Q (F0 m nx ls st')) : W p l e R s m args below meth c H locs cells slots Q (F0 m pc ls st) := by
  obtain ⟨-, s1, rfl, ⟨y1, rfl, rfl⟩, h3⟩ := RS_cons hS
  obtain ⟨-, s2, rfl, ⟨x1, rfl, rfl⟩, h4⟩ := RS_cons h3
  have kt' := kt s2 h4
  have kf' := kf s2 h4
  unfold qa_cmp at kt' kf'
  obtain ⟨d, rfl⟩ := sd_d15 hc
  have hq : (pc : Int) + (v - pc) = (t : Int) := by omega
  rcases d with ⟨d, rfl⟩ | ⟨d, rfl⟩ | ⟨d, rfl⟩ | ⟨d, rfl⟩ | ⟨d, rfl⟩ | ⟨d, rfl⟩
  · exact lv_icmp_eq hx hb d hq (fun h => kt' (by rw [h]; omega)) (fun h => kf' (fun z => h (Int32.toInt_inj.mp (by omega))))
  · exact lv_icmp_ne hx hb d hq (fun h => kt' (by have : x1.toInt ≠ y1.toInt := fun z => h (Int32.toInt_inj.mp z); omega)) (fun h => kf' (by rw [h]; omega))
  · exact lv_icmp_lt hx hb d hq (fun h => kt' (by have := Int32.lt_iff_toInt_lt.mp h; omega)) (fun h => kf' (fun z => h (Int32.lt_iff_toInt_lt.mpr (by omega))))
  · exact lv_icmp_ge hx hb d hq (fun h => kt' (by have := Int32.le_iff_toInt_le.mp h; omega)) (fun h => kf' (fun z => h (Int32.le_iff_toInt_le.mpr (by omega))))
  · exact lv_icmp_gt hx hb d hq (fun h => kt' (by have := Int32.lt_iff_toInt_lt.mp h; omega)) (fun h => kf' (fun z => h (Int32.lt_iff_toInt_lt.mpr (by omega))))
  · exact lv_icmp_le hx hb d hq (fun h => kt' (by have := Int32.le_iff_toInt_le.mp h; omega)) (fun h => kf' (fun z => h (Int32.le_iff_toInt_le.mpr (by omega))))
theorem so_16 {x : Int} {t : Nat} (hx : p.tables.exec = Jvm.exec) (hb : c.code = sd_b i) (hc : qa_code i pc = some (16, a, v, nx, cp)) (hS : RS ad (qi x :: S) st) (ht : (t : Int) = v) (kt : ∀ st', RS ad S st' → qa_cmp a x 0 → W p l e R s m args below meth c H locs cells slots Q (F0 m t ls st')) (kf : ∀ st', RS ad S st' → ¬ qa_cmp a x 0 → W p l e R s m args below meth c H locs cells slots Q (F0 m nx ls st')) : W p l e R s m args below meth c H locs cells slots Q (F0 m pc ls st) := by
  obtain ⟨-, s2, rfl, ⟨x1, rfl, rfl⟩, h4⟩ := RS_cons hS
  have kt' := kt s2 h4
  have kf' := kf s2 h4
  unfold qa_cmp at kt' kf'
  obtain ⟨d, rfl⟩ := sd_d16 hc
  have hq : (pc : Int) + (v - pc) = (t : Int) := by omega
  have z0 : (0 : Int32).toInt = 0 := rfl
  rcases d with ⟨d, rfl⟩ | ⟨d, rfl⟩ | ⟨d, rfl⟩ | ⟨d, rfl⟩ | ⟨d, rfl⟩ | ⟨d, rfl⟩
  · exact lv_if_eq hx hb d hq (fun h => kt' (by rw [h, z0]; omega)) (fun h => kf' (fun z => h (Int32.toInt_inj.mp (by rw [z0]; omega))))
  · exact lv_if_ne hx hb d hq (fun h => kt' (by have : x1.toInt ≠ 0 := fun z => h (Int32.toInt_inj.mp z); omega)) (fun h => kf' (by rw [h, z0]; omega))
  · exact lv_if_lt hx hb d hq (fun h => kt' (by have := Int32.lt_iff_toInt_lt.mp h; rw [z0] at this; omega)) (fun h => kf' (fun z => h (Int32.lt_iff_toInt_lt.mpr (by rw [z0]; omega))))
  · exact lv_if_ge hx hb d hq (fun h => kt' (by have := Int32.le_iff_toInt_le.mp h; rw [z0] at this; omega)) (fun h => kf' (fun z => h (Int32.le_iff_toInt_le.mpr (by rw [z0]; omega))))
  · exact lv_if_gt hx hb d hq (fun h => kt' (by have := Int32.lt_iff_toInt_lt.mp h; rw [z0] at this; omega)) (fun h => kf' (fun z => h (Int32.lt_iff_toInt_lt.mpr (by rw [z0]; omega))))
  · exact lv_if_le hx hb d hq (fun h => kt' (by have := Int32.le_iff_toInt_le.mp h; rw [z0] at this; omega)) (fun h => kf' (fun z => h (Int32.le_iff_toInt_le.mpr (by rw [z0]; omega))))
theorem so_25 {x y : Int} (hx : p.tables.exec = Jvm.exec) (hb : c.code = sd_b i) (hc : qa_code i pc = some (25, a, v, nx, cp)) (hS : RS ad (ql y :: ql x :: S) st) (K : ∀ st', RS ad (qi (qa_sgn x y) :: S) st' → W p l e R s m args below meth c H locs cells slots Q (F0 m nx ls st')) : W p l e R s m args below meth c H locs cells slots Q (F0 m pc ls st) := by
  obtain ⟨-, s1, rfl, ⟨y1, rfl, rfl⟩, h3⟩ := RS_cons hS
  obtain ⟨-, s2, rfl, ⟨x1, rfl, rfl⟩, h4⟩ := RS_cons h3
  obtain ⟨d, rfl⟩ := sd_d25 hc
  refine W.lcmp hx hb d (K _ ⟨⟨_, rfl, ?_⟩, h4⟩)
  unfold lg_cmp qa_sgn
  by_cases h1 : x1 > y1
  · have := Int64.lt_iff_toInt_lt.mp h1
    rw [if_pos h1, if_neg (by omega), if_neg (by omega)]
    rfl
  · have n1 : ¬ y1.toInt < x1.toInt := fun z => h1 (Int64.lt_iff_toInt_lt.mpr z)
    by_cases h2 : x1 = y1
    · rw [if_neg h1, if_pos h2, if_neg (by rw [h2]; omega), if_pos (by rw [h2])]
      rfl
    · have n2 : x1.toInt ≠ y1.toInt := fun z => h2 (Int64.toInt_inj.mp z)
      rw [if_neg h1, if_neg h2, if_pos (by omega)]
      rfl
end SB
/-! arrays -/
def qw_cl : List vw_C := (List.range 6).map (fun c => (sd_R c, sd_T c, sd_N c))
theorem qw_cl_at {c : Nat} (h : c < 6) : qw_cl[c]? = some (sd_R c, sd_T c, sd_N c) := by
  unfold qw_cl
  rw [List.getElem?_map, List.getElem?_range h]
  rfl
def qw_ty (cA : Nat → ClassId) : List (ClassId × FieldType) := [(cA 0, .int), (cA 1, .boolean), (cA 2, .long)]
theorem qw_lenL {t k n : Nat} (h : qa_len t k = some n) : qa_lay k = some (.inr (t, n)) := by
  unfold qa_len at h
  split at h
  · rename_i q hq
    cases hb : Nat.beq q.1 t with
    | true =>
      rw [hb] at h
      have h : some q.2 = some n := h
      rw [hq, ← Nat.eq_of_beq_eq_true hb, ← Option.some.inj h]
    | false => rw [hb] at h; cases h
  · cases h
theorem qw_ref {ad : Nat → Nat} {k : Nat} {x : Value} (h : RV ad (qr k) x) (hk : k < 37) : x = .ref (ad k) := by
  obtain ⟨z, rfl, h⟩ := h
  rcases h with h | h
  · omega
  · rw [h]
theorem qw_clamp {x : Int32} (h : 0 ≤ x.toInt) : ((x.toNatClampNeg : Nat) : Int) = x.toInt := by
  show ((x.toInt.toNat : Nat) : Int) = x.toInt
  omega
section SA
variable {p : Program} {l : Launch} {e : Env} {R : Room} {s : State} {m : MethodId} {args : Array Value} {below : List Frame} {meth : Method} {c : Code} {H : Heap} {locs : List Loc} {cells slots : Nat} {Q : State → Prop} {ad : Nat → Nat} {i pc a nx cp : Nat} {v : Int} {ls : Array Slot} {S : List qa_V} {st : List Value} {D : va_G} {cA : Nat → ClassId} {C : qw_C} {M : qa_Mem}
theorem so_10 {x : Int} {k n : Nat} (hx : p.tables.exec = Jvm.exec) (hb : c.code = sd_b i) (hc : qa_code i pc = some (10, a, v, nx, cp)) (hS : RS ad (qi x :: qr k :: S) st) (hK : va_K D qw_cl (qw_ty cA) s) (hP : va_P D qw_cl (qw_ws cA ad C) H) (hM : RM C M) (hn : qa_len a k = some n) (ha : a = 0 ∨ a = 1) (h0 : 0 ≤ x) (h1 : x < n) (K : ∀ st', RS ad (qi (M k x) :: S) st' → W p l e R s m args below meth c H locs cells slots Q (F0 m nx ls st')) : W p l e R s m args below meth c H locs cells slots Q (F0 m pc ls st) := by
  obtain ⟨-, s1, rfl, ⟨x1, rfl, rfl⟩, h3⟩ := RS_cons hS
  obtain ⟨w0, s2, rfl, h5, h4⟩ := RS_cons h3
  have hl := qw_lenL hn
  have hk := qw_lay_lt hl
  obtain rfl := qw_ref h5 hk
  obtain ⟨d, rfl⟩ := sd_d10 hc
  have a2 : a ≠ 2 := by omega
  have w : (qw_ws cA ad C)[k]? = some (ad k, .inl (cA a, n, .inl (C.1 k))) := by
    rw [qw_at hk]
    unfold qw_c
    rw [hl]
    show some (ad k, Sum.inl (cA a, n, bif Nat.beq a 2 then _ else _)) = _
    cases hb2 : Nat.beq a 2 with
    | true => exact absurd (Nat.eq_of_beq_eq_true hb2) a2
    | false => rfl
  have vin : vp_in x1 n := vp_in_iff.mpr ⟨h0, h1⟩
  have cl := qw_clamp h0
  have e1 : (C.1 k x1.toNatClampNeg).toInt = M k x1.toInt := by
    rw [hM.1 k _ (by unfold qw_ok; rw [hl]; exact ⟨a2, by omega⟩), cl]
  rcases ha with rfl | rfl
  · exact va_iald hx hb hK hP k 0 w rfl vin d (K _ ⟨⟨_, rfl, e1⟩, h4⟩)
  · exact va_zald hx hb hK hP k 1 w rfl vin d (K _ ⟨⟨_, rfl, e1⟩, h4⟩)
end SA
