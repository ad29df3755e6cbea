/-! single instructions: fields, longs, the script -/
def sd_uB (c : Nat) : Bool := (u_ws (sd_R c) (sd_T c) (sd_N c)).all (fun w => decide (w ∈ lw_tbl) && goodWord w) && (List.range (sd_N c)).all (fun k => (parseFieldDescriptor (sd_T c k).2.2.1).isSome && (List.range (sd_N c)).all (fun j => Nat.beq j k || decide ((sd_T c j).2.1 ≠ (sd_T c k).2.1)))
theorem sd_u_a : (List.range 6).all sd_uB = true := by decide +kernel
def sd_ty (c k : Nat) : FieldType := (parseFieldDescriptor (sd_T c k).2.2.1).getD .int
theorem sd_u {c : Nat} (h : c < 6) : (∀ w ∈ u_ws (sd_R c) (sd_T c) (sd_N c), w ∈ AW) ∧ (∀ k, k < sd_N c → parseFieldDescriptor (sd_T c k).2.2.1 = some (sd_ty c k)) ∧ (∀ a, a < sd_N c → ∀ b, b < sd_N c → a ≠ b → (sd_T c a).2.1 ≠ (sd_T c b).2.1) := by
  have g := List.all_eq_true.mp sd_u_a c (List.mem_range.mpr h)
  unfold sd_uB at g
  simp only [Bool.and_eq_true] at g
  refine ⟨fun w hw => ?_, fun k hk => ?_, fun a ha b hb n => ?_⟩
  · have := List.all_eq_true.mp g.1 w hw
    simp only [Bool.and_eq_true, decide_eq_true_eq] at this
    exact aw_in this.1 this.2
  · have := List.all_eq_true.mp g.2 k (List.mem_range.mpr hk)
    simp only [Bool.and_eq_true] at this
    unfold sd_ty
    cases hq : parseFieldDescriptor (sd_T c k).2.2.1 with
    | none => rw [hq] at this; cases this.1
    | some y => rfl
  · have := List.all_eq_true.mp g.2 b (List.mem_range.mpr hb)
    simp only [Bool.and_eq_true] at this
    have := List.all_eq_true.mp this.2 a (List.mem_range.mpr ha)
    simp only [Bool.or_eq_true, decide_eq_true_eq] at this
    rcases this with z | z
    · exact absurd (Nat.eq_of_beq_eq_true z) n
    · exact z
theorem qw_fI {c k j : Nat} (h : qa_fI c k j = true) : ∃ fs, qa_lay k = some (.inl (c, fs)) ∧ fs[j]? = some none := by
  unfold qa_fI at h
  split at h
  · rename_i q hq
    simp only [Bool.and_eq_true] at h
    obtain ⟨h1, h2⟩ := h
    refine ⟨q.2, by rw [hq, ← Nat.eq_of_beq_eq_true h1], ?_⟩
    split at h2
    · assumption
    · cases h2
  · cases h
theorem qw_fR {c k j k1 : Nat} (h : qa_fR c k j = some k1) : ∃ fs, qa_lay k = some (.inl (c, fs)) ∧ fs[j]? = some (some k1) := by
  unfold qa_fR at h
  split at h
  · rename_i q hq
    cases hb : Nat.beq q.1 c with
    | false => rw [hb] at h; cases h
    | true =>
      rw [hb] at h
      refine ⟨q.2, by rw [hq, ← Nat.eq_of_beq_eq_true hb], ?_⟩
      cases hz : q.2[j]? with
      | none => rw [hz] at h; cases h
      | some y =>
        rw [hz] at h
        exact congrArg some h
  · cases h
theorem qw_c_o {cA : Nat → ClassId} {ad : Nat → Nat} {C : qw_C} {k c : Nat} {fs : List (Option Nat)} (h : qa_lay k = some (.inl (c, fs))) : (qw_ws cA ad C)[k]? = some (ad k, .inr (c, (List.range fs.length).map (qw_v ad C k fs))) := by
  rw [qw_at (qw_lay_lt h)]
  unfold qw_c
  rw [h]
section SF
variable {p : Program} {l : Launch} {e : Env} {R : Room} {s : State} {m : MethodId} {args : Array Value} {below : List Frame} {meth : Method} {c : Code} {H : Heap} {locs : List Loc} {cells slots : Nat} {Q : State → Prop} {ad : Nat → Nat} {i pc a nx cp : Nat} {v : Int} {ls : Array Slot} {S : List qa_V} {st : List Value} {D : va_G} {cA : Nat → ClassId} {C : qw_C} {M : qa_Mem} {A : Nat → Prop} {H0 : Heap}
theorem so_12 {k : Nat} (hx : p.tables.exec = Jvm.exec) (hb : c.code = sd_b i) (hc : qa_code i pc = some (12, a, v, nx, cp)) (hw : ∀ w ∈ AW, w.before args s = true) (hown : s.vm.findClass (sd_R (sd_c i)) = some m.cls) (hS : RS ad (qr k :: S) st) (hK : va_K D qw_cl (qw_ty cA) s) (hP : va_P D qw_cl (qw_ws cA ad C) H) (hM : RM C M) (hf : qa_fI a k v.toNat = true) (K : ∀ st', RS ad (qi (M k v) :: S) st' → W p l e R s m args below meth c H locs cells slots Q (F0 m nx ls st')) : W p l e R s m args below meth c H locs cells slots Q (F0 m pc ls st) := by
  obtain ⟨w0, s2, rfl, h5, h4⟩ := RS_cons hS
  obtain ⟨fs, hl, hj⟩ := qw_fI hf
  obtain rfl := qw_ref h5 (qw_lay_lt hl)
  obtain ⟨f1, f2, f3, f4, f5⟩ := sd_fw hc (by decide) (by decide)
  obtain ⟨d, rfl⟩ := sd_d12 hc
  have lt := (List.getElem?_eq_some_iff.mp hj).1
  refine va_get (own := sd_R (sd_c i)) (ref := sd_R a) (C := sd_R a) (T := sd_T a) (N := sd_N a) (ci := a) (v := .int (C.1 k v.toNat)) hx hb hw (sd_u f3).1 hown hK hP k (qw_c_o hl) (qw_cl_at f3) v.toNat f2 (hw _ f4) (fun x h9 => by rw [f5] at h9; exact h9) ?_ d (K _ ⟨⟨_, rfl, ?_⟩, h4⟩)
  · rw [List.getElem?_map, List.getElem?_range lt]
    show some (qw_v ad C k fs v.toNat) = _
    unfold qw_v
    rw [hj]
  · rw [hM.1 k v.toNat (by unfold qw_ok; rw [hl]; exact hj), Int.toNat_of_nonneg f1]
theorem so_13 {k k1 : Nat} (hx : p.tables.exec = Jvm.exec) (hb : c.code = sd_b i) (hc : qa_code i pc = some (13, a, v, nx, cp)) (hw : ∀ w ∈ AW, w.before args s = true) (hown : s.vm.findClass (sd_R (sd_c i)) = some m.cls) (hS : RS ad (qr k :: S) st) (hK : va_K D qw_cl (qw_ty cA) s) (hP : va_P D qw_cl (qw_ws cA ad C) H) (hf : qa_fR a k v.toNat = some k1) (K : ∀ st', RS ad (qr k1 :: S) st' → W p l e R s m args below meth c H locs cells slots Q (F0 m nx ls st')) : W p l e R s m args below meth c H locs cells slots Q (F0 m pc ls st) := by
  obtain ⟨w0, s2, rfl, h5, h4⟩ := RS_cons hS
  obtain ⟨fs, hl, hj⟩ := qw_fR hf
  obtain rfl := qw_ref h5 (qw_lay_lt hl)
  obtain ⟨f1, f2, f3, f4, f5⟩ := sd_fw hc (by decide) (by decide)
  obtain ⟨d, rfl⟩ := sd_d13 hc
  have lt := (List.getElem?_eq_some_iff.mp hj).1
  refine va_get (own := sd_R (sd_c i)) (ref := sd_R a) (C := sd_R a) (T := sd_T a) (N := sd_N a) (ci := a) (v := .ref (ad k1)) hx hb hw (sd_u f3).1 hown hK hP k (qw_c_o hl) (qw_cl_at f3) v.toNat f2 (hw _ f4) (fun x h9 => by rw [f5] at h9; exact h9) ?_ d (K _ ⟨⟨_, rfl, Or.inr rfl⟩, h4⟩)
  rw [List.getElem?_map, List.getElem?_range lt]
  show some (qw_v ad C k fs v.toNat) = _
  unfold qw_v
  rw [hj]
theorem so_26 {x : Int} {b Ln : Nat} {xs : Nat → Int32} (hx : p.tables.exec = Jvm.exec) (hb : c.code = sd_b i) (hc : qa_code i pc = some (26, a, v, nx, cp)) (hS : RS ad (qi x :: qr 998 :: S) st) (had : ad 998 = b) (hX : va_X b Ln xs s H0) (hbl : b < H0.size) (hbA : ¬ A b) (hA : va_S A H0 H locs) (h0 : 0 ≤ x) (h1 : x < Ln) (hv : ∀ j : Nat, j < Ln → (xs j).toInt = M 98 j) (K : ∀ st', RS ad (qi (M 98 x) :: S) st' → W p l e R s m args below meth c H locs cells slots Q (F0 m nx ls st')) : W p l e R s m args below meth c H locs cells slots Q (F0 m pc ls st) := by
  obtain ⟨-, s1, rfl, ⟨x1, rfl, rfl⟩, h3⟩ := RS_cons hS
  obtain ⟨w0, s2, rfl, ⟨z, rfl, h5⟩, h4⟩ := RS_cons h3
  obtain ⟨d, rfl⟩ := sd_d26 hc
  have cl := qw_clamp h0
  have hz : z = b := by
    rcases h5 with h5 | h5
    · omega
    · rw [h5, had]
  subst hz
  exact va_sld hx hb hX hbl hbA hA (vp_in_iff.mpr ⟨h0, h1⟩) d (K _ ⟨⟨_, rfl, by rw [hv _ (by omega), cl]⟩, h4⟩)
theorem so_27 {b Ln : Nat} {xs : Nat → Int32} (hx : p.tables.exec = Jvm.exec) (hb : c.code = sd_b i) (hc : qa_code i pc = some (27, a, v, nx, cp)) (hS : RS ad (qr 998 :: S) st) (had : ad 998 = b) (hX : va_X b Ln xs s H0) (hbl : b < H0.size) (hbA : ¬ A b) (hA : va_S A H0 H locs) (hl : Ln ≤ 260) (hv : M 97 0 = Ln) (K : ∀ st', RS ad (qi (M 97 0) :: S) st' → W p l e R s m args below meth c H locs cells slots Q (F0 m nx ls st')) : W p l e R s m args below meth c H locs cells slots Q (F0 m pc ls st) := by
  obtain ⟨w0, s2, rfl, ⟨z, rfl, h5⟩, h4⟩ := RS_cons hS
  obtain ⟨d, rfl⟩ := sd_d27 hc
  have hz : z = b := by
    rcases h5 with h5 | h5
    · omega
    · rw [h5, had]
  subst hz
  exact va_slen hx hb hX hbl hbA hA d (K _ ⟨⟨_, rfl, by rw [hv]; exact nI_toInt (by omega)⟩, h4⟩)
end SF
