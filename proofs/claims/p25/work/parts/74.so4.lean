/-! single instructions: longs -/
section SL
variable {p : Program} {l : Launch} {e : Env} {R : Room} {s : State} {m : MethodId} {args : Array Value} {below : List Frame} {meth : Method} {c : Code} {H : Heap} {locs : List Loc} {cells slots : Nat} {Q : State → Prop} {ad : Nat → Nat} {i pc a nx cp : Nat} {v : Int} {ls : Array Slot} {S : List qa_V} {st : List Value} {D : va_G} {cA : Nat → ClassId} {C : qw_C} {M : qa_Mem}
theorem so_24 {x : Int} {k n : Nat} (hx : p.tables.exec = Jvm.exec) (hb : c.code = sd_b i) (hc : qa_code i pc = some (24, a, v, nx, cp)) (hS : RS ad (qi x :: qr k :: S) st) (hK : va_K D qw_cl (qw_ty cA) s) (hP : va_P D qw_cl (qw_ws cA ad C) H) (hM : RM C M) (hn : qa_len 2 k = some n) (h0 : 0 ≤ x) (h1 : x < n) (K : ∀ st', RS ad (ql (M k x) :: S) st' → W p l e R s m args below meth c H locs cells slots Q (F0 m nx ls st')) : W p l e R s m args below meth c H locs cells slots Q (F0 m pc ls st) := by
  obtain ⟨-, s1, rfl, ⟨x1, rfl, rfl⟩, h3⟩ := RS_cons hS
  obtain ⟨w0, s2, rfl, h5, h4⟩ := RS_cons h3
  have hl := qw_lenL hn
  have hk := qw_lay_lt hl
  obtain rfl := qw_ref h5 hk
  obtain ⟨d, rfl⟩ := sd_d24 hc
  have w : (qw_ws cA ad C)[k]? = some (ad k, .inl (cA 2, n, .inr (.inl (C.2 k)))) := by
    rw [qw_at hk]
    unfold qw_c
    rw [hl]
    rfl
  have cl := qw_clamp h0
  have e1 : (C.2 k x1.toNatClampNeg).toInt = M k x1.toInt := by
    rw [hM.2 k n _ hl (by omega), cl]
  exact va_lald hx hb hK hP k 2 w rfl (vp_in_iff.mpr ⟨h0, h1⟩) d (K _ ⟨⟨_, rfl, e1⟩, h4⟩)
end SL
