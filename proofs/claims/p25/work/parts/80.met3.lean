/-! a method's contract out of what the claim says of its body -/
theorem RS_snoc {ad : Nat → Nat} : ∀ {S : List qa_V} {st : List Value} {v : qa_V} {x : Value}, RS ad S st → RV ad v x → RS ad (S ++ [v]) (st ++ [x])
  | [], [], v, x, _, h => ⟨h, trivial⟩
  | _ :: S, _ :: st, v, x, h, hx => ⟨h.1, RS_snoc (S := S) (st := st) h.2 hx⟩
  | [], _ :: _, _, _, h, _ => h.elim
  | _ :: _, [], _, _, h, _ => h.elim
theorem RS_rev {ad : Nat → Nat} : ∀ {S : List qa_V} {st : List Value}, RS ad S st → RS ad S.reverse st.reverse
  | [], [], _ => trivial
  | v :: S, x :: st, h => by
    rw [List.reverse_cons, List.reverse_cons]
    exact RS_snoc (RS_rev (S := S) (st := st) h.2) h.1
  | [], _ :: _, h => h.elim
  | _ :: _, [], h => h.elim
theorem RS_c1 {ad : Nat → Nat} : ∀ {S : List qa_V} {st : List Value}, RS ad S st → S.all qa_c1 = true → ∀ x ∈ st, x.category = 1
  | [], [], _, _ => fun x h => nomatch h
  | v :: S, y :: st, h, hc => fun x hx => by
    rw [List.all_cons, Bool.and_eq_true] at hc
    rcases List.mem_cons.mp hx with e | e
    · rw [e]; exact RV_c1 h.1 hc.1
    · exact RS_c1 (S := S) (st := st) h.2 hc.2 x e
  | [], _ :: _, h, _ => h.elim
  | _ :: _, [], h, _ => h.elim
theorem lg_sl_len : ∀ {vs : List Value}, (∀ x ∈ vs, x.category = 1) → (lg_sl vs).length = vs.length
  | [], _ => rfl
  | v :: vs, h => by
    have h1 := h v List.mem_cons_self
    have ih := lg_sl_len (vs := vs) (fun x m => h x (List.mem_cons_of_mem _ m))
    unfold lg_sl at ih ⊢
    rw [List.flatMap_cons, List.length_append, ih, if_neg (by rw [h1]; decide), List.length_cons, List.length_cons, List.length_nil]
    omega
theorem qw_args {ad : Nat → Nat} : ∀ {av : List qa_V} {vs : List Value} {i : Nat}, RS ad av vs → (∀ x ∈ vs, x.category = 1) → ∀ (a : Nat) (v : qa_V), qa_lk (qa_loc i av) a = some v → ∃ x, (a, x) ∈ lv_args i vs ∧ RV ad v x
  | [], [], i, _, _ => (fun a v h => nomatch h)
  | w :: av, y :: vs, i, h, hc => by
    have hy := hc y List.mem_cons_self
    have g2 := qw_args (ad := ad) (av := av) (vs := vs) (i := i + 1) h.2 (fun x m => hc x (List.mem_cons_of_mem _ m))
    have e : lv_args i (y :: vs) = (i, y) :: lv_args (i + 1) vs := by
      show (i, y) :: lv_args (if y.category = 2 then i + 2 else i + 1) vs = _
      rw [if_neg (by rw [hy]; decide)]
    rw [e]
    intro a v hv
    have hv : (bif Nat.beq i a then some w else qa_lk (qa_loc (i + 1) av) a) = some v := hv
    cases hb : Nat.beq i a with
    | true =>
      rw [hb] at hv
      cases hv
      rw [← Nat.eq_of_beq_eq_true hb]
      exact ⟨y, List.mem_cons_self, h.1⟩
    | false =>
      rw [hb] at hv
      obtain ⟨x, m, r⟩ := g2 a v hv
      exact ⟨x, List.mem_cons_of_mem _ m, r⟩
  | [], _ :: _, _, h, _ => h.elim
  | _ :: _, [], _, h, _ => h.elim
theorem RLo_sz {ad : Nat → Nat} {nL : Nat} {L : qa_L} {ls : Array Slot} (h : RLo ad nL L ls) : ls.size = nL := by
  obtain ⟨lc, h1, -⟩ := h
  exact h1.1
/-- what lies in the world stays there, if no old cell changes -/
theorem qw_kept {D : va_G} {cA : Nat → ClassId} {ad : Nat → Nat} {C : qw_C} {H H1 : Heap} (h : va_P D qw_cl (qw_ws cA ad C) H) (hq : ∀ q : Nat, q < H.size → H1[q]? = H[q]?) : va_P D qw_cl (qw_ws cA ad C) H1 := h.kept (fun k q hk => hq q.1 (vx_lt h hk))
section MT
variable {p : Program} {l : Launch} {e : Env} {R : Room} {s : State} {m : MethodId} {args : Array Value} {below : List Frame} {meth : Method} {c : Code} {H : Heap} {locs : List Loc} {i pc a nx cp k n : Nat} {v : Int} {ad : Nat → Nat} {D : va_G} {cA : Nat → ClassId} {C : qw_C} {M' : qa_Mem} {r : qa_R} {ls : Array Slot} {st : List Value} {A : Nat → Prop} {XC : String → State → State → Prop}
theorem cl_ret {op lo : Nat} {o : Option qa_V} (X : qw_cx p l R s m args meth c i D cA ad A) (hA0 : A = qw_A ad s.heap.size) (e1 : r = .inl o) (hc : qa_code i pc = some (op, a, v, nx, cp)) (ho : op = 19 ∧ (∃ x : Int, o = some (qi x)) ∨ op = 20 ∧ o = none ∨ op = 32 ∧ ∃ x : Int, o = some (ql x)) (h1 : op = 19 → a = 1 → ∃ x : Int, o = some (qi x) ∧ (x = 0 ∨ x = 1)) (hP : va_P D qw_cl (qw_ws cA ad C) H) (hA : va_S A s.heap H locs) (hM : RM C M') (hS : RS ad o.toList st) (hlo : s.heap.size + lo ≤ H.size) :
    W p l e R s m args below meth c H locs k (6 * k) (vx_MQ below (qw_Qc D cA ad s.heap.size lo r M') XC args s k (6 * k) (qw_A ad s.heap.size)) (F0 m pc ls st) := by
  obtain ⟨x1, x2, x3, x4, x5, -⟩ := X
  subst e1 hA0
  refine vx_ret ?_
  rcases ho with ⟨rfl, x, rfl⟩ | ⟨rfl, rfl⟩ | ⟨rfl, x, rfl⟩
  · obtain ⟨y, s1, rfl, ⟨z, rfl, rfl⟩, h3⟩ := RS_cons hS
    cases RS_nil h3
    have d := sd_d19 hc
    have hq : ∀ t : State, t.heap = H → s.WarmedH t.vm → qw_Qc D cA ad s.heap.size lo (.inl (some (qi z.toInt))) M' args s (.returned (some (.int z))) t := fun t ht hW => ⟨⟨z, C, rfl, ⟨rfl, hM⟩, (by unfold qw_B; rw [ht]; exact ⟨hP, hlo⟩)⟩, hA.F ht⟩
    rcases (sd_kk hc).2.1 rfl with ⟨ha, hr⟩ | ⟨ha, hr⟩
    · exact W.iret x1 x2 (x4.trans hr) hq hA.2.2 d x5
    · obtain ⟨x, ex, h01⟩ := h1 rfl ha
      have hz : z = 0 ∨ z = 1 := by
        have ex : z.toInt = x := by injection ex with ex; injection ex
        rcases h01 with h | h
        · exact Or.inl (Int32.toInt_inj.mp (by rw [ex, h]; rfl))
        · exact Or.inr (Int32.toInt_inj.mp (by rw [ex, h]; rfl))
      exact W.zret x1 x2 (x4.trans hr) (by rcases hz with rfl | rfl <;> rfl) hq hA.2.2 d x5
  · cases RS_nil hS
    have d := sd_d20 hc
    exact W.vret x1 x2 (x4.trans ((sd_kk hc).2.2.1 rfl)) (fun t ht hW => ⟨⟨C, rfl, hM, (by unfold qw_B; rw [ht]; exact ⟨hP, hlo⟩)⟩, hA.F ht⟩) hA.2.2 d x5
  · obtain ⟨y, s1, rfl, ⟨z, rfl, rfl⟩, h3⟩ := RS_cons hS
    cases RS_nil h3
    have d := sd_d32 hc
    exact W.lret x1 x2 (x4.trans ((sd_kk hc).2.2.2.2 rfl)) (fun t ht hW => ⟨⟨z, C, rfl, ⟨rfl, hM⟩, (by unfold qw_B; rw [ht]; exact ⟨hP, hlo⟩)⟩, hA.F ht⟩) hA.2.2 d x5
theorem cl_thr (X : qw_cx p l R s m args meth c i D cA ad A) (hA0 : A = qw_A ad s.heap.size) (e1 : r = .inr a) (hc : qa_code i pc = some (21, a, v, nx, cp)) (hP : va_P D qw_cl (qw_ws cA ad C) H) (hA : va_S A s.heap H locs) (hM : RM C M') (hk : n + 1 = k) (hR : k ≤ R.cells ∧ 6 * k ≤ R.slots) (hs : ls.size = c.maxLocals) (hlo : s.heap.size + n ≤ H.size) {Qc : Array Value → State → Outcome → State → Prop} :
    W p l e R s m args below meth c H locs n (6 * n) (vx_MQ below Qc (qw_Xc D cA ad s.heap.size k r M') args s k (6 * k) (qw_A ad s.heap.size)) (F0 m pc ls []) := by
  obtain ⟨x1, x2, x3, x4, x5, x6, x7, x8, x9, x10, x11, x12, x13, x14⟩ := X
  subst e1 hA0
  obtain ⟨d0, d3, d4, d7⟩ := sd_d21 hc
  obtain ⟨t1, t2, t3, t4, t5⟩ := sd_tt hc x7 x8.2.2.2.2.2
  obtain ⟨f1, -, f3, f4, -⟩ := (sd_kk hc).2.2.2.1 rfl
  refine vx_throw0 (own := sd_R 5) (cls := sd_E a) (names := sd_ex) (ik := cp) (ic := v.toNat) x1 x2 x11 (by rw [← t3]; exact x6) t2 (by decide) (t1 _ List.mem_cons_self).2 (t1 _ (List.mem_cons_of_mem _ List.mem_cons_self)).2 (fun w hw => (t1 w (List.mem_cons_of_mem _ (List.mem_cons_of_mem _ hw))).2) (fun w hw => (t1 w hw).1) x8.2.1 x8.2.2.1 hA hs d0 d3 d4 d7 ?_ ?_ ?_ (by omega) (by omega) x5 (fun t hvm hz hq => ?_) hA.2.2 (by omega) (by omega)
  · rw [x12 (by omega), f4]
    exact fun x hx => nomatch hx
  · show 2 + 3 < R.frames
    omega
  · show 0 + (13 * (2 + 1) + 42) ≤ R.locals
    omega
  · refine ⟨C, hM, ⟨rfl, qw_kept hP hq, by omega⟩, Nat.le_trans hA.1 (Nat.le_of_lt hz), fun q h1 h2 => ?_⟩
    rw [hq q (Nat.lt_of_lt_of_le h1 hA.1)]
    exact hA.2.1 q h1 h2
end MT
theorem cl_met {l : Launch} (hl : l.stackTraces = false) {a k : Nat} {av : List qa_V} {M M' : qa_Mem} {r : qa_R} (ha : a < 55) (hav : av.length ≤ sd_l a) (hc1 : av.all qa_c1 = true) (hk : M' 99 0 - M 99 0 = (k : Int)) (h : CL l a 0 (qa_loc 0 av) [] M r M') : qw_Met l a k av M r M' := by
  intro D cA ad C vs sz inj hM hV
  refine sd_ofW (by omega) (fun p e s m args below meth c s₁ B hml ht hP => ?_)
  obtain ⟨rfl, rfl, hPw, hfx, hsx⟩ := hP
  have hts : ∀ w ∈ sd_w a, w.before vs.toArray s = true := atoms_spec (ws := sd_w a) B.pre
  have hcat := RS_c1 hV hc1
  have hlen : (lg_sl vs).length ≤ sd_l a := by rw [lg_sl_len hcat, ← RS_len hV]; exact hav
  rw [lg_entry_eq]
  have lvh := lv_entry vs hlen
  generalize (lg_sl vs ++ List.replicate (sd_l a - (lg_sl vs).length) Slot.unset).toArray = ls at lvh ⊢
  have g2 := qw_args (i := 0) hV hcat
  have hown : s.vm.findClass (sd_R (sd_c a)) = some m.cls := by
    rw [← (sd_nm (i := a) (by omega)).2.2.2]
    exact findClass_of_methodNamed B.named
  have X : qw_cx p l (headSpec (sd_w a) (qw_rm a k)).room s m vs.toArray meth c a D cA ad (qw_A ad s.heap.size) := ⟨B.exec, B.bytes, hml, B.returns, B.notSynchronized, hown, fun w hw => hts w (List.mem_cons_of_mem _ hw), hfx, inj, rfl, hl, fun _ => ht, Nat.le_refl _, Nat.le_refl _⟩
  refine h.2 p e _ s m _ below meth c D cA ad (qw_A ad s.heap.size) s.heap [] C 0 k 0 0 s.heap.size ls [] _ X hsx hPw va_S.rf hM ⟨_, lvh, g2⟩ trivial (by omega) (Nat.le_refl _) (Nat.le_refl _) (Nat.le_refl _) ⟨?_, ?_, ?_⟩
  · intro o pc op b nx cp v H locs C1 ls1 st1 e1 hc hop h01 hP1 hA1 hM1 hS1 hlo
    exact cl_ret X rfl e1 hc hop h01 hP1 hA1 hM1 hS1 hlo
  · intro E pc b nx cp v H locs C1 n ls1 e1 hc hP1 hA1 hM1 hn hs hlo
    exact cl_thr X rfl e1 hc hP1 hA1 hM1 hn ⟨Nat.le_refl _, Nat.le_refl _⟩ hs hlo
  · intro E pc H locs C1 ls1 st1 ce q e1 hh hP1 hA1 hM1 hce hcv hcl hlo
    subst e1
    refine vx_out (E := sd_E E) ?_ X.2.2.2.2.1 hce hcv hcl (fun t hth hvm => ⟨C1, hM1, ⟨rfl, by unfold qw_B; rw [hth]; exact ⟨hP1, hlo⟩⟩, hA1.F hth⟩) hA1.2.2 (Nat.le_refl _) (Nat.le_refl _)
    rw [ht, hh]
    exact fun x hx => nomatch hx
