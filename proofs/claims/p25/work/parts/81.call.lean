/-! a call -/
theorem sd_rc_a : (List.range 56).all (fun a => match qa_rc a with
  | none => sd_st a
  | some k => !(sd_st a) && (match qa_lay k with
    | some (.inl q) => Nat.beq q.1 (sd_c a)
    | _ => false)) = true := by decide +kernel
theorem sd_rc {a : Nat} (ha : a < 56) (h : sd_st a = false) : ∃ k fs, qa_rc a = some k ∧ qa_lay k = some (.inl (sd_c a, fs)) := by
  have c := List.all_eq_true.mp sd_rc_a a (List.mem_range.mpr ha)
  cases hk : qa_rc a with
  | none => rw [hk] at c; have c : sd_st a = true := c; rw [h] at c; cases c
  | some k =>
    rw [hk] at c
    simp only [Bool.and_eq_true] at c
    obtain ⟨-, c⟩ := c
    split at c
    · rename_i q hq
      exact ⟨k, q.2, rfl, by rw [hq, ← Nat.eq_of_beq_eq_true c]⟩
    · cases c
theorem qa_ok_c1 {a : Nat} {as : List qa_V} (h : qa_ok a as = true) : as.all qa_c1 = true := by
  unfold qa_ok at h
  rw [Bool.and_eq_true] at h
  exact h.1
theorem qa_ok_rc {a k : Nat} {as : List qa_V} (h : qa_ok a as = true) (hk : qa_rc a = some k) : ∃ as0, as = as0 ++ [qr k] := by
  unfold qa_ok at h
  rw [Bool.and_eq_true, hk] at h
  have h := h.2
  rcases List.eq_nil_or_concat as with e | ⟨as0, v, e⟩
  · subst e; cases h
  · rw [List.concat_eq_append] at e
    subst e
    have h : (as0 ++ [v]).foldl (fun _ v => qa_is k v) false = true := h
    rw [List.foldl_append] at h
    have h : qa_is k v = true := h
    rcases v with x | x | x
    · cases h
    · have h : Nat.beq x k = true := h
      exact ⟨as0, by rw [Nat.eq_of_beq_eq_true h]⟩
    · cases h
theorem sd_wd_0 {a : Nat} (h : sd_h a = []) : sd_wd a = Cond.code (sd_y a) (sd_b a) (sd_l a) (sd_r a) := by
  unfold sd_wd
  rw [h]
  rfl
theorem sd_wd_1 {a : Nat} (h : sd_h a ≠ []) : sd_wd a = Cond.codeWith (sd_y a) (sd_b a) (sd_l a) (sd_r a) (sd_h a) := by
  unfold sd_wd
  cases hz : sd_h a with
  | nil => exact absurd hz h
  | cons q t => rfl
theorem qw_A_m {ad : Nat → Nat} {n m : Nat} (h : n ≤ m) : ∀ q, qw_A ad m q → qw_A ad n q := fun q z => z.elim Or.inl (fun z => Or.inr (Nat.le_trans h z))
theorem RS_cat {ad : Nat → Nat} : ∀ {S : List qa_V} {st : List Value}, RS ad S st → (st.map fun v => v.category).sum ≤ qa_cs S
  | [], [], _ => Nat.le_refl _
  | v :: S, x :: st, h => by
    have ih := RS_cat (S := S) (st := st) h.2
    rw [List.map_cons, List.sum_cons]
    unfold qa_cs
    cases hv : qa_c1 v with
    | true =>
      have := RV_c1 h.1 hv
      simp only [cond_true]
      omega
    | false =>
      have hx : x.category ≤ 2 := by
        unfold Value.category
        split <;> omega
      simp only [cond_false]
      omega
  | [], _ :: _, h => h.elim
  | _ :: _, [], h => h.elim
theorem vx_of_va {p : Program} {l : Launch} {e : Env} {R : Room} {s : State} {m : MethodId} {args : Array Value} {below : List Frame} {meth : Method} {c : Code} {H : Heap} {locs : List Loc} {cells slots mc ms : Nat} {g : JFrame} {rest : List Value} {Qa : State → Outcome → State → Prop} {XC : String → State → State → Prop} {free : Addr → Prop}
    (h : va_Run p l e R s m args below meth c H locs cells slots mc ms g rest Qa free) : vx_Run p l e R s m args below meth c H locs cells slots mc ms g rest Qa XC free := fun T hT X => Or.inl (h T hT X)
theorem vx_imp {p : Program} {l : Launch} {e : Env} {R : Room} {s : State} {m : MethodId} {args : Array Value} {below : List Frame} {meth : Method} {c : Code} {H : Heap} {locs : List Loc} {cells slots mc ms : Nat} {g : JFrame} {rest : List Value} {Qa Qb : State → Outcome → State → Prop} {XC XD : String → State → State → Prop} {free : Addr → Prop}
    (h : vx_Run p l e R s m args below meth c H locs cells slots mc ms g rest Qa XC free) (h1 : ∀ u o t, Qa u o t → Qb u o t) (h2 : ∀ E u t, XC E u t → XD E u t) : vx_Run p l e R s m args below meth c H locs cells slots mc ms g rest Qb XD free := by
  intro T hT X
  rcases h T hT X with ⟨v, st₀, t, T', L, a1, a2, a3, a4, a5, a6, a7⟩ | ⟨q, st₀, t, T', L, E, ce, a1, a2, a3, a4, a5, a6, a7⟩
  · exact Or.inl ⟨v, st₀, t, T', L, a1, a2, a3, a4, a5, h1 _ _ _ a6, a7⟩
  · exact Or.inr ⟨q, st₀, t, T', L, E, ce, a1, a2, a3, a4, a5, h2 _ _ _ a6, a7⟩
section CA
variable {p : Program} {l : Launch} {e : Env} {R : Room} {s : State} {m : MethodId} {args : Array Value} {below : List Frame} {meth : Method} {c : Code} {H : Heap} {locs : List Loc} {i pc a nx cp k1 n z nb : Nat} {v : Int} {ad : Nat → Nat} {D : va_G} {cA : Nat → ClassId} {C : qw_C} {M M1 : qa_Mem} {r1 : qa_R} {ls : Array Slot} {A : Nat → Prop} {as : List qa_V} {vs s2 : List Value}
theorem cl_run (X : qw_cx p l R s m args meth c i D cA ad A) (hc : qa_code i pc = some (18, a, v, nx, cp)) (en : (as.length : Int) = v) (ok : qa_ok a as = true) (hth : ∀ E, r1 = .inr E → sd_th a = true) (hP : va_P D qw_cl (qw_ws cA ad C) H) (hA : va_S A s.heap H locs) (hM : RM C M) (hV : RS ad as.reverse vs) (hls : ls.size = sd_l i) (hs2 : (s2.map fun v => v.category).sum ≤ 8) (Y : qw_sx s ad A M s.heap) (hR : nb + n + k1 ≤ R.cells ∧ (6 * n + z) + 6 * k1 ≤ R.slots) (MM : qw_Met l a k1 as.reverse M r1 M1) :
    vx_Run p l e R s m args below meth c H locs (nb + n) (6 * n + z) k1 (6 * k1) (F0 m pc ls (vs.reverse ++ s2)) s2 (qw_Qc D cA ad H.size k1 r1 M1 vs.toArray) (qw_Xc D cA ad H.size k1 r1 M1) (qw_A ad H.size) := by
  obtain ⟨x1, x2, x3, x4, x5, x6, x7, x8, x9, x10, x11, x12, x13, x14⟩ := X
  have MM := MM D cA ad C vs H.size x9 hM hV
  obtain ⟨⟨c1, c2, c3, c4, c5, c6⟩, K⟩ := sd_cx hc
  obtain ⟨nm1, nm2, nm3, nm4⟩ := sd_nm (i := a) (by omega)
  have d := (sd_d18 hc).1
  have CF : CallFix p m c (sd_b i) (sd_l i) s args AW (sd_R (sd_c i)) := ⟨x1, x2, x3, x6, x7⟩
  have hpU : ∀ U : State, U.heap = H → s.WarmedH U.vm → qw_P D cA ad C M vs H.size vs.toArray U := fun U hU hW => ⟨rfl, by rw [hU], by rw [hU]; exact hP, by rw [hU]; exact qw_fx_w hW hA.2.1 (by rw [x10]; exact qw_A_m hA.1) x8, by rw [hU]; exact qw_sx_w hW hA (fun q z => Or.inl (by rw [x10]; exact qw_A_m hA.1 q z)) Y⟩
  have lv : vs.length = as.length := by rw [← RS_len hV, List.length_reverse]
  have own := sd_wd_in c1
  have RR : (qw_rm a k1).frames + 1 ≤ R.frames ∧ 8 + (sd_l a + 11) + (qw_rm a k1).locals ≤ R.locals := ⟨Nat.le_trans c2 x13, Nat.le_trans c3 x14⟩
  have g3 : ∀ {w1 w2 w3 : Cond}, w1 ∈ AW → w2 ∈ AW → w3 ∈ AW → ∀ w ∈ ([w1, w2, w3] : List Cond) ++ sd_w a, w ∈ AW := by
    intro w1 w2 w3 h1 h2 h3 w hw
    rcases List.mem_append.mp hw with q | q
    · rcases List.mem_cons.mp q with q | q
      · rw [q]; exact h1
      rcases List.mem_cons.mp q with q | q
      · rw [q]; exact h2
      rcases List.mem_cons.mp q with q | q
      · rw [q]; exact h3
      · cases q
    · rcases List.mem_cons.mp q with q | q
      · rw [q]; exact own
      · exact q
  rcases K with ⟨k1s, kh, kl, kst⟩ | ⟨k1s, kh, kl, kin, kse⟩ | ⟨k1s, kth, kh, kl, kst⟩ | ⟨k1s, kh, kl, kst⟩
  · rw [if_pos k1s] at d
    rw [k1s] at c4
    have hw : sd_w a = Cond.code (sd_y a) (sd_b a) (sd_l a) (sd_r a) :: AW := by unfold sd_w; rw [sd_wd_0 kh]
    exact vx_runS CF MM (va_cwS (as.length) x7 (aw_good (g3 kl kst c6) (g3 kl kst c6)) hw rfl rfl ⟨nm2, nm3, by rw [c4]; congr 1; simp only [cond_true]; omega⟩ RR) ⟨qw_P_b, hpU⟩ rfl lv hls rfl (by show 0 + _ ≤ 8; omega) d hR
  · rw [if_neg (by rw [k1s]; decide)] at d
    rw [k1s] at c4 c5
    have hw : sd_w a = Cond.code (sd_y a) (sd_b a) (sd_l a) (sd_r a) :: AW := by unfold sd_w; rw [sd_wd_0 kh]
    obtain ⟨k, fs, hk, hy⟩ := sd_rc (a := a) (by omega) k1s
    obtain ⟨as0, rfl⟩ := qa_ok_rc ok hk
    rw [List.reverse_append] at hV
    obtain ⟨y, As, rfl, hy1, hV0⟩ := RS_cons (S := as0.reverse) hV
    obtain rfl := qw_ref hy1 (qw_lay_lt hy)
    have g4 : ∀ w ∈ wsV (sd_R (sd_c i)) cp (sd_y a).cls (sd_y a) (sd_w a), w ∈ AW := by
      intro w hw
      rcases List.mem_append.mp hw with q | q
      · rcases List.mem_cons.mp q with q | q
        · rw [q]; exact kl
        rcases List.mem_cons.mp q with q | q
        · rw [q]; exact kin
        rcases List.mem_cons.mp q with q | q
        · rw [q]; exact kse
        rcases List.mem_cons.mp q with q | q
        · rw [q]; exact c6
        · cases q
      · rcases List.mem_cons.mp q with q | q
        · rw [q]; exact own
        · exact q
    have cell : ∃ cellB : Cell, H[ad k]? = some cellB ∧ cellB.vm.isStatics = false ∧ s.vm.findClass (sd_y a).cls = some cellB.cls := by
      obtain ⟨rr, e1, cell, e2, e3, e4, -⟩ := hP k _ (qw_c_o hy)
      have lt : sd_c a < 6 := by
        have := (List.getElem?_eq_some_iff.mp e1).1
        unfold qw_cl at this
        rw [List.length_map, List.length_range] at this
        exact this
      have kn := x8.1.1 _ _ (qw_cl_at lt)
      exact ⟨cell, e2, by rw [e4]; rfl, by rw [nm4, e3]; exact kn.2.1⟩
    have lA : As.length = as0.length := by rw [← RS_len hV0, List.length_reverse]
    have e9 : (Value.ref (ad k) :: As).reverse ++ s2 = As.reverse ++ .ref (ad k) :: s2 := by rw [List.reverse_cons, List.append_assoc]; rfl
    rw [e9]
    refine vx_runV CF MM (cwV (C := (sd_y a).cls) (as0.length) x7 (aw_good g4 g4) hw rfl rfl ⟨rfl, nm2, nm3, by rw [c4]; congr 1; rw [List.length_append] at en; simp only [cond_false]; have : ([qr k] : List qa_V).length = 1 := rfl; omega⟩ RR) ⟨qw_P_b, cell, hpU⟩ rfl lA hls rfl (by show 0 + _ ≤ 8; omega) d hR
  · rw [if_pos k1s] at d
    rw [k1s] at c4
    have hw : sd_w a = Cond.code (sd_y a) (sd_b a) (sd_l a) (sd_r a) :: AW := by unfold sd_w; rw [sd_wd_0 kh]
    have gw : ∀ w ∈ sd_w a, w ∈ AW := fun w hw => (List.mem_cons.mp hw).elim (fun q => by rw [q]; exact own) id
    cases r1 with
    | inr E => have := hth E rfl; rw [kth] at this; cases this
    | inl o => exact vx_of_va (va_runSN CF (sd_met MM) ⟨va_cnB (as.length) x7 (aw_good gw gw) hw rfl rfl (x8.2.2.2.1 _ kl _ _ _ _ rfl) (x7 _ c6) ⟨nm2, nm3, by rw [c4]; congr 1; simp only [cond_true]; omega⟩ RR, x7 _ kst, trivial⟩ ⟨qw_P_b, hpU⟩ rfl lv hls rfl (by show 0 + _ ≤ 8; omega) d hR)
  · rw [if_pos k1s] at d
    rw [k1s] at c4
    have hw : sd_w a = Cond.codeWith (sd_y a) (sd_b a) (sd_l a) (sd_r a) (sd_h a) :: AW := by unfold sd_w; rw [sd_wd_1 kh]
    exact vx_runSX (hh := sd_h a) CF MM (vx_cwSW (as.length) x7 (aw_good (g3 kl kst c6) (g3 kl kst c6)) hw rfl rfl ⟨nm2, nm3, by rw [c4]; congr 1; simp only [cond_true]; omega⟩ RR) ⟨qw_P_b, hpU⟩ rfl lv hls rfl (by show 0 + _ ≤ 8; omega) d hR
end CA
theorem qw_st_t {i a : Nat} {M M1 M' : qa_Mem} {r1 r : qa_R} (h1 : qw_st a M r1 M1) (h2 : qw_st i M1 r M') : qw_st i M r M' := ⟨h2.1, Int.le_trans h1.2.1 h2.2.1, fun j => (h2.2.2.1 j).trans (h1.2.2.1 j), fun j => (h2.2.2.2.1 j).trans (h1.2.2.2.1 j), h2.2.2.2.2⟩
theorem qw_sx_t {s : State} {a : Nat} {ad : Nat → Nat} {A : Nat → Prop} {M M1 : qa_Mem} {r1 : qa_R} {H : Heap} (h : qw_sx s ad A M H) (h1 : qw_st a M r1 M1) : qw_sx s ad A M1 H := by
  obtain ⟨b, Ln, xs, g1, g2, g3, g4, g5, g6, g7⟩ := h
  exact ⟨b, Ln, xs, g1, g2, g3, g4, g5, by rw [h1.2.2.1]; exact g6, fun j hj => by rw [h1.2.2.2.1]; exact g7 j hj⟩
theorem cl_18 {l : Launch} (hl : l.stackTraces = false) {i pc a nx cp : Nat} {b : Int} {L : qa_L} {S as S0 : List qa_V} {M M1 M' : qa_Mem} {r r1 : qa_R} (hc : qa_code i pc = some (18, a, b, nx, cp)) (eS : S = as ++ S0) (en : (as.length : Int) = b) (ok : qa_ok a as = true) (h4 : qa_cs S0 ≤ 8) (h1 : CL l a 0 (qa_loc 0 as.reverse) [] M r1 M1)
    (h2 : (∃ o, r1 = .inl o ∧ CL l i nx L (o.toList ++ S0) M1 r M') ∨ (∃ E, r1 = .inr E ∧ qa_hnd i = [] ∧ r = .inr E ∧ M' = M1) ∨ (∃ E h, r1 = .inr E ∧ qa_catch (qa_hnd i) pc E = some h ∧ CL l i h L [qr 999] M1 r M')) : CL l i pc L S M r M' := by
  have s1 := h1.1
  obtain ⟨⟨ca, -⟩, -⟩ := sd_cx hc
  obtain ⟨kk1, kk2⟩ := (sd_kk hc).1 rfl
  have hlen : as.reverse.length ≤ sd_l a := by rw [List.length_reverse]; omega
  obtain ⟨k1, hk1⟩ := Int.eq_ofNat_of_zero_le (show 0 ≤ M1 99 0 - M 99 0 from by have := s1.2.1; omega)
  have MM := cl_met hl ca hlen (by rw [List.all_reverse]; exact qa_ok_c1 ok) hk1 h1
  have key : ∀ (p : Program) (e : Env) (R : Room) (s : State) (m : MethodId) (args : Array Value) (below : List Frame) (meth : Method) (c : Code) (D : va_G) (cA : Nat → ClassId) (ad : Nat → Nat) (A : Nat → Prop) (H : Heap) (locs : List Loc) (C : qw_C) (n z nb : Nat) (ls : Array Slot) (st : List Value), qw_cx p l R s m args meth c i D cA ad A → qw_sx s ad A M s.heap → va_P D qw_cl (qw_ws cA ad C) H → va_S A s.heap H locs → RM C M → RLo ad (sd_l i) L ls → RS ad S st → nb + n + k1 ≤ R.cells → (6 * n + z) + 6 * k1 ≤ R.slots →
      ∃ vs s2 : List Value, st = vs.reverse ++ s2 ∧ RS ad S0 s2 ∧ vx_Run p l e R s m args below meth c H locs (nb + n) (6 * n + z) k1 (6 * k1) (F0 m pc ls (vs.reverse ++ s2)) s2 (qw_Qc D cA ad H.size k1 r1 M1 vs.toArray) (qw_Xc D cA ad H.size k1 r1 M1) (qw_A ad H.size) := by
    intro p e R s m args below meth c D cA ad A H locs C n z nb ls st X Y hP hA hM hL hS hR1 hR2
    rw [eS] at hS
    obtain ⟨t1, s2, rfl, hV, hS2⟩ := RS_app hS
    refine ⟨t1.reverse, s2, by rw [List.reverse_reverse], hS2, ?_⟩
    exact cl_run X hc en ok s1.2.2.2.2 hP hA hM (RS_rev hV) (RLo_sz hL) (by have := RS_cat hS2; omega) Y ⟨hR1, hR2⟩ MM
  have hst : qw_st i M r M' := by
    rcases h2 with ⟨o, e1, h2⟩ | ⟨E, e1, e2, rfl, rfl⟩ | ⟨E, h, e1, e2, h2⟩
    · exact qw_st_t s1 h2.1
    · refine ⟨by rw [← e1]; exact s1.1, s1.2.1, s1.2.2.1, s1.2.2.2.1, fun E' hE' => ?_⟩
      rcases kk2 (s1.2.2.2.2 E e1) with z | z
      · exact z
      · exact absurd e2 z
    · exact qw_st_t s1 h2.1
  refine ⟨hst, fun p e R s m args below meth c D cA ad A H locs C n k z nb lw ls st Q X Y hP hA hM hL hS e1 e2 e3 e4 hE => ?_⟩
  have hnk : n + k1 ≤ k := by have := h2.elim (fun ⟨_, _, z⟩ => z.1.2.1) (fun z => z.elim (fun ⟨_, _, _, _, z⟩ => by rw [z]; exact Int.le_refl _) (fun ⟨_, _, _, _, z⟩ => z.1.2.1)); omega
  obtain ⟨vs, s2, rfl, hS2, RU⟩ := key p e R s m args below meth c D cA ad A H locs C n z nb ls st X Y hP hA hM hL hS (by omega) (by omega)
  have x10 := X.2.2.2.2.2.2.2.2.2.1
  have hsub : ∀ q, q < H.size → qw_A ad H.size q → A q := fun q _ z => by rw [x10]; exact qw_A_m hA.1 q z
  have hfr : ∀ q, qw_A ad H.size q → A q := fun q z => by rw [x10]; exact qw_A_m hA.1 q z
  obtain ⟨-, dn⟩ := sd_d18 hc
  have s6 : 6 * n + z + 6 * k1 = 6 * (n + k1) + z := by omega
  have s7 : nb + n + k1 = n + k1 + nb := by omega
  rw [Nat.add_comm n nb]
  rcases h2 with ⟨o, e1', h2⟩ | ⟨E, e1', e2', e3', e4'⟩ | ⟨E, h, e1', e2', h2⟩
  · subst e1' dn
    have hr := s1.1
    cases o with
    | none =>
      refine vx_callv (a := vs.toArray) (S := qw_C) (SX := qw_C) (px := fun _ => False) (BX := fun _ _ _ => True) (AX := A) (post := fun C1 => RM C1 M1) (B := qw_B D cA ad (H.size + k1)) (A1 := qw_A ad H.size) (vx_imp RU (fun _ _ _ z => z) (fun _ _ _ z => z.elim)) hA hsub hfr (fun q _ z => z) (fun E ce q9 u t H1 locs1 _ _ z => z.elim) (fun C1 t H1 locs1 ht hvm hM1 hB hz hq hA1 => ?_)
      rw [s6, s7]
      unfold qw_B at hB
      rw [ht] at hB
      obtain ⟨hB, hl9⟩ := hB
      exact h2.2 p e R s m args below meth c D cA ad A H1 locs1 C1 (n + k1) k z nb lw ls _ Q X (qw_sx_t Y s1) hB hA1 hM1 hL hS2 (by omega) e2 e3 (by omega) hE
    | some w =>
      rcases w with x | x | x
      · refine vx_calli (a := vs.toArray) (S := qw_C) (SX := qw_C) (px := fun _ => False) (BX := fun _ _ _ => True) (AX := A) (post := fun (y : Int32) C1 => y.toInt = x ∧ RM C1 M1) (B := qw_B D cA ad (H.size + k1)) (A1 := qw_A ad H.size) (vx_imp RU (fun _ _ _ z => z) (fun _ _ _ z => z.elim)) hA hsub hfr (fun q _ z => z) (fun E ce q9 u t H1 locs1 _ _ z => z.elim) (fun y C1 t H1 locs1 ht hvm hM1 hB hz hq hA1 => ?_)
        rw [s6, s7]
        unfold qw_B at hB
        rw [ht] at hB
        obtain ⟨hB, hl9⟩ := hB
        exact h2.2 p e R s m args below meth c D cA ad A H1 locs1 C1 (n + k1) k z nb lw ls _ Q X (qw_sx_t Y s1) hB hA1 hM1.2 hL ⟨⟨y, rfl, hM1.1⟩, hS2⟩ (by omega) e2 e3 (by omega) hE
      · exact hr.elim
      · refine vx_calll (a := vs.toArray) (S := qw_C) (SX := qw_C) (px := fun _ => False) (BX := fun _ _ _ => True) (AX := A) (post := fun (y : Int64) C1 => y.toInt = x ∧ RM C1 M1) (B := qw_B D cA ad (H.size + k1)) (A1 := qw_A ad H.size) (vx_imp RU (fun _ _ _ z => z) (fun _ _ _ z => z.elim)) hA hsub hfr (fun q _ z => z) (fun E ce q9 u t H1 locs1 _ _ z => z.elim) (fun y C1 t H1 locs1 ht hvm hM1 hB hz hq hA1 => ?_)
        rw [s6, s7]
        unfold qw_B at hB
        rw [ht] at hB
        obtain ⟨hB, hl9⟩ := hB
        exact h2.2 p e R s m args below meth c D cA ad A H1 locs1 C1 (n + k1) k z nb lw ls _ Q X (qw_sx_t Y s1) hB hA1 hM1.2 hL ⟨⟨y, rfl, hM1.1⟩, hS2⟩ (by omega) e2 e3 (by omega) hE
  · subst e1' e3' e4'
    refine vx_callv (a := vs.toArray) (S := qw_C) (SX := qw_C) (px := fun C1 => RM C1 M') (BX := fun F C1 t => F = sd_E E ∧ qw_B D cA ad (H.size + k1) C1 t) (AX := qw_A ad H.size) (post := fun _ => False) (B := fun _ _ => True) (A1 := A) (vx_imp RU (fun _ _ _ z => z.elim) (fun _ _ _ z => z)) hA (fun q _ z => z) hfr hsub (fun F ce q9 C1 t H1 locs1 ht hvm hM1 hB hz hq hA1 hce hcv hcl => ?_) (fun C1 t H1 locs1 _ _ z => z.elim)
    obtain ⟨rfl, hB⟩ := hB
    unfold qw_B at hB
    rw [ht] at hB
    obtain ⟨hB, hl9⟩ := hB
    rw [s6, s7, show n + k1 = k from by omega]
    exact hE.2.2 E pc H1 locs1 C1 ls s2 ce q9 rfl (sd_hz (sd_i hc) e2') hB hA1 hM1 hce hcv hcl (by omega)
  · subst e1'
    refine vx_callv (a := vs.toArray) (S := qw_C) (SX := qw_C) (px := fun C1 => RM C1 M1) (BX := fun F C1 t => F = sd_E E ∧ qw_B D cA ad (H.size + k1) C1 t) (AX := qw_A ad H.size) (post := fun _ => False) (B := fun _ _ => True) (A1 := A) (vx_imp RU (fun _ _ _ z => z.elim) (fun _ _ _ z => z)) hA (fun q _ z => z) hfr hsub (fun F ce q9 C1 t H1 locs1 ht hvm hM1 hB hz hq hA1 hce hcv hcl => ?_) (fun C1 t H1 locs1 _ _ z => z.elim)
    obtain ⟨rfl, hB⟩ := hB
    unfold qw_B at hB
    rw [ht] at hB
    obtain ⟨hB, hl9⟩ := hB
    rw [s6, s7]
    have n55 : i ≠ 55 := by
      rintro rfl
      rw [show qa_hnd 55 = [] from rfl] at e2'
      cases e2'
    obtain ⟨pre, x, suf, q1, q2, q3, q4, q5, rfl⟩ := sd_hc (sd_i hc) (sd_lt hc) e2' s1.1 X.2.2.2.2.2.2.1 X.2.2.2.2.2.2.2.1.2.2.2.2.1
    refine vx_catch (own := sd_R (sd_c i)) (name := sd_E E) X.2.2.2.2.2.1 pre x suf ((X.2.2.2.2.2.2.2.2.2.2.2.1 n55).trans q1) q2 q3 q4 q5 (va_Nw.use rfl (X.2.2.2.2.2.2.2.1.2.2.2.2.2 _ (qw_cw_E s1.1))) hce hcv hcl ?_
    exact h2.2 p e R s m args below meth c D cA ad A H1 locs1 C1 (n + k1) k z nb lw ls _ Q X (qw_sx_t Y s1) hB hA1 hM1 hL ⟨⟨_, rfl, Or.inl rfl⟩, trivial⟩ (by omega) e2 e3 (by omega) hE
