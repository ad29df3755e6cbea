/-! each instruction of the abstract machine, over the machine -/
theorem qw_up_ne {M : qa_Mem} {k : Nat} {x v : Int} {a : Nat} (h : k ≠ a) (j : Int) : qa_upd M k x v a j = M a j := by rw [qa_upd_n (Ne.symm h)]
section ST
variable {l : Launch} {i pc a nx cp : Nat} {b : Int} {L : qa_L} {S : List qa_V} {M M' : qa_Mem} {r : qa_R}
theorem cl_0 (hc : qa_code i pc = some (0, a, b, nx, cp)) (h : CL l i nx L (qi b :: S) M r M') : CL l i pc L S M r M' := ⟨h.1, fun p e R s m args below meth c D cA ad A H locs C n k zz nb lw ls st Q X Y hP hA hM hL hS e1 e2 e3 e4 hE => so_0 X.1 X.2.1 hc hS (fun st' hS' => h.2 p e R s m args below meth c D cA ad A H locs C n k zz nb lw ls st' Q X Y hP hA hM hL hS' e1 e2 e3 e4 hE)⟩
theorem cl_1 {x : Int} (hc : qa_code i pc = some (1, a, b, nx, cp)) (hv : qa_lk L a = some (qi x)) (h : CL l i nx L (qi x :: S) M r M') : CL l i pc L S M r M' := ⟨h.1, fun p e R s m args below meth c D cA ad A H locs C n k zz nb lw ls st Q X Y hP hA hM hL hS e1 e2 e3 e4 hE => so_1 X.1 X.2.1 hc hL hv hS (fun st' hS' => h.2 p e R s m args below meth c D cA ad A H locs C n k zz nb lw ls st' Q X Y hP hA hM hL hS' e1 e2 e3 e4 hE)⟩
theorem cl_2 {k : Nat} (hc : qa_code i pc = some (2, a, b, nx, cp)) (hv : qa_lk L a = some (qr k)) (h : CL l i nx L (qr k :: S) M r M') : CL l i pc L S M r M' := ⟨h.1, fun p e R s m args below meth c D cA ad A H locs C n k zz nb lw ls st Q X Y hP hA hM hL hS e1 e2 e3 e4 hE => so_2 X.1 X.2.1 hc hL hv hS (fun st' hS' => h.2 p e R s m args below meth c D cA ad A H locs C n k zz nb lw ls st' Q X Y hP hA hM hL hS' e1 e2 e3 e4 hE)⟩
theorem cl_3 {x : Int} (hc : qa_code i pc = some (3, a, b, nx, cp)) (hq : qa_nl L a = true) (h : CL l i nx ((a, qi x) :: L) S M r M') : CL l i pc L (qi x :: S) M r M' := ⟨h.1, fun p e R s m args below meth c D cA ad A H locs C n k zz nb lw ls st Q X Y hP hA hM hL hS e1 e2 e3 e4 hE => so_3 X.1 X.2.1 hc hL hS hq (fun ls' st' hL' hS' => h.2 p e R s m args below meth c D cA ad A H locs C n k zz nb lw ls' st' Q X Y hP hA hM hL' hS' e1 e2 e3 e4 hE)⟩
theorem cl_4 {k : Nat} (hc : qa_code i pc = some (4, a, b, nx, cp)) (hq : qa_nl L a = true) (h : CL l i nx ((a, qr k) :: L) S M r M') : CL l i pc L (qr k :: S) M r M' := ⟨h.1, fun p e R s m args below meth c D cA ad A H locs C n k zz nb lw ls st Q X Y hP hA hM hL hS e1 e2 e3 e4 hE => so_4 X.1 X.2.1 hc hL hS hq (fun ls' st' hL' hS' => h.2 p e R s m args below meth c D cA ad A H locs C n k zz nb lw ls' st' Q X Y hP hA hM hL' hS' e1 e2 e3 e4 hE)⟩
theorem cl_5 {x : Int} (hc : qa_code i pc = some (5, a, b, nx, cp)) (hv : qa_lk L a = some (qi x)) (hr : qa_InR (x + b)) (hq : qa_nl L a = true) (h : CL l i nx ((a, qi (x + b)) :: L) S M r M') : CL l i pc L S M r M' := ⟨h.1, fun p e R s m args below meth c D cA ad A H locs C n k zz nb lw ls st Q X Y hP hA hM hL hS e1 e2 e3 e4 hE => so_5 X.1 X.2.1 hc hL hv hr hq (fun ls' hL' => h.2 p e R s m args below meth c D cA ad A H locs C n k zz nb lw ls' st Q X Y hP hA hM hL' hS e1 e2 e3 e4 hE)⟩
theorem cl_6 {x y z : Int} (hc : qa_code i pc = some (6, a, b, nx, cp)) (hz : qa_bin a x y z) (h : CL l i nx L (qi z :: S) M r M') : CL l i pc L (qi y :: qi x :: S) M r M' := ⟨h.1, fun p e R s m args below meth c D cA ad A H locs C n k zz nb lw ls st Q X Y hP hA hM hL hS e1 e2 e3 e4 hE => so_6 X.1 X.2.1 hc hS hz (fun st' hS' => h.2 p e R s m args below meth c D cA ad A H locs C n k zz nb lw ls st' Q X Y hP hA hM hL hS' e1 e2 e3 e4 hE)⟩
theorem cl_10 {x : Int} {k n : Nat} (hc : qa_code i pc = some (10, a, b, nx, cp)) (hn : qa_len a k = some n) (ha : a = 0 ∨ a = 1) (h0 : 0 ≤ x) (h1 : x < n) (h : CL l i nx L (qi (M k x) :: S) M r M') : CL l i pc L (qi x :: qr k :: S) M r M' := ⟨h.1, fun p e R s m args below meth c D cA ad A H locs C n k zz nb lw ls st Q X Y hP hA hM hL hS e1 e2 e3 e4 hE => so_10 X.1 X.2.1 hc hS X.2.2.2.2.2.2.2.1.1 hP hM hn ha h0 h1 (fun st' hS' => h.2 p e R s m args below meth c D cA ad A H locs C n k zz nb lw ls st' Q X Y hP hA hM hL hS' e1 e2 e3 e4 hE)⟩
theorem cl_12 {k : Nat} (hc : qa_code i pc = some (12, a, b, nx, cp)) (hf : qa_fI a k b.toNat = true) (h : CL l i nx L (qi (M k b) :: S) M r M') : CL l i pc L (qr k :: S) M r M' := ⟨h.1, fun p e R s m args below meth c D cA ad A H locs C n k zz nb lw ls st Q X Y hP hA hM hL hS e1 e2 e3 e4 hE => so_12 X.1 X.2.1 hc X.2.2.2.2.2.2.1 X.2.2.2.2.2.1 hS X.2.2.2.2.2.2.2.1.1 hP hM hf (fun st' hS' => h.2 p e R s m args below meth c D cA ad A H locs C n k zz nb lw ls st' Q X Y hP hA hM hL hS' e1 e2 e3 e4 hE)⟩
theorem cl_13 {k k1 : Nat} (hc : qa_code i pc = some (13, a, b, nx, cp)) (hf : qa_fR a k b.toNat = some k1) (h : CL l i nx L (qr k1 :: S) M r M') : CL l i pc L (qr k :: S) M r M' := ⟨h.1, fun p e R s m args below meth c D cA ad A H locs C n k zz nb lw ls st Q X Y hP hA hM hL hS e1 e2 e3 e4 hE => so_13 X.1 X.2.1 hc X.2.2.2.2.2.2.1 X.2.2.2.2.2.1 hS X.2.2.2.2.2.2.2.1.1 hP hf (fun st' hS' => h.2 p e R s m args below meth c D cA ad A H locs C n k zz nb lw ls st' Q X Y hP hA hM hL hS' e1 e2 e3 e4 hE)⟩
theorem cl_15 {x y : Int} {t : Nat} (hc : qa_code i pc = some (15, a, b, nx, cp)) (ht : (t : Int) = b) (kt : qa_cmp a x y → CL l i t L S M r M') (kf : ¬ qa_cmp a x y → CL l i nx L S M r M') : CL l i pc L (qi y :: qi x :: S) M r M' := by
  refine ⟨?_, fun p e R s m args below meth c D cA ad A H locs C n k zz nb lw ls st Q X Y hP hA hM hL hS e1 e2 e3 e4 hE => so_15 X.1 X.2.1 hc hS ht (fun st' hS' z => (kt z).2 p e R s m args below meth c D cA ad A H locs C n k zz nb lw ls st' Q X Y hP hA hM hL hS' e1 e2 e3 e4 hE) (fun st' hS' z => (kf z).2 p e R s m args below meth c D cA ad A H locs C n k zz nb lw ls st' Q X Y hP hA hM hL hS' e1 e2 e3 e4 hE)⟩
  by_cases z : qa_cmp a x y
  · exact (kt z).1
  · exact (kf z).1
theorem cl_16 {x : Int} {t : Nat} (hc : qa_code i pc = some (16, a, b, nx, cp)) (ht : (t : Int) = b) (kt : qa_cmp a x 0 → CL l i t L S M r M') (kf : ¬ qa_cmp a x 0 → CL l i nx L S M r M') : CL l i pc L (qi x :: S) M r M' := by
  refine ⟨?_, fun p e R s m args below meth c D cA ad A H locs C n k zz nb lw ls st Q X Y hP hA hM hL hS e1 e2 e3 e4 hE => so_16 X.1 X.2.1 hc hS ht (fun st' hS' z => (kt z).2 p e R s m args below meth c D cA ad A H locs C n k zz nb lw ls st' Q X Y hP hA hM hL hS' e1 e2 e3 e4 hE) (fun st' hS' z => (kf z).2 p e R s m args below meth c D cA ad A H locs C n k zz nb lw ls st' Q X Y hP hA hM hL hS' e1 e2 e3 e4 hE)⟩
  by_cases z : qa_cmp a x 0
  · exact (kt z).1
  · exact (kf z).1
theorem cl_17 (hc : qa_code i pc = some (17, a, b, nx, cp)) (h : CL l i nx L S M r M') : CL l i pc L S M r M' := ⟨h.1, fun p e R s m args below meth c D cA ad A H locs C n k zz nb lw ls st Q X Y hP hA hM hL hS e1 e2 e3 e4 hE => so_17 X.1 X.2.1 hc (h.2 p e R s m args below meth c D cA ad A H locs C n k zz nb lw ls st Q X Y hP hA hM hL hS e1 e2 e3 e4 hE)⟩
theorem cl_19 {x : Int} (hc : qa_code i pc = some (19, a, b, nx, cp)) (hx : a = 0 ∨ a = 1 ∧ (x = 0 ∨ x = 1)) : CL l i pc L [qi x] M (.inl (some (qi x))) M := by
  refine ⟨⟨trivial, Int.le_refl _, fun _ => rfl, fun _ => rfl, fun _ z => nomatch z⟩, fun p e R s m args below meth c D cA ad A H locs C n k zz nb lw ls st Q X Y hP hA hM hL hS e1 e2 e3 e4 hE => ?_⟩
  have ek : n = k := by omega
  subst ek
  exact hE.1 (some (qi x)) pc 19 a nx cp b H locs C ls st rfl hc (Or.inl ⟨rfl, x, rfl⟩) (fun _ z => ⟨x, rfl, hx.elim (fun q => absurd (q.symm.trans z) (by decide)) (fun q => q.2)⟩) hP hA hM hS e4
theorem cl_20 (hc : qa_code i pc = some (20, a, b, nx, cp)) : CL l i pc L [] M (.inl none) M := by
  refine ⟨⟨trivial, Int.le_refl _, fun _ => rfl, fun _ => rfl, fun _ z => nomatch z⟩, fun p e R s m args below meth c D cA ad A H locs C n k zz nb lw ls st Q X Y hP hA hM hL hS e1 e2 e3 e4 hE => ?_⟩
  have ek : n = k := by omega
  subst ek
  exact hE.1 none pc 20 a nx cp b H locs C ls st rfl hc (Or.inr (Or.inl ⟨rfl, rfl⟩)) (fun z => absurd z (by decide)) hP hA hM hS e4
theorem cl_32 {x : Int} (hc : qa_code i pc = some (32, a, b, nx, cp)) : CL l i pc L [ql x] M (.inl (some (ql x))) M := by
  refine ⟨⟨trivial, Int.le_refl _, fun _ => rfl, fun _ => rfl, fun _ z => nomatch z⟩, fun p e R s m args below meth c D cA ad A H locs C n k zz nb lw ls st Q X Y hP hA hM hL hS e1 e2 e3 e4 hE => ?_⟩
  have ek : n = k := by omega
  subst ek
  exact hE.1 (some (ql x)) pc 32 a nx cp b H locs C ls st rfl hc (Or.inr (Or.inr ⟨rfl, x, rfl⟩)) (fun z => absurd z (by decide)) hP hA hM hS e4
theorem cl_21 (hc : qa_code i pc = some (21, a, b, nx, cp)) : CL l i pc L [] M (.inr a) (qa_upd M 99 0 (M 99 0 + 1)) := by
  obtain ⟨f1, f2, f3, f4, f5⟩ := (sd_kk hc).2.2.2.1 rfl
  have u : qa_upd M 99 0 (M 99 0 + 1) 99 0 = M 99 0 + 1 := qa_upd_e
  refine ⟨⟨⟨f3.1, by omega⟩, by rw [u]; omega, fun j => qw_up_ne (by decide) j, fun j => qw_up_ne (by decide) j, fun E hE => f5⟩, fun p e R s m args below meth c D cA ad A H locs C n k zz nb lw ls st Q X Y hP hA hM hL hS e1 e2 e3 e4 hE => ?_⟩
  cases RS_nil hS
  rw [u] at e1
  exact hE.2.1 a pc a nx cp b H locs C n ls rfl hc hP hA (RM_99 hM) (by omega) ((RLo_sz hL).trans X.2.2.1.symm) e4
theorem cl_24 {x : Int} {k n : Nat} (hc : qa_code i pc = some (24, a, b, nx, cp)) (hn : qa_len 2 k = some n) (h0 : 0 ≤ x) (h1 : x < n) (h : CL l i nx L (ql (M k x) :: S) M r M') : CL l i pc L (qi x :: qr k :: S) M r M' := ⟨h.1, fun p e R s m args below meth c D cA ad A H locs C n k zz nb lw ls st Q X Y hP hA hM hL hS e1 e2 e3 e4 hE => so_24 X.1 X.2.1 hc hS X.2.2.2.2.2.2.2.1.1 hP hM hn h0 h1 (fun st' hS' => h.2 p e R s m args below meth c D cA ad A H locs C n k zz nb lw ls st' Q X Y hP hA hM hL hS' e1 e2 e3 e4 hE)⟩
theorem cl_25 {x y : Int} (hc : qa_code i pc = some (25, a, b, nx, cp)) (h : CL l i nx L (qi (qa_sgn x y) :: S) M r M') : CL l i pc L (ql y :: ql x :: S) M r M' := ⟨h.1, fun p e R s m args below meth c D cA ad A H locs C n k zz nb lw ls st Q X Y hP hA hM hL hS e1 e2 e3 e4 hE => so_25 X.1 X.2.1 hc hS (fun st' hS' => h.2 p e R s m args below meth c D cA ad A H locs C n k zz nb lw ls st' Q X Y hP hA hM hL hS' e1 e2 e3 e4 hE)⟩
theorem cl_26 {x : Int} (hc : qa_code i pc = some (26, a, b, nx, cp)) (h0 : 0 ≤ x) (h1 : x < M 97 0) (h : CL l i nx L (qi (M 98 x) :: S) M r M') : CL l i pc L (qi x :: qr 998 :: S) M r M' := by
  refine ⟨h.1, fun p e R s m args below meth c D cA ad A H locs C n k zz nb lw ls st Q X Y hP hA hM hL hS e1 e2 e3 e4 hE => ?_⟩
  obtain ⟨b1, Ln, xs, g1, g2, g3, g4, g5, g6, g7⟩ := id Y
  exact so_26 X.1 X.2.1 hc hS g1 g2 g3 g4 hA h0 (by rw [← g6]; exact h1) g7 (fun st' hS' => h.2 p e R s m args below meth c D cA ad A H locs C n k zz nb lw ls st' Q X Y hP hA hM hL hS' e1 e2 e3 e4 hE)
theorem cl_27 (hc : qa_code i pc = some (27, a, b, nx, cp)) (h : CL l i nx L (qi (M 97 0) :: S) M r M') : CL l i pc L (qr 998 :: S) M r M' := by
  refine ⟨h.1, fun p e R s m args below meth c D cA ad A H locs C n k zz nb lw ls st Q X Y hP hA hM hL hS e1 e2 e3 e4 hE => ?_⟩
  obtain ⟨b1, Ln, xs, g1, g2, g3, g4, g5, g6, g7⟩ := id Y
  exact so_27 X.1 X.2.1 hc hS g1 g2 g3 g4 hA g5 g6 (fun st' hS' => h.2 p e R s m args below meth c D cA ad A H locs C n k zz nb lw ls st' Q X Y hP hA hM hL hS' e1 e2 e3 e4 hE)
theorem cl_29 {x : Int} (hc : qa_code i pc = some (29, a, b, nx, cp)) (hq : qa_nl L a = true) (hn : qa_lk L (a + 1) = none) (h : CL l i nx ((a, ql x) :: L) S M r M') : CL l i pc L (ql x :: S) M r M' := ⟨h.1, fun p e R s m args below meth c D cA ad A H locs C n k zz nb lw ls st Q X Y hP hA hM hL hS e1 e2 e3 e4 hE => so_29 X.1 X.2.1 hc hL hS hq hn (fun ls' st' hL' hS' => h.2 p e R s m args below meth c D cA ad A H locs C n k zz nb lw ls' st' Q X Y hP hA hM hL' hS' e1 e2 e3 e4 hE)⟩
theorem cl_30 {x : Int} (hc : qa_code i pc = some (30, a, b, nx, cp)) (hv : qa_lk L a = some (ql x)) (h : CL l i nx L (ql x :: S) M r M') : CL l i pc L S M r M' := ⟨h.1, fun p e R s m args below meth c D cA ad A H locs C n k zz nb lw ls st Q X Y hP hA hM hL hS e1 e2 e3 e4 hE => so_30 X.1 X.2.1 hc hL hv hS (fun st' hS' => h.2 p e R s m args below meth c D cA ad A H locs C n k zz nb lw ls st' Q X Y hP hA hM hL hS' e1 e2 e3 e4 hE)⟩
theorem cl_31 (hc : qa_code i pc = some (31, a, b, nx, cp)) (h : CL l i nx L (ql b :: S) M r M') : CL l i pc L S M r M' := ⟨h.1, fun p e R s m args below meth c D cA ad A H locs C n k zz nb lw ls st Q X Y hP hA hM hL hS e1 e2 e3 e4 hE => so_31 X.1 X.2.1 hc hS (fun st' hS' => h.2 p e R s m args below meth c D cA ad A H locs C n k zz nb lw ls st' Q X Y hP hA hM hL hS' e1 e2 e3 e4 hE)⟩
theorem cl_33 (hc : qa_code i pc = some (33, a, b, nx, cp)) (h : CL l i nx L (qi b :: S) M r M') : CL l i pc L S M r M' := ⟨h.1, fun p e R s m args below meth c D cA ad A H locs C n k zz nb lw ls st Q X Y hP hA hM hL hS e1 e2 e3 e4 hE => so_33 X.1 X.2.1 hc X.2.2.2.2.2.2.1 X.2.2.2.2.2.1 hS (fun st' hS' => h.2 p e R s m args below meth c D cA ad A H locs C n k zz nb lw ls st' Q X Y hP hA hM hL hS' e1 e2 e3 e4 hE)⟩
end ST
theorem cl_step {l : Launch} (hl : l.stackTraces = false) {i pc : Nat} {L : qa_L} {S : List qa_V} {M : qa_Mem} {r : qa_R} {M' : qa_Mem} (h : qa_step (CL l) i pc L S M r M') : CL l i pc L S M r M' := by
  rcases h with ⟨L', hs, h⟩ | ⟨op, a, b, nx, cp, hc, h⟩
  · exact ⟨h.1, fun p e R s m args below meth c D cA ad A H locs C n k zz nb lw ls st Q X Y hP hA hM hL hS e1 e2 e3 e4 hE => h.2 p e R s m args below meth c D cA ad A H locs C n k zz nb lw ls st Q X Y hP hA hM (RLo_sub hL hs) hS e1 e2 e3 e4 hE⟩
  · unfold qa_do at h
    rcases h with h | h
    · obtain ⟨rfl, k⟩ := h
      exact cl_0 hc k
    rcases h with h | h
    · obtain ⟨rfl, x, h1, k⟩ := h
      exact cl_1 hc h1 k
    rcases h with h | h
    · obtain ⟨rfl, x, h1, k⟩ := h
      exact cl_2 hc h1 k
    rcases h with h | h
    · obtain ⟨rfl, x, S0, rfl, h1, k⟩ := h
      exact cl_3 hc h1 k
    rcases h with h | h
    · obtain ⟨rfl, x, S0, rfl, h1, k⟩ := h
      exact cl_4 hc h1 k
    rcases h with h | h
    · obtain ⟨rfl, x, h1, h2, h3, k⟩ := h
      exact cl_5 hc h1 h2 h3 k
    rcases h with h | h
    · obtain ⟨rfl, x, y, z, S0, rfl, h1, k⟩ := h
      exact cl_6 hc h1 k
    rcases h with h | h
    · obtain ⟨rfl, x, k0, n, S0, rfl, h1, h2, h3, h4, k⟩ := h
      exact cl_10 hc h1 h2 h3 h4 k
    rcases h with h | h
    · obtain ⟨rfl, k0, S0, rfl, h1, h2, k⟩ := h
      exact cl_12 hc h1 k
    rcases h with h | h
    · obtain ⟨rfl, k0, k1, S0, rfl, h1, k⟩ := h
      exact cl_13 hc h1 k
    rcases h with h | h
    · obtain ⟨rfl, x, y, t, S0, rfl, h1, k1, k2⟩ := h
      exact cl_15 hc h1 k1 k2
    rcases h with h | h
    · obtain ⟨rfl, x, t, S0, rfl, h1, k1, k2⟩ := h
      exact cl_16 hc h1 k1 k2
    rcases h with h | h
    · obtain ⟨rfl, k⟩ := h
      exact cl_17 hc k
    rcases h with h | h
    · obtain ⟨rfl, as, S0, r1, M1, h1, h2, h3, h4, h5, h6⟩ := h
      exact cl_18 hl hc h1 h2 h3 h4 h5 h6
    rcases h with h | h
    · obtain ⟨rfl, x, rfl, rfl, rfl, h1⟩ := h
      exact cl_19 hc h1
    rcases h with h | h
    · obtain ⟨rfl, rfl, rfl, rfl⟩ := h
      exact cl_20 hc
    rcases h with h | h
    · obtain ⟨rfl, rfl, rfl, rfl⟩ := h
      exact cl_21 hc
    rcases h with h | h
    · obtain ⟨rfl, x, k0, n, S0, rfl, h1, h2, h3, k⟩ := h
      exact cl_24 hc h1 h2 h3 k
    rcases h with h | h
    · obtain ⟨rfl, x, y, S0, rfl, k⟩ := h
      exact cl_25 hc k
    rcases h with h | h
    · obtain ⟨rfl, x, S0, rfl, h1, h2, k⟩ := h
      exact cl_26 hc h1 h2 k
    rcases h with h | h
    · obtain ⟨rfl, S0, rfl, k⟩ := h
      exact cl_27 hc k
    rcases h with h | h
    · obtain ⟨rfl, x, S0, rfl, h1, h2, k⟩ := h
      exact cl_29 hc h1 h2 k
    rcases h with h | h
    · obtain ⟨rfl, x, h1, k⟩ := h
      exact cl_30 hc h1 k
    rcases h with h | h
    · obtain ⟨rfl, k⟩ := h
      exact cl_31 hc k
    rcases h with h | h
    · obtain ⟨rfl, x, rfl, rfl, rfl⟩ := h
      exact cl_32 hc
    obtain ⟨rfl, k⟩ := h
    exact cl_33 hc k
theorem cl_E {l : Launch} (hl : l.stackTraces = false) {i pc : Nat} {L : qa_L} {S : List qa_V} {M : qa_Mem} {r : qa_R} {M' : qa_Mem} (h : qa_E i pc L S M r M') : CL l i pc L S M r M' := h (CL l) (fun _ _ _ _ _ _ _ k => cl_step hl k)
