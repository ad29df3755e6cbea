/-! the night -/
theorem qc_wM_k {C : qa_Mem} {m : Int} {k : Nat} (h25 : k ≠ 25) (h26 : k ≠ 26) (h28 : k ≠ 28) (h5 : k ≠ 5) : qc_wM C m k = qs_rm C (qc_need C) (C 24 m) 120 k := by
  show qa_upd (qa_upd (qx _ (qa_upd (qa_upd _ 28 _ _) 5 7 _) _) 25 m _) 26 m _ k = _
  rw [qa_upd_n h26, qa_upd_n h25]
  by_cases c : qc_wr C m = 0 ∧ 0 ≤ qc_wb C
  · rw [qx_t c, qa_upd_n h5, qa_upd_n h28]
  · rw [qx_f c]
theorem qs_rm_k {C : qa_Mem} {P : Int → Prop} {sp : Int} {k : Nat} (h18 : k ≠ 18) (h19 : k ≠ 19) (h20 : k ≠ 20) : qs_rm C P sp 120 k = C k := by
  unfold qs_rm
  rw [qa_blk_n h20, qa_blk_n h19, qa_blk_n h18]
theorem qm_wM_k {N : qa_Mem} {m : Int} {k : Nat} (h42 : k ≠ 42) (h43 : k ≠ 43) (h45 : k ≠ 45) (h46 : k ≠ 46) : qm_wM N m k = qm_rm N (qm_need N) (N 41 m) 120 k := by
  show qa_upd (qa_upd (qx _ (qa_upd (qa_upd _ 45 _ _) 46 6 _) _) 42 m _) 43 m _ k = _
  rw [qa_upd_n h43, qa_upd_n h42]
  by_cases c : qm_wr N m = 0 ∧ 0 ≤ qm_wb N
  · rw [qx_t c, qa_upd_n h46, qa_upd_n h45]
  · rw [qx_f c]
theorem qm_rm_k {N : qa_Mem} {P : Int → Prop} {sp : Int} {k : Nat} (h38 : k ≠ 38) (h39 : k ≠ 39) (h40 : k ≠ 40) : qm_rm N P sp 120 k = N k := by
  unfold qm_rm
  rw [qa_blk_n h38, qa_blk_n h39, qa_blk_n h40]
theorem qc_wM_5 {C : qa_Mem} {m i : Int} (hi : i ≠ 7) : qc_wM C m 5 i = C 5 i := by
  show qa_upd (qa_upd (qx _ (qa_upd (qa_upd _ 28 _ _) 5 7 _) _) 25 m _) 26 m _ 5 i = _
  rw [qa_upd_n (by decide), qa_upd_n (by decide)]
  by_cases c : qc_wr C m = 0 ∧ 0 ≤ qc_wb C
  · rw [qx_t c, qa_upd_i hi, qa_upd_n (by decide), qs_rm_k (by decide) (by decide) (by decide)]
  · rw [qx_f c, qs_rm_k (by decide) (by decide) (by decide)]
theorem qm_wM_46 {N : qa_Mem} {m i : Int} (hi : i ≠ 6) : qm_wM N m 46 i = N 46 i := by
  show qa_upd (qa_upd (qx _ (qa_upd (qa_upd _ 45 _ _) 46 6 _) _) 42 m _) 43 m _ 46 i = _
  rw [qa_upd_n (by decide), qa_upd_n (by decide)]
  by_cases c : qm_wr N m = 0 ∧ 0 ≤ qm_wb N
  · rw [qx_t c, qa_upd_i hi, qa_upd_n (by decide), qm_rm_k (by decide) (by decide) (by decide)]
  · rw [qx_f c, qm_rm_k (by decide) (by decide) (by decide)]
theorem qc_wM_h {C : qa_Mem} {m : Int} : qc_wM C m 25 = qf_set (C 25) m (qw_h (C 25 m) (qc_wr C m) (qc_wb C)) ∧ qc_wM C m 26 = qf_set (C 26) m (qb (20 ≤ qw_h (C 25 m) (qc_wr C m) (qc_wb C))) ∧ qc_wM C m 28 = qx (qc_wr C m = 0 ∧ 0 ≤ qc_wb C) (qf_set (C 28) (qc_wb C) (C 28 (qc_wb C) - 1)) (C 28) ∧ qc_wM C m 5 7 = qx (qc_wr C m = 0 ∧ 0 ≤ qc_wb C) (qa_wrap (C 5 7 + C 27 (qc_wb C))) (C 5 7) := by
  unfold qc_wM
  by_cases c : qc_wr C m = 0 ∧ 0 ≤ qc_wb C
  · rw [qx_t c, qx_t c, qx_t c]
    refine ⟨?_, ?_, ?_, rfl⟩
    · rw [qa_upd_n (by decide), qa_upd_s, qa_upd_n (by decide), qa_upd_n (by decide), qs_rm_k (by decide) (by decide) (by decide)]
    · rw [qa_upd_s, qa_upd_n (by decide), qa_upd_n (by decide), qa_upd_n (by decide), qs_rm_k (by decide) (by decide) (by decide)]
    · rw [qa_upd_n (by decide), qa_upd_n (by decide), qa_upd_n (by decide), qa_upd_s, qs_rm_k (by decide) (by decide) (by decide)]
  · rw [qx_f c, qx_f c, qx_f c]
    refine ⟨?_, ?_, ?_, rfl⟩
    · rw [qa_upd_n (by decide), qa_upd_s, qs_rm_k (by decide) (by decide) (by decide)]
    · rw [qa_upd_s, qa_upd_n (by decide), qs_rm_k (by decide) (by decide) (by decide)]
    · rw [qa_upd_n (by decide), qa_upd_n (by decide), qs_rm_k (by decide) (by decide) (by decide)]
theorem qm_wM_h {N : qa_Mem} {m : Int} : qm_wM N m 42 = qf_set (N 42) m (qw_h (N 42 m) (qm_wr N m) (qm_wb N)) ∧ qm_wM N m 43 = qf_set (N 43) m (qb (20 ≤ qw_h (N 42 m) (qm_wr N m) (qm_wb N))) ∧ qm_wM N m 45 = qx (qm_wr N m = 0 ∧ 0 ≤ qm_wb N) (qf_set (N 45) (qm_wb N) (N 45 (qm_wb N) - 1)) (N 45) ∧ qm_wM N m 46 6 = qx (qm_wr N m = 0 ∧ 0 ≤ qm_wb N) (qa_wrap (N 46 6 + N 44 (qm_wb N))) (N 46 6) := by
  unfold qm_wM
  by_cases c : qm_wr N m = 0 ∧ 0 ≤ qm_wb N
  · rw [qx_t c, qx_t c, qx_t c]
    refine ⟨?_, ?_, ?_, rfl⟩
    · rw [qa_upd_n (by decide), qa_upd_s, qa_upd_n (by decide), qa_upd_n (by decide), qm_rm_k (by decide) (by decide) (by decide)]
    · rw [qa_upd_s, qa_upd_n (by decide), qa_upd_n (by decide), qa_upd_n (by decide), qm_rm_k (by decide) (by decide) (by decide)]
    · rw [qa_upd_n (by decide), qa_upd_n (by decide), qa_upd_n (by decide), qa_upd_s, qm_rm_k (by decide) (by decide) (by decide)]
  · rw [qx_f c, qx_f c, qx_f c]
    refine ⟨?_, ?_, ?_, rfl⟩
    · rw [qa_upd_n (by decide), qa_upd_s, qm_rm_k (by decide) (by decide) (by decide)]
    · rw [qa_upd_s, qa_upd_n (by decide), qm_rm_k (by decide) (by decide) (by decide)]
    · rw [qa_upd_n (by decide), qa_upd_n (by decide), qm_rm_k (by decide) (by decide) (by decide)]
theorem fr_w {C N : qa_Mem} {m : Int} (h : fr C N) : fr (qc_wM C m) (qm_wM N m) ∧ qc_wx C m = qm_wx N m := by
  obtain ⟨⟨a1, a2, a3, a4, a5, a6, a7⟩, ⟨s1, s2, s3⟩, ⟨b1, b2, b3⟩, n1⟩ := id h
  have er : qc_wr C m = qm_wr N m := by
    unfold qc_wr qm_wr
    rw [a1]
    exact qr_c_c _ 120 (fun j a b => fr_need h a b)
  have eb : qc_wb C = qm_wb N := by
    unfold qc_wb qm_wb
    rw [a4, a5, a6]
  obtain ⟨c1, c2, c3, c4⟩ := qc_wM_h (C := C) (m := m)
  obtain ⟨d1, d2, d3, d4⟩ := qm_wM_h (N := N) (m := m)
  obtain ⟨r1, r2, r3⟩ := fr_rm h (C 24 m)
  have m6 : qm_wM N m 6 = N 6 := by rw [qm_wM_k (by decide) (by decide) (by decide) (by decide), qm_rm_k (by decide) (by decide) (by decide)]
  have m32 : qm_wM N m 32 = N 32 := by rw [qm_wM_k (by decide) (by decide) (by decide) (by decide), qm_rm_k (by decide) (by decide) (by decide)]
  have m33 : qm_wM N m 33 = N 33 := by rw [qm_wM_k (by decide) (by decide) (by decide) (by decide), qm_rm_k (by decide) (by decide) (by decide)]
  have m35 : qm_wM N m 35 = N 35 := by rw [qm_wM_k (by decide) (by decide) (by decide) (by decide), qm_rm_k (by decide) (by decide) (by decide)]
  have m36 : qm_wM N m 36 = N 36 := by rw [qm_wM_k (by decide) (by decide) (by decide) (by decide), qm_rm_k (by decide) (by decide) (by decide)]
  have m37 : qm_wM N m 37 = N 37 := by rw [qm_wM_k (by decide) (by decide) (by decide) (by decide), qm_rm_k (by decide) (by decide) (by decide)]
  have ss : ∀ f, qm_ss (qm_wM N m) f = qm_ss (qm_rm N (qm_need N) (N 41 m) 120) f := fun f => by
    unfold qm_ss qm_st
    rw [qm_wM_k (by decide) (by decide) (by decide) (by decide), qm_wM_k (by decide) (by decide) (by decide) (by decide), qm_wM_k (by decide) (by decide) (by decide) (by decide), qm_wM_k (by decide) (by decide) (by decide) (by decide), qm_wM_k (by decide) (by decide) (by decide) (by decide), qm_wM_k (by decide) (by decide) (by decide) (by decide), qm_wM_k (by decide) (by decide) (by decide) (by decide)]
  refine ⟨⟨⟨?_, ?_, ?_, ?_, ?_, ?_, ?_⟩, ⟨?_, ?_, ?_⟩, ⟨?_, ?_, ?_⟩, ?_⟩, ?_⟩
  · rw [qc_wM_k (by decide) (by decide) (by decide) (by decide), qm_wM_k (by decide) (by decide) (by decide) (by decide), qs_rm_k (by decide) (by decide) (by decide), qm_rm_k (by decide) (by decide) (by decide)]
    exact a1
  · rw [c1, d1, er, eb, a2]
  · rw [c2, d2, er, eb, a2, a3]
  · rw [qc_wM_k (by decide) (by decide) (by decide) (by decide), qm_wM_k (by decide) (by decide) (by decide) (by decide), qs_rm_k (by decide) (by decide) (by decide), qm_rm_k (by decide) (by decide) (by decide)]
    exact a4
  · rw [c3, d3, er, eb, a5]
  · rw [qc_wM_5 (by decide), m6]
    exact a6
  · rw [c4, d4, er, eb, a4, a7]
  · rw [qc_wM_k (by decide) (by decide) (by decide) (by decide), qm_wM_k (by decide) (by decide) (by decide) (by decide), r1, a1]
  · rw [qc_wM_k (by decide) (by decide) (by decide) (by decide)]
    intro f f0 f1
    rw [ss f, r2 f f0 f1, a1]
  · rw [qc_wM_k (by decide) (by decide) (by decide) (by decide), qm_wM_k (by decide) (by decide) (by decide) (by decide)]
    intro t f t0 t1 f0 f1
    rw [r3 t f t0 t1 f0 f1, a1]
  · rw [qc_wM_k (by decide) (by decide) (by decide) (by decide), qs_rm_k (by decide) (by decide) (by decide), m6]
    exact b1
  · rw [m6]; exact b2
  · rw [qc_wM_k (by decide) (by decide) (by decide) (by decide), qs_rm_k (by decide) (by decide) (by decide), m32, m33, m35]
    exact b3
  · unfold qm_nd
    rw [qc_wM_k (by decide) (by decide) (by decide) (by decide), qs_rm_k (by decide) (by decide) (by decide), m6, m36, m37]
    exact n1
  · unfold qc_wx qm_wx
    rw [er, eb]
theorem fr_r {C N : qa_Mem} {m : Int} (h : fr C N) : fr (qc_rM C m) (qm_rM N m) := by
  obtain ⟨⟨a1, a2, a3, a4, a5, a6, a7⟩, s, b, n⟩ := id h
  refine ⟨⟨a1, ?_, ?_, a4, a5, a6, a7⟩, s, b, n⟩
  · show qa_upd C 25 m (qf_cool (C 25 m)) 25 = qa_upd N 42 m (qf_cool (N 42 m)) 42
    rw [qa_upd_s, qa_upd_s, a2]
  · show qa_upd (qa_upd C 25 m (qf_cool (C 25 m))) 26 m (qb (8 < qf_cool (C 25 m))) 26 = qa_upd (qa_upd N 42 m (qf_cool (N 42 m))) 43 m (qb (8 < qf_cool (N 42 m))) 43
    rw [qa_upd_s, qa_upd_s, qa_upd_n (by decide), qa_upd_n (by decide), a2, a3]
theorem fr_h {q p : Int × qa_Mem} {m : Int} (h : fr q.2 p.2) (e : q.1 = p.1) : fr (qc_h m q).2 (qm_h m p).2 ∧ (qc_h m q).1 = (qm_h m p).1 := by
  have w := fr_w (m := m) h
  unfold qc_h qm_h
  have a3 := h.1.2.2.1
  by_cases c : p.2 43 m ≠ 0
  · rw [qx_t (show q.2 26 m ≠ 0 by rw [a3]; exact c), qx_t c]
    exact ⟨fr_r h, by rw [e]⟩
  · rw [qx_f (show ¬ q.2 26 m ≠ 0 by rw [a3]; exact c), qx_f c]
    exact ⟨w.1, by show qa_wrap (q.1 + qc_wx q.2 m) = qa_wrap (p.1 + qm_wx p.2 m); rw [e, w.2]⟩
theorem fr_ms {q p : Int × qa_Mem} (h : fr q.2 p.2) (e : q.1 = p.1) (n : Nat) : fr (qc_ms q n).2 (qm_ms p n).2 ∧ (qc_ms q n).1 = (qm_ms p n).1 := by
  induction n with
  | zero => exact ⟨h, e⟩
  | succ n ih => exact fr_h ih.1 ih.2
theorem fr_hs {q p : Int × qa_Mem} (h : fr q.2 p.2) (e : q.1 = p.1) (k n : Nat) : fr (qc_hs q k n).2 (qm_hs p k n).2 ∧ (qc_hs q k n).1 = (qm_hs p k n).1 := by
  induction n with
  | zero => exact ⟨h, e⟩
  | succ n ih => exact fr_ms ih.1 ih.2 k
/-- the cells that no night writes -/
def qc_fr (C C' : qa_Mem) : Prop := (∀ k : Nat, k ≠ 18 → k ≠ 19 → k ≠ 20 → k ≠ 25 → k ≠ 26 → k ≠ 28 → k ≠ 5 → C' k = C k) ∧ ∀ i : Int, i ≠ 7 → C' 5 i = C 5 i
def qm_fr (N N' : qa_Mem) : Prop := (∀ k : Nat, k ≠ 38 → k ≠ 39 → k ≠ 40 → k ≠ 42 → k ≠ 43 → k ≠ 45 → k ≠ 46 → N' k = N k) ∧ ∀ i : Int, i ≠ 6 → N' 46 i = N 46 i
theorem qc_fr_h {q : Int × qa_Mem} {m : Int} : qc_fr q.2 (qc_h m q).2 := by
  unfold qc_h
  by_cases c : q.2 26 m ≠ 0
  · rw [qx_t c]
    exact ⟨fun k a1 a2 a3 a4 a5 a6 a7 => by show qc_rM q.2 m k = _; unfold qc_rM; rw [qa_upd_n a5, qa_upd_n a4], fun i hi => rfl⟩
  · rw [qx_f c]
    exact ⟨fun k a1 a2 a3 a4 a5 a6 a7 => by show qc_wM q.2 m k = _; rw [qc_wM_k a4 a5 a6 a7, qs_rm_k a1 a2 a3], fun i hi => qc_wM_5 hi⟩
theorem qm_fr_h {q : Int × qa_Mem} {m : Int} : qm_fr q.2 (qm_h m q).2 := by
  unfold qm_h
  by_cases c : q.2 43 m ≠ 0
  · rw [qx_t c]
    exact ⟨fun k a1 a2 a3 a4 a5 a6 a7 => by show qm_rM q.2 m k = _; unfold qm_rM; rw [qa_upd_n a5, qa_upd_n a4], fun i hi => rfl⟩
  · rw [qx_f c]
    exact ⟨fun k a1 a2 a3 a4 a5 a6 a7 => by show qm_wM q.2 m k = _; rw [qm_wM_k a4 a5 a6 a7, qm_rm_k a1 a2 a3], fun i hi => qm_wM_46 hi⟩
theorem qc_fr_t {A B C : qa_Mem} (h : qc_fr A B) (g : qc_fr B C) : qc_fr A C := ⟨fun k a1 a2 a3 a4 a5 a6 a7 => (g.1 k a1 a2 a3 a4 a5 a6 a7).trans (h.1 k a1 a2 a3 a4 a5 a6 a7), fun i hi => (g.2 i hi).trans (h.2 i hi)⟩
theorem qm_fr_t {A B C : qa_Mem} (h : qm_fr A B) (g : qm_fr B C) : qm_fr A C := ⟨fun k a1 a2 a3 a4 a5 a6 a7 => (g.1 k a1 a2 a3 a4 a5 a6 a7).trans (h.1 k a1 a2 a3 a4 a5 a6 a7), fun i hi => (g.2 i hi).trans (h.2 i hi)⟩
theorem qc_fr_ms {q : Int × qa_Mem} (n : Nat) : qc_fr q.2 (qc_ms q n).2 := by
  induction n with
  | zero => exact ⟨fun _ _ _ _ _ _ _ _ => rfl, fun _ _ => rfl⟩
  | succ n ih => exact qc_fr_t ih qc_fr_h
theorem qm_fr_ms {q : Int × qa_Mem} (n : Nat) : qm_fr q.2 (qm_ms q n).2 := by
  induction n with
  | zero => exact ⟨fun _ _ _ _ _ _ _ _ => rfl, fun _ _ => rfl⟩
  | succ n ih => exact qm_fr_t ih qm_fr_h
theorem qc_fr_hs {q : Int × qa_Mem} (k n : Nat) : qc_fr q.2 (qc_hs q k n).2 := by
  induction n with
  | zero => exact ⟨fun _ _ _ _ _ _ _ _ => rfl, fun _ _ => rfl⟩
  | succ n ih => exact qc_fr_t ih (qc_fr_ms k)
theorem qm_fr_hs {q : Int × qa_Mem} (k n : Nat) : qm_fr q.2 (qm_hs q k n).2 := by
  induction n with
  | zero => exact ⟨fun _ _ _ _ _ _ _ _ => rfl, fun _ _ => rfl⟩
  | succ n ih => exact qm_fr_t ih (qm_fr_ms k)
