/-! the night: class and reference side by side -/
def fr (C N : qa_Mem) : Prop := (C 24 = N 41 ∧ C 25 = N 42 ∧ C 26 = N 43 ∧ C 27 = N 44 ∧ C 28 = N 45 ∧ C 5 6 = N 6 19 ∧ C 5 7 = N 46 6) ∧ (C 19 = N 39 ∧ (∀ f : Int, 0 ≤ f → f < 120 → C 20 f = qm_ss N f) ∧ (∀ t f : Int, 0 ≤ t → t < 24 → 0 ≤ f → f < 120 → C 18 (t * 120 + f) = N 40 (24 * f + t))) ∧ (C 1 3 = N 6 0 ∧ N 6 0 ≤ 8 ∧ (∀ t f : Int, 0 ≤ t → t < 24 → 0 ≤ f → f ≤ 119 → C 12 (t * 120 + f) = qm_v (N 32) (N 33) (N 35) t f)) ∧ (∀ f : Int, 0 ≤ f → f < 120 → (0 < C 23 f ↔ qm_nd N f))
theorem fr_need {C N : qa_Mem} (h : fr C N) {f : Int} (f0 : 0 ≤ f) (f1 : f < 120) : qc_need C f ↔ qm_need N f := by
  show (0 < C 23 f ∧ C 20 f ≠ 1) ↔ (qm_nd N f ∧ ¬ qm_st N f)
  rw [h.2.2.2 f f0 f1, h.2.1.2.1 f f0 f1]
  exact ⟨fun z => ⟨z.1, fun y => z.2 (iv_ss1.mpr y)⟩, fun z => ⟨z.1, fun y => z.2 (iv_ss1.mp y)⟩⟩
theorem fr_p {C N : qa_Mem} (h : fr C N) {sp f : Int} (f0 : 0 ≤ f) (f1 : f < 120) : qr_p (qc_need C) sp f ↔ qr_p (qm_need N) sp f := by
  unfold qr_p
  rw [qr_c_c sp f.toNat (fun j a b => fr_need h a (by omega))]
  exact and_congr Iff.rfl (fr_need h f0 f1)
/-- the stills behind a machine's rendering -/
theorem fr_rm {C N : qa_Mem} (h : fr C N) (sp : Int) : qs_rm C (qc_need C) sp 120 19 = qm_rm N (qm_need N) sp 120 39 ∧ (∀ f : Int, 0 ≤ f → f < 120 → qs_rm C (qc_need C) sp 120 20 f = qm_ss (qm_rm N (qm_need N) sp 120) f) ∧ (∀ t f : Int, 0 ≤ t → t < 24 → 0 ≤ f → f < 120 → qs_rm C (qc_need C) sp 120 18 (t * 120 + f) = qm_rm N (qm_need N) sp 120 40 (24 * f + t)) := by
  have hb := h.2.2.1.1
  have hb2 := h.2.2.1.2.1
  have e40 : ∀ t f : Int, 0 ≤ t → t < 24 → 0 ≤ f → f < 120 → qm_rm N (qm_need N) sp 120 40 (24 * f + t) = qx (qr_p (qm_need N) sp f ∧ t < 3 * N 6 0) (qm_v (N 32) (N 33) (N 35) t f) (N 40 (24 * f + t)) := fun t f t0 t1 f0 f1 => by
    show qx (qr_p (qm_need N) sp ((24 * f + t) / 24) ∧ (24 * f + t) / 24 < 120 ∧ 0 ≤ 24 * f + t ∧ (24 * f + t) % 24 < 3 * N 6 0) (qm_v (N 32) (N 33) (N 35) ((24 * f + t) % 24) ((24 * f + t) / 24)) (N 40 (24 * f + t)) = _
    rw [show (24 * f + t) / 24 = f by omega, show (24 * f + t) % 24 = t by omega]
    exact qx_c ⟨fun z => ⟨z.1, z.2.2.2⟩, fun z => ⟨z.1, f1, by omega, z.2⟩⟩
  refine ⟨?_, ?_, ?_⟩
  · show (fun f => qx (qr_p (qc_need C) sp f ∧ 0 ≤ f ∧ f < 120) (C 1 3) (C 19 f)) = (fun f => qx (qr_p (qm_need N) sp f ∧ 0 ≤ f ∧ f < 120) (N 6 0) (N 39 f))
    funext f
    rw [hb, h.2.1.1]
    exact qx_c ⟨fun z => ⟨(fr_p h z.2.1 z.2.2).mp z.1, z.2⟩, fun z => ⟨(fr_p h z.2.1 z.2.2).mpr z.1, z.2⟩⟩
  · intro f f0 f1
    show qx (qr_p (qc_need C) sp f ∧ 0 ≤ f ∧ f < 120) 1 (C 20 f) = _
    by_cases c : qr_p (qm_need N) sp f
    · rw [qx_t ⟨(fr_p h f0 f1).mpr c, f0, f1⟩]
      refine (iv_ss1.mpr ⟨?_, ?_, ?_⟩).symm
      · show qx (qr_p (qm_need N) sp f ∧ 0 ≤ f ∧ f < 120) 1 (N 38 f) ≠ 0
        rw [qx_t ⟨c, f0, f1⟩]; decide
      · show qx (qr_p (qm_need N) sp f ∧ 0 ≤ f ∧ f < 120) (N 6 0) (N 39 f) = N 6 0
        rw [qx_t ⟨c, f0, f1⟩]
      · intro k k0 k1
        have k1' : k < 3 * N 6 0 := k1
        rw [e40 k f k0 (by omega) f0 f1, qx_t ⟨c, k1'⟩]
        rfl
    · rw [qx_f (fun z => c ((fr_p h f0 f1).mp z.1)), h.2.1.2.1 f f0 f1]
      have e38 : qm_rm N (qm_need N) sp 120 38 f = N 38 f := by
        show qx (qr_p (qm_need N) sp f ∧ 0 ≤ f ∧ f < 120) 1 (N 38 f) = _
        rw [qx_f (fun z => c z.1)]
      have e39 : qm_rm N (qm_need N) sp 120 39 f = N 39 f := by
        show qx (qr_p (qm_need N) sp f ∧ 0 ≤ f ∧ f < 120) (N 6 0) (N 39 f) = _
        rw [qx_f (fun z => c z.1)]
      have st : qm_st N f ↔ qm_st (qm_rm N (qm_need N) sp 120) f := by
        unfold qm_st
        rw [e38, e39]
        refine and_congr Iff.rfl (and_congr Iff.rfl ⟨fun z k k0 k1 => ?_, fun z k k0 k1 => ?_⟩)
        · have k1' : k < 3 * N 6 0 := k1
          rw [e40 k f k0 (by omega) f0 f1, qx_f (fun z => c z.1)]
          exact z k k0 k1'
        · have := z k k0 k1
          rw [e40 k f k0 (by omega) f0 f1, qx_f (fun z => c z.1)] at this
          exact this
      unfold qm_ss
      rw [e38, qb_c st]
  · intro t f t0 t1 f0 f1
    rw [e40 t f t0 t1 f0 f1]
    show qx (qr_p (qc_need C) sp ((t * 120 + f) % 120) ∧ (t * 120 + f) % 120 < 120 ∧ 0 ≤ t * 120 + f ∧ t * 120 + f < 360 * C 1 3) (C 12 (t * 120 + f)) (C 18 (t * 120 + f)) = _
    rw [show (t * 120 + f) % 120 = f by omega, h.2.2.1.2.2 t f t0 t1 f0 (by omega), h.2.1.2.2 t f t0 t1 f0 f1]
    exact qx_c ⟨fun z => ⟨(fr_p h f0 f1).mp z.1, by omega⟩, fun z => ⟨(fr_p h f0 f1).mpr z.1, f1, by omega, by omega⟩⟩
