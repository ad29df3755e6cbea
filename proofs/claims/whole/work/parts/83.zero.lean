/-! the start: all is 0 -/
theorem qz_bf (t : Int) (n : Nat) : qm_bf (fun _ => 0) t n = -1 := by
  induction n with
  | zero => rfl
  | succ n ih =>
    unfold qm_bf
    rw [if_neg (fun h => h rfl)]
    exact ih
theorem qz_bh (t : Int) (n : Nat) : qm_bh (fun _ => 0) t n = 120 := by
  induction n with
  | zero => rfl
  | succ n ih =>
    unfold qm_bh
    rw [if_neg (fun h => h rfl)]
    exact ih
theorem qz_or : qa_or 0 0 = 0 := by decide +kernel
theorem iv_0 {M : qa_Mem} (h : ∀ k : Nat, k < 47 → M k = fun _ => 0) : iv M := by
  have e : ∀ k : Nat, k < 47 → ∀ j : Int, M k j = 0 := fun k hk j => by rw [h k hk]
  have f : ∀ a b : Nat, a < 47 → b < 47 → M a = M b := fun a b ha hb => by rw [h a ha, h b hb]
  have n9 : (M 6 9).toNat = 0 := by rw [e 6 (by decide)]; rfl
  refine ⟨⟨by rw [e 1 (by decide), e 6 (by decide)], ⟨by rw [e 6 (by decide)]; decide, by rw [e 6 (by decide)]; decide⟩, f 9 29 (by decide) (by decide), f 10 30 (by decide) (by decide), f 11 31 (by decide) (by decide), fun u h0 h1 => ?_, fun u _ _ => e 29 (by decide) u, fun u _ _ => ?_⟩, ⟨⟨⟨?_, ?_, fun i j h0 h1 h2 => ?_, fun i h0 h1 => ?_, fun i _ _ => ?_, fun i _ _ => ?_, fun i _ _ => Or.inl (e 17 (by decide) i)⟩, fun p h0 h1 => ?_, fun j _ _ h => absurd (e 32 (by decide) j) h⟩, by rw [e 2 (by decide), e 6 (by decide)], fun p h0 h1 => ?_, fun j _ _ => ?_, fun j _ _ _ => ?_, fun j _ _ => ?_⟩, fun t f0 _ _ _ _ => ?_, ⟨f 19 39 (by decide) (by decide), fun f0 _ _ => ?_, fun t f0 _ _ _ _ => ?_⟩, ⟨by rw [e 4 (by decide), e 6 (by decide)], f 21 36 (by decide) (by decide), f 22 37 (by decide) (by decide), ⟨?_, fun k h0 h1 => ?_⟩, fun f0 _ _ => ?_, ?_⟩, ⟨f 24 41 (by decide) (by decide), f 25 42 (by decide) (by decide), f 26 43 (by decide) (by decide), f 27 44 (by decide) (by decide), f 28 45 (by decide) (by decide), by rw [e 5 (by decide), e 6 (by decide)], by rw [e 5 (by decide), e 6 (by decide)], ⟨?_, ?_, fun m _ _ => ?_, fun m h0 h1 => ?_, fun m h0 h1 => ?_⟩⟩, ⟨by rw [e 0 (by decide), e 6 (by decide)], ?_, by rw [e 5 (by decide), e 46 (by decide)], fun w _ => by rw [e 8 (by decide), e 46 (by decide)]⟩⟩
  · rw [e 6 (by decide)] at h1; omega
  · rw [e 30 (by decide), e 31 (by decide)]; omega
  · rw [e 2 (by decide)]; omega
  · rw [e 2 (by decide)]; omega
  · rw [e 2 (by decide)] at h2; omega
  · rw [e 2 (by decide)] at h1; omega
  · rw [e 15 (by decide)]; omega
  · rw [e 16 (by decide)]; omega
  · rw [e 2 (by decide)] at h1; omega
  · rw [e 2 (by decide)] at h1; omega
  · rw [e 33 (by decide)]; omega
  · rw [e 33 (by decide), e 35 (by decide)]; omega
  · rw [e 34 (by decide)]; omega
  · rw [e 12 (by decide), e 13 (by decide), h 32 (by decide)]
    unfold qm_v qm_b1 qm_b2
    rw [qz_bf, qz_bh, if_pos rfl, if_pos rfl, if_pos rfl, if_neg (fun z => absurd z.1 (by decide)), qz_or]
    exact ⟨rfl, rfl⟩
  · rw [e 20 (by decide)]
    unfold qm_ss
    rw [e 38 (by decide), if_pos rfl]
  · rw [e 18 (by decide), e 40 (by decide)]
  · rw [e 6 (by decide)]; omega
  · rw [e 6 (by decide)] at h1; omega
  · rw [e 23 (by decide), n9]; rfl
  · unfold qm_len
    rw [e 4 (by decide), n9]; rfl
  · rw [e 6 (by decide)]; omega
  · rw [e 6 (by decide)]; omega
  · rw [e 42 (by decide), e 43 (by decide)]; omega
  · rw [e 6 (by decide)] at h1; omega
  · rw [e 6 (by decide)] at h1; omega
  · rw [e 6 (by decide)]; omega
