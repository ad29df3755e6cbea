/-! the film's sums -/
noncomputable def qf_in (F G : Int → Int) (f : Int) : Int → Int := fun k => qb (F k ≤ f ∧ f ≤ G k)
noncomputable def qf_tm (F G : Int → Int) (n : Nat) (f : Int) : Int := qf_sum (qf_in F G f) n
theorem qf_tm_r (F G : Int → Int) (n : Nat) (f : Int) : 0 ≤ qf_tm F G n f ∧ qf_tm F G n f ≤ n := by
  have h := qf_sum_r (A := qf_in F G f) (B := 1) n (fun j _ _ => by
    unfold qf_in
    rcases qb_01 (F j ≤ f ∧ f ≤ G j) with h | h <;> rw [h] <;> decide)
  rw [Int.mul_one] at h
  exact h
theorem qf_tm_p (F G : Int → Int) (n : Nat) (f : Int) : 0 < qf_tm F G n f ↔ ∃ k : Int, 0 ≤ k ∧ k < n ∧ F k ≤ f ∧ f ≤ G k := by
  induction n with
  | zero => exact ⟨fun h => absurd (show (0 : Int) < 0 from h) (by decide), fun ⟨k, a, b, c⟩ => by omega⟩
  | succ n ih =>
    have r := qf_tm_r F G n f
    have e : qf_tm F G (n + 1) f = qf_tm F G n f + qb (F n ≤ f ∧ f ≤ G n) := rfl
    rw [e]
    by_cases hn : F n ≤ f ∧ f ≤ G n
    · rw [qb_t hn]
      exact ⟨fun _ => ⟨n, by omega, by omega, hn⟩, fun _ => by omega⟩
    · rw [qb_f hn, Int.add_zero, ih]
      exact ⟨fun ⟨k, a, b, c⟩ => ⟨k, a, by omega, c⟩, fun ⟨k, a, b, c⟩ => ⟨k, a, by
        by_cases hk : k = n
        · rw [hk] at c; exact absurd c hn
        · omega, c⟩⟩
theorem qf_one {g : Int → Int} (hg : ∀ x, g x = 0 ∨ g x = 1) {a b : Int} (h0 : 0 ≤ a) (h1 : a ≤ b) (h2 : b < 120) : qf_sum (fun f => if g f = 0 then 0 else qb (a ≤ f ∧ f ≤ b)) 120 = qm_sf g a (b - a + 1).toNat := by
  have key : ∀ m : Nat, m ≤ 120 → qf_sum (fun f => if g f = 0 then 0 else qb (a ≤ f ∧ f ≤ b)) m = if (m : Int) ≤ a then 0 else if (m : Int) ≤ b + 1 then qm_sf g a (m - a).toNat else qm_sf g a (b - a + 1).toNat := by
    intro m
    induction m with
    | zero => intro _; rw [if_pos (by omega)]; rfl
    | succ m ih =>
      intro hm
      have i := ih (by omega)
      show qf_sum (fun f => if g f = 0 then 0 else qb (a ≤ f ∧ f ≤ b)) m + (if g m = 0 then 0 else qb (a ≤ (m : Int) ∧ (m : Int) ≤ b)) = _
      rw [i]
      by_cases c1 : ((m + 1 : Nat) : Int) ≤ a
      · rw [if_pos c1, if_pos (by omega), qb_f (by omega)]
        split <;> rfl
      · rw [if_neg c1]
        by_cases c2 : (m : Int) ≤ b
        · have eg : (if g m = 0 then 0 else qb (a ≤ (m : Int) ∧ (m : Int) ≤ b)) = g m := by
            rw [qb_t (by omega)]
            rcases hg m with h | h
            · rw [if_pos h, h]
            · rw [if_neg (by rw [h]; decide), h]
          rw [eg, if_pos (show ((m + 1 : Nat) : Int) ≤ b + 1 by omega)]
          by_cases c3 : (m : Int) ≤ a
          · rw [if_pos c3]
            obtain rfl : a = m := by omega
            rw [show (((m + 1 : Nat) : Int) - m).toNat = 0 + 1 by omega]
            show 0 + g m = 0 + g (m + (0 : Nat))
            rw [show (m : Int) + ((0 : Nat) : Int) = m by omega]
          · rw [if_neg c3, if_pos (by omega), show (((m + 1 : Nat) : Int) - a).toNat = ((m : Int) - a).toNat + 1 by omega]
            show _ = qm_sf g a ((m : Int) - a).toNat + g (a + (((m : Int) - a).toNat : Nat))
            rw [show a + ((((m : Int) - a).toNat : Nat) : Int) = m by omega]
        · rw [if_neg (show ¬ ((m + 1 : Nat) : Int) ≤ b + 1 by omega), if_neg (show ¬ (m : Int) ≤ a by omega), qb_f (by omega)]
          have e0 : (if g m = 0 then (0 : Int) else 0) = 0 := by split <;> rfl
          rw [e0, Int.add_zero]
          by_cases c4 : (m : Int) ≤ b + 1
          · rw [if_pos c4, show ((m : Int) - a) = b - a + 1 by omega]
          · rw [if_neg c4]
  rw [key 120 (Nat.le_refl _), if_neg (by omega)]
  by_cases c : ((120 : Nat) : Int) ≤ b + 1
  · rw [if_pos c, show (((120 : Nat) : Int) - a) = b - a + 1 by omega]
  · rw [if_neg c]
theorem qf_two {g F G : Int → Int} (hg : ∀ x, g x = 0 ∨ g x = 1) (n : Nat) (h : ∀ k : Int, 0 ≤ k → k < n → 0 ≤ F k ∧ F k ≤ G k ∧ G k < 120) : qf_sum (fun f => if g f = 0 then 0 else qf_tm F G n f) 120 = qf_sum (fun k => qm_sf g (F k) (G k - F k + 1).toNat) n := by
  induction n with
  | zero =>
    have e : (fun f => if g f = 0 then (0 : Int) else qf_tm F G 0 f) = (fun _ => 0) := by
      funext f
      split
      · rfl
      · rfl
    rw [e, qf_sum_0]
    rfl
  | succ n ih =>
    have i := ih (fun k a b => h k a (by omega))
    have w := h n (by omega) (by omega)
    show _ = qf_sum (fun k => qm_sf g (F k) (G k - F k + 1).toNat) n + qm_sf g (F n) (G n - F n + 1).toNat
    rw [← i, ← qf_one hg w.1 w.2.1 w.2.2, ← qf_sum_add]
    refine congrArg (fun z => qf_sum z 120) ?_
    funext f
    show (if g f = 0 then 0 else qf_tm F G n f + qb (F n ≤ f ∧ f ≤ G n)) = _
    split
    · rfl
    · rfl
/-- a place of the film lies in it just if it is less than its length -/
theorem qm_at_s {F G : Int → Int} (n : Nat) : ∀ (k left : Int), 0 ≤ left → (∀ j : Int, k ≤ j → j < k + n → 0 ≤ F j ∧ F j ≤ G j) → (qm_at F G n k left = -1 ↔ qf_sum (fun j => G (k + j) - F (k + j) + 1) n ≤ left) ∧ (qm_at F G n k left ≠ -1 → 0 ≤ qm_at F G n k left) := by
  have shift : ∀ (A : Int → Int) (n : Nat), qf_sum A (n + 1) = A 0 + qf_sum (fun j => A (j + 1)) n := by
    intro A n
    induction n with
    | zero => show 0 + A 0 = A 0 + 0; omega
    | succ n ih =>
      show qf_sum A (n + 1) + A ((n + 1 : Nat) : Int) = A 0 + (qf_sum (fun j => A (j + 1)) n + A ((n : Int) + 1))
      rw [ih, show ((n + 1 : Nat) : Int) = (n : Int) + 1 by omega]
      omega
  induction n with
  | zero =>
    intro k left h0 h
    exact ⟨⟨fun _ => h0, fun _ => rfl⟩, fun z => absurd rfl z⟩
  | succ n ih =>
    intro k left h0 h
    have w := h k (Int.le_refl _) (by omega)
    unfold qm_at
    rw [shift]
    have es : (fun j : Int => (fun j => G (k + j) - F (k + j) + 1) (j + 1)) = (fun j => G (k + 1 + j) - F (k + 1 + j) + 1) := by
      funext j
      dsimp only
      rw [show k + (j + 1) = k + 1 + j by omega]
    rw [es, show k + 0 = k by omega]
    by_cases hl : left < G k - F k + 1
    · rw [if_pos hl]
      have nn : 0 ≤ qf_sum (fun j => G (k + 1 + j) - F (k + 1 + j) + 1) n := by
        have : ∀ m : Nat, m ≤ n → 0 ≤ qf_sum (fun j => G (k + 1 + j) - F (k + 1 + j) + 1) m := by
          intro m
          induction m with
          | zero => intro _; exact Int.le_refl _
          | succ m im =>
            intro hm
            have := im (by omega)
            have w2 := h (k + 1 + m) (by omega) (by omega)
            unfold qf_sum
            omega
        exact this n (Nat.le_refl _)
      exact ⟨⟨fun z => by omega, fun z => by omega⟩, fun _ => by omega⟩
    · rw [if_neg hl]
      obtain ⟨i1, i2⟩ := ih (k + 1) (left - (G k - F k + 1)) (by omega) (fun j a b => h j (by omega) (by omega))
      exact ⟨i1.trans ⟨fun z => by omega, fun z => by omega⟩, i2⟩
