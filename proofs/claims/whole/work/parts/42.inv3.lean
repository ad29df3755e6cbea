/-! places, artists, sums -/
theorem qg_rot_a (n : Nat) : ∀ p q : Int × Int, qg_rot n (p.1 + q.1, p.2 + q.2) = ((qg_rot n p).1 + (qg_rot n q).1, (qg_rot n p).2 + (qg_rot n q).2) := by
  induction n with
  | zero => intro p q; rfl
  | succ n ih =>
    intro p q
    have e := ih (-p.2, p.1) (-q.2, q.1)
    show qg_rot n (-(p.2 + q.2), p.1 + q.1) = _
    rw [show -(p.2 + q.2) = -p.2 + -q.2 by omega]
    exact e
theorem qg_rot_p (m : Nat) : ∀ (n : Nat) (p : Int × Int), qg_rot m (qg_rot n p) = qg_rot (n + m) p := by
  intro n
  induction n with
  | zero => intro p; rw [Nat.zero_add]; rfl
  | succ n ih => intro p; rw [show n + 1 + m = (n + m) + 1 by omega]; exact ih (-p.2, p.1)
theorem qg_rot_4 (n : Nat) (p : Int × Int) : qg_rot (n + 4) p = qg_rot n p := by
  show qg_rot n (-(-p.1), -(-p.2)) = _
  rw [Int.neg_neg, Int.neg_neg]
theorem qg_rot_m (n : Nat) (p : Int × Int) : qg_rot (n % 4) p = qg_rot n p := by
  have h : ∀ k r : Nat, qg_rot (r + 4 * k) p = qg_rot r p := by
    intro k
    induction k with
    | zero => intro r; rfl
    | succ k ih => intro r; rw [show r + 4 * (k + 1) = (r + 4 * k) + 4 by omega, qg_rot_4]; exact ih r
  have e := h (n / 4) (n % 4)
  rw [show n % 4 + 4 * (n / 4) = n by omega] at e
  exact e.symm
theorem qm_hd_f {P T : Int → Int} (hP : ∀ u : Int, 0 ≤ u → u < 8 → -1 ≤ P u ∧ P u < u) (n : Nat) : ∀ (m : Nat) (u : Int), -1 ≤ u → u < 8 → u < n → u < m → qm_hd P T n u = qm_hd P T m u := by
  induction n with
  | zero =>
    intro m u h1 h2 h3 h4
    obtain rfl : u = -1 := by omega
    cases m with
    | zero => rfl
    | succ m => unfold qm_hd; rw [if_pos rfl]
  | succ n ih =>
    intro m u h1 h2 h3 h4
    cases m with
    | zero =>
      obtain rfl : u = -1 := by omega
      unfold qm_hd; rw [if_pos rfl]
    | succ m =>
      unfold qm_hd
      by_cases hu : u = -1
      · rw [if_pos hu, if_pos hu]
      · rw [if_neg hu, if_neg hu]
        have a := hP u (by omega) h2
        rw [ih m (P u) a.1 (by omega) (by omega) (by omega)]
theorem qm_pl_f {P T X Y : Int → Int} (hP : ∀ u : Int, 0 ≤ u → u < 8 → -1 ≤ P u ∧ P u < u) (n : Nat) : ∀ (m : Nat) (u : Int), -1 ≤ u → u < 8 → u < n → u < m → qm_pl P T X Y n u = qm_pl P T X Y m u := by
  induction n with
  | zero =>
    intro m u h1 h2 h3 h4
    obtain rfl : u = -1 := by omega
    cases m with
    | zero => rfl
    | succ m => unfold qm_pl; rw [if_pos rfl]
  | succ n ih =>
    intro m u h1 h2 h3 h4
    cases m with
    | zero =>
      obtain rfl : u = -1 := by omega
      unfold qm_pl; rw [if_pos rfl]
    | succ m =>
      unfold qm_pl
      by_cases hu : u = -1
      · rw [if_pos hu, if_pos hu]
      · rw [if_neg hu, if_neg hu]
        have a := hP u (by omega) h2
        rw [ih m (P u) a.1 (by omega) (by omega) (by omega)]
theorem qg_place {P T X Y : Int → Int} (hP : ∀ u : Int, 0 ≤ u → u < 8 → -1 ≤ P u ∧ P u < u) (hT : ∀ u : Int, 0 ≤ u → u < 8 → 0 ≤ T u ∧ T u ≤ 3) (n : Nat) : ∀ (u x y : Int), -1 ≤ u → u < 8 → u < n → qg_c P T X Y n u x y = ((qg_rot (qm_hd P T 8 u).toNat (x, y)).1 + (qm_pl P T X Y 8 u).1, (qg_rot (qm_hd P T 8 u).toNat (x, y)).2 + (qm_pl P T X Y 8 u).2) := by
  induction n with
  | zero =>
    intro u x y h1 h2 h3
    obtain rfl : u = -1 := by omega
    show (x, y) = (x + 0, y + 0)
    rw [Int.add_zero, Int.add_zero]
  | succ n ih =>
    intro u x y h1 h2 h3
    by_cases hu : u = -1
    · subst hu
      show (x, y) = (x + 0, y + 0)
      rw [Int.add_zero, Int.add_zero]
    · have a := hP u (by omega) h2
      have b := hT u (by omega) h2
      have hr := qm_hd_r (P := P) (T := T) hP hT 8 (P u) a.1 (by omega)
      have eh : qm_hd P T 8 u = T u + qm_hd P T 8 (P u) := by
        rw [qm_hd_f hP 8 9 u h1 h2 (by omega) (by omega)]
        show (if u = -1 then 0 else T u + qm_hd P T 8 (P u)) = _
        rw [if_neg hu]
      have ep : qm_pl P T X Y 8 u = ((qg_rot (qm_q P T u).toNat (X u, Y u)).1 + (qm_pl P T X Y 8 (P u)).1, (qg_rot (qm_q P T u).toNat (X u, Y u)).2 + (qm_pl P T X Y 8 (P u)).2) := by
        rw [qm_pl_f hP 8 9 u h1 h2 (by omega) (by omega)]
        show (if u = -1 then (0, 0) else _) = _
        rw [if_neg hu]
      have eq : qg_rot (qm_q P T u).toNat (X u, Y u) = qg_rot (qm_hd P T 8 (P u)).toNat (X u, Y u) := by
        unfold qm_q
        by_cases hp : P u = -1
        · rw [if_pos hp, hp]; rfl
        · rw [if_neg hp, show (qm_hd P T 8 (P u) % 4).toNat = (qm_hd P T 8 (P u)).toNat % 4 by omega, qg_rot_m]
      unfold qg_c
      rw [if_neg (by omega), ih (P u) _ _ a.1 (by omega) (by omega), ep, eq, eh]
      have e1 := qg_rot_a (qm_hd P T 8 (P u)).toNat (qg_rot (T u).toNat (x, y)) (X u, Y u)
      rw [qg_rot_p, show (T u).toNat + (qm_hd P T 8 (P u)).toNat = (T u + qm_hd P T 8 (P u)).toNat by omega] at e1
      dsimp only at e1 ⊢
      rw [e1]
      congr 1 <;> dsimp only <;> omega
theorem qg_place_b {P T X Y : Int → Int} (hP : ∀ u : Int, 0 ≤ u → u < 8 → -1 ≤ P u ∧ P u < u) (hT : ∀ u : Int, 0 ≤ u → u < 8 → 0 ≤ T u ∧ T u ≤ 3) {b : Int} (h0 : 0 ≤ b) (h1 : b < 8) : qg_c P T X Y 8 (P b) (X b) (Y b) = qm_pl P T X Y 8 b := by
  have a := hP b h0 h1
  rw [qg_place hP hT 8 (P b) (X b) (Y b) a.1 (by omega) (by omega)]
  have ep : qm_pl P T X Y 8 b = ((qg_rot (qm_q P T b).toNat (X b, Y b)).1 + (qm_pl P T X Y 8 (P b)).1, (qg_rot (qm_q P T b).toNat (X b, Y b)).2 + (qm_pl P T X Y 8 (P b)).2) := by
    rw [qm_pl_f hP 8 9 b (by omega) h1 (by omega) (by omega)]
    show (if b = -1 then (0, 0) else _) = _
    rw [if_neg (by omega)]
  have hr := qm_hd_r (P := P) (T := T) hP hT 8 (P b) a.1 (by omega)
  have eq : qg_rot (qm_q P T b).toNat (X b, Y b) = qg_rot (qm_hd P T 8 (P b)).toNat (X b, Y b) := by
    unfold qm_q
    by_cases hp : P b = -1
    · rw [if_pos hp, hp]; rfl
    · rw [if_neg hp, show (qm_hd P T 8 (P b) % 4).toNat = (qm_hd P T 8 (P b)).toNat % 4 by omega, qg_rot_m]
  rw [ep, eq]
theorem qa_or_a (x y z : Int) : qa_or (qa_or x y) z = qa_or x (qa_or y z) := by
  unfold qa_or
  rw [Int32.ofInt_toInt, Int32.ofInt_toInt, Int32.or_assoc]
theorem qf_or_ar {B K A F : Int → Int} {f : Int} (n : Nat) (h : ∀ t : Int, 0 ≤ t → t < n → B t = qa_or (qm_b1 K A t f) (qm_b2 K A F t f)) : qf_or B n = qm_ar K A F f n := by
  induction n with
  | zero => rfl
  | succ n ih =>
    unfold qf_or qm_ar
    rw [ih (fun t a b => h t a (by omega)), h n (by omega) (by omega), qa_or_a]
theorem qa_or_64 : ∀ x y : Fin 64, 0 ≤ qa_or x.val y.val ∧ qa_or x.val y.val < 64 := by decide +kernel
theorem qa_or_lt {x y : Int} (hx : 0 ≤ x ∧ x < 64) (hy : 0 ≤ y ∧ y < 64) : 0 ≤ qa_or x y ∧ qa_or x y < 64 := by
  have h := qa_or_64 ⟨x.toNat, by omega⟩ ⟨y.toNat, by omega⟩
  simp only [Int.toNat_of_nonneg hx.1, Int.toNat_of_nonneg hy.1] at h
  exact h
theorem qa_shl_6 : ∀ a : Fin 6, 0 ≤ qa_shl 1 a.val ∧ qa_shl 1 a.val < 64 := by decide +kernel
theorem qa_shl_lt {a : Int} (ha : 0 ≤ a ∧ a < 6) : 0 ≤ qa_shl 1 a ∧ qa_shl 1 a < 64 := by
  have h := qa_shl_6 ⟨a.toNat, by omega⟩
  simp only [Int.toNat_of_nonneg ha.1] at h
  exact h
theorem qa_bit_6 : ∀ (s : Fin 64) (w : Fin 6), (qa_and s.val (qa_shl 1 w.val) = 0 → qa_and (qa_shr s.val w.val) 1 = 0) ∧ (qa_and s.val (qa_shl 1 w.val) ≠ 0 → qa_and (qa_shr s.val w.val) 1 = 1) := by decide +kernel
theorem qa_bit {s w : Int} (hs : 0 ≤ s ∧ s < 64) (hw : 0 ≤ w ∧ w < 6) : (qa_and s (qa_shl 1 w) = 0 → qa_and (qa_shr s w) 1 = 0) ∧ (qa_and s (qa_shl 1 w) ≠ 0 → qa_and (qa_shr s w) 1 = 1) := by
  have h := qa_bit_6 ⟨s.toNat, by omega⟩ ⟨w.toNat, by omega⟩
  simp only [Int.toNat_of_nonneg hs.1, Int.toNat_of_nonneg hw.1] at h
  exact h
theorem qm_ar_lt {K A F : Int → Int} {f : Int} (hA : ∀ j : Int, 0 ≤ j → j < 2880 → 0 ≤ A j ∧ A j < 6) (hf : 0 ≤ f ∧ f ≤ 119) (n : Nat) (hn : n ≤ 24) : 0 ≤ qm_ar K A F f n ∧ qm_ar K A F f n < 64 := by
  induction n with
  | zero => exact ⟨show (0 : Int) ≤ 0 by decide, show (0 : Int) < 64 by decide⟩
  | succ n ih =>
    unfold qm_ar
    have rf := qm_bf_r K n (f + 1).toNat
    have rh := qm_bh_r K n (119 - f).toNat (by omega)
    refine qa_or_lt (qa_or_lt (ih (by omega)) ?_) ?_
    · unfold qm_b1
      split
      · omega
      · exact qa_shl_lt (hA _ (by omega) (by omega))
    · unfold qm_b2
      split
      · exact qa_shl_lt (hA _ (by omega) (by omega))
      · omega
theorem qf_sum_c {A B : Int → Int} (n : Nat) (h : ∀ j : Int, 0 ≤ j → j < n → A j = B j) : qf_sum A n = qf_sum B n := by
  induction n with
  | zero => rfl
  | succ n ih =>
    unfold qf_sum
    rw [ih (fun j a b => h j a (by omega)), h n (by omega) (by omega)]
theorem qf_sum_add {A B : Int → Int} (n : Nat) : qf_sum (fun j => A j + B j) n = qf_sum A n + qf_sum B n := by
  induction n with
  | zero => rfl
  | succ n ih => unfold qf_sum; rw [ih]; omega
theorem qf_sum_0 (n : Nat) : qf_sum (fun _ => 0) n = 0 := by
  induction n with
  | zero => rfl
  | succ n ih => unfold qf_sum; rw [ih]; rfl
theorem qf_sum_ins {A : Int → Int} {p v : Int} (n : Nat) (h0 : 0 ≤ p) (h1 : p ≤ n) : qf_sum (qf_ins A p n v) (n + 1) = qf_sum A n + v := by
  have key : ∀ m : Nat, m ≤ n + 1 → qf_sum (qf_ins A p n v) m = if (m : Int) ≤ p then qf_sum A m else qf_sum A (m - 1) + v := by
    intro m
    induction m with
    | zero => intro _; rw [if_pos (by omega)]; rfl
    | succ m ih =>
      intro hm
      have i := ih (by omega)
      show qf_sum (qf_ins A p n v) m + qf_ins A p n v m = _
      rw [i]
      by_cases c1 : ((m + 1 : Nat) : Int) ≤ p
      · rw [if_pos c1, if_pos (by omega)]
        unfold qf_ins
        rw [if_neg (by omega), if_neg (by omega)]
        rfl
      · rw [if_neg c1]
        by_cases c2 : (m : Int) ≤ p
        · rw [if_pos c2]
          unfold qf_ins
          rw [if_pos (by omega)]
          rfl
        · rw [if_neg c2]
          unfold qf_ins
          rw [if_neg (by omega), if_pos (by omega)]
          cases m with
          | zero => omega
          | succ m =>
            show qf_sum A m + v + A (((m + 1 : Nat) : Int) - 1) = qf_sum A m + A m + v
            rw [show ((m + 1 : Nat) : Int) - 1 = m by omega]
            omega
  rw [key (n + 1) (Nat.le_refl _), if_neg (by omega)]
  rfl
theorem qf_sum_del {A : Int → Int} {p : Int} (n : Nat) (h0 : 0 ≤ p) (h1 : p < (n + 1 : Nat)) : qf_sum (qf_del A p (n + 1 : Nat)) n = qf_sum A (n + 1) - A p := by
  have key : ∀ m : Nat, m ≤ n → qf_sum (qf_del A p (n + 1 : Nat)) m = if (m : Int) ≤ p then qf_sum A m else qf_sum A (m + 1) - A p := by
    intro m
    induction m with
    | zero => intro _; rw [if_pos (by omega)]; rfl
    | succ m ih =>
      intro hm
      have i := ih (by omega)
      show qf_sum (qf_del A p (n + 1 : Nat)) m + qf_del A p (n + 1 : Nat) m = _
      rw [i]
      by_cases c1 : ((m + 1 : Nat) : Int) ≤ p
      · rw [if_pos c1, if_pos (by omega)]
        unfold qf_del
        rw [if_neg (by omega)]
        rfl
      · rw [if_neg c1]
        have e : qf_del A p (n + 1 : Nat) m = A (m + 1) := by unfold qf_del; rw [if_pos (by omega)]
        rw [e]
        by_cases c2 : (m : Int) ≤ p
        · obtain rfl : p = m := by omega
          rw [if_pos c2]
          show qf_sum A m + A (m + 1) = qf_sum A m + A m + A ((m + 1 : Nat) : Int) - A m
          rw [show ((m + 1 : Nat) : Int) = (m : Int) + 1 by omega]
          omega
        · rw [if_neg c2]
          show qf_sum A m + A m - A p + A (m + 1) = qf_sum A m + A m + A ((m + 1 : Nat) : Int) - A p
          rw [show ((m + 1 : Nat) : Int) = (m : Int) + 1 by omega]
          omega
  rw [key n (Nat.le_refl _)]
  by_cases c : (n : Int) ≤ p
  · obtain rfl : p = n := by omega
    rw [if_pos c]
    show _ = qf_sum A n + A n - A n
    omega
  · rw [if_neg c]
