/-! arrays as functions -/
def qa_blk (M : qa_Mem) (k : Nat) (f : Int → Int) : qa_Mem := fun a b => if a = k then f b else M a b
theorem qa_blk_e {M : qa_Mem} {k : Nat} {f : Int → Int} : qa_blk M k f k = f := by funext b; unfold qa_blk; rw [if_pos rfl]
theorem qa_blk_n {M : qa_Mem} {k a : Nat} {f : Int → Int} (h : a ≠ k) : qa_blk M k f a = M a := by funext b; unfold qa_blk; rw [if_neg h]
theorem qa_upd_n {M : qa_Mem} {k a : Nat} {i v : Int} (h : a ≠ k) : qa_upd M k i v a = M a := by funext b; unfold qa_upd; rw [if_neg (fun q => h q.1)]
theorem qa_upd_i {M : qa_Mem} {k : Nat} {i v j : Int} (h : j ≠ i) : qa_upd M k i v k j = M k j := by unfold qa_upd; rw [if_neg (fun q => h q.2)]
theorem qa_upd_e {M : qa_Mem} {k : Nat} {i v : Int} : qa_upd M k i v k i = v := by unfold qa_upd; rw [if_pos ⟨rfl, rfl⟩]
def qf_ca (C : Int → Int) (n code : Int) : Nat → Int → Int
  | 0, a => a
  | k + 1, a => if a < n ∧ C a < code then qf_ca C n code k (a + 1) else a
def qf_ins (A : Int → Int) (p n v : Int) : Int → Int := fun j => if j = p then v else if p < j ∧ j ≤ n then A (j - 1) else A j
def qf_del (A : Int → Int) (p n : Int) : Int → Int := fun j => if p ≤ j ∧ j < n - 1 then A (j + 1) else A j
def qf_add (A : Int → Int) (lo hi c : Int) : Int → Int := fun j => if lo ≤ j ∧ j ≤ hi then A j + c else A j
def qf_set (A : Int → Int) (p v : Int) : Int → Int := fun j => if j = p then v else A j
/-- how many of the first n hold P -/
noncomputable def qf_cnt (P : Int → Prop) : Nat → Int
  | 0 => 0
  | n + 1 => qf_cnt P n + qb (P n)
theorem qf_cnt_r (P : Int → Prop) (n : Nat) : 0 ≤ qf_cnt P n ∧ qf_cnt P n ≤ n := by
  induction n with
  | zero => exact ⟨Int.le_refl _, Int.le_refl _⟩
  | succ n ih =>
    unfold qf_cnt
    rcases qb_01 (P n) with h | h <;> rw [h] <;> omega
theorem qf_cnt_c {P Q : Int → Prop} (n : Nat) (h : ∀ j : Int, 0 ≤ j → j < n → (P j ↔ Q j)) : qf_cnt P n = qf_cnt Q n := by
  induction n with
  | zero => rfl
  | succ n ih =>
    unfold qf_cnt
    rw [ih (fun j h0 h1 => h j h0 (by omega)), qb_c (h n (by omega) (by omega))]
theorem qb_ne {x : Int} (h : x = 0 ∨ x = 1) : x = qb (x ≠ 0) := by
  rcases h with h | h
  · rw [h, qb_f (by decide)]
  · rw [h, qb_t (by decide)]
theorem qf_ca_r (C : Int → Int) (n code : Int) (k : Nat) : ∀ a, a ≤ n → n ≤ a + k → a ≤ qf_ca C n code k a ∧ qf_ca C n code k a ≤ n ∧ (∀ j, a ≤ j → j < qf_ca C n code k a → C j < code) ∧ (qf_ca C n code k a < n → code ≤ C (qf_ca C n code k a)) := by
  induction k with
  | zero => intro a h1 h2; unfold qf_ca; exact ⟨by omega, by omega, fun j _ _ => by omega, fun h => by omega⟩
  | succ k ih =>
    intro a h1 h2
    unfold qf_ca
    by_cases hc : a < n ∧ C a < code
    · rw [if_pos hc]
      obtain ⟨g1, g2, g3, g4⟩ := ih (a + 1) (by omega) (by omega)
      refine ⟨by omega, g2, fun j h3 h4 => ?_, g4⟩
      by_cases hj : j = a
      · subst hj; exact hc.2
      · exact g3 j (by omega) h4
    · rw [if_neg hc]
      exact ⟨by omega, h1, fun j _ _ => by omega, fun h => by omega⟩
theorem qa_shl_b : ∀ a : Fin 6, qa_shl 1 (a.val : Int) = 2 ^ a.val := by decide +kernel
/-- the four rows of the key table, each changed alike -/
def qf_rows (M : qa_Mem) (g : (Int → Int) → Int → Int) : qa_Mem := fun c j => if 14 ≤ c ∧ c ≤ 17 then g (M c) j else M c j
theorem qf_rows_i {M : qa_Mem} {g : (Int → Int) → Int → Int} {c : Nat} (h : 14 ≤ c ∧ c ≤ 17) : qf_rows M g c = g (M c) := by funext j; unfold qf_rows; rw [if_pos h]
theorem qf_rows_n {M : qa_Mem} {g : (Int → Int) → Int → Int} {c : Nat} (h : ¬ (14 ≤ c ∧ c ≤ 17)) : qf_rows M g c = M c := by funext j; unfold qf_rows; rw [if_neg h]
theorem qf_rows_2 {M : qa_Mem} {g h : (Int → Int) → Int → Int} : qf_rows (qf_rows M g) h = qf_rows M (fun A => h (g A)) := by
  funext c j
  by_cases hc : 14 ≤ c ∧ c ≤ 17
  · rw [qf_rows_i hc, qf_rows_i hc, qf_rows_i hc]
  · rw [qf_rows_n hc, qf_rows_n hc, qf_rows_n hc]
theorem qf_rows_id {M : qa_Mem} {g : (Int → Int) → Int → Int} (h : ∀ A, g A = A) : qf_rows M g = M := by
  funext c j
  by_cases hc : 14 ≤ c ∧ c ≤ 17
  · rw [qf_rows_i hc, h]
  · rw [qf_rows_n hc]
def qf_or (A : Int → Int) : Nat → Int
  | 0 => 0
  | n + 1 => qa_or (qf_or A n) (A n)
def qf_sum (A : Int → Int) : Nat → Int
  | 0 => 0
  | n + 1 => qf_sum A n + A n
def qf_best (H P : Int → Int) : Nat → Int
  | 0 => -1
  | n + 1 => if 0 < H n ∧ (qf_best H P n < 0 ∨ P (qf_best H P n) < P n) then (n : Int) else qf_best H P n
def qf_cool (h : Int) : Int := if 4 < h then h - 4 else 0
theorem qf_mulb {d e A B : Int} (h1 : -A ≤ d) (h2 : d ≤ A) (h3 : -B ≤ e) (h4 : e ≤ B) : -(A * B) ≤ d * e ∧ d * e ≤ A * B := by
  have hA : d.natAbs ≤ A.toNat := by omega
  have hB : e.natAbs ≤ B.toNat := by omega
  have h := Nat.mul_le_mul hA hB
  rw [← Int.natAbs_mul] at h
  have e1 : ((A.toNat * B.toNat : Nat) : Int) = A * B := by
    rw [Int.natCast_mul, Int.toNat_of_nonneg (by omega), Int.toNat_of_nonneg (by omega)]
  omega
theorem qa_xor_neg {x y : Int} (hx : qa_InR x) (hy : 0 ≤ y) (hy2 : qa_InR y) : qa_xor x y < 0 ↔ x < 0 := by
  unfold qa_InR at hx hy2
  have e1 : (Int32.ofInt x).toInt = x := Int32.toInt_ofInt_of_le (by omega) (by omega)
  have e2 : (Int32.ofInt y).toInt = y := Int32.toInt_ofInt_of_le (by omega) (by omega)
  unfold qa_xor
  rw [← Int32.toInt_toBitVec, Int32.toBitVec_xor]
  have m1 := BitVec.msb_eq_toInt (x := (Int32.ofInt x).toBitVec ^^^ (Int32.ofInt y).toBitVec)
  rw [BitVec.msb_xor, BitVec.msb_eq_toInt, BitVec.msb_eq_toInt, Int32.toInt_toBitVec, Int32.toInt_toBitVec, e1, e2] at m1
  have h0 : decide (y < 0) = false := by simp; omega
  rw [h0, Bool.xor_false] at m1
  exact ⟨fun h => of_decide_eq_true (m1.trans (decide_eq_true h)), fun h => of_decide_eq_true (m1.symm.trans (decide_eq_true h))⟩
theorem qf_tdiv {x y : Int} (h : 0 < y) : x.tdiv y * y = x - x.tmod y ∧ (0 ≤ x → x.tdiv y = x / y) ∧ (x < 0 → x.tmod y = 0 → x.tdiv y = x / y) ∧ (x < 0 → x.tmod y ≠ 0 → x.tdiv y - 1 = x / y) ∧ x.tmod y < y ∧ -y < x.tmod y ∧ (0 ≤ x → 0 ≤ x.tmod y) ∧ (x < 0 → x.tmod y ≤ 0) := by
  have e1 := Int.mul_tdiv_add_tmod x y
  have e2 := Int.tmod_lt_of_pos x h
  have e3 : x.tdiv y * y = x - x.tmod y := by rw [Int.mul_comm]; omega
  have e4 : -y < x.tmod y := Int.lt_tmod_of_pos x h
  have e5 : 0 ≤ x → 0 ≤ x.tmod y := fun hx => Int.tmod_nonneg y hx
  have e6 : x < 0 → x.tmod y ≤ 0 := fun hx => by
    have := Int.tmod_nonneg (a := -x) y (by omega)
    rw [Int.neg_tmod] at this
    omega
  have uq : ∀ q r : Int, q * y = x - r → 0 ≤ r → r < y → q = x / y := fun q r a b c => by
    have : x = r + y * q := by rw [Int.mul_comm y q]; omega
    rw [this, Int.add_mul_ediv_left _ _ (by omega), Int.ediv_eq_zero_of_lt b c]
    omega
  refine ⟨e3, fun hx => uq _ _ e3 (e5 hx) e2, fun hx h0 => uq _ 0 (by omega) (by omega) h, fun hx h0 => uq _ (x.tmod y + y) ?_ (by have := e6 hx; omega) (by have := e6 hx; omega), e2, e4, e5, e6⟩
  rw [Int.sub_mul]
  omega
def qf_last (nx st : Int) : Int := if st < nx then nx - 1 else st
def qp_v (C V F : Int → Int) (st nx en f : Int) : Int := if st = en then 0 else if (nx < en ∧ C (qf_last nx st) % 1000 < f) ∧ F (qf_last nx st) ≠ 0 then V (qf_last nx st) + (V nx - V (qf_last nx st)) * (f - C (qf_last nx st) % 1000) / (C nx % 1000 - C (qf_last nx st) % 1000) else V (qf_last nx st)
def qp_b (C A F : Int → Int) (st nx en f : Int) : Int := if st = en then 0 else if (nx < en ∧ C (qf_last nx st) % 1000 < f) ∧ F (qf_last nx st) ≠ 0 then qa_or (qa_shl 1 (A (qf_last nx st))) (qa_shl 1 (A nx)) else qa_shl 1 (A (qf_last nx st))
theorem qa_upd_2 {M : qa_Mem} {k : Nat} {i v w : Int} : qa_upd (qa_upd M k i v) k i w = qa_upd M k i w := by
  funext a b
  unfold qa_upd
  by_cases h : a = k ∧ b = i
  · rw [if_pos h, if_pos h]
  · rw [if_neg h, if_neg h, if_neg h]
theorem qa_upd_x {M : qa_Mem} {k k1 : Nat} {i v j w : Int} (hk : k ≠ k1) : qa_upd (qa_upd M k i v) k1 j w = qa_upd (qa_upd M k1 j w) k i v := by
  funext a b
  unfold qa_upd
  by_cases h : a = k ∧ b = i
  · rw [if_pos h, if_neg (fun q => hk (h.1.symm.trans q.1)), if_pos h]
  · rw [if_neg h, if_neg h]
/-- sorted codes of keys -/
def qk_wf (C V A F : Int → Int) (n : Int) : Prop := 0 ≤ n ∧ n ≤ 80 ∧ (∀ i j : Int, 0 ≤ i → i < j → j < n → C i < C j) ∧ (∀ i : Int, 0 ≤ i → i < n → 0 ≤ C i ∧ C i < 24000 ∧ C i % 1000 < 120) ∧ (∀ i : Int, 0 ≤ i → i < 80 → -200 ≤ V i ∧ V i ≤ 200) ∧ (∀ i : Int, 0 ≤ i → i < 80 → 0 ≤ A i ∧ A i < 6) ∧ (∀ i : Int, 0 ≤ i → i < 80 → F i = 0 ∨ F i = 1)
theorem qf_ca_u {C V A F : Int → Int} {n c v : Int} (hw : qk_wf C V A F n) (h1 : 0 ≤ v) (h2 : v ≤ n) (h3 : v = 0 ∨ C (v - 1) < c) (h4 : v = n ∨ c ≤ C v) : qf_ca C n c 80 0 = v := by
  obtain ⟨w1, w2, w3, -⟩ := hw
  obtain ⟨g1, g2, g3, g4⟩ := qf_ca_r C n c 80 0 w1 (by omega)
  rcases Int.lt_trichotomy (qf_ca C n c 80 0) v with h | h | h
  · exfalso
    have a1 := g4 (by omega)
    have a2 : C (v - 1) < c := by omega
    by_cases hv : qf_ca C n c 80 0 = v - 1
    · rw [hv] at a1; omega
    · have := w3 (qf_ca C n c 80 0) (v - 1) g1 (by omega) (by omega); omega
  · exact h
  · exfalso
    have a1 := g3 v h1 h
    omega
theorem qf_ca_s {C V A F : Int → Int} {n : Int} (hw : qk_wf C V A F n) (c : Int) : 0 ≤ qf_ca C n c 80 0 ∧ qf_ca C n c 80 0 ≤ n ∧ (∀ j, 0 ≤ j → j < qf_ca C n c 80 0 → C j < c) ∧ (∀ j, qf_ca C n c 80 0 ≤ j → j < n → c ≤ C j) := by
  obtain ⟨w1, w2, w3, -⟩ := hw
  obtain ⟨g1, g2, g3, g4⟩ := qf_ca_r C n c 80 0 w1 (by omega)
  refine ⟨g1, g2, g3, fun j h1 h2 => ?_⟩
  have a1 := g4 (by omega)
  by_cases hj : j = qf_ca C n c 80 0
  · rw [hj]; exact a1
  · have := w3 _ j g1 (by omega) h2; omega
theorem qf_ca_m {C V A F : Int → Int} {n : Int} (hw : qk_wf C V A F n) {c d : Int} (h : c ≤ d) : qf_ca C n c 80 0 ≤ qf_ca C n d 80 0 := by
  obtain ⟨a1, a2, a3, a4⟩ := qf_ca_s hw c
  obtain ⟨b1, b2, b3, b4⟩ := qf_ca_s hw d
  by_cases hh : qf_ca C n c 80 0 ≤ qf_ca C n d 80 0
  · exact hh
  · have p1 := a3 (qf_ca C n d 80 0) b1 (by omega)
    have p2 := b4 (qf_ca C n d 80 0) (Int.le_refl _) (by omega)
    omega
/-- what a track's row of values is, up to the frame a -/
def qt_v (C V F : Int → Int) (n t : Int) (f : Int) : Int := qp_v C V F (qf_ca C n (1000 * t + 0) 80 0) (qf_ca C n (1000 * t + f + 1) 80 0) (qf_ca C n (1000 * (t + 1) + 0) 80 0) f
def qt_b (C A F : Int → Int) (n t : Int) (f : Int) : Int := qp_b C A F (qf_ca C n (1000 * t + 0) 80 0) (qf_ca C n (1000 * t + f + 1) 80 0) (qf_ca C n (1000 * (t + 1) + 0) 80 0) f
def qt_M (M : qa_Mem) (t a : Int) : qa_Mem := qa_blk (qa_blk M 12 (fun j => if 120 * t ≤ j ∧ j < 120 * t + a then qt_v (M 14) (M 15) (M 17) (M 2 4) t (j - 120 * t) else M 12 j)) 13 (fun j => if 120 * t ≤ j ∧ j < 120 * t + a then qt_b (M 14) (M 16) (M 17) (M 2 4) t (j - 120 * t) else M 13 j)
def qg_rot : Nat → Int × Int → Int × Int
  | 0, p => p
  | n + 1, p => qg_rot n (-p.2, p.1)
def qg_c (P T X Y : Int → Int) : Nat → Int → Int → Int → Int × Int
  | 0, _, x, y => (x, y)
  | n + 1, u, x, y => if u < 0 then (x, y) else qg_c P T X Y n (P u) ((qg_rot (T u).toNat (x, y)).1 + X u) ((qg_rot (T u).toNat (x, y)).2 + Y u)
theorem qg_rot_b {B : Int} (n : Nat) : ∀ p : Int × Int, -B ≤ p.1 → p.1 ≤ B → -B ≤ p.2 → p.2 ≤ B → -B ≤ (qg_rot n p).1 ∧ (qg_rot n p).1 ≤ B ∧ -B ≤ (qg_rot n p).2 ∧ (qg_rot n p).2 ≤ B := by
  induction n with
  | zero => intro p h1 h2 h3 h4; exact ⟨h1, h2, h3, h4⟩
  | succ n ih => intro p h1 h2 h3 h4; exact ih (-p.2, p.1) (by show -B ≤ -p.2; omega) (by show -p.2 ≤ B; omega) h1 h2
/-- a frame's values are those of which it was made (class) -/
def qs_am (M : qa_Mem) (f : Int) : Prop := M 19 f = M 1 3 ∧ ∀ t : Int, 0 ≤ t → t < 3 * M 1 3 → M 18 (t * 120 + f) = M 12 (t * 120 + f)
def qs_rend (M : qa_Mem) (f : Int) : qa_Mem := qa_upd (qa_upd (qa_blk M 18 (fun j => if j % 120 = f ∧ 0 ≤ j ∧ j < 360 * M 1 3 then M 12 j else M 18 j)) 19 f (M 1 3)) 20 f 1
noncomputable def qs_cmp (M : qa_Mem) (a : Int) : qa_Mem := qa_blk M 20 (fun f => if 0 ≤ f ∧ f < a ∧ M 20 f ≠ 0 then 2 - qb (qs_am M f) else M 20 f)
/-- the frame at a place of the film; none: its length is less -/
def qm_at (F G : Int → Int) : Nat → Int → Int → Int
  | 0, _, _ => -1
  | n + 1, k, left => if left < G k - F k + 1 then F k + left else qm_at F G n (k + 1) (left - (G k - F k + 1))
def qm_cnt (M : qa_Mem) (lo hi c : Int) : qa_Mem := qa_upd (qa_blk M 23 (qf_add (M 23) lo hi c)) 4 4 (M 4 4 + c * (hi + 1 - lo))
noncomputable def qx {α : Type} (P : Prop) (a b : α) : α := @ite α P (Classical.propDecidable P) a b
theorem qx_t {α : Type} {P : Prop} {a b : α} (h : P) : qx P a b = a := by unfold qx; rw [if_pos h]
theorem qx_f {α : Type} {P : Prop} {a b : α} (h : ¬ P) : qx P a b = b := by unfold qx; rw [if_neg h]
theorem qx_c {α : Type} {P Q : Prop} {a b : α} (h : P ↔ Q) : qx P a b = qx Q a b := by rw [propext h]
/-- how many of the frames ahead of n a machine of speed sp renders -/
noncomputable def qr_c (need : Int → Prop) (sp : Int) : Nat → Int
  | 0 => 0
  | n + 1 => qr_c need sp n + qb (qr_c need sp n < sp ∧ need n)
def qr_p (need : Int → Prop) (sp : Int) (f : Int) : Prop := qr_c need sp f.toNat < sp ∧ need f
theorem qr_c_r (need : Int → Prop) (sp : Int) (h : 0 ≤ sp) (n : Nat) : 0 ≤ qr_c need sp n ∧ qr_c need sp n ≤ sp := by
  induction n with
  | zero => exact ⟨Int.le_refl _, h⟩
  | succ n ih =>
    unfold qr_c
    by_cases hp : qr_c need sp n < sp ∧ need n
    · rw [qb_t hp]; omega
    · rw [qb_f hp]; omega
theorem qr_stop (need : Int → Prop) (sp : Int) (n k : Nat) (h : sp ≤ qr_c need sp n) : qr_c need sp (n + k) = qr_c need sp n := by
  induction k with
  | zero => rfl
  | succ k ih =>
    show qr_c need sp (n + k) + qb (qr_c need sp (n + k) < sp ∧ need ((n + k : Nat) : Int)) = _
    rw [qb_f (by omega)]
    omega
theorem qr_c_c {P Q : Int → Prop} (sp : Int) (n : Nat) (h : ∀ j : Int, 0 ≤ j → j < n → (P j ↔ Q j)) : qr_c P sp n = qr_c Q sp n := by
  induction n with
  | zero => rfl
  | succ n ih =>
    unfold qr_c
    rw [ih (fun j h0 h1 => h j h0 (by omega)), qb_c (and_congr Iff.rfl (h n (by omega) (by omega)))]
noncomputable def qs_rm (M : qa_Mem) (need : Int → Prop) (sp a : Int) : qa_Mem := qa_blk (qa_blk (qa_blk M 18 (fun j => qx (qr_p need sp (j % 120) ∧ j % 120 < a ∧ 0 ≤ j ∧ j < 360 * M 1 3) (M 12 j) (M 18 j))) 19 (fun f => qx (qr_p need sp f ∧ 0 ≤ f ∧ f < a) (M 1 3) (M 19 f))) 20 (fun f => qx (qr_p need sp f ∧ 0 ≤ f ∧ f < a) 1 (M 20 f))
def qc_need (M : qa_Mem) : Int → Prop := fun f => 0 < M 23 f ∧ M 20 f ≠ 1
def qv_farm (H R S L P : Int → Int) (nM nO : Int) : Prop := (0 ≤ nM ∧ nM ≤ 4) ∧ (0 ≤ nO ∧ nO ≤ 10) ∧ (∀ m : Int, 0 ≤ m → m < 4 → 0 ≤ H m ∧ H m ≤ 24 ∧ (R m = 0 ∨ R m = 1) ∧ (R m = 0 → H m < 20)) ∧ (∀ m : Int, 0 ≤ m → m < nM → 1 ≤ S m ∧ S m ≤ 5) ∧ (∀ o : Int, 0 ≤ o → o < nO → (0 ≤ L o ∧ L o ≤ 50) ∧ 1 ≤ P o ∧ P o ≤ 100)
theorem qf_best_r (H P : Int → Int) (n : Nat) : -1 ≤ qf_best H P n ∧ qf_best H P n < n ∧ (0 ≤ qf_best H P n → 0 < H (qf_best H P n)) := by
  induction n with
  | zero => exact ⟨show -1 ≤ (-1 : Int) by decide, show (-1 : Int) < 0 by decide, fun h => absurd (show (0 : Int) ≤ -1 from h) (by decide)⟩
  | succ n ih =>
    unfold qf_best
    by_cases hc : 0 < H n ∧ (qf_best H P n < 0 ∨ P (qf_best H P n) < P n)
    · rw [if_pos hc]; exact ⟨by omega, by omega, fun _ => hc.1⟩
    · rw [if_neg hc]; exact ⟨ih.1, by omega, ih.2.2⟩
/-- the heat of a machine behind an hour of work: r rendered, best the offer -/
noncomputable def qw_h (h r best : Int) : Int := qx (r ≠ 0) (h + r) (qx (0 ≤ best) (h + 3) (qf_cool h))
/-- class: an hour of work of a machine that does not rest -/
noncomputable def qc_wr (M : qa_Mem) (m : Int) : Int := qr_c (qc_need M) (M 24 m) 120
def qc_wb (M : qa_Mem) : Int := qf_best (M 28) (M 27) (M 5 6).toNat
noncomputable def qc_wM (M : qa_Mem) (m : Int) : qa_Mem :=
  let N := qs_rm M (qc_need M) (M 24 m) 120
  let K := qx (qc_wr M m = 0 ∧ 0 ≤ qc_wb M) (qa_upd (qa_upd N 28 (qc_wb M) (M 28 (qc_wb M) - 1)) 5 7 (qa_wrap (M 5 7 + M 27 (qc_wb M)))) N
  qa_upd (qa_upd K 25 m (qw_h (M 25 m) (qc_wr M m) (qc_wb M))) 26 m (qb (20 ≤ qw_h (M 25 m) (qc_wr M m) (qc_wb M)))
noncomputable def qc_wx (M : qa_Mem) (m : Int) : Int := 1000 * qc_wr M m + qb (qc_wr M m = 0 ∧ 0 ≤ qc_wb M)
noncomputable def qc_rM (M : qa_Mem) (m : Int) : qa_Mem := qa_upd (qa_upd M 25 m (qf_cool (M 25 m))) 26 m (qb (8 < qf_cool (M 25 m)))
/-- class: an hour of machine m: what it gains, and the memory behind it -/
noncomputable def qc_h (m : Int) (q : Int × qa_Mem) : Int × qa_Mem := qx (q.2 26 m ≠ 0) (qa_wrap (q.1 + 0), qc_rM q.2 m) (qa_wrap (q.1 + qc_wx q.2 m), qc_wM q.2 m)
noncomputable def qc_ms (q : Int × qa_Mem) : Nat → Int × qa_Mem
  | 0 => q
  | n + 1 => qc_h n (qc_ms q n)
noncomputable def qc_hs (q : Int × qa_Mem) (k : Nat) : Nat → Int × qa_Mem
  | 0 => q
  | n + 1 => qc_ms (qc_hs q k n) k
