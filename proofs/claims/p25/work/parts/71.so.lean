/-! single instructions: constants, locals, arithmetic, branches -/
theorem qf_tdiv {x y : Int} (h : 0 < y) : x.tdiv y * y = x - x.tmod y ∧ (0 ≤ x → x.tdiv y = x / y) ∧ (x < 0 → x.tmod y = 0 → x.tdiv y = x / y) ∧ (x < 0 → x.tmod y ≠ 0 → x.tdiv y - 1 = x / y) ∧ x.tmod y < y ∧ -y < x.tmod y ∧ (0 ≤ x → 0 ≤ x.tmod y) ∧ (x < 0 → x.tmod y ≤ 0) := by
  have e1 := Int.mul_tdiv_add_tmod x y
  have e2 := Int.tmod_lt_of_pos x h
  have e3 : x.tdiv y * y = x - x.tmod y := by rw [Int.mul_comm]; omega
  have e4 : -y < x.tmod y := Int.lt_tmod_of_pos x h
  have e5 : 0 ≤ x → 0 ≤ x.tmod y := fun hx => Int.tmod_nonneg y hx
  have e6 : x < 0 → x.tmod y ≤ 0 := fun hx => by
    have := Int.tmod_nonneg (a := -x) y (by omega)
    rw [Int.neg_tmod] at this
    omega
  have uq : ∀ q r : Int, q * y = x - r → 0 ≤ r → r < y → q = x / y := fun q r a b c => by
    have : x = r + y * q := by rw [Int.mul_comm y q]; omega
    rw [this, Int.add_mul_ediv_left _ _ (by omega), Int.ediv_eq_zero_of_lt b c]
    omega
  refine ⟨e3, fun hx => uq _ _ e3 (e5 hx) e2, fun hx h0 => uq _ 0 (by omega) (by omega) h, fun hx h0 => uq _ (x.tmod y + y) ?_ (by have := e6 hx; omega) (by have := e6 hx; omega), e2, e4, e5, e6⟩
  rw [Int.sub_mul]
  omega
theorem i32_of {x y : Int32} {v : Int} (h : x = Int32.ofInt v) (r : qa_InR v) : x.toInt = v := by
  unfold qa_InR at r
  rw [h]
  exact Int32.toInt_ofInt_of_le (by omega) (by omega)
theorem i32_r (x : Int32) : qa_InR x.toInt := ⟨Int32.le_toInt x, by have := Int32.toInt_lt x; omega⟩
theorem i32_add {x y : Int32} (r : qa_InR (x.toInt + y.toInt)) : (x + y).toInt = x.toInt + y.toInt := i32_of (y := y) (by rw [Int32.ofInt_add, Int32.ofInt_toInt, Int32.ofInt_toInt]) r
theorem i32_sub {x y : Int32} (r : qa_InR (x.toInt - y.toInt)) : (x - y).toInt = x.toInt - y.toInt := i32_of (y := y) (by rw [Int32.ofInt_sub, Int32.ofInt_toInt, Int32.ofInt_toInt]) r
theorem i32_mul {x y : Int32} (r : qa_InR (x.toInt * y.toInt)) : (x * y).toInt = x.toInt * y.toInt := i32_of (y := y) (by rw [Int32.ofInt_mul, Int32.ofInt_toInt, Int32.ofInt_toInt]) r
theorem i32_neg {x : Int32} (r : qa_InR (-x.toInt)) : (-x).toInt = -x.toInt := i32_of (y := x) (by rw [Int32.ofInt_neg, Int32.ofInt_toInt]) r
theorem i32_bm (z : Int) {n : Nat} (hn : n = 4294967296) : Int.bmod z n = qa_wrap z := by
  subst hn
  show (if z % 4294967296 < (4294967296 + 1) / 2 then z % 4294967296 else z % 4294967296 - 4294967296) = (z + 2147483648) % 4294967296 - 2147483648
  split <;> omega
theorem i32_wrap {x y : Int32} : (x + y).toInt = qa_wrap (x.toInt + y.toInt) := by
  have e : x + y = Int32.ofInt (x.toInt + y.toInt) := by rw [Int32.ofInt_add, Int32.ofInt_toInt, Int32.ofInt_toInt]
  rw [e, Int32.toInt_ofInt]
  exact i32_bm _ rfl
theorem i32_div {x y : Int32} (h : 0 < y.toInt) : (x / y).toInt = x.toInt.tdiv y.toInt := by
  rw [Int32.toInt_div]
  have r := i32_r x
  unfold qa_InR at r
  obtain ⟨t1, t2, t3, t4, t5, t6, t7, t8⟩ := qf_tdiv (x := x.toInt) h
  have b : -2147483648 ≤ x.toInt.tdiv y.toInt ∧ x.toInt.tdiv y.toInt ≤ 2147483647 := by
    by_cases hx : 0 ≤ x.toInt
    · have := t2 hx
      have := Int.ediv_nonneg hx (Int.le_of_lt h)
      have := Int.ediv_le_self y.toInt hx
      omega
    · have lo : x.toInt ≤ x.toInt / y.toInt := by
        rw [Int.le_ediv_iff_mul_le h]
        have := Int.mul_le_mul_of_nonpos_left (a := x.toInt) (show x.toInt ≤ 0 by omega) (show (1 : Int) ≤ y.toInt by omega)
        omega
      have hi : x.toInt / y.toInt < 0 := Int.ediv_neg_of_neg_of_pos (by omega) h
      by_cases hz : x.toInt.tmod y.toInt = 0
      · have := t3 (by omega) hz; omega
      · have := t4 (by omega) hz; omega
  rw [i32_bm _ rfl]
  unfold qa_wrap
  omega
theorem i32_rem {x y : Int32} (h : 0 < y.toInt) : (x - x / y * y).toInt = x.toInt.tmod y.toInt := by
  have d := i32_div (x := x) h
  obtain ⟨t1, t2, t3, t4, t5, t6, t7, t8⟩ := qf_tdiv (x := x.toInt) h
  have r := i32_r x
  have ry := i32_r y
  unfold qa_InR at r ry
  have e : (x / y * y).toInt = x.toInt - x.toInt.tmod y.toInt := by
    rw [i32_mul (by rw [d, t1]; unfold qa_InR; omega), d, t1]
  rw [i32_sub (by rw [e]; unfold qa_InR; omega), e]
  omega
theorem i64_of {x : Int32} : x.toInt64.toInt = x.toInt := Int32.toInt_toInt64 x
theorem RLo_at {ad : Nat → Nat} {nL : Nat} {L : qa_L} {ls : Array Slot} {a : Nat} {v : qa_V} (h : RLo ad nL L ls) (hv : qa_lk L a = some v) : ∃ x, ls[a]? = some (.val x) ∧ RV ad v x := by
  obtain ⟨lc, h1, h3⟩ := h
  obtain ⟨x, m, r⟩ := h3 a v hv
  exact ⟨x, h1.2.2 _ m, r⟩
theorem RV_c1 {ad : Nat → Nat} {w : qa_V} {x : Value} (h : RV ad w x) (hc : qa_c1 w = true) : x.category = 1 := by
  rcases w with n | k | n
  · obtain ⟨z, rfl, -⟩ := h; rfl
  · obtain ⟨z, rfl, -⟩ := h; rfl
  · cases hc
theorem qa_nl_p {L : qa_L} {a b : Nat} {w : qa_V} (h : qa_nl L a = true) (hw : qa_lk L b = some w) (hb : b + 1 = a) : qa_c1 w = true := by
  subst hb
  unfold qa_nl at h
  rw [Nat.add_sub_cancel, hw] at h
  rcases w with n | k | n
  · rfl
  · rfl
  · cases h
theorem RLo_put {ad : Nat → Nat} {nL : Nat} {L : qa_L} {ls' : Array Slot} {lc : List (Nat × Value)} {a : Nat} {v : qa_V} {x : Value} (h3 : ∀ (a : Nat) (v : qa_V), qa_lk L a = some v → ∃ x, (a, x) ∈ lc ∧ RV ad v x) (hq : qa_nl L a = true) (hv : RV ad v x) (h' : lv_has ls' nL ((a, x) :: lc.filter (fun q => !(q.1 == a) && !(q.1 + 1 == a && q.2.category == 2)))) : RLo ad nL ((a, v) :: L) ls' := by
  refine ⟨_, h', fun b w hb => ?_⟩
  unfold qa_lk at hb
  cases he : Nat.beq a b with
  | true =>
    rw [he] at hb
    cases hb
    rw [← Nat.eq_of_beq_eq_true he]
    exact ⟨x, List.mem_cons_self, hv⟩
  | false =>
    rw [he] at hb
    obtain ⟨y, m, r⟩ := h3 b w hb
    refine ⟨y, List.mem_cons_of_mem _ (List.mem_filter.mpr ⟨m, ?_⟩), r⟩
    have c2 : (b == a) = false := by
      rw [beq_eq_false_iff_ne]
      intro z
      rw [z, Nat.beq_refl] at he
      cases he
    show (!(b == a) && !(b + 1 == a && y.category == 2)) = true
    rw [c2]
    by_cases hba : b + 1 = a
    · rw [show y.category = 1 from RV_c1 r (qa_nl_p hq hb hba)]
      simp
    · rw [show (b + 1 == a) = false from beq_eq_false_iff_ne.mpr hba]
      simp
theorem RLo_putl {ad : Nat → Nat} {nL : Nat} {L : qa_L} {ls' : Array Slot} {lc : List (Nat × Value)} {a : Nat} {v : qa_V} {x : Value} (h3 : ∀ (a : Nat) (v : qa_V), qa_lk L a = some v → ∃ x, (a, x) ∈ lc ∧ RV ad v x) (hq : qa_nl L a = true) (hn : qa_lk L (a + 1) = none) (hv : RV ad v x) (h' : lv_has ls' nL ((a, x) :: lc.filter (fun q => !(q.1 == a) && (!(q.1 == a + 1) && !(q.1 + 1 == a && q.2.category == 2))))) : RLo ad nL ((a, v) :: L) ls' := by
  refine ⟨_, h', fun b w hb => ?_⟩
  unfold qa_lk at hb
  cases he : Nat.beq a b with
  | true =>
    rw [he] at hb
    cases hb
    rw [← Nat.eq_of_beq_eq_true he]
    exact ⟨x, List.mem_cons_self, hv⟩
  | false =>
    rw [he] at hb
    obtain ⟨y, m, r⟩ := h3 b w hb
    refine ⟨y, List.mem_cons_of_mem _ (List.mem_filter.mpr ⟨m, ?_⟩), r⟩
    have c2 : (b == a) = false := by
      rw [beq_eq_false_iff_ne]
      intro z
      rw [z, Nat.beq_refl] at he
      cases he
    have c3 : (b == a + 1) = false := by
      rw [beq_eq_false_iff_ne]
      intro z
      have hb : qa_lk L b = some w := hb
      rw [z, hn] at hb
      cases hb
    show (!(b == a) && (!(b == a + 1) && !(b + 1 == a && y.category == 2))) = true
    rw [c2, c3]
    by_cases hba : b + 1 = a
    · rw [show y.category = 1 from RV_c1 r (qa_nl_p hq hb hba)]
      simp
    · rw [show (b + 1 == a) = false from beq_eq_false_iff_ne.mpr hba]
      simp
theorem RLo_sub {ad : Nat → Nat} {nL : Nat} {L L' : qa_L} {ls : Array Slot} (h : RLo ad nL L ls) (hs : qa_sub L' L) : RLo ad nL L' ls := by
  obtain ⟨lc, h1, h3⟩ := h
  exact ⟨lc, h1, fun a v hv => h3 a v (hs a v hv)⟩
section SO
variable {p : Program} {l : Launch} {e : Env} {R : Room} {s : State} {m : MethodId} {args : Array Value} {below : List Frame} {meth : Method} {c : Code} {H : Heap} {locs : List Loc} {cells slots : Nat} {Q : State → Prop} {ad : Nat → Nat} {i pc a nx cp : Nat} {v : Int} {ls : Array Slot} {S : List qa_V} {st : List Value} {L : qa_L}
theorem so_0 (hx : p.tables.exec = Jvm.exec) (hb : c.code = sd_b i) (hc : qa_code i pc = some (0, a, v, nx, cp)) (hS : RS ad S st) (K : ∀ st', RS ad (qi v :: S) st' → W p l e R s m args below meth c H locs cells slots Q (F0 m nx ls st')) : W p l e R s m args below meth c H locs cells slots Q (F0 m pc ls st) := by
  rcases sd_d0 hc with ⟨d, rfl, h1, h2⟩ | ⟨d, rfl, h1, h2⟩ | ⟨d, rfl, h1, h2⟩
  · exact lv_iconst hx hb d rfl (K _ ⟨⟨_, rfl, Int32.toInt_ofInt_of_le (by omega) (by omega)⟩, hS⟩)
  · exact lv_bipush hx hb d rfl (K _ ⟨⟨_, rfl, by rw [Int8.toInt_toInt32, Int8.toInt_ofInt_of_le (by omega) (by omega)]⟩, hS⟩)
  · exact lv_sipush hx hb d rfl (K _ ⟨⟨_, rfl, by rw [Int16.toInt_toInt32, Int16.toInt_ofInt_of_le (by omega) (by omega)]⟩, hS⟩)
theorem so_1 {x : Int} (hx : p.tables.exec = Jvm.exec) (hb : c.code = sd_b i) (hc : qa_code i pc = some (1, a, v, nx, cp)) (hL : RLo ad (sd_l i) L ls) (hv : qa_lk L a = some (qi x)) (hS : RS ad S st) (K : ∀ st', RS ad (qi x :: S) st' → W p l e R s m args below meth c H locs cells slots Q (F0 m nx ls st')) : W p l e R s m args below meth c H locs cells slots Q (F0 m pc ls st) := by
  obtain ⟨y, h1, z, rfl, h2⟩ := RLo_at hL hv
  rcases sd_d1 hc with ⟨d, rfl, h3⟩ | ⟨d, rfl⟩
  · exact lv_iload_n hx hb d (sd_f4_v h3) h1 (K _ ⟨⟨_, rfl, h2⟩, hS⟩)
  · exact lv_iload hx hb d h1 (K _ ⟨⟨_, rfl, h2⟩, hS⟩)
theorem so_2 {k : Nat} (hx : p.tables.exec = Jvm.exec) (hb : c.code = sd_b i) (hc : qa_code i pc = some (2, a, v, nx, cp)) (hL : RLo ad (sd_l i) L ls) (hv : qa_lk L a = some (qr k)) (hS : RS ad S st) (K : ∀ st', RS ad (qr k :: S) st' → W p l e R s m args below meth c H locs cells slots Q (F0 m nx ls st')) : W p l e R s m args below meth c H locs cells slots Q (F0 m pc ls st) := by
  obtain ⟨y, h1, z, rfl, h2⟩ := RLo_at hL hv
  rcases sd_d2 hc with ⟨d, rfl, h3⟩ | ⟨d, rfl⟩
  · exact lv_aload_n hx hb d (sd_f4_v h3) h1 (K _ ⟨⟨_, rfl, h2⟩, hS⟩)
  · exact lv_aload hx hb d h1 (K _ ⟨⟨_, rfl, h2⟩, hS⟩)
theorem so_3 {x : Int} (hx : p.tables.exec = Jvm.exec) (hb : c.code = sd_b i) (hc : qa_code i pc = some (3, a, v, nx, cp)) (hL : RLo ad (sd_l i) L ls) (hS : RS ad (qi x :: S) st) (hq : qa_nl L a = true) (K : ∀ ls' st', RLo ad (sd_l i) ((a, qi x) :: L) ls' → RS ad S st' → W p l e R s m args below meth c H locs cells slots Q (F0 m nx ls' st')) : W p l e R s m args below meth c H locs cells slots Q (F0 m pc ls st) := by
  obtain ⟨y, s1, rfl, ⟨z, rfl, h2⟩, h3⟩ := RS_cons hS
  obtain ⟨lc, g1, g3⟩ := hL
  have hn := sd_sl hc (by decide) (by decide)
  rcases sd_d3 hc with ⟨d, rfl, h4⟩ | ⟨d, rfl⟩
  · exact lv_istore_n hx hb d (sd_f4_v h4) g1 hn rfl (fun ls' h' => K ls' s1 (RLo_put g3 hq ⟨z, rfl, h2⟩ h') h3)
  · exact lv_istore hx hb d g1 hn rfl (fun ls' h' => K ls' s1 (RLo_put g3 hq ⟨z, rfl, h2⟩ h') h3)
theorem so_4 {k : Nat} (hx : p.tables.exec = Jvm.exec) (hb : c.code = sd_b i) (hc : qa_code i pc = some (4, a, v, nx, cp)) (hL : RLo ad (sd_l i) L ls) (hS : RS ad (qr k :: S) st) (hq : qa_nl L a = true) (K : ∀ ls' st', RLo ad (sd_l i) ((a, qr k) :: L) ls' → RS ad S st' → W p l e R s m args below meth c H locs cells slots Q (F0 m nx ls' st')) : W p l e R s m args below meth c H locs cells slots Q (F0 m pc ls st) := by
  obtain ⟨y, s1, rfl, ⟨z, rfl, h2⟩, h3⟩ := RS_cons hS
  obtain ⟨lc, g1, g3⟩ := hL
  have hn := sd_sl hc (by decide) (by decide)
  rcases sd_d4 hc with ⟨d, rfl, h4⟩ | ⟨d, rfl⟩
  · exact lv_astore_n hx hb d (sd_f4_v h4) g1 hn rfl (fun ls' h' => K ls' s1 (RLo_put g3 hq ⟨z, rfl, h2⟩ h') h3)
  · exact lv_astore hx hb d g1 hn rfl (fun ls' h' => K ls' s1 (RLo_put g3 hq ⟨z, rfl, h2⟩ h') h3)
theorem so_5 {x : Int} (hx : p.tables.exec = Jvm.exec) (hb : c.code = sd_b i) (hc : qa_code i pc = some (5, a, v, nx, cp)) (hL : RLo ad (sd_l i) L ls) (hv : qa_lk L a = some (qi x)) (hr : qa_InR (x + v)) (hq : qa_nl L a = true) (K : ∀ ls', RLo ad (sd_l i) ((a, qi (x + v)) :: L) ls' → W p l e R s m args below meth c H locs cells slots Q (F0 m nx ls' st)) : W p l e R s m args below meth c H locs cells slots Q (F0 m pc ls st) := by
  obtain ⟨lc, g1, g3⟩ := hL
  have hn := sd_sl hc (by decide) (by decide)
  obtain ⟨y, g4, z, rfl, rfl⟩ := g3 a _ hv
  obtain ⟨k, hk⟩ := List.getElem?_of_mem g4
  obtain ⟨d, rfl, h1, h2⟩ := sd_d5 hc
  refine lv_iinc hx hb d g1 hk rfl hn rfl (fun ls' h' => K ls' (RLo_put g3 hq ⟨_, rfl, ?_⟩ h'))
  have e : (Int32.ofInt v).toInt = v := Int32.toInt_ofInt_of_le (by omega) (by omega)
  rw [i32_add (by rw [e]; exact hr), e]
theorem so_6 {x y z : Int} (hx : p.tables.exec = Jvm.exec) (hb : c.code = sd_b i) (hc : qa_code i pc = some (6, a, v, nx, cp)) (hS : RS ad (qi y :: qi x :: S) st) (hz : qa_bin a x y z) (K : ∀ st', RS ad (qi z :: S) st' → W p l e R s m args below meth c H locs cells slots Q (F0 m nx ls st')) : W p l e R s m args below meth c H locs cells slots Q (F0 m pc ls st) := by
  obtain ⟨-, s1, rfl, ⟨y1, rfl, rfl⟩, h3⟩ := RS_cons hS
  obtain ⟨-, s2, rfl, ⟨x1, rfl, rfl⟩, h4⟩ := RS_cons h3
  obtain ⟨d, rfl, -⟩ := sd_d6 hc
  have ne : 0 < y1.toInt → ¬ y1 = 0 := fun h z => by rw [z] at h; exact absurd h (by decide)
  rcases hz with ⟨rfl, rfl, r⟩ | ⟨rfl, rfl⟩ | ⟨rfl, rfl, r⟩ | ⟨rfl, rfl, r⟩ | ⟨rfl, r, rfl⟩ | ⟨rfl, r, rfl⟩ | ⟨rfl, rfl⟩ | ⟨rfl, rfl⟩ | ⟨rfl, rfl⟩ | ⟨rfl, rfl⟩ | ⟨rfl, rfl⟩
  · exact lv_iadd hx hb d (K _ ⟨⟨_, rfl, i32_add r⟩, h4⟩)
  · exact lv_iadd hx hb d (K _ ⟨⟨_, rfl, i32_wrap⟩, h4⟩)
  · exact lv_isub hx hb d (K _ ⟨⟨_, rfl, i32_sub r⟩, h4⟩)
  · exact lv_imul hx hb d (K _ ⟨⟨_, rfl, i32_mul r⟩, h4⟩)
  · exact lv_idiv hx hb d (ne r) (K _ ⟨⟨_, rfl, i32_div r⟩, h4⟩)
  · exact lv_irem hx hb d (ne r) (K _ ⟨⟨_, rfl, i32_rem r⟩, h4⟩)
  · exact lv_iand hx hb d (K _ ⟨⟨_, rfl, by unfold qa_and; rw [Int32.ofInt_toInt, Int32.ofInt_toInt]⟩, h4⟩)
  · exact lv_ior hx hb d (K _ ⟨⟨_, rfl, by unfold qa_or; rw [Int32.ofInt_toInt, Int32.ofInt_toInt]⟩, h4⟩)
  · exact lv_ishl hx hb d (K _ ⟨⟨_, rfl, by unfold qa_shl; rw [Int32.ofInt_toInt, Int32.ofInt_toInt]⟩, h4⟩)
  · exact lv_ishr hx hb d (K _ ⟨⟨_, rfl, by unfold qa_shr; rw [Int32.ofInt_toInt, Int32.ofInt_toInt]⟩, h4⟩)
  · exact lv_ixor hx hb d (K _ ⟨⟨_, rfl, by unfold qa_xor; rw [Int32.ofInt_toInt, Int32.ofInt_toInt]⟩, h4⟩)
theorem so_17 (hx : p.tables.exec = Jvm.exec) (hb : c.code = sd_b i) (hc : qa_code i pc = some (17, a, v, nx, cp)) (K : W p l e R s m args below meth c H locs cells slots Q (F0 m nx ls st)) : W p l e R s m args below meth c H locs cells slots Q (F0 m pc ls st) := lv_goto hx hb (sd_d17 hc) (by omega) K
theorem so_29 {x : Int} (hx : p.tables.exec = Jvm.exec) (hb : c.code = sd_b i) (hc : qa_code i pc = some (29, a, v, nx, cp)) (hL : RLo ad (sd_l i) L ls) (hS : RS ad (ql x :: S) st) (hq : qa_nl L a = true) (hn0 : qa_lk L (a + 1) = none) (K : ∀ ls' st', RLo ad (sd_l i) ((a, ql x) :: L) ls' → RS ad S st' → W p l e R s m args below meth c H locs cells slots Q (F0 m nx ls' st')) : W p l e R s m args below meth c H locs cells slots Q (F0 m pc ls st) := by
  obtain ⟨y, s1, rfl, ⟨z, rfl, h2⟩, h3⟩ := RS_cons hS
  obtain ⟨lc, g1, g3⟩ := hL
  have hn := sd_sl2 hc
  obtain ⟨d, rfl⟩ := sd_d29 hc
  exact lv_lstore hx hb d g1 hn rfl (fun ls' h' => K ls' s1 (RLo_putl g3 hq hn0 ⟨z, rfl, h2⟩ h') h3)
theorem so_30 {x : Int} (hx : p.tables.exec = Jvm.exec) (hb : c.code = sd_b i) (hc : qa_code i pc = some (30, a, v, nx, cp)) (hL : RLo ad (sd_l i) L ls) (hv : qa_lk L a = some (ql x)) (hS : RS ad S st) (K : ∀ st', RS ad (ql x :: S) st' → W p l e R s m args below meth c H locs cells slots Q (F0 m nx ls st')) : W p l e R s m args below meth c H locs cells slots Q (F0 m pc ls st) := by
  obtain ⟨y, h1, z, rfl, h2⟩ := RLo_at hL hv
  obtain ⟨d, rfl⟩ := sd_d30 hc
  exact lv_lload hx hb d h1 (K _ ⟨⟨_, rfl, h2⟩, hS⟩)
theorem so_31 (hx : p.tables.exec = Jvm.exec) (hb : c.code = sd_b i) (hc : qa_code i pc = some (31, a, v, nx, cp)) (hS : RS ad S st) (K : ∀ st', RS ad (ql v :: S) st' → W p l e R s m args below meth c H locs cells slots Q (F0 m nx ls st')) : W p l e R s m args below meth c H locs cells slots Q (F0 m pc ls st) := by
  obtain ⟨d, rfl, rfl⟩ := sd_d31 hc
  exact lv_lconst hx hb d (v := 0) rfl (K _ ⟨⟨0, rfl, rfl⟩, hS⟩)
theorem so_33 (hx : p.tables.exec = Jvm.exec) (hb : c.code = sd_b i) (hc : qa_code i pc = some (33, a, v, nx, cp)) (hw : ∀ w ∈ AW, w.before args s = true) (hown : s.vm.findClass (sd_R (sd_c i)) = some m.cls) (hS : RS ad S st) (K : ∀ st', RS ad (qi v :: S) st' → W p l e R s m args below meth c H locs cells slots Q (F0 m nx ls st')) : W p l e R s m args below meth c H locs cells slots Q (F0 m pc ls st) := by
  obtain ⟨d, rfl, h1, h2⟩ := sd_d33 hc
  exact lv_ldc hx hb hown (hw _ (sd_kq hc)) d (K _ ⟨⟨_, rfl, Int32.toInt_ofInt_of_le (by omega) (by omega)⟩, hS⟩)
end SO
