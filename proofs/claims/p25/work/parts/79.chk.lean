/-! more of what the tables say: calls, ends, throws, handlers -/
def sq_k1 (i pc : Nat) : Bool := match qa_code i pc with
  | some q => (!(Nat.beq q.1 18) || (decide (q.2.2.1.toNat ≤ sd_l q.2.1) && (!(sd_th q.2.1) || (sd_th i || !(qa_hnd i).isEmpty)))) &&
    ((!(Nat.beq q.1 19) || ((Nat.beq q.2.1 0 && decide (sd_r i = some .int)) || (Nat.beq q.2.1 1 && decide (sd_r i = some .boolean)))) &&
    ((!(Nat.beq q.1 20) || decide (sd_r i = none)) &&
    ((!(Nat.beq q.1 21) || (Nat.beq i (38 + q.2.1) && (Nat.beq pc 4 && (decide (1 ≤ q.2.1 ∧ q.2.1 ≤ 2) && ((sd_h i).isEmpty && sd_th i))))) &&
    (!(Nat.beq q.1 32) || decide (sd_r i = some .long)))))
  | none => true
def sq_k2 (i : Nat) : Bool := (List.range (sd_n i)).all (sq_k1 i)
theorem sq_k2_a : (List.range 56).all sq_k2 = true := by decide +kernel
theorem sd_kk {i pc op a nx cp : Nat} {v : Int} (h : qa_code i pc = some (op, a, v, nx, cp)) : (op = 18 → v.toNat ≤ sd_l a ∧ (sd_th a = true → sd_th i = true ∨ qa_hnd i ≠ [])) ∧ (op = 19 → a = 0 ∧ sd_r i = some .int ∨ a = 1 ∧ sd_r i = some .boolean) ∧ (op = 20 → sd_r i = none) ∧ (op = 21 → i = 38 + a ∧ pc = 4 ∧ (1 ≤ a ∧ a ≤ 2) ∧ sd_h i = [] ∧ sd_th i = true) ∧ (op = 32 → sd_r i = some .long) := by
  have c := List.all_eq_true.mp (List.all_eq_true.mp sq_k2_a i (List.mem_range.mpr (sd_i h))) pc (List.mem_range.mpr (sd_lt h))
  unfold sq_k1 at c
  rw [h] at c
  simp only [Bool.or_eq_true, Bool.and_eq_true, decide_eq_true_eq, Bool.not_eq_true', List.isEmpty_iff] at c
  obtain ⟨c1, c2, c3, c4, c5⟩ := c
  refine ⟨fun e => ?_, fun e => ?_, fun e => ?_, fun e => ?_, fun e => ?_⟩
  · subst e
    rcases c1 with c1 | ⟨c1, c6⟩
    · cases c1
    · refine ⟨c1, fun t => ?_⟩
      rcases c6 with c6 | c6 | c6
      · rw [t] at c6; cases c6
      · exact Or.inl c6
      · exact Or.inr (fun z => by rw [z] at c6; cases c6)
  · subst e
    rcases c2 with c2 | ⟨c2, c6⟩ | ⟨c2, c6⟩
    · cases c2
    · exact Or.inl ⟨Nat.eq_of_beq_eq_true c2, c6⟩
    · exact Or.inr ⟨Nat.eq_of_beq_eq_true c2, c6⟩
  · subst e
    rcases c3 with c3 | c3
    · cases c3
    · exact c3
  · subst e
    rcases c4 with c4 | ⟨c4, c6, c7, c8, c9⟩
    · cases c4
    · exact ⟨Nat.eq_of_beq_eq_true c4, Nat.eq_of_beq_eq_true c6, c7, c8, c9⟩
  · subst e
    rcases c5 with c5 | c5
    · cases c5
    · exact c5
/-- a method without handlers here has none there -/
theorem sd_hz_a : (List.range 56).all (fun i => !(qa_hnd i).isEmpty || (sd_h i).isEmpty) = true := by decide +kernel
theorem sd_hz {i : Nat} (hi : i < 56) (h : qa_hnd i = []) : sd_h i = [] := by
  have c := List.all_eq_true.mp sd_hz_a i (List.mem_range.mpr hi)
  simp only [Bool.or_eq_true, Bool.not_eq_true', List.isEmpty_iff] at c
  rcases c with c | c
  · rw [h] at c; cases c
  · exact c
/-- the rows of a table that are met by a throw -/
def sq_ck (i q E : Nat) : Bool := decide (tables_1[257 + E]? = some (Cond.classLink (sd_R (sd_c i)) q (sd_E E)))
def sq_k3 (i pc E : Nat) : Bool := match qa_catch (qa_hnd i) pc E with
  | none => true
  | some h => (List.range 3).any (fun k => match (sd_h i)[k]? with
    | some x => covers ⟨x.1, x.2.1, x.2.2.1, x.2.2.2⟩ pc && (Nat.beq x.2.2.1 h && (!(Nat.beq x.2.2.2 0) && (sq_ck i x.2.2.2 E && (List.range k).all (fun j => match (sd_h i)[j]? with
      | some z => !(covers ⟨z.1, z.2.1, z.2.2.1, z.2.2.2⟩ pc) || (!(Nat.beq z.2.2.2 0) && (List.range E).any (fun F => Nat.ble 1 F && sq_ck i z.2.2.2 F))
      | none => false))))
    | none => false)
def sq_k4 (i : Nat) : Bool := (qa_hnd i).isEmpty || (List.range (sd_n i)).all (fun pc => sq_k3 i pc 1 && (sq_k3 i pc 2 && sq_k3 i pc 3))
theorem sq_k4_a : (List.range 56).all sq_k4 = true := by decide +kernel
theorem sd_hc {i pc E hh : Nat} {args : Array Value} {s : State} (hi : i < 56) (hp : pc < sd_n i) (h : qa_catch (qa_hnd i) pc E = some hh) (hE : 1 ≤ E ∧ E ≤ 3) (hw : ∀ w ∈ AW, w.before args s = true) (nc : qw_nc s) :
    ∃ (pre : List ExceptionTableEntry) (x : ExceptionTableEntry) (suf : List ExceptionTableEntry), tableOf (sd_h i) = pre ++ x :: suf ∧ (∀ z ∈ pre, covers z pc = false ∨ (z.catchType ≠ 0 ∧ ∃ nm : String, (Cond.classLink (sd_R (sd_c i)) z.catchType nm).before args s = true ∧ va_Nc (sd_E E) nm s)) ∧ covers x pc = true ∧ x.catchType ≠ 0 ∧ (Cond.classLink (sd_R (sd_c i)) x.catchType (sd_E E)).before args s = true ∧ x.handlerPc = hh := by
  have link : ∀ {q F : Nat}, sq_ck i q F = true → (Cond.classLink (sd_R (sd_c i)) q (sd_E F)).before args s = true := fun g => hw _ (aw_t (of_decide_eq_true g) rfl)
  have c := List.all_eq_true.mp sq_k4_a i (List.mem_range.mpr hi)
  unfold sq_k4 at c
  have hne : (qa_hnd i).isEmpty = false := by
    cases hz : qa_hnd i with
    | nil => rw [hz] at h; cases h
    | cons q t => rfl
  rw [hne, Bool.false_or] at c
  have c := List.all_eq_true.mp c pc (List.mem_range.mpr hp)
  simp only [Bool.and_eq_true] at c
  have c : sq_k3 i pc E = true := by
    have e : E = 1 ∨ E = 2 ∨ E = 3 := by omega
    rcases e with rfl | rfl | rfl
    · exact c.1
    · exact c.2.1
    · exact c.2.2
  unfold sq_k3 at c
  rw [h] at c
  obtain ⟨k, -, c⟩ := List.any_eq_true.mp c
  cases hx : (sd_h i)[k]? with
  | none => rw [hx] at c; cases c
  | some x =>
    rw [hx] at c
    simp only [Bool.and_eq_true, Bool.not_eq_true'] at c
    obtain ⟨c1, c2, c3, c4, c5⟩ := c
    obtain ⟨lt, hx⟩ := List.getElem?_eq_some_iff.mp hx
    refine ⟨((sd_h i).take k).map (fun q => ⟨q.1, q.2.1, q.2.2.1, q.2.2.2⟩), ⟨x.1, x.2.1, x.2.2.1, x.2.2.2⟩, ((sd_h i).drop (k + 1)).map (fun q => ⟨q.1, q.2.1, q.2.2.1, q.2.2.2⟩), ?_, fun z hz => ?_, (Bool.and_eq_true _ _).mpr c1, (fun z => by rw [show x.2.2.2 = 0 from z] at c3; cases c3), link c4, Nat.eq_of_beq_eq_true c2⟩
    · have e : sd_h i = (sd_h i).take k ++ x :: (sd_h i).drop (k + 1) := by
        rw [← hx, List.getElem_cons_drop, List.take_append_drop]
      unfold tableOf
      conv => lhs; rw [e]
      rw [List.map_append, List.map_cons]
    · obtain ⟨y, hy, rfl⟩ := List.mem_map.mp hz
      obtain ⟨j, hj⟩ := List.getElem?_of_mem hy
      have jk : j < k := by
        have := (List.getElem?_eq_some_iff.mp hj).1
        rw [List.length_take] at this
        omega
      rw [List.getElem?_take_of_lt jk] at hj
      have c6 := List.all_eq_true.mp c5 j (List.mem_range.mpr jk)
      rw [hj] at c6
      simp only [Bool.or_eq_true, Bool.and_eq_true, Bool.not_eq_true', List.any_eq_true, List.mem_range] at c6
      rcases c6 with c6 | ⟨c6, F, f1, f2, f3⟩
      · exact Or.inl c6
      · refine Or.inr ⟨(fun z => by rw [show y.2.2.2 = 0 from z] at c6; cases c6), _, link f3, ?_⟩
        have f2 := Nat.le_of_ble_eq_true f2
        have e : (E = 2 ∧ F = 1) ∨ (E = 3 ∧ F = 1) ∨ (E = 3 ∧ F = 2) := by omega
        rcases e with ⟨rfl, rfl⟩ | ⟨rfl, rfl⟩ | ⟨rfl, rfl⟩
        · exact nc.1
        · exact nc.2.1
        · exact nc.2.2
/-- the words of the three throws -/
def sd_ex : List String := ["java/lang/RuntimeException", "java/lang/Exception"]
def sd_tw (E ic cp : Nat) : List Cond := Cond.classLink (sd_R 5) cp (sd_E E) :: Cond.initialized (sd_E E) :: vx_at0 (sd_R 5) ic (sd_E E) sd_ex
def sd_tB (E : Nat) : Bool := match qa_code (38 + E) 4 with
  | some q => (sd_tw E q.2.2.1.toNat q.2.2.2.2).all (fun w => vx_ot w && (decide (w ∈ qw_cw) || (decide (w ∈ lw_tbl) && goodWord w))) && (Bundle.fit (sd_E E) && (Nat.beq (sd_c (38 + E)) 5 && (Nat.ble 6 (sd_F (38 + E)) && Nat.ble 81 (sd_Q (38 + E)))))
  | none => false
theorem sd_t_a : [1, 2].all sd_tB = true := by decide +kernel
theorem sd_tt {i pc a nx cp : Nat} {v : Int} {args : Array Value} {s : State} (h : qa_code i pc = some (21, a, v, nx, cp)) (hw : ∀ w ∈ AW, w.before args s = true) (hc : qw_ca s) :
    (∀ w ∈ sd_tw a v.toNat cp, vx_ot w = true ∧ w.before args s = true) ∧ Bundle.fit (sd_E a) = true ∧ sd_R (sd_c i) = sd_R 5 ∧ 6 ≤ sd_F i ∧ 81 ≤ sd_Q i := by
  obtain ⟨e1, e2, e3, -⟩ := (sd_kk h).2.2.2.1 rfl
  have m : a ∈ [1, 2] := by
    have e : a = 1 ∨ a = 2 := by omega
    rcases e with rfl | rfl <;> decide
  have c := List.all_eq_true.mp sd_t_a a m
  unfold sd_tB at c
  rw [← e1, ← e2, h] at c
  simp only [Bool.and_eq_true] at c
  obtain ⟨c1, c2, c3, c4, c5⟩ := c
  refine ⟨fun w m => ?_, c2, by rw [Nat.eq_of_beq_eq_true c3], Nat.le_of_ble_eq_true c4, Nat.le_of_ble_eq_true c5⟩
  have g := List.all_eq_true.mp c1 w m
  simp only [Bool.and_eq_true, Bool.or_eq_true, decide_eq_true_eq] at g
  refine ⟨g.1, ?_⟩
  rcases g.2 with g | g
  · exact va_Nw.use (qw_cw_t w g) (hc w g)
  · exact hw w (aw_in g.1 g.2)
/-- a nest mate's call is of a method that doesn't throw -/
theorem sd_nt_a : sd_ct.all (fun t => !(Nat.beq t.2.2.2.1 2) || !(sd_th t.2.2.1)) = true := by decide +kernel
theorem sd_cx {i pc a nx cp : Nat} {v : Int} (h : qa_code i pc = some (18, a, v, nx, cp)) : (a < 55 ∧ sd_F a + 1 ≤ sd_F i ∧ 8 + (sd_l a + 11) + sd_Q a ≤ sd_Q i ∧ (parseMethodDescriptor (sd_y a).desc).map (fun d => d.parameters.length) = some (v.toNat - (bif sd_st a then 0 else 1)) ∧ (bif sd_st a then 0 else 1) ≤ v ∧ Cond.initialized (sd_y a).cls ∈ AW) ∧
    ((sd_st a = true ∧ sd_h a = [] ∧ Cond.methodLink (sd_R (sd_c i)) cp (sd_y a) ∈ AW ∧ Cond.static (sd_y a) ∈ AW) ∨
     (sd_st a = false ∧ sd_h a = [] ∧ Cond.methodLink (sd_R (sd_c i)) cp (sd_y a) ∈ AW ∧ Cond.instanceMethod (sd_y a) ∈ AW ∧ Cond.selects (sd_y a).cls (sd_y a) (sd_y a) ∈ AW) ∨
     (sd_st a = true ∧ sd_th a = false ∧ sd_h a = [] ∧ Cond.methodLinkNest (sd_R (sd_c i)) cp (sd_y a) "KeyframeCourt" ∈ lw_tbl ∧ Cond.static (sd_y a) ∈ AW) ∨
     (sd_st a = true ∧ sd_h a ≠ [] ∧ Cond.methodLink (sd_R (sd_c i)) cp (sd_y a) ∈ AW ∧ Cond.static (sd_y a) ∈ AW)) := by
  have c := List.all_eq_true.mp (List.all_eq_true.mp sd_c2_a i (List.mem_range.mpr (sd_i h))) pc (List.mem_range.mpr (sd_lt h))
  unfold sd_c1 at c
  rw [h] at c
  simp only [Bool.or_eq_true, Bool.and_eq_true, decide_eq_true_eq, Bool.not_eq_true', List.any_eq_true] at c
  rcases c with c | ⟨⟨⟨⟨⟨c1, c2⟩, c3⟩, c4⟩, c5⟩, t, m, ⟨e1, e2⟩, e3⟩
  · cases c
  · have w := List.all_eq_true.mp sd_ct_a t m
    unfold sd_ctB at w
    simp only [Bool.and_eq_true, decide_eq_true_eq] at w
    obtain ⟨⟨w0, -⟩, w⟩ := w
    rw [Nat.eq_of_beq_eq_true e1, Nat.eq_of_beq_eq_true e2] at w
    rw [Nat.eq_of_beq_eq_true e3] at w w0
    refine ⟨⟨c1, c2, c3, c4, c5, aw_t w0 rfl⟩, ?_⟩
    split at w
    · simp only [Bool.and_eq_true, decide_eq_true_eq, List.isEmpty_iff] at w
      exact Or.inl ⟨w.1.2, w.2, aw_t w.1.1.1 rfl, aw_t w.1.1.2 rfl⟩
    · simp only [Bool.and_eq_true, decide_eq_true_eq, List.isEmpty_iff, Bool.not_eq_true'] at w
      exact Or.inr (Or.inl ⟨w.1.2, w.2, aw_t w.1.1.1.1 rfl, aw_t w.1.1.1.2 rfl, aw_in (List.mem_of_getElem? w.1.1.2) rfl⟩)
    · rename_i hq
      simp only [Bool.and_eq_true, decide_eq_true_eq, List.isEmpty_iff] at w
      have g := List.all_eq_true.mp sd_nt_a t m
      rw [hq, Nat.eq_of_beq_eq_true e3] at g
      simp only [Bool.or_eq_true, Bool.not_eq_true'] at g
      have g : sd_th a = false := by
        rcases g with g | g
        · cases g
        · exact g
      exact Or.inr (Or.inr (Or.inl ⟨w.1.2, g, w.2, List.mem_append_right _ (List.mem_of_getElem? w.1.1.1), aw_t w.1.1.2 rfl⟩))
    · simp only [Bool.and_eq_true, decide_eq_true_eq, Bool.not_eq_true', List.isEmpty_eq_false_iff] at w
      exact Or.inr (Or.inr (Or.inr ⟨w.1.2, w.2, aw_t w.1.1.1 rfl, aw_t w.1.1.2 rfl⟩))
