/-! the world: 47 cells at addresses ad, of values C -/
abbrev qw_C : Type := (Nat → Nat → Int32) × (Nat → Int64)
def qw_v (ad : Nat → Nat) (C : qw_C) (k : Nat) (fs : List (Option Nat)) (j : Nat) : Value := match fs[j]? with
  | some (some k1) => .ref (ad k1)
  | _ => .int (C.1 k j)
def qw_c (cA : Nat → ClassId) (ad : Nat → Nat) (C : qw_C) (k : Nat) : va_E := match qa_lay k with
  | some (.inl q) => .inr (q.1, (List.range q.2.length).map (qw_v ad C k q.2))
  | some (.inr q) => .inl (cA q.1, q.2, bif Nat.beq q.1 2 then .inr (.inl C.2) else .inl (C.1 k))
  | none => .inr (0, [])
def qw_ws (cA : Nat → ClassId) (ad : Nat → Nat) (C : qw_C) : va_W := (List.range 47).map (fun k => (ad k, qw_c cA ad C k))
theorem qw_at {cA : Nat → ClassId} {ad : Nat → Nat} {C : qw_C} {k : Nat} (hk : k < 47) : (qw_ws cA ad C)[k]? = some (ad k, qw_c cA ad C k) := by
  unfold qw_ws
  rw [List.getElem?_map, List.getElem?_range hk]
  rfl
theorem qw_len {cA : Nat → ClassId} {ad : Nat → Nat} {C : qw_C} : (qw_ws cA ad C).length = 47 := by
  unfold qw_ws
  rw [List.length_map, List.length_range]
theorem qw_set {cA : Nat → ClassId} {ad : Nat → Nat} {C C1 : qw_C} {k : Nat} {e : va_E} (he : qw_c cA ad C1 k = e) (ho : ∀ j, j ≠ k → qw_c cA ad C1 j = qw_c cA ad C j) : (qw_ws cA ad C).set k (ad k, e) = qw_ws cA ad C1 := by
  apply List.ext_getElem?
  intro j
  by_cases hj : j < 47
  · rw [qw_at hj]
    by_cases h : j = k
    · subst h
      rw [List.getElem?_set_self (by rw [qw_len]; exact hj), he]
    · rw [List.getElem?_set_ne (Ne.symm h), qw_at hj, ho j h]
  · rw [List.getElem?_eq_none (by rw [List.length_set, qw_len]; omega), List.getElem?_eq_none (by rw [qw_len]; omega)]
def qw_up (C : qw_C) (k j : Nat) (x : Int32) : qw_C := (fun a b => if a = k ∧ b = j then x else C.1 a b, C.2)
theorem qw_lay_lt {k : Nat} {y : qa_Ly} (h : qa_lay k = some y) : k < 47 := by
  refine Classical.byContradiction (fun hk => ?_)
  unfold qa_lay at h
  rw [gd_out (by rw [show qa_lays.length = 47 from by decide +kernel]; omega)] at h
  cases h
theorem qw_up_o {cA : Nat → ClassId} {ad : Nat → Nat} {C : qw_C} {k j i : Nat} {x : Int32} (h : i ≠ k) : qw_c cA ad (qw_up C k j x) i = qw_c cA ad C i := by
  have e : (qw_up C k j x).1 i = C.1 i := by
    funext b
    show (if i = k ∧ b = j then x else C.1 i b) = C.1 i b
    rw [if_neg (fun z => h z.1)]
  unfold qw_c qw_v
  rw [e]
  rfl
theorem qw_up_a {cA : Nat → ClassId} {ad : Nat → Nat} {C : qw_C} {k j t n : Nat} {x : Int32} (h : qa_lay k = some (.inr (t, n))) (ht : t ≠ 2) : qw_c cA ad (qw_up C k j x) k = .inl (cA t, n, .inl (upd (C.1 k) j x)) := by
  have e : (qw_up C k j x).1 k = upd (C.1 k) j x := by
    funext b
    show (if k = k ∧ b = j then x else C.1 k b) = upd (C.1 k) j x b
    unfold upd
    by_cases hb : b = j
    · rw [if_pos ⟨rfl, hb⟩]
      first | rw [if_pos hb] | (simp [hb])
    · rw [if_neg (fun z => hb z.2)]
      first | rw [if_neg hb] | (simp [hb])
  unfold qw_c
  rw [h, e]
  cases hb : Nat.beq t 2 with
  | true => exact absurd (Nat.eq_of_beq_eq_true hb) ht
  | false => show Sum.inl (cA t, n, bif Nat.beq t 2 then _ else _) = _; rw [hb]; rfl
theorem qw_up_f {cA : Nat → ClassId} {ad : Nat → Nat} {C : qw_C} {k j c : Nat} {fs : List (Option Nat)} {x : Int32} (h : qa_lay k = some (.inl (c, fs))) (hj : fs[j]? = some none) : qw_c cA ad (qw_up C k j x) k = .inr (c, ((List.range fs.length).map (qw_v ad C k fs)).set j (.int x)) := by
  unfold qw_c
  rw [h]
  show Sum.inr (c, (List.range fs.length).map (qw_v ad (qw_up C k j x) k fs)) = _
  congr 2
  apply List.ext_getElem?
  intro i
  have lj : j < fs.length := (List.getElem?_eq_some_iff.mp hj).1
  by_cases hi : i < fs.length
  · rw [List.getElem?_map, List.getElem?_range hi]
    by_cases e : i = j
    · subst e
      rw [List.getElem?_set_self (by rw [List.length_map, List.length_range]; exact hi)]
      show some (qw_v ad (qw_up C k i x) k fs i) = _
      unfold qw_v
      rw [hj]
      show some (Value.int (if k = k ∧ i = i then x else C.1 k i)) = _
      rw [if_pos ⟨rfl, rfl⟩]
    · rw [List.getElem?_set_ne (Ne.symm e), List.getElem?_map, List.getElem?_range hi]
      show some (qw_v ad (qw_up C k j x) k fs i) = some (qw_v ad C k fs i)
      unfold qw_v
      have : (qw_up C k j x).1 k i = C.1 k i := by
        show (if k = k ∧ i = j then x else C.1 k i) = C.1 k i
        rw [if_neg (fun z => e z.2)]
      rw [this]
  · rw [List.getElem?_eq_none (by rw [List.length_map, List.length_range]; omega), List.getElem?_eq_none (by rw [List.length_set, List.length_map, List.length_range]; omega)]
/-- what of a memory the world holds -/
def qw_ok (k j : Nat) : Prop := match qa_lay k with
  | some (.inl q) => q.2[j]? = some none
  | some (.inr q) => q.1 ≠ 2 ∧ j < q.2
  | none => False
def RM (C : qw_C) (M : qa_Mem) : Prop := (∀ k j : Nat, qw_ok k j → (C.1 k j).toInt = M k j) ∧ (C.2 0).toInt = M 7 0
theorem RM_up {C : qw_C} {M : qa_Mem} {k j : Nat} {x : Int32} {v : Int} (h : RM C M) (hx : x.toInt = v) (h7 : k ≠ 7) : RM (qw_up C k j x) (qa_upd M k j v) := by
  refine ⟨fun a b hab => ?_, ?_⟩
  · show (if a = k ∧ b = j then x else C.1 a b).toInt = (if a = k ∧ (b : Int) = (j : Int) then v else M a b)
    by_cases e : a = k ∧ b = j
    · rw [if_pos e, if_pos ⟨e.1, by rw [e.2]⟩, hx]
    · rw [if_neg e, if_neg (fun z => e ⟨z.1, by omega⟩)]
      exact h.1 a b hab
  · show (C.2 0).toInt = (if 7 = k ∧ (0 : Int) = (j : Int) then v else M 7 0)
    rw [if_neg (fun z => h7 z.1.symm)]
    exact h.2
theorem RM_99 {C : qw_C} {M : qa_Mem} {i v : Int} (h : RM C M) : RM C (qa_upd M 99 i v) := by
  refine ⟨fun a b hab => ?_, h.2⟩
  show _ = (if a = 99 ∧ (b : Int) = i then v else M a b)
  rw [if_neg (fun z => ?_)]
  · exact h.1 a b hab
  · rw [z.1] at hab
    exact hab
/-- values, stacks, locals -/
def RV (ad : Nat → Nat) (v : qa_V) (x : Value) : Prop := match v with
  | .inl n => ∃ i : Int32, x = .int i ∧ i.toInt = n
  | .inr (.inl k) => ∃ a : Nat, x = .ref a ∧ (k = 999 ∨ a = ad k)
  | .inr (.inr n) => ∃ i : Int64, x = .long i ∧ i.toInt = n
def RS (ad : Nat → Nat) : List qa_V → List Value → Prop
  | [], [] => True
  | v :: S, x :: st => RV ad v x ∧ RS ad S st
  | _, _ => False
def RLo (ad : Nat → Nat) (nL : Nat) (L : qa_L) (ls : Array Slot) : Prop := ∃ lc : List (Nat × Value), lv_has ls nL lc ∧ (∀ q ∈ lc, q.2.category = 1) ∧ ∀ (a : Nat) (v : qa_V), qa_lk L a = some v → ∃ x, (a, x) ∈ lc ∧ RV ad v x
theorem RS_len {ad : Nat → Nat} : ∀ {S : List qa_V} {st : List Value}, RS ad S st → S.length = st.length
  | [], [], _ => rfl
  | _ :: S, _ :: st, h => congrArg Nat.succ (RS_len (S := S) (st := st) h.2)
  | [], _ :: _, h => h.elim
  | _ :: _, [], h => h.elim
theorem RS_app {ad : Nat → Nat} : ∀ {S T : List qa_V} {st : List Value}, RS ad (S ++ T) st → ∃ s1 s2, st = s1 ++ s2 ∧ RS ad S s1 ∧ RS ad T s2
  | [], T, st, h => ⟨[], st, rfl, trivial, h⟩
  | v :: S, T, x :: st, h => by
    obtain ⟨s1, s2, e, h1, h2⟩ := RS_app (S := S) (T := T) (st := st) h.2
    exact ⟨x :: s1, s2, by rw [e]; rfl, ⟨h.1, h1⟩, h2⟩
  | _ :: _, _, [], h => h.elim
theorem RS_cons {ad : Nat → Nat} {v : qa_V} {S : List qa_V} {st : List Value} (h : RS ad (v :: S) st) : ∃ x s1, st = x :: s1 ∧ RV ad v x ∧ RS ad S s1 := by
  cases st with
  | nil => exact h.elim
  | cons x s1 => exact ⟨x, s1, rfl, h.1, h.2⟩
theorem RS_nil {ad : Nat → Nat} {st : List Value} (h : RS ad [] st) : st = [] := by
  cases st with
  | nil => rfl
  | cons x s1 => exact h.elim
