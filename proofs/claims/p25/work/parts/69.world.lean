/-! the world: 37 cells at addresses ad, of values C -/
abbrev qw_C : Type := (Nat → Nat → Int32) × (Nat → Nat → Int64)
def qw_v (ad : Nat → Nat) (C : qw_C) (k : Nat) (fs : List (Option Nat)) (j : Nat) : Value := match fs[j]? with
  | some (some k1) => .ref (ad k1)
  | _ => .int (C.1 k j)
def qw_c (cA : Nat → ClassId) (ad : Nat → Nat) (C : qw_C) (k : Nat) : va_E := match qa_lay k with
  | some (.inl q) => .inr (q.1, (List.range q.2.length).map (qw_v ad C k q.2))
  | some (.inr q) => .inl (cA q.1, q.2, bif Nat.beq q.1 2 then .inr (.inl (C.2 k)) else .inl (C.1 k))
  | none => .inr (0, [])
def qw_ws (cA : Nat → ClassId) (ad : Nat → Nat) (C : qw_C) : va_W := (List.range 37).map (fun k => (ad k, qw_c cA ad C k))
theorem qw_at {cA : Nat → ClassId} {ad : Nat → Nat} {C : qw_C} {k : Nat} (hk : k < 37) : (qw_ws cA ad C)[k]? = some (ad k, qw_c cA ad C k) := by
  unfold qw_ws
  rw [List.getElem?_map, List.getElem?_range hk]
  rfl
theorem qw_len {cA : Nat → ClassId} {ad : Nat → Nat} {C : qw_C} : (qw_ws cA ad C).length = 37 := by
  unfold qw_ws
  rw [List.length_map, List.length_range]
theorem qw_lay_lt {k : Nat} {y : qa_Ly} (h : qa_lay k = some y) : k < 37 := by
  refine Classical.byContradiction (fun hk => ?_)
  unfold qa_lay at h
  rw [gd_out (by rw [show qa_lays.length = 37 from by decide +kernel]; omega)] at h
  cases h
/-- what of a memory the world holds -/
def qw_ok (k j : Nat) : Prop := match qa_lay k with
  | some (.inl q) => q.2[j]? = some none
  | some (.inr q) => q.1 ≠ 2 ∧ j < q.2
  | none => False
def RM (C : qw_C) (M : qa_Mem) : Prop := (∀ k j : Nat, qw_ok k j → (C.1 k j).toInt = M k j) ∧ ∀ k n j : Nat, qa_lay k = some (.inr (2, n)) → j < n → (C.2 k j).toInt = M k j
theorem RM_99 {C : qw_C} {M : qa_Mem} {i v : Int} (h : RM C M) : RM C (qa_upd M 99 i v) := by
  refine ⟨fun a b hab => ?_, fun a n b hab hb => ?_⟩
  · show _ = (if a = 99 ∧ (b : Int) = i then v else M a b)
    rw [if_neg (fun z => ?_)]
    · exact h.1 a b hab
    · rw [z.1] at hab
      exact hab
  · show _ = (if a = 99 ∧ (b : Int) = i then v else M a b)
    rw [if_neg (fun z => ?_)]
    · exact h.2 a n b hab hb
    · rw [z.1] at hab
      cases hab
/-- values, stacks, locals -/
def RV (ad : Nat → Nat) (v : qa_V) (x : Value) : Prop := match v with
  | .inl n => ∃ i : Int32, x = .int i ∧ i.toInt = n
  | .inr (.inl k) => ∃ a : Nat, x = .ref a ∧ (k = 999 ∨ a = ad k)
  | .inr (.inr n) => ∃ i : Int64, x = .long i ∧ i.toInt = n
def RS (ad : Nat → Nat) : List qa_V → List Value → Prop
  | [], [] => True
  | v :: S, x :: st => RV ad v x ∧ RS ad S st
  | _, _ => False
def RLo (ad : Nat → Nat) (nL : Nat) (L : qa_L) (ls : Array Slot) : Prop := ∃ lc : List (Nat × Value), lv_has ls nL lc ∧ ∀ (a : Nat) (v : qa_V), qa_lk L a = some v → ∃ x, (a, x) ∈ lc ∧ RV ad v x
theorem RS_len {ad : Nat → Nat} : ∀ {S : List qa_V} {st : List Value}, RS ad S st → S.length = st.length
  | [], [], _ => rfl
  | _ :: S, _ :: st, h => congrArg Nat.succ (RS_len (S := S) (st := st) h.2)
  | [], _ :: _, h => h.elim
  | _ :: _, [], h => h.elim
theorem RS_app {ad : Nat → Nat} : ∀ {S T : List qa_V} {st : List Value}, RS ad (S ++ T) st → ∃ s1 s2, st = s1 ++ s2 ∧ RS ad S s1 ∧ RS ad T s2
  | [], T, st, h => ⟨[], st, rfl, trivial, h⟩
  | v :: S, T, x :: st, h => by
    obtain ⟨s1, s2, e, h1, h2⟩ := RS_app (S := S) (T := T) (st := st) h.2
    exact ⟨x :: s1, s2, by rw [e]; rfl, ⟨h.1, h1⟩, h2⟩
  | _ :: _, _, [], h => h.elim
theorem RS_cons {ad : Nat → Nat} {v : qa_V} {S : List qa_V} {st : List Value} (h : RS ad (v :: S) st) : ∃ x s1, st = x :: s1 ∧ RV ad v x ∧ RS ad S s1 := by
  cases st with
  | nil => exact h.elim
  | cons x s1 => exact ⟨x, s1, rfl, h.1, h.2⟩
theorem RS_nil {ad : Nat → Nat} {st : List Value} (h : RS ad [] st) : st = [] := by
  cases st with
  | nil => rfl
  | cons x s1 => exact h.elim
