/-! what is told of a method that runs -/
def qw_cx (p : Program) (l : Launch) (R : Room) (s : State) (m : MethodId) (args : Array Value) (meth : Method) (c : Code) (i : Nat) (D : va_G) (cA : Nat → ClassId) (ad : Nat → Nat) (A : Nat → Prop) : Prop :=
  p.tables.exec = Jvm.exec ∧ c.code = sd_b i ∧ c.maxLocals = sd_l i ∧ meth.sig.returnType = sd_r i ∧ meth.locks = false ∧ s.vm.findClass (sd_R (sd_c i)) = some m.cls ∧ (∀ w ∈ AW, w.before args s = true) ∧ qw_fx D cA A s s.heap ∧ (∀ a b, a < 47 → b < 47 → ad a = ad b → a = b) ∧ A = qw_A ad s.heap.size ∧ l.stackTraces = false ∧ (i ≠ 161 → c.exceptionTable.toList = tableOf (sd_h i)) ∧ sd_F i ≤ R.frames ∧ sd_Q i ≤ R.locals
/-- the script, for the law alone -/
def qw_sx (s : State) (i : Nat) (ad : Nat → Nat) (A : Nat → Prop) (M : qa_Mem) : Prop := i = 161 → ∃ (b Ln : Nat) (xs : Nat → Int32), ad 998 = b ∧ va_X b Ln xs s s.heap ∧ b < s.heap.size ∧ ¬ A b ∧ Ln ≤ 3584 ∧ M 97 0 = Ln ∧ ∀ j : Nat, j < Ln → (xs j).toInt = M 98 j
/-- the ends of a method: it returns; it throws; a throw comes out of a call -/
def qw_end (p : Program) (l : Launch) (e : Env) (R : Room) (s : State) (m : MethodId) (args : Array Value) (below : List Frame) (meth : Method) (c : Code) (i : Nat) (D : va_G) (cA : Nat → ClassId) (ad : Nat → Nat) (A : Nat → Prop) (k z : Nat) (Q : State → Prop) (r : qa_R) (M' : qa_Mem) : Prop :=
  (∀ (o : Option qa_V) (pc op a nx cp : Nat) (v : Int) (H : Heap) (locs : List Loc) (C : qw_C) (ls : Array Slot) (st : List Value), r = .inl o → qa_code i pc = some (op, a, v, nx, cp) → (op = 19 ∧ o ≠ none ∨ op = 20 ∧ o = none) → (o ≠ none → a = 1 → ∃ x : Int, o = some (qi x) ∧ (x = 0 ∨ x = 1)) → va_P D qw_cl (qw_ws cA ad C) H → va_S A s.heap H locs → RM C M' → RS ad o.toList st → W p l e R s m args below meth c H locs k (6 * k + z) Q (F0 m pc ls st)) ∧
  (∀ (E pc a nx cp : Nat) (v : Int) (H : Heap) (locs : List Loc) (C : qw_C) (n : Nat) (ls : Array Slot), r = .inr E → qa_code i pc = some (21, E, v, nx, cp) → va_P D qw_cl (qw_ws cA ad C) H → va_S A s.heap H locs → RM C M' → n + 1 = k → ls.size = c.maxLocals → W p l e R s m args below meth c H locs n (6 * n + z) Q (F0 m pc ls [])) ∧
  (∀ (E pc : Nat) (H : Heap) (locs : List Loc) (C : qw_C) (ls : Array Slot) (st : List Value) (ce : Cell) (q : Addr), r = .inr E → sd_h i = [] → va_P D qw_cl (qw_ws cA ad C) H → va_S A s.heap H locs → RM C M' → H[q]? = some ce → ce.vm = .none → s.vm.findClass (sd_E E) = some ce.cls → vx_W p l e R s m args below meth c H locs k (6 * k + z) Q (F0 m pc ls st) q)
/-- the methods that may throw -/
def sd_th (i : Nat) : Bool := [111, 112, 113, 114, 115, 116, 117, 118, 119, 120, 121, 122, 125, 126, 127, 128, 129, 130, 131, 132, 135, 136, 137].any (Nat.beq i)
def qw_rs : qa_R → Prop
  | .inl none => True
  | .inl (some (.inl _)) => True
  | .inr E => 1 ≤ E ∧ E ≤ 3
  | _ => False
/-- what an end is like, and what it leaves alone -/
def qw_st (i : Nat) (M : qa_Mem) (r : qa_R) (M' : qa_Mem) : Prop := qw_rs r ∧ M 99 0 ≤ M' 99 0 ∧ (∀ j, M' 97 j = M 97 j) ∧ (∀ j, M' 98 j = M 98 j) ∧ ∀ E, r = .inr E → sd_th i = true
def CL (l : Launch) : qa_P := fun i pc L S M r M' => qw_st i M r M' ∧ ∀ (p : Program) (e : Env) (R : Room) (s : State) (m : MethodId) (args : Array Value) (below : List Frame) (meth : Method) (c : Code) (D : va_G) (cA : Nat → ClassId) (ad : Nat → Nat) (A : Nat → Prop) (H : Heap) (locs : List Loc) (C : qw_C) (n k z : Nat) (ls : Array Slot) (st : List Value) (Q : State → Prop), qw_cx p l R s m args meth c i D cA ad A → qw_sx s i ad A M → va_P D qw_cl (qw_ws cA ad C) H → va_S A s.heap H locs → RM C M → RLo ad (sd_l i) L ls → RS ad S st → (n : Int) + (M' 99 0 - M 99 0) = k → k ≤ R.cells → 6 * k + z ≤ R.slots → qw_end p l e R s m args below meth c i D cA ad A k z Q r M' → W p l e R s m args below meth c H locs n (6 * n + z) Q (F0 m pc ls st)
