/-! what is told of a method that runs -/
def qw_cx (p : Program) (l : Launch) (R : Room) (s : State) (m : MethodId) (args : Array Value) (meth : Method) (c : Code) (i : Nat) (D : va_G) (cA : Nat → ClassId) (ad : Nat → Nat) (A : Nat → Prop) : Prop :=
  p.tables.exec = Jvm.exec ∧ c.code = sd_b i ∧ c.maxLocals = sd_l i ∧ meth.sig.returnType = sd_r i ∧ meth.locks = false ∧ s.vm.findClass (sd_R (sd_c i)) = some m.cls ∧ (∀ w ∈ AW, w.before args s = true) ∧ qw_fx D cA A s s.heap ∧ (∀ a b, a < 37 → b < 37 → ad a = ad b → a = b) ∧ A = qw_A ad s.heap.size ∧ l.stackTraces = false ∧ (i ≠ 55 → c.exceptionTable.toList = tableOf (sd_h i)) ∧ sd_F i ≤ R.frames ∧ sd_Q i ≤ R.locals
/-- the ends of a method: it returns; it throws; a throw comes out of a call -/
def qw_end (p : Program) (l : Launch) (e : Env) (R : Room) (s : State) (m : MethodId) (args : Array Value) (below : List Frame) (meth : Method) (c : Code) (i : Nat) (D : va_G) (cA : Nat → ClassId) (ad : Nat → Nat) (A : Nat → Prop) (k z nb lw : Nat) (Q : State → Prop) (r : qa_R) (M' : qa_Mem) : Prop :=
  (∀ (o : Option qa_V) (pc op a nx cp : Nat) (v : Int) (H : Heap) (locs : List Loc) (C : qw_C) (ls : Array Slot) (st : List Value), r = .inl o → qa_code i pc = some (op, a, v, nx, cp) → (op = 19 ∧ (∃ x : Int, o = some (qi x)) ∨ op = 20 ∧ o = none ∨ op = 32 ∧ ∃ x : Int, o = some (ql x)) → (op = 19 → a = 1 → ∃ x : Int, o = some (qi x) ∧ (x = 0 ∨ x = 1)) → va_P D qw_cl (qw_ws cA ad C) H → va_S A s.heap H locs → RM C M' → RS ad o.toList st → lw + k ≤ H.size → W p l e R s m args below meth c H locs (k + nb) (6 * k + z) Q (F0 m pc ls st)) ∧
  (∀ (E pc a nx cp : Nat) (v : Int) (H : Heap) (locs : List Loc) (C : qw_C) (n : Nat) (ls : Array Slot), r = .inr E → qa_code i pc = some (21, E, v, nx, cp) → va_P D qw_cl (qw_ws cA ad C) H → va_S A s.heap H locs → RM C M' → n + 1 = k → ls.size = c.maxLocals → lw + n ≤ H.size → W p l e R s m args below meth c H locs (n + nb) (6 * n + z) Q (F0 m pc ls [])) ∧
  (∀ (E pc : Nat) (H : Heap) (locs : List Loc) (C : qw_C) (ls : Array Slot) (st : List Value) (ce : Cell) (q : Addr), r = .inr E → sd_h i = [] → va_P D qw_cl (qw_ws cA ad C) H → va_S A s.heap H locs → RM C M' → H[q]? = some ce → ce.vm = .none → s.vm.findClass (sd_E E) = some ce.cls → lw + k ≤ H.size → vx_W p l e R s m args below meth c H locs (k + nb) (6 * k + z) Q (F0 m pc ls st) q)
/-- the methods that may throw -/
def sd_th (i : Nat) : Bool := [18, 19, 20, 21, 22, 23, 24, 25, 26, 27, 28, 31, 32, 33, 34, 35, 36, 37, 39, 40, 51, 52, 53, 55].any (Nat.beq i)
def qw_rs : qa_R → Prop
  | .inl none => True
  | .inl (some (.inl _)) => True
  | .inl (some (.inr (.inr _))) => True
  | .inr E => 1 ≤ E ∧ E ≤ 3
  | _ => False
/-- what an end is like, and what it leaves alone -/
def qw_st (i : Nat) (M : qa_Mem) (r : qa_R) (M' : qa_Mem) : Prop := qw_rs r ∧ M 99 0 ≤ M' 99 0 ∧ (∀ j, M' 97 j = M 97 j) ∧ (∀ j, M' 98 j = M 98 j) ∧ ∀ E, r = .inr E → sd_th i = true
def CL (l : Launch) : qa_P := fun i pc L S M r M' => qw_st i M r M' ∧ ∀ (p : Program) (e : Env) (R : Room) (s : State) (m : MethodId) (args : Array Value) (below : List Frame) (meth : Method) (c : Code) (D : va_G) (cA : Nat → ClassId) (ad : Nat → Nat) (A : Nat → Prop) (H : Heap) (locs : List Loc) (C : qw_C) (n k z nb lw : Nat) (ls : Array Slot) (st : List Value) (Q : State → Prop), qw_cx p l R s m args meth c i D cA ad A → qw_sx s ad A M s.heap → va_P D qw_cl (qw_ws cA ad C) H → va_S A s.heap H locs → RM C M → RLo ad (sd_l i) L ls → RS ad S st → (n : Int) + (M' 99 0 - M 99 0) = k → k + nb ≤ R.cells → 6 * k + z ≤ R.slots → lw + n ≤ H.size → qw_end p l e R s m args below meth c i D cA ad A k z nb lw Q r M' → W p l e R s m args below meth c H locs (n + nb) (6 * n + z) Q (F0 m pc ls st)
