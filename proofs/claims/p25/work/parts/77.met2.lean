/-! what a method promises: its answer or its throw, and the memory behind it -/
def qw_B (D : va_G) (cA : Nat → ClassId) (ad : Nat → Nat) (lo : Nat) (C : qw_C) (t : State) : Prop := va_P D qw_cl (qw_ws cA ad C) t.heap ∧ lo ≤ t.heap.size
def qw_Qc (D : va_G) (cA : Nat → ClassId) (ad : Nat → Nat) (sz k : Nat) (r : qa_R) (M' : qa_Mem) : Array Value → State → Outcome → State → Prop := match r with
  | .inl (some (.inl v)) => va_Qi (fun (x : Int32) (C : qw_C) => x.toInt = v ∧ RM C M') (qw_B D cA ad (sz + k)) (qw_A ad sz)
  | .inl (some (.inr (.inr v))) => va_Ql (fun (x : Int64) (C : qw_C) => x.toInt = v ∧ RM C M') (qw_B D cA ad (sz + k)) (qw_A ad sz)
  | .inl none => va_Qv (fun (C : qw_C) => RM C M') (qw_B D cA ad (sz + k)) (qw_A ad sz)
  | _ => fun _ _ _ _ => False
def qw_Xc (D : va_G) (cA : Nat → ClassId) (ad : Nat → Nat) (sz k : Nat) (r : qa_R) (M' : qa_Mem) : String → State → State → Prop := match r with
  | .inr E => vx_X (fun C : qw_C => RM C M') (fun (F : String) (C : qw_C) (t : State) => F = sd_E E ∧ qw_B D cA ad (sz + k) C t) (qw_A ad sz)
  | _ => fun _ _ _ => False
/-- the room of a method that may throw k times -/
def qw_rm (i k : Nat) : Room := { frames := sd_F i, cells := k, slots := 6 * k, locals := sd_Q i }
/-- method i from its start, on these arguments, with this memory -/
def qw_Met (l : Launch) (i k : Nat) (av : List qa_V) (M : qa_Mem) (r : qa_R) (M' : qa_Mem) : Prop := ∀ (D : va_G) (cA : Nat → ClassId) (ad : Nat → Nat) (C : qw_C) (vs : List Value) (sz : Nat), (∀ a b, a < 37 → b < 37 → ad a = ad b → a = b) → RM C M → RS ad av vs → vx_Met l (sd_y i) (sd_w i) (qw_rm i k) (qw_P D cA ad C M vs sz) (qw_Qc D cA ad sz k r M') (qw_Xc D cA ad sz k r M') k (6 * k) (qw_A ad sz)
