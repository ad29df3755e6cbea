/-! what goes along with a state: the tables' facts that are no good words -/
def qw_A (ad : Nat → Nat) (n : Nat) : Nat → Prop := fun q => (∃ k, k < 37 ∧ q = ad k) ∨ n ≤ q
def qw_nest (U : State) : Prop := ∀ w ∈ lw_tbl, ∀ (o : String) (n : Nat) (y : MethodName) (h : String), w = Cond.methodLinkNest o n y h → va_Nw w U
def qw_nc (U : State) : Prop := va_Nc "java/lang/IllegalArgumentException" "java/lang/IndexOutOfBoundsException" U ∧ va_Nc "java/lang/IllegalStateException" "java/lang/IndexOutOfBoundsException" U ∧ va_Nc "java/lang/IllegalStateException" "java/lang/IllegalArgumentException" U
theorem qw_nc_m {u U : State} (hvm : u.vm.Alike U.vm) (h : qw_nc u) : qw_nc U := ⟨h.1.moved hvm, h.2.1.moved hvm, h.2.2.moved hvm⟩
def sd_E : Nat → String
  | 1 => "java/lang/IndexOutOfBoundsException"
  | 2 => "java/lang/IllegalArgumentException"
  | _ => "java/lang/IllegalStateException"
/-- words of the tables that are no good words, for the throws -/
def qw_cw : List Cond := [.castable (sd_E 1) (sd_E 1), .castable (sd_E 2) (sd_E 2), .castable (sd_E 3) (sd_E 3), .declares ⟨"java/lang/RuntimeException", "<init>", "()V"⟩, .declares ⟨"java/lang/Exception", "<init>", "()V"⟩, .declares ⟨"java/lang/Throwable", "<init>", "()V"⟩]
theorem qw_cw_i {P : Cond → Prop} (h1 : ∀ C T, P (.castable C T)) (h2 : ∀ x, P (.declares x)) : ∀ w ∈ qw_cw, P w := fun w hw => by
  unfold qw_cw at hw
  rcases List.mem_cons.mp hw with e | hw
  · rw [e]; exact h1 _ _
  rcases List.mem_cons.mp hw with e | hw
  · rw [e]; exact h1 _ _
  rcases List.mem_cons.mp hw with e | hw
  · rw [e]; exact h1 _ _
  rcases List.mem_cons.mp hw with e | hw
  · rw [e]; exact h2 _
  rcases List.mem_cons.mp hw with e | hw
  · rw [e]; exact h2 _
  rcases List.mem_cons.mp hw with e | hw
  · rw [e]; exact h2 _
  · cases hw
theorem qw_cw_t : ∀ w ∈ qw_cw, w.onTables = true := qw_cw_i (fun _ _ => rfl) (fun _ => rfl)
def qw_ca (U : State) : Prop := ∀ w ∈ qw_cw, va_Nw w U
theorem qw_ca_w {s U : State} (hW : s.WarmedH U.vm) (h : qw_ca s) : qw_ca U := fun w hw => qw_cw_i (P := fun w => va_Nw w s → va_Nw w U) (fun _ _ q => va_Nw.warmC hW q) (fun _ q => va_Nw.warmD hW q) w hw (h w hw)
theorem qw_cw_E {E : Nat} (h : 1 ≤ E ∧ E ≤ 3) : Cond.castable (sd_E E) (sd_E E) ∈ qw_cw := by
  rcases (show E = 1 ∨ E = 2 ∨ E = 3 by omega) with rfl | rfl | rfl
  · exact List.mem_of_getElem? (i := 0) rfl
  · exact List.mem_of_getElem? (i := 1) rfl
  · exact List.mem_of_getElem? (i := 2) rfl
def qw_fx (D : va_G) (cA : Nat → ClassId) (A : Nat → Prop) (U : State) (H : Heap) : Prop := va_K D qw_cl (qw_ty cA) U ∧ vx_Zq Bundle.tN "UNASSIGNED_STACK" Bundle.steD A U H ∧ vx_Zq Bundle.tN "SUPPRESSED_SENTINEL" Bundle.listD A U H ∧ qw_nest U ∧ qw_nc U ∧ qw_ca U
theorem qw_nest_w {s U : State} (hW : s.WarmedH U.vm) (h : qw_nest s) : qw_nest U := fun w hw o n y z e => by
  have g := h w hw o n y z e
  subst e
  exact va_Nw.warmM hW g
theorem qw_fx_w {D : va_G} {cA : Nat → ClassId} {A B : Nat → Prop} {s U : State} {H0 H : Heap} (hW : s.WarmedH U.vm) (hk : ∀ a : Nat, a < H0.size → ¬ A a → H[a]? = H0[a]?) (hAB : ∀ q, B q → A q) (h : qw_fx D cA A s H0) : qw_fx D cA B U H := ⟨va_K.moved hW.alike h.1, ((h.2.1.kept hk).moved hW.alike).narrow hAB, ((h.2.2.1.kept hk).moved hW.alike).narrow hAB, qw_nest_w hW h.2.2.2.1, qw_nc_m hW.alike h.2.2.2.2.1, qw_ca_w hW h.2.2.2.2.2⟩
theorem qw_fx_c {D : va_G} {cA : Nat → ClassId} {A : Nat → Prop} {U : State} {g : JFrame} {mk : MethodId} {a : Array Value} (h : qw_fx D cA A U U.heap) : qw_fx D cA A (U.calling g mk a) (U.calling g mk a).heap := ⟨va_K.moved (u := U) (U := U.calling g mk a) (Vm.Alike.refl U.vm) h.1, h.2.1.moved (u := U) (U := U.calling g mk a) (Vm.Alike.refl U.vm), h.2.2.1.moved (u := U) (U := U.calling g mk a) (Vm.Alike.refl U.vm), fun w hw o n y z e => by
  have q := h.2.2.2.1 w hw o n y z e
  subst e
  exact va_Nw.same rfl (u := U) (U := U.calling g mk a) rfl q, qw_nc_m (u := U) (U := U.calling g mk a) (Vm.Alike.refl U.vm) h.2.2.2.2.1, fun w hw => va_Nw.same (qw_cw_t w hw) (u := U) (U := U.calling g mk a) rfl (h.2.2.2.2.2 w hw)⟩
/-- the script -/
def qw_sx (s : State) (ad : Nat → Nat) (A : Nat → Prop) (M : qa_Mem) (H : Heap) : Prop := ∃ (b Ln : Nat) (xs : Nat → Int32), ad 998 = b ∧ va_X b Ln xs s H ∧ b < H.size ∧ ¬ A b ∧ Ln ≤ 260 ∧ M 97 0 = Ln ∧ ∀ j : Nat, j < Ln → (xs j).toInt = M 98 j
theorem qw_sx_c {U : State} {ad : Nat → Nat} {A : Nat → Prop} {M : qa_Mem} {g : JFrame} {mk : MethodId} {a : Array Value} (h : qw_sx U ad A M U.heap) : qw_sx (U.calling g mk a) ad A M (U.calling g mk a).heap := by
  obtain ⟨b, Ln, xs, g1, g2, g3⟩ := h
  exact ⟨b, Ln, xs, g1, g2.moved (u := U) (U := U.calling g mk a) (Vm.Alike.refl U.vm), g3⟩
/-- a callee's start has it too -/
theorem qw_sx_w {s U : State} {ad : Nat → Nat} {A B : Nat → Prop} {M : qa_Mem} {H0 H : Heap} {locs : List Loc} (hW : s.WarmedH U.vm) (hS : va_S A H0 H locs) (hB : ∀ q, B q → A q ∨ H0.size ≤ q) (h : qw_sx s ad A M H0) : qw_sx U ad B M H := by
  obtain ⟨b, Ln, xs, g1, g2, g3, g4, g5⟩ := h
  exact ⟨b, Ln, xs, g1, (g2.kept (hS.2.1 b g3 g4)).moved hW.alike, Nat.lt_of_lt_of_le g3 hS.1, fun z => (hB b z).elim g4 (fun z => absurd g3 (Nat.not_lt.mpr z)), g5⟩
/-- the start of a method: its arguments, the world, the facts -/
def qw_P (D : va_G) (cA : Nat → ClassId) (ad : Nat → Nat) (C : qw_C) (M : qa_Mem) (av : List Value) (sz : Nat) : Array Value → State → Prop := va_Pc av (fun U => U.heap.size = sz ∧ va_P D qw_cl (qw_ws cA ad C) U.heap ∧ qw_fx D cA (qw_A ad sz) U U.heap ∧ qw_sx U ad (qw_A ad sz) M U.heap)
theorem qw_P_b {D : va_G} {cA : Nat → ClassId} {ad : Nat → Nat} {C : qw_C} {M : qa_Mem} {av : List Value} {sz : Nat} : FrameBlind (qw_P D cA ad C M av sz) := fun a U g mk q => by
  obtain ⟨q0, q1, q2, q3, q4⟩ := q
  exact ⟨q0, q1, q2, qw_fx_c q3, qw_sx_c q4⟩
theorem qw_D {cA : Nat → ClassId} {ad : Nat → Nat} {C : qw_C} {n : Nat} (inj : ∀ a b, a < 37 → b < 37 → ad a = ad b → a = b) : va_D (qw_A ad n) (qw_ws cA ad C) := by
  have key : ∀ (k : Nat) (q : Nat × va_E), (qw_ws cA ad C)[k]? = some q → k < 37 ∧ q.1 = ad k := by
    intro k q h
    have lt := (List.getElem?_eq_some_iff.mp h).1
    rw [qw_len] at lt
    rw [qw_at lt] at h
    cases h
    exact ⟨lt, rfl⟩
  refine ⟨fun i j p q hi hj e => ?_, fun k q h => ?_⟩
  · obtain ⟨a1, a2⟩ := key i p hi
    obtain ⟨b1, b2⟩ := key j q hj
    exact inj i j a1 b1 (by rw [← a2, ← b2, e])
  · obtain ⟨a1, a2⟩ := key k q h
    exact Or.inl ⟨k, a1, a2⟩
