/-! the constructors -/
theorem qn_nest_c {U : State} {g : JFrame} {mk : MethodId} {a : Array Value} (h : qw_nest U) : qw_nest (U.calling g mk a) := fun w hw o n y z e => by
  have q := h w hw o n y z e
  subst e
  exact va_Nw.same rfl (u := U) (U := U.calling g mk a) rfl q
theorem qn_ra {s : State} {ty : FieldType} {a b : ClassId} (hp : ∀ c, va_RA s c ty = (s.vm.findClass ("[" ++ ty.toString) = some c)) (h1 : va_RA s a ty) (h2 : va_RA s b ty) : a = b := by
  rw [hp] at h1 h2
  exact Option.some.inj (h1.symm.trans h2)
/-- a new array is of the class that the tables name -/
theorem qn_cA {D : va_G} {cA : Nat → ClassId} {s : State} {t : Nat} {ty : FieldType} {c : ClassId} (hK : va_K D qw_cl (qw_ty cA ++ [(c, ty)]) s) (ht : (qw_ty cA)[t]? = some (cA t, ty)) (hp : ∀ c, va_RA s c ty = (s.vm.findClass ("[" ++ ty.toString) = some c)) : c = cA t := by
  have h1 := (hK.2 3 (c, ty) rfl).2
  have h2 := (hK.2 t (cA t, ty) (by
    have lt := (List.getElem?_eq_some_iff.mp ht).1
    rw [List.getElem?_append_left lt]
    exact ht)).2
  exact qn_ra hp h1 h2
def qn_Pc (D : va_G) (cA : Nat → ClassId) (h0 sz : Nat) (e : va_E) : Array Value → State → Prop := va_Pc [.ref h0] (fun U => U.heap.size = sz ∧ va_P D qw_cl [(h0, e)] U.heap ∧ va_K D qw_cl (qw_ty cA) U ∧ va_D (fun _ => True) [(h0, e)] ∧ qw_nest U)
theorem qn_Pc_b {D : va_G} {cA : Nat → ClassId} {h0 sz : Nat} {e : va_E} : FrameBlind (qn_Pc D cA h0 sz e) := fun a U g mk q => by
  obtain ⟨q0, q1, qP, qK, qD, qN⟩ := q
  exact ⟨q0, q1, qP, va_K.moved (u := U) (U := U.calling g mk a) (Vm.Alike.refl U.vm) qK, qD, qn_nest_c qN⟩
def qn_f : List (Nat × Nat) → Nat → Nat
  | [], _ => 0
  | q :: t, k => bif Nat.beq q.1 k then q.2 else qn_f t k
theorem di_2_0 : decode cX2_init 0 = .ok (.aload_n 0, 1) := by decide +kernel
theorem di_2_1 : decode cX2_init 1 = .ok (.invokespecial 3, 3) := by decide +kernel
theorem di_2_4 : decode cX2_init 4 = .ok (.aload_n 0, 1) := by decide +kernel
theorem di_2_5 : decode cX2_init 5 = .ok (.bipush 80, 2) := by decide +kernel
theorem di_2_7 : decode cX2_init 7 = .ok (.newarray .int, 2) := by decide +kernel
theorem di_2_9 : decode cX2_init 9 = .ok (.putfield 9, 3) := by decide +kernel
theorem di_2_12 : decode cX2_init 12 = .ok (.aload_n 0, 1) := by decide +kernel
theorem di_2_13 : decode cX2_init 13 = .ok (.bipush 80, 2) := by decide +kernel
theorem di_2_15 : decode cX2_init 15 = .ok (.newarray .int, 2) := by decide +kernel
theorem di_2_17 : decode cX2_init 17 = .ok (.putfield 15, 3) := by decide +kernel
theorem di_2_20 : decode cX2_init 20 = .ok (.aload_n 0, 1) := by decide +kernel
theorem di_2_21 : decode cX2_init 21 = .ok (.bipush 80, 2) := by decide +kernel
theorem di_2_23 : decode cX2_init 23 = .ok (.newarray .int, 2) := by decide +kernel
theorem di_2_25 : decode cX2_init 25 = .ok (.putfield 18, 3) := by decide +kernel
theorem di_2_28 : decode cX2_init 28 = .ok (.aload_n 0, 1) := by decide +kernel
theorem di_2_29 : decode cX2_init 29 = .ok (.bipush 80, 2) := by decide +kernel
theorem di_2_31 : decode cX2_init 31 = .ok (.newarray .boolean, 2) := by decide +kernel
theorem di_2_33 : decode cX2_init 33 = .ok (.putfield 21, 3) := by decide +kernel
theorem di_2_36 : decode cX2_init 36 = .ok (.aload_n 0, 1) := by decide +kernel
theorem di_2_37 : decode cX2_init 37 = .ok (.iconst 0, 1) := by decide +kernel
theorem di_2_38 : decode cX2_init 38 = .ok (.putfield 25, 3) := by decide +kernel
theorem di_2_41 : decode cX2_init 41 = .ok (.return_, 1) := by decide +kernel
def qn_w2 : List Cond := Cond.code ⟨RX2, "<init>", "()V"⟩ cX2_init 1 none :: AW
theorem qn_g2 : ∀ w ∈ qn_w2, w ∈ AW := fun w h => (List.mem_cons.mp h).elim (fun e => by rw [e]; exact aw_t (n := 32) (by decide +kernel) rfl) id
def qn_e2 : va_E := .inr (2, [.null, .null, .null, .null, .int 0])
def qn_B2 (D : va_G) (cA : Nat → ClassId) (h0 sz : Nat) (u : Nat → Nat) (t : State) : Prop := va_P D qw_cl [(h0, .inr (2, [.ref (u 14), .ref (u 15), .ref (u 16), .ref (u 17), .int 0])), ((u 14), .inl (cA 0, 80, .inl (fun _ => 0))), ((u 15), .inl (cA 0, 80, .inl (fun _ => 0))), ((u 16), .inl (cA 0, 80, .inl (fun _ => 0))), ((u 17), .inl (cA 1, 80, .inl (fun _ => 0)))] t.heap ∧ va_D (va_A [(h0, qn_e2)] sz) [(h0, .inr (2, [.ref (u 14), .ref (u 15), .ref (u 16), .ref (u 17), .int 0])), ((u 14), .inl (cA 0, 80, .inl (fun _ => 0))), ((u 15), .inl (cA 0, 80, .inl (fun _ => 0))), ((u 16), .inl (cA 0, 80, .inl (fun _ => 0))), ((u 17), .inl (cA 1, 80, .inl (fun _ => 0)))]
set_option maxHeartbeats 4000000 in
set_option maxRecDepth 100000 in
theorem qn_m2 (l : Launch) (D : va_G) (cA : Nat → ClassId) (h0 sz : Nat) : Met l ⟨RX2, "<init>", "()V"⟩ qn_w2 ({ frames := 1, cells := 4, slots := 320, locals := 12 }) (qn_Pc D cA h0 sz qn_e2) (va_Qv (fun _ : Nat → Nat => True) (qn_B2 D cA h0 sz) (va_A [(h0, qn_e2)] sz)) 4 320 (va_A [(h0, qn_e2)] sz) := by
  refine Met.ofW (cc := cX2_init) (maxL := 1) (ret := none) (by decide) rfl ?_
  intro p e s m args below meth c s₁ B hml hv
  obtain ⟨rfl, hsz, hP, hK, hD0, hN⟩ := hv
  have hx := B.exec
  have hb := B.bytes
  have hr := B.returns
  have hts := atoms_spec (ws := qn_w2) B.pre
  have hw : ∀ w ∈ AW, w.before #[Value.ref h0] s = true := fun w h => hts w (List.mem_cons_of_mem _ h)
  have hown : s.vm.findClass RX2 = some m.cls := findClass_of_methodNamed B.named
  have hlocks := B.notSynchronized
  have hin : meth.name = "<init>" := (name_of_methodNamed B.named B.method).1
  subst hsz
  have hD := hD0.self (sz := s.heap.size)
  unfold qn_B2
  generalize hAe : va_A [(h0, qn_e2)] s.heap.size = A at hD ⊢
  have hA : ∀ q : Nat, s.heap.size ≤ q → A q := fun q h => by rw [← hAe]; exact Or.inr h
  have hS : va_S A s.heap s.heap [] := va_S.rf
  have hl := lv_entry ([.ref h0]) (n := 1) (Nat.le_of_ble_eq_true rfl)
  rw [lg_entry_eq]
  generalize (lg_sl ([.ref h0]) ++ List.replicate (1 - (lg_sl ([.ref h0])).length) Slot.unset).toArray = ls at hl ⊢
  have hl : lv_has ls 1 [(0, .ref h0)] := hl
  have hP : va_P D qw_cl [(h0, .inr (2, [.null, .null, .null, .null, .int 0]))] s.heap := hP
  have hD : va_D A [(h0, .inr (2, [.null, .null, .null, .null, .int 0]))] := hD
  refine lv_aload_n hx hb di_2_0 rfl (lv_at hl 0 rfl) ?_
  refine W.objInit hx hb hown (hw _ (aw_t (n := 33) (by decide +kernel) rfl)) (hw _ (aw_t (n := 20) (by decide +kernel) rfl)) (hw _ (aw_t (n := 21) (by decide +kernel) rfl)) rfl (by rw [hml]; exact hl.1) rfl di_2_1 (Nat.le_of_ble_eq_true rfl) (Nat.le_of_ble_eq_true rfl) ?_
  refine W.eq (g2 := F0 m 4 ls []) rfl ?_
  refine lv_aload_n hx hb di_2_4 rfl (lv_at hl 0 rfl) ?_
  refine lv_bipush hx hb di_2_5 (v := 80) rfl ?_
  have e7 : 0 + 1 ≤ 4 := Nat.le_of_ble_eq_true rfl
  have f7 : 0 + 80 ≤ 320 := Nat.le_of_ble_eq_true rfl
  refine va_newa (atype := .int) (ty := .int) (a0 := (80, .inl (fun _ => 0))) hx hb (hw _ (aw_t (n := 50) (by decide +kernel) rfl)) rfl hK hP hD hS hA (fun _ => rfl) (by decide) (show (80 : Int32).toNatClampNeg = 80 from rfl) (Nat.le_of_ble_eq_true rfl) e7 f7 di_2_7 (fun q7 cN H hKn hP hD hS => ?_)
  obtain rfl := qn_cA (t := 0) hKn rfl (fun _ => rfl)
  have hP : va_P D qw_cl [(h0, .inr (2, [.null, .null, .null, .null, .int 0])), (q7, .inl (cA 0, 80, .inl (fun _ => 0)))] H := hP
  have hD : va_D A [(h0, .inr (2, [.null, .null, .null, .null, .int 0])), (q7, .inl (cA 0, 80, .inl (fun _ => 0)))] := hD
  refine W.widen (k := 1) (n := 80) (Nat.le_refl _) (Nat.le_of_ble_eq_true rfl) ?_
  refine va_putF (D := D) (own := RX2) (ref := RX2) (C := RX2) (T := TX2) (N := 5) (ci := 2) (v := .ref q7) (ty := .array .int) hx hb hw (sd_u (c := 2) (by decide)).1 tyX2 tyX2_ok nmX2 hown hK hP hD hS 0 rfl rfl 0 (by decide) (hw _ (aw_t (n := 34) (by decide +kernel) rfl)) (fun _ h9 => h9) rfl hin rfl (by decide +kernel) rfl rfl (Nat.le_of_ble_eq_true rfl) di_2_9 (fun H locs hP hD hS => ?_)
  have hP : va_P D qw_cl [(h0, .inr (2, [.ref q7, .null, .null, .null, .int 0])), (q7, .inl (cA 0, 80, .inl (fun _ => 0)))] H := hP
  have hD : va_D A [(h0, .inr (2, [.ref q7, .null, .null, .null, .int 0])), (q7, .inl (cA 0, 80, .inl (fun _ => 0)))] := hD
  refine lv_aload_n hx hb di_2_12 rfl (lv_at hl 0 rfl) ?_
  refine lv_bipush hx hb di_2_13 (v := 80) rfl ?_
  have e15 : 1 + 1 ≤ 4 := Nat.le_of_ble_eq_true rfl
  have f15 : 80 + 80 ≤ 320 := Nat.le_of_ble_eq_true rfl
  refine va_newa (atype := .int) (ty := .int) (a0 := (80, .inl (fun _ => 0))) hx hb (hw _ (aw_t (n := 50) (by decide +kernel) rfl)) rfl hK hP hD hS hA (fun _ => rfl) (by decide) (show (80 : Int32).toNatClampNeg = 80 from rfl) (Nat.le_of_ble_eq_true rfl) e15 f15 di_2_15 (fun q15 cN H hKn hP hD hS => ?_)
  obtain rfl := qn_cA (t := 0) hKn rfl (fun _ => rfl)
  have hP : va_P D qw_cl [(h0, .inr (2, [.ref q7, .null, .null, .null, .int 0])), (q7, .inl (cA 0, 80, .inl (fun _ => 0))), (q15, .inl (cA 0, 80, .inl (fun _ => 0)))] H := hP
  have hD : va_D A [(h0, .inr (2, [.ref q7, .null, .null, .null, .int 0])), (q7, .inl (cA 0, 80, .inl (fun _ => 0))), (q15, .inl (cA 0, 80, .inl (fun _ => 0)))] := hD
  refine W.widen (k := 2) (n := 160) (Nat.le_refl _) (Nat.le_of_ble_eq_true rfl) ?_
  refine va_putF (D := D) (own := RX2) (ref := RX2) (C := RX2) (T := TX2) (N := 5) (ci := 2) (v := .ref q15) (ty := .array .int) hx hb hw (sd_u (c := 2) (by decide)).1 tyX2 tyX2_ok nmX2 hown hK hP hD hS 0 rfl rfl 1 (by decide) (hw _ (aw_t (n := 35) (by decide +kernel) rfl)) (fun _ h9 => h9) rfl hin rfl (by decide +kernel) rfl rfl (Nat.le_of_ble_eq_true rfl) di_2_17 (fun H locs hP hD hS => ?_)
  have hP : va_P D qw_cl [(h0, .inr (2, [.ref q7, .ref q15, .null, .null, .int 0])), (q7, .inl (cA 0, 80, .inl (fun _ => 0))), (q15, .inl (cA 0, 80, .inl (fun _ => 0)))] H := hP
  have hD : va_D A [(h0, .inr (2, [.ref q7, .ref q15, .null, .null, .int 0])), (q7, .inl (cA 0, 80, .inl (fun _ => 0))), (q15, .inl (cA 0, 80, .inl (fun _ => 0)))] := hD
  refine lv_aload_n hx hb di_2_20 rfl (lv_at hl 0 rfl) ?_
  refine lv_bipush hx hb di_2_21 (v := 80) rfl ?_
  have e23 : 2 + 1 ≤ 4 := Nat.le_of_ble_eq_true rfl
  have f23 : 160 + 80 ≤ 320 := Nat.le_of_ble_eq_true rfl
  refine va_newa (atype := .int) (ty := .int) (a0 := (80, .inl (fun _ => 0))) hx hb (hw _ (aw_t (n := 50) (by decide +kernel) rfl)) rfl hK hP hD hS hA (fun _ => rfl) (by decide) (show (80 : Int32).toNatClampNeg = 80 from rfl) (Nat.le_of_ble_eq_true rfl) e23 f23 di_2_23 (fun q23 cN H hKn hP hD hS => ?_)
  obtain rfl := qn_cA (t := 0) hKn rfl (fun _ => rfl)
  have hP : va_P D qw_cl [(h0, .inr (2, [.ref q7, .ref q15, .null, .null, .int 0])), (q7, .inl (cA 0, 80, .inl (fun _ => 0))), (q15, .inl (cA 0, 80, .inl (fun _ => 0))), (q23, .inl (cA 0, 80, .inl (fun _ => 0)))] H := hP
  have hD : va_D A [(h0, .inr (2, [.ref q7, .ref q15, .null, .null, .int 0])), (q7, .inl (cA 0, 80, .inl (fun _ => 0))), (q15, .inl (cA 0, 80, .inl (fun _ => 0))), (q23, .inl (cA 0, 80, .inl (fun _ => 0)))] := hD
  refine W.widen (k := 3) (n := 240) (Nat.le_refl _) (Nat.le_of_ble_eq_true rfl) ?_
  refine va_putF (D := D) (own := RX2) (ref := RX2) (C := RX2) (T := TX2) (N := 5) (ci := 2) (v := .ref q23) (ty := .array .int) hx hb hw (sd_u (c := 2) (by decide)).1 tyX2 tyX2_ok nmX2 hown hK hP hD hS 0 rfl rfl 2 (by decide) (hw _ (aw_t (n := 36) (by decide +kernel) rfl)) (fun _ h9 => h9) rfl hin rfl (by decide +kernel) rfl rfl (Nat.le_of_ble_eq_true rfl) di_2_25 (fun H locs hP hD hS => ?_)
  have hP : va_P D qw_cl [(h0, .inr (2, [.ref q7, .ref q15, .ref q23, .null, .int 0])), (q7, .inl (cA 0, 80, .inl (fun _ => 0))), (q15, .inl (cA 0, 80, .inl (fun _ => 0))), (q23, .inl (cA 0, 80, .inl (fun _ => 0)))] H := hP
  have hD : va_D A [(h0, .inr (2, [.ref q7, .ref q15, .ref q23, .null, .int 0])), (q7, .inl (cA 0, 80, .inl (fun _ => 0))), (q15, .inl (cA 0, 80, .inl (fun _ => 0))), (q23, .inl (cA 0, 80, .inl (fun _ => 0)))] := hD
  refine lv_aload_n hx hb di_2_28 rfl (lv_at hl 0 rfl) ?_
  refine lv_bipush hx hb di_2_29 (v := 80) rfl ?_
  have e31 : 3 + 1 ≤ 4 := Nat.le_of_ble_eq_true rfl
  have f31 : 240 + 80 ≤ 320 := Nat.le_of_ble_eq_true rfl
  refine va_newa (atype := .boolean) (ty := .boolean) (a0 := (80, .inl (fun _ => 0))) hx hb (hw _ (aw_t (n := 51) (by decide +kernel) rfl)) rfl hK hP hD hS hA (fun _ => rfl) (by decide) (show (80 : Int32).toNatClampNeg = 80 from rfl) (Nat.le_of_ble_eq_true rfl) e31 f31 di_2_31 (fun q31 cN H hKn hP hD hS => ?_)
  obtain rfl := qn_cA (t := 1) hKn rfl (fun _ => rfl)
  have hP : va_P D qw_cl [(h0, .inr (2, [.ref q7, .ref q15, .ref q23, .null, .int 0])), (q7, .inl (cA 0, 80, .inl (fun _ => 0))), (q15, .inl (cA 0, 80, .inl (fun _ => 0))), (q23, .inl (cA 0, 80, .inl (fun _ => 0))), (q31, .inl (cA 1, 80, .inl (fun _ => 0)))] H := hP
  have hD : va_D A [(h0, .inr (2, [.ref q7, .ref q15, .ref q23, .null, .int 0])), (q7, .inl (cA 0, 80, .inl (fun _ => 0))), (q15, .inl (cA 0, 80, .inl (fun _ => 0))), (q23, .inl (cA 0, 80, .inl (fun _ => 0))), (q31, .inl (cA 1, 80, .inl (fun _ => 0)))] := hD
  refine W.widen (k := 4) (n := 320) (Nat.le_refl _) (Nat.le_of_ble_eq_true rfl) ?_
  refine va_putF (D := D) (own := RX2) (ref := RX2) (C := RX2) (T := TX2) (N := 5) (ci := 2) (v := .ref q31) (ty := .array .boolean) hx hb hw (sd_u (c := 2) (by decide)).1 tyX2 tyX2_ok nmX2 hown hK hP hD hS 0 rfl rfl 3 (by decide) (hw _ (aw_t (n := 37) (by decide +kernel) rfl)) (fun _ h9 => h9) rfl hin rfl (by decide +kernel) rfl rfl (Nat.le_of_ble_eq_true rfl) di_2_33 (fun H locs hP hD hS => ?_)
  have hP : va_P D qw_cl [(h0, .inr (2, [.ref q7, .ref q15, .ref q23, .ref q31, .int 0])), (q7, .inl (cA 0, 80, .inl (fun _ => 0))), (q15, .inl (cA 0, 80, .inl (fun _ => 0))), (q23, .inl (cA 0, 80, .inl (fun _ => 0))), (q31, .inl (cA 1, 80, .inl (fun _ => 0)))] H := hP
  have hD : va_D A [(h0, .inr (2, [.ref q7, .ref q15, .ref q23, .ref q31, .int 0])), (q7, .inl (cA 0, 80, .inl (fun _ => 0))), (q15, .inl (cA 0, 80, .inl (fun _ => 0))), (q23, .inl (cA 0, 80, .inl (fun _ => 0))), (q31, .inl (cA 1, 80, .inl (fun _ => 0)))] := hD
  refine lv_aload_n hx hb di_2_36 rfl (lv_at hl 0 rfl) ?_
  refine lv_iconst hx hb di_2_37 (v := 0) rfl ?_
  refine va_put (D := D) (own := RX2) (ref := RX2) (C := RX2) (T := TX2) (N := 5) (ci := 2) (v := .int 0) (ty := .int) hx hb hw (sd_u (c := 2) (by decide)).1 tyX2 tyX2_ok nmX2 hown hK hP hD hS 0 rfl rfl 4 (by decide) (hw _ (aw_t (n := 38) (by decide +kernel) rfl)) (fun _ h9 => h9) rfl (by decide +kernel) rfl rfl (Nat.le_of_ble_eq_true rfl) di_2_38 (fun H locs hP hD hS => ?_)
  have hP : va_P D qw_cl [(h0, .inr (2, [.ref q7, .ref q15, .ref q23, .ref q31, .int 0])), (q7, .inl (cA 0, 80, .inl (fun _ => 0))), (q15, .inl (cA 0, 80, .inl (fun _ => 0))), (q23, .inl (cA 0, 80, .inl (fun _ => 0))), (q31, .inl (cA 1, 80, .inl (fun _ => 0)))] H := hP
  have hD : va_D A [(h0, .inr (2, [.ref q7, .ref q15, .ref q23, .ref q31, .int 0])), (q7, .inl (cA 0, 80, .inl (fun _ => 0))), (q15, .inl (cA 0, 80, .inl (fun _ => 0))), (q23, .inl (cA 0, 80, .inl (fun _ => 0))), (q31, .inl (cA 1, 80, .inl (fun _ => 0)))] := hD
  exact W.vret hx hb hr (fun t ht hW => ⟨⟨(qn_f [(14, q7), (15, q15), (16, q23), (17, q31)]), rfl, trivial, by rw [ht]; exact hP, hD⟩, hS.F ht⟩) hS.2.2 di_2_41
theorem di_4_0 : decode cX4_init 0 = .ok (.aload_n 0, 1) := by decide +kernel
theorem di_4_1 : decode cX4_init 1 = .ok (.invokespecial 3, 3) := by decide +kernel
theorem di_4_4 : decode cX4_init 4 = .ok (.aload_n 0, 1) := by decide +kernel
theorem di_4_5 : decode cX4_init 5 = .ok (.sipush 2880, 3) := by decide +kernel
theorem di_4_8 : decode cX4_init 8 = .ok (.newarray .int, 2) := by decide +kernel
theorem di_4_10 : decode cX4_init 10 = .ok (.putfield 9, 3) := by decide +kernel
theorem di_4_13 : decode cX4_init 13 = .ok (.aload_n 0, 1) := by decide +kernel
theorem di_4_14 : decode cX4_init 14 = .ok (.bipush 120, 2) := by decide +kernel
theorem di_4_16 : decode cX4_init 16 = .ok (.newarray .int, 2) := by decide +kernel
theorem di_4_18 : decode cX4_init 18 = .ok (.putfield 15, 3) := by decide +kernel
theorem di_4_21 : decode cX4_init 21 = .ok (.aload_n 0, 1) := by decide +kernel
theorem di_4_22 : decode cX4_init 22 = .ok (.bipush 120, 2) := by decide +kernel
theorem di_4_24 : decode cX4_init 24 = .ok (.newarray .int, 2) := by decide +kernel
theorem di_4_26 : decode cX4_init 26 = .ok (.putfield 18, 3) := by decide +kernel
theorem di_4_29 : decode cX4_init 29 = .ok (.return_, 1) := by decide +kernel
def qn_w4 : List Cond := Cond.code ⟨RX4, "<init>", "()V"⟩ cX4_init 1 none :: AW
theorem qn_g4 : ∀ w ∈ qn_w4, w ∈ AW := fun w h => (List.mem_cons.mp h).elim (fun e => by rw [e]; exact aw_t (n := 78) (by decide +kernel) rfl) id
def qn_e4 : va_E := .inr (4, [.null, .null, .null])
def qn_B4 (D : va_G) (cA : Nat → ClassId) (h0 sz : Nat) (u : Nat → Nat) (t : State) : Prop := va_P D qw_cl [(h0, .inr (4, [.ref (u 18), .ref (u 19), .ref (u 20)])), ((u 18), .inl (cA 0, 2880, .inl (fun _ => 0))), ((u 19), .inl (cA 0, 120, .inl (fun _ => 0))), ((u 20), .inl (cA 0, 120, .inl (fun _ => 0)))] t.heap ∧ va_D (va_A [(h0, qn_e4)] sz) [(h0, .inr (4, [.ref (u 18), .ref (u 19), .ref (u 20)])), ((u 18), .inl (cA 0, 2880, .inl (fun _ => 0))), ((u 19), .inl (cA 0, 120, .inl (fun _ => 0))), ((u 20), .inl (cA 0, 120, .inl (fun _ => 0)))]
set_option maxHeartbeats 4000000 in
set_option maxRecDepth 100000 in
theorem qn_m4 (l : Launch) (D : va_G) (cA : Nat → ClassId) (h0 sz : Nat) : Met l ⟨RX4, "<init>", "()V"⟩ qn_w4 ({ frames := 1, cells := 3, slots := 3120, locals := 12 }) (qn_Pc D cA h0 sz qn_e4) (va_Qv (fun _ : Nat → Nat => True) (qn_B4 D cA h0 sz) (va_A [(h0, qn_e4)] sz)) 3 3120 (va_A [(h0, qn_e4)] sz) := by
  refine Met.ofW (cc := cX4_init) (maxL := 1) (ret := none) (by decide) rfl ?_
  intro p e s m args below meth c s₁ B hml hv
  obtain ⟨rfl, hsz, hP, hK, hD0, hN⟩ := hv
  have hx := B.exec
  have hb := B.bytes
  have hr := B.returns
  have hts := atoms_spec (ws := qn_w4) B.pre
  have hw : ∀ w ∈ AW, w.before #[Value.ref h0] s = true := fun w h => hts w (List.mem_cons_of_mem _ h)
  have hown : s.vm.findClass RX4 = some m.cls := findClass_of_methodNamed B.named
  have hlocks := B.notSynchronized
  have hin : meth.name = "<init>" := (name_of_methodNamed B.named B.method).1
  subst hsz
  have hD := hD0.self (sz := s.heap.size)
  unfold qn_B4
  generalize hAe : va_A [(h0, qn_e4)] s.heap.size = A at hD ⊢
  have hA : ∀ q : Nat, s.heap.size ≤ q → A q := fun q h => by rw [← hAe]; exact Or.inr h
  have hS : va_S A s.heap s.heap [] := va_S.rf
  have hl := lv_entry ([.ref h0]) (n := 1) (Nat.le_of_ble_eq_true rfl)
  rw [lg_entry_eq]
  generalize (lg_sl ([.ref h0]) ++ List.replicate (1 - (lg_sl ([.ref h0])).length) Slot.unset).toArray = ls at hl ⊢
  have hl : lv_has ls 1 [(0, .ref h0)] := hl
  have hP : va_P D qw_cl [(h0, .inr (4, [.null, .null, .null]))] s.heap := hP
  have hD : va_D A [(h0, .inr (4, [.null, .null, .null]))] := hD
  refine lv_aload_n hx hb di_4_0 rfl (lv_at hl 0 rfl) ?_
  refine W.objInit hx hb hown (hw _ (aw_t (n := 79) (by decide +kernel) rfl)) (hw _ (aw_t (n := 20) (by decide +kernel) rfl)) (hw _ (aw_t (n := 21) (by decide +kernel) rfl)) rfl (by rw [hml]; exact hl.1) rfl di_4_1 (Nat.le_of_ble_eq_true rfl) (Nat.le_of_ble_eq_true rfl) ?_
  refine W.eq (g2 := F0 m 4 ls []) rfl ?_
  refine lv_aload_n hx hb di_4_4 rfl (lv_at hl 0 rfl) ?_
  refine lv_sipush hx hb di_4_5 (v := 2880) rfl ?_
  have e8 : 0 + 1 ≤ 3 := Nat.le_of_ble_eq_true rfl
  have f8 : 0 + 2880 ≤ 3120 := Nat.le_of_ble_eq_true rfl
  refine va_newa (atype := .int) (ty := .int) (a0 := (2880, .inl (fun _ => 0))) hx hb (hw _ (aw_t (n := 50) (by decide +kernel) rfl)) rfl hK hP hD hS hA (fun _ => rfl) (by decide) (show (2880 : Int32).toNatClampNeg = 2880 from rfl) (Nat.le_of_ble_eq_true rfl) e8 f8 di_4_8 (fun q8 cN H hKn hP hD hS => ?_)
  obtain rfl := qn_cA (t := 0) hKn rfl (fun _ => rfl)
  have hP : va_P D qw_cl [(h0, .inr (4, [.null, .null, .null])), (q8, .inl (cA 0, 2880, .inl (fun _ => 0)))] H := hP
  have hD : va_D A [(h0, .inr (4, [.null, .null, .null])), (q8, .inl (cA 0, 2880, .inl (fun _ => 0)))] := hD
  refine W.widen (k := 1) (n := 2880) (Nat.le_refl _) (Nat.le_of_ble_eq_true rfl) ?_
  refine va_putF (D := D) (own := RX4) (ref := RX4) (C := RX4) (T := TX4) (N := 3) (ci := 4) (v := .ref q8) (ty := .array .int) hx hb hw (sd_u (c := 4) (by decide)).1 tyX4 tyX4_ok nmX4 hown hK hP hD hS 0 rfl rfl 0 (by decide) (hw _ (aw_t (n := 80) (by decide +kernel) rfl)) (fun _ h9 => h9) rfl hin rfl (by decide +kernel) rfl rfl (Nat.le_of_ble_eq_true rfl) di_4_10 (fun H locs hP hD hS => ?_)
  have hP : va_P D qw_cl [(h0, .inr (4, [.ref q8, .null, .null])), (q8, .inl (cA 0, 2880, .inl (fun _ => 0)))] H := hP
  have hD : va_D A [(h0, .inr (4, [.ref q8, .null, .null])), (q8, .inl (cA 0, 2880, .inl (fun _ => 0)))] := hD
  refine lv_aload_n hx hb di_4_13 rfl (lv_at hl 0 rfl) ?_
  refine lv_bipush hx hb di_4_14 (v := 120) rfl ?_
  have e16 : 1 + 1 ≤ 3 := Nat.le_of_ble_eq_true rfl
  have f16 : 2880 + 120 ≤ 3120 := Nat.le_of_ble_eq_true rfl
  refine va_newa (atype := .int) (ty := .int) (a0 := (120, .inl (fun _ => 0))) hx hb (hw _ (aw_t (n := 50) (by decide +kernel) rfl)) rfl hK hP hD hS hA (fun _ => rfl) (by decide) (show (120 : Int32).toNatClampNeg = 120 from rfl) (Nat.le_of_ble_eq_true rfl) e16 f16 di_4_16 (fun q16 cN H hKn hP hD hS => ?_)
  obtain rfl := qn_cA (t := 0) hKn rfl (fun _ => rfl)
  have hP : va_P D qw_cl [(h0, .inr (4, [.ref q8, .null, .null])), (q8, .inl (cA 0, 2880, .inl (fun _ => 0))), (q16, .inl (cA 0, 120, .inl (fun _ => 0)))] H := hP
  have hD : va_D A [(h0, .inr (4, [.ref q8, .null, .null])), (q8, .inl (cA 0, 2880, .inl (fun _ => 0))), (q16, .inl (cA 0, 120, .inl (fun _ => 0)))] := hD
  refine W.widen (k := 2) (n := 3000) (Nat.le_refl _) (Nat.le_of_ble_eq_true rfl) ?_
  refine va_putF (D := D) (own := RX4) (ref := RX4) (C := RX4) (T := TX4) (N := 3) (ci := 4) (v := .ref q16) (ty := .array .int) hx hb hw (sd_u (c := 4) (by decide)).1 tyX4 tyX4_ok nmX4 hown hK hP hD hS 0 rfl rfl 1 (by decide) (hw _ (aw_t (n := 81) (by decide +kernel) rfl)) (fun _ h9 => h9) rfl hin rfl (by decide +kernel) rfl rfl (Nat.le_of_ble_eq_true rfl) di_4_18 (fun H locs hP hD hS => ?_)
  have hP : va_P D qw_cl [(h0, .inr (4, [.ref q8, .ref q16, .null])), (q8, .inl (cA 0, 2880, .inl (fun _ => 0))), (q16, .inl (cA 0, 120, .inl (fun _ => 0)))] H := hP
  have hD : va_D A [(h0, .inr (4, [.ref q8, .ref q16, .null])), (q8, .inl (cA 0, 2880, .inl (fun _ => 0))), (q16, .inl (cA 0, 120, .inl (fun _ => 0)))] := hD
  refine lv_aload_n hx hb di_4_21 rfl (lv_at hl 0 rfl) ?_
  refine lv_bipush hx hb di_4_22 (v := 120) rfl ?_
  have e24 : 2 + 1 ≤ 3 := Nat.le_of_ble_eq_true rfl
  have f24 : 3000 + 120 ≤ 3120 := Nat.le_of_ble_eq_true rfl
  refine va_newa (atype := .int) (ty := .int) (a0 := (120, .inl (fun _ => 0))) hx hb (hw _ (aw_t (n := 50) (by decide +kernel) rfl)) rfl hK hP hD hS hA (fun _ => rfl) (by decide) (show (120 : Int32).toNatClampNeg = 120 from rfl) (Nat.le_of_ble_eq_true rfl) e24 f24 di_4_24 (fun q24 cN H hKn hP hD hS => ?_)
  obtain rfl := qn_cA (t := 0) hKn rfl (fun _ => rfl)
  have hP : va_P D qw_cl [(h0, .inr (4, [.ref q8, .ref q16, .null])), (q8, .inl (cA 0, 2880, .inl (fun _ => 0))), (q16, .inl (cA 0, 120, .inl (fun _ => 0))), (q24, .inl (cA 0, 120, .inl (fun _ => 0)))] H := hP
  have hD : va_D A [(h0, .inr (4, [.ref q8, .ref q16, .null])), (q8, .inl (cA 0, 2880, .inl (fun _ => 0))), (q16, .inl (cA 0, 120, .inl (fun _ => 0))), (q24, .inl (cA 0, 120, .inl (fun _ => 0)))] := hD
  refine W.widen (k := 3) (n := 3120) (Nat.le_refl _) (Nat.le_of_ble_eq_true rfl) ?_
  refine va_putF (D := D) (own := RX4) (ref := RX4) (C := RX4) (T := TX4) (N := 3) (ci := 4) (v := .ref q24) (ty := .array .int) hx hb hw (sd_u (c := 4) (by decide)).1 tyX4 tyX4_ok nmX4 hown hK hP hD hS 0 rfl rfl 2 (by decide) (hw _ (aw_t (n := 82) (by decide +kernel) rfl)) (fun _ h9 => h9) rfl hin rfl (by decide +kernel) rfl rfl (Nat.le_of_ble_eq_true rfl) di_4_26 (fun H locs hP hD hS => ?_)
  have hP : va_P D qw_cl [(h0, .inr (4, [.ref q8, .ref q16, .ref q24])), (q8, .inl (cA 0, 2880, .inl (fun _ => 0))), (q16, .inl (cA 0, 120, .inl (fun _ => 0))), (q24, .inl (cA 0, 120, .inl (fun _ => 0)))] H := hP
  have hD : va_D A [(h0, .inr (4, [.ref q8, .ref q16, .ref q24])), (q8, .inl (cA 0, 2880, .inl (fun _ => 0))), (q16, .inl (cA 0, 120, .inl (fun _ => 0))), (q24, .inl (cA 0, 120, .inl (fun _ => 0)))] := hD
  exact W.vret hx hb hr (fun t ht hW => ⟨⟨(qn_f [(18, q8), (19, q16), (20, q24)]), rfl, trivial, by rw [ht]; exact hP, hD⟩, hS.F ht⟩) hS.2.2 di_4_29
theorem di_1_0 : decode cX1_init 0 = .ok (.aload_n 0, 1) := by decide +kernel
theorem di_1_1 : decode cX1_init 1 = .ok (.invokespecial 3, 3) := by decide +kernel
theorem di_1_4 : decode cX1_init 4 = .ok (.aload_n 0, 1) := by decide +kernel
theorem di_1_5 : decode cX1_init 5 = .ok (.bipush 10, 2) := by decide +kernel
theorem di_1_7 : decode cX1_init 7 = .ok (.newarray .int, 2) := by decide +kernel
theorem di_1_9 : decode cX1_init 9 = .ok (.putfield 9, 3) := by decide +kernel
theorem di_1_12 : decode cX1_init 12 = .ok (.aload_n 0, 1) := by decide +kernel
theorem di_1_13 : decode cX1_init 13 = .ok (.bipush 10, 2) := by decide +kernel
theorem di_1_15 : decode cX1_init 15 = .ok (.newarray .int, 2) := by decide +kernel
theorem di_1_17 : decode cX1_init 17 = .ok (.putfield 15, 3) := by decide +kernel
theorem di_1_20 : decode cX1_init 20 = .ok (.aload_n 0, 1) := by decide +kernel
theorem di_1_21 : decode cX1_init 21 = .ok (.bipush 120, 2) := by decide +kernel
theorem di_1_23 : decode cX1_init 23 = .ok (.newarray .int, 2) := by decide +kernel
theorem di_1_25 : decode cX1_init 25 = .ok (.putfield 18, 3) := by decide +kernel
theorem di_1_28 : decode cX1_init 28 = .ok (.aload_n 0, 1) := by decide +kernel
theorem di_1_29 : decode cX1_init 29 = .ok (.iconst 0, 1) := by decide +kernel
theorem di_1_30 : decode cX1_init 30 = .ok (.putfield 21, 3) := by decide +kernel
theorem di_1_33 : decode cX1_init 33 = .ok (.aload_n 0, 1) := by decide +kernel
theorem di_1_34 : decode cX1_init 34 = .ok (.iconst 0, 1) := by decide +kernel
theorem di_1_35 : decode cX1_init 35 = .ok (.putfield 25, 3) := by decide +kernel
theorem di_1_38 : decode cX1_init 38 = .ok (.return_, 1) := by decide +kernel
def qn_w1 : List Cond := Cond.code ⟨RX1, "<init>", "()V"⟩ cX1_init 1 none :: AW
theorem qn_g1 : ∀ w ∈ qn_w1, w ∈ AW := fun w h => (List.mem_cons.mp h).elim (fun e => by rw [e]; exact aw_t (n := 94) (by decide +kernel) rfl) id
def qn_e1 : va_E := .inr (1, [.null, .null, .null, .int 0, .int 0])
def qn_B1 (D : va_G) (cA : Nat → ClassId) (h0 sz : Nat) (u : Nat → Nat) (t : State) : Prop := va_P D qw_cl [(h0, .inr (1, [.ref (u 21), .ref (u 22), .ref (u 23), .int 0, .int 0])), ((u 21), .inl (cA 0, 10, .inl (fun _ => 0))), ((u 22), .inl (cA 0, 10, .inl (fun _ => 0))), ((u 23), .inl (cA 0, 120, .inl (fun _ => 0)))] t.heap ∧ va_D (va_A [(h0, qn_e1)] sz) [(h0, .inr (1, [.ref (u 21), .ref (u 22), .ref (u 23), .int 0, .int 0])), ((u 21), .inl (cA 0, 10, .inl (fun _ => 0))), ((u 22), .inl (cA 0, 10, .inl (fun _ => 0))), ((u 23), .inl (cA 0, 120, .inl (fun _ => 0)))]
set_option maxHeartbeats 4000000 in
set_option maxRecDepth 100000 in
theorem qn_m1 (l : Launch) (D : va_G) (cA : Nat → ClassId) (h0 sz : Nat) : Met l ⟨RX1, "<init>", "()V"⟩ qn_w1 ({ frames := 1, cells := 3, slots := 140, locals := 12 }) (qn_Pc D cA h0 sz qn_e1) (va_Qv (fun _ : Nat → Nat => True) (qn_B1 D cA h0 sz) (va_A [(h0, qn_e1)] sz)) 3 140 (va_A [(h0, qn_e1)] sz) := by
  refine Met.ofW (cc := cX1_init) (maxL := 1) (ret := none) (by decide) rfl ?_
  intro p e s m args below meth c s₁ B hml hv
  obtain ⟨rfl, hsz, hP, hK, hD0, hN⟩ := hv
  have hx := B.exec
  have hb := B.bytes
  have hr := B.returns
  have hts := atoms_spec (ws := qn_w1) B.pre
  have hw : ∀ w ∈ AW, w.before #[Value.ref h0] s = true := fun w h => hts w (List.mem_cons_of_mem _ h)
  have hown : s.vm.findClass RX1 = some m.cls := findClass_of_methodNamed B.named
  have hlocks := B.notSynchronized
  have hin : meth.name = "<init>" := (name_of_methodNamed B.named B.method).1
  subst hsz
  have hD := hD0.self (sz := s.heap.size)
  unfold qn_B1
  generalize hAe : va_A [(h0, qn_e1)] s.heap.size = A at hD ⊢
  have hA : ∀ q : Nat, s.heap.size ≤ q → A q := fun q h => by rw [← hAe]; exact Or.inr h
  have hS : va_S A s.heap s.heap [] := va_S.rf
  have hl := lv_entry ([.ref h0]) (n := 1) (Nat.le_of_ble_eq_true rfl)
  rw [lg_entry_eq]
  generalize (lg_sl ([.ref h0]) ++ List.replicate (1 - (lg_sl ([.ref h0])).length) Slot.unset).toArray = ls at hl ⊢
  have hl : lv_has ls 1 [(0, .ref h0)] := hl
  have hP : va_P D qw_cl [(h0, .inr (1, [.null, .null, .null, .int 0, .int 0]))] s.heap := hP
  have hD : va_D A [(h0, .inr (1, [.null, .null, .null, .int 0, .int 0]))] := hD
  refine lv_aload_n hx hb di_1_0 rfl (lv_at hl 0 rfl) ?_
  refine W.objInit hx hb hown (hw _ (aw_t (n := 95) (by decide +kernel) rfl)) (hw _ (aw_t (n := 20) (by decide +kernel) rfl)) (hw _ (aw_t (n := 21) (by decide +kernel) rfl)) rfl (by rw [hml]; exact hl.1) rfl di_1_1 (Nat.le_of_ble_eq_true rfl) (Nat.le_of_ble_eq_true rfl) ?_
  refine W.eq (g2 := F0 m 4 ls []) rfl ?_
  refine lv_aload_n hx hb di_1_4 rfl (lv_at hl 0 rfl) ?_
  refine lv_bipush hx hb di_1_5 (v := 10) rfl ?_
  have e7 : 0 + 1 ≤ 3 := Nat.le_of_ble_eq_true rfl
  have f7 : 0 + 10 ≤ 140 := Nat.le_of_ble_eq_true rfl
  refine va_newa (atype := .int) (ty := .int) (a0 := (10, .inl (fun _ => 0))) hx hb (hw _ (aw_t (n := 50) (by decide +kernel) rfl)) rfl hK hP hD hS hA (fun _ => rfl) (by decide) (show (10 : Int32).toNatClampNeg = 10 from rfl) (Nat.le_of_ble_eq_true rfl) e7 f7 di_1_7 (fun q7 cN H hKn hP hD hS => ?_)
  obtain rfl := qn_cA (t := 0) hKn rfl (fun _ => rfl)
  have hP : va_P D qw_cl [(h0, .inr (1, [.null, .null, .null, .int 0, .int 0])), (q7, .inl (cA 0, 10, .inl (fun _ => 0)))] H := hP
  have hD : va_D A [(h0, .inr (1, [.null, .null, .null, .int 0, .int 0])), (q7, .inl (cA 0, 10, .inl (fun _ => 0)))] := hD
  refine W.widen (k := 1) (n := 10) (Nat.le_refl _) (Nat.le_of_ble_eq_true rfl) ?_
  refine va_putF (D := D) (own := RX1) (ref := RX1) (C := RX1) (T := TX1) (N := 5) (ci := 1) (v := .ref q7) (ty := .array .int) hx hb hw (sd_u (c := 1) (by decide)).1 tyX1 tyX1_ok nmX1 hown hK hP hD hS 0 rfl rfl 0 (by decide) (hw _ (aw_t (n := 96) (by decide +kernel) rfl)) (fun _ h9 => h9) rfl hin rfl (by decide +kernel) rfl rfl (Nat.le_of_ble_eq_true rfl) di_1_9 (fun H locs hP hD hS => ?_)
  have hP : va_P D qw_cl [(h0, .inr (1, [.ref q7, .null, .null, .int 0, .int 0])), (q7, .inl (cA 0, 10, .inl (fun _ => 0)))] H := hP
  have hD : va_D A [(h0, .inr (1, [.ref q7, .null, .null, .int 0, .int 0])), (q7, .inl (cA 0, 10, .inl (fun _ => 0)))] := hD
  refine lv_aload_n hx hb di_1_12 rfl (lv_at hl 0 rfl) ?_
  refine lv_bipush hx hb di_1_13 (v := 10) rfl ?_
  have e15 : 1 + 1 ≤ 3 := Nat.le_of_ble_eq_true rfl
  have f15 : 10 + 10 ≤ 140 := Nat.le_of_ble_eq_true rfl
  refine va_newa (atype := .int) (ty := .int) (a0 := (10, .inl (fun _ => 0))) hx hb (hw _ (aw_t (n := 50) (by decide +kernel) rfl)) rfl hK hP hD hS hA (fun _ => rfl) (by decide) (show (10 : Int32).toNatClampNeg = 10 from rfl) (Nat.le_of_ble_eq_true rfl) e15 f15 di_1_15 (fun q15 cN H hKn hP hD hS => ?_)
  obtain rfl := qn_cA (t := 0) hKn rfl (fun _ => rfl)
  have hP : va_P D qw_cl [(h0, .inr (1, [.ref q7, .null, .null, .int 0, .int 0])), (q7, .inl (cA 0, 10, .inl (fun _ => 0))), (q15, .inl (cA 0, 10, .inl (fun _ => 0)))] H := hP
  have hD : va_D A [(h0, .inr (1, [.ref q7, .null, .null, .int 0, .int 0])), (q7, .inl (cA 0, 10, .inl (fun _ => 0))), (q15, .inl (cA 0, 10, .inl (fun _ => 0)))] := hD
  refine W.widen (k := 2) (n := 20) (Nat.le_refl _) (Nat.le_of_ble_eq_true rfl) ?_
  refine va_putF (D := D) (own := RX1) (ref := RX1) (C := RX1) (T := TX1) (N := 5) (ci := 1) (v := .ref q15) (ty := .array .int) hx hb hw (sd_u (c := 1) (by decide)).1 tyX1 tyX1_ok nmX1 hown hK hP hD hS 0 rfl rfl 1 (by decide) (hw _ (aw_t (n := 97) (by decide +kernel) rfl)) (fun _ h9 => h9) rfl hin rfl (by decide +kernel) rfl rfl (Nat.le_of_ble_eq_true rfl) di_1_17 (fun H locs hP hD hS => ?_)
  have hP : va_P D qw_cl [(h0, .inr (1, [.ref q7, .ref q15, .null, .int 0, .int 0])), (q7, .inl (cA 0, 10, .inl (fun _ => 0))), (q15, .inl (cA 0, 10, .inl (fun _ => 0)))] H := hP
  have hD : va_D A [(h0, .inr (1, [.ref q7, .ref q15, .null, .int 0, .int 0])), (q7, .inl (cA 0, 10, .inl (fun _ => 0))), (q15, .inl (cA 0, 10, .inl (fun _ => 0)))] := hD
  refine lv_aload_n hx hb di_1_20 rfl (lv_at hl 0 rfl) ?_
  refine lv_bipush hx hb di_1_21 (v := 120) rfl ?_
  have e23 : 2 + 1 ≤ 3 := Nat.le_of_ble_eq_true rfl
  have f23 : 20 + 120 ≤ 140 := Nat.le_of_ble_eq_true rfl
  refine va_newa (atype := .int) (ty := .int) (a0 := (120, .inl (fun _ => 0))) hx hb (hw _ (aw_t (n := 50) (by decide +kernel) rfl)) rfl hK hP hD hS hA (fun _ => rfl) (by decide) (show (120 : Int32).toNatClampNeg = 120 from rfl) (Nat.le_of_ble_eq_true rfl) e23 f23 di_1_23 (fun q23 cN H hKn hP hD hS => ?_)
  obtain rfl := qn_cA (t := 0) hKn rfl (fun _ => rfl)
  have hP : va_P D qw_cl [(h0, .inr (1, [.ref q7, .ref q15, .null, .int 0, .int 0])), (q7, .inl (cA 0, 10, .inl (fun _ => 0))), (q15, .inl (cA 0, 10, .inl (fun _ => 0))), (q23, .inl (cA 0, 120, .inl (fun _ => 0)))] H := hP
  have hD : va_D A [(h0, .inr (1, [.ref q7, .ref q15, .null, .int 0, .int 0])), (q7, .inl (cA 0, 10, .inl (fun _ => 0))), (q15, .inl (cA 0, 10, .inl (fun _ => 0))), (q23, .inl (cA 0, 120, .inl (fun _ => 0)))] := hD
  refine W.widen (k := 3) (n := 140) (Nat.le_refl _) (Nat.le_of_ble_eq_true rfl) ?_
  refine va_putF (D := D) (own := RX1) (ref := RX1) (C := RX1) (T := TX1) (N := 5) (ci := 1) (v := .ref q23) (ty := .array .int) hx hb hw (sd_u (c := 1) (by decide)).1 tyX1 tyX1_ok nmX1 hown hK hP hD hS 0 rfl rfl 2 (by decide) (hw _ (aw_t (n := 98) (by decide +kernel) rfl)) (fun _ h9 => h9) rfl hin rfl (by decide +kernel) rfl rfl (Nat.le_of_ble_eq_true rfl) di_1_25 (fun H locs hP hD hS => ?_)
  have hP : va_P D qw_cl [(h0, .inr (1, [.ref q7, .ref q15, .ref q23, .int 0, .int 0])), (q7, .inl (cA 0, 10, .inl (fun _ => 0))), (q15, .inl (cA 0, 10, .inl (fun _ => 0))), (q23, .inl (cA 0, 120, .inl (fun _ => 0)))] H := hP
  have hD : va_D A [(h0, .inr (1, [.ref q7, .ref q15, .ref q23, .int 0, .int 0])), (q7, .inl (cA 0, 10, .inl (fun _ => 0))), (q15, .inl (cA 0, 10, .inl (fun _ => 0))), (q23, .inl (cA 0, 120, .inl (fun _ => 0)))] := hD
  refine lv_aload_n hx hb di_1_28 rfl (lv_at hl 0 rfl) ?_
  refine lv_iconst hx hb di_1_29 (v := 0) rfl ?_
  refine va_put (D := D) (own := RX1) (ref := RX1) (C := RX1) (T := TX1) (N := 5) (ci := 1) (v := .int 0) (ty := .int) hx hb hw (sd_u (c := 1) (by decide)).1 tyX1 tyX1_ok nmX1 hown hK hP hD hS 0 rfl rfl 3 (by decide) (hw _ (aw_t (n := 99) (by decide +kernel) rfl)) (fun _ h9 => h9) rfl (by decide +kernel) rfl rfl (Nat.le_of_ble_eq_true rfl) di_1_30 (fun H locs hP hD hS => ?_)
  have hP : va_P D qw_cl [(h0, .inr (1, [.ref q7, .ref q15, .ref q23, .int 0, .int 0])), (q7, .inl (cA 0, 10, .inl (fun _ => 0))), (q15, .inl (cA 0, 10, .inl (fun _ => 0))), (q23, .inl (cA 0, 120, .inl (fun _ => 0)))] H := hP
  have hD : va_D A [(h0, .inr (1, [.ref q7, .ref q15, .ref q23, .int 0, .int 0])), (q7, .inl (cA 0, 10, .inl (fun _ => 0))), (q15, .inl (cA 0, 10, .inl (fun _ => 0))), (q23, .inl (cA 0, 120, .inl (fun _ => 0)))] := hD
  refine lv_aload_n hx hb di_1_33 rfl (lv_at hl 0 rfl) ?_
  refine lv_iconst hx hb di_1_34 (v := 0) rfl ?_
  refine va_put (D := D) (own := RX1) (ref := RX1) (C := RX1) (T := TX1) (N := 5) (ci := 1) (v := .int 0) (ty := .int) hx hb hw (sd_u (c := 1) (by decide)).1 tyX1 tyX1_ok nmX1 hown hK hP hD hS 0 rfl rfl 4 (by decide) (hw _ (aw_t (n := 100) (by decide +kernel) rfl)) (fun _ h9 => h9) rfl (by decide +kernel) rfl rfl (Nat.le_of_ble_eq_true rfl) di_1_35 (fun H locs hP hD hS => ?_)
  have hP : va_P D qw_cl [(h0, .inr (1, [.ref q7, .ref q15, .ref q23, .int 0, .int 0])), (q7, .inl (cA 0, 10, .inl (fun _ => 0))), (q15, .inl (cA 0, 10, .inl (fun _ => 0))), (q23, .inl (cA 0, 120, .inl (fun _ => 0)))] H := hP
  have hD : va_D A [(h0, .inr (1, [.ref q7, .ref q15, .ref q23, .int 0, .int 0])), (q7, .inl (cA 0, 10, .inl (fun _ => 0))), (q15, .inl (cA 0, 10, .inl (fun _ => 0))), (q23, .inl (cA 0, 120, .inl (fun _ => 0)))] := hD
  exact W.vret hx hb hr (fun t ht hW => ⟨⟨(qn_f [(21, q7), (22, q15), (23, q23)]), rfl, trivial, by rw [ht]; exact hP, hD⟩, hS.F ht⟩) hS.2.2 di_1_38
theorem di_0_0 : decode cX0_init 0 = .ok (.aload_n 0, 1) := by decide +kernel
theorem di_0_1 : decode cX0_init 1 = .ok (.invokespecial 3, 3) := by decide +kernel
theorem di_0_4 : decode cX0_init 4 = .ok (.aload_n 0, 1) := by decide +kernel
theorem di_0_5 : decode cX0_init 5 = .ok (.iconst 4, 1) := by decide +kernel
theorem di_0_6 : decode cX0_init 6 = .ok (.newarray .int, 2) := by decide +kernel
theorem di_0_8 : decode cX0_init 8 = .ok (.putfield 9, 3) := by decide +kernel
theorem di_0_11 : decode cX0_init 11 = .ok (.aload_n 0, 1) := by decide +kernel
theorem di_0_12 : decode cX0_init 12 = .ok (.iconst 4, 1) := by decide +kernel
theorem di_0_13 : decode cX0_init 13 = .ok (.newarray .int, 2) := by decide +kernel
theorem di_0_15 : decode cX0_init 15 = .ok (.putfield 15, 3) := by decide +kernel
theorem di_0_18 : decode cX0_init 18 = .ok (.aload_n 0, 1) := by decide +kernel
theorem di_0_19 : decode cX0_init 19 = .ok (.iconst 4, 1) := by decide +kernel
theorem di_0_20 : decode cX0_init 20 = .ok (.newarray .boolean, 2) := by decide +kernel
theorem di_0_22 : decode cX0_init 22 = .ok (.putfield 18, 3) := by decide +kernel
theorem di_0_25 : decode cX0_init 25 = .ok (.aload_n 0, 1) := by decide +kernel
theorem di_0_26 : decode cX0_init 26 = .ok (.iconst 0, 1) := by decide +kernel
theorem di_0_27 : decode cX0_init 27 = .ok (.putfield 22, 3) := by decide +kernel
theorem di_0_30 : decode cX0_init 30 = .ok (.aload_n 0, 1) := by decide +kernel
theorem di_0_31 : decode cX0_init 31 = .ok (.bipush 10, 2) := by decide +kernel
theorem di_0_33 : decode cX0_init 33 = .ok (.newarray .int, 2) := by decide +kernel
theorem di_0_35 : decode cX0_init 35 = .ok (.putfield 26, 3) := by decide +kernel
theorem di_0_38 : decode cX0_init 38 = .ok (.aload_n 0, 1) := by decide +kernel
theorem di_0_39 : decode cX0_init 39 = .ok (.bipush 10, 2) := by decide +kernel
theorem di_0_41 : decode cX0_init 41 = .ok (.newarray .int, 2) := by decide +kernel
theorem di_0_43 : decode cX0_init 43 = .ok (.putfield 29, 3) := by decide +kernel
theorem di_0_46 : decode cX0_init 46 = .ok (.aload_n 0, 1) := by decide +kernel
theorem di_0_47 : decode cX0_init 47 = .ok (.iconst 0, 1) := by decide +kernel
theorem di_0_48 : decode cX0_init 48 = .ok (.putfield 32, 3) := by decide +kernel
theorem di_0_51 : decode cX0_init 51 = .ok (.aload_n 0, 1) := by decide +kernel
theorem di_0_52 : decode cX0_init 52 = .ok (.iconst 0, 1) := by decide +kernel
theorem di_0_53 : decode cX0_init 53 = .ok (.putfield 35, 3) := by decide +kernel
theorem di_0_56 : decode cX0_init 56 = .ok (.return_, 1) := by decide +kernel
def qn_w0 : List Cond := Cond.code ⟨RX0, "<init>", "()V"⟩ cX0_init 1 none :: AW
theorem qn_g0 : ∀ w ∈ qn_w0, w ∈ AW := fun w h => (List.mem_cons.mp h).elim (fun e => by rw [e]; exact aw_t (n := 116) (by decide +kernel) rfl) id
def qn_e0 : va_E := .inr (0, [.null, .null, .null, .int 0, .null, .null, .int 0, .int 0])
def qn_B0 (D : va_G) (cA : Nat → ClassId) (h0 sz : Nat) (u : Nat → Nat) (t : State) : Prop := va_P D qw_cl [(h0, .inr (0, [.ref (u 24), .ref (u 25), .ref (u 26), .int 0, .ref (u 27), .ref (u 28), .int 0, .int 0])), ((u 24), .inl (cA 0, 4, .inl (fun _ => 0))), ((u 25), .inl (cA 0, 4, .inl (fun _ => 0))), ((u 26), .inl (cA 1, 4, .inl (fun _ => 0))), ((u 27), .inl (cA 0, 10, .inl (fun _ => 0))), ((u 28), .inl (cA 0, 10, .inl (fun _ => 0)))] t.heap ∧ va_D (va_A [(h0, qn_e0)] sz) [(h0, .inr (0, [.ref (u 24), .ref (u 25), .ref (u 26), .int 0, .ref (u 27), .ref (u 28), .int 0, .int 0])), ((u 24), .inl (cA 0, 4, .inl (fun _ => 0))), ((u 25), .inl (cA 0, 4, .inl (fun _ => 0))), ((u 26), .inl (cA 1, 4, .inl (fun _ => 0))), ((u 27), .inl (cA 0, 10, .inl (fun _ => 0))), ((u 28), .inl (cA 0, 10, .inl (fun _ => 0)))]
set_option maxHeartbeats 4000000 in
set_option maxRecDepth 100000 in
theorem qn_m0 (l : Launch) (D : va_G) (cA : Nat → ClassId) (h0 sz : Nat) : Met l ⟨RX0, "<init>", "()V"⟩ qn_w0 ({ frames := 1, cells := 5, slots := 32, locals := 12 }) (qn_Pc D cA h0 sz qn_e0) (va_Qv (fun _ : Nat → Nat => True) (qn_B0 D cA h0 sz) (va_A [(h0, qn_e0)] sz)) 5 32 (va_A [(h0, qn_e0)] sz) := by
  refine Met.ofW (cc := cX0_init) (maxL := 1) (ret := none) (by decide) rfl ?_
  intro p e s m args below meth c s₁ B hml hv
  obtain ⟨rfl, hsz, hP, hK, hD0, hN⟩ := hv
  have hx := B.exec
  have hb := B.bytes
  have hr := B.returns
  have hts := atoms_spec (ws := qn_w0) B.pre
  have hw : ∀ w ∈ AW, w.before #[Value.ref h0] s = true := fun w h => hts w (List.mem_cons_of_mem _ h)
  have hown : s.vm.findClass RX0 = some m.cls := findClass_of_methodNamed B.named
  have hlocks := B.notSynchronized
  have hin : meth.name = "<init>" := (name_of_methodNamed B.named B.method).1
  subst hsz
  have hD := hD0.self (sz := s.heap.size)
  unfold qn_B0
  generalize hAe : va_A [(h0, qn_e0)] s.heap.size = A at hD ⊢
  have hA : ∀ q : Nat, s.heap.size ≤ q → A q := fun q h => by rw [← hAe]; exact Or.inr h
  have hS : va_S A s.heap s.heap [] := va_S.rf
  have hl := lv_entry ([.ref h0]) (n := 1) (Nat.le_of_ble_eq_true rfl)
  rw [lg_entry_eq]
  generalize (lg_sl ([.ref h0]) ++ List.replicate (1 - (lg_sl ([.ref h0])).length) Slot.unset).toArray = ls at hl ⊢
  have hl : lv_has ls 1 [(0, .ref h0)] := hl
  have hP : va_P D qw_cl [(h0, .inr (0, [.null, .null, .null, .int 0, .null, .null, .int 0, .int 0]))] s.heap := hP
  have hD : va_D A [(h0, .inr (0, [.null, .null, .null, .int 0, .null, .null, .int 0, .int 0]))] := hD
  refine lv_aload_n hx hb di_0_0 rfl (lv_at hl 0 rfl) ?_
  refine W.objInit hx hb hown (hw _ (aw_t (n := 117) (by decide +kernel) rfl)) (hw _ (aw_t (n := 20) (by decide +kernel) rfl)) (hw _ (aw_t (n := 21) (by decide +kernel) rfl)) rfl (by rw [hml]; exact hl.1) rfl di_0_1 (Nat.le_of_ble_eq_true rfl) (Nat.le_of_ble_eq_true rfl) ?_
  refine W.eq (g2 := F0 m 4 ls []) rfl ?_
  refine lv_aload_n hx hb di_0_4 rfl (lv_at hl 0 rfl) ?_
  refine lv_iconst hx hb di_0_5 (v := 4) rfl ?_
  have e6 : 0 + 1 ≤ 5 := Nat.le_of_ble_eq_true rfl
  have f6 : 0 + 4 ≤ 32 := Nat.le_of_ble_eq_true rfl
  refine va_newa (atype := .int) (ty := .int) (a0 := (4, .inl (fun _ => 0))) hx hb (hw _ (aw_t (n := 50) (by decide +kernel) rfl)) rfl hK hP hD hS hA (fun _ => rfl) (by decide) (show (4 : Int32).toNatClampNeg = 4 from rfl) (Nat.le_of_ble_eq_true rfl) e6 f6 di_0_6 (fun q6 cN H hKn hP hD hS => ?_)
  obtain rfl := qn_cA (t := 0) hKn rfl (fun _ => rfl)
  have hP : va_P D qw_cl [(h0, .inr (0, [.null, .null, .null, .int 0, .null, .null, .int 0, .int 0])), (q6, .inl (cA 0, 4, .inl (fun _ => 0)))] H := hP
  have hD : va_D A [(h0, .inr (0, [.null, .null, .null, .int 0, .null, .null, .int 0, .int 0])), (q6, .inl (cA 0, 4, .inl (fun _ => 0)))] := hD
  refine W.widen (k := 1) (n := 4) (Nat.le_refl _) (Nat.le_of_ble_eq_true rfl) ?_
  refine va_putF (D := D) (own := RX0) (ref := RX0) (C := RX0) (T := TX0) (N := 8) (ci := 0) (v := .ref q6) (ty := .array .int) hx hb hw (sd_u (c := 0) (by decide)).1 tyX0 tyX0_ok nmX0 hown hK hP hD hS 0 rfl rfl 0 (by decide) (hw _ (aw_t (n := 118) (by decide +kernel) rfl)) (fun _ h9 => h9) rfl hin rfl (by decide +kernel) rfl rfl (Nat.le_of_ble_eq_true rfl) di_0_8 (fun H locs hP hD hS => ?_)
  have hP : va_P D qw_cl [(h0, .inr (0, [.ref q6, .null, .null, .int 0, .null, .null, .int 0, .int 0])), (q6, .inl (cA 0, 4, .inl (fun _ => 0)))] H := hP
  have hD : va_D A [(h0, .inr (0, [.ref q6, .null, .null, .int 0, .null, .null, .int 0, .int 0])), (q6, .inl (cA 0, 4, .inl (fun _ => 0)))] := hD
  refine lv_aload_n hx hb di_0_11 rfl (lv_at hl 0 rfl) ?_
  refine lv_iconst hx hb di_0_12 (v := 4) rfl ?_
  have e13 : 1 + 1 ≤ 5 := Nat.le_of_ble_eq_true rfl
  have f13 : 4 + 4 ≤ 32 := Nat.le_of_ble_eq_true rfl
  refine va_newa (atype := .int) (ty := .int) (a0 := (4, .inl (fun _ => 0))) hx hb (hw _ (aw_t (n := 50) (by decide +kernel) rfl)) rfl hK hP hD hS hA (fun _ => rfl) (by decide) (show (4 : Int32).toNatClampNeg = 4 from rfl) (Nat.le_of_ble_eq_true rfl) e13 f13 di_0_13 (fun q13 cN H hKn hP hD hS => ?_)
  obtain rfl := qn_cA (t := 0) hKn rfl (fun _ => rfl)
  have hP : va_P D qw_cl [(h0, .inr (0, [.ref q6, .null, .null, .int 0, .null, .null, .int 0, .int 0])), (q6, .inl (cA 0, 4, .inl (fun _ => 0))), (q13, .inl (cA 0, 4, .inl (fun _ => 0)))] H := hP
  have hD : va_D A [(h0, .inr (0, [.ref q6, .null, .null, .int 0, .null, .null, .int 0, .int 0])), (q6, .inl (cA 0, 4, .inl (fun _ => 0))), (q13, .inl (cA 0, 4, .inl (fun _ => 0)))] := hD
  refine W.widen (k := 2) (n := 8) (Nat.le_refl _) (Nat.le_of_ble_eq_true rfl) ?_
  refine va_putF (D := D) (own := RX0) (ref := RX0) (C := RX0) (T := TX0) (N := 8) (ci := 0) (v := .ref q13) (ty := .array .int) hx hb hw (sd_u (c := 0) (by decide)).1 tyX0 tyX0_ok nmX0 hown hK hP hD hS 0 rfl rfl 1 (by decide) (hw _ (aw_t (n := 119) (by decide +kernel) rfl)) (fun _ h9 => h9) rfl hin rfl (by decide +kernel) rfl rfl (Nat.le_of_ble_eq_true rfl) di_0_15 (fun H locs hP hD hS => ?_)
  have hP : va_P D qw_cl [(h0, .inr (0, [.ref q6, .ref q13, .null, .int 0, .null, .null, .int 0, .int 0])), (q6, .inl (cA 0, 4, .inl (fun _ => 0))), (q13, .inl (cA 0, 4, .inl (fun _ => 0)))] H := hP
  have hD : va_D A [(h0, .inr (0, [.ref q6, .ref q13, .null, .int 0, .null, .null, .int 0, .int 0])), (q6, .inl (cA 0, 4, .inl (fun _ => 0))), (q13, .inl (cA 0, 4, .inl (fun _ => 0)))] := hD
  refine lv_aload_n hx hb di_0_18 rfl (lv_at hl 0 rfl) ?_
  refine lv_iconst hx hb di_0_19 (v := 4) rfl ?_
  have e20 : 2 + 1 ≤ 5 := Nat.le_of_ble_eq_true rfl
  have f20 : 8 + 4 ≤ 32 := Nat.le_of_ble_eq_true rfl
  refine va_newa (atype := .boolean) (ty := .boolean) (a0 := (4, .inl (fun _ => 0))) hx hb (hw _ (aw_t (n := 51) (by decide +kernel) rfl)) rfl hK hP hD hS hA (fun _ => rfl) (by decide) (show (4 : Int32).toNatClampNeg = 4 from rfl) (Nat.le_of_ble_eq_true rfl) e20 f20 di_0_20 (fun q20 cN H hKn hP hD hS => ?_)
  obtain rfl := qn_cA (t := 1) hKn rfl (fun _ => rfl)
  have hP : va_P D qw_cl [(h0, .inr (0, [.ref q6, .ref q13, .null, .int 0, .null, .null, .int 0, .int 0])), (q6, .inl (cA 0, 4, .inl (fun _ => 0))), (q13, .inl (cA 0, 4, .inl (fun _ => 0))), (q20, .inl (cA 1, 4, .inl (fun _ => 0)))] H := hP
  have hD : va_D A [(h0, .inr (0, [.ref q6, .ref q13, .null, .int 0, .null, .null, .int 0, .int 0])), (q6, .inl (cA 0, 4, .inl (fun _ => 0))), (q13, .inl (cA 0, 4, .inl (fun _ => 0))), (q20, .inl (cA 1, 4, .inl (fun _ => 0)))] := hD
  refine W.widen (k := 3) (n := 12) (Nat.le_refl _) (Nat.le_of_ble_eq_true rfl) ?_
  refine va_putF (D := D) (own := RX0) (ref := RX0) (C := RX0) (T := TX0) (N := 8) (ci := 0) (v := .ref q20) (ty := .array .boolean) hx hb hw (sd_u (c := 0) (by decide)).1 tyX0 tyX0_ok nmX0 hown hK hP hD hS 0 rfl rfl 2 (by decide) (hw _ (aw_t (n := 120) (by decide +kernel) rfl)) (fun _ h9 => h9) rfl hin rfl (by decide +kernel) rfl rfl (Nat.le_of_ble_eq_true rfl) di_0_22 (fun H locs hP hD hS => ?_)
  have hP : va_P D qw_cl [(h0, .inr (0, [.ref q6, .ref q13, .ref q20, .int 0, .null, .null, .int 0, .int 0])), (q6, .inl (cA 0, 4, .inl (fun _ => 0))), (q13, .inl (cA 0, 4, .inl (fun _ => 0))), (q20, .inl (cA 1, 4, .inl (fun _ => 0)))] H := hP
  have hD : va_D A [(h0, .inr (0, [.ref q6, .ref q13, .ref q20, .int 0, .null, .null, .int 0, .int 0])), (q6, .inl (cA 0, 4, .inl (fun _ => 0))), (q13, .inl (cA 0, 4, .inl (fun _ => 0))), (q20, .inl (cA 1, 4, .inl (fun _ => 0)))] := hD
  refine lv_aload_n hx hb di_0_25 rfl (lv_at hl 0 rfl) ?_
  refine lv_iconst hx hb di_0_26 (v := 0) rfl ?_
  refine va_put (D := D) (own := RX0) (ref := RX0) (C := RX0) (T := TX0) (N := 8) (ci := 0) (v := .int 0) (ty := .int) hx hb hw (sd_u (c := 0) (by decide)).1 tyX0 tyX0_ok nmX0 hown hK hP hD hS 0 rfl rfl 3 (by decide) (hw _ (aw_t (n := 121) (by decide +kernel) rfl)) (fun _ h9 => h9) rfl (by decide +kernel) rfl rfl (Nat.le_of_ble_eq_true rfl) di_0_27 (fun H locs hP hD hS => ?_)
  have hP : va_P D qw_cl [(h0, .inr (0, [.ref q6, .ref q13, .ref q20, .int 0, .null, .null, .int 0, .int 0])), (q6, .inl (cA 0, 4, .inl (fun _ => 0))), (q13, .inl (cA 0, 4, .inl (fun _ => 0))), (q20, .inl (cA 1, 4, .inl (fun _ => 0)))] H := hP
  have hD : va_D A [(h0, .inr (0, [.ref q6, .ref q13, .ref q20, .int 0, .null, .null, .int 0, .int 0])), (q6, .inl (cA 0, 4, .inl (fun _ => 0))), (q13, .inl (cA 0, 4, .inl (fun _ => 0))), (q20, .inl (cA 1, 4, .inl (fun _ => 0)))] := hD
  refine lv_aload_n hx hb di_0_30 rfl (lv_at hl 0 rfl) ?_
  refine lv_bipush hx hb di_0_31 (v := 10) rfl ?_
  have e33 : 3 + 1 ≤ 5 := Nat.le_of_ble_eq_true rfl
  have f33 : 12 + 10 ≤ 32 := Nat.le_of_ble_eq_true rfl
  refine va_newa (atype := .int) (ty := .int) (a0 := (10, .inl (fun _ => 0))) hx hb (hw _ (aw_t (n := 50) (by decide +kernel) rfl)) rfl hK hP hD hS hA (fun _ => rfl) (by decide) (show (10 : Int32).toNatClampNeg = 10 from rfl) (Nat.le_of_ble_eq_true rfl) e33 f33 di_0_33 (fun q33 cN H hKn hP hD hS => ?_)
  obtain rfl := qn_cA (t := 0) hKn rfl (fun _ => rfl)
  have hP : va_P D qw_cl [(h0, .inr (0, [.ref q6, .ref q13, .ref q20, .int 0, .null, .null, .int 0, .int 0])), (q6, .inl (cA 0, 4, .inl (fun _ => 0))), (q13, .inl (cA 0, 4, .inl (fun _ => 0))), (q20, .inl (cA 1, 4, .inl (fun _ => 0))), (q33, .inl (cA 0, 10, .inl (fun _ => 0)))] H := hP
  have hD : va_D A [(h0, .inr (0, [.ref q6, .ref q13, .ref q20, .int 0, .null, .null, .int 0, .int 0])), (q6, .inl (cA 0, 4, .inl (fun _ => 0))), (q13, .inl (cA 0, 4, .inl (fun _ => 0))), (q20, .inl (cA 1, 4, .inl (fun _ => 0))), (q33, .inl (cA 0, 10, .inl (fun _ => 0)))] := hD
  refine W.widen (k := 4) (n := 22) (Nat.le_refl _) (Nat.le_of_ble_eq_true rfl) ?_
  refine va_putF (D := D) (own := RX0) (ref := RX0) (C := RX0) (T := TX0) (N := 8) (ci := 0) (v := .ref q33) (ty := .array .int) hx hb hw (sd_u (c := 0) (by decide)).1 tyX0 tyX0_ok nmX0 hown hK hP hD hS 0 rfl rfl 4 (by decide) (hw _ (aw_t (n := 122) (by decide +kernel) rfl)) (fun _ h9 => h9) rfl hin rfl (by decide +kernel) rfl rfl (Nat.le_of_ble_eq_true rfl) di_0_35 (fun H locs hP hD hS => ?_)
  have hP : va_P D qw_cl [(h0, .inr (0, [.ref q6, .ref q13, .ref q20, .int 0, .ref q33, .null, .int 0, .int 0])), (q6, .inl (cA 0, 4, .inl (fun _ => 0))), (q13, .inl (cA 0, 4, .inl (fun _ => 0))), (q20, .inl (cA 1, 4, .inl (fun _ => 0))), (q33, .inl (cA 0, 10, .inl (fun _ => 0)))] H := hP
  have hD : va_D A [(h0, .inr (0, [.ref q6, .ref q13, .ref q20, .int 0, .ref q33, .null, .int 0, .int 0])), (q6, .inl (cA 0, 4, .inl (fun _ => 0))), (q13, .inl (cA 0, 4, .inl (fun _ => 0))), (q20, .inl (cA 1, 4, .inl (fun _ => 0))), (q33, .inl (cA 0, 10, .inl (fun _ => 0)))] := hD
  refine lv_aload_n hx hb di_0_38 rfl (lv_at hl 0 rfl) ?_
  refine lv_bipush hx hb di_0_39 (v := 10) rfl ?_
  have e41 : 4 + 1 ≤ 5 := Nat.le_of_ble_eq_true rfl
  have f41 : 22 + 10 ≤ 32 := Nat.le_of_ble_eq_true rfl
  refine va_newa (atype := .int) (ty := .int) (a0 := (10, .inl (fun _ => 0))) hx hb (hw _ (aw_t (n := 50) (by decide +kernel) rfl)) rfl hK hP hD hS hA (fun _ => rfl) (by decide) (show (10 : Int32).toNatClampNeg = 10 from rfl) (Nat.le_of_ble_eq_true rfl) e41 f41 di_0_41 (fun q41 cN H hKn hP hD hS => ?_)
  obtain rfl := qn_cA (t := 0) hKn rfl (fun _ => rfl)
  have hP : va_P D qw_cl [(h0, .inr (0, [.ref q6, .ref q13, .ref q20, .int 0, .ref q33, .null, .int 0, .int 0])), (q6, .inl (cA 0, 4, .inl (fun _ => 0))), (q13, .inl (cA 0, 4, .inl (fun _ => 0))), (q20, .inl (cA 1, 4, .inl (fun _ => 0))), (q33, .inl (cA 0, 10, .inl (fun _ => 0))), (q41, .inl (cA 0, 10, .inl (fun _ => 0)))] H := hP
  have hD : va_D A [(h0, .inr (0, [.ref q6, .ref q13, .ref q20, .int 0, .ref q33, .null, .int 0, .int 0])), (q6, .inl (cA 0, 4, .inl (fun _ => 0))), (q13, .inl (cA 0, 4, .inl (fun _ => 0))), (q20, .inl (cA 1, 4, .inl (fun _ => 0))), (q33, .inl (cA 0, 10, .inl (fun _ => 0))), (q41, .inl (cA 0, 10, .inl (fun _ => 0)))] := hD
  refine W.widen (k := 5) (n := 32) (Nat.le_refl _) (Nat.le_of_ble_eq_true rfl) ?_
  refine va_putF (D := D) (own := RX0) (ref := RX0) (C := RX0) (T := TX0) (N := 8) (ci := 0) (v := .ref q41) (ty := .array .int) hx hb hw (sd_u (c := 0) (by decide)).1 tyX0 tyX0_ok nmX0 hown hK hP hD hS 0 rfl rfl 5 (by decide) (hw _ (aw_t (n := 123) (by decide +kernel) rfl)) (fun _ h9 => h9) rfl hin rfl (by decide +kernel) rfl rfl (Nat.le_of_ble_eq_true rfl) di_0_43 (fun H locs hP hD hS => ?_)
  have hP : va_P D qw_cl [(h0, .inr (0, [.ref q6, .ref q13, .ref q20, .int 0, .ref q33, .ref q41, .int 0, .int 0])), (q6, .inl (cA 0, 4, .inl (fun _ => 0))), (q13, .inl (cA 0, 4, .inl (fun _ => 0))), (q20, .inl (cA 1, 4, .inl (fun _ => 0))), (q33, .inl (cA 0, 10, .inl (fun _ => 0))), (q41, .inl (cA 0, 10, .inl (fun _ => 0)))] H := hP
  have hD : va_D A [(h0, .inr (0, [.ref q6, .ref q13, .ref q20, .int 0, .ref q33, .ref q41, .int 0, .int 0])), (q6, .inl (cA 0, 4, .inl (fun _ => 0))), (q13, .inl (cA 0, 4, .inl (fun _ => 0))), (q20, .inl (cA 1, 4, .inl (fun _ => 0))), (q33, .inl (cA 0, 10, .inl (fun _ => 0))), (q41, .inl (cA 0, 10, .inl (fun _ => 0)))] := hD
  refine lv_aload_n hx hb di_0_46 rfl (lv_at hl 0 rfl) ?_
  refine lv_iconst hx hb di_0_47 (v := 0) rfl ?_
  refine va_put (D := D) (own := RX0) (ref := RX0) (C := RX0) (T := TX0) (N := 8) (ci := 0) (v := .int 0) (ty := .int) hx hb hw (sd_u (c := 0) (by decide)).1 tyX0 tyX0_ok nmX0 hown hK hP hD hS 0 rfl rfl 6 (by decide) (hw _ (aw_t (n := 124) (by decide +kernel) rfl)) (fun _ h9 => h9) rfl (by decide +kernel) rfl rfl (Nat.le_of_ble_eq_true rfl) di_0_48 (fun H locs hP hD hS => ?_)
  have hP : va_P D qw_cl [(h0, .inr (0, [.ref q6, .ref q13, .ref q20, .int 0, .ref q33, .ref q41, .int 0, .int 0])), (q6, .inl (cA 0, 4, .inl (fun _ => 0))), (q13, .inl (cA 0, 4, .inl (fun _ => 0))), (q20, .inl (cA 1, 4, .inl (fun _ => 0))), (q33, .inl (cA 0, 10, .inl (fun _ => 0))), (q41, .inl (cA 0, 10, .inl (fun _ => 0)))] H := hP
  have hD : va_D A [(h0, .inr (0, [.ref q6, .ref q13, .ref q20, .int 0, .ref q33, .ref q41, .int 0, .int 0])), (q6, .inl (cA 0, 4, .inl (fun _ => 0))), (q13, .inl (cA 0, 4, .inl (fun _ => 0))), (q20, .inl (cA 1, 4, .inl (fun _ => 0))), (q33, .inl (cA 0, 10, .inl (fun _ => 0))), (q41, .inl (cA 0, 10, .inl (fun _ => 0)))] := hD
  refine lv_aload_n hx hb di_0_51 rfl (lv_at hl 0 rfl) ?_
  refine lv_iconst hx hb di_0_52 (v := 0) rfl ?_
  refine va_put (D := D) (own := RX0) (ref := RX0) (C := RX0) (T := TX0) (N := 8) (ci := 0) (v := .int 0) (ty := .int) hx hb hw (sd_u (c := 0) (by decide)).1 tyX0 tyX0_ok nmX0 hown hK hP hD hS 0 rfl rfl 7 (by decide) (hw _ (aw_t (n := 125) (by decide +kernel) rfl)) (fun _ h9 => h9) rfl (by decide +kernel) rfl rfl (Nat.le_of_ble_eq_true rfl) di_0_53 (fun H locs hP hD hS => ?_)
  have hP : va_P D qw_cl [(h0, .inr (0, [.ref q6, .ref q13, .ref q20, .int 0, .ref q33, .ref q41, .int 0, .int 0])), (q6, .inl (cA 0, 4, .inl (fun _ => 0))), (q13, .inl (cA 0, 4, .inl (fun _ => 0))), (q20, .inl (cA 1, 4, .inl (fun _ => 0))), (q33, .inl (cA 0, 10, .inl (fun _ => 0))), (q41, .inl (cA 0, 10, .inl (fun _ => 0)))] H := hP
  have hD : va_D A [(h0, .inr (0, [.ref q6, .ref q13, .ref q20, .int 0, .ref q33, .ref q41, .int 0, .int 0])), (q6, .inl (cA 0, 4, .inl (fun _ => 0))), (q13, .inl (cA 0, 4, .inl (fun _ => 0))), (q20, .inl (cA 1, 4, .inl (fun _ => 0))), (q33, .inl (cA 0, 10, .inl (fun _ => 0))), (q41, .inl (cA 0, 10, .inl (fun _ => 0)))] := hD
  exact W.vret hx hb hr (fun t ht hW => ⟨⟨(qn_f [(24, q6), (25, q13), (26, q20), (27, q33), (28, q41)]), rfl, trivial, by rw [ht]; exact hP, hD⟩, hS.F ht⟩) hS.2.2 di_0_56
theorem di_3_0 : decode cX3_init 0 = .ok (.aload_n 0, 1) := by decide +kernel
theorem di_3_1 : decode cX3_init 1 = .ok (.invokespecial 3, 3) := by decide +kernel
theorem di_3_4 : decode cX3_init 4 = .ok (.aload_n 0, 1) := by decide +kernel
theorem di_3_5 : decode cX3_init 5 = .ok (.bipush 8, 2) := by decide +kernel
theorem di_3_7 : decode cX3_init 7 = .ok (.newarray .int, 2) := by decide +kernel
theorem di_3_9 : decode cX3_init 9 = .ok (.putfield 9, 3) := by decide +kernel
theorem di_3_12 : decode cX3_init 12 = .ok (.aload_n 0, 1) := by decide +kernel
theorem di_3_13 : decode cX3_init 13 = .ok (.bipush 8, 2) := by decide +kernel
theorem di_3_15 : decode cX3_init 15 = .ok (.newarray .int, 2) := by decide +kernel
theorem di_3_17 : decode cX3_init 17 = .ok (.putfield 15, 3) := by decide +kernel
theorem di_3_20 : decode cX3_init 20 = .ok (.aload_n 0, 1) := by decide +kernel
theorem di_3_21 : decode cX3_init 21 = .ok (.bipush 8, 2) := by decide +kernel
theorem di_3_23 : decode cX3_init 23 = .ok (.newarray .int, 2) := by decide +kernel
theorem di_3_25 : decode cX3_init 25 = .ok (.putfield 18, 3) := by decide +kernel
theorem di_3_28 : decode cX3_init 28 = .ok (.aload_n 0, 1) := by decide +kernel
theorem di_3_29 : decode cX3_init 29 = .ok (.iconst 0, 1) := by decide +kernel
theorem di_3_30 : decode cX3_init 30 = .ok (.putfield 21, 3) := by decide +kernel
theorem di_3_33 : decode cX3_init 33 = .ok (.aload_n 0, 1) := by decide +kernel
theorem di_3_34 : decode cX3_init 34 = .ok (.new 25, 3) := by decide +kernel
theorem di_3_37 : decode cX3_init 37 = .ok (.dup, 1) := by decide +kernel
theorem di_3_38 : decode cX3_init 38 = .ok (.invokespecial 27, 3) := by decide +kernel
theorem di_3_41 : decode cX3_init 41 = .ok (.putfield 28, 3) := by decide +kernel
theorem di_3_44 : decode cX3_init 44 = .ok (.aload_n 0, 1) := by decide +kernel
theorem di_3_45 : decode cX3_init 45 = .ok (.sipush 2880, 3) := by decide +kernel
theorem di_3_48 : decode cX3_init 48 = .ok (.newarray .int, 2) := by decide +kernel
theorem di_3_50 : decode cX3_init 50 = .ok (.putfield 32, 3) := by decide +kernel
theorem di_3_53 : decode cX3_init 53 = .ok (.aload_n 0, 1) := by decide +kernel
theorem di_3_54 : decode cX3_init 54 = .ok (.sipush 2880, 3) := by decide +kernel
theorem di_3_57 : decode cX3_init 57 = .ok (.newarray .int, 2) := by decide +kernel
theorem di_3_59 : decode cX3_init 59 = .ok (.putfield 35, 3) := by decide +kernel
theorem di_3_62 : decode cX3_init 62 = .ok (.return_, 1) := by decide +kernel
def qn_w3 : List Cond := Cond.code ⟨RX3, "<init>", "()V"⟩ cX3_init 1 none :: AW
theorem qn_g3 : ∀ w ∈ qn_w3, w ∈ AW := fun w h => (List.mem_cons.mp h).elim (fun e => by rw [e]; exact aw_t (n := 26) (by decide +kernel) rfl) id
def qn_e3 : va_E := .inr (3, [.null, .null, .null, .int 0, .null, .null, .null])
def qn_B3 (D : va_G) (cA : Nat → ClassId) (h0 sz : Nat) (u : Nat → Nat) (t : State) : Prop := va_P D qw_cl [(h0, .inr (3, [.ref (u 9), .ref (u 10), .ref (u 11), .int 0, .ref (u 2), .ref (u 12), .ref (u 13)])), ((u 9), .inl (cA 0, 8, .inl (fun _ => 0))), ((u 10), .inl (cA 0, 8, .inl (fun _ => 0))), ((u 11), .inl (cA 0, 8, .inl (fun _ => 0))), ((u 2), .inr (2, [.ref (u 14), .ref (u 15), .ref (u 16), .ref (u 17), .int 0])), ((u 14), .inl (cA 0, 80, .inl (fun _ => 0))), ((u 15), .inl (cA 0, 80, .inl (fun _ => 0))), ((u 16), .inl (cA 0, 80, .inl (fun _ => 0))), ((u 17), .inl (cA 1, 80, .inl (fun _ => 0))), ((u 12), .inl (cA 0, 2880, .inl (fun _ => 0))), ((u 13), .inl (cA 0, 2880, .inl (fun _ => 0)))] t.heap ∧ va_D (va_A [(h0, qn_e3)] sz) [(h0, .inr (3, [.ref (u 9), .ref (u 10), .ref (u 11), .int 0, .ref (u 2), .ref (u 12), .ref (u 13)])), ((u 9), .inl (cA 0, 8, .inl (fun _ => 0))), ((u 10), .inl (cA 0, 8, .inl (fun _ => 0))), ((u 11), .inl (cA 0, 8, .inl (fun _ => 0))), ((u 2), .inr (2, [.ref (u 14), .ref (u 15), .ref (u 16), .ref (u 17), .int 0])), ((u 14), .inl (cA 0, 80, .inl (fun _ => 0))), ((u 15), .inl (cA 0, 80, .inl (fun _ => 0))), ((u 16), .inl (cA 0, 80, .inl (fun _ => 0))), ((u 17), .inl (cA 1, 80, .inl (fun _ => 0))), ((u 12), .inl (cA 0, 2880, .inl (fun _ => 0))), ((u 13), .inl (cA 0, 2880, .inl (fun _ => 0)))]
set_option maxHeartbeats 4000000 in
set_option maxRecDepth 100000 in
theorem qn_m3 (l : Launch) (D : va_G) (cA : Nat → ClassId) (h0 sz : Nat) : Met l ⟨RX3, "<init>", "()V"⟩ qn_w3 ({ frames := 2, cells := 10, slots := 6109, locals := 32 }) (qn_Pc D cA h0 sz qn_e3) (va_Qv (fun _ : Nat → Nat => True) (qn_B3 D cA h0 sz) (va_A [(h0, qn_e3)] sz)) 10 6109 (va_A [(h0, qn_e3)] sz) := by
  refine Met.ofW (cc := cX3_init) (maxL := 1) (ret := none) (by decide) rfl ?_
  intro p e s m args below meth c s₁ B hml hv
  obtain ⟨rfl, hsz, hP, hK, hD0, hN⟩ := hv
  have hx := B.exec
  have hb := B.bytes
  have hr := B.returns
  have hts := atoms_spec (ws := qn_w3) B.pre
  have hw : ∀ w ∈ AW, w.before #[Value.ref h0] s = true := fun w h => hts w (List.mem_cons_of_mem _ h)
  have hown : s.vm.findClass RX3 = some m.cls := findClass_of_methodNamed B.named
  have hlocks := B.notSynchronized
  have hin : meth.name = "<init>" := (name_of_methodNamed B.named B.method).1
  subst hsz
  have hD := hD0.self (sz := s.heap.size)
  unfold qn_B3
  generalize hAe : va_A [(h0, qn_e3)] s.heap.size = A at hD ⊢
  have hA : ∀ q : Nat, s.heap.size ≤ q → A q := fun q h => by rw [← hAe]; exact Or.inr h
  have hS : va_S A s.heap s.heap [] := va_S.rf
  have hl := lv_entry ([.ref h0]) (n := 1) (Nat.le_of_ble_eq_true rfl)
  rw [lg_entry_eq]
  generalize (lg_sl ([.ref h0]) ++ List.replicate (1 - (lg_sl ([.ref h0])).length) Slot.unset).toArray = ls at hl ⊢
  have hl : lv_has ls 1 [(0, .ref h0)] := hl
  have hP : va_P D qw_cl [(h0, .inr (3, [.null, .null, .null, .int 0, .null, .null, .null]))] s.heap := hP
  have hD : va_D A [(h0, .inr (3, [.null, .null, .null, .int 0, .null, .null, .null]))] := hD
  refine lv_aload_n hx hb di_3_0 rfl (lv_at hl 0 rfl) ?_
  refine W.objInit hx hb hown (hw _ (aw_t (n := 27) (by decide +kernel) rfl)) (hw _ (aw_t (n := 20) (by decide +kernel) rfl)) (hw _ (aw_t (n := 21) (by decide +kernel) rfl)) rfl (by rw [hml]; exact hl.1) rfl di_3_1 (Nat.le_of_ble_eq_true rfl) (Nat.le_of_ble_eq_true rfl) ?_
  refine W.eq (g2 := F0 m 4 ls []) rfl ?_
  refine lv_aload_n hx hb di_3_4 rfl (lv_at hl 0 rfl) ?_
  refine lv_bipush hx hb di_3_5 (v := 8) rfl ?_
  have e7 : 0 + 1 ≤ 10 := Nat.le_of_ble_eq_true rfl
  have f7 : 0 + 8 ≤ 6109 := Nat.le_of_ble_eq_true rfl
  refine va_newa (atype := .int) (ty := .int) (a0 := (8, .inl (fun _ => 0))) hx hb (hw _ (aw_t (n := 50) (by decide +kernel) rfl)) rfl hK hP hD hS hA (fun _ => rfl) (by decide) (show (8 : Int32).toNatClampNeg = 8 from rfl) (Nat.le_of_ble_eq_true rfl) e7 f7 di_3_7 (fun q7 cN H hKn hP hD hS => ?_)
  obtain rfl := qn_cA (t := 0) hKn rfl (fun _ => rfl)
  have hP : va_P D qw_cl [(h0, .inr (3, [.null, .null, .null, .int 0, .null, .null, .null])), (q7, .inl (cA 0, 8, .inl (fun _ => 0)))] H := hP
  have hD : va_D A [(h0, .inr (3, [.null, .null, .null, .int 0, .null, .null, .null])), (q7, .inl (cA 0, 8, .inl (fun _ => 0)))] := hD
  refine W.widen (k := 1) (n := 8) (Nat.le_refl _) (Nat.le_of_ble_eq_true rfl) ?_
  refine va_putF (D := D) (own := RX3) (ref := RX3) (C := RX3) (T := TX3) (N := 7) (ci := 3) (v := .ref q7) (ty := .array .int) hx hb hw (sd_u (c := 3) (by decide)).1 tyX3 tyX3_ok nmX3 hown hK hP hD hS 0 rfl rfl 0 (by decide) (hw _ (aw_t (n := 52) (by decide +kernel) rfl)) (fun _ h9 => h9) rfl hin rfl (by decide +kernel) rfl rfl (Nat.le_of_ble_eq_true rfl) di_3_9 (fun H locs hP hD hS => ?_)
  have hP : va_P D qw_cl [(h0, .inr (3, [.ref q7, .null, .null, .int 0, .null, .null, .null])), (q7, .inl (cA 0, 8, .inl (fun _ => 0)))] H := hP
  have hD : va_D A [(h0, .inr (3, [.ref q7, .null, .null, .int 0, .null, .null, .null])), (q7, .inl (cA 0, 8, .inl (fun _ => 0)))] := hD
  refine lv_aload_n hx hb di_3_12 rfl (lv_at hl 0 rfl) ?_
  refine lv_bipush hx hb di_3_13 (v := 8) rfl ?_
  have e15 : 1 + 1 ≤ 10 := Nat.le_of_ble_eq_true rfl
  have f15 : 8 + 8 ≤ 6109 := Nat.le_of_ble_eq_true rfl
  refine va_newa (atype := .int) (ty := .int) (a0 := (8, .inl (fun _ => 0))) hx hb (hw _ (aw_t (n := 50) (by decide +kernel) rfl)) rfl hK hP hD hS hA (fun _ => rfl) (by decide) (show (8 : Int32).toNatClampNeg = 8 from rfl) (Nat.le_of_ble_eq_true rfl) e15 f15 di_3_15 (fun q15 cN H hKn hP hD hS => ?_)
  obtain rfl := qn_cA (t := 0) hKn rfl (fun _ => rfl)
  have hP : va_P D qw_cl [(h0, .inr (3, [.ref q7, .null, .null, .int 0, .null, .null, .null])), (q7, .inl (cA 0, 8, .inl (fun _ => 0))), (q15, .inl (cA 0, 8, .inl (fun _ => 0)))] H := hP
  have hD : va_D A [(h0, .inr (3, [.ref q7, .null, .null, .int 0, .null, .null, .null])), (q7, .inl (cA 0, 8, .inl (fun _ => 0))), (q15, .inl (cA 0, 8, .inl (fun _ => 0)))] := hD
  refine W.widen (k := 2) (n := 16) (Nat.le_refl _) (Nat.le_of_ble_eq_true rfl) ?_
  refine va_putF (D := D) (own := RX3) (ref := RX3) (C := RX3) (T := TX3) (N := 7) (ci := 3) (v := .ref q15) (ty := .array .int) hx hb hw (sd_u (c := 3) (by decide)).1 tyX3 tyX3_ok nmX3 hown hK hP hD hS 0 rfl rfl 1 (by decide) (hw _ (aw_t (n := 53) (by decide +kernel) rfl)) (fun _ h9 => h9) rfl hin rfl (by decide +kernel) rfl rfl (Nat.le_of_ble_eq_true rfl) di_3_17 (fun H locs hP hD hS => ?_)
  have hP : va_P D qw_cl [(h0, .inr (3, [.ref q7, .ref q15, .null, .int 0, .null, .null, .null])), (q7, .inl (cA 0, 8, .inl (fun _ => 0))), (q15, .inl (cA 0, 8, .inl (fun _ => 0)))] H := hP
  have hD : va_D A [(h0, .inr (3, [.ref q7, .ref q15, .null, .int 0, .null, .null, .null])), (q7, .inl (cA 0, 8, .inl (fun _ => 0))), (q15, .inl (cA 0, 8, .inl (fun _ => 0)))] := hD
  refine lv_aload_n hx hb di_3_20 rfl (lv_at hl 0 rfl) ?_
  refine lv_bipush hx hb di_3_21 (v := 8) rfl ?_
  have e23 : 2 + 1 ≤ 10 := Nat.le_of_ble_eq_true rfl
  have f23 : 16 + 8 ≤ 6109 := Nat.le_of_ble_eq_true rfl
  refine va_newa (atype := .int) (ty := .int) (a0 := (8, .inl (fun _ => 0))) hx hb (hw _ (aw_t (n := 50) (by decide +kernel) rfl)) rfl hK hP hD hS hA (fun _ => rfl) (by decide) (show (8 : Int32).toNatClampNeg = 8 from rfl) (Nat.le_of_ble_eq_true rfl) e23 f23 di_3_23 (fun q23 cN H hKn hP hD hS => ?_)
  obtain rfl := qn_cA (t := 0) hKn rfl (fun _ => rfl)
  have hP : va_P D qw_cl [(h0, .inr (3, [.ref q7, .ref q15, .null, .int 0, .null, .null, .null])), (q7, .inl (cA 0, 8, .inl (fun _ => 0))), (q15, .inl (cA 0, 8, .inl (fun _ => 0))), (q23, .inl (cA 0, 8, .inl (fun _ => 0)))] H := hP
  have hD : va_D A [(h0, .inr (3, [.ref q7, .ref q15, .null, .int 0, .null, .null, .null])), (q7, .inl (cA 0, 8, .inl (fun _ => 0))), (q15, .inl (cA 0, 8, .inl (fun _ => 0))), (q23, .inl (cA 0, 8, .inl (fun _ => 0)))] := hD
  refine W.widen (k := 3) (n := 24) (Nat.le_refl _) (Nat.le_of_ble_eq_true rfl) ?_
  refine va_putF (D := D) (own := RX3) (ref := RX3) (C := RX3) (T := TX3) (N := 7) (ci := 3) (v := .ref q23) (ty := .array .int) hx hb hw (sd_u (c := 3) (by decide)).1 tyX3 tyX3_ok nmX3 hown hK hP hD hS 0 rfl rfl 2 (by decide) (hw _ (aw_t (n := 54) (by decide +kernel) rfl)) (fun _ h9 => h9) rfl hin rfl (by decide +kernel) rfl rfl (Nat.le_of_ble_eq_true rfl) di_3_25 (fun H locs hP hD hS => ?_)
  have hP : va_P D qw_cl [(h0, .inr (3, [.ref q7, .ref q15, .ref q23, .int 0, .null, .null, .null])), (q7, .inl (cA 0, 8, .inl (fun _ => 0))), (q15, .inl (cA 0, 8, .inl (fun _ => 0))), (q23, .inl (cA 0, 8, .inl (fun _ => 0)))] H := hP
  have hD : va_D A [(h0, .inr (3, [.ref q7, .ref q15, .ref q23, .int 0, .null, .null, .null])), (q7, .inl (cA 0, 8, .inl (fun _ => 0))), (q15, .inl (cA 0, 8, .inl (fun _ => 0))), (q23, .inl (cA 0, 8, .inl (fun _ => 0)))] := hD
  refine lv_aload_n hx hb di_3_28 rfl (lv_at hl 0 rfl) ?_
  refine lv_iconst hx hb di_3_29 (v := 0) rfl ?_
  refine va_put (D := D) (own := RX3) (ref := RX3) (C := RX3) (T := TX3) (N := 7) (ci := 3) (v := .int 0) (ty := .int) hx hb hw (sd_u (c := 3) (by decide)).1 tyX3 tyX3_ok nmX3 hown hK hP hD hS 0 rfl rfl 3 (by decide) (hw _ (aw_t (n := 55) (by decide +kernel) rfl)) (fun _ h9 => h9) rfl (by decide +kernel) rfl rfl (Nat.le_of_ble_eq_true rfl) di_3_30 (fun H locs hP hD hS => ?_)
  have hP : va_P D qw_cl [(h0, .inr (3, [.ref q7, .ref q15, .ref q23, .int 0, .null, .null, .null])), (q7, .inl (cA 0, 8, .inl (fun _ => 0))), (q15, .inl (cA 0, 8, .inl (fun _ => 0))), (q23, .inl (cA 0, 8, .inl (fun _ => 0)))] H := hP
  have hD : va_D A [(h0, .inr (3, [.ref q7, .ref q15, .ref q23, .int 0, .null, .null, .null])), (q7, .inl (cA 0, 8, .inl (fun _ => 0))), (q15, .inl (cA 0, 8, .inl (fun _ => 0))), (q23, .inl (cA 0, 8, .inl (fun _ => 0)))] := hD
  refine lv_aload_n hx hb di_3_33 rfl (lv_at hl 0 rfl) ?_
  have e34 : 3 + 1 ≤ 10 := Nat.le_of_ble_eq_true rfl
  have f34 : 24 + 5 ≤ 6109 := Nat.le_of_ble_eq_true rfl
  refine va_new (ci := 2) (fs := [.null, .null, .null, .null, .int 0]) (C := RX2) (T := TX2) (N := 5) hx hb hw (sd_u (c := 2) (by decide)).1 tyX2 tyX2_ok hown (hw _ (aw_t (n := 28) (by decide +kernel) rfl)) (hw _ (aw_t (n := 29) (by decide +kernel) rfl)) (hw _ (aw_t (n := 3) (by decide +kernel) rfl)) hK hP hD hS hA rfl (fun j hj => by rcases (show j = 0 ∨ j = 1 ∨ j = 2 ∨ j = 3 ∨ j = 4 by omega) with rfl | rfl | rfl | rfl | rfl <;> rfl) e34 f34 di_3_34 (fun q34 H hP hD hS => ?_)
  have hP : va_P D qw_cl [(h0, .inr (3, [.ref q7, .ref q15, .ref q23, .int 0, .null, .null, .null])), (q7, .inl (cA 0, 8, .inl (fun _ => 0))), (q15, .inl (cA 0, 8, .inl (fun _ => 0))), (q23, .inl (cA 0, 8, .inl (fun _ => 0))), (q34, .inr (2, [.null, .null, .null, .null, .int 0]))] H := hP
  have hD : va_D A [(h0, .inr (3, [.ref q7, .ref q15, .ref q23, .int 0, .null, .null, .null])), (q7, .inl (cA 0, 8, .inl (fun _ => 0))), (q15, .inl (cA 0, 8, .inl (fun _ => 0))), (q23, .inl (cA 0, 8, .inl (fun _ => 0))), (q34, .inr (2, [.null, .null, .null, .null, .int 0]))] := hD
  refine W.widen (k := 4) (n := 29) (Nat.le_refl _) (Nat.le_of_ble_eq_true rfl) ?_
  refine lv_dup hx hb di_3_37 rfl ?_
  have hPc := hP.sub (ws' := [(q34, qn_e2)]) [4] rfl
  have hDc := hD.sub (ws' := [(q34, qn_e2)]) [4] (by decide) rfl
  have hFc := va_free (wc := [(q34, qn_e2)]) hD hS hA [4] rfl
  have e38 : 4 + 4 ≤ 10 := Nat.le_of_ble_eq_true rfl
  have f38 : 29 + 320 ≤ 6109 := Nat.le_of_ble_eq_true rfl
  refine va_callv (va_runIN (As := []) (rest := [.ref q34, .ref h0]) ⟨hx, hb, hml, hown, hw⟩ (qn_m2 l D cA q34 H.size) ⟨va_cnB 0 hw (aw_good qn_g2 qn_g2) rfl rfl rfl (hN _ (List.mem_append_right _ (List.mem_of_getElem? (i := 30) (by decide +kernel))) RX3 27 ⟨RX2, "<init>", "()V"⟩ "KeyframeCourt" rfl) (hw _ (aw_t (n := 3) (by decide +kernel) rfl)) (by decide +kernel) ⟨Nat.le_of_ble_eq_true rfl, Nat.le_of_ble_eq_true rfl⟩, rfl, hw _ (aw_t (n := 31) (by decide +kernel) rfl)⟩ ⟨qn_Pc_b, fun U hU hW => ⟨rfl, by rw [hU], by rw [hU]; exact hPc, va_K.moved hW.alike hK, hDc.weaken (fun _ _ _ _ => trivial), qw_nest_w hW hN⟩⟩ rfl rfl hl.1 rfl (lv_room (Nat.le_of_ble_eq_true rfl)) di_3_38 ⟨e38, f38⟩) hS (fun q _ h => hFc q h) hFc (fun u38 t H1 locs ht hvm _ hB hz1 hk1 hS => ?_)
  obtain ⟨hP1, hD1⟩ := hB
  rw [ht] at hP1
  obtain ⟨hP, hD⟩ := va_join (wr := [(h0, .inr (3, [.ref q7, .ref q15, .ref q23, .int 0, .null, .null, .null])), (q7, .inl (cA 0, 8, .inl (fun _ => 0))), (q15, .inl (cA 0, 8, .inl (fun _ => 0))), (q23, .inl (cA 0, 8, .inl (fun _ => 0)))]) (w1 := [(q34, .inr (2, [.ref (u38 14), .ref (u38 15), .ref (u38 16), .ref (u38 17), .int 0])), ((u38 14), .inl (cA 0, 80, .inl (fun _ => 0))), ((u38 15), .inl (cA 0, 80, .inl (fun _ => 0))), ((u38 16), .inl (cA 0, 80, .inl (fun _ => 0))), ((u38 17), .inl (cA 1, 80, .inl (fun _ => 0)))]) hP hD [4] [0, 1, 2, 3] rfl rfl (by decide) (by decide) hk1 hFc hP1 hD1
  generalize H1 = H at hP hS ⊢
  have hP : va_P D qw_cl [(h0, .inr (3, [.ref q7, .ref q15, .ref q23, .int 0, .null, .null, .null])), (q7, .inl (cA 0, 8, .inl (fun _ => 0))), (q15, .inl (cA 0, 8, .inl (fun _ => 0))), (q23, .inl (cA 0, 8, .inl (fun _ => 0))), (q34, .inr (2, [.ref (u38 14), .ref (u38 15), .ref (u38 16), .ref (u38 17), .int 0])), ((u38 14), .inl (cA 0, 80, .inl (fun _ => 0))), ((u38 15), .inl (cA 0, 80, .inl (fun _ => 0))), ((u38 16), .inl (cA 0, 80, .inl (fun _ => 0))), ((u38 17), .inl (cA 1, 80, .inl (fun _ => 0)))] H := hP
  have hD : va_D A [(h0, .inr (3, [.ref q7, .ref q15, .ref q23, .int 0, .null, .null, .null])), (q7, .inl (cA 0, 8, .inl (fun _ => 0))), (q15, .inl (cA 0, 8, .inl (fun _ => 0))), (q23, .inl (cA 0, 8, .inl (fun _ => 0))), (q34, .inr (2, [.ref (u38 14), .ref (u38 15), .ref (u38 16), .ref (u38 17), .int 0])), ((u38 14), .inl (cA 0, 80, .inl (fun _ => 0))), ((u38 15), .inl (cA 0, 80, .inl (fun _ => 0))), ((u38 16), .inl (cA 0, 80, .inl (fun _ => 0))), ((u38 17), .inl (cA 1, 80, .inl (fun _ => 0)))] := hD
  refine W.widen (k := 8) (n := 349) (Nat.le_refl _) (Nat.le_of_ble_eq_true rfl) ?_
  refine va_putF (D := D) (own := RX3) (ref := RX3) (C := RX3) (T := TX3) (N := 7) (ci := 3) (v := .ref q34) (ty := .object "KeyframeCourt$KeyTable") hx hb hw (sd_u (c := 3) (by decide)).1 tyX3 tyX3_ok nmX3 hown hK hP hD hS 0 rfl rfl 4 (by decide) (hw _ (aw_t (n := 56) (by decide +kernel) rfl)) (fun _ h9 => h9) rfl hin rfl (by decide +kernel) rfl rfl (Nat.le_of_ble_eq_true rfl) di_3_41 (fun H locs hP hD hS => ?_)
  have hP : va_P D qw_cl [(h0, .inr (3, [.ref q7, .ref q15, .ref q23, .int 0, .ref q34, .null, .null])), (q7, .inl (cA 0, 8, .inl (fun _ => 0))), (q15, .inl (cA 0, 8, .inl (fun _ => 0))), (q23, .inl (cA 0, 8, .inl (fun _ => 0))), (q34, .inr (2, [.ref (u38 14), .ref (u38 15), .ref (u38 16), .ref (u38 17), .int 0])), ((u38 14), .inl (cA 0, 80, .inl (fun _ => 0))), ((u38 15), .inl (cA 0, 80, .inl (fun _ => 0))), ((u38 16), .inl (cA 0, 80, .inl (fun _ => 0))), ((u38 17), .inl (cA 1, 80, .inl (fun _ => 0)))] H := hP
  have hD : va_D A [(h0, .inr (3, [.ref q7, .ref q15, .ref q23, .int 0, .ref q34, .null, .null])), (q7, .inl (cA 0, 8, .inl (fun _ => 0))), (q15, .inl (cA 0, 8, .inl (fun _ => 0))), (q23, .inl (cA 0, 8, .inl (fun _ => 0))), (q34, .inr (2, [.ref (u38 14), .ref (u38 15), .ref (u38 16), .ref (u38 17), .int 0])), ((u38 14), .inl (cA 0, 80, .inl (fun _ => 0))), ((u38 15), .inl (cA 0, 80, .inl (fun _ => 0))), ((u38 16), .inl (cA 0, 80, .inl (fun _ => 0))), ((u38 17), .inl (cA 1, 80, .inl (fun _ => 0)))] := hD
  refine lv_aload_n hx hb di_3_44 rfl (lv_at hl 0 rfl) ?_
  refine lv_sipush hx hb di_3_45 (v := 2880) rfl ?_
  have e48 : 8 + 1 ≤ 10 := Nat.le_of_ble_eq_true rfl
  have f48 : 349 + 2880 ≤ 6109 := Nat.le_of_ble_eq_true rfl
  refine va_newa (atype := .int) (ty := .int) (a0 := (2880, .inl (fun _ => 0))) hx hb (hw _ (aw_t (n := 50) (by decide +kernel) rfl)) rfl hK hP hD hS hA (fun _ => rfl) (by decide) (show (2880 : Int32).toNatClampNeg = 2880 from rfl) (Nat.le_of_ble_eq_true rfl) e48 f48 di_3_48 (fun q48 cN H hKn hP hD hS => ?_)
  obtain rfl := qn_cA (t := 0) hKn rfl (fun _ => rfl)
  have hP : va_P D qw_cl [(h0, .inr (3, [.ref q7, .ref q15, .ref q23, .int 0, .ref q34, .null, .null])), (q7, .inl (cA 0, 8, .inl (fun _ => 0))), (q15, .inl (cA 0, 8, .inl (fun _ => 0))), (q23, .inl (cA 0, 8, .inl (fun _ => 0))), (q34, .inr (2, [.ref (u38 14), .ref (u38 15), .ref (u38 16), .ref (u38 17), .int 0])), ((u38 14), .inl (cA 0, 80, .inl (fun _ => 0))), ((u38 15), .inl (cA 0, 80, .inl (fun _ => 0))), ((u38 16), .inl (cA 0, 80, .inl (fun _ => 0))), ((u38 17), .inl (cA 1, 80, .inl (fun _ => 0))), (q48, .inl (cA 0, 2880, .inl (fun _ => 0)))] H := hP
  have hD : va_D A [(h0, .inr (3, [.ref q7, .ref q15, .ref q23, .int 0, .ref q34, .null, .null])), (q7, .inl (cA 0, 8, .inl (fun _ => 0))), (q15, .inl (cA 0, 8, .inl (fun _ => 0))), (q23, .inl (cA 0, 8, .inl (fun _ => 0))), (q34, .inr (2, [.ref (u38 14), .ref (u38 15), .ref (u38 16), .ref (u38 17), .int 0])), ((u38 14), .inl (cA 0, 80, .inl (fun _ => 0))), ((u38 15), .inl (cA 0, 80, .inl (fun _ => 0))), ((u38 16), .inl (cA 0, 80, .inl (fun _ => 0))), ((u38 17), .inl (cA 1, 80, .inl (fun _ => 0))), (q48, .inl (cA 0, 2880, .inl (fun _ => 0)))] := hD
  refine W.widen (k := 9) (n := 3229) (Nat.le_refl _) (Nat.le_of_ble_eq_true rfl) ?_
  refine va_putF (D := D) (own := RX3) (ref := RX3) (C := RX3) (T := TX3) (N := 7) (ci := 3) (v := .ref q48) (ty := .array .int) hx hb hw (sd_u (c := 3) (by decide)).1 tyX3 tyX3_ok nmX3 hown hK hP hD hS 0 rfl rfl 5 (by decide) (hw _ (aw_t (n := 57) (by decide +kernel) rfl)) (fun _ h9 => h9) rfl hin rfl (by decide +kernel) rfl rfl (Nat.le_of_ble_eq_true rfl) di_3_50 (fun H locs hP hD hS => ?_)
  have hP : va_P D qw_cl [(h0, .inr (3, [.ref q7, .ref q15, .ref q23, .int 0, .ref q34, .ref q48, .null])), (q7, .inl (cA 0, 8, .inl (fun _ => 0))), (q15, .inl (cA 0, 8, .inl (fun _ => 0))), (q23, .inl (cA 0, 8, .inl (fun _ => 0))), (q34, .inr (2, [.ref (u38 14), .ref (u38 15), .ref (u38 16), .ref (u38 17), .int 0])), ((u38 14), .inl (cA 0, 80, .inl (fun _ => 0))), ((u38 15), .inl (cA 0, 80, .inl (fun _ => 0))), ((u38 16), .inl (cA 0, 80, .inl (fun _ => 0))), ((u38 17), .inl (cA 1, 80, .inl (fun _ => 0))), (q48, .inl (cA 0, 2880, .inl (fun _ => 0)))] H := hP
  have hD : va_D A [(h0, .inr (3, [.ref q7, .ref q15, .ref q23, .int 0, .ref q34, .ref q48, .null])), (q7, .inl (cA 0, 8, .inl (fun _ => 0))), (q15, .inl (cA 0, 8, .inl (fun _ => 0))), (q23, .inl (cA 0, 8, .inl (fun _ => 0))), (q34, .inr (2, [.ref (u38 14), .ref (u38 15), .ref (u38 16), .ref (u38 17), .int 0])), ((u38 14), .inl (cA 0, 80, .inl (fun _ => 0))), ((u38 15), .inl (cA 0, 80, .inl (fun _ => 0))), ((u38 16), .inl (cA 0, 80, .inl (fun _ => 0))), ((u38 17), .inl (cA 1, 80, .inl (fun _ => 0))), (q48, .inl (cA 0, 2880, .inl (fun _ => 0)))] := hD
  refine lv_aload_n hx hb di_3_53 rfl (lv_at hl 0 rfl) ?_
  refine lv_sipush hx hb di_3_54 (v := 2880) rfl ?_
  have e57 : 9 + 1 ≤ 10 := Nat.le_of_ble_eq_true rfl
  have f57 : 3229 + 2880 ≤ 6109 := Nat.le_of_ble_eq_true rfl
  refine va_newa (atype := .int) (ty := .int) (a0 := (2880, .inl (fun _ => 0))) hx hb (hw _ (aw_t (n := 50) (by decide +kernel) rfl)) rfl hK hP hD hS hA (fun _ => rfl) (by decide) (show (2880 : Int32).toNatClampNeg = 2880 from rfl) (Nat.le_of_ble_eq_true rfl) e57 f57 di_3_57 (fun q57 cN H hKn hP hD hS => ?_)
  obtain rfl := qn_cA (t := 0) hKn rfl (fun _ => rfl)
  have hP : va_P D qw_cl [(h0, .inr (3, [.ref q7, .ref q15, .ref q23, .int 0, .ref q34, .ref q48, .null])), (q7, .inl (cA 0, 8, .inl (fun _ => 0))), (q15, .inl (cA 0, 8, .inl (fun _ => 0))), (q23, .inl (cA 0, 8, .inl (fun _ => 0))), (q34, .inr (2, [.ref (u38 14), .ref (u38 15), .ref (u38 16), .ref (u38 17), .int 0])), ((u38 14), .inl (cA 0, 80, .inl (fun _ => 0))), ((u38 15), .inl (cA 0, 80, .inl (fun _ => 0))), ((u38 16), .inl (cA 0, 80, .inl (fun _ => 0))), ((u38 17), .inl (cA 1, 80, .inl (fun _ => 0))), (q48, .inl (cA 0, 2880, .inl (fun _ => 0))), (q57, .inl (cA 0, 2880, .inl (fun _ => 0)))] H := hP
  have hD : va_D A [(h0, .inr (3, [.ref q7, .ref q15, .ref q23, .int 0, .ref q34, .ref q48, .null])), (q7, .inl (cA 0, 8, .inl (fun _ => 0))), (q15, .inl (cA 0, 8, .inl (fun _ => 0))), (q23, .inl (cA 0, 8, .inl (fun _ => 0))), (q34, .inr (2, [.ref (u38 14), .ref (u38 15), .ref (u38 16), .ref (u38 17), .int 0])), ((u38 14), .inl (cA 0, 80, .inl (fun _ => 0))), ((u38 15), .inl (cA 0, 80, .inl (fun _ => 0))), ((u38 16), .inl (cA 0, 80, .inl (fun _ => 0))), ((u38 17), .inl (cA 1, 80, .inl (fun _ => 0))), (q48, .inl (cA 0, 2880, .inl (fun _ => 0))), (q57, .inl (cA 0, 2880, .inl (fun _ => 0)))] := hD
  refine W.widen (k := 10) (n := 6109) (Nat.le_refl _) (Nat.le_of_ble_eq_true rfl) ?_
  refine va_putF (D := D) (own := RX3) (ref := RX3) (C := RX3) (T := TX3) (N := 7) (ci := 3) (v := .ref q57) (ty := .array .int) hx hb hw (sd_u (c := 3) (by decide)).1 tyX3 tyX3_ok nmX3 hown hK hP hD hS 0 rfl rfl 6 (by decide) (hw _ (aw_t (n := 58) (by decide +kernel) rfl)) (fun _ h9 => h9) rfl hin rfl (by decide +kernel) rfl rfl (Nat.le_of_ble_eq_true rfl) di_3_59 (fun H locs hP hD hS => ?_)
  have hP : va_P D qw_cl [(h0, .inr (3, [.ref q7, .ref q15, .ref q23, .int 0, .ref q34, .ref q48, .ref q57])), (q7, .inl (cA 0, 8, .inl (fun _ => 0))), (q15, .inl (cA 0, 8, .inl (fun _ => 0))), (q23, .inl (cA 0, 8, .inl (fun _ => 0))), (q34, .inr (2, [.ref (u38 14), .ref (u38 15), .ref (u38 16), .ref (u38 17), .int 0])), ((u38 14), .inl (cA 0, 80, .inl (fun _ => 0))), ((u38 15), .inl (cA 0, 80, .inl (fun _ => 0))), ((u38 16), .inl (cA 0, 80, .inl (fun _ => 0))), ((u38 17), .inl (cA 1, 80, .inl (fun _ => 0))), (q48, .inl (cA 0, 2880, .inl (fun _ => 0))), (q57, .inl (cA 0, 2880, .inl (fun _ => 0)))] H := hP
  have hD : va_D A [(h0, .inr (3, [.ref q7, .ref q15, .ref q23, .int 0, .ref q34, .ref q48, .ref q57])), (q7, .inl (cA 0, 8, .inl (fun _ => 0))), (q15, .inl (cA 0, 8, .inl (fun _ => 0))), (q23, .inl (cA 0, 8, .inl (fun _ => 0))), (q34, .inr (2, [.ref (u38 14), .ref (u38 15), .ref (u38 16), .ref (u38 17), .int 0])), ((u38 14), .inl (cA 0, 80, .inl (fun _ => 0))), ((u38 15), .inl (cA 0, 80, .inl (fun _ => 0))), ((u38 16), .inl (cA 0, 80, .inl (fun _ => 0))), ((u38 17), .inl (cA 1, 80, .inl (fun _ => 0))), (q48, .inl (cA 0, 2880, .inl (fun _ => 0))), (q57, .inl (cA 0, 2880, .inl (fun _ => 0)))] := hD
  exact W.vret hx hb hr (fun t ht hW => ⟨⟨(qn_f [(9, q7), (10, q15), (11, q23), (2, q34), (14, (u38 14)), (15, (u38 15)), (16, (u38 16)), (17, (u38 17)), (12, q48), (13, q57)]), rfl, trivial, by rw [ht]; exact hP, hD⟩, hS.F ht⟩) hS.2.2 di_3_62
theorem di_5_0 : decode cX5_init 0 = .ok (.aload_n 0, 1) := by decide +kernel
theorem di_5_1 : decode cX5_init 1 = .ok (.invokespecial 3, 3) := by decide +kernel
theorem di_5_4 : decode cX5_init 4 = .ok (.aload_n 0, 1) := by decide +kernel
theorem di_5_5 : decode cX5_init 5 = .ok (.new 9, 3) := by decide +kernel
theorem di_5_8 : decode cX5_init 8 = .ok (.dup, 1) := by decide +kernel
theorem di_5_9 : decode cX5_init 9 = .ok (.invokespecial 11, 3) := by decide +kernel
theorem di_5_12 : decode cX5_init 12 = .ok (.putfield 12, 3) := by decide +kernel
theorem di_5_15 : decode cX5_init 15 = .ok (.aload_n 0, 1) := by decide +kernel
theorem di_5_16 : decode cX5_init 16 = .ok (.new 16, 3) := by decide +kernel
theorem di_5_19 : decode cX5_init 19 = .ok (.dup, 1) := by decide +kernel
theorem di_5_20 : decode cX5_init 20 = .ok (.invokespecial 18, 3) := by decide +kernel
theorem di_5_23 : decode cX5_init 23 = .ok (.putfield 19, 3) := by decide +kernel
theorem di_5_26 : decode cX5_init 26 = .ok (.aload_n 0, 1) := by decide +kernel
theorem di_5_27 : decode cX5_init 27 = .ok (.new 23, 3) := by decide +kernel
theorem di_5_30 : decode cX5_init 30 = .ok (.dup, 1) := by decide +kernel
theorem di_5_31 : decode cX5_init 31 = .ok (.invokespecial 25, 3) := by decide +kernel
theorem di_5_34 : decode cX5_init 34 = .ok (.putfield 26, 3) := by decide +kernel
theorem di_5_37 : decode cX5_init 37 = .ok (.aload_n 0, 1) := by decide +kernel
theorem di_5_38 : decode cX5_init 38 = .ok (.new 30, 3) := by decide +kernel
theorem di_5_41 : decode cX5_init 41 = .ok (.dup, 1) := by decide +kernel
theorem di_5_42 : decode cX5_init 42 = .ok (.invokespecial 32, 3) := by decide +kernel
theorem di_5_45 : decode cX5_init 45 = .ok (.putfield 33, 3) := by decide +kernel
theorem di_5_48 : decode cX5_init 48 = .ok (.aload_n 0, 1) := by decide +kernel
theorem di_5_49 : decode cX5_init 49 = .ok (.bipush 6, 2) := by decide +kernel
theorem di_5_51 : decode cX5_init 51 = .ok (.newarray .int, 2) := by decide +kernel
theorem di_5_53 : decode cX5_init 53 = .ok (.putfield 37, 3) := by decide +kernel
theorem di_5_56 : decode cX5_init 56 = .ok (.aload_n 0, 1) := by decide +kernel
theorem di_5_57 : decode cX5_init 57 = .ok (.iconst 0, 1) := by decide +kernel
theorem di_5_58 : decode cX5_init 58 = .ok (.putfield 41, 3) := by decide +kernel
theorem di_5_61 : decode cX5_init 61 = .ok (.return_, 1) := by decide +kernel
def qn_w5 : List Cond := Cond.code ⟨RX5, "<init>", "()V"⟩ cX5_init 1 none :: AW
theorem qn_g5 : ∀ w ∈ qn_w5, w ∈ AW := fun w h => (List.mem_cons.mp h).elim (fun e => by rw [e]; exact aw_t (n := 18) (by decide +kernel) rfl) id
def qn_e5 : va_E := .inr (5, [.null, .null, .null, .null, .null, .int 0])
def qn_B5 (D : va_G) (cA : Nat → ClassId) (h0 sz : Nat) (u : Nat → Nat) (t : State) : Prop := va_P D qw_cl [(h0, .inr (5, [.ref (u 1), .ref (u 3), .ref (u 4), .ref (u 5), .ref (u 8), .int 0])), ((u 1), .inr (3, [.ref (u 9), .ref (u 10), .ref (u 11), .int 0, .ref (u 2), .ref (u 12), .ref (u 13)])), ((u 9), .inl (cA 0, 8, .inl (fun _ => 0))), ((u 10), .inl (cA 0, 8, .inl (fun _ => 0))), ((u 11), .inl (cA 0, 8, .inl (fun _ => 0))), ((u 2), .inr (2, [.ref (u 14), .ref (u 15), .ref (u 16), .ref (u 17), .int 0])), ((u 14), .inl (cA 0, 80, .inl (fun _ => 0))), ((u 15), .inl (cA 0, 80, .inl (fun _ => 0))), ((u 16), .inl (cA 0, 80, .inl (fun _ => 0))), ((u 17), .inl (cA 1, 80, .inl (fun _ => 0))), ((u 12), .inl (cA 0, 2880, .inl (fun _ => 0))), ((u 13), .inl (cA 0, 2880, .inl (fun _ => 0))), ((u 3), .inr (4, [.ref (u 18), .ref (u 19), .ref (u 20)])), ((u 18), .inl (cA 0, 2880, .inl (fun _ => 0))), ((u 19), .inl (cA 0, 120, .inl (fun _ => 0))), ((u 20), .inl (cA 0, 120, .inl (fun _ => 0))), ((u 4), .inr (1, [.ref (u 21), .ref (u 22), .ref (u 23), .int 0, .int 0])), ((u 21), .inl (cA 0, 10, .inl (fun _ => 0))), ((u 22), .inl (cA 0, 10, .inl (fun _ => 0))), ((u 23), .inl (cA 0, 120, .inl (fun _ => 0))), ((u 5), .inr (0, [.ref (u 24), .ref (u 25), .ref (u 26), .int 0, .ref (u 27), .ref (u 28), .int 0, .int 0])), ((u 24), .inl (cA 0, 4, .inl (fun _ => 0))), ((u 25), .inl (cA 0, 4, .inl (fun _ => 0))), ((u 26), .inl (cA 1, 4, .inl (fun _ => 0))), ((u 27), .inl (cA 0, 10, .inl (fun _ => 0))), ((u 28), .inl (cA 0, 10, .inl (fun _ => 0))), ((u 8), .inl (cA 0, 6, .inl (fun _ => 0)))] t.heap ∧ va_D (va_A [(h0, qn_e5)] sz) [(h0, .inr (5, [.ref (u 1), .ref (u 3), .ref (u 4), .ref (u 5), .ref (u 8), .int 0])), ((u 1), .inr (3, [.ref (u 9), .ref (u 10), .ref (u 11), .int 0, .ref (u 2), .ref (u 12), .ref (u 13)])), ((u 9), .inl (cA 0, 8, .inl (fun _ => 0))), ((u 10), .inl (cA 0, 8, .inl (fun _ => 0))), ((u 11), .inl (cA 0, 8, .inl (fun _ => 0))), ((u 2), .inr (2, [.ref (u 14), .ref (u 15), .ref (u 16), .ref (u 17), .int 0])), ((u 14), .inl (cA 0, 80, .inl (fun _ => 0))), ((u 15), .inl (cA 0, 80, .inl (fun _ => 0))), ((u 16), .inl (cA 0, 80, .inl (fun _ => 0))), ((u 17), .inl (cA 1, 80, .inl (fun _ => 0))), ((u 12), .inl (cA 0, 2880, .inl (fun _ => 0))), ((u 13), .inl (cA 0, 2880, .inl (fun _ => 0))), ((u 3), .inr (4, [.ref (u 18), .ref (u 19), .ref (u 20)])), ((u 18), .inl (cA 0, 2880, .inl (fun _ => 0))), ((u 19), .inl (cA 0, 120, .inl (fun _ => 0))), ((u 20), .inl (cA 0, 120, .inl (fun _ => 0))), ((u 4), .inr (1, [.ref (u 21), .ref (u 22), .ref (u 23), .int 0, .int 0])), ((u 21), .inl (cA 0, 10, .inl (fun _ => 0))), ((u 22), .inl (cA 0, 10, .inl (fun _ => 0))), ((u 23), .inl (cA 0, 120, .inl (fun _ => 0))), ((u 5), .inr (0, [.ref (u 24), .ref (u 25), .ref (u 26), .int 0, .ref (u 27), .ref (u 28), .int 0, .int 0])), ((u 24), .inl (cA 0, 4, .inl (fun _ => 0))), ((u 25), .inl (cA 0, 4, .inl (fun _ => 0))), ((u 26), .inl (cA 1, 4, .inl (fun _ => 0))), ((u 27), .inl (cA 0, 10, .inl (fun _ => 0))), ((u 28), .inl (cA 0, 10, .inl (fun _ => 0))), ((u 8), .inl (cA 0, 6, .inl (fun _ => 0)))]
set_option maxHeartbeats 4000000 in
set_option maxRecDepth 100000 in
theorem qn_m5 (l : Launch) (D : va_G) (cA : Nat → ClassId) (h0 sz : Nat) : Met l ⟨RX5, "<init>", "()V"⟩ qn_w5 ({ frames := 3, cells := 26, slots := 9430, locals := 52 }) (qn_Pc D cA h0 sz qn_e5) (va_Qv (fun _ : Nat → Nat => True) (qn_B5 D cA h0 sz) (va_A [(h0, qn_e5)] sz)) 26 9430 (va_A [(h0, qn_e5)] sz) := by
  refine Met.ofW (cc := cX5_init) (maxL := 1) (ret := none) (by decide) rfl ?_
  intro p e s m args below meth c s₁ B hml hv
  obtain ⟨rfl, hsz, hP, hK, hD0, hN⟩ := hv
  have hx := B.exec
  have hb := B.bytes
  have hr := B.returns
  have hts := atoms_spec (ws := qn_w5) B.pre
  have hw : ∀ w ∈ AW, w.before #[Value.ref h0] s = true := fun w h => hts w (List.mem_cons_of_mem _ h)
  have hown : s.vm.findClass RX5 = some m.cls := findClass_of_methodNamed B.named
  have hlocks := B.notSynchronized
  have hin : meth.name = "<init>" := (name_of_methodNamed B.named B.method).1
  subst hsz
  have hD := hD0.self (sz := s.heap.size)
  unfold qn_B5
  generalize hAe : va_A [(h0, qn_e5)] s.heap.size = A at hD ⊢
  have hA : ∀ q : Nat, s.heap.size ≤ q → A q := fun q h => by rw [← hAe]; exact Or.inr h
  have hS : va_S A s.heap s.heap [] := va_S.rf
  have hl := lv_entry ([.ref h0]) (n := 1) (Nat.le_of_ble_eq_true rfl)
  rw [lg_entry_eq]
  generalize (lg_sl ([.ref h0]) ++ List.replicate (1 - (lg_sl ([.ref h0])).length) Slot.unset).toArray = ls at hl ⊢
  have hl : lv_has ls 1 [(0, .ref h0)] := hl
  have hP : va_P D qw_cl [(h0, .inr (5, [.null, .null, .null, .null, .null, .int 0]))] s.heap := hP
  have hD : va_D A [(h0, .inr (5, [.null, .null, .null, .null, .null, .int 0]))] := hD
  refine lv_aload_n hx hb di_5_0 rfl (lv_at hl 0 rfl) ?_
  refine W.objInit hx hb hown (hw _ (aw_t (n := 19) (by decide +kernel) rfl)) (hw _ (aw_t (n := 20) (by decide +kernel) rfl)) (hw _ (aw_t (n := 21) (by decide +kernel) rfl)) rfl (by rw [hml]; exact hl.1) rfl di_5_1 (Nat.le_of_ble_eq_true rfl) (Nat.le_of_ble_eq_true rfl) ?_
  refine W.eq (g2 := F0 m 4 ls []) rfl ?_
  refine lv_aload_n hx hb di_5_4 rfl (lv_at hl 0 rfl) ?_
  have e5 : 0 + 1 ≤ 26 := Nat.le_of_ble_eq_true rfl
  have f5 : 0 + 7 ≤ 9430 := Nat.le_of_ble_eq_true rfl
  refine va_new (ci := 3) (fs := [.null, .null, .null, .int 0, .null, .null, .null]) (C := RX3) (T := TX3) (N := 7) hx hb hw (sd_u (c := 3) (by decide)).1 tyX3 tyX3_ok hown (hw _ (aw_t (n := 22) (by decide +kernel) rfl)) (hw _ (aw_t (n := 23) (by decide +kernel) rfl)) (hw _ (aw_t (n := 2) (by decide +kernel) rfl)) hK hP hD hS hA rfl (fun j hj => by rcases (show j = 0 ∨ j = 1 ∨ j = 2 ∨ j = 3 ∨ j = 4 ∨ j = 5 ∨ j = 6 by omega) with rfl | rfl | rfl | rfl | rfl | rfl | rfl <;> rfl) e5 f5 di_5_5 (fun q5 H hP hD hS => ?_)
  have hP : va_P D qw_cl [(h0, .inr (5, [.null, .null, .null, .null, .null, .int 0])), (q5, .inr (3, [.null, .null, .null, .int 0, .null, .null, .null]))] H := hP
  have hD : va_D A [(h0, .inr (5, [.null, .null, .null, .null, .null, .int 0])), (q5, .inr (3, [.null, .null, .null, .int 0, .null, .null, .null]))] := hD
  refine W.widen (k := 1) (n := 7) (Nat.le_refl _) (Nat.le_of_ble_eq_true rfl) ?_
  refine lv_dup hx hb di_5_8 rfl ?_
  have hPc := hP.sub (ws' := [(q5, qn_e3)]) [1] rfl
  have hDc := hD.sub (ws' := [(q5, qn_e3)]) [1] (by decide) rfl
  have hFc := va_free (wc := [(q5, qn_e3)]) hD hS hA [1] rfl
  have e9 : 1 + 10 ≤ 26 := Nat.le_of_ble_eq_true rfl
  have f9 : 7 + 6109 ≤ 9430 := Nat.le_of_ble_eq_true rfl
  refine va_callv (va_runIN (As := []) (rest := [.ref q5, .ref h0]) ⟨hx, hb, hml, hown, hw⟩ (qn_m3 l D cA q5 H.size) ⟨va_cnB 0 hw (aw_good qn_g3 qn_g3) rfl rfl rfl (hN _ (List.mem_append_right _ (List.mem_of_getElem? (i := 24) (by decide +kernel))) RX5 11 ⟨RX3, "<init>", "()V"⟩ "KeyframeCourt" rfl) (hw _ (aw_t (n := 2) (by decide +kernel) rfl)) (by decide +kernel) ⟨Nat.le_of_ble_eq_true rfl, Nat.le_of_ble_eq_true rfl⟩, rfl, hw _ (aw_t (n := 25) (by decide +kernel) rfl)⟩ ⟨qn_Pc_b, fun U hU hW => ⟨rfl, by rw [hU], by rw [hU]; exact hPc, va_K.moved hW.alike hK, hDc.weaken (fun _ _ _ _ => trivial), qw_nest_w hW hN⟩⟩ rfl rfl hl.1 rfl (lv_room (Nat.le_of_ble_eq_true rfl)) di_5_9 ⟨e9, f9⟩) hS (fun q _ h => hFc q h) hFc (fun u9 t H1 locs ht hvm _ hB hz1 hk1 hS => ?_)
  obtain ⟨hP1, hD1⟩ := hB
  rw [ht] at hP1
  obtain ⟨hP, hD⟩ := va_join (wr := [(h0, .inr (5, [.null, .null, .null, .null, .null, .int 0]))]) (w1 := [(q5, .inr (3, [.ref (u9 9), .ref (u9 10), .ref (u9 11), .int 0, .ref (u9 2), .ref (u9 12), .ref (u9 13)])), ((u9 9), .inl (cA 0, 8, .inl (fun _ => 0))), ((u9 10), .inl (cA 0, 8, .inl (fun _ => 0))), ((u9 11), .inl (cA 0, 8, .inl (fun _ => 0))), ((u9 2), .inr (2, [.ref (u9 14), .ref (u9 15), .ref (u9 16), .ref (u9 17), .int 0])), ((u9 14), .inl (cA 0, 80, .inl (fun _ => 0))), ((u9 15), .inl (cA 0, 80, .inl (fun _ => 0))), ((u9 16), .inl (cA 0, 80, .inl (fun _ => 0))), ((u9 17), .inl (cA 1, 80, .inl (fun _ => 0))), ((u9 12), .inl (cA 0, 2880, .inl (fun _ => 0))), ((u9 13), .inl (cA 0, 2880, .inl (fun _ => 0)))]) hP hD [1] [0] rfl rfl (by decide) (by decide) hk1 hFc hP1 hD1
  generalize H1 = H at hP hS ⊢
  have hP : va_P D qw_cl [(h0, .inr (5, [.null, .null, .null, .null, .null, .int 0])), (q5, .inr (3, [.ref (u9 9), .ref (u9 10), .ref (u9 11), .int 0, .ref (u9 2), .ref (u9 12), .ref (u9 13)])), ((u9 9), .inl (cA 0, 8, .inl (fun _ => 0))), ((u9 10), .inl (cA 0, 8, .inl (fun _ => 0))), ((u9 11), .inl (cA 0, 8, .inl (fun _ => 0))), ((u9 2), .inr (2, [.ref (u9 14), .ref (u9 15), .ref (u9 16), .ref (u9 17), .int 0])), ((u9 14), .inl (cA 0, 80, .inl (fun _ => 0))), ((u9 15), .inl (cA 0, 80, .inl (fun _ => 0))), ((u9 16), .inl (cA 0, 80, .inl (fun _ => 0))), ((u9 17), .inl (cA 1, 80, .inl (fun _ => 0))), ((u9 12), .inl (cA 0, 2880, .inl (fun _ => 0))), ((u9 13), .inl (cA 0, 2880, .inl (fun _ => 0)))] H := hP
  have hD : va_D A [(h0, .inr (5, [.null, .null, .null, .null, .null, .int 0])), (q5, .inr (3, [.ref (u9 9), .ref (u9 10), .ref (u9 11), .int 0, .ref (u9 2), .ref (u9 12), .ref (u9 13)])), ((u9 9), .inl (cA 0, 8, .inl (fun _ => 0))), ((u9 10), .inl (cA 0, 8, .inl (fun _ => 0))), ((u9 11), .inl (cA 0, 8, .inl (fun _ => 0))), ((u9 2), .inr (2, [.ref (u9 14), .ref (u9 15), .ref (u9 16), .ref (u9 17), .int 0])), ((u9 14), .inl (cA 0, 80, .inl (fun _ => 0))), ((u9 15), .inl (cA 0, 80, .inl (fun _ => 0))), ((u9 16), .inl (cA 0, 80, .inl (fun _ => 0))), ((u9 17), .inl (cA 1, 80, .inl (fun _ => 0))), ((u9 12), .inl (cA 0, 2880, .inl (fun _ => 0))), ((u9 13), .inl (cA 0, 2880, .inl (fun _ => 0)))] := hD
  refine W.widen (k := 11) (n := 6116) (Nat.le_refl _) (Nat.le_of_ble_eq_true rfl) ?_
  refine va_putF (D := D) (own := RX5) (ref := RX5) (C := RX5) (T := TX5) (N := 6) (ci := 5) (v := .ref q5) (ty := .object "KeyframeCourt$Rig") hx hb hw (sd_u (c := 5) (by decide)).1 tyX5 tyX5_ok nmX5 hown hK hP hD hS 0 rfl rfl 0 (by decide) (hw _ (aw_t (n := 143) (by decide +kernel) rfl)) (fun _ h9 => h9) rfl hin rfl (by decide +kernel) rfl rfl (Nat.le_of_ble_eq_true rfl) di_5_12 (fun H locs hP hD hS => ?_)
  have hP : va_P D qw_cl [(h0, .inr (5, [.ref q5, .null, .null, .null, .null, .int 0])), (q5, .inr (3, [.ref (u9 9), .ref (u9 10), .ref (u9 11), .int 0, .ref (u9 2), .ref (u9 12), .ref (u9 13)])), ((u9 9), .inl (cA 0, 8, .inl (fun _ => 0))), ((u9 10), .inl (cA 0, 8, .inl (fun _ => 0))), ((u9 11), .inl (cA 0, 8, .inl (fun _ => 0))), ((u9 2), .inr (2, [.ref (u9 14), .ref (u9 15), .ref (u9 16), .ref (u9 17), .int 0])), ((u9 14), .inl (cA 0, 80, .inl (fun _ => 0))), ((u9 15), .inl (cA 0, 80, .inl (fun _ => 0))), ((u9 16), .inl (cA 0, 80, .inl (fun _ => 0))), ((u9 17), .inl (cA 1, 80, .inl (fun _ => 0))), ((u9 12), .inl (cA 0, 2880, .inl (fun _ => 0))), ((u9 13), .inl (cA 0, 2880, .inl (fun _ => 0)))] H := hP
  have hD : va_D A [(h0, .inr (5, [.ref q5, .null, .null, .null, .null, .int 0])), (q5, .inr (3, [.ref (u9 9), .ref (u9 10), .ref (u9 11), .int 0, .ref (u9 2), .ref (u9 12), .ref (u9 13)])), ((u9 9), .inl (cA 0, 8, .inl (fun _ => 0))), ((u9 10), .inl (cA 0, 8, .inl (fun _ => 0))), ((u9 11), .inl (cA 0, 8, .inl (fun _ => 0))), ((u9 2), .inr (2, [.ref (u9 14), .ref (u9 15), .ref (u9 16), .ref (u9 17), .int 0])), ((u9 14), .inl (cA 0, 80, .inl (fun _ => 0))), ((u9 15), .inl (cA 0, 80, .inl (fun _ => 0))), ((u9 16), .inl (cA 0, 80, .inl (fun _ => 0))), ((u9 17), .inl (cA 1, 80, .inl (fun _ => 0))), ((u9 12), .inl (cA 0, 2880, .inl (fun _ => 0))), ((u9 13), .inl (cA 0, 2880, .inl (fun _ => 0)))] := hD
  refine lv_aload_n hx hb di_5_15 rfl (lv_at hl 0 rfl) ?_
  have e16 : 11 + 1 ≤ 26 := Nat.le_of_ble_eq_true rfl
  have f16 : 6116 + 3 ≤ 9430 := Nat.le_of_ble_eq_true rfl
  refine va_new (ci := 4) (fs := [.null, .null, .null]) (C := RX4) (T := TX4) (N := 3) hx hb hw (sd_u (c := 4) (by decide)).1 tyX4 tyX4_ok hown (hw _ (aw_t (n := 74) (by decide +kernel) rfl)) (hw _ (aw_t (n := 75) (by decide +kernel) rfl)) (hw _ (aw_t (n := 4) (by decide +kernel) rfl)) hK hP hD hS hA rfl (fun j hj => by rcases (show j = 0 ∨ j = 1 ∨ j = 2 by omega) with rfl | rfl | rfl <;> rfl) e16 f16 di_5_16 (fun q16 H hP hD hS => ?_)
  have hP : va_P D qw_cl [(h0, .inr (5, [.ref q5, .null, .null, .null, .null, .int 0])), (q5, .inr (3, [.ref (u9 9), .ref (u9 10), .ref (u9 11), .int 0, .ref (u9 2), .ref (u9 12), .ref (u9 13)])), ((u9 9), .inl (cA 0, 8, .inl (fun _ => 0))), ((u9 10), .inl (cA 0, 8, .inl (fun _ => 0))), ((u9 11), .inl (cA 0, 8, .inl (fun _ => 0))), ((u9 2), .inr (2, [.ref (u9 14), .ref (u9 15), .ref (u9 16), .ref (u9 17), .int 0])), ((u9 14), .inl (cA 0, 80, .inl (fun _ => 0))), ((u9 15), .inl (cA 0, 80, .inl (fun _ => 0))), ((u9 16), .inl (cA 0, 80, .inl (fun _ => 0))), ((u9 17), .inl (cA 1, 80, .inl (fun _ => 0))), ((u9 12), .inl (cA 0, 2880, .inl (fun _ => 0))), ((u9 13), .inl (cA 0, 2880, .inl (fun _ => 0))), (q16, .inr (4, [.null, .null, .null]))] H := hP
  have hD : va_D A [(h0, .inr (5, [.ref q5, .null, .null, .null, .null, .int 0])), (q5, .inr (3, [.ref (u9 9), .ref (u9 10), .ref (u9 11), .int 0, .ref (u9 2), .ref (u9 12), .ref (u9 13)])), ((u9 9), .inl (cA 0, 8, .inl (fun _ => 0))), ((u9 10), .inl (cA 0, 8, .inl (fun _ => 0))), ((u9 11), .inl (cA 0, 8, .inl (fun _ => 0))), ((u9 2), .inr (2, [.ref (u9 14), .ref (u9 15), .ref (u9 16), .ref (u9 17), .int 0])), ((u9 14), .inl (cA 0, 80, .inl (fun _ => 0))), ((u9 15), .inl (cA 0, 80, .inl (fun _ => 0))), ((u9 16), .inl (cA 0, 80, .inl (fun _ => 0))), ((u9 17), .inl (cA 1, 80, .inl (fun _ => 0))), ((u9 12), .inl (cA 0, 2880, .inl (fun _ => 0))), ((u9 13), .inl (cA 0, 2880, .inl (fun _ => 0))), (q16, .inr (4, [.null, .null, .null]))] := hD
  refine W.widen (k := 12) (n := 6119) (Nat.le_refl _) (Nat.le_of_ble_eq_true rfl) ?_
  refine lv_dup hx hb di_5_19 rfl ?_
  have hPc := hP.sub (ws' := [(q16, qn_e4)]) [12] rfl
  have hDc := hD.sub (ws' := [(q16, qn_e4)]) [12] (by decide) rfl
  have hFc := va_free (wc := [(q16, qn_e4)]) hD hS hA [12] rfl
  have e20 : 12 + 3 ≤ 26 := Nat.le_of_ble_eq_true rfl
  have f20 : 6119 + 3120 ≤ 9430 := Nat.le_of_ble_eq_true rfl
  refine va_callv (va_runIN (As := []) (rest := [.ref q16, .ref h0]) ⟨hx, hb, hml, hown, hw⟩ (qn_m4 l D cA q16 H.size) ⟨va_cnB 0 hw (aw_good qn_g4 qn_g4) rfl rfl rfl (hN _ (List.mem_append_right _ (List.mem_of_getElem? (i := 76) (by decide +kernel))) RX5 18 ⟨RX4, "<init>", "()V"⟩ "KeyframeCourt" rfl) (hw _ (aw_t (n := 4) (by decide +kernel) rfl)) (by decide +kernel) ⟨Nat.le_of_ble_eq_true rfl, Nat.le_of_ble_eq_true rfl⟩, rfl, hw _ (aw_t (n := 77) (by decide +kernel) rfl)⟩ ⟨qn_Pc_b, fun U hU hW => ⟨rfl, by rw [hU], by rw [hU]; exact hPc, va_K.moved hW.alike hK, hDc.weaken (fun _ _ _ _ => trivial), qw_nest_w hW hN⟩⟩ rfl rfl hl.1 rfl (lv_room (Nat.le_of_ble_eq_true rfl)) di_5_20 ⟨e20, f20⟩) hS (fun q _ h => hFc q h) hFc (fun u20 t H1 locs ht hvm _ hB hz1 hk1 hS => ?_)
  obtain ⟨hP1, hD1⟩ := hB
  rw [ht] at hP1
  obtain ⟨hP, hD⟩ := va_join (wr := [(h0, .inr (5, [.ref q5, .null, .null, .null, .null, .int 0])), (q5, .inr (3, [.ref (u9 9), .ref (u9 10), .ref (u9 11), .int 0, .ref (u9 2), .ref (u9 12), .ref (u9 13)])), ((u9 9), .inl (cA 0, 8, .inl (fun _ => 0))), ((u9 10), .inl (cA 0, 8, .inl (fun _ => 0))), ((u9 11), .inl (cA 0, 8, .inl (fun _ => 0))), ((u9 2), .inr (2, [.ref (u9 14), .ref (u9 15), .ref (u9 16), .ref (u9 17), .int 0])), ((u9 14), .inl (cA 0, 80, .inl (fun _ => 0))), ((u9 15), .inl (cA 0, 80, .inl (fun _ => 0))), ((u9 16), .inl (cA 0, 80, .inl (fun _ => 0))), ((u9 17), .inl (cA 1, 80, .inl (fun _ => 0))), ((u9 12), .inl (cA 0, 2880, .inl (fun _ => 0))), ((u9 13), .inl (cA 0, 2880, .inl (fun _ => 0)))]) (w1 := [(q16, .inr (4, [.ref (u20 18), .ref (u20 19), .ref (u20 20)])), ((u20 18), .inl (cA 0, 2880, .inl (fun _ => 0))), ((u20 19), .inl (cA 0, 120, .inl (fun _ => 0))), ((u20 20), .inl (cA 0, 120, .inl (fun _ => 0)))]) hP hD [12] [0, 1, 2, 3, 4, 5, 6, 7, 8, 9, 10, 11] rfl rfl (by decide) (by decide) hk1 hFc hP1 hD1
  generalize H1 = H at hP hS ⊢
  have hP : va_P D qw_cl [(h0, .inr (5, [.ref q5, .null, .null, .null, .null, .int 0])), (q5, .inr (3, [.ref (u9 9), .ref (u9 10), .ref (u9 11), .int 0, .ref (u9 2), .ref (u9 12), .ref (u9 13)])), ((u9 9), .inl (cA 0, 8, .inl (fun _ => 0))), ((u9 10), .inl (cA 0, 8, .inl (fun _ => 0))), ((u9 11), .inl (cA 0, 8, .inl (fun _ => 0))), ((u9 2), .inr (2, [.ref (u9 14), .ref (u9 15), .ref (u9 16), .ref (u9 17), .int 0])), ((u9 14), .inl (cA 0, 80, .inl (fun _ => 0))), ((u9 15), .inl (cA 0, 80, .inl (fun _ => 0))), ((u9 16), .inl (cA 0, 80, .inl (fun _ => 0))), ((u9 17), .inl (cA 1, 80, .inl (fun _ => 0))), ((u9 12), .inl (cA 0, 2880, .inl (fun _ => 0))), ((u9 13), .inl (cA 0, 2880, .inl (fun _ => 0))), (q16, .inr (4, [.ref (u20 18), .ref (u20 19), .ref (u20 20)])), ((u20 18), .inl (cA 0, 2880, .inl (fun _ => 0))), ((u20 19), .inl (cA 0, 120, .inl (fun _ => 0))), ((u20 20), .inl (cA 0, 120, .inl (fun _ => 0)))] H := hP
  have hD : va_D A [(h0, .inr (5, [.ref q5, .null, .null, .null, .null, .int 0])), (q5, .inr (3, [.ref (u9 9), .ref (u9 10), .ref (u9 11), .int 0, .ref (u9 2), .ref (u9 12), .ref (u9 13)])), ((u9 9), .inl (cA 0, 8, .inl (fun _ => 0))), ((u9 10), .inl (cA 0, 8, .inl (fun _ => 0))), ((u9 11), .inl (cA 0, 8, .inl (fun _ => 0))), ((u9 2), .inr (2, [.ref (u9 14), .ref (u9 15), .ref (u9 16), .ref (u9 17), .int 0])), ((u9 14), .inl (cA 0, 80, .inl (fun _ => 0))), ((u9 15), .inl (cA 0, 80, .inl (fun _ => 0))), ((u9 16), .inl (cA 0, 80, .inl (fun _ => 0))), ((u9 17), .inl (cA 1, 80, .inl (fun _ => 0))), ((u9 12), .inl (cA 0, 2880, .inl (fun _ => 0))), ((u9 13), .inl (cA 0, 2880, .inl (fun _ => 0))), (q16, .inr (4, [.ref (u20 18), .ref (u20 19), .ref (u20 20)])), ((u20 18), .inl (cA 0, 2880, .inl (fun _ => 0))), ((u20 19), .inl (cA 0, 120, .inl (fun _ => 0))), ((u20 20), .inl (cA 0, 120, .inl (fun _ => 0)))] := hD
  refine W.widen (k := 15) (n := 9239) (Nat.le_refl _) (Nat.le_of_ble_eq_true rfl) ?_
  refine va_putF (D := D) (own := RX5) (ref := RX5) (C := RX5) (T := TX5) (N := 6) (ci := 5) (v := .ref q16) (ty := .object "KeyframeCourt$Stills") hx hb hw (sd_u (c := 5) (by decide)).1 tyX5 tyX5_ok nmX5 hown hK hP hD hS 0 rfl rfl 1 (by decide) (hw _ (aw_t (n := 144) (by decide +kernel) rfl)) (fun _ h9 => h9) rfl hin rfl (by decide +kernel) rfl rfl (Nat.le_of_ble_eq_true rfl) di_5_23 (fun H locs hP hD hS => ?_)
  have hP : va_P D qw_cl [(h0, .inr (5, [.ref q5, .ref q16, .null, .null, .null, .int 0])), (q5, .inr (3, [.ref (u9 9), .ref (u9 10), .ref (u9 11), .int 0, .ref (u9 2), .ref (u9 12), .ref (u9 13)])), ((u9 9), .inl (cA 0, 8, .inl (fun _ => 0))), ((u9 10), .inl (cA 0, 8, .inl (fun _ => 0))), ((u9 11), .inl (cA 0, 8, .inl (fun _ => 0))), ((u9 2), .inr (2, [.ref (u9 14), .ref (u9 15), .ref (u9 16), .ref (u9 17), .int 0])), ((u9 14), .inl (cA 0, 80, .inl (fun _ => 0))), ((u9 15), .inl (cA 0, 80, .inl (fun _ => 0))), ((u9 16), .inl (cA 0, 80, .inl (fun _ => 0))), ((u9 17), .inl (cA 1, 80, .inl (fun _ => 0))), ((u9 12), .inl (cA 0, 2880, .inl (fun _ => 0))), ((u9 13), .inl (cA 0, 2880, .inl (fun _ => 0))), (q16, .inr (4, [.ref (u20 18), .ref (u20 19), .ref (u20 20)])), ((u20 18), .inl (cA 0, 2880, .inl (fun _ => 0))), ((u20 19), .inl (cA 0, 120, .inl (fun _ => 0))), ((u20 20), .inl (cA 0, 120, .inl (fun _ => 0)))] H := hP
  have hD : va_D A [(h0, .inr (5, [.ref q5, .ref q16, .null, .null, .null, .int 0])), (q5, .inr (3, [.ref (u9 9), .ref (u9 10), .ref (u9 11), .int 0, .ref (u9 2), .ref (u9 12), .ref (u9 13)])), ((u9 9), .inl (cA 0, 8, .inl (fun _ => 0))), ((u9 10), .inl (cA 0, 8, .inl (fun _ => 0))), ((u9 11), .inl (cA 0, 8, .inl (fun _ => 0))), ((u9 2), .inr (2, [.ref (u9 14), .ref (u9 15), .ref (u9 16), .ref (u9 17), .int 0])), ((u9 14), .inl (cA 0, 80, .inl (fun _ => 0))), ((u9 15), .inl (cA 0, 80, .inl (fun _ => 0))), ((u9 16), .inl (cA 0, 80, .inl (fun _ => 0))), ((u9 17), .inl (cA 1, 80, .inl (fun _ => 0))), ((u9 12), .inl (cA 0, 2880, .inl (fun _ => 0))), ((u9 13), .inl (cA 0, 2880, .inl (fun _ => 0))), (q16, .inr (4, [.ref (u20 18), .ref (u20 19), .ref (u20 20)])), ((u20 18), .inl (cA 0, 2880, .inl (fun _ => 0))), ((u20 19), .inl (cA 0, 120, .inl (fun _ => 0))), ((u20 20), .inl (cA 0, 120, .inl (fun _ => 0)))] := hD
  refine lv_aload_n hx hb di_5_26 rfl (lv_at hl 0 rfl) ?_
  have e27 : 15 + 1 ≤ 26 := Nat.le_of_ble_eq_true rfl
  have f27 : 9239 + 5 ≤ 9430 := Nat.le_of_ble_eq_true rfl
  refine va_new (ci := 1) (fs := [.null, .null, .null, .int 0, .int 0]) (C := RX1) (T := TX1) (N := 5) hx hb hw (sd_u (c := 1) (by decide)).1 tyX1 tyX1_ok hown (hw _ (aw_t (n := 90) (by decide +kernel) rfl)) (hw _ (aw_t (n := 91) (by decide +kernel) rfl)) (hw _ (aw_t (n := 5) (by decide +kernel) rfl)) hK hP hD hS hA rfl (fun j hj => by rcases (show j = 0 ∨ j = 1 ∨ j = 2 ∨ j = 3 ∨ j = 4 by omega) with rfl | rfl | rfl | rfl | rfl <;> rfl) e27 f27 di_5_27 (fun q27 H hP hD hS => ?_)
  have hP : va_P D qw_cl [(h0, .inr (5, [.ref q5, .ref q16, .null, .null, .null, .int 0])), (q5, .inr (3, [.ref (u9 9), .ref (u9 10), .ref (u9 11), .int 0, .ref (u9 2), .ref (u9 12), .ref (u9 13)])), ((u9 9), .inl (cA 0, 8, .inl (fun _ => 0))), ((u9 10), .inl (cA 0, 8, .inl (fun _ => 0))), ((u9 11), .inl (cA 0, 8, .inl (fun _ => 0))), ((u9 2), .inr (2, [.ref (u9 14), .ref (u9 15), .ref (u9 16), .ref (u9 17), .int 0])), ((u9 14), .inl (cA 0, 80, .inl (fun _ => 0))), ((u9 15), .inl (cA 0, 80, .inl (fun _ => 0))), ((u9 16), .inl (cA 0, 80, .inl (fun _ => 0))), ((u9 17), .inl (cA 1, 80, .inl (fun _ => 0))), ((u9 12), .inl (cA 0, 2880, .inl (fun _ => 0))), ((u9 13), .inl (cA 0, 2880, .inl (fun _ => 0))), (q16, .inr (4, [.ref (u20 18), .ref (u20 19), .ref (u20 20)])), ((u20 18), .inl (cA 0, 2880, .inl (fun _ => 0))), ((u20 19), .inl (cA 0, 120, .inl (fun _ => 0))), ((u20 20), .inl (cA 0, 120, .inl (fun _ => 0))), (q27, .inr (1, [.null, .null, .null, .int 0, .int 0]))] H := hP
  have hD : va_D A [(h0, .inr (5, [.ref q5, .ref q16, .null, .null, .null, .int 0])), (q5, .inr (3, [.ref (u9 9), .ref (u9 10), .ref (u9 11), .int 0, .ref (u9 2), .ref (u9 12), .ref (u9 13)])), ((u9 9), .inl (cA 0, 8, .inl (fun _ => 0))), ((u9 10), .inl (cA 0, 8, .inl (fun _ => 0))), ((u9 11), .inl (cA 0, 8, .inl (fun _ => 0))), ((u9 2), .inr (2, [.ref (u9 14), .ref (u9 15), .ref (u9 16), .ref (u9 17), .int 0])), ((u9 14), .inl (cA 0, 80, .inl (fun _ => 0))), ((u9 15), .inl (cA 0, 80, .inl (fun _ => 0))), ((u9 16), .inl (cA 0, 80, .inl (fun _ => 0))), ((u9 17), .inl (cA 1, 80, .inl (fun _ => 0))), ((u9 12), .inl (cA 0, 2880, .inl (fun _ => 0))), ((u9 13), .inl (cA 0, 2880, .inl (fun _ => 0))), (q16, .inr (4, [.ref (u20 18), .ref (u20 19), .ref (u20 20)])), ((u20 18), .inl (cA 0, 2880, .inl (fun _ => 0))), ((u20 19), .inl (cA 0, 120, .inl (fun _ => 0))), ((u20 20), .inl (cA 0, 120, .inl (fun _ => 0))), (q27, .inr (1, [.null, .null, .null, .int 0, .int 0]))] := hD
  refine W.widen (k := 16) (n := 9244) (Nat.le_refl _) (Nat.le_of_ble_eq_true rfl) ?_
  refine lv_dup hx hb di_5_30 rfl ?_
  have hPc := hP.sub (ws' := [(q27, qn_e1)]) [16] rfl
  have hDc := hD.sub (ws' := [(q27, qn_e1)]) [16] (by decide) rfl
  have hFc := va_free (wc := [(q27, qn_e1)]) hD hS hA [16] rfl
  have e31 : 16 + 3 ≤ 26 := Nat.le_of_ble_eq_true rfl
  have f31 : 9244 + 140 ≤ 9430 := Nat.le_of_ble_eq_true rfl
  refine va_callv (va_runIN (As := []) (rest := [.ref q27, .ref h0]) ⟨hx, hb, hml, hown, hw⟩ (qn_m1 l D cA q27 H.size) ⟨va_cnB 0 hw (aw_good qn_g1 qn_g1) rfl rfl rfl (hN _ (List.mem_append_right _ (List.mem_of_getElem? (i := 92) (by decide +kernel))) RX5 25 ⟨RX1, "<init>", "()V"⟩ "KeyframeCourt" rfl) (hw _ (aw_t (n := 5) (by decide +kernel) rfl)) (by decide +kernel) ⟨Nat.le_of_ble_eq_true rfl, Nat.le_of_ble_eq_true rfl⟩, rfl, hw _ (aw_t (n := 93) (by decide +kernel) rfl)⟩ ⟨qn_Pc_b, fun U hU hW => ⟨rfl, by rw [hU], by rw [hU]; exact hPc, va_K.moved hW.alike hK, hDc.weaken (fun _ _ _ _ => trivial), qw_nest_w hW hN⟩⟩ rfl rfl hl.1 rfl (lv_room (Nat.le_of_ble_eq_true rfl)) di_5_31 ⟨e31, f31⟩) hS (fun q _ h => hFc q h) hFc (fun u31 t H1 locs ht hvm _ hB hz1 hk1 hS => ?_)
  obtain ⟨hP1, hD1⟩ := hB
  rw [ht] at hP1
  obtain ⟨hP, hD⟩ := va_join (wr := [(h0, .inr (5, [.ref q5, .ref q16, .null, .null, .null, .int 0])), (q5, .inr (3, [.ref (u9 9), .ref (u9 10), .ref (u9 11), .int 0, .ref (u9 2), .ref (u9 12), .ref (u9 13)])), ((u9 9), .inl (cA 0, 8, .inl (fun _ => 0))), ((u9 10), .inl (cA 0, 8, .inl (fun _ => 0))), ((u9 11), .inl (cA 0, 8, .inl (fun _ => 0))), ((u9 2), .inr (2, [.ref (u9 14), .ref (u9 15), .ref (u9 16), .ref (u9 17), .int 0])), ((u9 14), .inl (cA 0, 80, .inl (fun _ => 0))), ((u9 15), .inl (cA 0, 80, .inl (fun _ => 0))), ((u9 16), .inl (cA 0, 80, .inl (fun _ => 0))), ((u9 17), .inl (cA 1, 80, .inl (fun _ => 0))), ((u9 12), .inl (cA 0, 2880, .inl (fun _ => 0))), ((u9 13), .inl (cA 0, 2880, .inl (fun _ => 0))), (q16, .inr (4, [.ref (u20 18), .ref (u20 19), .ref (u20 20)])), ((u20 18), .inl (cA 0, 2880, .inl (fun _ => 0))), ((u20 19), .inl (cA 0, 120, .inl (fun _ => 0))), ((u20 20), .inl (cA 0, 120, .inl (fun _ => 0)))]) (w1 := [(q27, .inr (1, [.ref (u31 21), .ref (u31 22), .ref (u31 23), .int 0, .int 0])), ((u31 21), .inl (cA 0, 10, .inl (fun _ => 0))), ((u31 22), .inl (cA 0, 10, .inl (fun _ => 0))), ((u31 23), .inl (cA 0, 120, .inl (fun _ => 0)))]) hP hD [16] [0, 1, 2, 3, 4, 5, 6, 7, 8, 9, 10, 11, 12, 13, 14, 15] rfl rfl (by decide) (by decide) hk1 hFc hP1 hD1
  generalize H1 = H at hP hS ⊢
  have hP : va_P D qw_cl [(h0, .inr (5, [.ref q5, .ref q16, .null, .null, .null, .int 0])), (q5, .inr (3, [.ref (u9 9), .ref (u9 10), .ref (u9 11), .int 0, .ref (u9 2), .ref (u9 12), .ref (u9 13)])), ((u9 9), .inl (cA 0, 8, .inl (fun _ => 0))), ((u9 10), .inl (cA 0, 8, .inl (fun _ => 0))), ((u9 11), .inl (cA 0, 8, .inl (fun _ => 0))), ((u9 2), .inr (2, [.ref (u9 14), .ref (u9 15), .ref (u9 16), .ref (u9 17), .int 0])), ((u9 14), .inl (cA 0, 80, .inl (fun _ => 0))), ((u9 15), .inl (cA 0, 80, .inl (fun _ => 0))), ((u9 16), .inl (cA 0, 80, .inl (fun _ => 0))), ((u9 17), .inl (cA 1, 80, .inl (fun _ => 0))), ((u9 12), .inl (cA 0, 2880, .inl (fun _ => 0))), ((u9 13), .inl (cA 0, 2880, .inl (fun _ => 0))), (q16, .inr (4, [.ref (u20 18), .ref (u20 19), .ref (u20 20)])), ((u20 18), .inl (cA 0, 2880, .inl (fun _ => 0))), ((u20 19), .inl (cA 0, 120, .inl (fun _ => 0))), ((u20 20), .inl (cA 0, 120, .inl (fun _ => 0))), (q27, .inr (1, [.ref (u31 21), .ref (u31 22), .ref (u31 23), .int 0, .int 0])), ((u31 21), .inl (cA 0, 10, .inl (fun _ => 0))), ((u31 22), .inl (cA 0, 10, .inl (fun _ => 0))), ((u31 23), .inl (cA 0, 120, .inl (fun _ => 0)))] H := hP
  have hD : va_D A [(h0, .inr (5, [.ref q5, .ref q16, .null, .null, .null, .int 0])), (q5, .inr (3, [.ref (u9 9), .ref (u9 10), .ref (u9 11), .int 0, .ref (u9 2), .ref (u9 12), .ref (u9 13)])), ((u9 9), .inl (cA 0, 8, .inl (fun _ => 0))), ((u9 10), .inl (cA 0, 8, .inl (fun _ => 0))), ((u9 11), .inl (cA 0, 8, .inl (fun _ => 0))), ((u9 2), .inr (2, [.ref (u9 14), .ref (u9 15), .ref (u9 16), .ref (u9 17), .int 0])), ((u9 14), .inl (cA 0, 80, .inl (fun _ => 0))), ((u9 15), .inl (cA 0, 80, .inl (fun _ => 0))), ((u9 16), .inl (cA 0, 80, .inl (fun _ => 0))), ((u9 17), .inl (cA 1, 80, .inl (fun _ => 0))), ((u9 12), .inl (cA 0, 2880, .inl (fun _ => 0))), ((u9 13), .inl (cA 0, 2880, .inl (fun _ => 0))), (q16, .inr (4, [.ref (u20 18), .ref (u20 19), .ref (u20 20)])), ((u20 18), .inl (cA 0, 2880, .inl (fun _ => 0))), ((u20 19), .inl (cA 0, 120, .inl (fun _ => 0))), ((u20 20), .inl (cA 0, 120, .inl (fun _ => 0))), (q27, .inr (1, [.ref (u31 21), .ref (u31 22), .ref (u31 23), .int 0, .int 0])), ((u31 21), .inl (cA 0, 10, .inl (fun _ => 0))), ((u31 22), .inl (cA 0, 10, .inl (fun _ => 0))), ((u31 23), .inl (cA 0, 120, .inl (fun _ => 0)))] := hD
  refine W.widen (k := 19) (n := 9384) (Nat.le_refl _) (Nat.le_of_ble_eq_true rfl) ?_
  refine va_putF (D := D) (own := RX5) (ref := RX5) (C := RX5) (T := TX5) (N := 6) (ci := 5) (v := .ref q27) (ty := .object "KeyframeCourt$Film") hx hb hw (sd_u (c := 5) (by decide)).1 tyX5 tyX5_ok nmX5 hown hK hP hD hS 0 rfl rfl 2 (by decide) (hw _ (aw_t (n := 145) (by decide +kernel) rfl)) (fun _ h9 => h9) rfl hin rfl (by decide +kernel) rfl rfl (Nat.le_of_ble_eq_true rfl) di_5_34 (fun H locs hP hD hS => ?_)
  have hP : va_P D qw_cl [(h0, .inr (5, [.ref q5, .ref q16, .ref q27, .null, .null, .int 0])), (q5, .inr (3, [.ref (u9 9), .ref (u9 10), .ref (u9 11), .int 0, .ref (u9 2), .ref (u9 12), .ref (u9 13)])), ((u9 9), .inl (cA 0, 8, .inl (fun _ => 0))), ((u9 10), .inl (cA 0, 8, .inl (fun _ => 0))), ((u9 11), .inl (cA 0, 8, .inl (fun _ => 0))), ((u9 2), .inr (2, [.ref (u9 14), .ref (u9 15), .ref (u9 16), .ref (u9 17), .int 0])), ((u9 14), .inl (cA 0, 80, .inl (fun _ => 0))), ((u9 15), .inl (cA 0, 80, .inl (fun _ => 0))), ((u9 16), .inl (cA 0, 80, .inl (fun _ => 0))), ((u9 17), .inl (cA 1, 80, .inl (fun _ => 0))), ((u9 12), .inl (cA 0, 2880, .inl (fun _ => 0))), ((u9 13), .inl (cA 0, 2880, .inl (fun _ => 0))), (q16, .inr (4, [.ref (u20 18), .ref (u20 19), .ref (u20 20)])), ((u20 18), .inl (cA 0, 2880, .inl (fun _ => 0))), ((u20 19), .inl (cA 0, 120, .inl (fun _ => 0))), ((u20 20), .inl (cA 0, 120, .inl (fun _ => 0))), (q27, .inr (1, [.ref (u31 21), .ref (u31 22), .ref (u31 23), .int 0, .int 0])), ((u31 21), .inl (cA 0, 10, .inl (fun _ => 0))), ((u31 22), .inl (cA 0, 10, .inl (fun _ => 0))), ((u31 23), .inl (cA 0, 120, .inl (fun _ => 0)))] H := hP
  have hD : va_D A [(h0, .inr (5, [.ref q5, .ref q16, .ref q27, .null, .null, .int 0])), (q5, .inr (3, [.ref (u9 9), .ref (u9 10), .ref (u9 11), .int 0, .ref (u9 2), .ref (u9 12), .ref (u9 13)])), ((u9 9), .inl (cA 0, 8, .inl (fun _ => 0))), ((u9 10), .inl (cA 0, 8, .inl (fun _ => 0))), ((u9 11), .inl (cA 0, 8, .inl (fun _ => 0))), ((u9 2), .inr (2, [.ref (u9 14), .ref (u9 15), .ref (u9 16), .ref (u9 17), .int 0])), ((u9 14), .inl (cA 0, 80, .inl (fun _ => 0))), ((u9 15), .inl (cA 0, 80, .inl (fun _ => 0))), ((u9 16), .inl (cA 0, 80, .inl (fun _ => 0))), ((u9 17), .inl (cA 1, 80, .inl (fun _ => 0))), ((u9 12), .inl (cA 0, 2880, .inl (fun _ => 0))), ((u9 13), .inl (cA 0, 2880, .inl (fun _ => 0))), (q16, .inr (4, [.ref (u20 18), .ref (u20 19), .ref (u20 20)])), ((u20 18), .inl (cA 0, 2880, .inl (fun _ => 0))), ((u20 19), .inl (cA 0, 120, .inl (fun _ => 0))), ((u20 20), .inl (cA 0, 120, .inl (fun _ => 0))), (q27, .inr (1, [.ref (u31 21), .ref (u31 22), .ref (u31 23), .int 0, .int 0])), ((u31 21), .inl (cA 0, 10, .inl (fun _ => 0))), ((u31 22), .inl (cA 0, 10, .inl (fun _ => 0))), ((u31 23), .inl (cA 0, 120, .inl (fun _ => 0)))] := hD
  refine lv_aload_n hx hb di_5_37 rfl (lv_at hl 0 rfl) ?_
  have e38 : 19 + 1 ≤ 26 := Nat.le_of_ble_eq_true rfl
  have f38 : 9384 + 8 ≤ 9430 := Nat.le_of_ble_eq_true rfl
  refine va_new (ci := 0) (fs := [.null, .null, .null, .int 0, .null, .null, .int 0, .int 0]) (C := RX0) (T := TX0) (N := 8) hx hb hw (sd_u (c := 0) (by decide)).1 tyX0 tyX0_ok hown (hw _ (aw_t (n := 112) (by decide +kernel) rfl)) (hw _ (aw_t (n := 113) (by decide +kernel) rfl)) (hw _ (aw_t (n := 6) (by decide +kernel) rfl)) hK hP hD hS hA rfl (fun j hj => by rcases (show j = 0 ∨ j = 1 ∨ j = 2 ∨ j = 3 ∨ j = 4 ∨ j = 5 ∨ j = 6 ∨ j = 7 by omega) with rfl | rfl | rfl | rfl | rfl | rfl | rfl | rfl <;> rfl) e38 f38 di_5_38 (fun q38 H hP hD hS => ?_)
  have hP : va_P D qw_cl [(h0, .inr (5, [.ref q5, .ref q16, .ref q27, .null, .null, .int 0])), (q5, .inr (3, [.ref (u9 9), .ref (u9 10), .ref (u9 11), .int 0, .ref (u9 2), .ref (u9 12), .ref (u9 13)])), ((u9 9), .inl (cA 0, 8, .inl (fun _ => 0))), ((u9 10), .inl (cA 0, 8, .inl (fun _ => 0))), ((u9 11), .inl (cA 0, 8, .inl (fun _ => 0))), ((u9 2), .inr (2, [.ref (u9 14), .ref (u9 15), .ref (u9 16), .ref (u9 17), .int 0])), ((u9 14), .inl (cA 0, 80, .inl (fun _ => 0))), ((u9 15), .inl (cA 0, 80, .inl (fun _ => 0))), ((u9 16), .inl (cA 0, 80, .inl (fun _ => 0))), ((u9 17), .inl (cA 1, 80, .inl (fun _ => 0))), ((u9 12), .inl (cA 0, 2880, .inl (fun _ => 0))), ((u9 13), .inl (cA 0, 2880, .inl (fun _ => 0))), (q16, .inr (4, [.ref (u20 18), .ref (u20 19), .ref (u20 20)])), ((u20 18), .inl (cA 0, 2880, .inl (fun _ => 0))), ((u20 19), .inl (cA 0, 120, .inl (fun _ => 0))), ((u20 20), .inl (cA 0, 120, .inl (fun _ => 0))), (q27, .inr (1, [.ref (u31 21), .ref (u31 22), .ref (u31 23), .int 0, .int 0])), ((u31 21), .inl (cA 0, 10, .inl (fun _ => 0))), ((u31 22), .inl (cA 0, 10, .inl (fun _ => 0))), ((u31 23), .inl (cA 0, 120, .inl (fun _ => 0))), (q38, .inr (0, [.null, .null, .null, .int 0, .null, .null, .int 0, .int 0]))] H := hP
  have hD : va_D A [(h0, .inr (5, [.ref q5, .ref q16, .ref q27, .null, .null, .int 0])), (q5, .inr (3, [.ref (u9 9), .ref (u9 10), .ref (u9 11), .int 0, .ref (u9 2), .ref (u9 12), .ref (u9 13)])), ((u9 9), .inl (cA 0, 8, .inl (fun _ => 0))), ((u9 10), .inl (cA 0, 8, .inl (fun _ => 0))), ((u9 11), .inl (cA 0, 8, .inl (fun _ => 0))), ((u9 2), .inr (2, [.ref (u9 14), .ref (u9 15), .ref (u9 16), .ref (u9 17), .int 0])), ((u9 14), .inl (cA 0, 80, .inl (fun _ => 0))), ((u9 15), .inl (cA 0, 80, .inl (fun _ => 0))), ((u9 16), .inl (cA 0, 80, .inl (fun _ => 0))), ((u9 17), .inl (cA 1, 80, .inl (fun _ => 0))), ((u9 12), .inl (cA 0, 2880, .inl (fun _ => 0))), ((u9 13), .inl (cA 0, 2880, .inl (fun _ => 0))), (q16, .inr (4, [.ref (u20 18), .ref (u20 19), .ref (u20 20)])), ((u20 18), .inl (cA 0, 2880, .inl (fun _ => 0))), ((u20 19), .inl (cA 0, 120, .inl (fun _ => 0))), ((u20 20), .inl (cA 0, 120, .inl (fun _ => 0))), (q27, .inr (1, [.ref (u31 21), .ref (u31 22), .ref (u31 23), .int 0, .int 0])), ((u31 21), .inl (cA 0, 10, .inl (fun _ => 0))), ((u31 22), .inl (cA 0, 10, .inl (fun _ => 0))), ((u31 23), .inl (cA 0, 120, .inl (fun _ => 0))), (q38, .inr (0, [.null, .null, .null, .int 0, .null, .null, .int 0, .int 0]))] := hD
  refine W.widen (k := 20) (n := 9392) (Nat.le_refl _) (Nat.le_of_ble_eq_true rfl) ?_
  refine lv_dup hx hb di_5_41 rfl ?_
  have hPc := hP.sub (ws' := [(q38, qn_e0)]) [20] rfl
  have hDc := hD.sub (ws' := [(q38, qn_e0)]) [20] (by decide) rfl
  have hFc := va_free (wc := [(q38, qn_e0)]) hD hS hA [20] rfl
  have e42 : 20 + 5 ≤ 26 := Nat.le_of_ble_eq_true rfl
  have f42 : 9392 + 32 ≤ 9430 := Nat.le_of_ble_eq_true rfl
  refine va_callv (va_runIN (As := []) (rest := [.ref q38, .ref h0]) ⟨hx, hb, hml, hown, hw⟩ (qn_m0 l D cA q38 H.size) ⟨va_cnB 0 hw (aw_good qn_g0 qn_g0) rfl rfl rfl (hN _ (List.mem_append_right _ (List.mem_of_getElem? (i := 114) (by decide +kernel))) RX5 32 ⟨RX0, "<init>", "()V"⟩ "KeyframeCourt" rfl) (hw _ (aw_t (n := 6) (by decide +kernel) rfl)) (by decide +kernel) ⟨Nat.le_of_ble_eq_true rfl, Nat.le_of_ble_eq_true rfl⟩, rfl, hw _ (aw_t (n := 115) (by decide +kernel) rfl)⟩ ⟨qn_Pc_b, fun U hU hW => ⟨rfl, by rw [hU], by rw [hU]; exact hPc, va_K.moved hW.alike hK, hDc.weaken (fun _ _ _ _ => trivial), qw_nest_w hW hN⟩⟩ rfl rfl hl.1 rfl (lv_room (Nat.le_of_ble_eq_true rfl)) di_5_42 ⟨e42, f42⟩) hS (fun q _ h => hFc q h) hFc (fun u42 t H1 locs ht hvm _ hB hz1 hk1 hS => ?_)
  obtain ⟨hP1, hD1⟩ := hB
  rw [ht] at hP1
  obtain ⟨hP, hD⟩ := va_join (wr := [(h0, .inr (5, [.ref q5, .ref q16, .ref q27, .null, .null, .int 0])), (q5, .inr (3, [.ref (u9 9), .ref (u9 10), .ref (u9 11), .int 0, .ref (u9 2), .ref (u9 12), .ref (u9 13)])), ((u9 9), .inl (cA 0, 8, .inl (fun _ => 0))), ((u9 10), .inl (cA 0, 8, .inl (fun _ => 0))), ((u9 11), .inl (cA 0, 8, .inl (fun _ => 0))), ((u9 2), .inr (2, [.ref (u9 14), .ref (u9 15), .ref (u9 16), .ref (u9 17), .int 0])), ((u9 14), .inl (cA 0, 80, .inl (fun _ => 0))), ((u9 15), .inl (cA 0, 80, .inl (fun _ => 0))), ((u9 16), .inl (cA 0, 80, .inl (fun _ => 0))), ((u9 17), .inl (cA 1, 80, .inl (fun _ => 0))), ((u9 12), .inl (cA 0, 2880, .inl (fun _ => 0))), ((u9 13), .inl (cA 0, 2880, .inl (fun _ => 0))), (q16, .inr (4, [.ref (u20 18), .ref (u20 19), .ref (u20 20)])), ((u20 18), .inl (cA 0, 2880, .inl (fun _ => 0))), ((u20 19), .inl (cA 0, 120, .inl (fun _ => 0))), ((u20 20), .inl (cA 0, 120, .inl (fun _ => 0))), (q27, .inr (1, [.ref (u31 21), .ref (u31 22), .ref (u31 23), .int 0, .int 0])), ((u31 21), .inl (cA 0, 10, .inl (fun _ => 0))), ((u31 22), .inl (cA 0, 10, .inl (fun _ => 0))), ((u31 23), .inl (cA 0, 120, .inl (fun _ => 0)))]) (w1 := [(q38, .inr (0, [.ref (u42 24), .ref (u42 25), .ref (u42 26), .int 0, .ref (u42 27), .ref (u42 28), .int 0, .int 0])), ((u42 24), .inl (cA 0, 4, .inl (fun _ => 0))), ((u42 25), .inl (cA 0, 4, .inl (fun _ => 0))), ((u42 26), .inl (cA 1, 4, .inl (fun _ => 0))), ((u42 27), .inl (cA 0, 10, .inl (fun _ => 0))), ((u42 28), .inl (cA 0, 10, .inl (fun _ => 0)))]) hP hD [20] [0, 1, 2, 3, 4, 5, 6, 7, 8, 9, 10, 11, 12, 13, 14, 15, 16, 17, 18, 19] rfl rfl (by decide) (by decide) hk1 hFc hP1 hD1
  generalize H1 = H at hP hS ⊢
  have hP : va_P D qw_cl [(h0, .inr (5, [.ref q5, .ref q16, .ref q27, .null, .null, .int 0])), (q5, .inr (3, [.ref (u9 9), .ref (u9 10), .ref (u9 11), .int 0, .ref (u9 2), .ref (u9 12), .ref (u9 13)])), ((u9 9), .inl (cA 0, 8, .inl (fun _ => 0))), ((u9 10), .inl (cA 0, 8, .inl (fun _ => 0))), ((u9 11), .inl (cA 0, 8, .inl (fun _ => 0))), ((u9 2), .inr (2, [.ref (u9 14), .ref (u9 15), .ref (u9 16), .ref (u9 17), .int 0])), ((u9 14), .inl (cA 0, 80, .inl (fun _ => 0))), ((u9 15), .inl (cA 0, 80, .inl (fun _ => 0))), ((u9 16), .inl (cA 0, 80, .inl (fun _ => 0))), ((u9 17), .inl (cA 1, 80, .inl (fun _ => 0))), ((u9 12), .inl (cA 0, 2880, .inl (fun _ => 0))), ((u9 13), .inl (cA 0, 2880, .inl (fun _ => 0))), (q16, .inr (4, [.ref (u20 18), .ref (u20 19), .ref (u20 20)])), ((u20 18), .inl (cA 0, 2880, .inl (fun _ => 0))), ((u20 19), .inl (cA 0, 120, .inl (fun _ => 0))), ((u20 20), .inl (cA 0, 120, .inl (fun _ => 0))), (q27, .inr (1, [.ref (u31 21), .ref (u31 22), .ref (u31 23), .int 0, .int 0])), ((u31 21), .inl (cA 0, 10, .inl (fun _ => 0))), ((u31 22), .inl (cA 0, 10, .inl (fun _ => 0))), ((u31 23), .inl (cA 0, 120, .inl (fun _ => 0))), (q38, .inr (0, [.ref (u42 24), .ref (u42 25), .ref (u42 26), .int 0, .ref (u42 27), .ref (u42 28), .int 0, .int 0])), ((u42 24), .inl (cA 0, 4, .inl (fun _ => 0))), ((u42 25), .inl (cA 0, 4, .inl (fun _ => 0))), ((u42 26), .inl (cA 1, 4, .inl (fun _ => 0))), ((u42 27), .inl (cA 0, 10, .inl (fun _ => 0))), ((u42 28), .inl (cA 0, 10, .inl (fun _ => 0)))] H := hP
  have hD : va_D A [(h0, .inr (5, [.ref q5, .ref q16, .ref q27, .null, .null, .int 0])), (q5, .inr (3, [.ref (u9 9), .ref (u9 10), .ref (u9 11), .int 0, .ref (u9 2), .ref (u9 12), .ref (u9 13)])), ((u9 9), .inl (cA 0, 8, .inl (fun _ => 0))), ((u9 10), .inl (cA 0, 8, .inl (fun _ => 0))), ((u9 11), .inl (cA 0, 8, .inl (fun _ => 0))), ((u9 2), .inr (2, [.ref (u9 14), .ref (u9 15), .ref (u9 16), .ref (u9 17), .int 0])), ((u9 14), .inl (cA 0, 80, .inl (fun _ => 0))), ((u9 15), .inl (cA 0, 80, .inl (fun _ => 0))), ((u9 16), .inl (cA 0, 80, .inl (fun _ => 0))), ((u9 17), .inl (cA 1, 80, .inl (fun _ => 0))), ((u9 12), .inl (cA 0, 2880, .inl (fun _ => 0))), ((u9 13), .inl (cA 0, 2880, .inl (fun _ => 0))), (q16, .inr (4, [.ref (u20 18), .ref (u20 19), .ref (u20 20)])), ((u20 18), .inl (cA 0, 2880, .inl (fun _ => 0))), ((u20 19), .inl (cA 0, 120, .inl (fun _ => 0))), ((u20 20), .inl (cA 0, 120, .inl (fun _ => 0))), (q27, .inr (1, [.ref (u31 21), .ref (u31 22), .ref (u31 23), .int 0, .int 0])), ((u31 21), .inl (cA 0, 10, .inl (fun _ => 0))), ((u31 22), .inl (cA 0, 10, .inl (fun _ => 0))), ((u31 23), .inl (cA 0, 120, .inl (fun _ => 0))), (q38, .inr (0, [.ref (u42 24), .ref (u42 25), .ref (u42 26), .int 0, .ref (u42 27), .ref (u42 28), .int 0, .int 0])), ((u42 24), .inl (cA 0, 4, .inl (fun _ => 0))), ((u42 25), .inl (cA 0, 4, .inl (fun _ => 0))), ((u42 26), .inl (cA 1, 4, .inl (fun _ => 0))), ((u42 27), .inl (cA 0, 10, .inl (fun _ => 0))), ((u42 28), .inl (cA 0, 10, .inl (fun _ => 0)))] := hD
  refine W.widen (k := 25) (n := 9424) (Nat.le_refl _) (Nat.le_of_ble_eq_true rfl) ?_
  refine va_putF (D := D) (own := RX5) (ref := RX5) (C := RX5) (T := TX5) (N := 6) (ci := 5) (v := .ref q38) (ty := .object "KeyframeCourt$Farm") hx hb hw (sd_u (c := 5) (by decide)).1 tyX5 tyX5_ok nmX5 hown hK hP hD hS 0 rfl rfl 3 (by decide) (hw _ (aw_t (n := 146) (by decide +kernel) rfl)) (fun _ h9 => h9) rfl hin rfl (by decide +kernel) rfl rfl (Nat.le_of_ble_eq_true rfl) di_5_45 (fun H locs hP hD hS => ?_)
  have hP : va_P D qw_cl [(h0, .inr (5, [.ref q5, .ref q16, .ref q27, .ref q38, .null, .int 0])), (q5, .inr (3, [.ref (u9 9), .ref (u9 10), .ref (u9 11), .int 0, .ref (u9 2), .ref (u9 12), .ref (u9 13)])), ((u9 9), .inl (cA 0, 8, .inl (fun _ => 0))), ((u9 10), .inl (cA 0, 8, .inl (fun _ => 0))), ((u9 11), .inl (cA 0, 8, .inl (fun _ => 0))), ((u9 2), .inr (2, [.ref (u9 14), .ref (u9 15), .ref (u9 16), .ref (u9 17), .int 0])), ((u9 14), .inl (cA 0, 80, .inl (fun _ => 0))), ((u9 15), .inl (cA 0, 80, .inl (fun _ => 0))), ((u9 16), .inl (cA 0, 80, .inl (fun _ => 0))), ((u9 17), .inl (cA 1, 80, .inl (fun _ => 0))), ((u9 12), .inl (cA 0, 2880, .inl (fun _ => 0))), ((u9 13), .inl (cA 0, 2880, .inl (fun _ => 0))), (q16, .inr (4, [.ref (u20 18), .ref (u20 19), .ref (u20 20)])), ((u20 18), .inl (cA 0, 2880, .inl (fun _ => 0))), ((u20 19), .inl (cA 0, 120, .inl (fun _ => 0))), ((u20 20), .inl (cA 0, 120, .inl (fun _ => 0))), (q27, .inr (1, [.ref (u31 21), .ref (u31 22), .ref (u31 23), .int 0, .int 0])), ((u31 21), .inl (cA 0, 10, .inl (fun _ => 0))), ((u31 22), .inl (cA 0, 10, .inl (fun _ => 0))), ((u31 23), .inl (cA 0, 120, .inl (fun _ => 0))), (q38, .inr (0, [.ref (u42 24), .ref (u42 25), .ref (u42 26), .int 0, .ref (u42 27), .ref (u42 28), .int 0, .int 0])), ((u42 24), .inl (cA 0, 4, .inl (fun _ => 0))), ((u42 25), .inl (cA 0, 4, .inl (fun _ => 0))), ((u42 26), .inl (cA 1, 4, .inl (fun _ => 0))), ((u42 27), .inl (cA 0, 10, .inl (fun _ => 0))), ((u42 28), .inl (cA 0, 10, .inl (fun _ => 0)))] H := hP
  have hD : va_D A [(h0, .inr (5, [.ref q5, .ref q16, .ref q27, .ref q38, .null, .int 0])), (q5, .inr (3, [.ref (u9 9), .ref (u9 10), .ref (u9 11), .int 0, .ref (u9 2), .ref (u9 12), .ref (u9 13)])), ((u9 9), .inl (cA 0, 8, .inl (fun _ => 0))), ((u9 10), .inl (cA 0, 8, .inl (fun _ => 0))), ((u9 11), .inl (cA 0, 8, .inl (fun _ => 0))), ((u9 2), .inr (2, [.ref (u9 14), .ref (u9 15), .ref (u9 16), .ref (u9 17), .int 0])), ((u9 14), .inl (cA 0, 80, .inl (fun _ => 0))), ((u9 15), .inl (cA 0, 80, .inl (fun _ => 0))), ((u9 16), .inl (cA 0, 80, .inl (fun _ => 0))), ((u9 17), .inl (cA 1, 80, .inl (fun _ => 0))), ((u9 12), .inl (cA 0, 2880, .inl (fun _ => 0))), ((u9 13), .inl (cA 0, 2880, .inl (fun _ => 0))), (q16, .inr (4, [.ref (u20 18), .ref (u20 19), .ref (u20 20)])), ((u20 18), .inl (cA 0, 2880, .inl (fun _ => 0))), ((u20 19), .inl (cA 0, 120, .inl (fun _ => 0))), ((u20 20), .inl (cA 0, 120, .inl (fun _ => 0))), (q27, .inr (1, [.ref (u31 21), .ref (u31 22), .ref (u31 23), .int 0, .int 0])), ((u31 21), .inl (cA 0, 10, .inl (fun _ => 0))), ((u31 22), .inl (cA 0, 10, .inl (fun _ => 0))), ((u31 23), .inl (cA 0, 120, .inl (fun _ => 0))), (q38, .inr (0, [.ref (u42 24), .ref (u42 25), .ref (u42 26), .int 0, .ref (u42 27), .ref (u42 28), .int 0, .int 0])), ((u42 24), .inl (cA 0, 4, .inl (fun _ => 0))), ((u42 25), .inl (cA 0, 4, .inl (fun _ => 0))), ((u42 26), .inl (cA 1, 4, .inl (fun _ => 0))), ((u42 27), .inl (cA 0, 10, .inl (fun _ => 0))), ((u42 28), .inl (cA 0, 10, .inl (fun _ => 0)))] := hD
  refine lv_aload_n hx hb di_5_48 rfl (lv_at hl 0 rfl) ?_
  refine lv_bipush hx hb di_5_49 (v := 6) rfl ?_
  have e51 : 25 + 1 ≤ 26 := Nat.le_of_ble_eq_true rfl
  have f51 : 9424 + 6 ≤ 9430 := Nat.le_of_ble_eq_true rfl
  refine va_newa (atype := .int) (ty := .int) (a0 := (6, .inl (fun _ => 0))) hx hb (hw _ (aw_t (n := 50) (by decide +kernel) rfl)) rfl hK hP hD hS hA (fun _ => rfl) (by decide) (show (6 : Int32).toNatClampNeg = 6 from rfl) (Nat.le_of_ble_eq_true rfl) e51 f51 di_5_51 (fun q51 cN H hKn hP hD hS => ?_)
  obtain rfl := qn_cA (t := 0) hKn rfl (fun _ => rfl)
  have hP : va_P D qw_cl [(h0, .inr (5, [.ref q5, .ref q16, .ref q27, .ref q38, .null, .int 0])), (q5, .inr (3, [.ref (u9 9), .ref (u9 10), .ref (u9 11), .int 0, .ref (u9 2), .ref (u9 12), .ref (u9 13)])), ((u9 9), .inl (cA 0, 8, .inl (fun _ => 0))), ((u9 10), .inl (cA 0, 8, .inl (fun _ => 0))), ((u9 11), .inl (cA 0, 8, .inl (fun _ => 0))), ((u9 2), .inr (2, [.ref (u9 14), .ref (u9 15), .ref (u9 16), .ref (u9 17), .int 0])), ((u9 14), .inl (cA 0, 80, .inl (fun _ => 0))), ((u9 15), .inl (cA 0, 80, .inl (fun _ => 0))), ((u9 16), .inl (cA 0, 80, .inl (fun _ => 0))), ((u9 17), .inl (cA 1, 80, .inl (fun _ => 0))), ((u9 12), .inl (cA 0, 2880, .inl (fun _ => 0))), ((u9 13), .inl (cA 0, 2880, .inl (fun _ => 0))), (q16, .inr (4, [.ref (u20 18), .ref (u20 19), .ref (u20 20)])), ((u20 18), .inl (cA 0, 2880, .inl (fun _ => 0))), ((u20 19), .inl (cA 0, 120, .inl (fun _ => 0))), ((u20 20), .inl (cA 0, 120, .inl (fun _ => 0))), (q27, .inr (1, [.ref (u31 21), .ref (u31 22), .ref (u31 23), .int 0, .int 0])), ((u31 21), .inl (cA 0, 10, .inl (fun _ => 0))), ((u31 22), .inl (cA 0, 10, .inl (fun _ => 0))), ((u31 23), .inl (cA 0, 120, .inl (fun _ => 0))), (q38, .inr (0, [.ref (u42 24), .ref (u42 25), .ref (u42 26), .int 0, .ref (u42 27), .ref (u42 28), .int 0, .int 0])), ((u42 24), .inl (cA 0, 4, .inl (fun _ => 0))), ((u42 25), .inl (cA 0, 4, .inl (fun _ => 0))), ((u42 26), .inl (cA 1, 4, .inl (fun _ => 0))), ((u42 27), .inl (cA 0, 10, .inl (fun _ => 0))), ((u42 28), .inl (cA 0, 10, .inl (fun _ => 0))), (q51, .inl (cA 0, 6, .inl (fun _ => 0)))] H := hP
  have hD : va_D A [(h0, .inr (5, [.ref q5, .ref q16, .ref q27, .ref q38, .null, .int 0])), (q5, .inr (3, [.ref (u9 9), .ref (u9 10), .ref (u9 11), .int 0, .ref (u9 2), .ref (u9 12), .ref (u9 13)])), ((u9 9), .inl (cA 0, 8, .inl (fun _ => 0))), ((u9 10), .inl (cA 0, 8, .inl (fun _ => 0))), ((u9 11), .inl (cA 0, 8, .inl (fun _ => 0))), ((u9 2), .inr (2, [.ref (u9 14), .ref (u9 15), .ref (u9 16), .ref (u9 17), .int 0])), ((u9 14), .inl (cA 0, 80, .inl (fun _ => 0))), ((u9 15), .inl (cA 0, 80, .inl (fun _ => 0))), ((u9 16), .inl (cA 0, 80, .inl (fun _ => 0))), ((u9 17), .inl (cA 1, 80, .inl (fun _ => 0))), ((u9 12), .inl (cA 0, 2880, .inl (fun _ => 0))), ((u9 13), .inl (cA 0, 2880, .inl (fun _ => 0))), (q16, .inr (4, [.ref (u20 18), .ref (u20 19), .ref (u20 20)])), ((u20 18), .inl (cA 0, 2880, .inl (fun _ => 0))), ((u20 19), .inl (cA 0, 120, .inl (fun _ => 0))), ((u20 20), .inl (cA 0, 120, .inl (fun _ => 0))), (q27, .inr (1, [.ref (u31 21), .ref (u31 22), .ref (u31 23), .int 0, .int 0])), ((u31 21), .inl (cA 0, 10, .inl (fun _ => 0))), ((u31 22), .inl (cA 0, 10, .inl (fun _ => 0))), ((u31 23), .inl (cA 0, 120, .inl (fun _ => 0))), (q38, .inr (0, [.ref (u42 24), .ref (u42 25), .ref (u42 26), .int 0, .ref (u42 27), .ref (u42 28), .int 0, .int 0])), ((u42 24), .inl (cA 0, 4, .inl (fun _ => 0))), ((u42 25), .inl (cA 0, 4, .inl (fun _ => 0))), ((u42 26), .inl (cA 1, 4, .inl (fun _ => 0))), ((u42 27), .inl (cA 0, 10, .inl (fun _ => 0))), ((u42 28), .inl (cA 0, 10, .inl (fun _ => 0))), (q51, .inl (cA 0, 6, .inl (fun _ => 0)))] := hD
  refine W.widen (k := 26) (n := 9430) (Nat.le_refl _) (Nat.le_of_ble_eq_true rfl) ?_
  refine va_putF (D := D) (own := RX5) (ref := RX5) (C := RX5) (T := TX5) (N := 6) (ci := 5) (v := .ref q51) (ty := .array .int) hx hb hw (sd_u (c := 5) (by decide)).1 tyX5 tyX5_ok nmX5 hown hK hP hD hS 0 rfl rfl 4 (by decide) (hw _ (aw_t (n := 147) (by decide +kernel) rfl)) (fun _ h9 => h9) rfl hin rfl (by decide +kernel) rfl rfl (Nat.le_of_ble_eq_true rfl) di_5_53 (fun H locs hP hD hS => ?_)
  have hP : va_P D qw_cl [(h0, .inr (5, [.ref q5, .ref q16, .ref q27, .ref q38, .ref q51, .int 0])), (q5, .inr (3, [.ref (u9 9), .ref (u9 10), .ref (u9 11), .int 0, .ref (u9 2), .ref (u9 12), .ref (u9 13)])), ((u9 9), .inl (cA 0, 8, .inl (fun _ => 0))), ((u9 10), .inl (cA 0, 8, .inl (fun _ => 0))), ((u9 11), .inl (cA 0, 8, .inl (fun _ => 0))), ((u9 2), .inr (2, [.ref (u9 14), .ref (u9 15), .ref (u9 16), .ref (u9 17), .int 0])), ((u9 14), .inl (cA 0, 80, .inl (fun _ => 0))), ((u9 15), .inl (cA 0, 80, .inl (fun _ => 0))), ((u9 16), .inl (cA 0, 80, .inl (fun _ => 0))), ((u9 17), .inl (cA 1, 80, .inl (fun _ => 0))), ((u9 12), .inl (cA 0, 2880, .inl (fun _ => 0))), ((u9 13), .inl (cA 0, 2880, .inl (fun _ => 0))), (q16, .inr (4, [.ref (u20 18), .ref (u20 19), .ref (u20 20)])), ((u20 18), .inl (cA 0, 2880, .inl (fun _ => 0))), ((u20 19), .inl (cA 0, 120, .inl (fun _ => 0))), ((u20 20), .inl (cA 0, 120, .inl (fun _ => 0))), (q27, .inr (1, [.ref (u31 21), .ref (u31 22), .ref (u31 23), .int 0, .int 0])), ((u31 21), .inl (cA 0, 10, .inl (fun _ => 0))), ((u31 22), .inl (cA 0, 10, .inl (fun _ => 0))), ((u31 23), .inl (cA 0, 120, .inl (fun _ => 0))), (q38, .inr (0, [.ref (u42 24), .ref (u42 25), .ref (u42 26), .int 0, .ref (u42 27), .ref (u42 28), .int 0, .int 0])), ((u42 24), .inl (cA 0, 4, .inl (fun _ => 0))), ((u42 25), .inl (cA 0, 4, .inl (fun _ => 0))), ((u42 26), .inl (cA 1, 4, .inl (fun _ => 0))), ((u42 27), .inl (cA 0, 10, .inl (fun _ => 0))), ((u42 28), .inl (cA 0, 10, .inl (fun _ => 0))), (q51, .inl (cA 0, 6, .inl (fun _ => 0)))] H := hP
  have hD : va_D A [(h0, .inr (5, [.ref q5, .ref q16, .ref q27, .ref q38, .ref q51, .int 0])), (q5, .inr (3, [.ref (u9 9), .ref (u9 10), .ref (u9 11), .int 0, .ref (u9 2), .ref (u9 12), .ref (u9 13)])), ((u9 9), .inl (cA 0, 8, .inl (fun _ => 0))), ((u9 10), .inl (cA 0, 8, .inl (fun _ => 0))), ((u9 11), .inl (cA 0, 8, .inl (fun _ => 0))), ((u9 2), .inr (2, [.ref (u9 14), .ref (u9 15), .ref (u9 16), .ref (u9 17), .int 0])), ((u9 14), .inl (cA 0, 80, .inl (fun _ => 0))), ((u9 15), .inl (cA 0, 80, .inl (fun _ => 0))), ((u9 16), .inl (cA 0, 80, .inl (fun _ => 0))), ((u9 17), .inl (cA 1, 80, .inl (fun _ => 0))), ((u9 12), .inl (cA 0, 2880, .inl (fun _ => 0))), ((u9 13), .inl (cA 0, 2880, .inl (fun _ => 0))), (q16, .inr (4, [.ref (u20 18), .ref (u20 19), .ref (u20 20)])), ((u20 18), .inl (cA 0, 2880, .inl (fun _ => 0))), ((u20 19), .inl (cA 0, 120, .inl (fun _ => 0))), ((u20 20), .inl (cA 0, 120, .inl (fun _ => 0))), (q27, .inr (1, [.ref (u31 21), .ref (u31 22), .ref (u31 23), .int 0, .int 0])), ((u31 21), .inl (cA 0, 10, .inl (fun _ => 0))), ((u31 22), .inl (cA 0, 10, .inl (fun _ => 0))), ((u31 23), .inl (cA 0, 120, .inl (fun _ => 0))), (q38, .inr (0, [.ref (u42 24), .ref (u42 25), .ref (u42 26), .int 0, .ref (u42 27), .ref (u42 28), .int 0, .int 0])), ((u42 24), .inl (cA 0, 4, .inl (fun _ => 0))), ((u42 25), .inl (cA 0, 4, .inl (fun _ => 0))), ((u42 26), .inl (cA 1, 4, .inl (fun _ => 0))), ((u42 27), .inl (cA 0, 10, .inl (fun _ => 0))), ((u42 28), .inl (cA 0, 10, .inl (fun _ => 0))), (q51, .inl (cA 0, 6, .inl (fun _ => 0)))] := hD
  refine lv_aload_n hx hb di_5_56 rfl (lv_at hl 0 rfl) ?_
  refine lv_iconst hx hb di_5_57 (v := 0) rfl ?_
  refine va_put (D := D) (own := RX5) (ref := RX5) (C := RX5) (T := TX5) (N := 6) (ci := 5) (v := .int 0) (ty := .int) hx hb hw (sd_u (c := 5) (by decide)).1 tyX5 tyX5_ok nmX5 hown hK hP hD hS 0 rfl rfl 5 (by decide) (hw _ (aw_t (n := 148) (by decide +kernel) rfl)) (fun _ h9 => h9) rfl (by decide +kernel) rfl rfl (Nat.le_of_ble_eq_true rfl) di_5_58 (fun H locs hP hD hS => ?_)
  have hP : va_P D qw_cl [(h0, .inr (5, [.ref q5, .ref q16, .ref q27, .ref q38, .ref q51, .int 0])), (q5, .inr (3, [.ref (u9 9), .ref (u9 10), .ref (u9 11), .int 0, .ref (u9 2), .ref (u9 12), .ref (u9 13)])), ((u9 9), .inl (cA 0, 8, .inl (fun _ => 0))), ((u9 10), .inl (cA 0, 8, .inl (fun _ => 0))), ((u9 11), .inl (cA 0, 8, .inl (fun _ => 0))), ((u9 2), .inr (2, [.ref (u9 14), .ref (u9 15), .ref (u9 16), .ref (u9 17), .int 0])), ((u9 14), .inl (cA 0, 80, .inl (fun _ => 0))), ((u9 15), .inl (cA 0, 80, .inl (fun _ => 0))), ((u9 16), .inl (cA 0, 80, .inl (fun _ => 0))), ((u9 17), .inl (cA 1, 80, .inl (fun _ => 0))), ((u9 12), .inl (cA 0, 2880, .inl (fun _ => 0))), ((u9 13), .inl (cA 0, 2880, .inl (fun _ => 0))), (q16, .inr (4, [.ref (u20 18), .ref (u20 19), .ref (u20 20)])), ((u20 18), .inl (cA 0, 2880, .inl (fun _ => 0))), ((u20 19), .inl (cA 0, 120, .inl (fun _ => 0))), ((u20 20), .inl (cA 0, 120, .inl (fun _ => 0))), (q27, .inr (1, [.ref (u31 21), .ref (u31 22), .ref (u31 23), .int 0, .int 0])), ((u31 21), .inl (cA 0, 10, .inl (fun _ => 0))), ((u31 22), .inl (cA 0, 10, .inl (fun _ => 0))), ((u31 23), .inl (cA 0, 120, .inl (fun _ => 0))), (q38, .inr (0, [.ref (u42 24), .ref (u42 25), .ref (u42 26), .int 0, .ref (u42 27), .ref (u42 28), .int 0, .int 0])), ((u42 24), .inl (cA 0, 4, .inl (fun _ => 0))), ((u42 25), .inl (cA 0, 4, .inl (fun _ => 0))), ((u42 26), .inl (cA 1, 4, .inl (fun _ => 0))), ((u42 27), .inl (cA 0, 10, .inl (fun _ => 0))), ((u42 28), .inl (cA 0, 10, .inl (fun _ => 0))), (q51, .inl (cA 0, 6, .inl (fun _ => 0)))] H := hP
  have hD : va_D A [(h0, .inr (5, [.ref q5, .ref q16, .ref q27, .ref q38, .ref q51, .int 0])), (q5, .inr (3, [.ref (u9 9), .ref (u9 10), .ref (u9 11), .int 0, .ref (u9 2), .ref (u9 12), .ref (u9 13)])), ((u9 9), .inl (cA 0, 8, .inl (fun _ => 0))), ((u9 10), .inl (cA 0, 8, .inl (fun _ => 0))), ((u9 11), .inl (cA 0, 8, .inl (fun _ => 0))), ((u9 2), .inr (2, [.ref (u9 14), .ref (u9 15), .ref (u9 16), .ref (u9 17), .int 0])), ((u9 14), .inl (cA 0, 80, .inl (fun _ => 0))), ((u9 15), .inl (cA 0, 80, .inl (fun _ => 0))), ((u9 16), .inl (cA 0, 80, .inl (fun _ => 0))), ((u9 17), .inl (cA 1, 80, .inl (fun _ => 0))), ((u9 12), .inl (cA 0, 2880, .inl (fun _ => 0))), ((u9 13), .inl (cA 0, 2880, .inl (fun _ => 0))), (q16, .inr (4, [.ref (u20 18), .ref (u20 19), .ref (u20 20)])), ((u20 18), .inl (cA 0, 2880, .inl (fun _ => 0))), ((u20 19), .inl (cA 0, 120, .inl (fun _ => 0))), ((u20 20), .inl (cA 0, 120, .inl (fun _ => 0))), (q27, .inr (1, [.ref (u31 21), .ref (u31 22), .ref (u31 23), .int 0, .int 0])), ((u31 21), .inl (cA 0, 10, .inl (fun _ => 0))), ((u31 22), .inl (cA 0, 10, .inl (fun _ => 0))), ((u31 23), .inl (cA 0, 120, .inl (fun _ => 0))), (q38, .inr (0, [.ref (u42 24), .ref (u42 25), .ref (u42 26), .int 0, .ref (u42 27), .ref (u42 28), .int 0, .int 0])), ((u42 24), .inl (cA 0, 4, .inl (fun _ => 0))), ((u42 25), .inl (cA 0, 4, .inl (fun _ => 0))), ((u42 26), .inl (cA 1, 4, .inl (fun _ => 0))), ((u42 27), .inl (cA 0, 10, .inl (fun _ => 0))), ((u42 28), .inl (cA 0, 10, .inl (fun _ => 0))), (q51, .inl (cA 0, 6, .inl (fun _ => 0)))] := hD
  exact W.vret hx hb hr (fun t ht hW => ⟨⟨(qn_f [(1, q5), (9, (u9 9)), (10, (u9 10)), (11, (u9 11)), (2, (u9 2)), (14, (u9 14)), (15, (u9 15)), (16, (u9 16)), (17, (u9 17)), (12, (u9 12)), (13, (u9 13)), (3, q16), (18, (u20 18)), (19, (u20 19)), (20, (u20 20)), (4, q27), (21, (u31 21)), (22, (u31 22)), (23, (u31 23)), (5, q38), (24, (u42 24)), (25, (u42 25)), (26, (u42 26)), (27, (u42 27)), (28, (u42 28)), (8, q51)]), rfl, trivial, by rw [ht]; exact hP, hD⟩, hS.F ht⟩) hS.2.2 di_5_61
