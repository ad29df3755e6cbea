/-! a contract out of a walk, for any method of the table -/
theorem sd_ofW {l : Launch} {i : Nat} (hi : i < 56) {rm : Room} {Pc : Array Value → State → Prop} {Qc : Array Value → State → Outcome → State → Prop} {XC : String → State → State → Prop} {mc ms : Nat} {free : Addr → Prop}
    (body : ∀ p e s m args below meth c s₁, BodyLoose p l (sd_y i) (headSpec (sd_w i) rm) (sd_b i) (sd_l i) (sd_r i) e s m args below meth c s₁ → c.maxLocals = sd_l i → c.exceptionTable.toList = tableOf (sd_h i) → Pc args s →
      W p l e (headSpec (sd_w i) rm).room s m args below meth c s.heap [] 0 0 (vx_MQ below Qc XC args s mc ms free) (entryFrame m args (sd_l i))) : vx_Met l (sd_y i) (sd_w i) rm Pc Qc XC mc ms free := by
  have own : ∀ {args : Array Value} {s : State}, (headSpec (sd_w i) rm).pre.before args s = true → (sd_wd i).before args s = true := fun h => atoms_spec (ws := sd_w i) h _ List.mem_cons_self
  refine MetFree.of_bodySF (code := sd_b i) (maxLocals := sd_l i) (ret := sd_r i) (sd_nm hi).1 ?_ ?_
  · intro args s m h hn
    have hw := own h
    unfold sd_wd at hw
    cases hz : (sd_h i).isEmpty with
    | true =>
      rw [hz] at hw
      obtain ⟨meth, c, h1, h2, h3, h4, h5, h6, -, -⟩ := Cond.code_spec hn hw
      exact ⟨meth, c, h1, h2, h3, h4, h5, h6⟩
    | false =>
      rw [hz] at hw
      obtain ⟨m9, meth, c, hn9, h1, h2, h3, h4, -, h5, h6, -⟩ := Cond.codeWith_spec hw
      cases hn.symm.trans hn9
      exact ⟨meth, c, h1, h2, h3, h4, h5, h6⟩
  · intro p e s m args below meth c s₁ B hml hP _
    have hh0 : s₁.heap = s.heap := by rw [B.state]; rfl
    have hw := own B.pre
    have ht : c.exceptionTable.toList = tableOf (sd_h i) := by
      unfold sd_wd at hw
      cases hz : (sd_h i).isEmpty with
      | true =>
        rw [hz] at hw
        obtain ⟨meth9, c9, h1, h2, -, -, -, -, h7, -⟩ := Cond.code_spec B.named hw
        cases Option.some.inj (h1.symm.trans B.method)
        cases Option.some.inj (h2.symm.trans (Stand.of_body B).code)
        rw [List.isEmpty_iff.mp hz, Array.isEmpty_iff.mp h7]
        rfl
      | false =>
        rw [hz] at hw
        exact vx_table (x := sd_y i) B hw
    obtain ⟨t, a1, o, b1, b2, b3⟩ := body p e s m args below meth c s₁ B hml ht hP s₁ hh0 (Stand.of_body B)
    exact ⟨t, o, a1, b1, b2, b3⟩
/-- a callee that doesn't throw, as a plain contract -/
theorem sd_met {l : Launch} {y : MethodName} {ws : List Cond} {rm : Room} {Pc : Array Value → State → Prop} {Qc : Array Value → State → Outcome → State → Prop} {mc ms : Nat} {free : Addr → Prop} (h : vx_Met l y ws rm Pc Qc (fun _ _ _ => False) mc ms free) : Met l y ws rm Pc Qc mc ms free :=
  MetFree.imp h (fun a s o t q => q.elim id (fun ⟨_, _, E, ce, L, x, _⟩ => x.elim))
