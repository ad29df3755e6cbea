/-! the law: its start, its loop, its end -/
theorem dl_0 : decode code 0 = .ok (.new 8, 3) := by decide +kernel
theorem dl_3 : decode code 3 = .ok (.dup, 1) := by decide +kernel
theorem dl_4 : decode code 4 = .ok (.invokespecial 80, 3) := by decide +kernel
theorem dl_7 : decode code 7 = .ok (.astore_n 1, 1) := by decide +kernel
theorem dl_8 : decode code 8 = .ok (.new 81, 3) := by decide +kernel
theorem dl_11 : decode code 11 = .ok (.dup, 1) := by decide +kernel
theorem dl_12 : decode code 12 = .ok (.invokespecial 83, 3) := by decide +kernel
theorem dl_15 : decode code 15 = .ok (.astore_n 2, 1) := by decide +kernel
theorem dl_16 : decode code 16 = .ok (.iconst 1, 1) := by decide +kernel
theorem dl_17 : decode code 17 = .ok (.newarray .long, 2) := by decide +kernel
theorem dl_19 : decode code 19 = .ok (.astore_n 3, 1) := by decide +kernel
theorem dl_20 : decode code 20 = .ok (.iconst 0, 1) := by decide +kernel
theorem dl_21 : decode code 21 = .ok (.istore 4, 2) := by decide +kernel
theorem ql_nost {l : Launch} (h : l.flags = flags0) : l.stackTraces = false := by
  unfold Launch.stackTraces
  rw [h]
  decide +kernel
def ql_C : qw_C := (fun _ _ => 0, fun _ => 0)
def ql_M (L : Nat) (xs : Nat → Int32) : qa_Mem := fun k j => if k = 97 then (L : Int) else if k = 98 then (xs j.toNat).toInt else 0
theorem ql_iv (L : Nat) (xs : Nat → Int32) : iv (ql_M L xs) := iv_0 (fun k hk => by
  funext j
  unfold ql_M
  rw [if_neg (by omega), if_neg (by omega)])
theorem ql_RM (L : Nat) (xs : Nat → Int32) : RM ql_C (ql_M L xs) := by
  have k0 : ∀ (k : Nat) (j : Int), k < 47 → ql_M L xs k j = 0 := fun k j hk => by
    unfold ql_M
    rw [if_neg (by omega), if_neg (by omega)]
  refine ⟨fun k j h => ?_, (k0 7 0 (by decide)).symm⟩
  have hk : k < 47 := by
    unfold qw_ok at h
    split at h
    · rename_i q hq; exact qw_lay_lt hq
    · rename_i q hq; exact qw_lay_lt hq
    · exact h.elim
  rw [k0 k j hk]
  rfl
/-- the tables' classes, and the classes of arrays -/
theorem ql_K {s : State} {args : Array Value} (hw : ∀ w ∈ AW, w.before args s = true) : ∃ (D : va_G) (cA : Nat → ClassId), va_K D qw_cl (qw_ty cA) s := by
  obtain ⟨c0, i0, g0⟩ := u_known (C := RX0) (T := TX0) (N := 8) (n := 8) hw (sd_u (c := 0) (by decide)).1 (hw _ (aw_t (n := 114) (by decide +kernel) rfl))
  obtain ⟨c1, i1, g1⟩ := u_known (C := RX1) (T := TX1) (N := 5) (n := 5) hw (sd_u (c := 1) (by decide)).1 (hw _ (aw_t (n := 92) (by decide +kernel) rfl))
  obtain ⟨c2, i2, g2⟩ := u_known (C := RX2) (T := TX2) (N := 5) (n := 5) hw (sd_u (c := 2) (by decide)).1 (hw _ (aw_t (n := 30) (by decide +kernel) rfl))
  obtain ⟨c3, i3, g3⟩ := u_known (C := RX3) (T := TX3) (N := 7) (n := 7) hw (sd_u (c := 3) (by decide)).1 (hw _ (aw_t (n := 24) (by decide +kernel) rfl))
  obtain ⟨c4, i4, g4⟩ := u_known (C := RX4) (T := TX4) (N := 3) (n := 3) hw (sd_u (c := 4) (by decide)).1 (hw _ (aw_t (n := 76) (by decide +kernel) rfl))
  obtain ⟨c5, i5, g5⟩ := u_known (C := RX5) (T := TX5) (N := 6) (n := 6) hw (sd_u (c := 5) (by decide)).1 (hw _ (aw_t (n := 16) (by decide +kernel) rfl))
  obtain ⟨c6, i6, g6⟩ := u_known (C := RX6) (T := TX6) (N := 27) (n := 27) hw (sd_u (c := 6) (by decide)).1 (hw _ (aw_t (n := 700) (by decide +kernel) rfl))
  obtain ⟨a0, k0, p0, x0, y0, z0⟩ := Cond.arrayClass_spec (type := .int) (hw _ (aw_t (n := 51) (by decide +kernel) rfl))
  obtain ⟨a1, k1, p1, x1, y1, z1⟩ := Cond.arrayClass_spec (type := .boolean) (hw _ (aw_t (n := 52) (by decide +kernel) rfl))
  obtain ⟨a2, k2, p2, x2, y2, z2⟩ := Cond.arrayClass_spec (type := .long) (hw _ (aw_t (n := 971) (by decide +kernel) rfl))
  refine ⟨(fun c => match c with
    | 0 => c0 | 1 => c1 | 2 => c2 | 3 => c3 | 4 => c4 | 5 => c5 | _ => c6, fun c => match c with
    | 0 => i0 | 1 => i1 | 2 => i2 | 3 => i3 | 4 => i4 | 5 => i5 | _ => i6), (fun t => match t with
    | 0 => a0 | 1 => a1 | _ => a2), fun c q h => ?_, fun t q h => ?_⟩
  · have lt : c < 7 := by
      have := (List.getElem?_eq_some_iff.mp h).1
      unfold qw_cl at this
      rw [List.length_map, List.length_range] at this
      exact this
    rw [qw_cl_at lt] at h
    cases h
    rcases (show c = 0 ∨ c = 1 ∨ c = 2 ∨ c = 3 ∨ c = 4 ∨ c = 5 ∨ c = 6 by omega) with rfl | rfl | rfl | rfl | rfl | rfl | rfl
    · exact g0
    · exact g1
    · exact g2
    · exact g3
    · exact g4
    · exact g5
    · exact g6
  · have lt : t < 3 := (List.getElem?_eq_some_iff.mp h).1
    rcases (show t = 0 ∨ t = 1 ∨ t = 2 by omega) with rfl | rfl | rfl
    · cases h
      exact ⟨fun n z => ⟨fun k h => (by cases h), k0, y0, p0, z0⟩, x0⟩
    · cases h
      exact ⟨fun n z => ⟨fun k h => (by cases h), k1, y1, p1, z1⟩, x1⟩
    · cases h
      exact ⟨fun n z => ⟨fun k h => (by cases h), k2, y2, p2, z2⟩, x2⟩
def ql_f (q0 q8 q17 : Nat) (u4 u12 : Nat → Nat) : Nat → Nat := qn_f [(0, q0), (1, (u4 1)), (2, (u4 2)), (3, (u4 3)), (4, (u4 4)), (5, (u4 5)), (6, q8), (7, q17), (8, (u4 8)), (9, (u4 9)), (10, (u4 10)), (11, (u4 11)), (12, (u4 12)), (13, (u4 13)), (14, (u4 14)), (15, (u4 15)), (16, (u4 16)), (17, (u4 17)), (18, (u4 18)), (19, (u4 19)), (20, (u4 20)), (21, (u4 21)), (22, (u4 22)), (23, (u4 23)), (24, (u4 24)), (25, (u4 25)), (26, (u4 26)), (27, (u4 27)), (28, (u4 28)), (29, (u12 29)), (30, (u12 30)), (31, (u12 31)), (32, (u12 32)), (33, (u12 33)), (34, (u12 34)), (35, (u12 35)), (36, (u12 36)), (37, (u12 37)), (38, (u12 38)), (39, (u12 39)), (40, (u12 40)), (41, (u12 41)), (42, (u12 42)), (43, (u12 43)), (44, (u12 44)), (45, (u12 45)), (46, (u12 46))]
def ql_w (cA : Nat → ClassId) (q0 q8 q17 : Nat) (u4 u12 : Nat → Nat) : va_W := [(q0, .inr (5, [.ref (u4 1), .ref (u4 3), .ref (u4 4), .ref (u4 5), .ref (u4 8), .int 0])), ((u4 1), .inr (3, [.ref (u4 9), .ref (u4 10), .ref (u4 11), .int 0, .ref (u4 2), .ref (u4 12), .ref (u4 13)])), ((u4 9), .inl (cA 0, 8, .inl (fun _ => 0))), ((u4 10), .inl (cA 0, 8, .inl (fun _ => 0))), ((u4 11), .inl (cA 0, 8, .inl (fun _ => 0))), ((u4 2), .inr (2, [.ref (u4 14), .ref (u4 15), .ref (u4 16), .ref (u4 17), .int 0])), ((u4 14), .inl (cA 0, 80, .inl (fun _ => 0))), ((u4 15), .inl (cA 0, 80, .inl (fun _ => 0))), ((u4 16), .inl (cA 0, 80, .inl (fun _ => 0))), ((u4 17), .inl (cA 1, 80, .inl (fun _ => 0))), ((u4 12), .inl (cA 0, 2880, .inl (fun _ => 0))), ((u4 13), .inl (cA 0, 2880, .inl (fun _ => 0))), ((u4 3), .inr (4, [.ref (u4 18), .ref (u4 19), .ref (u4 20)])), ((u4 18), .inl (cA 0, 2880, .inl (fun _ => 0))), ((u4 19), .inl (cA 0, 120, .inl (fun _ => 0))), ((u4 20), .inl (cA 0, 120, .inl (fun _ => 0))), ((u4 4), .inr (1, [.ref (u4 21), .ref (u4 22), .ref (u4 23), .int 0, .int 0])), ((u4 21), .inl (cA 0, 10, .inl (fun _ => 0))), ((u4 22), .inl (cA 0, 10, .inl (fun _ => 0))), ((u4 23), .inl (cA 0, 120, .inl (fun _ => 0))), ((u4 5), .inr (0, [.ref (u4 24), .ref (u4 25), .ref (u4 26), .int 0, .ref (u4 27), .ref (u4 28), .int 0, .int 0])), ((u4 24), .inl (cA 0, 4, .inl (fun _ => 0))), ((u4 25), .inl (cA 0, 4, .inl (fun _ => 0))), ((u4 26), .inl (cA 1, 4, .inl (fun _ => 0))), ((u4 27), .inl (cA 0, 10, .inl (fun _ => 0))), ((u4 28), .inl (cA 0, 10, .inl (fun _ => 0))), ((u4 8), .inl (cA 0, 6, .inl (fun _ => 0))), (q8, .inr (6, [.int 0, .ref (u12 29), .ref (u12 30), .ref (u12 31), .int 0, .ref (u12 32), .ref (u12 33), .ref (u12 34), .ref (u12 35), .int 0, .ref (u12 36), .ref (u12 37), .ref (u12 38), .ref (u12 39), .ref (u12 40), .int 0, .ref (u12 41), .ref (u12 42), .ref (u12 43), .int 0, .ref (u12 44), .ref (u12 45), .int 0, .ref (u12 46), .int 0, .int 0, .int 0])), ((u12 29), .inl (cA 0, 8, .inl (fun _ => 0))), ((u12 30), .inl (cA 0, 8, .inl (fun _ => 0))), ((u12 31), .inl (cA 0, 8, .inl (fun _ => 0))), ((u12 32), .inl (cA 1, 2880, .inl (fun _ => 0))), ((u12 33), .inl (cA 0, 2880, .inl (fun _ => 0))), ((u12 34), .inl (cA 0, 2880, .inl (fun _ => 0))), ((u12 35), .inl (cA 1, 2880, .inl (fun _ => 0))), ((u12 36), .inl (cA 0, 10, .inl (fun _ => 0))), ((u12 37), .inl (cA 0, 10, .inl (fun _ => 0))), ((u12 38), .inl (cA 1, 120, .inl (fun _ => 0))), ((u12 39), .inl (cA 0, 120, .inl (fun _ => 0))), ((u12 40), .inl (cA 0, 2880, .inl (fun _ => 0))), ((u12 41), .inl (cA 0, 4, .inl (fun _ => 0))), ((u12 42), .inl (cA 0, 4, .inl (fun _ => 0))), ((u12 43), .inl (cA 1, 4, .inl (fun _ => 0))), ((u12 44), .inl (cA 0, 10, .inl (fun _ => 0))), ((u12 45), .inl (cA 0, 10, .inl (fun _ => 0))), ((u12 46), .inl (cA 0, 7, .inl (fun _ => 0))), (q17, .inl (cA 2, 1, .inr (.inl (fun _ => 0))))]
def ql_ref (k : Nat) : Bool := match qa_lay k with
  | some (.inl q) => q.2.all (fun x => match x with
    | some k1 => Nat.ble (k1 + 1) 47
    | none => true)
  | _ => true
theorem ql_ref_a : (List.range 47).all ql_ref = true := by decide +kernel
set_option maxRecDepth 100000 in
set_option maxHeartbeats 4000000 in
theorem ql_w_eq {cA : Nat → ClassId} {ad : Nat → Nat} {q0 q8 q17 : Nat} {u4 u12 : Nat → Nat} (h : ∀ k : Nat, k < 47 → ad k = ql_f q0 q8 q17 u4 u12 k) : [0, 1, 5, 12, 16, 20, 27, 46, 26, 2, 3, 4, 10, 11, 6, 7, 8, 9, 13, 14, 15, 17, 18, 19, 21, 22, 23, 24, 25, 28, 29, 30, 31, 32, 33, 34, 35, 36, 37, 38, 39, 40, 41, 42, 43, 44, 45].filterMap (fun i => (ql_w cA q0 q8 q17 u4 u12)[i]?) = qw_ws cA ad ql_C := by
  have e : qw_ws cA ad ql_C = qw_ws cA (ql_f q0 q8 q17 u4 u12) ql_C := by
    unfold qw_ws
    refine List.map_congr_left (fun k hk => ?_)
    have hk := List.mem_range.mp hk
    rw [h k hk]
    congr 1
    unfold qw_c
    cases hy : qa_lay k with
    | none => rfl
    | some y =>
      cases y with
      | inr q => rfl
      | inl q =>
        show Sum.inr (q.1, (List.range q.2.length).map (qw_v ad ql_C k q.2)) = Sum.inr (q.1, (List.range q.2.length).map (qw_v (ql_f q0 q8 q17 u4 u12) ql_C k q.2))
        congr 2
        refine List.map_congr_left (fun j _ => ?_)
        unfold qw_v
        cases hz : q.2[j]? with
        | none => rfl
        | some x =>
          cases x with
          | none => rfl
          | some k1 =>
            have hc := List.all_eq_true.mp ql_ref_a k (List.mem_range.mpr hk)
            unfold ql_ref at hc
            rw [hy] at hc
            have hc := List.all_eq_true.mp hc (some k1) (List.mem_of_getElem? hz)
            show Value.ref (ad k1) = Value.ref (ql_f q0 q8 q17 u4 u12 k1)
            rw [h k1 (Nat.le_of_ble_eq_true hc)]
  rw [e]
  rfl
set_option maxHeartbeats 4000000 in
set_option maxRecDepth 100000 in
theorem ql_start {p : Program} {e : Env} {s : State} {m : MethodId} {below : List Frame} {meth : Method} {c : Code} (l : Launch) {b L : Nat} {xs : Nat → Int32} (C0 : lw_At p s m meth c b L xs) {D : va_G} {cA : Nat → ClassId} (hK : va_K D qw_cl (qw_ty cA) s) (hN : qw_nest s) {Q : State → Prop}
    (kk : ∀ (q0 q8 q17 : Nat) (u4 u12 : Nat → Nat) (H : Heap) (locs : List Loc) (ls : Array Slot), va_P D qw_cl (ql_w cA q0 q8 q17 u4 u12) H → va_D (fun q : Nat => s.heap.size ≤ q) (ql_w cA q0 q8 q17 u4 u12) → va_S (fun q : Nat => s.heap.size ≤ q) s.heap H locs → lv_has ls 7 [(4, .int 0), (3, .ref q17), (2, .ref q8), (1, .ref q0), (0, .ref b)] → W p l e room_1 s m #[Value.ref b] below meth c H locs 47 24187 Q (F0 m 23 ls [])) :
    W p l e room_1 s m #[Value.ref b] below meth c s.heap [] 0 0 Q (entryFrame m ([Value.ref b] : List Value).toArray 7) := by
  obtain ⟨hx, hb, hr, hml, hown, hts, hX, hbl, hlocks, hgv⟩ := C0
  have hw : ∀ w ∈ AW, w.before #[Value.ref b] s = true := fun w h => hts w (List.mem_filter.mp h).1
  have hA : ∀ q : Nat, s.heap.size ≤ q → (fun q : Nat => s.heap.size ≤ q) q := fun _ h => h
  have hS : va_S (fun q : Nat => s.heap.size ≤ q) s.heap s.heap [] := va_S.rf
  have hP : va_P D qw_cl [] s.heap := fun k q h => by simp at h
  have hD : va_D (fun q : Nat => s.heap.size ≤ q) [] := ⟨fun i j p q h => by simp at h, fun k q h => by simp at h⟩
  have hl := lv_entry ([.ref b]) (n := 7) (Nat.le_of_ble_eq_true rfl)
  rw [lg_entry_eq]
  generalize (lg_sl ([.ref b]) ++ List.replicate (7 - (lg_sl ([.ref b])).length) Slot.unset).toArray = ls at hl ⊢
  have hl : lv_has ls 7 [(0, .ref b)] := hl
  refine va_new (ci := 5) (fs := [.null, .null, .null, .null, .null, .int 0]) (C := RX5) (T := TX5) (N := 6) hx hb hw (sd_u (c := 5) (by decide)).1 tyX5 tyX5_ok hown (hw _ (aw_t (n := 15) (by decide +kernel) rfl)) (hw _ (aw_t (n := 16) (by decide +kernel) rfl)) (hw _ (aw_t (n := 1) (by decide +kernel) rfl)) hK hP hD hS hA rfl (fun j hj => by rcases (show j = 0 ∨ j = 1 ∨ j = 2 ∨ j = 3 ∨ j = 4 ∨ j = 5 by omega) with rfl | rfl | rfl | rfl | rfl | rfl <;> rfl) (Nat.le_of_ble_eq_true rfl) (Nat.le_of_ble_eq_true rfl) dl_0 (fun q0 H hP hD hS => ?_)
  have hP : va_P D qw_cl [(q0, .inr (5, [.null, .null, .null, .null, .null, .int 0]))] H := hP
  have hD : va_D (fun q : Nat => s.heap.size ≤ q) [(q0, .inr (5, [.null, .null, .null, .null, .null, .int 0]))] := hD
  refine W.widen (k := 1) (n := 6) (Nat.le_of_ble_eq_true rfl) (Nat.le_of_ble_eq_true rfl) ?_
  refine lv_dup hx hb dl_3 rfl ?_
  have hPc := hP.sub (ws' := [(q0, qn_e5)]) [0] rfl
  have hDc := hD.sub (ws' := [(q0, qn_e5)]) [0] (by decide) rfl
  have hFc := va_free (wc := [(q0, qn_e5)]) hD hS hA [0] rfl
  refine va_callv (va_runI (As := []) (rest := [.ref q0]) ⟨hx, hb, hml, hown, hw⟩ (qn_m5 l D cA q0 H.size) (cwI 0 hw (aw_good qn_g5 qn_g5) rfl rfl rfl (hw _ (aw_t (n := 1) (by decide +kernel) rfl)) (hw _ (aw_t (n := 17) (by decide +kernel) rfl)) (hw _ (aw_t (n := 18) (by decide +kernel) rfl)) rfl (by decide +kernel) ⟨Nat.le_of_ble_eq_true rfl, Nat.le_of_ble_eq_true rfl⟩) ⟨qn_Pc_b, fun U hU hW => ⟨rfl, by rw [hU], by rw [hU]; exact hPc, va_K.moved hW.alike hK, hDc.weaken (fun _ _ _ _ => trivial), qw_nest_w hW hN⟩⟩ rfl rfl hl.1 rfl (lv_room (Nat.le_of_ble_eq_true rfl)) dl_4 ⟨Nat.le_of_ble_eq_true rfl, Nat.le_of_ble_eq_true rfl⟩) hS (fun q _ h => hFc q h) hFc (fun u4 t H1 locs ht hvm _ hB hz1 hk1 hS => ?_)
  obtain ⟨hP1, hD1⟩ := hB
  rw [ht] at hP1
  obtain ⟨hP, hD⟩ := va_join (wr := []) (w1 := [(q0, .inr (5, [.ref (u4 1), .ref (u4 3), .ref (u4 4), .ref (u4 5), .ref (u4 8), .int 0])), ((u4 1), .inr (3, [.ref (u4 9), .ref (u4 10), .ref (u4 11), .int 0, .ref (u4 2), .ref (u4 12), .ref (u4 13)])), ((u4 9), .inl (cA 0, 8, .inl (fun _ => 0))), ((u4 10), .inl (cA 0, 8, .inl (fun _ => 0))), ((u4 11), .inl (cA 0, 8, .inl (fun _ => 0))), ((u4 2), .inr (2, [.ref (u4 14), .ref (u4 15), .ref (u4 16), .ref (u4 17), .int 0])), ((u4 14), .inl (cA 0, 80, .inl (fun _ => 0))), ((u4 15), .inl (cA 0, 80, .inl (fun _ => 0))), ((u4 16), .inl (cA 0, 80, .inl (fun _ => 0))), ((u4 17), .inl (cA 1, 80, .inl (fun _ => 0))), ((u4 12), .inl (cA 0, 2880, .inl (fun _ => 0))), ((u4 13), .inl (cA 0, 2880, .inl (fun _ => 0))), ((u4 3), .inr (4, [.ref (u4 18), .ref (u4 19), .ref (u4 20)])), ((u4 18), .inl (cA 0, 2880, .inl (fun _ => 0))), ((u4 19), .inl (cA 0, 120, .inl (fun _ => 0))), ((u4 20), .inl (cA 0, 120, .inl (fun _ => 0))), ((u4 4), .inr (1, [.ref (u4 21), .ref (u4 22), .ref (u4 23), .int 0, .int 0])), ((u4 21), .inl (cA 0, 10, .inl (fun _ => 0))), ((u4 22), .inl (cA 0, 10, .inl (fun _ => 0))), ((u4 23), .inl (cA 0, 120, .inl (fun _ => 0))), ((u4 5), .inr (0, [.ref (u4 24), .ref (u4 25), .ref (u4 26), .int 0, .ref (u4 27), .ref (u4 28), .int 0, .int 0])), ((u4 24), .inl (cA 0, 4, .inl (fun _ => 0))), ((u4 25), .inl (cA 0, 4, .inl (fun _ => 0))), ((u4 26), .inl (cA 1, 4, .inl (fun _ => 0))), ((u4 27), .inl (cA 0, 10, .inl (fun _ => 0))), ((u4 28), .inl (cA 0, 10, .inl (fun _ => 0))), ((u4 8), .inl (cA 0, 6, .inl (fun _ => 0)))]) hP hD [0] [] rfl rfl (by decide) (by decide) hk1 hFc hP1 hD1
  generalize H1 = H at hP hS ⊢
  have hP : va_P D qw_cl [(q0, .inr (5, [.ref (u4 1), .ref (u4 3), .ref (u4 4), .ref (u4 5), .ref (u4 8), .int 0])), ((u4 1), .inr (3, [.ref (u4 9), .ref (u4 10), .ref (u4 11), .int 0, .ref (u4 2), .ref (u4 12), .ref (u4 13)])), ((u4 9), .inl (cA 0, 8, .inl (fun _ => 0))), ((u4 10), .inl (cA 0, 8, .inl (fun _ => 0))), ((u4 11), .inl (cA 0, 8, .inl (fun _ => 0))), ((u4 2), .inr (2, [.ref (u4 14), .ref (u4 15), .ref (u4 16), .ref (u4 17), .int 0])), ((u4 14), .inl (cA 0, 80, .inl (fun _ => 0))), ((u4 15), .inl (cA 0, 80, .inl (fun _ => 0))), ((u4 16), .inl (cA 0, 80, .inl (fun _ => 0))), ((u4 17), .inl (cA 1, 80, .inl (fun _ => 0))), ((u4 12), .inl (cA 0, 2880, .inl (fun _ => 0))), ((u4 13), .inl (cA 0, 2880, .inl (fun _ => 0))), ((u4 3), .inr (4, [.ref (u4 18), .ref (u4 19), .ref (u4 20)])), ((u4 18), .inl (cA 0, 2880, .inl (fun _ => 0))), ((u4 19), .inl (cA 0, 120, .inl (fun _ => 0))), ((u4 20), .inl (cA 0, 120, .inl (fun _ => 0))), ((u4 4), .inr (1, [.ref (u4 21), .ref (u4 22), .ref (u4 23), .int 0, .int 0])), ((u4 21), .inl (cA 0, 10, .inl (fun _ => 0))), ((u4 22), .inl (cA 0, 10, .inl (fun _ => 0))), ((u4 23), .inl (cA 0, 120, .inl (fun _ => 0))), ((u4 5), .inr (0, [.ref (u4 24), .ref (u4 25), .ref (u4 26), .int 0, .ref (u4 27), .ref (u4 28), .int 0, .int 0])), ((u4 24), .inl (cA 0, 4, .inl (fun _ => 0))), ((u4 25), .inl (cA 0, 4, .inl (fun _ => 0))), ((u4 26), .inl (cA 1, 4, .inl (fun _ => 0))), ((u4 27), .inl (cA 0, 10, .inl (fun _ => 0))), ((u4 28), .inl (cA 0, 10, .inl (fun _ => 0))), ((u4 8), .inl (cA 0, 6, .inl (fun _ => 0)))] H := hP
  have hD : va_D (fun q : Nat => s.heap.size ≤ q) [(q0, .inr (5, [.ref (u4 1), .ref (u4 3), .ref (u4 4), .ref (u4 5), .ref (u4 8), .int 0])), ((u4 1), .inr (3, [.ref (u4 9), .ref (u4 10), .ref (u4 11), .int 0, .ref (u4 2), .ref (u4 12), .ref (u4 13)])), ((u4 9), .inl (cA 0, 8, .inl (fun _ => 0))), ((u4 10), .inl (cA 0, 8, .inl (fun _ => 0))), ((u4 11), .inl (cA 0, 8, .inl (fun _ => 0))), ((u4 2), .inr (2, [.ref (u4 14), .ref (u4 15), .ref (u4 16), .ref (u4 17), .int 0])), ((u4 14), .inl (cA 0, 80, .inl (fun _ => 0))), ((u4 15), .inl (cA 0, 80, .inl (fun _ => 0))), ((u4 16), .inl (cA 0, 80, .inl (fun _ => 0))), ((u4 17), .inl (cA 1, 80, .inl (fun _ => 0))), ((u4 12), .inl (cA 0, 2880, .inl (fun _ => 0))), ((u4 13), .inl (cA 0, 2880, .inl (fun _ => 0))), ((u4 3), .inr (4, [.ref (u4 18), .ref (u4 19), .ref (u4 20)])), ((u4 18), .inl (cA 0, 2880, .inl (fun _ => 0))), ((u4 19), .inl (cA 0, 120, .inl (fun _ => 0))), ((u4 20), .inl (cA 0, 120, .inl (fun _ => 0))), ((u4 4), .inr (1, [.ref (u4 21), .ref (u4 22), .ref (u4 23), .int 0, .int 0])), ((u4 21), .inl (cA 0, 10, .inl (fun _ => 0))), ((u4 22), .inl (cA 0, 10, .inl (fun _ => 0))), ((u4 23), .inl (cA 0, 120, .inl (fun _ => 0))), ((u4 5), .inr (0, [.ref (u4 24), .ref (u4 25), .ref (u4 26), .int 0, .ref (u4 27), .ref (u4 28), .int 0, .int 0])), ((u4 24), .inl (cA 0, 4, .inl (fun _ => 0))), ((u4 25), .inl (cA 0, 4, .inl (fun _ => 0))), ((u4 26), .inl (cA 1, 4, .inl (fun _ => 0))), ((u4 27), .inl (cA 0, 10, .inl (fun _ => 0))), ((u4 28), .inl (cA 0, 10, .inl (fun _ => 0))), ((u4 8), .inl (cA 0, 6, .inl (fun _ => 0)))] := hD
  refine W.widen (k := 27) (n := 9436) (Nat.le_of_ble_eq_true rfl) (Nat.le_of_ble_eq_true rfl) ?_
  refine lv_astore_n (lv' := [(1, .ref q0), (0, .ref b)]) hx hb dl_7 rfl hl (by decide) rfl (fun ls hl => ?_)
  refine va_new (ci := 6) (fs := [.int 0, .null, .null, .null, .int 0, .null, .null, .null, .null, .int 0, .null, .null, .null, .null, .null, .int 0, .null, .null, .null, .int 0, .null, .null, .int 0, .null, .int 0, .int 0, .int 0]) (C := RX6) (T := TX6) (N := 27) hx hb hw (sd_u (c := 6) (by decide)).1 tyX6 tyX6_ok hown (hw _ (aw_t (n := 699) (by decide +kernel) rfl)) (hw _ (aw_t (n := 700) (by decide +kernel) rfl)) (hw _ (aw_t (n := 7) (by decide +kernel) rfl)) hK hP hD hS hA rfl (fun j hj => by rcases (show j = 0 ∨ j = 1 ∨ j = 2 ∨ j = 3 ∨ j = 4 ∨ j = 5 ∨ j = 6 ∨ j = 7 ∨ j = 8 ∨ j = 9 ∨ j = 10 ∨ j = 11 ∨ j = 12 ∨ j = 13 ∨ j = 14 ∨ j = 15 ∨ j = 16 ∨ j = 17 ∨ j = 18 ∨ j = 19 ∨ j = 20 ∨ j = 21 ∨ j = 22 ∨ j = 23 ∨ j = 24 ∨ j = 25 ∨ j = 26 by omega) with rfl | rfl | rfl | rfl | rfl | rfl | rfl | rfl | rfl | rfl | rfl | rfl | rfl | rfl | rfl | rfl | rfl | rfl | rfl | rfl | rfl | rfl | rfl | rfl | rfl | rfl | rfl <;> rfl) (Nat.le_of_ble_eq_true rfl) (Nat.le_of_ble_eq_true rfl) dl_8 (fun q8 H hP hD hS => ?_)
  have hP : va_P D qw_cl [(q0, .inr (5, [.ref (u4 1), .ref (u4 3), .ref (u4 4), .ref (u4 5), .ref (u4 8), .int 0])), ((u4 1), .inr (3, [.ref (u4 9), .ref (u4 10), .ref (u4 11), .int 0, .ref (u4 2), .ref (u4 12), .ref (u4 13)])), ((u4 9), .inl (cA 0, 8, .inl (fun _ => 0))), ((u4 10), .inl (cA 0, 8, .inl (fun _ => 0))), ((u4 11), .inl (cA 0, 8, .inl (fun _ => 0))), ((u4 2), .inr (2, [.ref (u4 14), .ref (u4 15), .ref (u4 16), .ref (u4 17), .int 0])), ((u4 14), .inl (cA 0, 80, .inl (fun _ => 0))), ((u4 15), .inl (cA 0, 80, .inl (fun _ => 0))), ((u4 16), .inl (cA 0, 80, .inl (fun _ => 0))), ((u4 17), .inl (cA 1, 80, .inl (fun _ => 0))), ((u4 12), .inl (cA 0, 2880, .inl (fun _ => 0))), ((u4 13), .inl (cA 0, 2880, .inl (fun _ => 0))), ((u4 3), .inr (4, [.ref (u4 18), .ref (u4 19), .ref (u4 20)])), ((u4 18), .inl (cA 0, 2880, .inl (fun _ => 0))), ((u4 19), .inl (cA 0, 120, .inl (fun _ => 0))), ((u4 20), .inl (cA 0, 120, .inl (fun _ => 0))), ((u4 4), .inr (1, [.ref (u4 21), .ref (u4 22), .ref (u4 23), .int 0, .int 0])), ((u4 21), .inl (cA 0, 10, .inl (fun _ => 0))), ((u4 22), .inl (cA 0, 10, .inl (fun _ => 0))), ((u4 23), .inl (cA 0, 120, .inl (fun _ => 0))), ((u4 5), .inr (0, [.ref (u4 24), .ref (u4 25), .ref (u4 26), .int 0, .ref (u4 27), .ref (u4 28), .int 0, .int 0])), ((u4 24), .inl (cA 0, 4, .inl (fun _ => 0))), ((u4 25), .inl (cA 0, 4, .inl (fun _ => 0))), ((u4 26), .inl (cA 1, 4, .inl (fun _ => 0))), ((u4 27), .inl (cA 0, 10, .inl (fun _ => 0))), ((u4 28), .inl (cA 0, 10, .inl (fun _ => 0))), ((u4 8), .inl (cA 0, 6, .inl (fun _ => 0))), (q8, .inr (6, [.int 0, .null, .null, .null, .int 0, .null, .null, .null, .null, .int 0, .null, .null, .null, .null, .null, .int 0, .null, .null, .null, .int 0, .null, .null, .int 0, .null, .int 0, .int 0, .int 0]))] H := hP
  have hD : va_D (fun q : Nat => s.heap.size ≤ q) [(q0, .inr (5, [.ref (u4 1), .ref (u4 3), .ref (u4 4), .ref (u4 5), .ref (u4 8), .int 0])), ((u4 1), .inr (3, [.ref (u4 9), .ref (u4 10), .ref (u4 11), .int 0, .ref (u4 2), .ref (u4 12), .ref (u4 13)])), ((u4 9), .inl (cA 0, 8, .inl (fun _ => 0))), ((u4 10), .inl (cA 0, 8, .inl (fun _ => 0))), ((u4 11), .inl (cA 0, 8, .inl (fun _ => 0))), ((u4 2), .inr (2, [.ref (u4 14), .ref (u4 15), .ref (u4 16), .ref (u4 17), .int 0])), ((u4 14), .inl (cA 0, 80, .inl (fun _ => 0))), ((u4 15), .inl (cA 0, 80, .inl (fun _ => 0))), ((u4 16), .inl (cA 0, 80, .inl (fun _ => 0))), ((u4 17), .inl (cA 1, 80, .inl (fun _ => 0))), ((u4 12), .inl (cA 0, 2880, .inl (fun _ => 0))), ((u4 13), .inl (cA 0, 2880, .inl (fun _ => 0))), ((u4 3), .inr (4, [.ref (u4 18), .ref (u4 19), .ref (u4 20)])), ((u4 18), .inl (cA 0, 2880, .inl (fun _ => 0))), ((u4 19), .inl (cA 0, 120, .inl (fun _ => 0))), ((u4 20), .inl (cA 0, 120, .inl (fun _ => 0))), ((u4 4), .inr (1, [.ref (u4 21), .ref (u4 22), .ref (u4 23), .int 0, .int 0])), ((u4 21), .inl (cA 0, 10, .inl (fun _ => 0))), ((u4 22), .inl (cA 0, 10, .inl (fun _ => 0))), ((u4 23), .inl (cA 0, 120, .inl (fun _ => 0))), ((u4 5), .inr (0, [.ref (u4 24), .ref (u4 25), .ref (u4 26), .int 0, .ref (u4 27), .ref (u4 28), .int 0, .int 0])), ((u4 24), .inl (cA 0, 4, .inl (fun _ => 0))), ((u4 25), .inl (cA 0, 4, .inl (fun _ => 0))), ((u4 26), .inl (cA 1, 4, .inl (fun _ => 0))), ((u4 27), .inl (cA 0, 10, .inl (fun _ => 0))), ((u4 28), .inl (cA 0, 10, .inl (fun _ => 0))), ((u4 8), .inl (cA 0, 6, .inl (fun _ => 0))), (q8, .inr (6, [.int 0, .null, .null, .null, .int 0, .null, .null, .null, .null, .int 0, .null, .null, .null, .null, .null, .int 0, .null, .null, .null, .int 0, .null, .null, .int 0, .null, .int 0, .int 0, .int 0]))] := hD
  refine W.widen (k := 28) (n := 9463) (Nat.le_of_ble_eq_true rfl) (Nat.le_of_ble_eq_true rfl) ?_
  refine lv_dup hx hb dl_11 rfl ?_
  have hPc := hP.sub (ws' := [(q8, qn_e6)]) [27] rfl
  have hDc := hD.sub (ws' := [(q8, qn_e6)]) [27] (by decide) rfl
  have hFc := va_free (wc := [(q8, qn_e6)]) hD hS hA [27] rfl
  refine va_callv (va_runI (As := []) (rest := [.ref q8]) ⟨hx, hb, hml, hown, hw⟩ (qn_m6 l D cA q8 H.size) (cwI 0 hw (aw_good qn_g6 qn_g6) rfl rfl rfl (hw _ (aw_t (n := 7) (by decide +kernel) rfl)) (hw _ (aw_t (n := 701) (by decide +kernel) rfl)) (hw _ (aw_t (n := 702) (by decide +kernel) rfl)) rfl (by decide +kernel) ⟨Nat.le_of_ble_eq_true rfl, Nat.le_of_ble_eq_true rfl⟩) ⟨qn_Pc_b, fun U hU hW => ⟨rfl, by rw [hU], by rw [hU]; exact hPc, va_K.moved hW.alike hK, hDc.weaken (fun _ _ _ _ => trivial), qw_nest_w hW hN⟩⟩ rfl rfl hl.1 rfl (lv_room (Nat.le_of_ble_eq_true rfl)) dl_12 ⟨Nat.le_of_ble_eq_true rfl, Nat.le_of_ble_eq_true rfl⟩) hS (fun q _ h => hFc q h) hFc (fun u12 t H1 locs ht hvm _ hB hz1 hk1 hS => ?_)
  obtain ⟨hP1, hD1⟩ := hB
  rw [ht] at hP1
  obtain ⟨hP, hD⟩ := va_join (wr := [(q0, .inr (5, [.ref (u4 1), .ref (u4 3), .ref (u4 4), .ref (u4 5), .ref (u4 8), .int 0])), ((u4 1), .inr (3, [.ref (u4 9), .ref (u4 10), .ref (u4 11), .int 0, .ref (u4 2), .ref (u4 12), .ref (u4 13)])), ((u4 9), .inl (cA 0, 8, .inl (fun _ => 0))), ((u4 10), .inl (cA 0, 8, .inl (fun _ => 0))), ((u4 11), .inl (cA 0, 8, .inl (fun _ => 0))), ((u4 2), .inr (2, [.ref (u4 14), .ref (u4 15), .ref (u4 16), .ref (u4 17), .int 0])), ((u4 14), .inl (cA 0, 80, .inl (fun _ => 0))), ((u4 15), .inl (cA 0, 80, .inl (fun _ => 0))), ((u4 16), .inl (cA 0, 80, .inl (fun _ => 0))), ((u4 17), .inl (cA 1, 80, .inl (fun _ => 0))), ((u4 12), .inl (cA 0, 2880, .inl (fun _ => 0))), ((u4 13), .inl (cA 0, 2880, .inl (fun _ => 0))), ((u4 3), .inr (4, [.ref (u4 18), .ref (u4 19), .ref (u4 20)])), ((u4 18), .inl (cA 0, 2880, .inl (fun _ => 0))), ((u4 19), .inl (cA 0, 120, .inl (fun _ => 0))), ((u4 20), .inl (cA 0, 120, .inl (fun _ => 0))), ((u4 4), .inr (1, [.ref (u4 21), .ref (u4 22), .ref (u4 23), .int 0, .int 0])), ((u4 21), .inl (cA 0, 10, .inl (fun _ => 0))), ((u4 22), .inl (cA 0, 10, .inl (fun _ => 0))), ((u4 23), .inl (cA 0, 120, .inl (fun _ => 0))), ((u4 5), .inr (0, [.ref (u4 24), .ref (u4 25), .ref (u4 26), .int 0, .ref (u4 27), .ref (u4 28), .int 0, .int 0])), ((u4 24), .inl (cA 0, 4, .inl (fun _ => 0))), ((u4 25), .inl (cA 0, 4, .inl (fun _ => 0))), ((u4 26), .inl (cA 1, 4, .inl (fun _ => 0))), ((u4 27), .inl (cA 0, 10, .inl (fun _ => 0))), ((u4 28), .inl (cA 0, 10, .inl (fun _ => 0))), ((u4 8), .inl (cA 0, 6, .inl (fun _ => 0)))]) (w1 := [(q8, .inr (6, [.int 0, .ref (u12 29), .ref (u12 30), .ref (u12 31), .int 0, .ref (u12 32), .ref (u12 33), .ref (u12 34), .ref (u12 35), .int 0, .ref (u12 36), .ref (u12 37), .ref (u12 38), .ref (u12 39), .ref (u12 40), .int 0, .ref (u12 41), .ref (u12 42), .ref (u12 43), .int 0, .ref (u12 44), .ref (u12 45), .int 0, .ref (u12 46), .int 0, .int 0, .int 0])), ((u12 29), .inl (cA 0, 8, .inl (fun _ => 0))), ((u12 30), .inl (cA 0, 8, .inl (fun _ => 0))), ((u12 31), .inl (cA 0, 8, .inl (fun _ => 0))), ((u12 32), .inl (cA 1, 2880, .inl (fun _ => 0))), ((u12 33), .inl (cA 0, 2880, .inl (fun _ => 0))), ((u12 34), .inl (cA 0, 2880, .inl (fun _ => 0))), ((u12 35), .inl (cA 1, 2880, .inl (fun _ => 0))), ((u12 36), .inl (cA 0, 10, .inl (fun _ => 0))), ((u12 37), .inl (cA 0, 10, .inl (fun _ => 0))), ((u12 38), .inl (cA 1, 120, .inl (fun _ => 0))), ((u12 39), .inl (cA 0, 120, .inl (fun _ => 0))), ((u12 40), .inl (cA 0, 2880, .inl (fun _ => 0))), ((u12 41), .inl (cA 0, 4, .inl (fun _ => 0))), ((u12 42), .inl (cA 0, 4, .inl (fun _ => 0))), ((u12 43), .inl (cA 1, 4, .inl (fun _ => 0))), ((u12 44), .inl (cA 0, 10, .inl (fun _ => 0))), ((u12 45), .inl (cA 0, 10, .inl (fun _ => 0))), ((u12 46), .inl (cA 0, 7, .inl (fun _ => 0)))]) hP hD [27] [0, 1, 2, 3, 4, 5, 6, 7, 8, 9, 10, 11, 12, 13, 14, 15, 16, 17, 18, 19, 20, 21, 22, 23, 24, 25, 26] rfl rfl (by decide) (by decide) hk1 hFc hP1 hD1
  generalize H1 = H at hP hS ⊢
  have hP : va_P D qw_cl [(q0, .inr (5, [.ref (u4 1), .ref (u4 3), .ref (u4 4), .ref (u4 5), .ref (u4 8), .int 0])), ((u4 1), .inr (3, [.ref (u4 9), .ref (u4 10), .ref (u4 11), .int 0, .ref (u4 2), .ref (u4 12), .ref (u4 13)])), ((u4 9), .inl (cA 0, 8, .inl (fun _ => 0))), ((u4 10), .inl (cA 0, 8, .inl (fun _ => 0))), ((u4 11), .inl (cA 0, 8, .inl (fun _ => 0))), ((u4 2), .inr (2, [.ref (u4 14), .ref (u4 15), .ref (u4 16), .ref (u4 17), .int 0])), ((u4 14), .inl (cA 0, 80, .inl (fun _ => 0))), ((u4 15), .inl (cA 0, 80, .inl (fun _ => 0))), ((u4 16), .inl (cA 0, 80, .inl (fun _ => 0))), ((u4 17), .inl (cA 1, 80, .inl (fun _ => 0))), ((u4 12), .inl (cA 0, 2880, .inl (fun _ => 0))), ((u4 13), .inl (cA 0, 2880, .inl (fun _ => 0))), ((u4 3), .inr (4, [.ref (u4 18), .ref (u4 19), .ref (u4 20)])), ((u4 18), .inl (cA 0, 2880, .inl (fun _ => 0))), ((u4 19), .inl (cA 0, 120, .inl (fun _ => 0))), ((u4 20), .inl (cA 0, 120, .inl (fun _ => 0))), ((u4 4), .inr (1, [.ref (u4 21), .ref (u4 22), .ref (u4 23), .int 0, .int 0])), ((u4 21), .inl (cA 0, 10, .inl (fun _ => 0))), ((u4 22), .inl (cA 0, 10, .inl (fun _ => 0))), ((u4 23), .inl (cA 0, 120, .inl (fun _ => 0))), ((u4 5), .inr (0, [.ref (u4 24), .ref (u4 25), .ref (u4 26), .int 0, .ref (u4 27), .ref (u4 28), .int 0, .int 0])), ((u4 24), .inl (cA 0, 4, .inl (fun _ => 0))), ((u4 25), .inl (cA 0, 4, .inl (fun _ => 0))), ((u4 26), .inl (cA 1, 4, .inl (fun _ => 0))), ((u4 27), .inl (cA 0, 10, .inl (fun _ => 0))), ((u4 28), .inl (cA 0, 10, .inl (fun _ => 0))), ((u4 8), .inl (cA 0, 6, .inl (fun _ => 0))), (q8, .inr (6, [.int 0, .ref (u12 29), .ref (u12 30), .ref (u12 31), .int 0, .ref (u12 32), .ref (u12 33), .ref (u12 34), .ref (u12 35), .int 0, .ref (u12 36), .ref (u12 37), .ref (u12 38), .ref (u12 39), .ref (u12 40), .int 0, .ref (u12 41), .ref (u12 42), .ref (u12 43), .int 0, .ref (u12 44), .ref (u12 45), .int 0, .ref (u12 46), .int 0, .int 0, .int 0])), ((u12 29), .inl (cA 0, 8, .inl (fun _ => 0))), ((u12 30), .inl (cA 0, 8, .inl (fun _ => 0))), ((u12 31), .inl (cA 0, 8, .inl (fun _ => 0))), ((u12 32), .inl (cA 1, 2880, .inl (fun _ => 0))), ((u12 33), .inl (cA 0, 2880, .inl (fun _ => 0))), ((u12 34), .inl (cA 0, 2880, .inl (fun _ => 0))), ((u12 35), .inl (cA 1, 2880, .inl (fun _ => 0))), ((u12 36), .inl (cA 0, 10, .inl (fun _ => 0))), ((u12 37), .inl (cA 0, 10, .inl (fun _ => 0))), ((u12 38), .inl (cA 1, 120, .inl (fun _ => 0))), ((u12 39), .inl (cA 0, 120, .inl (fun _ => 0))), ((u12 40), .inl (cA 0, 2880, .inl (fun _ => 0))), ((u12 41), .inl (cA 0, 4, .inl (fun _ => 0))), ((u12 42), .inl (cA 0, 4, .inl (fun _ => 0))), ((u12 43), .inl (cA 1, 4, .inl (fun _ => 0))), ((u12 44), .inl (cA 0, 10, .inl (fun _ => 0))), ((u12 45), .inl (cA 0, 10, .inl (fun _ => 0))), ((u12 46), .inl (cA 0, 7, .inl (fun _ => 0)))] H := hP
  have hD : va_D (fun q : Nat => s.heap.size ≤ q) [(q0, .inr (5, [.ref (u4 1), .ref (u4 3), .ref (u4 4), .ref (u4 5), .ref (u4 8), .int 0])), ((u4 1), .inr (3, [.ref (u4 9), .ref (u4 10), .ref (u4 11), .int 0, .ref (u4 2), .ref (u4 12), .ref (u4 13)])), ((u4 9), .inl (cA 0, 8, .inl (fun _ => 0))), ((u4 10), .inl (cA 0, 8, .inl (fun _ => 0))), ((u4 11), .inl (cA 0, 8, .inl (fun _ => 0))), ((u4 2), .inr (2, [.ref (u4 14), .ref (u4 15), .ref (u4 16), .ref (u4 17), .int 0])), ((u4 14), .inl (cA 0, 80, .inl (fun _ => 0))), ((u4 15), .inl (cA 0, 80, .inl (fun _ => 0))), ((u4 16), .inl (cA 0, 80, .inl (fun _ => 0))), ((u4 17), .inl (cA 1, 80, .inl (fun _ => 0))), ((u4 12), .inl (cA 0, 2880, .inl (fun _ => 0))), ((u4 13), .inl (cA 0, 2880, .inl (fun _ => 0))), ((u4 3), .inr (4, [.ref (u4 18), .ref (u4 19), .ref (u4 20)])), ((u4 18), .inl (cA 0, 2880, .inl (fun _ => 0))), ((u4 19), .inl (cA 0, 120, .inl (fun _ => 0))), ((u4 20), .inl (cA 0, 120, .inl (fun _ => 0))), ((u4 4), .inr (1, [.ref (u4 21), .ref (u4 22), .ref (u4 23), .int 0, .int 0])), ((u4 21), .inl (cA 0, 10, .inl (fun _ => 0))), ((u4 22), .inl (cA 0, 10, .inl (fun _ => 0))), ((u4 23), .inl (cA 0, 120, .inl (fun _ => 0))), ((u4 5), .inr (0, [.ref (u4 24), .ref (u4 25), .ref (u4 26), .int 0, .ref (u4 27), .ref (u4 28), .int 0, .int 0])), ((u4 24), .inl (cA 0, 4, .inl (fun _ => 0))), ((u4 25), .inl (cA 0, 4, .inl (fun _ => 0))), ((u4 26), .inl (cA 1, 4, .inl (fun _ => 0))), ((u4 27), .inl (cA 0, 10, .inl (fun _ => 0))), ((u4 28), .inl (cA 0, 10, .inl (fun _ => 0))), ((u4 8), .inl (cA 0, 6, .inl (fun _ => 0))), (q8, .inr (6, [.int 0, .ref (u12 29), .ref (u12 30), .ref (u12 31), .int 0, .ref (u12 32), .ref (u12 33), .ref (u12 34), .ref (u12 35), .int 0, .ref (u12 36), .ref (u12 37), .ref (u12 38), .ref (u12 39), .ref (u12 40), .int 0, .ref (u12 41), .ref (u12 42), .ref (u12 43), .int 0, .ref (u12 44), .ref (u12 45), .int 0, .ref (u12 46), .int 0, .int 0, .int 0])), ((u12 29), .inl (cA 0, 8, .inl (fun _ => 0))), ((u12 30), .inl (cA 0, 8, .inl (fun _ => 0))), ((u12 31), .inl (cA 0, 8, .inl (fun _ => 0))), ((u12 32), .inl (cA 1, 2880, .inl (fun _ => 0))), ((u12 33), .inl (cA 0, 2880, .inl (fun _ => 0))), ((u12 34), .inl (cA 0, 2880, .inl (fun _ => 0))), ((u12 35), .inl (cA 1, 2880, .inl (fun _ => 0))), ((u12 36), .inl (cA 0, 10, .inl (fun _ => 0))), ((u12 37), .inl (cA 0, 10, .inl (fun _ => 0))), ((u12 38), .inl (cA 1, 120, .inl (fun _ => 0))), ((u12 39), .inl (cA 0, 120, .inl (fun _ => 0))), ((u12 40), .inl (cA 0, 2880, .inl (fun _ => 0))), ((u12 41), .inl (cA 0, 4, .inl (fun _ => 0))), ((u12 42), .inl (cA 0, 4, .inl (fun _ => 0))), ((u12 43), .inl (cA 1, 4, .inl (fun _ => 0))), ((u12 44), .inl (cA 0, 10, .inl (fun _ => 0))), ((u12 45), .inl (cA 0, 10, .inl (fun _ => 0))), ((u12 46), .inl (cA 0, 7, .inl (fun _ => 0)))] := hD
  refine W.widen (k := 46) (n := 24186) (Nat.le_of_ble_eq_true rfl) (Nat.le_of_ble_eq_true rfl) ?_
  refine lv_astore_n (lv' := [(2, .ref q8), (1, .ref q0), (0, .ref b)]) hx hb dl_15 rfl hl (by decide) rfl (fun ls hl => ?_)
  refine lv_iconst (v := 1) hx hb dl_16 (by decide) ?_
  refine va_newa (atype := .long) (ty := .long) (a0 := (1, .inr (.inl (fun _ => 0)))) hx hb (hw _ (aw_t (n := 971) (by decide +kernel) rfl)) rfl hK hP hD hS hA (fun _ => rfl) (by decide) (show (1 : Int32).toNatClampNeg = 1 from rfl) (Nat.le_of_ble_eq_true rfl) (Nat.le_of_ble_eq_true rfl) (Nat.le_of_ble_eq_true rfl) dl_17 (fun q17 cN H hKn hP hD hS => ?_)
  obtain rfl := qn_cA (t := 2) hKn rfl (fun _ => rfl)
  have hP : va_P D qw_cl (ql_w cA q0 q8 q17 u4 u12) H := hP
  have hD : va_D (fun q : Nat => s.heap.size ≤ q) (ql_w cA q0 q8 q17 u4 u12) := hD
  refine W.widen (k := 47) (n := 24187) (Nat.le_of_ble_eq_true rfl) (Nat.le_of_ble_eq_true rfl) ?_
  refine lv_astore_n (lv' := [(3, .ref q17), (2, .ref q8), (1, .ref q0), (0, .ref b)]) hx hb dl_19 rfl hl (by decide) rfl (fun ls hl => ?_)
  refine lv_iconst (v := 0) hx hb dl_20 (by decide) ?_
  refine lv_istore (lv' := [(4, .int 0), (3, .ref q17), (2, .ref q8), (1, .ref q0), (0, .ref b)]) hx hb dl_21 hl (by decide) rfl (fun ls hl => ?_)
  exact kk q0 q8 q17 u4 u12 H _ ls hP hD hS hl
