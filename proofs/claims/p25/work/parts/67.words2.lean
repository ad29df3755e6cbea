/-- the fields that instructions name: own class, place in its pool, class, field, place of the word -/
def sd_fl : List (Nat × Nat × Nat × Nat × Nat) := [(0, 22, 0, 3, 121), (0, 35, 0, 7, 125), (1, 18, 1, 2, 98), (1, 21, 1, 3, 99), (1, 25, 1, 4, 100), (2, 25, 2, 4, 38), (3, 21, 3, 3, 55), (3, 28, 3, 4, 56), (3, 32, 3, 5, 57), (3, 35, 3, 6, 58), (4, 9, 4, 0, 80), (4, 15, 4, 1, 81), (4, 18, 4, 2, 82), (5, 12, 5, 0, 143), (5, 19, 5, 1, 144), (5, 26, 5, 2, 145), (5, 33, 5, 3, 146), (5, 37, 5, 4, 147)]
def sd_flB (t : Nat × Nat × Nat × Nat × Nat) : Bool := decide (tables_1[t.2.2.2.2]? = some (Cond.fieldLink (sd_R t.1) t.2.1 (sd_R t.2.2.1) (sd_T t.2.2.1 t.2.2.2.1).2.1 (sd_T t.2.2.1 t.2.2.2.1).2.2.1)) && decide ((sd_T t.2.2.1 t.2.2.2.1).1 = sd_R t.2.2.1) && decide (t.2.2.2.1 < sd_N t.2.2.1) && decide (t.2.2.1 < 6)
theorem sd_fl_a : sd_fl.all sd_flB = true := by decide +kernel
def sd_f1 (i pc : Nat) : Bool := match qa_code i pc with
  | some q => !(Nat.ble 12 q.1 && Nat.ble q.1 14) || (decide (0 ≤ q.2.2.1) && sd_fl.any (fun t => Nat.beq t.1 (sd_c i) && Nat.beq t.2.1 q.2.2.2.2 && Nat.beq t.2.2.1 q.2.1 && Nat.beq t.2.2.2.1 q.2.2.1.toNat))
  | none => true
def sd_f2 (i : Nat) : Bool := (List.range (sd_n i)).all (sd_f1 i)
theorem sd_f2_a : (List.range 56).all sd_f2 = true := by decide +kernel
/-- the calls: own class, place in its pool, callee; its kind; places of the words -/
def sd_ct : List (Nat × Nat × Nat × Nat × Nat × Nat × Nat × Nat) := [(3, 38, 41, 2, 269, 167, 1, 0), (3, 42, 9, 1, 336, 266, 2, 286), (3, 46, 42, 2, 337, 338, 1, 0), (3, 49, 0, 1, 362, 363, 3, 383), (3, 75, 8, 1, 243, 244, 2, 264), (4, 21, 8, 1, 323, 244, 2, 264), (4, 27, 12, 1, 324, 325, 2, 345), (4, 31, 7, 1, 322, 289, 2, 309), (4, 34, 17, 1, 318, 320, 4, 2), (5, 45, 9, 1, 265, 266, 2, 286), (5, 49, 39, 0, 169, 170, 1, 0), (5, 53, 41, 0, 166, 167, 1, 0), (5, 57, 40, 0, 270, 271, 1, 0), (5, 75, 10, 1, 332, 333, 2, 353), (5, 86, 11, 1, 358, 359, 2, 379), (5, 89, 15, 1, 366, 367, 4, 387), (5, 110, 42, 0, 447, 338, 1, 0), (5, 116, 13, 1, 239, 240, 2, 260), (5, 119, 1, 1, 443, 444, 5, 464), (5, 126, 2, 1, 456, 457, 5, 477), (5, 136, 14, 1, 628, 629, 4, 649), (5, 139, 4, 1, 551, 520, 5, 540), (5, 142, 16, 1, 680, 681, 4, 701), (5, 146, 5, 1, 472, 473, 6, 493), (5, 165, 38, 1, 235, 237, 1, 1), (5, 172, 6, 1, 644, 645, 6, 665), (5, 175, 3, 1, 247, 248, 5, 268), (7, 8, 18, 1, 261, 262, 1, 282), (7, 14, 19, 1, 328, 329, 1, 349), (7, 18, 20, 1, 423, 424, 1, 444), (7, 21, 25, 1, 439, 440, 1, 460), (7, 24, 26, 1, 460, 461, 1, 481), (7, 28, 31, 1, 468, 469, 1, 489), (7, 31, 32, 1, 480, 481, 1, 501), (7, 35, 33, 1, 492, 493, 1, 513), (7, 38, 35, 1, 539, 540, 1, 560), (7, 51, 21, 1, 568, 569, 1, 589), (7, 57, 22, 1, 582, 583, 1, 603), (7, 60, 23, 1, 594, 595, 1, 615), (7, 63, 24, 1, 612, 613, 1, 633), (7, 66, 27, 1, 616, 617, 1, 637), (7, 69, 28, 1, 624, 625, 1, 645), (7, 72, 34, 1, 632, 633, 1, 653), (7, 75, 36, 1, 162, 163, 1, 183), (7, 78, 37, 1, 640, 641, 1, 661), (7, 97, 46, 0, 657, 658, 0, 0), (7, 105, 48, 0, 556, 557, 0, 0), (7, 108, 45, 3, 565, 566, 0, 0), (7, 115, 47, 0, 666, 667, 0, 0), (7, 119, 50, 0, 669, 670, 0, 0), (7, 123, 29, 1, 672, 673, 1, 693), (7, 126, 30, 1, 676, 677, 1, 697), (7, 129, 44, 3, 255, 256, 0, 0), (7, 140, 49, 0, 553, 554, 0, 0), (7, 143, 43, 0, 251, 252, 0, 0), (7, 166, 51, 0, 562, 563, 0, 0), (7, 170, 52, 0, 654, 655, 0, 0), (7, 174, 53, 0, 684, 685, 0, 0), (7, 178, 54, 0, 687, 688, 0, 0)]
def sd_ctB (t : Nat × Nat × Nat × Nat × Nat × Nat × Nat × Nat) : Bool :=
  decide (tables_1[t.2.2.2.2.2.2.1]? = some (Cond.initialized (sd_y t.2.2.1).cls)) && decide (t.2.2.1 < 55) &&
  (match t.2.2.2.1 with
  | 0 => decide (tables_1[t.2.2.2.2.1]? = some (Cond.methodLink (sd_R t.1) t.2.1 (sd_y t.2.2.1))) && decide (tables_1[t.2.2.2.2.2.1]? = some (Cond.static (sd_y t.2.2.1))) && sd_st t.2.2.1 && (sd_h t.2.2.1).isEmpty
  | 1 => decide (tables_1[t.2.2.2.2.1]? = some (Cond.methodLink (sd_R t.1) t.2.1 (sd_y t.2.2.1))) && decide (tables_1[t.2.2.2.2.2.1]? = some (Cond.instanceMethod (sd_y t.2.2.1))) && decide (lw_tbl[t.2.2.2.2.2.2.2]? = some (Cond.selects (sd_y t.2.2.1).cls (sd_y t.2.2.1) (sd_y t.2.2.1))) && !sd_st t.2.2.1 && (sd_h t.2.2.1).isEmpty
  | 2 => decide (tables_1[t.2.2.2.2.1]? = some (Cond.methodLinkNest (sd_R t.1) t.2.1 (sd_y t.2.2.1) "KeyframeCourt")) && decide (tables_1[t.2.2.2.2.2.1]? = some (Cond.static (sd_y t.2.2.1))) && sd_st t.2.2.1 && (sd_h t.2.2.1).isEmpty
  | _ => decide (tables_1[t.2.2.2.2.1]? = some (Cond.methodLink (sd_R t.1) t.2.1 (sd_y t.2.2.1))) && decide (tables_1[t.2.2.2.2.2.1]? = some (Cond.static (sd_y t.2.2.1))) && sd_st t.2.2.1 && !(sd_h t.2.2.1).isEmpty)
theorem sd_ct_a : sd_ct.all sd_ctB = true := by decide +kernel
def sd_c1 (i pc : Nat) : Bool := match qa_code i pc with
  | some q => !(Nat.beq q.1 18) || (decide (q.2.1 < 55) && decide (sd_F q.2.1 + 1 ≤ sd_F i) && decide (8 + (sd_l q.2.1 + 11) + sd_Q q.2.1 ≤ sd_Q i) && decide ((parseMethodDescriptor (sd_y q.2.1).desc).map (fun d => d.parameters.length) = some (q.2.2.1.toNat - (bif sd_st q.2.1 then 0 else 1))) && decide ((bif sd_st q.2.1 then 0 else 1) ≤ q.2.2.1) && sd_ct.any (fun t => Nat.beq t.1 (sd_c i) && Nat.beq t.2.1 q.2.2.2.2 && Nat.beq t.2.2.1 q.2.1))
  | none => true
def sd_c2 (i : Nat) : Bool := (List.range (sd_n i)).all (sd_c1 i)
theorem sd_c2_a : (List.range 56).all sd_c2 = true := by decide +kernel
def sd_q1 (i pc : Nat) : Bool := match qa_code i pc with
  | some q => !(Nat.beq q.1 33) || decide (tables_1[254]? = some (Cond.constant (sd_R (sd_c i)) q.2.2.2.2 (Int32.ofInt q.2.2.1)))
  | none => true
def sd_q2 (i : Nat) : Bool := (List.range (sd_n i)).all (sd_q1 i)
theorem sd_q2_a : (List.range 56).all sd_q2 = true := by decide +kernel
