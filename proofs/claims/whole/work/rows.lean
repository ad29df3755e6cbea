section
/-! THE ABSTRACT MACHINE: ints are Int, cells are numbers, a memory gives each cell's values -/
abbrev qa_Mem : Type := Nat → Int → Int
abbrev qa_V : Type := Int ⊕ (Nat ⊕ Int)
abbrev qi (v : Int) : qa_V := .inl v
abbrev qr (k : Nat) : qa_V := .inr (.inl k)
abbrev ql (v : Int) : qa_V := .inr (.inr v)
abbrev qa_L : Type := List (Nat × qa_V)
abbrev qa_R : Type := (Option qa_V) ⊕ Nat
/-- op, a, b, the next pc, the index into the constant pool -/
abbrev qa_I : Type := Nat × Nat × Int × Nat × Nat
def qa_InR (x : Int) : Prop := -2147483648 ≤ x ∧ x ≤ 2147483647
def qa_wrap (x : Int) : Int := (x + 2147483648) % 4294967296 - 2147483648
def qa_upd (M : qa_Mem) (k : Nat) (i v : Int) : qa_Mem := fun a b => if a = k ∧ b = i then v else M a b
def qa_lk : qa_L → Nat → Option qa_V
  | [], _ => none
  | q :: t, a => bif Nat.beq q.1 a then some q.2 else qa_lk t a
def qa_loc : Nat → List qa_V → qa_L
  | _, [] => []
  | i, v :: vs => (i, v) :: qa_loc (i + 1) vs
def qa_c1 : qa_V → Bool
  | .inl _ => true
  | .inr (.inl _) => true
  | .inr (.inr _) => false
def qa_and (x y : Int) : Int := (Int32.ofInt x &&& Int32.ofInt y).toInt
def qa_or (x y : Int) : Int := (Int32.ofInt x ||| Int32.ofInt y).toInt
def qa_xor (x y : Int) : Int := (Int32.ofInt x ^^^ Int32.ofInt y).toInt
def qa_shl (x y : Int) : Int := (Int32.ofInt x <<< (Int32.ofInt y &&& 31)).toInt
def qa_shr (x y : Int) : Int := (Int32.ofInt x >>> (Int32.ofInt y &&& 31)).toInt
def qa_bin (k : Nat) (x y z : Int) : Prop :=
  (k = 0 ∧ z = x + y ∧ qa_InR z) ∨ (k = 1 ∧ z = qa_wrap (x + y)) ∨ (k = 2 ∧ z = x - y ∧ qa_InR z) ∨ (k = 3 ∧ z = x * y ∧ qa_InR z) ∨
  (k = 4 ∧ 0 < y ∧ z = x.tdiv y) ∨ (k = 5 ∧ 0 < y ∧ z = x.tmod y) ∨ (k = 6 ∧ z = qa_and x y) ∨ (k = 7 ∧ z = qa_or x y) ∨
  (k = 8 ∧ z = qa_shl x y) ∨ (k = 9 ∧ z = qa_shr x y) ∨ (k = 10 ∧ z = qa_xor x y)
def qa_cmp (k : Nat) (x y : Int) : Prop :=
  (k = 0 ∧ x = y) ∨ (k = 1 ∧ x ≠ y) ∨ (k = 2 ∧ x < y) ∨ (k = 3 ∧ y ≤ x) ∨ (k = 4 ∧ y < x) ∨ (k = 5 ∧ x ≤ y)
def qa_sgn (x y : Int) : Int := if x < y then -1 else if x = y then 0 else 1
end
section
/-- Math.floorDiv -/
def qc_t0 : List (List (Option qa_I)) := [[some (1, 0, 0, 1, 0), some (1, 1, 0, 2, 0), some (6, 4, 0, 3, 0), some (3, 2, 0, 4, 0), some (1, 0, 0, 5, 0), some (1, 1, 0, 6, 0), some (6, 10, 0, 7, 0), some (16, 3, 21, 10, 0), none, none, some (1, 2, 0, 11, 0), some (1, 1, 0, 12, 0), some (6, 3, 0, 13, 0), some (1, 0, 0, 14, 0), some (15, 0, 21, 17, 0), none, none, some (1, 2, 0, 18, 0), some (0, 0, 1, 19, 0), some (6, 2, 0, 20, 0), some (19, 0, 0, 20, 0), some (1, 2, 0, 22, 0), some (19, 0, 0, 22, 0)]]
/-- Math.max -/
def qc_t1 : List (List (Option qa_I)) := [[some (1, 0, 0, 1, 0), some (1, 1, 0, 2, 0), some (15, 2, 9, 5, 0), none, none, some (1, 0, 0, 6, 0), some (17, 0, 0, 10, 0), none, none, some (1, 1, 0, 10, 0), some (19, 0, 0, 10, 0)]]
/-- Keys.codeOf -/
def qc_t2 : List (List (Option qa_I)) := [[some (0, 0, 1000, 3, 0), none, none, some (1, 0, 0, 4, 0), some (6, 3, 0, 5, 0), some (1, 1, 0, 6, 0), some (6, 0, 0, 7, 0), some (19, 0, 0, 7, 0)]]
/-- Keys.size -/
def qc_t3 : List (List (Option qa_I)) := [[some (2, 0, 0, 1, 0), some (12, 2, 4, 4, 25), none, none, some (19, 0, 0, 4, 0)]]
/-- Keys.codeAt -/
def qc_t4 : List (List (Option qa_I)) := [[some (2, 0, 0, 1, 0), some (13, 2, 0, 4, 9), none, none, some (1, 1, 0, 5, 0), some (10, 0, 0, 6, 0), some (19, 0, 0, 6, 0)]]
/-- Keys.frameAt -/
def qc_t5 : List (List (Option qa_I)) := [[some (2, 0, 0, 1, 0), some (13, 2, 0, 4, 9), none, none, some (1, 1, 0, 5, 0), some (10, 0, 0, 6, 0), some (0, 0, 1000, 9, 0), none, none, some (6, 5, 0, 10, 0), some (19, 0, 0, 10, 0)]]
/-- Keys.valueAt -/
def qc_t6 : List (List (Option qa_I)) := [[some (2, 0, 0, 1, 0), some (13, 2, 1, 4, 15), none, none, some (1, 1, 0, 5, 0), some (10, 0, 0, 6, 0), some (19, 0, 0, 6, 0)]]
/-- Keys.setterBit -/
def qc_t7 : List (List (Option qa_I)) := [[some (0, 0, 1, 1, 0), some (2, 0, 0, 2, 0), some (13, 2, 2, 5, 18), none, none, some (1, 1, 0, 6, 0), some (10, 0, 0, 7, 0), some (6, 8, 0, 8, 0), some (19, 0, 0, 8, 0)]]
/-- Keys.isSoft -/
def qc_t8 : List (List (Option qa_I)) := [[some (2, 0, 0, 1, 0), some (13, 2, 3, 4, 21), none, none, some (1, 1, 0, 5, 0), some (10, 1, 0, 6, 0), some (19, 1, 0, 6, 0)]]
/-- Keys.countAhead -/
def qc_t9 : List (List (Option qa_I)) := [[some (0, 0, 0, 1, 0), some (3, 2, 0, 2, 0), some (1, 2, 0, 3, 0), some (2, 0, 0, 4, 0), some (12, 2, 4, 7, 25), none, none, some (15, 3, 26, 10, 0), none, none, some (2, 0, 0, 11, 0), some (13, 2, 0, 14, 9), none, none, some (1, 2, 0, 15, 0), some (10, 0, 0, 16, 0), some (1, 1, 0, 17, 0), some (15, 3, 26, 20, 0), none, none, some (5, 2, 1, 23, 0), none, none, some (17, 0, 0, 2, 0), none, none, some (1, 2, 0, 27, 0), some (19, 0, 0, 27, 0)]]
/-- Keys.startOf -/
def qc_t10 : List (List (Option qa_I)) := [[some (2, 0, 0, 1, 0), some (1, 1, 0, 2, 0), some (0, 0, 0, 3, 0), some (18, 2, 2, 6, 29), none, none, some (18, 9, 2, 9, 33), none, none, some (19, 0, 0, 9, 0)]]
/-- Keys.has -/
def qc_t11 : List (List (Option qa_I)) := [[some (2, 0, 0, 1, 0), some (1, 1, 0, 2, 0), some (18, 9, 2, 5, 33), none, none, some (3, 2, 0, 6, 0), some (1, 2, 0, 7, 0), some (2, 0, 0, 8, 0), some (12, 2, 4, 11, 25), none, none, some (15, 3, 28, 14, 0), none, none, some (2, 0, 0, 15, 0), some (13, 2, 0, 18, 9), none, none, some (1, 2, 0, 19, 0), some (10, 0, 0, 20, 0), some (1, 1, 0, 21, 0), some (15, 1, 28, 24, 0), none, none, some (0, 0, 1, 25, 0), some (17, 0, 0, 29, 0), none, none, some (0, 0, 0, 29, 0), some (19, 1, 0, 29, 0)]]
/-- Keys.put -/
def qc_t12 : List (List (Option qa_I)) := [[some (2, 0, 0, 1, 0), some (1, 1, 0, 2, 0), some (18, 9, 2, 5, 33), none, none, some (3, 5, 0, 7, 0), none, some (2, 0, 0, 8, 0), some (1, 1, 0, 9, 0), some (18, 11, 2, 12, 37), none, none, some (16, 1, 21, 15, 0), none, none, some (2, 0, 0, 16, 0), some (1, 5, 0, 18, 0), none, some (18, 14, 2, 21, 41), none, none, some (2, 0, 0, 22, 0), some (13, 2, 0, 25, 9), none, none, some (1, 5, 0, 27, 0), none, some (1, 1, 0, 28, 0), some (11, 0, 0, 29, 0), some (2, 0, 0, 30, 0), some (13, 2, 1, 33, 15), none, none, some (1, 5, 0, 35, 0), none, some (1, 2, 0, 36, 0), some (11, 0, 0, 37, 0), some (2, 0, 0, 38, 0), some (13, 2, 2, 41, 18), none, none, some (1, 5, 0, 43, 0), none, some (1, 3, 0, 44, 0), some (11, 0, 0, 45, 0), some (2, 0, 0, 46, 0), some (13, 2, 3, 49, 21), none, none, some (1, 5, 0, 51, 0), none, some (1, 4, 0, 53, 0), none, some (11, 1, 0, 54, 0), some (20, 0, 0, 54, 0)]]
/-- Keys.take -/
def qc_t13 : List (List (Option qa_I)) := [[some (2, 0, 0, 1, 0), some (1, 1, 0, 2, 0), some (18, 11, 2, 5, 37), none, none, some (16, 0, 17, 8, 0), none, none, some (2, 0, 0, 9, 0), some (2, 0, 0, 10, 0), some (1, 1, 0, 11, 0), some (18, 9, 2, 14, 33), none, none, some (18, 15, 2, 17, 45), none, none, some (20, 0, 0, 17, 0)]]
/-- Keys.openRow -/
def qc_t14 : List (List (Option qa_I)) := [[some (2, 0, 0, 1, 0), some (12, 2, 4, 4, 25), none, none, some (3, 2, 0, 5, 0), some (1, 2, 0, 6, 0), some (1, 1, 0, 7, 0), some (15, 5, 24, 10, 0), none, none, some (2, 0, 0, 11, 0), some (1, 2, 0, 12, 0), some (0, 0, 1, 13, 0), some (6, 2, 0, 14, 0), some (1, 2, 0, 15, 0), some (18, 16, 3, 18, 48), none, none, some (5, 2, -1, 21, 0), none, none, some (17, 0, 0, 5, 0), none, none, some (2, 0, 0, 25, 0), some (8, 0, 0, 26, 0), some (12, 2, 4, 29, 25), none, none, some (0, 0, 1, 30, 0), some (6, 0, 0, 31, 0), some (14, 2, 4, 34, 25), none, none, some (20, 0, 0, 34, 0)]]
/-- Keys.closeRow -/
def qc_t15 : List (List (Option qa_I)) := [[some (2, 0, 0, 1, 0), some (8, 0, 0, 2, 0), some (12, 2, 4, 5, 25), none, none, some (0, 0, 1, 6, 0), some (6, 2, 0, 7, 0), some (14, 2, 4, 10, 25), none, none, some (1, 1, 0, 11, 0), some (3, 2, 0, 12, 0), some (1, 2, 0, 13, 0), some (2, 0, 0, 14, 0), some (12, 2, 4, 17, 25), none, none, some (15, 3, 34, 20, 0), none, none, some (2, 0, 0, 21, 0), some (1, 2, 0, 22, 0), some (0, 0, 1, 23, 0), some (6, 0, 0, 24, 0), some (1, 2, 0, 25, 0), some (18, 16, 3, 28, 48), none, none, some (5, 2, 1, 31, 0), none, none, some (17, 0, 0, 12, 0), none, none, some (20, 0, 0, 34, 0)]]
/-- Keys.copyRow -/
def qc_t16 : List (List (Option qa_I)) := [[some (2, 0, 0, 1, 0), some (13, 2, 0, 4, 9), none, none, some (1, 2, 0, 5, 0), some (2, 0, 0, 6, 0), some (13, 2, 0, 9, 9), none, none, some (1, 1, 0, 10, 0), some (10, 0, 0, 11, 0), some (11, 0, 0, 12, 0), some (2, 0, 0, 13, 0), some (13, 2, 1, 16, 15), none, none, some (1, 2, 0, 17, 0), some (2, 0, 0, 18, 0), some (13, 2, 1, 21, 15), none, none, some (1, 1, 0, 22, 0), some (10, 0, 0, 23, 0), some (11, 0, 0, 24, 0), some (2, 0, 0, 25, 0), some (13, 2, 2, 28, 18), none, none, some (1, 2, 0, 29, 0), some (2, 0, 0, 30, 0), some (13, 2, 2, 33, 18), none, none, some (1, 1, 0, 34, 0), some (10, 0, 0, 35, 0), some (11, 0, 0, 36, 0), some (2, 0, 0, 37, 0), some (13, 2, 3, 40, 21), none, none, some (1, 2, 0, 41, 0), some (2, 0, 0, 42, 0), some (13, 2, 3, 45, 21), none, none, some (1, 1, 0, 46, 0), some (10, 1, 0, 47, 0), some (11, 1, 0, 48, 0), some (20, 0, 0, 48, 0)]]
/-- Film.shotCount -/
def qc_t17 : List (List (Option qa_I)) := [[some (2, 0, 0, 1, 0), some (12, 1, 3, 4, 21), none, none, some (19, 0, 0, 4, 0)]]
/-- Film.length -/
def qc_t18 : List (List (Option qa_I)) := [[some (2, 0, 0, 1, 0), some (12, 1, 4, 4, 25), none, none, some (19, 0, 0, 4, 0)]]
/-- Film.timesOf -/
def qc_t19 : List (List (Option qa_I)) := [[some (2, 0, 0, 1, 0), some (13, 1, 2, 4, 18), none, none, some (1, 1, 0, 5, 0), some (10, 0, 0, 6, 0), some (19, 0, 0, 6, 0)]]
/-- Film.needs -/
def qc_t20 : List (List (Option qa_I)) := [[some (2, 0, 0, 1, 0), some (13, 1, 2, 4, 18), none, none, some (1, 1, 0, 5, 0), some (10, 0, 0, 6, 0), some (16, 5, 13, 9, 0), none, none, some (0, 0, 1, 10, 0), some (17, 0, 0, 14, 0), none, none, some (0, 0, 0, 14, 0), some (19, 1, 0, 14, 0)]]
/-- Film.insert -/
def qc_t21_0 : List (Option qa_I) := [some (2, 0, 0, 1, 0), some (12, 1, 3, 4, 21), none, none, some (3, 4, 0, 6, 0), none, some (1, 4, 0, 8, 0), none, some (1, 1, 0, 9, 0), some (15, 5, 50, 12, 0), none, none, some (2, 0, 0, 13, 0), some (13, 1, 0, 16, 9), none, none, some (1, 4, 0, 18, 0), none, some (2, 0, 0, 19, 0), some (13, 1, 0, 22, 9), none, none, some (1, 4, 0, 24, 0), none, some (0, 0, 1, 25, 0), some (6, 2, 0, 26, 0), some (10, 0, 0, 27, 0), some (11, 0, 0, 28, 0), some (2, 0, 0, 29, 0), some (13, 1, 1, 32, 15), none, none, some (1, 4, 0, 34, 0), none, some (2, 0, 0, 35, 0), some (13, 1, 1, 38, 15), none, none, some (1, 4, 0, 40, 0), none, some (0, 0, 1, 41, 0), some (6, 2, 0, 42, 0), some (10, 0, 0, 43, 0), some (11, 0, 0, 44, 0), some (5, 4, -1, 47, 0), none, none, some (17, 0, 0, 6, 0), none, none, some (2, 0, 0, 51, 0), some (13, 1, 0, 54, 9), none, none, some (1, 1, 0, 55, 0), some (1, 2, 0, 56, 0), some (11, 0, 0, 57, 0), some (2, 0, 0, 58, 0), some (13, 1, 1, 61, 15), none, none, some (1, 1, 0, 62, 0), some (1, 3, 0, 63, 0), some (11, 0, 0, 64, 0)]
def qc_t21_1 : List (Option qa_I) := [some (2, 0, 0, 65, 0), some (8, 0, 0, 66, 0), some (12, 1, 3, 69, 21), none, none, some (0, 0, 1, 70, 0), some (6, 0, 0, 71, 0), some (14, 1, 3, 74, 21), none, none, some (2, 0, 0, 75, 0), some (1, 2, 0, 76, 0), some (1, 3, 0, 77, 0), some (0, 0, 1, 78, 0), some (18, 24, 4, 81, 28), none, none, some (20, 0, 0, 81, 0)]
def qc_t21 : List (List (Option qa_I)) := [qc_t21_0, qc_t21_1]
/-- Film.remove -/
def qc_t22_0 : List (Option qa_I) := [some (2, 0, 0, 1, 0), some (2, 0, 0, 2, 0), some (13, 1, 0, 5, 9), none, none, some (1, 1, 0, 6, 0), some (10, 0, 0, 7, 0), some (2, 0, 0, 8, 0), some (13, 1, 1, 11, 15), none, none, some (1, 1, 0, 12, 0), some (10, 0, 0, 13, 0), some (0, 0, -1, 14, 0), some (18, 24, 4, 17, 28), none, none, some (2, 0, 0, 18, 0), some (8, 0, 0, 19, 0), some (12, 1, 3, 22, 21), none, none, some (0, 0, 1, 23, 0), some (6, 2, 0, 24, 0), some (14, 1, 3, 27, 21), none, none, some (1, 1, 0, 28, 0), some (3, 2, 0, 29, 0), some (1, 2, 0, 30, 0), some (2, 0, 0, 31, 0), some (12, 1, 3, 34, 21), none, none, some (15, 3, 71, 37, 0), none, none, some (2, 0, 0, 38, 0), some (13, 1, 0, 41, 9), none, none, some (1, 2, 0, 42, 0), some (2, 0, 0, 43, 0), some (13, 1, 0, 46, 9), none, none, some (1, 2, 0, 47, 0), some (0, 0, 1, 48, 0), some (6, 0, 0, 49, 0), some (10, 0, 0, 50, 0), some (11, 0, 0, 51, 0), some (2, 0, 0, 52, 0), some (13, 1, 1, 55, 15), none, none, some (1, 2, 0, 56, 0), some (2, 0, 0, 57, 0), some (13, 1, 1, 60, 15), none, none, some (1, 2, 0, 61, 0), some (0, 0, 1, 62, 0), some (6, 0, 0, 63, 0), some (10, 0, 0, 64, 0)]
def qc_t22_1 : List (Option qa_I) := [some (11, 0, 0, 65, 0), some (5, 2, 1, 68, 0), none, none, some (17, 0, 0, 29, 0), none, none, some (20, 0, 0, 71, 0)]
def qc_t22 : List (List (Option qa_I)) := [qc_t22_0, qc_t22_1]
/-- Film.frameAt -/
def qc_t23 : List (List (Option qa_I)) := [[some (1, 1, 0, 1, 0), some (3, 2, 0, 2, 0), some (0, 0, 0, 3, 0), some (3, 3, 0, 4, 0), some (1, 3, 0, 5, 0), some (2, 0, 0, 6, 0), some (12, 1, 3, 9, 21), none, none, some (15, 3, 55, 12, 0), none, none, some (2, 0, 0, 13, 0), some (13, 1, 1, 16, 15), none, none, some (1, 3, 0, 17, 0), some (10, 0, 0, 18, 0), some (2, 0, 0, 19, 0), some (13, 1, 0, 22, 9), none, none, some (1, 3, 0, 23, 0), some (10, 0, 0, 24, 0), some (6, 2, 0, 25, 0), some (0, 0, 1, 26, 0), some (6, 0, 0, 27, 0), some (3, 4, 0, 29, 0), none, some (1, 2, 0, 30, 0), some (1, 4, 0, 32, 0), none, some (15, 3, 44, 35, 0), none, none, some (2, 0, 0, 36, 0), some (13, 1, 0, 39, 9), none, none, some (1, 3, 0, 40, 0), some (10, 0, 0, 41, 0), some (1, 2, 0, 42, 0), some (6, 0, 0, 43, 0), some (19, 0, 0, 43, 0), some (1, 2, 0, 45, 0), some (1, 4, 0, 47, 0), none, some (6, 2, 0, 48, 0), some (3, 2, 0, 49, 0), some (5, 3, 1, 52, 0), none, none, some (17, 0, 0, 4, 0), none, none, some (0, 0, 0, 56, 0), some (19, 0, 0, 56, 0)]]
/-- Film.count -/
def qc_t24 : List (List (Option qa_I)) := [[some (1, 1, 0, 1, 0), some (3, 4, 0, 3, 0), none, some (1, 4, 0, 5, 0), none, some (1, 2, 0, 6, 0), some (15, 4, 36, 9, 0), none, none, some (2, 0, 0, 10, 0), some (13, 1, 2, 13, 18), none, none, some (1, 4, 0, 15, 0), none, some (9, 0, 0, 16, 0), some (10, 0, 0, 17, 0), some (1, 3, 0, 18, 0), some (6, 0, 0, 19, 0), some (11, 0, 0, 20, 0), some (2, 0, 0, 21, 0), some (8, 0, 0, 22, 0), some (12, 1, 4, 25, 25), none, none, some (1, 3, 0, 26, 0), some (6, 0, 0, 27, 0), some (14, 1, 4, 30, 25), none, none, some (5, 4, 1, 33, 0), none, none, some (17, 0, 0, 3, 0), none, none, some (20, 0, 0, 36, 0)]]
/-- Farm.machineCount -/
def qc_t25 : List (List (Option qa_I)) := [[some (2, 0, 0, 1, 0), some (12, 0, 3, 4, 22), none, none, some (19, 0, 0, 4, 0)]]
/-- Farm.offerCount -/
def qc_t26 : List (List (Option qa_I)) := [[some (2, 0, 0, 1, 0), some (12, 0, 6, 4, 32), none, none, some (19, 0, 0, 4, 0)]]
/-- Farm.earnings -/
def qc_t27 : List (List (Option qa_I)) := [[some (2, 0, 0, 1, 0), some (12, 0, 7, 4, 35), none, none, some (19, 0, 0, 4, 0)]]
/-- Farm.heatOf -/
def qc_t28 : List (List (Option qa_I)) := [[some (0, 0, 10, 2, 0), none, some (2, 0, 0, 3, 0), some (13, 0, 1, 6, 15), none, none, some (1, 1, 0, 7, 0), some (10, 0, 0, 8, 0), some (6, 3, 0, 9, 0), some (2, 0, 0, 10, 0), some (13, 0, 2, 13, 18), none, none, some (1, 1, 0, 14, 0), some (10, 1, 0, 15, 0), some (16, 0, 22, 18, 0), none, none, some (0, 0, 1, 19, 0), some (17, 0, 0, 23, 0), none, none, some (0, 0, 0, 23, 0), some (6, 0, 0, 24, 0), some (19, 0, 0, 24, 0)]]
/-- Farm.addMachine -/
def qc_t29 : List (List (Option qa_I)) := [[some (2, 0, 0, 1, 0), some (12, 0, 3, 4, 22), none, none, some (3, 2, 0, 5, 0), some (2, 0, 0, 6, 0), some (13, 0, 0, 9, 9), none, none, some (1, 2, 0, 10, 0), some (1, 1, 0, 11, 0), some (11, 0, 0, 12, 0), some (2, 0, 0, 13, 0), some (8, 0, 0, 14, 0), some (12, 0, 3, 17, 22), none, none, some (0, 0, 1, 18, 0), some (6, 0, 0, 19, 0), some (14, 0, 3, 22, 22), none, none, some (1, 2, 0, 23, 0), some (19, 0, 0, 23, 0)]]
/-- Farm.addOffer -/
def qc_t30 : List (List (Option qa_I)) := [[some (2, 0, 0, 1, 0), some (12, 0, 6, 4, 32), none, none, some (3, 3, 0, 5, 0), some (2, 0, 0, 6, 0), some (13, 0, 4, 9, 26), none, none, some (1, 3, 0, 10, 0), some (1, 1, 0, 11, 0), some (11, 0, 0, 12, 0), some (2, 0, 0, 13, 0), some (13, 0, 5, 16, 29), none, none, some (1, 3, 0, 17, 0), some (1, 2, 0, 18, 0), some (11, 0, 0, 19, 0), some (2, 0, 0, 20, 0), some (8, 0, 0, 21, 0), some (12, 0, 6, 24, 32), none, none, some (0, 0, 1, 25, 0), some (6, 0, 0, 26, 0), some (14, 0, 6, 29, 32), none, none, some (1, 3, 0, 30, 0), some (19, 0, 0, 30, 0)]]
/-- Farm.passHours -/
def qc_t31_0 : List (Option qa_I) := [some (0, 0, 0, 1, 0), some (3, 5, 0, 3, 0), none, some (0, 0, 0, 4, 0), some (3, 6, 0, 6, 0), none, some (1, 6, 0, 8, 0), none, some (1, 1, 0, 9, 0), some (15, 3, 70, 12, 0), none, none, some (0, 0, 0, 13, 0), some (3, 7, 0, 15, 0), none, some (1, 7, 0, 17, 0), none, some (2, 0, 0, 18, 0), some (12, 0, 3, 21, 22), none, none, some (15, 3, 64, 24, 0), none, none, some (1, 5, 0, 26, 0), none, some (2, 0, 0, 27, 0), some (13, 0, 2, 30, 18), none, none, some (1, 7, 0, 32, 0), none, some (10, 1, 0, 33, 0), some (16, 0, 45, 36, 0), none, none, some (2, 0, 0, 37, 0), some (1, 7, 0, 39, 0), none, some (18, 32, 2, 42, 38), none, none, some (17, 0, 0, 55, 0), none, none, some (2, 0, 0, 46, 0), some (1, 7, 0, 48, 0), none, some (2, 2, 0, 49, 0), some (2, 3, 0, 50, 0), some (2, 4, 0, 52, 0), none, some (18, 33, 5, 55, 42), none, none, some (6, 1, 0, 56, 0), some (3, 5, 0, 58, 0), none, some (5, 7, 1, 61, 0), none, none, some (17, 0, 0, 15, 0), none, none]
def qc_t31_1 : List (Option qa_I) := [some (5, 6, 1, 67, 0), none, none, some (17, 0, 0, 6, 0), none, none, some (1, 5, 0, 72, 0), none, some (19, 0, 0, 72, 0)]
def qc_t31 : List (List (Option qa_I)) := [qc_t31_0, qc_t31_1]
/-- Farm.rest -/
def qc_t32 : List (List (Option qa_I)) := [[some (2, 0, 0, 1, 0), some (1, 1, 0, 2, 0), some (18, 37, 2, 5, 46), none, none, some (2, 0, 0, 6, 0), some (13, 0, 2, 9, 18), none, none, some (1, 1, 0, 10, 0), some (2, 0, 0, 11, 0), some (13, 0, 1, 14, 15), none, none, some (1, 1, 0, 15, 0), some (10, 0, 0, 16, 0), some (0, 0, 8, 18, 0), none, some (15, 5, 25, 21, 0), none, none, some (0, 0, 1, 22, 0), some (17, 0, 0, 26, 0), none, none, some (0, 0, 0, 26, 0), some (11, 1, 0, 27, 0), some (0, 0, 0, 28, 0), some (19, 0, 0, 28, 0)]]
/-- Farm.work -/
def qc_t33_0 : List (Option qa_I) := [some (2, 0, 0, 1, 0), some (1, 1, 0, 2, 0), some (2, 2, 0, 3, 0), some (2, 3, 0, 4, 0), some (2, 4, 0, 6, 0), none, some (18, 34, 5, 9, 50), none, none, some (3, 5, 0, 11, 0), none, some (1, 5, 0, 13, 0), none, some (16, 1, 24, 16, 0), none, none, some (2, 0, 0, 17, 0), some (1, 1, 0, 18, 0), some (18, 35, 2, 21, 53), none, none, some (17, 0, 0, 25, 0), none, none, some (0, 0, 0, 25, 0), some (3, 6, 0, 27, 0), none, some (1, 5, 0, 29, 0), none, some (16, 1, 42, 32, 0), none, none, some (1, 6, 0, 34, 0), none, some (16, 1, 42, 37, 0), none, none, some (2, 0, 0, 38, 0), some (1, 1, 0, 39, 0), some (18, 37, 2, 42, 46), none, none, some (2, 0, 0, 43, 0), some (13, 0, 2, 46, 18), none, none, some (1, 1, 0, 47, 0), some (2, 0, 0, 48, 0), some (13, 0, 1, 51, 15), none, none, some (1, 1, 0, 52, 0), some (10, 0, 0, 53, 0), some (0, 0, 20, 55, 0), none, some (15, 2, 62, 58, 0), none, none, some (0, 0, 1, 59, 0), some (17, 0, 0, 63, 0), none, none, some (0, 0, 0, 63, 0), some (11, 1, 0, 64, 0)]
def qc_t33_1 : List (Option qa_I) := [some (0, 0, 1000, 67, 0), none, none, some (1, 5, 0, 69, 0), none, some (6, 3, 0, 70, 0), some (1, 6, 0, 72, 0), none, some (6, 0, 0, 73, 0), some (19, 0, 0, 73, 0)]
def qc_t33 : List (List (Option qa_I)) := [qc_t33_0, qc_t33_1]
/-- Farm.render -/
def qc_t34_0 : List (Option qa_I) := [some (0, 0, 0, 1, 0), some (3, 5, 0, 3, 0), none, some (0, 0, 0, 4, 0), some (3, 6, 0, 6, 0), none, some (1, 6, 0, 8, 0), none, some (0, 0, 120, 10, 0), none, some (15, 3, 59, 13, 0), none, none, some (1, 5, 0, 15, 0), none, some (2, 0, 0, 16, 0), some (13, 0, 0, 19, 9), none, none, some (1, 1, 0, 20, 0), some (10, 0, 0, 21, 0), some (15, 3, 59, 24, 0), none, none, some (2, 2, 0, 25, 0), some (1, 6, 0, 27, 0), none, some (18, 20, 2, 30, 56), none, none, some (16, 0, 53, 33, 0), none, none, some (2, 3, 0, 34, 0), some (1, 6, 0, 36, 0), none, some (18, 58, 2, 39, 62), none, none, some (16, 1, 53, 42, 0), none, none, some (2, 3, 0, 43, 0), some (1, 6, 0, 45, 0), none, some (2, 4, 0, 47, 0), none, some (18, 59, 3, 50, 67), none, none, some (5, 5, 1, 53, 0), none, none, some (5, 6, 1, 56, 0), none, none, some (17, 0, 0, 6, 0), none, none, some (2, 0, 0, 60, 0), some (13, 0, 1, 63, 15), none, none, some (1, 1, 0, 64, 0)]
def qc_t34_1 : List (Option qa_I) := [some (9, 0, 0, 65, 0), some (10, 0, 0, 66, 0), some (1, 5, 0, 68, 0), none, some (6, 0, 0, 69, 0), some (11, 0, 0, 70, 0), some (1, 5, 0, 72, 0), none, some (19, 0, 0, 72, 0)]
def qc_t34 : List (List (Option qa_I)) := [qc_t34_0, qc_t34_1]
/-- Farm.sell -/
def qc_t35 : List (List (Option qa_I)) := [[some (2, 0, 0, 1, 0), some (18, 36, 1, 4, 70), none, none, some (3, 2, 0, 5, 0), some (1, 2, 0, 6, 0), some (16, 3, 11, 9, 0), none, none, some (0, 0, 0, 10, 0), some (19, 0, 0, 10, 0), some (2, 0, 0, 12, 0), some (13, 0, 5, 15, 29), none, none, some (1, 2, 0, 16, 0), some (9, 0, 0, 17, 0), some (10, 0, 0, 18, 0), some (0, 0, 1, 19, 0), some (6, 2, 0, 20, 0), some (11, 0, 0, 21, 0), some (2, 0, 0, 22, 0), some (8, 0, 0, 23, 0), some (12, 0, 7, 26, 35), none, none, some (2, 0, 0, 27, 0), some (13, 0, 4, 30, 26), none, none, some (1, 2, 0, 31, 0), some (10, 0, 0, 32, 0), some (6, 1, 0, 33, 0), some (14, 0, 7, 36, 35), none, none, some (2, 0, 0, 37, 0), some (13, 0, 1, 40, 15), none, none, some (1, 1, 0, 41, 0), some (9, 0, 0, 42, 0), some (10, 0, 0, 43, 0), some (0, 0, 3, 44, 0), some (6, 0, 0, 45, 0), some (11, 0, 0, 46, 0), some (0, 0, 1, 47, 0), some (19, 0, 0, 47, 0)]]
/-- Farm.bestOffer -/
def qc_t36 : List (List (Option qa_I)) := [[some (0, 0, -1, 1, 0), some (3, 1, 0, 2, 0), some (0, 0, 0, 3, 0), some (3, 2, 0, 4, 0), some (1, 2, 0, 5, 0), some (2, 0, 0, 6, 0), some (12, 0, 6, 9, 32), none, none, some (15, 3, 48, 12, 0), none, none, some (2, 0, 0, 13, 0), some (13, 0, 5, 16, 29), none, none, some (1, 2, 0, 17, 0), some (10, 0, 0, 18, 0), some (16, 5, 42, 21, 0), none, none, some (1, 1, 0, 22, 0), some (16, 2, 40, 25, 0), none, none, some (2, 0, 0, 26, 0), some (13, 0, 4, 29, 26), none, none, some (1, 2, 0, 30, 0), some (10, 0, 0, 31, 0), some (2, 0, 0, 32, 0), some (13, 0, 4, 35, 26), none, none, some (1, 1, 0, 36, 0), some (10, 0, 0, 37, 0), some (15, 5, 42, 40, 0), none, none, some (1, 2, 0, 41, 0), some (3, 1, 0, 42, 0), some (5, 2, 1, 45, 0), none, none, some (17, 0, 0, 4, 0), none, none, some (1, 1, 0, 49, 0), some (19, 0, 0, 49, 0)]]
/-- Farm.cool -/
def qc_t37 : List (List (Option qa_I)) := [[some (2, 0, 0, 1, 0), some (13, 0, 1, 4, 15), none, none, some (1, 1, 0, 5, 0), some (0, 0, 0, 6, 0), some (2, 0, 0, 7, 0), some (13, 0, 1, 10, 15), none, none, some (1, 1, 0, 11, 0), some (10, 0, 0, 12, 0), some (0, 0, 4, 13, 0), some (6, 2, 0, 14, 0), some (18, 1, 2, 17, 74), none, none, some (11, 0, 0, 18, 0), some (20, 0, 0, 18, 0)]]
/-- Rig.boneCount -/
def qc_t38 : List (List (Option qa_I)) := [[some (2, 0, 0, 1, 0), some (12, 3, 3, 4, 21), none, none, some (19, 0, 0, 4, 0)]]
/-- Rig.trackCount -/
def qc_t39 : List (List (Option qa_I)) := [[some (0, 0, 3, 1, 0), some (2, 0, 0, 2, 0), some (12, 3, 3, 5, 21), none, none, some (6, 3, 0, 6, 0), some (19, 0, 0, 6, 0)]]
/-- Rig.hasBone -/
def qc_t40 : List (List (Option qa_I)) := [[some (1, 1, 0, 1, 0), some (0, 0, 0, 2, 0), some (2, 0, 0, 3, 0), some (12, 3, 3, 6, 21), none, none, some (0, 0, 1, 7, 0), some (6, 2, 0, 8, 0), some (18, 138, 3, 11, 38), none, none, some (19, 1, 0, 11, 0)]]
/-- Rig.hasCell -/
def qc_t41 : List (List (Option qa_I)) := [[some (2, 0, 0, 1, 0), some (1, 1, 0, 2, 0), some (18, 40, 2, 5, 42), none, none, some (16, 0, 28, 8, 0), none, none, some (1, 2, 0, 9, 0), some (0, 0, 0, 10, 0), some (0, 0, 2, 11, 0), some (18, 138, 3, 14, 38), none, none, some (16, 0, 28, 17, 0), none, none, some (1, 3, 0, 18, 0), some (18, 139, 1, 21, 46), none, none, some (16, 0, 28, 24, 0), none, none, some (0, 0, 1, 25, 0), some (17, 0, 0, 29, 0), none, none, some (0, 0, 0, 29, 0), some (19, 1, 0, 29, 0)]]
/-- Rig.addBone -/
def qc_t42 : List (List (Option qa_I)) := [[some (2, 0, 0, 1, 0), some (12, 3, 3, 4, 21), none, none, some (3, 4, 0, 6, 0), none, some (2, 0, 0, 7, 0), some (13, 3, 0, 10, 9), none, none, some (1, 4, 0, 12, 0), none, some (1, 1, 0, 13, 0), some (11, 0, 0, 14, 0), some (2, 0, 0, 15, 0), some (13, 3, 1, 18, 15), none, none, some (1, 4, 0, 20, 0), none, some (1, 2, 0, 21, 0), some (11, 0, 0, 22, 0), some (2, 0, 0, 23, 0), some (13, 3, 2, 26, 18), none, none, some (1, 4, 0, 28, 0), none, some (1, 3, 0, 29, 0), some (11, 0, 0, 30, 0), some (2, 0, 0, 31, 0), some (8, 0, 0, 32, 0), some (12, 3, 3, 35, 21), none, none, some (0, 0, 1, 36, 0), some (6, 0, 0, 37, 0), some (14, 3, 3, 40, 21), none, none, some (1, 4, 0, 42, 0), none, some (19, 0, 0, 42, 0)]]
/-- Rig.keyCount -/
def qc_t43 : List (List (Option qa_I)) := [[some (2, 0, 0, 1, 0), some (13, 3, 4, 4, 28), none, none, some (18, 3, 1, 7, 49), none, none, some (19, 0, 0, 7, 0)]]
/-- Rig.keyCode -/
def qc_t44 : List (List (Option qa_I)) := [[some (2, 0, 0, 1, 0), some (13, 3, 4, 4, 28), none, none, some (1, 1, 0, 5, 0), some (18, 4, 2, 8, 53), none, none, some (19, 0, 0, 8, 0)]]
/-- Rig.hasKey -/
def qc_t45 : List (List (Option qa_I)) := [[some (2, 0, 0, 1, 0), some (13, 3, 4, 4, 28), none, none, some (1, 1, 0, 5, 0), some (1, 2, 0, 6, 0), some (18, 2, 2, 9, 57), none, none, some (18, 11, 2, 12, 61), none, none, some (19, 1, 0, 12, 0)]]
/-- Rig.setKey -/
def qc_t46 : List (List (Option qa_I)) := [[some (2, 0, 0, 1, 0), some (13, 3, 4, 4, 28), none, none, some (1, 1, 0, 5, 0), some (1, 2, 0, 6, 0), some (18, 2, 2, 9, 57), none, none, some (1, 3, 0, 10, 0), some (1, 4, 0, 12, 0), none, some (1, 5, 0, 14, 0), none, some (18, 12, 5, 17, 64), none, none, some (2, 0, 0, 18, 0), some (1, 1, 0, 19, 0), some (18, 54, 2, 22, 68), none, none, some (20, 0, 0, 22, 0)]]
/-- Rig.takeKey -/
def qc_t47 : List (List (Option qa_I)) := [[some (2, 0, 0, 1, 0), some (13, 3, 4, 4, 28), none, none, some (1, 1, 0, 5, 0), some (1, 2, 0, 6, 0), some (18, 2, 2, 9, 57), none, none, some (18, 13, 2, 12, 72), none, none, some (2, 0, 0, 13, 0), some (1, 1, 0, 14, 0), some (18, 54, 2, 17, 68), none, none, some (20, 0, 0, 17, 0)]]
/-- Rig.poseAt -/
def qc_t48 : List (List (Option qa_I)) := [[some (2, 0, 0, 1, 0), some (13, 3, 5, 4, 32), none, none, some (1, 1, 0, 5, 0), some (0, 0, 120, 7, 0), none, some (6, 3, 0, 8, 0), some (1, 2, 0, 9, 0), some (6, 0, 0, 10, 0), some (10, 0, 0, 11, 0), some (19, 0, 0, 11, 0)]]
/-- Rig.artistsAt -/
def qc_t49 : List (List (Option qa_I)) := [[some (0, 0, 0, 1, 0), some (3, 2, 0, 2, 0), some (0, 0, 0, 3, 0), some (3, 3, 0, 4, 0), some (1, 3, 0, 5, 0), some (2, 0, 0, 6, 0), some (18, 39, 1, 9, 75), none, none, some (15, 3, 32, 12, 0), none, none, some (1, 2, 0, 13, 0), some (2, 0, 0, 14, 0), some (13, 3, 6, 17, 35), none, none, some (1, 3, 0, 18, 0), some (0, 0, 120, 20, 0), none, some (6, 3, 0, 21, 0), some (1, 1, 0, 22, 0), some (6, 0, 0, 23, 0), some (10, 0, 0, 24, 0), some (6, 7, 0, 25, 0), some (3, 2, 0, 26, 0), some (5, 3, 1, 29, 0), none, none, some (17, 0, 0, 4, 0), none, none, some (1, 2, 0, 33, 0), some (19, 0, 0, 33, 0)]]
/-- Rig.spanOf -/
def qc_t50_0 : List (Option qa_I) := [some (2, 0, 0, 1, 0), some (13, 3, 4, 4, 28), none, none, some (1, 1, 0, 5, 0), some (18, 10, 2, 8, 78), none, none, some (3, 3, 0, 9, 0), some (2, 0, 0, 10, 0), some (13, 3, 4, 13, 28), none, none, some (1, 1, 0, 14, 0), some (0, 0, 1, 15, 0), some (6, 0, 0, 16, 0), some (18, 10, 2, 19, 78), none, none, some (3, 4, 0, 21, 0), none, some (2, 0, 0, 22, 0), some (13, 3, 4, 25, 28), none, none, some (1, 1, 0, 26, 0), some (1, 2, 0, 27, 0), some (18, 2, 2, 30, 57), none, none, some (18, 9, 2, 33, 81), none, none, some (3, 5, 0, 35, 0), none, some (1, 2, 0, 36, 0), some (3, 6, 0, 38, 0), none, some (1, 5, 0, 40, 0), none, some (1, 3, 0, 41, 0), some (15, 1, 50, 44, 0), none, none, some (0, 0, 0, 45, 0), some (3, 6, 0, 47, 0), none, some (17, 0, 0, 79, 0), none, none, some (2, 0, 0, 51, 0), some (13, 3, 4, 54, 28), none, none, some (1, 5, 0, 56, 0), none, some (0, 0, 1, 57, 0), some (6, 2, 0, 58, 0), some (18, 8, 2, 61, 84), none, none, some (16, 0, 79, 64, 0), none, none]
def qc_t50_1 : List (Option qa_I) := [some (2, 0, 0, 65, 0), some (13, 3, 4, 68, 28), none, none, some (1, 5, 0, 70, 0), none, some (0, 0, 1, 71, 0), some (6, 2, 0, 72, 0), some (18, 5, 2, 75, 87), none, none, some (0, 0, 1, 76, 0), some (6, 0, 0, 77, 0), some (3, 6, 0, 79, 0), none, some (1, 5, 0, 81, 0), none, some (0, 0, 1, 82, 0), some (6, 0, 0, 83, 0), some (1, 4, 0, 85, 0), none, some (15, 3, 104, 88, 0), none, none, some (2, 0, 0, 89, 0), some (13, 3, 4, 92, 28), none, none, some (1, 5, 0, 94, 0), none, some (0, 0, 1, 95, 0), some (6, 0, 0, 96, 0), some (18, 5, 2, 99, 87), none, none, some (0, 0, 1, 100, 0), some (6, 2, 0, 101, 0), some (17, 0, 0, 106, 0), none, none, some (0, 0, 119, 106, 0), none, some (3, 7, 0, 108, 0), none, some (0, 0, 1000, 111, 0), none, none, some (1, 6, 0, 113, 0), none, some (6, 3, 0, 114, 0), some (1, 7, 0, 116, 0), none, some (6, 0, 0, 117, 0), some (19, 0, 0, 117, 0)]
def qc_t50 : List (List (Option qa_I)) := [qc_t50_0, qc_t50_1]
/-- Rig.placeOf -/
def qc_t51_0 : List (Option qa_I) := [some (2, 0, 0, 1, 0), some (1, 1, 0, 2, 0), some (1, 2, 0, 3, 0), some (18, 52, 3, 6, 90), none, none, some (3, 3, 0, 7, 0), some (2, 0, 0, 8, 0), some (1, 1, 0, 9, 0), some (1, 2, 0, 10, 0), some (18, 53, 3, 13, 93), none, none, some (3, 4, 0, 15, 0), none, some (2, 0, 0, 16, 0), some (13, 3, 0, 19, 9), none, none, some (1, 1, 0, 20, 0), some (10, 0, 0, 21, 0), some (3, 5, 0, 23, 0), none, some (0, 0, 0, 24, 0), some (3, 6, 0, 26, 0), none, some (1, 6, 0, 28, 0), none, some (0, 0, 8, 30, 0), none, some (15, 3, 115, 33, 0), none, none, some (1, 5, 0, 35, 0), none, some (16, 2, 115, 38, 0), none, none, some (2, 0, 0, 39, 0), some (1, 5, 0, 41, 0), none, some (0, 0, 2, 42, 0), some (18, 140, 2, 45, 96), none, none, some (1, 2, 0, 46, 0), some (18, 48, 3, 49, 99), none, none, some (3, 7, 0, 51, 0), none, some (0, 0, 0, 52, 0), some (3, 8, 0, 54, 0), none, some (1, 8, 0, 56, 0), none, some (1, 7, 0, 58, 0), none, some (15, 3, 78, 61, 0), none, none, some (1, 4, 0, 63, 0), none, some (7, 0, 0, 64, 0)]
def qc_t51_1 : List (Option qa_I) := [some (3, 9, 0, 66, 0), none, some (1, 3, 0, 67, 0), some (3, 4, 0, 69, 0), none, some (1, 9, 0, 71, 0), none, some (3, 3, 0, 72, 0), some (5, 8, 1, 75, 0), none, none, some (17, 0, 0, 54, 0), none, none, some (1, 3, 0, 79, 0), some (2, 0, 0, 80, 0), some (1, 5, 0, 82, 0), none, some (1, 2, 0, 83, 0), some (18, 52, 3, 86, 90), none, none, some (6, 0, 0, 87, 0), some (3, 3, 0, 88, 0), some (1, 4, 0, 90, 0), none, some (2, 0, 0, 91, 0), some (1, 5, 0, 93, 0), none, some (1, 2, 0, 94, 0), some (18, 53, 3, 97, 93), none, none, some (6, 0, 0, 98, 0), some (3, 4, 0, 100, 0), none, some (2, 0, 0, 101, 0), some (13, 3, 0, 104, 9), none, none, some (1, 5, 0, 106, 0), none, some (10, 0, 0, 107, 0), some (3, 5, 0, 109, 0), none, some (5, 6, 1, 112, 0), none, none, some (17, 0, 0, 26, 0), none, none, some (0, 0, 10000, 118, 0), none, none, some (1, 3, 0, 119, 0), some (0, 0, 5000, 122, 0), none, none, some (6, 0, 0, 123, 0), some (6, 3, 0, 124, 0), some (1, 4, 0, 126, 0), none, some (6, 0, 0, 127, 0), some (0, 0, 5000, 130, 0)]
def qc_t51_2 : List (Option qa_I) := [none, none, some (6, 0, 0, 131, 0), some (19, 0, 0, 131, 0)]
def qc_t51 : List (List (Option qa_I)) := [qc_t51_0, qc_t51_1, qc_t51_2]
/-- Rig.localX -/
def qc_t52 : List (List (Option qa_I)) := [[some (2, 0, 0, 1, 0), some (13, 3, 1, 4, 15), none, none, some (1, 1, 0, 5, 0), some (10, 0, 0, 6, 0), some (2, 0, 0, 7, 0), some (1, 1, 0, 8, 0), some (0, 0, 0, 9, 0), some (18, 140, 2, 12, 96), none, none, some (1, 2, 0, 13, 0), some (18, 48, 3, 16, 99), none, none, some (6, 0, 0, 17, 0), some (19, 0, 0, 17, 0)]]
/-- Rig.localY -/
def qc_t53 : List (List (Option qa_I)) := [[some (2, 0, 0, 1, 0), some (13, 3, 2, 4, 18), none, none, some (1, 1, 0, 5, 0), some (10, 0, 0, 6, 0), some (2, 0, 0, 7, 0), some (1, 1, 0, 8, 0), some (0, 0, 1, 9, 0), some (18, 140, 2, 12, 96), none, none, some (1, 2, 0, 13, 0), some (18, 48, 3, 16, 99), none, none, some (6, 0, 0, 17, 0), some (19, 0, 0, 17, 0)]]
/-- Rig.poseTrack -/
def qc_t54_0 : List (Option qa_I) := [some (2, 0, 0, 1, 0), some (13, 3, 4, 4, 28), none, none, some (1, 1, 0, 5, 0), some (18, 10, 2, 8, 78), none, none, some (3, 2, 0, 9, 0), some (2, 0, 0, 10, 0), some (13, 3, 4, 13, 28), none, none, some (1, 1, 0, 14, 0), some (0, 0, 1, 15, 0), some (6, 0, 0, 16, 0), some (18, 10, 2, 19, 78), none, none, some (3, 3, 0, 20, 0), some (1, 2, 0, 21, 0), some (3, 4, 0, 23, 0), none, some (0, 0, 0, 24, 0), some (3, 5, 0, 26, 0), none, some (1, 5, 0, 28, 0), none, some (0, 0, 120, 30, 0), none, some (15, 3, 79, 33, 0), none, none, some (1, 4, 0, 35, 0), none, some (1, 3, 0, 36, 0), some (15, 3, 56, 39, 0), none, none, some (2, 0, 0, 40, 0), some (13, 3, 4, 43, 28), none, none, some (1, 4, 0, 45, 0), none, some (18, 5, 2, 48, 87), none, none, some (1, 5, 0, 50, 0), none, some (15, 1, 56, 53, 0), none, none, some (5, 4, 1, 56, 0), none, none, some (2, 0, 0, 57, 0), some (1, 1, 0, 58, 0), some (0, 0, 120, 60, 0), none, some (6, 3, 0, 61, 0), some (1, 5, 0, 63, 0), none, some (6, 0, 0, 64, 0)]
def qc_t54_1 : List (Option qa_I) := [some (1, 5, 0, 66, 0), none, some (1, 2, 0, 67, 0), some (1, 4, 0, 69, 0), none, some (1, 3, 0, 70, 0), some (18, 55, 6, 73, 102), none, none, some (5, 5, 1, 76, 0), none, none, some (17, 0, 0, 26, 0), none, none, some (20, 0, 0, 79, 0)]
def qc_t54 : List (List (Option qa_I)) := [qc_t54_0, qc_t54_1]
/-- Rig.poseCell -/
def qc_t55_0 : List (Option qa_I) := [some (1, 3, 0, 1, 0), some (1, 5, 0, 3, 0), none, some (15, 1, 21, 6, 0), none, none, some (2, 0, 0, 7, 0), some (13, 3, 5, 10, 32), none, none, some (1, 1, 0, 11, 0), some (0, 0, 0, 12, 0), some (11, 0, 0, 13, 0), some (2, 0, 0, 14, 0), some (13, 3, 6, 17, 35), none, none, some (1, 1, 0, 18, 0), some (0, 0, 0, 19, 0), some (11, 0, 0, 20, 0), some (20, 0, 0, 20, 0), some (1, 4, 0, 23, 0), none, some (1, 3, 0, 24, 0), some (15, 5, 34, 27, 0), none, none, some (1, 4, 0, 29, 0), none, some (0, 0, 1, 30, 0), some (6, 2, 0, 31, 0), some (17, 0, 0, 35, 0), none, none, some (1, 3, 0, 35, 0), some (3, 6, 0, 37, 0), none, some (2, 0, 0, 38, 0), some (13, 3, 5, 41, 32), none, none, some (1, 1, 0, 42, 0), some (2, 0, 0, 43, 0), some (13, 3, 4, 46, 28), none, none, some (1, 6, 0, 48, 0), none, some (18, 6, 2, 51, 106), none, none, some (11, 0, 0, 52, 0), some (2, 0, 0, 53, 0), some (13, 3, 6, 56, 35), none, none, some (1, 1, 0, 57, 0), some (2, 0, 0, 58, 0), some (13, 3, 4, 61, 28), none, none, some (1, 6, 0, 63, 0), none, some (18, 7, 2, 66, 109)]
def qc_t55_1 : List (Option qa_I) := [none, none, some (11, 0, 0, 67, 0), some (1, 4, 0, 69, 0), none, some (1, 5, 0, 71, 0), none, some (15, 3, 91, 74, 0), none, none, some (2, 0, 0, 75, 0), some (13, 3, 4, 78, 28), none, none, some (1, 6, 0, 80, 0), none, some (18, 5, 2, 83, 87), none, none, some (1, 2, 0, 84, 0), some (15, 3, 91, 87, 0), none, none, some (0, 0, 1, 88, 0), some (17, 0, 0, 92, 0), none, none, some (0, 0, 0, 92, 0), some (3, 7, 0, 94, 0), none, some (1, 7, 0, 96, 0), none, some (16, 0, 147, 99, 0), none, none, some (2, 0, 0, 100, 0), some (13, 3, 4, 103, 28), none, none, some (1, 6, 0, 105, 0), none, some (18, 8, 2, 108, 84), none, none, some (16, 0, 147, 111, 0), none, none, some (2, 0, 0, 112, 0), some (13, 3, 5, 115, 32), none, none, some (1, 1, 0, 116, 0), some (9, 0, 0, 117, 0), some (10, 0, 0, 118, 0), some (2, 0, 0, 119, 0), some (1, 6, 0, 121, 0), none, some (1, 4, 0, 123, 0), none, some (1, 2, 0, 124, 0), some (18, 56, 4, 127, 112), none, none, some (6, 0, 0, 128, 0)]
def qc_t55_2 : List (Option qa_I) := [some (11, 0, 0, 129, 0), some (2, 0, 0, 130, 0), some (13, 3, 6, 133, 35), none, none, some (1, 1, 0, 134, 0), some (9, 0, 0, 135, 0), some (10, 0, 0, 136, 0), some (2, 0, 0, 137, 0), some (13, 3, 4, 140, 28), none, none, some (1, 4, 0, 142, 0), none, some (18, 7, 2, 145, 109), none, none, some (6, 7, 0, 146, 0), some (11, 0, 0, 147, 0), some (20, 0, 0, 147, 0)]
def qc_t55 : List (List (Option qa_I)) := [qc_t55_0, qc_t55_1, qc_t55_2]
/-- Rig.blend -/
def qc_t56 : List (List (Option qa_I)) := [[some (2, 0, 0, 1, 0), some (13, 3, 4, 4, 28), none, none, some (1, 2, 0, 5, 0), some (18, 5, 2, 8, 87), none, none, some (2, 0, 0, 9, 0), some (13, 3, 4, 12, 28), none, none, some (1, 1, 0, 13, 0), some (18, 5, 2, 16, 87), none, none, some (6, 2, 0, 17, 0), some (3, 4, 0, 19, 0), none, some (1, 4, 0, 21, 0), none, some (16, 4, 26, 24, 0), none, none, some (0, 0, 0, 25, 0), some (19, 0, 0, 25, 0), some (2, 0, 0, 27, 0), some (13, 3, 4, 30, 28), none, none, some (1, 2, 0, 31, 0), some (18, 6, 2, 34, 106), none, none, some (2, 0, 0, 35, 0), some (13, 3, 4, 38, 28), none, none, some (1, 1, 0, 39, 0), some (18, 6, 2, 42, 106), none, none, some (6, 2, 0, 43, 0), some (3, 5, 0, 45, 0), none, some (1, 5, 0, 47, 0), none, some (1, 3, 0, 48, 0), some (2, 0, 0, 49, 0), some (13, 3, 4, 52, 28), none, none, some (1, 1, 0, 53, 0), some (18, 5, 2, 56, 87), none, none, some (6, 2, 0, 57, 0), some (6, 3, 0, 58, 0), some (1, 4, 0, 60, 0), none, some (18, 0, 2, 63, 116), none, none, some (19, 0, 0, 63, 0)]]
/-- Stills.standing -/
def qc_t57 : List (List (Option qa_I)) := [[some (2, 0, 0, 1, 0), some (13, 4, 2, 4, 18), none, none, some (1, 1, 0, 5, 0), some (10, 0, 0, 6, 0), some (19, 0, 0, 6, 0)]]
/-- Stills.stands -/
def qc_t58 : List (List (Option qa_I)) := [[some (2, 0, 0, 1, 0), some (13, 4, 2, 4, 18), none, none, some (1, 1, 0, 5, 0), some (10, 0, 0, 6, 0), some (0, 0, 1, 7, 0), some (15, 1, 14, 10, 0), none, none, some (0, 0, 1, 11, 0), some (17, 0, 0, 15, 0), none, none, some (0, 0, 0, 15, 0), some (19, 1, 0, 15, 0)]]
/-- Stills.render -/
def qc_t59 : List (List (Option qa_I)) := [[some (0, 0, 0, 1, 0), some (3, 3, 0, 2, 0), some (1, 3, 0, 3, 0), some (2, 2, 0, 4, 0), some (18, 39, 1, 7, 21), none, none, some (15, 3, 33, 10, 0), none, none, some (2, 0, 0, 11, 0), some (13, 4, 0, 14, 9), none, none, some (1, 3, 0, 15, 0), some (0, 0, 120, 17, 0), none, some (6, 3, 0, 18, 0), some (1, 1, 0, 19, 0), some (6, 0, 0, 20, 0), some (2, 2, 0, 21, 0), some (1, 3, 0, 22, 0), some (1, 1, 0, 23, 0), some (18, 48, 3, 26, 27), none, none, some (11, 0, 0, 27, 0), some (5, 3, 1, 30, 0), none, none, some (17, 0, 0, 2, 0), none, none, some (2, 0, 0, 34, 0), some (13, 4, 1, 37, 15), none, none, some (1, 1, 0, 38, 0), some (2, 2, 0, 39, 0), some (18, 38, 1, 42, 31), none, none, some (11, 0, 0, 43, 0), some (2, 0, 0, 44, 0), some (13, 4, 2, 47, 18), none, none, some (1, 1, 0, 48, 0), some (0, 0, 1, 49, 0), some (11, 0, 0, 50, 0), some (20, 0, 0, 50, 0)]]
/-- Stills.compareAll -/
def qc_t60 : List (List (Option qa_I)) := [[some (0, 0, 0, 1, 0), some (3, 2, 0, 2, 0), some (1, 2, 0, 3, 0), some (0, 0, 120, 5, 0), none, some (15, 3, 43, 8, 0), none, none, some (2, 0, 0, 9, 0), some (13, 4, 2, 12, 18), none, none, some (1, 2, 0, 13, 0), some (10, 0, 0, 14, 0), some (16, 0, 37, 17, 0), none, none, some (2, 0, 0, 18, 0), some (13, 4, 2, 21, 18), none, none, some (1, 2, 0, 22, 0), some (2, 0, 0, 23, 0), some (1, 2, 0, 24, 0), some (2, 1, 0, 25, 0), some (18, 63, 3, 28, 34), none, none, some (16, 0, 35, 31, 0), none, none, some (0, 0, 1, 32, 0), some (17, 0, 0, 36, 0), none, none, some (0, 0, 2, 36, 0), some (11, 0, 0, 37, 0), some (5, 2, 1, 40, 0), none, none, some (17, 0, 0, 2, 0), none, none, some (20, 0, 0, 43, 0)]]
/-- Stills.voidCount -/
def qc_t61 : List (List (Option qa_I)) := [[some (0, 0, 0, 1, 0), some (3, 1, 0, 2, 0), some (0, 0, 0, 3, 0), some (3, 2, 0, 4, 0), some (1, 2, 0, 5, 0), some (0, 0, 120, 7, 0), none, some (15, 3, 29, 10, 0), none, none, some (2, 0, 0, 11, 0), some (13, 4, 2, 14, 18), none, none, some (1, 2, 0, 15, 0), some (10, 0, 0, 16, 0), some (0, 0, 2, 17, 0), some (15, 1, 23, 20, 0), none, none, some (5, 1, 1, 23, 0), none, none, some (5, 2, 1, 26, 0), none, none, some (17, 0, 0, 4, 0), none, none, some (1, 1, 0, 30, 0), some (19, 0, 0, 30, 0)]]
/-- Stills.voidCountByAll -/
def qc_t62 : List (List (Option qa_I)) := [[some (0, 0, 0, 1, 0), some (3, 2, 0, 2, 0), some (0, 0, 0, 3, 0), some (3, 3, 0, 4, 0), some (1, 3, 0, 5, 0), some (0, 0, 120, 7, 0), none, some (15, 3, 37, 10, 0), none, none, some (2, 0, 0, 11, 0), some (13, 4, 2, 14, 18), none, none, some (1, 3, 0, 15, 0), some (10, 0, 0, 16, 0), some (16, 0, 31, 19, 0), none, none, some (2, 0, 0, 20, 0), some (1, 3, 0, 21, 0), some (2, 1, 0, 22, 0), some (18, 63, 3, 25, 34), none, none, some (16, 1, 31, 28, 0), none, none, some (5, 2, 1, 31, 0), none, none, some (5, 3, 1, 34, 0), none, none, some (17, 0, 0, 4, 0), none, none, some (1, 2, 0, 38, 0), some (19, 0, 0, 38, 0)]]
/-- Stills.isAsMade -/
def qc_t63 : List (List (Option qa_I)) := [[some (2, 0, 0, 1, 0), some (13, 4, 1, 4, 15), none, none, some (1, 1, 0, 5, 0), some (10, 0, 0, 6, 0), some (2, 2, 0, 7, 0), some (18, 38, 1, 10, 31), none, none, some (15, 0, 15, 13, 0), none, none, some (0, 0, 0, 14, 0), some (19, 1, 0, 14, 0), some (0, 0, 0, 16, 0), some (3, 3, 0, 17, 0), some (1, 3, 0, 18, 0), some (2, 2, 0, 19, 0), some (18, 39, 1, 22, 21), none, none, some (15, 3, 53, 25, 0), none, none, some (2, 0, 0, 26, 0), some (13, 4, 0, 29, 9), none, none, some (1, 3, 0, 30, 0), some (0, 0, 120, 32, 0), none, some (6, 3, 0, 33, 0), some (1, 1, 0, 34, 0), some (6, 0, 0, 35, 0), some (10, 0, 0, 36, 0), some (2, 2, 0, 37, 0), some (1, 3, 0, 38, 0), some (1, 1, 0, 39, 0), some (18, 48, 3, 42, 27), none, none, some (15, 0, 47, 45, 0), none, none, some (0, 0, 0, 46, 0), some (19, 1, 0, 46, 0), some (5, 3, 1, 50, 0), none, none, some (17, 0, 0, 17, 0), none, none, some (0, 0, 1, 54, 0), some (19, 1, 0, 54, 0)]]
/-- Model.thrown -/
def qc_t64 : List (List (Option qa_I)) := [[some (2, 0, 0, 1, 0), some (12, 6, 26, 4, 65), none, none, some (19, 0, 0, 4, 0)]]
/-- Model.fails -/
def qc_t65 : List (List (Option qa_I)) := [[some (2, 0, 0, 1, 0), some (1, 1, 0, 2, 0), some (14, 6, 26, 5, 65), none, none, some (1, 1, 0, 6, 0), some (16, 5, 13, 9, 0), none, none, some (0, 0, 1, 10, 0), some (17, 0, 0, 14, 0), none, none, some (0, 0, 0, 14, 0), some (19, 1, 0, 14, 0)]]
/-- Model.isIn -/
def qc_t66 : List (List (Option qa_I)) := [[some (1, 0, 0, 1, 0), some (1, 1, 0, 2, 0), some (15, 2, 14, 5, 0), none, none, some (1, 0, 0, 6, 0), some (1, 2, 0, 7, 0), some (15, 4, 14, 10, 0), none, none, some (0, 0, 1, 11, 0), some (17, 0, 0, 15, 0), none, none, some (0, 0, 0, 15, 0), some (19, 1, 0, 15, 0)]]
/-- Model.isBone -/
def qc_t67 : List (List (Option qa_I)) := [[some (1, 1, 0, 1, 0), some (0, 0, 0, 2, 0), some (2, 0, 0, 3, 0), some (12, 6, 0, 6, 69), none, none, some (0, 0, 1, 7, 0), some (6, 2, 0, 8, 0), some (18, 66, 3, 11, 72), none, none, some (19, 1, 0, 11, 0)]]
/-- Model.isFrame -/
def qc_t68 : List (List (Option qa_I)) := [[some (1, 0, 0, 1, 0), some (0, 0, 0, 2, 0), some (0, 0, 119, 4, 0), none, some (18, 66, 3, 7, 72), none, none, some (19, 1, 0, 7, 0)]]
/-- Model.isPlace -/
def qc_t69 : List (List (Option qa_I)) := [[some (2, 0, 0, 1, 0), some (1, 1, 0, 2, 0), some (18, 67, 2, 5, 76), none, none, some (16, 0, 28, 8, 0), none, none, some (1, 2, 0, 9, 0), some (0, 0, 0, 10, 0), some (0, 0, 2, 11, 0), some (18, 66, 3, 14, 72), none, none, some (16, 0, 28, 17, 0), none, none, some (1, 3, 0, 18, 0), some (18, 68, 1, 21, 80), none, none, some (16, 0, 28, 24, 0), none, none, some (0, 0, 1, 25, 0), some (17, 0, 0, 29, 0), none, none, some (0, 0, 0, 29, 0), some (19, 1, 0, 29, 0)]]
/-- Model.at -/
def qc_t70 : List (List (Option qa_I)) := [[some (0, 0, 120, 2, 0), none, some (0, 0, 3, 3, 0), some (1, 0, 0, 4, 0), some (6, 3, 0, 5, 0), some (1, 1, 0, 6, 0), some (6, 0, 0, 7, 0), some (6, 3, 0, 8, 0), some (1, 2, 0, 9, 0), some (6, 0, 0, 10, 0), some (19, 0, 0, 10, 0)]]
/-- Model.bone -/
def qc_t71_0 : List (Option qa_I) := [some (1, 1, 0, 1, 0), some (0, 0, -1, 2, 0), some (15, 0, 13, 5, 0), none, none, some (2, 0, 0, 6, 0), some (1, 1, 0, 7, 0), some (18, 67, 2, 10, 76), none, none, some (16, 0, 17, 13, 0), none, none, some (0, 0, 1, 14, 0), some (17, 0, 0, 18, 0), none, none, some (0, 0, 0, 18, 0), some (3, 4, 0, 20, 0), none, some (1, 2, 0, 21, 0), some (0, 0, -100, 23, 0), none, some (0, 0, 100, 25, 0), none, some (18, 66, 3, 28, 72), none, none, some (16, 0, 46, 31, 0), none, none, some (1, 3, 0, 32, 0), some (0, 0, -100, 34, 0), none, some (0, 0, 100, 36, 0), none, some (18, 66, 3, 39, 72), none, none, some (16, 0, 46, 42, 0), none, none, some (0, 0, 1, 43, 0), some (17, 0, 0, 47, 0), none, none, some (0, 0, 0, 47, 0), some (3, 5, 0, 49, 0), none, some (2, 0, 0, 50, 0), some (1, 4, 0, 52, 0), none, some (16, 1, 59, 55, 0), none, none, some (0, 0, 1, 56, 0), some (17, 0, 0, 82, 0), none, none, some (1, 5, 0, 61, 0), none, some (16, 1, 68, 64, 0), none, none]
def qc_t71_1 : List (Option qa_I) := [some (0, 0, 2, 65, 0), some (17, 0, 0, 82, 0), none, none, some (2, 0, 0, 69, 0), some (12, 6, 0, 72, 69), none, none, some (0, 0, 8, 74, 0), none, some (15, 1, 81, 77, 0), none, none, some (0, 0, 3, 78, 0), some (17, 0, 0, 82, 0), none, none, some (0, 0, 0, 82, 0), some (18, 65, 2, 85, 83), none, none, some (16, 0, 90, 88, 0), none, none, some (0, 0, 0, 89, 0), some (19, 0, 0, 89, 0), some (2, 0, 0, 91, 0), some (13, 6, 1, 94, 7), none, none, some (2, 0, 0, 95, 0), some (12, 6, 0, 98, 69), none, none, some (1, 1, 0, 99, 0), some (11, 0, 0, 100, 0), some (2, 0, 0, 101, 0), some (13, 6, 2, 104, 13), none, none, some (2, 0, 0, 105, 0), some (12, 6, 0, 108, 69), none, none, some (1, 2, 0, 109, 0), some (11, 0, 0, 110, 0), some (2, 0, 0, 111, 0), some (13, 6, 3, 114, 16), none, none, some (2, 0, 0, 115, 0), some (12, 6, 0, 118, 69), none, none, some (1, 3, 0, 119, 0), some (11, 0, 0, 120, 0), some (2, 0, 0, 121, 0), some (8, 0, 0, 122, 0), some (12, 6, 0, 125, 69), none, none, some (0, 0, 1, 126, 0), some (6, 0, 0, 127, 0), some (14, 6, 0, 130, 69)]
def qc_t71_2 : List (Option qa_I) := [none, none, some (2, 0, 0, 131, 0), some (12, 6, 0, 134, 69), none, none, some (0, 0, 1, 135, 0), some (6, 2, 0, 136, 0), some (19, 0, 0, 136, 0)]
def qc_t71 : List (List (Option qa_I)) := [qc_t71_0, qc_t71_1, qc_t71_2]
/-- Model.before -/
def qc_t72 : List (List (Option qa_I)) := [[some (1, 3, 0, 1, 0), some (3, 4, 0, 3, 0), none, some (1, 4, 0, 5, 0), none, some (16, 2, 29, 8, 0), none, none, some (2, 0, 0, 9, 0), some (13, 6, 5, 12, 19), none, none, some (1, 1, 0, 13, 0), some (1, 2, 0, 14, 0), some (1, 4, 0, 16, 0), none, some (18, 70, 3, 19, 86), none, none, some (10, 1, 0, 20, 0), some (16, 1, 29, 23, 0), none, none, some (5, 4, -1, 26, 0), none, none, some (17, 0, 0, 3, 0), none, none, some (1, 4, 0, 31, 0), none, some (19, 0, 0, 31, 0)]]
/-- Model.behind -/
def qc_t73 : List (List (Option qa_I)) := [[some (1, 3, 0, 1, 0), some (0, 0, 1, 2, 0), some (6, 0, 0, 3, 0), some (3, 4, 0, 5, 0), none, some (1, 4, 0, 7, 0), none, some (0, 0, 120, 9, 0), none, some (15, 3, 33, 12, 0), none, none, some (2, 0, 0, 13, 0), some (13, 6, 5, 16, 19), none, none, some (1, 1, 0, 17, 0), some (1, 2, 0, 18, 0), some (1, 4, 0, 20, 0), none, some (18, 70, 3, 23, 86), none, none, some (10, 1, 0, 24, 0), some (16, 1, 33, 27, 0), none, none, some (5, 4, 1, 30, 0), none, none, some (17, 0, 0, 5, 0), none, none, some (1, 4, 0, 35, 0), none, some (19, 0, 0, 35, 0)]]
/-- Model.floor -/
def qc_t74 : List (List (Option qa_I)) := [[some (1, 0, 0, 1, 0), some (1, 1, 0, 2, 0), some (6, 4, 0, 3, 0), some (3, 2, 0, 4, 0), some (1, 0, 0, 5, 0), some (1, 1, 0, 6, 0), some (6, 5, 0, 7, 0), some (16, 3, 16, 10, 0), none, none, some (1, 2, 0, 11, 0), some (0, 0, 1, 12, 0), some (6, 2, 0, 13, 0), some (17, 0, 0, 17, 0), none, none, some (1, 2, 0, 17, 0), some (19, 0, 0, 17, 0)]]
/-- Model.valueAt -/
def qc_t75_0 : List (Option qa_I) := [some (2, 0, 0, 1, 0), some (1, 1, 0, 2, 0), some (1, 2, 0, 3, 0), some (1, 3, 0, 4, 0), some (18, 72, 4, 7, 90), none, none, some (3, 4, 0, 9, 0), none, some (2, 0, 0, 10, 0), some (1, 1, 0, 11, 0), some (1, 2, 0, 12, 0), some (1, 3, 0, 13, 0), some (18, 73, 4, 16, 93), none, none, some (3, 5, 0, 18, 0), none, some (1, 4, 0, 20, 0), none, some (0, 0, -1, 21, 0), some (15, 1, 48, 24, 0), none, none, some (1, 5, 0, 26, 0), none, some (0, 0, 120, 28, 0), none, some (15, 1, 35, 31, 0), none, none, some (0, 0, 0, 32, 0), some (17, 0, 0, 47, 0), none, none, some (2, 0, 0, 36, 0), some (13, 6, 6, 39, 23), none, none, some (1, 1, 0, 40, 0), some (1, 2, 0, 41, 0), some (1, 5, 0, 43, 0), none, some (18, 70, 3, 46, 86), none, none, some (10, 0, 0, 47, 0), some (19, 0, 0, 47, 0), some (2, 0, 0, 49, 0), some (13, 6, 6, 52, 23), none, none, some (1, 1, 0, 53, 0), some (1, 2, 0, 54, 0), some (1, 4, 0, 56, 0), none, some (18, 70, 3, 59, 86), none, none, some (10, 0, 0, 60, 0), some (3, 6, 0, 62, 0), none, some (2, 0, 0, 63, 0), some (13, 6, 8, 66, 29)]
def qc_t75_1 : List (Option qa_I) := [none, none, some (1, 1, 0, 67, 0), some (1, 2, 0, 68, 0), some (1, 4, 0, 70, 0), none, some (18, 70, 3, 73, 86), none, none, some (10, 1, 0, 74, 0), some (16, 0, 84, 77, 0), none, none, some (1, 5, 0, 79, 0), none, some (0, 0, 120, 81, 0), none, some (15, 1, 87, 84, 0), none, none, some (1, 6, 0, 86, 0), none, some (19, 0, 0, 86, 0), some (1, 6, 0, 89, 0), none, some (2, 0, 0, 90, 0), some (13, 6, 6, 93, 23), none, none, some (1, 1, 0, 94, 0), some (1, 2, 0, 95, 0), some (1, 5, 0, 97, 0), none, some (18, 70, 3, 100, 86), none, none, some (10, 0, 0, 101, 0), some (1, 6, 0, 103, 0), none, some (6, 2, 0, 104, 0), some (1, 3, 0, 105, 0), some (1, 4, 0, 107, 0), none, some (6, 2, 0, 108, 0), some (6, 3, 0, 109, 0), some (1, 5, 0, 111, 0), none, some (1, 4, 0, 113, 0), none, some (6, 2, 0, 114, 0), some (18, 74, 2, 117, 96), none, none, some (6, 0, 0, 118, 0), some (19, 0, 0, 118, 0)]
def qc_t75 : List (List (Option qa_I)) := [qc_t75_0, qc_t75_1]
/-- Model.stands -/
def qc_t76_0 : List (Option qa_I) := [some (2, 0, 0, 1, 0), some (13, 6, 12, 4, 38), none, none, some (1, 1, 0, 5, 0), some (10, 1, 0, 6, 0), some (16, 0, 26, 9, 0), none, none, some (2, 0, 0, 10, 0), some (13, 6, 13, 13, 41), none, none, some (1, 1, 0, 14, 0), some (10, 0, 0, 15, 0), some (2, 0, 0, 16, 0), some (12, 6, 0, 19, 69), none, none, some (15, 1, 26, 22, 0), none, none, some (0, 0, 1, 23, 0), some (17, 0, 0, 27, 0), none, none, some (0, 0, 0, 27, 0), some (3, 2, 0, 28, 0), some (0, 0, 0, 29, 0), some (3, 3, 0, 30, 0), some (1, 3, 0, 31, 0), some (0, 0, 3, 32, 0), some (2, 0, 0, 33, 0), some (12, 6, 0, 36, 69), none, none, some (6, 3, 0, 37, 0), some (15, 3, 81, 40, 0), none, none, some (1, 2, 0, 41, 0), some (16, 0, 81, 44, 0), none, none, some (2, 0, 0, 45, 0), some (13, 6, 14, 48, 44), none, none, some (0, 0, 24, 50, 0), none, some (1, 1, 0, 51, 0), some (6, 3, 0, 52, 0), some (1, 3, 0, 53, 0), some (6, 0, 0, 54, 0), some (10, 0, 0, 55, 0), some (2, 0, 0, 56, 0), some (1, 3, 0, 57, 0), some (0, 0, 3, 58, 0), some (6, 4, 0, 59, 0), some (1, 3, 0, 60, 0), some (0, 0, 3, 61, 0), some (6, 5, 0, 62, 0), some (1, 1, 0, 63, 0), some (18, 75, 4, 66, 100)]
def qc_t76_1 : List (Option qa_I) := [none, none, some (15, 1, 73, 69, 0), none, none, some (0, 0, 1, 70, 0), some (17, 0, 0, 74, 0), none, none, some (0, 0, 0, 74, 0), some (3, 2, 0, 75, 0), some (5, 3, 1, 78, 0), none, none, some (17, 0, 0, 30, 0), none, none, some (1, 2, 0, 82, 0), some (19, 1, 0, 82, 0)]
def qc_t76 : List (List (Option qa_I)) := [qc_t76_0, qc_t76_1]
/-- Model.allVoids -/
def qc_t77 : List (List (Option qa_I)) := [[some (0, 0, 0, 1, 0), some (3, 1, 0, 2, 0), some (0, 0, 0, 3, 0), some (3, 2, 0, 4, 0), some (1, 2, 0, 5, 0), some (0, 0, 120, 7, 0), none, some (15, 3, 41, 10, 0), none, none, some (1, 1, 0, 11, 0), some (2, 0, 0, 12, 0), some (13, 6, 12, 15, 38), none, none, some (1, 2, 0, 16, 0), some (10, 1, 0, 17, 0), some (16, 0, 32, 20, 0), none, none, some (2, 0, 0, 21, 0), some (1, 2, 0, 22, 0), some (18, 76, 2, 25, 103), none, none, some (16, 1, 32, 28, 0), none, none, some (0, 0, 1, 29, 0), some (17, 0, 0, 33, 0), none, none, some (0, 0, 0, 33, 0), some (6, 0, 0, 34, 0), some (3, 1, 0, 35, 0), some (5, 2, 1, 38, 0), none, none, some (17, 0, 0, 4, 0), none, none, some (1, 1, 0, 42, 0), some (19, 0, 0, 42, 0)]]
/-- Model.key -/
def qc_t78_0 : List (Option qa_I) := [some (2, 0, 0, 1, 0), some (1, 1, 0, 2, 0), some (1, 2, 0, 3, 0), some (1, 3, 0, 4, 0), some (18, 69, 4, 7, 106), none, none, some (16, 0, 24, 10, 0), none, none, some (1, 5, 0, 12, 0), none, some (0, 0, 0, 13, 0), some (0, 0, 5, 14, 0), some (18, 66, 3, 17, 72), none, none, some (16, 0, 24, 20, 0), none, none, some (0, 0, 1, 21, 0), some (17, 0, 0, 25, 0), none, none, some (0, 0, 0, 25, 0), some (3, 7, 0, 27, 0), none, some (1, 2, 0, 28, 0), some (0, 0, 2, 29, 0), some (15, 1, 55, 32, 0), none, none, some (1, 4, 0, 34, 0), none, some (0, 0, 0, 35, 0), some (0, 0, 3, 36, 0), some (18, 66, 3, 39, 72), none, none, some (16, 0, 51, 42, 0), none, none, some (1, 6, 0, 44, 0), none, some (16, 1, 51, 47, 0), none, none, some (0, 0, 1, 48, 0), some (17, 0, 0, 66, 0), none, none, some (0, 0, 0, 52, 0), some (17, 0, 0, 66, 0), none, none, some (1, 4, 0, 57, 0), none, some (0, 0, -200, 60, 0), none, none, some (0, 0, 200, 63, 0), none, none, some (18, 66, 3, 66, 72)]
def qc_t78_1 : List (Option qa_I) := [none, none, some (3, 8, 0, 68, 0), none, some (2, 0, 0, 69, 0), some (1, 7, 0, 71, 0), none, some (16, 1, 78, 74, 0), none, none, some (0, 0, 1, 75, 0), some (17, 0, 0, 115, 0), none, none, some (1, 8, 0, 80, 0), none, some (16, 1, 87, 83, 0), none, none, some (0, 0, 2, 84, 0), some (17, 0, 0, 115, 0), none, none, some (2, 0, 0, 88, 0), some (12, 6, 4, 91, 109), none, none, some (0, 0, 80, 93, 0), none, some (15, 1, 114, 96, 0), none, none, some (2, 0, 0, 97, 0), some (13, 6, 5, 100, 19), none, none, some (1, 1, 0, 101, 0), some (1, 2, 0, 102, 0), some (1, 3, 0, 103, 0), some (18, 70, 3, 106, 86), none, none, some (10, 1, 0, 107, 0), some (16, 1, 114, 110, 0), none, none, some (0, 0, 3, 111, 0), some (17, 0, 0, 115, 0), none, none, some (0, 0, 0, 115, 0), some (18, 65, 2, 118, 83), none, none, some (16, 0, 123, 121, 0), none, none, some (0, 0, 0, 122, 0), some (19, 0, 0, 122, 0), some (2, 0, 0, 124, 0), some (18, 77, 1, 127, 112), none, none, some (3, 9, 0, 129, 0)]
def qc_t78_2 : List (Option qa_I) := [none, some (1, 1, 0, 130, 0), some (1, 2, 0, 131, 0), some (1, 3, 0, 132, 0), some (18, 70, 3, 135, 86), none, none, some (3, 10, 0, 137, 0), none, some (2, 0, 0, 138, 0), some (8, 0, 0, 139, 0), some (12, 6, 4, 142, 109), none, none, some (2, 0, 0, 143, 0), some (13, 6, 5, 146, 19), none, none, some (1, 10, 0, 148, 0), none, some (10, 1, 0, 149, 0), some (16, 0, 156, 152, 0), none, none, some (0, 0, 0, 153, 0), some (17, 0, 0, 157, 0), none, none, some (0, 0, 1, 157, 0), some (6, 0, 0, 158, 0), some (14, 6, 4, 161, 109), none, none, some (2, 0, 0, 162, 0), some (13, 6, 5, 165, 19), none, none, some (1, 10, 0, 167, 0), none, some (0, 0, 1, 168, 0), some (11, 1, 0, 169, 0), some (2, 0, 0, 170, 0), some (13, 6, 6, 173, 23), none, none, some (1, 10, 0, 175, 0), none, some (1, 4, 0, 177, 0), none, some (11, 0, 0, 178, 0), some (2, 0, 0, 179, 0), some (13, 6, 7, 182, 26), none, none, some (1, 10, 0, 184, 0), none, some (1, 5, 0, 186, 0), none, some (11, 0, 0, 187, 0), some (2, 0, 0, 188, 0), some (13, 6, 8, 191, 29), none, none, some (1, 10, 0, 193, 0)]
def qc_t78_3 : List (Option qa_I) := [none, some (1, 6, 0, 195, 0), none, some (11, 1, 0, 196, 0), some (2, 0, 0, 197, 0), some (18, 77, 1, 200, 112), none, none, some (1, 9, 0, 202, 0), none, some (6, 2, 0, 203, 0), some (19, 0, 0, 203, 0)]
def qc_t78 : List (List (Option qa_I)) := [qc_t78_0, qc_t78_1, qc_t78_2, qc_t78_3]
/-- Model.unkey -/
def qc_t79_0 : List (Option qa_I) := [some (2, 0, 0, 1, 0), some (1, 1, 0, 2, 0), some (1, 2, 0, 3, 0), some (1, 3, 0, 4, 0), some (18, 69, 4, 7, 106), none, none, some (16, 0, 28, 10, 0), none, none, some (2, 0, 0, 11, 0), some (13, 6, 5, 14, 19), none, none, some (1, 1, 0, 15, 0), some (1, 2, 0, 16, 0), some (1, 3, 0, 17, 0), some (18, 70, 3, 20, 86), none, none, some (10, 1, 0, 21, 0), some (16, 0, 28, 24, 0), none, none, some (0, 0, 1, 25, 0), some (17, 0, 0, 29, 0), none, none, some (0, 0, 0, 29, 0), some (3, 4, 0, 31, 0), none, some (2, 0, 0, 32, 0), some (1, 4, 0, 34, 0), none, some (16, 0, 41, 37, 0), none, none, some (0, 0, 0, 38, 0), some (17, 0, 0, 42, 0), none, none, some (0, 0, 1, 42, 0), some (18, 65, 2, 45, 83), none, none, some (16, 0, 50, 48, 0), none, none, some (0, 0, 0, 49, 0), some (19, 0, 0, 49, 0), some (2, 0, 0, 51, 0), some (18, 77, 1, 54, 112), none, none, some (3, 5, 0, 56, 0), none, some (2, 0, 0, 57, 0), some (13, 6, 5, 60, 19), none, none, some (1, 1, 0, 61, 0), some (1, 2, 0, 62, 0), some (1, 3, 0, 63, 0), some (18, 70, 3, 66, 86)]
def qc_t79_1 : List (Option qa_I) := [none, none, some (0, 0, 0, 67, 0), some (11, 1, 0, 68, 0), some (2, 0, 0, 69, 0), some (8, 0, 0, 70, 0), some (12, 6, 4, 73, 109), none, none, some (0, 0, 1, 74, 0), some (6, 2, 0, 75, 0), some (14, 6, 4, 78, 109), none, none, some (2, 0, 0, 79, 0), some (18, 77, 1, 82, 112), none, none, some (1, 5, 0, 84, 0), none, some (6, 2, 0, 85, 0), some (19, 0, 0, 85, 0)]
def qc_t79 : List (List (Option qa_I)) := [qc_t79_0, qc_t79_1]
/-- Model.value -/
def qc_t80 : List (List (Option qa_I)) := [[some (2, 0, 0, 1, 0), some (2, 0, 0, 2, 0), some (1, 1, 0, 3, 0), some (1, 2, 0, 4, 0), some (1, 3, 0, 5, 0), some (18, 69, 4, 8, 106), none, none, some (16, 0, 15, 11, 0), none, none, some (0, 0, 0, 12, 0), some (17, 0, 0, 16, 0), none, none, some (0, 0, 1, 16, 0), some (18, 65, 2, 19, 83), none, none, some (16, 0, 26, 22, 0), none, none, some (0, 0, 0, 23, 0), some (17, 0, 0, 33, 0), none, none, some (2, 0, 0, 27, 0), some (1, 1, 0, 28, 0), some (1, 2, 0, 29, 0), some (1, 3, 0, 30, 0), some (18, 75, 4, 33, 100), none, none, some (19, 0, 0, 33, 0)]]
/-- Model.span -/
def qc_t81_0 : List (Option qa_I) := [some (2, 0, 0, 1, 0), some (1, 1, 0, 2, 0), some (1, 2, 0, 3, 0), some (1, 3, 0, 4, 0), some (18, 69, 4, 7, 106), none, none, some (16, 0, 28, 10, 0), none, none, some (2, 0, 0, 11, 0), some (13, 6, 5, 14, 19), none, none, some (1, 1, 0, 15, 0), some (1, 2, 0, 16, 0), some (1, 3, 0, 17, 0), some (18, 70, 3, 20, 86), none, none, some (10, 1, 0, 21, 0), some (16, 0, 28, 24, 0), none, none, some (0, 0, 1, 25, 0), some (17, 0, 0, 29, 0), none, none, some (0, 0, 0, 29, 0), some (3, 4, 0, 31, 0), none, some (2, 0, 0, 32, 0), some (1, 4, 0, 34, 0), none, some (16, 0, 41, 37, 0), none, none, some (0, 0, 0, 38, 0), some (17, 0, 0, 42, 0), none, none, some (0, 0, 1, 42, 0), some (18, 65, 2, 45, 83), none, none, some (16, 0, 50, 48, 0), none, none, some (0, 0, 0, 49, 0), some (19, 0, 0, 49, 0), some (2, 0, 0, 51, 0), some (1, 1, 0, 52, 0), some (1, 2, 0, 53, 0), some (1, 3, 0, 54, 0), some (0, 0, 1, 55, 0), some (6, 2, 0, 56, 0), some (18, 72, 4, 59, 90), none, none, some (3, 5, 0, 61, 0), none, some (1, 5, 0, 63, 0), none, some (0, 0, -1, 64, 0)]
def qc_t81_1 : List (Option qa_I) := [some (15, 1, 71, 67, 0), none, none, some (0, 0, 0, 68, 0), some (17, 0, 0, 94, 0), none, none, some (2, 0, 0, 72, 0), some (13, 6, 8, 75, 29), none, none, some (1, 1, 0, 76, 0), some (1, 2, 0, 77, 0), some (1, 5, 0, 79, 0), none, some (18, 70, 3, 82, 86), none, none, some (10, 1, 0, 83, 0), some (16, 0, 93, 86, 0), none, none, some (1, 5, 0, 88, 0), none, some (0, 0, 1, 89, 0), some (6, 0, 0, 90, 0), some (17, 0, 0, 94, 0), none, none, some (1, 3, 0, 94, 0), some (3, 6, 0, 96, 0), none, some (0, 0, 1000, 99, 0), none, none, some (1, 6, 0, 101, 0), none, some (6, 3, 0, 102, 0), some (2, 0, 0, 103, 0), some (1, 1, 0, 104, 0), some (1, 2, 0, 105, 0), some (1, 3, 0, 106, 0), some (18, 73, 4, 109, 93), none, none, some (6, 0, 0, 110, 0), some (0, 0, 1, 111, 0), some (6, 2, 0, 112, 0), some (19, 0, 0, 112, 0)]
def qc_t81 : List (List (Option qa_I)) := [qc_t81_0, qc_t81_1]
/-- Model.keyAt -/
def qc_t82_0 : List (Option qa_I) := [some (1, 1, 0, 1, 0), some (3, 2, 0, 2, 0), some (0, 0, 0, 3, 0), some (3, 3, 0, 4, 0), some (1, 3, 0, 5, 0), some (0, 0, 3, 6, 0), some (2, 0, 0, 7, 0), some (12, 6, 0, 10, 69), none, none, some (6, 3, 0, 11, 0), some (0, 0, 120, 13, 0), none, some (6, 3, 0, 14, 0), some (15, 3, 62, 17, 0), none, none, some (1, 1, 0, 18, 0), some (16, 2, 62, 21, 0), none, none, some (2, 0, 0, 22, 0), some (13, 6, 5, 25, 19), none, none, some (1, 3, 0, 26, 0), some (10, 1, 0, 27, 0), some (16, 0, 56, 30, 0), none, none, some (1, 2, 0, 31, 0), some (16, 1, 53, 34, 0), none, none, some (2, 0, 0, 35, 0), some (0, 0, 0, 36, 0), some (14, 6, 26, 39, 65), none, none, some (0, 0, 1000, 42, 0), none, none, some (1, 3, 0, 43, 0), some (0, 0, 120, 45, 0), none, some (6, 4, 0, 46, 0), some (6, 3, 0, 47, 0), some (1, 3, 0, 48, 0), some (0, 0, 120, 50, 0), none, some (6, 5, 0, 51, 0), some (6, 0, 0, 52, 0), some (19, 0, 0, 52, 0), some (5, 2, -1, 56, 0), none, none, some (5, 3, 1, 59, 0), none, none, some (17, 0, 0, 4, 0), none, none, some (2, 0, 0, 63, 0), some (0, 0, 1, 64, 0)]
def qc_t82_1 : List (Option qa_I) := [some (14, 6, 26, 67, 65), none, none, some (0, 0, 0, 68, 0), some (19, 0, 0, 68, 0)]
def qc_t82 : List (List (Option qa_I)) := [qc_t82_0, qc_t82_1]
/-- Model.heading -/
def qc_t83 : List (List (Option qa_I)) := [[some (0, 0, 0, 1, 0), some (3, 3, 0, 2, 0), some (1, 1, 0, 3, 0), some (3, 4, 0, 5, 0), none, some (1, 4, 0, 7, 0), none, some (0, 0, -1, 8, 0), some (15, 0, 34, 11, 0), none, none, some (1, 3, 0, 12, 0), some (2, 0, 0, 13, 0), some (1, 4, 0, 15, 0), none, some (0, 0, 2, 16, 0), some (1, 2, 0, 17, 0), some (18, 75, 4, 20, 100), none, none, some (6, 0, 0, 21, 0), some (3, 3, 0, 22, 0), some (2, 0, 0, 23, 0), some (13, 6, 1, 26, 7), none, none, some (1, 4, 0, 28, 0), none, some (10, 0, 0, 29, 0), some (3, 4, 0, 31, 0), none, some (17, 0, 0, 5, 0), none, none, some (1, 3, 0, 35, 0), some (0, 0, 4, 36, 0), some (6, 5, 0, 37, 0), some (19, 0, 0, 37, 0)]]
/-- Model.turns -/
def qc_t84 : List (List (Option qa_I)) := [[some (0, 0, 0, 1, 0), some (3, 2, 0, 2, 0), some (1, 2, 0, 3, 0), some (1, 1, 0, 4, 0), some (15, 3, 32, 7, 0), none, none, some (2, 0, 0, 8, 0), some (12, 6, 24, 11, 116), none, none, some (3, 3, 0, 12, 0), some (2, 0, 0, 13, 0), some (2, 0, 0, 14, 0), some (12, 6, 25, 17, 119), none, none, some (7, 0, 0, 18, 0), some (14, 6, 24, 21, 116), none, none, some (2, 0, 0, 22, 0), some (1, 3, 0, 23, 0), some (14, 6, 25, 26, 119), none, none, some (5, 2, 1, 29, 0), none, none, some (17, 0, 0, 2, 0), none, none, some (20, 0, 0, 32, 0)]]
/-- Model.place -/
def qc_t85_0 : List (Option qa_I) := [some (2, 0, 0, 1, 0), some (2, 0, 0, 2, 0), some (1, 1, 0, 3, 0), some (18, 67, 2, 6, 76), none, none, some (16, 0, 20, 9, 0), none, none, some (1, 2, 0, 10, 0), some (18, 68, 1, 13, 80), none, none, some (16, 0, 20, 16, 0), none, none, some (0, 0, 0, 17, 0), some (17, 0, 0, 21, 0), none, none, some (0, 0, 1, 21, 0), some (18, 65, 2, 24, 83), none, none, some (16, 0, 29, 27, 0), none, none, some (0, 0, 0, 28, 0), some (19, 0, 0, 28, 0), some (0, 0, 0, 30, 0), some (3, 3, 0, 31, 0), some (0, 0, 0, 32, 0), some (3, 4, 0, 34, 0), none, some (1, 1, 0, 35, 0), some (3, 5, 0, 37, 0), none, some (1, 5, 0, 39, 0), none, some (0, 0, -1, 40, 0), some (15, 0, 142, 43, 0), none, none, some (2, 0, 0, 44, 0), some (2, 0, 0, 45, 0), some (13, 6, 2, 48, 13), none, none, some (1, 5, 0, 50, 0), none, some (10, 0, 0, 51, 0), some (2, 0, 0, 52, 0), some (1, 5, 0, 54, 0), none, some (0, 0, 0, 55, 0), some (1, 2, 0, 56, 0), some (18, 75, 4, 59, 100), none, none, some (6, 0, 0, 60, 0), some (14, 6, 24, 63, 116), none, none, some (2, 0, 0, 64, 0)]
def qc_t85_1 : List (Option qa_I) := [some (2, 0, 0, 65, 0), some (13, 6, 3, 68, 16), none, none, some (1, 5, 0, 70, 0), none, some (10, 0, 0, 71, 0), some (2, 0, 0, 72, 0), some (1, 5, 0, 74, 0), none, some (0, 0, 1, 75, 0), some (1, 2, 0, 76, 0), some (18, 75, 4, 79, 100), none, none, some (6, 0, 0, 80, 0), some (14, 6, 25, 83, 119), none, none, some (2, 0, 0, 84, 0), some (2, 0, 0, 85, 0), some (13, 6, 1, 88, 7), none, none, some (1, 5, 0, 90, 0), none, some (10, 0, 0, 91, 0), some (0, 0, -1, 92, 0), some (15, 1, 99, 95, 0), none, none, some (0, 0, 0, 96, 0), some (17, 0, 0, 111, 0), none, none, some (2, 0, 0, 100, 0), some (2, 0, 0, 101, 0), some (13, 6, 1, 104, 7), none, none, some (1, 5, 0, 106, 0), none, some (10, 0, 0, 107, 0), some (1, 2, 0, 108, 0), some (18, 83, 3, 111, 122), none, none, some (18, 84, 2, 114, 125), none, none, some (1, 3, 0, 115, 0), some (2, 0, 0, 116, 0), some (12, 6, 24, 119, 116), none, none, some (6, 0, 0, 120, 0), some (3, 3, 0, 121, 0), some (1, 4, 0, 123, 0), none, some (2, 0, 0, 124, 0), some (12, 6, 25, 127, 119), none, none, some (6, 0, 0, 128, 0)]
def qc_t85_2 : List (Option qa_I) := [some (3, 4, 0, 130, 0), none, some (2, 0, 0, 131, 0), some (13, 6, 1, 134, 7), none, none, some (1, 5, 0, 136, 0), none, some (10, 0, 0, 137, 0), some (3, 5, 0, 139, 0), none, some (17, 0, 0, 37, 0), none, none, some (0, 0, 10000, 145, 0), none, none, some (1, 3, 0, 146, 0), some (0, 0, 5000, 149, 0), none, none, some (6, 0, 0, 150, 0), some (6, 3, 0, 151, 0), some (1, 4, 0, 153, 0), none, some (6, 0, 0, 154, 0), some (0, 0, 5000, 157, 0), none, none, some (6, 0, 0, 158, 0), some (19, 0, 0, 158, 0)]
def qc_t85 : List (List (Option qa_I)) := [qc_t85_0, qc_t85_1, qc_t85_2]
/-- Model.artistsOf -/
def qc_t86_0 : List (Option qa_I) := [some (0, 0, 0, 1, 0), some (3, 2, 0, 2, 0), some (0, 0, 0, 3, 0), some (3, 3, 0, 4, 0), some (1, 3, 0, 5, 0), some (0, 0, 3, 6, 0), some (2, 0, 0, 7, 0), some (12, 6, 0, 10, 69), none, none, some (6, 3, 0, 11, 0), some (15, 3, 140, 14, 0), none, none, some (2, 0, 0, 15, 0), some (1, 3, 0, 16, 0), some (0, 0, 3, 17, 0), some (6, 4, 0, 18, 0), some (1, 3, 0, 19, 0), some (0, 0, 3, 20, 0), some (6, 5, 0, 21, 0), some (1, 1, 0, 22, 0), some (18, 72, 4, 25, 90), none, none, some (3, 4, 0, 27, 0), none, some (2, 0, 0, 28, 0), some (1, 3, 0, 29, 0), some (0, 0, 3, 30, 0), some (6, 4, 0, 31, 0), some (1, 3, 0, 32, 0), some (0, 0, 3, 33, 0), some (6, 5, 0, 34, 0), some (1, 1, 0, 35, 0), some (18, 73, 4, 38, 93), none, none, some (3, 5, 0, 40, 0), none, some (1, 2, 0, 41, 0), some (1, 4, 0, 43, 0), none, some (0, 0, -1, 44, 0), some (15, 1, 51, 47, 0), none, none, some (0, 0, 0, 48, 0), some (17, 0, 0, 65, 0), none, none, some (0, 0, 1, 52, 0), some (2, 0, 0, 53, 0), some (13, 6, 7, 56, 26), none, none, some (0, 0, 120, 58, 0), none, some (1, 3, 0, 59, 0), some (6, 3, 0, 60, 0), some (1, 4, 0, 62, 0), none, some (6, 0, 0, 63, 0), some (10, 0, 0, 64, 0)]
def qc_t86_1 : List (Option qa_I) := [some (6, 8, 0, 65, 0), some (6, 7, 0, 66, 0), some (3, 2, 0, 67, 0), some (1, 5, 0, 69, 0), none, some (0, 0, 120, 71, 0), none, some (15, 3, 105, 74, 0), none, none, some (1, 4, 0, 76, 0), none, some (0, 0, -1, 77, 0), some (15, 0, 101, 80, 0), none, none, some (2, 0, 0, 81, 0), some (13, 6, 8, 84, 29), none, none, some (0, 0, 120, 86, 0), none, some (1, 3, 0, 87, 0), some (6, 3, 0, 88, 0), some (1, 4, 0, 90, 0), none, some (6, 0, 0, 91, 0), some (10, 1, 0, 92, 0), some (16, 0, 105, 95, 0), none, none, some (1, 4, 0, 97, 0), none, some (1, 1, 0, 98, 0), some (15, 3, 105, 101, 0), none, none, some (0, 0, 1, 102, 0), some (17, 0, 0, 106, 0), none, none, some (0, 0, 0, 106, 0), some (3, 6, 0, 108, 0), none, some (1, 2, 0, 109, 0), some (1, 6, 0, 111, 0), none, some (16, 0, 131, 114, 0), none, none, some (0, 0, 1, 115, 0), some (2, 0, 0, 116, 0), some (13, 6, 7, 119, 26), none, none, some (0, 0, 120, 121, 0), none, some (1, 3, 0, 122, 0), some (6, 3, 0, 123, 0), some (1, 5, 0, 125, 0), none, some (6, 0, 0, 126, 0), some (10, 0, 0, 127, 0), some (6, 8, 0, 128, 0)]
def qc_t86_2 : List (Option qa_I) := [some (17, 0, 0, 132, 0), none, none, some (0, 0, 0, 132, 0), some (6, 7, 0, 133, 0), some (3, 2, 0, 134, 0), some (5, 3, 1, 137, 0), none, none, some (17, 0, 0, 4, 0), none, none, some (1, 2, 0, 141, 0), some (19, 0, 0, 141, 0)]
def qc_t86 : List (List (Option qa_I)) := [qc_t86_0, qc_t86_1, qc_t86_2]
/-- Model.artists -/
def qc_t87 : List (List (Option qa_I)) := [[some (2, 0, 0, 1, 0), some (1, 1, 0, 2, 0), some (18, 68, 1, 5, 80), none, none, some (16, 0, 12, 8, 0), none, none, some (0, 0, 0, 9, 0), some (17, 0, 0, 13, 0), none, none, some (0, 0, 1, 13, 0), some (18, 65, 2, 16, 83), none, none, some (16, 0, 23, 19, 0), none, none, some (0, 0, 0, 20, 0), some (17, 0, 0, 28, 0), none, none, some (2, 0, 0, 24, 0), some (1, 1, 0, 25, 0), some (18, 86, 2, 28, 129), none, none, some (19, 0, 0, 28, 0)]]
/-- Model.length -/
def qc_t88 : List (List (Option qa_I)) := [[some (0, 0, 0, 1, 0), some (3, 1, 0, 2, 0), some (0, 0, 0, 3, 0), some (3, 2, 0, 4, 0), some (1, 2, 0, 5, 0), some (2, 0, 0, 6, 0), some (12, 6, 9, 9, 133), none, none, some (15, 3, 36, 12, 0), none, none, some (1, 1, 0, 13, 0), some (2, 0, 0, 14, 0), some (13, 6, 11, 17, 35), none, none, some (1, 2, 0, 18, 0), some (10, 0, 0, 19, 0), some (2, 0, 0, 20, 0), some (13, 6, 10, 23, 32), none, none, some (1, 2, 0, 24, 0), some (10, 0, 0, 25, 0), some (6, 2, 0, 26, 0), some (0, 0, 1, 27, 0), some (6, 0, 0, 28, 0), some (6, 0, 0, 29, 0), some (3, 1, 0, 30, 0), some (5, 2, 1, 33, 0), none, none, some (17, 0, 0, 4, 0), none, none, some (1, 1, 0, 37, 0), some (19, 0, 0, 37, 0)]]
/-- Model.cut -/
def qc_t89_0 : List (Option qa_I) := [some (1, 1, 0, 1, 0), some (0, 0, 0, 2, 0), some (2, 0, 0, 3, 0), some (12, 6, 9, 6, 133), none, none, some (18, 66, 3, 9, 72), none, none, some (16, 0, 30, 12, 0), none, none, some (1, 2, 0, 13, 0), some (18, 68, 1, 16, 80), none, none, some (16, 0, 30, 19, 0), none, none, some (1, 3, 0, 20, 0), some (18, 68, 1, 23, 80), none, none, some (16, 0, 30, 26, 0), none, none, some (0, 0, 1, 27, 0), some (17, 0, 0, 31, 0), none, none, some (0, 0, 0, 31, 0), some (3, 4, 0, 33, 0), none, some (2, 0, 0, 34, 0), some (1, 4, 0, 36, 0), none, some (16, 1, 43, 39, 0), none, none, some (0, 0, 1, 40, 0), some (17, 0, 0, 66, 0), none, none, some (1, 3, 0, 44, 0), some (1, 2, 0, 45, 0), some (15, 3, 52, 48, 0), none, none, some (0, 0, 2, 49, 0), some (17, 0, 0, 66, 0), none, none, some (2, 0, 0, 53, 0), some (12, 6, 9, 56, 133), none, none, some (0, 0, 10, 58, 0), none, some (15, 1, 65, 61, 0), none, none, some (0, 0, 3, 62, 0), some (17, 0, 0, 66, 0), none]
def qc_t89_1 : List (Option qa_I) := [none, some (0, 0, 0, 66, 0), some (18, 65, 2, 69, 83), none, none, some (16, 0, 74, 72, 0), none, none, some (0, 0, 0, 73, 0), some (19, 0, 0, 73, 0), some (2, 0, 0, 75, 0), some (12, 6, 9, 78, 133), none, none, some (3, 5, 0, 80, 0), none, some (1, 5, 0, 82, 0), none, some (1, 1, 0, 83, 0), some (15, 5, 124, 86, 0), none, none, some (2, 0, 0, 87, 0), some (13, 6, 10, 90, 32), none, none, some (1, 5, 0, 92, 0), none, some (2, 0, 0, 93, 0), some (13, 6, 10, 96, 32), none, none, some (1, 5, 0, 98, 0), none, some (0, 0, 1, 99, 0), some (6, 2, 0, 100, 0), some (10, 0, 0, 101, 0), some (11, 0, 0, 102, 0), some (2, 0, 0, 103, 0), some (13, 6, 11, 106, 35), none, none, some (1, 5, 0, 108, 0), none, some (2, 0, 0, 109, 0), some (13, 6, 11, 112, 35), none, none, some (1, 5, 0, 114, 0), none, some (0, 0, 1, 115, 0), some (6, 2, 0, 116, 0), some (10, 0, 0, 117, 0), some (11, 0, 0, 118, 0), some (5, 5, -1, 121, 0), none, none, some (17, 0, 0, 80, 0), none, none, some (2, 0, 0, 125, 0), some (13, 6, 10, 128, 32), none, none]
def qc_t89_2 : List (Option qa_I) := [some (1, 1, 0, 129, 0), some (1, 2, 0, 130, 0), some (11, 0, 0, 131, 0), some (2, 0, 0, 132, 0), some (13, 6, 11, 135, 35), none, none, some (1, 1, 0, 136, 0), some (1, 3, 0, 137, 0), some (11, 0, 0, 138, 0), some (2, 0, 0, 139, 0), some (8, 0, 0, 140, 0), some (12, 6, 9, 143, 133), none, none, some (0, 0, 1, 144, 0), some (6, 0, 0, 145, 0), some (14, 6, 9, 148, 133), none, none, some (2, 0, 0, 149, 0), some (18, 88, 1, 152, 136), none, none, some (19, 0, 0, 152, 0)]
def qc_t89 : List (List (Option qa_I)) := [qc_t89_0, qc_t89_1, qc_t89_2]
/-- Model.uncut -/
def qc_t90_0 : List (Option qa_I) := [some (1, 1, 0, 1, 0), some (0, 0, 0, 2, 0), some (2, 0, 0, 3, 0), some (12, 6, 9, 6, 133), none, none, some (0, 0, 1, 7, 0), some (6, 2, 0, 8, 0), some (18, 66, 3, 11, 72), none, none, some (3, 2, 0, 12, 0), some (2, 0, 0, 13, 0), some (1, 2, 0, 14, 0), some (16, 0, 21, 17, 0), none, none, some (0, 0, 0, 18, 0), some (17, 0, 0, 22, 0), none, none, some (0, 0, 1, 22, 0), some (18, 65, 2, 25, 83), none, none, some (16, 0, 30, 28, 0), none, none, some (0, 0, 0, 29, 0), some (19, 0, 0, 29, 0), some (2, 0, 0, 31, 0), some (8, 0, 0, 32, 0), some (12, 6, 9, 35, 133), none, none, some (0, 0, 1, 36, 0), some (6, 2, 0, 37, 0), some (14, 6, 9, 40, 133), none, none, some (1, 1, 0, 41, 0), some (3, 3, 0, 42, 0), some (1, 3, 0, 43, 0), some (2, 0, 0, 44, 0), some (12, 6, 9, 47, 133), none, none, some (15, 3, 84, 50, 0), none, none, some (2, 0, 0, 51, 0), some (13, 6, 10, 54, 32), none, none, some (1, 3, 0, 55, 0), some (2, 0, 0, 56, 0), some (13, 6, 10, 59, 32), none, none, some (1, 3, 0, 60, 0), some (0, 0, 1, 61, 0), some (6, 0, 0, 62, 0), some (10, 0, 0, 63, 0), some (11, 0, 0, 64, 0)]
def qc_t90_1 : List (Option qa_I) := [some (2, 0, 0, 65, 0), some (13, 6, 11, 68, 35), none, none, some (1, 3, 0, 69, 0), some (2, 0, 0, 70, 0), some (13, 6, 11, 73, 35), none, none, some (1, 3, 0, 74, 0), some (0, 0, 1, 75, 0), some (6, 0, 0, 76, 0), some (10, 0, 0, 77, 0), some (11, 0, 0, 78, 0), some (5, 3, 1, 81, 0), none, none, some (17, 0, 0, 42, 0), none, none, some (2, 0, 0, 85, 0), some (18, 88, 1, 88, 136), none, none, some (19, 0, 0, 88, 0)]
def qc_t90 : List (List (Option qa_I)) := [qc_t90_0, qc_t90_1]
/-- Model.shownAt -/
def qc_t91 : List (List (Option qa_I)) := [[some (1, 1, 0, 1, 0), some (3, 2, 0, 2, 0), some (0, 0, 0, 3, 0), some (3, 3, 0, 4, 0), some (1, 3, 0, 5, 0), some (2, 0, 0, 6, 0), some (12, 6, 9, 9, 133), none, none, some (15, 3, 59, 12, 0), none, none, some (1, 2, 0, 13, 0), some (16, 2, 59, 16, 0), none, none, some (2, 0, 0, 17, 0), some (13, 6, 11, 20, 35), none, none, some (1, 3, 0, 21, 0), some (10, 0, 0, 22, 0), some (2, 0, 0, 23, 0), some (13, 6, 10, 26, 32), none, none, some (1, 3, 0, 27, 0), some (10, 0, 0, 28, 0), some (6, 2, 0, 29, 0), some (0, 0, 1, 30, 0), some (6, 0, 0, 31, 0), some (3, 4, 0, 33, 0), none, some (1, 2, 0, 34, 0), some (1, 4, 0, 36, 0), none, some (15, 3, 48, 39, 0), none, none, some (2, 0, 0, 40, 0), some (13, 6, 10, 43, 32), none, none, some (1, 3, 0, 44, 0), some (10, 0, 0, 45, 0), some (1, 2, 0, 46, 0), some (6, 0, 0, 47, 0), some (19, 0, 0, 47, 0), some (1, 2, 0, 49, 0), some (1, 4, 0, 51, 0), none, some (6, 2, 0, 52, 0), some (3, 2, 0, 53, 0), some (5, 3, 1, 56, 0), none, none, some (17, 0, 0, 4, 0), none, none, some (0, 0, -1, 60, 0), some (19, 0, 0, 60, 0)]]
/-- Model.shown -/
def qc_t92 : List (List (Option qa_I)) := [[some (2, 0, 0, 1, 0), some (1, 1, 0, 2, 0), some (18, 91, 2, 5, 139), none, none, some (3, 2, 0, 6, 0), some (2, 0, 0, 7, 0), some (1, 2, 0, 8, 0), some (0, 0, -1, 9, 0), some (15, 1, 16, 12, 0), none, none, some (0, 0, 1, 13, 0), some (17, 0, 0, 17, 0), none, none, some (0, 0, 0, 17, 0), some (18, 65, 2, 20, 83), none, none, some (16, 0, 27, 23, 0), none, none, some (0, 0, 0, 24, 0), some (17, 0, 0, 28, 0), none, none, some (1, 2, 0, 28, 0), some (19, 0, 0, 28, 0)]]
/-- Model.isNeeded -/
def qc_t93 : List (List (Option qa_I)) := [[some (0, 0, 0, 1, 0), some (3, 2, 0, 2, 0), some (0, 0, 0, 3, 0), some (3, 3, 0, 4, 0), some (1, 3, 0, 5, 0), some (2, 0, 0, 6, 0), some (12, 6, 9, 9, 133), none, none, some (15, 3, 47, 12, 0), none, none, some (1, 2, 0, 13, 0), some (16, 1, 35, 16, 0), none, none, some (1, 1, 0, 17, 0), some (2, 0, 0, 18, 0), some (13, 6, 10, 21, 32), none, none, some (1, 3, 0, 22, 0), some (10, 0, 0, 23, 0), some (2, 0, 0, 24, 0), some (13, 6, 11, 27, 35), none, none, some (1, 3, 0, 28, 0), some (10, 0, 0, 29, 0), some (18, 66, 3, 32, 72), none, none, some (16, 0, 39, 35, 0), none, none, some (0, 0, 1, 36, 0), some (17, 0, 0, 40, 0), none, none, some (0, 0, 0, 40, 0), some (3, 2, 0, 41, 0), some (5, 3, 1, 44, 0), none, none, some (17, 0, 0, 4, 0), none, none, some (1, 2, 0, 48, 0), some (19, 1, 0, 48, 0)]]
/-- Model.state -/
def qc_t94 : List (List (Option qa_I)) := [[some (2, 0, 0, 1, 0), some (1, 1, 0, 2, 0), some (18, 68, 1, 5, 80), none, none, some (16, 0, 12, 8, 0), none, none, some (0, 0, 0, 9, 0), some (17, 0, 0, 13, 0), none, none, some (0, 0, 1, 13, 0), some (18, 65, 2, 16, 83), none, none, some (16, 0, 21, 19, 0), none, none, some (0, 0, 0, 20, 0), some (19, 0, 0, 20, 0), some (2, 0, 0, 22, 0), some (13, 6, 12, 25, 38), none, none, some (1, 1, 0, 26, 0), some (10, 1, 0, 27, 0), some (16, 1, 34, 30, 0), none, none, some (0, 0, 0, 31, 0), some (17, 0, 0, 47, 0), none, none, some (2, 0, 0, 35, 0), some (1, 1, 0, 36, 0), some (18, 76, 2, 39, 103), none, none, some (16, 0, 46, 42, 0), none, none, some (0, 0, 1, 43, 0), some (17, 0, 0, 47, 0), none, none, some (0, 0, 2, 47, 0), some (2, 0, 0, 48, 0), some (1, 1, 0, 49, 0), some (18, 93, 2, 52, 142), none, none, some (16, 0, 60, 55, 0), none, none, some (0, 0, 10, 57, 0), none, some (17, 0, 0, 61, 0), none, none, some (0, 0, 0, 61, 0), some (6, 0, 0, 62, 0), some (19, 0, 0, 62, 0)]]
/-- Model.voids -/
def qc_t95 : List (List (Option qa_I)) := [[some (2, 0, 0, 1, 0), some (0, 0, 0, 2, 0), some (14, 6, 26, 5, 65), none, none, some (2, 0, 0, 6, 0), some (18, 77, 1, 9, 112), none, none, some (19, 0, 0, 9, 0)]]
/-- Model.voidsByAll -/
def qc_t96 : List (List (Option qa_I)) := [[some (2, 0, 0, 1, 0), some (0, 0, 0, 2, 0), some (14, 6, 26, 5, 65), none, none, some (2, 0, 0, 6, 0), some (18, 77, 1, 9, 112), none, none, some (19, 0, 0, 9, 0)]]
/-- Model.machine -/
def qc_t97 : List (List (Option qa_I)) := [[some (2, 0, 0, 1, 0), some (1, 1, 0, 2, 0), some (0, 0, 1, 3, 0), some (0, 0, 5, 4, 0), some (18, 66, 3, 7, 72), none, none, some (16, 1, 14, 10, 0), none, none, some (0, 0, 1, 11, 0), some (17, 0, 0, 27, 0), none, none, some (2, 0, 0, 15, 0), some (12, 6, 15, 18, 145), none, none, some (0, 0, 4, 19, 0), some (15, 1, 26, 22, 0), none, none, some (0, 0, 2, 23, 0), some (17, 0, 0, 27, 0), none, none, some (0, 0, 0, 27, 0), some (18, 65, 2, 30, 83), none, none, some (16, 0, 35, 33, 0), none, none, some (0, 0, 0, 34, 0), some (19, 0, 0, 34, 0), some (2, 0, 0, 36, 0), some (13, 6, 16, 39, 47), none, none, some (2, 0, 0, 40, 0), some (12, 6, 15, 43, 145), none, none, some (1, 1, 0, 44, 0), some (11, 0, 0, 45, 0), some (2, 0, 0, 46, 0), some (8, 0, 0, 47, 0), some (12, 6, 15, 50, 145), none, none, some (0, 0, 1, 51, 0), some (6, 0, 0, 52, 0), some (14, 6, 15, 55, 145), none, none, some (2, 0, 0, 56, 0), some (12, 6, 15, 59, 145), none, none, some (0, 0, 1, 60, 0), some (6, 2, 0, 61, 0), some (19, 0, 0, 61, 0)]]
/-- Model.offer -/
def qc_t98_0 : List (Option qa_I) := [some (1, 1, 0, 1, 0), some (0, 0, 1, 2, 0), some (0, 0, 100, 4, 0), none, some (18, 66, 3, 7, 72), none, none, some (16, 0, 24, 10, 0), none, none, some (1, 2, 0, 11, 0), some (0, 0, 1, 12, 0), some (0, 0, 50, 14, 0), none, some (18, 66, 3, 17, 72), none, none, some (16, 0, 24, 20, 0), none, none, some (0, 0, 1, 21, 0), some (17, 0, 0, 25, 0), none, none, some (0, 0, 0, 25, 0), some (3, 3, 0, 26, 0), some (2, 0, 0, 27, 0), some (1, 3, 0, 28, 0), some (16, 1, 35, 31, 0), none, none, some (0, 0, 1, 32, 0), some (17, 0, 0, 49, 0), none, none, some (2, 0, 0, 36, 0), some (12, 6, 19, 39, 148), none, none, some (0, 0, 10, 41, 0), none, some (15, 1, 48, 44, 0), none, none, some (0, 0, 2, 45, 0), some (17, 0, 0, 49, 0), none, none, some (0, 0, 0, 49, 0), some (18, 65, 2, 52, 83), none, none, some (16, 0, 57, 55, 0), none, none, some (0, 0, 0, 56, 0), some (19, 0, 0, 56, 0), some (2, 0, 0, 58, 0), some (13, 6, 20, 61, 56), none, none, some (2, 0, 0, 62, 0), some (12, 6, 19, 65, 148), none]
def qc_t98_1 : List (Option qa_I) := [none, some (1, 1, 0, 66, 0), some (11, 0, 0, 67, 0), some (2, 0, 0, 68, 0), some (13, 6, 21, 71, 59), none, none, some (2, 0, 0, 72, 0), some (12, 6, 19, 75, 148), none, none, some (1, 2, 0, 76, 0), some (11, 0, 0, 77, 0), some (2, 0, 0, 78, 0), some (8, 0, 0, 79, 0), some (12, 6, 19, 82, 148), none, none, some (0, 0, 1, 83, 0), some (6, 0, 0, 84, 0), some (14, 6, 19, 87, 148), none, none, some (2, 0, 0, 88, 0), some (12, 6, 19, 91, 148), none, none, some (0, 0, 1, 92, 0), some (6, 2, 0, 93, 0), some (19, 0, 0, 93, 0)]
def qc_t98 : List (List (Option qa_I)) := [qc_t98_0, qc_t98_1]
/-- Model.renders -/
def qc_t99 : List (List (Option qa_I)) := [[some (2, 0, 0, 1, 0), some (13, 6, 12, 4, 38), none, none, some (1, 1, 0, 5, 0), some (0, 0, 1, 6, 0), some (11, 1, 0, 7, 0), some (2, 0, 0, 8, 0), some (13, 6, 13, 11, 41), none, none, some (1, 1, 0, 12, 0), some (2, 0, 0, 13, 0), some (12, 6, 0, 16, 69), none, none, some (11, 0, 0, 17, 0), some (0, 0, 0, 18, 0), some (3, 2, 0, 19, 0), some (1, 2, 0, 20, 0), some (0, 0, 3, 21, 0), some (2, 0, 0, 22, 0), some (12, 6, 0, 25, 69), none, none, some (6, 3, 0, 26, 0), some (15, 3, 57, 29, 0), none, none, some (2, 0, 0, 30, 0), some (13, 6, 14, 33, 44), none, none, some (0, 0, 24, 35, 0), none, some (1, 1, 0, 36, 0), some (6, 3, 0, 37, 0), some (1, 2, 0, 38, 0), some (6, 0, 0, 39, 0), some (2, 0, 0, 40, 0), some (1, 2, 0, 41, 0), some (0, 0, 3, 42, 0), some (6, 4, 0, 43, 0), some (1, 2, 0, 44, 0), some (0, 0, 3, 45, 0), some (6, 5, 0, 46, 0), some (1, 1, 0, 47, 0), some (18, 75, 4, 50, 100), none, none, some (11, 0, 0, 51, 0), some (5, 2, 1, 54, 0), none, none, some (17, 0, 0, 19, 0), none, none, some (20, 0, 0, 57, 0)]]
/-- Model.dearest -/
def qc_t100 : List (List (Option qa_I)) := [[some (0, 0, -1, 1, 0), some (3, 1, 0, 2, 0), some (0, 0, 0, 3, 0), some (3, 2, 0, 4, 0), some (1, 2, 0, 5, 0), some (2, 0, 0, 6, 0), some (12, 6, 19, 9, 148), none, none, some (15, 3, 53, 12, 0), none, none, some (2, 0, 0, 13, 0), some (13, 6, 21, 16, 59), none, none, some (1, 2, 0, 17, 0), some (10, 0, 0, 18, 0), some (16, 5, 45, 21, 0), none, none, some (1, 1, 0, 22, 0), some (0, 0, -1, 23, 0), some (15, 0, 41, 26, 0), none, none, some (2, 0, 0, 27, 0), some (13, 6, 20, 30, 56), none, none, some (1, 2, 0, 31, 0), some (10, 0, 0, 32, 0), some (2, 0, 0, 33, 0), some (13, 6, 20, 36, 56), none, none, some (1, 1, 0, 37, 0), some (10, 0, 0, 38, 0), some (15, 5, 45, 41, 0), none, none, some (1, 2, 0, 42, 0), some (17, 0, 0, 46, 0), none, none, some (1, 1, 0, 46, 0), some (3, 1, 0, 47, 0), some (5, 2, 1, 50, 0), none, none, some (17, 0, 0, 4, 0), none, none, some (1, 1, 0, 54, 0), some (19, 0, 0, 54, 0)]]
/-- Model.cools -/
def qc_t101 : List (List (Option qa_I)) := [[some (2, 0, 0, 1, 0), some (13, 6, 17, 4, 50), none, none, some (1, 1, 0, 5, 0), some (2, 0, 0, 6, 0), some (13, 6, 17, 9, 50), none, none, some (1, 1, 0, 10, 0), some (10, 0, 0, 11, 0), some (0, 0, 4, 12, 0), some (15, 5, 26, 15, 0), none, none, some (2, 0, 0, 16, 0), some (13, 6, 17, 19, 50), none, none, some (1, 1, 0, 20, 0), some (10, 0, 0, 21, 0), some (0, 0, 4, 22, 0), some (6, 2, 0, 23, 0), some (17, 0, 0, 27, 0), none, none, some (0, 0, 0, 27, 0), some (11, 0, 0, 28, 0), some (20, 0, 0, 28, 0)]]
/-- Model.hour -/
def qc_t102_0 : List (Option qa_I) := [some (2, 0, 0, 1, 0), some (13, 6, 18, 4, 53), none, none, some (1, 1, 0, 5, 0), some (10, 1, 0, 6, 0), some (16, 0, 38, 9, 0), none, none, some (2, 0, 0, 10, 0), some (1, 1, 0, 11, 0), some (18, 101, 2, 14, 151), none, none, some (2, 0, 0, 15, 0), some (13, 6, 18, 18, 53), none, none, some (1, 1, 0, 19, 0), some (2, 0, 0, 20, 0), some (13, 6, 17, 23, 50), none, none, some (1, 1, 0, 24, 0), some (10, 0, 0, 25, 0), some (0, 0, 8, 27, 0), none, some (15, 5, 34, 30, 0), none, none, some (0, 0, 1, 31, 0), some (17, 0, 0, 35, 0), none, none, some (0, 0, 0, 35, 0), some (11, 1, 0, 36, 0), some (0, 0, 0, 37, 0), some (19, 0, 0, 37, 0), some (0, 0, 0, 39, 0), some (3, 2, 0, 40, 0), some (0, 0, 0, 41, 0), some (3, 3, 0, 42, 0), some (1, 3, 0, 43, 0), some (0, 0, 120, 45, 0), none, some (15, 3, 88, 48, 0), none, none, some (1, 2, 0, 49, 0), some (2, 0, 0, 50, 0), some (13, 6, 16, 53, 47), none, none, some (1, 1, 0, 54, 0), some (10, 0, 0, 55, 0), some (15, 3, 88, 58, 0), none, none, some (2, 0, 0, 59, 0), some (1, 3, 0, 60, 0), some (18, 93, 2, 63, 142), none, none, some (16, 0, 82, 66, 0)]
def qc_t102_1 : List (Option qa_I) := [none, none, some (2, 0, 0, 67, 0), some (1, 3, 0, 68, 0), some (18, 76, 2, 71, 103), none, none, some (16, 1, 82, 74, 0), none, none, some (2, 0, 0, 75, 0), some (1, 3, 0, 76, 0), some (18, 99, 2, 79, 154), none, none, some (5, 2, 1, 82, 0), none, none, some (5, 3, 1, 85, 0), none, none, some (17, 0, 0, 42, 0), none, none, some (2, 0, 0, 89, 0), some (13, 6, 17, 92, 50), none, none, some (1, 1, 0, 93, 0), some (9, 0, 0, 94, 0), some (10, 0, 0, 95, 0), some (1, 2, 0, 96, 0), some (6, 0, 0, 97, 0), some (11, 0, 0, 98, 0), some (1, 2, 0, 99, 0), some (16, 1, 109, 102, 0), none, none, some (2, 0, 0, 103, 0), some (18, 100, 1, 106, 157), none, none, some (17, 0, 0, 110, 0), none, none, some (0, 0, -1, 110, 0), some (3, 3, 0, 111, 0), some (1, 3, 0, 112, 0), some (0, 0, -1, 113, 0), some (15, 0, 155, 116, 0), none, none, some (2, 0, 0, 117, 0), some (13, 6, 21, 120, 59), none, none, some (1, 3, 0, 121, 0), some (9, 0, 0, 122, 0), some (10, 0, 0, 123, 0), some (0, 0, 1, 124, 0), some (6, 2, 0, 125, 0), some (11, 0, 0, 126, 0), some (2, 0, 0, 127, 0), some (13, 6, 17, 130, 50)]
def qc_t102_2 : List (Option qa_I) := [none, none, some (1, 1, 0, 131, 0), some (9, 0, 0, 132, 0), some (10, 0, 0, 133, 0), some (0, 0, 3, 134, 0), some (6, 0, 0, 135, 0), some (11, 0, 0, 136, 0), some (2, 0, 0, 137, 0), some (13, 6, 23, 140, 62), none, none, some (0, 0, 6, 142, 0), none, some (9, 0, 0, 143, 0), some (10, 0, 0, 144, 0), some (2, 0, 0, 145, 0), some (13, 6, 20, 148, 56), none, none, some (1, 3, 0, 149, 0), some (10, 0, 0, 150, 0), some (6, 1, 0, 151, 0), some (11, 0, 0, 152, 0), some (17, 0, 0, 164, 0), none, none, some (1, 2, 0, 156, 0), some (16, 1, 164, 159, 0), none, none, some (2, 0, 0, 160, 0), some (1, 1, 0, 161, 0), some (18, 101, 2, 164, 151), none, none, some (2, 0, 0, 165, 0), some (13, 6, 18, 168, 53), none, none, some (1, 1, 0, 169, 0), some (2, 0, 0, 170, 0), some (13, 6, 17, 173, 50), none, none, some (1, 1, 0, 174, 0), some (10, 0, 0, 175, 0), some (0, 0, 20, 177, 0), none, some (15, 2, 184, 180, 0), none, none, some (0, 0, 1, 181, 0), some (17, 0, 0, 185, 0), none, none, some (0, 0, 0, 185, 0), some (11, 1, 0, 186, 0), some (0, 0, 1000, 189, 0), none, none, some (1, 2, 0, 190, 0), some (6, 3, 0, 191, 0), some (1, 3, 0, 192, 0)]
def qc_t102_3 : List (Option qa_I) := [some (0, 0, -1, 193, 0), some (15, 1, 200, 196, 0), none, none, some (0, 0, 0, 197, 0), some (17, 0, 0, 201, 0), none, none, some (0, 0, 1, 201, 0), some (6, 0, 0, 202, 0), some (19, 0, 0, 202, 0)]
def qc_t102 : List (List (Option qa_I)) := [qc_t102_0, qc_t102_1, qc_t102_2, qc_t102_3]
/-- Model.night -/
def qc_t103_0 : List (Option qa_I) := [some (2, 0, 0, 1, 0), some (1, 1, 0, 2, 0), some (0, 0, 1, 3, 0), some (0, 0, 24, 5, 0), none, some (18, 66, 3, 8, 72), none, none, some (16, 0, 15, 11, 0), none, none, some (0, 0, 0, 12, 0), some (17, 0, 0, 16, 0), none, none, some (0, 0, 1, 16, 0), some (18, 65, 2, 19, 83), none, none, some (16, 0, 24, 22, 0), none, none, some (0, 0, 0, 23, 0), some (19, 0, 0, 23, 0), some (0, 0, 0, 25, 0), some (3, 2, 0, 26, 0), some (0, 0, 0, 27, 0), some (3, 3, 0, 28, 0), some (1, 3, 0, 29, 0), some (1, 1, 0, 30, 0), some (15, 3, 66, 33, 0), none, none, some (0, 0, 0, 34, 0), some (3, 4, 0, 36, 0), none, some (1, 4, 0, 38, 0), none, some (2, 0, 0, 39, 0), some (12, 6, 15, 42, 145), none, none, some (15, 3, 60, 45, 0), none, none, some (1, 2, 0, 46, 0), some (2, 0, 0, 47, 0), some (1, 4, 0, 49, 0), none, some (18, 102, 2, 52, 160), none, none, some (6, 1, 0, 53, 0), some (3, 2, 0, 54, 0), some (5, 4, 1, 57, 0), none, none, some (17, 0, 0, 36, 0), none, none, some (5, 3, 1, 63, 0), none, none, some (17, 0, 0, 28, 0)]
def qc_t103_1 : List (Option qa_I) := [none, none, some (1, 2, 0, 67, 0), some (19, 0, 0, 67, 0)]
def qc_t103 : List (List (Option qa_I)) := [qc_t103_0, qc_t103_1]
/-- Model.heat -/
def qc_t104 : List (List (Option qa_I)) := [[some (1, 1, 0, 1, 0), some (0, 0, 0, 2, 0), some (2, 0, 0, 3, 0), some (12, 6, 15, 6, 145), none, none, some (0, 0, 1, 7, 0), some (6, 2, 0, 8, 0), some (18, 66, 3, 11, 72), none, none, some (3, 2, 0, 12, 0), some (2, 0, 0, 13, 0), some (1, 2, 0, 14, 0), some (16, 0, 21, 17, 0), none, none, some (0, 0, 0, 18, 0), some (17, 0, 0, 22, 0), none, none, some (0, 0, 1, 22, 0), some (18, 65, 2, 25, 83), none, none, some (16, 0, 32, 28, 0), none, none, some (0, 0, 0, 29, 0), some (17, 0, 0, 56, 0), none, none, some (0, 0, 10, 34, 0), none, some (2, 0, 0, 35, 0), some (13, 6, 17, 38, 50), none, none, some (1, 1, 0, 39, 0), some (10, 0, 0, 40, 0), some (6, 3, 0, 41, 0), some (2, 0, 0, 42, 0), some (13, 6, 18, 45, 53), none, none, some (1, 1, 0, 46, 0), some (10, 1, 0, 47, 0), some (16, 0, 54, 50, 0), none, none, some (0, 0, 1, 51, 0), some (17, 0, 0, 55, 0), none, none, some (0, 0, 0, 55, 0), some (6, 0, 0, 56, 0), some (19, 0, 0, 56, 0)]]
/-- Model.setRate -/
def qc_t105 : List (List (Option qa_I)) := [[some (2, 0, 0, 1, 0), some (1, 1, 0, 2, 0), some (0, 0, 0, 3, 0), some (0, 0, 1000, 6, 0), none, none, some (18, 66, 3, 9, 72), none, none, some (16, 0, 16, 12, 0), none, none, some (0, 0, 0, 13, 0), some (17, 0, 0, 17, 0), none, none, some (0, 0, 1, 17, 0), some (18, 65, 2, 20, 83), none, none, some (16, 0, 25, 23, 0), none, none, some (0, 0, 0, 24, 0), some (19, 0, 0, 24, 0), some (2, 0, 0, 26, 0), some (12, 6, 22, 29, 163), none, none, some (3, 2, 0, 30, 0), some (2, 0, 0, 31, 0), some (1, 1, 0, 32, 0), some (14, 6, 22, 35, 163), none, none, some (1, 2, 0, 36, 0), some (19, 0, 0, 36, 0)]]
/-- Model.secondsOf -/
def qc_t106 : List (List (Option qa_I)) := [[some (0, 0, 0, 1, 0), some (3, 2, 0, 2, 0), some (0, 0, 0, 3, 0), some (3, 3, 0, 4, 0), some (1, 3, 0, 5, 0), some (2, 0, 0, 6, 0), some (12, 6, 9, 9, 133), none, none, some (15, 3, 56, 12, 0), none, none, some (2, 0, 0, 13, 0), some (13, 6, 10, 16, 32), none, none, some (1, 3, 0, 17, 0), some (10, 0, 0, 18, 0), some (3, 4, 0, 20, 0), none, some (1, 4, 0, 22, 0), none, some (2, 0, 0, 23, 0), some (13, 6, 11, 26, 35), none, none, some (1, 3, 0, 27, 0), some (10, 0, 0, 28, 0), some (15, 4, 50, 31, 0), none, none, some (1, 2, 0, 32, 0), some (2, 0, 0, 33, 0), some (1, 4, 0, 35, 0), none, some (18, 86, 2, 38, 129), none, none, some (1, 1, 0, 39, 0), some (6, 9, 0, 40, 0), some (0, 0, 1, 41, 0), some (6, 6, 0, 42, 0), some (6, 0, 0, 43, 0), some (3, 2, 0, 44, 0), some (5, 4, 1, 47, 0), none, none, some (17, 0, 0, 20, 0), none, none, some (5, 3, 1, 53, 0), none, none, some (17, 0, 0, 4, 0), none, none, some (1, 2, 0, 57, 0), some (0, 0, 24, 59, 0), none, some (6, 4, 0, 60, 0), some (19, 0, 0, 60, 0)]]
/-- Model.seconds -/
def qc_t107 : List (List (Option qa_I)) := [[some (2, 0, 0, 1, 0), some (1, 1, 0, 2, 0), some (0, 0, 0, 3, 0), some (0, 0, 5, 4, 0), some (18, 66, 3, 7, 72), none, none, some (16, 0, 14, 10, 0), none, none, some (0, 0, 0, 11, 0), some (17, 0, 0, 15, 0), none, none, some (0, 0, 1, 15, 0), some (18, 65, 2, 18, 83), none, none, some (16, 0, 25, 21, 0), none, none, some (0, 0, 0, 22, 0), some (17, 0, 0, 30, 0), none, none, some (2, 0, 0, 26, 0), some (1, 1, 0, 27, 0), some (18, 106, 2, 30, 166), none, none, some (19, 0, 0, 30, 0)]]
/-- Model.isWhole -/
def qc_t108 : List (List (Option qa_I)) := [[some (2, 0, 0, 1, 0), some (12, 6, 9, 4, 133), none, none, some (16, 5, 11, 7, 0), none, none, some (0, 0, 1, 8, 0), some (17, 0, 0, 12, 0), none, none, some (0, 0, 0, 12, 0), some (3, 1, 0, 13, 0), some (0, 0, 0, 14, 0), some (3, 2, 0, 15, 0), some (1, 2, 0, 16, 0), some (0, 0, 120, 18, 0), none, some (15, 3, 53, 21, 0), none, none, some (1, 1, 0, 22, 0), some (16, 0, 53, 25, 0), none, none, some (2, 0, 0, 26, 0), some (1, 2, 0, 27, 0), some (18, 93, 2, 30, 142), none, none, some (16, 0, 41, 33, 0), none, none, some (2, 0, 0, 34, 0), some (1, 2, 0, 35, 0), some (18, 76, 2, 38, 103), none, none, some (16, 0, 45, 41, 0), none, none, some (0, 0, 1, 42, 0), some (17, 0, 0, 46, 0), none, none, some (0, 0, 0, 46, 0), some (3, 1, 0, 47, 0), some (5, 2, 1, 50, 0), none, none, some (17, 0, 0, 15, 0), none, none, some (1, 1, 0, 54, 0), some (19, 1, 0, 54, 0)]]
/-- Model.show -/
def qc_t109 : List (List (Option qa_I)) := [[some (2, 0, 0, 1, 0), some (2, 0, 0, 2, 0), some (18, 108, 1, 5, 169), none, none, some (16, 0, 12, 8, 0), none, none, some (0, 0, 0, 9, 0), some (17, 0, 0, 13, 0), none, none, some (0, 0, 1, 13, 0), some (18, 65, 2, 16, 83), none, none, some (16, 0, 21, 19, 0), none, none, some (0, 0, 0, 20, 0), some (19, 0, 0, 20, 0), some (0, 0, 0, 22, 0), some (3, 1, 0, 23, 0), some (0, 0, 0, 24, 0), some (3, 2, 0, 25, 0), some (1, 2, 0, 26, 0), some (0, 0, 6, 28, 0), none, some (15, 3, 62, 31, 0), none, none, some (2, 0, 0, 32, 0), some (1, 2, 0, 33, 0), some (18, 106, 2, 36, 166), none, none, some (2, 0, 0, 37, 0), some (12, 6, 22, 40, 163), none, none, some (6, 3, 0, 41, 0), some (3, 3, 0, 42, 0), some (2, 0, 0, 43, 0), some (13, 6, 23, 46, 62), none, none, some (1, 2, 0, 47, 0), some (9, 0, 0, 48, 0), some (10, 0, 0, 49, 0), some (1, 3, 0, 50, 0), some (6, 1, 0, 51, 0), some (11, 0, 0, 52, 0), some (1, 1, 0, 53, 0), some (1, 3, 0, 54, 0), some (6, 1, 0, 55, 0), some (3, 1, 0, 56, 0), some (5, 2, 1, 59, 0), none, none, some (17, 0, 0, 25, 0), none, none, some (1, 1, 0, 63, 0), some (19, 0, 0, 63, 0)]]
/-- Model.money -/
def qc_t110 : List (List (Option qa_I)) := [[some (2, 0, 0, 1, 0), some (1, 1, 0, 2, 0), some (0, 0, 0, 3, 0), some (0, 0, 6, 5, 0), none, some (18, 66, 3, 8, 72), none, none, some (16, 0, 15, 11, 0), none, none, some (0, 0, 0, 12, 0), some (17, 0, 0, 16, 0), none, none, some (0, 0, 1, 16, 0), some (18, 65, 2, 19, 83), none, none, some (16, 0, 26, 22, 0), none, none, some (0, 0, 0, 23, 0), some (17, 0, 0, 32, 0), none, none, some (2, 0, 0, 27, 0), some (13, 6, 23, 30, 62), none, none, some (1, 1, 0, 31, 0), some (10, 0, 0, 32, 0), some (19, 0, 0, 32, 0)]]
/-- Court.bone -/
def qc_t111_0 : List (Option qa_I) := [some (1, 1, 0, 1, 0), some (0, 0, -1, 2, 0), some (15, 0, 16, 5, 0), none, none, some (2, 0, 0, 6, 0), some (13, 5, 0, 9, 12), none, none, some (1, 1, 0, 10, 0), some (18, 40, 2, 13, 45), none, none, some (16, 0, 20, 16, 0), none, none, some (0, 0, 1, 17, 0), some (17, 0, 0, 21, 0), none, none, some (0, 0, 0, 21, 0), some (18, 135, 1, 24, 49), none, none, some (1, 2, 0, 25, 0), some (0, 0, -100, 27, 0), none, some (0, 0, 100, 29, 0), none, some (18, 138, 3, 32, 53), none, none, some (16, 0, 50, 35, 0), none, none, some (1, 3, 0, 36, 0), some (0, 0, -100, 38, 0), none, some (0, 0, 100, 40, 0), none, some (18, 138, 3, 43, 53), none, none, some (16, 0, 50, 46, 0), none, none, some (0, 0, 1, 47, 0), some (17, 0, 0, 51, 0), none, none, some (0, 0, 0, 51, 0), some (18, 136, 1, 54, 57), none, none, some (2, 0, 0, 55, 0), some (13, 5, 0, 58, 12), none, none, some (18, 38, 1, 61, 60), none, none, some (0, 0, 8, 63, 0), none, some (15, 3, 70, 66, 0)]
def qc_t111_1 : List (Option qa_I) := [none, none, some (0, 0, 1, 67, 0), some (17, 0, 0, 71, 0), none, none, some (0, 0, 0, 71, 0), some (18, 137, 1, 74, 64), none, none, some (2, 0, 0, 75, 0), some (13, 5, 0, 78, 12), none, none, some (1, 1, 0, 79, 0), some (1, 2, 0, 80, 0), some (1, 3, 0, 81, 0), some (18, 42, 4, 84, 67), none, none, some (3, 4, 0, 86, 0), none, some (2, 0, 0, 87, 0), some (13, 5, 1, 90, 19), none, none, some (2, 0, 0, 91, 0), some (13, 5, 0, 94, 12), none, none, some (18, 60, 2, 97, 71), none, none, some (1, 4, 0, 99, 0), none, some (19, 0, 0, 99, 0)]
def qc_t111 : List (List (Option qa_I)) := [qc_t111_0, qc_t111_1]
/-- Court.key -/
def qc_t112_0 : List (Option qa_I) := [some (2, 0, 0, 1, 0), some (13, 5, 0, 4, 12), none, none, some (1, 1, 0, 5, 0), some (1, 2, 0, 6, 0), some (1, 3, 0, 7, 0), some (18, 41, 4, 10, 75), none, none, some (16, 0, 27, 13, 0), none, none, some (1, 5, 0, 15, 0), none, some (0, 0, 0, 16, 0), some (0, 0, 5, 17, 0), some (18, 138, 3, 20, 53), none, none, some (16, 0, 27, 23, 0), none, none, some (0, 0, 1, 24, 0), some (17, 0, 0, 28, 0), none, none, some (0, 0, 0, 28, 0), some (18, 135, 1, 31, 49), none, none, some (1, 2, 0, 32, 0), some (0, 0, 2, 33, 0), some (15, 1, 59, 36, 0), none, none, some (1, 4, 0, 38, 0), none, some (0, 0, 0, 39, 0), some (0, 0, 3, 40, 0), some (18, 138, 3, 43, 53), none, none, some (16, 0, 55, 46, 0), none, none, some (1, 6, 0, 48, 0), none, some (16, 1, 55, 51, 0), none, none, some (0, 0, 1, 52, 0), some (17, 0, 0, 70, 0), none, none, some (0, 0, 0, 56, 0), some (17, 0, 0, 70, 0), none, none, some (1, 4, 0, 61, 0), none, some (0, 0, -200, 64, 0), none, none]
def qc_t112_1 : List (Option qa_I) := [some (0, 0, 200, 67, 0), none, none, some (18, 138, 3, 70, 53), none, none, some (18, 136, 1, 73, 57), none, none, some (1, 1, 0, 74, 0), some (1, 2, 0, 75, 0), some (18, 140, 2, 78, 78), none, none, some (3, 7, 0, 80, 0), none, some (2, 0, 0, 81, 0), some (13, 5, 0, 84, 12), none, none, some (1, 7, 0, 86, 0), none, some (1, 3, 0, 87, 0), some (18, 45, 3, 90, 82), none, none, some (16, 1, 105, 93, 0), none, none, some (2, 0, 0, 94, 0), some (13, 5, 0, 97, 12), none, none, some (18, 43, 1, 100, 86), none, none, some (0, 0, 80, 102, 0), none, some (15, 3, 109, 105, 0), none, none, some (0, 0, 1, 106, 0), some (17, 0, 0, 110, 0), none, none, some (0, 0, 0, 110, 0), some (18, 137, 1, 113, 64), none, none, some (2, 0, 0, 114, 0), some (13, 5, 1, 117, 19), none, none, some (18, 61, 1, 120, 89), none, none, some (3, 8, 0, 122, 0), none, some (2, 0, 0, 123, 0), some (13, 5, 0, 126, 12), none, none, some (1, 7, 0, 128, 0), none]
def qc_t112_2 : List (Option qa_I) := [some (1, 3, 0, 129, 0), some (1, 4, 0, 131, 0), none, some (1, 5, 0, 133, 0), none, some (1, 6, 0, 135, 0), none, some (18, 46, 6, 138, 92), none, none, some (2, 0, 0, 139, 0), some (13, 5, 1, 142, 19), none, none, some (2, 0, 0, 143, 0), some (13, 5, 0, 146, 12), none, none, some (18, 60, 2, 149, 71), none, none, some (2, 0, 0, 150, 0), some (13, 5, 1, 153, 19), none, none, some (18, 61, 1, 156, 89), none, none, some (1, 8, 0, 158, 0), none, some (6, 2, 0, 159, 0), some (19, 0, 0, 159, 0)]
def qc_t112 : List (List (Option qa_I)) := [qc_t112_0, qc_t112_1, qc_t112_2]
/-- Court.unkey -/
def qc_t113_0 : List (Option qa_I) := [some (2, 0, 0, 1, 0), some (13, 5, 0, 4, 12), none, none, some (1, 1, 0, 5, 0), some (1, 2, 0, 6, 0), some (1, 3, 0, 7, 0), some (18, 41, 4, 10, 75), none, none, some (18, 135, 1, 13, 49), none, none, some (1, 1, 0, 14, 0), some (1, 2, 0, 15, 0), some (18, 140, 2, 18, 78), none, none, some (3, 4, 0, 20, 0), none, some (2, 0, 0, 21, 0), some (13, 5, 0, 24, 12), none, none, some (1, 4, 0, 26, 0), none, some (1, 3, 0, 27, 0), some (18, 45, 3, 30, 82), none, none, some (18, 135, 1, 33, 49), none, none, some (2, 0, 0, 34, 0), some (13, 5, 1, 37, 19), none, none, some (18, 61, 1, 40, 89), none, none, some (3, 5, 0, 42, 0), none, some (2, 0, 0, 43, 0), some (13, 5, 0, 46, 12), none, none, some (1, 4, 0, 48, 0), none, some (1, 3, 0, 49, 0), some (18, 47, 3, 52, 96), none, none, some (2, 0, 0, 53, 0), some (13, 5, 1, 56, 19), none, none, some (2, 0, 0, 57, 0), some (13, 5, 0, 60, 12), none, none, some (18, 60, 2, 63, 71), none, none, some (2, 0, 0, 64, 0)]
def qc_t113_1 : List (Option qa_I) := [some (13, 5, 1, 67, 19), none, none, some (18, 61, 1, 70, 89), none, none, some (1, 5, 0, 72, 0), none, some (6, 2, 0, 73, 0), some (19, 0, 0, 73, 0)]
def qc_t113 : List (List (Option qa_I)) := [qc_t113_0, qc_t113_1]
/-- Court.value -/
def qc_t114 : List (List (Option qa_I)) := [[some (2, 0, 0, 1, 0), some (13, 5, 0, 4, 12), none, none, some (1, 1, 0, 5, 0), some (1, 2, 0, 6, 0), some (1, 3, 0, 7, 0), some (18, 41, 4, 10, 75), none, none, some (18, 135, 1, 13, 49), none, none, some (2, 0, 0, 14, 0), some (13, 5, 0, 17, 12), none, none, some (1, 1, 0, 18, 0), some (1, 2, 0, 19, 0), some (18, 140, 2, 22, 78), none, none, some (1, 3, 0, 23, 0), some (18, 48, 3, 26, 100), none, none, some (19, 0, 0, 26, 0)]]
/-- Court.span -/
def qc_t115 : List (List (Option qa_I)) := [[some (2, 0, 0, 1, 0), some (13, 5, 0, 4, 12), none, none, some (1, 1, 0, 5, 0), some (1, 2, 0, 6, 0), some (1, 3, 0, 7, 0), some (18, 41, 4, 10, 75), none, none, some (18, 135, 1, 13, 49), none, none, some (1, 1, 0, 14, 0), some (1, 2, 0, 15, 0), some (18, 140, 2, 18, 78), none, none, some (3, 4, 0, 20, 0), none, some (2, 0, 0, 21, 0), some (13, 5, 0, 24, 12), none, none, some (1, 4, 0, 26, 0), none, some (1, 3, 0, 27, 0), some (18, 45, 3, 30, 82), none, none, some (18, 135, 1, 33, 49), none, none, some (2, 0, 0, 34, 0), some (13, 5, 0, 37, 12), none, none, some (1, 4, 0, 39, 0), none, some (1, 3, 0, 40, 0), some (18, 50, 3, 43, 103), none, none, some (19, 0, 0, 43, 0)]]
/-- Court.keyAt -/
def qc_t116 : List (List (Option qa_I)) := [[some (1, 1, 0, 1, 0), some (0, 0, 0, 2, 0), some (2, 0, 0, 3, 0), some (13, 5, 0, 6, 12), none, none, some (18, 43, 1, 9, 86), none, none, some (0, 0, 1, 10, 0), some (6, 2, 0, 11, 0), some (18, 138, 3, 14, 53), none, none, some (18, 135, 1, 17, 49), none, none, some (2, 0, 0, 18, 0), some (13, 5, 0, 21, 12), none, none, some (1, 1, 0, 22, 0), some (18, 44, 2, 25, 106), none, none, some (19, 0, 0, 25, 0)]]
/-- Court.place -/
def qc_t117 : List (List (Option qa_I)) := [[some (2, 0, 0, 1, 0), some (13, 5, 0, 4, 12), none, none, some (1, 1, 0, 5, 0), some (18, 40, 2, 8, 45), none, none, some (16, 0, 22, 11, 0), none, none, some (1, 2, 0, 12, 0), some (18, 139, 1, 15, 110), none, none, some (16, 0, 22, 18, 0), none, none, some (0, 0, 1, 19, 0), some (17, 0, 0, 23, 0), none, none, some (0, 0, 0, 23, 0), some (18, 135, 1, 26, 49), none, none, some (2, 0, 0, 27, 0), some (13, 5, 0, 30, 12), none, none, some (1, 1, 0, 31, 0), some (1, 2, 0, 32, 0), some (18, 51, 3, 35, 113), none, none, some (19, 0, 0, 35, 0)]]
/-- Court.artists -/
def qc_t118 : List (List (Option qa_I)) := [[some (1, 1, 0, 1, 0), some (18, 139, 1, 4, 110), none, none, some (18, 135, 1, 7, 49), none, none, some (2, 0, 0, 8, 0), some (13, 5, 0, 11, 12), none, none, some (1, 1, 0, 12, 0), some (18, 49, 2, 15, 116), none, none, some (19, 0, 0, 15, 0)]]
/-- Court.cut -/
def qc_t119_0 : List (Option qa_I) := [some (1, 1, 0, 1, 0), some (0, 0, 0, 2, 0), some (2, 0, 0, 3, 0), some (13, 5, 2, 6, 26), none, none, some (18, 17, 1, 9, 119), none, none, some (18, 138, 3, 12, 53), none, none, some (16, 0, 33, 15, 0), none, none, some (1, 2, 0, 16, 0), some (18, 139, 1, 19, 110), none, none, some (16, 0, 33, 22, 0), none, none, some (1, 3, 0, 23, 0), some (18, 139, 1, 26, 110), none, none, some (16, 0, 33, 29, 0), none, none, some (0, 0, 1, 30, 0), some (17, 0, 0, 34, 0), none, none, some (0, 0, 0, 34, 0), some (18, 135, 1, 37, 49), none, none, some (1, 2, 0, 38, 0), some (1, 3, 0, 39, 0), some (15, 4, 46, 42, 0), none, none, some (0, 0, 1, 43, 0), some (17, 0, 0, 47, 0), none, none, some (0, 0, 0, 47, 0), some (18, 136, 1, 50, 57), none, none, some (2, 0, 0, 51, 0), some (13, 5, 2, 54, 26), none, none, some (18, 17, 1, 57, 119), none, none, some (0, 0, 10, 59, 0), none, some (15, 3, 66, 62, 0), none, none, some (0, 0, 1, 63, 0), some (17, 0, 0, 67, 0)]
def qc_t119_1 : List (Option qa_I) := [none, none, some (0, 0, 0, 67, 0), some (18, 137, 1, 70, 64), none, none, some (2, 0, 0, 71, 0), some (13, 5, 2, 74, 26), none, none, some (1, 1, 0, 75, 0), some (1, 2, 0, 76, 0), some (1, 3, 0, 77, 0), some (18, 21, 4, 80, 122), none, none, some (2, 0, 0, 81, 0), some (13, 5, 2, 84, 26), none, none, some (18, 18, 1, 87, 126), none, none, some (19, 0, 0, 87, 0)]
def qc_t119 : List (List (Option qa_I)) := [qc_t119_0, qc_t119_1]
/-- Court.uncut -/
def qc_t120 : List (List (Option qa_I)) := [[some (1, 1, 0, 1, 0), some (0, 0, 0, 2, 0), some (2, 0, 0, 3, 0), some (13, 5, 2, 6, 26), none, none, some (18, 17, 1, 9, 119), none, none, some (0, 0, 1, 10, 0), some (6, 2, 0, 11, 0), some (18, 138, 3, 14, 53), none, none, some (18, 135, 1, 17, 49), none, none, some (2, 0, 0, 18, 0), some (13, 5, 2, 21, 26), none, none, some (1, 1, 0, 22, 0), some (18, 22, 2, 25, 129), none, none, some (2, 0, 0, 26, 0), some (13, 5, 2, 29, 26), none, none, some (18, 18, 1, 32, 126), none, none, some (19, 0, 0, 32, 0)]]
/-- Court.shown -/
def qc_t121 : List (List (Option qa_I)) := [[some (1, 1, 0, 1, 0), some (0, 0, 0, 2, 0), some (2, 0, 0, 3, 0), some (13, 5, 2, 6, 26), none, none, some (18, 18, 1, 9, 126), none, none, some (0, 0, 1, 10, 0), some (6, 2, 0, 11, 0), some (18, 138, 3, 14, 53), none, none, some (18, 135, 1, 17, 49), none, none, some (2, 0, 0, 18, 0), some (13, 5, 2, 21, 26), none, none, some (1, 1, 0, 22, 0), some (18, 23, 2, 25, 133), none, none, some (19, 0, 0, 25, 0)]]
/-- Court.state -/
def qc_t122 : List (List (Option qa_I)) := [[some (1, 1, 0, 1, 0), some (18, 139, 1, 4, 110), none, none, some (18, 135, 1, 7, 49), none, none, some (2, 0, 0, 8, 0), some (13, 5, 1, 11, 19), none, none, some (1, 1, 0, 12, 0), some (18, 57, 2, 15, 136), none, none, some (2, 0, 0, 16, 0), some (13, 5, 2, 19, 26), none, none, some (1, 1, 0, 20, 0), some (18, 20, 2, 23, 139), none, none, some (16, 0, 31, 26, 0), none, none, some (0, 0, 10, 28, 0), none, some (17, 0, 0, 32, 0), none, none, some (0, 0, 0, 32, 0), some (6, 0, 0, 33, 0), some (19, 0, 0, 33, 0)]]
/-- Court.voids -/
def qc_t123 : List (List (Option qa_I)) := [[some (2, 0, 0, 1, 0), some (13, 5, 1, 4, 19), none, none, some (18, 61, 1, 7, 89), none, none, some (19, 0, 0, 7, 0)]]
/-- Court.voidsByAll -/
def qc_t124 : List (List (Option qa_I)) := [[some (2, 0, 0, 1, 0), some (13, 5, 1, 4, 19), none, none, some (2, 0, 0, 5, 0), some (13, 5, 0, 8, 12), none, none, some (18, 62, 2, 11, 142), none, none, some (19, 0, 0, 11, 0)]]
/-- Court.machine -/
def qc_t125 : List (List (Option qa_I)) := [[some (1, 1, 0, 1, 0), some (0, 0, 1, 2, 0), some (0, 0, 5, 3, 0), some (18, 138, 3, 6, 53), none, none, some (18, 136, 1, 9, 57), none, none, some (2, 0, 0, 10, 0), some (13, 5, 3, 13, 33), none, none, some (18, 25, 1, 16, 146), none, none, some (0, 0, 4, 17, 0), some (15, 3, 24, 20, 0), none, none, some (0, 0, 1, 21, 0), some (17, 0, 0, 25, 0), none, none, some (0, 0, 0, 25, 0), some (18, 137, 1, 28, 64), none, none, some (2, 0, 0, 29, 0), some (13, 5, 3, 32, 33), none, none, some (1, 1, 0, 33, 0), some (18, 29, 2, 36, 149), none, none, some (19, 0, 0, 36, 0)]]
/-- Court.offer -/
def qc_t126 : List (List (Option qa_I)) := [[some (1, 1, 0, 1, 0), some (0, 0, 1, 2, 0), some (0, 0, 100, 4, 0), none, some (18, 138, 3, 7, 53), none, none, some (16, 0, 24, 10, 0), none, none, some (1, 2, 0, 11, 0), some (0, 0, 1, 12, 0), some (0, 0, 50, 14, 0), none, some (18, 138, 3, 17, 53), none, none, some (16, 0, 24, 20, 0), none, none, some (0, 0, 1, 21, 0), some (17, 0, 0, 25, 0), none, none, some (0, 0, 0, 25, 0), some (18, 136, 1, 28, 57), none, none, some (2, 0, 0, 29, 0), some (13, 5, 3, 32, 33), none, none, some (18, 26, 1, 35, 152), none, none, some (0, 0, 10, 37, 0), none, some (15, 3, 44, 40, 0), none, none, some (0, 0, 1, 41, 0), some (17, 0, 0, 45, 0), none, none, some (0, 0, 0, 45, 0), some (18, 137, 1, 48, 64), none, none, some (2, 0, 0, 49, 0), some (13, 5, 3, 52, 33), none, none, some (1, 1, 0, 53, 0), some (1, 2, 0, 54, 0), some (18, 30, 3, 57, 155), none, none, some (19, 0, 0, 57, 0)]]
/-- Court.night -/
def qc_t127 : List (List (Option qa_I)) := [[some (1, 1, 0, 1, 0), some (0, 0, 1, 2, 0), some (0, 0, 24, 4, 0), none, some (18, 138, 3, 7, 53), none, none, some (18, 136, 1, 10, 57), none, none, some (2, 0, 0, 11, 0), some (13, 5, 3, 14, 33), none, none, some (1, 1, 0, 15, 0), some (2, 0, 0, 16, 0), some (13, 5, 2, 19, 26), none, none, some (2, 0, 0, 20, 0), some (13, 5, 1, 23, 19), none, none, some (2, 0, 0, 24, 0), some (13, 5, 0, 27, 12), none, none, some (18, 31, 5, 30, 158), none, none, some (19, 0, 0, 30, 0)]]
/-- Court.heat -/
def qc_t128 : List (List (Option qa_I)) := [[some (1, 1, 0, 1, 0), some (0, 0, 0, 2, 0), some (2, 0, 0, 3, 0), some (13, 5, 3, 6, 33), none, none, some (18, 25, 1, 9, 146), none, none, some (0, 0, 1, 10, 0), some (6, 2, 0, 11, 0), some (18, 138, 3, 14, 53), none, none, some (18, 135, 1, 17, 49), none, none, some (2, 0, 0, 18, 0), some (13, 5, 3, 21, 33), none, none, some (1, 1, 0, 22, 0), some (18, 28, 2, 25, 162), none, none, some (19, 0, 0, 25, 0)]]
/-- Court.setRate -/
def qc_t129 : List (List (Option qa_I)) := [[some (1, 1, 0, 1, 0), some (0, 0, 0, 2, 0), some (0, 0, 1000, 5, 0), none, none, some (18, 138, 3, 8, 53), none, none, some (18, 136, 1, 11, 57), none, none, some (2, 0, 0, 12, 0), some (12, 5, 5, 15, 41), none, none, some (3, 2, 0, 16, 0), some (2, 0, 0, 17, 0), some (1, 1, 0, 18, 0), some (14, 5, 5, 21, 41), none, none, some (1, 2, 0, 22, 0), some (19, 0, 0, 22, 0)]]
/-- Court.seconds -/
def qc_t130 : List (List (Option qa_I)) := [[some (1, 1, 0, 1, 0), some (0, 0, 0, 2, 0), some (0, 0, 5, 3, 0), some (18, 138, 3, 6, 53), none, none, some (18, 135, 1, 9, 49), none, none, some (2, 0, 0, 10, 0), some (1, 1, 0, 11, 0), some (18, 133, 2, 14, 165), none, none, some (19, 0, 0, 14, 0)]]
/-- Court.show -/
def qc_t131_0 : List (Option qa_I) := [some (2, 0, 0, 1, 0), some (13, 5, 2, 4, 26), none, none, some (18, 18, 1, 7, 126), none, none, some (16, 5, 21, 10, 0), none, none, some (2, 0, 0, 11, 0), some (18, 134, 1, 14, 168), none, none, some (16, 0, 21, 17, 0), none, none, some (0, 0, 1, 18, 0), some (17, 0, 0, 22, 0), none, none, some (0, 0, 0, 22, 0), some (18, 137, 1, 25, 64), none, none, some (0, 0, 0, 26, 0), some (3, 1, 0, 27, 0), some (0, 0, 0, 28, 0), some (3, 2, 0, 29, 0), some (1, 2, 0, 30, 0), some (0, 0, 6, 32, 0), none, some (15, 3, 66, 35, 0), none, none, some (2, 0, 0, 36, 0), some (1, 2, 0, 37, 0), some (18, 133, 2, 40, 165), none, none, some (2, 0, 0, 41, 0), some (12, 5, 5, 44, 41), none, none, some (6, 3, 0, 45, 0), some (3, 3, 0, 46, 0), some (2, 0, 0, 47, 0), some (13, 5, 4, 50, 37), none, none, some (1, 2, 0, 51, 0), some (9, 0, 0, 52, 0), some (10, 0, 0, 53, 0), some (1, 3, 0, 54, 0), some (6, 1, 0, 55, 0), some (11, 0, 0, 56, 0), some (1, 1, 0, 57, 0), some (1, 3, 0, 58, 0), some (6, 1, 0, 59, 0), some (3, 1, 0, 60, 0), some (5, 2, 1, 63, 0), none, none, some (17, 0, 0, 29, 0)]
def qc_t131_1 : List (Option qa_I) := [none, none, some (1, 1, 0, 67, 0), some (19, 0, 0, 67, 0)]
def qc_t131 : List (List (Option qa_I)) := [qc_t131_0, qc_t131_1]
/-- Court.money -/
def qc_t132 : List (List (Option qa_I)) := [[some (1, 1, 0, 1, 0), some (0, 0, 0, 2, 0), some (0, 0, 6, 4, 0), none, some (18, 138, 3, 7, 53), none, none, some (18, 135, 1, 10, 49), none, none, some (1, 1, 0, 11, 0), some (0, 0, 6, 13, 0), none, some (15, 1, 26, 16, 0), none, none, some (2, 0, 0, 17, 0), some (13, 5, 3, 20, 33), none, none, some (18, 27, 1, 23, 172), none, none, some (17, 0, 0, 32, 0), none, none, some (2, 0, 0, 27, 0), some (13, 5, 4, 30, 37), none, none, some (1, 1, 0, 31, 0), some (10, 0, 0, 32, 0), some (19, 0, 0, 32, 0)]]
/-- Court.secondsOf -/
def qc_t133 : List (List (Option qa_I)) := [[some (0, 0, 0, 1, 0), some (3, 2, 0, 2, 0), some (0, 0, 0, 3, 0), some (3, 3, 0, 4, 0), some (1, 3, 0, 5, 0), some (0, 0, 120, 7, 0), none, some (15, 3, 42, 10, 0), none, none, some (2, 0, 0, 11, 0), some (13, 5, 0, 14, 12), none, none, some (1, 3, 0, 15, 0), some (18, 49, 2, 18, 116), none, none, some (0, 0, 1, 19, 0), some (1, 1, 0, 20, 0), some (6, 8, 0, 21, 0), some (6, 6, 0, 22, 0), some (16, 0, 36, 25, 0), none, none, some (1, 2, 0, 26, 0), some (2, 0, 0, 27, 0), some (13, 5, 2, 30, 26), none, none, some (1, 3, 0, 31, 0), some (18, 19, 2, 34, 175), none, none, some (6, 0, 0, 35, 0), some (3, 2, 0, 36, 0), some (5, 3, 1, 39, 0), none, none, some (17, 0, 0, 4, 0), none, none, some (1, 2, 0, 43, 0), some (0, 0, 24, 45, 0), none, some (6, 4, 0, 46, 0), some (19, 0, 0, 46, 0)]]
/-- Court.isFilmStanding -/
def qc_t134 : List (List (Option qa_I)) := [[some (0, 0, 0, 1, 0), some (3, 1, 0, 2, 0), some (1, 1, 0, 3, 0), some (0, 0, 120, 5, 0), none, some (15, 3, 38, 8, 0), none, none, some (2, 0, 0, 9, 0), some (13, 5, 2, 12, 26), none, none, some (1, 1, 0, 13, 0), some (18, 20, 2, 16, 139), none, none, some (16, 0, 32, 19, 0), none, none, some (2, 0, 0, 20, 0), some (13, 5, 1, 23, 19), none, none, some (1, 1, 0, 24, 0), some (18, 58, 2, 27, 178), none, none, some (16, 1, 32, 30, 0), none, none, some (0, 0, 0, 31, 0), some (19, 1, 0, 31, 0), some (5, 1, 1, 35, 0), none, none, some (17, 0, 0, 2, 0), none, none, some (0, 0, 1, 39, 0), some (19, 1, 0, 39, 0)]]
/-- Court.mustExist -/
def qc_t135 : List (List (Option qa_I)) := [[some (1, 0, 0, 1, 0), some (16, 1, 12, 4, 0), none, none, some (21, 1, 183, 4, 181), none, none, none, none, none, none, none, some (20, 0, 0, 12, 0)]]
/-- Court.mustFit -/
def qc_t136 : List (List (Option qa_I)) := [[some (1, 0, 0, 1, 0), some (16, 1, 12, 4, 0), none, none, some (21, 2, 186, 4, 184), none, none, none, none, none, none, none, some (20, 0, 0, 12, 0)]]
/-- Court.mustBePossible -/
def qc_t137 : List (List (Option qa_I)) := [[some (1, 0, 0, 1, 0), some (16, 1, 12, 4, 0), none, none, some (21, 3, 189, 4, 187), none, none, none, none, none, none, none, some (20, 0, 0, 12, 0)]]
/-- Court.isWithin -/
def qc_t138 : List (List (Option qa_I)) := [[some (1, 0, 0, 1, 0), some (1, 1, 0, 2, 0), some (15, 2, 14, 5, 0), none, none, some (1, 0, 0, 6, 0), some (1, 2, 0, 7, 0), some (15, 4, 14, 10, 0), none, none, some (0, 0, 1, 11, 0), some (17, 0, 0, 15, 0), none, none, some (0, 0, 0, 15, 0), some (19, 1, 0, 15, 0)]]
/-- Court.isFrame -/
def qc_t139 : List (List (Option qa_I)) := [[some (1, 0, 0, 1, 0), some (0, 0, 0, 2, 0), some (0, 0, 119, 4, 0), none, some (18, 138, 3, 7, 53), none, none, some (19, 1, 0, 7, 0)]]
/-- Court.trackOf -/
def qc_t140 : List (List (Option qa_I)) := [[some (0, 0, 3, 1, 0), some (1, 0, 0, 2, 0), some (6, 3, 0, 3, 0), some (1, 1, 0, 4, 0), some (6, 0, 0, 5, 0), some (19, 0, 0, 5, 0)]]
/-- Law.bone -/
def qc_t141 : List (List (Option qa_I)) := [[some (2, 4, 0, 2, 0), none, some (0, 0, 0, 3, 0), some (2, 0, 0, 4, 0), some (1, 1, 0, 5, 0), some (1, 2, 0, 6, 0), some (1, 3, 0, 7, 0), some (18, 111, 4, 10, 7), none, none, some (22, 0, 0, 11, 0), some (23, 0, 0, 12, 0), some (17, 0, 0, 27, 0), none, none, some (4, 5, 0, 17, 0), none, some (0, 0, 1, 18, 0), some (19, 0, 0, 18, 0), some (4, 5, 0, 21, 0), none, some (0, 0, 2, 22, 0), some (19, 0, 0, 22, 0), some (4, 5, 0, 25, 0), none, some (0, 0, 3, 26, 0), some (19, 0, 0, 26, 0), some (0, 0, 0, 28, 0), some (19, 0, 0, 28, 0)]]
/-- Law.key -/
def qc_t142 : List (List (Option qa_I)) := [[some (2, 7, 0, 2, 0), none, some (0, 0, 0, 3, 0), some (2, 0, 0, 4, 0), some (1, 1, 0, 5, 0), some (1, 2, 0, 6, 0), some (1, 3, 0, 7, 0), some (1, 4, 0, 9, 0), none, some (1, 5, 0, 11, 0), none, some (1, 6, 0, 13, 0), none, some (18, 112, 7, 16, 19), none, none, some (22, 0, 0, 17, 0), some (23, 0, 0, 18, 0), some (17, 0, 0, 33, 0), none, none, some (4, 8, 0, 23, 0), none, some (0, 0, 1, 24, 0), some (19, 0, 0, 24, 0), some (4, 8, 0, 27, 0), none, some (0, 0, 2, 28, 0), some (19, 0, 0, 28, 0), some (4, 8, 0, 31, 0), none, some (0, 0, 3, 32, 0), some (19, 0, 0, 32, 0), some (0, 0, 0, 34, 0), some (19, 0, 0, 34, 0)]]
/-- Law.unkey -/
def qc_t143 : List (List (Option qa_I)) := [[some (2, 4, 0, 2, 0), none, some (0, 0, 0, 3, 0), some (2, 0, 0, 4, 0), some (1, 1, 0, 5, 0), some (1, 2, 0, 6, 0), some (1, 3, 0, 7, 0), some (18, 113, 4, 10, 23), none, none, some (22, 0, 0, 11, 0), some (23, 0, 0, 12, 0), some (17, 0, 0, 19, 0), none, none, some (4, 5, 0, 17, 0), none, some (0, 0, 1, 18, 0), some (19, 0, 0, 18, 0), some (0, 0, 0, 20, 0), some (19, 0, 0, 20, 0)]]
/-- Law.value -/
def qc_t144 : List (List (Option qa_I)) := [[some (2, 4, 0, 2, 0), none, some (0, 0, 0, 3, 0), some (2, 0, 0, 4, 0), some (1, 1, 0, 5, 0), some (1, 2, 0, 6, 0), some (1, 3, 0, 7, 0), some (18, 114, 4, 10, 26), none, none, some (22, 0, 0, 11, 0), some (23, 0, 0, 12, 0), some (17, 0, 0, 19, 0), none, none, some (4, 5, 0, 17, 0), none, some (0, 0, 1, 18, 0), some (19, 0, 0, 18, 0), some (0, 0, 0, 20, 0), some (19, 0, 0, 20, 0)]]
/-- Law.span -/
def qc_t145 : List (List (Option qa_I)) := [[some (2, 4, 0, 2, 0), none, some (0, 0, 0, 3, 0), some (2, 0, 0, 4, 0), some (1, 1, 0, 5, 0), some (1, 2, 0, 6, 0), some (1, 3, 0, 7, 0), some (18, 115, 4, 10, 29), none, none, some (22, 0, 0, 11, 0), some (23, 0, 0, 12, 0), some (17, 0, 0, 19, 0), none, none, some (4, 5, 0, 17, 0), none, some (0, 0, 1, 18, 0), some (19, 0, 0, 18, 0), some (0, 0, 0, 20, 0), some (19, 0, 0, 20, 0)]]
/-- Law.keyAt -/
def qc_t146 : List (List (Option qa_I)) := [[some (2, 2, 0, 1, 0), some (0, 0, 0, 2, 0), some (2, 0, 0, 3, 0), some (1, 1, 0, 4, 0), some (18, 116, 2, 7, 32), none, none, some (22, 0, 0, 8, 0), some (23, 0, 0, 9, 0), some (17, 0, 0, 15, 0), none, none, some (4, 3, 0, 13, 0), some (0, 0, 1, 14, 0), some (19, 0, 0, 14, 0), some (0, 0, 0, 16, 0), some (19, 0, 0, 16, 0)]]
/-- Law.place -/
def qc_t147 : List (List (Option qa_I)) := [[some (2, 3, 0, 1, 0), some (0, 0, 0, 2, 0), some (2, 0, 0, 3, 0), some (1, 1, 0, 4, 0), some (1, 2, 0, 5, 0), some (18, 117, 3, 8, 36), none, none, some (22, 0, 0, 9, 0), some (23, 0, 0, 10, 0), some (17, 0, 0, 17, 0), none, none, some (4, 4, 0, 15, 0), none, some (0, 0, 1, 16, 0), some (19, 0, 0, 16, 0), some (0, 0, 0, 18, 0), some (19, 0, 0, 18, 0)]]
/-- Law.artists -/
def qc_t148 : List (List (Option qa_I)) := [[some (2, 2, 0, 1, 0), some (0, 0, 0, 2, 0), some (2, 0, 0, 3, 0), some (1, 1, 0, 4, 0), some (18, 118, 2, 7, 40), none, none, some (22, 0, 0, 8, 0), some (23, 0, 0, 9, 0), some (17, 0, 0, 15, 0), none, none, some (4, 3, 0, 13, 0), some (0, 0, 1, 14, 0), some (19, 0, 0, 14, 0), some (0, 0, 0, 16, 0), some (19, 0, 0, 16, 0)]]
/-- Law.cut -/
def qc_t149 : List (List (Option qa_I)) := [[some (2, 4, 0, 2, 0), none, some (0, 0, 0, 3, 0), some (2, 0, 0, 4, 0), some (1, 1, 0, 5, 0), some (1, 2, 0, 6, 0), some (1, 3, 0, 7, 0), some (18, 119, 4, 10, 43), none, none, some (22, 0, 0, 11, 0), some (23, 0, 0, 12, 0), some (17, 0, 0, 27, 0), none, none, some (4, 5, 0, 17, 0), none, some (0, 0, 1, 18, 0), some (19, 0, 0, 18, 0), some (4, 5, 0, 21, 0), none, some (0, 0, 2, 22, 0), some (19, 0, 0, 22, 0), some (4, 5, 0, 25, 0), none, some (0, 0, 3, 26, 0), some (19, 0, 0, 26, 0), some (0, 0, 0, 28, 0), some (19, 0, 0, 28, 0)]]
/-- Law.uncut -/
def qc_t150 : List (List (Option qa_I)) := [[some (2, 2, 0, 1, 0), some (0, 0, 0, 2, 0), some (2, 0, 0, 3, 0), some (1, 1, 0, 4, 0), some (18, 120, 2, 7, 46), none, none, some (22, 0, 0, 8, 0), some (23, 0, 0, 9, 0), some (17, 0, 0, 15, 0), none, none, some (4, 3, 0, 13, 0), some (0, 0, 1, 14, 0), some (19, 0, 0, 14, 0), some (0, 0, 0, 16, 0), some (19, 0, 0, 16, 0)]]
/-- Law.shown -/
def qc_t151 : List (List (Option qa_I)) := [[some (2, 2, 0, 1, 0), some (0, 0, 0, 2, 0), some (2, 0, 0, 3, 0), some (1, 1, 0, 4, 0), some (18, 121, 2, 7, 49), none, none, some (22, 0, 0, 8, 0), some (23, 0, 0, 9, 0), some (17, 0, 0, 15, 0), none, none, some (4, 3, 0, 13, 0), some (0, 0, 1, 14, 0), some (19, 0, 0, 14, 0), some (0, 0, 0, 16, 0), some (19, 0, 0, 16, 0)]]
/-- Law.state -/
def qc_t152 : List (List (Option qa_I)) := [[some (2, 2, 0, 1, 0), some (0, 0, 0, 2, 0), some (2, 0, 0, 3, 0), some (1, 1, 0, 4, 0), some (18, 122, 2, 7, 52), none, none, some (22, 0, 0, 8, 0), some (23, 0, 0, 9, 0), some (17, 0, 0, 15, 0), none, none, some (4, 3, 0, 13, 0), some (0, 0, 1, 14, 0), some (19, 0, 0, 14, 0), some (0, 0, 0, 16, 0), some (19, 0, 0, 16, 0)]]
/-- Law.machine -/
def qc_t153 : List (List (Option qa_I)) := [[some (2, 2, 0, 1, 0), some (0, 0, 0, 2, 0), some (2, 0, 0, 3, 0), some (1, 1, 0, 4, 0), some (18, 125, 2, 7, 55), none, none, some (22, 0, 0, 8, 0), some (23, 0, 0, 9, 0), some (17, 0, 0, 18, 0), none, none, some (4, 3, 0, 13, 0), some (0, 0, 1, 14, 0), some (19, 0, 0, 14, 0), some (4, 3, 0, 16, 0), some (0, 0, 2, 17, 0), some (19, 0, 0, 17, 0), some (0, 0, 0, 19, 0), some (19, 0, 0, 19, 0)]]
/-- Law.offer -/
def qc_t154 : List (List (Option qa_I)) := [[some (2, 3, 0, 1, 0), some (0, 0, 0, 2, 0), some (2, 0, 0, 3, 0), some (1, 1, 0, 4, 0), some (1, 2, 0, 5, 0), some (18, 126, 3, 8, 58), none, none, some (22, 0, 0, 9, 0), some (23, 0, 0, 10, 0), some (17, 0, 0, 21, 0), none, none, some (4, 4, 0, 15, 0), none, some (0, 0, 1, 16, 0), some (19, 0, 0, 16, 0), some (4, 4, 0, 19, 0), none, some (0, 0, 2, 20, 0), some (19, 0, 0, 20, 0), some (0, 0, 0, 22, 0), some (19, 0, 0, 22, 0)]]
/-- Law.night -/
def qc_t155 : List (List (Option qa_I)) := [[some (2, 2, 0, 1, 0), some (0, 0, 0, 2, 0), some (2, 0, 0, 3, 0), some (1, 1, 0, 4, 0), some (18, 127, 2, 7, 61), none, none, some (22, 0, 0, 8, 0), some (23, 0, 0, 9, 0), some (17, 0, 0, 15, 0), none, none, some (4, 3, 0, 13, 0), some (0, 0, 1, 14, 0), some (19, 0, 0, 14, 0), some (0, 0, 0, 16, 0), some (19, 0, 0, 16, 0)]]
/-- Law.heat -/
def qc_t156 : List (List (Option qa_I)) := [[some (2, 2, 0, 1, 0), some (0, 0, 0, 2, 0), some (2, 0, 0, 3, 0), some (1, 1, 0, 4, 0), some (18, 128, 2, 7, 64), none, none, some (22, 0, 0, 8, 0), some (23, 0, 0, 9, 0), some (17, 0, 0, 15, 0), none, none, some (4, 3, 0, 13, 0), some (0, 0, 1, 14, 0), some (19, 0, 0, 14, 0), some (0, 0, 0, 16, 0), some (19, 0, 0, 16, 0)]]
/-- Law.setRate -/
def qc_t157 : List (List (Option qa_I)) := [[some (2, 2, 0, 1, 0), some (0, 0, 0, 2, 0), some (2, 0, 0, 3, 0), some (1, 1, 0, 4, 0), some (18, 129, 2, 7, 67), none, none, some (22, 0, 0, 8, 0), some (23, 0, 0, 9, 0), some (17, 0, 0, 15, 0), none, none, some (4, 3, 0, 13, 0), some (0, 0, 1, 14, 0), some (19, 0, 0, 14, 0), some (0, 0, 0, 16, 0), some (19, 0, 0, 16, 0)]]
/-- Law.seconds -/
def qc_t158 : List (List (Option qa_I)) := [[some (2, 2, 0, 1, 0), some (0, 0, 0, 2, 0), some (2, 0, 0, 3, 0), some (1, 1, 0, 4, 0), some (18, 130, 2, 7, 70), none, none, some (22, 0, 0, 8, 0), some (23, 0, 0, 9, 0), some (17, 0, 0, 15, 0), none, none, some (4, 3, 0, 13, 0), some (0, 0, 1, 14, 0), some (19, 0, 0, 14, 0), some (0, 0, 0, 16, 0), some (19, 0, 0, 16, 0)]]
/-- Law.show -/
def qc_t159 : List (List (Option qa_I)) := [[some (2, 1, 0, 1, 0), some (0, 0, 0, 2, 0), some (2, 0, 0, 3, 0), some (18, 131, 1, 6, 73), none, none, some (22, 0, 0, 7, 0), some (23, 0, 0, 8, 0), some (17, 0, 0, 14, 0), none, none, some (4, 2, 0, 12, 0), some (0, 0, 1, 13, 0), some (19, 0, 0, 13, 0), some (0, 0, 0, 15, 0), some (19, 0, 0, 15, 0)]]
/-- Law.money -/
def qc_t160 : List (List (Option qa_I)) := [[some (2, 2, 0, 1, 0), some (0, 0, 0, 2, 0), some (2, 0, 0, 3, 0), some (1, 1, 0, 4, 0), some (18, 132, 2, 7, 77), none, none, some (22, 0, 0, 8, 0), some (23, 0, 0, 9, 0), some (17, 0, 0, 15, 0), none, none, some (4, 3, 0, 13, 0), some (0, 0, 1, 14, 0), some (19, 0, 0, 14, 0), some (0, 0, 0, 16, 0), some (19, 0, 0, 16, 0)]]
/-- Law.law -/
def qc_t161_0 : List (Option qa_I) := [none, none, none, some (8, 0, 0, 4, 0), none, none, none, some (4, 1, 0, 8, 0), none, none, none, some (8, 0, 0, 12, 0), none, none, none, some (4, 2, 0, 16, 0), some (0, 0, 1, 17, 0), none, none, some (4, 3, 0, 20, 0), some (0, 0, 0, 21, 0), some (3, 4, 0, 23, 0), none, some (1, 4, 0, 25, 0), none, some (2, 0, 0, 26, 0), some (27, 0, 0, 27, 0), some (0, 0, 7, 29, 0), none, some (6, 2, 0, 30, 0), some (15, 4, 1506, 33, 0), none, none, some (2, 0, 0, 34, 0), some (1, 4, 0, 36, 0), none, some (26, 0, 0, 37, 0), some (0, 0, 31, 39, 0), none, some (6, 6, 0, 40, 0), some (28, 0, 0, 1500, 0), none, none, none, none, none, none, none, none, none, none, none, none, none, none, none, none, none, none, none, none, none, none, none]
def qc_t161_1 : List (Option qa_I) := [none, none, none, none, none, none, none, none, none, none, none, none, none, none, none, none, none, none, none, none, none, none, none, none, none, none, none, none, none, none, none, none, none, none, none, none, none, none, none, none, none, none, none, none, none, none, none, none, none, none, none, none, none, none, none, none, none, none, none, none, none, none, none, none]
def qc_t161_2 : List (Option qa_I) := [none, none, none, none, none, none, none, none, none, none, none, none, none, none, none, none, some (2, 1, 0, 145, 0), some (2, 0, 0, 146, 0), some (1, 4, 0, 148, 0), none, some (0, 0, 1, 149, 0), some (6, 0, 0, 150, 0), some (26, 0, 0, 151, 0), some (2, 0, 0, 152, 0), some (1, 4, 0, 154, 0), none, some (0, 0, 2, 155, 0), some (6, 0, 0, 156, 0), some (26, 0, 0, 157, 0), some (2, 0, 0, 158, 0), some (1, 4, 0, 160, 0), none, some (0, 0, 3, 161, 0), some (6, 0, 0, 162, 0), some (26, 0, 0, 163, 0), some (2, 3, 0, 164, 0), some (18, 141, 5, 167, 84), none, none, some (3, 5, 0, 169, 0), none, some (2, 2, 0, 170, 0), some (2, 0, 0, 171, 0), some (1, 4, 0, 173, 0), none, some (0, 0, 1, 174, 0), some (6, 0, 0, 175, 0), some (26, 0, 0, 176, 0), some (2, 0, 0, 177, 0), some (1, 4, 0, 179, 0), none, some (0, 0, 2, 180, 0), some (6, 0, 0, 181, 0), some (26, 0, 0, 182, 0), some (2, 0, 0, 183, 0), some (1, 4, 0, 185, 0), none, some (0, 0, 3, 186, 0), some (6, 0, 0, 187, 0), some (26, 0, 0, 188, 0), some (18, 71, 4, 191, 89), none, none, some (3, 6, 0, 193, 0)]
def qc_t161_3 : List (Option qa_I) := [none, some (2, 2, 0, 194, 0), some (18, 64, 1, 197, 90), none, none, some (1, 5, 0, 199, 0), none, some (15, 0, 204, 202, 0), none, none, some (0, 0, 0, 203, 0), some (19, 1, 0, 203, 0), some (1, 5, 0, 206, 0), none, some (16, 1, 221, 209, 0), none, none, some (2, 3, 0, 210, 0), some (0, 0, 0, 211, 0), some (24, 0, 0, 212, 0), some (1, 6, 0, 214, 0), none, some (22, 0, 0, 215, 0), some (25, 0, 0, 216, 0), some (16, 0, 221, 219, 0), none, none, some (0, 0, 0, 220, 0), some (19, 1, 0, 220, 0), some (17, 0, 0, 1500, 0), none, none, some (2, 1, 0, 225, 0), some (2, 0, 0, 226, 0), some (1, 4, 0, 228, 0), none, some (0, 0, 1, 229, 0), some (6, 0, 0, 230, 0), some (26, 0, 0, 231, 0), some (2, 0, 0, 232, 0), some (1, 4, 0, 234, 0), none, some (0, 0, 2, 235, 0), some (6, 0, 0, 236, 0), some (26, 0, 0, 237, 0), some (2, 0, 0, 238, 0), some (1, 4, 0, 240, 0), none, some (0, 0, 3, 241, 0), some (6, 0, 0, 242, 0), some (26, 0, 0, 243, 0), some (2, 0, 0, 244, 0), some (1, 4, 0, 246, 0), none, some (0, 0, 4, 247, 0), some (6, 0, 0, 248, 0), some (26, 0, 0, 249, 0), some (2, 0, 0, 250, 0), some (1, 4, 0, 252, 0), none, some (0, 0, 5, 253, 0), some (6, 0, 0, 254, 0), some (26, 0, 0, 255, 0), some (2, 0, 0, 256, 0)]
def qc_t161_4 : List (Option qa_I) := [some (1, 4, 0, 258, 0), none, some (0, 0, 6, 260, 0), none, some (6, 0, 0, 261, 0), some (26, 0, 0, 262, 0), some (16, 0, 269, 265, 0), none, none, some (0, 0, 1, 266, 0), some (17, 0, 0, 270, 0), none, none, some (0, 0, 0, 270, 0), some (2, 3, 0, 271, 0), some (18, 142, 8, 274, 93), none, none, some (3, 5, 0, 276, 0), none, some (2, 2, 0, 277, 0), some (2, 0, 0, 278, 0), some (1, 4, 0, 280, 0), none, some (0, 0, 1, 281, 0), some (6, 0, 0, 282, 0), some (26, 0, 0, 283, 0), some (2, 0, 0, 284, 0), some (1, 4, 0, 286, 0), none, some (0, 0, 2, 287, 0), some (6, 0, 0, 288, 0), some (26, 0, 0, 289, 0), some (2, 0, 0, 290, 0), some (1, 4, 0, 292, 0), none, some (0, 0, 3, 293, 0), some (6, 0, 0, 294, 0), some (26, 0, 0, 295, 0), some (2, 0, 0, 296, 0), some (1, 4, 0, 298, 0), none, some (0, 0, 4, 299, 0), some (6, 0, 0, 300, 0), some (26, 0, 0, 301, 0), some (2, 0, 0, 302, 0), some (1, 4, 0, 304, 0), none, some (0, 0, 5, 305, 0), some (6, 0, 0, 306, 0), some (26, 0, 0, 307, 0), some (2, 0, 0, 308, 0), some (1, 4, 0, 310, 0), none, some (0, 0, 6, 312, 0), none, some (6, 0, 0, 313, 0), some (26, 0, 0, 314, 0), some (16, 0, 321, 317, 0), none, none, some (0, 0, 1, 318, 0), some (17, 0, 0, 322, 0), none]
def qc_t161_5 : List (Option qa_I) := [none, some (0, 0, 0, 322, 0), some (18, 78, 7, 325, 96), none, none, some (3, 6, 0, 327, 0), none, some (2, 2, 0, 328, 0), some (18, 64, 1, 331, 90), none, none, some (1, 5, 0, 333, 0), none, some (15, 0, 338, 336, 0), none, none, some (0, 0, 0, 337, 0), some (19, 1, 0, 337, 0), some (1, 5, 0, 340, 0), none, some (16, 1, 355, 343, 0), none, none, some (2, 3, 0, 344, 0), some (0, 0, 0, 345, 0), some (24, 0, 0, 346, 0), some (1, 6, 0, 348, 0), none, some (22, 0, 0, 349, 0), some (25, 0, 0, 350, 0), some (16, 0, 355, 353, 0), none, none, some (0, 0, 0, 354, 0), some (19, 1, 0, 354, 0), some (17, 0, 0, 1500, 0), none, none, some (2, 1, 0, 359, 0), some (2, 0, 0, 360, 0), some (1, 4, 0, 362, 0), none, some (0, 0, 1, 363, 0), some (6, 0, 0, 364, 0), some (26, 0, 0, 365, 0), some (2, 0, 0, 366, 0), some (1, 4, 0, 368, 0), none, some (0, 0, 2, 369, 0), some (6, 0, 0, 370, 0), some (26, 0, 0, 371, 0), some (2, 0, 0, 372, 0), some (1, 4, 0, 374, 0), none, some (0, 0, 3, 375, 0), some (6, 0, 0, 376, 0), some (26, 0, 0, 377, 0), some (2, 3, 0, 378, 0), some (18, 143, 5, 381, 97), none, none, some (3, 5, 0, 383, 0), none, some (2, 2, 0, 384, 0)]
def qc_t161_6 : List (Option qa_I) := [some (2, 0, 0, 385, 0), some (1, 4, 0, 387, 0), none, some (0, 0, 1, 388, 0), some (6, 0, 0, 389, 0), some (26, 0, 0, 390, 0), some (2, 0, 0, 391, 0), some (1, 4, 0, 393, 0), none, some (0, 0, 2, 394, 0), some (6, 0, 0, 395, 0), some (26, 0, 0, 396, 0), some (2, 0, 0, 397, 0), some (1, 4, 0, 399, 0), none, some (0, 0, 3, 400, 0), some (6, 0, 0, 401, 0), some (26, 0, 0, 402, 0), some (18, 79, 4, 405, 99), none, none, some (3, 6, 0, 407, 0), none, some (2, 2, 0, 408, 0), some (18, 64, 1, 411, 90), none, none, some (1, 5, 0, 413, 0), none, some (15, 0, 418, 416, 0), none, none, some (0, 0, 0, 417, 0), some (19, 1, 0, 417, 0), some (1, 5, 0, 420, 0), none, some (16, 1, 435, 423, 0), none, none, some (2, 3, 0, 424, 0), some (0, 0, 0, 425, 0), some (24, 0, 0, 426, 0), some (1, 6, 0, 428, 0), none, some (22, 0, 0, 429, 0), some (25, 0, 0, 430, 0), some (16, 0, 435, 433, 0), none, none, some (0, 0, 0, 434, 0), some (19, 1, 0, 434, 0), some (17, 0, 0, 1500, 0), none, none, some (2, 1, 0, 439, 0), some (2, 0, 0, 440, 0), some (1, 4, 0, 442, 0), none, some (0, 0, 1, 443, 0), some (6, 0, 0, 444, 0), some (26, 0, 0, 445, 0), some (2, 0, 0, 446, 0), some (1, 4, 0, 448, 0), none]
def qc_t161_7 : List (Option qa_I) := [some (0, 0, 2, 449, 0), some (6, 0, 0, 450, 0), some (26, 0, 0, 451, 0), some (2, 0, 0, 452, 0), some (1, 4, 0, 454, 0), none, some (0, 0, 3, 455, 0), some (6, 0, 0, 456, 0), some (26, 0, 0, 457, 0), some (2, 3, 0, 458, 0), some (18, 144, 5, 461, 100), none, none, some (3, 5, 0, 463, 0), none, some (2, 2, 0, 464, 0), some (2, 0, 0, 465, 0), some (1, 4, 0, 467, 0), none, some (0, 0, 1, 468, 0), some (6, 0, 0, 469, 0), some (26, 0, 0, 470, 0), some (2, 0, 0, 471, 0), some (1, 4, 0, 473, 0), none, some (0, 0, 2, 474, 0), some (6, 0, 0, 475, 0), some (26, 0, 0, 476, 0), some (2, 0, 0, 477, 0), some (1, 4, 0, 479, 0), none, some (0, 0, 3, 480, 0), some (6, 0, 0, 481, 0), some (26, 0, 0, 482, 0), some (18, 80, 4, 485, 102), none, none, some (3, 6, 0, 487, 0), none, some (2, 2, 0, 488, 0), some (18, 64, 1, 491, 90), none, none, some (1, 5, 0, 493, 0), none, some (15, 0, 498, 496, 0), none, none, some (0, 0, 0, 497, 0), some (19, 1, 0, 497, 0), some (1, 5, 0, 500, 0), none, some (16, 1, 515, 503, 0), none, none, some (2, 3, 0, 504, 0), some (0, 0, 0, 505, 0), some (24, 0, 0, 506, 0), some (1, 6, 0, 508, 0), none, some (22, 0, 0, 509, 0), some (25, 0, 0, 510, 0), some (16, 0, 515, 513, 0), none]
def qc_t161_8 : List (Option qa_I) := [none, some (0, 0, 0, 514, 0), some (19, 1, 0, 514, 0), some (17, 0, 0, 1500, 0), none, none, some (2, 1, 0, 519, 0), some (2, 0, 0, 520, 0), some (1, 4, 0, 522, 0), none, some (0, 0, 1, 523, 0), some (6, 0, 0, 524, 0), some (26, 0, 0, 525, 0), some (2, 0, 0, 526, 0), some (1, 4, 0, 528, 0), none, some (0, 0, 2, 529, 0), some (6, 0, 0, 530, 0), some (26, 0, 0, 531, 0), some (2, 0, 0, 532, 0), some (1, 4, 0, 534, 0), none, some (0, 0, 3, 535, 0), some (6, 0, 0, 536, 0), some (26, 0, 0, 537, 0), some (2, 3, 0, 538, 0), some (18, 145, 5, 541, 103), none, none, some (3, 5, 0, 543, 0), none, some (2, 2, 0, 544, 0), some (2, 0, 0, 545, 0), some (1, 4, 0, 547, 0), none, some (0, 0, 1, 548, 0), some (6, 0, 0, 549, 0), some (26, 0, 0, 550, 0), some (2, 0, 0, 551, 0), some (1, 4, 0, 553, 0), none, some (0, 0, 2, 554, 0), some (6, 0, 0, 555, 0), some (26, 0, 0, 556, 0), some (2, 0, 0, 557, 0), some (1, 4, 0, 559, 0), none, some (0, 0, 3, 560, 0), some (6, 0, 0, 561, 0), some (26, 0, 0, 562, 0), some (18, 81, 4, 565, 105), none, none, some (3, 6, 0, 567, 0), none, some (2, 2, 0, 568, 0), some (18, 64, 1, 571, 90), none, none, some (1, 5, 0, 573, 0), none, some (15, 0, 578, 576, 0), none, none]
def qc_t161_9 : List (Option qa_I) := [some (0, 0, 0, 577, 0), some (19, 1, 0, 577, 0), some (1, 5, 0, 580, 0), none, some (16, 1, 595, 583, 0), none, none, some (2, 3, 0, 584, 0), some (0, 0, 0, 585, 0), some (24, 0, 0, 586, 0), some (1, 6, 0, 588, 0), none, some (22, 0, 0, 589, 0), some (25, 0, 0, 590, 0), some (16, 0, 595, 593, 0), none, none, some (0, 0, 0, 594, 0), some (19, 1, 0, 594, 0), some (17, 0, 0, 1500, 0), none, none, some (2, 1, 0, 599, 0), some (2, 0, 0, 600, 0), some (1, 4, 0, 602, 0), none, some (0, 0, 1, 603, 0), some (6, 0, 0, 604, 0), some (26, 0, 0, 605, 0), some (2, 3, 0, 606, 0), some (18, 146, 3, 609, 106), none, none, some (3, 5, 0, 611, 0), none, some (2, 2, 0, 612, 0), some (2, 0, 0, 613, 0), some (1, 4, 0, 615, 0), none, some (0, 0, 1, 616, 0), some (6, 0, 0, 617, 0), some (26, 0, 0, 618, 0), some (18, 82, 2, 621, 109), none, none, some (3, 6, 0, 623, 0), none, some (2, 2, 0, 624, 0), some (18, 64, 1, 627, 90), none, none, some (1, 5, 0, 629, 0), none, some (15, 0, 634, 632, 0), none, none, some (0, 0, 0, 633, 0), some (19, 1, 0, 633, 0), some (1, 5, 0, 636, 0), none, some (16, 1, 651, 639, 0), none, none, some (2, 3, 0, 640, 0)]
def qc_t161_10 : List (Option qa_I) := [some (0, 0, 0, 641, 0), some (24, 0, 0, 642, 0), some (1, 6, 0, 644, 0), none, some (22, 0, 0, 645, 0), some (25, 0, 0, 646, 0), some (16, 0, 651, 649, 0), none, none, some (0, 0, 0, 650, 0), some (19, 1, 0, 650, 0), some (17, 0, 0, 1500, 0), none, none, some (2, 1, 0, 655, 0), some (2, 0, 0, 656, 0), some (1, 4, 0, 658, 0), none, some (0, 0, 1, 659, 0), some (6, 0, 0, 660, 0), some (26, 0, 0, 661, 0), some (2, 0, 0, 662, 0), some (1, 4, 0, 664, 0), none, some (0, 0, 2, 665, 0), some (6, 0, 0, 666, 0), some (26, 0, 0, 667, 0), some (2, 3, 0, 668, 0), some (18, 147, 4, 671, 110), none, none, some (3, 5, 0, 673, 0), none, some (2, 2, 0, 674, 0), some (2, 0, 0, 675, 0), some (1, 4, 0, 677, 0), none, some (0, 0, 1, 678, 0), some (6, 0, 0, 679, 0), some (26, 0, 0, 680, 0), some (2, 0, 0, 681, 0), some (1, 4, 0, 683, 0), none, some (0, 0, 2, 684, 0), some (6, 0, 0, 685, 0), some (26, 0, 0, 686, 0), some (18, 85, 3, 689, 113), none, none, some (3, 6, 0, 691, 0), none, some (2, 2, 0, 692, 0), some (18, 64, 1, 695, 90), none, none, some (1, 5, 0, 697, 0), none, some (15, 0, 702, 700, 0), none, none, some (0, 0, 0, 701, 0), some (19, 1, 0, 701, 0), some (1, 5, 0, 704, 0), none]
def qc_t161_11 : List (Option qa_I) := [some (16, 1, 719, 707, 0), none, none, some (2, 3, 0, 708, 0), some (0, 0, 0, 709, 0), some (24, 0, 0, 710, 0), some (1, 6, 0, 712, 0), none, some (22, 0, 0, 713, 0), some (25, 0, 0, 714, 0), some (16, 0, 719, 717, 0), none, none, some (0, 0, 0, 718, 0), some (19, 1, 0, 718, 0), some (17, 0, 0, 1500, 0), none, none, some (2, 1, 0, 723, 0), some (2, 0, 0, 724, 0), some (1, 4, 0, 726, 0), none, some (0, 0, 1, 727, 0), some (6, 0, 0, 728, 0), some (26, 0, 0, 729, 0), some (2, 3, 0, 730, 0), some (18, 148, 3, 733, 114), none, none, some (3, 5, 0, 735, 0), none, some (2, 2, 0, 736, 0), some (2, 0, 0, 737, 0), some (1, 4, 0, 739, 0), none, some (0, 0, 1, 740, 0), some (6, 0, 0, 741, 0), some (26, 0, 0, 742, 0), some (18, 87, 2, 745, 116), none, none, some (3, 6, 0, 747, 0), none, some (2, 2, 0, 748, 0), some (18, 64, 1, 751, 90), none, none, some (1, 5, 0, 753, 0), none, some (15, 0, 758, 756, 0), none, none, some (0, 0, 0, 757, 0), some (19, 1, 0, 757, 0), some (1, 5, 0, 760, 0), none, some (16, 1, 775, 763, 0), none, none, some (2, 3, 0, 764, 0), some (0, 0, 0, 765, 0), some (24, 0, 0, 766, 0), some (1, 6, 0, 768, 0), none]
def qc_t161_12 : List (Option qa_I) := [some (22, 0, 0, 769, 0), some (25, 0, 0, 770, 0), some (16, 0, 775, 773, 0), none, none, some (0, 0, 0, 774, 0), some (19, 1, 0, 774, 0), some (17, 0, 0, 1500, 0), none, none, some (2, 1, 0, 779, 0), some (2, 0, 0, 780, 0), some (1, 4, 0, 782, 0), none, some (0, 0, 1, 783, 0), some (6, 0, 0, 784, 0), some (26, 0, 0, 785, 0), some (2, 0, 0, 786, 0), some (1, 4, 0, 788, 0), none, some (0, 0, 2, 789, 0), some (6, 0, 0, 790, 0), some (26, 0, 0, 791, 0), some (2, 0, 0, 792, 0), some (1, 4, 0, 794, 0), none, some (0, 0, 3, 795, 0), some (6, 0, 0, 796, 0), some (26, 0, 0, 797, 0), some (2, 3, 0, 798, 0), some (18, 149, 5, 801, 117), none, none, some (3, 5, 0, 803, 0), none, some (2, 2, 0, 804, 0), some (2, 0, 0, 805, 0), some (1, 4, 0, 807, 0), none, some (0, 0, 1, 808, 0), some (6, 0, 0, 809, 0), some (26, 0, 0, 810, 0), some (2, 0, 0, 811, 0), some (1, 4, 0, 813, 0), none, some (0, 0, 2, 814, 0), some (6, 0, 0, 815, 0), some (26, 0, 0, 816, 0), some (2, 0, 0, 817, 0), some (1, 4, 0, 819, 0), none, some (0, 0, 3, 820, 0), some (6, 0, 0, 821, 0), some (26, 0, 0, 822, 0), some (18, 89, 4, 825, 119), none, none, some (3, 6, 0, 827, 0), none, some (2, 2, 0, 828, 0), some (18, 64, 1, 831, 90), none, none, some (1, 5, 0, 833, 0)]
def qc_t161_13 : List (Option qa_I) := [none, some (15, 0, 838, 836, 0), none, none, some (0, 0, 0, 837, 0), some (19, 1, 0, 837, 0), some (1, 5, 0, 840, 0), none, some (16, 1, 855, 843, 0), none, none, some (2, 3, 0, 844, 0), some (0, 0, 0, 845, 0), some (24, 0, 0, 846, 0), some (1, 6, 0, 848, 0), none, some (22, 0, 0, 849, 0), some (25, 0, 0, 850, 0), some (16, 0, 855, 853, 0), none, none, some (0, 0, 0, 854, 0), some (19, 1, 0, 854, 0), some (17, 0, 0, 1500, 0), none, none, some (2, 1, 0, 859, 0), some (2, 0, 0, 860, 0), some (1, 4, 0, 862, 0), none, some (0, 0, 1, 863, 0), some (6, 0, 0, 864, 0), some (26, 0, 0, 865, 0), some (2, 3, 0, 866, 0), some (18, 150, 3, 869, 120), none, none, some (3, 5, 0, 871, 0), none, some (2, 2, 0, 872, 0), some (2, 0, 0, 873, 0), some (1, 4, 0, 875, 0), none, some (0, 0, 1, 876, 0), some (6, 0, 0, 877, 0), some (26, 0, 0, 878, 0), some (18, 90, 2, 881, 122), none, none, some (3, 6, 0, 883, 0), none, some (2, 2, 0, 884, 0), some (18, 64, 1, 887, 90), none, none, some (1, 5, 0, 889, 0), none, some (15, 0, 894, 892, 0), none, none, some (0, 0, 0, 893, 0), some (19, 1, 0, 893, 0), some (1, 5, 0, 896, 0), none]
def qc_t161_14 : List (Option qa_I) := [some (16, 1, 911, 899, 0), none, none, some (2, 3, 0, 900, 0), some (0, 0, 0, 901, 0), some (24, 0, 0, 902, 0), some (1, 6, 0, 904, 0), none, some (22, 0, 0, 905, 0), some (25, 0, 0, 906, 0), some (16, 0, 911, 909, 0), none, none, some (0, 0, 0, 910, 0), some (19, 1, 0, 910, 0), some (17, 0, 0, 1500, 0), none, none, some (2, 1, 0, 915, 0), some (2, 0, 0, 916, 0), some (1, 4, 0, 918, 0), none, some (0, 0, 1, 919, 0), some (6, 0, 0, 920, 0), some (26, 0, 0, 921, 0), some (2, 3, 0, 922, 0), some (18, 151, 3, 925, 123), none, none, some (3, 5, 0, 927, 0), none, some (2, 2, 0, 928, 0), some (2, 0, 0, 929, 0), some (1, 4, 0, 931, 0), none, some (0, 0, 1, 932, 0), some (6, 0, 0, 933, 0), some (26, 0, 0, 934, 0), some (18, 92, 2, 937, 125), none, none, some (3, 6, 0, 939, 0), none, some (2, 2, 0, 940, 0), some (18, 64, 1, 943, 90), none, none, some (1, 5, 0, 945, 0), none, some (15, 0, 950, 948, 0), none, none, some (0, 0, 0, 949, 0), some (19, 1, 0, 949, 0), some (1, 5, 0, 952, 0), none, some (16, 1, 967, 955, 0), none, none, some (2, 3, 0, 956, 0), some (0, 0, 0, 957, 0), some (24, 0, 0, 958, 0), some (1, 6, 0, 960, 0), none]
def qc_t161_15 : List (Option qa_I) := [some (22, 0, 0, 961, 0), some (25, 0, 0, 962, 0), some (16, 0, 967, 965, 0), none, none, some (0, 0, 0, 966, 0), some (19, 1, 0, 966, 0), some (17, 0, 0, 1500, 0), none, none, some (2, 1, 0, 971, 0), some (2, 0, 0, 972, 0), some (1, 4, 0, 974, 0), none, some (0, 0, 1, 975, 0), some (6, 0, 0, 976, 0), some (26, 0, 0, 977, 0), some (2, 3, 0, 978, 0), some (18, 152, 3, 981, 126), none, none, some (3, 5, 0, 983, 0), none, some (2, 2, 0, 984, 0), some (2, 0, 0, 985, 0), some (1, 4, 0, 987, 0), none, some (0, 0, 1, 988, 0), some (6, 0, 0, 989, 0), some (26, 0, 0, 990, 0), some (18, 94, 2, 993, 128), none, none, some (3, 6, 0, 995, 0), none, some (2, 2, 0, 996, 0), some (18, 64, 1, 999, 90), none, none, some (1, 5, 0, 1001, 0), none, some (15, 0, 1006, 1004, 0), none, none, some (0, 0, 0, 1005, 0), some (19, 1, 0, 1005, 0), some (1, 5, 0, 1008, 0), none, some (16, 1, 1023, 1011, 0), none, none, some (2, 3, 0, 1012, 0), some (0, 0, 0, 1013, 0), some (24, 0, 0, 1014, 0), some (1, 6, 0, 1016, 0), none, some (22, 0, 0, 1017, 0), some (25, 0, 0, 1018, 0), some (16, 0, 1023, 1021, 0), none, none, some (0, 0, 0, 1022, 0), some (19, 1, 0, 1022, 0), some (17, 0, 0, 1500, 0)]
def qc_t161_16 : List (Option qa_I) := [none, none, some (2, 1, 0, 1027, 0), some (18, 123, 1, 1030, 129), none, none, some (2, 2, 0, 1031, 0), some (18, 95, 1, 1034, 132), none, none, some (15, 0, 1500, 1037, 0), none, none, some (0, 0, 0, 1038, 0), some (19, 1, 0, 1038, 0), some (2, 1, 0, 1040, 0), some (18, 124, 1, 1043, 133), none, none, some (2, 2, 0, 1044, 0), some (18, 96, 1, 1047, 136), none, none, some (15, 0, 1500, 1050, 0), none, none, some (0, 0, 0, 1051, 0), some (19, 1, 0, 1051, 0), some (2, 1, 0, 1053, 0), some (2, 0, 0, 1054, 0), some (1, 4, 0, 1056, 0), none, some (0, 0, 1, 1057, 0), some (6, 0, 0, 1058, 0), some (26, 0, 0, 1059, 0), some (2, 3, 0, 1060, 0), some (18, 153, 3, 1063, 137), none, none, some (3, 5, 0, 1065, 0), none, some (2, 2, 0, 1066, 0), some (2, 0, 0, 1067, 0), some (1, 4, 0, 1069, 0), none, some (0, 0, 1, 1070, 0), some (6, 0, 0, 1071, 0), some (26, 0, 0, 1072, 0), some (18, 97, 2, 1075, 139), none, none, some (3, 6, 0, 1077, 0), none, some (2, 2, 0, 1078, 0), some (18, 64, 1, 1081, 90), none, none, some (1, 5, 0, 1083, 0), none, some (15, 0, 1088, 1086, 0), none, none, some (0, 0, 0, 1087, 0), some (19, 1, 0, 1087, 0)]
def qc_t161_17 : List (Option qa_I) := [some (1, 5, 0, 1090, 0), none, some (16, 1, 1105, 1093, 0), none, none, some (2, 3, 0, 1094, 0), some (0, 0, 0, 1095, 0), some (24, 0, 0, 1096, 0), some (1, 6, 0, 1098, 0), none, some (22, 0, 0, 1099, 0), some (25, 0, 0, 1100, 0), some (16, 0, 1105, 1103, 0), none, none, some (0, 0, 0, 1104, 0), some (19, 1, 0, 1104, 0), some (17, 0, 0, 1500, 0), none, none, some (2, 1, 0, 1109, 0), some (2, 0, 0, 1110, 0), some (1, 4, 0, 1112, 0), none, some (0, 0, 1, 1113, 0), some (6, 0, 0, 1114, 0), some (26, 0, 0, 1115, 0), some (2, 0, 0, 1116, 0), some (1, 4, 0, 1118, 0), none, some (0, 0, 2, 1119, 0), some (6, 0, 0, 1120, 0), some (26, 0, 0, 1121, 0), some (2, 3, 0, 1122, 0), some (18, 154, 4, 1125, 140), none, none, some (3, 5, 0, 1127, 0), none, some (2, 2, 0, 1128, 0), some (2, 0, 0, 1129, 0), some (1, 4, 0, 1131, 0), none, some (0, 0, 1, 1132, 0), some (6, 0, 0, 1133, 0), some (26, 0, 0, 1134, 0), some (2, 0, 0, 1135, 0), some (1, 4, 0, 1137, 0), none, some (0, 0, 2, 1138, 0), some (6, 0, 0, 1139, 0), some (26, 0, 0, 1140, 0), some (18, 98, 3, 1143, 142), none, none, some (3, 6, 0, 1145, 0), none, some (2, 2, 0, 1146, 0), some (18, 64, 1, 1149, 90), none, none, some (1, 5, 0, 1151, 0), none, some (15, 0, 1156, 1154, 0)]
def qc_t161_18 : List (Option qa_I) := [none, none, some (0, 0, 0, 1155, 0), some (19, 1, 0, 1155, 0), some (1, 5, 0, 1158, 0), none, some (16, 1, 1173, 1161, 0), none, none, some (2, 3, 0, 1162, 0), some (0, 0, 0, 1163, 0), some (24, 0, 0, 1164, 0), some (1, 6, 0, 1166, 0), none, some (22, 0, 0, 1167, 0), some (25, 0, 0, 1168, 0), some (16, 0, 1173, 1171, 0), none, none, some (0, 0, 0, 1172, 0), some (19, 1, 0, 1172, 0), some (17, 0, 0, 1500, 0), none, none, some (2, 1, 0, 1177, 0), some (2, 0, 0, 1178, 0), some (1, 4, 0, 1180, 0), none, some (0, 0, 1, 1181, 0), some (6, 0, 0, 1182, 0), some (26, 0, 0, 1183, 0), some (2, 3, 0, 1184, 0), some (18, 155, 3, 1187, 143), none, none, some (3, 5, 0, 1189, 0), none, some (2, 2, 0, 1190, 0), some (2, 0, 0, 1191, 0), some (1, 4, 0, 1193, 0), none, some (0, 0, 1, 1194, 0), some (6, 0, 0, 1195, 0), some (26, 0, 0, 1196, 0), some (18, 103, 2, 1199, 145), none, none, some (3, 6, 0, 1201, 0), none, some (2, 2, 0, 1202, 0), some (18, 64, 1, 1205, 90), none, none, some (1, 5, 0, 1207, 0), none, some (15, 0, 1212, 1210, 0), none, none, some (0, 0, 0, 1211, 0), some (19, 1, 0, 1211, 0), some (1, 5, 0, 1214, 0), none, some (16, 1, 1229, 1217, 0), none]
def qc_t161_19 : List (Option qa_I) := [none, some (2, 3, 0, 1218, 0), some (0, 0, 0, 1219, 0), some (24, 0, 0, 1220, 0), some (1, 6, 0, 1222, 0), none, some (22, 0, 0, 1223, 0), some (25, 0, 0, 1224, 0), some (16, 0, 1229, 1227, 0), none, none, some (0, 0, 0, 1228, 0), some (19, 1, 0, 1228, 0), some (17, 0, 0, 1500, 0), none, none, some (2, 1, 0, 1233, 0), some (2, 0, 0, 1234, 0), some (1, 4, 0, 1236, 0), none, some (0, 0, 1, 1237, 0), some (6, 0, 0, 1238, 0), some (26, 0, 0, 1239, 0), some (2, 3, 0, 1240, 0), some (18, 156, 3, 1243, 146), none, none, some (3, 5, 0, 1245, 0), none, some (2, 2, 0, 1246, 0), some (2, 0, 0, 1247, 0), some (1, 4, 0, 1249, 0), none, some (0, 0, 1, 1250, 0), some (6, 0, 0, 1251, 0), some (26, 0, 0, 1252, 0), some (18, 104, 2, 1255, 148), none, none, some (3, 6, 0, 1257, 0), none, some (2, 2, 0, 1258, 0), some (18, 64, 1, 1261, 90), none, none, some (1, 5, 0, 1263, 0), none, some (15, 0, 1268, 1266, 0), none, none, some (0, 0, 0, 1267, 0), some (19, 1, 0, 1267, 0), some (1, 5, 0, 1270, 0), none, some (16, 1, 1285, 1273, 0), none, none, some (2, 3, 0, 1274, 0), some (0, 0, 0, 1275, 0), some (24, 0, 0, 1276, 0), some (1, 6, 0, 1278, 0), none, some (22, 0, 0, 1279, 0), some (25, 0, 0, 1280, 0)]
def qc_t161_20 : List (Option qa_I) := [some (16, 0, 1285, 1283, 0), none, none, some (0, 0, 0, 1284, 0), some (19, 1, 0, 1284, 0), some (17, 0, 0, 1500, 0), none, none, some (2, 1, 0, 1289, 0), some (2, 0, 0, 1290, 0), some (1, 4, 0, 1292, 0), none, some (0, 0, 1, 1293, 0), some (6, 0, 0, 1294, 0), some (26, 0, 0, 1295, 0), some (2, 3, 0, 1296, 0), some (18, 157, 3, 1299, 149), none, none, some (3, 5, 0, 1301, 0), none, some (2, 2, 0, 1302, 0), some (2, 0, 0, 1303, 0), some (1, 4, 0, 1305, 0), none, some (0, 0, 1, 1306, 0), some (6, 0, 0, 1307, 0), some (26, 0, 0, 1308, 0), some (18, 105, 2, 1311, 151), none, none, some (3, 6, 0, 1313, 0), none, some (2, 2, 0, 1314, 0), some (18, 64, 1, 1317, 90), none, none, some (1, 5, 0, 1319, 0), none, some (15, 0, 1324, 1322, 0), none, none, some (0, 0, 0, 1323, 0), some (19, 1, 0, 1323, 0), some (1, 5, 0, 1326, 0), none, some (16, 1, 1341, 1329, 0), none, none, some (2, 3, 0, 1330, 0), some (0, 0, 0, 1331, 0), some (24, 0, 0, 1332, 0), some (1, 6, 0, 1334, 0), none, some (22, 0, 0, 1335, 0), some (25, 0, 0, 1336, 0), some (16, 0, 1341, 1339, 0), none, none, some (0, 0, 0, 1340, 0), some (19, 1, 0, 1340, 0), some (17, 0, 0, 1500, 0), none, none]
def qc_t161_21 : List (Option qa_I) := [some (2, 1, 0, 1345, 0), some (2, 0, 0, 1346, 0), some (1, 4, 0, 1348, 0), none, some (0, 0, 1, 1349, 0), some (6, 0, 0, 1350, 0), some (26, 0, 0, 1351, 0), some (2, 3, 0, 1352, 0), some (18, 158, 3, 1355, 152), none, none, some (3, 5, 0, 1357, 0), none, some (2, 2, 0, 1358, 0), some (2, 0, 0, 1359, 0), some (1, 4, 0, 1361, 0), none, some (0, 0, 1, 1362, 0), some (6, 0, 0, 1363, 0), some (26, 0, 0, 1364, 0), some (18, 107, 2, 1367, 154), none, none, some (3, 6, 0, 1369, 0), none, some (2, 2, 0, 1370, 0), some (18, 64, 1, 1373, 90), none, none, some (1, 5, 0, 1375, 0), none, some (15, 0, 1380, 1378, 0), none, none, some (0, 0, 0, 1379, 0), some (19, 1, 0, 1379, 0), some (1, 5, 0, 1382, 0), none, some (16, 1, 1397, 1385, 0), none, none, some (2, 3, 0, 1386, 0), some (0, 0, 0, 1387, 0), some (24, 0, 0, 1388, 0), some (1, 6, 0, 1390, 0), none, some (22, 0, 0, 1391, 0), some (25, 0, 0, 1392, 0), some (16, 0, 1397, 1395, 0), none, none, some (0, 0, 0, 1396, 0), some (19, 1, 0, 1396, 0), some (17, 0, 0, 1500, 0), none, none, some (2, 1, 0, 1401, 0), some (2, 3, 0, 1402, 0), some (18, 159, 2, 1405, 155), none, none, some (3, 5, 0, 1407, 0), none, some (2, 2, 0, 1408, 0)]
def qc_t161_22 : List (Option qa_I) := [some (18, 109, 1, 1411, 158), none, none, some (3, 6, 0, 1413, 0), none, some (2, 2, 0, 1414, 0), some (18, 64, 1, 1417, 90), none, none, some (1, 5, 0, 1419, 0), none, some (15, 0, 1424, 1422, 0), none, none, some (0, 0, 0, 1423, 0), some (19, 1, 0, 1423, 0), some (1, 5, 0, 1426, 0), none, some (16, 1, 1441, 1429, 0), none, none, some (2, 3, 0, 1430, 0), some (0, 0, 0, 1431, 0), some (24, 0, 0, 1432, 0), some (1, 6, 0, 1434, 0), none, some (22, 0, 0, 1435, 0), some (25, 0, 0, 1436, 0), some (16, 0, 1441, 1439, 0), none, none, some (0, 0, 0, 1440, 0), some (19, 1, 0, 1440, 0), some (17, 0, 0, 1500, 0), none, none, some (2, 1, 0, 1445, 0), some (2, 0, 0, 1446, 0), some (1, 4, 0, 1448, 0), none, some (0, 0, 1, 1449, 0), some (6, 0, 0, 1450, 0), some (26, 0, 0, 1451, 0), some (2, 3, 0, 1452, 0), some (18, 160, 3, 1455, 159), none, none, some (3, 5, 0, 1457, 0), none, some (2, 2, 0, 1458, 0), some (2, 0, 0, 1459, 0), some (1, 4, 0, 1461, 0), none, some (0, 0, 1, 1462, 0), some (6, 0, 0, 1463, 0), some (26, 0, 0, 1464, 0), some (18, 110, 2, 1467, 161), none, none, some (3, 6, 0, 1469, 0), none, some (2, 2, 0, 1470, 0), some (18, 64, 1, 1473, 90), none]
def qc_t161_23 : List (Option qa_I) := [none, some (1, 5, 0, 1475, 0), none, some (15, 0, 1480, 1478, 0), none, none, some (0, 0, 0, 1479, 0), some (19, 1, 0, 1479, 0), some (1, 5, 0, 1482, 0), none, some (16, 1, 1497, 1485, 0), none, none, some (2, 3, 0, 1486, 0), some (0, 0, 0, 1487, 0), some (24, 0, 0, 1488, 0), some (1, 6, 0, 1490, 0), none, some (22, 0, 0, 1491, 0), some (25, 0, 0, 1492, 0), some (16, 0, 1497, 1495, 0), none, none, some (0, 0, 0, 1496, 0), some (19, 1, 0, 1496, 0), some (17, 0, 0, 1500, 0), none, none, some (5, 4, 7, 1503, 0), none, none, some (17, 0, 0, 23, 0), none, none, some (0, 0, 1, 1507, 0), some (19, 1, 0, 1507, 0)]
def qc_t161 : List (List (Option qa_I)) := [qc_t161_0, qc_t161_1, qc_t161_2, qc_t161_3, qc_t161_4, qc_t161_5, qc_t161_6, qc_t161_7, qc_t161_8, qc_t161_9, qc_t161_10, qc_t161_11, qc_t161_12, qc_t161_13, qc_t161_14, qc_t161_15, qc_t161_16, qc_t161_17, qc_t161_18, qc_t161_19, qc_t161_20, qc_t161_21, qc_t161_22, qc_t161_23]
def qc_g0 : List (List (List (Option qa_I))) := [qc_t0, qc_t1, qc_t2, qc_t3, qc_t4, qc_t5, qc_t6, qc_t7, qc_t8, qc_t9, qc_t10, qc_t11, qc_t12, qc_t13, qc_t14, qc_t15]
def qc_g1 : List (List (List (Option qa_I))) := [qc_t16, qc_t17, qc_t18, qc_t19, qc_t20, qc_t21, qc_t22, qc_t23, qc_t24, qc_t25, qc_t26, qc_t27, qc_t28, qc_t29, qc_t30, qc_t31]
def qc_g2 : List (List (List (Option qa_I))) := [qc_t32, qc_t33, qc_t34, qc_t35, qc_t36, qc_t37, qc_t38, qc_t39, qc_t40, qc_t41, qc_t42, qc_t43, qc_t44, qc_t45, qc_t46, qc_t47]
def qc_g3 : List (List (List (Option qa_I))) := [qc_t48, qc_t49, qc_t50, qc_t51, qc_t52, qc_t53, qc_t54, qc_t55, qc_t56, qc_t57, qc_t58, qc_t59, qc_t60, qc_t61, qc_t62, qc_t63]
def qc_g4 : List (List (List (Option qa_I))) := [qc_t64, qc_t65, qc_t66, qc_t67, qc_t68, qc_t69, qc_t70, qc_t71, qc_t72, qc_t73, qc_t74, qc_t75, qc_t76, qc_t77, qc_t78, qc_t79]
def qc_g5 : List (List (List (Option qa_I))) := [qc_t80, qc_t81, qc_t82, qc_t83, qc_t84, qc_t85, qc_t86, qc_t87, qc_t88, qc_t89, qc_t90, qc_t91, qc_t92, qc_t93, qc_t94, qc_t95]
def qc_g6 : List (List (List (Option qa_I))) := [qc_t96, qc_t97, qc_t98, qc_t99, qc_t100, qc_t101, qc_t102, qc_t103, qc_t104, qc_t105, qc_t106, qc_t107, qc_t108, qc_t109, qc_t110, qc_t111]
def qc_g7 : List (List (List (Option qa_I))) := [qc_t112, qc_t113, qc_t114, qc_t115, qc_t116, qc_t117, qc_t118, qc_t119, qc_t120, qc_t121, qc_t122, qc_t123, qc_t124, qc_t125, qc_t126, qc_t127]
def qc_g8 : List (List (List (Option qa_I))) := [qc_t128, qc_t129, qc_t130, qc_t131, qc_t132, qc_t133, qc_t134, qc_t135, qc_t136, qc_t137, qc_t138, qc_t139, qc_t140, qc_t141, qc_t142, qc_t143]
def qc_g9 : List (List (List (Option qa_I))) := [qc_t144, qc_t145, qc_t146, qc_t147, qc_t148, qc_t149, qc_t150, qc_t151, qc_t152, qc_t153, qc_t154, qc_t155, qc_t156, qc_t157, qc_t158, qc_t159]
def qc_g10 : List (List (List (Option qa_I))) := [qc_t160, qc_t161]
def qa_tbl : List (List (List (List (Option qa_I)))) := [qc_g0, qc_g1, qc_g2, qc_g3, qc_g4, qc_g5, qc_g6, qc_g7, qc_g8, qc_g9, qc_g10]
def qa_code (i pc : Nat) : Option qa_I := ((((qa_tbl.getD (i / 16) []).getD (i % 16) []).getD (pc / 64) []).getD (pc % 64) none)
def qa_hl : List (List (Nat × Nat × Nat × Nat)) := [[(0, 12, 15, 1), (0, 12, 19, 2), (0, 12, 23, 3)], [(0, 18, 21, 1), (0, 18, 25, 2), (0, 18, 29, 3)], [(0, 12, 15, 1)], [(0, 12, 15, 1)], [(0, 12, 15, 1)], [(0, 9, 12, 1)], [(0, 10, 13, 1)], [(0, 9, 12, 1)], [(0, 12, 15, 1), (0, 12, 19, 2), (0, 12, 23, 3)], [(0, 9, 12, 1)], [(0, 9, 12, 1)], [(0, 9, 12, 1)], [(0, 9, 12, 2), (0, 9, 15, 3)], [(0, 10, 13, 2), (0, 10, 17, 3)], [(0, 9, 12, 2)], [(0, 9, 12, 1)], [(0, 9, 12, 2)], [(0, 9, 12, 1)], [(0, 8, 11, 3)], [(0, 9, 12, 1)]]
def qa_hnd (i : Nat) : List (Nat × Nat × Nat × Nat) := if 141 ≤ i ∧ i ≤ 160 then qa_hl.getD (i - 141) [] else []
/-- where a throw of E at pc goes on -/
def qa_catch : List (Nat × Nat × Nat × Nat) → Nat → Nat → Option Nat
  | [], _, _ => none
  | q :: t, pc, E => bif Nat.ble q.1 pc && Nat.blt pc q.2.1 && Nat.beq q.2.2.2 E then some q.2.2.1 else qa_catch t pc E
def qa_sw : List Nat := [144, 224, 358, 438, 518, 598, 654, 722, 778, 858, 914, 970, 1026, 1039, 1052, 1108, 1176, 1232, 1288, 1344, 1400, 1444]
abbrev qa_Ly : Type := (Nat × List (Option Nat)) ⊕ (Nat × Nat)
def qa_lays : List (Option qa_Ly) := [some (.inl (5, [some 1, some 3, some 4, some 5, some 8, none])), some (.inl (3, [some 9, some 10, some 11, none, some 2, some 12, some 13])), some (.inl (2, [some 14, some 15, some 16, some 17, none])), some (.inl (4, [some 18, some 19, some 20])), some (.inl (1, [some 21, some 22, some 23, none, none])), some (.inl (0, [some 24, some 25, some 26, none, some 27, some 28, none, none])), some (.inl (6, [none, some 29, some 30, some 31, none, some 32, some 33, some 34, some 35, none, some 36, some 37, some 38, some 39, some 40, none, some 41, some 42, some 43, none, some 44, some 45, none, some 46, none, none, none])), some (.inr (2, 1)), some (.inr (0, 6)), some (.inr (0, 8)), some (.inr (0, 8)), some (.inr (0, 8)), some (.inr (0, 2880)), some (.inr (0, 2880)), some (.inr (0, 80)), some (.inr (0, 80)), some (.inr (0, 80)), some (.inr (1, 80)), some (.inr (0, 2880)), some (.inr (0, 120)), some (.inr (0, 120)), some (.inr (0, 10)), some (.inr (0, 10)), some (.inr (0, 120)), some (.inr (0, 4)), some (.inr (0, 4)), some (.inr (1, 4)), some (.inr (0, 10)), some (.inr (0, 10)), some (.inr (0, 8)), some (.inr (0, 8)), some (.inr (0, 8)), some (.inr (1, 2880)), some (.inr (0, 2880)), some (.inr (0, 2880)), some (.inr (1, 2880)), some (.inr (0, 10)), some (.inr (0, 10)), some (.inr (1, 120)), some (.inr (0, 120)), some (.inr (0, 2880)), some (.inr (0, 4)), some (.inr (0, 4)), some (.inr (1, 4)), some (.inr (0, 10)), some (.inr (0, 10)), some (.inr (0, 7))]
def qa_NC : Nat := 47
def qa_lay (k : Nat) : Option qa_Ly := qa_lays.getD k none
def qa_fI (c k j : Nat) : Bool := match qa_lay k with
  | some (.inl q) => Nat.beq q.1 c && (match q.2[j]? with
    | some none => true
    | _ => false)
  | _ => false
def qa_fR (c k j : Nat) : Option Nat := match qa_lay k with
  | some (.inl q) => bif Nat.beq q.1 c then (match q.2[j]? with
    | some x => x
    | none => none) else none
  | _ => none
def qa_len (t k : Nat) : Option Nat := match qa_lay k with
  | some (.inr q) => bif Nat.beq q.1 t then some q.2 else none
  | _ => none
theorem cd_0_0 : qa_code 0 0 = some (1, 0, 0, 1, 0) := by decide +kernel
theorem cd_0_1 : qa_code 0 1 = some (1, 1, 0, 2, 0) := by decide +kernel
theorem cd_0_2 : qa_code 0 2 = some (6, 4, 0, 3, 0) := by decide +kernel
theorem cd_0_3 : qa_code 0 3 = some (3, 2, 0, 4, 0) := by decide +kernel
theorem cd_0_4 : qa_code 0 4 = some (1, 0, 0, 5, 0) := by decide +kernel
theorem cd_0_5 : qa_code 0 5 = some (1, 1, 0, 6, 0) := by decide +kernel
theorem cd_0_6 : qa_code 0 6 = some (6, 10, 0, 7, 0) := by decide +kernel
theorem cd_0_7 : qa_code 0 7 = some (16, 3, 21, 10, 0) := by decide +kernel
theorem cd_0_10 : qa_code 0 10 = some (1, 2, 0, 11, 0) := by decide +kernel
theorem cd_0_11 : qa_code 0 11 = some (1, 1, 0, 12, 0) := by decide +kernel
theorem cd_0_12 : qa_code 0 12 = some (6, 3, 0, 13, 0) := by decide +kernel
theorem cd_0_13 : qa_code 0 13 = some (1, 0, 0, 14, 0) := by decide +kernel
theorem cd_0_14 : qa_code 0 14 = some (15, 0, 21, 17, 0) := by decide +kernel
theorem cd_0_17 : qa_code 0 17 = some (1, 2, 0, 18, 0) := by decide +kernel
theorem cd_0_18 : qa_code 0 18 = some (0, 0, 1, 19, 0) := by decide +kernel
theorem cd_0_19 : qa_code 0 19 = some (6, 2, 0, 20, 0) := by decide +kernel
theorem cd_0_20 : qa_code 0 20 = some (19, 0, 0, 20, 0) := by decide +kernel
theorem cd_0_21 : qa_code 0 21 = some (1, 2, 0, 22, 0) := by decide +kernel
theorem cd_0_22 : qa_code 0 22 = some (19, 0, 0, 22, 0) := by decide +kernel
theorem cd_1_0 : qa_code 1 0 = some (1, 0, 0, 1, 0) := by decide +kernel
theorem cd_1_1 : qa_code 1 1 = some (1, 1, 0, 2, 0) := by decide +kernel
theorem cd_1_2 : qa_code 1 2 = some (15, 2, 9, 5, 0) := by decide +kernel
theorem cd_1_5 : qa_code 1 5 = some (1, 0, 0, 6, 0) := by decide +kernel
theorem cd_1_6 : qa_code 1 6 = some (17, 0, 0, 10, 0) := by decide +kernel
theorem cd_1_9 : qa_code 1 9 = some (1, 1, 0, 10, 0) := by decide +kernel
theorem cd_1_10 : qa_code 1 10 = some (19, 0, 0, 10, 0) := by decide +kernel
theorem cd_2_0 : qa_code 2 0 = some (0, 0, 1000, 3, 0) := by decide +kernel
theorem cd_2_3 : qa_code 2 3 = some (1, 0, 0, 4, 0) := by decide +kernel
theorem cd_2_4 : qa_code 2 4 = some (6, 3, 0, 5, 0) := by decide +kernel
theorem cd_2_5 : qa_code 2 5 = some (1, 1, 0, 6, 0) := by decide +kernel
theorem cd_2_6 : qa_code 2 6 = some (6, 0, 0, 7, 0) := by decide +kernel
theorem cd_2_7 : qa_code 2 7 = some (19, 0, 0, 7, 0) := by decide +kernel
theorem cd_3_0 : qa_code 3 0 = some (2, 0, 0, 1, 0) := by decide +kernel
theorem cd_3_1 : qa_code 3 1 = some (12, 2, 4, 4, 25) := by decide +kernel
theorem cd_3_4 : qa_code 3 4 = some (19, 0, 0, 4, 0) := by decide +kernel
theorem cd_4_0 : qa_code 4 0 = some (2, 0, 0, 1, 0) := by decide +kernel
theorem cd_4_1 : qa_code 4 1 = some (13, 2, 0, 4, 9) := by decide +kernel
theorem cd_4_4 : qa_code 4 4 = some (1, 1, 0, 5, 0) := by decide +kernel
theorem cd_4_5 : qa_code 4 5 = some (10, 0, 0, 6, 0) := by decide +kernel
theorem cd_4_6 : qa_code 4 6 = some (19, 0, 0, 6, 0) := by decide +kernel
theorem cd_5_0 : qa_code 5 0 = some (2, 0, 0, 1, 0) := by decide +kernel
theorem cd_5_1 : qa_code 5 1 = some (13, 2, 0, 4, 9) := by decide +kernel
theorem cd_5_4 : qa_code 5 4 = some (1, 1, 0, 5, 0) := by decide +kernel
theorem cd_5_5 : qa_code 5 5 = some (10, 0, 0, 6, 0) := by decide +kernel
theorem cd_5_6 : qa_code 5 6 = some (0, 0, 1000, 9, 0) := by decide +kernel
theorem cd_5_9 : qa_code 5 9 = some (6, 5, 0, 10, 0) := by decide +kernel
theorem cd_5_10 : qa_code 5 10 = some (19, 0, 0, 10, 0) := by decide +kernel
theorem cd_6_0 : qa_code 6 0 = some (2, 0, 0, 1, 0) := by decide +kernel
theorem cd_6_1 : qa_code 6 1 = some (13, 2, 1, 4, 15) := by decide +kernel
theorem cd_6_4 : qa_code 6 4 = some (1, 1, 0, 5, 0) := by decide +kernel
theorem cd_6_5 : qa_code 6 5 = some (10, 0, 0, 6, 0) := by decide +kernel
theorem cd_6_6 : qa_code 6 6 = some (19, 0, 0, 6, 0) := by decide +kernel
theorem cd_7_0 : qa_code 7 0 = some (0, 0, 1, 1, 0) := by decide +kernel
theorem cd_7_1 : qa_code 7 1 = some (2, 0, 0, 2, 0) := by decide +kernel
theorem cd_7_2 : qa_code 7 2 = some (13, 2, 2, 5, 18) := by decide +kernel
theorem cd_7_5 : qa_code 7 5 = some (1, 1, 0, 6, 0) := by decide +kernel
theorem cd_7_6 : qa_code 7 6 = some (10, 0, 0, 7, 0) := by decide +kernel
theorem cd_7_7 : qa_code 7 7 = some (6, 8, 0, 8, 0) := by decide +kernel
theorem cd_7_8 : qa_code 7 8 = some (19, 0, 0, 8, 0) := by decide +kernel
theorem cd_8_0 : qa_code 8 0 = some (2, 0, 0, 1, 0) := by decide +kernel
theorem cd_8_1 : qa_code 8 1 = some (13, 2, 3, 4, 21) := by decide +kernel
theorem cd_8_4 : qa_code 8 4 = some (1, 1, 0, 5, 0) := by decide +kernel
theorem cd_8_5 : qa_code 8 5 = some (10, 1, 0, 6, 0) := by decide +kernel
theorem cd_8_6 : qa_code 8 6 = some (19, 1, 0, 6, 0) := by decide +kernel
theorem cd_9_0 : qa_code 9 0 = some (0, 0, 0, 1, 0) := by decide +kernel
theorem cd_9_1 : qa_code 9 1 = some (3, 2, 0, 2, 0) := by decide +kernel
theorem cd_9_2 : qa_code 9 2 = some (1, 2, 0, 3, 0) := by decide +kernel
theorem cd_9_3 : qa_code 9 3 = some (2, 0, 0, 4, 0) := by decide +kernel
theorem cd_9_4 : qa_code 9 4 = some (12, 2, 4, 7, 25) := by decide +kernel
theorem cd_9_7 : qa_code 9 7 = some (15, 3, 26, 10, 0) := by decide +kernel
theorem cd_9_10 : qa_code 9 10 = some (2, 0, 0, 11, 0) := by decide +kernel
theorem cd_9_11 : qa_code 9 11 = some (13, 2, 0, 14, 9) := by decide +kernel
theorem cd_9_14 : qa_code 9 14 = some (1, 2, 0, 15, 0) := by decide +kernel
theorem cd_9_15 : qa_code 9 15 = some (10, 0, 0, 16, 0) := by decide +kernel
theorem cd_9_16 : qa_code 9 16 = some (1, 1, 0, 17, 0) := by decide +kernel
theorem cd_9_17 : qa_code 9 17 = some (15, 3, 26, 20, 0) := by decide +kernel
theorem cd_9_20 : qa_code 9 20 = some (5, 2, 1, 23, 0) := by decide +kernel
theorem cd_9_23 : qa_code 9 23 = some (17, 0, 0, 2, 0) := by decide +kernel
theorem cd_9_26 : qa_code 9 26 = some (1, 2, 0, 27, 0) := by decide +kernel
theorem cd_9_27 : qa_code 9 27 = some (19, 0, 0, 27, 0) := by decide +kernel
theorem cd_10_0 : qa_code 10 0 = some (2, 0, 0, 1, 0) := by decide +kernel
theorem cd_10_1 : qa_code 10 1 = some (1, 1, 0, 2, 0) := by decide +kernel
theorem cd_10_2 : qa_code 10 2 = some (0, 0, 0, 3, 0) := by decide +kernel
theorem cd_10_3 : qa_code 10 3 = some (18, 2, 2, 6, 29) := by decide +kernel
theorem cd_10_6 : qa_code 10 6 = some (18, 9, 2, 9, 33) := by decide +kernel
theorem cd_10_9 : qa_code 10 9 = some (19, 0, 0, 9, 0) := by decide +kernel
theorem cd_11_0 : qa_code 11 0 = some (2, 0, 0, 1, 0) := by decide +kernel
theorem cd_11_1 : qa_code 11 1 = some (1, 1, 0, 2, 0) := by decide +kernel
theorem cd_11_2 : qa_code 11 2 = some (18, 9, 2, 5, 33) := by decide +kernel
theorem cd_11_5 : qa_code 11 5 = some (3, 2, 0, 6, 0) := by decide +kernel
theorem cd_11_6 : qa_code 11 6 = some (1, 2, 0, 7, 0) := by decide +kernel
theorem cd_11_7 : qa_code 11 7 = some (2, 0, 0, 8, 0) := by decide +kernel
theorem cd_11_8 : qa_code 11 8 = some (12, 2, 4, 11, 25) := by decide +kernel
theorem cd_11_11 : qa_code 11 11 = some (15, 3, 28, 14, 0) := by decide +kernel
theorem cd_11_14 : qa_code 11 14 = some (2, 0, 0, 15, 0) := by decide +kernel
theorem cd_11_15 : qa_code 11 15 = some (13, 2, 0, 18, 9) := by decide +kernel
theorem cd_11_18 : qa_code 11 18 = some (1, 2, 0, 19, 0) := by decide +kernel
theorem cd_11_19 : qa_code 11 19 = some (10, 0, 0, 20, 0) := by decide +kernel
theorem cd_11_20 : qa_code 11 20 = some (1, 1, 0, 21, 0) := by decide +kernel
theorem cd_11_21 : qa_code 11 21 = some (15, 1, 28, 24, 0) := by decide +kernel
theorem cd_11_24 : qa_code 11 24 = some (0, 0, 1, 25, 0) := by decide +kernel
theorem cd_11_25 : qa_code 11 25 = some (17, 0, 0, 29, 0) := by decide +kernel
theorem cd_11_28 : qa_code 11 28 = some (0, 0, 0, 29, 0) := by decide +kernel
theorem cd_11_29 : qa_code 11 29 = some (19, 1, 0, 29, 0) := by decide +kernel
theorem cd_12_0 : qa_code 12 0 = some (2, 0, 0, 1, 0) := by decide +kernel
theorem cd_12_1 : qa_code 12 1 = some (1, 1, 0, 2, 0) := by decide +kernel
theorem cd_12_2 : qa_code 12 2 = some (18, 9, 2, 5, 33) := by decide +kernel
theorem cd_12_5 : qa_code 12 5 = some (3, 5, 0, 7, 0) := by decide +kernel
theorem cd_12_7 : qa_code 12 7 = some (2, 0, 0, 8, 0) := by decide +kernel
theorem cd_12_8 : qa_code 12 8 = some (1, 1, 0, 9, 0) := by decide +kernel
theorem cd_12_9 : qa_code 12 9 = some (18, 11, 2, 12, 37) := by decide +kernel
theorem cd_12_12 : qa_code 12 12 = some (16, 1, 21, 15, 0) := by decide +kernel
theorem cd_12_15 : qa_code 12 15 = some (2, 0, 0, 16, 0) := by decide +kernel
theorem cd_12_16 : qa_code 12 16 = some (1, 5, 0, 18, 0) := by decide +kernel
theorem cd_12_18 : qa_code 12 18 = some (18, 14, 2, 21, 41) := by decide +kernel
theorem cd_12_21 : qa_code 12 21 = some (2, 0, 0, 22, 0) := by decide +kernel
theorem cd_12_22 : qa_code 12 22 = some (13, 2, 0, 25, 9) := by decide +kernel
theorem cd_12_25 : qa_code 12 25 = some (1, 5, 0, 27, 0) := by decide +kernel
theorem cd_12_27 : qa_code 12 27 = some (1, 1, 0, 28, 0) := by decide +kernel
theorem cd_12_28 : qa_code 12 28 = some (11, 0, 0, 29, 0) := by decide +kernel
theorem cd_12_29 : qa_code 12 29 = some (2, 0, 0, 30, 0) := by decide +kernel
theorem cd_12_30 : qa_code 12 30 = some (13, 2, 1, 33, 15) := by decide +kernel
theorem cd_12_33 : qa_code 12 33 = some (1, 5, 0, 35, 0) := by decide +kernel
theorem cd_12_35 : qa_code 12 35 = some (1, 2, 0, 36, 0) := by decide +kernel
theorem cd_12_36 : qa_code 12 36 = some (11, 0, 0, 37, 0) := by decide +kernel
theorem cd_12_37 : qa_code 12 37 = some (2, 0, 0, 38, 0) := by decide +kernel
theorem cd_12_38 : qa_code 12 38 = some (13, 2, 2, 41, 18) := by decide +kernel
theorem cd_12_41 : qa_code 12 41 = some (1, 5, 0, 43, 0) := by decide +kernel
theorem cd_12_43 : qa_code 12 43 = some (1, 3, 0, 44, 0) := by decide +kernel
theorem cd_12_44 : qa_code 12 44 = some (11, 0, 0, 45, 0) := by decide +kernel
theorem cd_12_45 : qa_code 12 45 = some (2, 0, 0, 46, 0) := by decide +kernel
theorem cd_12_46 : qa_code 12 46 = some (13, 2, 3, 49, 21) := by decide +kernel
theorem cd_12_49 : qa_code 12 49 = some (1, 5, 0, 51, 0) := by decide +kernel
theorem cd_12_51 : qa_code 12 51 = some (1, 4, 0, 53, 0) := by decide +kernel
theorem cd_12_53 : qa_code 12 53 = some (11, 1, 0, 54, 0) := by decide +kernel
theorem cd_12_54 : qa_code 12 54 = some (20, 0, 0, 54, 0) := by decide +kernel
theorem cd_13_0 : qa_code 13 0 = some (2, 0, 0, 1, 0) := by decide +kernel
theorem cd_13_1 : qa_code 13 1 = some (1, 1, 0, 2, 0) := by decide +kernel
theorem cd_13_2 : qa_code 13 2 = some (18, 11, 2, 5, 37) := by decide +kernel
theorem cd_13_5 : qa_code 13 5 = some (16, 0, 17, 8, 0) := by decide +kernel
theorem cd_13_8 : qa_code 13 8 = some (2, 0, 0, 9, 0) := by decide +kernel
theorem cd_13_9 : qa_code 13 9 = some (2, 0, 0, 10, 0) := by decide +kernel
theorem cd_13_10 : qa_code 13 10 = some (1, 1, 0, 11, 0) := by decide +kernel
theorem cd_13_11 : qa_code 13 11 = some (18, 9, 2, 14, 33) := by decide +kernel
theorem cd_13_14 : qa_code 13 14 = some (18, 15, 2, 17, 45) := by decide +kernel
theorem cd_13_17 : qa_code 13 17 = some (20, 0, 0, 17, 0) := by decide +kernel
theorem cd_14_0 : qa_code 14 0 = some (2, 0, 0, 1, 0) := by decide +kernel
theorem cd_14_1 : qa_code 14 1 = some (12, 2, 4, 4, 25) := by decide +kernel
theorem cd_14_4 : qa_code 14 4 = some (3, 2, 0, 5, 0) := by decide +kernel
theorem cd_14_5 : qa_code 14 5 = some (1, 2, 0, 6, 0) := by decide +kernel
theorem cd_14_6 : qa_code 14 6 = some (1, 1, 0, 7, 0) := by decide +kernel
theorem cd_14_7 : qa_code 14 7 = some (15, 5, 24, 10, 0) := by decide +kernel
theorem cd_14_10 : qa_code 14 10 = some (2, 0, 0, 11, 0) := by decide +kernel
theorem cd_14_11 : qa_code 14 11 = some (1, 2, 0, 12, 0) := by decide +kernel
theorem cd_14_12 : qa_code 14 12 = some (0, 0, 1, 13, 0) := by decide +kernel
theorem cd_14_13 : qa_code 14 13 = some (6, 2, 0, 14, 0) := by decide +kernel
theorem cd_14_14 : qa_code 14 14 = some (1, 2, 0, 15, 0) := by decide +kernel
theorem cd_14_15 : qa_code 14 15 = some (18, 16, 3, 18, 48) := by decide +kernel
theorem cd_14_18 : qa_code 14 18 = some (5, 2, -1, 21, 0) := by decide +kernel
theorem cd_14_21 : qa_code 14 21 = some (17, 0, 0, 5, 0) := by decide +kernel
theorem cd_14_24 : qa_code 14 24 = some (2, 0, 0, 25, 0) := by decide +kernel
theorem cd_14_25 : qa_code 14 25 = some (8, 0, 0, 26, 0) := by decide +kernel
theorem cd_14_26 : qa_code 14 26 = some (12, 2, 4, 29, 25) := by decide +kernel
theorem cd_14_29 : qa_code 14 29 = some (0, 0, 1, 30, 0) := by decide +kernel
theorem cd_14_30 : qa_code 14 30 = some (6, 0, 0, 31, 0) := by decide +kernel
theorem cd_14_31 : qa_code 14 31 = some (14, 2, 4, 34, 25) := by decide +kernel
theorem cd_14_34 : qa_code 14 34 = some (20, 0, 0, 34, 0) := by decide +kernel
theorem cd_15_0 : qa_code 15 0 = some (2, 0, 0, 1, 0) := by decide +kernel
theorem cd_15_1 : qa_code 15 1 = some (8, 0, 0, 2, 0) := by decide +kernel
theorem cd_15_2 : qa_code 15 2 = some (12, 2, 4, 5, 25) := by decide +kernel
theorem cd_15_5 : qa_code 15 5 = some (0, 0, 1, 6, 0) := by decide +kernel
theorem cd_15_6 : qa_code 15 6 = some (6, 2, 0, 7, 0) := by decide +kernel
theorem cd_15_7 : qa_code 15 7 = some (14, 2, 4, 10, 25) := by decide +kernel
theorem cd_15_10 : qa_code 15 10 = some (1, 1, 0, 11, 0) := by decide +kernel
theorem cd_15_11 : qa_code 15 11 = some (3, 2, 0, 12, 0) := by decide +kernel
theorem cd_15_12 : qa_code 15 12 = some (1, 2, 0, 13, 0) := by decide +kernel
theorem cd_15_13 : qa_code 15 13 = some (2, 0, 0, 14, 0) := by decide +kernel
theorem cd_15_14 : qa_code 15 14 = some (12, 2, 4, 17, 25) := by decide +kernel
theorem cd_15_17 : qa_code 15 17 = some (15, 3, 34, 20, 0) := by decide +kernel
theorem cd_15_20 : qa_code 15 20 = some (2, 0, 0, 21, 0) := by decide +kernel
theorem cd_15_21 : qa_code 15 21 = some (1, 2, 0, 22, 0) := by decide +kernel
theorem cd_15_22 : qa_code 15 22 = some (0, 0, 1, 23, 0) := by decide +kernel
theorem cd_15_23 : qa_code 15 23 = some (6, 0, 0, 24, 0) := by decide +kernel
theorem cd_15_24 : qa_code 15 24 = some (1, 2, 0, 25, 0) := by decide +kernel
theorem cd_15_25 : qa_code 15 25 = some (18, 16, 3, 28, 48) := by decide +kernel
theorem cd_15_28 : qa_code 15 28 = some (5, 2, 1, 31, 0) := by decide +kernel
theorem cd_15_31 : qa_code 15 31 = some (17, 0, 0, 12, 0) := by decide +kernel
theorem cd_15_34 : qa_code 15 34 = some (20, 0, 0, 34, 0) := by decide +kernel
theorem cd_16_0 : qa_code 16 0 = some (2, 0, 0, 1, 0) := by decide +kernel
theorem cd_16_1 : qa_code 16 1 = some (13, 2, 0, 4, 9) := by decide +kernel
theorem cd_16_4 : qa_code 16 4 = some (1, 2, 0, 5, 0) := by decide +kernel
theorem cd_16_5 : qa_code 16 5 = some (2, 0, 0, 6, 0) := by decide +kernel
theorem cd_16_6 : qa_code 16 6 = some (13, 2, 0, 9, 9) := by decide +kernel
theorem cd_16_9 : qa_code 16 9 = some (1, 1, 0, 10, 0) := by decide +kernel
theorem cd_16_10 : qa_code 16 10 = some (10, 0, 0, 11, 0) := by decide +kernel
theorem cd_16_11 : qa_code 16 11 = some (11, 0, 0, 12, 0) := by decide +kernel
theorem cd_16_12 : qa_code 16 12 = some (2, 0, 0, 13, 0) := by decide +kernel
theorem cd_16_13 : qa_code 16 13 = some (13, 2, 1, 16, 15) := by decide +kernel
theorem cd_16_16 : qa_code 16 16 = some (1, 2, 0, 17, 0) := by decide +kernel
theorem cd_16_17 : qa_code 16 17 = some (2, 0, 0, 18, 0) := by decide +kernel
theorem cd_16_18 : qa_code 16 18 = some (13, 2, 1, 21, 15) := by decide +kernel
theorem cd_16_21 : qa_code 16 21 = some (1, 1, 0, 22, 0) := by decide +kernel
theorem cd_16_22 : qa_code 16 22 = some (10, 0, 0, 23, 0) := by decide +kernel
theorem cd_16_23 : qa_code 16 23 = some (11, 0, 0, 24, 0) := by decide +kernel
theorem cd_16_24 : qa_code 16 24 = some (2, 0, 0, 25, 0) := by decide +kernel
theorem cd_16_25 : qa_code 16 25 = some (13, 2, 2, 28, 18) := by decide +kernel
theorem cd_16_28 : qa_code 16 28 = some (1, 2, 0, 29, 0) := by decide +kernel
theorem cd_16_29 : qa_code 16 29 = some (2, 0, 0, 30, 0) := by decide +kernel
theorem cd_16_30 : qa_code 16 30 = some (13, 2, 2, 33, 18) := by decide +kernel
theorem cd_16_33 : qa_code 16 33 = some (1, 1, 0, 34, 0) := by decide +kernel
theorem cd_16_34 : qa_code 16 34 = some (10, 0, 0, 35, 0) := by decide +kernel
theorem cd_16_35 : qa_code 16 35 = some (11, 0, 0, 36, 0) := by decide +kernel
theorem cd_16_36 : qa_code 16 36 = some (2, 0, 0, 37, 0) := by decide +kernel
theorem cd_16_37 : qa_code 16 37 = some (13, 2, 3, 40, 21) := by decide +kernel
theorem cd_16_40 : qa_code 16 40 = some (1, 2, 0, 41, 0) := by decide +kernel
theorem cd_16_41 : qa_code 16 41 = some (2, 0, 0, 42, 0) := by decide +kernel
theorem cd_16_42 : qa_code 16 42 = some (13, 2, 3, 45, 21) := by decide +kernel
theorem cd_16_45 : qa_code 16 45 = some (1, 1, 0, 46, 0) := by decide +kernel
theorem cd_16_46 : qa_code 16 46 = some (10, 1, 0, 47, 0) := by decide +kernel
theorem cd_16_47 : qa_code 16 47 = some (11, 1, 0, 48, 0) := by decide +kernel
theorem cd_16_48 : qa_code 16 48 = some (20, 0, 0, 48, 0) := by decide +kernel
theorem cd_17_0 : qa_code 17 0 = some (2, 0, 0, 1, 0) := by decide +kernel
theorem cd_17_1 : qa_code 17 1 = some (12, 1, 3, 4, 21) := by decide +kernel
theorem cd_17_4 : qa_code 17 4 = some (19, 0, 0, 4, 0) := by decide +kernel
theorem cd_18_0 : qa_code 18 0 = some (2, 0, 0, 1, 0) := by decide +kernel
theorem cd_18_1 : qa_code 18 1 = some (12, 1, 4, 4, 25) := by decide +kernel
theorem cd_18_4 : qa_code 18 4 = some (19, 0, 0, 4, 0) := by decide +kernel
theorem cd_19_0 : qa_code 19 0 = some (2, 0, 0, 1, 0) := by decide +kernel
theorem cd_19_1 : qa_code 19 1 = some (13, 1, 2, 4, 18) := by decide +kernel
theorem cd_19_4 : qa_code 19 4 = some (1, 1, 0, 5, 0) := by decide +kernel
theorem cd_19_5 : qa_code 19 5 = some (10, 0, 0, 6, 0) := by decide +kernel
theorem cd_19_6 : qa_code 19 6 = some (19, 0, 0, 6, 0) := by decide +kernel
theorem cd_20_0 : qa_code 20 0 = some (2, 0, 0, 1, 0) := by decide +kernel
theorem cd_20_1 : qa_code 20 1 = some (13, 1, 2, 4, 18) := by decide +kernel
theorem cd_20_4 : qa_code 20 4 = some (1, 1, 0, 5, 0) := by decide +kernel
theorem cd_20_5 : qa_code 20 5 = some (10, 0, 0, 6, 0) := by decide +kernel
theorem cd_20_6 : qa_code 20 6 = some (16, 5, 13, 9, 0) := by decide +kernel
theorem cd_20_9 : qa_code 20 9 = some (0, 0, 1, 10, 0) := by decide +kernel
theorem cd_20_10 : qa_code 20 10 = some (17, 0, 0, 14, 0) := by decide +kernel
theorem cd_20_13 : qa_code 20 13 = some (0, 0, 0, 14, 0) := by decide +kernel
theorem cd_20_14 : qa_code 20 14 = some (19, 1, 0, 14, 0) := by decide +kernel
theorem cd_21_0 : qa_code 21 0 = some (2, 0, 0, 1, 0) := by decide +kernel
theorem cd_21_1 : qa_code 21 1 = some (12, 1, 3, 4, 21) := by decide +kernel
theorem cd_21_4 : qa_code 21 4 = some (3, 4, 0, 6, 0) := by decide +kernel
theorem cd_21_6 : qa_code 21 6 = some (1, 4, 0, 8, 0) := by decide +kernel
theorem cd_21_8 : qa_code 21 8 = some (1, 1, 0, 9, 0) := by decide +kernel
theorem cd_21_9 : qa_code 21 9 = some (15, 5, 50, 12, 0) := by decide +kernel
theorem cd_21_12 : qa_code 21 12 = some (2, 0, 0, 13, 0) := by decide +kernel
theorem cd_21_13 : qa_code 21 13 = some (13, 1, 0, 16, 9) := by decide +kernel
theorem cd_21_16 : qa_code 21 16 = some (1, 4, 0, 18, 0) := by decide +kernel
theorem cd_21_18 : qa_code 21 18 = some (2, 0, 0, 19, 0) := by decide +kernel
theorem cd_21_19 : qa_code 21 19 = some (13, 1, 0, 22, 9) := by decide +kernel
theorem cd_21_22 : qa_code 21 22 = some (1, 4, 0, 24, 0) := by decide +kernel
theorem cd_21_24 : qa_code 21 24 = some (0, 0, 1, 25, 0) := by decide +kernel
theorem cd_21_25 : qa_code 21 25 = some (6, 2, 0, 26, 0) := by decide +kernel
theorem cd_21_26 : qa_code 21 26 = some (10, 0, 0, 27, 0) := by decide +kernel
theorem cd_21_27 : qa_code 21 27 = some (11, 0, 0, 28, 0) := by decide +kernel
theorem cd_21_28 : qa_code 21 28 = some (2, 0, 0, 29, 0) := by decide +kernel
theorem cd_21_29 : qa_code 21 29 = some (13, 1, 1, 32, 15) := by decide +kernel
theorem cd_21_32 : qa_code 21 32 = some (1, 4, 0, 34, 0) := by decide +kernel
theorem cd_21_34 : qa_code 21 34 = some (2, 0, 0, 35, 0) := by decide +kernel
theorem cd_21_35 : qa_code 21 35 = some (13, 1, 1, 38, 15) := by decide +kernel
theorem cd_21_38 : qa_code 21 38 = some (1, 4, 0, 40, 0) := by decide +kernel
theorem cd_21_40 : qa_code 21 40 = some (0, 0, 1, 41, 0) := by decide +kernel
theorem cd_21_41 : qa_code 21 41 = some (6, 2, 0, 42, 0) := by decide +kernel
theorem cd_21_42 : qa_code 21 42 = some (10, 0, 0, 43, 0) := by decide +kernel
theorem cd_21_43 : qa_code 21 43 = some (11, 0, 0, 44, 0) := by decide +kernel
theorem cd_21_44 : qa_code 21 44 = some (5, 4, -1, 47, 0) := by decide +kernel
theorem cd_21_47 : qa_code 21 47 = some (17, 0, 0, 6, 0) := by decide +kernel
theorem cd_21_50 : qa_code 21 50 = some (2, 0, 0, 51, 0) := by decide +kernel
theorem cd_21_51 : qa_code 21 51 = some (13, 1, 0, 54, 9) := by decide +kernel
theorem cd_21_54 : qa_code 21 54 = some (1, 1, 0, 55, 0) := by decide +kernel
theorem cd_21_55 : qa_code 21 55 = some (1, 2, 0, 56, 0) := by decide +kernel
theorem cd_21_56 : qa_code 21 56 = some (11, 0, 0, 57, 0) := by decide +kernel
theorem cd_21_57 : qa_code 21 57 = some (2, 0, 0, 58, 0) := by decide +kernel
theorem cd_21_58 : qa_code 21 58 = some (13, 1, 1, 61, 15) := by decide +kernel
theorem cd_21_61 : qa_code 21 61 = some (1, 1, 0, 62, 0) := by decide +kernel
theorem cd_21_62 : qa_code 21 62 = some (1, 3, 0, 63, 0) := by decide +kernel
theorem cd_21_63 : qa_code 21 63 = some (11, 0, 0, 64, 0) := by decide +kernel
theorem cd_21_64 : qa_code 21 64 = some (2, 0, 0, 65, 0) := by decide +kernel
theorem cd_21_65 : qa_code 21 65 = some (8, 0, 0, 66, 0) := by decide +kernel
theorem cd_21_66 : qa_code 21 66 = some (12, 1, 3, 69, 21) := by decide +kernel
theorem cd_21_69 : qa_code 21 69 = some (0, 0, 1, 70, 0) := by decide +kernel
theorem cd_21_70 : qa_code 21 70 = some (6, 0, 0, 71, 0) := by decide +kernel
theorem cd_21_71 : qa_code 21 71 = some (14, 1, 3, 74, 21) := by decide +kernel
theorem cd_21_74 : qa_code 21 74 = some (2, 0, 0, 75, 0) := by decide +kernel
theorem cd_21_75 : qa_code 21 75 = some (1, 2, 0, 76, 0) := by decide +kernel
theorem cd_21_76 : qa_code 21 76 = some (1, 3, 0, 77, 0) := by decide +kernel
theorem cd_21_77 : qa_code 21 77 = some (0, 0, 1, 78, 0) := by decide +kernel
theorem cd_21_78 : qa_code 21 78 = some (18, 24, 4, 81, 28) := by decide +kernel
theorem cd_21_81 : qa_code 21 81 = some (20, 0, 0, 81, 0) := by decide +kernel
theorem cd_22_0 : qa_code 22 0 = some (2, 0, 0, 1, 0) := by decide +kernel
theorem cd_22_1 : qa_code 22 1 = some (2, 0, 0, 2, 0) := by decide +kernel
theorem cd_22_2 : qa_code 22 2 = some (13, 1, 0, 5, 9) := by decide +kernel
theorem cd_22_5 : qa_code 22 5 = some (1, 1, 0, 6, 0) := by decide +kernel
theorem cd_22_6 : qa_code 22 6 = some (10, 0, 0, 7, 0) := by decide +kernel
theorem cd_22_7 : qa_code 22 7 = some (2, 0, 0, 8, 0) := by decide +kernel
theorem cd_22_8 : qa_code 22 8 = some (13, 1, 1, 11, 15) := by decide +kernel
theorem cd_22_11 : qa_code 22 11 = some (1, 1, 0, 12, 0) := by decide +kernel
theorem cd_22_12 : qa_code 22 12 = some (10, 0, 0, 13, 0) := by decide +kernel
theorem cd_22_13 : qa_code 22 13 = some (0, 0, -1, 14, 0) := by decide +kernel
theorem cd_22_14 : qa_code 22 14 = some (18, 24, 4, 17, 28) := by decide +kernel
theorem cd_22_17 : qa_code 22 17 = some (2, 0, 0, 18, 0) := by decide +kernel
theorem cd_22_18 : qa_code 22 18 = some (8, 0, 0, 19, 0) := by decide +kernel
theorem cd_22_19 : qa_code 22 19 = some (12, 1, 3, 22, 21) := by decide +kernel
theorem cd_22_22 : qa_code 22 22 = some (0, 0, 1, 23, 0) := by decide +kernel
theorem cd_22_23 : qa_code 22 23 = some (6, 2, 0, 24, 0) := by decide +kernel
theorem cd_22_24 : qa_code 22 24 = some (14, 1, 3, 27, 21) := by decide +kernel
theorem cd_22_27 : qa_code 22 27 = some (1, 1, 0, 28, 0) := by decide +kernel
theorem cd_22_28 : qa_code 22 28 = some (3, 2, 0, 29, 0) := by decide +kernel
theorem cd_22_29 : qa_code 22 29 = some (1, 2, 0, 30, 0) := by decide +kernel
theorem cd_22_30 : qa_code 22 30 = some (2, 0, 0, 31, 0) := by decide +kernel
theorem cd_22_31 : qa_code 22 31 = some (12, 1, 3, 34, 21) := by decide +kernel
theorem cd_22_34 : qa_code 22 34 = some (15, 3, 71, 37, 0) := by decide +kernel
theorem cd_22_37 : qa_code 22 37 = some (2, 0, 0, 38, 0) := by decide +kernel
theorem cd_22_38 : qa_code 22 38 = some (13, 1, 0, 41, 9) := by decide +kernel
theorem cd_22_41 : qa_code 22 41 = some (1, 2, 0, 42, 0) := by decide +kernel
theorem cd_22_42 : qa_code 22 42 = some (2, 0, 0, 43, 0) := by decide +kernel
theorem cd_22_43 : qa_code 22 43 = some (13, 1, 0, 46, 9) := by decide +kernel
theorem cd_22_46 : qa_code 22 46 = some (1, 2, 0, 47, 0) := by decide +kernel
theorem cd_22_47 : qa_code 22 47 = some (0, 0, 1, 48, 0) := by decide +kernel
theorem cd_22_48 : qa_code 22 48 = some (6, 0, 0, 49, 0) := by decide +kernel
theorem cd_22_49 : qa_code 22 49 = some (10, 0, 0, 50, 0) := by decide +kernel
theorem cd_22_50 : qa_code 22 50 = some (11, 0, 0, 51, 0) := by decide +kernel
theorem cd_22_51 : qa_code 22 51 = some (2, 0, 0, 52, 0) := by decide +kernel
theorem cd_22_52 : qa_code 22 52 = some (13, 1, 1, 55, 15) := by decide +kernel
theorem cd_22_55 : qa_code 22 55 = some (1, 2, 0, 56, 0) := by decide +kernel
theorem cd_22_56 : qa_code 22 56 = some (2, 0, 0, 57, 0) := by decide +kernel
theorem cd_22_57 : qa_code 22 57 = some (13, 1, 1, 60, 15) := by decide +kernel
theorem cd_22_60 : qa_code 22 60 = some (1, 2, 0, 61, 0) := by decide +kernel
theorem cd_22_61 : qa_code 22 61 = some (0, 0, 1, 62, 0) := by decide +kernel
theorem cd_22_62 : qa_code 22 62 = some (6, 0, 0, 63, 0) := by decide +kernel
theorem cd_22_63 : qa_code 22 63 = some (10, 0, 0, 64, 0) := by decide +kernel
theorem cd_22_64 : qa_code 22 64 = some (11, 0, 0, 65, 0) := by decide +kernel
theorem cd_22_65 : qa_code 22 65 = some (5, 2, 1, 68, 0) := by decide +kernel
theorem cd_22_68 : qa_code 22 68 = some (17, 0, 0, 29, 0) := by decide +kernel
theorem cd_22_71 : qa_code 22 71 = some (20, 0, 0, 71, 0) := by decide +kernel
theorem cd_23_0 : qa_code 23 0 = some (1, 1, 0, 1, 0) := by decide +kernel
theorem cd_23_1 : qa_code 23 1 = some (3, 2, 0, 2, 0) := by decide +kernel
theorem cd_23_2 : qa_code 23 2 = some (0, 0, 0, 3, 0) := by decide +kernel
theorem cd_23_3 : qa_code 23 3 = some (3, 3, 0, 4, 0) := by decide +kernel
theorem cd_23_4 : qa_code 23 4 = some (1, 3, 0, 5, 0) := by decide +kernel
theorem cd_23_5 : qa_code 23 5 = some (2, 0, 0, 6, 0) := by decide +kernel
theorem cd_23_6 : qa_code 23 6 = some (12, 1, 3, 9, 21) := by decide +kernel
theorem cd_23_9 : qa_code 23 9 = some (15, 3, 55, 12, 0) := by decide +kernel
theorem cd_23_12 : qa_code 23 12 = some (2, 0, 0, 13, 0) := by decide +kernel
theorem cd_23_13 : qa_code 23 13 = some (13, 1, 1, 16, 15) := by decide +kernel
theorem cd_23_16 : qa_code 23 16 = some (1, 3, 0, 17, 0) := by decide +kernel
theorem cd_23_17 : qa_code 23 17 = some (10, 0, 0, 18, 0) := by decide +kernel
theorem cd_23_18 : qa_code 23 18 = some (2, 0, 0, 19, 0) := by decide +kernel
theorem cd_23_19 : qa_code 23 19 = some (13, 1, 0, 22, 9) := by decide +kernel
theorem cd_23_22 : qa_code 23 22 = some (1, 3, 0, 23, 0) := by decide +kernel
theorem cd_23_23 : qa_code 23 23 = some (10, 0, 0, 24, 0) := by decide +kernel
theorem cd_23_24 : qa_code 23 24 = some (6, 2, 0, 25, 0) := by decide +kernel
theorem cd_23_25 : qa_code 23 25 = some (0, 0, 1, 26, 0) := by decide +kernel
theorem cd_23_26 : qa_code 23 26 = some (6, 0, 0, 27, 0) := by decide +kernel
theorem cd_23_27 : qa_code 23 27 = some (3, 4, 0, 29, 0) := by decide +kernel
theorem cd_23_29 : qa_code 23 29 = some (1, 2, 0, 30, 0) := by decide +kernel
theorem cd_23_30 : qa_code 23 30 = some (1, 4, 0, 32, 0) := by decide +kernel
theorem cd_23_32 : qa_code 23 32 = some (15, 3, 44, 35, 0) := by decide +kernel
theorem cd_23_35 : qa_code 23 35 = some (2, 0, 0, 36, 0) := by decide +kernel
theorem cd_23_36 : qa_code 23 36 = some (13, 1, 0, 39, 9) := by decide +kernel
theorem cd_23_39 : qa_code 23 39 = some (1, 3, 0, 40, 0) := by decide +kernel
theorem cd_23_40 : qa_code 23 40 = some (10, 0, 0, 41, 0) := by decide +kernel
theorem cd_23_41 : qa_code 23 41 = some (1, 2, 0, 42, 0) := by decide +kernel
theorem cd_23_42 : qa_code 23 42 = some (6, 0, 0, 43, 0) := by decide +kernel
theorem cd_23_43 : qa_code 23 43 = some (19, 0, 0, 43, 0) := by decide +kernel
theorem cd_23_44 : qa_code 23 44 = some (1, 2, 0, 45, 0) := by decide +kernel
theorem cd_23_45 : qa_code 23 45 = some (1, 4, 0, 47, 0) := by decide +kernel
theorem cd_23_47 : qa_code 23 47 = some (6, 2, 0, 48, 0) := by decide +kernel
theorem cd_23_48 : qa_code 23 48 = some (3, 2, 0, 49, 0) := by decide +kernel
theorem cd_23_49 : qa_code 23 49 = some (5, 3, 1, 52, 0) := by decide +kernel
theorem cd_23_52 : qa_code 23 52 = some (17, 0, 0, 4, 0) := by decide +kernel
theorem cd_23_55 : qa_code 23 55 = some (0, 0, 0, 56, 0) := by decide +kernel
theorem cd_23_56 : qa_code 23 56 = some (19, 0, 0, 56, 0) := by decide +kernel
theorem cd_24_0 : qa_code 24 0 = some (1, 1, 0, 1, 0) := by decide +kernel
theorem cd_24_1 : qa_code 24 1 = some (3, 4, 0, 3, 0) := by decide +kernel
theorem cd_24_3 : qa_code 24 3 = some (1, 4, 0, 5, 0) := by decide +kernel
theorem cd_24_5 : qa_code 24 5 = some (1, 2, 0, 6, 0) := by decide +kernel
theorem cd_24_6 : qa_code 24 6 = some (15, 4, 36, 9, 0) := by decide +kernel
theorem cd_24_9 : qa_code 24 9 = some (2, 0, 0, 10, 0) := by decide +kernel
theorem cd_24_10 : qa_code 24 10 = some (13, 1, 2, 13, 18) := by decide +kernel
theorem cd_24_13 : qa_code 24 13 = some (1, 4, 0, 15, 0) := by decide +kernel
theorem cd_24_15 : qa_code 24 15 = some (9, 0, 0, 16, 0) := by decide +kernel
theorem cd_24_16 : qa_code 24 16 = some (10, 0, 0, 17, 0) := by decide +kernel
theorem cd_24_17 : qa_code 24 17 = some (1, 3, 0, 18, 0) := by decide +kernel
theorem cd_24_18 : qa_code 24 18 = some (6, 0, 0, 19, 0) := by decide +kernel
theorem cd_24_19 : qa_code 24 19 = some (11, 0, 0, 20, 0) := by decide +kernel
theorem cd_24_20 : qa_code 24 20 = some (2, 0, 0, 21, 0) := by decide +kernel
theorem cd_24_21 : qa_code 24 21 = some (8, 0, 0, 22, 0) := by decide +kernel
theorem cd_24_22 : qa_code 24 22 = some (12, 1, 4, 25, 25) := by decide +kernel
theorem cd_24_25 : qa_code 24 25 = some (1, 3, 0, 26, 0) := by decide +kernel
theorem cd_24_26 : qa_code 24 26 = some (6, 0, 0, 27, 0) := by decide +kernel
theorem cd_24_27 : qa_code 24 27 = some (14, 1, 4, 30, 25) := by decide +kernel
theorem cd_24_30 : qa_code 24 30 = some (5, 4, 1, 33, 0) := by decide +kernel
theorem cd_24_33 : qa_code 24 33 = some (17, 0, 0, 3, 0) := by decide +kernel
theorem cd_24_36 : qa_code 24 36 = some (20, 0, 0, 36, 0) := by decide +kernel
theorem cd_25_0 : qa_code 25 0 = some (2, 0, 0, 1, 0) := by decide +kernel
theorem cd_25_1 : qa_code 25 1 = some (12, 0, 3, 4, 22) := by decide +kernel
theorem cd_25_4 : qa_code 25 4 = some (19, 0, 0, 4, 0) := by decide +kernel
theorem cd_26_0 : qa_code 26 0 = some (2, 0, 0, 1, 0) := by decide +kernel
theorem cd_26_1 : qa_code 26 1 = some (12, 0, 6, 4, 32) := by decide +kernel
theorem cd_26_4 : qa_code 26 4 = some (19, 0, 0, 4, 0) := by decide +kernel
theorem cd_27_0 : qa_code 27 0 = some (2, 0, 0, 1, 0) := by decide +kernel
theorem cd_27_1 : qa_code 27 1 = some (12, 0, 7, 4, 35) := by decide +kernel
theorem cd_27_4 : qa_code 27 4 = some (19, 0, 0, 4, 0) := by decide +kernel
theorem cd_28_0 : qa_code 28 0 = some (0, 0, 10, 2, 0) := by decide +kernel
theorem cd_28_2 : qa_code 28 2 = some (2, 0, 0, 3, 0) := by decide +kernel
theorem cd_28_3 : qa_code 28 3 = some (13, 0, 1, 6, 15) := by decide +kernel
theorem cd_28_6 : qa_code 28 6 = some (1, 1, 0, 7, 0) := by decide +kernel
theorem cd_28_7 : qa_code 28 7 = some (10, 0, 0, 8, 0) := by decide +kernel
theorem cd_28_8 : qa_code 28 8 = some (6, 3, 0, 9, 0) := by decide +kernel
theorem cd_28_9 : qa_code 28 9 = some (2, 0, 0, 10, 0) := by decide +kernel
theorem cd_28_10 : qa_code 28 10 = some (13, 0, 2, 13, 18) := by decide +kernel
theorem cd_28_13 : qa_code 28 13 = some (1, 1, 0, 14, 0) := by decide +kernel
theorem cd_28_14 : qa_code 28 14 = some (10, 1, 0, 15, 0) := by decide +kernel
theorem cd_28_15 : qa_code 28 15 = some (16, 0, 22, 18, 0) := by decide +kernel
theorem cd_28_18 : qa_code 28 18 = some (0, 0, 1, 19, 0) := by decide +kernel
theorem cd_28_19 : qa_code 28 19 = some (17, 0, 0, 23, 0) := by decide +kernel
theorem cd_28_22 : qa_code 28 22 = some (0, 0, 0, 23, 0) := by decide +kernel
theorem cd_28_23 : qa_code 28 23 = some (6, 0, 0, 24, 0) := by decide +kernel
theorem cd_28_24 : qa_code 28 24 = some (19, 0, 0, 24, 0) := by decide +kernel
theorem cd_29_0 : qa_code 29 0 = some (2, 0, 0, 1, 0) := by decide +kernel
theorem cd_29_1 : qa_code 29 1 = some (12, 0, 3, 4, 22) := by decide +kernel
theorem cd_29_4 : qa_code 29 4 = some (3, 2, 0, 5, 0) := by decide +kernel
theorem cd_29_5 : qa_code 29 5 = some (2, 0, 0, 6, 0) := by decide +kernel
theorem cd_29_6 : qa_code 29 6 = some (13, 0, 0, 9, 9) := by decide +kernel
theorem cd_29_9 : qa_code 29 9 = some (1, 2, 0, 10, 0) := by decide +kernel
theorem cd_29_10 : qa_code 29 10 = some (1, 1, 0, 11, 0) := by decide +kernel
theorem cd_29_11 : qa_code 29 11 = some (11, 0, 0, 12, 0) := by decide +kernel
theorem cd_29_12 : qa_code 29 12 = some (2, 0, 0, 13, 0) := by decide +kernel
theorem cd_29_13 : qa_code 29 13 = some (8, 0, 0, 14, 0) := by decide +kernel
theorem cd_29_14 : qa_code 29 14 = some (12, 0, 3, 17, 22) := by decide +kernel
theorem cd_29_17 : qa_code 29 17 = some (0, 0, 1, 18, 0) := by decide +kernel
theorem cd_29_18 : qa_code 29 18 = some (6, 0, 0, 19, 0) := by decide +kernel
theorem cd_29_19 : qa_code 29 19 = some (14, 0, 3, 22, 22) := by decide +kernel
theorem cd_29_22 : qa_code 29 22 = some (1, 2, 0, 23, 0) := by decide +kernel
theorem cd_29_23 : qa_code 29 23 = some (19, 0, 0, 23, 0) := by decide +kernel
theorem cd_30_0 : qa_code 30 0 = some (2, 0, 0, 1, 0) := by decide +kernel
theorem cd_30_1 : qa_code 30 1 = some (12, 0, 6, 4, 32) := by decide +kernel
theorem cd_30_4 : qa_code 30 4 = some (3, 3, 0, 5, 0) := by decide +kernel
theorem cd_30_5 : qa_code 30 5 = some (2, 0, 0, 6, 0) := by decide +kernel
theorem cd_30_6 : qa_code 30 6 = some (13, 0, 4, 9, 26) := by decide +kernel
theorem cd_30_9 : qa_code 30 9 = some (1, 3, 0, 10, 0) := by decide +kernel
theorem cd_30_10 : qa_code 30 10 = some (1, 1, 0, 11, 0) := by decide +kernel
theorem cd_30_11 : qa_code 30 11 = some (11, 0, 0, 12, 0) := by decide +kernel
theorem cd_30_12 : qa_code 30 12 = some (2, 0, 0, 13, 0) := by decide +kernel
theorem cd_30_13 : qa_code 30 13 = some (13, 0, 5, 16, 29) := by decide +kernel
theorem cd_30_16 : qa_code 30 16 = some (1, 3, 0, 17, 0) := by decide +kernel
theorem cd_30_17 : qa_code 30 17 = some (1, 2, 0, 18, 0) := by decide +kernel
theorem cd_30_18 : qa_code 30 18 = some (11, 0, 0, 19, 0) := by decide +kernel
theorem cd_30_19 : qa_code 30 19 = some (2, 0, 0, 20, 0) := by decide +kernel
theorem cd_30_20 : qa_code 30 20 = some (8, 0, 0, 21, 0) := by decide +kernel
theorem cd_30_21 : qa_code 30 21 = some (12, 0, 6, 24, 32) := by decide +kernel
theorem cd_30_24 : qa_code 30 24 = some (0, 0, 1, 25, 0) := by decide +kernel
theorem cd_30_25 : qa_code 30 25 = some (6, 0, 0, 26, 0) := by decide +kernel
theorem cd_30_26 : qa_code 30 26 = some (14, 0, 6, 29, 32) := by decide +kernel
theorem cd_30_29 : qa_code 30 29 = some (1, 3, 0, 30, 0) := by decide +kernel
theorem cd_30_30 : qa_code 30 30 = some (19, 0, 0, 30, 0) := by decide +kernel
theorem cd_31_0 : qa_code 31 0 = some (0, 0, 0, 1, 0) := by decide +kernel
theorem cd_31_1 : qa_code 31 1 = some (3, 5, 0, 3, 0) := by decide +kernel
theorem cd_31_3 : qa_code 31 3 = some (0, 0, 0, 4, 0) := by decide +kernel
theorem cd_31_4 : qa_code 31 4 = some (3, 6, 0, 6, 0) := by decide +kernel
theorem cd_31_6 : qa_code 31 6 = some (1, 6, 0, 8, 0) := by decide +kernel
theorem cd_31_8 : qa_code 31 8 = some (1, 1, 0, 9, 0) := by decide +kernel
theorem cd_31_9 : qa_code 31 9 = some (15, 3, 70, 12, 0) := by decide +kernel
theorem cd_31_12 : qa_code 31 12 = some (0, 0, 0, 13, 0) := by decide +kernel
theorem cd_31_13 : qa_code 31 13 = some (3, 7, 0, 15, 0) := by decide +kernel
theorem cd_31_15 : qa_code 31 15 = some (1, 7, 0, 17, 0) := by decide +kernel
theorem cd_31_17 : qa_code 31 17 = some (2, 0, 0, 18, 0) := by decide +kernel
theorem cd_31_18 : qa_code 31 18 = some (12, 0, 3, 21, 22) := by decide +kernel
theorem cd_31_21 : qa_code 31 21 = some (15, 3, 64, 24, 0) := by decide +kernel
theorem cd_31_24 : qa_code 31 24 = some (1, 5, 0, 26, 0) := by decide +kernel
theorem cd_31_26 : qa_code 31 26 = some (2, 0, 0, 27, 0) := by decide +kernel
theorem cd_31_27 : qa_code 31 27 = some (13, 0, 2, 30, 18) := by decide +kernel
theorem cd_31_30 : qa_code 31 30 = some (1, 7, 0, 32, 0) := by decide +kernel
theorem cd_31_32 : qa_code 31 32 = some (10, 1, 0, 33, 0) := by decide +kernel
theorem cd_31_33 : qa_code 31 33 = some (16, 0, 45, 36, 0) := by decide +kernel
theorem cd_31_36 : qa_code 31 36 = some (2, 0, 0, 37, 0) := by decide +kernel
theorem cd_31_37 : qa_code 31 37 = some (1, 7, 0, 39, 0) := by decide +kernel
theorem cd_31_39 : qa_code 31 39 = some (18, 32, 2, 42, 38) := by decide +kernel
theorem cd_31_42 : qa_code 31 42 = some (17, 0, 0, 55, 0) := by decide +kernel
theorem cd_31_45 : qa_code 31 45 = some (2, 0, 0, 46, 0) := by decide +kernel
theorem cd_31_46 : qa_code 31 46 = some (1, 7, 0, 48, 0) := by decide +kernel
theorem cd_31_48 : qa_code 31 48 = some (2, 2, 0, 49, 0) := by decide +kernel
theorem cd_31_49 : qa_code 31 49 = some (2, 3, 0, 50, 0) := by decide +kernel
theorem cd_31_50 : qa_code 31 50 = some (2, 4, 0, 52, 0) := by decide +kernel
theorem cd_31_52 : qa_code 31 52 = some (18, 33, 5, 55, 42) := by decide +kernel
theorem cd_31_55 : qa_code 31 55 = some (6, 1, 0, 56, 0) := by decide +kernel
theorem cd_31_56 : qa_code 31 56 = some (3, 5, 0, 58, 0) := by decide +kernel
theorem cd_31_58 : qa_code 31 58 = some (5, 7, 1, 61, 0) := by decide +kernel
theorem cd_31_61 : qa_code 31 61 = some (17, 0, 0, 15, 0) := by decide +kernel
theorem cd_31_64 : qa_code 31 64 = some (5, 6, 1, 67, 0) := by decide +kernel
theorem cd_31_67 : qa_code 31 67 = some (17, 0, 0, 6, 0) := by decide +kernel
theorem cd_31_70 : qa_code 31 70 = some (1, 5, 0, 72, 0) := by decide +kernel
theorem cd_31_72 : qa_code 31 72 = some (19, 0, 0, 72, 0) := by decide +kernel
theorem cd_32_0 : qa_code 32 0 = some (2, 0, 0, 1, 0) := by decide +kernel
theorem cd_32_1 : qa_code 32 1 = some (1, 1, 0, 2, 0) := by decide +kernel
theorem cd_32_2 : qa_code 32 2 = some (18, 37, 2, 5, 46) := by decide +kernel
theorem cd_32_5 : qa_code 32 5 = some (2, 0, 0, 6, 0) := by decide +kernel
theorem cd_32_6 : qa_code 32 6 = some (13, 0, 2, 9, 18) := by decide +kernel
theorem cd_32_9 : qa_code 32 9 = some (1, 1, 0, 10, 0) := by decide +kernel
theorem cd_32_10 : qa_code 32 10 = some (2, 0, 0, 11, 0) := by decide +kernel
theorem cd_32_11 : qa_code 32 11 = some (13, 0, 1, 14, 15) := by decide +kernel
theorem cd_32_14 : qa_code 32 14 = some (1, 1, 0, 15, 0) := by decide +kernel
theorem cd_32_15 : qa_code 32 15 = some (10, 0, 0, 16, 0) := by decide +kernel
theorem cd_32_16 : qa_code 32 16 = some (0, 0, 8, 18, 0) := by decide +kernel
theorem cd_32_18 : qa_code 32 18 = some (15, 5, 25, 21, 0) := by decide +kernel
theorem cd_32_21 : qa_code 32 21 = some (0, 0, 1, 22, 0) := by decide +kernel
theorem cd_32_22 : qa_code 32 22 = some (17, 0, 0, 26, 0) := by decide +kernel
theorem cd_32_25 : qa_code 32 25 = some (0, 0, 0, 26, 0) := by decide +kernel
theorem cd_32_26 : qa_code 32 26 = some (11, 1, 0, 27, 0) := by decide +kernel
theorem cd_32_27 : qa_code 32 27 = some (0, 0, 0, 28, 0) := by decide +kernel
theorem cd_32_28 : qa_code 32 28 = some (19, 0, 0, 28, 0) := by decide +kernel
theorem cd_33_0 : qa_code 33 0 = some (2, 0, 0, 1, 0) := by decide +kernel
theorem cd_33_1 : qa_code 33 1 = some (1, 1, 0, 2, 0) := by decide +kernel
theorem cd_33_2 : qa_code 33 2 = some (2, 2, 0, 3, 0) := by decide +kernel
theorem cd_33_3 : qa_code 33 3 = some (2, 3, 0, 4, 0) := by decide +kernel
theorem cd_33_4 : qa_code 33 4 = some (2, 4, 0, 6, 0) := by decide +kernel
theorem cd_33_6 : qa_code 33 6 = some (18, 34, 5, 9, 50) := by decide +kernel
theorem cd_33_9 : qa_code 33 9 = some (3, 5, 0, 11, 0) := by decide +kernel
theorem cd_33_11 : qa_code 33 11 = some (1, 5, 0, 13, 0) := by decide +kernel
theorem cd_33_13 : qa_code 33 13 = some (16, 1, 24, 16, 0) := by decide +kernel
theorem cd_33_16 : qa_code 33 16 = some (2, 0, 0, 17, 0) := by decide +kernel
theorem cd_33_17 : qa_code 33 17 = some (1, 1, 0, 18, 0) := by decide +kernel
theorem cd_33_18 : qa_code 33 18 = some (18, 35, 2, 21, 53) := by decide +kernel
theorem cd_33_21 : qa_code 33 21 = some (17, 0, 0, 25, 0) := by decide +kernel
theorem cd_33_24 : qa_code 33 24 = some (0, 0, 0, 25, 0) := by decide +kernel
theorem cd_33_25 : qa_code 33 25 = some (3, 6, 0, 27, 0) := by decide +kernel
theorem cd_33_27 : qa_code 33 27 = some (1, 5, 0, 29, 0) := by decide +kernel
theorem cd_33_29 : qa_code 33 29 = some (16, 1, 42, 32, 0) := by decide +kernel
theorem cd_33_32 : qa_code 33 32 = some (1, 6, 0, 34, 0) := by decide +kernel
theorem cd_33_34 : qa_code 33 34 = some (16, 1, 42, 37, 0) := by decide +kernel
theorem cd_33_37 : qa_code 33 37 = some (2, 0, 0, 38, 0) := by decide +kernel
theorem cd_33_38 : qa_code 33 38 = some (1, 1, 0, 39, 0) := by decide +kernel
theorem cd_33_39 : qa_code 33 39 = some (18, 37, 2, 42, 46) := by decide +kernel
theorem cd_33_42 : qa_code 33 42 = some (2, 0, 0, 43, 0) := by decide +kernel
theorem cd_33_43 : qa_code 33 43 = some (13, 0, 2, 46, 18) := by decide +kernel
theorem cd_33_46 : qa_code 33 46 = some (1, 1, 0, 47, 0) := by decide +kernel
theorem cd_33_47 : qa_code 33 47 = some (2, 0, 0, 48, 0) := by decide +kernel
theorem cd_33_48 : qa_code 33 48 = some (13, 0, 1, 51, 15) := by decide +kernel
theorem cd_33_51 : qa_code 33 51 = some (1, 1, 0, 52, 0) := by decide +kernel
theorem cd_33_52 : qa_code 33 52 = some (10, 0, 0, 53, 0) := by decide +kernel
theorem cd_33_53 : qa_code 33 53 = some (0, 0, 20, 55, 0) := by decide +kernel
theorem cd_33_55 : qa_code 33 55 = some (15, 2, 62, 58, 0) := by decide +kernel
theorem cd_33_58 : qa_code 33 58 = some (0, 0, 1, 59, 0) := by decide +kernel
theorem cd_33_59 : qa_code 33 59 = some (17, 0, 0, 63, 0) := by decide +kernel
theorem cd_33_62 : qa_code 33 62 = some (0, 0, 0, 63, 0) := by decide +kernel
theorem cd_33_63 : qa_code 33 63 = some (11, 1, 0, 64, 0) := by decide +kernel
theorem cd_33_64 : qa_code 33 64 = some (0, 0, 1000, 67, 0) := by decide +kernel
theorem cd_33_67 : qa_code 33 67 = some (1, 5, 0, 69, 0) := by decide +kernel
theorem cd_33_69 : qa_code 33 69 = some (6, 3, 0, 70, 0) := by decide +kernel
theorem cd_33_70 : qa_code 33 70 = some (1, 6, 0, 72, 0) := by decide +kernel
theorem cd_33_72 : qa_code 33 72 = some (6, 0, 0, 73, 0) := by decide +kernel
theorem cd_33_73 : qa_code 33 73 = some (19, 0, 0, 73, 0) := by decide +kernel
theorem cd_34_0 : qa_code 34 0 = some (0, 0, 0, 1, 0) := by decide +kernel
theorem cd_34_1 : qa_code 34 1 = some (3, 5, 0, 3, 0) := by decide +kernel
theorem cd_34_3 : qa_code 34 3 = some (0, 0, 0, 4, 0) := by decide +kernel
theorem cd_34_4 : qa_code 34 4 = some (3, 6, 0, 6, 0) := by decide +kernel
theorem cd_34_6 : qa_code 34 6 = some (1, 6, 0, 8, 0) := by decide +kernel
theorem cd_34_8 : qa_code 34 8 = some (0, 0, 120, 10, 0) := by decide +kernel
theorem cd_34_10 : qa_code 34 10 = some (15, 3, 59, 13, 0) := by decide +kernel
theorem cd_34_13 : qa_code 34 13 = some (1, 5, 0, 15, 0) := by decide +kernel
theorem cd_34_15 : qa_code 34 15 = some (2, 0, 0, 16, 0) := by decide +kernel
theorem cd_34_16 : qa_code 34 16 = some (13, 0, 0, 19, 9) := by decide +kernel
theorem cd_34_19 : qa_code 34 19 = some (1, 1, 0, 20, 0) := by decide +kernel
theorem cd_34_20 : qa_code 34 20 = some (10, 0, 0, 21, 0) := by decide +kernel
theorem cd_34_21 : qa_code 34 21 = some (15, 3, 59, 24, 0) := by decide +kernel
theorem cd_34_24 : qa_code 34 24 = some (2, 2, 0, 25, 0) := by decide +kernel
theorem cd_34_25 : qa_code 34 25 = some (1, 6, 0, 27, 0) := by decide +kernel
theorem cd_34_27 : qa_code 34 27 = some (18, 20, 2, 30, 56) := by decide +kernel
theorem cd_34_30 : qa_code 34 30 = some (16, 0, 53, 33, 0) := by decide +kernel
theorem cd_34_33 : qa_code 34 33 = some (2, 3, 0, 34, 0) := by decide +kernel
theorem cd_34_34 : qa_code 34 34 = some (1, 6, 0, 36, 0) := by decide +kernel
theorem cd_34_36 : qa_code 34 36 = some (18, 58, 2, 39, 62) := by decide +kernel
theorem cd_34_39 : qa_code 34 39 = some (16, 1, 53, 42, 0) := by decide +kernel
theorem cd_34_42 : qa_code 34 42 = some (2, 3, 0, 43, 0) := by decide +kernel
theorem cd_34_43 : qa_code 34 43 = some (1, 6, 0, 45, 0) := by decide +kernel
theorem cd_34_45 : qa_code 34 45 = some (2, 4, 0, 47, 0) := by decide +kernel
theorem cd_34_47 : qa_code 34 47 = some (18, 59, 3, 50, 67) := by decide +kernel
theorem cd_34_50 : qa_code 34 50 = some (5, 5, 1, 53, 0) := by decide +kernel
theorem cd_34_53 : qa_code 34 53 = some (5, 6, 1, 56, 0) := by decide +kernel
theorem cd_34_56 : qa_code 34 56 = some (17, 0, 0, 6, 0) := by decide +kernel
theorem cd_34_59 : qa_code 34 59 = some (2, 0, 0, 60, 0) := by decide +kernel
theorem cd_34_60 : qa_code 34 60 = some (13, 0, 1, 63, 15) := by decide +kernel
theorem cd_34_63 : qa_code 34 63 = some (1, 1, 0, 64, 0) := by decide +kernel
theorem cd_34_64 : qa_code 34 64 = some (9, 0, 0, 65, 0) := by decide +kernel
theorem cd_34_65 : qa_code 34 65 = some (10, 0, 0, 66, 0) := by decide +kernel
theorem cd_34_66 : qa_code 34 66 = some (1, 5, 0, 68, 0) := by decide +kernel
theorem cd_34_68 : qa_code 34 68 = some (6, 0, 0, 69, 0) := by decide +kernel
theorem cd_34_69 : qa_code 34 69 = some (11, 0, 0, 70, 0) := by decide +kernel
theorem cd_34_70 : qa_code 34 70 = some (1, 5, 0, 72, 0) := by decide +kernel
theorem cd_34_72 : qa_code 34 72 = some (19, 0, 0, 72, 0) := by decide +kernel
theorem cd_35_0 : qa_code 35 0 = some (2, 0, 0, 1, 0) := by decide +kernel
theorem cd_35_1 : qa_code 35 1 = some (18, 36, 1, 4, 70) := by decide +kernel
theorem cd_35_4 : qa_code 35 4 = some (3, 2, 0, 5, 0) := by decide +kernel
theorem cd_35_5 : qa_code 35 5 = some (1, 2, 0, 6, 0) := by decide +kernel
theorem cd_35_6 : qa_code 35 6 = some (16, 3, 11, 9, 0) := by decide +kernel
theorem cd_35_9 : qa_code 35 9 = some (0, 0, 0, 10, 0) := by decide +kernel
theorem cd_35_10 : qa_code 35 10 = some (19, 0, 0, 10, 0) := by decide +kernel
theorem cd_35_11 : qa_code 35 11 = some (2, 0, 0, 12, 0) := by decide +kernel
theorem cd_35_12 : qa_code 35 12 = some (13, 0, 5, 15, 29) := by decide +kernel
theorem cd_35_15 : qa_code 35 15 = some (1, 2, 0, 16, 0) := by decide +kernel
theorem cd_35_16 : qa_code 35 16 = some (9, 0, 0, 17, 0) := by decide +kernel
theorem cd_35_17 : qa_code 35 17 = some (10, 0, 0, 18, 0) := by decide +kernel
theorem cd_35_18 : qa_code 35 18 = some (0, 0, 1, 19, 0) := by decide +kernel
theorem cd_35_19 : qa_code 35 19 = some (6, 2, 0, 20, 0) := by decide +kernel
theorem cd_35_20 : qa_code 35 20 = some (11, 0, 0, 21, 0) := by decide +kernel
theorem cd_35_21 : qa_code 35 21 = some (2, 0, 0, 22, 0) := by decide +kernel
theorem cd_35_22 : qa_code 35 22 = some (8, 0, 0, 23, 0) := by decide +kernel
theorem cd_35_23 : qa_code 35 23 = some (12, 0, 7, 26, 35) := by decide +kernel
theorem cd_35_26 : qa_code 35 26 = some (2, 0, 0, 27, 0) := by decide +kernel
theorem cd_35_27 : qa_code 35 27 = some (13, 0, 4, 30, 26) := by decide +kernel
theorem cd_35_30 : qa_code 35 30 = some (1, 2, 0, 31, 0) := by decide +kernel
theorem cd_35_31 : qa_code 35 31 = some (10, 0, 0, 32, 0) := by decide +kernel
theorem cd_35_32 : qa_code 35 32 = some (6, 1, 0, 33, 0) := by decide +kernel
theorem cd_35_33 : qa_code 35 33 = some (14, 0, 7, 36, 35) := by decide +kernel
theorem cd_35_36 : qa_code 35 36 = some (2, 0, 0, 37, 0) := by decide +kernel
theorem cd_35_37 : qa_code 35 37 = some (13, 0, 1, 40, 15) := by decide +kernel
theorem cd_35_40 : qa_code 35 40 = some (1, 1, 0, 41, 0) := by decide +kernel
theorem cd_35_41 : qa_code 35 41 = some (9, 0, 0, 42, 0) := by decide +kernel
theorem cd_35_42 : qa_code 35 42 = some (10, 0, 0, 43, 0) := by decide +kernel
theorem cd_35_43 : qa_code 35 43 = some (0, 0, 3, 44, 0) := by decide +kernel
theorem cd_35_44 : qa_code 35 44 = some (6, 0, 0, 45, 0) := by decide +kernel
theorem cd_35_45 : qa_code 35 45 = some (11, 0, 0, 46, 0) := by decide +kernel
theorem cd_35_46 : qa_code 35 46 = some (0, 0, 1, 47, 0) := by decide +kernel
theorem cd_35_47 : qa_code 35 47 = some (19, 0, 0, 47, 0) := by decide +kernel
theorem cd_36_0 : qa_code 36 0 = some (0, 0, -1, 1, 0) := by decide +kernel
theorem cd_36_1 : qa_code 36 1 = some (3, 1, 0, 2, 0) := by decide +kernel
theorem cd_36_2 : qa_code 36 2 = some (0, 0, 0, 3, 0) := by decide +kernel
theorem cd_36_3 : qa_code 36 3 = some (3, 2, 0, 4, 0) := by decide +kernel
theorem cd_36_4 : qa_code 36 4 = some (1, 2, 0, 5, 0) := by decide +kernel
theorem cd_36_5 : qa_code 36 5 = some (2, 0, 0, 6, 0) := by decide +kernel
theorem cd_36_6 : qa_code 36 6 = some (12, 0, 6, 9, 32) := by decide +kernel
theorem cd_36_9 : qa_code 36 9 = some (15, 3, 48, 12, 0) := by decide +kernel
theorem cd_36_12 : qa_code 36 12 = some (2, 0, 0, 13, 0) := by decide +kernel
theorem cd_36_13 : qa_code 36 13 = some (13, 0, 5, 16, 29) := by decide +kernel
theorem cd_36_16 : qa_code 36 16 = some (1, 2, 0, 17, 0) := by decide +kernel
theorem cd_36_17 : qa_code 36 17 = some (10, 0, 0, 18, 0) := by decide +kernel
theorem cd_36_18 : qa_code 36 18 = some (16, 5, 42, 21, 0) := by decide +kernel
theorem cd_36_21 : qa_code 36 21 = some (1, 1, 0, 22, 0) := by decide +kernel
theorem cd_36_22 : qa_code 36 22 = some (16, 2, 40, 25, 0) := by decide +kernel
theorem cd_36_25 : qa_code 36 25 = some (2, 0, 0, 26, 0) := by decide +kernel
theorem cd_36_26 : qa_code 36 26 = some (13, 0, 4, 29, 26) := by decide +kernel
theorem cd_36_29 : qa_code 36 29 = some (1, 2, 0, 30, 0) := by decide +kernel
theorem cd_36_30 : qa_code 36 30 = some (10, 0, 0, 31, 0) := by decide +kernel
theorem cd_36_31 : qa_code 36 31 = some (2, 0, 0, 32, 0) := by decide +kernel
theorem cd_36_32 : qa_code 36 32 = some (13, 0, 4, 35, 26) := by decide +kernel
theorem cd_36_35 : qa_code 36 35 = some (1, 1, 0, 36, 0) := by decide +kernel
theorem cd_36_36 : qa_code 36 36 = some (10, 0, 0, 37, 0) := by decide +kernel
theorem cd_36_37 : qa_code 36 37 = some (15, 5, 42, 40, 0) := by decide +kernel
theorem cd_36_40 : qa_code 36 40 = some (1, 2, 0, 41, 0) := by decide +kernel
theorem cd_36_41 : qa_code 36 41 = some (3, 1, 0, 42, 0) := by decide +kernel
theorem cd_36_42 : qa_code 36 42 = some (5, 2, 1, 45, 0) := by decide +kernel
theorem cd_36_45 : qa_code 36 45 = some (17, 0, 0, 4, 0) := by decide +kernel
theorem cd_36_48 : qa_code 36 48 = some (1, 1, 0, 49, 0) := by decide +kernel
theorem cd_36_49 : qa_code 36 49 = some (19, 0, 0, 49, 0) := by decide +kernel
theorem cd_37_0 : qa_code 37 0 = some (2, 0, 0, 1, 0) := by decide +kernel
theorem cd_37_1 : qa_code 37 1 = some (13, 0, 1, 4, 15) := by decide +kernel
theorem cd_37_4 : qa_code 37 4 = some (1, 1, 0, 5, 0) := by decide +kernel
theorem cd_37_5 : qa_code 37 5 = some (0, 0, 0, 6, 0) := by decide +kernel
theorem cd_37_6 : qa_code 37 6 = some (2, 0, 0, 7, 0) := by decide +kernel
theorem cd_37_7 : qa_code 37 7 = some (13, 0, 1, 10, 15) := by decide +kernel
theorem cd_37_10 : qa_code 37 10 = some (1, 1, 0, 11, 0) := by decide +kernel
theorem cd_37_11 : qa_code 37 11 = some (10, 0, 0, 12, 0) := by decide +kernel
theorem cd_37_12 : qa_code 37 12 = some (0, 0, 4, 13, 0) := by decide +kernel
theorem cd_37_13 : qa_code 37 13 = some (6, 2, 0, 14, 0) := by decide +kernel
theorem cd_37_14 : qa_code 37 14 = some (18, 1, 2, 17, 74) := by decide +kernel
theorem cd_37_17 : qa_code 37 17 = some (11, 0, 0, 18, 0) := by decide +kernel
theorem cd_37_18 : qa_code 37 18 = some (20, 0, 0, 18, 0) := by decide +kernel
theorem cd_38_0 : qa_code 38 0 = some (2, 0, 0, 1, 0) := by decide +kernel
theorem cd_38_1 : qa_code 38 1 = some (12, 3, 3, 4, 21) := by decide +kernel
theorem cd_38_4 : qa_code 38 4 = some (19, 0, 0, 4, 0) := by decide +kernel
theorem cd_39_0 : qa_code 39 0 = some (0, 0, 3, 1, 0) := by decide +kernel
theorem cd_39_1 : qa_code 39 1 = some (2, 0, 0, 2, 0) := by decide +kernel
theorem cd_39_2 : qa_code 39 2 = some (12, 3, 3, 5, 21) := by decide +kernel
theorem cd_39_5 : qa_code 39 5 = some (6, 3, 0, 6, 0) := by decide +kernel
theorem cd_39_6 : qa_code 39 6 = some (19, 0, 0, 6, 0) := by decide +kernel
theorem cd_40_0 : qa_code 40 0 = some (1, 1, 0, 1, 0) := by decide +kernel
theorem cd_40_1 : qa_code 40 1 = some (0, 0, 0, 2, 0) := by decide +kernel
theorem cd_40_2 : qa_code 40 2 = some (2, 0, 0, 3, 0) := by decide +kernel
theorem cd_40_3 : qa_code 40 3 = some (12, 3, 3, 6, 21) := by decide +kernel
theorem cd_40_6 : qa_code 40 6 = some (0, 0, 1, 7, 0) := by decide +kernel
theorem cd_40_7 : qa_code 40 7 = some (6, 2, 0, 8, 0) := by decide +kernel
theorem cd_40_8 : qa_code 40 8 = some (18, 138, 3, 11, 38) := by decide +kernel
theorem cd_40_11 : qa_code 40 11 = some (19, 1, 0, 11, 0) := by decide +kernel
theorem cd_41_0 : qa_code 41 0 = some (2, 0, 0, 1, 0) := by decide +kernel
theorem cd_41_1 : qa_code 41 1 = some (1, 1, 0, 2, 0) := by decide +kernel
theorem cd_41_2 : qa_code 41 2 = some (18, 40, 2, 5, 42) := by decide +kernel
theorem cd_41_5 : qa_code 41 5 = some (16, 0, 28, 8, 0) := by decide +kernel
theorem cd_41_8 : qa_code 41 8 = some (1, 2, 0, 9, 0) := by decide +kernel
theorem cd_41_9 : qa_code 41 9 = some (0, 0, 0, 10, 0) := by decide +kernel
theorem cd_41_10 : qa_code 41 10 = some (0, 0, 2, 11, 0) := by decide +kernel
theorem cd_41_11 : qa_code 41 11 = some (18, 138, 3, 14, 38) := by decide +kernel
theorem cd_41_14 : qa_code 41 14 = some (16, 0, 28, 17, 0) := by decide +kernel
theorem cd_41_17 : qa_code 41 17 = some (1, 3, 0, 18, 0) := by decide +kernel
theorem cd_41_18 : qa_code 41 18 = some (18, 139, 1, 21, 46) := by decide +kernel
theorem cd_41_21 : qa_code 41 21 = some (16, 0, 28, 24, 0) := by decide +kernel
theorem cd_41_24 : qa_code 41 24 = some (0, 0, 1, 25, 0) := by decide +kernel
theorem cd_41_25 : qa_code 41 25 = some (17, 0, 0, 29, 0) := by decide +kernel
theorem cd_41_28 : qa_code 41 28 = some (0, 0, 0, 29, 0) := by decide +kernel
theorem cd_41_29 : qa_code 41 29 = some (19, 1, 0, 29, 0) := by decide +kernel
theorem cd_42_0 : qa_code 42 0 = some (2, 0, 0, 1, 0) := by decide +kernel
theorem cd_42_1 : qa_code 42 1 = some (12, 3, 3, 4, 21) := by decide +kernel
theorem cd_42_4 : qa_code 42 4 = some (3, 4, 0, 6, 0) := by decide +kernel
theorem cd_42_6 : qa_code 42 6 = some (2, 0, 0, 7, 0) := by decide +kernel
theorem cd_42_7 : qa_code 42 7 = some (13, 3, 0, 10, 9) := by decide +kernel
theorem cd_42_10 : qa_code 42 10 = some (1, 4, 0, 12, 0) := by decide +kernel
theorem cd_42_12 : qa_code 42 12 = some (1, 1, 0, 13, 0) := by decide +kernel
theorem cd_42_13 : qa_code 42 13 = some (11, 0, 0, 14, 0) := by decide +kernel
theorem cd_42_14 : qa_code 42 14 = some (2, 0, 0, 15, 0) := by decide +kernel
theorem cd_42_15 : qa_code 42 15 = some (13, 3, 1, 18, 15) := by decide +kernel
theorem cd_42_18 : qa_code 42 18 = some (1, 4, 0, 20, 0) := by decide +kernel
theorem cd_42_20 : qa_code 42 20 = some (1, 2, 0, 21, 0) := by decide +kernel
theorem cd_42_21 : qa_code 42 21 = some (11, 0, 0, 22, 0) := by decide +kernel
theorem cd_42_22 : qa_code 42 22 = some (2, 0, 0, 23, 0) := by decide +kernel
theorem cd_42_23 : qa_code 42 23 = some (13, 3, 2, 26, 18) := by decide +kernel
theorem cd_42_26 : qa_code 42 26 = some (1, 4, 0, 28, 0) := by decide +kernel
theorem cd_42_28 : qa_code 42 28 = some (1, 3, 0, 29, 0) := by decide +kernel
theorem cd_42_29 : qa_code 42 29 = some (11, 0, 0, 30, 0) := by decide +kernel
theorem cd_42_30 : qa_code 42 30 = some (2, 0, 0, 31, 0) := by decide +kernel
theorem cd_42_31 : qa_code 42 31 = some (8, 0, 0, 32, 0) := by decide +kernel
theorem cd_42_32 : qa_code 42 32 = some (12, 3, 3, 35, 21) := by decide +kernel
theorem cd_42_35 : qa_code 42 35 = some (0, 0, 1, 36, 0) := by decide +kernel
theorem cd_42_36 : qa_code 42 36 = some (6, 0, 0, 37, 0) := by decide +kernel
theorem cd_42_37 : qa_code 42 37 = some (14, 3, 3, 40, 21) := by decide +kernel
theorem cd_42_40 : qa_code 42 40 = some (1, 4, 0, 42, 0) := by decide +kernel
theorem cd_42_42 : qa_code 42 42 = some (19, 0, 0, 42, 0) := by decide +kernel
theorem cd_43_0 : qa_code 43 0 = some (2, 0, 0, 1, 0) := by decide +kernel
theorem cd_43_1 : qa_code 43 1 = some (13, 3, 4, 4, 28) := by decide +kernel
theorem cd_43_4 : qa_code 43 4 = some (18, 3, 1, 7, 49) := by decide +kernel
theorem cd_43_7 : qa_code 43 7 = some (19, 0, 0, 7, 0) := by decide +kernel
theorem cd_44_0 : qa_code 44 0 = some (2, 0, 0, 1, 0) := by decide +kernel
theorem cd_44_1 : qa_code 44 1 = some (13, 3, 4, 4, 28) := by decide +kernel
theorem cd_44_4 : qa_code 44 4 = some (1, 1, 0, 5, 0) := by decide +kernel
theorem cd_44_5 : qa_code 44 5 = some (18, 4, 2, 8, 53) := by decide +kernel
theorem cd_44_8 : qa_code 44 8 = some (19, 0, 0, 8, 0) := by decide +kernel
theorem cd_45_0 : qa_code 45 0 = some (2, 0, 0, 1, 0) := by decide +kernel
theorem cd_45_1 : qa_code 45 1 = some (13, 3, 4, 4, 28) := by decide +kernel
theorem cd_45_4 : qa_code 45 4 = some (1, 1, 0, 5, 0) := by decide +kernel
theorem cd_45_5 : qa_code 45 5 = some (1, 2, 0, 6, 0) := by decide +kernel
theorem cd_45_6 : qa_code 45 6 = some (18, 2, 2, 9, 57) := by decide +kernel
theorem cd_45_9 : qa_code 45 9 = some (18, 11, 2, 12, 61) := by decide +kernel
theorem cd_45_12 : qa_code 45 12 = some (19, 1, 0, 12, 0) := by decide +kernel
theorem cd_46_0 : qa_code 46 0 = some (2, 0, 0, 1, 0) := by decide +kernel
theorem cd_46_1 : qa_code 46 1 = some (13, 3, 4, 4, 28) := by decide +kernel
theorem cd_46_4 : qa_code 46 4 = some (1, 1, 0, 5, 0) := by decide +kernel
theorem cd_46_5 : qa_code 46 5 = some (1, 2, 0, 6, 0) := by decide +kernel
theorem cd_46_6 : qa_code 46 6 = some (18, 2, 2, 9, 57) := by decide +kernel
theorem cd_46_9 : qa_code 46 9 = some (1, 3, 0, 10, 0) := by decide +kernel
theorem cd_46_10 : qa_code 46 10 = some (1, 4, 0, 12, 0) := by decide +kernel
theorem cd_46_12 : qa_code 46 12 = some (1, 5, 0, 14, 0) := by decide +kernel
theorem cd_46_14 : qa_code 46 14 = some (18, 12, 5, 17, 64) := by decide +kernel
theorem cd_46_17 : qa_code 46 17 = some (2, 0, 0, 18, 0) := by decide +kernel
theorem cd_46_18 : qa_code 46 18 = some (1, 1, 0, 19, 0) := by decide +kernel
theorem cd_46_19 : qa_code 46 19 = some (18, 54, 2, 22, 68) := by decide +kernel
theorem cd_46_22 : qa_code 46 22 = some (20, 0, 0, 22, 0) := by decide +kernel
theorem cd_47_0 : qa_code 47 0 = some (2, 0, 0, 1, 0) := by decide +kernel
theorem cd_47_1 : qa_code 47 1 = some (13, 3, 4, 4, 28) := by decide +kernel
theorem cd_47_4 : qa_code 47 4 = some (1, 1, 0, 5, 0) := by decide +kernel
theorem cd_47_5 : qa_code 47 5 = some (1, 2, 0, 6, 0) := by decide +kernel
theorem cd_47_6 : qa_code 47 6 = some (18, 2, 2, 9, 57) := by decide +kernel
theorem cd_47_9 : qa_code 47 9 = some (18, 13, 2, 12, 72) := by decide +kernel
theorem cd_47_12 : qa_code 47 12 = some (2, 0, 0, 13, 0) := by decide +kernel
theorem cd_47_13 : qa_code 47 13 = some (1, 1, 0, 14, 0) := by decide +kernel
theorem cd_47_14 : qa_code 47 14 = some (18, 54, 2, 17, 68) := by decide +kernel
theorem cd_47_17 : qa_code 47 17 = some (20, 0, 0, 17, 0) := by decide +kernel
theorem cd_48_0 : qa_code 48 0 = some (2, 0, 0, 1, 0) := by decide +kernel
theorem cd_48_1 : qa_code 48 1 = some (13, 3, 5, 4, 32) := by decide +kernel
theorem cd_48_4 : qa_code 48 4 = some (1, 1, 0, 5, 0) := by decide +kernel
theorem cd_48_5 : qa_code 48 5 = some (0, 0, 120, 7, 0) := by decide +kernel
theorem cd_48_7 : qa_code 48 7 = some (6, 3, 0, 8, 0) := by decide +kernel
theorem cd_48_8 : qa_code 48 8 = some (1, 2, 0, 9, 0) := by decide +kernel
theorem cd_48_9 : qa_code 48 9 = some (6, 0, 0, 10, 0) := by decide +kernel
theorem cd_48_10 : qa_code 48 10 = some (10, 0, 0, 11, 0) := by decide +kernel
theorem cd_48_11 : qa_code 48 11 = some (19, 0, 0, 11, 0) := by decide +kernel
theorem cd_49_0 : qa_code 49 0 = some (0, 0, 0, 1, 0) := by decide +kernel
theorem cd_49_1 : qa_code 49 1 = some (3, 2, 0, 2, 0) := by decide +kernel
theorem cd_49_2 : qa_code 49 2 = some (0, 0, 0, 3, 0) := by decide +kernel
theorem cd_49_3 : qa_code 49 3 = some (3, 3, 0, 4, 0) := by decide +kernel
theorem cd_49_4 : qa_code 49 4 = some (1, 3, 0, 5, 0) := by decide +kernel
theorem cd_49_5 : qa_code 49 5 = some (2, 0, 0, 6, 0) := by decide +kernel
theorem cd_49_6 : qa_code 49 6 = some (18, 39, 1, 9, 75) := by decide +kernel
theorem cd_49_9 : qa_code 49 9 = some (15, 3, 32, 12, 0) := by decide +kernel
theorem cd_49_12 : qa_code 49 12 = some (1, 2, 0, 13, 0) := by decide +kernel
theorem cd_49_13 : qa_code 49 13 = some (2, 0, 0, 14, 0) := by decide +kernel
theorem cd_49_14 : qa_code 49 14 = some (13, 3, 6, 17, 35) := by decide +kernel
theorem cd_49_17 : qa_code 49 17 = some (1, 3, 0, 18, 0) := by decide +kernel
theorem cd_49_18 : qa_code 49 18 = some (0, 0, 120, 20, 0) := by decide +kernel
theorem cd_49_20 : qa_code 49 20 = some (6, 3, 0, 21, 0) := by decide +kernel
theorem cd_49_21 : qa_code 49 21 = some (1, 1, 0, 22, 0) := by decide +kernel
theorem cd_49_22 : qa_code 49 22 = some (6, 0, 0, 23, 0) := by decide +kernel
theorem cd_49_23 : qa_code 49 23 = some (10, 0, 0, 24, 0) := by decide +kernel
theorem cd_49_24 : qa_code 49 24 = some (6, 7, 0, 25, 0) := by decide +kernel
theorem cd_49_25 : qa_code 49 25 = some (3, 2, 0, 26, 0) := by decide +kernel
theorem cd_49_26 : qa_code 49 26 = some (5, 3, 1, 29, 0) := by decide +kernel
theorem cd_49_29 : qa_code 49 29 = some (17, 0, 0, 4, 0) := by decide +kernel
theorem cd_49_32 : qa_code 49 32 = some (1, 2, 0, 33, 0) := by decide +kernel
theorem cd_49_33 : qa_code 49 33 = some (19, 0, 0, 33, 0) := by decide +kernel
theorem cd_50_0 : qa_code 50 0 = some (2, 0, 0, 1, 0) := by decide +kernel
theorem cd_50_1 : qa_code 50 1 = some (13, 3, 4, 4, 28) := by decide +kernel
theorem cd_50_4 : qa_code 50 4 = some (1, 1, 0, 5, 0) := by decide +kernel
theorem cd_50_5 : qa_code 50 5 = some (18, 10, 2, 8, 78) := by decide +kernel
theorem cd_50_8 : qa_code 50 8 = some (3, 3, 0, 9, 0) := by decide +kernel
theorem cd_50_9 : qa_code 50 9 = some (2, 0, 0, 10, 0) := by decide +kernel
theorem cd_50_10 : qa_code 50 10 = some (13, 3, 4, 13, 28) := by decide +kernel
theorem cd_50_13 : qa_code 50 13 = some (1, 1, 0, 14, 0) := by decide +kernel
theorem cd_50_14 : qa_code 50 14 = some (0, 0, 1, 15, 0) := by decide +kernel
theorem cd_50_15 : qa_code 50 15 = some (6, 0, 0, 16, 0) := by decide +kernel
theorem cd_50_16 : qa_code 50 16 = some (18, 10, 2, 19, 78) := by decide +kernel
theorem cd_50_19 : qa_code 50 19 = some (3, 4, 0, 21, 0) := by decide +kernel
theorem cd_50_21 : qa_code 50 21 = some (2, 0, 0, 22, 0) := by decide +kernel
theorem cd_50_22 : qa_code 50 22 = some (13, 3, 4, 25, 28) := by decide +kernel
theorem cd_50_25 : qa_code 50 25 = some (1, 1, 0, 26, 0) := by decide +kernel
theorem cd_50_26 : qa_code 50 26 = some (1, 2, 0, 27, 0) := by decide +kernel
theorem cd_50_27 : qa_code 50 27 = some (18, 2, 2, 30, 57) := by decide +kernel
theorem cd_50_30 : qa_code 50 30 = some (18, 9, 2, 33, 81) := by decide +kernel
theorem cd_50_33 : qa_code 50 33 = some (3, 5, 0, 35, 0) := by decide +kernel
theorem cd_50_35 : qa_code 50 35 = some (1, 2, 0, 36, 0) := by decide +kernel
theorem cd_50_36 : qa_code 50 36 = some (3, 6, 0, 38, 0) := by decide +kernel
theorem cd_50_38 : qa_code 50 38 = some (1, 5, 0, 40, 0) := by decide +kernel
theorem cd_50_40 : qa_code 50 40 = some (1, 3, 0, 41, 0) := by decide +kernel
theorem cd_50_41 : qa_code 50 41 = some (15, 1, 50, 44, 0) := by decide +kernel
theorem cd_50_44 : qa_code 50 44 = some (0, 0, 0, 45, 0) := by decide +kernel
theorem cd_50_45 : qa_code 50 45 = some (3, 6, 0, 47, 0) := by decide +kernel
theorem cd_50_47 : qa_code 50 47 = some (17, 0, 0, 79, 0) := by decide +kernel
theorem cd_50_50 : qa_code 50 50 = some (2, 0, 0, 51, 0) := by decide +kernel
theorem cd_50_51 : qa_code 50 51 = some (13, 3, 4, 54, 28) := by decide +kernel
theorem cd_50_54 : qa_code 50 54 = some (1, 5, 0, 56, 0) := by decide +kernel
theorem cd_50_56 : qa_code 50 56 = some (0, 0, 1, 57, 0) := by decide +kernel
theorem cd_50_57 : qa_code 50 57 = some (6, 2, 0, 58, 0) := by decide +kernel
theorem cd_50_58 : qa_code 50 58 = some (18, 8, 2, 61, 84) := by decide +kernel
theorem cd_50_61 : qa_code 50 61 = some (16, 0, 79, 64, 0) := by decide +kernel
theorem cd_50_64 : qa_code 50 64 = some (2, 0, 0, 65, 0) := by decide +kernel
theorem cd_50_65 : qa_code 50 65 = some (13, 3, 4, 68, 28) := by decide +kernel
theorem cd_50_68 : qa_code 50 68 = some (1, 5, 0, 70, 0) := by decide +kernel
theorem cd_50_70 : qa_code 50 70 = some (0, 0, 1, 71, 0) := by decide +kernel
theorem cd_50_71 : qa_code 50 71 = some (6, 2, 0, 72, 0) := by decide +kernel
theorem cd_50_72 : qa_code 50 72 = some (18, 5, 2, 75, 87) := by decide +kernel
theorem cd_50_75 : qa_code 50 75 = some (0, 0, 1, 76, 0) := by decide +kernel
theorem cd_50_76 : qa_code 50 76 = some (6, 0, 0, 77, 0) := by decide +kernel
theorem cd_50_77 : qa_code 50 77 = some (3, 6, 0, 79, 0) := by decide +kernel
theorem cd_50_79 : qa_code 50 79 = some (1, 5, 0, 81, 0) := by decide +kernel
theorem cd_50_81 : qa_code 50 81 = some (0, 0, 1, 82, 0) := by decide +kernel
theorem cd_50_82 : qa_code 50 82 = some (6, 0, 0, 83, 0) := by decide +kernel
theorem cd_50_83 : qa_code 50 83 = some (1, 4, 0, 85, 0) := by decide +kernel
theorem cd_50_85 : qa_code 50 85 = some (15, 3, 104, 88, 0) := by decide +kernel
theorem cd_50_88 : qa_code 50 88 = some (2, 0, 0, 89, 0) := by decide +kernel
theorem cd_50_89 : qa_code 50 89 = some (13, 3, 4, 92, 28) := by decide +kernel
theorem cd_50_92 : qa_code 50 92 = some (1, 5, 0, 94, 0) := by decide +kernel
theorem cd_50_94 : qa_code 50 94 = some (0, 0, 1, 95, 0) := by decide +kernel
theorem cd_50_95 : qa_code 50 95 = some (6, 0, 0, 96, 0) := by decide +kernel
theorem cd_50_96 : qa_code 50 96 = some (18, 5, 2, 99, 87) := by decide +kernel
theorem cd_50_99 : qa_code 50 99 = some (0, 0, 1, 100, 0) := by decide +kernel
theorem cd_50_100 : qa_code 50 100 = some (6, 2, 0, 101, 0) := by decide +kernel
theorem cd_50_101 : qa_code 50 101 = some (17, 0, 0, 106, 0) := by decide +kernel
theorem cd_50_104 : qa_code 50 104 = some (0, 0, 119, 106, 0) := by decide +kernel
theorem cd_50_106 : qa_code 50 106 = some (3, 7, 0, 108, 0) := by decide +kernel
theorem cd_50_108 : qa_code 50 108 = some (0, 0, 1000, 111, 0) := by decide +kernel
theorem cd_50_111 : qa_code 50 111 = some (1, 6, 0, 113, 0) := by decide +kernel
theorem cd_50_113 : qa_code 50 113 = some (6, 3, 0, 114, 0) := by decide +kernel
theorem cd_50_114 : qa_code 50 114 = some (1, 7, 0, 116, 0) := by decide +kernel
theorem cd_50_116 : qa_code 50 116 = some (6, 0, 0, 117, 0) := by decide +kernel
theorem cd_50_117 : qa_code 50 117 = some (19, 0, 0, 117, 0) := by decide +kernel
theorem cd_51_0 : qa_code 51 0 = some (2, 0, 0, 1, 0) := by decide +kernel
theorem cd_51_1 : qa_code 51 1 = some (1, 1, 0, 2, 0) := by decide +kernel
theorem cd_51_2 : qa_code 51 2 = some (1, 2, 0, 3, 0) := by decide +kernel
theorem cd_51_3 : qa_code 51 3 = some (18, 52, 3, 6, 90) := by decide +kernel
theorem cd_51_6 : qa_code 51 6 = some (3, 3, 0, 7, 0) := by decide +kernel
theorem cd_51_7 : qa_code 51 7 = some (2, 0, 0, 8, 0) := by decide +kernel
theorem cd_51_8 : qa_code 51 8 = some (1, 1, 0, 9, 0) := by decide +kernel
theorem cd_51_9 : qa_code 51 9 = some (1, 2, 0, 10, 0) := by decide +kernel
theorem cd_51_10 : qa_code 51 10 = some (18, 53, 3, 13, 93) := by decide +kernel
theorem cd_51_13 : qa_code 51 13 = some (3, 4, 0, 15, 0) := by decide +kernel
theorem cd_51_15 : qa_code 51 15 = some (2, 0, 0, 16, 0) := by decide +kernel
theorem cd_51_16 : qa_code 51 16 = some (13, 3, 0, 19, 9) := by decide +kernel
theorem cd_51_19 : qa_code 51 19 = some (1, 1, 0, 20, 0) := by decide +kernel
theorem cd_51_20 : qa_code 51 20 = some (10, 0, 0, 21, 0) := by decide +kernel
theorem cd_51_21 : qa_code 51 21 = some (3, 5, 0, 23, 0) := by decide +kernel
theorem cd_51_23 : qa_code 51 23 = some (0, 0, 0, 24, 0) := by decide +kernel
theorem cd_51_24 : qa_code 51 24 = some (3, 6, 0, 26, 0) := by decide +kernel
theorem cd_51_26 : qa_code 51 26 = some (1, 6, 0, 28, 0) := by decide +kernel
theorem cd_51_28 : qa_code 51 28 = some (0, 0, 8, 30, 0) := by decide +kernel
theorem cd_51_30 : qa_code 51 30 = some (15, 3, 115, 33, 0) := by decide +kernel
theorem cd_51_33 : qa_code 51 33 = some (1, 5, 0, 35, 0) := by decide +kernel
theorem cd_51_35 : qa_code 51 35 = some (16, 2, 115, 38, 0) := by decide +kernel
theorem cd_51_38 : qa_code 51 38 = some (2, 0, 0, 39, 0) := by decide +kernel
theorem cd_51_39 : qa_code 51 39 = some (1, 5, 0, 41, 0) := by decide +kernel
theorem cd_51_41 : qa_code 51 41 = some (0, 0, 2, 42, 0) := by decide +kernel
theorem cd_51_42 : qa_code 51 42 = some (18, 140, 2, 45, 96) := by decide +kernel
theorem cd_51_45 : qa_code 51 45 = some (1, 2, 0, 46, 0) := by decide +kernel
theorem cd_51_46 : qa_code 51 46 = some (18, 48, 3, 49, 99) := by decide +kernel
theorem cd_51_49 : qa_code 51 49 = some (3, 7, 0, 51, 0) := by decide +kernel
theorem cd_51_51 : qa_code 51 51 = some (0, 0, 0, 52, 0) := by decide +kernel
theorem cd_51_52 : qa_code 51 52 = some (3, 8, 0, 54, 0) := by decide +kernel
theorem cd_51_54 : qa_code 51 54 = some (1, 8, 0, 56, 0) := by decide +kernel
theorem cd_51_56 : qa_code 51 56 = some (1, 7, 0, 58, 0) := by decide +kernel
theorem cd_51_58 : qa_code 51 58 = some (15, 3, 78, 61, 0) := by decide +kernel
theorem cd_51_61 : qa_code 51 61 = some (1, 4, 0, 63, 0) := by decide +kernel
theorem cd_51_63 : qa_code 51 63 = some (7, 0, 0, 64, 0) := by decide +kernel
theorem cd_51_64 : qa_code 51 64 = some (3, 9, 0, 66, 0) := by decide +kernel
theorem cd_51_66 : qa_code 51 66 = some (1, 3, 0, 67, 0) := by decide +kernel
theorem cd_51_67 : qa_code 51 67 = some (3, 4, 0, 69, 0) := by decide +kernel
theorem cd_51_69 : qa_code 51 69 = some (1, 9, 0, 71, 0) := by decide +kernel
theorem cd_51_71 : qa_code 51 71 = some (3, 3, 0, 72, 0) := by decide +kernel
theorem cd_51_72 : qa_code 51 72 = some (5, 8, 1, 75, 0) := by decide +kernel
theorem cd_51_75 : qa_code 51 75 = some (17, 0, 0, 54, 0) := by decide +kernel
theorem cd_51_78 : qa_code 51 78 = some (1, 3, 0, 79, 0) := by decide +kernel
theorem cd_51_79 : qa_code 51 79 = some (2, 0, 0, 80, 0) := by decide +kernel
theorem cd_51_80 : qa_code 51 80 = some (1, 5, 0, 82, 0) := by decide +kernel
theorem cd_51_82 : qa_code 51 82 = some (1, 2, 0, 83, 0) := by decide +kernel
theorem cd_51_83 : qa_code 51 83 = some (18, 52, 3, 86, 90) := by decide +kernel
theorem cd_51_86 : qa_code 51 86 = some (6, 0, 0, 87, 0) := by decide +kernel
theorem cd_51_87 : qa_code 51 87 = some (3, 3, 0, 88, 0) := by decide +kernel
theorem cd_51_88 : qa_code 51 88 = some (1, 4, 0, 90, 0) := by decide +kernel
theorem cd_51_90 : qa_code 51 90 = some (2, 0, 0, 91, 0) := by decide +kernel
theorem cd_51_91 : qa_code 51 91 = some (1, 5, 0, 93, 0) := by decide +kernel
theorem cd_51_93 : qa_code 51 93 = some (1, 2, 0, 94, 0) := by decide +kernel
theorem cd_51_94 : qa_code 51 94 = some (18, 53, 3, 97, 93) := by decide +kernel
theorem cd_51_97 : qa_code 51 97 = some (6, 0, 0, 98, 0) := by decide +kernel
theorem cd_51_98 : qa_code 51 98 = some (3, 4, 0, 100, 0) := by decide +kernel
theorem cd_51_100 : qa_code 51 100 = some (2, 0, 0, 101, 0) := by decide +kernel
theorem cd_51_101 : qa_code 51 101 = some (13, 3, 0, 104, 9) := by decide +kernel
theorem cd_51_104 : qa_code 51 104 = some (1, 5, 0, 106, 0) := by decide +kernel
theorem cd_51_106 : qa_code 51 106 = some (10, 0, 0, 107, 0) := by decide +kernel
theorem cd_51_107 : qa_code 51 107 = some (3, 5, 0, 109, 0) := by decide +kernel
theorem cd_51_109 : qa_code 51 109 = some (5, 6, 1, 112, 0) := by decide +kernel
theorem cd_51_112 : qa_code 51 112 = some (17, 0, 0, 26, 0) := by decide +kernel
theorem cd_51_115 : qa_code 51 115 = some (0, 0, 10000, 118, 0) := by decide +kernel
theorem cd_51_118 : qa_code 51 118 = some (1, 3, 0, 119, 0) := by decide +kernel
theorem cd_51_119 : qa_code 51 119 = some (0, 0, 5000, 122, 0) := by decide +kernel
theorem cd_51_122 : qa_code 51 122 = some (6, 0, 0, 123, 0) := by decide +kernel
theorem cd_51_123 : qa_code 51 123 = some (6, 3, 0, 124, 0) := by decide +kernel
theorem cd_51_124 : qa_code 51 124 = some (1, 4, 0, 126, 0) := by decide +kernel
theorem cd_51_126 : qa_code 51 126 = some (6, 0, 0, 127, 0) := by decide +kernel
theorem cd_51_127 : qa_code 51 127 = some (0, 0, 5000, 130, 0) := by decide +kernel
theorem cd_51_130 : qa_code 51 130 = some (6, 0, 0, 131, 0) := by decide +kernel
theorem cd_51_131 : qa_code 51 131 = some (19, 0, 0, 131, 0) := by decide +kernel
theorem cd_52_0 : qa_code 52 0 = some (2, 0, 0, 1, 0) := by decide +kernel
theorem cd_52_1 : qa_code 52 1 = some (13, 3, 1, 4, 15) := by decide +kernel
theorem cd_52_4 : qa_code 52 4 = some (1, 1, 0, 5, 0) := by decide +kernel
theorem cd_52_5 : qa_code 52 5 = some (10, 0, 0, 6, 0) := by decide +kernel
theorem cd_52_6 : qa_code 52 6 = some (2, 0, 0, 7, 0) := by decide +kernel
theorem cd_52_7 : qa_code 52 7 = some (1, 1, 0, 8, 0) := by decide +kernel
theorem cd_52_8 : qa_code 52 8 = some (0, 0, 0, 9, 0) := by decide +kernel
theorem cd_52_9 : qa_code 52 9 = some (18, 140, 2, 12, 96) := by decide +kernel
theorem cd_52_12 : qa_code 52 12 = some (1, 2, 0, 13, 0) := by decide +kernel
theorem cd_52_13 : qa_code 52 13 = some (18, 48, 3, 16, 99) := by decide +kernel
theorem cd_52_16 : qa_code 52 16 = some (6, 0, 0, 17, 0) := by decide +kernel
theorem cd_52_17 : qa_code 52 17 = some (19, 0, 0, 17, 0) := by decide +kernel
theorem cd_53_0 : qa_code 53 0 = some (2, 0, 0, 1, 0) := by decide +kernel
theorem cd_53_1 : qa_code 53 1 = some (13, 3, 2, 4, 18) := by decide +kernel
theorem cd_53_4 : qa_code 53 4 = some (1, 1, 0, 5, 0) := by decide +kernel
theorem cd_53_5 : qa_code 53 5 = some (10, 0, 0, 6, 0) := by decide +kernel
theorem cd_53_6 : qa_code 53 6 = some (2, 0, 0, 7, 0) := by decide +kernel
theorem cd_53_7 : qa_code 53 7 = some (1, 1, 0, 8, 0) := by decide +kernel
theorem cd_53_8 : qa_code 53 8 = some (0, 0, 1, 9, 0) := by decide +kernel
theorem cd_53_9 : qa_code 53 9 = some (18, 140, 2, 12, 96) := by decide +kernel
theorem cd_53_12 : qa_code 53 12 = some (1, 2, 0, 13, 0) := by decide +kernel
theorem cd_53_13 : qa_code 53 13 = some (18, 48, 3, 16, 99) := by decide +kernel
theorem cd_53_16 : qa_code 53 16 = some (6, 0, 0, 17, 0) := by decide +kernel
theorem cd_53_17 : qa_code 53 17 = some (19, 0, 0, 17, 0) := by decide +kernel
theorem cd_54_0 : qa_code 54 0 = some (2, 0, 0, 1, 0) := by decide +kernel
theorem cd_54_1 : qa_code 54 1 = some (13, 3, 4, 4, 28) := by decide +kernel
theorem cd_54_4 : qa_code 54 4 = some (1, 1, 0, 5, 0) := by decide +kernel
theorem cd_54_5 : qa_code 54 5 = some (18, 10, 2, 8, 78) := by decide +kernel
theorem cd_54_8 : qa_code 54 8 = some (3, 2, 0, 9, 0) := by decide +kernel
theorem cd_54_9 : qa_code 54 9 = some (2, 0, 0, 10, 0) := by decide +kernel
theorem cd_54_10 : qa_code 54 10 = some (13, 3, 4, 13, 28) := by decide +kernel
theorem cd_54_13 : qa_code 54 13 = some (1, 1, 0, 14, 0) := by decide +kernel
theorem cd_54_14 : qa_code 54 14 = some (0, 0, 1, 15, 0) := by decide +kernel
theorem cd_54_15 : qa_code 54 15 = some (6, 0, 0, 16, 0) := by decide +kernel
theorem cd_54_16 : qa_code 54 16 = some (18, 10, 2, 19, 78) := by decide +kernel
theorem cd_54_19 : qa_code 54 19 = some (3, 3, 0, 20, 0) := by decide +kernel
theorem cd_54_20 : qa_code 54 20 = some (1, 2, 0, 21, 0) := by decide +kernel
theorem cd_54_21 : qa_code 54 21 = some (3, 4, 0, 23, 0) := by decide +kernel
theorem cd_54_23 : qa_code 54 23 = some (0, 0, 0, 24, 0) := by decide +kernel
theorem cd_54_24 : qa_code 54 24 = some (3, 5, 0, 26, 0) := by decide +kernel
theorem cd_54_26 : qa_code 54 26 = some (1, 5, 0, 28, 0) := by decide +kernel
theorem cd_54_28 : qa_code 54 28 = some (0, 0, 120, 30, 0) := by decide +kernel
theorem cd_54_30 : qa_code 54 30 = some (15, 3, 79, 33, 0) := by decide +kernel
theorem cd_54_33 : qa_code 54 33 = some (1, 4, 0, 35, 0) := by decide +kernel
theorem cd_54_35 : qa_code 54 35 = some (1, 3, 0, 36, 0) := by decide +kernel
theorem cd_54_36 : qa_code 54 36 = some (15, 3, 56, 39, 0) := by decide +kernel
theorem cd_54_39 : qa_code 54 39 = some (2, 0, 0, 40, 0) := by decide +kernel
theorem cd_54_40 : qa_code 54 40 = some (13, 3, 4, 43, 28) := by decide +kernel
theorem cd_54_43 : qa_code 54 43 = some (1, 4, 0, 45, 0) := by decide +kernel
theorem cd_54_45 : qa_code 54 45 = some (18, 5, 2, 48, 87) := by decide +kernel
theorem cd_54_48 : qa_code 54 48 = some (1, 5, 0, 50, 0) := by decide +kernel
theorem cd_54_50 : qa_code 54 50 = some (15, 1, 56, 53, 0) := by decide +kernel
theorem cd_54_53 : qa_code 54 53 = some (5, 4, 1, 56, 0) := by decide +kernel
theorem cd_54_56 : qa_code 54 56 = some (2, 0, 0, 57, 0) := by decide +kernel
theorem cd_54_57 : qa_code 54 57 = some (1, 1, 0, 58, 0) := by decide +kernel
theorem cd_54_58 : qa_code 54 58 = some (0, 0, 120, 60, 0) := by decide +kernel
theorem cd_54_60 : qa_code 54 60 = some (6, 3, 0, 61, 0) := by decide +kernel
theorem cd_54_61 : qa_code 54 61 = some (1, 5, 0, 63, 0) := by decide +kernel
theorem cd_54_63 : qa_code 54 63 = some (6, 0, 0, 64, 0) := by decide +kernel
theorem cd_54_64 : qa_code 54 64 = some (1, 5, 0, 66, 0) := by decide +kernel
theorem cd_54_66 : qa_code 54 66 = some (1, 2, 0, 67, 0) := by decide +kernel
theorem cd_54_67 : qa_code 54 67 = some (1, 4, 0, 69, 0) := by decide +kernel
theorem cd_54_69 : qa_code 54 69 = some (1, 3, 0, 70, 0) := by decide +kernel
theorem cd_54_70 : qa_code 54 70 = some (18, 55, 6, 73, 102) := by decide +kernel
theorem cd_54_73 : qa_code 54 73 = some (5, 5, 1, 76, 0) := by decide +kernel
theorem cd_54_76 : qa_code 54 76 = some (17, 0, 0, 26, 0) := by decide +kernel
theorem cd_54_79 : qa_code 54 79 = some (20, 0, 0, 79, 0) := by decide +kernel
theorem cd_55_0 : qa_code 55 0 = some (1, 3, 0, 1, 0) := by decide +kernel
theorem cd_55_1 : qa_code 55 1 = some (1, 5, 0, 3, 0) := by decide +kernel
theorem cd_55_3 : qa_code 55 3 = some (15, 1, 21, 6, 0) := by decide +kernel
theorem cd_55_6 : qa_code 55 6 = some (2, 0, 0, 7, 0) := by decide +kernel
theorem cd_55_7 : qa_code 55 7 = some (13, 3, 5, 10, 32) := by decide +kernel
theorem cd_55_10 : qa_code 55 10 = some (1, 1, 0, 11, 0) := by decide +kernel
theorem cd_55_11 : qa_code 55 11 = some (0, 0, 0, 12, 0) := by decide +kernel
theorem cd_55_12 : qa_code 55 12 = some (11, 0, 0, 13, 0) := by decide +kernel
theorem cd_55_13 : qa_code 55 13 = some (2, 0, 0, 14, 0) := by decide +kernel
theorem cd_55_14 : qa_code 55 14 = some (13, 3, 6, 17, 35) := by decide +kernel
theorem cd_55_17 : qa_code 55 17 = some (1, 1, 0, 18, 0) := by decide +kernel
theorem cd_55_18 : qa_code 55 18 = some (0, 0, 0, 19, 0) := by decide +kernel
theorem cd_55_19 : qa_code 55 19 = some (11, 0, 0, 20, 0) := by decide +kernel
theorem cd_55_20 : qa_code 55 20 = some (20, 0, 0, 20, 0) := by decide +kernel
theorem cd_55_21 : qa_code 55 21 = some (1, 4, 0, 23, 0) := by decide +kernel
theorem cd_55_23 : qa_code 55 23 = some (1, 3, 0, 24, 0) := by decide +kernel
theorem cd_55_24 : qa_code 55 24 = some (15, 5, 34, 27, 0) := by decide +kernel
theorem cd_55_27 : qa_code 55 27 = some (1, 4, 0, 29, 0) := by decide +kernel
theorem cd_55_29 : qa_code 55 29 = some (0, 0, 1, 30, 0) := by decide +kernel
theorem cd_55_30 : qa_code 55 30 = some (6, 2, 0, 31, 0) := by decide +kernel
theorem cd_55_31 : qa_code 55 31 = some (17, 0, 0, 35, 0) := by decide +kernel
theorem cd_55_34 : qa_code 55 34 = some (1, 3, 0, 35, 0) := by decide +kernel
theorem cd_55_35 : qa_code 55 35 = some (3, 6, 0, 37, 0) := by decide +kernel
theorem cd_55_37 : qa_code 55 37 = some (2, 0, 0, 38, 0) := by decide +kernel
theorem cd_55_38 : qa_code 55 38 = some (13, 3, 5, 41, 32) := by decide +kernel
theorem cd_55_41 : qa_code 55 41 = some (1, 1, 0, 42, 0) := by decide +kernel
theorem cd_55_42 : qa_code 55 42 = some (2, 0, 0, 43, 0) := by decide +kernel
theorem cd_55_43 : qa_code 55 43 = some (13, 3, 4, 46, 28) := by decide +kernel
theorem cd_55_46 : qa_code 55 46 = some (1, 6, 0, 48, 0) := by decide +kernel
theorem cd_55_48 : qa_code 55 48 = some (18, 6, 2, 51, 106) := by decide +kernel
theorem cd_55_51 : qa_code 55 51 = some (11, 0, 0, 52, 0) := by decide +kernel
theorem cd_55_52 : qa_code 55 52 = some (2, 0, 0, 53, 0) := by decide +kernel
theorem cd_55_53 : qa_code 55 53 = some (13, 3, 6, 56, 35) := by decide +kernel
theorem cd_55_56 : qa_code 55 56 = some (1, 1, 0, 57, 0) := by decide +kernel
theorem cd_55_57 : qa_code 55 57 = some (2, 0, 0, 58, 0) := by decide +kernel
theorem cd_55_58 : qa_code 55 58 = some (13, 3, 4, 61, 28) := by decide +kernel
theorem cd_55_61 : qa_code 55 61 = some (1, 6, 0, 63, 0) := by decide +kernel
theorem cd_55_63 : qa_code 55 63 = some (18, 7, 2, 66, 109) := by decide +kernel
theorem cd_55_66 : qa_code 55 66 = some (11, 0, 0, 67, 0) := by decide +kernel
theorem cd_55_67 : qa_code 55 67 = some (1, 4, 0, 69, 0) := by decide +kernel
theorem cd_55_69 : qa_code 55 69 = some (1, 5, 0, 71, 0) := by decide +kernel
theorem cd_55_71 : qa_code 55 71 = some (15, 3, 91, 74, 0) := by decide +kernel
theorem cd_55_74 : qa_code 55 74 = some (2, 0, 0, 75, 0) := by decide +kernel
theorem cd_55_75 : qa_code 55 75 = some (13, 3, 4, 78, 28) := by decide +kernel
theorem cd_55_78 : qa_code 55 78 = some (1, 6, 0, 80, 0) := by decide +kernel
theorem cd_55_80 : qa_code 55 80 = some (18, 5, 2, 83, 87) := by decide +kernel
theorem cd_55_83 : qa_code 55 83 = some (1, 2, 0, 84, 0) := by decide +kernel
theorem cd_55_84 : qa_code 55 84 = some (15, 3, 91, 87, 0) := by decide +kernel
theorem cd_55_87 : qa_code 55 87 = some (0, 0, 1, 88, 0) := by decide +kernel
theorem cd_55_88 : qa_code 55 88 = some (17, 0, 0, 92, 0) := by decide +kernel
theorem cd_55_91 : qa_code 55 91 = some (0, 0, 0, 92, 0) := by decide +kernel
theorem cd_55_92 : qa_code 55 92 = some (3, 7, 0, 94, 0) := by decide +kernel
theorem cd_55_94 : qa_code 55 94 = some (1, 7, 0, 96, 0) := by decide +kernel
theorem cd_55_96 : qa_code 55 96 = some (16, 0, 147, 99, 0) := by decide +kernel
theorem cd_55_99 : qa_code 55 99 = some (2, 0, 0, 100, 0) := by decide +kernel
theorem cd_55_100 : qa_code 55 100 = some (13, 3, 4, 103, 28) := by decide +kernel
theorem cd_55_103 : qa_code 55 103 = some (1, 6, 0, 105, 0) := by decide +kernel
theorem cd_55_105 : qa_code 55 105 = some (18, 8, 2, 108, 84) := by decide +kernel
theorem cd_55_108 : qa_code 55 108 = some (16, 0, 147, 111, 0) := by decide +kernel
theorem cd_55_111 : qa_code 55 111 = some (2, 0, 0, 112, 0) := by decide +kernel
theorem cd_55_112 : qa_code 55 112 = some (13, 3, 5, 115, 32) := by decide +kernel
theorem cd_55_115 : qa_code 55 115 = some (1, 1, 0, 116, 0) := by decide +kernel
theorem cd_55_116 : qa_code 55 116 = some (9, 0, 0, 117, 0) := by decide +kernel
theorem cd_55_117 : qa_code 55 117 = some (10, 0, 0, 118, 0) := by decide +kernel
theorem cd_55_118 : qa_code 55 118 = some (2, 0, 0, 119, 0) := by decide +kernel
theorem cd_55_119 : qa_code 55 119 = some (1, 6, 0, 121, 0) := by decide +kernel
theorem cd_55_121 : qa_code 55 121 = some (1, 4, 0, 123, 0) := by decide +kernel
theorem cd_55_123 : qa_code 55 123 = some (1, 2, 0, 124, 0) := by decide +kernel
theorem cd_55_124 : qa_code 55 124 = some (18, 56, 4, 127, 112) := by decide +kernel
theorem cd_55_127 : qa_code 55 127 = some (6, 0, 0, 128, 0) := by decide +kernel
theorem cd_55_128 : qa_code 55 128 = some (11, 0, 0, 129, 0) := by decide +kernel
theorem cd_55_129 : qa_code 55 129 = some (2, 0, 0, 130, 0) := by decide +kernel
theorem cd_55_130 : qa_code 55 130 = some (13, 3, 6, 133, 35) := by decide +kernel
theorem cd_55_133 : qa_code 55 133 = some (1, 1, 0, 134, 0) := by decide +kernel
theorem cd_55_134 : qa_code 55 134 = some (9, 0, 0, 135, 0) := by decide +kernel
theorem cd_55_135 : qa_code 55 135 = some (10, 0, 0, 136, 0) := by decide +kernel
theorem cd_55_136 : qa_code 55 136 = some (2, 0, 0, 137, 0) := by decide +kernel
theorem cd_55_137 : qa_code 55 137 = some (13, 3, 4, 140, 28) := by decide +kernel
theorem cd_55_140 : qa_code 55 140 = some (1, 4, 0, 142, 0) := by decide +kernel
theorem cd_55_142 : qa_code 55 142 = some (18, 7, 2, 145, 109) := by decide +kernel
theorem cd_55_145 : qa_code 55 145 = some (6, 7, 0, 146, 0) := by decide +kernel
theorem cd_55_146 : qa_code 55 146 = some (11, 0, 0, 147, 0) := by decide +kernel
theorem cd_55_147 : qa_code 55 147 = some (20, 0, 0, 147, 0) := by decide +kernel
theorem cd_56_0 : qa_code 56 0 = some (2, 0, 0, 1, 0) := by decide +kernel
theorem cd_56_1 : qa_code 56 1 = some (13, 3, 4, 4, 28) := by decide +kernel
theorem cd_56_4 : qa_code 56 4 = some (1, 2, 0, 5, 0) := by decide +kernel
theorem cd_56_5 : qa_code 56 5 = some (18, 5, 2, 8, 87) := by decide +kernel
theorem cd_56_8 : qa_code 56 8 = some (2, 0, 0, 9, 0) := by decide +kernel
theorem cd_56_9 : qa_code 56 9 = some (13, 3, 4, 12, 28) := by decide +kernel
theorem cd_56_12 : qa_code 56 12 = some (1, 1, 0, 13, 0) := by decide +kernel
theorem cd_56_13 : qa_code 56 13 = some (18, 5, 2, 16, 87) := by decide +kernel
theorem cd_56_16 : qa_code 56 16 = some (6, 2, 0, 17, 0) := by decide +kernel
theorem cd_56_17 : qa_code 56 17 = some (3, 4, 0, 19, 0) := by decide +kernel
theorem cd_56_19 : qa_code 56 19 = some (1, 4, 0, 21, 0) := by decide +kernel
theorem cd_56_21 : qa_code 56 21 = some (16, 4, 26, 24, 0) := by decide +kernel
theorem cd_56_24 : qa_code 56 24 = some (0, 0, 0, 25, 0) := by decide +kernel
theorem cd_56_25 : qa_code 56 25 = some (19, 0, 0, 25, 0) := by decide +kernel
theorem cd_56_26 : qa_code 56 26 = some (2, 0, 0, 27, 0) := by decide +kernel
theorem cd_56_27 : qa_code 56 27 = some (13, 3, 4, 30, 28) := by decide +kernel
theorem cd_56_30 : qa_code 56 30 = some (1, 2, 0, 31, 0) := by decide +kernel
theorem cd_56_31 : qa_code 56 31 = some (18, 6, 2, 34, 106) := by decide +kernel
theorem cd_56_34 : qa_code 56 34 = some (2, 0, 0, 35, 0) := by decide +kernel
theorem cd_56_35 : qa_code 56 35 = some (13, 3, 4, 38, 28) := by decide +kernel
theorem cd_56_38 : qa_code 56 38 = some (1, 1, 0, 39, 0) := by decide +kernel
theorem cd_56_39 : qa_code 56 39 = some (18, 6, 2, 42, 106) := by decide +kernel
theorem cd_56_42 : qa_code 56 42 = some (6, 2, 0, 43, 0) := by decide +kernel
theorem cd_56_43 : qa_code 56 43 = some (3, 5, 0, 45, 0) := by decide +kernel
theorem cd_56_45 : qa_code 56 45 = some (1, 5, 0, 47, 0) := by decide +kernel
theorem cd_56_47 : qa_code 56 47 = some (1, 3, 0, 48, 0) := by decide +kernel
theorem cd_56_48 : qa_code 56 48 = some (2, 0, 0, 49, 0) := by decide +kernel
theorem cd_56_49 : qa_code 56 49 = some (13, 3, 4, 52, 28) := by decide +kernel
theorem cd_56_52 : qa_code 56 52 = some (1, 1, 0, 53, 0) := by decide +kernel
theorem cd_56_53 : qa_code 56 53 = some (18, 5, 2, 56, 87) := by decide +kernel
theorem cd_56_56 : qa_code 56 56 = some (6, 2, 0, 57, 0) := by decide +kernel
theorem cd_56_57 : qa_code 56 57 = some (6, 3, 0, 58, 0) := by decide +kernel
theorem cd_56_58 : qa_code 56 58 = some (1, 4, 0, 60, 0) := by decide +kernel
theorem cd_56_60 : qa_code 56 60 = some (18, 0, 2, 63, 116) := by decide +kernel
theorem cd_56_63 : qa_code 56 63 = some (19, 0, 0, 63, 0) := by decide +kernel
theorem cd_57_0 : qa_code 57 0 = some (2, 0, 0, 1, 0) := by decide +kernel
theorem cd_57_1 : qa_code 57 1 = some (13, 4, 2, 4, 18) := by decide +kernel
theorem cd_57_4 : qa_code 57 4 = some (1, 1, 0, 5, 0) := by decide +kernel
theorem cd_57_5 : qa_code 57 5 = some (10, 0, 0, 6, 0) := by decide +kernel
theorem cd_57_6 : qa_code 57 6 = some (19, 0, 0, 6, 0) := by decide +kernel
theorem cd_58_0 : qa_code 58 0 = some (2, 0, 0, 1, 0) := by decide +kernel
theorem cd_58_1 : qa_code 58 1 = some (13, 4, 2, 4, 18) := by decide +kernel
theorem cd_58_4 : qa_code 58 4 = some (1, 1, 0, 5, 0) := by decide +kernel
theorem cd_58_5 : qa_code 58 5 = some (10, 0, 0, 6, 0) := by decide +kernel
theorem cd_58_6 : qa_code 58 6 = some (0, 0, 1, 7, 0) := by decide +kernel
theorem cd_58_7 : qa_code 58 7 = some (15, 1, 14, 10, 0) := by decide +kernel
theorem cd_58_10 : qa_code 58 10 = some (0, 0, 1, 11, 0) := by decide +kernel
theorem cd_58_11 : qa_code 58 11 = some (17, 0, 0, 15, 0) := by decide +kernel
theorem cd_58_14 : qa_code 58 14 = some (0, 0, 0, 15, 0) := by decide +kernel
theorem cd_58_15 : qa_code 58 15 = some (19, 1, 0, 15, 0) := by decide +kernel
theorem cd_59_0 : qa_code 59 0 = some (0, 0, 0, 1, 0) := by decide +kernel
theorem cd_59_1 : qa_code 59 1 = some (3, 3, 0, 2, 0) := by decide +kernel
theorem cd_59_2 : qa_code 59 2 = some (1, 3, 0, 3, 0) := by decide +kernel
theorem cd_59_3 : qa_code 59 3 = some (2, 2, 0, 4, 0) := by decide +kernel
theorem cd_59_4 : qa_code 59 4 = some (18, 39, 1, 7, 21) := by decide +kernel
theorem cd_59_7 : qa_code 59 7 = some (15, 3, 33, 10, 0) := by decide +kernel
theorem cd_59_10 : qa_code 59 10 = some (2, 0, 0, 11, 0) := by decide +kernel
theorem cd_59_11 : qa_code 59 11 = some (13, 4, 0, 14, 9) := by decide +kernel
theorem cd_59_14 : qa_code 59 14 = some (1, 3, 0, 15, 0) := by decide +kernel
theorem cd_59_15 : qa_code 59 15 = some (0, 0, 120, 17, 0) := by decide +kernel
theorem cd_59_17 : qa_code 59 17 = some (6, 3, 0, 18, 0) := by decide +kernel
theorem cd_59_18 : qa_code 59 18 = some (1, 1, 0, 19, 0) := by decide +kernel
theorem cd_59_19 : qa_code 59 19 = some (6, 0, 0, 20, 0) := by decide +kernel
theorem cd_59_20 : qa_code 59 20 = some (2, 2, 0, 21, 0) := by decide +kernel
theorem cd_59_21 : qa_code 59 21 = some (1, 3, 0, 22, 0) := by decide +kernel
theorem cd_59_22 : qa_code 59 22 = some (1, 1, 0, 23, 0) := by decide +kernel
theorem cd_59_23 : qa_code 59 23 = some (18, 48, 3, 26, 27) := by decide +kernel
theorem cd_59_26 : qa_code 59 26 = some (11, 0, 0, 27, 0) := by decide +kernel
theorem cd_59_27 : qa_code 59 27 = some (5, 3, 1, 30, 0) := by decide +kernel
theorem cd_59_30 : qa_code 59 30 = some (17, 0, 0, 2, 0) := by decide +kernel
theorem cd_59_33 : qa_code 59 33 = some (2, 0, 0, 34, 0) := by decide +kernel
theorem cd_59_34 : qa_code 59 34 = some (13, 4, 1, 37, 15) := by decide +kernel
theorem cd_59_37 : qa_code 59 37 = some (1, 1, 0, 38, 0) := by decide +kernel
theorem cd_59_38 : qa_code 59 38 = some (2, 2, 0, 39, 0) := by decide +kernel
theorem cd_59_39 : qa_code 59 39 = some (18, 38, 1, 42, 31) := by decide +kernel
theorem cd_59_42 : qa_code 59 42 = some (11, 0, 0, 43, 0) := by decide +kernel
theorem cd_59_43 : qa_code 59 43 = some (2, 0, 0, 44, 0) := by decide +kernel
theorem cd_59_44 : qa_code 59 44 = some (13, 4, 2, 47, 18) := by decide +kernel
theorem cd_59_47 : qa_code 59 47 = some (1, 1, 0, 48, 0) := by decide +kernel
theorem cd_59_48 : qa_code 59 48 = some (0, 0, 1, 49, 0) := by decide +kernel
theorem cd_59_49 : qa_code 59 49 = some (11, 0, 0, 50, 0) := by decide +kernel
theorem cd_59_50 : qa_code 59 50 = some (20, 0, 0, 50, 0) := by decide +kernel
theorem cd_60_0 : qa_code 60 0 = some (0, 0, 0, 1, 0) := by decide +kernel
theorem cd_60_1 : qa_code 60 1 = some (3, 2, 0, 2, 0) := by decide +kernel
theorem cd_60_2 : qa_code 60 2 = some (1, 2, 0, 3, 0) := by decide +kernel
theorem cd_60_3 : qa_code 60 3 = some (0, 0, 120, 5, 0) := by decide +kernel
theorem cd_60_5 : qa_code 60 5 = some (15, 3, 43, 8, 0) := by decide +kernel
theorem cd_60_8 : qa_code 60 8 = some (2, 0, 0, 9, 0) := by decide +kernel
theorem cd_60_9 : qa_code 60 9 = some (13, 4, 2, 12, 18) := by decide +kernel
theorem cd_60_12 : qa_code 60 12 = some (1, 2, 0, 13, 0) := by decide +kernel
theorem cd_60_13 : qa_code 60 13 = some (10, 0, 0, 14, 0) := by decide +kernel
theorem cd_60_14 : qa_code 60 14 = some (16, 0, 37, 17, 0) := by decide +kernel
theorem cd_60_17 : qa_code 60 17 = some (2, 0, 0, 18, 0) := by decide +kernel
theorem cd_60_18 : qa_code 60 18 = some (13, 4, 2, 21, 18) := by decide +kernel
theorem cd_60_21 : qa_code 60 21 = some (1, 2, 0, 22, 0) := by decide +kernel
theorem cd_60_22 : qa_code 60 22 = some (2, 0, 0, 23, 0) := by decide +kernel
theorem cd_60_23 : qa_code 60 23 = some (1, 2, 0, 24, 0) := by decide +kernel
theorem cd_60_24 : qa_code 60 24 = some (2, 1, 0, 25, 0) := by decide +kernel
theorem cd_60_25 : qa_code 60 25 = some (18, 63, 3, 28, 34) := by decide +kernel
theorem cd_60_28 : qa_code 60 28 = some (16, 0, 35, 31, 0) := by decide +kernel
theorem cd_60_31 : qa_code 60 31 = some (0, 0, 1, 32, 0) := by decide +kernel
theorem cd_60_32 : qa_code 60 32 = some (17, 0, 0, 36, 0) := by decide +kernel
theorem cd_60_35 : qa_code 60 35 = some (0, 0, 2, 36, 0) := by decide +kernel
theorem cd_60_36 : qa_code 60 36 = some (11, 0, 0, 37, 0) := by decide +kernel
theorem cd_60_37 : qa_code 60 37 = some (5, 2, 1, 40, 0) := by decide +kernel
theorem cd_60_40 : qa_code 60 40 = some (17, 0, 0, 2, 0) := by decide +kernel
theorem cd_60_43 : qa_code 60 43 = some (20, 0, 0, 43, 0) := by decide +kernel
theorem cd_61_0 : qa_code 61 0 = some (0, 0, 0, 1, 0) := by decide +kernel
theorem cd_61_1 : qa_code 61 1 = some (3, 1, 0, 2, 0) := by decide +kernel
theorem cd_61_2 : qa_code 61 2 = some (0, 0, 0, 3, 0) := by decide +kernel
theorem cd_61_3 : qa_code 61 3 = some (3, 2, 0, 4, 0) := by decide +kernel
theorem cd_61_4 : qa_code 61 4 = some (1, 2, 0, 5, 0) := by decide +kernel
theorem cd_61_5 : qa_code 61 5 = some (0, 0, 120, 7, 0) := by decide +kernel
theorem cd_61_7 : qa_code 61 7 = some (15, 3, 29, 10, 0) := by decide +kernel
theorem cd_61_10 : qa_code 61 10 = some (2, 0, 0, 11, 0) := by decide +kernel
theorem cd_61_11 : qa_code 61 11 = some (13, 4, 2, 14, 18) := by decide +kernel
theorem cd_61_14 : qa_code 61 14 = some (1, 2, 0, 15, 0) := by decide +kernel
theorem cd_61_15 : qa_code 61 15 = some (10, 0, 0, 16, 0) := by decide +kernel
theorem cd_61_16 : qa_code 61 16 = some (0, 0, 2, 17, 0) := by decide +kernel
theorem cd_61_17 : qa_code 61 17 = some (15, 1, 23, 20, 0) := by decide +kernel
theorem cd_61_20 : qa_code 61 20 = some (5, 1, 1, 23, 0) := by decide +kernel
theorem cd_61_23 : qa_code 61 23 = some (5, 2, 1, 26, 0) := by decide +kernel
theorem cd_61_26 : qa_code 61 26 = some (17, 0, 0, 4, 0) := by decide +kernel
theorem cd_61_29 : qa_code 61 29 = some (1, 1, 0, 30, 0) := by decide +kernel
theorem cd_61_30 : qa_code 61 30 = some (19, 0, 0, 30, 0) := by decide +kernel
theorem cd_62_0 : qa_code 62 0 = some (0, 0, 0, 1, 0) := by decide +kernel
theorem cd_62_1 : qa_code 62 1 = some (3, 2, 0, 2, 0) := by decide +kernel
theorem cd_62_2 : qa_code 62 2 = some (0, 0, 0, 3, 0) := by decide +kernel
theorem cd_62_3 : qa_code 62 3 = some (3, 3, 0, 4, 0) := by decide +kernel
theorem cd_62_4 : qa_code 62 4 = some (1, 3, 0, 5, 0) := by decide +kernel
theorem cd_62_5 : qa_code 62 5 = some (0, 0, 120, 7, 0) := by decide +kernel
theorem cd_62_7 : qa_code 62 7 = some (15, 3, 37, 10, 0) := by decide +kernel
theorem cd_62_10 : qa_code 62 10 = some (2, 0, 0, 11, 0) := by decide +kernel
theorem cd_62_11 : qa_code 62 11 = some (13, 4, 2, 14, 18) := by decide +kernel
theorem cd_62_14 : qa_code 62 14 = some (1, 3, 0, 15, 0) := by decide +kernel
theorem cd_62_15 : qa_code 62 15 = some (10, 0, 0, 16, 0) := by decide +kernel
theorem cd_62_16 : qa_code 62 16 = some (16, 0, 31, 19, 0) := by decide +kernel
theorem cd_62_19 : qa_code 62 19 = some (2, 0, 0, 20, 0) := by decide +kernel
theorem cd_62_20 : qa_code 62 20 = some (1, 3, 0, 21, 0) := by decide +kernel
theorem cd_62_21 : qa_code 62 21 = some (2, 1, 0, 22, 0) := by decide +kernel
theorem cd_62_22 : qa_code 62 22 = some (18, 63, 3, 25, 34) := by decide +kernel
theorem cd_62_25 : qa_code 62 25 = some (16, 1, 31, 28, 0) := by decide +kernel
theorem cd_62_28 : qa_code 62 28 = some (5, 2, 1, 31, 0) := by decide +kernel
theorem cd_62_31 : qa_code 62 31 = some (5, 3, 1, 34, 0) := by decide +kernel
theorem cd_62_34 : qa_code 62 34 = some (17, 0, 0, 4, 0) := by decide +kernel
theorem cd_62_37 : qa_code 62 37 = some (1, 2, 0, 38, 0) := by decide +kernel
theorem cd_62_38 : qa_code 62 38 = some (19, 0, 0, 38, 0) := by decide +kernel
theorem cd_63_0 : qa_code 63 0 = some (2, 0, 0, 1, 0) := by decide +kernel
theorem cd_63_1 : qa_code 63 1 = some (13, 4, 1, 4, 15) := by decide +kernel
theorem cd_63_4 : qa_code 63 4 = some (1, 1, 0, 5, 0) := by decide +kernel
theorem cd_63_5 : qa_code 63 5 = some (10, 0, 0, 6, 0) := by decide +kernel
theorem cd_63_6 : qa_code 63 6 = some (2, 2, 0, 7, 0) := by decide +kernel
theorem cd_63_7 : qa_code 63 7 = some (18, 38, 1, 10, 31) := by decide +kernel
theorem cd_63_10 : qa_code 63 10 = some (15, 0, 15, 13, 0) := by decide +kernel
theorem cd_63_13 : qa_code 63 13 = some (0, 0, 0, 14, 0) := by decide +kernel
theorem cd_63_14 : qa_code 63 14 = some (19, 1, 0, 14, 0) := by decide +kernel
theorem cd_63_15 : qa_code 63 15 = some (0, 0, 0, 16, 0) := by decide +kernel
theorem cd_63_16 : qa_code 63 16 = some (3, 3, 0, 17, 0) := by decide +kernel
theorem cd_63_17 : qa_code 63 17 = some (1, 3, 0, 18, 0) := by decide +kernel
theorem cd_63_18 : qa_code 63 18 = some (2, 2, 0, 19, 0) := by decide +kernel
theorem cd_63_19 : qa_code 63 19 = some (18, 39, 1, 22, 21) := by decide +kernel
theorem cd_63_22 : qa_code 63 22 = some (15, 3, 53, 25, 0) := by decide +kernel
theorem cd_63_25 : qa_code 63 25 = some (2, 0, 0, 26, 0) := by decide +kernel
theorem cd_63_26 : qa_code 63 26 = some (13, 4, 0, 29, 9) := by decide +kernel
theorem cd_63_29 : qa_code 63 29 = some (1, 3, 0, 30, 0) := by decide +kernel
theorem cd_63_30 : qa_code 63 30 = some (0, 0, 120, 32, 0) := by decide +kernel
theorem cd_63_32 : qa_code 63 32 = some (6, 3, 0, 33, 0) := by decide +kernel
theorem cd_63_33 : qa_code 63 33 = some (1, 1, 0, 34, 0) := by decide +kernel
theorem cd_63_34 : qa_code 63 34 = some (6, 0, 0, 35, 0) := by decide +kernel
theorem cd_63_35 : qa_code 63 35 = some (10, 0, 0, 36, 0) := by decide +kernel
theorem cd_63_36 : qa_code 63 36 = some (2, 2, 0, 37, 0) := by decide +kernel
theorem cd_63_37 : qa_code 63 37 = some (1, 3, 0, 38, 0) := by decide +kernel
theorem cd_63_38 : qa_code 63 38 = some (1, 1, 0, 39, 0) := by decide +kernel
theorem cd_63_39 : qa_code 63 39 = some (18, 48, 3, 42, 27) := by decide +kernel
theorem cd_63_42 : qa_code 63 42 = some (15, 0, 47, 45, 0) := by decide +kernel
theorem cd_63_45 : qa_code 63 45 = some (0, 0, 0, 46, 0) := by decide +kernel
theorem cd_63_46 : qa_code 63 46 = some (19, 1, 0, 46, 0) := by decide +kernel
theorem cd_63_47 : qa_code 63 47 = some (5, 3, 1, 50, 0) := by decide +kernel
theorem cd_63_50 : qa_code 63 50 = some (17, 0, 0, 17, 0) := by decide +kernel
theorem cd_63_53 : qa_code 63 53 = some (0, 0, 1, 54, 0) := by decide +kernel
theorem cd_63_54 : qa_code 63 54 = some (19, 1, 0, 54, 0) := by decide +kernel
theorem cd_64_0 : qa_code 64 0 = some (2, 0, 0, 1, 0) := by decide +kernel
theorem cd_64_1 : qa_code 64 1 = some (12, 6, 26, 4, 65) := by decide +kernel
theorem cd_64_4 : qa_code 64 4 = some (19, 0, 0, 4, 0) := by decide +kernel
theorem cd_65_0 : qa_code 65 0 = some (2, 0, 0, 1, 0) := by decide +kernel
theorem cd_65_1 : qa_code 65 1 = some (1, 1, 0, 2, 0) := by decide +kernel
theorem cd_65_2 : qa_code 65 2 = some (14, 6, 26, 5, 65) := by decide +kernel
theorem cd_65_5 : qa_code 65 5 = some (1, 1, 0, 6, 0) := by decide +kernel
theorem cd_65_6 : qa_code 65 6 = some (16, 5, 13, 9, 0) := by decide +kernel
theorem cd_65_9 : qa_code 65 9 = some (0, 0, 1, 10, 0) := by decide +kernel
theorem cd_65_10 : qa_code 65 10 = some (17, 0, 0, 14, 0) := by decide +kernel
theorem cd_65_13 : qa_code 65 13 = some (0, 0, 0, 14, 0) := by decide +kernel
theorem cd_65_14 : qa_code 65 14 = some (19, 1, 0, 14, 0) := by decide +kernel
theorem cd_66_0 : qa_code 66 0 = some (1, 0, 0, 1, 0) := by decide +kernel
theorem cd_66_1 : qa_code 66 1 = some (1, 1, 0, 2, 0) := by decide +kernel
theorem cd_66_2 : qa_code 66 2 = some (15, 2, 14, 5, 0) := by decide +kernel
theorem cd_66_5 : qa_code 66 5 = some (1, 0, 0, 6, 0) := by decide +kernel
theorem cd_66_6 : qa_code 66 6 = some (1, 2, 0, 7, 0) := by decide +kernel
theorem cd_66_7 : qa_code 66 7 = some (15, 4, 14, 10, 0) := by decide +kernel
theorem cd_66_10 : qa_code 66 10 = some (0, 0, 1, 11, 0) := by decide +kernel
theorem cd_66_11 : qa_code 66 11 = some (17, 0, 0, 15, 0) := by decide +kernel
theorem cd_66_14 : qa_code 66 14 = some (0, 0, 0, 15, 0) := by decide +kernel
theorem cd_66_15 : qa_code 66 15 = some (19, 1, 0, 15, 0) := by decide +kernel
theorem cd_67_0 : qa_code 67 0 = some (1, 1, 0, 1, 0) := by decide +kernel
theorem cd_67_1 : qa_code 67 1 = some (0, 0, 0, 2, 0) := by decide +kernel
theorem cd_67_2 : qa_code 67 2 = some (2, 0, 0, 3, 0) := by decide +kernel
theorem cd_67_3 : qa_code 67 3 = some (12, 6, 0, 6, 69) := by decide +kernel
theorem cd_67_6 : qa_code 67 6 = some (0, 0, 1, 7, 0) := by decide +kernel
theorem cd_67_7 : qa_code 67 7 = some (6, 2, 0, 8, 0) := by decide +kernel
theorem cd_67_8 : qa_code 67 8 = some (18, 66, 3, 11, 72) := by decide +kernel
theorem cd_67_11 : qa_code 67 11 = some (19, 1, 0, 11, 0) := by decide +kernel
theorem cd_68_0 : qa_code 68 0 = some (1, 0, 0, 1, 0) := by decide +kernel
theorem cd_68_1 : qa_code 68 1 = some (0, 0, 0, 2, 0) := by decide +kernel
theorem cd_68_2 : qa_code 68 2 = some (0, 0, 119, 4, 0) := by decide +kernel
theorem cd_68_4 : qa_code 68 4 = some (18, 66, 3, 7, 72) := by decide +kernel
theorem cd_68_7 : qa_code 68 7 = some (19, 1, 0, 7, 0) := by decide +kernel
theorem cd_69_0 : qa_code 69 0 = some (2, 0, 0, 1, 0) := by decide +kernel
theorem cd_69_1 : qa_code 69 1 = some (1, 1, 0, 2, 0) := by decide +kernel
theorem cd_69_2 : qa_code 69 2 = some (18, 67, 2, 5, 76) := by decide +kernel
theorem cd_69_5 : qa_code 69 5 = some (16, 0, 28, 8, 0) := by decide +kernel
theorem cd_69_8 : qa_code 69 8 = some (1, 2, 0, 9, 0) := by decide +kernel
theorem cd_69_9 : qa_code 69 9 = some (0, 0, 0, 10, 0) := by decide +kernel
theorem cd_69_10 : qa_code 69 10 = some (0, 0, 2, 11, 0) := by decide +kernel
theorem cd_69_11 : qa_code 69 11 = some (18, 66, 3, 14, 72) := by decide +kernel
theorem cd_69_14 : qa_code 69 14 = some (16, 0, 28, 17, 0) := by decide +kernel
theorem cd_69_17 : qa_code 69 17 = some (1, 3, 0, 18, 0) := by decide +kernel
theorem cd_69_18 : qa_code 69 18 = some (18, 68, 1, 21, 80) := by decide +kernel
theorem cd_69_21 : qa_code 69 21 = some (16, 0, 28, 24, 0) := by decide +kernel
theorem cd_69_24 : qa_code 69 24 = some (0, 0, 1, 25, 0) := by decide +kernel
theorem cd_69_25 : qa_code 69 25 = some (17, 0, 0, 29, 0) := by decide +kernel
theorem cd_69_28 : qa_code 69 28 = some (0, 0, 0, 29, 0) := by decide +kernel
theorem cd_69_29 : qa_code 69 29 = some (19, 1, 0, 29, 0) := by decide +kernel
theorem cd_70_0 : qa_code 70 0 = some (0, 0, 120, 2, 0) := by decide +kernel
theorem cd_70_2 : qa_code 70 2 = some (0, 0, 3, 3, 0) := by decide +kernel
theorem cd_70_3 : qa_code 70 3 = some (1, 0, 0, 4, 0) := by decide +kernel
theorem cd_70_4 : qa_code 70 4 = some (6, 3, 0, 5, 0) := by decide +kernel
theorem cd_70_5 : qa_code 70 5 = some (1, 1, 0, 6, 0) := by decide +kernel
theorem cd_70_6 : qa_code 70 6 = some (6, 0, 0, 7, 0) := by decide +kernel
theorem cd_70_7 : qa_code 70 7 = some (6, 3, 0, 8, 0) := by decide +kernel
theorem cd_70_8 : qa_code 70 8 = some (1, 2, 0, 9, 0) := by decide +kernel
theorem cd_70_9 : qa_code 70 9 = some (6, 0, 0, 10, 0) := by decide +kernel
theorem cd_70_10 : qa_code 70 10 = some (19, 0, 0, 10, 0) := by decide +kernel
theorem cd_71_0 : qa_code 71 0 = some (1, 1, 0, 1, 0) := by decide +kernel
theorem cd_71_1 : qa_code 71 1 = some (0, 0, -1, 2, 0) := by decide +kernel
theorem cd_71_2 : qa_code 71 2 = some (15, 0, 13, 5, 0) := by decide +kernel
theorem cd_71_5 : qa_code 71 5 = some (2, 0, 0, 6, 0) := by decide +kernel
theorem cd_71_6 : qa_code 71 6 = some (1, 1, 0, 7, 0) := by decide +kernel
theorem cd_71_7 : qa_code 71 7 = some (18, 67, 2, 10, 76) := by decide +kernel
theorem cd_71_10 : qa_code 71 10 = some (16, 0, 17, 13, 0) := by decide +kernel
theorem cd_71_13 : qa_code 71 13 = some (0, 0, 1, 14, 0) := by decide +kernel
theorem cd_71_14 : qa_code 71 14 = some (17, 0, 0, 18, 0) := by decide +kernel
theorem cd_71_17 : qa_code 71 17 = some (0, 0, 0, 18, 0) := by decide +kernel
theorem cd_71_18 : qa_code 71 18 = some (3, 4, 0, 20, 0) := by decide +kernel
theorem cd_71_20 : qa_code 71 20 = some (1, 2, 0, 21, 0) := by decide +kernel
theorem cd_71_21 : qa_code 71 21 = some (0, 0, -100, 23, 0) := by decide +kernel
theorem cd_71_23 : qa_code 71 23 = some (0, 0, 100, 25, 0) := by decide +kernel
theorem cd_71_25 : qa_code 71 25 = some (18, 66, 3, 28, 72) := by decide +kernel
theorem cd_71_28 : qa_code 71 28 = some (16, 0, 46, 31, 0) := by decide +kernel
theorem cd_71_31 : qa_code 71 31 = some (1, 3, 0, 32, 0) := by decide +kernel
theorem cd_71_32 : qa_code 71 32 = some (0, 0, -100, 34, 0) := by decide +kernel
theorem cd_71_34 : qa_code 71 34 = some (0, 0, 100, 36, 0) := by decide +kernel
theorem cd_71_36 : qa_code 71 36 = some (18, 66, 3, 39, 72) := by decide +kernel
theorem cd_71_39 : qa_code 71 39 = some (16, 0, 46, 42, 0) := by decide +kernel
theorem cd_71_42 : qa_code 71 42 = some (0, 0, 1, 43, 0) := by decide +kernel
theorem cd_71_43 : qa_code 71 43 = some (17, 0, 0, 47, 0) := by decide +kernel
theorem cd_71_46 : qa_code 71 46 = some (0, 0, 0, 47, 0) := by decide +kernel
theorem cd_71_47 : qa_code 71 47 = some (3, 5, 0, 49, 0) := by decide +kernel
theorem cd_71_49 : qa_code 71 49 = some (2, 0, 0, 50, 0) := by decide +kernel
theorem cd_71_50 : qa_code 71 50 = some (1, 4, 0, 52, 0) := by decide +kernel
theorem cd_71_52 : qa_code 71 52 = some (16, 1, 59, 55, 0) := by decide +kernel
theorem cd_71_55 : qa_code 71 55 = some (0, 0, 1, 56, 0) := by decide +kernel
theorem cd_71_56 : qa_code 71 56 = some (17, 0, 0, 82, 0) := by decide +kernel
theorem cd_71_59 : qa_code 71 59 = some (1, 5, 0, 61, 0) := by decide +kernel
theorem cd_71_61 : qa_code 71 61 = some (16, 1, 68, 64, 0) := by decide +kernel
theorem cd_71_64 : qa_code 71 64 = some (0, 0, 2, 65, 0) := by decide +kernel
theorem cd_71_65 : qa_code 71 65 = some (17, 0, 0, 82, 0) := by decide +kernel
theorem cd_71_68 : qa_code 71 68 = some (2, 0, 0, 69, 0) := by decide +kernel
theorem cd_71_69 : qa_code 71 69 = some (12, 6, 0, 72, 69) := by decide +kernel
theorem cd_71_72 : qa_code 71 72 = some (0, 0, 8, 74, 0) := by decide +kernel
theorem cd_71_74 : qa_code 71 74 = some (15, 1, 81, 77, 0) := by decide +kernel
theorem cd_71_77 : qa_code 71 77 = some (0, 0, 3, 78, 0) := by decide +kernel
theorem cd_71_78 : qa_code 71 78 = some (17, 0, 0, 82, 0) := by decide +kernel
theorem cd_71_81 : qa_code 71 81 = some (0, 0, 0, 82, 0) := by decide +kernel
theorem cd_71_82 : qa_code 71 82 = some (18, 65, 2, 85, 83) := by decide +kernel
theorem cd_71_85 : qa_code 71 85 = some (16, 0, 90, 88, 0) := by decide +kernel
theorem cd_71_88 : qa_code 71 88 = some (0, 0, 0, 89, 0) := by decide +kernel
theorem cd_71_89 : qa_code 71 89 = some (19, 0, 0, 89, 0) := by decide +kernel
theorem cd_71_90 : qa_code 71 90 = some (2, 0, 0, 91, 0) := by decide +kernel
theorem cd_71_91 : qa_code 71 91 = some (13, 6, 1, 94, 7) := by decide +kernel
theorem cd_71_94 : qa_code 71 94 = some (2, 0, 0, 95, 0) := by decide +kernel
theorem cd_71_95 : qa_code 71 95 = some (12, 6, 0, 98, 69) := by decide +kernel
theorem cd_71_98 : qa_code 71 98 = some (1, 1, 0, 99, 0) := by decide +kernel
theorem cd_71_99 : qa_code 71 99 = some (11, 0, 0, 100, 0) := by decide +kernel
theorem cd_71_100 : qa_code 71 100 = some (2, 0, 0, 101, 0) := by decide +kernel
theorem cd_71_101 : qa_code 71 101 = some (13, 6, 2, 104, 13) := by decide +kernel
theorem cd_71_104 : qa_code 71 104 = some (2, 0, 0, 105, 0) := by decide +kernel
theorem cd_71_105 : qa_code 71 105 = some (12, 6, 0, 108, 69) := by decide +kernel
theorem cd_71_108 : qa_code 71 108 = some (1, 2, 0, 109, 0) := by decide +kernel
theorem cd_71_109 : qa_code 71 109 = some (11, 0, 0, 110, 0) := by decide +kernel
theorem cd_71_110 : qa_code 71 110 = some (2, 0, 0, 111, 0) := by decide +kernel
theorem cd_71_111 : qa_code 71 111 = some (13, 6, 3, 114, 16) := by decide +kernel
theorem cd_71_114 : qa_code 71 114 = some (2, 0, 0, 115, 0) := by decide +kernel
theorem cd_71_115 : qa_code 71 115 = some (12, 6, 0, 118, 69) := by decide +kernel
theorem cd_71_118 : qa_code 71 118 = some (1, 3, 0, 119, 0) := by decide +kernel
theorem cd_71_119 : qa_code 71 119 = some (11, 0, 0, 120, 0) := by decide +kernel
theorem cd_71_120 : qa_code 71 120 = some (2, 0, 0, 121, 0) := by decide +kernel
theorem cd_71_121 : qa_code 71 121 = some (8, 0, 0, 122, 0) := by decide +kernel
theorem cd_71_122 : qa_code 71 122 = some (12, 6, 0, 125, 69) := by decide +kernel
theorem cd_71_125 : qa_code 71 125 = some (0, 0, 1, 126, 0) := by decide +kernel
theorem cd_71_126 : qa_code 71 126 = some (6, 0, 0, 127, 0) := by decide +kernel
theorem cd_71_127 : qa_code 71 127 = some (14, 6, 0, 130, 69) := by decide +kernel
theorem cd_71_130 : qa_code 71 130 = some (2, 0, 0, 131, 0) := by decide +kernel
theorem cd_71_131 : qa_code 71 131 = some (12, 6, 0, 134, 69) := by decide +kernel
theorem cd_71_134 : qa_code 71 134 = some (0, 0, 1, 135, 0) := by decide +kernel
theorem cd_71_135 : qa_code 71 135 = some (6, 2, 0, 136, 0) := by decide +kernel
theorem cd_71_136 : qa_code 71 136 = some (19, 0, 0, 136, 0) := by decide +kernel
theorem cd_72_0 : qa_code 72 0 = some (1, 3, 0, 1, 0) := by decide +kernel
theorem cd_72_1 : qa_code 72 1 = some (3, 4, 0, 3, 0) := by decide +kernel
theorem cd_72_3 : qa_code 72 3 = some (1, 4, 0, 5, 0) := by decide +kernel
theorem cd_72_5 : qa_code 72 5 = some (16, 2, 29, 8, 0) := by decide +kernel
theorem cd_72_8 : qa_code 72 8 = some (2, 0, 0, 9, 0) := by decide +kernel
theorem cd_72_9 : qa_code 72 9 = some (13, 6, 5, 12, 19) := by decide +kernel
theorem cd_72_12 : qa_code 72 12 = some (1, 1, 0, 13, 0) := by decide +kernel
theorem cd_72_13 : qa_code 72 13 = some (1, 2, 0, 14, 0) := by decide +kernel
theorem cd_72_14 : qa_code 72 14 = some (1, 4, 0, 16, 0) := by decide +kernel
theorem cd_72_16 : qa_code 72 16 = some (18, 70, 3, 19, 86) := by decide +kernel
theorem cd_72_19 : qa_code 72 19 = some (10, 1, 0, 20, 0) := by decide +kernel
theorem cd_72_20 : qa_code 72 20 = some (16, 1, 29, 23, 0) := by decide +kernel
theorem cd_72_23 : qa_code 72 23 = some (5, 4, -1, 26, 0) := by decide +kernel
theorem cd_72_26 : qa_code 72 26 = some (17, 0, 0, 3, 0) := by decide +kernel
theorem cd_72_29 : qa_code 72 29 = some (1, 4, 0, 31, 0) := by decide +kernel
theorem cd_72_31 : qa_code 72 31 = some (19, 0, 0, 31, 0) := by decide +kernel
theorem cd_73_0 : qa_code 73 0 = some (1, 3, 0, 1, 0) := by decide +kernel
theorem cd_73_1 : qa_code 73 1 = some (0, 0, 1, 2, 0) := by decide +kernel
theorem cd_73_2 : qa_code 73 2 = some (6, 0, 0, 3, 0) := by decide +kernel
theorem cd_73_3 : qa_code 73 3 = some (3, 4, 0, 5, 0) := by decide +kernel
theorem cd_73_5 : qa_code 73 5 = some (1, 4, 0, 7, 0) := by decide +kernel
theorem cd_73_7 : qa_code 73 7 = some (0, 0, 120, 9, 0) := by decide +kernel
theorem cd_73_9 : qa_code 73 9 = some (15, 3, 33, 12, 0) := by decide +kernel
theorem cd_73_12 : qa_code 73 12 = some (2, 0, 0, 13, 0) := by decide +kernel
theorem cd_73_13 : qa_code 73 13 = some (13, 6, 5, 16, 19) := by decide +kernel
theorem cd_73_16 : qa_code 73 16 = some (1, 1, 0, 17, 0) := by decide +kernel
theorem cd_73_17 : qa_code 73 17 = some (1, 2, 0, 18, 0) := by decide +kernel
theorem cd_73_18 : qa_code 73 18 = some (1, 4, 0, 20, 0) := by decide +kernel
theorem cd_73_20 : qa_code 73 20 = some (18, 70, 3, 23, 86) := by decide +kernel
theorem cd_73_23 : qa_code 73 23 = some (10, 1, 0, 24, 0) := by decide +kernel
theorem cd_73_24 : qa_code 73 24 = some (16, 1, 33, 27, 0) := by decide +kernel
theorem cd_73_27 : qa_code 73 27 = some (5, 4, 1, 30, 0) := by decide +kernel
theorem cd_73_30 : qa_code 73 30 = some (17, 0, 0, 5, 0) := by decide +kernel
theorem cd_73_33 : qa_code 73 33 = some (1, 4, 0, 35, 0) := by decide +kernel
theorem cd_73_35 : qa_code 73 35 = some (19, 0, 0, 35, 0) := by decide +kernel
theorem cd_74_0 : qa_code 74 0 = some (1, 0, 0, 1, 0) := by decide +kernel
theorem cd_74_1 : qa_code 74 1 = some (1, 1, 0, 2, 0) := by decide +kernel
theorem cd_74_2 : qa_code 74 2 = some (6, 4, 0, 3, 0) := by decide +kernel
theorem cd_74_3 : qa_code 74 3 = some (3, 2, 0, 4, 0) := by decide +kernel
theorem cd_74_4 : qa_code 74 4 = some (1, 0, 0, 5, 0) := by decide +kernel
theorem cd_74_5 : qa_code 74 5 = some (1, 1, 0, 6, 0) := by decide +kernel
theorem cd_74_6 : qa_code 74 6 = some (6, 5, 0, 7, 0) := by decide +kernel
theorem cd_74_7 : qa_code 74 7 = some (16, 3, 16, 10, 0) := by decide +kernel
theorem cd_74_10 : qa_code 74 10 = some (1, 2, 0, 11, 0) := by decide +kernel
theorem cd_74_11 : qa_code 74 11 = some (0, 0, 1, 12, 0) := by decide +kernel
theorem cd_74_12 : qa_code 74 12 = some (6, 2, 0, 13, 0) := by decide +kernel
theorem cd_74_13 : qa_code 74 13 = some (17, 0, 0, 17, 0) := by decide +kernel
theorem cd_74_16 : qa_code 74 16 = some (1, 2, 0, 17, 0) := by decide +kernel
theorem cd_74_17 : qa_code 74 17 = some (19, 0, 0, 17, 0) := by decide +kernel
theorem cd_75_0 : qa_code 75 0 = some (2, 0, 0, 1, 0) := by decide +kernel
theorem cd_75_1 : qa_code 75 1 = some (1, 1, 0, 2, 0) := by decide +kernel
theorem cd_75_2 : qa_code 75 2 = some (1, 2, 0, 3, 0) := by decide +kernel
theorem cd_75_3 : qa_code 75 3 = some (1, 3, 0, 4, 0) := by decide +kernel
theorem cd_75_4 : qa_code 75 4 = some (18, 72, 4, 7, 90) := by decide +kernel
theorem cd_75_7 : qa_code 75 7 = some (3, 4, 0, 9, 0) := by decide +kernel
theorem cd_75_9 : qa_code 75 9 = some (2, 0, 0, 10, 0) := by decide +kernel
theorem cd_75_10 : qa_code 75 10 = some (1, 1, 0, 11, 0) := by decide +kernel
theorem cd_75_11 : qa_code 75 11 = some (1, 2, 0, 12, 0) := by decide +kernel
theorem cd_75_12 : qa_code 75 12 = some (1, 3, 0, 13, 0) := by decide +kernel
theorem cd_75_13 : qa_code 75 13 = some (18, 73, 4, 16, 93) := by decide +kernel
theorem cd_75_16 : qa_code 75 16 = some (3, 5, 0, 18, 0) := by decide +kernel
theorem cd_75_18 : qa_code 75 18 = some (1, 4, 0, 20, 0) := by decide +kernel
theorem cd_75_20 : qa_code 75 20 = some (0, 0, -1, 21, 0) := by decide +kernel
theorem cd_75_21 : qa_code 75 21 = some (15, 1, 48, 24, 0) := by decide +kernel
theorem cd_75_24 : qa_code 75 24 = some (1, 5, 0, 26, 0) := by decide +kernel
theorem cd_75_26 : qa_code 75 26 = some (0, 0, 120, 28, 0) := by decide +kernel
theorem cd_75_28 : qa_code 75 28 = some (15, 1, 35, 31, 0) := by decide +kernel
theorem cd_75_31 : qa_code 75 31 = some (0, 0, 0, 32, 0) := by decide +kernel
theorem cd_75_32 : qa_code 75 32 = some (17, 0, 0, 47, 0) := by decide +kernel
theorem cd_75_35 : qa_code 75 35 = some (2, 0, 0, 36, 0) := by decide +kernel
theorem cd_75_36 : qa_code 75 36 = some (13, 6, 6, 39, 23) := by decide +kernel
theorem cd_75_39 : qa_code 75 39 = some (1, 1, 0, 40, 0) := by decide +kernel
theorem cd_75_40 : qa_code 75 40 = some (1, 2, 0, 41, 0) := by decide +kernel
theorem cd_75_41 : qa_code 75 41 = some (1, 5, 0, 43, 0) := by decide +kernel
theorem cd_75_43 : qa_code 75 43 = some (18, 70, 3, 46, 86) := by decide +kernel
theorem cd_75_46 : qa_code 75 46 = some (10, 0, 0, 47, 0) := by decide +kernel
theorem cd_75_47 : qa_code 75 47 = some (19, 0, 0, 47, 0) := by decide +kernel
theorem cd_75_48 : qa_code 75 48 = some (2, 0, 0, 49, 0) := by decide +kernel
theorem cd_75_49 : qa_code 75 49 = some (13, 6, 6, 52, 23) := by decide +kernel
theorem cd_75_52 : qa_code 75 52 = some (1, 1, 0, 53, 0) := by decide +kernel
theorem cd_75_53 : qa_code 75 53 = some (1, 2, 0, 54, 0) := by decide +kernel
theorem cd_75_54 : qa_code 75 54 = some (1, 4, 0, 56, 0) := by decide +kernel
theorem cd_75_56 : qa_code 75 56 = some (18, 70, 3, 59, 86) := by decide +kernel
theorem cd_75_59 : qa_code 75 59 = some (10, 0, 0, 60, 0) := by decide +kernel
theorem cd_75_60 : qa_code 75 60 = some (3, 6, 0, 62, 0) := by decide +kernel
theorem cd_75_62 : qa_code 75 62 = some (2, 0, 0, 63, 0) := by decide +kernel
theorem cd_75_63 : qa_code 75 63 = some (13, 6, 8, 66, 29) := by decide +kernel
theorem cd_75_66 : qa_code 75 66 = some (1, 1, 0, 67, 0) := by decide +kernel
theorem cd_75_67 : qa_code 75 67 = some (1, 2, 0, 68, 0) := by decide +kernel
theorem cd_75_68 : qa_code 75 68 = some (1, 4, 0, 70, 0) := by decide +kernel
theorem cd_75_70 : qa_code 75 70 = some (18, 70, 3, 73, 86) := by decide +kernel
theorem cd_75_73 : qa_code 75 73 = some (10, 1, 0, 74, 0) := by decide +kernel
theorem cd_75_74 : qa_code 75 74 = some (16, 0, 84, 77, 0) := by decide +kernel
theorem cd_75_77 : qa_code 75 77 = some (1, 5, 0, 79, 0) := by decide +kernel
theorem cd_75_79 : qa_code 75 79 = some (0, 0, 120, 81, 0) := by decide +kernel
theorem cd_75_81 : qa_code 75 81 = some (15, 1, 87, 84, 0) := by decide +kernel
theorem cd_75_84 : qa_code 75 84 = some (1, 6, 0, 86, 0) := by decide +kernel
theorem cd_75_86 : qa_code 75 86 = some (19, 0, 0, 86, 0) := by decide +kernel
theorem cd_75_87 : qa_code 75 87 = some (1, 6, 0, 89, 0) := by decide +kernel
theorem cd_75_89 : qa_code 75 89 = some (2, 0, 0, 90, 0) := by decide +kernel
theorem cd_75_90 : qa_code 75 90 = some (13, 6, 6, 93, 23) := by decide +kernel
theorem cd_75_93 : qa_code 75 93 = some (1, 1, 0, 94, 0) := by decide +kernel
theorem cd_75_94 : qa_code 75 94 = some (1, 2, 0, 95, 0) := by decide +kernel
theorem cd_75_95 : qa_code 75 95 = some (1, 5, 0, 97, 0) := by decide +kernel
theorem cd_75_97 : qa_code 75 97 = some (18, 70, 3, 100, 86) := by decide +kernel
theorem cd_75_100 : qa_code 75 100 = some (10, 0, 0, 101, 0) := by decide +kernel
theorem cd_75_101 : qa_code 75 101 = some (1, 6, 0, 103, 0) := by decide +kernel
theorem cd_75_103 : qa_code 75 103 = some (6, 2, 0, 104, 0) := by decide +kernel
theorem cd_75_104 : qa_code 75 104 = some (1, 3, 0, 105, 0) := by decide +kernel
theorem cd_75_105 : qa_code 75 105 = some (1, 4, 0, 107, 0) := by decide +kernel
theorem cd_75_107 : qa_code 75 107 = some (6, 2, 0, 108, 0) := by decide +kernel
theorem cd_75_108 : qa_code 75 108 = some (6, 3, 0, 109, 0) := by decide +kernel
theorem cd_75_109 : qa_code 75 109 = some (1, 5, 0, 111, 0) := by decide +kernel
theorem cd_75_111 : qa_code 75 111 = some (1, 4, 0, 113, 0) := by decide +kernel
theorem cd_75_113 : qa_code 75 113 = some (6, 2, 0, 114, 0) := by decide +kernel
theorem cd_75_114 : qa_code 75 114 = some (18, 74, 2, 117, 96) := by decide +kernel
theorem cd_75_117 : qa_code 75 117 = some (6, 0, 0, 118, 0) := by decide +kernel
theorem cd_75_118 : qa_code 75 118 = some (19, 0, 0, 118, 0) := by decide +kernel
theorem cd_76_0 : qa_code 76 0 = some (2, 0, 0, 1, 0) := by decide +kernel
theorem cd_76_1 : qa_code 76 1 = some (13, 6, 12, 4, 38) := by decide +kernel
theorem cd_76_4 : qa_code 76 4 = some (1, 1, 0, 5, 0) := by decide +kernel
theorem cd_76_5 : qa_code 76 5 = some (10, 1, 0, 6, 0) := by decide +kernel
theorem cd_76_6 : qa_code 76 6 = some (16, 0, 26, 9, 0) := by decide +kernel
theorem cd_76_9 : qa_code 76 9 = some (2, 0, 0, 10, 0) := by decide +kernel
theorem cd_76_10 : qa_code 76 10 = some (13, 6, 13, 13, 41) := by decide +kernel
theorem cd_76_13 : qa_code 76 13 = some (1, 1, 0, 14, 0) := by decide +kernel
theorem cd_76_14 : qa_code 76 14 = some (10, 0, 0, 15, 0) := by decide +kernel
theorem cd_76_15 : qa_code 76 15 = some (2, 0, 0, 16, 0) := by decide +kernel
theorem cd_76_16 : qa_code 76 16 = some (12, 6, 0, 19, 69) := by decide +kernel
theorem cd_76_19 : qa_code 76 19 = some (15, 1, 26, 22, 0) := by decide +kernel
theorem cd_76_22 : qa_code 76 22 = some (0, 0, 1, 23, 0) := by decide +kernel
theorem cd_76_23 : qa_code 76 23 = some (17, 0, 0, 27, 0) := by decide +kernel
theorem cd_76_26 : qa_code 76 26 = some (0, 0, 0, 27, 0) := by decide +kernel
theorem cd_76_27 : qa_code 76 27 = some (3, 2, 0, 28, 0) := by decide +kernel
theorem cd_76_28 : qa_code 76 28 = some (0, 0, 0, 29, 0) := by decide +kernel
theorem cd_76_29 : qa_code 76 29 = some (3, 3, 0, 30, 0) := by decide +kernel
theorem cd_76_30 : qa_code 76 30 = some (1, 3, 0, 31, 0) := by decide +kernel
theorem cd_76_31 : qa_code 76 31 = some (0, 0, 3, 32, 0) := by decide +kernel
theorem cd_76_32 : qa_code 76 32 = some (2, 0, 0, 33, 0) := by decide +kernel
theorem cd_76_33 : qa_code 76 33 = some (12, 6, 0, 36, 69) := by decide +kernel
theorem cd_76_36 : qa_code 76 36 = some (6, 3, 0, 37, 0) := by decide +kernel
theorem cd_76_37 : qa_code 76 37 = some (15, 3, 81, 40, 0) := by decide +kernel
theorem cd_76_40 : qa_code 76 40 = some (1, 2, 0, 41, 0) := by decide +kernel
theorem cd_76_41 : qa_code 76 41 = some (16, 0, 81, 44, 0) := by decide +kernel
theorem cd_76_44 : qa_code 76 44 = some (2, 0, 0, 45, 0) := by decide +kernel
theorem cd_76_45 : qa_code 76 45 = some (13, 6, 14, 48, 44) := by decide +kernel
theorem cd_76_48 : qa_code 76 48 = some (0, 0, 24, 50, 0) := by decide +kernel
theorem cd_76_50 : qa_code 76 50 = some (1, 1, 0, 51, 0) := by decide +kernel
theorem cd_76_51 : qa_code 76 51 = some (6, 3, 0, 52, 0) := by decide +kernel
theorem cd_76_52 : qa_code 76 52 = some (1, 3, 0, 53, 0) := by decide +kernel
theorem cd_76_53 : qa_code 76 53 = some (6, 0, 0, 54, 0) := by decide +kernel
theorem cd_76_54 : qa_code 76 54 = some (10, 0, 0, 55, 0) := by decide +kernel
theorem cd_76_55 : qa_code 76 55 = some (2, 0, 0, 56, 0) := by decide +kernel
theorem cd_76_56 : qa_code 76 56 = some (1, 3, 0, 57, 0) := by decide +kernel
theorem cd_76_57 : qa_code 76 57 = some (0, 0, 3, 58, 0) := by decide +kernel
theorem cd_76_58 : qa_code 76 58 = some (6, 4, 0, 59, 0) := by decide +kernel
theorem cd_76_59 : qa_code 76 59 = some (1, 3, 0, 60, 0) := by decide +kernel
theorem cd_76_60 : qa_code 76 60 = some (0, 0, 3, 61, 0) := by decide +kernel
theorem cd_76_61 : qa_code 76 61 = some (6, 5, 0, 62, 0) := by decide +kernel
theorem cd_76_62 : qa_code 76 62 = some (1, 1, 0, 63, 0) := by decide +kernel
theorem cd_76_63 : qa_code 76 63 = some (18, 75, 4, 66, 100) := by decide +kernel
theorem cd_76_66 : qa_code 76 66 = some (15, 1, 73, 69, 0) := by decide +kernel
theorem cd_76_69 : qa_code 76 69 = some (0, 0, 1, 70, 0) := by decide +kernel
theorem cd_76_70 : qa_code 76 70 = some (17, 0, 0, 74, 0) := by decide +kernel
theorem cd_76_73 : qa_code 76 73 = some (0, 0, 0, 74, 0) := by decide +kernel
theorem cd_76_74 : qa_code 76 74 = some (3, 2, 0, 75, 0) := by decide +kernel
theorem cd_76_75 : qa_code 76 75 = some (5, 3, 1, 78, 0) := by decide +kernel
theorem cd_76_78 : qa_code 76 78 = some (17, 0, 0, 30, 0) := by decide +kernel
theorem cd_76_81 : qa_code 76 81 = some (1, 2, 0, 82, 0) := by decide +kernel
theorem cd_76_82 : qa_code 76 82 = some (19, 1, 0, 82, 0) := by decide +kernel
theorem cd_77_0 : qa_code 77 0 = some (0, 0, 0, 1, 0) := by decide +kernel
theorem cd_77_1 : qa_code 77 1 = some (3, 1, 0, 2, 0) := by decide +kernel
theorem cd_77_2 : qa_code 77 2 = some (0, 0, 0, 3, 0) := by decide +kernel
theorem cd_77_3 : qa_code 77 3 = some (3, 2, 0, 4, 0) := by decide +kernel
theorem cd_77_4 : qa_code 77 4 = some (1, 2, 0, 5, 0) := by decide +kernel
theorem cd_77_5 : qa_code 77 5 = some (0, 0, 120, 7, 0) := by decide +kernel
theorem cd_77_7 : qa_code 77 7 = some (15, 3, 41, 10, 0) := by decide +kernel
theorem cd_77_10 : qa_code 77 10 = some (1, 1, 0, 11, 0) := by decide +kernel
theorem cd_77_11 : qa_code 77 11 = some (2, 0, 0, 12, 0) := by decide +kernel
theorem cd_77_12 : qa_code 77 12 = some (13, 6, 12, 15, 38) := by decide +kernel
theorem cd_77_15 : qa_code 77 15 = some (1, 2, 0, 16, 0) := by decide +kernel
theorem cd_77_16 : qa_code 77 16 = some (10, 1, 0, 17, 0) := by decide +kernel
theorem cd_77_17 : qa_code 77 17 = some (16, 0, 32, 20, 0) := by decide +kernel
theorem cd_77_20 : qa_code 77 20 = some (2, 0, 0, 21, 0) := by decide +kernel
theorem cd_77_21 : qa_code 77 21 = some (1, 2, 0, 22, 0) := by decide +kernel
theorem cd_77_22 : qa_code 77 22 = some (18, 76, 2, 25, 103) := by decide +kernel
theorem cd_77_25 : qa_code 77 25 = some (16, 1, 32, 28, 0) := by decide +kernel
theorem cd_77_28 : qa_code 77 28 = some (0, 0, 1, 29, 0) := by decide +kernel
theorem cd_77_29 : qa_code 77 29 = some (17, 0, 0, 33, 0) := by decide +kernel
theorem cd_77_32 : qa_code 77 32 = some (0, 0, 0, 33, 0) := by decide +kernel
theorem cd_77_33 : qa_code 77 33 = some (6, 0, 0, 34, 0) := by decide +kernel
theorem cd_77_34 : qa_code 77 34 = some (3, 1, 0, 35, 0) := by decide +kernel
theorem cd_77_35 : qa_code 77 35 = some (5, 2, 1, 38, 0) := by decide +kernel
theorem cd_77_38 : qa_code 77 38 = some (17, 0, 0, 4, 0) := by decide +kernel
theorem cd_77_41 : qa_code 77 41 = some (1, 1, 0, 42, 0) := by decide +kernel
theorem cd_77_42 : qa_code 77 42 = some (19, 0, 0, 42, 0) := by decide +kernel
theorem cd_78_0 : qa_code 78 0 = some (2, 0, 0, 1, 0) := by decide +kernel
theorem cd_78_1 : qa_code 78 1 = some (1, 1, 0, 2, 0) := by decide +kernel
theorem cd_78_2 : qa_code 78 2 = some (1, 2, 0, 3, 0) := by decide +kernel
theorem cd_78_3 : qa_code 78 3 = some (1, 3, 0, 4, 0) := by decide +kernel
theorem cd_78_4 : qa_code 78 4 = some (18, 69, 4, 7, 106) := by decide +kernel
theorem cd_78_7 : qa_code 78 7 = some (16, 0, 24, 10, 0) := by decide +kernel
theorem cd_78_10 : qa_code 78 10 = some (1, 5, 0, 12, 0) := by decide +kernel
theorem cd_78_12 : qa_code 78 12 = some (0, 0, 0, 13, 0) := by decide +kernel
theorem cd_78_13 : qa_code 78 13 = some (0, 0, 5, 14, 0) := by decide +kernel
theorem cd_78_14 : qa_code 78 14 = some (18, 66, 3, 17, 72) := by decide +kernel
theorem cd_78_17 : qa_code 78 17 = some (16, 0, 24, 20, 0) := by decide +kernel
theorem cd_78_20 : qa_code 78 20 = some (0, 0, 1, 21, 0) := by decide +kernel
theorem cd_78_21 : qa_code 78 21 = some (17, 0, 0, 25, 0) := by decide +kernel
theorem cd_78_24 : qa_code 78 24 = some (0, 0, 0, 25, 0) := by decide +kernel
theorem cd_78_25 : qa_code 78 25 = some (3, 7, 0, 27, 0) := by decide +kernel
theorem cd_78_27 : qa_code 78 27 = some (1, 2, 0, 28, 0) := by decide +kernel
theorem cd_78_28 : qa_code 78 28 = some (0, 0, 2, 29, 0) := by decide +kernel
theorem cd_78_29 : qa_code 78 29 = some (15, 1, 55, 32, 0) := by decide +kernel
theorem cd_78_32 : qa_code 78 32 = some (1, 4, 0, 34, 0) := by decide +kernel
theorem cd_78_34 : qa_code 78 34 = some (0, 0, 0, 35, 0) := by decide +kernel
theorem cd_78_35 : qa_code 78 35 = some (0, 0, 3, 36, 0) := by decide +kernel
theorem cd_78_36 : qa_code 78 36 = some (18, 66, 3, 39, 72) := by decide +kernel
theorem cd_78_39 : qa_code 78 39 = some (16, 0, 51, 42, 0) := by decide +kernel
theorem cd_78_42 : qa_code 78 42 = some (1, 6, 0, 44, 0) := by decide +kernel
theorem cd_78_44 : qa_code 78 44 = some (16, 1, 51, 47, 0) := by decide +kernel
theorem cd_78_47 : qa_code 78 47 = some (0, 0, 1, 48, 0) := by decide +kernel
theorem cd_78_48 : qa_code 78 48 = some (17, 0, 0, 66, 0) := by decide +kernel
theorem cd_78_51 : qa_code 78 51 = some (0, 0, 0, 52, 0) := by decide +kernel
theorem cd_78_52 : qa_code 78 52 = some (17, 0, 0, 66, 0) := by decide +kernel
theorem cd_78_55 : qa_code 78 55 = some (1, 4, 0, 57, 0) := by decide +kernel
theorem cd_78_57 : qa_code 78 57 = some (0, 0, -200, 60, 0) := by decide +kernel
theorem cd_78_60 : qa_code 78 60 = some (0, 0, 200, 63, 0) := by decide +kernel
theorem cd_78_63 : qa_code 78 63 = some (18, 66, 3, 66, 72) := by decide +kernel
theorem cd_78_66 : qa_code 78 66 = some (3, 8, 0, 68, 0) := by decide +kernel
theorem cd_78_68 : qa_code 78 68 = some (2, 0, 0, 69, 0) := by decide +kernel
theorem cd_78_69 : qa_code 78 69 = some (1, 7, 0, 71, 0) := by decide +kernel
theorem cd_78_71 : qa_code 78 71 = some (16, 1, 78, 74, 0) := by decide +kernel
theorem cd_78_74 : qa_code 78 74 = some (0, 0, 1, 75, 0) := by decide +kernel
theorem cd_78_75 : qa_code 78 75 = some (17, 0, 0, 115, 0) := by decide +kernel
theorem cd_78_78 : qa_code 78 78 = some (1, 8, 0, 80, 0) := by decide +kernel
theorem cd_78_80 : qa_code 78 80 = some (16, 1, 87, 83, 0) := by decide +kernel
theorem cd_78_83 : qa_code 78 83 = some (0, 0, 2, 84, 0) := by decide +kernel
theorem cd_78_84 : qa_code 78 84 = some (17, 0, 0, 115, 0) := by decide +kernel
theorem cd_78_87 : qa_code 78 87 = some (2, 0, 0, 88, 0) := by decide +kernel
theorem cd_78_88 : qa_code 78 88 = some (12, 6, 4, 91, 109) := by decide +kernel
theorem cd_78_91 : qa_code 78 91 = some (0, 0, 80, 93, 0) := by decide +kernel
theorem cd_78_93 : qa_code 78 93 = some (15, 1, 114, 96, 0) := by decide +kernel
theorem cd_78_96 : qa_code 78 96 = some (2, 0, 0, 97, 0) := by decide +kernel
theorem cd_78_97 : qa_code 78 97 = some (13, 6, 5, 100, 19) := by decide +kernel
theorem cd_78_100 : qa_code 78 100 = some (1, 1, 0, 101, 0) := by decide +kernel
theorem cd_78_101 : qa_code 78 101 = some (1, 2, 0, 102, 0) := by decide +kernel
theorem cd_78_102 : qa_code 78 102 = some (1, 3, 0, 103, 0) := by decide +kernel
theorem cd_78_103 : qa_code 78 103 = some (18, 70, 3, 106, 86) := by decide +kernel
theorem cd_78_106 : qa_code 78 106 = some (10, 1, 0, 107, 0) := by decide +kernel
theorem cd_78_107 : qa_code 78 107 = some (16, 1, 114, 110, 0) := by decide +kernel
theorem cd_78_110 : qa_code 78 110 = some (0, 0, 3, 111, 0) := by decide +kernel
theorem cd_78_111 : qa_code 78 111 = some (17, 0, 0, 115, 0) := by decide +kernel
theorem cd_78_114 : qa_code 78 114 = some (0, 0, 0, 115, 0) := by decide +kernel
theorem cd_78_115 : qa_code 78 115 = some (18, 65, 2, 118, 83) := by decide +kernel
theorem cd_78_118 : qa_code 78 118 = some (16, 0, 123, 121, 0) := by decide +kernel
theorem cd_78_121 : qa_code 78 121 = some (0, 0, 0, 122, 0) := by decide +kernel
theorem cd_78_122 : qa_code 78 122 = some (19, 0, 0, 122, 0) := by decide +kernel
theorem cd_78_123 : qa_code 78 123 = some (2, 0, 0, 124, 0) := by decide +kernel
theorem cd_78_124 : qa_code 78 124 = some (18, 77, 1, 127, 112) := by decide +kernel
theorem cd_78_127 : qa_code 78 127 = some (3, 9, 0, 129, 0) := by decide +kernel
theorem cd_78_129 : qa_code 78 129 = some (1, 1, 0, 130, 0) := by decide +kernel
theorem cd_78_130 : qa_code 78 130 = some (1, 2, 0, 131, 0) := by decide +kernel
theorem cd_78_131 : qa_code 78 131 = some (1, 3, 0, 132, 0) := by decide +kernel
theorem cd_78_132 : qa_code 78 132 = some (18, 70, 3, 135, 86) := by decide +kernel
theorem cd_78_135 : qa_code 78 135 = some (3, 10, 0, 137, 0) := by decide +kernel
theorem cd_78_137 : qa_code 78 137 = some (2, 0, 0, 138, 0) := by decide +kernel
theorem cd_78_138 : qa_code 78 138 = some (8, 0, 0, 139, 0) := by decide +kernel
theorem cd_78_139 : qa_code 78 139 = some (12, 6, 4, 142, 109) := by decide +kernel
theorem cd_78_142 : qa_code 78 142 = some (2, 0, 0, 143, 0) := by decide +kernel
theorem cd_78_143 : qa_code 78 143 = some (13, 6, 5, 146, 19) := by decide +kernel
theorem cd_78_146 : qa_code 78 146 = some (1, 10, 0, 148, 0) := by decide +kernel
theorem cd_78_148 : qa_code 78 148 = some (10, 1, 0, 149, 0) := by decide +kernel
theorem cd_78_149 : qa_code 78 149 = some (16, 0, 156, 152, 0) := by decide +kernel
theorem cd_78_152 : qa_code 78 152 = some (0, 0, 0, 153, 0) := by decide +kernel
theorem cd_78_153 : qa_code 78 153 = some (17, 0, 0, 157, 0) := by decide +kernel
theorem cd_78_156 : qa_code 78 156 = some (0, 0, 1, 157, 0) := by decide +kernel
theorem cd_78_157 : qa_code 78 157 = some (6, 0, 0, 158, 0) := by decide +kernel
theorem cd_78_158 : qa_code 78 158 = some (14, 6, 4, 161, 109) := by decide +kernel
theorem cd_78_161 : qa_code 78 161 = some (2, 0, 0, 162, 0) := by decide +kernel
theorem cd_78_162 : qa_code 78 162 = some (13, 6, 5, 165, 19) := by decide +kernel
theorem cd_78_165 : qa_code 78 165 = some (1, 10, 0, 167, 0) := by decide +kernel
theorem cd_78_167 : qa_code 78 167 = some (0, 0, 1, 168, 0) := by decide +kernel
theorem cd_78_168 : qa_code 78 168 = some (11, 1, 0, 169, 0) := by decide +kernel
theorem cd_78_169 : qa_code 78 169 = some (2, 0, 0, 170, 0) := by decide +kernel
theorem cd_78_170 : qa_code 78 170 = some (13, 6, 6, 173, 23) := by decide +kernel
theorem cd_78_173 : qa_code 78 173 = some (1, 10, 0, 175, 0) := by decide +kernel
theorem cd_78_175 : qa_code 78 175 = some (1, 4, 0, 177, 0) := by decide +kernel
theorem cd_78_177 : qa_code 78 177 = some (11, 0, 0, 178, 0) := by decide +kernel
theorem cd_78_178 : qa_code 78 178 = some (2, 0, 0, 179, 0) := by decide +kernel
theorem cd_78_179 : qa_code 78 179 = some (13, 6, 7, 182, 26) := by decide +kernel
theorem cd_78_182 : qa_code 78 182 = some (1, 10, 0, 184, 0) := by decide +kernel
theorem cd_78_184 : qa_code 78 184 = some (1, 5, 0, 186, 0) := by decide +kernel
theorem cd_78_186 : qa_code 78 186 = some (11, 0, 0, 187, 0) := by decide +kernel
theorem cd_78_187 : qa_code 78 187 = some (2, 0, 0, 188, 0) := by decide +kernel
theorem cd_78_188 : qa_code 78 188 = some (13, 6, 8, 191, 29) := by decide +kernel
theorem cd_78_191 : qa_code 78 191 = some (1, 10, 0, 193, 0) := by decide +kernel
theorem cd_78_193 : qa_code 78 193 = some (1, 6, 0, 195, 0) := by decide +kernel
theorem cd_78_195 : qa_code 78 195 = some (11, 1, 0, 196, 0) := by decide +kernel
theorem cd_78_196 : qa_code 78 196 = some (2, 0, 0, 197, 0) := by decide +kernel
theorem cd_78_197 : qa_code 78 197 = some (18, 77, 1, 200, 112) := by decide +kernel
theorem cd_78_200 : qa_code 78 200 = some (1, 9, 0, 202, 0) := by decide +kernel
theorem cd_78_202 : qa_code 78 202 = some (6, 2, 0, 203, 0) := by decide +kernel
theorem cd_78_203 : qa_code 78 203 = some (19, 0, 0, 203, 0) := by decide +kernel
theorem cd_79_0 : qa_code 79 0 = some (2, 0, 0, 1, 0) := by decide +kernel
theorem cd_79_1 : qa_code 79 1 = some (1, 1, 0, 2, 0) := by decide +kernel
theorem cd_79_2 : qa_code 79 2 = some (1, 2, 0, 3, 0) := by decide +kernel
theorem cd_79_3 : qa_code 79 3 = some (1, 3, 0, 4, 0) := by decide +kernel
theorem cd_79_4 : qa_code 79 4 = some (18, 69, 4, 7, 106) := by decide +kernel
theorem cd_79_7 : qa_code 79 7 = some (16, 0, 28, 10, 0) := by decide +kernel
theorem cd_79_10 : qa_code 79 10 = some (2, 0, 0, 11, 0) := by decide +kernel
theorem cd_79_11 : qa_code 79 11 = some (13, 6, 5, 14, 19) := by decide +kernel
theorem cd_79_14 : qa_code 79 14 = some (1, 1, 0, 15, 0) := by decide +kernel
theorem cd_79_15 : qa_code 79 15 = some (1, 2, 0, 16, 0) := by decide +kernel
theorem cd_79_16 : qa_code 79 16 = some (1, 3, 0, 17, 0) := by decide +kernel
theorem cd_79_17 : qa_code 79 17 = some (18, 70, 3, 20, 86) := by decide +kernel
theorem cd_79_20 : qa_code 79 20 = some (10, 1, 0, 21, 0) := by decide +kernel
theorem cd_79_21 : qa_code 79 21 = some (16, 0, 28, 24, 0) := by decide +kernel
theorem cd_79_24 : qa_code 79 24 = some (0, 0, 1, 25, 0) := by decide +kernel
theorem cd_79_25 : qa_code 79 25 = some (17, 0, 0, 29, 0) := by decide +kernel
theorem cd_79_28 : qa_code 79 28 = some (0, 0, 0, 29, 0) := by decide +kernel
theorem cd_79_29 : qa_code 79 29 = some (3, 4, 0, 31, 0) := by decide +kernel
theorem cd_79_31 : qa_code 79 31 = some (2, 0, 0, 32, 0) := by decide +kernel
theorem cd_79_32 : qa_code 79 32 = some (1, 4, 0, 34, 0) := by decide +kernel
theorem cd_79_34 : qa_code 79 34 = some (16, 0, 41, 37, 0) := by decide +kernel
theorem cd_79_37 : qa_code 79 37 = some (0, 0, 0, 38, 0) := by decide +kernel
theorem cd_79_38 : qa_code 79 38 = some (17, 0, 0, 42, 0) := by decide +kernel
theorem cd_79_41 : qa_code 79 41 = some (0, 0, 1, 42, 0) := by decide +kernel
theorem cd_79_42 : qa_code 79 42 = some (18, 65, 2, 45, 83) := by decide +kernel
theorem cd_79_45 : qa_code 79 45 = some (16, 0, 50, 48, 0) := by decide +kernel
theorem cd_79_48 : qa_code 79 48 = some (0, 0, 0, 49, 0) := by decide +kernel
theorem cd_79_49 : qa_code 79 49 = some (19, 0, 0, 49, 0) := by decide +kernel
theorem cd_79_50 : qa_code 79 50 = some (2, 0, 0, 51, 0) := by decide +kernel
theorem cd_79_51 : qa_code 79 51 = some (18, 77, 1, 54, 112) := by decide +kernel
theorem cd_79_54 : qa_code 79 54 = some (3, 5, 0, 56, 0) := by decide +kernel
theorem cd_79_56 : qa_code 79 56 = some (2, 0, 0, 57, 0) := by decide +kernel
theorem cd_79_57 : qa_code 79 57 = some (13, 6, 5, 60, 19) := by decide +kernel
theorem cd_79_60 : qa_code 79 60 = some (1, 1, 0, 61, 0) := by decide +kernel
theorem cd_79_61 : qa_code 79 61 = some (1, 2, 0, 62, 0) := by decide +kernel
theorem cd_79_62 : qa_code 79 62 = some (1, 3, 0, 63, 0) := by decide +kernel
theorem cd_79_63 : qa_code 79 63 = some (18, 70, 3, 66, 86) := by decide +kernel
theorem cd_79_66 : qa_code 79 66 = some (0, 0, 0, 67, 0) := by decide +kernel
theorem cd_79_67 : qa_code 79 67 = some (11, 1, 0, 68, 0) := by decide +kernel
theorem cd_79_68 : qa_code 79 68 = some (2, 0, 0, 69, 0) := by decide +kernel
theorem cd_79_69 : qa_code 79 69 = some (8, 0, 0, 70, 0) := by decide +kernel
theorem cd_79_70 : qa_code 79 70 = some (12, 6, 4, 73, 109) := by decide +kernel
theorem cd_79_73 : qa_code 79 73 = some (0, 0, 1, 74, 0) := by decide +kernel
theorem cd_79_74 : qa_code 79 74 = some (6, 2, 0, 75, 0) := by decide +kernel
theorem cd_79_75 : qa_code 79 75 = some (14, 6, 4, 78, 109) := by decide +kernel
theorem cd_79_78 : qa_code 79 78 = some (2, 0, 0, 79, 0) := by decide +kernel
theorem cd_79_79 : qa_code 79 79 = some (18, 77, 1, 82, 112) := by decide +kernel
theorem cd_79_82 : qa_code 79 82 = some (1, 5, 0, 84, 0) := by decide +kernel
theorem cd_79_84 : qa_code 79 84 = some (6, 2, 0, 85, 0) := by decide +kernel
theorem cd_79_85 : qa_code 79 85 = some (19, 0, 0, 85, 0) := by decide +kernel
theorem cd_80_0 : qa_code 80 0 = some (2, 0, 0, 1, 0) := by decide +kernel
theorem cd_80_1 : qa_code 80 1 = some (2, 0, 0, 2, 0) := by decide +kernel
theorem cd_80_2 : qa_code 80 2 = some (1, 1, 0, 3, 0) := by decide +kernel
theorem cd_80_3 : qa_code 80 3 = some (1, 2, 0, 4, 0) := by decide +kernel
theorem cd_80_4 : qa_code 80 4 = some (1, 3, 0, 5, 0) := by decide +kernel
theorem cd_80_5 : qa_code 80 5 = some (18, 69, 4, 8, 106) := by decide +kernel
theorem cd_80_8 : qa_code 80 8 = some (16, 0, 15, 11, 0) := by decide +kernel
theorem cd_80_11 : qa_code 80 11 = some (0, 0, 0, 12, 0) := by decide +kernel
theorem cd_80_12 : qa_code 80 12 = some (17, 0, 0, 16, 0) := by decide +kernel
theorem cd_80_15 : qa_code 80 15 = some (0, 0, 1, 16, 0) := by decide +kernel
theorem cd_80_16 : qa_code 80 16 = some (18, 65, 2, 19, 83) := by decide +kernel
theorem cd_80_19 : qa_code 80 19 = some (16, 0, 26, 22, 0) := by decide +kernel
theorem cd_80_22 : qa_code 80 22 = some (0, 0, 0, 23, 0) := by decide +kernel
theorem cd_80_23 : qa_code 80 23 = some (17, 0, 0, 33, 0) := by decide +kernel
theorem cd_80_26 : qa_code 80 26 = some (2, 0, 0, 27, 0) := by decide +kernel
theorem cd_80_27 : qa_code 80 27 = some (1, 1, 0, 28, 0) := by decide +kernel
theorem cd_80_28 : qa_code 80 28 = some (1, 2, 0, 29, 0) := by decide +kernel
theorem cd_80_29 : qa_code 80 29 = some (1, 3, 0, 30, 0) := by decide +kernel
theorem cd_80_30 : qa_code 80 30 = some (18, 75, 4, 33, 100) := by decide +kernel
theorem cd_80_33 : qa_code 80 33 = some (19, 0, 0, 33, 0) := by decide +kernel
theorem cd_81_0 : qa_code 81 0 = some (2, 0, 0, 1, 0) := by decide +kernel
theorem cd_81_1 : qa_code 81 1 = some (1, 1, 0, 2, 0) := by decide +kernel
theorem cd_81_2 : qa_code 81 2 = some (1, 2, 0, 3, 0) := by decide +kernel
theorem cd_81_3 : qa_code 81 3 = some (1, 3, 0, 4, 0) := by decide +kernel
theorem cd_81_4 : qa_code 81 4 = some (18, 69, 4, 7, 106) := by decide +kernel
theorem cd_81_7 : qa_code 81 7 = some (16, 0, 28, 10, 0) := by decide +kernel
theorem cd_81_10 : qa_code 81 10 = some (2, 0, 0, 11, 0) := by decide +kernel
theorem cd_81_11 : qa_code 81 11 = some (13, 6, 5, 14, 19) := by decide +kernel
theorem cd_81_14 : qa_code 81 14 = some (1, 1, 0, 15, 0) := by decide +kernel
theorem cd_81_15 : qa_code 81 15 = some (1, 2, 0, 16, 0) := by decide +kernel
theorem cd_81_16 : qa_code 81 16 = some (1, 3, 0, 17, 0) := by decide +kernel
theorem cd_81_17 : qa_code 81 17 = some (18, 70, 3, 20, 86) := by decide +kernel
theorem cd_81_20 : qa_code 81 20 = some (10, 1, 0, 21, 0) := by decide +kernel
theorem cd_81_21 : qa_code 81 21 = some (16, 0, 28, 24, 0) := by decide +kernel
theorem cd_81_24 : qa_code 81 24 = some (0, 0, 1, 25, 0) := by decide +kernel
theorem cd_81_25 : qa_code 81 25 = some (17, 0, 0, 29, 0) := by decide +kernel
theorem cd_81_28 : qa_code 81 28 = some (0, 0, 0, 29, 0) := by decide +kernel
theorem cd_81_29 : qa_code 81 29 = some (3, 4, 0, 31, 0) := by decide +kernel
theorem cd_81_31 : qa_code 81 31 = some (2, 0, 0, 32, 0) := by decide +kernel
theorem cd_81_32 : qa_code 81 32 = some (1, 4, 0, 34, 0) := by decide +kernel
theorem cd_81_34 : qa_code 81 34 = some (16, 0, 41, 37, 0) := by decide +kernel
theorem cd_81_37 : qa_code 81 37 = some (0, 0, 0, 38, 0) := by decide +kernel
theorem cd_81_38 : qa_code 81 38 = some (17, 0, 0, 42, 0) := by decide +kernel
theorem cd_81_41 : qa_code 81 41 = some (0, 0, 1, 42, 0) := by decide +kernel
theorem cd_81_42 : qa_code 81 42 = some (18, 65, 2, 45, 83) := by decide +kernel
theorem cd_81_45 : qa_code 81 45 = some (16, 0, 50, 48, 0) := by decide +kernel
theorem cd_81_48 : qa_code 81 48 = some (0, 0, 0, 49, 0) := by decide +kernel
theorem cd_81_49 : qa_code 81 49 = some (19, 0, 0, 49, 0) := by decide +kernel
theorem cd_81_50 : qa_code 81 50 = some (2, 0, 0, 51, 0) := by decide +kernel
theorem cd_81_51 : qa_code 81 51 = some (1, 1, 0, 52, 0) := by decide +kernel
theorem cd_81_52 : qa_code 81 52 = some (1, 2, 0, 53, 0) := by decide +kernel
theorem cd_81_53 : qa_code 81 53 = some (1, 3, 0, 54, 0) := by decide +kernel
theorem cd_81_54 : qa_code 81 54 = some (0, 0, 1, 55, 0) := by decide +kernel
theorem cd_81_55 : qa_code 81 55 = some (6, 2, 0, 56, 0) := by decide +kernel
theorem cd_81_56 : qa_code 81 56 = some (18, 72, 4, 59, 90) := by decide +kernel
theorem cd_81_59 : qa_code 81 59 = some (3, 5, 0, 61, 0) := by decide +kernel
theorem cd_81_61 : qa_code 81 61 = some (1, 5, 0, 63, 0) := by decide +kernel
theorem cd_81_63 : qa_code 81 63 = some (0, 0, -1, 64, 0) := by decide +kernel
theorem cd_81_64 : qa_code 81 64 = some (15, 1, 71, 67, 0) := by decide +kernel
theorem cd_81_67 : qa_code 81 67 = some (0, 0, 0, 68, 0) := by decide +kernel
theorem cd_81_68 : qa_code 81 68 = some (17, 0, 0, 94, 0) := by decide +kernel
theorem cd_81_71 : qa_code 81 71 = some (2, 0, 0, 72, 0) := by decide +kernel
theorem cd_81_72 : qa_code 81 72 = some (13, 6, 8, 75, 29) := by decide +kernel
theorem cd_81_75 : qa_code 81 75 = some (1, 1, 0, 76, 0) := by decide +kernel
theorem cd_81_76 : qa_code 81 76 = some (1, 2, 0, 77, 0) := by decide +kernel
theorem cd_81_77 : qa_code 81 77 = some (1, 5, 0, 79, 0) := by decide +kernel
theorem cd_81_79 : qa_code 81 79 = some (18, 70, 3, 82, 86) := by decide +kernel
theorem cd_81_82 : qa_code 81 82 = some (10, 1, 0, 83, 0) := by decide +kernel
theorem cd_81_83 : qa_code 81 83 = some (16, 0, 93, 86, 0) := by decide +kernel
theorem cd_81_86 : qa_code 81 86 = some (1, 5, 0, 88, 0) := by decide +kernel
theorem cd_81_88 : qa_code 81 88 = some (0, 0, 1, 89, 0) := by decide +kernel
theorem cd_81_89 : qa_code 81 89 = some (6, 0, 0, 90, 0) := by decide +kernel
theorem cd_81_90 : qa_code 81 90 = some (17, 0, 0, 94, 0) := by decide +kernel
theorem cd_81_93 : qa_code 81 93 = some (1, 3, 0, 94, 0) := by decide +kernel
theorem cd_81_94 : qa_code 81 94 = some (3, 6, 0, 96, 0) := by decide +kernel
theorem cd_81_96 : qa_code 81 96 = some (0, 0, 1000, 99, 0) := by decide +kernel
theorem cd_81_99 : qa_code 81 99 = some (1, 6, 0, 101, 0) := by decide +kernel
theorem cd_81_101 : qa_code 81 101 = some (6, 3, 0, 102, 0) := by decide +kernel
theorem cd_81_102 : qa_code 81 102 = some (2, 0, 0, 103, 0) := by decide +kernel
theorem cd_81_103 : qa_code 81 103 = some (1, 1, 0, 104, 0) := by decide +kernel
theorem cd_81_104 : qa_code 81 104 = some (1, 2, 0, 105, 0) := by decide +kernel
theorem cd_81_105 : qa_code 81 105 = some (1, 3, 0, 106, 0) := by decide +kernel
theorem cd_81_106 : qa_code 81 106 = some (18, 73, 4, 109, 93) := by decide +kernel
theorem cd_81_109 : qa_code 81 109 = some (6, 0, 0, 110, 0) := by decide +kernel
theorem cd_81_110 : qa_code 81 110 = some (0, 0, 1, 111, 0) := by decide +kernel
theorem cd_81_111 : qa_code 81 111 = some (6, 2, 0, 112, 0) := by decide +kernel
theorem cd_81_112 : qa_code 81 112 = some (19, 0, 0, 112, 0) := by decide +kernel
theorem cd_82_0 : qa_code 82 0 = some (1, 1, 0, 1, 0) := by decide +kernel
theorem cd_82_1 : qa_code 82 1 = some (3, 2, 0, 2, 0) := by decide +kernel
theorem cd_82_2 : qa_code 82 2 = some (0, 0, 0, 3, 0) := by decide +kernel
theorem cd_82_3 : qa_code 82 3 = some (3, 3, 0, 4, 0) := by decide +kernel
theorem cd_82_4 : qa_code 82 4 = some (1, 3, 0, 5, 0) := by decide +kernel
theorem cd_82_5 : qa_code 82 5 = some (0, 0, 3, 6, 0) := by decide +kernel
theorem cd_82_6 : qa_code 82 6 = some (2, 0, 0, 7, 0) := by decide +kernel
theorem cd_82_7 : qa_code 82 7 = some (12, 6, 0, 10, 69) := by decide +kernel
theorem cd_82_10 : qa_code 82 10 = some (6, 3, 0, 11, 0) := by decide +kernel
theorem cd_82_11 : qa_code 82 11 = some (0, 0, 120, 13, 0) := by decide +kernel
theorem cd_82_13 : qa_code 82 13 = some (6, 3, 0, 14, 0) := by decide +kernel
theorem cd_82_14 : qa_code 82 14 = some (15, 3, 62, 17, 0) := by decide +kernel
theorem cd_82_17 : qa_code 82 17 = some (1, 1, 0, 18, 0) := by decide +kernel
theorem cd_82_18 : qa_code 82 18 = some (16, 2, 62, 21, 0) := by decide +kernel
theorem cd_82_21 : qa_code 82 21 = some (2, 0, 0, 22, 0) := by decide +kernel
theorem cd_82_22 : qa_code 82 22 = some (13, 6, 5, 25, 19) := by decide +kernel
theorem cd_82_25 : qa_code 82 25 = some (1, 3, 0, 26, 0) := by decide +kernel
theorem cd_82_26 : qa_code 82 26 = some (10, 1, 0, 27, 0) := by decide +kernel
theorem cd_82_27 : qa_code 82 27 = some (16, 0, 56, 30, 0) := by decide +kernel
theorem cd_82_30 : qa_code 82 30 = some (1, 2, 0, 31, 0) := by decide +kernel
theorem cd_82_31 : qa_code 82 31 = some (16, 1, 53, 34, 0) := by decide +kernel
theorem cd_82_34 : qa_code 82 34 = some (2, 0, 0, 35, 0) := by decide +kernel
theorem cd_82_35 : qa_code 82 35 = some (0, 0, 0, 36, 0) := by decide +kernel
theorem cd_82_36 : qa_code 82 36 = some (14, 6, 26, 39, 65) := by decide +kernel
theorem cd_82_39 : qa_code 82 39 = some (0, 0, 1000, 42, 0) := by decide +kernel
theorem cd_82_42 : qa_code 82 42 = some (1, 3, 0, 43, 0) := by decide +kernel
theorem cd_82_43 : qa_code 82 43 = some (0, 0, 120, 45, 0) := by decide +kernel
theorem cd_82_45 : qa_code 82 45 = some (6, 4, 0, 46, 0) := by decide +kernel
theorem cd_82_46 : qa_code 82 46 = some (6, 3, 0, 47, 0) := by decide +kernel
theorem cd_82_47 : qa_code 82 47 = some (1, 3, 0, 48, 0) := by decide +kernel
theorem cd_82_48 : qa_code 82 48 = some (0, 0, 120, 50, 0) := by decide +kernel
theorem cd_82_50 : qa_code 82 50 = some (6, 5, 0, 51, 0) := by decide +kernel
theorem cd_82_51 : qa_code 82 51 = some (6, 0, 0, 52, 0) := by decide +kernel
theorem cd_82_52 : qa_code 82 52 = some (19, 0, 0, 52, 0) := by decide +kernel
theorem cd_82_53 : qa_code 82 53 = some (5, 2, -1, 56, 0) := by decide +kernel
theorem cd_82_56 : qa_code 82 56 = some (5, 3, 1, 59, 0) := by decide +kernel
theorem cd_82_59 : qa_code 82 59 = some (17, 0, 0, 4, 0) := by decide +kernel
theorem cd_82_62 : qa_code 82 62 = some (2, 0, 0, 63, 0) := by decide +kernel
theorem cd_82_63 : qa_code 82 63 = some (0, 0, 1, 64, 0) := by decide +kernel
theorem cd_82_64 : qa_code 82 64 = some (14, 6, 26, 67, 65) := by decide +kernel
theorem cd_82_67 : qa_code 82 67 = some (0, 0, 0, 68, 0) := by decide +kernel
theorem cd_82_68 : qa_code 82 68 = some (19, 0, 0, 68, 0) := by decide +kernel
theorem cd_83_0 : qa_code 83 0 = some (0, 0, 0, 1, 0) := by decide +kernel
theorem cd_83_1 : qa_code 83 1 = some (3, 3, 0, 2, 0) := by decide +kernel
theorem cd_83_2 : qa_code 83 2 = some (1, 1, 0, 3, 0) := by decide +kernel
theorem cd_83_3 : qa_code 83 3 = some (3, 4, 0, 5, 0) := by decide +kernel
theorem cd_83_5 : qa_code 83 5 = some (1, 4, 0, 7, 0) := by decide +kernel
theorem cd_83_7 : qa_code 83 7 = some (0, 0, -1, 8, 0) := by decide +kernel
theorem cd_83_8 : qa_code 83 8 = some (15, 0, 34, 11, 0) := by decide +kernel
theorem cd_83_11 : qa_code 83 11 = some (1, 3, 0, 12, 0) := by decide +kernel
theorem cd_83_12 : qa_code 83 12 = some (2, 0, 0, 13, 0) := by decide +kernel
theorem cd_83_13 : qa_code 83 13 = some (1, 4, 0, 15, 0) := by decide +kernel
theorem cd_83_15 : qa_code 83 15 = some (0, 0, 2, 16, 0) := by decide +kernel
theorem cd_83_16 : qa_code 83 16 = some (1, 2, 0, 17, 0) := by decide +kernel
theorem cd_83_17 : qa_code 83 17 = some (18, 75, 4, 20, 100) := by decide +kernel
theorem cd_83_20 : qa_code 83 20 = some (6, 0, 0, 21, 0) := by decide +kernel
theorem cd_83_21 : qa_code 83 21 = some (3, 3, 0, 22, 0) := by decide +kernel
theorem cd_83_22 : qa_code 83 22 = some (2, 0, 0, 23, 0) := by decide +kernel
theorem cd_83_23 : qa_code 83 23 = some (13, 6, 1, 26, 7) := by decide +kernel
theorem cd_83_26 : qa_code 83 26 = some (1, 4, 0, 28, 0) := by decide +kernel
theorem cd_83_28 : qa_code 83 28 = some (10, 0, 0, 29, 0) := by decide +kernel
theorem cd_83_29 : qa_code 83 29 = some (3, 4, 0, 31, 0) := by decide +kernel
theorem cd_83_31 : qa_code 83 31 = some (17, 0, 0, 5, 0) := by decide +kernel
theorem cd_83_34 : qa_code 83 34 = some (1, 3, 0, 35, 0) := by decide +kernel
theorem cd_83_35 : qa_code 83 35 = some (0, 0, 4, 36, 0) := by decide +kernel
theorem cd_83_36 : qa_code 83 36 = some (6, 5, 0, 37, 0) := by decide +kernel
theorem cd_83_37 : qa_code 83 37 = some (19, 0, 0, 37, 0) := by decide +kernel
theorem cd_84_0 : qa_code 84 0 = some (0, 0, 0, 1, 0) := by decide +kernel
theorem cd_84_1 : qa_code 84 1 = some (3, 2, 0, 2, 0) := by decide +kernel
theorem cd_84_2 : qa_code 84 2 = some (1, 2, 0, 3, 0) := by decide +kernel
theorem cd_84_3 : qa_code 84 3 = some (1, 1, 0, 4, 0) := by decide +kernel
theorem cd_84_4 : qa_code 84 4 = some (15, 3, 32, 7, 0) := by decide +kernel
theorem cd_84_7 : qa_code 84 7 = some (2, 0, 0, 8, 0) := by decide +kernel
theorem cd_84_8 : qa_code 84 8 = some (12, 6, 24, 11, 116) := by decide +kernel
theorem cd_84_11 : qa_code 84 11 = some (3, 3, 0, 12, 0) := by decide +kernel
theorem cd_84_12 : qa_code 84 12 = some (2, 0, 0, 13, 0) := by decide +kernel
theorem cd_84_13 : qa_code 84 13 = some (2, 0, 0, 14, 0) := by decide +kernel
theorem cd_84_14 : qa_code 84 14 = some (12, 6, 25, 17, 119) := by decide +kernel
theorem cd_84_17 : qa_code 84 17 = some (7, 0, 0, 18, 0) := by decide +kernel
theorem cd_84_18 : qa_code 84 18 = some (14, 6, 24, 21, 116) := by decide +kernel
theorem cd_84_21 : qa_code 84 21 = some (2, 0, 0, 22, 0) := by decide +kernel
theorem cd_84_22 : qa_code 84 22 = some (1, 3, 0, 23, 0) := by decide +kernel
theorem cd_84_23 : qa_code 84 23 = some (14, 6, 25, 26, 119) := by decide +kernel
theorem cd_84_26 : qa_code 84 26 = some (5, 2, 1, 29, 0) := by decide +kernel
theorem cd_84_29 : qa_code 84 29 = some (17, 0, 0, 2, 0) := by decide +kernel
theorem cd_84_32 : qa_code 84 32 = some (20, 0, 0, 32, 0) := by decide +kernel
theorem cd_85_0 : qa_code 85 0 = some (2, 0, 0, 1, 0) := by decide +kernel
theorem cd_85_1 : qa_code 85 1 = some (2, 0, 0, 2, 0) := by decide +kernel
theorem cd_85_2 : qa_code 85 2 = some (1, 1, 0, 3, 0) := by decide +kernel
theorem cd_85_3 : qa_code 85 3 = some (18, 67, 2, 6, 76) := by decide +kernel
theorem cd_85_6 : qa_code 85 6 = some (16, 0, 20, 9, 0) := by decide +kernel
theorem cd_85_9 : qa_code 85 9 = some (1, 2, 0, 10, 0) := by decide +kernel
theorem cd_85_10 : qa_code 85 10 = some (18, 68, 1, 13, 80) := by decide +kernel
theorem cd_85_13 : qa_code 85 13 = some (16, 0, 20, 16, 0) := by decide +kernel
theorem cd_85_16 : qa_code 85 16 = some (0, 0, 0, 17, 0) := by decide +kernel
theorem cd_85_17 : qa_code 85 17 = some (17, 0, 0, 21, 0) := by decide +kernel
theorem cd_85_20 : qa_code 85 20 = some (0, 0, 1, 21, 0) := by decide +kernel
theorem cd_85_21 : qa_code 85 21 = some (18, 65, 2, 24, 83) := by decide +kernel
theorem cd_85_24 : qa_code 85 24 = some (16, 0, 29, 27, 0) := by decide +kernel
theorem cd_85_27 : qa_code 85 27 = some (0, 0, 0, 28, 0) := by decide +kernel
theorem cd_85_28 : qa_code 85 28 = some (19, 0, 0, 28, 0) := by decide +kernel
theorem cd_85_29 : qa_code 85 29 = some (0, 0, 0, 30, 0) := by decide +kernel
theorem cd_85_30 : qa_code 85 30 = some (3, 3, 0, 31, 0) := by decide +kernel
theorem cd_85_31 : qa_code 85 31 = some (0, 0, 0, 32, 0) := by decide +kernel
theorem cd_85_32 : qa_code 85 32 = some (3, 4, 0, 34, 0) := by decide +kernel
theorem cd_85_34 : qa_code 85 34 = some (1, 1, 0, 35, 0) := by decide +kernel
theorem cd_85_35 : qa_code 85 35 = some (3, 5, 0, 37, 0) := by decide +kernel
theorem cd_85_37 : qa_code 85 37 = some (1, 5, 0, 39, 0) := by decide +kernel
theorem cd_85_39 : qa_code 85 39 = some (0, 0, -1, 40, 0) := by decide +kernel
theorem cd_85_40 : qa_code 85 40 = some (15, 0, 142, 43, 0) := by decide +kernel
theorem cd_85_43 : qa_code 85 43 = some (2, 0, 0, 44, 0) := by decide +kernel
theorem cd_85_44 : qa_code 85 44 = some (2, 0, 0, 45, 0) := by decide +kernel
theorem cd_85_45 : qa_code 85 45 = some (13, 6, 2, 48, 13) := by decide +kernel
theorem cd_85_48 : qa_code 85 48 = some (1, 5, 0, 50, 0) := by decide +kernel
theorem cd_85_50 : qa_code 85 50 = some (10, 0, 0, 51, 0) := by decide +kernel
theorem cd_85_51 : qa_code 85 51 = some (2, 0, 0, 52, 0) := by decide +kernel
theorem cd_85_52 : qa_code 85 52 = some (1, 5, 0, 54, 0) := by decide +kernel
theorem cd_85_54 : qa_code 85 54 = some (0, 0, 0, 55, 0) := by decide +kernel
theorem cd_85_55 : qa_code 85 55 = some (1, 2, 0, 56, 0) := by decide +kernel
theorem cd_85_56 : qa_code 85 56 = some (18, 75, 4, 59, 100) := by decide +kernel
theorem cd_85_59 : qa_code 85 59 = some (6, 0, 0, 60, 0) := by decide +kernel
theorem cd_85_60 : qa_code 85 60 = some (14, 6, 24, 63, 116) := by decide +kernel
theorem cd_85_63 : qa_code 85 63 = some (2, 0, 0, 64, 0) := by decide +kernel
theorem cd_85_64 : qa_code 85 64 = some (2, 0, 0, 65, 0) := by decide +kernel
theorem cd_85_65 : qa_code 85 65 = some (13, 6, 3, 68, 16) := by decide +kernel
theorem cd_85_68 : qa_code 85 68 = some (1, 5, 0, 70, 0) := by decide +kernel
theorem cd_85_70 : qa_code 85 70 = some (10, 0, 0, 71, 0) := by decide +kernel
theorem cd_85_71 : qa_code 85 71 = some (2, 0, 0, 72, 0) := by decide +kernel
theorem cd_85_72 : qa_code 85 72 = some (1, 5, 0, 74, 0) := by decide +kernel
theorem cd_85_74 : qa_code 85 74 = some (0, 0, 1, 75, 0) := by decide +kernel
theorem cd_85_75 : qa_code 85 75 = some (1, 2, 0, 76, 0) := by decide +kernel
theorem cd_85_76 : qa_code 85 76 = some (18, 75, 4, 79, 100) := by decide +kernel
theorem cd_85_79 : qa_code 85 79 = some (6, 0, 0, 80, 0) := by decide +kernel
theorem cd_85_80 : qa_code 85 80 = some (14, 6, 25, 83, 119) := by decide +kernel
theorem cd_85_83 : qa_code 85 83 = some (2, 0, 0, 84, 0) := by decide +kernel
theorem cd_85_84 : qa_code 85 84 = some (2, 0, 0, 85, 0) := by decide +kernel
theorem cd_85_85 : qa_code 85 85 = some (13, 6, 1, 88, 7) := by decide +kernel
theorem cd_85_88 : qa_code 85 88 = some (1, 5, 0, 90, 0) := by decide +kernel
theorem cd_85_90 : qa_code 85 90 = some (10, 0, 0, 91, 0) := by decide +kernel
theorem cd_85_91 : qa_code 85 91 = some (0, 0, -1, 92, 0) := by decide +kernel
theorem cd_85_92 : qa_code 85 92 = some (15, 1, 99, 95, 0) := by decide +kernel
theorem cd_85_95 : qa_code 85 95 = some (0, 0, 0, 96, 0) := by decide +kernel
theorem cd_85_96 : qa_code 85 96 = some (17, 0, 0, 111, 0) := by decide +kernel
theorem cd_85_99 : qa_code 85 99 = some (2, 0, 0, 100, 0) := by decide +kernel
theorem cd_85_100 : qa_code 85 100 = some (2, 0, 0, 101, 0) := by decide +kernel
theorem cd_85_101 : qa_code 85 101 = some (13, 6, 1, 104, 7) := by decide +kernel
theorem cd_85_104 : qa_code 85 104 = some (1, 5, 0, 106, 0) := by decide +kernel
theorem cd_85_106 : qa_code 85 106 = some (10, 0, 0, 107, 0) := by decide +kernel
theorem cd_85_107 : qa_code 85 107 = some (1, 2, 0, 108, 0) := by decide +kernel
theorem cd_85_108 : qa_code 85 108 = some (18, 83, 3, 111, 122) := by decide +kernel
theorem cd_85_111 : qa_code 85 111 = some (18, 84, 2, 114, 125) := by decide +kernel
theorem cd_85_114 : qa_code 85 114 = some (1, 3, 0, 115, 0) := by decide +kernel
theorem cd_85_115 : qa_code 85 115 = some (2, 0, 0, 116, 0) := by decide +kernel
theorem cd_85_116 : qa_code 85 116 = some (12, 6, 24, 119, 116) := by decide +kernel
theorem cd_85_119 : qa_code 85 119 = some (6, 0, 0, 120, 0) := by decide +kernel
theorem cd_85_120 : qa_code 85 120 = some (3, 3, 0, 121, 0) := by decide +kernel
theorem cd_85_121 : qa_code 85 121 = some (1, 4, 0, 123, 0) := by decide +kernel
theorem cd_85_123 : qa_code 85 123 = some (2, 0, 0, 124, 0) := by decide +kernel
theorem cd_85_124 : qa_code 85 124 = some (12, 6, 25, 127, 119) := by decide +kernel
theorem cd_85_127 : qa_code 85 127 = some (6, 0, 0, 128, 0) := by decide +kernel
theorem cd_85_128 : qa_code 85 128 = some (3, 4, 0, 130, 0) := by decide +kernel
theorem cd_85_130 : qa_code 85 130 = some (2, 0, 0, 131, 0) := by decide +kernel
theorem cd_85_131 : qa_code 85 131 = some (13, 6, 1, 134, 7) := by decide +kernel
theorem cd_85_134 : qa_code 85 134 = some (1, 5, 0, 136, 0) := by decide +kernel
theorem cd_85_136 : qa_code 85 136 = some (10, 0, 0, 137, 0) := by decide +kernel
theorem cd_85_137 : qa_code 85 137 = some (3, 5, 0, 139, 0) := by decide +kernel
theorem cd_85_139 : qa_code 85 139 = some (17, 0, 0, 37, 0) := by decide +kernel
theorem cd_85_142 : qa_code 85 142 = some (0, 0, 10000, 145, 0) := by decide +kernel
theorem cd_85_145 : qa_code 85 145 = some (1, 3, 0, 146, 0) := by decide +kernel
theorem cd_85_146 : qa_code 85 146 = some (0, 0, 5000, 149, 0) := by decide +kernel
theorem cd_85_149 : qa_code 85 149 = some (6, 0, 0, 150, 0) := by decide +kernel
theorem cd_85_150 : qa_code 85 150 = some (6, 3, 0, 151, 0) := by decide +kernel
theorem cd_85_151 : qa_code 85 151 = some (1, 4, 0, 153, 0) := by decide +kernel
theorem cd_85_153 : qa_code 85 153 = some (6, 0, 0, 154, 0) := by decide +kernel
theorem cd_85_154 : qa_code 85 154 = some (0, 0, 5000, 157, 0) := by decide +kernel
theorem cd_85_157 : qa_code 85 157 = some (6, 0, 0, 158, 0) := by decide +kernel
theorem cd_85_158 : qa_code 85 158 = some (19, 0, 0, 158, 0) := by decide +kernel
theorem cd_86_0 : qa_code 86 0 = some (0, 0, 0, 1, 0) := by decide +kernel
theorem cd_86_1 : qa_code 86 1 = some (3, 2, 0, 2, 0) := by decide +kernel
theorem cd_86_2 : qa_code 86 2 = some (0, 0, 0, 3, 0) := by decide +kernel
theorem cd_86_3 : qa_code 86 3 = some (3, 3, 0, 4, 0) := by decide +kernel
theorem cd_86_4 : qa_code 86 4 = some (1, 3, 0, 5, 0) := by decide +kernel
theorem cd_86_5 : qa_code 86 5 = some (0, 0, 3, 6, 0) := by decide +kernel
theorem cd_86_6 : qa_code 86 6 = some (2, 0, 0, 7, 0) := by decide +kernel
theorem cd_86_7 : qa_code 86 7 = some (12, 6, 0, 10, 69) := by decide +kernel
theorem cd_86_10 : qa_code 86 10 = some (6, 3, 0, 11, 0) := by decide +kernel
theorem cd_86_11 : qa_code 86 11 = some (15, 3, 140, 14, 0) := by decide +kernel
theorem cd_86_14 : qa_code 86 14 = some (2, 0, 0, 15, 0) := by decide +kernel
theorem cd_86_15 : qa_code 86 15 = some (1, 3, 0, 16, 0) := by decide +kernel
theorem cd_86_16 : qa_code 86 16 = some (0, 0, 3, 17, 0) := by decide +kernel
theorem cd_86_17 : qa_code 86 17 = some (6, 4, 0, 18, 0) := by decide +kernel
theorem cd_86_18 : qa_code 86 18 = some (1, 3, 0, 19, 0) := by decide +kernel
theorem cd_86_19 : qa_code 86 19 = some (0, 0, 3, 20, 0) := by decide +kernel
theorem cd_86_20 : qa_code 86 20 = some (6, 5, 0, 21, 0) := by decide +kernel
theorem cd_86_21 : qa_code 86 21 = some (1, 1, 0, 22, 0) := by decide +kernel
theorem cd_86_22 : qa_code 86 22 = some (18, 72, 4, 25, 90) := by decide +kernel
theorem cd_86_25 : qa_code 86 25 = some (3, 4, 0, 27, 0) := by decide +kernel
theorem cd_86_27 : qa_code 86 27 = some (2, 0, 0, 28, 0) := by decide +kernel
theorem cd_86_28 : qa_code 86 28 = some (1, 3, 0, 29, 0) := by decide +kernel
theorem cd_86_29 : qa_code 86 29 = some (0, 0, 3, 30, 0) := by decide +kernel
theorem cd_86_30 : qa_code 86 30 = some (6, 4, 0, 31, 0) := by decide +kernel
theorem cd_86_31 : qa_code 86 31 = some (1, 3, 0, 32, 0) := by decide +kernel
theorem cd_86_32 : qa_code 86 32 = some (0, 0, 3, 33, 0) := by decide +kernel
theorem cd_86_33 : qa_code 86 33 = some (6, 5, 0, 34, 0) := by decide +kernel
theorem cd_86_34 : qa_code 86 34 = some (1, 1, 0, 35, 0) := by decide +kernel
theorem cd_86_35 : qa_code 86 35 = some (18, 73, 4, 38, 93) := by decide +kernel
theorem cd_86_38 : qa_code 86 38 = some (3, 5, 0, 40, 0) := by decide +kernel
theorem cd_86_40 : qa_code 86 40 = some (1, 2, 0, 41, 0) := by decide +kernel
theorem cd_86_41 : qa_code 86 41 = some (1, 4, 0, 43, 0) := by decide +kernel
theorem cd_86_43 : qa_code 86 43 = some (0, 0, -1, 44, 0) := by decide +kernel
theorem cd_86_44 : qa_code 86 44 = some (15, 1, 51, 47, 0) := by decide +kernel
theorem cd_86_47 : qa_code 86 47 = some (0, 0, 0, 48, 0) := by decide +kernel
theorem cd_86_48 : qa_code 86 48 = some (17, 0, 0, 65, 0) := by decide +kernel
theorem cd_86_51 : qa_code 86 51 = some (0, 0, 1, 52, 0) := by decide +kernel
theorem cd_86_52 : qa_code 86 52 = some (2, 0, 0, 53, 0) := by decide +kernel
theorem cd_86_53 : qa_code 86 53 = some (13, 6, 7, 56, 26) := by decide +kernel
theorem cd_86_56 : qa_code 86 56 = some (0, 0, 120, 58, 0) := by decide +kernel
theorem cd_86_58 : qa_code 86 58 = some (1, 3, 0, 59, 0) := by decide +kernel
theorem cd_86_59 : qa_code 86 59 = some (6, 3, 0, 60, 0) := by decide +kernel
theorem cd_86_60 : qa_code 86 60 = some (1, 4, 0, 62, 0) := by decide +kernel
theorem cd_86_62 : qa_code 86 62 = some (6, 0, 0, 63, 0) := by decide +kernel
theorem cd_86_63 : qa_code 86 63 = some (10, 0, 0, 64, 0) := by decide +kernel
theorem cd_86_64 : qa_code 86 64 = some (6, 8, 0, 65, 0) := by decide +kernel
theorem cd_86_65 : qa_code 86 65 = some (6, 7, 0, 66, 0) := by decide +kernel
theorem cd_86_66 : qa_code 86 66 = some (3, 2, 0, 67, 0) := by decide +kernel
theorem cd_86_67 : qa_code 86 67 = some (1, 5, 0, 69, 0) := by decide +kernel
theorem cd_86_69 : qa_code 86 69 = some (0, 0, 120, 71, 0) := by decide +kernel
theorem cd_86_71 : qa_code 86 71 = some (15, 3, 105, 74, 0) := by decide +kernel
theorem cd_86_74 : qa_code 86 74 = some (1, 4, 0, 76, 0) := by decide +kernel
theorem cd_86_76 : qa_code 86 76 = some (0, 0, -1, 77, 0) := by decide +kernel
theorem cd_86_77 : qa_code 86 77 = some (15, 0, 101, 80, 0) := by decide +kernel
theorem cd_86_80 : qa_code 86 80 = some (2, 0, 0, 81, 0) := by decide +kernel
theorem cd_86_81 : qa_code 86 81 = some (13, 6, 8, 84, 29) := by decide +kernel
theorem cd_86_84 : qa_code 86 84 = some (0, 0, 120, 86, 0) := by decide +kernel
theorem cd_86_86 : qa_code 86 86 = some (1, 3, 0, 87, 0) := by decide +kernel
theorem cd_86_87 : qa_code 86 87 = some (6, 3, 0, 88, 0) := by decide +kernel
theorem cd_86_88 : qa_code 86 88 = some (1, 4, 0, 90, 0) := by decide +kernel
theorem cd_86_90 : qa_code 86 90 = some (6, 0, 0, 91, 0) := by decide +kernel
theorem cd_86_91 : qa_code 86 91 = some (10, 1, 0, 92, 0) := by decide +kernel
theorem cd_86_92 : qa_code 86 92 = some (16, 0, 105, 95, 0) := by decide +kernel
theorem cd_86_95 : qa_code 86 95 = some (1, 4, 0, 97, 0) := by decide +kernel
theorem cd_86_97 : qa_code 86 97 = some (1, 1, 0, 98, 0) := by decide +kernel
theorem cd_86_98 : qa_code 86 98 = some (15, 3, 105, 101, 0) := by decide +kernel
theorem cd_86_101 : qa_code 86 101 = some (0, 0, 1, 102, 0) := by decide +kernel
theorem cd_86_102 : qa_code 86 102 = some (17, 0, 0, 106, 0) := by decide +kernel
theorem cd_86_105 : qa_code 86 105 = some (0, 0, 0, 106, 0) := by decide +kernel
theorem cd_86_106 : qa_code 86 106 = some (3, 6, 0, 108, 0) := by decide +kernel
theorem cd_86_108 : qa_code 86 108 = some (1, 2, 0, 109, 0) := by decide +kernel
theorem cd_86_109 : qa_code 86 109 = some (1, 6, 0, 111, 0) := by decide +kernel
theorem cd_86_111 : qa_code 86 111 = some (16, 0, 131, 114, 0) := by decide +kernel
theorem cd_86_114 : qa_code 86 114 = some (0, 0, 1, 115, 0) := by decide +kernel
theorem cd_86_115 : qa_code 86 115 = some (2, 0, 0, 116, 0) := by decide +kernel
theorem cd_86_116 : qa_code 86 116 = some (13, 6, 7, 119, 26) := by decide +kernel
theorem cd_86_119 : qa_code 86 119 = some (0, 0, 120, 121, 0) := by decide +kernel
theorem cd_86_121 : qa_code 86 121 = some (1, 3, 0, 122, 0) := by decide +kernel
theorem cd_86_122 : qa_code 86 122 = some (6, 3, 0, 123, 0) := by decide +kernel
theorem cd_86_123 : qa_code 86 123 = some (1, 5, 0, 125, 0) := by decide +kernel
theorem cd_86_125 : qa_code 86 125 = some (6, 0, 0, 126, 0) := by decide +kernel
theorem cd_86_126 : qa_code 86 126 = some (10, 0, 0, 127, 0) := by decide +kernel
theorem cd_86_127 : qa_code 86 127 = some (6, 8, 0, 128, 0) := by decide +kernel
theorem cd_86_128 : qa_code 86 128 = some (17, 0, 0, 132, 0) := by decide +kernel
theorem cd_86_131 : qa_code 86 131 = some (0, 0, 0, 132, 0) := by decide +kernel
theorem cd_86_132 : qa_code 86 132 = some (6, 7, 0, 133, 0) := by decide +kernel
theorem cd_86_133 : qa_code 86 133 = some (3, 2, 0, 134, 0) := by decide +kernel
theorem cd_86_134 : qa_code 86 134 = some (5, 3, 1, 137, 0) := by decide +kernel
theorem cd_86_137 : qa_code 86 137 = some (17, 0, 0, 4, 0) := by decide +kernel
theorem cd_86_140 : qa_code 86 140 = some (1, 2, 0, 141, 0) := by decide +kernel
theorem cd_86_141 : qa_code 86 141 = some (19, 0, 0, 141, 0) := by decide +kernel
theorem cd_87_0 : qa_code 87 0 = some (2, 0, 0, 1, 0) := by decide +kernel
theorem cd_87_1 : qa_code 87 1 = some (1, 1, 0, 2, 0) := by decide +kernel
theorem cd_87_2 : qa_code 87 2 = some (18, 68, 1, 5, 80) := by decide +kernel
theorem cd_87_5 : qa_code 87 5 = some (16, 0, 12, 8, 0) := by decide +kernel
theorem cd_87_8 : qa_code 87 8 = some (0, 0, 0, 9, 0) := by decide +kernel
theorem cd_87_9 : qa_code 87 9 = some (17, 0, 0, 13, 0) := by decide +kernel
theorem cd_87_12 : qa_code 87 12 = some (0, 0, 1, 13, 0) := by decide +kernel
theorem cd_87_13 : qa_code 87 13 = some (18, 65, 2, 16, 83) := by decide +kernel
theorem cd_87_16 : qa_code 87 16 = some (16, 0, 23, 19, 0) := by decide +kernel
theorem cd_87_19 : qa_code 87 19 = some (0, 0, 0, 20, 0) := by decide +kernel
theorem cd_87_20 : qa_code 87 20 = some (17, 0, 0, 28, 0) := by decide +kernel
theorem cd_87_23 : qa_code 87 23 = some (2, 0, 0, 24, 0) := by decide +kernel
theorem cd_87_24 : qa_code 87 24 = some (1, 1, 0, 25, 0) := by decide +kernel
theorem cd_87_25 : qa_code 87 25 = some (18, 86, 2, 28, 129) := by decide +kernel
theorem cd_87_28 : qa_code 87 28 = some (19, 0, 0, 28, 0) := by decide +kernel
theorem cd_88_0 : qa_code 88 0 = some (0, 0, 0, 1, 0) := by decide +kernel
theorem cd_88_1 : qa_code 88 1 = some (3, 1, 0, 2, 0) := by decide +kernel
theorem cd_88_2 : qa_code 88 2 = some (0, 0, 0, 3, 0) := by decide +kernel
theorem cd_88_3 : qa_code 88 3 = some (3, 2, 0, 4, 0) := by decide +kernel
theorem cd_88_4 : qa_code 88 4 = some (1, 2, 0, 5, 0) := by decide +kernel
theorem cd_88_5 : qa_code 88 5 = some (2, 0, 0, 6, 0) := by decide +kernel
theorem cd_88_6 : qa_code 88 6 = some (12, 6, 9, 9, 133) := by decide +kernel
theorem cd_88_9 : qa_code 88 9 = some (15, 3, 36, 12, 0) := by decide +kernel
theorem cd_88_12 : qa_code 88 12 = some (1, 1, 0, 13, 0) := by decide +kernel
theorem cd_88_13 : qa_code 88 13 = some (2, 0, 0, 14, 0) := by decide +kernel
theorem cd_88_14 : qa_code 88 14 = some (13, 6, 11, 17, 35) := by decide +kernel
theorem cd_88_17 : qa_code 88 17 = some (1, 2, 0, 18, 0) := by decide +kernel
theorem cd_88_18 : qa_code 88 18 = some (10, 0, 0, 19, 0) := by decide +kernel
theorem cd_88_19 : qa_code 88 19 = some (2, 0, 0, 20, 0) := by decide +kernel
theorem cd_88_20 : qa_code 88 20 = some (13, 6, 10, 23, 32) := by decide +kernel
theorem cd_88_23 : qa_code 88 23 = some (1, 2, 0, 24, 0) := by decide +kernel
theorem cd_88_24 : qa_code 88 24 = some (10, 0, 0, 25, 0) := by decide +kernel
theorem cd_88_25 : qa_code 88 25 = some (6, 2, 0, 26, 0) := by decide +kernel
theorem cd_88_26 : qa_code 88 26 = some (0, 0, 1, 27, 0) := by decide +kernel
theorem cd_88_27 : qa_code 88 27 = some (6, 0, 0, 28, 0) := by decide +kernel
theorem cd_88_28 : qa_code 88 28 = some (6, 0, 0, 29, 0) := by decide +kernel
theorem cd_88_29 : qa_code 88 29 = some (3, 1, 0, 30, 0) := by decide +kernel
theorem cd_88_30 : qa_code 88 30 = some (5, 2, 1, 33, 0) := by decide +kernel
theorem cd_88_33 : qa_code 88 33 = some (17, 0, 0, 4, 0) := by decide +kernel
theorem cd_88_36 : qa_code 88 36 = some (1, 1, 0, 37, 0) := by decide +kernel
theorem cd_88_37 : qa_code 88 37 = some (19, 0, 0, 37, 0) := by decide +kernel
theorem cd_89_0 : qa_code 89 0 = some (1, 1, 0, 1, 0) := by decide +kernel
theorem cd_89_1 : qa_code 89 1 = some (0, 0, 0, 2, 0) := by decide +kernel
theorem cd_89_2 : qa_code 89 2 = some (2, 0, 0, 3, 0) := by decide +kernel
theorem cd_89_3 : qa_code 89 3 = some (12, 6, 9, 6, 133) := by decide +kernel
theorem cd_89_6 : qa_code 89 6 = some (18, 66, 3, 9, 72) := by decide +kernel
theorem cd_89_9 : qa_code 89 9 = some (16, 0, 30, 12, 0) := by decide +kernel
theorem cd_89_12 : qa_code 89 12 = some (1, 2, 0, 13, 0) := by decide +kernel
theorem cd_89_13 : qa_code 89 13 = some (18, 68, 1, 16, 80) := by decide +kernel
theorem cd_89_16 : qa_code 89 16 = some (16, 0, 30, 19, 0) := by decide +kernel
theorem cd_89_19 : qa_code 89 19 = some (1, 3, 0, 20, 0) := by decide +kernel
theorem cd_89_20 : qa_code 89 20 = some (18, 68, 1, 23, 80) := by decide +kernel
theorem cd_89_23 : qa_code 89 23 = some (16, 0, 30, 26, 0) := by decide +kernel
theorem cd_89_26 : qa_code 89 26 = some (0, 0, 1, 27, 0) := by decide +kernel
theorem cd_89_27 : qa_code 89 27 = some (17, 0, 0, 31, 0) := by decide +kernel
theorem cd_89_30 : qa_code 89 30 = some (0, 0, 0, 31, 0) := by decide +kernel
theorem cd_89_31 : qa_code 89 31 = some (3, 4, 0, 33, 0) := by decide +kernel
theorem cd_89_33 : qa_code 89 33 = some (2, 0, 0, 34, 0) := by decide +kernel
theorem cd_89_34 : qa_code 89 34 = some (1, 4, 0, 36, 0) := by decide +kernel
theorem cd_89_36 : qa_code 89 36 = some (16, 1, 43, 39, 0) := by decide +kernel
theorem cd_89_39 : qa_code 89 39 = some (0, 0, 1, 40, 0) := by decide +kernel
theorem cd_89_40 : qa_code 89 40 = some (17, 0, 0, 66, 0) := by decide +kernel
theorem cd_89_43 : qa_code 89 43 = some (1, 3, 0, 44, 0) := by decide +kernel
theorem cd_89_44 : qa_code 89 44 = some (1, 2, 0, 45, 0) := by decide +kernel
theorem cd_89_45 : qa_code 89 45 = some (15, 3, 52, 48, 0) := by decide +kernel
theorem cd_89_48 : qa_code 89 48 = some (0, 0, 2, 49, 0) := by decide +kernel
theorem cd_89_49 : qa_code 89 49 = some (17, 0, 0, 66, 0) := by decide +kernel
theorem cd_89_52 : qa_code 89 52 = some (2, 0, 0, 53, 0) := by decide +kernel
theorem cd_89_53 : qa_code 89 53 = some (12, 6, 9, 56, 133) := by decide +kernel
theorem cd_89_56 : qa_code 89 56 = some (0, 0, 10, 58, 0) := by decide +kernel
theorem cd_89_58 : qa_code 89 58 = some (15, 1, 65, 61, 0) := by decide +kernel
theorem cd_89_61 : qa_code 89 61 = some (0, 0, 3, 62, 0) := by decide +kernel
theorem cd_89_62 : qa_code 89 62 = some (17, 0, 0, 66, 0) := by decide +kernel
theorem cd_89_65 : qa_code 89 65 = some (0, 0, 0, 66, 0) := by decide +kernel
theorem cd_89_66 : qa_code 89 66 = some (18, 65, 2, 69, 83) := by decide +kernel
theorem cd_89_69 : qa_code 89 69 = some (16, 0, 74, 72, 0) := by decide +kernel
theorem cd_89_72 : qa_code 89 72 = some (0, 0, 0, 73, 0) := by decide +kernel
theorem cd_89_73 : qa_code 89 73 = some (19, 0, 0, 73, 0) := by decide +kernel
theorem cd_89_74 : qa_code 89 74 = some (2, 0, 0, 75, 0) := by decide +kernel
theorem cd_89_75 : qa_code 89 75 = some (12, 6, 9, 78, 133) := by decide +kernel
theorem cd_89_78 : qa_code 89 78 = some (3, 5, 0, 80, 0) := by decide +kernel
theorem cd_89_80 : qa_code 89 80 = some (1, 5, 0, 82, 0) := by decide +kernel
theorem cd_89_82 : qa_code 89 82 = some (1, 1, 0, 83, 0) := by decide +kernel
theorem cd_89_83 : qa_code 89 83 = some (15, 5, 124, 86, 0) := by decide +kernel
theorem cd_89_86 : qa_code 89 86 = some (2, 0, 0, 87, 0) := by decide +kernel
theorem cd_89_87 : qa_code 89 87 = some (13, 6, 10, 90, 32) := by decide +kernel
theorem cd_89_90 : qa_code 89 90 = some (1, 5, 0, 92, 0) := by decide +kernel
theorem cd_89_92 : qa_code 89 92 = some (2, 0, 0, 93, 0) := by decide +kernel
theorem cd_89_93 : qa_code 89 93 = some (13, 6, 10, 96, 32) := by decide +kernel
theorem cd_89_96 : qa_code 89 96 = some (1, 5, 0, 98, 0) := by decide +kernel
theorem cd_89_98 : qa_code 89 98 = some (0, 0, 1, 99, 0) := by decide +kernel
theorem cd_89_99 : qa_code 89 99 = some (6, 2, 0, 100, 0) := by decide +kernel
theorem cd_89_100 : qa_code 89 100 = some (10, 0, 0, 101, 0) := by decide +kernel
theorem cd_89_101 : qa_code 89 101 = some (11, 0, 0, 102, 0) := by decide +kernel
theorem cd_89_102 : qa_code 89 102 = some (2, 0, 0, 103, 0) := by decide +kernel
theorem cd_89_103 : qa_code 89 103 = some (13, 6, 11, 106, 35) := by decide +kernel
theorem cd_89_106 : qa_code 89 106 = some (1, 5, 0, 108, 0) := by decide +kernel
theorem cd_89_108 : qa_code 89 108 = some (2, 0, 0, 109, 0) := by decide +kernel
theorem cd_89_109 : qa_code 89 109 = some (13, 6, 11, 112, 35) := by decide +kernel
theorem cd_89_112 : qa_code 89 112 = some (1, 5, 0, 114, 0) := by decide +kernel
theorem cd_89_114 : qa_code 89 114 = some (0, 0, 1, 115, 0) := by decide +kernel
theorem cd_89_115 : qa_code 89 115 = some (6, 2, 0, 116, 0) := by decide +kernel
theorem cd_89_116 : qa_code 89 116 = some (10, 0, 0, 117, 0) := by decide +kernel
theorem cd_89_117 : qa_code 89 117 = some (11, 0, 0, 118, 0) := by decide +kernel
theorem cd_89_118 : qa_code 89 118 = some (5, 5, -1, 121, 0) := by decide +kernel
theorem cd_89_121 : qa_code 89 121 = some (17, 0, 0, 80, 0) := by decide +kernel
theorem cd_89_124 : qa_code 89 124 = some (2, 0, 0, 125, 0) := by decide +kernel
theorem cd_89_125 : qa_code 89 125 = some (13, 6, 10, 128, 32) := by decide +kernel
theorem cd_89_128 : qa_code 89 128 = some (1, 1, 0, 129, 0) := by decide +kernel
theorem cd_89_129 : qa_code 89 129 = some (1, 2, 0, 130, 0) := by decide +kernel
theorem cd_89_130 : qa_code 89 130 = some (11, 0, 0, 131, 0) := by decide +kernel
theorem cd_89_131 : qa_code 89 131 = some (2, 0, 0, 132, 0) := by decide +kernel
theorem cd_89_132 : qa_code 89 132 = some (13, 6, 11, 135, 35) := by decide +kernel
theorem cd_89_135 : qa_code 89 135 = some (1, 1, 0, 136, 0) := by decide +kernel
theorem cd_89_136 : qa_code 89 136 = some (1, 3, 0, 137, 0) := by decide +kernel
theorem cd_89_137 : qa_code 89 137 = some (11, 0, 0, 138, 0) := by decide +kernel
theorem cd_89_138 : qa_code 89 138 = some (2, 0, 0, 139, 0) := by decide +kernel
theorem cd_89_139 : qa_code 89 139 = some (8, 0, 0, 140, 0) := by decide +kernel
theorem cd_89_140 : qa_code 89 140 = some (12, 6, 9, 143, 133) := by decide +kernel
theorem cd_89_143 : qa_code 89 143 = some (0, 0, 1, 144, 0) := by decide +kernel
theorem cd_89_144 : qa_code 89 144 = some (6, 0, 0, 145, 0) := by decide +kernel
theorem cd_89_145 : qa_code 89 145 = some (14, 6, 9, 148, 133) := by decide +kernel
theorem cd_89_148 : qa_code 89 148 = some (2, 0, 0, 149, 0) := by decide +kernel
theorem cd_89_149 : qa_code 89 149 = some (18, 88, 1, 152, 136) := by decide +kernel
theorem cd_89_152 : qa_code 89 152 = some (19, 0, 0, 152, 0) := by decide +kernel
theorem cd_90_0 : qa_code 90 0 = some (1, 1, 0, 1, 0) := by decide +kernel
theorem cd_90_1 : qa_code 90 1 = some (0, 0, 0, 2, 0) := by decide +kernel
theorem cd_90_2 : qa_code 90 2 = some (2, 0, 0, 3, 0) := by decide +kernel
theorem cd_90_3 : qa_code 90 3 = some (12, 6, 9, 6, 133) := by decide +kernel
theorem cd_90_6 : qa_code 90 6 = some (0, 0, 1, 7, 0) := by decide +kernel
theorem cd_90_7 : qa_code 90 7 = some (6, 2, 0, 8, 0) := by decide +kernel
theorem cd_90_8 : qa_code 90 8 = some (18, 66, 3, 11, 72) := by decide +kernel
theorem cd_90_11 : qa_code 90 11 = some (3, 2, 0, 12, 0) := by decide +kernel
theorem cd_90_12 : qa_code 90 12 = some (2, 0, 0, 13, 0) := by decide +kernel
theorem cd_90_13 : qa_code 90 13 = some (1, 2, 0, 14, 0) := by decide +kernel
theorem cd_90_14 : qa_code 90 14 = some (16, 0, 21, 17, 0) := by decide +kernel
theorem cd_90_17 : qa_code 90 17 = some (0, 0, 0, 18, 0) := by decide +kernel
theorem cd_90_18 : qa_code 90 18 = some (17, 0, 0, 22, 0) := by decide +kernel
theorem cd_90_21 : qa_code 90 21 = some (0, 0, 1, 22, 0) := by decide +kernel
theorem cd_90_22 : qa_code 90 22 = some (18, 65, 2, 25, 83) := by decide +kernel
theorem cd_90_25 : qa_code 90 25 = some (16, 0, 30, 28, 0) := by decide +kernel
theorem cd_90_28 : qa_code 90 28 = some (0, 0, 0, 29, 0) := by decide +kernel
theorem cd_90_29 : qa_code 90 29 = some (19, 0, 0, 29, 0) := by decide +kernel
theorem cd_90_30 : qa_code 90 30 = some (2, 0, 0, 31, 0) := by decide +kernel
theorem cd_90_31 : qa_code 90 31 = some (8, 0, 0, 32, 0) := by decide +kernel
theorem cd_90_32 : qa_code 90 32 = some (12, 6, 9, 35, 133) := by decide +kernel
theorem cd_90_35 : qa_code 90 35 = some (0, 0, 1, 36, 0) := by decide +kernel
theorem cd_90_36 : qa_code 90 36 = some (6, 2, 0, 37, 0) := by decide +kernel
theorem cd_90_37 : qa_code 90 37 = some (14, 6, 9, 40, 133) := by decide +kernel
theorem cd_90_40 : qa_code 90 40 = some (1, 1, 0, 41, 0) := by decide +kernel
theorem cd_90_41 : qa_code 90 41 = some (3, 3, 0, 42, 0) := by decide +kernel
theorem cd_90_42 : qa_code 90 42 = some (1, 3, 0, 43, 0) := by decide +kernel
theorem cd_90_43 : qa_code 90 43 = some (2, 0, 0, 44, 0) := by decide +kernel
theorem cd_90_44 : qa_code 90 44 = some (12, 6, 9, 47, 133) := by decide +kernel
theorem cd_90_47 : qa_code 90 47 = some (15, 3, 84, 50, 0) := by decide +kernel
theorem cd_90_50 : qa_code 90 50 = some (2, 0, 0, 51, 0) := by decide +kernel
theorem cd_90_51 : qa_code 90 51 = some (13, 6, 10, 54, 32) := by decide +kernel
theorem cd_90_54 : qa_code 90 54 = some (1, 3, 0, 55, 0) := by decide +kernel
theorem cd_90_55 : qa_code 90 55 = some (2, 0, 0, 56, 0) := by decide +kernel
theorem cd_90_56 : qa_code 90 56 = some (13, 6, 10, 59, 32) := by decide +kernel
theorem cd_90_59 : qa_code 90 59 = some (1, 3, 0, 60, 0) := by decide +kernel
theorem cd_90_60 : qa_code 90 60 = some (0, 0, 1, 61, 0) := by decide +kernel
theorem cd_90_61 : qa_code 90 61 = some (6, 0, 0, 62, 0) := by decide +kernel
theorem cd_90_62 : qa_code 90 62 = some (10, 0, 0, 63, 0) := by decide +kernel
theorem cd_90_63 : qa_code 90 63 = some (11, 0, 0, 64, 0) := by decide +kernel
theorem cd_90_64 : qa_code 90 64 = some (2, 0, 0, 65, 0) := by decide +kernel
theorem cd_90_65 : qa_code 90 65 = some (13, 6, 11, 68, 35) := by decide +kernel
theorem cd_90_68 : qa_code 90 68 = some (1, 3, 0, 69, 0) := by decide +kernel
theorem cd_90_69 : qa_code 90 69 = some (2, 0, 0, 70, 0) := by decide +kernel
theorem cd_90_70 : qa_code 90 70 = some (13, 6, 11, 73, 35) := by decide +kernel
theorem cd_90_73 : qa_code 90 73 = some (1, 3, 0, 74, 0) := by decide +kernel
theorem cd_90_74 : qa_code 90 74 = some (0, 0, 1, 75, 0) := by decide +kernel
theorem cd_90_75 : qa_code 90 75 = some (6, 0, 0, 76, 0) := by decide +kernel
theorem cd_90_76 : qa_code 90 76 = some (10, 0, 0, 77, 0) := by decide +kernel
theorem cd_90_77 : qa_code 90 77 = some (11, 0, 0, 78, 0) := by decide +kernel
theorem cd_90_78 : qa_code 90 78 = some (5, 3, 1, 81, 0) := by decide +kernel
theorem cd_90_81 : qa_code 90 81 = some (17, 0, 0, 42, 0) := by decide +kernel
theorem cd_90_84 : qa_code 90 84 = some (2, 0, 0, 85, 0) := by decide +kernel
theorem cd_90_85 : qa_code 90 85 = some (18, 88, 1, 88, 136) := by decide +kernel
theorem cd_90_88 : qa_code 90 88 = some (19, 0, 0, 88, 0) := by decide +kernel
theorem cd_91_0 : qa_code 91 0 = some (1, 1, 0, 1, 0) := by decide +kernel
theorem cd_91_1 : qa_code 91 1 = some (3, 2, 0, 2, 0) := by decide +kernel
theorem cd_91_2 : qa_code 91 2 = some (0, 0, 0, 3, 0) := by decide +kernel
theorem cd_91_3 : qa_code 91 3 = some (3, 3, 0, 4, 0) := by decide +kernel
theorem cd_91_4 : qa_code 91 4 = some (1, 3, 0, 5, 0) := by decide +kernel
theorem cd_91_5 : qa_code 91 5 = some (2, 0, 0, 6, 0) := by decide +kernel
theorem cd_91_6 : qa_code 91 6 = some (12, 6, 9, 9, 133) := by decide +kernel
theorem cd_91_9 : qa_code 91 9 = some (15, 3, 59, 12, 0) := by decide +kernel
theorem cd_91_12 : qa_code 91 12 = some (1, 2, 0, 13, 0) := by decide +kernel
theorem cd_91_13 : qa_code 91 13 = some (16, 2, 59, 16, 0) := by decide +kernel
theorem cd_91_16 : qa_code 91 16 = some (2, 0, 0, 17, 0) := by decide +kernel
theorem cd_91_17 : qa_code 91 17 = some (13, 6, 11, 20, 35) := by decide +kernel
theorem cd_91_20 : qa_code 91 20 = some (1, 3, 0, 21, 0) := by decide +kernel
theorem cd_91_21 : qa_code 91 21 = some (10, 0, 0, 22, 0) := by decide +kernel
theorem cd_91_22 : qa_code 91 22 = some (2, 0, 0, 23, 0) := by decide +kernel
theorem cd_91_23 : qa_code 91 23 = some (13, 6, 10, 26, 32) := by decide +kernel
theorem cd_91_26 : qa_code 91 26 = some (1, 3, 0, 27, 0) := by decide +kernel
theorem cd_91_27 : qa_code 91 27 = some (10, 0, 0, 28, 0) := by decide +kernel
theorem cd_91_28 : qa_code 91 28 = some (6, 2, 0, 29, 0) := by decide +kernel
theorem cd_91_29 : qa_code 91 29 = some (0, 0, 1, 30, 0) := by decide +kernel
theorem cd_91_30 : qa_code 91 30 = some (6, 0, 0, 31, 0) := by decide +kernel
theorem cd_91_31 : qa_code 91 31 = some (3, 4, 0, 33, 0) := by decide +kernel
theorem cd_91_33 : qa_code 91 33 = some (1, 2, 0, 34, 0) := by decide +kernel
theorem cd_91_34 : qa_code 91 34 = some (1, 4, 0, 36, 0) := by decide +kernel
theorem cd_91_36 : qa_code 91 36 = some (15, 3, 48, 39, 0) := by decide +kernel
theorem cd_91_39 : qa_code 91 39 = some (2, 0, 0, 40, 0) := by decide +kernel
theorem cd_91_40 : qa_code 91 40 = some (13, 6, 10, 43, 32) := by decide +kernel
theorem cd_91_43 : qa_code 91 43 = some (1, 3, 0, 44, 0) := by decide +kernel
theorem cd_91_44 : qa_code 91 44 = some (10, 0, 0, 45, 0) := by decide +kernel
theorem cd_91_45 : qa_code 91 45 = some (1, 2, 0, 46, 0) := by decide +kernel
theorem cd_91_46 : qa_code 91 46 = some (6, 0, 0, 47, 0) := by decide +kernel
theorem cd_91_47 : qa_code 91 47 = some (19, 0, 0, 47, 0) := by decide +kernel
theorem cd_91_48 : qa_code 91 48 = some (1, 2, 0, 49, 0) := by decide +kernel
theorem cd_91_49 : qa_code 91 49 = some (1, 4, 0, 51, 0) := by decide +kernel
theorem cd_91_51 : qa_code 91 51 = some (6, 2, 0, 52, 0) := by decide +kernel
theorem cd_91_52 : qa_code 91 52 = some (3, 2, 0, 53, 0) := by decide +kernel
theorem cd_91_53 : qa_code 91 53 = some (5, 3, 1, 56, 0) := by decide +kernel
theorem cd_91_56 : qa_code 91 56 = some (17, 0, 0, 4, 0) := by decide +kernel
theorem cd_91_59 : qa_code 91 59 = some (0, 0, -1, 60, 0) := by decide +kernel
theorem cd_91_60 : qa_code 91 60 = some (19, 0, 0, 60, 0) := by decide +kernel
theorem cd_92_0 : qa_code 92 0 = some (2, 0, 0, 1, 0) := by decide +kernel
theorem cd_92_1 : qa_code 92 1 = some (1, 1, 0, 2, 0) := by decide +kernel
theorem cd_92_2 : qa_code 92 2 = some (18, 91, 2, 5, 139) := by decide +kernel
theorem cd_92_5 : qa_code 92 5 = some (3, 2, 0, 6, 0) := by decide +kernel
theorem cd_92_6 : qa_code 92 6 = some (2, 0, 0, 7, 0) := by decide +kernel
theorem cd_92_7 : qa_code 92 7 = some (1, 2, 0, 8, 0) := by decide +kernel
theorem cd_92_8 : qa_code 92 8 = some (0, 0, -1, 9, 0) := by decide +kernel
theorem cd_92_9 : qa_code 92 9 = some (15, 1, 16, 12, 0) := by decide +kernel
theorem cd_92_12 : qa_code 92 12 = some (0, 0, 1, 13, 0) := by decide +kernel
theorem cd_92_13 : qa_code 92 13 = some (17, 0, 0, 17, 0) := by decide +kernel
theorem cd_92_16 : qa_code 92 16 = some (0, 0, 0, 17, 0) := by decide +kernel
theorem cd_92_17 : qa_code 92 17 = some (18, 65, 2, 20, 83) := by decide +kernel
theorem cd_92_20 : qa_code 92 20 = some (16, 0, 27, 23, 0) := by decide +kernel
theorem cd_92_23 : qa_code 92 23 = some (0, 0, 0, 24, 0) := by decide +kernel
theorem cd_92_24 : qa_code 92 24 = some (17, 0, 0, 28, 0) := by decide +kernel
theorem cd_92_27 : qa_code 92 27 = some (1, 2, 0, 28, 0) := by decide +kernel
theorem cd_92_28 : qa_code 92 28 = some (19, 0, 0, 28, 0) := by decide +kernel
theorem cd_93_0 : qa_code 93 0 = some (0, 0, 0, 1, 0) := by decide +kernel
theorem cd_93_1 : qa_code 93 1 = some (3, 2, 0, 2, 0) := by decide +kernel
theorem cd_93_2 : qa_code 93 2 = some (0, 0, 0, 3, 0) := by decide +kernel
theorem cd_93_3 : qa_code 93 3 = some (3, 3, 0, 4, 0) := by decide +kernel
theorem cd_93_4 : qa_code 93 4 = some (1, 3, 0, 5, 0) := by decide +kernel
theorem cd_93_5 : qa_code 93 5 = some (2, 0, 0, 6, 0) := by decide +kernel
theorem cd_93_6 : qa_code 93 6 = some (12, 6, 9, 9, 133) := by decide +kernel
theorem cd_93_9 : qa_code 93 9 = some (15, 3, 47, 12, 0) := by decide +kernel
theorem cd_93_12 : qa_code 93 12 = some (1, 2, 0, 13, 0) := by decide +kernel
theorem cd_93_13 : qa_code 93 13 = some (16, 1, 35, 16, 0) := by decide +kernel
theorem cd_93_16 : qa_code 93 16 = some (1, 1, 0, 17, 0) := by decide +kernel
theorem cd_93_17 : qa_code 93 17 = some (2, 0, 0, 18, 0) := by decide +kernel
theorem cd_93_18 : qa_code 93 18 = some (13, 6, 10, 21, 32) := by decide +kernel
theorem cd_93_21 : qa_code 93 21 = some (1, 3, 0, 22, 0) := by decide +kernel
theorem cd_93_22 : qa_code 93 22 = some (10, 0, 0, 23, 0) := by decide +kernel
theorem cd_93_23 : qa_code 93 23 = some (2, 0, 0, 24, 0) := by decide +kernel
theorem cd_93_24 : qa_code 93 24 = some (13, 6, 11, 27, 35) := by decide +kernel
theorem cd_93_27 : qa_code 93 27 = some (1, 3, 0, 28, 0) := by decide +kernel
theorem cd_93_28 : qa_code 93 28 = some (10, 0, 0, 29, 0) := by decide +kernel
theorem cd_93_29 : qa_code 93 29 = some (18, 66, 3, 32, 72) := by decide +kernel
theorem cd_93_32 : qa_code 93 32 = some (16, 0, 39, 35, 0) := by decide +kernel
theorem cd_93_35 : qa_code 93 35 = some (0, 0, 1, 36, 0) := by decide +kernel
theorem cd_93_36 : qa_code 93 36 = some (17, 0, 0, 40, 0) := by decide +kernel
theorem cd_93_39 : qa_code 93 39 = some (0, 0, 0, 40, 0) := by decide +kernel
theorem cd_93_40 : qa_code 93 40 = some (3, 2, 0, 41, 0) := by decide +kernel
theorem cd_93_41 : qa_code 93 41 = some (5, 3, 1, 44, 0) := by decide +kernel
theorem cd_93_44 : qa_code 93 44 = some (17, 0, 0, 4, 0) := by decide +kernel
theorem cd_93_47 : qa_code 93 47 = some (1, 2, 0, 48, 0) := by decide +kernel
theorem cd_93_48 : qa_code 93 48 = some (19, 1, 0, 48, 0) := by decide +kernel
theorem cd_94_0 : qa_code 94 0 = some (2, 0, 0, 1, 0) := by decide +kernel
theorem cd_94_1 : qa_code 94 1 = some (1, 1, 0, 2, 0) := by decide +kernel
theorem cd_94_2 : qa_code 94 2 = some (18, 68, 1, 5, 80) := by decide +kernel
theorem cd_94_5 : qa_code 94 5 = some (16, 0, 12, 8, 0) := by decide +kernel
theorem cd_94_8 : qa_code 94 8 = some (0, 0, 0, 9, 0) := by decide +kernel
theorem cd_94_9 : qa_code 94 9 = some (17, 0, 0, 13, 0) := by decide +kernel
theorem cd_94_12 : qa_code 94 12 = some (0, 0, 1, 13, 0) := by decide +kernel
theorem cd_94_13 : qa_code 94 13 = some (18, 65, 2, 16, 83) := by decide +kernel
theorem cd_94_16 : qa_code 94 16 = some (16, 0, 21, 19, 0) := by decide +kernel
theorem cd_94_19 : qa_code 94 19 = some (0, 0, 0, 20, 0) := by decide +kernel
theorem cd_94_20 : qa_code 94 20 = some (19, 0, 0, 20, 0) := by decide +kernel
theorem cd_94_21 : qa_code 94 21 = some (2, 0, 0, 22, 0) := by decide +kernel
theorem cd_94_22 : qa_code 94 22 = some (13, 6, 12, 25, 38) := by decide +kernel
theorem cd_94_25 : qa_code 94 25 = some (1, 1, 0, 26, 0) := by decide +kernel
theorem cd_94_26 : qa_code 94 26 = some (10, 1, 0, 27, 0) := by decide +kernel
theorem cd_94_27 : qa_code 94 27 = some (16, 1, 34, 30, 0) := by decide +kernel
theorem cd_94_30 : qa_code 94 30 = some (0, 0, 0, 31, 0) := by decide +kernel
theorem cd_94_31 : qa_code 94 31 = some (17, 0, 0, 47, 0) := by decide +kernel
theorem cd_94_34 : qa_code 94 34 = some (2, 0, 0, 35, 0) := by decide +kernel
theorem cd_94_35 : qa_code 94 35 = some (1, 1, 0, 36, 0) := by decide +kernel
theorem cd_94_36 : qa_code 94 36 = some (18, 76, 2, 39, 103) := by decide +kernel
theorem cd_94_39 : qa_code 94 39 = some (16, 0, 46, 42, 0) := by decide +kernel
theorem cd_94_42 : qa_code 94 42 = some (0, 0, 1, 43, 0) := by decide +kernel
theorem cd_94_43 : qa_code 94 43 = some (17, 0, 0, 47, 0) := by decide +kernel
theorem cd_94_46 : qa_code 94 46 = some (0, 0, 2, 47, 0) := by decide +kernel
theorem cd_94_47 : qa_code 94 47 = some (2, 0, 0, 48, 0) := by decide +kernel
theorem cd_94_48 : qa_code 94 48 = some (1, 1, 0, 49, 0) := by decide +kernel
theorem cd_94_49 : qa_code 94 49 = some (18, 93, 2, 52, 142) := by decide +kernel
theorem cd_94_52 : qa_code 94 52 = some (16, 0, 60, 55, 0) := by decide +kernel
theorem cd_94_55 : qa_code 94 55 = some (0, 0, 10, 57, 0) := by decide +kernel
theorem cd_94_57 : qa_code 94 57 = some (17, 0, 0, 61, 0) := by decide +kernel
theorem cd_94_60 : qa_code 94 60 = some (0, 0, 0, 61, 0) := by decide +kernel
theorem cd_94_61 : qa_code 94 61 = some (6, 0, 0, 62, 0) := by decide +kernel
theorem cd_94_62 : qa_code 94 62 = some (19, 0, 0, 62, 0) := by decide +kernel
theorem cd_95_0 : qa_code 95 0 = some (2, 0, 0, 1, 0) := by decide +kernel
theorem cd_95_1 : qa_code 95 1 = some (0, 0, 0, 2, 0) := by decide +kernel
theorem cd_95_2 : qa_code 95 2 = some (14, 6, 26, 5, 65) := by decide +kernel
theorem cd_95_5 : qa_code 95 5 = some (2, 0, 0, 6, 0) := by decide +kernel
theorem cd_95_6 : qa_code 95 6 = some (18, 77, 1, 9, 112) := by decide +kernel
theorem cd_95_9 : qa_code 95 9 = some (19, 0, 0, 9, 0) := by decide +kernel
theorem cd_96_0 : qa_code 96 0 = some (2, 0, 0, 1, 0) := by decide +kernel
theorem cd_96_1 : qa_code 96 1 = some (0, 0, 0, 2, 0) := by decide +kernel
theorem cd_96_2 : qa_code 96 2 = some (14, 6, 26, 5, 65) := by decide +kernel
theorem cd_96_5 : qa_code 96 5 = some (2, 0, 0, 6, 0) := by decide +kernel
theorem cd_96_6 : qa_code 96 6 = some (18, 77, 1, 9, 112) := by decide +kernel
theorem cd_96_9 : qa_code 96 9 = some (19, 0, 0, 9, 0) := by decide +kernel
theorem cd_97_0 : qa_code 97 0 = some (2, 0, 0, 1, 0) := by decide +kernel
theorem cd_97_1 : qa_code 97 1 = some (1, 1, 0, 2, 0) := by decide +kernel
theorem cd_97_2 : qa_code 97 2 = some (0, 0, 1, 3, 0) := by decide +kernel
theorem cd_97_3 : qa_code 97 3 = some (0, 0, 5, 4, 0) := by decide +kernel
theorem cd_97_4 : qa_code 97 4 = some (18, 66, 3, 7, 72) := by decide +kernel
theorem cd_97_7 : qa_code 97 7 = some (16, 1, 14, 10, 0) := by decide +kernel
theorem cd_97_10 : qa_code 97 10 = some (0, 0, 1, 11, 0) := by decide +kernel
theorem cd_97_11 : qa_code 97 11 = some (17, 0, 0, 27, 0) := by decide +kernel
theorem cd_97_14 : qa_code 97 14 = some (2, 0, 0, 15, 0) := by decide +kernel
theorem cd_97_15 : qa_code 97 15 = some (12, 6, 15, 18, 145) := by decide +kernel
theorem cd_97_18 : qa_code 97 18 = some (0, 0, 4, 19, 0) := by decide +kernel
theorem cd_97_19 : qa_code 97 19 = some (15, 1, 26, 22, 0) := by decide +kernel
theorem cd_97_22 : qa_code 97 22 = some (0, 0, 2, 23, 0) := by decide +kernel
theorem cd_97_23 : qa_code 97 23 = some (17, 0, 0, 27, 0) := by decide +kernel
theorem cd_97_26 : qa_code 97 26 = some (0, 0, 0, 27, 0) := by decide +kernel
theorem cd_97_27 : qa_code 97 27 = some (18, 65, 2, 30, 83) := by decide +kernel
theorem cd_97_30 : qa_code 97 30 = some (16, 0, 35, 33, 0) := by decide +kernel
theorem cd_97_33 : qa_code 97 33 = some (0, 0, 0, 34, 0) := by decide +kernel
theorem cd_97_34 : qa_code 97 34 = some (19, 0, 0, 34, 0) := by decide +kernel
theorem cd_97_35 : qa_code 97 35 = some (2, 0, 0, 36, 0) := by decide +kernel
theorem cd_97_36 : qa_code 97 36 = some (13, 6, 16, 39, 47) := by decide +kernel
theorem cd_97_39 : qa_code 97 39 = some (2, 0, 0, 40, 0) := by decide +kernel
theorem cd_97_40 : qa_code 97 40 = some (12, 6, 15, 43, 145) := by decide +kernel
theorem cd_97_43 : qa_code 97 43 = some (1, 1, 0, 44, 0) := by decide +kernel
theorem cd_97_44 : qa_code 97 44 = some (11, 0, 0, 45, 0) := by decide +kernel
theorem cd_97_45 : qa_code 97 45 = some (2, 0, 0, 46, 0) := by decide +kernel
theorem cd_97_46 : qa_code 97 46 = some (8, 0, 0, 47, 0) := by decide +kernel
theorem cd_97_47 : qa_code 97 47 = some (12, 6, 15, 50, 145) := by decide +kernel
theorem cd_97_50 : qa_code 97 50 = some (0, 0, 1, 51, 0) := by decide +kernel
theorem cd_97_51 : qa_code 97 51 = some (6, 0, 0, 52, 0) := by decide +kernel
theorem cd_97_52 : qa_code 97 52 = some (14, 6, 15, 55, 145) := by decide +kernel
theorem cd_97_55 : qa_code 97 55 = some (2, 0, 0, 56, 0) := by decide +kernel
theorem cd_97_56 : qa_code 97 56 = some (12, 6, 15, 59, 145) := by decide +kernel
theorem cd_97_59 : qa_code 97 59 = some (0, 0, 1, 60, 0) := by decide +kernel
theorem cd_97_60 : qa_code 97 60 = some (6, 2, 0, 61, 0) := by decide +kernel
theorem cd_97_61 : qa_code 97 61 = some (19, 0, 0, 61, 0) := by decide +kernel
theorem cd_98_0 : qa_code 98 0 = some (1, 1, 0, 1, 0) := by decide +kernel
theorem cd_98_1 : qa_code 98 1 = some (0, 0, 1, 2, 0) := by decide +kernel
theorem cd_98_2 : qa_code 98 2 = some (0, 0, 100, 4, 0) := by decide +kernel
theorem cd_98_4 : qa_code 98 4 = some (18, 66, 3, 7, 72) := by decide +kernel
theorem cd_98_7 : qa_code 98 7 = some (16, 0, 24, 10, 0) := by decide +kernel
theorem cd_98_10 : qa_code 98 10 = some (1, 2, 0, 11, 0) := by decide +kernel
theorem cd_98_11 : qa_code 98 11 = some (0, 0, 1, 12, 0) := by decide +kernel
theorem cd_98_12 : qa_code 98 12 = some (0, 0, 50, 14, 0) := by decide +kernel
theorem cd_98_14 : qa_code 98 14 = some (18, 66, 3, 17, 72) := by decide +kernel
theorem cd_98_17 : qa_code 98 17 = some (16, 0, 24, 20, 0) := by decide +kernel
theorem cd_98_20 : qa_code 98 20 = some (0, 0, 1, 21, 0) := by decide +kernel
theorem cd_98_21 : qa_code 98 21 = some (17, 0, 0, 25, 0) := by decide +kernel
theorem cd_98_24 : qa_code 98 24 = some (0, 0, 0, 25, 0) := by decide +kernel
theorem cd_98_25 : qa_code 98 25 = some (3, 3, 0, 26, 0) := by decide +kernel
theorem cd_98_26 : qa_code 98 26 = some (2, 0, 0, 27, 0) := by decide +kernel
theorem cd_98_27 : qa_code 98 27 = some (1, 3, 0, 28, 0) := by decide +kernel
theorem cd_98_28 : qa_code 98 28 = some (16, 1, 35, 31, 0) := by decide +kernel
theorem cd_98_31 : qa_code 98 31 = some (0, 0, 1, 32, 0) := by decide +kernel
theorem cd_98_32 : qa_code 98 32 = some (17, 0, 0, 49, 0) := by decide +kernel
theorem cd_98_35 : qa_code 98 35 = some (2, 0, 0, 36, 0) := by decide +kernel
theorem cd_98_36 : qa_code 98 36 = some (12, 6, 19, 39, 148) := by decide +kernel
theorem cd_98_39 : qa_code 98 39 = some (0, 0, 10, 41, 0) := by decide +kernel
theorem cd_98_41 : qa_code 98 41 = some (15, 1, 48, 44, 0) := by decide +kernel
theorem cd_98_44 : qa_code 98 44 = some (0, 0, 2, 45, 0) := by decide +kernel
theorem cd_98_45 : qa_code 98 45 = some (17, 0, 0, 49, 0) := by decide +kernel
theorem cd_98_48 : qa_code 98 48 = some (0, 0, 0, 49, 0) := by decide +kernel
theorem cd_98_49 : qa_code 98 49 = some (18, 65, 2, 52, 83) := by decide +kernel
theorem cd_98_52 : qa_code 98 52 = some (16, 0, 57, 55, 0) := by decide +kernel
theorem cd_98_55 : qa_code 98 55 = some (0, 0, 0, 56, 0) := by decide +kernel
theorem cd_98_56 : qa_code 98 56 = some (19, 0, 0, 56, 0) := by decide +kernel
theorem cd_98_57 : qa_code 98 57 = some (2, 0, 0, 58, 0) := by decide +kernel
theorem cd_98_58 : qa_code 98 58 = some (13, 6, 20, 61, 56) := by decide +kernel
theorem cd_98_61 : qa_code 98 61 = some (2, 0, 0, 62, 0) := by decide +kernel
theorem cd_98_62 : qa_code 98 62 = some (12, 6, 19, 65, 148) := by decide +kernel
theorem cd_98_65 : qa_code 98 65 = some (1, 1, 0, 66, 0) := by decide +kernel
theorem cd_98_66 : qa_code 98 66 = some (11, 0, 0, 67, 0) := by decide +kernel
theorem cd_98_67 : qa_code 98 67 = some (2, 0, 0, 68, 0) := by decide +kernel
theorem cd_98_68 : qa_code 98 68 = some (13, 6, 21, 71, 59) := by decide +kernel
theorem cd_98_71 : qa_code 98 71 = some (2, 0, 0, 72, 0) := by decide +kernel
theorem cd_98_72 : qa_code 98 72 = some (12, 6, 19, 75, 148) := by decide +kernel
theorem cd_98_75 : qa_code 98 75 = some (1, 2, 0, 76, 0) := by decide +kernel
theorem cd_98_76 : qa_code 98 76 = some (11, 0, 0, 77, 0) := by decide +kernel
theorem cd_98_77 : qa_code 98 77 = some (2, 0, 0, 78, 0) := by decide +kernel
theorem cd_98_78 : qa_code 98 78 = some (8, 0, 0, 79, 0) := by decide +kernel
theorem cd_98_79 : qa_code 98 79 = some (12, 6, 19, 82, 148) := by decide +kernel
theorem cd_98_82 : qa_code 98 82 = some (0, 0, 1, 83, 0) := by decide +kernel
theorem cd_98_83 : qa_code 98 83 = some (6, 0, 0, 84, 0) := by decide +kernel
theorem cd_98_84 : qa_code 98 84 = some (14, 6, 19, 87, 148) := by decide +kernel
theorem cd_98_87 : qa_code 98 87 = some (2, 0, 0, 88, 0) := by decide +kernel
theorem cd_98_88 : qa_code 98 88 = some (12, 6, 19, 91, 148) := by decide +kernel
theorem cd_98_91 : qa_code 98 91 = some (0, 0, 1, 92, 0) := by decide +kernel
theorem cd_98_92 : qa_code 98 92 = some (6, 2, 0, 93, 0) := by decide +kernel
theorem cd_98_93 : qa_code 98 93 = some (19, 0, 0, 93, 0) := by decide +kernel
theorem cd_99_0 : qa_code 99 0 = some (2, 0, 0, 1, 0) := by decide +kernel
theorem cd_99_1 : qa_code 99 1 = some (13, 6, 12, 4, 38) := by decide +kernel
theorem cd_99_4 : qa_code 99 4 = some (1, 1, 0, 5, 0) := by decide +kernel
theorem cd_99_5 : qa_code 99 5 = some (0, 0, 1, 6, 0) := by decide +kernel
theorem cd_99_6 : qa_code 99 6 = some (11, 1, 0, 7, 0) := by decide +kernel
theorem cd_99_7 : qa_code 99 7 = some (2, 0, 0, 8, 0) := by decide +kernel
theorem cd_99_8 : qa_code 99 8 = some (13, 6, 13, 11, 41) := by decide +kernel
theorem cd_99_11 : qa_code 99 11 = some (1, 1, 0, 12, 0) := by decide +kernel
theorem cd_99_12 : qa_code 99 12 = some (2, 0, 0, 13, 0) := by decide +kernel
theorem cd_99_13 : qa_code 99 13 = some (12, 6, 0, 16, 69) := by decide +kernel
theorem cd_99_16 : qa_code 99 16 = some (11, 0, 0, 17, 0) := by decide +kernel
theorem cd_99_17 : qa_code 99 17 = some (0, 0, 0, 18, 0) := by decide +kernel
theorem cd_99_18 : qa_code 99 18 = some (3, 2, 0, 19, 0) := by decide +kernel
theorem cd_99_19 : qa_code 99 19 = some (1, 2, 0, 20, 0) := by decide +kernel
theorem cd_99_20 : qa_code 99 20 = some (0, 0, 3, 21, 0) := by decide +kernel
theorem cd_99_21 : qa_code 99 21 = some (2, 0, 0, 22, 0) := by decide +kernel
theorem cd_99_22 : qa_code 99 22 = some (12, 6, 0, 25, 69) := by decide +kernel
theorem cd_99_25 : qa_code 99 25 = some (6, 3, 0, 26, 0) := by decide +kernel
theorem cd_99_26 : qa_code 99 26 = some (15, 3, 57, 29, 0) := by decide +kernel
theorem cd_99_29 : qa_code 99 29 = some (2, 0, 0, 30, 0) := by decide +kernel
theorem cd_99_30 : qa_code 99 30 = some (13, 6, 14, 33, 44) := by decide +kernel
theorem cd_99_33 : qa_code 99 33 = some (0, 0, 24, 35, 0) := by decide +kernel
theorem cd_99_35 : qa_code 99 35 = some (1, 1, 0, 36, 0) := by decide +kernel
theorem cd_99_36 : qa_code 99 36 = some (6, 3, 0, 37, 0) := by decide +kernel
theorem cd_99_37 : qa_code 99 37 = some (1, 2, 0, 38, 0) := by decide +kernel
theorem cd_99_38 : qa_code 99 38 = some (6, 0, 0, 39, 0) := by decide +kernel
theorem cd_99_39 : qa_code 99 39 = some (2, 0, 0, 40, 0) := by decide +kernel
theorem cd_99_40 : qa_code 99 40 = some (1, 2, 0, 41, 0) := by decide +kernel
theorem cd_99_41 : qa_code 99 41 = some (0, 0, 3, 42, 0) := by decide +kernel
theorem cd_99_42 : qa_code 99 42 = some (6, 4, 0, 43, 0) := by decide +kernel
theorem cd_99_43 : qa_code 99 43 = some (1, 2, 0, 44, 0) := by decide +kernel
theorem cd_99_44 : qa_code 99 44 = some (0, 0, 3, 45, 0) := by decide +kernel
theorem cd_99_45 : qa_code 99 45 = some (6, 5, 0, 46, 0) := by decide +kernel
theorem cd_99_46 : qa_code 99 46 = some (1, 1, 0, 47, 0) := by decide +kernel
theorem cd_99_47 : qa_code 99 47 = some (18, 75, 4, 50, 100) := by decide +kernel
theorem cd_99_50 : qa_code 99 50 = some (11, 0, 0, 51, 0) := by decide +kernel
theorem cd_99_51 : qa_code 99 51 = some (5, 2, 1, 54, 0) := by decide +kernel
theorem cd_99_54 : qa_code 99 54 = some (17, 0, 0, 19, 0) := by decide +kernel
theorem cd_99_57 : qa_code 99 57 = some (20, 0, 0, 57, 0) := by decide +kernel
theorem cd_100_0 : qa_code 100 0 = some (0, 0, -1, 1, 0) := by decide +kernel
theorem cd_100_1 : qa_code 100 1 = some (3, 1, 0, 2, 0) := by decide +kernel
theorem cd_100_2 : qa_code 100 2 = some (0, 0, 0, 3, 0) := by decide +kernel
theorem cd_100_3 : qa_code 100 3 = some (3, 2, 0, 4, 0) := by decide +kernel
theorem cd_100_4 : qa_code 100 4 = some (1, 2, 0, 5, 0) := by decide +kernel
theorem cd_100_5 : qa_code 100 5 = some (2, 0, 0, 6, 0) := by decide +kernel
theorem cd_100_6 : qa_code 100 6 = some (12, 6, 19, 9, 148) := by decide +kernel
theorem cd_100_9 : qa_code 100 9 = some (15, 3, 53, 12, 0) := by decide +kernel
theorem cd_100_12 : qa_code 100 12 = some (2, 0, 0, 13, 0) := by decide +kernel
theorem cd_100_13 : qa_code 100 13 = some (13, 6, 21, 16, 59) := by decide +kernel
theorem cd_100_16 : qa_code 100 16 = some (1, 2, 0, 17, 0) := by decide +kernel
theorem cd_100_17 : qa_code 100 17 = some (10, 0, 0, 18, 0) := by decide +kernel
theorem cd_100_18 : qa_code 100 18 = some (16, 5, 45, 21, 0) := by decide +kernel
theorem cd_100_21 : qa_code 100 21 = some (1, 1, 0, 22, 0) := by decide +kernel
theorem cd_100_22 : qa_code 100 22 = some (0, 0, -1, 23, 0) := by decide +kernel
theorem cd_100_23 : qa_code 100 23 = some (15, 0, 41, 26, 0) := by decide +kernel
theorem cd_100_26 : qa_code 100 26 = some (2, 0, 0, 27, 0) := by decide +kernel
theorem cd_100_27 : qa_code 100 27 = some (13, 6, 20, 30, 56) := by decide +kernel
theorem cd_100_30 : qa_code 100 30 = some (1, 2, 0, 31, 0) := by decide +kernel
theorem cd_100_31 : qa_code 100 31 = some (10, 0, 0, 32, 0) := by decide +kernel
theorem cd_100_32 : qa_code 100 32 = some (2, 0, 0, 33, 0) := by decide +kernel
theorem cd_100_33 : qa_code 100 33 = some (13, 6, 20, 36, 56) := by decide +kernel
theorem cd_100_36 : qa_code 100 36 = some (1, 1, 0, 37, 0) := by decide +kernel
theorem cd_100_37 : qa_code 100 37 = some (10, 0, 0, 38, 0) := by decide +kernel
theorem cd_100_38 : qa_code 100 38 = some (15, 5, 45, 41, 0) := by decide +kernel
theorem cd_100_41 : qa_code 100 41 = some (1, 2, 0, 42, 0) := by decide +kernel
theorem cd_100_42 : qa_code 100 42 = some (17, 0, 0, 46, 0) := by decide +kernel
theorem cd_100_45 : qa_code 100 45 = some (1, 1, 0, 46, 0) := by decide +kernel
theorem cd_100_46 : qa_code 100 46 = some (3, 1, 0, 47, 0) := by decide +kernel
theorem cd_100_47 : qa_code 100 47 = some (5, 2, 1, 50, 0) := by decide +kernel
theorem cd_100_50 : qa_code 100 50 = some (17, 0, 0, 4, 0) := by decide +kernel
theorem cd_100_53 : qa_code 100 53 = some (1, 1, 0, 54, 0) := by decide +kernel
theorem cd_100_54 : qa_code 100 54 = some (19, 0, 0, 54, 0) := by decide +kernel
theorem cd_101_0 : qa_code 101 0 = some (2, 0, 0, 1, 0) := by decide +kernel
theorem cd_101_1 : qa_code 101 1 = some (13, 6, 17, 4, 50) := by decide +kernel
theorem cd_101_4 : qa_code 101 4 = some (1, 1, 0, 5, 0) := by decide +kernel
theorem cd_101_5 : qa_code 101 5 = some (2, 0, 0, 6, 0) := by decide +kernel
theorem cd_101_6 : qa_code 101 6 = some (13, 6, 17, 9, 50) := by decide +kernel
theorem cd_101_9 : qa_code 101 9 = some (1, 1, 0, 10, 0) := by decide +kernel
theorem cd_101_10 : qa_code 101 10 = some (10, 0, 0, 11, 0) := by decide +kernel
theorem cd_101_11 : qa_code 101 11 = some (0, 0, 4, 12, 0) := by decide +kernel
theorem cd_101_12 : qa_code 101 12 = some (15, 5, 26, 15, 0) := by decide +kernel
theorem cd_101_15 : qa_code 101 15 = some (2, 0, 0, 16, 0) := by decide +kernel
theorem cd_101_16 : qa_code 101 16 = some (13, 6, 17, 19, 50) := by decide +kernel
theorem cd_101_19 : qa_code 101 19 = some (1, 1, 0, 20, 0) := by decide +kernel
theorem cd_101_20 : qa_code 101 20 = some (10, 0, 0, 21, 0) := by decide +kernel
theorem cd_101_21 : qa_code 101 21 = some (0, 0, 4, 22, 0) := by decide +kernel
theorem cd_101_22 : qa_code 101 22 = some (6, 2, 0, 23, 0) := by decide +kernel
theorem cd_101_23 : qa_code 101 23 = some (17, 0, 0, 27, 0) := by decide +kernel
theorem cd_101_26 : qa_code 101 26 = some (0, 0, 0, 27, 0) := by decide +kernel
theorem cd_101_27 : qa_code 101 27 = some (11, 0, 0, 28, 0) := by decide +kernel
theorem cd_101_28 : qa_code 101 28 = some (20, 0, 0, 28, 0) := by decide +kernel
theorem cd_102_0 : qa_code 102 0 = some (2, 0, 0, 1, 0) := by decide +kernel
theorem cd_102_1 : qa_code 102 1 = some (13, 6, 18, 4, 53) := by decide +kernel
theorem cd_102_4 : qa_code 102 4 = some (1, 1, 0, 5, 0) := by decide +kernel
theorem cd_102_5 : qa_code 102 5 = some (10, 1, 0, 6, 0) := by decide +kernel
theorem cd_102_6 : qa_code 102 6 = some (16, 0, 38, 9, 0) := by decide +kernel
theorem cd_102_9 : qa_code 102 9 = some (2, 0, 0, 10, 0) := by decide +kernel
theorem cd_102_10 : qa_code 102 10 = some (1, 1, 0, 11, 0) := by decide +kernel
theorem cd_102_11 : qa_code 102 11 = some (18, 101, 2, 14, 151) := by decide +kernel
theorem cd_102_14 : qa_code 102 14 = some (2, 0, 0, 15, 0) := by decide +kernel
theorem cd_102_15 : qa_code 102 15 = some (13, 6, 18, 18, 53) := by decide +kernel
theorem cd_102_18 : qa_code 102 18 = some (1, 1, 0, 19, 0) := by decide +kernel
theorem cd_102_19 : qa_code 102 19 = some (2, 0, 0, 20, 0) := by decide +kernel
theorem cd_102_20 : qa_code 102 20 = some (13, 6, 17, 23, 50) := by decide +kernel
theorem cd_102_23 : qa_code 102 23 = some (1, 1, 0, 24, 0) := by decide +kernel
theorem cd_102_24 : qa_code 102 24 = some (10, 0, 0, 25, 0) := by decide +kernel
theorem cd_102_25 : qa_code 102 25 = some (0, 0, 8, 27, 0) := by decide +kernel
theorem cd_102_27 : qa_code 102 27 = some (15, 5, 34, 30, 0) := by decide +kernel
theorem cd_102_30 : qa_code 102 30 = some (0, 0, 1, 31, 0) := by decide +kernel
theorem cd_102_31 : qa_code 102 31 = some (17, 0, 0, 35, 0) := by decide +kernel
theorem cd_102_34 : qa_code 102 34 = some (0, 0, 0, 35, 0) := by decide +kernel
theorem cd_102_35 : qa_code 102 35 = some (11, 1, 0, 36, 0) := by decide +kernel
theorem cd_102_36 : qa_code 102 36 = some (0, 0, 0, 37, 0) := by decide +kernel
theorem cd_102_37 : qa_code 102 37 = some (19, 0, 0, 37, 0) := by decide +kernel
theorem cd_102_38 : qa_code 102 38 = some (0, 0, 0, 39, 0) := by decide +kernel
theorem cd_102_39 : qa_code 102 39 = some (3, 2, 0, 40, 0) := by decide +kernel
theorem cd_102_40 : qa_code 102 40 = some (0, 0, 0, 41, 0) := by decide +kernel
theorem cd_102_41 : qa_code 102 41 = some (3, 3, 0, 42, 0) := by decide +kernel
theorem cd_102_42 : qa_code 102 42 = some (1, 3, 0, 43, 0) := by decide +kernel
theorem cd_102_43 : qa_code 102 43 = some (0, 0, 120, 45, 0) := by decide +kernel
theorem cd_102_45 : qa_code 102 45 = some (15, 3, 88, 48, 0) := by decide +kernel
theorem cd_102_48 : qa_code 102 48 = some (1, 2, 0, 49, 0) := by decide +kernel
theorem cd_102_49 : qa_code 102 49 = some (2, 0, 0, 50, 0) := by decide +kernel
theorem cd_102_50 : qa_code 102 50 = some (13, 6, 16, 53, 47) := by decide +kernel
theorem cd_102_53 : qa_code 102 53 = some (1, 1, 0, 54, 0) := by decide +kernel
theorem cd_102_54 : qa_code 102 54 = some (10, 0, 0, 55, 0) := by decide +kernel
theorem cd_102_55 : qa_code 102 55 = some (15, 3, 88, 58, 0) := by decide +kernel
theorem cd_102_58 : qa_code 102 58 = some (2, 0, 0, 59, 0) := by decide +kernel
theorem cd_102_59 : qa_code 102 59 = some (1, 3, 0, 60, 0) := by decide +kernel
theorem cd_102_60 : qa_code 102 60 = some (18, 93, 2, 63, 142) := by decide +kernel
theorem cd_102_63 : qa_code 102 63 = some (16, 0, 82, 66, 0) := by decide +kernel
theorem cd_102_66 : qa_code 102 66 = some (2, 0, 0, 67, 0) := by decide +kernel
theorem cd_102_67 : qa_code 102 67 = some (1, 3, 0, 68, 0) := by decide +kernel
theorem cd_102_68 : qa_code 102 68 = some (18, 76, 2, 71, 103) := by decide +kernel
theorem cd_102_71 : qa_code 102 71 = some (16, 1, 82, 74, 0) := by decide +kernel
theorem cd_102_74 : qa_code 102 74 = some (2, 0, 0, 75, 0) := by decide +kernel
theorem cd_102_75 : qa_code 102 75 = some (1, 3, 0, 76, 0) := by decide +kernel
theorem cd_102_76 : qa_code 102 76 = some (18, 99, 2, 79, 154) := by decide +kernel
theorem cd_102_79 : qa_code 102 79 = some (5, 2, 1, 82, 0) := by decide +kernel
theorem cd_102_82 : qa_code 102 82 = some (5, 3, 1, 85, 0) := by decide +kernel
theorem cd_102_85 : qa_code 102 85 = some (17, 0, 0, 42, 0) := by decide +kernel
theorem cd_102_88 : qa_code 102 88 = some (2, 0, 0, 89, 0) := by decide +kernel
theorem cd_102_89 : qa_code 102 89 = some (13, 6, 17, 92, 50) := by decide +kernel
theorem cd_102_92 : qa_code 102 92 = some (1, 1, 0, 93, 0) := by decide +kernel
theorem cd_102_93 : qa_code 102 93 = some (9, 0, 0, 94, 0) := by decide +kernel
theorem cd_102_94 : qa_code 102 94 = some (10, 0, 0, 95, 0) := by decide +kernel
theorem cd_102_95 : qa_code 102 95 = some (1, 2, 0, 96, 0) := by decide +kernel
theorem cd_102_96 : qa_code 102 96 = some (6, 0, 0, 97, 0) := by decide +kernel
theorem cd_102_97 : qa_code 102 97 = some (11, 0, 0, 98, 0) := by decide +kernel
theorem cd_102_98 : qa_code 102 98 = some (1, 2, 0, 99, 0) := by decide +kernel
theorem cd_102_99 : qa_code 102 99 = some (16, 1, 109, 102, 0) := by decide +kernel
theorem cd_102_102 : qa_code 102 102 = some (2, 0, 0, 103, 0) := by decide +kernel
theorem cd_102_103 : qa_code 102 103 = some (18, 100, 1, 106, 157) := by decide +kernel
theorem cd_102_106 : qa_code 102 106 = some (17, 0, 0, 110, 0) := by decide +kernel
theorem cd_102_109 : qa_code 102 109 = some (0, 0, -1, 110, 0) := by decide +kernel
theorem cd_102_110 : qa_code 102 110 = some (3, 3, 0, 111, 0) := by decide +kernel
theorem cd_102_111 : qa_code 102 111 = some (1, 3, 0, 112, 0) := by decide +kernel
theorem cd_102_112 : qa_code 102 112 = some (0, 0, -1, 113, 0) := by decide +kernel
theorem cd_102_113 : qa_code 102 113 = some (15, 0, 155, 116, 0) := by decide +kernel
theorem cd_102_116 : qa_code 102 116 = some (2, 0, 0, 117, 0) := by decide +kernel
theorem cd_102_117 : qa_code 102 117 = some (13, 6, 21, 120, 59) := by decide +kernel
theorem cd_102_120 : qa_code 102 120 = some (1, 3, 0, 121, 0) := by decide +kernel
theorem cd_102_121 : qa_code 102 121 = some (9, 0, 0, 122, 0) := by decide +kernel
theorem cd_102_122 : qa_code 102 122 = some (10, 0, 0, 123, 0) := by decide +kernel
theorem cd_102_123 : qa_code 102 123 = some (0, 0, 1, 124, 0) := by decide +kernel
theorem cd_102_124 : qa_code 102 124 = some (6, 2, 0, 125, 0) := by decide +kernel
theorem cd_102_125 : qa_code 102 125 = some (11, 0, 0, 126, 0) := by decide +kernel
theorem cd_102_126 : qa_code 102 126 = some (2, 0, 0, 127, 0) := by decide +kernel
theorem cd_102_127 : qa_code 102 127 = some (13, 6, 17, 130, 50) := by decide +kernel
theorem cd_102_130 : qa_code 102 130 = some (1, 1, 0, 131, 0) := by decide +kernel
theorem cd_102_131 : qa_code 102 131 = some (9, 0, 0, 132, 0) := by decide +kernel
theorem cd_102_132 : qa_code 102 132 = some (10, 0, 0, 133, 0) := by decide +kernel
theorem cd_102_133 : qa_code 102 133 = some (0, 0, 3, 134, 0) := by decide +kernel
theorem cd_102_134 : qa_code 102 134 = some (6, 0, 0, 135, 0) := by decide +kernel
theorem cd_102_135 : qa_code 102 135 = some (11, 0, 0, 136, 0) := by decide +kernel
theorem cd_102_136 : qa_code 102 136 = some (2, 0, 0, 137, 0) := by decide +kernel
theorem cd_102_137 : qa_code 102 137 = some (13, 6, 23, 140, 62) := by decide +kernel
theorem cd_102_140 : qa_code 102 140 = some (0, 0, 6, 142, 0) := by decide +kernel
theorem cd_102_142 : qa_code 102 142 = some (9, 0, 0, 143, 0) := by decide +kernel
theorem cd_102_143 : qa_code 102 143 = some (10, 0, 0, 144, 0) := by decide +kernel
theorem cd_102_144 : qa_code 102 144 = some (2, 0, 0, 145, 0) := by decide +kernel
theorem cd_102_145 : qa_code 102 145 = some (13, 6, 20, 148, 56) := by decide +kernel
theorem cd_102_148 : qa_code 102 148 = some (1, 3, 0, 149, 0) := by decide +kernel
theorem cd_102_149 : qa_code 102 149 = some (10, 0, 0, 150, 0) := by decide +kernel
theorem cd_102_150 : qa_code 102 150 = some (6, 1, 0, 151, 0) := by decide +kernel
theorem cd_102_151 : qa_code 102 151 = some (11, 0, 0, 152, 0) := by decide +kernel
theorem cd_102_152 : qa_code 102 152 = some (17, 0, 0, 164, 0) := by decide +kernel
theorem cd_102_155 : qa_code 102 155 = some (1, 2, 0, 156, 0) := by decide +kernel
theorem cd_102_156 : qa_code 102 156 = some (16, 1, 164, 159, 0) := by decide +kernel
theorem cd_102_159 : qa_code 102 159 = some (2, 0, 0, 160, 0) := by decide +kernel
theorem cd_102_160 : qa_code 102 160 = some (1, 1, 0, 161, 0) := by decide +kernel
theorem cd_102_161 : qa_code 102 161 = some (18, 101, 2, 164, 151) := by decide +kernel
theorem cd_102_164 : qa_code 102 164 = some (2, 0, 0, 165, 0) := by decide +kernel
theorem cd_102_165 : qa_code 102 165 = some (13, 6, 18, 168, 53) := by decide +kernel
theorem cd_102_168 : qa_code 102 168 = some (1, 1, 0, 169, 0) := by decide +kernel
theorem cd_102_169 : qa_code 102 169 = some (2, 0, 0, 170, 0) := by decide +kernel
theorem cd_102_170 : qa_code 102 170 = some (13, 6, 17, 173, 50) := by decide +kernel
theorem cd_102_173 : qa_code 102 173 = some (1, 1, 0, 174, 0) := by decide +kernel
theorem cd_102_174 : qa_code 102 174 = some (10, 0, 0, 175, 0) := by decide +kernel
theorem cd_102_175 : qa_code 102 175 = some (0, 0, 20, 177, 0) := by decide +kernel
theorem cd_102_177 : qa_code 102 177 = some (15, 2, 184, 180, 0) := by decide +kernel
theorem cd_102_180 : qa_code 102 180 = some (0, 0, 1, 181, 0) := by decide +kernel
theorem cd_102_181 : qa_code 102 181 = some (17, 0, 0, 185, 0) := by decide +kernel
theorem cd_102_184 : qa_code 102 184 = some (0, 0, 0, 185, 0) := by decide +kernel
theorem cd_102_185 : qa_code 102 185 = some (11, 1, 0, 186, 0) := by decide +kernel
theorem cd_102_186 : qa_code 102 186 = some (0, 0, 1000, 189, 0) := by decide +kernel
theorem cd_102_189 : qa_code 102 189 = some (1, 2, 0, 190, 0) := by decide +kernel
theorem cd_102_190 : qa_code 102 190 = some (6, 3, 0, 191, 0) := by decide +kernel
theorem cd_102_191 : qa_code 102 191 = some (1, 3, 0, 192, 0) := by decide +kernel
theorem cd_102_192 : qa_code 102 192 = some (0, 0, -1, 193, 0) := by decide +kernel
theorem cd_102_193 : qa_code 102 193 = some (15, 1, 200, 196, 0) := by decide +kernel
theorem cd_102_196 : qa_code 102 196 = some (0, 0, 0, 197, 0) := by decide +kernel
theorem cd_102_197 : qa_code 102 197 = some (17, 0, 0, 201, 0) := by decide +kernel
theorem cd_102_200 : qa_code 102 200 = some (0, 0, 1, 201, 0) := by decide +kernel
theorem cd_102_201 : qa_code 102 201 = some (6, 0, 0, 202, 0) := by decide +kernel
theorem cd_102_202 : qa_code 102 202 = some (19, 0, 0, 202, 0) := by decide +kernel
theorem cd_103_0 : qa_code 103 0 = some (2, 0, 0, 1, 0) := by decide +kernel
theorem cd_103_1 : qa_code 103 1 = some (1, 1, 0, 2, 0) := by decide +kernel
theorem cd_103_2 : qa_code 103 2 = some (0, 0, 1, 3, 0) := by decide +kernel
theorem cd_103_3 : qa_code 103 3 = some (0, 0, 24, 5, 0) := by decide +kernel
theorem cd_103_5 : qa_code 103 5 = some (18, 66, 3, 8, 72) := by decide +kernel
theorem cd_103_8 : qa_code 103 8 = some (16, 0, 15, 11, 0) := by decide +kernel
theorem cd_103_11 : qa_code 103 11 = some (0, 0, 0, 12, 0) := by decide +kernel
theorem cd_103_12 : qa_code 103 12 = some (17, 0, 0, 16, 0) := by decide +kernel
theorem cd_103_15 : qa_code 103 15 = some (0, 0, 1, 16, 0) := by decide +kernel
theorem cd_103_16 : qa_code 103 16 = some (18, 65, 2, 19, 83) := by decide +kernel
theorem cd_103_19 : qa_code 103 19 = some (16, 0, 24, 22, 0) := by decide +kernel
theorem cd_103_22 : qa_code 103 22 = some (0, 0, 0, 23, 0) := by decide +kernel
theorem cd_103_23 : qa_code 103 23 = some (19, 0, 0, 23, 0) := by decide +kernel
theorem cd_103_24 : qa_code 103 24 = some (0, 0, 0, 25, 0) := by decide +kernel
theorem cd_103_25 : qa_code 103 25 = some (3, 2, 0, 26, 0) := by decide +kernel
theorem cd_103_26 : qa_code 103 26 = some (0, 0, 0, 27, 0) := by decide +kernel
theorem cd_103_27 : qa_code 103 27 = some (3, 3, 0, 28, 0) := by decide +kernel
theorem cd_103_28 : qa_code 103 28 = some (1, 3, 0, 29, 0) := by decide +kernel
theorem cd_103_29 : qa_code 103 29 = some (1, 1, 0, 30, 0) := by decide +kernel
theorem cd_103_30 : qa_code 103 30 = some (15, 3, 66, 33, 0) := by decide +kernel
theorem cd_103_33 : qa_code 103 33 = some (0, 0, 0, 34, 0) := by decide +kernel
theorem cd_103_34 : qa_code 103 34 = some (3, 4, 0, 36, 0) := by decide +kernel
theorem cd_103_36 : qa_code 103 36 = some (1, 4, 0, 38, 0) := by decide +kernel
theorem cd_103_38 : qa_code 103 38 = some (2, 0, 0, 39, 0) := by decide +kernel
theorem cd_103_39 : qa_code 103 39 = some (12, 6, 15, 42, 145) := by decide +kernel
theorem cd_103_42 : qa_code 103 42 = some (15, 3, 60, 45, 0) := by decide +kernel
theorem cd_103_45 : qa_code 103 45 = some (1, 2, 0, 46, 0) := by decide +kernel
theorem cd_103_46 : qa_code 103 46 = some (2, 0, 0, 47, 0) := by decide +kernel
theorem cd_103_47 : qa_code 103 47 = some (1, 4, 0, 49, 0) := by decide +kernel
theorem cd_103_49 : qa_code 103 49 = some (18, 102, 2, 52, 160) := by decide +kernel
theorem cd_103_52 : qa_code 103 52 = some (6, 1, 0, 53, 0) := by decide +kernel
theorem cd_103_53 : qa_code 103 53 = some (3, 2, 0, 54, 0) := by decide +kernel
theorem cd_103_54 : qa_code 103 54 = some (5, 4, 1, 57, 0) := by decide +kernel
theorem cd_103_57 : qa_code 103 57 = some (17, 0, 0, 36, 0) := by decide +kernel
theorem cd_103_60 : qa_code 103 60 = some (5, 3, 1, 63, 0) := by decide +kernel
theorem cd_103_63 : qa_code 103 63 = some (17, 0, 0, 28, 0) := by decide +kernel
theorem cd_103_66 : qa_code 103 66 = some (1, 2, 0, 67, 0) := by decide +kernel
theorem cd_103_67 : qa_code 103 67 = some (19, 0, 0, 67, 0) := by decide +kernel
theorem cd_104_0 : qa_code 104 0 = some (1, 1, 0, 1, 0) := by decide +kernel
theorem cd_104_1 : qa_code 104 1 = some (0, 0, 0, 2, 0) := by decide +kernel
theorem cd_104_2 : qa_code 104 2 = some (2, 0, 0, 3, 0) := by decide +kernel
theorem cd_104_3 : qa_code 104 3 = some (12, 6, 15, 6, 145) := by decide +kernel
theorem cd_104_6 : qa_code 104 6 = some (0, 0, 1, 7, 0) := by decide +kernel
theorem cd_104_7 : qa_code 104 7 = some (6, 2, 0, 8, 0) := by decide +kernel
theorem cd_104_8 : qa_code 104 8 = some (18, 66, 3, 11, 72) := by decide +kernel
theorem cd_104_11 : qa_code 104 11 = some (3, 2, 0, 12, 0) := by decide +kernel
theorem cd_104_12 : qa_code 104 12 = some (2, 0, 0, 13, 0) := by decide +kernel
theorem cd_104_13 : qa_code 104 13 = some (1, 2, 0, 14, 0) := by decide +kernel
theorem cd_104_14 : qa_code 104 14 = some (16, 0, 21, 17, 0) := by decide +kernel
theorem cd_104_17 : qa_code 104 17 = some (0, 0, 0, 18, 0) := by decide +kernel
theorem cd_104_18 : qa_code 104 18 = some (17, 0, 0, 22, 0) := by decide +kernel
theorem cd_104_21 : qa_code 104 21 = some (0, 0, 1, 22, 0) := by decide +kernel
theorem cd_104_22 : qa_code 104 22 = some (18, 65, 2, 25, 83) := by decide +kernel
theorem cd_104_25 : qa_code 104 25 = some (16, 0, 32, 28, 0) := by decide +kernel
theorem cd_104_28 : qa_code 104 28 = some (0, 0, 0, 29, 0) := by decide +kernel
theorem cd_104_29 : qa_code 104 29 = some (17, 0, 0, 56, 0) := by decide +kernel
theorem cd_104_32 : qa_code 104 32 = some (0, 0, 10, 34, 0) := by decide +kernel
theorem cd_104_34 : qa_code 104 34 = some (2, 0, 0, 35, 0) := by decide +kernel
theorem cd_104_35 : qa_code 104 35 = some (13, 6, 17, 38, 50) := by decide +kernel
theorem cd_104_38 : qa_code 104 38 = some (1, 1, 0, 39, 0) := by decide +kernel
theorem cd_104_39 : qa_code 104 39 = some (10, 0, 0, 40, 0) := by decide +kernel
theorem cd_104_40 : qa_code 104 40 = some (6, 3, 0, 41, 0) := by decide +kernel
theorem cd_104_41 : qa_code 104 41 = some (2, 0, 0, 42, 0) := by decide +kernel
theorem cd_104_42 : qa_code 104 42 = some (13, 6, 18, 45, 53) := by decide +kernel
theorem cd_104_45 : qa_code 104 45 = some (1, 1, 0, 46, 0) := by decide +kernel
theorem cd_104_46 : qa_code 104 46 = some (10, 1, 0, 47, 0) := by decide +kernel
theorem cd_104_47 : qa_code 104 47 = some (16, 0, 54, 50, 0) := by decide +kernel
theorem cd_104_50 : qa_code 104 50 = some (0, 0, 1, 51, 0) := by decide +kernel
theorem cd_104_51 : qa_code 104 51 = some (17, 0, 0, 55, 0) := by decide +kernel
theorem cd_104_54 : qa_code 104 54 = some (0, 0, 0, 55, 0) := by decide +kernel
theorem cd_104_55 : qa_code 104 55 = some (6, 0, 0, 56, 0) := by decide +kernel
theorem cd_104_56 : qa_code 104 56 = some (19, 0, 0, 56, 0) := by decide +kernel
theorem cd_105_0 : qa_code 105 0 = some (2, 0, 0, 1, 0) := by decide +kernel
theorem cd_105_1 : qa_code 105 1 = some (1, 1, 0, 2, 0) := by decide +kernel
theorem cd_105_2 : qa_code 105 2 = some (0, 0, 0, 3, 0) := by decide +kernel
theorem cd_105_3 : qa_code 105 3 = some (0, 0, 1000, 6, 0) := by decide +kernel
theorem cd_105_6 : qa_code 105 6 = some (18, 66, 3, 9, 72) := by decide +kernel
theorem cd_105_9 : qa_code 105 9 = some (16, 0, 16, 12, 0) := by decide +kernel
theorem cd_105_12 : qa_code 105 12 = some (0, 0, 0, 13, 0) := by decide +kernel
theorem cd_105_13 : qa_code 105 13 = some (17, 0, 0, 17, 0) := by decide +kernel
theorem cd_105_16 : qa_code 105 16 = some (0, 0, 1, 17, 0) := by decide +kernel
theorem cd_105_17 : qa_code 105 17 = some (18, 65, 2, 20, 83) := by decide +kernel
theorem cd_105_20 : qa_code 105 20 = some (16, 0, 25, 23, 0) := by decide +kernel
theorem cd_105_23 : qa_code 105 23 = some (0, 0, 0, 24, 0) := by decide +kernel
theorem cd_105_24 : qa_code 105 24 = some (19, 0, 0, 24, 0) := by decide +kernel
theorem cd_105_25 : qa_code 105 25 = some (2, 0, 0, 26, 0) := by decide +kernel
theorem cd_105_26 : qa_code 105 26 = some (12, 6, 22, 29, 163) := by decide +kernel
theorem cd_105_29 : qa_code 105 29 = some (3, 2, 0, 30, 0) := by decide +kernel
theorem cd_105_30 : qa_code 105 30 = some (2, 0, 0, 31, 0) := by decide +kernel
theorem cd_105_31 : qa_code 105 31 = some (1, 1, 0, 32, 0) := by decide +kernel
theorem cd_105_32 : qa_code 105 32 = some (14, 6, 22, 35, 163) := by decide +kernel
theorem cd_105_35 : qa_code 105 35 = some (1, 2, 0, 36, 0) := by decide +kernel
theorem cd_105_36 : qa_code 105 36 = some (19, 0, 0, 36, 0) := by decide +kernel
theorem cd_106_0 : qa_code 106 0 = some (0, 0, 0, 1, 0) := by decide +kernel
theorem cd_106_1 : qa_code 106 1 = some (3, 2, 0, 2, 0) := by decide +kernel
theorem cd_106_2 : qa_code 106 2 = some (0, 0, 0, 3, 0) := by decide +kernel
theorem cd_106_3 : qa_code 106 3 = some (3, 3, 0, 4, 0) := by decide +kernel
theorem cd_106_4 : qa_code 106 4 = some (1, 3, 0, 5, 0) := by decide +kernel
theorem cd_106_5 : qa_code 106 5 = some (2, 0, 0, 6, 0) := by decide +kernel
theorem cd_106_6 : qa_code 106 6 = some (12, 6, 9, 9, 133) := by decide +kernel
theorem cd_106_9 : qa_code 106 9 = some (15, 3, 56, 12, 0) := by decide +kernel
theorem cd_106_12 : qa_code 106 12 = some (2, 0, 0, 13, 0) := by decide +kernel
theorem cd_106_13 : qa_code 106 13 = some (13, 6, 10, 16, 32) := by decide +kernel
theorem cd_106_16 : qa_code 106 16 = some (1, 3, 0, 17, 0) := by decide +kernel
theorem cd_106_17 : qa_code 106 17 = some (10, 0, 0, 18, 0) := by decide +kernel
theorem cd_106_18 : qa_code 106 18 = some (3, 4, 0, 20, 0) := by decide +kernel
theorem cd_106_20 : qa_code 106 20 = some (1, 4, 0, 22, 0) := by decide +kernel
theorem cd_106_22 : qa_code 106 22 = some (2, 0, 0, 23, 0) := by decide +kernel
theorem cd_106_23 : qa_code 106 23 = some (13, 6, 11, 26, 35) := by decide +kernel
theorem cd_106_26 : qa_code 106 26 = some (1, 3, 0, 27, 0) := by decide +kernel
theorem cd_106_27 : qa_code 106 27 = some (10, 0, 0, 28, 0) := by decide +kernel
theorem cd_106_28 : qa_code 106 28 = some (15, 4, 50, 31, 0) := by decide +kernel
theorem cd_106_31 : qa_code 106 31 = some (1, 2, 0, 32, 0) := by decide +kernel
theorem cd_106_32 : qa_code 106 32 = some (2, 0, 0, 33, 0) := by decide +kernel
theorem cd_106_33 : qa_code 106 33 = some (1, 4, 0, 35, 0) := by decide +kernel
theorem cd_106_35 : qa_code 106 35 = some (18, 86, 2, 38, 129) := by decide +kernel
theorem cd_106_38 : qa_code 106 38 = some (1, 1, 0, 39, 0) := by decide +kernel
theorem cd_106_39 : qa_code 106 39 = some (6, 9, 0, 40, 0) := by decide +kernel
theorem cd_106_40 : qa_code 106 40 = some (0, 0, 1, 41, 0) := by decide +kernel
theorem cd_106_41 : qa_code 106 41 = some (6, 6, 0, 42, 0) := by decide +kernel
theorem cd_106_42 : qa_code 106 42 = some (6, 0, 0, 43, 0) := by decide +kernel
theorem cd_106_43 : qa_code 106 43 = some (3, 2, 0, 44, 0) := by decide +kernel
theorem cd_106_44 : qa_code 106 44 = some (5, 4, 1, 47, 0) := by decide +kernel
theorem cd_106_47 : qa_code 106 47 = some (17, 0, 0, 20, 0) := by decide +kernel
theorem cd_106_50 : qa_code 106 50 = some (5, 3, 1, 53, 0) := by decide +kernel
theorem cd_106_53 : qa_code 106 53 = some (17, 0, 0, 4, 0) := by decide +kernel
theorem cd_106_56 : qa_code 106 56 = some (1, 2, 0, 57, 0) := by decide +kernel
theorem cd_106_57 : qa_code 106 57 = some (0, 0, 24, 59, 0) := by decide +kernel
theorem cd_106_59 : qa_code 106 59 = some (6, 4, 0, 60, 0) := by decide +kernel
theorem cd_106_60 : qa_code 106 60 = some (19, 0, 0, 60, 0) := by decide +kernel
theorem cd_107_0 : qa_code 107 0 = some (2, 0, 0, 1, 0) := by decide +kernel
theorem cd_107_1 : qa_code 107 1 = some (1, 1, 0, 2, 0) := by decide +kernel
theorem cd_107_2 : qa_code 107 2 = some (0, 0, 0, 3, 0) := by decide +kernel
theorem cd_107_3 : qa_code 107 3 = some (0, 0, 5, 4, 0) := by decide +kernel
theorem cd_107_4 : qa_code 107 4 = some (18, 66, 3, 7, 72) := by decide +kernel
theorem cd_107_7 : qa_code 107 7 = some (16, 0, 14, 10, 0) := by decide +kernel
theorem cd_107_10 : qa_code 107 10 = some (0, 0, 0, 11, 0) := by decide +kernel
theorem cd_107_11 : qa_code 107 11 = some (17, 0, 0, 15, 0) := by decide +kernel
theorem cd_107_14 : qa_code 107 14 = some (0, 0, 1, 15, 0) := by decide +kernel
theorem cd_107_15 : qa_code 107 15 = some (18, 65, 2, 18, 83) := by decide +kernel
theorem cd_107_18 : qa_code 107 18 = some (16, 0, 25, 21, 0) := by decide +kernel
theorem cd_107_21 : qa_code 107 21 = some (0, 0, 0, 22, 0) := by decide +kernel
theorem cd_107_22 : qa_code 107 22 = some (17, 0, 0, 30, 0) := by decide +kernel
theorem cd_107_25 : qa_code 107 25 = some (2, 0, 0, 26, 0) := by decide +kernel
theorem cd_107_26 : qa_code 107 26 = some (1, 1, 0, 27, 0) := by decide +kernel
theorem cd_107_27 : qa_code 107 27 = some (18, 106, 2, 30, 166) := by decide +kernel
theorem cd_107_30 : qa_code 107 30 = some (19, 0, 0, 30, 0) := by decide +kernel
theorem cd_108_0 : qa_code 108 0 = some (2, 0, 0, 1, 0) := by decide +kernel
theorem cd_108_1 : qa_code 108 1 = some (12, 6, 9, 4, 133) := by decide +kernel
theorem cd_108_4 : qa_code 108 4 = some (16, 5, 11, 7, 0) := by decide +kernel
theorem cd_108_7 : qa_code 108 7 = some (0, 0, 1, 8, 0) := by decide +kernel
theorem cd_108_8 : qa_code 108 8 = some (17, 0, 0, 12, 0) := by decide +kernel
theorem cd_108_11 : qa_code 108 11 = some (0, 0, 0, 12, 0) := by decide +kernel
theorem cd_108_12 : qa_code 108 12 = some (3, 1, 0, 13, 0) := by decide +kernel
theorem cd_108_13 : qa_code 108 13 = some (0, 0, 0, 14, 0) := by decide +kernel
theorem cd_108_14 : qa_code 108 14 = some (3, 2, 0, 15, 0) := by decide +kernel
theorem cd_108_15 : qa_code 108 15 = some (1, 2, 0, 16, 0) := by decide +kernel
theorem cd_108_16 : qa_code 108 16 = some (0, 0, 120, 18, 0) := by decide +kernel
theorem cd_108_18 : qa_code 108 18 = some (15, 3, 53, 21, 0) := by decide +kernel
theorem cd_108_21 : qa_code 108 21 = some (1, 1, 0, 22, 0) := by decide +kernel
theorem cd_108_22 : qa_code 108 22 = some (16, 0, 53, 25, 0) := by decide +kernel
theorem cd_108_25 : qa_code 108 25 = some (2, 0, 0, 26, 0) := by decide +kernel
theorem cd_108_26 : qa_code 108 26 = some (1, 2, 0, 27, 0) := by decide +kernel
theorem cd_108_27 : qa_code 108 27 = some (18, 93, 2, 30, 142) := by decide +kernel
theorem cd_108_30 : qa_code 108 30 = some (16, 0, 41, 33, 0) := by decide +kernel
theorem cd_108_33 : qa_code 108 33 = some (2, 0, 0, 34, 0) := by decide +kernel
theorem cd_108_34 : qa_code 108 34 = some (1, 2, 0, 35, 0) := by decide +kernel
theorem cd_108_35 : qa_code 108 35 = some (18, 76, 2, 38, 103) := by decide +kernel
theorem cd_108_38 : qa_code 108 38 = some (16, 0, 45, 41, 0) := by decide +kernel
theorem cd_108_41 : qa_code 108 41 = some (0, 0, 1, 42, 0) := by decide +kernel
theorem cd_108_42 : qa_code 108 42 = some (17, 0, 0, 46, 0) := by decide +kernel
theorem cd_108_45 : qa_code 108 45 = some (0, 0, 0, 46, 0) := by decide +kernel
theorem cd_108_46 : qa_code 108 46 = some (3, 1, 0, 47, 0) := by decide +kernel
theorem cd_108_47 : qa_code 108 47 = some (5, 2, 1, 50, 0) := by decide +kernel
theorem cd_108_50 : qa_code 108 50 = some (17, 0, 0, 15, 0) := by decide +kernel
theorem cd_108_53 : qa_code 108 53 = some (1, 1, 0, 54, 0) := by decide +kernel
theorem cd_108_54 : qa_code 108 54 = some (19, 1, 0, 54, 0) := by decide +kernel
theorem cd_109_0 : qa_code 109 0 = some (2, 0, 0, 1, 0) := by decide +kernel
theorem cd_109_1 : qa_code 109 1 = some (2, 0, 0, 2, 0) := by decide +kernel
theorem cd_109_2 : qa_code 109 2 = some (18, 108, 1, 5, 169) := by decide +kernel
theorem cd_109_5 : qa_code 109 5 = some (16, 0, 12, 8, 0) := by decide +kernel
theorem cd_109_8 : qa_code 109 8 = some (0, 0, 0, 9, 0) := by decide +kernel
theorem cd_109_9 : qa_code 109 9 = some (17, 0, 0, 13, 0) := by decide +kernel
theorem cd_109_12 : qa_code 109 12 = some (0, 0, 1, 13, 0) := by decide +kernel
theorem cd_109_13 : qa_code 109 13 = some (18, 65, 2, 16, 83) := by decide +kernel
theorem cd_109_16 : qa_code 109 16 = some (16, 0, 21, 19, 0) := by decide +kernel
theorem cd_109_19 : qa_code 109 19 = some (0, 0, 0, 20, 0) := by decide +kernel
theorem cd_109_20 : qa_code 109 20 = some (19, 0, 0, 20, 0) := by decide +kernel
theorem cd_109_21 : qa_code 109 21 = some (0, 0, 0, 22, 0) := by decide +kernel
theorem cd_109_22 : qa_code 109 22 = some (3, 1, 0, 23, 0) := by decide +kernel
theorem cd_109_23 : qa_code 109 23 = some (0, 0, 0, 24, 0) := by decide +kernel
theorem cd_109_24 : qa_code 109 24 = some (3, 2, 0, 25, 0) := by decide +kernel
theorem cd_109_25 : qa_code 109 25 = some (1, 2, 0, 26, 0) := by decide +kernel
theorem cd_109_26 : qa_code 109 26 = some (0, 0, 6, 28, 0) := by decide +kernel
theorem cd_109_28 : qa_code 109 28 = some (15, 3, 62, 31, 0) := by decide +kernel
theorem cd_109_31 : qa_code 109 31 = some (2, 0, 0, 32, 0) := by decide +kernel
theorem cd_109_32 : qa_code 109 32 = some (1, 2, 0, 33, 0) := by decide +kernel
theorem cd_109_33 : qa_code 109 33 = some (18, 106, 2, 36, 166) := by decide +kernel
theorem cd_109_36 : qa_code 109 36 = some (2, 0, 0, 37, 0) := by decide +kernel
theorem cd_109_37 : qa_code 109 37 = some (12, 6, 22, 40, 163) := by decide +kernel
theorem cd_109_40 : qa_code 109 40 = some (6, 3, 0, 41, 0) := by decide +kernel
theorem cd_109_41 : qa_code 109 41 = some (3, 3, 0, 42, 0) := by decide +kernel
theorem cd_109_42 : qa_code 109 42 = some (2, 0, 0, 43, 0) := by decide +kernel
theorem cd_109_43 : qa_code 109 43 = some (13, 6, 23, 46, 62) := by decide +kernel
theorem cd_109_46 : qa_code 109 46 = some (1, 2, 0, 47, 0) := by decide +kernel
theorem cd_109_47 : qa_code 109 47 = some (9, 0, 0, 48, 0) := by decide +kernel
theorem cd_109_48 : qa_code 109 48 = some (10, 0, 0, 49, 0) := by decide +kernel
theorem cd_109_49 : qa_code 109 49 = some (1, 3, 0, 50, 0) := by decide +kernel
theorem cd_109_50 : qa_code 109 50 = some (6, 1, 0, 51, 0) := by decide +kernel
theorem cd_109_51 : qa_code 109 51 = some (11, 0, 0, 52, 0) := by decide +kernel
theorem cd_109_52 : qa_code 109 52 = some (1, 1, 0, 53, 0) := by decide +kernel
theorem cd_109_53 : qa_code 109 53 = some (1, 3, 0, 54, 0) := by decide +kernel
theorem cd_109_54 : qa_code 109 54 = some (6, 1, 0, 55, 0) := by decide +kernel
theorem cd_109_55 : qa_code 109 55 = some (3, 1, 0, 56, 0) := by decide +kernel
theorem cd_109_56 : qa_code 109 56 = some (5, 2, 1, 59, 0) := by decide +kernel
theorem cd_109_59 : qa_code 109 59 = some (17, 0, 0, 25, 0) := by decide +kernel
theorem cd_109_62 : qa_code 109 62 = some (1, 1, 0, 63, 0) := by decide +kernel
theorem cd_109_63 : qa_code 109 63 = some (19, 0, 0, 63, 0) := by decide +kernel
theorem cd_110_0 : qa_code 110 0 = some (2, 0, 0, 1, 0) := by decide +kernel
theorem cd_110_1 : qa_code 110 1 = some (1, 1, 0, 2, 0) := by decide +kernel
theorem cd_110_2 : qa_code 110 2 = some (0, 0, 0, 3, 0) := by decide +kernel
theorem cd_110_3 : qa_code 110 3 = some (0, 0, 6, 5, 0) := by decide +kernel
theorem cd_110_5 : qa_code 110 5 = some (18, 66, 3, 8, 72) := by decide +kernel
theorem cd_110_8 : qa_code 110 8 = some (16, 0, 15, 11, 0) := by decide +kernel
theorem cd_110_11 : qa_code 110 11 = some (0, 0, 0, 12, 0) := by decide +kernel
theorem cd_110_12 : qa_code 110 12 = some (17, 0, 0, 16, 0) := by decide +kernel
theorem cd_110_15 : qa_code 110 15 = some (0, 0, 1, 16, 0) := by decide +kernel
theorem cd_110_16 : qa_code 110 16 = some (18, 65, 2, 19, 83) := by decide +kernel
theorem cd_110_19 : qa_code 110 19 = some (16, 0, 26, 22, 0) := by decide +kernel
theorem cd_110_22 : qa_code 110 22 = some (0, 0, 0, 23, 0) := by decide +kernel
theorem cd_110_23 : qa_code 110 23 = some (17, 0, 0, 32, 0) := by decide +kernel
theorem cd_110_26 : qa_code 110 26 = some (2, 0, 0, 27, 0) := by decide +kernel
theorem cd_110_27 : qa_code 110 27 = some (13, 6, 23, 30, 62) := by decide +kernel
theorem cd_110_30 : qa_code 110 30 = some (1, 1, 0, 31, 0) := by decide +kernel
theorem cd_110_31 : qa_code 110 31 = some (10, 0, 0, 32, 0) := by decide +kernel
theorem cd_110_32 : qa_code 110 32 = some (19, 0, 0, 32, 0) := by decide +kernel
theorem cd_111_0 : qa_code 111 0 = some (1, 1, 0, 1, 0) := by decide +kernel
theorem cd_111_1 : qa_code 111 1 = some (0, 0, -1, 2, 0) := by decide +kernel
theorem cd_111_2 : qa_code 111 2 = some (15, 0, 16, 5, 0) := by decide +kernel
theorem cd_111_5 : qa_code 111 5 = some (2, 0, 0, 6, 0) := by decide +kernel
theorem cd_111_6 : qa_code 111 6 = some (13, 5, 0, 9, 12) := by decide +kernel
theorem cd_111_9 : qa_code 111 9 = some (1, 1, 0, 10, 0) := by decide +kernel
theorem cd_111_10 : qa_code 111 10 = some (18, 40, 2, 13, 45) := by decide +kernel
theorem cd_111_13 : qa_code 111 13 = some (16, 0, 20, 16, 0) := by decide +kernel
theorem cd_111_16 : qa_code 111 16 = some (0, 0, 1, 17, 0) := by decide +kernel
theorem cd_111_17 : qa_code 111 17 = some (17, 0, 0, 21, 0) := by decide +kernel
theorem cd_111_20 : qa_code 111 20 = some (0, 0, 0, 21, 0) := by decide +kernel
theorem cd_111_21 : qa_code 111 21 = some (18, 135, 1, 24, 49) := by decide +kernel
theorem cd_111_24 : qa_code 111 24 = some (1, 2, 0, 25, 0) := by decide +kernel
theorem cd_111_25 : qa_code 111 25 = some (0, 0, -100, 27, 0) := by decide +kernel
theorem cd_111_27 : qa_code 111 27 = some (0, 0, 100, 29, 0) := by decide +kernel
theorem cd_111_29 : qa_code 111 29 = some (18, 138, 3, 32, 53) := by decide +kernel
theorem cd_111_32 : qa_code 111 32 = some (16, 0, 50, 35, 0) := by decide +kernel
theorem cd_111_35 : qa_code 111 35 = some (1, 3, 0, 36, 0) := by decide +kernel
theorem cd_111_36 : qa_code 111 36 = some (0, 0, -100, 38, 0) := by decide +kernel
theorem cd_111_38 : qa_code 111 38 = some (0, 0, 100, 40, 0) := by decide +kernel
theorem cd_111_40 : qa_code 111 40 = some (18, 138, 3, 43, 53) := by decide +kernel
theorem cd_111_43 : qa_code 111 43 = some (16, 0, 50, 46, 0) := by decide +kernel
theorem cd_111_46 : qa_code 111 46 = some (0, 0, 1, 47, 0) := by decide +kernel
theorem cd_111_47 : qa_code 111 47 = some (17, 0, 0, 51, 0) := by decide +kernel
theorem cd_111_50 : qa_code 111 50 = some (0, 0, 0, 51, 0) := by decide +kernel
theorem cd_111_51 : qa_code 111 51 = some (18, 136, 1, 54, 57) := by decide +kernel
theorem cd_111_54 : qa_code 111 54 = some (2, 0, 0, 55, 0) := by decide +kernel
theorem cd_111_55 : qa_code 111 55 = some (13, 5, 0, 58, 12) := by decide +kernel
theorem cd_111_58 : qa_code 111 58 = some (18, 38, 1, 61, 60) := by decide +kernel
theorem cd_111_61 : qa_code 111 61 = some (0, 0, 8, 63, 0) := by decide +kernel
theorem cd_111_63 : qa_code 111 63 = some (15, 3, 70, 66, 0) := by decide +kernel
theorem cd_111_66 : qa_code 111 66 = some (0, 0, 1, 67, 0) := by decide +kernel
theorem cd_111_67 : qa_code 111 67 = some (17, 0, 0, 71, 0) := by decide +kernel
theorem cd_111_70 : qa_code 111 70 = some (0, 0, 0, 71, 0) := by decide +kernel
theorem cd_111_71 : qa_code 111 71 = some (18, 137, 1, 74, 64) := by decide +kernel
theorem cd_111_74 : qa_code 111 74 = some (2, 0, 0, 75, 0) := by decide +kernel
theorem cd_111_75 : qa_code 111 75 = some (13, 5, 0, 78, 12) := by decide +kernel
theorem cd_111_78 : qa_code 111 78 = some (1, 1, 0, 79, 0) := by decide +kernel
theorem cd_111_79 : qa_code 111 79 = some (1, 2, 0, 80, 0) := by decide +kernel
theorem cd_111_80 : qa_code 111 80 = some (1, 3, 0, 81, 0) := by decide +kernel
theorem cd_111_81 : qa_code 111 81 = some (18, 42, 4, 84, 67) := by decide +kernel
theorem cd_111_84 : qa_code 111 84 = some (3, 4, 0, 86, 0) := by decide +kernel
theorem cd_111_86 : qa_code 111 86 = some (2, 0, 0, 87, 0) := by decide +kernel
theorem cd_111_87 : qa_code 111 87 = some (13, 5, 1, 90, 19) := by decide +kernel
theorem cd_111_90 : qa_code 111 90 = some (2, 0, 0, 91, 0) := by decide +kernel
theorem cd_111_91 : qa_code 111 91 = some (13, 5, 0, 94, 12) := by decide +kernel
theorem cd_111_94 : qa_code 111 94 = some (18, 60, 2, 97, 71) := by decide +kernel
theorem cd_111_97 : qa_code 111 97 = some (1, 4, 0, 99, 0) := by decide +kernel
theorem cd_111_99 : qa_code 111 99 = some (19, 0, 0, 99, 0) := by decide +kernel
theorem cd_112_0 : qa_code 112 0 = some (2, 0, 0, 1, 0) := by decide +kernel
theorem cd_112_1 : qa_code 112 1 = some (13, 5, 0, 4, 12) := by decide +kernel
theorem cd_112_4 : qa_code 112 4 = some (1, 1, 0, 5, 0) := by decide +kernel
theorem cd_112_5 : qa_code 112 5 = some (1, 2, 0, 6, 0) := by decide +kernel
theorem cd_112_6 : qa_code 112 6 = some (1, 3, 0, 7, 0) := by decide +kernel
theorem cd_112_7 : qa_code 112 7 = some (18, 41, 4, 10, 75) := by decide +kernel
theorem cd_112_10 : qa_code 112 10 = some (16, 0, 27, 13, 0) := by decide +kernel
theorem cd_112_13 : qa_code 112 13 = some (1, 5, 0, 15, 0) := by decide +kernel
theorem cd_112_15 : qa_code 112 15 = some (0, 0, 0, 16, 0) := by decide +kernel
theorem cd_112_16 : qa_code 112 16 = some (0, 0, 5, 17, 0) := by decide +kernel
theorem cd_112_17 : qa_code 112 17 = some (18, 138, 3, 20, 53) := by decide +kernel
theorem cd_112_20 : qa_code 112 20 = some (16, 0, 27, 23, 0) := by decide +kernel
theorem cd_112_23 : qa_code 112 23 = some (0, 0, 1, 24, 0) := by decide +kernel
theorem cd_112_24 : qa_code 112 24 = some (17, 0, 0, 28, 0) := by decide +kernel
theorem cd_112_27 : qa_code 112 27 = some (0, 0, 0, 28, 0) := by decide +kernel
theorem cd_112_28 : qa_code 112 28 = some (18, 135, 1, 31, 49) := by decide +kernel
theorem cd_112_31 : qa_code 112 31 = some (1, 2, 0, 32, 0) := by decide +kernel
theorem cd_112_32 : qa_code 112 32 = some (0, 0, 2, 33, 0) := by decide +kernel
theorem cd_112_33 : qa_code 112 33 = some (15, 1, 59, 36, 0) := by decide +kernel
theorem cd_112_36 : qa_code 112 36 = some (1, 4, 0, 38, 0) := by decide +kernel
theorem cd_112_38 : qa_code 112 38 = some (0, 0, 0, 39, 0) := by decide +kernel
theorem cd_112_39 : qa_code 112 39 = some (0, 0, 3, 40, 0) := by decide +kernel
theorem cd_112_40 : qa_code 112 40 = some (18, 138, 3, 43, 53) := by decide +kernel
theorem cd_112_43 : qa_code 112 43 = some (16, 0, 55, 46, 0) := by decide +kernel
theorem cd_112_46 : qa_code 112 46 = some (1, 6, 0, 48, 0) := by decide +kernel
theorem cd_112_48 : qa_code 112 48 = some (16, 1, 55, 51, 0) := by decide +kernel
theorem cd_112_51 : qa_code 112 51 = some (0, 0, 1, 52, 0) := by decide +kernel
theorem cd_112_52 : qa_code 112 52 = some (17, 0, 0, 70, 0) := by decide +kernel
theorem cd_112_55 : qa_code 112 55 = some (0, 0, 0, 56, 0) := by decide +kernel
theorem cd_112_56 : qa_code 112 56 = some (17, 0, 0, 70, 0) := by decide +kernel
theorem cd_112_59 : qa_code 112 59 = some (1, 4, 0, 61, 0) := by decide +kernel
theorem cd_112_61 : qa_code 112 61 = some (0, 0, -200, 64, 0) := by decide +kernel
theorem cd_112_64 : qa_code 112 64 = some (0, 0, 200, 67, 0) := by decide +kernel
theorem cd_112_67 : qa_code 112 67 = some (18, 138, 3, 70, 53) := by decide +kernel
theorem cd_112_70 : qa_code 112 70 = some (18, 136, 1, 73, 57) := by decide +kernel
theorem cd_112_73 : qa_code 112 73 = some (1, 1, 0, 74, 0) := by decide +kernel
theorem cd_112_74 : qa_code 112 74 = some (1, 2, 0, 75, 0) := by decide +kernel
theorem cd_112_75 : qa_code 112 75 = some (18, 140, 2, 78, 78) := by decide +kernel
theorem cd_112_78 : qa_code 112 78 = some (3, 7, 0, 80, 0) := by decide +kernel
theorem cd_112_80 : qa_code 112 80 = some (2, 0, 0, 81, 0) := by decide +kernel
theorem cd_112_81 : qa_code 112 81 = some (13, 5, 0, 84, 12) := by decide +kernel
theorem cd_112_84 : qa_code 112 84 = some (1, 7, 0, 86, 0) := by decide +kernel
theorem cd_112_86 : qa_code 112 86 = some (1, 3, 0, 87, 0) := by decide +kernel
theorem cd_112_87 : qa_code 112 87 = some (18, 45, 3, 90, 82) := by decide +kernel
theorem cd_112_90 : qa_code 112 90 = some (16, 1, 105, 93, 0) := by decide +kernel
theorem cd_112_93 : qa_code 112 93 = some (2, 0, 0, 94, 0) := by decide +kernel
theorem cd_112_94 : qa_code 112 94 = some (13, 5, 0, 97, 12) := by decide +kernel
theorem cd_112_97 : qa_code 112 97 = some (18, 43, 1, 100, 86) := by decide +kernel
theorem cd_112_100 : qa_code 112 100 = some (0, 0, 80, 102, 0) := by decide +kernel
theorem cd_112_102 : qa_code 112 102 = some (15, 3, 109, 105, 0) := by decide +kernel
theorem cd_112_105 : qa_code 112 105 = some (0, 0, 1, 106, 0) := by decide +kernel
theorem cd_112_106 : qa_code 112 106 = some (17, 0, 0, 110, 0) := by decide +kernel
theorem cd_112_109 : qa_code 112 109 = some (0, 0, 0, 110, 0) := by decide +kernel
theorem cd_112_110 : qa_code 112 110 = some (18, 137, 1, 113, 64) := by decide +kernel
theorem cd_112_113 : qa_code 112 113 = some (2, 0, 0, 114, 0) := by decide +kernel
theorem cd_112_114 : qa_code 112 114 = some (13, 5, 1, 117, 19) := by decide +kernel
theorem cd_112_117 : qa_code 112 117 = some (18, 61, 1, 120, 89) := by decide +kernel
theorem cd_112_120 : qa_code 112 120 = some (3, 8, 0, 122, 0) := by decide +kernel
theorem cd_112_122 : qa_code 112 122 = some (2, 0, 0, 123, 0) := by decide +kernel
theorem cd_112_123 : qa_code 112 123 = some (13, 5, 0, 126, 12) := by decide +kernel
theorem cd_112_126 : qa_code 112 126 = some (1, 7, 0, 128, 0) := by decide +kernel
theorem cd_112_128 : qa_code 112 128 = some (1, 3, 0, 129, 0) := by decide +kernel
theorem cd_112_129 : qa_code 112 129 = some (1, 4, 0, 131, 0) := by decide +kernel
theorem cd_112_131 : qa_code 112 131 = some (1, 5, 0, 133, 0) := by decide +kernel
theorem cd_112_133 : qa_code 112 133 = some (1, 6, 0, 135, 0) := by decide +kernel
theorem cd_112_135 : qa_code 112 135 = some (18, 46, 6, 138, 92) := by decide +kernel
theorem cd_112_138 : qa_code 112 138 = some (2, 0, 0, 139, 0) := by decide +kernel
theorem cd_112_139 : qa_code 112 139 = some (13, 5, 1, 142, 19) := by decide +kernel
theorem cd_112_142 : qa_code 112 142 = some (2, 0, 0, 143, 0) := by decide +kernel
theorem cd_112_143 : qa_code 112 143 = some (13, 5, 0, 146, 12) := by decide +kernel
theorem cd_112_146 : qa_code 112 146 = some (18, 60, 2, 149, 71) := by decide +kernel
theorem cd_112_149 : qa_code 112 149 = some (2, 0, 0, 150, 0) := by decide +kernel
theorem cd_112_150 : qa_code 112 150 = some (13, 5, 1, 153, 19) := by decide +kernel
theorem cd_112_153 : qa_code 112 153 = some (18, 61, 1, 156, 89) := by decide +kernel
theorem cd_112_156 : qa_code 112 156 = some (1, 8, 0, 158, 0) := by decide +kernel
theorem cd_112_158 : qa_code 112 158 = some (6, 2, 0, 159, 0) := by decide +kernel
theorem cd_112_159 : qa_code 112 159 = some (19, 0, 0, 159, 0) := by decide +kernel
theorem cd_113_0 : qa_code 113 0 = some (2, 0, 0, 1, 0) := by decide +kernel
theorem cd_113_1 : qa_code 113 1 = some (13, 5, 0, 4, 12) := by decide +kernel
theorem cd_113_4 : qa_code 113 4 = some (1, 1, 0, 5, 0) := by decide +kernel
theorem cd_113_5 : qa_code 113 5 = some (1, 2, 0, 6, 0) := by decide +kernel
theorem cd_113_6 : qa_code 113 6 = some (1, 3, 0, 7, 0) := by decide +kernel
theorem cd_113_7 : qa_code 113 7 = some (18, 41, 4, 10, 75) := by decide +kernel
theorem cd_113_10 : qa_code 113 10 = some (18, 135, 1, 13, 49) := by decide +kernel
theorem cd_113_13 : qa_code 113 13 = some (1, 1, 0, 14, 0) := by decide +kernel
theorem cd_113_14 : qa_code 113 14 = some (1, 2, 0, 15, 0) := by decide +kernel
theorem cd_113_15 : qa_code 113 15 = some (18, 140, 2, 18, 78) := by decide +kernel
theorem cd_113_18 : qa_code 113 18 = some (3, 4, 0, 20, 0) := by decide +kernel
theorem cd_113_20 : qa_code 113 20 = some (2, 0, 0, 21, 0) := by decide +kernel
theorem cd_113_21 : qa_code 113 21 = some (13, 5, 0, 24, 12) := by decide +kernel
theorem cd_113_24 : qa_code 113 24 = some (1, 4, 0, 26, 0) := by decide +kernel
theorem cd_113_26 : qa_code 113 26 = some (1, 3, 0, 27, 0) := by decide +kernel
theorem cd_113_27 : qa_code 113 27 = some (18, 45, 3, 30, 82) := by decide +kernel
theorem cd_113_30 : qa_code 113 30 = some (18, 135, 1, 33, 49) := by decide +kernel
theorem cd_113_33 : qa_code 113 33 = some (2, 0, 0, 34, 0) := by decide +kernel
theorem cd_113_34 : qa_code 113 34 = some (13, 5, 1, 37, 19) := by decide +kernel
theorem cd_113_37 : qa_code 113 37 = some (18, 61, 1, 40, 89) := by decide +kernel
theorem cd_113_40 : qa_code 113 40 = some (3, 5, 0, 42, 0) := by decide +kernel
theorem cd_113_42 : qa_code 113 42 = some (2, 0, 0, 43, 0) := by decide +kernel
theorem cd_113_43 : qa_code 113 43 = some (13, 5, 0, 46, 12) := by decide +kernel
theorem cd_113_46 : qa_code 113 46 = some (1, 4, 0, 48, 0) := by decide +kernel
theorem cd_113_48 : qa_code 113 48 = some (1, 3, 0, 49, 0) := by decide +kernel
theorem cd_113_49 : qa_code 113 49 = some (18, 47, 3, 52, 96) := by decide +kernel
theorem cd_113_52 : qa_code 113 52 = some (2, 0, 0, 53, 0) := by decide +kernel
theorem cd_113_53 : qa_code 113 53 = some (13, 5, 1, 56, 19) := by decide +kernel
theorem cd_113_56 : qa_code 113 56 = some (2, 0, 0, 57, 0) := by decide +kernel
theorem cd_113_57 : qa_code 113 57 = some (13, 5, 0, 60, 12) := by decide +kernel
theorem cd_113_60 : qa_code 113 60 = some (18, 60, 2, 63, 71) := by decide +kernel
theorem cd_113_63 : qa_code 113 63 = some (2, 0, 0, 64, 0) := by decide +kernel
theorem cd_113_64 : qa_code 113 64 = some (13, 5, 1, 67, 19) := by decide +kernel
theorem cd_113_67 : qa_code 113 67 = some (18, 61, 1, 70, 89) := by decide +kernel
theorem cd_113_70 : qa_code 113 70 = some (1, 5, 0, 72, 0) := by decide +kernel
theorem cd_113_72 : qa_code 113 72 = some (6, 2, 0, 73, 0) := by decide +kernel
theorem cd_113_73 : qa_code 113 73 = some (19, 0, 0, 73, 0) := by decide +kernel
theorem cd_114_0 : qa_code 114 0 = some (2, 0, 0, 1, 0) := by decide +kernel
theorem cd_114_1 : qa_code 114 1 = some (13, 5, 0, 4, 12) := by decide +kernel
theorem cd_114_4 : qa_code 114 4 = some (1, 1, 0, 5, 0) := by decide +kernel
theorem cd_114_5 : qa_code 114 5 = some (1, 2, 0, 6, 0) := by decide +kernel
theorem cd_114_6 : qa_code 114 6 = some (1, 3, 0, 7, 0) := by decide +kernel
theorem cd_114_7 : qa_code 114 7 = some (18, 41, 4, 10, 75) := by decide +kernel
theorem cd_114_10 : qa_code 114 10 = some (18, 135, 1, 13, 49) := by decide +kernel
theorem cd_114_13 : qa_code 114 13 = some (2, 0, 0, 14, 0) := by decide +kernel
theorem cd_114_14 : qa_code 114 14 = some (13, 5, 0, 17, 12) := by decide +kernel
theorem cd_114_17 : qa_code 114 17 = some (1, 1, 0, 18, 0) := by decide +kernel
theorem cd_114_18 : qa_code 114 18 = some (1, 2, 0, 19, 0) := by decide +kernel
theorem cd_114_19 : qa_code 114 19 = some (18, 140, 2, 22, 78) := by decide +kernel
theorem cd_114_22 : qa_code 114 22 = some (1, 3, 0, 23, 0) := by decide +kernel
theorem cd_114_23 : qa_code 114 23 = some (18, 48, 3, 26, 100) := by decide +kernel
theorem cd_114_26 : qa_code 114 26 = some (19, 0, 0, 26, 0) := by decide +kernel
theorem cd_115_0 : qa_code 115 0 = some (2, 0, 0, 1, 0) := by decide +kernel
theorem cd_115_1 : qa_code 115 1 = some (13, 5, 0, 4, 12) := by decide +kernel
theorem cd_115_4 : qa_code 115 4 = some (1, 1, 0, 5, 0) := by decide +kernel
theorem cd_115_5 : qa_code 115 5 = some (1, 2, 0, 6, 0) := by decide +kernel
theorem cd_115_6 : qa_code 115 6 = some (1, 3, 0, 7, 0) := by decide +kernel
theorem cd_115_7 : qa_code 115 7 = some (18, 41, 4, 10, 75) := by decide +kernel
theorem cd_115_10 : qa_code 115 10 = some (18, 135, 1, 13, 49) := by decide +kernel
theorem cd_115_13 : qa_code 115 13 = some (1, 1, 0, 14, 0) := by decide +kernel
theorem cd_115_14 : qa_code 115 14 = some (1, 2, 0, 15, 0) := by decide +kernel
theorem cd_115_15 : qa_code 115 15 = some (18, 140, 2, 18, 78) := by decide +kernel
theorem cd_115_18 : qa_code 115 18 = some (3, 4, 0, 20, 0) := by decide +kernel
theorem cd_115_20 : qa_code 115 20 = some (2, 0, 0, 21, 0) := by decide +kernel
theorem cd_115_21 : qa_code 115 21 = some (13, 5, 0, 24, 12) := by decide +kernel
theorem cd_115_24 : qa_code 115 24 = some (1, 4, 0, 26, 0) := by decide +kernel
theorem cd_115_26 : qa_code 115 26 = some (1, 3, 0, 27, 0) := by decide +kernel
theorem cd_115_27 : qa_code 115 27 = some (18, 45, 3, 30, 82) := by decide +kernel
theorem cd_115_30 : qa_code 115 30 = some (18, 135, 1, 33, 49) := by decide +kernel
theorem cd_115_33 : qa_code 115 33 = some (2, 0, 0, 34, 0) := by decide +kernel
theorem cd_115_34 : qa_code 115 34 = some (13, 5, 0, 37, 12) := by decide +kernel
theorem cd_115_37 : qa_code 115 37 = some (1, 4, 0, 39, 0) := by decide +kernel
theorem cd_115_39 : qa_code 115 39 = some (1, 3, 0, 40, 0) := by decide +kernel
theorem cd_115_40 : qa_code 115 40 = some (18, 50, 3, 43, 103) := by decide +kernel
theorem cd_115_43 : qa_code 115 43 = some (19, 0, 0, 43, 0) := by decide +kernel
theorem cd_116_0 : qa_code 116 0 = some (1, 1, 0, 1, 0) := by decide +kernel
theorem cd_116_1 : qa_code 116 1 = some (0, 0, 0, 2, 0) := by decide +kernel
theorem cd_116_2 : qa_code 116 2 = some (2, 0, 0, 3, 0) := by decide +kernel
theorem cd_116_3 : qa_code 116 3 = some (13, 5, 0, 6, 12) := by decide +kernel
theorem cd_116_6 : qa_code 116 6 = some (18, 43, 1, 9, 86) := by decide +kernel
theorem cd_116_9 : qa_code 116 9 = some (0, 0, 1, 10, 0) := by decide +kernel
theorem cd_116_10 : qa_code 116 10 = some (6, 2, 0, 11, 0) := by decide +kernel
theorem cd_116_11 : qa_code 116 11 = some (18, 138, 3, 14, 53) := by decide +kernel
theorem cd_116_14 : qa_code 116 14 = some (18, 135, 1, 17, 49) := by decide +kernel
theorem cd_116_17 : qa_code 116 17 = some (2, 0, 0, 18, 0) := by decide +kernel
theorem cd_116_18 : qa_code 116 18 = some (13, 5, 0, 21, 12) := by decide +kernel
theorem cd_116_21 : qa_code 116 21 = some (1, 1, 0, 22, 0) := by decide +kernel
theorem cd_116_22 : qa_code 116 22 = some (18, 44, 2, 25, 106) := by decide +kernel
theorem cd_116_25 : qa_code 116 25 = some (19, 0, 0, 25, 0) := by decide +kernel
theorem cd_117_0 : qa_code 117 0 = some (2, 0, 0, 1, 0) := by decide +kernel
theorem cd_117_1 : qa_code 117 1 = some (13, 5, 0, 4, 12) := by decide +kernel
theorem cd_117_4 : qa_code 117 4 = some (1, 1, 0, 5, 0) := by decide +kernel
theorem cd_117_5 : qa_code 117 5 = some (18, 40, 2, 8, 45) := by decide +kernel
theorem cd_117_8 : qa_code 117 8 = some (16, 0, 22, 11, 0) := by decide +kernel
theorem cd_117_11 : qa_code 117 11 = some (1, 2, 0, 12, 0) := by decide +kernel
theorem cd_117_12 : qa_code 117 12 = some (18, 139, 1, 15, 110) := by decide +kernel
theorem cd_117_15 : qa_code 117 15 = some (16, 0, 22, 18, 0) := by decide +kernel
theorem cd_117_18 : qa_code 117 18 = some (0, 0, 1, 19, 0) := by decide +kernel
theorem cd_117_19 : qa_code 117 19 = some (17, 0, 0, 23, 0) := by decide +kernel
theorem cd_117_22 : qa_code 117 22 = some (0, 0, 0, 23, 0) := by decide +kernel
theorem cd_117_23 : qa_code 117 23 = some (18, 135, 1, 26, 49) := by decide +kernel
theorem cd_117_26 : qa_code 117 26 = some (2, 0, 0, 27, 0) := by decide +kernel
theorem cd_117_27 : qa_code 117 27 = some (13, 5, 0, 30, 12) := by decide +kernel
theorem cd_117_30 : qa_code 117 30 = some (1, 1, 0, 31, 0) := by decide +kernel
theorem cd_117_31 : qa_code 117 31 = some (1, 2, 0, 32, 0) := by decide +kernel
theorem cd_117_32 : qa_code 117 32 = some (18, 51, 3, 35, 113) := by decide +kernel
theorem cd_117_35 : qa_code 117 35 = some (19, 0, 0, 35, 0) := by decide +kernel
theorem cd_118_0 : qa_code 118 0 = some (1, 1, 0, 1, 0) := by decide +kernel
theorem cd_118_1 : qa_code 118 1 = some (18, 139, 1, 4, 110) := by decide +kernel
theorem cd_118_4 : qa_code 118 4 = some (18, 135, 1, 7, 49) := by decide +kernel
theorem cd_118_7 : qa_code 118 7 = some (2, 0, 0, 8, 0) := by decide +kernel
theorem cd_118_8 : qa_code 118 8 = some (13, 5, 0, 11, 12) := by decide +kernel
theorem cd_118_11 : qa_code 118 11 = some (1, 1, 0, 12, 0) := by decide +kernel
theorem cd_118_12 : qa_code 118 12 = some (18, 49, 2, 15, 116) := by decide +kernel
theorem cd_118_15 : qa_code 118 15 = some (19, 0, 0, 15, 0) := by decide +kernel
theorem cd_119_0 : qa_code 119 0 = some (1, 1, 0, 1, 0) := by decide +kernel
theorem cd_119_1 : qa_code 119 1 = some (0, 0, 0, 2, 0) := by decide +kernel
theorem cd_119_2 : qa_code 119 2 = some (2, 0, 0, 3, 0) := by decide +kernel
theorem cd_119_3 : qa_code 119 3 = some (13, 5, 2, 6, 26) := by decide +kernel
theorem cd_119_6 : qa_code 119 6 = some (18, 17, 1, 9, 119) := by decide +kernel
theorem cd_119_9 : qa_code 119 9 = some (18, 138, 3, 12, 53) := by decide +kernel
theorem cd_119_12 : qa_code 119 12 = some (16, 0, 33, 15, 0) := by decide +kernel
theorem cd_119_15 : qa_code 119 15 = some (1, 2, 0, 16, 0) := by decide +kernel
theorem cd_119_16 : qa_code 119 16 = some (18, 139, 1, 19, 110) := by decide +kernel
theorem cd_119_19 : qa_code 119 19 = some (16, 0, 33, 22, 0) := by decide +kernel
theorem cd_119_22 : qa_code 119 22 = some (1, 3, 0, 23, 0) := by decide +kernel
theorem cd_119_23 : qa_code 119 23 = some (18, 139, 1, 26, 110) := by decide +kernel
theorem cd_119_26 : qa_code 119 26 = some (16, 0, 33, 29, 0) := by decide +kernel
theorem cd_119_29 : qa_code 119 29 = some (0, 0, 1, 30, 0) := by decide +kernel
theorem cd_119_30 : qa_code 119 30 = some (17, 0, 0, 34, 0) := by decide +kernel
theorem cd_119_33 : qa_code 119 33 = some (0, 0, 0, 34, 0) := by decide +kernel
theorem cd_119_34 : qa_code 119 34 = some (18, 135, 1, 37, 49) := by decide +kernel
theorem cd_119_37 : qa_code 119 37 = some (1, 2, 0, 38, 0) := by decide +kernel
theorem cd_119_38 : qa_code 119 38 = some (1, 3, 0, 39, 0) := by decide +kernel
theorem cd_119_39 : qa_code 119 39 = some (15, 4, 46, 42, 0) := by decide +kernel
theorem cd_119_42 : qa_code 119 42 = some (0, 0, 1, 43, 0) := by decide +kernel
theorem cd_119_43 : qa_code 119 43 = some (17, 0, 0, 47, 0) := by decide +kernel
theorem cd_119_46 : qa_code 119 46 = some (0, 0, 0, 47, 0) := by decide +kernel
theorem cd_119_47 : qa_code 119 47 = some (18, 136, 1, 50, 57) := by decide +kernel
theorem cd_119_50 : qa_code 119 50 = some (2, 0, 0, 51, 0) := by decide +kernel
theorem cd_119_51 : qa_code 119 51 = some (13, 5, 2, 54, 26) := by decide +kernel
theorem cd_119_54 : qa_code 119 54 = some (18, 17, 1, 57, 119) := by decide +kernel
theorem cd_119_57 : qa_code 119 57 = some (0, 0, 10, 59, 0) := by decide +kernel
theorem cd_119_59 : qa_code 119 59 = some (15, 3, 66, 62, 0) := by decide +kernel
theorem cd_119_62 : qa_code 119 62 = some (0, 0, 1, 63, 0) := by decide +kernel
theorem cd_119_63 : qa_code 119 63 = some (17, 0, 0, 67, 0) := by decide +kernel
theorem cd_119_66 : qa_code 119 66 = some (0, 0, 0, 67, 0) := by decide +kernel
theorem cd_119_67 : qa_code 119 67 = some (18, 137, 1, 70, 64) := by decide +kernel
theorem cd_119_70 : qa_code 119 70 = some (2, 0, 0, 71, 0) := by decide +kernel
theorem cd_119_71 : qa_code 119 71 = some (13, 5, 2, 74, 26) := by decide +kernel
theorem cd_119_74 : qa_code 119 74 = some (1, 1, 0, 75, 0) := by decide +kernel
theorem cd_119_75 : qa_code 119 75 = some (1, 2, 0, 76, 0) := by decide +kernel
theorem cd_119_76 : qa_code 119 76 = some (1, 3, 0, 77, 0) := by decide +kernel
theorem cd_119_77 : qa_code 119 77 = some (18, 21, 4, 80, 122) := by decide +kernel
theorem cd_119_80 : qa_code 119 80 = some (2, 0, 0, 81, 0) := by decide +kernel
theorem cd_119_81 : qa_code 119 81 = some (13, 5, 2, 84, 26) := by decide +kernel
theorem cd_119_84 : qa_code 119 84 = some (18, 18, 1, 87, 126) := by decide +kernel
theorem cd_119_87 : qa_code 119 87 = some (19, 0, 0, 87, 0) := by decide +kernel
theorem cd_120_0 : qa_code 120 0 = some (1, 1, 0, 1, 0) := by decide +kernel
theorem cd_120_1 : qa_code 120 1 = some (0, 0, 0, 2, 0) := by decide +kernel
theorem cd_120_2 : qa_code 120 2 = some (2, 0, 0, 3, 0) := by decide +kernel
theorem cd_120_3 : qa_code 120 3 = some (13, 5, 2, 6, 26) := by decide +kernel
theorem cd_120_6 : qa_code 120 6 = some (18, 17, 1, 9, 119) := by decide +kernel
theorem cd_120_9 : qa_code 120 9 = some (0, 0, 1, 10, 0) := by decide +kernel
theorem cd_120_10 : qa_code 120 10 = some (6, 2, 0, 11, 0) := by decide +kernel
theorem cd_120_11 : qa_code 120 11 = some (18, 138, 3, 14, 53) := by decide +kernel
theorem cd_120_14 : qa_code 120 14 = some (18, 135, 1, 17, 49) := by decide +kernel
theorem cd_120_17 : qa_code 120 17 = some (2, 0, 0, 18, 0) := by decide +kernel
theorem cd_120_18 : qa_code 120 18 = some (13, 5, 2, 21, 26) := by decide +kernel
theorem cd_120_21 : qa_code 120 21 = some (1, 1, 0, 22, 0) := by decide +kernel
theorem cd_120_22 : qa_code 120 22 = some (18, 22, 2, 25, 129) := by decide +kernel
theorem cd_120_25 : qa_code 120 25 = some (2, 0, 0, 26, 0) := by decide +kernel
theorem cd_120_26 : qa_code 120 26 = some (13, 5, 2, 29, 26) := by decide +kernel
theorem cd_120_29 : qa_code 120 29 = some (18, 18, 1, 32, 126) := by decide +kernel
theorem cd_120_32 : qa_code 120 32 = some (19, 0, 0, 32, 0) := by decide +kernel
theorem cd_121_0 : qa_code 121 0 = some (1, 1, 0, 1, 0) := by decide +kernel
theorem cd_121_1 : qa_code 121 1 = some (0, 0, 0, 2, 0) := by decide +kernel
theorem cd_121_2 : qa_code 121 2 = some (2, 0, 0, 3, 0) := by decide +kernel
theorem cd_121_3 : qa_code 121 3 = some (13, 5, 2, 6, 26) := by decide +kernel
theorem cd_121_6 : qa_code 121 6 = some (18, 18, 1, 9, 126) := by decide +kernel
theorem cd_121_9 : qa_code 121 9 = some (0, 0, 1, 10, 0) := by decide +kernel
theorem cd_121_10 : qa_code 121 10 = some (6, 2, 0, 11, 0) := by decide +kernel
theorem cd_121_11 : qa_code 121 11 = some (18, 138, 3, 14, 53) := by decide +kernel
theorem cd_121_14 : qa_code 121 14 = some (18, 135, 1, 17, 49) := by decide +kernel
theorem cd_121_17 : qa_code 121 17 = some (2, 0, 0, 18, 0) := by decide +kernel
theorem cd_121_18 : qa_code 121 18 = some (13, 5, 2, 21, 26) := by decide +kernel
theorem cd_121_21 : qa_code 121 21 = some (1, 1, 0, 22, 0) := by decide +kernel
theorem cd_121_22 : qa_code 121 22 = some (18, 23, 2, 25, 133) := by decide +kernel
theorem cd_121_25 : qa_code 121 25 = some (19, 0, 0, 25, 0) := by decide +kernel
theorem cd_122_0 : qa_code 122 0 = some (1, 1, 0, 1, 0) := by decide +kernel
theorem cd_122_1 : qa_code 122 1 = some (18, 139, 1, 4, 110) := by decide +kernel
theorem cd_122_4 : qa_code 122 4 = some (18, 135, 1, 7, 49) := by decide +kernel
theorem cd_122_7 : qa_code 122 7 = some (2, 0, 0, 8, 0) := by decide +kernel
theorem cd_122_8 : qa_code 122 8 = some (13, 5, 1, 11, 19) := by decide +kernel
theorem cd_122_11 : qa_code 122 11 = some (1, 1, 0, 12, 0) := by decide +kernel
theorem cd_122_12 : qa_code 122 12 = some (18, 57, 2, 15, 136) := by decide +kernel
theorem cd_122_15 : qa_code 122 15 = some (2, 0, 0, 16, 0) := by decide +kernel
theorem cd_122_16 : qa_code 122 16 = some (13, 5, 2, 19, 26) := by decide +kernel
theorem cd_122_19 : qa_code 122 19 = some (1, 1, 0, 20, 0) := by decide +kernel
theorem cd_122_20 : qa_code 122 20 = some (18, 20, 2, 23, 139) := by decide +kernel
theorem cd_122_23 : qa_code 122 23 = some (16, 0, 31, 26, 0) := by decide +kernel
theorem cd_122_26 : qa_code 122 26 = some (0, 0, 10, 28, 0) := by decide +kernel
theorem cd_122_28 : qa_code 122 28 = some (17, 0, 0, 32, 0) := by decide +kernel
theorem cd_122_31 : qa_code 122 31 = some (0, 0, 0, 32, 0) := by decide +kernel
theorem cd_122_32 : qa_code 122 32 = some (6, 0, 0, 33, 0) := by decide +kernel
theorem cd_122_33 : qa_code 122 33 = some (19, 0, 0, 33, 0) := by decide +kernel
theorem cd_123_0 : qa_code 123 0 = some (2, 0, 0, 1, 0) := by decide +kernel
theorem cd_123_1 : qa_code 123 1 = some (13, 5, 1, 4, 19) := by decide +kernel
theorem cd_123_4 : qa_code 123 4 = some (18, 61, 1, 7, 89) := by decide +kernel
theorem cd_123_7 : qa_code 123 7 = some (19, 0, 0, 7, 0) := by decide +kernel
theorem cd_124_0 : qa_code 124 0 = some (2, 0, 0, 1, 0) := by decide +kernel
theorem cd_124_1 : qa_code 124 1 = some (13, 5, 1, 4, 19) := by decide +kernel
theorem cd_124_4 : qa_code 124 4 = some (2, 0, 0, 5, 0) := by decide +kernel
theorem cd_124_5 : qa_code 124 5 = some (13, 5, 0, 8, 12) := by decide +kernel
theorem cd_124_8 : qa_code 124 8 = some (18, 62, 2, 11, 142) := by decide +kernel
theorem cd_124_11 : qa_code 124 11 = some (19, 0, 0, 11, 0) := by decide +kernel
theorem cd_125_0 : qa_code 125 0 = some (1, 1, 0, 1, 0) := by decide +kernel
theorem cd_125_1 : qa_code 125 1 = some (0, 0, 1, 2, 0) := by decide +kernel
theorem cd_125_2 : qa_code 125 2 = some (0, 0, 5, 3, 0) := by decide +kernel
theorem cd_125_3 : qa_code 125 3 = some (18, 138, 3, 6, 53) := by decide +kernel
theorem cd_125_6 : qa_code 125 6 = some (18, 136, 1, 9, 57) := by decide +kernel
theorem cd_125_9 : qa_code 125 9 = some (2, 0, 0, 10, 0) := by decide +kernel
theorem cd_125_10 : qa_code 125 10 = some (13, 5, 3, 13, 33) := by decide +kernel
theorem cd_125_13 : qa_code 125 13 = some (18, 25, 1, 16, 146) := by decide +kernel
theorem cd_125_16 : qa_code 125 16 = some (0, 0, 4, 17, 0) := by decide +kernel
theorem cd_125_17 : qa_code 125 17 = some (15, 3, 24, 20, 0) := by decide +kernel
theorem cd_125_20 : qa_code 125 20 = some (0, 0, 1, 21, 0) := by decide +kernel
theorem cd_125_21 : qa_code 125 21 = some (17, 0, 0, 25, 0) := by decide +kernel
theorem cd_125_24 : qa_code 125 24 = some (0, 0, 0, 25, 0) := by decide +kernel
theorem cd_125_25 : qa_code 125 25 = some (18, 137, 1, 28, 64) := by decide +kernel
theorem cd_125_28 : qa_code 125 28 = some (2, 0, 0, 29, 0) := by decide +kernel
theorem cd_125_29 : qa_code 125 29 = some (13, 5, 3, 32, 33) := by decide +kernel
theorem cd_125_32 : qa_code 125 32 = some (1, 1, 0, 33, 0) := by decide +kernel
theorem cd_125_33 : qa_code 125 33 = some (18, 29, 2, 36, 149) := by decide +kernel
theorem cd_125_36 : qa_code 125 36 = some (19, 0, 0, 36, 0) := by decide +kernel
theorem cd_126_0 : qa_code 126 0 = some (1, 1, 0, 1, 0) := by decide +kernel
theorem cd_126_1 : qa_code 126 1 = some (0, 0, 1, 2, 0) := by decide +kernel
theorem cd_126_2 : qa_code 126 2 = some (0, 0, 100, 4, 0) := by decide +kernel
theorem cd_126_4 : qa_code 126 4 = some (18, 138, 3, 7, 53) := by decide +kernel
theorem cd_126_7 : qa_code 126 7 = some (16, 0, 24, 10, 0) := by decide +kernel
theorem cd_126_10 : qa_code 126 10 = some (1, 2, 0, 11, 0) := by decide +kernel
theorem cd_126_11 : qa_code 126 11 = some (0, 0, 1, 12, 0) := by decide +kernel
theorem cd_126_12 : qa_code 126 12 = some (0, 0, 50, 14, 0) := by decide +kernel
theorem cd_126_14 : qa_code 126 14 = some (18, 138, 3, 17, 53) := by decide +kernel
theorem cd_126_17 : qa_code 126 17 = some (16, 0, 24, 20, 0) := by decide +kernel
theorem cd_126_20 : qa_code 126 20 = some (0, 0, 1, 21, 0) := by decide +kernel
theorem cd_126_21 : qa_code 126 21 = some (17, 0, 0, 25, 0) := by decide +kernel
theorem cd_126_24 : qa_code 126 24 = some (0, 0, 0, 25, 0) := by decide +kernel
theorem cd_126_25 : qa_code 126 25 = some (18, 136, 1, 28, 57) := by decide +kernel
theorem cd_126_28 : qa_code 126 28 = some (2, 0, 0, 29, 0) := by decide +kernel
theorem cd_126_29 : qa_code 126 29 = some (13, 5, 3, 32, 33) := by decide +kernel
theorem cd_126_32 : qa_code 126 32 = some (18, 26, 1, 35, 152) := by decide +kernel
theorem cd_126_35 : qa_code 126 35 = some (0, 0, 10, 37, 0) := by decide +kernel
theorem cd_126_37 : qa_code 126 37 = some (15, 3, 44, 40, 0) := by decide +kernel
theorem cd_126_40 : qa_code 126 40 = some (0, 0, 1, 41, 0) := by decide +kernel
theorem cd_126_41 : qa_code 126 41 = some (17, 0, 0, 45, 0) := by decide +kernel
theorem cd_126_44 : qa_code 126 44 = some (0, 0, 0, 45, 0) := by decide +kernel
theorem cd_126_45 : qa_code 126 45 = some (18, 137, 1, 48, 64) := by decide +kernel
theorem cd_126_48 : qa_code 126 48 = some (2, 0, 0, 49, 0) := by decide +kernel
theorem cd_126_49 : qa_code 126 49 = some (13, 5, 3, 52, 33) := by decide +kernel
theorem cd_126_52 : qa_code 126 52 = some (1, 1, 0, 53, 0) := by decide +kernel
theorem cd_126_53 : qa_code 126 53 = some (1, 2, 0, 54, 0) := by decide +kernel
theorem cd_126_54 : qa_code 126 54 = some (18, 30, 3, 57, 155) := by decide +kernel
theorem cd_126_57 : qa_code 126 57 = some (19, 0, 0, 57, 0) := by decide +kernel
theorem cd_127_0 : qa_code 127 0 = some (1, 1, 0, 1, 0) := by decide +kernel
theorem cd_127_1 : qa_code 127 1 = some (0, 0, 1, 2, 0) := by decide +kernel
theorem cd_127_2 : qa_code 127 2 = some (0, 0, 24, 4, 0) := by decide +kernel
theorem cd_127_4 : qa_code 127 4 = some (18, 138, 3, 7, 53) := by decide +kernel
theorem cd_127_7 : qa_code 127 7 = some (18, 136, 1, 10, 57) := by decide +kernel
theorem cd_127_10 : qa_code 127 10 = some (2, 0, 0, 11, 0) := by decide +kernel
theorem cd_127_11 : qa_code 127 11 = some (13, 5, 3, 14, 33) := by decide +kernel
theorem cd_127_14 : qa_code 127 14 = some (1, 1, 0, 15, 0) := by decide +kernel
theorem cd_127_15 : qa_code 127 15 = some (2, 0, 0, 16, 0) := by decide +kernel
theorem cd_127_16 : qa_code 127 16 = some (13, 5, 2, 19, 26) := by decide +kernel
theorem cd_127_19 : qa_code 127 19 = some (2, 0, 0, 20, 0) := by decide +kernel
theorem cd_127_20 : qa_code 127 20 = some (13, 5, 1, 23, 19) := by decide +kernel
theorem cd_127_23 : qa_code 127 23 = some (2, 0, 0, 24, 0) := by decide +kernel
theorem cd_127_24 : qa_code 127 24 = some (13, 5, 0, 27, 12) := by decide +kernel
theorem cd_127_27 : qa_code 127 27 = some (18, 31, 5, 30, 158) := by decide +kernel
theorem cd_127_30 : qa_code 127 30 = some (19, 0, 0, 30, 0) := by decide +kernel
theorem cd_128_0 : qa_code 128 0 = some (1, 1, 0, 1, 0) := by decide +kernel
theorem cd_128_1 : qa_code 128 1 = some (0, 0, 0, 2, 0) := by decide +kernel
theorem cd_128_2 : qa_code 128 2 = some (2, 0, 0, 3, 0) := by decide +kernel
theorem cd_128_3 : qa_code 128 3 = some (13, 5, 3, 6, 33) := by decide +kernel
theorem cd_128_6 : qa_code 128 6 = some (18, 25, 1, 9, 146) := by decide +kernel
theorem cd_128_9 : qa_code 128 9 = some (0, 0, 1, 10, 0) := by decide +kernel
theorem cd_128_10 : qa_code 128 10 = some (6, 2, 0, 11, 0) := by decide +kernel
theorem cd_128_11 : qa_code 128 11 = some (18, 138, 3, 14, 53) := by decide +kernel
theorem cd_128_14 : qa_code 128 14 = some (18, 135, 1, 17, 49) := by decide +kernel
theorem cd_128_17 : qa_code 128 17 = some (2, 0, 0, 18, 0) := by decide +kernel
theorem cd_128_18 : qa_code 128 18 = some (13, 5, 3, 21, 33) := by decide +kernel
theorem cd_128_21 : qa_code 128 21 = some (1, 1, 0, 22, 0) := by decide +kernel
theorem cd_128_22 : qa_code 128 22 = some (18, 28, 2, 25, 162) := by decide +kernel
theorem cd_128_25 : qa_code 128 25 = some (19, 0, 0, 25, 0) := by decide +kernel
theorem cd_129_0 : qa_code 129 0 = some (1, 1, 0, 1, 0) := by decide +kernel
theorem cd_129_1 : qa_code 129 1 = some (0, 0, 0, 2, 0) := by decide +kernel
theorem cd_129_2 : qa_code 129 2 = some (0, 0, 1000, 5, 0) := by decide +kernel
theorem cd_129_5 : qa_code 129 5 = some (18, 138, 3, 8, 53) := by decide +kernel
theorem cd_129_8 : qa_code 129 8 = some (18, 136, 1, 11, 57) := by decide +kernel
theorem cd_129_11 : qa_code 129 11 = some (2, 0, 0, 12, 0) := by decide +kernel
theorem cd_129_12 : qa_code 129 12 = some (12, 5, 5, 15, 41) := by decide +kernel
theorem cd_129_15 : qa_code 129 15 = some (3, 2, 0, 16, 0) := by decide +kernel
theorem cd_129_16 : qa_code 129 16 = some (2, 0, 0, 17, 0) := by decide +kernel
theorem cd_129_17 : qa_code 129 17 = some (1, 1, 0, 18, 0) := by decide +kernel
theorem cd_129_18 : qa_code 129 18 = some (14, 5, 5, 21, 41) := by decide +kernel
theorem cd_129_21 : qa_code 129 21 = some (1, 2, 0, 22, 0) := by decide +kernel
theorem cd_129_22 : qa_code 129 22 = some (19, 0, 0, 22, 0) := by decide +kernel
theorem cd_130_0 : qa_code 130 0 = some (1, 1, 0, 1, 0) := by decide +kernel
theorem cd_130_1 : qa_code 130 1 = some (0, 0, 0, 2, 0) := by decide +kernel
theorem cd_130_2 : qa_code 130 2 = some (0, 0, 5, 3, 0) := by decide +kernel
theorem cd_130_3 : qa_code 130 3 = some (18, 138, 3, 6, 53) := by decide +kernel
theorem cd_130_6 : qa_code 130 6 = some (18, 135, 1, 9, 49) := by decide +kernel
theorem cd_130_9 : qa_code 130 9 = some (2, 0, 0, 10, 0) := by decide +kernel
theorem cd_130_10 : qa_code 130 10 = some (1, 1, 0, 11, 0) := by decide +kernel
theorem cd_130_11 : qa_code 130 11 = some (18, 133, 2, 14, 165) := by decide +kernel
theorem cd_130_14 : qa_code 130 14 = some (19, 0, 0, 14, 0) := by decide +kernel
theorem cd_131_0 : qa_code 131 0 = some (2, 0, 0, 1, 0) := by decide +kernel
theorem cd_131_1 : qa_code 131 1 = some (13, 5, 2, 4, 26) := by decide +kernel
theorem cd_131_4 : qa_code 131 4 = some (18, 18, 1, 7, 126) := by decide +kernel
theorem cd_131_7 : qa_code 131 7 = some (16, 5, 21, 10, 0) := by decide +kernel
theorem cd_131_10 : qa_code 131 10 = some (2, 0, 0, 11, 0) := by decide +kernel
theorem cd_131_11 : qa_code 131 11 = some (18, 134, 1, 14, 168) := by decide +kernel
theorem cd_131_14 : qa_code 131 14 = some (16, 0, 21, 17, 0) := by decide +kernel
theorem cd_131_17 : qa_code 131 17 = some (0, 0, 1, 18, 0) := by decide +kernel
theorem cd_131_18 : qa_code 131 18 = some (17, 0, 0, 22, 0) := by decide +kernel
theorem cd_131_21 : qa_code 131 21 = some (0, 0, 0, 22, 0) := by decide +kernel
theorem cd_131_22 : qa_code 131 22 = some (18, 137, 1, 25, 64) := by decide +kernel
theorem cd_131_25 : qa_code 131 25 = some (0, 0, 0, 26, 0) := by decide +kernel
theorem cd_131_26 : qa_code 131 26 = some (3, 1, 0, 27, 0) := by decide +kernel
theorem cd_131_27 : qa_code 131 27 = some (0, 0, 0, 28, 0) := by decide +kernel
theorem cd_131_28 : qa_code 131 28 = some (3, 2, 0, 29, 0) := by decide +kernel
theorem cd_131_29 : qa_code 131 29 = some (1, 2, 0, 30, 0) := by decide +kernel
theorem cd_131_30 : qa_code 131 30 = some (0, 0, 6, 32, 0) := by decide +kernel
theorem cd_131_32 : qa_code 131 32 = some (15, 3, 66, 35, 0) := by decide +kernel
theorem cd_131_35 : qa_code 131 35 = some (2, 0, 0, 36, 0) := by decide +kernel
theorem cd_131_36 : qa_code 131 36 = some (1, 2, 0, 37, 0) := by decide +kernel
theorem cd_131_37 : qa_code 131 37 = some (18, 133, 2, 40, 165) := by decide +kernel
theorem cd_131_40 : qa_code 131 40 = some (2, 0, 0, 41, 0) := by decide +kernel
theorem cd_131_41 : qa_code 131 41 = some (12, 5, 5, 44, 41) := by decide +kernel
theorem cd_131_44 : qa_code 131 44 = some (6, 3, 0, 45, 0) := by decide +kernel
theorem cd_131_45 : qa_code 131 45 = some (3, 3, 0, 46, 0) := by decide +kernel
theorem cd_131_46 : qa_code 131 46 = some (2, 0, 0, 47, 0) := by decide +kernel
theorem cd_131_47 : qa_code 131 47 = some (13, 5, 4, 50, 37) := by decide +kernel
theorem cd_131_50 : qa_code 131 50 = some (1, 2, 0, 51, 0) := by decide +kernel
theorem cd_131_51 : qa_code 131 51 = some (9, 0, 0, 52, 0) := by decide +kernel
theorem cd_131_52 : qa_code 131 52 = some (10, 0, 0, 53, 0) := by decide +kernel
theorem cd_131_53 : qa_code 131 53 = some (1, 3, 0, 54, 0) := by decide +kernel
theorem cd_131_54 : qa_code 131 54 = some (6, 1, 0, 55, 0) := by decide +kernel
theorem cd_131_55 : qa_code 131 55 = some (11, 0, 0, 56, 0) := by decide +kernel
theorem cd_131_56 : qa_code 131 56 = some (1, 1, 0, 57, 0) := by decide +kernel
theorem cd_131_57 : qa_code 131 57 = some (1, 3, 0, 58, 0) := by decide +kernel
theorem cd_131_58 : qa_code 131 58 = some (6, 1, 0, 59, 0) := by decide +kernel
theorem cd_131_59 : qa_code 131 59 = some (3, 1, 0, 60, 0) := by decide +kernel
theorem cd_131_60 : qa_code 131 60 = some (5, 2, 1, 63, 0) := by decide +kernel
theorem cd_131_63 : qa_code 131 63 = some (17, 0, 0, 29, 0) := by decide +kernel
theorem cd_131_66 : qa_code 131 66 = some (1, 1, 0, 67, 0) := by decide +kernel
theorem cd_131_67 : qa_code 131 67 = some (19, 0, 0, 67, 0) := by decide +kernel
theorem cd_132_0 : qa_code 132 0 = some (1, 1, 0, 1, 0) := by decide +kernel
theorem cd_132_1 : qa_code 132 1 = some (0, 0, 0, 2, 0) := by decide +kernel
theorem cd_132_2 : qa_code 132 2 = some (0, 0, 6, 4, 0) := by decide +kernel
theorem cd_132_4 : qa_code 132 4 = some (18, 138, 3, 7, 53) := by decide +kernel
theorem cd_132_7 : qa_code 132 7 = some (18, 135, 1, 10, 49) := by decide +kernel
theorem cd_132_10 : qa_code 132 10 = some (1, 1, 0, 11, 0) := by decide +kernel
theorem cd_132_11 : qa_code 132 11 = some (0, 0, 6, 13, 0) := by decide +kernel
theorem cd_132_13 : qa_code 132 13 = some (15, 1, 26, 16, 0) := by decide +kernel
theorem cd_132_16 : qa_code 132 16 = some (2, 0, 0, 17, 0) := by decide +kernel
theorem cd_132_17 : qa_code 132 17 = some (13, 5, 3, 20, 33) := by decide +kernel
theorem cd_132_20 : qa_code 132 20 = some (18, 27, 1, 23, 172) := by decide +kernel
theorem cd_132_23 : qa_code 132 23 = some (17, 0, 0, 32, 0) := by decide +kernel
theorem cd_132_26 : qa_code 132 26 = some (2, 0, 0, 27, 0) := by decide +kernel
theorem cd_132_27 : qa_code 132 27 = some (13, 5, 4, 30, 37) := by decide +kernel
theorem cd_132_30 : qa_code 132 30 = some (1, 1, 0, 31, 0) := by decide +kernel
theorem cd_132_31 : qa_code 132 31 = some (10, 0, 0, 32, 0) := by decide +kernel
theorem cd_132_32 : qa_code 132 32 = some (19, 0, 0, 32, 0) := by decide +kernel
theorem cd_133_0 : qa_code 133 0 = some (0, 0, 0, 1, 0) := by decide +kernel
theorem cd_133_1 : qa_code 133 1 = some (3, 2, 0, 2, 0) := by decide +kernel
theorem cd_133_2 : qa_code 133 2 = some (0, 0, 0, 3, 0) := by decide +kernel
theorem cd_133_3 : qa_code 133 3 = some (3, 3, 0, 4, 0) := by decide +kernel
theorem cd_133_4 : qa_code 133 4 = some (1, 3, 0, 5, 0) := by decide +kernel
theorem cd_133_5 : qa_code 133 5 = some (0, 0, 120, 7, 0) := by decide +kernel
theorem cd_133_7 : qa_code 133 7 = some (15, 3, 42, 10, 0) := by decide +kernel
theorem cd_133_10 : qa_code 133 10 = some (2, 0, 0, 11, 0) := by decide +kernel
theorem cd_133_11 : qa_code 133 11 = some (13, 5, 0, 14, 12) := by decide +kernel
theorem cd_133_14 : qa_code 133 14 = some (1, 3, 0, 15, 0) := by decide +kernel
theorem cd_133_15 : qa_code 133 15 = some (18, 49, 2, 18, 116) := by decide +kernel
theorem cd_133_18 : qa_code 133 18 = some (0, 0, 1, 19, 0) := by decide +kernel
theorem cd_133_19 : qa_code 133 19 = some (1, 1, 0, 20, 0) := by decide +kernel
theorem cd_133_20 : qa_code 133 20 = some (6, 8, 0, 21, 0) := by decide +kernel
theorem cd_133_21 : qa_code 133 21 = some (6, 6, 0, 22, 0) := by decide +kernel
theorem cd_133_22 : qa_code 133 22 = some (16, 0, 36, 25, 0) := by decide +kernel
theorem cd_133_25 : qa_code 133 25 = some (1, 2, 0, 26, 0) := by decide +kernel
theorem cd_133_26 : qa_code 133 26 = some (2, 0, 0, 27, 0) := by decide +kernel
theorem cd_133_27 : qa_code 133 27 = some (13, 5, 2, 30, 26) := by decide +kernel
theorem cd_133_30 : qa_code 133 30 = some (1, 3, 0, 31, 0) := by decide +kernel
theorem cd_133_31 : qa_code 133 31 = some (18, 19, 2, 34, 175) := by decide +kernel
theorem cd_133_34 : qa_code 133 34 = some (6, 0, 0, 35, 0) := by decide +kernel
theorem cd_133_35 : qa_code 133 35 = some (3, 2, 0, 36, 0) := by decide +kernel
theorem cd_133_36 : qa_code 133 36 = some (5, 3, 1, 39, 0) := by decide +kernel
theorem cd_133_39 : qa_code 133 39 = some (17, 0, 0, 4, 0) := by decide +kernel
theorem cd_133_42 : qa_code 133 42 = some (1, 2, 0, 43, 0) := by decide +kernel
theorem cd_133_43 : qa_code 133 43 = some (0, 0, 24, 45, 0) := by decide +kernel
theorem cd_133_45 : qa_code 133 45 = some (6, 4, 0, 46, 0) := by decide +kernel
theorem cd_133_46 : qa_code 133 46 = some (19, 0, 0, 46, 0) := by decide +kernel
theorem cd_134_0 : qa_code 134 0 = some (0, 0, 0, 1, 0) := by decide +kernel
theorem cd_134_1 : qa_code 134 1 = some (3, 1, 0, 2, 0) := by decide +kernel
theorem cd_134_2 : qa_code 134 2 = some (1, 1, 0, 3, 0) := by decide +kernel
theorem cd_134_3 : qa_code 134 3 = some (0, 0, 120, 5, 0) := by decide +kernel
theorem cd_134_5 : qa_code 134 5 = some (15, 3, 38, 8, 0) := by decide +kernel
theorem cd_134_8 : qa_code 134 8 = some (2, 0, 0, 9, 0) := by decide +kernel
theorem cd_134_9 : qa_code 134 9 = some (13, 5, 2, 12, 26) := by decide +kernel
theorem cd_134_12 : qa_code 134 12 = some (1, 1, 0, 13, 0) := by decide +kernel
theorem cd_134_13 : qa_code 134 13 = some (18, 20, 2, 16, 139) := by decide +kernel
theorem cd_134_16 : qa_code 134 16 = some (16, 0, 32, 19, 0) := by decide +kernel
theorem cd_134_19 : qa_code 134 19 = some (2, 0, 0, 20, 0) := by decide +kernel
theorem cd_134_20 : qa_code 134 20 = some (13, 5, 1, 23, 19) := by decide +kernel
theorem cd_134_23 : qa_code 134 23 = some (1, 1, 0, 24, 0) := by decide +kernel
theorem cd_134_24 : qa_code 134 24 = some (18, 58, 2, 27, 178) := by decide +kernel
theorem cd_134_27 : qa_code 134 27 = some (16, 1, 32, 30, 0) := by decide +kernel
theorem cd_134_30 : qa_code 134 30 = some (0, 0, 0, 31, 0) := by decide +kernel
theorem cd_134_31 : qa_code 134 31 = some (19, 1, 0, 31, 0) := by decide +kernel
theorem cd_134_32 : qa_code 134 32 = some (5, 1, 1, 35, 0) := by decide +kernel
theorem cd_134_35 : qa_code 134 35 = some (17, 0, 0, 2, 0) := by decide +kernel
theorem cd_134_38 : qa_code 134 38 = some (0, 0, 1, 39, 0) := by decide +kernel
theorem cd_134_39 : qa_code 134 39 = some (19, 1, 0, 39, 0) := by decide +kernel
theorem cd_135_0 : qa_code 135 0 = some (1, 0, 0, 1, 0) := by decide +kernel
theorem cd_135_1 : qa_code 135 1 = some (16, 1, 12, 4, 0) := by decide +kernel
theorem cd_135_4 : qa_code 135 4 = some (21, 1, 183, 4, 181) := by decide +kernel
theorem cd_135_12 : qa_code 135 12 = some (20, 0, 0, 12, 0) := by decide +kernel
theorem cd_136_0 : qa_code 136 0 = some (1, 0, 0, 1, 0) := by decide +kernel
theorem cd_136_1 : qa_code 136 1 = some (16, 1, 12, 4, 0) := by decide +kernel
theorem cd_136_4 : qa_code 136 4 = some (21, 2, 186, 4, 184) := by decide +kernel
theorem cd_136_12 : qa_code 136 12 = some (20, 0, 0, 12, 0) := by decide +kernel
theorem cd_137_0 : qa_code 137 0 = some (1, 0, 0, 1, 0) := by decide +kernel
theorem cd_137_1 : qa_code 137 1 = some (16, 1, 12, 4, 0) := by decide +kernel
theorem cd_137_4 : qa_code 137 4 = some (21, 3, 189, 4, 187) := by decide +kernel
theorem cd_137_12 : qa_code 137 12 = some (20, 0, 0, 12, 0) := by decide +kernel
theorem cd_138_0 : qa_code 138 0 = some (1, 0, 0, 1, 0) := by decide +kernel
theorem cd_138_1 : qa_code 138 1 = some (1, 1, 0, 2, 0) := by decide +kernel
theorem cd_138_2 : qa_code 138 2 = some (15, 2, 14, 5, 0) := by decide +kernel
theorem cd_138_5 : qa_code 138 5 = some (1, 0, 0, 6, 0) := by decide +kernel
theorem cd_138_6 : qa_code 138 6 = some (1, 2, 0, 7, 0) := by decide +kernel
theorem cd_138_7 : qa_code 138 7 = some (15, 4, 14, 10, 0) := by decide +kernel
theorem cd_138_10 : qa_code 138 10 = some (0, 0, 1, 11, 0) := by decide +kernel
theorem cd_138_11 : qa_code 138 11 = some (17, 0, 0, 15, 0) := by decide +kernel
theorem cd_138_14 : qa_code 138 14 = some (0, 0, 0, 15, 0) := by decide +kernel
theorem cd_138_15 : qa_code 138 15 = some (19, 1, 0, 15, 0) := by decide +kernel
theorem cd_139_0 : qa_code 139 0 = some (1, 0, 0, 1, 0) := by decide +kernel
theorem cd_139_1 : qa_code 139 1 = some (0, 0, 0, 2, 0) := by decide +kernel
theorem cd_139_2 : qa_code 139 2 = some (0, 0, 119, 4, 0) := by decide +kernel
theorem cd_139_4 : qa_code 139 4 = some (18, 138, 3, 7, 53) := by decide +kernel
theorem cd_139_7 : qa_code 139 7 = some (19, 1, 0, 7, 0) := by decide +kernel
theorem cd_140_0 : qa_code 140 0 = some (0, 0, 3, 1, 0) := by decide +kernel
theorem cd_140_1 : qa_code 140 1 = some (1, 0, 0, 2, 0) := by decide +kernel
theorem cd_140_2 : qa_code 140 2 = some (6, 3, 0, 3, 0) := by decide +kernel
theorem cd_140_3 : qa_code 140 3 = some (1, 1, 0, 4, 0) := by decide +kernel
theorem cd_140_4 : qa_code 140 4 = some (6, 0, 0, 5, 0) := by decide +kernel
theorem cd_140_5 : qa_code 140 5 = some (19, 0, 0, 5, 0) := by decide +kernel
theorem cd_141_0 : qa_code 141 0 = some (2, 4, 0, 2, 0) := by decide +kernel
theorem cd_141_2 : qa_code 141 2 = some (0, 0, 0, 3, 0) := by decide +kernel
theorem cd_141_3 : qa_code 141 3 = some (2, 0, 0, 4, 0) := by decide +kernel
theorem cd_141_4 : qa_code 141 4 = some (1, 1, 0, 5, 0) := by decide +kernel
theorem cd_141_5 : qa_code 141 5 = some (1, 2, 0, 6, 0) := by decide +kernel
theorem cd_141_6 : qa_code 141 6 = some (1, 3, 0, 7, 0) := by decide +kernel
theorem cd_141_7 : qa_code 141 7 = some (18, 111, 4, 10, 7) := by decide +kernel
theorem cd_141_10 : qa_code 141 10 = some (22, 0, 0, 11, 0) := by decide +kernel
theorem cd_141_11 : qa_code 141 11 = some (23, 0, 0, 12, 0) := by decide +kernel
theorem cd_141_12 : qa_code 141 12 = some (17, 0, 0, 27, 0) := by decide +kernel
theorem cd_141_15 : qa_code 141 15 = some (4, 5, 0, 17, 0) := by decide +kernel
theorem cd_141_17 : qa_code 141 17 = some (0, 0, 1, 18, 0) := by decide +kernel
theorem cd_141_18 : qa_code 141 18 = some (19, 0, 0, 18, 0) := by decide +kernel
theorem cd_141_19 : qa_code 141 19 = some (4, 5, 0, 21, 0) := by decide +kernel
theorem cd_141_21 : qa_code 141 21 = some (0, 0, 2, 22, 0) := by decide +kernel
theorem cd_141_22 : qa_code 141 22 = some (19, 0, 0, 22, 0) := by decide +kernel
theorem cd_141_23 : qa_code 141 23 = some (4, 5, 0, 25, 0) := by decide +kernel
theorem cd_141_25 : qa_code 141 25 = some (0, 0, 3, 26, 0) := by decide +kernel
theorem cd_141_26 : qa_code 141 26 = some (19, 0, 0, 26, 0) := by decide +kernel
theorem cd_141_27 : qa_code 141 27 = some (0, 0, 0, 28, 0) := by decide +kernel
theorem cd_141_28 : qa_code 141 28 = some (19, 0, 0, 28, 0) := by decide +kernel
theorem cd_142_0 : qa_code 142 0 = some (2, 7, 0, 2, 0) := by decide +kernel
theorem cd_142_2 : qa_code 142 2 = some (0, 0, 0, 3, 0) := by decide +kernel
theorem cd_142_3 : qa_code 142 3 = some (2, 0, 0, 4, 0) := by decide +kernel
theorem cd_142_4 : qa_code 142 4 = some (1, 1, 0, 5, 0) := by decide +kernel
theorem cd_142_5 : qa_code 142 5 = some (1, 2, 0, 6, 0) := by decide +kernel
theorem cd_142_6 : qa_code 142 6 = some (1, 3, 0, 7, 0) := by decide +kernel
theorem cd_142_7 : qa_code 142 7 = some (1, 4, 0, 9, 0) := by decide +kernel
theorem cd_142_9 : qa_code 142 9 = some (1, 5, 0, 11, 0) := by decide +kernel
theorem cd_142_11 : qa_code 142 11 = some (1, 6, 0, 13, 0) := by decide +kernel
theorem cd_142_13 : qa_code 142 13 = some (18, 112, 7, 16, 19) := by decide +kernel
theorem cd_142_16 : qa_code 142 16 = some (22, 0, 0, 17, 0) := by decide +kernel
theorem cd_142_17 : qa_code 142 17 = some (23, 0, 0, 18, 0) := by decide +kernel
theorem cd_142_18 : qa_code 142 18 = some (17, 0, 0, 33, 0) := by decide +kernel
theorem cd_142_21 : qa_code 142 21 = some (4, 8, 0, 23, 0) := by decide +kernel
theorem cd_142_23 : qa_code 142 23 = some (0, 0, 1, 24, 0) := by decide +kernel
theorem cd_142_24 : qa_code 142 24 = some (19, 0, 0, 24, 0) := by decide +kernel
theorem cd_142_25 : qa_code 142 25 = some (4, 8, 0, 27, 0) := by decide +kernel
theorem cd_142_27 : qa_code 142 27 = some (0, 0, 2, 28, 0) := by decide +kernel
theorem cd_142_28 : qa_code 142 28 = some (19, 0, 0, 28, 0) := by decide +kernel
theorem cd_142_29 : qa_code 142 29 = some (4, 8, 0, 31, 0) := by decide +kernel
theorem cd_142_31 : qa_code 142 31 = some (0, 0, 3, 32, 0) := by decide +kernel
theorem cd_142_32 : qa_code 142 32 = some (19, 0, 0, 32, 0) := by decide +kernel
theorem cd_142_33 : qa_code 142 33 = some (0, 0, 0, 34, 0) := by decide +kernel
theorem cd_142_34 : qa_code 142 34 = some (19, 0, 0, 34, 0) := by decide +kernel
theorem cd_143_0 : qa_code 143 0 = some (2, 4, 0, 2, 0) := by decide +kernel
theorem cd_143_2 : qa_code 143 2 = some (0, 0, 0, 3, 0) := by decide +kernel
theorem cd_143_3 : qa_code 143 3 = some (2, 0, 0, 4, 0) := by decide +kernel
theorem cd_143_4 : qa_code 143 4 = some (1, 1, 0, 5, 0) := by decide +kernel
theorem cd_143_5 : qa_code 143 5 = some (1, 2, 0, 6, 0) := by decide +kernel
theorem cd_143_6 : qa_code 143 6 = some (1, 3, 0, 7, 0) := by decide +kernel
theorem cd_143_7 : qa_code 143 7 = some (18, 113, 4, 10, 23) := by decide +kernel
theorem cd_143_10 : qa_code 143 10 = some (22, 0, 0, 11, 0) := by decide +kernel
theorem cd_143_11 : qa_code 143 11 = some (23, 0, 0, 12, 0) := by decide +kernel
theorem cd_143_12 : qa_code 143 12 = some (17, 0, 0, 19, 0) := by decide +kernel
theorem cd_143_15 : qa_code 143 15 = some (4, 5, 0, 17, 0) := by decide +kernel
theorem cd_143_17 : qa_code 143 17 = some (0, 0, 1, 18, 0) := by decide +kernel
theorem cd_143_18 : qa_code 143 18 = some (19, 0, 0, 18, 0) := by decide +kernel
theorem cd_143_19 : qa_code 143 19 = some (0, 0, 0, 20, 0) := by decide +kernel
theorem cd_143_20 : qa_code 143 20 = some (19, 0, 0, 20, 0) := by decide +kernel
theorem cd_144_0 : qa_code 144 0 = some (2, 4, 0, 2, 0) := by decide +kernel
theorem cd_144_2 : qa_code 144 2 = some (0, 0, 0, 3, 0) := by decide +kernel
theorem cd_144_3 : qa_code 144 3 = some (2, 0, 0, 4, 0) := by decide +kernel
theorem cd_144_4 : qa_code 144 4 = some (1, 1, 0, 5, 0) := by decide +kernel
theorem cd_144_5 : qa_code 144 5 = some (1, 2, 0, 6, 0) := by decide +kernel
theorem cd_144_6 : qa_code 144 6 = some (1, 3, 0, 7, 0) := by decide +kernel
theorem cd_144_7 : qa_code 144 7 = some (18, 114, 4, 10, 26) := by decide +kernel
theorem cd_144_10 : qa_code 144 10 = some (22, 0, 0, 11, 0) := by decide +kernel
theorem cd_144_11 : qa_code 144 11 = some (23, 0, 0, 12, 0) := by decide +kernel
theorem cd_144_12 : qa_code 144 12 = some (17, 0, 0, 19, 0) := by decide +kernel
theorem cd_144_15 : qa_code 144 15 = some (4, 5, 0, 17, 0) := by decide +kernel
theorem cd_144_17 : qa_code 144 17 = some (0, 0, 1, 18, 0) := by decide +kernel
theorem cd_144_18 : qa_code 144 18 = some (19, 0, 0, 18, 0) := by decide +kernel
theorem cd_144_19 : qa_code 144 19 = some (0, 0, 0, 20, 0) := by decide +kernel
theorem cd_144_20 : qa_code 144 20 = some (19, 0, 0, 20, 0) := by decide +kernel
theorem cd_145_0 : qa_code 145 0 = some (2, 4, 0, 2, 0) := by decide +kernel
theorem cd_145_2 : qa_code 145 2 = some (0, 0, 0, 3, 0) := by decide +kernel
theorem cd_145_3 : qa_code 145 3 = some (2, 0, 0, 4, 0) := by decide +kernel
theorem cd_145_4 : qa_code 145 4 = some (1, 1, 0, 5, 0) := by decide +kernel
theorem cd_145_5 : qa_code 145 5 = some (1, 2, 0, 6, 0) := by decide +kernel
theorem cd_145_6 : qa_code 145 6 = some (1, 3, 0, 7, 0) := by decide +kernel
theorem cd_145_7 : qa_code 145 7 = some (18, 115, 4, 10, 29) := by decide +kernel
theorem cd_145_10 : qa_code 145 10 = some (22, 0, 0, 11, 0) := by decide +kernel
theorem cd_145_11 : qa_code 145 11 = some (23, 0, 0, 12, 0) := by decide +kernel
theorem cd_145_12 : qa_code 145 12 = some (17, 0, 0, 19, 0) := by decide +kernel
theorem cd_145_15 : qa_code 145 15 = some (4, 5, 0, 17, 0) := by decide +kernel
theorem cd_145_17 : qa_code 145 17 = some (0, 0, 1, 18, 0) := by decide +kernel
theorem cd_145_18 : qa_code 145 18 = some (19, 0, 0, 18, 0) := by decide +kernel
theorem cd_145_19 : qa_code 145 19 = some (0, 0, 0, 20, 0) := by decide +kernel
theorem cd_145_20 : qa_code 145 20 = some (19, 0, 0, 20, 0) := by decide +kernel
theorem cd_146_0 : qa_code 146 0 = some (2, 2, 0, 1, 0) := by decide +kernel
theorem cd_146_1 : qa_code 146 1 = some (0, 0, 0, 2, 0) := by decide +kernel
theorem cd_146_2 : qa_code 146 2 = some (2, 0, 0, 3, 0) := by decide +kernel
theorem cd_146_3 : qa_code 146 3 = some (1, 1, 0, 4, 0) := by decide +kernel
theorem cd_146_4 : qa_code 146 4 = some (18, 116, 2, 7, 32) := by decide +kernel
theorem cd_146_7 : qa_code 146 7 = some (22, 0, 0, 8, 0) := by decide +kernel
theorem cd_146_8 : qa_code 146 8 = some (23, 0, 0, 9, 0) := by decide +kernel
theorem cd_146_9 : qa_code 146 9 = some (17, 0, 0, 15, 0) := by decide +kernel
theorem cd_146_12 : qa_code 146 12 = some (4, 3, 0, 13, 0) := by decide +kernel
theorem cd_146_13 : qa_code 146 13 = some (0, 0, 1, 14, 0) := by decide +kernel
theorem cd_146_14 : qa_code 146 14 = some (19, 0, 0, 14, 0) := by decide +kernel
theorem cd_146_15 : qa_code 146 15 = some (0, 0, 0, 16, 0) := by decide +kernel
theorem cd_146_16 : qa_code 146 16 = some (19, 0, 0, 16, 0) := by decide +kernel
theorem cd_147_0 : qa_code 147 0 = some (2, 3, 0, 1, 0) := by decide +kernel
theorem cd_147_1 : qa_code 147 1 = some (0, 0, 0, 2, 0) := by decide +kernel
theorem cd_147_2 : qa_code 147 2 = some (2, 0, 0, 3, 0) := by decide +kernel
theorem cd_147_3 : qa_code 147 3 = some (1, 1, 0, 4, 0) := by decide +kernel
theorem cd_147_4 : qa_code 147 4 = some (1, 2, 0, 5, 0) := by decide +kernel
theorem cd_147_5 : qa_code 147 5 = some (18, 117, 3, 8, 36) := by decide +kernel
theorem cd_147_8 : qa_code 147 8 = some (22, 0, 0, 9, 0) := by decide +kernel
theorem cd_147_9 : qa_code 147 9 = some (23, 0, 0, 10, 0) := by decide +kernel
theorem cd_147_10 : qa_code 147 10 = some (17, 0, 0, 17, 0) := by decide +kernel
theorem cd_147_13 : qa_code 147 13 = some (4, 4, 0, 15, 0) := by decide +kernel
theorem cd_147_15 : qa_code 147 15 = some (0, 0, 1, 16, 0) := by decide +kernel
theorem cd_147_16 : qa_code 147 16 = some (19, 0, 0, 16, 0) := by decide +kernel
theorem cd_147_17 : qa_code 147 17 = some (0, 0, 0, 18, 0) := by decide +kernel
theorem cd_147_18 : qa_code 147 18 = some (19, 0, 0, 18, 0) := by decide +kernel
theorem cd_148_0 : qa_code 148 0 = some (2, 2, 0, 1, 0) := by decide +kernel
theorem cd_148_1 : qa_code 148 1 = some (0, 0, 0, 2, 0) := by decide +kernel
theorem cd_148_2 : qa_code 148 2 = some (2, 0, 0, 3, 0) := by decide +kernel
theorem cd_148_3 : qa_code 148 3 = some (1, 1, 0, 4, 0) := by decide +kernel
theorem cd_148_4 : qa_code 148 4 = some (18, 118, 2, 7, 40) := by decide +kernel
theorem cd_148_7 : qa_code 148 7 = some (22, 0, 0, 8, 0) := by decide +kernel
theorem cd_148_8 : qa_code 148 8 = some (23, 0, 0, 9, 0) := by decide +kernel
theorem cd_148_9 : qa_code 148 9 = some (17, 0, 0, 15, 0) := by decide +kernel
theorem cd_148_12 : qa_code 148 12 = some (4, 3, 0, 13, 0) := by decide +kernel
theorem cd_148_13 : qa_code 148 13 = some (0, 0, 1, 14, 0) := by decide +kernel
theorem cd_148_14 : qa_code 148 14 = some (19, 0, 0, 14, 0) := by decide +kernel
theorem cd_148_15 : qa_code 148 15 = some (0, 0, 0, 16, 0) := by decide +kernel
theorem cd_148_16 : qa_code 148 16 = some (19, 0, 0, 16, 0) := by decide +kernel
theorem cd_149_0 : qa_code 149 0 = some (2, 4, 0, 2, 0) := by decide +kernel
theorem cd_149_2 : qa_code 149 2 = some (0, 0, 0, 3, 0) := by decide +kernel
theorem cd_149_3 : qa_code 149 3 = some (2, 0, 0, 4, 0) := by decide +kernel
theorem cd_149_4 : qa_code 149 4 = some (1, 1, 0, 5, 0) := by decide +kernel
theorem cd_149_5 : qa_code 149 5 = some (1, 2, 0, 6, 0) := by decide +kernel
theorem cd_149_6 : qa_code 149 6 = some (1, 3, 0, 7, 0) := by decide +kernel
theorem cd_149_7 : qa_code 149 7 = some (18, 119, 4, 10, 43) := by decide +kernel
theorem cd_149_10 : qa_code 149 10 = some (22, 0, 0, 11, 0) := by decide +kernel
theorem cd_149_11 : qa_code 149 11 = some (23, 0, 0, 12, 0) := by decide +kernel
theorem cd_149_12 : qa_code 149 12 = some (17, 0, 0, 27, 0) := by decide +kernel
theorem cd_149_15 : qa_code 149 15 = some (4, 5, 0, 17, 0) := by decide +kernel
theorem cd_149_17 : qa_code 149 17 = some (0, 0, 1, 18, 0) := by decide +kernel
theorem cd_149_18 : qa_code 149 18 = some (19, 0, 0, 18, 0) := by decide +kernel
theorem cd_149_19 : qa_code 149 19 = some (4, 5, 0, 21, 0) := by decide +kernel
theorem cd_149_21 : qa_code 149 21 = some (0, 0, 2, 22, 0) := by decide +kernel
theorem cd_149_22 : qa_code 149 22 = some (19, 0, 0, 22, 0) := by decide +kernel
theorem cd_149_23 : qa_code 149 23 = some (4, 5, 0, 25, 0) := by decide +kernel
theorem cd_149_25 : qa_code 149 25 = some (0, 0, 3, 26, 0) := by decide +kernel
theorem cd_149_26 : qa_code 149 26 = some (19, 0, 0, 26, 0) := by decide +kernel
theorem cd_149_27 : qa_code 149 27 = some (0, 0, 0, 28, 0) := by decide +kernel
theorem cd_149_28 : qa_code 149 28 = some (19, 0, 0, 28, 0) := by decide +kernel
theorem cd_150_0 : qa_code 150 0 = some (2, 2, 0, 1, 0) := by decide +kernel
theorem cd_150_1 : qa_code 150 1 = some (0, 0, 0, 2, 0) := by decide +kernel
theorem cd_150_2 : qa_code 150 2 = some (2, 0, 0, 3, 0) := by decide +kernel
theorem cd_150_3 : qa_code 150 3 = some (1, 1, 0, 4, 0) := by decide +kernel
theorem cd_150_4 : qa_code 150 4 = some (18, 120, 2, 7, 46) := by decide +kernel
theorem cd_150_7 : qa_code 150 7 = some (22, 0, 0, 8, 0) := by decide +kernel
theorem cd_150_8 : qa_code 150 8 = some (23, 0, 0, 9, 0) := by decide +kernel
theorem cd_150_9 : qa_code 150 9 = some (17, 0, 0, 15, 0) := by decide +kernel
theorem cd_150_12 : qa_code 150 12 = some (4, 3, 0, 13, 0) := by decide +kernel
theorem cd_150_13 : qa_code 150 13 = some (0, 0, 1, 14, 0) := by decide +kernel
theorem cd_150_14 : qa_code 150 14 = some (19, 0, 0, 14, 0) := by decide +kernel
theorem cd_150_15 : qa_code 150 15 = some (0, 0, 0, 16, 0) := by decide +kernel
theorem cd_150_16 : qa_code 150 16 = some (19, 0, 0, 16, 0) := by decide +kernel
theorem cd_151_0 : qa_code 151 0 = some (2, 2, 0, 1, 0) := by decide +kernel
theorem cd_151_1 : qa_code 151 1 = some (0, 0, 0, 2, 0) := by decide +kernel
theorem cd_151_2 : qa_code 151 2 = some (2, 0, 0, 3, 0) := by decide +kernel
theorem cd_151_3 : qa_code 151 3 = some (1, 1, 0, 4, 0) := by decide +kernel
theorem cd_151_4 : qa_code 151 4 = some (18, 121, 2, 7, 49) := by decide +kernel
theorem cd_151_7 : qa_code 151 7 = some (22, 0, 0, 8, 0) := by decide +kernel
theorem cd_151_8 : qa_code 151 8 = some (23, 0, 0, 9, 0) := by decide +kernel
theorem cd_151_9 : qa_code 151 9 = some (17, 0, 0, 15, 0) := by decide +kernel
theorem cd_151_12 : qa_code 151 12 = some (4, 3, 0, 13, 0) := by decide +kernel
theorem cd_151_13 : qa_code 151 13 = some (0, 0, 1, 14, 0) := by decide +kernel
theorem cd_151_14 : qa_code 151 14 = some (19, 0, 0, 14, 0) := by decide +kernel
theorem cd_151_15 : qa_code 151 15 = some (0, 0, 0, 16, 0) := by decide +kernel
theorem cd_151_16 : qa_code 151 16 = some (19, 0, 0, 16, 0) := by decide +kernel
theorem cd_152_0 : qa_code 152 0 = some (2, 2, 0, 1, 0) := by decide +kernel
theorem cd_152_1 : qa_code 152 1 = some (0, 0, 0, 2, 0) := by decide +kernel
theorem cd_152_2 : qa_code 152 2 = some (2, 0, 0, 3, 0) := by decide +kernel
theorem cd_152_3 : qa_code 152 3 = some (1, 1, 0, 4, 0) := by decide +kernel
theorem cd_152_4 : qa_code 152 4 = some (18, 122, 2, 7, 52) := by decide +kernel
theorem cd_152_7 : qa_code 152 7 = some (22, 0, 0, 8, 0) := by decide +kernel
theorem cd_152_8 : qa_code 152 8 = some (23, 0, 0, 9, 0) := by decide +kernel
theorem cd_152_9 : qa_code 152 9 = some (17, 0, 0, 15, 0) := by decide +kernel
theorem cd_152_12 : qa_code 152 12 = some (4, 3, 0, 13, 0) := by decide +kernel
theorem cd_152_13 : qa_code 152 13 = some (0, 0, 1, 14, 0) := by decide +kernel
theorem cd_152_14 : qa_code 152 14 = some (19, 0, 0, 14, 0) := by decide +kernel
theorem cd_152_15 : qa_code 152 15 = some (0, 0, 0, 16, 0) := by decide +kernel
theorem cd_152_16 : qa_code 152 16 = some (19, 0, 0, 16, 0) := by decide +kernel
theorem cd_153_0 : qa_code 153 0 = some (2, 2, 0, 1, 0) := by decide +kernel
theorem cd_153_1 : qa_code 153 1 = some (0, 0, 0, 2, 0) := by decide +kernel
theorem cd_153_2 : qa_code 153 2 = some (2, 0, 0, 3, 0) := by decide +kernel
theorem cd_153_3 : qa_code 153 3 = some (1, 1, 0, 4, 0) := by decide +kernel
theorem cd_153_4 : qa_code 153 4 = some (18, 125, 2, 7, 55) := by decide +kernel
theorem cd_153_7 : qa_code 153 7 = some (22, 0, 0, 8, 0) := by decide +kernel
theorem cd_153_8 : qa_code 153 8 = some (23, 0, 0, 9, 0) := by decide +kernel
theorem cd_153_9 : qa_code 153 9 = some (17, 0, 0, 18, 0) := by decide +kernel
theorem cd_153_12 : qa_code 153 12 = some (4, 3, 0, 13, 0) := by decide +kernel
theorem cd_153_13 : qa_code 153 13 = some (0, 0, 1, 14, 0) := by decide +kernel
theorem cd_153_14 : qa_code 153 14 = some (19, 0, 0, 14, 0) := by decide +kernel
theorem cd_153_15 : qa_code 153 15 = some (4, 3, 0, 16, 0) := by decide +kernel
theorem cd_153_16 : qa_code 153 16 = some (0, 0, 2, 17, 0) := by decide +kernel
theorem cd_153_17 : qa_code 153 17 = some (19, 0, 0, 17, 0) := by decide +kernel
theorem cd_153_18 : qa_code 153 18 = some (0, 0, 0, 19, 0) := by decide +kernel
theorem cd_153_19 : qa_code 153 19 = some (19, 0, 0, 19, 0) := by decide +kernel
theorem cd_154_0 : qa_code 154 0 = some (2, 3, 0, 1, 0) := by decide +kernel
theorem cd_154_1 : qa_code 154 1 = some (0, 0, 0, 2, 0) := by decide +kernel
theorem cd_154_2 : qa_code 154 2 = some (2, 0, 0, 3, 0) := by decide +kernel
theorem cd_154_3 : qa_code 154 3 = some (1, 1, 0, 4, 0) := by decide +kernel
theorem cd_154_4 : qa_code 154 4 = some (1, 2, 0, 5, 0) := by decide +kernel
theorem cd_154_5 : qa_code 154 5 = some (18, 126, 3, 8, 58) := by decide +kernel
theorem cd_154_8 : qa_code 154 8 = some (22, 0, 0, 9, 0) := by decide +kernel
theorem cd_154_9 : qa_code 154 9 = some (23, 0, 0, 10, 0) := by decide +kernel
theorem cd_154_10 : qa_code 154 10 = some (17, 0, 0, 21, 0) := by decide +kernel
theorem cd_154_13 : qa_code 154 13 = some (4, 4, 0, 15, 0) := by decide +kernel
theorem cd_154_15 : qa_code 154 15 = some (0, 0, 1, 16, 0) := by decide +kernel
theorem cd_154_16 : qa_code 154 16 = some (19, 0, 0, 16, 0) := by decide +kernel
theorem cd_154_17 : qa_code 154 17 = some (4, 4, 0, 19, 0) := by decide +kernel
theorem cd_154_19 : qa_code 154 19 = some (0, 0, 2, 20, 0) := by decide +kernel
theorem cd_154_20 : qa_code 154 20 = some (19, 0, 0, 20, 0) := by decide +kernel
theorem cd_154_21 : qa_code 154 21 = some (0, 0, 0, 22, 0) := by decide +kernel
theorem cd_154_22 : qa_code 154 22 = some (19, 0, 0, 22, 0) := by decide +kernel
theorem cd_155_0 : qa_code 155 0 = some (2, 2, 0, 1, 0) := by decide +kernel
theorem cd_155_1 : qa_code 155 1 = some (0, 0, 0, 2, 0) := by decide +kernel
theorem cd_155_2 : qa_code 155 2 = some (2, 0, 0, 3, 0) := by decide +kernel
theorem cd_155_3 : qa_code 155 3 = some (1, 1, 0, 4, 0) := by decide +kernel
theorem cd_155_4 : qa_code 155 4 = some (18, 127, 2, 7, 61) := by decide +kernel
theorem cd_155_7 : qa_code 155 7 = some (22, 0, 0, 8, 0) := by decide +kernel
theorem cd_155_8 : qa_code 155 8 = some (23, 0, 0, 9, 0) := by decide +kernel
theorem cd_155_9 : qa_code 155 9 = some (17, 0, 0, 15, 0) := by decide +kernel
theorem cd_155_12 : qa_code 155 12 = some (4, 3, 0, 13, 0) := by decide +kernel
theorem cd_155_13 : qa_code 155 13 = some (0, 0, 1, 14, 0) := by decide +kernel
theorem cd_155_14 : qa_code 155 14 = some (19, 0, 0, 14, 0) := by decide +kernel
theorem cd_155_15 : qa_code 155 15 = some (0, 0, 0, 16, 0) := by decide +kernel
theorem cd_155_16 : qa_code 155 16 = some (19, 0, 0, 16, 0) := by decide +kernel
theorem cd_156_0 : qa_code 156 0 = some (2, 2, 0, 1, 0) := by decide +kernel
theorem cd_156_1 : qa_code 156 1 = some (0, 0, 0, 2, 0) := by decide +kernel
theorem cd_156_2 : qa_code 156 2 = some (2, 0, 0, 3, 0) := by decide +kernel
theorem cd_156_3 : qa_code 156 3 = some (1, 1, 0, 4, 0) := by decide +kernel
theorem cd_156_4 : qa_code 156 4 = some (18, 128, 2, 7, 64) := by decide +kernel
theorem cd_156_7 : qa_code 156 7 = some (22, 0, 0, 8, 0) := by decide +kernel
theorem cd_156_8 : qa_code 156 8 = some (23, 0, 0, 9, 0) := by decide +kernel
theorem cd_156_9 : qa_code 156 9 = some (17, 0, 0, 15, 0) := by decide +kernel
theorem cd_156_12 : qa_code 156 12 = some (4, 3, 0, 13, 0) := by decide +kernel
theorem cd_156_13 : qa_code 156 13 = some (0, 0, 1, 14, 0) := by decide +kernel
theorem cd_156_14 : qa_code 156 14 = some (19, 0, 0, 14, 0) := by decide +kernel
theorem cd_156_15 : qa_code 156 15 = some (0, 0, 0, 16, 0) := by decide +kernel
theorem cd_156_16 : qa_code 156 16 = some (19, 0, 0, 16, 0) := by decide +kernel
theorem cd_157_0 : qa_code 157 0 = some (2, 2, 0, 1, 0) := by decide +kernel
theorem cd_157_1 : qa_code 157 1 = some (0, 0, 0, 2, 0) := by decide +kernel
theorem cd_157_2 : qa_code 157 2 = some (2, 0, 0, 3, 0) := by decide +kernel
theorem cd_157_3 : qa_code 157 3 = some (1, 1, 0, 4, 0) := by decide +kernel
theorem cd_157_4 : qa_code 157 4 = some (18, 129, 2, 7, 67) := by decide +kernel
theorem cd_157_7 : qa_code 157 7 = some (22, 0, 0, 8, 0) := by decide +kernel
theorem cd_157_8 : qa_code 157 8 = some (23, 0, 0, 9, 0) := by decide +kernel
theorem cd_157_9 : qa_code 157 9 = some (17, 0, 0, 15, 0) := by decide +kernel
theorem cd_157_12 : qa_code 157 12 = some (4, 3, 0, 13, 0) := by decide +kernel
theorem cd_157_13 : qa_code 157 13 = some (0, 0, 1, 14, 0) := by decide +kernel
theorem cd_157_14 : qa_code 157 14 = some (19, 0, 0, 14, 0) := by decide +kernel
theorem cd_157_15 : qa_code 157 15 = some (0, 0, 0, 16, 0) := by decide +kernel
theorem cd_157_16 : qa_code 157 16 = some (19, 0, 0, 16, 0) := by decide +kernel
theorem cd_158_0 : qa_code 158 0 = some (2, 2, 0, 1, 0) := by decide +kernel
theorem cd_158_1 : qa_code 158 1 = some (0, 0, 0, 2, 0) := by decide +kernel
theorem cd_158_2 : qa_code 158 2 = some (2, 0, 0, 3, 0) := by decide +kernel
theorem cd_158_3 : qa_code 158 3 = some (1, 1, 0, 4, 0) := by decide +kernel
theorem cd_158_4 : qa_code 158 4 = some (18, 130, 2, 7, 70) := by decide +kernel
theorem cd_158_7 : qa_code 158 7 = some (22, 0, 0, 8, 0) := by decide +kernel
theorem cd_158_8 : qa_code 158 8 = some (23, 0, 0, 9, 0) := by decide +kernel
theorem cd_158_9 : qa_code 158 9 = some (17, 0, 0, 15, 0) := by decide +kernel
theorem cd_158_12 : qa_code 158 12 = some (4, 3, 0, 13, 0) := by decide +kernel
theorem cd_158_13 : qa_code 158 13 = some (0, 0, 1, 14, 0) := by decide +kernel
theorem cd_158_14 : qa_code 158 14 = some (19, 0, 0, 14, 0) := by decide +kernel
theorem cd_158_15 : qa_code 158 15 = some (0, 0, 0, 16, 0) := by decide +kernel
theorem cd_158_16 : qa_code 158 16 = some (19, 0, 0, 16, 0) := by decide +kernel
theorem cd_159_0 : qa_code 159 0 = some (2, 1, 0, 1, 0) := by decide +kernel
theorem cd_159_1 : qa_code 159 1 = some (0, 0, 0, 2, 0) := by decide +kernel
theorem cd_159_2 : qa_code 159 2 = some (2, 0, 0, 3, 0) := by decide +kernel
theorem cd_159_3 : qa_code 159 3 = some (18, 131, 1, 6, 73) := by decide +kernel
theorem cd_159_6 : qa_code 159 6 = some (22, 0, 0, 7, 0) := by decide +kernel
theorem cd_159_7 : qa_code 159 7 = some (23, 0, 0, 8, 0) := by decide +kernel
theorem cd_159_8 : qa_code 159 8 = some (17, 0, 0, 14, 0) := by decide +kernel
theorem cd_159_11 : qa_code 159 11 = some (4, 2, 0, 12, 0) := by decide +kernel
theorem cd_159_12 : qa_code 159 12 = some (0, 0, 1, 13, 0) := by decide +kernel
theorem cd_159_13 : qa_code 159 13 = some (19, 0, 0, 13, 0) := by decide +kernel
theorem cd_159_14 : qa_code 159 14 = some (0, 0, 0, 15, 0) := by decide +kernel
theorem cd_159_15 : qa_code 159 15 = some (19, 0, 0, 15, 0) := by decide +kernel
theorem cd_160_0 : qa_code 160 0 = some (2, 2, 0, 1, 0) := by decide +kernel
theorem cd_160_1 : qa_code 160 1 = some (0, 0, 0, 2, 0) := by decide +kernel
theorem cd_160_2 : qa_code 160 2 = some (2, 0, 0, 3, 0) := by decide +kernel
theorem cd_160_3 : qa_code 160 3 = some (1, 1, 0, 4, 0) := by decide +kernel
theorem cd_160_4 : qa_code 160 4 = some (18, 132, 2, 7, 77) := by decide +kernel
theorem cd_160_7 : qa_code 160 7 = some (22, 0, 0, 8, 0) := by decide +kernel
theorem cd_160_8 : qa_code 160 8 = some (23, 0, 0, 9, 0) := by decide +kernel
theorem cd_160_9 : qa_code 160 9 = some (17, 0, 0, 15, 0) := by decide +kernel
theorem cd_160_12 : qa_code 160 12 = some (4, 3, 0, 13, 0) := by decide +kernel
theorem cd_160_13 : qa_code 160 13 = some (0, 0, 1, 14, 0) := by decide +kernel
theorem cd_160_14 : qa_code 160 14 = some (19, 0, 0, 14, 0) := by decide +kernel
theorem cd_160_15 : qa_code 160 15 = some (0, 0, 0, 16, 0) := by decide +kernel
theorem cd_160_16 : qa_code 160 16 = some (19, 0, 0, 16, 0) := by decide +kernel
theorem cd_161_3 : qa_code 161 3 = some (8, 0, 0, 4, 0) := by decide +kernel
theorem cd_161_7 : qa_code 161 7 = some (4, 1, 0, 8, 0) := by decide +kernel
theorem cd_161_11 : qa_code 161 11 = some (8, 0, 0, 12, 0) := by decide +kernel
theorem cd_161_15 : qa_code 161 15 = some (4, 2, 0, 16, 0) := by decide +kernel
theorem cd_161_16 : qa_code 161 16 = some (0, 0, 1, 17, 0) := by decide +kernel
theorem cd_161_19 : qa_code 161 19 = some (4, 3, 0, 20, 0) := by decide +kernel
theorem cd_161_20 : qa_code 161 20 = some (0, 0, 0, 21, 0) := by decide +kernel
theorem cd_161_21 : qa_code 161 21 = some (3, 4, 0, 23, 0) := by decide +kernel
theorem cd_161_23 : qa_code 161 23 = some (1, 4, 0, 25, 0) := by decide +kernel
theorem cd_161_25 : qa_code 161 25 = some (2, 0, 0, 26, 0) := by decide +kernel
theorem cd_161_26 : qa_code 161 26 = some (27, 0, 0, 27, 0) := by decide +kernel
theorem cd_161_27 : qa_code 161 27 = some (0, 0, 7, 29, 0) := by decide +kernel
theorem cd_161_29 : qa_code 161 29 = some (6, 2, 0, 30, 0) := by decide +kernel
theorem cd_161_30 : qa_code 161 30 = some (15, 4, 1506, 33, 0) := by decide +kernel
theorem cd_161_33 : qa_code 161 33 = some (2, 0, 0, 34, 0) := by decide +kernel
theorem cd_161_34 : qa_code 161 34 = some (1, 4, 0, 36, 0) := by decide +kernel
theorem cd_161_36 : qa_code 161 36 = some (26, 0, 0, 37, 0) := by decide +kernel
theorem cd_161_37 : qa_code 161 37 = some (0, 0, 31, 39, 0) := by decide +kernel
theorem cd_161_39 : qa_code 161 39 = some (6, 6, 0, 40, 0) := by decide +kernel
theorem cd_161_40 : qa_code 161 40 = some (28, 0, 0, 1500, 0) := by decide +kernel
theorem cd_161_144 : qa_code 161 144 = some (2, 1, 0, 145, 0) := by decide +kernel
theorem cd_161_145 : qa_code 161 145 = some (2, 0, 0, 146, 0) := by decide +kernel
theorem cd_161_146 : qa_code 161 146 = some (1, 4, 0, 148, 0) := by decide +kernel
theorem cd_161_148 : qa_code 161 148 = some (0, 0, 1, 149, 0) := by decide +kernel
theorem cd_161_149 : qa_code 161 149 = some (6, 0, 0, 150, 0) := by decide +kernel
theorem cd_161_150 : qa_code 161 150 = some (26, 0, 0, 151, 0) := by decide +kernel
theorem cd_161_151 : qa_code 161 151 = some (2, 0, 0, 152, 0) := by decide +kernel
theorem cd_161_152 : qa_code 161 152 = some (1, 4, 0, 154, 0) := by decide +kernel
theorem cd_161_154 : qa_code 161 154 = some (0, 0, 2, 155, 0) := by decide +kernel
theorem cd_161_155 : qa_code 161 155 = some (6, 0, 0, 156, 0) := by decide +kernel
theorem cd_161_156 : qa_code 161 156 = some (26, 0, 0, 157, 0) := by decide +kernel
theorem cd_161_157 : qa_code 161 157 = some (2, 0, 0, 158, 0) := by decide +kernel
theorem cd_161_158 : qa_code 161 158 = some (1, 4, 0, 160, 0) := by decide +kernel
theorem cd_161_160 : qa_code 161 160 = some (0, 0, 3, 161, 0) := by decide +kernel
theorem cd_161_161 : qa_code 161 161 = some (6, 0, 0, 162, 0) := by decide +kernel
theorem cd_161_162 : qa_code 161 162 = some (26, 0, 0, 163, 0) := by decide +kernel
theorem cd_161_163 : qa_code 161 163 = some (2, 3, 0, 164, 0) := by decide +kernel
theorem cd_161_164 : qa_code 161 164 = some (18, 141, 5, 167, 84) := by decide +kernel
theorem cd_161_167 : qa_code 161 167 = some (3, 5, 0, 169, 0) := by decide +kernel
theorem cd_161_169 : qa_code 161 169 = some (2, 2, 0, 170, 0) := by decide +kernel
theorem cd_161_170 : qa_code 161 170 = some (2, 0, 0, 171, 0) := by decide +kernel
theorem cd_161_171 : qa_code 161 171 = some (1, 4, 0, 173, 0) := by decide +kernel
theorem cd_161_173 : qa_code 161 173 = some (0, 0, 1, 174, 0) := by decide +kernel
theorem cd_161_174 : qa_code 161 174 = some (6, 0, 0, 175, 0) := by decide +kernel
theorem cd_161_175 : qa_code 161 175 = some (26, 0, 0, 176, 0) := by decide +kernel
theorem cd_161_176 : qa_code 161 176 = some (2, 0, 0, 177, 0) := by decide +kernel
theorem cd_161_177 : qa_code 161 177 = some (1, 4, 0, 179, 0) := by decide +kernel
theorem cd_161_179 : qa_code 161 179 = some (0, 0, 2, 180, 0) := by decide +kernel
theorem cd_161_180 : qa_code 161 180 = some (6, 0, 0, 181, 0) := by decide +kernel
theorem cd_161_181 : qa_code 161 181 = some (26, 0, 0, 182, 0) := by decide +kernel
theorem cd_161_182 : qa_code 161 182 = some (2, 0, 0, 183, 0) := by decide +kernel
theorem cd_161_183 : qa_code 161 183 = some (1, 4, 0, 185, 0) := by decide +kernel
theorem cd_161_185 : qa_code 161 185 = some (0, 0, 3, 186, 0) := by decide +kernel
theorem cd_161_186 : qa_code 161 186 = some (6, 0, 0, 187, 0) := by decide +kernel
theorem cd_161_187 : qa_code 161 187 = some (26, 0, 0, 188, 0) := by decide +kernel
theorem cd_161_188 : qa_code 161 188 = some (18, 71, 4, 191, 89) := by decide +kernel
theorem cd_161_191 : qa_code 161 191 = some (3, 6, 0, 193, 0) := by decide +kernel
theorem cd_161_193 : qa_code 161 193 = some (2, 2, 0, 194, 0) := by decide +kernel
theorem cd_161_194 : qa_code 161 194 = some (18, 64, 1, 197, 90) := by decide +kernel
theorem cd_161_197 : qa_code 161 197 = some (1, 5, 0, 199, 0) := by decide +kernel
theorem cd_161_199 : qa_code 161 199 = some (15, 0, 204, 202, 0) := by decide +kernel
theorem cd_161_202 : qa_code 161 202 = some (0, 0, 0, 203, 0) := by decide +kernel
theorem cd_161_203 : qa_code 161 203 = some (19, 1, 0, 203, 0) := by decide +kernel
theorem cd_161_204 : qa_code 161 204 = some (1, 5, 0, 206, 0) := by decide +kernel
theorem cd_161_206 : qa_code 161 206 = some (16, 1, 221, 209, 0) := by decide +kernel
theorem cd_161_209 : qa_code 161 209 = some (2, 3, 0, 210, 0) := by decide +kernel
theorem cd_161_210 : qa_code 161 210 = some (0, 0, 0, 211, 0) := by decide +kernel
theorem cd_161_211 : qa_code 161 211 = some (24, 0, 0, 212, 0) := by decide +kernel
theorem cd_161_212 : qa_code 161 212 = some (1, 6, 0, 214, 0) := by decide +kernel
theorem cd_161_214 : qa_code 161 214 = some (22, 0, 0, 215, 0) := by decide +kernel
theorem cd_161_215 : qa_code 161 215 = some (25, 0, 0, 216, 0) := by decide +kernel
theorem cd_161_216 : qa_code 161 216 = some (16, 0, 221, 219, 0) := by decide +kernel
theorem cd_161_219 : qa_code 161 219 = some (0, 0, 0, 220, 0) := by decide +kernel
theorem cd_161_220 : qa_code 161 220 = some (19, 1, 0, 220, 0) := by decide +kernel
theorem cd_161_221 : qa_code 161 221 = some (17, 0, 0, 1500, 0) := by decide +kernel
theorem cd_161_224 : qa_code 161 224 = some (2, 1, 0, 225, 0) := by decide +kernel
theorem cd_161_225 : qa_code 161 225 = some (2, 0, 0, 226, 0) := by decide +kernel
theorem cd_161_226 : qa_code 161 226 = some (1, 4, 0, 228, 0) := by decide +kernel
theorem cd_161_228 : qa_code 161 228 = some (0, 0, 1, 229, 0) := by decide +kernel
theorem cd_161_229 : qa_code 161 229 = some (6, 0, 0, 230, 0) := by decide +kernel
theorem cd_161_230 : qa_code 161 230 = some (26, 0, 0, 231, 0) := by decide +kernel
theorem cd_161_231 : qa_code 161 231 = some (2, 0, 0, 232, 0) := by decide +kernel
theorem cd_161_232 : qa_code 161 232 = some (1, 4, 0, 234, 0) := by decide +kernel
theorem cd_161_234 : qa_code 161 234 = some (0, 0, 2, 235, 0) := by decide +kernel
theorem cd_161_235 : qa_code 161 235 = some (6, 0, 0, 236, 0) := by decide +kernel
theorem cd_161_236 : qa_code 161 236 = some (26, 0, 0, 237, 0) := by decide +kernel
theorem cd_161_237 : qa_code 161 237 = some (2, 0, 0, 238, 0) := by decide +kernel
theorem cd_161_238 : qa_code 161 238 = some (1, 4, 0, 240, 0) := by decide +kernel
theorem cd_161_240 : qa_code 161 240 = some (0, 0, 3, 241, 0) := by decide +kernel
theorem cd_161_241 : qa_code 161 241 = some (6, 0, 0, 242, 0) := by decide +kernel
theorem cd_161_242 : qa_code 161 242 = some (26, 0, 0, 243, 0) := by decide +kernel
theorem cd_161_243 : qa_code 161 243 = some (2, 0, 0, 244, 0) := by decide +kernel
theorem cd_161_244 : qa_code 161 244 = some (1, 4, 0, 246, 0) := by decide +kernel
theorem cd_161_246 : qa_code 161 246 = some (0, 0, 4, 247, 0) := by decide +kernel
theorem cd_161_247 : qa_code 161 247 = some (6, 0, 0, 248, 0) := by decide +kernel
theorem cd_161_248 : qa_code 161 248 = some (26, 0, 0, 249, 0) := by decide +kernel
theorem cd_161_249 : qa_code 161 249 = some (2, 0, 0, 250, 0) := by decide +kernel
theorem cd_161_250 : qa_code 161 250 = some (1, 4, 0, 252, 0) := by decide +kernel
theorem cd_161_252 : qa_code 161 252 = some (0, 0, 5, 253, 0) := by decide +kernel
theorem cd_161_253 : qa_code 161 253 = some (6, 0, 0, 254, 0) := by decide +kernel
theorem cd_161_254 : qa_code 161 254 = some (26, 0, 0, 255, 0) := by decide +kernel
theorem cd_161_255 : qa_code 161 255 = some (2, 0, 0, 256, 0) := by decide +kernel
theorem cd_161_256 : qa_code 161 256 = some (1, 4, 0, 258, 0) := by decide +kernel
theorem cd_161_258 : qa_code 161 258 = some (0, 0, 6, 260, 0) := by decide +kernel
theorem cd_161_260 : qa_code 161 260 = some (6, 0, 0, 261, 0) := by decide +kernel
theorem cd_161_261 : qa_code 161 261 = some (26, 0, 0, 262, 0) := by decide +kernel
theorem cd_161_262 : qa_code 161 262 = some (16, 0, 269, 265, 0) := by decide +kernel
theorem cd_161_265 : qa_code 161 265 = some (0, 0, 1, 266, 0) := by decide +kernel
theorem cd_161_266 : qa_code 161 266 = some (17, 0, 0, 270, 0) := by decide +kernel
theorem cd_161_269 : qa_code 161 269 = some (0, 0, 0, 270, 0) := by decide +kernel
theorem cd_161_270 : qa_code 161 270 = some (2, 3, 0, 271, 0) := by decide +kernel
theorem cd_161_271 : qa_code 161 271 = some (18, 142, 8, 274, 93) := by decide +kernel
theorem cd_161_274 : qa_code 161 274 = some (3, 5, 0, 276, 0) := by decide +kernel
theorem cd_161_276 : qa_code 161 276 = some (2, 2, 0, 277, 0) := by decide +kernel
theorem cd_161_277 : qa_code 161 277 = some (2, 0, 0, 278, 0) := by decide +kernel
theorem cd_161_278 : qa_code 161 278 = some (1, 4, 0, 280, 0) := by decide +kernel
theorem cd_161_280 : qa_code 161 280 = some (0, 0, 1, 281, 0) := by decide +kernel
theorem cd_161_281 : qa_code 161 281 = some (6, 0, 0, 282, 0) := by decide +kernel
theorem cd_161_282 : qa_code 161 282 = some (26, 0, 0, 283, 0) := by decide +kernel
theorem cd_161_283 : qa_code 161 283 = some (2, 0, 0, 284, 0) := by decide +kernel
theorem cd_161_284 : qa_code 161 284 = some (1, 4, 0, 286, 0) := by decide +kernel
theorem cd_161_286 : qa_code 161 286 = some (0, 0, 2, 287, 0) := by decide +kernel
theorem cd_161_287 : qa_code 161 287 = some (6, 0, 0, 288, 0) := by decide +kernel
theorem cd_161_288 : qa_code 161 288 = some (26, 0, 0, 289, 0) := by decide +kernel
theorem cd_161_289 : qa_code 161 289 = some (2, 0, 0, 290, 0) := by decide +kernel
theorem cd_161_290 : qa_code 161 290 = some (1, 4, 0, 292, 0) := by decide +kernel
theorem cd_161_292 : qa_code 161 292 = some (0, 0, 3, 293, 0) := by decide +kernel
theorem cd_161_293 : qa_code 161 293 = some (6, 0, 0, 294, 0) := by decide +kernel
theorem cd_161_294 : qa_code 161 294 = some (26, 0, 0, 295, 0) := by decide +kernel
theorem cd_161_295 : qa_code 161 295 = some (2, 0, 0, 296, 0) := by decide +kernel
theorem cd_161_296 : qa_code 161 296 = some (1, 4, 0, 298, 0) := by decide +kernel
theorem cd_161_298 : qa_code 161 298 = some (0, 0, 4, 299, 0) := by decide +kernel
theorem cd_161_299 : qa_code 161 299 = some (6, 0, 0, 300, 0) := by decide +kernel
theorem cd_161_300 : qa_code 161 300 = some (26, 0, 0, 301, 0) := by decide +kernel
theorem cd_161_301 : qa_code 161 301 = some (2, 0, 0, 302, 0) := by decide +kernel
theorem cd_161_302 : qa_code 161 302 = some (1, 4, 0, 304, 0) := by decide +kernel
theorem cd_161_304 : qa_code 161 304 = some (0, 0, 5, 305, 0) := by decide +kernel
theorem cd_161_305 : qa_code 161 305 = some (6, 0, 0, 306, 0) := by decide +kernel
theorem cd_161_306 : qa_code 161 306 = some (26, 0, 0, 307, 0) := by decide +kernel
theorem cd_161_307 : qa_code 161 307 = some (2, 0, 0, 308, 0) := by decide +kernel
theorem cd_161_308 : qa_code 161 308 = some (1, 4, 0, 310, 0) := by decide +kernel
theorem cd_161_310 : qa_code 161 310 = some (0, 0, 6, 312, 0) := by decide +kernel
theorem cd_161_312 : qa_code 161 312 = some (6, 0, 0, 313, 0) := by decide +kernel
theorem cd_161_313 : qa_code 161 313 = some (26, 0, 0, 314, 0) := by decide +kernel
theorem cd_161_314 : qa_code 161 314 = some (16, 0, 321, 317, 0) := by decide +kernel
theorem cd_161_317 : qa_code 161 317 = some (0, 0, 1, 318, 0) := by decide +kernel
theorem cd_161_318 : qa_code 161 318 = some (17, 0, 0, 322, 0) := by decide +kernel
theorem cd_161_321 : qa_code 161 321 = some (0, 0, 0, 322, 0) := by decide +kernel
theorem cd_161_322 : qa_code 161 322 = some (18, 78, 7, 325, 96) := by decide +kernel
theorem cd_161_325 : qa_code 161 325 = some (3, 6, 0, 327, 0) := by decide +kernel
theorem cd_161_327 : qa_code 161 327 = some (2, 2, 0, 328, 0) := by decide +kernel
theorem cd_161_328 : qa_code 161 328 = some (18, 64, 1, 331, 90) := by decide +kernel
theorem cd_161_331 : qa_code 161 331 = some (1, 5, 0, 333, 0) := by decide +kernel
theorem cd_161_333 : qa_code 161 333 = some (15, 0, 338, 336, 0) := by decide +kernel
theorem cd_161_336 : qa_code 161 336 = some (0, 0, 0, 337, 0) := by decide +kernel
theorem cd_161_337 : qa_code 161 337 = some (19, 1, 0, 337, 0) := by decide +kernel
theorem cd_161_338 : qa_code 161 338 = some (1, 5, 0, 340, 0) := by decide +kernel
theorem cd_161_340 : qa_code 161 340 = some (16, 1, 355, 343, 0) := by decide +kernel
theorem cd_161_343 : qa_code 161 343 = some (2, 3, 0, 344, 0) := by decide +kernel
theorem cd_161_344 : qa_code 161 344 = some (0, 0, 0, 345, 0) := by decide +kernel
theorem cd_161_345 : qa_code 161 345 = some (24, 0, 0, 346, 0) := by decide +kernel
theorem cd_161_346 : qa_code 161 346 = some (1, 6, 0, 348, 0) := by decide +kernel
theorem cd_161_348 : qa_code 161 348 = some (22, 0, 0, 349, 0) := by decide +kernel
theorem cd_161_349 : qa_code 161 349 = some (25, 0, 0, 350, 0) := by decide +kernel
theorem cd_161_350 : qa_code 161 350 = some (16, 0, 355, 353, 0) := by decide +kernel
theorem cd_161_353 : qa_code 161 353 = some (0, 0, 0, 354, 0) := by decide +kernel
theorem cd_161_354 : qa_code 161 354 = some (19, 1, 0, 354, 0) := by decide +kernel
theorem cd_161_355 : qa_code 161 355 = some (17, 0, 0, 1500, 0) := by decide +kernel
theorem cd_161_358 : qa_code 161 358 = some (2, 1, 0, 359, 0) := by decide +kernel
theorem cd_161_359 : qa_code 161 359 = some (2, 0, 0, 360, 0) := by decide +kernel
theorem cd_161_360 : qa_code 161 360 = some (1, 4, 0, 362, 0) := by decide +kernel
theorem cd_161_362 : qa_code 161 362 = some (0, 0, 1, 363, 0) := by decide +kernel
theorem cd_161_363 : qa_code 161 363 = some (6, 0, 0, 364, 0) := by decide +kernel
theorem cd_161_364 : qa_code 161 364 = some (26, 0, 0, 365, 0) := by decide +kernel
theorem cd_161_365 : qa_code 161 365 = some (2, 0, 0, 366, 0) := by decide +kernel
theorem cd_161_366 : qa_code 161 366 = some (1, 4, 0, 368, 0) := by decide +kernel
theorem cd_161_368 : qa_code 161 368 = some (0, 0, 2, 369, 0) := by decide +kernel
theorem cd_161_369 : qa_code 161 369 = some (6, 0, 0, 370, 0) := by decide +kernel
theorem cd_161_370 : qa_code 161 370 = some (26, 0, 0, 371, 0) := by decide +kernel
theorem cd_161_371 : qa_code 161 371 = some (2, 0, 0, 372, 0) := by decide +kernel
theorem cd_161_372 : qa_code 161 372 = some (1, 4, 0, 374, 0) := by decide +kernel
theorem cd_161_374 : qa_code 161 374 = some (0, 0, 3, 375, 0) := by decide +kernel
theorem cd_161_375 : qa_code 161 375 = some (6, 0, 0, 376, 0) := by decide +kernel
theorem cd_161_376 : qa_code 161 376 = some (26, 0, 0, 377, 0) := by decide +kernel
theorem cd_161_377 : qa_code 161 377 = some (2, 3, 0, 378, 0) := by decide +kernel
theorem cd_161_378 : qa_code 161 378 = some (18, 143, 5, 381, 97) := by decide +kernel
theorem cd_161_381 : qa_code 161 381 = some (3, 5, 0, 383, 0) := by decide +kernel
theorem cd_161_383 : qa_code 161 383 = some (2, 2, 0, 384, 0) := by decide +kernel
theorem cd_161_384 : qa_code 161 384 = some (2, 0, 0, 385, 0) := by decide +kernel
theorem cd_161_385 : qa_code 161 385 = some (1, 4, 0, 387, 0) := by decide +kernel
theorem cd_161_387 : qa_code 161 387 = some (0, 0, 1, 388, 0) := by decide +kernel
theorem cd_161_388 : qa_code 161 388 = some (6, 0, 0, 389, 0) := by decide +kernel
theorem cd_161_389 : qa_code 161 389 = some (26, 0, 0, 390, 0) := by decide +kernel
theorem cd_161_390 : qa_code 161 390 = some (2, 0, 0, 391, 0) := by decide +kernel
theorem cd_161_391 : qa_code 161 391 = some (1, 4, 0, 393, 0) := by decide +kernel
theorem cd_161_393 : qa_code 161 393 = some (0, 0, 2, 394, 0) := by decide +kernel
theorem cd_161_394 : qa_code 161 394 = some (6, 0, 0, 395, 0) := by decide +kernel
theorem cd_161_395 : qa_code 161 395 = some (26, 0, 0, 396, 0) := by decide +kernel
theorem cd_161_396 : qa_code 161 396 = some (2, 0, 0, 397, 0) := by decide +kernel
theorem cd_161_397 : qa_code 161 397 = some (1, 4, 0, 399, 0) := by decide +kernel
theorem cd_161_399 : qa_code 161 399 = some (0, 0, 3, 400, 0) := by decide +kernel
theorem cd_161_400 : qa_code 161 400 = some (6, 0, 0, 401, 0) := by decide +kernel
theorem cd_161_401 : qa_code 161 401 = some (26, 0, 0, 402, 0) := by decide +kernel
theorem cd_161_402 : qa_code 161 402 = some (18, 79, 4, 405, 99) := by decide +kernel
theorem cd_161_405 : qa_code 161 405 = some (3, 6, 0, 407, 0) := by decide +kernel
theorem cd_161_407 : qa_code 161 407 = some (2, 2, 0, 408, 0) := by decide +kernel
theorem cd_161_408 : qa_code 161 408 = some (18, 64, 1, 411, 90) := by decide +kernel
theorem cd_161_411 : qa_code 161 411 = some (1, 5, 0, 413, 0) := by decide +kernel
theorem cd_161_413 : qa_code 161 413 = some (15, 0, 418, 416, 0) := by decide +kernel
theorem cd_161_416 : qa_code 161 416 = some (0, 0, 0, 417, 0) := by decide +kernel
theorem cd_161_417 : qa_code 161 417 = some (19, 1, 0, 417, 0) := by decide +kernel
theorem cd_161_418 : qa_code 161 418 = some (1, 5, 0, 420, 0) := by decide +kernel
theorem cd_161_420 : qa_code 161 420 = some (16, 1, 435, 423, 0) := by decide +kernel
theorem cd_161_423 : qa_code 161 423 = some (2, 3, 0, 424, 0) := by decide +kernel
theorem cd_161_424 : qa_code 161 424 = some (0, 0, 0, 425, 0) := by decide +kernel
theorem cd_161_425 : qa_code 161 425 = some (24, 0, 0, 426, 0) := by decide +kernel
theorem cd_161_426 : qa_code 161 426 = some (1, 6, 0, 428, 0) := by decide +kernel
theorem cd_161_428 : qa_code 161 428 = some (22, 0, 0, 429, 0) := by decide +kernel
theorem cd_161_429 : qa_code 161 429 = some (25, 0, 0, 430, 0) := by decide +kernel
theorem cd_161_430 : qa_code 161 430 = some (16, 0, 435, 433, 0) := by decide +kernel
theorem cd_161_433 : qa_code 161 433 = some (0, 0, 0, 434, 0) := by decide +kernel
theorem cd_161_434 : qa_code 161 434 = some (19, 1, 0, 434, 0) := by decide +kernel
theorem cd_161_435 : qa_code 161 435 = some (17, 0, 0, 1500, 0) := by decide +kernel
theorem cd_161_438 : qa_code 161 438 = some (2, 1, 0, 439, 0) := by decide +kernel
theorem cd_161_439 : qa_code 161 439 = some (2, 0, 0, 440, 0) := by decide +kernel
theorem cd_161_440 : qa_code 161 440 = some (1, 4, 0, 442, 0) := by decide +kernel
theorem cd_161_442 : qa_code 161 442 = some (0, 0, 1, 443, 0) := by decide +kernel
theorem cd_161_443 : qa_code 161 443 = some (6, 0, 0, 444, 0) := by decide +kernel
theorem cd_161_444 : qa_code 161 444 = some (26, 0, 0, 445, 0) := by decide +kernel
theorem cd_161_445 : qa_code 161 445 = some (2, 0, 0, 446, 0) := by decide +kernel
theorem cd_161_446 : qa_code 161 446 = some (1, 4, 0, 448, 0) := by decide +kernel
theorem cd_161_448 : qa_code 161 448 = some (0, 0, 2, 449, 0) := by decide +kernel
theorem cd_161_449 : qa_code 161 449 = some (6, 0, 0, 450, 0) := by decide +kernel
theorem cd_161_450 : qa_code 161 450 = some (26, 0, 0, 451, 0) := by decide +kernel
theorem cd_161_451 : qa_code 161 451 = some (2, 0, 0, 452, 0) := by decide +kernel
theorem cd_161_452 : qa_code 161 452 = some (1, 4, 0, 454, 0) := by decide +kernel
theorem cd_161_454 : qa_code 161 454 = some (0, 0, 3, 455, 0) := by decide +kernel
theorem cd_161_455 : qa_code 161 455 = some (6, 0, 0, 456, 0) := by decide +kernel
theorem cd_161_456 : qa_code 161 456 = some (26, 0, 0, 457, 0) := by decide +kernel
theorem cd_161_457 : qa_code 161 457 = some (2, 3, 0, 458, 0) := by decide +kernel
theorem cd_161_458 : qa_code 161 458 = some (18, 144, 5, 461, 100) := by decide +kernel
theorem cd_161_461 : qa_code 161 461 = some (3, 5, 0, 463, 0) := by decide +kernel
theorem cd_161_463 : qa_code 161 463 = some (2, 2, 0, 464, 0) := by decide +kernel
theorem cd_161_464 : qa_code 161 464 = some (2, 0, 0, 465, 0) := by decide +kernel
theorem cd_161_465 : qa_code 161 465 = some (1, 4, 0, 467, 0) := by decide +kernel
theorem cd_161_467 : qa_code 161 467 = some (0, 0, 1, 468, 0) := by decide +kernel
theorem cd_161_468 : qa_code 161 468 = some (6, 0, 0, 469, 0) := by decide +kernel
theorem cd_161_469 : qa_code 161 469 = some (26, 0, 0, 470, 0) := by decide +kernel
theorem cd_161_470 : qa_code 161 470 = some (2, 0, 0, 471, 0) := by decide +kernel
theorem cd_161_471 : qa_code 161 471 = some (1, 4, 0, 473, 0) := by decide +kernel
theorem cd_161_473 : qa_code 161 473 = some (0, 0, 2, 474, 0) := by decide +kernel
theorem cd_161_474 : qa_code 161 474 = some (6, 0, 0, 475, 0) := by decide +kernel
theorem cd_161_475 : qa_code 161 475 = some (26, 0, 0, 476, 0) := by decide +kernel
theorem cd_161_476 : qa_code 161 476 = some (2, 0, 0, 477, 0) := by decide +kernel
theorem cd_161_477 : qa_code 161 477 = some (1, 4, 0, 479, 0) := by decide +kernel
theorem cd_161_479 : qa_code 161 479 = some (0, 0, 3, 480, 0) := by decide +kernel
theorem cd_161_480 : qa_code 161 480 = some (6, 0, 0, 481, 0) := by decide +kernel
theorem cd_161_481 : qa_code 161 481 = some (26, 0, 0, 482, 0) := by decide +kernel
theorem cd_161_482 : qa_code 161 482 = some (18, 80, 4, 485, 102) := by decide +kernel
theorem cd_161_485 : qa_code 161 485 = some (3, 6, 0, 487, 0) := by decide +kernel
theorem cd_161_487 : qa_code 161 487 = some (2, 2, 0, 488, 0) := by decide +kernel
theorem cd_161_488 : qa_code 161 488 = some (18, 64, 1, 491, 90) := by decide +kernel
theorem cd_161_491 : qa_code 161 491 = some (1, 5, 0, 493, 0) := by decide +kernel
theorem cd_161_493 : qa_code 161 493 = some (15, 0, 498, 496, 0) := by decide +kernel
theorem cd_161_496 : qa_code 161 496 = some (0, 0, 0, 497, 0) := by decide +kernel
theorem cd_161_497 : qa_code 161 497 = some (19, 1, 0, 497, 0) := by decide +kernel
theorem cd_161_498 : qa_code 161 498 = some (1, 5, 0, 500, 0) := by decide +kernel
theorem cd_161_500 : qa_code 161 500 = some (16, 1, 515, 503, 0) := by decide +kernel
theorem cd_161_503 : qa_code 161 503 = some (2, 3, 0, 504, 0) := by decide +kernel
theorem cd_161_504 : qa_code 161 504 = some (0, 0, 0, 505, 0) := by decide +kernel
theorem cd_161_505 : qa_code 161 505 = some (24, 0, 0, 506, 0) := by decide +kernel
theorem cd_161_506 : qa_code 161 506 = some (1, 6, 0, 508, 0) := by decide +kernel
theorem cd_161_508 : qa_code 161 508 = some (22, 0, 0, 509, 0) := by decide +kernel
theorem cd_161_509 : qa_code 161 509 = some (25, 0, 0, 510, 0) := by decide +kernel
theorem cd_161_510 : qa_code 161 510 = some (16, 0, 515, 513, 0) := by decide +kernel
theorem cd_161_513 : qa_code 161 513 = some (0, 0, 0, 514, 0) := by decide +kernel
theorem cd_161_514 : qa_code 161 514 = some (19, 1, 0, 514, 0) := by decide +kernel
theorem cd_161_515 : qa_code 161 515 = some (17, 0, 0, 1500, 0) := by decide +kernel
theorem cd_161_518 : qa_code 161 518 = some (2, 1, 0, 519, 0) := by decide +kernel
theorem cd_161_519 : qa_code 161 519 = some (2, 0, 0, 520, 0) := by decide +kernel
theorem cd_161_520 : qa_code 161 520 = some (1, 4, 0, 522, 0) := by decide +kernel
theorem cd_161_522 : qa_code 161 522 = some (0, 0, 1, 523, 0) := by decide +kernel
theorem cd_161_523 : qa_code 161 523 = some (6, 0, 0, 524, 0) := by decide +kernel
theorem cd_161_524 : qa_code 161 524 = some (26, 0, 0, 525, 0) := by decide +kernel
theorem cd_161_525 : qa_code 161 525 = some (2, 0, 0, 526, 0) := by decide +kernel
theorem cd_161_526 : qa_code 161 526 = some (1, 4, 0, 528, 0) := by decide +kernel
theorem cd_161_528 : qa_code 161 528 = some (0, 0, 2, 529, 0) := by decide +kernel
theorem cd_161_529 : qa_code 161 529 = some (6, 0, 0, 530, 0) := by decide +kernel
theorem cd_161_530 : qa_code 161 530 = some (26, 0, 0, 531, 0) := by decide +kernel
theorem cd_161_531 : qa_code 161 531 = some (2, 0, 0, 532, 0) := by decide +kernel
theorem cd_161_532 : qa_code 161 532 = some (1, 4, 0, 534, 0) := by decide +kernel
theorem cd_161_534 : qa_code 161 534 = some (0, 0, 3, 535, 0) := by decide +kernel
theorem cd_161_535 : qa_code 161 535 = some (6, 0, 0, 536, 0) := by decide +kernel
theorem cd_161_536 : qa_code 161 536 = some (26, 0, 0, 537, 0) := by decide +kernel
theorem cd_161_537 : qa_code 161 537 = some (2, 3, 0, 538, 0) := by decide +kernel
theorem cd_161_538 : qa_code 161 538 = some (18, 145, 5, 541, 103) := by decide +kernel
theorem cd_161_541 : qa_code 161 541 = some (3, 5, 0, 543, 0) := by decide +kernel
theorem cd_161_543 : qa_code 161 543 = some (2, 2, 0, 544, 0) := by decide +kernel
theorem cd_161_544 : qa_code 161 544 = some (2, 0, 0, 545, 0) := by decide +kernel
theorem cd_161_545 : qa_code 161 545 = some (1, 4, 0, 547, 0) := by decide +kernel
theorem cd_161_547 : qa_code 161 547 = some (0, 0, 1, 548, 0) := by decide +kernel
theorem cd_161_548 : qa_code 161 548 = some (6, 0, 0, 549, 0) := by decide +kernel
theorem cd_161_549 : qa_code 161 549 = some (26, 0, 0, 550, 0) := by decide +kernel
theorem cd_161_550 : qa_code 161 550 = some (2, 0, 0, 551, 0) := by decide +kernel
theorem cd_161_551 : qa_code 161 551 = some (1, 4, 0, 553, 0) := by decide +kernel
theorem cd_161_553 : qa_code 161 553 = some (0, 0, 2, 554, 0) := by decide +kernel
theorem cd_161_554 : qa_code 161 554 = some (6, 0, 0, 555, 0) := by decide +kernel
theorem cd_161_555 : qa_code 161 555 = some (26, 0, 0, 556, 0) := by decide +kernel
theorem cd_161_556 : qa_code 161 556 = some (2, 0, 0, 557, 0) := by decide +kernel
theorem cd_161_557 : qa_code 161 557 = some (1, 4, 0, 559, 0) := by decide +kernel
theorem cd_161_559 : qa_code 161 559 = some (0, 0, 3, 560, 0) := by decide +kernel
theorem cd_161_560 : qa_code 161 560 = some (6, 0, 0, 561, 0) := by decide +kernel
theorem cd_161_561 : qa_code 161 561 = some (26, 0, 0, 562, 0) := by decide +kernel
theorem cd_161_562 : qa_code 161 562 = some (18, 81, 4, 565, 105) := by decide +kernel
theorem cd_161_565 : qa_code 161 565 = some (3, 6, 0, 567, 0) := by decide +kernel
theorem cd_161_567 : qa_code 161 567 = some (2, 2, 0, 568, 0) := by decide +kernel
theorem cd_161_568 : qa_code 161 568 = some (18, 64, 1, 571, 90) := by decide +kernel
theorem cd_161_571 : qa_code 161 571 = some (1, 5, 0, 573, 0) := by decide +kernel
theorem cd_161_573 : qa_code 161 573 = some (15, 0, 578, 576, 0) := by decide +kernel
theorem cd_161_576 : qa_code 161 576 = some (0, 0, 0, 577, 0) := by decide +kernel
theorem cd_161_577 : qa_code 161 577 = some (19, 1, 0, 577, 0) := by decide +kernel
theorem cd_161_578 : qa_code 161 578 = some (1, 5, 0, 580, 0) := by decide +kernel
theorem cd_161_580 : qa_code 161 580 = some (16, 1, 595, 583, 0) := by decide +kernel
theorem cd_161_583 : qa_code 161 583 = some (2, 3, 0, 584, 0) := by decide +kernel
theorem cd_161_584 : qa_code 161 584 = some (0, 0, 0, 585, 0) := by decide +kernel
theorem cd_161_585 : qa_code 161 585 = some (24, 0, 0, 586, 0) := by decide +kernel
theorem cd_161_586 : qa_code 161 586 = some (1, 6, 0, 588, 0) := by decide +kernel
theorem cd_161_588 : qa_code 161 588 = some (22, 0, 0, 589, 0) := by decide +kernel
theorem cd_161_589 : qa_code 161 589 = some (25, 0, 0, 590, 0) := by decide +kernel
theorem cd_161_590 : qa_code 161 590 = some (16, 0, 595, 593, 0) := by decide +kernel
theorem cd_161_593 : qa_code 161 593 = some (0, 0, 0, 594, 0) := by decide +kernel
theorem cd_161_594 : qa_code 161 594 = some (19, 1, 0, 594, 0) := by decide +kernel
theorem cd_161_595 : qa_code 161 595 = some (17, 0, 0, 1500, 0) := by decide +kernel
theorem cd_161_598 : qa_code 161 598 = some (2, 1, 0, 599, 0) := by decide +kernel
theorem cd_161_599 : qa_code 161 599 = some (2, 0, 0, 600, 0) := by decide +kernel
theorem cd_161_600 : qa_code 161 600 = some (1, 4, 0, 602, 0) := by decide +kernel
theorem cd_161_602 : qa_code 161 602 = some (0, 0, 1, 603, 0) := by decide +kernel
theorem cd_161_603 : qa_code 161 603 = some (6, 0, 0, 604, 0) := by decide +kernel
theorem cd_161_604 : qa_code 161 604 = some (26, 0, 0, 605, 0) := by decide +kernel
theorem cd_161_605 : qa_code 161 605 = some (2, 3, 0, 606, 0) := by decide +kernel
theorem cd_161_606 : qa_code 161 606 = some (18, 146, 3, 609, 106) := by decide +kernel
theorem cd_161_609 : qa_code 161 609 = some (3, 5, 0, 611, 0) := by decide +kernel
theorem cd_161_611 : qa_code 161 611 = some (2, 2, 0, 612, 0) := by decide +kernel
theorem cd_161_612 : qa_code 161 612 = some (2, 0, 0, 613, 0) := by decide +kernel
theorem cd_161_613 : qa_code 161 613 = some (1, 4, 0, 615, 0) := by decide +kernel
theorem cd_161_615 : qa_code 161 615 = some (0, 0, 1, 616, 0) := by decide +kernel
theorem cd_161_616 : qa_code 161 616 = some (6, 0, 0, 617, 0) := by decide +kernel
theorem cd_161_617 : qa_code 161 617 = some (26, 0, 0, 618, 0) := by decide +kernel
theorem cd_161_618 : qa_code 161 618 = some (18, 82, 2, 621, 109) := by decide +kernel
theorem cd_161_621 : qa_code 161 621 = some (3, 6, 0, 623, 0) := by decide +kernel
theorem cd_161_623 : qa_code 161 623 = some (2, 2, 0, 624, 0) := by decide +kernel
theorem cd_161_624 : qa_code 161 624 = some (18, 64, 1, 627, 90) := by decide +kernel
theorem cd_161_627 : qa_code 161 627 = some (1, 5, 0, 629, 0) := by decide +kernel
theorem cd_161_629 : qa_code 161 629 = some (15, 0, 634, 632, 0) := by decide +kernel
theorem cd_161_632 : qa_code 161 632 = some (0, 0, 0, 633, 0) := by decide +kernel
theorem cd_161_633 : qa_code 161 633 = some (19, 1, 0, 633, 0) := by decide +kernel
theorem cd_161_634 : qa_code 161 634 = some (1, 5, 0, 636, 0) := by decide +kernel
theorem cd_161_636 : qa_code 161 636 = some (16, 1, 651, 639, 0) := by decide +kernel
theorem cd_161_639 : qa_code 161 639 = some (2, 3, 0, 640, 0) := by decide +kernel
theorem cd_161_640 : qa_code 161 640 = some (0, 0, 0, 641, 0) := by decide +kernel
theorem cd_161_641 : qa_code 161 641 = some (24, 0, 0, 642, 0) := by decide +kernel
theorem cd_161_642 : qa_code 161 642 = some (1, 6, 0, 644, 0) := by decide +kernel
theorem cd_161_644 : qa_code 161 644 = some (22, 0, 0, 645, 0) := by decide +kernel
theorem cd_161_645 : qa_code 161 645 = some (25, 0, 0, 646, 0) := by decide +kernel
theorem cd_161_646 : qa_code 161 646 = some (16, 0, 651, 649, 0) := by decide +kernel
theorem cd_161_649 : qa_code 161 649 = some (0, 0, 0, 650, 0) := by decide +kernel
theorem cd_161_650 : qa_code 161 650 = some (19, 1, 0, 650, 0) := by decide +kernel
theorem cd_161_651 : qa_code 161 651 = some (17, 0, 0, 1500, 0) := by decide +kernel
theorem cd_161_654 : qa_code 161 654 = some (2, 1, 0, 655, 0) := by decide +kernel
theorem cd_161_655 : qa_code 161 655 = some (2, 0, 0, 656, 0) := by decide +kernel
theorem cd_161_656 : qa_code 161 656 = some (1, 4, 0, 658, 0) := by decide +kernel
theorem cd_161_658 : qa_code 161 658 = some (0, 0, 1, 659, 0) := by decide +kernel
theorem cd_161_659 : qa_code 161 659 = some (6, 0, 0, 660, 0) := by decide +kernel
theorem cd_161_660 : qa_code 161 660 = some (26, 0, 0, 661, 0) := by decide +kernel
theorem cd_161_661 : qa_code 161 661 = some (2, 0, 0, 662, 0) := by decide +kernel
theorem cd_161_662 : qa_code 161 662 = some (1, 4, 0, 664, 0) := by decide +kernel
theorem cd_161_664 : qa_code 161 664 = some (0, 0, 2, 665, 0) := by decide +kernel
theorem cd_161_665 : qa_code 161 665 = some (6, 0, 0, 666, 0) := by decide +kernel
theorem cd_161_666 : qa_code 161 666 = some (26, 0, 0, 667, 0) := by decide +kernel
theorem cd_161_667 : qa_code 161 667 = some (2, 3, 0, 668, 0) := by decide +kernel
theorem cd_161_668 : qa_code 161 668 = some (18, 147, 4, 671, 110) := by decide +kernel
theorem cd_161_671 : qa_code 161 671 = some (3, 5, 0, 673, 0) := by decide +kernel
theorem cd_161_673 : qa_code 161 673 = some (2, 2, 0, 674, 0) := by decide +kernel
theorem cd_161_674 : qa_code 161 674 = some (2, 0, 0, 675, 0) := by decide +kernel
theorem cd_161_675 : qa_code 161 675 = some (1, 4, 0, 677, 0) := by decide +kernel
theorem cd_161_677 : qa_code 161 677 = some (0, 0, 1, 678, 0) := by decide +kernel
theorem cd_161_678 : qa_code 161 678 = some (6, 0, 0, 679, 0) := by decide +kernel
theorem cd_161_679 : qa_code 161 679 = some (26, 0, 0, 680, 0) := by decide +kernel
theorem cd_161_680 : qa_code 161 680 = some (2, 0, 0, 681, 0) := by decide +kernel
theorem cd_161_681 : qa_code 161 681 = some (1, 4, 0, 683, 0) := by decide +kernel
theorem cd_161_683 : qa_code 161 683 = some (0, 0, 2, 684, 0) := by decide +kernel
theorem cd_161_684 : qa_code 161 684 = some (6, 0, 0, 685, 0) := by decide +kernel
theorem cd_161_685 : qa_code 161 685 = some (26, 0, 0, 686, 0) := by decide +kernel
theorem cd_161_686 : qa_code 161 686 = some (18, 85, 3, 689, 113) := by decide +kernel
theorem cd_161_689 : qa_code 161 689 = some (3, 6, 0, 691, 0) := by decide +kernel
theorem cd_161_691 : qa_code 161 691 = some (2, 2, 0, 692, 0) := by decide +kernel
theorem cd_161_692 : qa_code 161 692 = some (18, 64, 1, 695, 90) := by decide +kernel
theorem cd_161_695 : qa_code 161 695 = some (1, 5, 0, 697, 0) := by decide +kernel
theorem cd_161_697 : qa_code 161 697 = some (15, 0, 702, 700, 0) := by decide +kernel
theorem cd_161_700 : qa_code 161 700 = some (0, 0, 0, 701, 0) := by decide +kernel
theorem cd_161_701 : qa_code 161 701 = some (19, 1, 0, 701, 0) := by decide +kernel
theorem cd_161_702 : qa_code 161 702 = some (1, 5, 0, 704, 0) := by decide +kernel
theorem cd_161_704 : qa_code 161 704 = some (16, 1, 719, 707, 0) := by decide +kernel
theorem cd_161_707 : qa_code 161 707 = some (2, 3, 0, 708, 0) := by decide +kernel
theorem cd_161_708 : qa_code 161 708 = some (0, 0, 0, 709, 0) := by decide +kernel
theorem cd_161_709 : qa_code 161 709 = some (24, 0, 0, 710, 0) := by decide +kernel
theorem cd_161_710 : qa_code 161 710 = some (1, 6, 0, 712, 0) := by decide +kernel
theorem cd_161_712 : qa_code 161 712 = some (22, 0, 0, 713, 0) := by decide +kernel
theorem cd_161_713 : qa_code 161 713 = some (25, 0, 0, 714, 0) := by decide +kernel
theorem cd_161_714 : qa_code 161 714 = some (16, 0, 719, 717, 0) := by decide +kernel
theorem cd_161_717 : qa_code 161 717 = some (0, 0, 0, 718, 0) := by decide +kernel
theorem cd_161_718 : qa_code 161 718 = some (19, 1, 0, 718, 0) := by decide +kernel
theorem cd_161_719 : qa_code 161 719 = some (17, 0, 0, 1500, 0) := by decide +kernel
theorem cd_161_722 : qa_code 161 722 = some (2, 1, 0, 723, 0) := by decide +kernel
theorem cd_161_723 : qa_code 161 723 = some (2, 0, 0, 724, 0) := by decide +kernel
theorem cd_161_724 : qa_code 161 724 = some (1, 4, 0, 726, 0) := by decide +kernel
theorem cd_161_726 : qa_code 161 726 = some (0, 0, 1, 727, 0) := by decide +kernel
theorem cd_161_727 : qa_code 161 727 = some (6, 0, 0, 728, 0) := by decide +kernel
theorem cd_161_728 : qa_code 161 728 = some (26, 0, 0, 729, 0) := by decide +kernel
theorem cd_161_729 : qa_code 161 729 = some (2, 3, 0, 730, 0) := by decide +kernel
theorem cd_161_730 : qa_code 161 730 = some (18, 148, 3, 733, 114) := by decide +kernel
theorem cd_161_733 : qa_code 161 733 = some (3, 5, 0, 735, 0) := by decide +kernel
theorem cd_161_735 : qa_code 161 735 = some (2, 2, 0, 736, 0) := by decide +kernel
theorem cd_161_736 : qa_code 161 736 = some (2, 0, 0, 737, 0) := by decide +kernel
theorem cd_161_737 : qa_code 161 737 = some (1, 4, 0, 739, 0) := by decide +kernel
theorem cd_161_739 : qa_code 161 739 = some (0, 0, 1, 740, 0) := by decide +kernel
theorem cd_161_740 : qa_code 161 740 = some (6, 0, 0, 741, 0) := by decide +kernel
theorem cd_161_741 : qa_code 161 741 = some (26, 0, 0, 742, 0) := by decide +kernel
theorem cd_161_742 : qa_code 161 742 = some (18, 87, 2, 745, 116) := by decide +kernel
theorem cd_161_745 : qa_code 161 745 = some (3, 6, 0, 747, 0) := by decide +kernel
theorem cd_161_747 : qa_code 161 747 = some (2, 2, 0, 748, 0) := by decide +kernel
theorem cd_161_748 : qa_code 161 748 = some (18, 64, 1, 751, 90) := by decide +kernel
theorem cd_161_751 : qa_code 161 751 = some (1, 5, 0, 753, 0) := by decide +kernel
theorem cd_161_753 : qa_code 161 753 = some (15, 0, 758, 756, 0) := by decide +kernel
theorem cd_161_756 : qa_code 161 756 = some (0, 0, 0, 757, 0) := by decide +kernel
theorem cd_161_757 : qa_code 161 757 = some (19, 1, 0, 757, 0) := by decide +kernel
theorem cd_161_758 : qa_code 161 758 = some (1, 5, 0, 760, 0) := by decide +kernel
theorem cd_161_760 : qa_code 161 760 = some (16, 1, 775, 763, 0) := by decide +kernel
theorem cd_161_763 : qa_code 161 763 = some (2, 3, 0, 764, 0) := by decide +kernel
theorem cd_161_764 : qa_code 161 764 = some (0, 0, 0, 765, 0) := by decide +kernel
theorem cd_161_765 : qa_code 161 765 = some (24, 0, 0, 766, 0) := by decide +kernel
theorem cd_161_766 : qa_code 161 766 = some (1, 6, 0, 768, 0) := by decide +kernel
theorem cd_161_768 : qa_code 161 768 = some (22, 0, 0, 769, 0) := by decide +kernel
theorem cd_161_769 : qa_code 161 769 = some (25, 0, 0, 770, 0) := by decide +kernel
theorem cd_161_770 : qa_code 161 770 = some (16, 0, 775, 773, 0) := by decide +kernel
theorem cd_161_773 : qa_code 161 773 = some (0, 0, 0, 774, 0) := by decide +kernel
theorem cd_161_774 : qa_code 161 774 = some (19, 1, 0, 774, 0) := by decide +kernel
theorem cd_161_775 : qa_code 161 775 = some (17, 0, 0, 1500, 0) := by decide +kernel
theorem cd_161_778 : qa_code 161 778 = some (2, 1, 0, 779, 0) := by decide +kernel
theorem cd_161_779 : qa_code 161 779 = some (2, 0, 0, 780, 0) := by decide +kernel
theorem cd_161_780 : qa_code 161 780 = some (1, 4, 0, 782, 0) := by decide +kernel
theorem cd_161_782 : qa_code 161 782 = some (0, 0, 1, 783, 0) := by decide +kernel
theorem cd_161_783 : qa_code 161 783 = some (6, 0, 0, 784, 0) := by decide +kernel
theorem cd_161_784 : qa_code 161 784 = some (26, 0, 0, 785, 0) := by decide +kernel
theorem cd_161_785 : qa_code 161 785 = some (2, 0, 0, 786, 0) := by decide +kernel
theorem cd_161_786 : qa_code 161 786 = some (1, 4, 0, 788, 0) := by decide +kernel
theorem cd_161_788 : qa_code 161 788 = some (0, 0, 2, 789, 0) := by decide +kernel
theorem cd_161_789 : qa_code 161 789 = some (6, 0, 0, 790, 0) := by decide +kernel
theorem cd_161_790 : qa_code 161 790 = some (26, 0, 0, 791, 0) := by decide +kernel
theorem cd_161_791 : qa_code 161 791 = some (2, 0, 0, 792, 0) := by decide +kernel
theorem cd_161_792 : qa_code 161 792 = some (1, 4, 0, 794, 0) := by decide +kernel
theorem cd_161_794 : qa_code 161 794 = some (0, 0, 3, 795, 0) := by decide +kernel
theorem cd_161_795 : qa_code 161 795 = some (6, 0, 0, 796, 0) := by decide +kernel
theorem cd_161_796 : qa_code 161 796 = some (26, 0, 0, 797, 0) := by decide +kernel
theorem cd_161_797 : qa_code 161 797 = some (2, 3, 0, 798, 0) := by decide +kernel
theorem cd_161_798 : qa_code 161 798 = some (18, 149, 5, 801, 117) := by decide +kernel
theorem cd_161_801 : qa_code 161 801 = some (3, 5, 0, 803, 0) := by decide +kernel
theorem cd_161_803 : qa_code 161 803 = some (2, 2, 0, 804, 0) := by decide +kernel
theorem cd_161_804 : qa_code 161 804 = some (2, 0, 0, 805, 0) := by decide +kernel
theorem cd_161_805 : qa_code 161 805 = some (1, 4, 0, 807, 0) := by decide +kernel
theorem cd_161_807 : qa_code 161 807 = some (0, 0, 1, 808, 0) := by decide +kernel
theorem cd_161_808 : qa_code 161 808 = some (6, 0, 0, 809, 0) := by decide +kernel
theorem cd_161_809 : qa_code 161 809 = some (26, 0, 0, 810, 0) := by decide +kernel
theorem cd_161_810 : qa_code 161 810 = some (2, 0, 0, 811, 0) := by decide +kernel
theorem cd_161_811 : qa_code 161 811 = some (1, 4, 0, 813, 0) := by decide +kernel
theorem cd_161_813 : qa_code 161 813 = some (0, 0, 2, 814, 0) := by decide +kernel
theorem cd_161_814 : qa_code 161 814 = some (6, 0, 0, 815, 0) := by decide +kernel
theorem cd_161_815 : qa_code 161 815 = some (26, 0, 0, 816, 0) := by decide +kernel
theorem cd_161_816 : qa_code 161 816 = some (2, 0, 0, 817, 0) := by decide +kernel
theorem cd_161_817 : qa_code 161 817 = some (1, 4, 0, 819, 0) := by decide +kernel
theorem cd_161_819 : qa_code 161 819 = some (0, 0, 3, 820, 0) := by decide +kernel
theorem cd_161_820 : qa_code 161 820 = some (6, 0, 0, 821, 0) := by decide +kernel
theorem cd_161_821 : qa_code 161 821 = some (26, 0, 0, 822, 0) := by decide +kernel
theorem cd_161_822 : qa_code 161 822 = some (18, 89, 4, 825, 119) := by decide +kernel
theorem cd_161_825 : qa_code 161 825 = some (3, 6, 0, 827, 0) := by decide +kernel
theorem cd_161_827 : qa_code 161 827 = some (2, 2, 0, 828, 0) := by decide +kernel
theorem cd_161_828 : qa_code 161 828 = some (18, 64, 1, 831, 90) := by decide +kernel
theorem cd_161_831 : qa_code 161 831 = some (1, 5, 0, 833, 0) := by decide +kernel
theorem cd_161_833 : qa_code 161 833 = some (15, 0, 838, 836, 0) := by decide +kernel
theorem cd_161_836 : qa_code 161 836 = some (0, 0, 0, 837, 0) := by decide +kernel
theorem cd_161_837 : qa_code 161 837 = some (19, 1, 0, 837, 0) := by decide +kernel
theorem cd_161_838 : qa_code 161 838 = some (1, 5, 0, 840, 0) := by decide +kernel
theorem cd_161_840 : qa_code 161 840 = some (16, 1, 855, 843, 0) := by decide +kernel
theorem cd_161_843 : qa_code 161 843 = some (2, 3, 0, 844, 0) := by decide +kernel
theorem cd_161_844 : qa_code 161 844 = some (0, 0, 0, 845, 0) := by decide +kernel
theorem cd_161_845 : qa_code 161 845 = some (24, 0, 0, 846, 0) := by decide +kernel
theorem cd_161_846 : qa_code 161 846 = some (1, 6, 0, 848, 0) := by decide +kernel
theorem cd_161_848 : qa_code 161 848 = some (22, 0, 0, 849, 0) := by decide +kernel
theorem cd_161_849 : qa_code 161 849 = some (25, 0, 0, 850, 0) := by decide +kernel
theorem cd_161_850 : qa_code 161 850 = some (16, 0, 855, 853, 0) := by decide +kernel
theorem cd_161_853 : qa_code 161 853 = some (0, 0, 0, 854, 0) := by decide +kernel
theorem cd_161_854 : qa_code 161 854 = some (19, 1, 0, 854, 0) := by decide +kernel
theorem cd_161_855 : qa_code 161 855 = some (17, 0, 0, 1500, 0) := by decide +kernel
theorem cd_161_858 : qa_code 161 858 = some (2, 1, 0, 859, 0) := by decide +kernel
theorem cd_161_859 : qa_code 161 859 = some (2, 0, 0, 860, 0) := by decide +kernel
theorem cd_161_860 : qa_code 161 860 = some (1, 4, 0, 862, 0) := by decide +kernel
theorem cd_161_862 : qa_code 161 862 = some (0, 0, 1, 863, 0) := by decide +kernel
theorem cd_161_863 : qa_code 161 863 = some (6, 0, 0, 864, 0) := by decide +kernel
theorem cd_161_864 : qa_code 161 864 = some (26, 0, 0, 865, 0) := by decide +kernel
theorem cd_161_865 : qa_code 161 865 = some (2, 3, 0, 866, 0) := by decide +kernel
theorem cd_161_866 : qa_code 161 866 = some (18, 150, 3, 869, 120) := by decide +kernel
theorem cd_161_869 : qa_code 161 869 = some (3, 5, 0, 871, 0) := by decide +kernel
theorem cd_161_871 : qa_code 161 871 = some (2, 2, 0, 872, 0) := by decide +kernel
theorem cd_161_872 : qa_code 161 872 = some (2, 0, 0, 873, 0) := by decide +kernel
theorem cd_161_873 : qa_code 161 873 = some (1, 4, 0, 875, 0) := by decide +kernel
theorem cd_161_875 : qa_code 161 875 = some (0, 0, 1, 876, 0) := by decide +kernel
theorem cd_161_876 : qa_code 161 876 = some (6, 0, 0, 877, 0) := by decide +kernel
theorem cd_161_877 : qa_code 161 877 = some (26, 0, 0, 878, 0) := by decide +kernel
theorem cd_161_878 : qa_code 161 878 = some (18, 90, 2, 881, 122) := by decide +kernel
theorem cd_161_881 : qa_code 161 881 = some (3, 6, 0, 883, 0) := by decide +kernel
theorem cd_161_883 : qa_code 161 883 = some (2, 2, 0, 884, 0) := by decide +kernel
theorem cd_161_884 : qa_code 161 884 = some (18, 64, 1, 887, 90) := by decide +kernel
theorem cd_161_887 : qa_code 161 887 = some (1, 5, 0, 889, 0) := by decide +kernel
theorem cd_161_889 : qa_code 161 889 = some (15, 0, 894, 892, 0) := by decide +kernel
theorem cd_161_892 : qa_code 161 892 = some (0, 0, 0, 893, 0) := by decide +kernel
theorem cd_161_893 : qa_code 161 893 = some (19, 1, 0, 893, 0) := by decide +kernel
theorem cd_161_894 : qa_code 161 894 = some (1, 5, 0, 896, 0) := by decide +kernel
theorem cd_161_896 : qa_code 161 896 = some (16, 1, 911, 899, 0) := by decide +kernel
theorem cd_161_899 : qa_code 161 899 = some (2, 3, 0, 900, 0) := by decide +kernel
theorem cd_161_900 : qa_code 161 900 = some (0, 0, 0, 901, 0) := by decide +kernel
theorem cd_161_901 : qa_code 161 901 = some (24, 0, 0, 902, 0) := by decide +kernel
theorem cd_161_902 : qa_code 161 902 = some (1, 6, 0, 904, 0) := by decide +kernel
theorem cd_161_904 : qa_code 161 904 = some (22, 0, 0, 905, 0) := by decide +kernel
theorem cd_161_905 : qa_code 161 905 = some (25, 0, 0, 906, 0) := by decide +kernel
theorem cd_161_906 : qa_code 161 906 = some (16, 0, 911, 909, 0) := by decide +kernel
theorem cd_161_909 : qa_code 161 909 = some (0, 0, 0, 910, 0) := by decide +kernel
theorem cd_161_910 : qa_code 161 910 = some (19, 1, 0, 910, 0) := by decide +kernel
theorem cd_161_911 : qa_code 161 911 = some (17, 0, 0, 1500, 0) := by decide +kernel
theorem cd_161_914 : qa_code 161 914 = some (2, 1, 0, 915, 0) := by decide +kernel
theorem cd_161_915 : qa_code 161 915 = some (2, 0, 0, 916, 0) := by decide +kernel
theorem cd_161_916 : qa_code 161 916 = some (1, 4, 0, 918, 0) := by decide +kernel
theorem cd_161_918 : qa_code 161 918 = some (0, 0, 1, 919, 0) := by decide +kernel
theorem cd_161_919 : qa_code 161 919 = some (6, 0, 0, 920, 0) := by decide +kernel
theorem cd_161_920 : qa_code 161 920 = some (26, 0, 0, 921, 0) := by decide +kernel
theorem cd_161_921 : qa_code 161 921 = some (2, 3, 0, 922, 0) := by decide +kernel
theorem cd_161_922 : qa_code 161 922 = some (18, 151, 3, 925, 123) := by decide +kernel
theorem cd_161_925 : qa_code 161 925 = some (3, 5, 0, 927, 0) := by decide +kernel
theorem cd_161_927 : qa_code 161 927 = some (2, 2, 0, 928, 0) := by decide +kernel
theorem cd_161_928 : qa_code 161 928 = some (2, 0, 0, 929, 0) := by decide +kernel
theorem cd_161_929 : qa_code 161 929 = some (1, 4, 0, 931, 0) := by decide +kernel
theorem cd_161_931 : qa_code 161 931 = some (0, 0, 1, 932, 0) := by decide +kernel
theorem cd_161_932 : qa_code 161 932 = some (6, 0, 0, 933, 0) := by decide +kernel
theorem cd_161_933 : qa_code 161 933 = some (26, 0, 0, 934, 0) := by decide +kernel
theorem cd_161_934 : qa_code 161 934 = some (18, 92, 2, 937, 125) := by decide +kernel
theorem cd_161_937 : qa_code 161 937 = some (3, 6, 0, 939, 0) := by decide +kernel
theorem cd_161_939 : qa_code 161 939 = some (2, 2, 0, 940, 0) := by decide +kernel
theorem cd_161_940 : qa_code 161 940 = some (18, 64, 1, 943, 90) := by decide +kernel
theorem cd_161_943 : qa_code 161 943 = some (1, 5, 0, 945, 0) := by decide +kernel
theorem cd_161_945 : qa_code 161 945 = some (15, 0, 950, 948, 0) := by decide +kernel
theorem cd_161_948 : qa_code 161 948 = some (0, 0, 0, 949, 0) := by decide +kernel
theorem cd_161_949 : qa_code 161 949 = some (19, 1, 0, 949, 0) := by decide +kernel
theorem cd_161_950 : qa_code 161 950 = some (1, 5, 0, 952, 0) := by decide +kernel
theorem cd_161_952 : qa_code 161 952 = some (16, 1, 967, 955, 0) := by decide +kernel
theorem cd_161_955 : qa_code 161 955 = some (2, 3, 0, 956, 0) := by decide +kernel
theorem cd_161_956 : qa_code 161 956 = some (0, 0, 0, 957, 0) := by decide +kernel
theorem cd_161_957 : qa_code 161 957 = some (24, 0, 0, 958, 0) := by decide +kernel
theorem cd_161_958 : qa_code 161 958 = some (1, 6, 0, 960, 0) := by decide +kernel
theorem cd_161_960 : qa_code 161 960 = some (22, 0, 0, 961, 0) := by decide +kernel
theorem cd_161_961 : qa_code 161 961 = some (25, 0, 0, 962, 0) := by decide +kernel
theorem cd_161_962 : qa_code 161 962 = some (16, 0, 967, 965, 0) := by decide +kernel
theorem cd_161_965 : qa_code 161 965 = some (0, 0, 0, 966, 0) := by decide +kernel
theorem cd_161_966 : qa_code 161 966 = some (19, 1, 0, 966, 0) := by decide +kernel
theorem cd_161_967 : qa_code 161 967 = some (17, 0, 0, 1500, 0) := by decide +kernel
theorem cd_161_970 : qa_code 161 970 = some (2, 1, 0, 971, 0) := by decide +kernel
theorem cd_161_971 : qa_code 161 971 = some (2, 0, 0, 972, 0) := by decide +kernel
theorem cd_161_972 : qa_code 161 972 = some (1, 4, 0, 974, 0) := by decide +kernel
theorem cd_161_974 : qa_code 161 974 = some (0, 0, 1, 975, 0) := by decide +kernel
theorem cd_161_975 : qa_code 161 975 = some (6, 0, 0, 976, 0) := by decide +kernel
theorem cd_161_976 : qa_code 161 976 = some (26, 0, 0, 977, 0) := by decide +kernel
theorem cd_161_977 : qa_code 161 977 = some (2, 3, 0, 978, 0) := by decide +kernel
theorem cd_161_978 : qa_code 161 978 = some (18, 152, 3, 981, 126) := by decide +kernel
theorem cd_161_981 : qa_code 161 981 = some (3, 5, 0, 983, 0) := by decide +kernel
theorem cd_161_983 : qa_code 161 983 = some (2, 2, 0, 984, 0) := by decide +kernel
theorem cd_161_984 : qa_code 161 984 = some (2, 0, 0, 985, 0) := by decide +kernel
theorem cd_161_985 : qa_code 161 985 = some (1, 4, 0, 987, 0) := by decide +kernel
theorem cd_161_987 : qa_code 161 987 = some (0, 0, 1, 988, 0) := by decide +kernel
theorem cd_161_988 : qa_code 161 988 = some (6, 0, 0, 989, 0) := by decide +kernel
theorem cd_161_989 : qa_code 161 989 = some (26, 0, 0, 990, 0) := by decide +kernel
theorem cd_161_990 : qa_code 161 990 = some (18, 94, 2, 993, 128) := by decide +kernel
theorem cd_161_993 : qa_code 161 993 = some (3, 6, 0, 995, 0) := by decide +kernel
theorem cd_161_995 : qa_code 161 995 = some (2, 2, 0, 996, 0) := by decide +kernel
theorem cd_161_996 : qa_code 161 996 = some (18, 64, 1, 999, 90) := by decide +kernel
theorem cd_161_999 : qa_code 161 999 = some (1, 5, 0, 1001, 0) := by decide +kernel
theorem cd_161_1001 : qa_code 161 1001 = some (15, 0, 1006, 1004, 0) := by decide +kernel
theorem cd_161_1004 : qa_code 161 1004 = some (0, 0, 0, 1005, 0) := by decide +kernel
theorem cd_161_1005 : qa_code 161 1005 = some (19, 1, 0, 1005, 0) := by decide +kernel
theorem cd_161_1006 : qa_code 161 1006 = some (1, 5, 0, 1008, 0) := by decide +kernel
theorem cd_161_1008 : qa_code 161 1008 = some (16, 1, 1023, 1011, 0) := by decide +kernel
theorem cd_161_1011 : qa_code 161 1011 = some (2, 3, 0, 1012, 0) := by decide +kernel
theorem cd_161_1012 : qa_code 161 1012 = some (0, 0, 0, 1013, 0) := by decide +kernel
theorem cd_161_1013 : qa_code 161 1013 = some (24, 0, 0, 1014, 0) := by decide +kernel
theorem cd_161_1014 : qa_code 161 1014 = some (1, 6, 0, 1016, 0) := by decide +kernel
theorem cd_161_1016 : qa_code 161 1016 = some (22, 0, 0, 1017, 0) := by decide +kernel
theorem cd_161_1017 : qa_code 161 1017 = some (25, 0, 0, 1018, 0) := by decide +kernel
theorem cd_161_1018 : qa_code 161 1018 = some (16, 0, 1023, 1021, 0) := by decide +kernel
theorem cd_161_1021 : qa_code 161 1021 = some (0, 0, 0, 1022, 0) := by decide +kernel
theorem cd_161_1022 : qa_code 161 1022 = some (19, 1, 0, 1022, 0) := by decide +kernel
theorem cd_161_1023 : qa_code 161 1023 = some (17, 0, 0, 1500, 0) := by decide +kernel
theorem cd_161_1026 : qa_code 161 1026 = some (2, 1, 0, 1027, 0) := by decide +kernel
theorem cd_161_1027 : qa_code 161 1027 = some (18, 123, 1, 1030, 129) := by decide +kernel
theorem cd_161_1030 : qa_code 161 1030 = some (2, 2, 0, 1031, 0) := by decide +kernel
theorem cd_161_1031 : qa_code 161 1031 = some (18, 95, 1, 1034, 132) := by decide +kernel
theorem cd_161_1034 : qa_code 161 1034 = some (15, 0, 1500, 1037, 0) := by decide +kernel
theorem cd_161_1037 : qa_code 161 1037 = some (0, 0, 0, 1038, 0) := by decide +kernel
theorem cd_161_1038 : qa_code 161 1038 = some (19, 1, 0, 1038, 0) := by decide +kernel
theorem cd_161_1039 : qa_code 161 1039 = some (2, 1, 0, 1040, 0) := by decide +kernel
theorem cd_161_1040 : qa_code 161 1040 = some (18, 124, 1, 1043, 133) := by decide +kernel
theorem cd_161_1043 : qa_code 161 1043 = some (2, 2, 0, 1044, 0) := by decide +kernel
theorem cd_161_1044 : qa_code 161 1044 = some (18, 96, 1, 1047, 136) := by decide +kernel
theorem cd_161_1047 : qa_code 161 1047 = some (15, 0, 1500, 1050, 0) := by decide +kernel
theorem cd_161_1050 : qa_code 161 1050 = some (0, 0, 0, 1051, 0) := by decide +kernel
theorem cd_161_1051 : qa_code 161 1051 = some (19, 1, 0, 1051, 0) := by decide +kernel
theorem cd_161_1052 : qa_code 161 1052 = some (2, 1, 0, 1053, 0) := by decide +kernel
theorem cd_161_1053 : qa_code 161 1053 = some (2, 0, 0, 1054, 0) := by decide +kernel
theorem cd_161_1054 : qa_code 161 1054 = some (1, 4, 0, 1056, 0) := by decide +kernel
theorem cd_161_1056 : qa_code 161 1056 = some (0, 0, 1, 1057, 0) := by decide +kernel
theorem cd_161_1057 : qa_code 161 1057 = some (6, 0, 0, 1058, 0) := by decide +kernel
theorem cd_161_1058 : qa_code 161 1058 = some (26, 0, 0, 1059, 0) := by decide +kernel
theorem cd_161_1059 : qa_code 161 1059 = some (2, 3, 0, 1060, 0) := by decide +kernel
theorem cd_161_1060 : qa_code 161 1060 = some (18, 153, 3, 1063, 137) := by decide +kernel
theorem cd_161_1063 : qa_code 161 1063 = some (3, 5, 0, 1065, 0) := by decide +kernel
theorem cd_161_1065 : qa_code 161 1065 = some (2, 2, 0, 1066, 0) := by decide +kernel
theorem cd_161_1066 : qa_code 161 1066 = some (2, 0, 0, 1067, 0) := by decide +kernel
theorem cd_161_1067 : qa_code 161 1067 = some (1, 4, 0, 1069, 0) := by decide +kernel
theorem cd_161_1069 : qa_code 161 1069 = some (0, 0, 1, 1070, 0) := by decide +kernel
theorem cd_161_1070 : qa_code 161 1070 = some (6, 0, 0, 1071, 0) := by decide +kernel
theorem cd_161_1071 : qa_code 161 1071 = some (26, 0, 0, 1072, 0) := by decide +kernel
theorem cd_161_1072 : qa_code 161 1072 = some (18, 97, 2, 1075, 139) := by decide +kernel
theorem cd_161_1075 : qa_code 161 1075 = some (3, 6, 0, 1077, 0) := by decide +kernel
theorem cd_161_1077 : qa_code 161 1077 = some (2, 2, 0, 1078, 0) := by decide +kernel
theorem cd_161_1078 : qa_code 161 1078 = some (18, 64, 1, 1081, 90) := by decide +kernel
theorem cd_161_1081 : qa_code 161 1081 = some (1, 5, 0, 1083, 0) := by decide +kernel
theorem cd_161_1083 : qa_code 161 1083 = some (15, 0, 1088, 1086, 0) := by decide +kernel
theorem cd_161_1086 : qa_code 161 1086 = some (0, 0, 0, 1087, 0) := by decide +kernel
theorem cd_161_1087 : qa_code 161 1087 = some (19, 1, 0, 1087, 0) := by decide +kernel
theorem cd_161_1088 : qa_code 161 1088 = some (1, 5, 0, 1090, 0) := by decide +kernel
theorem cd_161_1090 : qa_code 161 1090 = some (16, 1, 1105, 1093, 0) := by decide +kernel
theorem cd_161_1093 : qa_code 161 1093 = some (2, 3, 0, 1094, 0) := by decide +kernel
theorem cd_161_1094 : qa_code 161 1094 = some (0, 0, 0, 1095, 0) := by decide +kernel
theorem cd_161_1095 : qa_code 161 1095 = some (24, 0, 0, 1096, 0) := by decide +kernel
theorem cd_161_1096 : qa_code 161 1096 = some (1, 6, 0, 1098, 0) := by decide +kernel
theorem cd_161_1098 : qa_code 161 1098 = some (22, 0, 0, 1099, 0) := by decide +kernel
theorem cd_161_1099 : qa_code 161 1099 = some (25, 0, 0, 1100, 0) := by decide +kernel
theorem cd_161_1100 : qa_code 161 1100 = some (16, 0, 1105, 1103, 0) := by decide +kernel
theorem cd_161_1103 : qa_code 161 1103 = some (0, 0, 0, 1104, 0) := by decide +kernel
theorem cd_161_1104 : qa_code 161 1104 = some (19, 1, 0, 1104, 0) := by decide +kernel
theorem cd_161_1105 : qa_code 161 1105 = some (17, 0, 0, 1500, 0) := by decide +kernel
theorem cd_161_1108 : qa_code 161 1108 = some (2, 1, 0, 1109, 0) := by decide +kernel
theorem cd_161_1109 : qa_code 161 1109 = some (2, 0, 0, 1110, 0) := by decide +kernel
theorem cd_161_1110 : qa_code 161 1110 = some (1, 4, 0, 1112, 0) := by decide +kernel
theorem cd_161_1112 : qa_code 161 1112 = some (0, 0, 1, 1113, 0) := by decide +kernel
theorem cd_161_1113 : qa_code 161 1113 = some (6, 0, 0, 1114, 0) := by decide +kernel
theorem cd_161_1114 : qa_code 161 1114 = some (26, 0, 0, 1115, 0) := by decide +kernel
theorem cd_161_1115 : qa_code 161 1115 = some (2, 0, 0, 1116, 0) := by decide +kernel
theorem cd_161_1116 : qa_code 161 1116 = some (1, 4, 0, 1118, 0) := by decide +kernel
theorem cd_161_1118 : qa_code 161 1118 = some (0, 0, 2, 1119, 0) := by decide +kernel
theorem cd_161_1119 : qa_code 161 1119 = some (6, 0, 0, 1120, 0) := by decide +kernel
theorem cd_161_1120 : qa_code 161 1120 = some (26, 0, 0, 1121, 0) := by decide +kernel
theorem cd_161_1121 : qa_code 161 1121 = some (2, 3, 0, 1122, 0) := by decide +kernel
theorem cd_161_1122 : qa_code 161 1122 = some (18, 154, 4, 1125, 140) := by decide +kernel
theorem cd_161_1125 : qa_code 161 1125 = some (3, 5, 0, 1127, 0) := by decide +kernel
theorem cd_161_1127 : qa_code 161 1127 = some (2, 2, 0, 1128, 0) := by decide +kernel
theorem cd_161_1128 : qa_code 161 1128 = some (2, 0, 0, 1129, 0) := by decide +kernel
theorem cd_161_1129 : qa_code 161 1129 = some (1, 4, 0, 1131, 0) := by decide +kernel
theorem cd_161_1131 : qa_code 161 1131 = some (0, 0, 1, 1132, 0) := by decide +kernel
theorem cd_161_1132 : qa_code 161 1132 = some (6, 0, 0, 1133, 0) := by decide +kernel
theorem cd_161_1133 : qa_code 161 1133 = some (26, 0, 0, 1134, 0) := by decide +kernel
theorem cd_161_1134 : qa_code 161 1134 = some (2, 0, 0, 1135, 0) := by decide +kernel
theorem cd_161_1135 : qa_code 161 1135 = some (1, 4, 0, 1137, 0) := by decide +kernel
theorem cd_161_1137 : qa_code 161 1137 = some (0, 0, 2, 1138, 0) := by decide +kernel
theorem cd_161_1138 : qa_code 161 1138 = some (6, 0, 0, 1139, 0) := by decide +kernel
theorem cd_161_1139 : qa_code 161 1139 = some (26, 0, 0, 1140, 0) := by decide +kernel
theorem cd_161_1140 : qa_code 161 1140 = some (18, 98, 3, 1143, 142) := by decide +kernel
theorem cd_161_1143 : qa_code 161 1143 = some (3, 6, 0, 1145, 0) := by decide +kernel
theorem cd_161_1145 : qa_code 161 1145 = some (2, 2, 0, 1146, 0) := by decide +kernel
theorem cd_161_1146 : qa_code 161 1146 = some (18, 64, 1, 1149, 90) := by decide +kernel
theorem cd_161_1149 : qa_code 161 1149 = some (1, 5, 0, 1151, 0) := by decide +kernel
theorem cd_161_1151 : qa_code 161 1151 = some (15, 0, 1156, 1154, 0) := by decide +kernel
theorem cd_161_1154 : qa_code 161 1154 = some (0, 0, 0, 1155, 0) := by decide +kernel
theorem cd_161_1155 : qa_code 161 1155 = some (19, 1, 0, 1155, 0) := by decide +kernel
theorem cd_161_1156 : qa_code 161 1156 = some (1, 5, 0, 1158, 0) := by decide +kernel
theorem cd_161_1158 : qa_code 161 1158 = some (16, 1, 1173, 1161, 0) := by decide +kernel
theorem cd_161_1161 : qa_code 161 1161 = some (2, 3, 0, 1162, 0) := by decide +kernel
theorem cd_161_1162 : qa_code 161 1162 = some (0, 0, 0, 1163, 0) := by decide +kernel
theorem cd_161_1163 : qa_code 161 1163 = some (24, 0, 0, 1164, 0) := by decide +kernel
theorem cd_161_1164 : qa_code 161 1164 = some (1, 6, 0, 1166, 0) := by decide +kernel
theorem cd_161_1166 : qa_code 161 1166 = some (22, 0, 0, 1167, 0) := by decide +kernel
theorem cd_161_1167 : qa_code 161 1167 = some (25, 0, 0, 1168, 0) := by decide +kernel
theorem cd_161_1168 : qa_code 161 1168 = some (16, 0, 1173, 1171, 0) := by decide +kernel
theorem cd_161_1171 : qa_code 161 1171 = some (0, 0, 0, 1172, 0) := by decide +kernel
theorem cd_161_1172 : qa_code 161 1172 = some (19, 1, 0, 1172, 0) := by decide +kernel
theorem cd_161_1173 : qa_code 161 1173 = some (17, 0, 0, 1500, 0) := by decide +kernel
theorem cd_161_1176 : qa_code 161 1176 = some (2, 1, 0, 1177, 0) := by decide +kernel
theorem cd_161_1177 : qa_code 161 1177 = some (2, 0, 0, 1178, 0) := by decide +kernel
theorem cd_161_1178 : qa_code 161 1178 = some (1, 4, 0, 1180, 0) := by decide +kernel
theorem cd_161_1180 : qa_code 161 1180 = some (0, 0, 1, 1181, 0) := by decide +kernel
theorem cd_161_1181 : qa_code 161 1181 = some (6, 0, 0, 1182, 0) := by decide +kernel
theorem cd_161_1182 : qa_code 161 1182 = some (26, 0, 0, 1183, 0) := by decide +kernel
theorem cd_161_1183 : qa_code 161 1183 = some (2, 3, 0, 1184, 0) := by decide +kernel
theorem cd_161_1184 : qa_code 161 1184 = some (18, 155, 3, 1187, 143) := by decide +kernel
theorem cd_161_1187 : qa_code 161 1187 = some (3, 5, 0, 1189, 0) := by decide +kernel
theorem cd_161_1189 : qa_code 161 1189 = some (2, 2, 0, 1190, 0) := by decide +kernel
theorem cd_161_1190 : qa_code 161 1190 = some (2, 0, 0, 1191, 0) := by decide +kernel
theorem cd_161_1191 : qa_code 161 1191 = some (1, 4, 0, 1193, 0) := by decide +kernel
theorem cd_161_1193 : qa_code 161 1193 = some (0, 0, 1, 1194, 0) := by decide +kernel
theorem cd_161_1194 : qa_code 161 1194 = some (6, 0, 0, 1195, 0) := by decide +kernel
theorem cd_161_1195 : qa_code 161 1195 = some (26, 0, 0, 1196, 0) := by decide +kernel
theorem cd_161_1196 : qa_code 161 1196 = some (18, 103, 2, 1199, 145) := by decide +kernel
theorem cd_161_1199 : qa_code 161 1199 = some (3, 6, 0, 1201, 0) := by decide +kernel
theorem cd_161_1201 : qa_code 161 1201 = some (2, 2, 0, 1202, 0) := by decide +kernel
theorem cd_161_1202 : qa_code 161 1202 = some (18, 64, 1, 1205, 90) := by decide +kernel
theorem cd_161_1205 : qa_code 161 1205 = some (1, 5, 0, 1207, 0) := by decide +kernel
theorem cd_161_1207 : qa_code 161 1207 = some (15, 0, 1212, 1210, 0) := by decide +kernel
theorem cd_161_1210 : qa_code 161 1210 = some (0, 0, 0, 1211, 0) := by decide +kernel
theorem cd_161_1211 : qa_code 161 1211 = some (19, 1, 0, 1211, 0) := by decide +kernel
theorem cd_161_1212 : qa_code 161 1212 = some (1, 5, 0, 1214, 0) := by decide +kernel
theorem cd_161_1214 : qa_code 161 1214 = some (16, 1, 1229, 1217, 0) := by decide +kernel
theorem cd_161_1217 : qa_code 161 1217 = some (2, 3, 0, 1218, 0) := by decide +kernel
theorem cd_161_1218 : qa_code 161 1218 = some (0, 0, 0, 1219, 0) := by decide +kernel
theorem cd_161_1219 : qa_code 161 1219 = some (24, 0, 0, 1220, 0) := by decide +kernel
theorem cd_161_1220 : qa_code 161 1220 = some (1, 6, 0, 1222, 0) := by decide +kernel
theorem cd_161_1222 : qa_code 161 1222 = some (22, 0, 0, 1223, 0) := by decide +kernel
theorem cd_161_1223 : qa_code 161 1223 = some (25, 0, 0, 1224, 0) := by decide +kernel
theorem cd_161_1224 : qa_code 161 1224 = some (16, 0, 1229, 1227, 0) := by decide +kernel
theorem cd_161_1227 : qa_code 161 1227 = some (0, 0, 0, 1228, 0) := by decide +kernel
theorem cd_161_1228 : qa_code 161 1228 = some (19, 1, 0, 1228, 0) := by decide +kernel
theorem cd_161_1229 : qa_code 161 1229 = some (17, 0, 0, 1500, 0) := by decide +kernel
theorem cd_161_1232 : qa_code 161 1232 = some (2, 1, 0, 1233, 0) := by decide +kernel
theorem cd_161_1233 : qa_code 161 1233 = some (2, 0, 0, 1234, 0) := by decide +kernel
theorem cd_161_1234 : qa_code 161 1234 = some (1, 4, 0, 1236, 0) := by decide +kernel
theorem cd_161_1236 : qa_code 161 1236 = some (0, 0, 1, 1237, 0) := by decide +kernel
theorem cd_161_1237 : qa_code 161 1237 = some (6, 0, 0, 1238, 0) := by decide +kernel
theorem cd_161_1238 : qa_code 161 1238 = some (26, 0, 0, 1239, 0) := by decide +kernel
theorem cd_161_1239 : qa_code 161 1239 = some (2, 3, 0, 1240, 0) := by decide +kernel
theorem cd_161_1240 : qa_code 161 1240 = some (18, 156, 3, 1243, 146) := by decide +kernel
theorem cd_161_1243 : qa_code 161 1243 = some (3, 5, 0, 1245, 0) := by decide +kernel
theorem cd_161_1245 : qa_code 161 1245 = some (2, 2, 0, 1246, 0) := by decide +kernel
theorem cd_161_1246 : qa_code 161 1246 = some (2, 0, 0, 1247, 0) := by decide +kernel
theorem cd_161_1247 : qa_code 161 1247 = some (1, 4, 0, 1249, 0) := by decide +kernel
theorem cd_161_1249 : qa_code 161 1249 = some (0, 0, 1, 1250, 0) := by decide +kernel
theorem cd_161_1250 : qa_code 161 1250 = some (6, 0, 0, 1251, 0) := by decide +kernel
theorem cd_161_1251 : qa_code 161 1251 = some (26, 0, 0, 1252, 0) := by decide +kernel
theorem cd_161_1252 : qa_code 161 1252 = some (18, 104, 2, 1255, 148) := by decide +kernel
theorem cd_161_1255 : qa_code 161 1255 = some (3, 6, 0, 1257, 0) := by decide +kernel
theorem cd_161_1257 : qa_code 161 1257 = some (2, 2, 0, 1258, 0) := by decide +kernel
theorem cd_161_1258 : qa_code 161 1258 = some (18, 64, 1, 1261, 90) := by decide +kernel
theorem cd_161_1261 : qa_code 161 1261 = some (1, 5, 0, 1263, 0) := by decide +kernel
theorem cd_161_1263 : qa_code 161 1263 = some (15, 0, 1268, 1266, 0) := by decide +kernel
theorem cd_161_1266 : qa_code 161 1266 = some (0, 0, 0, 1267, 0) := by decide +kernel
theorem cd_161_1267 : qa_code 161 1267 = some (19, 1, 0, 1267, 0) := by decide +kernel
theorem cd_161_1268 : qa_code 161 1268 = some (1, 5, 0, 1270, 0) := by decide +kernel
theorem cd_161_1270 : qa_code 161 1270 = some (16, 1, 1285, 1273, 0) := by decide +kernel
theorem cd_161_1273 : qa_code 161 1273 = some (2, 3, 0, 1274, 0) := by decide +kernel
theorem cd_161_1274 : qa_code 161 1274 = some (0, 0, 0, 1275, 0) := by decide +kernel
theorem cd_161_1275 : qa_code 161 1275 = some (24, 0, 0, 1276, 0) := by decide +kernel
theorem cd_161_1276 : qa_code 161 1276 = some (1, 6, 0, 1278, 0) := by decide +kernel
theorem cd_161_1278 : qa_code 161 1278 = some (22, 0, 0, 1279, 0) := by decide +kernel
theorem cd_161_1279 : qa_code 161 1279 = some (25, 0, 0, 1280, 0) := by decide +kernel
theorem cd_161_1280 : qa_code 161 1280 = some (16, 0, 1285, 1283, 0) := by decide +kernel
theorem cd_161_1283 : qa_code 161 1283 = some (0, 0, 0, 1284, 0) := by decide +kernel
theorem cd_161_1284 : qa_code 161 1284 = some (19, 1, 0, 1284, 0) := by decide +kernel
theorem cd_161_1285 : qa_code 161 1285 = some (17, 0, 0, 1500, 0) := by decide +kernel
theorem cd_161_1288 : qa_code 161 1288 = some (2, 1, 0, 1289, 0) := by decide +kernel
theorem cd_161_1289 : qa_code 161 1289 = some (2, 0, 0, 1290, 0) := by decide +kernel
theorem cd_161_1290 : qa_code 161 1290 = some (1, 4, 0, 1292, 0) := by decide +kernel
theorem cd_161_1292 : qa_code 161 1292 = some (0, 0, 1, 1293, 0) := by decide +kernel
theorem cd_161_1293 : qa_code 161 1293 = some (6, 0, 0, 1294, 0) := by decide +kernel
theorem cd_161_1294 : qa_code 161 1294 = some (26, 0, 0, 1295, 0) := by decide +kernel
theorem cd_161_1295 : qa_code 161 1295 = some (2, 3, 0, 1296, 0) := by decide +kernel
theorem cd_161_1296 : qa_code 161 1296 = some (18, 157, 3, 1299, 149) := by decide +kernel
theorem cd_161_1299 : qa_code 161 1299 = some (3, 5, 0, 1301, 0) := by decide +kernel
theorem cd_161_1301 : qa_code 161 1301 = some (2, 2, 0, 1302, 0) := by decide +kernel
theorem cd_161_1302 : qa_code 161 1302 = some (2, 0, 0, 1303, 0) := by decide +kernel
theorem cd_161_1303 : qa_code 161 1303 = some (1, 4, 0, 1305, 0) := by decide +kernel
theorem cd_161_1305 : qa_code 161 1305 = some (0, 0, 1, 1306, 0) := by decide +kernel
theorem cd_161_1306 : qa_code 161 1306 = some (6, 0, 0, 1307, 0) := by decide +kernel
theorem cd_161_1307 : qa_code 161 1307 = some (26, 0, 0, 1308, 0) := by decide +kernel
theorem cd_161_1308 : qa_code 161 1308 = some (18, 105, 2, 1311, 151) := by decide +kernel
theorem cd_161_1311 : qa_code 161 1311 = some (3, 6, 0, 1313, 0) := by decide +kernel
theorem cd_161_1313 : qa_code 161 1313 = some (2, 2, 0, 1314, 0) := by decide +kernel
theorem cd_161_1314 : qa_code 161 1314 = some (18, 64, 1, 1317, 90) := by decide +kernel
theorem cd_161_1317 : qa_code 161 1317 = some (1, 5, 0, 1319, 0) := by decide +kernel
theorem cd_161_1319 : qa_code 161 1319 = some (15, 0, 1324, 1322, 0) := by decide +kernel
theorem cd_161_1322 : qa_code 161 1322 = some (0, 0, 0, 1323, 0) := by decide +kernel
theorem cd_161_1323 : qa_code 161 1323 = some (19, 1, 0, 1323, 0) := by decide +kernel
theorem cd_161_1324 : qa_code 161 1324 = some (1, 5, 0, 1326, 0) := by decide +kernel
theorem cd_161_1326 : qa_code 161 1326 = some (16, 1, 1341, 1329, 0) := by decide +kernel
theorem cd_161_1329 : qa_code 161 1329 = some (2, 3, 0, 1330, 0) := by decide +kernel
theorem cd_161_1330 : qa_code 161 1330 = some (0, 0, 0, 1331, 0) := by decide +kernel
theorem cd_161_1331 : qa_code 161 1331 = some (24, 0, 0, 1332, 0) := by decide +kernel
theorem cd_161_1332 : qa_code 161 1332 = some (1, 6, 0, 1334, 0) := by decide +kernel
theorem cd_161_1334 : qa_code 161 1334 = some (22, 0, 0, 1335, 0) := by decide +kernel
theorem cd_161_1335 : qa_code 161 1335 = some (25, 0, 0, 1336, 0) := by decide +kernel
theorem cd_161_1336 : qa_code 161 1336 = some (16, 0, 1341, 1339, 0) := by decide +kernel
theorem cd_161_1339 : qa_code 161 1339 = some (0, 0, 0, 1340, 0) := by decide +kernel
theorem cd_161_1340 : qa_code 161 1340 = some (19, 1, 0, 1340, 0) := by decide +kernel
theorem cd_161_1341 : qa_code 161 1341 = some (17, 0, 0, 1500, 0) := by decide +kernel
theorem cd_161_1344 : qa_code 161 1344 = some (2, 1, 0, 1345, 0) := by decide +kernel
theorem cd_161_1345 : qa_code 161 1345 = some (2, 0, 0, 1346, 0) := by decide +kernel
theorem cd_161_1346 : qa_code 161 1346 = some (1, 4, 0, 1348, 0) := by decide +kernel
theorem cd_161_1348 : qa_code 161 1348 = some (0, 0, 1, 1349, 0) := by decide +kernel
theorem cd_161_1349 : qa_code 161 1349 = some (6, 0, 0, 1350, 0) := by decide +kernel
theorem cd_161_1350 : qa_code 161 1350 = some (26, 0, 0, 1351, 0) := by decide +kernel
theorem cd_161_1351 : qa_code 161 1351 = some (2, 3, 0, 1352, 0) := by decide +kernel
theorem cd_161_1352 : qa_code 161 1352 = some (18, 158, 3, 1355, 152) := by decide +kernel
theorem cd_161_1355 : qa_code 161 1355 = some (3, 5, 0, 1357, 0) := by decide +kernel
theorem cd_161_1357 : qa_code 161 1357 = some (2, 2, 0, 1358, 0) := by decide +kernel
theorem cd_161_1358 : qa_code 161 1358 = some (2, 0, 0, 1359, 0) := by decide +kernel
theorem cd_161_1359 : qa_code 161 1359 = some (1, 4, 0, 1361, 0) := by decide +kernel
theorem cd_161_1361 : qa_code 161 1361 = some (0, 0, 1, 1362, 0) := by decide +kernel
theorem cd_161_1362 : qa_code 161 1362 = some (6, 0, 0, 1363, 0) := by decide +kernel
theorem cd_161_1363 : qa_code 161 1363 = some (26, 0, 0, 1364, 0) := by decide +kernel
theorem cd_161_1364 : qa_code 161 1364 = some (18, 107, 2, 1367, 154) := by decide +kernel
theorem cd_161_1367 : qa_code 161 1367 = some (3, 6, 0, 1369, 0) := by decide +kernel
theorem cd_161_1369 : qa_code 161 1369 = some (2, 2, 0, 1370, 0) := by decide +kernel
theorem cd_161_1370 : qa_code 161 1370 = some (18, 64, 1, 1373, 90) := by decide +kernel
theorem cd_161_1373 : qa_code 161 1373 = some (1, 5, 0, 1375, 0) := by decide +kernel
theorem cd_161_1375 : qa_code 161 1375 = some (15, 0, 1380, 1378, 0) := by decide +kernel
theorem cd_161_1378 : qa_code 161 1378 = some (0, 0, 0, 1379, 0) := by decide +kernel
theorem cd_161_1379 : qa_code 161 1379 = some (19, 1, 0, 1379, 0) := by decide +kernel
theorem cd_161_1380 : qa_code 161 1380 = some (1, 5, 0, 1382, 0) := by decide +kernel
theorem cd_161_1382 : qa_code 161 1382 = some (16, 1, 1397, 1385, 0) := by decide +kernel
theorem cd_161_1385 : qa_code 161 1385 = some (2, 3, 0, 1386, 0) := by decide +kernel
theorem cd_161_1386 : qa_code 161 1386 = some (0, 0, 0, 1387, 0) := by decide +kernel
theorem cd_161_1387 : qa_code 161 1387 = some (24, 0, 0, 1388, 0) := by decide +kernel
theorem cd_161_1388 : qa_code 161 1388 = some (1, 6, 0, 1390, 0) := by decide +kernel
theorem cd_161_1390 : qa_code 161 1390 = some (22, 0, 0, 1391, 0) := by decide +kernel
theorem cd_161_1391 : qa_code 161 1391 = some (25, 0, 0, 1392, 0) := by decide +kernel
theorem cd_161_1392 : qa_code 161 1392 = some (16, 0, 1397, 1395, 0) := by decide +kernel
theorem cd_161_1395 : qa_code 161 1395 = some (0, 0, 0, 1396, 0) := by decide +kernel
theorem cd_161_1396 : qa_code 161 1396 = some (19, 1, 0, 1396, 0) := by decide +kernel
theorem cd_161_1397 : qa_code 161 1397 = some (17, 0, 0, 1500, 0) := by decide +kernel
theorem cd_161_1400 : qa_code 161 1400 = some (2, 1, 0, 1401, 0) := by decide +kernel
theorem cd_161_1401 : qa_code 161 1401 = some (2, 3, 0, 1402, 0) := by decide +kernel
theorem cd_161_1402 : qa_code 161 1402 = some (18, 159, 2, 1405, 155) := by decide +kernel
theorem cd_161_1405 : qa_code 161 1405 = some (3, 5, 0, 1407, 0) := by decide +kernel
theorem cd_161_1407 : qa_code 161 1407 = some (2, 2, 0, 1408, 0) := by decide +kernel
theorem cd_161_1408 : qa_code 161 1408 = some (18, 109, 1, 1411, 158) := by decide +kernel
theorem cd_161_1411 : qa_code 161 1411 = some (3, 6, 0, 1413, 0) := by decide +kernel
theorem cd_161_1413 : qa_code 161 1413 = some (2, 2, 0, 1414, 0) := by decide +kernel
theorem cd_161_1414 : qa_code 161 1414 = some (18, 64, 1, 1417, 90) := by decide +kernel
theorem cd_161_1417 : qa_code 161 1417 = some (1, 5, 0, 1419, 0) := by decide +kernel
theorem cd_161_1419 : qa_code 161 1419 = some (15, 0, 1424, 1422, 0) := by decide +kernel
theorem cd_161_1422 : qa_code 161 1422 = some (0, 0, 0, 1423, 0) := by decide +kernel
theorem cd_161_1423 : qa_code 161 1423 = some (19, 1, 0, 1423, 0) := by decide +kernel
theorem cd_161_1424 : qa_code 161 1424 = some (1, 5, 0, 1426, 0) := by decide +kernel
theorem cd_161_1426 : qa_code 161 1426 = some (16, 1, 1441, 1429, 0) := by decide +kernel
theorem cd_161_1429 : qa_code 161 1429 = some (2, 3, 0, 1430, 0) := by decide +kernel
theorem cd_161_1430 : qa_code 161 1430 = some (0, 0, 0, 1431, 0) := by decide +kernel
theorem cd_161_1431 : qa_code 161 1431 = some (24, 0, 0, 1432, 0) := by decide +kernel
theorem cd_161_1432 : qa_code 161 1432 = some (1, 6, 0, 1434, 0) := by decide +kernel
theorem cd_161_1434 : qa_code 161 1434 = some (22, 0, 0, 1435, 0) := by decide +kernel
theorem cd_161_1435 : qa_code 161 1435 = some (25, 0, 0, 1436, 0) := by decide +kernel
theorem cd_161_1436 : qa_code 161 1436 = some (16, 0, 1441, 1439, 0) := by decide +kernel
theorem cd_161_1439 : qa_code 161 1439 = some (0, 0, 0, 1440, 0) := by decide +kernel
theorem cd_161_1440 : qa_code 161 1440 = some (19, 1, 0, 1440, 0) := by decide +kernel
theorem cd_161_1441 : qa_code 161 1441 = some (17, 0, 0, 1500, 0) := by decide +kernel
theorem cd_161_1444 : qa_code 161 1444 = some (2, 1, 0, 1445, 0) := by decide +kernel
theorem cd_161_1445 : qa_code 161 1445 = some (2, 0, 0, 1446, 0) := by decide +kernel
theorem cd_161_1446 : qa_code 161 1446 = some (1, 4, 0, 1448, 0) := by decide +kernel
theorem cd_161_1448 : qa_code 161 1448 = some (0, 0, 1, 1449, 0) := by decide +kernel
theorem cd_161_1449 : qa_code 161 1449 = some (6, 0, 0, 1450, 0) := by decide +kernel
theorem cd_161_1450 : qa_code 161 1450 = some (26, 0, 0, 1451, 0) := by decide +kernel
theorem cd_161_1451 : qa_code 161 1451 = some (2, 3, 0, 1452, 0) := by decide +kernel
theorem cd_161_1452 : qa_code 161 1452 = some (18, 160, 3, 1455, 159) := by decide +kernel
theorem cd_161_1455 : qa_code 161 1455 = some (3, 5, 0, 1457, 0) := by decide +kernel
theorem cd_161_1457 : qa_code 161 1457 = some (2, 2, 0, 1458, 0) := by decide +kernel
theorem cd_161_1458 : qa_code 161 1458 = some (2, 0, 0, 1459, 0) := by decide +kernel
theorem cd_161_1459 : qa_code 161 1459 = some (1, 4, 0, 1461, 0) := by decide +kernel
theorem cd_161_1461 : qa_code 161 1461 = some (0, 0, 1, 1462, 0) := by decide +kernel
theorem cd_161_1462 : qa_code 161 1462 = some (6, 0, 0, 1463, 0) := by decide +kernel
theorem cd_161_1463 : qa_code 161 1463 = some (26, 0, 0, 1464, 0) := by decide +kernel
theorem cd_161_1464 : qa_code 161 1464 = some (18, 110, 2, 1467, 161) := by decide +kernel
theorem cd_161_1467 : qa_code 161 1467 = some (3, 6, 0, 1469, 0) := by decide +kernel
theorem cd_161_1469 : qa_code 161 1469 = some (2, 2, 0, 1470, 0) := by decide +kernel
theorem cd_161_1470 : qa_code 161 1470 = some (18, 64, 1, 1473, 90) := by decide +kernel
theorem cd_161_1473 : qa_code 161 1473 = some (1, 5, 0, 1475, 0) := by decide +kernel
theorem cd_161_1475 : qa_code 161 1475 = some (15, 0, 1480, 1478, 0) := by decide +kernel
theorem cd_161_1478 : qa_code 161 1478 = some (0, 0, 0, 1479, 0) := by decide +kernel
theorem cd_161_1479 : qa_code 161 1479 = some (19, 1, 0, 1479, 0) := by decide +kernel
theorem cd_161_1480 : qa_code 161 1480 = some (1, 5, 0, 1482, 0) := by decide +kernel
theorem cd_161_1482 : qa_code 161 1482 = some (16, 1, 1497, 1485, 0) := by decide +kernel
theorem cd_161_1485 : qa_code 161 1485 = some (2, 3, 0, 1486, 0) := by decide +kernel
theorem cd_161_1486 : qa_code 161 1486 = some (0, 0, 0, 1487, 0) := by decide +kernel
theorem cd_161_1487 : qa_code 161 1487 = some (24, 0, 0, 1488, 0) := by decide +kernel
theorem cd_161_1488 : qa_code 161 1488 = some (1, 6, 0, 1490, 0) := by decide +kernel
theorem cd_161_1490 : qa_code 161 1490 = some (22, 0, 0, 1491, 0) := by decide +kernel
theorem cd_161_1491 : qa_code 161 1491 = some (25, 0, 0, 1492, 0) := by decide +kernel
theorem cd_161_1492 : qa_code 161 1492 = some (16, 0, 1497, 1495, 0) := by decide +kernel
theorem cd_161_1495 : qa_code 161 1495 = some (0, 0, 0, 1496, 0) := by decide +kernel
theorem cd_161_1496 : qa_code 161 1496 = some (19, 1, 0, 1496, 0) := by decide +kernel
theorem cd_161_1497 : qa_code 161 1497 = some (17, 0, 0, 1500, 0) := by decide +kernel
theorem cd_161_1500 : qa_code 161 1500 = some (5, 4, 7, 1503, 0) := by decide +kernel
theorem cd_161_1503 : qa_code 161 1503 = some (17, 0, 0, 23, 0) := by decide +kernel
theorem cd_161_1506 : qa_code 161 1506 = some (0, 0, 1, 1507, 0) := by decide +kernel
theorem cd_161_1507 : qa_code 161 1507 = some (19, 1, 0, 1507, 0) := by decide +kernel
end
section
abbrev qa_P : Type := Nat → Nat → qa_L → List qa_V → qa_Mem → qa_R → qa_Mem → Prop
def qa_do (P : qa_P) (i op a : Nat) (b : Int) (nx pc : Nat) (L : qa_L) (S : List qa_V) (M : qa_Mem) (r : qa_R) (M' : qa_Mem) : Prop :=
  (op = 0 ∧ P i nx L (qi b :: S) M r M') ∨
  (op = 1 ∧ ∃ (x : Int), qa_lk L a = some (qi x) ∧ P i nx L (qi x :: S) M r M') ∨
  (op = 2 ∧ ∃ (k : Nat), qa_lk L a = some (qr k) ∧ P i nx L (qr k :: S) M r M') ∨
  (op = 3 ∧ ∃ (x : Int) (S0 : List qa_V), S = qi x :: S0 ∧ P i nx ((a, qi x) :: L) S0 M r M') ∨
  (op = 4 ∧ ∃ (k : Nat) (S0 : List qa_V), S = qr k :: S0 ∧ P i nx ((a, qr k) :: L) S0 M r M') ∨
  (op = 5 ∧ ∃ (x : Int), qa_lk L a = some (qi x) ∧ qa_InR (x + b) ∧ P i nx ((a, qi (x + b)) :: L) S M r M') ∨
  (op = 6 ∧ ∃ (x y z : Int) (S0 : List qa_V), S = qi y :: qi x :: S0 ∧ qa_bin a x y z ∧ P i nx L (qi z :: S0) M r M') ∨
  (op = 7 ∧ ∃ (x : Int) (S0 : List qa_V), S = qi x :: S0 ∧ qa_InR (-x) ∧ P i nx L (qi (-x) :: S0) M r M') ∨
  (op = 8 ∧ ∃ (v : qa_V) (S0 : List qa_V), S = v :: S0 ∧ qa_c1 v = true ∧ P i nx L (v :: v :: S0) M r M') ∨
  (op = 9 ∧ ∃ (v w : qa_V) (S0 : List qa_V), S = v :: w :: S0 ∧ qa_c1 v = true ∧ qa_c1 w = true ∧ P i nx L (v :: w :: v :: w :: S0) M r M') ∨
  (op = 10 ∧ ∃ (x : Int) (k n : Nat) (S0 : List qa_V), S = qi x :: qr k :: S0 ∧ qa_len a k = some n ∧ (a = 0 ∨ a = 1) ∧ 0 ≤ x ∧ x < n ∧ P i nx L (qi (M k x) :: S0) M r M') ∨
  (op = 11 ∧ ∃ (v x : Int) (k n : Nat) (S0 : List qa_V), S = qi v :: qi x :: qr k :: S0 ∧ qa_len a k = some n ∧ (a = 0 ∨ a = 1 ∧ (v = 0 ∨ v = 1)) ∧ 0 ≤ x ∧ x < n ∧ P i nx L S0 (qa_upd M k x v) r M') ∨
  (op = 12 ∧ ∃ (k : Nat) (S0 : List qa_V), S = qr k :: S0 ∧ qa_fI a k b.toNat = true ∧ 0 ≤ b ∧ P i nx L (qi (M k b) :: S0) M r M') ∨
  (op = 13 ∧ ∃ (k k1 : Nat) (S0 : List qa_V), S = qr k :: S0 ∧ qa_fR a k b.toNat = some k1 ∧ P i nx L (qr k1 :: S0) M r M') ∨
  (op = 14 ∧ ∃ (v : Int) (k : Nat) (S0 : List qa_V), S = qi v :: qr k :: S0 ∧ qa_fI a k b.toNat = true ∧ 0 ≤ b ∧ P i nx L S0 (qa_upd M k b v) r M') ∨
  (op = 15 ∧ ∃ (x y : Int) (t : Nat) (S0 : List qa_V), S = qi y :: qi x :: S0 ∧ (t : Int) = b ∧ (qa_cmp a x y → P i t L S0 M r M') ∧ (¬ qa_cmp a x y → P i nx L S0 M r M')) ∨
  (op = 16 ∧ ∃ (x : Int) (t : Nat) (S0 : List qa_V), S = qi x :: S0 ∧ (t : Int) = b ∧ (qa_cmp a x 0 → P i t L S0 M r M') ∧ (¬ qa_cmp a x 0 → P i nx L S0 M r M')) ∨
  (op = 17 ∧ P i nx L S M r M') ∨
  (op = 18 ∧ ∃ (as S0 : List qa_V) (r1 : qa_R) (M1 : qa_Mem), S = as ++ S0 ∧ (as.length : Int) = b ∧ as.all qa_c1 = true ∧ S0.length ≤ 4 ∧ P a 0 (qa_loc 0 as.reverse) [] M r1 M1 ∧
    ((∃ o, r1 = .inl o ∧ P i nx L (o.toList ++ S0) M1 r M') ∨ (∃ E, r1 = .inr E ∧ qa_catch (qa_hnd i) pc E = none ∧ r = .inr E ∧ M' = M1) ∨ (∃ E h, r1 = .inr E ∧ qa_catch (qa_hnd i) pc E = some h ∧ P i h L [qr 999] M1 r M'))) ∨
  (op = 19 ∧ ∃ (x : Int), S = [qi x] ∧ r = .inl (some (qi x)) ∧ M' = M ∧ (a = 0 ∨ a = 1 ∧ (x = 0 ∨ x = 1))) ∨
  (op = 20 ∧ S = [] ∧ r = .inl none ∧ M' = M) ∨
  (op = 21 ∧ r = .inr a ∧ M' = qa_upd M 99 0 (M 99 0 + 1)) ∨
  (op = 22 ∧ ∃ (x : Int) (S0 : List qa_V), S = qi x :: S0 ∧ P i nx L (ql x :: S0) M r M') ∨
  (op = 23 ∧ ∃ (v x : Int) (k n : Nat) (S0 : List qa_V), S = ql v :: qi x :: qr k :: S0 ∧ qa_len 2 k = some n ∧ 0 ≤ x ∧ x < n ∧ P i nx L S0 (qa_upd M k x v) r M') ∨
  (op = 24 ∧ ∃ (x : Int) (k n : Nat) (S0 : List qa_V), S = qi x :: qr k :: S0 ∧ qa_len 2 k = some n ∧ 0 ≤ x ∧ x < n ∧ P i nx L (ql (M k x) :: S0) M r M') ∨
  (op = 25 ∧ ∃ (x y : Int) (S0 : List qa_V), S = ql y :: ql x :: S0 ∧ P i nx L (qi (qa_sgn x y) :: S0) M r M') ∨
  (op = 26 ∧ ∃ (x : Int) (S0 : List qa_V), S = qi x :: qr 998 :: S0 ∧ 0 ≤ x ∧ x < M 97 0 ∧ P i nx L (qi (M 98 x) :: S0) M r M') ∨
  (op = 27 ∧ ∃ (S0 : List qa_V), S = qr 998 :: S0 ∧ P i nx L (qi (M 97 0) :: S0) M r M') ∨
  (op = 28 ∧ ∃ (x : Int) (S0 : List qa_V), S = qi x :: S0 ∧ (∀ (j t : Nat), qa_sw[j]? = some t → x = (j : Int) → P i t L S0 M r M') ∧ ((x < 0 ∨ (qa_sw.length : Int) ≤ x) → P i nx L S0 M r M'))
def qa_sub (L' L : qa_L) : Prop := ∀ (a : Nat) (v : qa_V), qa_lk L' a = some v → qa_lk L a = some v
def qa_step (P : qa_P) : qa_P := fun i pc L S M r M' => (∃ L', qa_sub L' L ∧ P i pc L' S M r M') ∨ ∃ op a b nx cp, qa_code i pc = some (op, a, b, nx, cp) ∧ qa_do P i op a b nx pc L S M r M'
/-- method i from pc, with locals L, stack S, memory M, comes to its end with r and the memory M' -/
def qa_E : qa_P := fun i pc L S M r M' => ∀ P : qa_P, (∀ i pc L S M r M', qa_step P i pc L S M r M' → P i pc L S M r M') → P i pc L S M r M'
theorem qa_mono {P Q : qa_P} (h : ∀ i pc L S M r M', P i pc L S M r M' → Q i pc L S M r M') {i op a : Nat} {b : Int} {nx pc : Nat} {L : qa_L} {S : List qa_V} {M : qa_Mem} {r : qa_R} {M' : qa_Mem} : qa_do P i op a b nx pc L S M r M' → qa_do Q i op a b nx pc L S M r M' := by
  unfold qa_do
  refine Or.imp (fun ⟨e, k0⟩ => ⟨e, h _ _ _ _ _ _ _ k0⟩) ?_
  refine Or.imp (fun ⟨e, w0, w1, k0⟩ => ⟨e, w0, w1, h _ _ _ _ _ _ _ k0⟩) ?_
  refine Or.imp (fun ⟨e, w0, w1, k0⟩ => ⟨e, w0, w1, h _ _ _ _ _ _ _ k0⟩) ?_
  refine Or.imp (fun ⟨e, w0, w1, w2, k0⟩ => ⟨e, w0, w1, w2, h _ _ _ _ _ _ _ k0⟩) ?_
  refine Or.imp (fun ⟨e, w0, w1, w2, k0⟩ => ⟨e, w0, w1, w2, h _ _ _ _ _ _ _ k0⟩) ?_
  refine Or.imp (fun ⟨e, w0, w1, w2, k0⟩ => ⟨e, w0, w1, w2, h _ _ _ _ _ _ _ k0⟩) ?_
  refine Or.imp (fun ⟨e, w0, w1, w2, w3, w4, w5, k0⟩ => ⟨e, w0, w1, w2, w3, w4, w5, h _ _ _ _ _ _ _ k0⟩) ?_
  refine Or.imp (fun ⟨e, w0, w1, w2, w3, k0⟩ => ⟨e, w0, w1, w2, w3, h _ _ _ _ _ _ _ k0⟩) ?_
  refine Or.imp (fun ⟨e, w0, w1, w2, w3, k0⟩ => ⟨e, w0, w1, w2, w3, h _ _ _ _ _ _ _ k0⟩) ?_
  refine Or.imp (fun ⟨e, w0, w1, w2, w3, w4, w5, k0⟩ => ⟨e, w0, w1, w2, w3, w4, w5, h _ _ _ _ _ _ _ k0⟩) ?_
  refine Or.imp (fun ⟨e, w0, w1, w2, w3, w4, w5, w6, w7, w8, k0⟩ => ⟨e, w0, w1, w2, w3, w4, w5, w6, w7, w8, h _ _ _ _ _ _ _ k0⟩) ?_
  refine Or.imp (fun ⟨e, w0, w1, w2, w3, w4, w5, w6, w7, w8, w9, k0⟩ => ⟨e, w0, w1, w2, w3, w4, w5, w6, w7, w8, w9, h _ _ _ _ _ _ _ k0⟩) ?_
  refine Or.imp (fun ⟨e, w0, w1, w2, w3, w4, k0⟩ => ⟨e, w0, w1, w2, w3, w4, h _ _ _ _ _ _ _ k0⟩) ?_
  refine Or.imp (fun ⟨e, w0, w1, w2, w3, w4, k0⟩ => ⟨e, w0, w1, w2, w3, w4, h _ _ _ _ _ _ _ k0⟩) ?_
  refine Or.imp (fun ⟨e, w0, w1, w2, w3, w4, w5, k0⟩ => ⟨e, w0, w1, w2, w3, w4, w5, h _ _ _ _ _ _ _ k0⟩) ?_
  refine Or.imp (fun ⟨e, w0, w1, w2, w3, w4, w5, k0, k1⟩ => ⟨e, w0, w1, w2, w3, w4, w5, (fun q => h _ _ _ _ _ _ _ (k0 q)), (fun q => h _ _ _ _ _ _ _ (k1 q))⟩) ?_
  refine Or.imp (fun ⟨e, w0, w1, w2, w3, w4, k0, k1⟩ => ⟨e, w0, w1, w2, w3, w4, (fun q => h _ _ _ _ _ _ _ (k0 q)), (fun q => h _ _ _ _ _ _ _ (k1 q))⟩) ?_
  refine Or.imp (fun ⟨e, k0⟩ => ⟨e, h _ _ _ _ _ _ _ k0⟩) ?_
  refine Or.imp (fun ⟨e, as, S0, r1, M1, e1, e2, e3, e4, k1, k⟩ => ⟨e, as, S0, r1, M1, e1, e2, e3, e4, h _ _ _ _ _ _ _ k1, k.elim (fun ⟨o, f1, f2⟩ => Or.inl ⟨o, f1, h _ _ _ _ _ _ _ f2⟩) (fun k => k.elim (fun f => Or.inr (Or.inl f)) (fun ⟨E, hh, f1, f2, f3⟩ => Or.inr (Or.inr ⟨E, hh, f1, f2, h _ _ _ _ _ _ _ f3⟩)))⟩) ?_
  refine Or.imp (fun ⟨e, w0, w1, w2, w3, w4⟩ => ⟨e, w0, w1, w2, w3, w4⟩) ?_
  refine Or.imp (fun ⟨e, w0, w1, w2⟩ => ⟨e, w0, w1, w2⟩) ?_
  refine Or.imp (fun ⟨e, w0, w1⟩ => ⟨e, w0, w1⟩) ?_
  refine Or.imp (fun ⟨e, w0, w1, w2, k0⟩ => ⟨e, w0, w1, w2, h _ _ _ _ _ _ _ k0⟩) ?_
  refine Or.imp (fun ⟨e, w0, w1, w2, w3, w4, w5, w6, w7, w8, k0⟩ => ⟨e, w0, w1, w2, w3, w4, w5, w6, w7, w8, h _ _ _ _ _ _ _ k0⟩) ?_
  refine Or.imp (fun ⟨e, w0, w1, w2, w3, w4, w5, w6, w7, k0⟩ => ⟨e, w0, w1, w2, w3, w4, w5, w6, w7, h _ _ _ _ _ _ _ k0⟩) ?_
  refine Or.imp (fun ⟨e, w0, w1, w2, w3, k0⟩ => ⟨e, w0, w1, w2, w3, h _ _ _ _ _ _ _ k0⟩) ?_
  refine Or.imp (fun ⟨e, w0, w1, w2, w3, w4, k0⟩ => ⟨e, w0, w1, w2, w3, w4, h _ _ _ _ _ _ _ k0⟩) ?_
  refine Or.imp (fun ⟨e, w0, w1, k0⟩ => ⟨e, w0, w1, h _ _ _ _ _ _ _ k0⟩) ?_
  exact (fun ⟨e, w0, w1, w2, k0, k1⟩ => ⟨e, w0, w1, w2, (fun j t q1 q2 => h _ _ _ _ _ _ _ (k0 j t q1 q2)), (fun q => h _ _ _ _ _ _ _ (k1 q))⟩)
theorem qa_fold {i pc : Nat} {L : qa_L} {S : List qa_V} {M M' : qa_Mem} {r : qa_R} (h : qa_step qa_E i pc L S M r M') : qa_E i pc L S M r M' := fun P hP => hP _ _ _ _ _ _ _ (h.elim (fun ⟨L', h1, h2⟩ => Or.inl ⟨L', h1, h2 P hP⟩) (fun ⟨op, a, b, nx, cp, h1, h2⟩ => Or.inr ⟨op, a, b, nx, cp, h1, qa_mono (fun _ _ _ _ _ _ _ k => k P hP) h2⟩))
theorem R_norm {i pc : Nat} {L L' : qa_L} {S : List qa_V} {M M' : qa_Mem} {r : qa_R} (h : qa_sub L' L) (k : qa_E i pc L' S M r M') : qa_E i pc L S M r M' := qa_fold (Or.inl ⟨L', h, k⟩)
theorem qs_n {L : qa_L} : qa_sub [] L := fun a v h => by cases h
theorem qs_c {L t : qa_L} {a : Nat} {v : qa_V} (h : qa_lk L a = some v) (ht : qa_sub t L) : qa_sub ((a, v) :: t) L := fun b w hb => by
  unfold qa_lk at hb
  cases he : Nat.beq a b with
  | true => rw [he] at hb; rw [← Nat.eq_of_beq_eq_true he, h]; exact hb
  | false => rw [he] at hb; exact ht b w hb
theorem R_push {i pc a nx cp : Nat} {b : Int} {L : qa_L} {S : List qa_V} {M M' : qa_Mem} {r : qa_R} (hc : qa_code i pc = some (0, a, b, nx, cp)) (k : qa_E i nx L (qi b :: S) M r M') : qa_E i pc L (S) M r M' := qa_fold (Or.inr ⟨_, _, _, _, _, hc, Or.inl (⟨rfl, k⟩)⟩)
theorem R_iload {i pc a nx cp : Nat} {b : Int} {L : qa_L} {S : List qa_V} {M M' : qa_Mem} {r : qa_R} {x : Int} (hc : qa_code i pc = some (1, a, b, nx, cp)) (hv : qa_lk L a = some (qi x)) (k : qa_E i nx L (qi x :: S) M r M') : qa_E i pc L (S) M r M' := qa_fold (Or.inr ⟨_, _, _, _, _, hc, Or.inr (Or.inl (⟨rfl, _, hv, k⟩))⟩)
theorem R_aload {i pc a nx cp : Nat} {b : Int} {L : qa_L} {S : List qa_V} {M M' : qa_Mem} {r : qa_R} {x : Nat} (hc : qa_code i pc = some (2, a, b, nx, cp)) (hv : qa_lk L a = some (qr x)) (k : qa_E i nx L (qr x :: S) M r M') : qa_E i pc L (S) M r M' := qa_fold (Or.inr ⟨_, _, _, _, _, hc, Or.inr (Or.inr (Or.inl (⟨rfl, _, hv, k⟩)))⟩)
theorem R_istore {i pc a nx cp : Nat} {b : Int} {L : qa_L} {S : List qa_V} {M M' : qa_Mem} {r : qa_R} {x : Int} (hc : qa_code i pc = some (3, a, b, nx, cp)) (k : qa_E i nx ((a, qi x) :: L) S M r M') : qa_E i pc L (qi x :: S) M r M' := qa_fold (Or.inr ⟨_, _, _, _, _, hc, Or.inr (Or.inr (Or.inr (Or.inl (⟨rfl, _, _, rfl, k⟩))))⟩)
theorem R_astore {i pc a nx cp : Nat} {b : Int} {L : qa_L} {S : List qa_V} {M M' : qa_Mem} {r : qa_R} {x : Nat} (hc : qa_code i pc = some (4, a, b, nx, cp)) (k : qa_E i nx ((a, qr x) :: L) S M r M') : qa_E i pc L (qr x :: S) M r M' := qa_fold (Or.inr ⟨_, _, _, _, _, hc, Or.inr (Or.inr (Or.inr (Or.inr (Or.inl (⟨rfl, _, _, rfl, k⟩)))))⟩)
theorem R_iinc {i pc a nx cp : Nat} {b : Int} {L : qa_L} {S : List qa_V} {M M' : qa_Mem} {r : qa_R} {x : Int} (hc : qa_code i pc = some (5, a, b, nx, cp)) (hv : qa_lk L a = some (qi x)) (h : qa_InR (x + b)) (k : qa_E i nx ((a, qi (x + b)) :: L) S M r M') : qa_E i pc L (S) M r M' := qa_fold (Or.inr ⟨_, _, _, _, _, hc, Or.inr (Or.inr (Or.inr (Or.inr (Or.inr (Or.inl (⟨rfl, _, hv, h, k⟩))))))⟩)
theorem R_iadd {i pc nx cp : Nat} {b : Int} {L : qa_L} {S : List qa_V} {M M' : qa_Mem} {r : qa_R} {x y : Int} (hc : qa_code i pc = some (6, 0, b, nx, cp)) (h : qa_InR (x + y)) (k : qa_E i nx L (qi (x + y) :: S) M r M') : qa_E i pc L (qi y :: qi x :: S) M r M' := qa_fold (Or.inr ⟨_, _, _, _, _, hc, Or.inr (Or.inr (Or.inr (Or.inr (Or.inr (Or.inr (Or.inl (⟨rfl, _, _, _, _, rfl, Or.inl ⟨rfl, rfl, h⟩, k⟩)))))))⟩)
theorem R_iaddw {i pc nx cp : Nat} {b : Int} {L : qa_L} {S : List qa_V} {M M' : qa_Mem} {r : qa_R} {x y : Int} (hc : qa_code i pc = some (6, 1, b, nx, cp)) (k : qa_E i nx L (qi (qa_wrap (x + y)) :: S) M r M') : qa_E i pc L (qi y :: qi x :: S) M r M' := qa_fold (Or.inr ⟨_, _, _, _, _, hc, Or.inr (Or.inr (Or.inr (Or.inr (Or.inr (Or.inr (Or.inl (⟨rfl, _, _, _, _, rfl, Or.inr (Or.inl ⟨rfl, rfl⟩), k⟩)))))))⟩)
theorem R_isub {i pc nx cp : Nat} {b : Int} {L : qa_L} {S : List qa_V} {M M' : qa_Mem} {r : qa_R} {x y : Int} (hc : qa_code i pc = some (6, 2, b, nx, cp)) (h : qa_InR (x - y)) (k : qa_E i nx L (qi (x - y) :: S) M r M') : qa_E i pc L (qi y :: qi x :: S) M r M' := qa_fold (Or.inr ⟨_, _, _, _, _, hc, Or.inr (Or.inr (Or.inr (Or.inr (Or.inr (Or.inr (Or.inl (⟨rfl, _, _, _, _, rfl, Or.inr (Or.inr (Or.inl ⟨rfl, rfl, h⟩)), k⟩)))))))⟩)
theorem R_imul {i pc nx cp : Nat} {b : Int} {L : qa_L} {S : List qa_V} {M M' : qa_Mem} {r : qa_R} {x y : Int} (hc : qa_code i pc = some (6, 3, b, nx, cp)) (h : qa_InR (x * y)) (k : qa_E i nx L (qi (x * y) :: S) M r M') : qa_E i pc L (qi y :: qi x :: S) M r M' := qa_fold (Or.inr ⟨_, _, _, _, _, hc, Or.inr (Or.inr (Or.inr (Or.inr (Or.inr (Or.inr (Or.inl (⟨rfl, _, _, _, _, rfl, Or.inr (Or.inr (Or.inr (Or.inl ⟨rfl, rfl, h⟩))), k⟩)))))))⟩)
theorem R_idiv {i pc nx cp : Nat} {b : Int} {L : qa_L} {S : List qa_V} {M M' : qa_Mem} {r : qa_R} {x y : Int} (hc : qa_code i pc = some (6, 4, b, nx, cp)) (h : 0 < y) (k : qa_E i nx L (qi (x.tdiv y) :: S) M r M') : qa_E i pc L (qi y :: qi x :: S) M r M' := qa_fold (Or.inr ⟨_, _, _, _, _, hc, Or.inr (Or.inr (Or.inr (Or.inr (Or.inr (Or.inr (Or.inl (⟨rfl, _, _, _, _, rfl, Or.inr (Or.inr (Or.inr (Or.inr (Or.inl ⟨rfl, h, rfl⟩)))), k⟩)))))))⟩)
theorem R_irem {i pc nx cp : Nat} {b : Int} {L : qa_L} {S : List qa_V} {M M' : qa_Mem} {r : qa_R} {x y : Int} (hc : qa_code i pc = some (6, 5, b, nx, cp)) (h : 0 < y) (k : qa_E i nx L (qi (x.tmod y) :: S) M r M') : qa_E i pc L (qi y :: qi x :: S) M r M' := qa_fold (Or.inr ⟨_, _, _, _, _, hc, Or.inr (Or.inr (Or.inr (Or.inr (Or.inr (Or.inr (Or.inl (⟨rfl, _, _, _, _, rfl, Or.inr (Or.inr (Or.inr (Or.inr (Or.inr (Or.inl ⟨rfl, h, rfl⟩))))), k⟩)))))))⟩)
theorem R_iand {i pc nx cp : Nat} {b : Int} {L : qa_L} {S : List qa_V} {M M' : qa_Mem} {r : qa_R} {x y : Int} (hc : qa_code i pc = some (6, 6, b, nx, cp)) (k : qa_E i nx L (qi (qa_and x y) :: S) M r M') : qa_E i pc L (qi y :: qi x :: S) M r M' := qa_fold (Or.inr ⟨_, _, _, _, _, hc, Or.inr (Or.inr (Or.inr (Or.inr (Or.inr (Or.inr (Or.inl (⟨rfl, _, _, _, _, rfl, Or.inr (Or.inr (Or.inr (Or.inr (Or.inr (Or.inr (Or.inl ⟨rfl, rfl⟩)))))), k⟩)))))))⟩)
theorem R_ior {i pc nx cp : Nat} {b : Int} {L : qa_L} {S : List qa_V} {M M' : qa_Mem} {r : qa_R} {x y : Int} (hc : qa_code i pc = some (6, 7, b, nx, cp)) (k : qa_E i nx L (qi (qa_or x y) :: S) M r M') : qa_E i pc L (qi y :: qi x :: S) M r M' := qa_fold (Or.inr ⟨_, _, _, _, _, hc, Or.inr (Or.inr (Or.inr (Or.inr (Or.inr (Or.inr (Or.inl (⟨rfl, _, _, _, _, rfl, Or.inr (Or.inr (Or.inr (Or.inr (Or.inr (Or.inr (Or.inr (Or.inl ⟨rfl, rfl⟩))))))), k⟩)))))))⟩)
theorem R_ishl {i pc nx cp : Nat} {b : Int} {L : qa_L} {S : List qa_V} {M M' : qa_Mem} {r : qa_R} {x y : Int} (hc : qa_code i pc = some (6, 8, b, nx, cp)) (k : qa_E i nx L (qi (qa_shl x y) :: S) M r M') : qa_E i pc L (qi y :: qi x :: S) M r M' := qa_fold (Or.inr ⟨_, _, _, _, _, hc, Or.inr (Or.inr (Or.inr (Or.inr (Or.inr (Or.inr (Or.inl (⟨rfl, _, _, _, _, rfl, Or.inr (Or.inr (Or.inr (Or.inr (Or.inr (Or.inr (Or.inr (Or.inr (Or.inl ⟨rfl, rfl⟩)))))))), k⟩)))))))⟩)
theorem R_ishr {i pc nx cp : Nat} {b : Int} {L : qa_L} {S : List qa_V} {M M' : qa_Mem} {r : qa_R} {x y : Int} (hc : qa_code i pc = some (6, 9, b, nx, cp)) (k : qa_E i nx L (qi (qa_shr x y) :: S) M r M') : qa_E i pc L (qi y :: qi x :: S) M r M' := qa_fold (Or.inr ⟨_, _, _, _, _, hc, Or.inr (Or.inr (Or.inr (Or.inr (Or.inr (Or.inr (Or.inl (⟨rfl, _, _, _, _, rfl, Or.inr (Or.inr (Or.inr (Or.inr (Or.inr (Or.inr (Or.inr (Or.inr (Or.inr (Or.inl ⟨rfl, rfl⟩))))))))), k⟩)))))))⟩)
theorem R_ixor {i pc nx cp : Nat} {b : Int} {L : qa_L} {S : List qa_V} {M M' : qa_Mem} {r : qa_R} {x y : Int} (hc : qa_code i pc = some (6, 10, b, nx, cp)) (k : qa_E i nx L (qi (qa_xor x y) :: S) M r M') : qa_E i pc L (qi y :: qi x :: S) M r M' := qa_fold (Or.inr ⟨_, _, _, _, _, hc, Or.inr (Or.inr (Or.inr (Or.inr (Or.inr (Or.inr (Or.inl (⟨rfl, _, _, _, _, rfl, Or.inr (Or.inr (Or.inr (Or.inr (Or.inr (Or.inr (Or.inr (Or.inr (Or.inr (Or.inr (⟨rfl, rfl⟩)))))))))), k⟩)))))))⟩)
theorem R_ineg {i pc a nx cp : Nat} {b : Int} {L : qa_L} {S : List qa_V} {M M' : qa_Mem} {r : qa_R} {x : Int} (hc : qa_code i pc = some (7, a, b, nx, cp)) (h : qa_InR (-x)) (k : qa_E i nx L (qi (-x) :: S) M r M') : qa_E i pc L (qi x :: S) M r M' := qa_fold (Or.inr ⟨_, _, _, _, _, hc, Or.inr (Or.inr (Or.inr (Or.inr (Or.inr (Or.inr (Or.inr (Or.inl (⟨rfl, _, _, rfl, h, k⟩))))))))⟩)
theorem R_dup {i pc a nx cp : Nat} {b : Int} {L : qa_L} {S : List qa_V} {M M' : qa_Mem} {r : qa_R} {v : qa_V} (hc : qa_code i pc = some (8, a, b, nx, cp)) (h : qa_c1 v = true) (k : qa_E i nx L (v :: v :: S) M r M') : qa_E i pc L (v :: S) M r M' := qa_fold (Or.inr ⟨_, _, _, _, _, hc, Or.inr (Or.inr (Or.inr (Or.inr (Or.inr (Or.inr (Or.inr (Or.inr (Or.inl (⟨rfl, _, _, rfl, h, k⟩)))))))))⟩)
theorem R_dup2 {i pc a nx cp : Nat} {b : Int} {L : qa_L} {S : List qa_V} {M M' : qa_Mem} {r : qa_R} {v w : qa_V} (hc : qa_code i pc = some (9, a, b, nx, cp)) (h : qa_c1 v = true) (h' : qa_c1 w = true) (k : qa_E i nx L (v :: w :: v :: w :: S) M r M') : qa_E i pc L (v :: w :: S) M r M' := qa_fold (Or.inr ⟨_, _, _, _, _, hc, Or.inr (Or.inr (Or.inr (Or.inr (Or.inr (Or.inr (Or.inr (Or.inr (Or.inr (Or.inl (⟨rfl, _, _, _, rfl, h, h', k⟩))))))))))⟩)
theorem R_iald {i pc nx cp : Nat} {b : Int} {L : qa_L} {S : List qa_V} {M M' : qa_Mem} {r : qa_R} {x : Int} {k n : Nat} (hc : qa_code i pc = some (10, 0, b, nx, cp)) (hn : qa_len 0 k = some n) (h0 : 0 ≤ x) (h1 : x < n) (kk : qa_E i nx L (qi (M k x) :: S) M r M') : qa_E i pc L (qi x :: qr k :: S) M r M' := qa_fold (Or.inr ⟨_, _, _, _, _, hc, Or.inr (Or.inr (Or.inr (Or.inr (Or.inr (Or.inr (Or.inr (Or.inr (Or.inr (Or.inr (Or.inl (⟨rfl, _, _, _, _, rfl, hn, Or.inl rfl, h0, h1, kk⟩)))))))))))⟩)
theorem R_iast {i pc nx cp : Nat} {b : Int} {L : qa_L} {S : List qa_V} {M M' : qa_Mem} {r : qa_R} {v x : Int} {k n : Nat} (hc : qa_code i pc = some (11, 0, b, nx, cp)) (hn : qa_len 0 k = some n) (h0 : 0 ≤ x) (h1 : x < n) (kk : qa_E i nx L S (qa_upd M k x v) r M') : qa_E i pc L (qi v :: qi x :: qr k :: S) M r M' := qa_fold (Or.inr ⟨_, _, _, _, _, hc, Or.inr (Or.inr (Or.inr (Or.inr (Or.inr (Or.inr (Or.inr (Or.inr (Or.inr (Or.inr (Or.inr (Or.inl (⟨rfl, _, _, _, _, _, rfl, hn, Or.inl rfl, h0, h1, kk⟩))))))))))))⟩)
theorem R_zald {i pc nx cp : Nat} {b : Int} {L : qa_L} {S : List qa_V} {M M' : qa_Mem} {r : qa_R} {x : Int} {k n : Nat} (hc : qa_code i pc = some (10, 1, b, nx, cp)) (hn : qa_len 1 k = some n) (h0 : 0 ≤ x) (h1 : x < n) (kk : qa_E i nx L (qi (M k x) :: S) M r M') : qa_E i pc L (qi x :: qr k :: S) M r M' := qa_fold (Or.inr ⟨_, _, _, _, _, hc, Or.inr (Or.inr (Or.inr (Or.inr (Or.inr (Or.inr (Or.inr (Or.inr (Or.inr (Or.inr (Or.inl (⟨rfl, _, _, _, _, rfl, hn, Or.inr rfl, h0, h1, kk⟩)))))))))))⟩)
theorem R_zast {i pc nx cp : Nat} {b : Int} {L : qa_L} {S : List qa_V} {M M' : qa_Mem} {r : qa_R} {v x : Int} {k n : Nat} (hc : qa_code i pc = some (11, 1, b, nx, cp)) (hn : qa_len 1 k = some n) (h0 : 0 ≤ x) (h1 : x < n) (hv : v = 0 ∨ v = 1) (kk : qa_E i nx L S (qa_upd M k x v) r M') : qa_E i pc L (qi v :: qi x :: qr k :: S) M r M' := qa_fold (Or.inr ⟨_, _, _, _, _, hc, Or.inr (Or.inr (Or.inr (Or.inr (Or.inr (Or.inr (Or.inr (Or.inr (Or.inr (Or.inr (Or.inr (Or.inl (⟨rfl, _, _, _, _, _, rfl, hn, Or.inr ⟨rfl, hv⟩, h0, h1, kk⟩))))))))))))⟩)
theorem R_getf {i pc a nx cp : Nat} {b : Int} {L : qa_L} {S : List qa_V} {M M' : qa_Mem} {r : qa_R} {k : Nat} (hc : qa_code i pc = some (12, a, b, nx, cp)) (hf : qa_fI a k b.toNat = true) (hb : 0 ≤ b) (kk : qa_E i nx L (qi (M k b) :: S) M r M') : qa_E i pc L (qr k :: S) M r M' := qa_fold (Or.inr ⟨_, _, _, _, _, hc, Or.inr (Or.inr (Or.inr (Or.inr (Or.inr (Or.inr (Or.inr (Or.inr (Or.inr (Or.inr (Or.inr (Or.inr (Or.inl (⟨rfl, _, _, rfl, hf, hb, kk⟩)))))))))))))⟩)
theorem R_getr {i pc a nx cp : Nat} {b : Int} {L : qa_L} {S : List qa_V} {M M' : qa_Mem} {r : qa_R} {k k1 : Nat} (hc : qa_code i pc = some (13, a, b, nx, cp)) (hf : qa_fR a k b.toNat = some k1) (kk : qa_E i nx L (qr k1 :: S) M r M') : qa_E i pc L (qr k :: S) M r M' := qa_fold (Or.inr ⟨_, _, _, _, _, hc, Or.inr (Or.inr (Or.inr (Or.inr (Or.inr (Or.inr (Or.inr (Or.inr (Or.inr (Or.inr (Or.inr (Or.inr (Or.inr (Or.inl (⟨rfl, _, _, _, rfl, hf, kk⟩))))))))))))))⟩)
theorem R_putf {i pc a nx cp : Nat} {b : Int} {L : qa_L} {S : List qa_V} {M M' : qa_Mem} {r : qa_R} {v : Int} {k : Nat} (hc : qa_code i pc = some (14, a, b, nx, cp)) (hf : qa_fI a k b.toNat = true) (hb : 0 ≤ b) (kk : qa_E i nx L S (qa_upd M k b v) r M') : qa_E i pc L (qi v :: qr k :: S) M r M' := qa_fold (Or.inr ⟨_, _, _, _, _, hc, Or.inr (Or.inr (Or.inr (Or.inr (Or.inr (Or.inr (Or.inr (Or.inr (Or.inr (Or.inr (Or.inr (Or.inr (Or.inr (Or.inr (Or.inl (⟨rfl, _, _, _, rfl, hf, hb, kk⟩)))))))))))))))⟩)
theorem qa_cmpT {k : Nat} {x y : Int} (h : qa_cmp k x y) : (k = 0 → x = y) ∧ (k = 1 → x ≠ y) ∧ (k = 2 → x < y) ∧ (k = 3 → y ≤ x) ∧ (k = 4 → y < x) ∧ (k = 5 → x ≤ y) := by
  unfold qa_cmp at h
  omega
theorem qa_cmpF {k : Nat} {x y : Int} (h : ¬ qa_cmp k x y) : (k = 0 → x ≠ y) ∧ (k = 1 → x = y) ∧ (k = 2 → y ≤ x) ∧ (k = 3 → x < y) ∧ (k = 4 → x ≤ y) ∧ (k = 5 → y < x) := by
  unfold qa_cmp at h
  omega
theorem R_icmp_eq {i pc nx cp : Nat} {b : Int} {L : qa_L} {S : List qa_V} {M M' : qa_Mem} {r : qa_R} (t : Nat) {x y : Int} (hc : qa_code i pc = some (15, 0, b, nx, cp)) (ht : (t : Int) = b) (kt : x = y → qa_E i t L S M r M') (kf : x ≠ y → qa_E i nx L S M r M') : qa_E i pc L (qi y :: qi x :: S) M r M' := qa_fold (Or.inr ⟨_, _, _, _, _, hc, Or.inr (Or.inr (Or.inr (Or.inr (Or.inr (Or.inr (Or.inr (Or.inr (Or.inr (Or.inr (Or.inr (Or.inr (Or.inr (Or.inr (Or.inr (Or.inl (⟨rfl, _, _, _, _, rfl, ht, (fun h => kt ((qa_cmpT h).1 rfl)), (fun h => kf ((qa_cmpF h).1 rfl))⟩))))))))))))))))⟩)
theorem R_if_eq {i pc nx cp : Nat} {b : Int} {L : qa_L} {S : List qa_V} {M M' : qa_Mem} {r : qa_R} (t : Nat) {x : Int} (hc : qa_code i pc = some (16, 0, b, nx, cp)) (ht : (t : Int) = b) (kt : x = 0 → qa_E i t L S M r M') (kf : x ≠ 0 → qa_E i nx L S M r M') : qa_E i pc L (qi x :: S) M r M' := qa_fold (Or.inr ⟨_, _, _, _, _, hc, Or.inr (Or.inr (Or.inr (Or.inr (Or.inr (Or.inr (Or.inr (Or.inr (Or.inr (Or.inr (Or.inr (Or.inr (Or.inr (Or.inr (Or.inr (Or.inr (Or.inl (⟨rfl, _, _, _, rfl, ht, (fun h => kt ((qa_cmpT h).1 rfl)), (fun h => kf ((qa_cmpF h).1 rfl))⟩)))))))))))))))))⟩)
theorem R_icmp_ne {i pc nx cp : Nat} {b : Int} {L : qa_L} {S : List qa_V} {M M' : qa_Mem} {r : qa_R} (t : Nat) {x y : Int} (hc : qa_code i pc = some (15, 1, b, nx, cp)) (ht : (t : Int) = b) (kt : x ≠ y → qa_E i t L S M r M') (kf : x = y → qa_E i nx L S M r M') : qa_E i pc L (qi y :: qi x :: S) M r M' := qa_fold (Or.inr ⟨_, _, _, _, _, hc, Or.inr (Or.inr (Or.inr (Or.inr (Or.inr (Or.inr (Or.inr (Or.inr (Or.inr (Or.inr (Or.inr (Or.inr (Or.inr (Or.inr (Or.inr (Or.inl (⟨rfl, _, _, _, _, rfl, ht, (fun h => kt ((qa_cmpT h).2.1 rfl)), (fun h => kf ((qa_cmpF h).2.1 rfl))⟩))))))))))))))))⟩)
theorem R_if_ne {i pc nx cp : Nat} {b : Int} {L : qa_L} {S : List qa_V} {M M' : qa_Mem} {r : qa_R} (t : Nat) {x : Int} (hc : qa_code i pc = some (16, 1, b, nx, cp)) (ht : (t : Int) = b) (kt : x ≠ 0 → qa_E i t L S M r M') (kf : x = 0 → qa_E i nx L S M r M') : qa_E i pc L (qi x :: S) M r M' := qa_fold (Or.inr ⟨_, _, _, _, _, hc, Or.inr (Or.inr (Or.inr (Or.inr (Or.inr (Or.inr (Or.inr (Or.inr (Or.inr (Or.inr (Or.inr (Or.inr (Or.inr (Or.inr (Or.inr (Or.inr (Or.inl (⟨rfl, _, _, _, rfl, ht, (fun h => kt ((qa_cmpT h).2.1 rfl)), (fun h => kf ((qa_cmpF h).2.1 rfl))⟩)))))))))))))))))⟩)
theorem R_icmp_lt {i pc nx cp : Nat} {b : Int} {L : qa_L} {S : List qa_V} {M M' : qa_Mem} {r : qa_R} (t : Nat) {x y : Int} (hc : qa_code i pc = some (15, 2, b, nx, cp)) (ht : (t : Int) = b) (kt : x < y → qa_E i t L S M r M') (kf : y ≤ x → qa_E i nx L S M r M') : qa_E i pc L (qi y :: qi x :: S) M r M' := qa_fold (Or.inr ⟨_, _, _, _, _, hc, Or.inr (Or.inr (Or.inr (Or.inr (Or.inr (Or.inr (Or.inr (Or.inr (Or.inr (Or.inr (Or.inr (Or.inr (Or.inr (Or.inr (Or.inr (Or.inl (⟨rfl, _, _, _, _, rfl, ht, (fun h => kt ((qa_cmpT h).2.2.1 rfl)), (fun h => kf ((qa_cmpF h).2.2.1 rfl))⟩))))))))))))))))⟩)
theorem R_if_lt {i pc nx cp : Nat} {b : Int} {L : qa_L} {S : List qa_V} {M M' : qa_Mem} {r : qa_R} (t : Nat) {x : Int} (hc : qa_code i pc = some (16, 2, b, nx, cp)) (ht : (t : Int) = b) (kt : x < 0 → qa_E i t L S M r M') (kf : 0 ≤ x → qa_E i nx L S M r M') : qa_E i pc L (qi x :: S) M r M' := qa_fold (Or.inr ⟨_, _, _, _, _, hc, Or.inr (Or.inr (Or.inr (Or.inr (Or.inr (Or.inr (Or.inr (Or.inr (Or.inr (Or.inr (Or.inr (Or.inr (Or.inr (Or.inr (Or.inr (Or.inr (Or.inl (⟨rfl, _, _, _, rfl, ht, (fun h => kt ((qa_cmpT h).2.2.1 rfl)), (fun h => kf ((qa_cmpF h).2.2.1 rfl))⟩)))))))))))))))))⟩)
theorem R_icmp_ge {i pc nx cp : Nat} {b : Int} {L : qa_L} {S : List qa_V} {M M' : qa_Mem} {r : qa_R} (t : Nat) {x y : Int} (hc : qa_code i pc = some (15, 3, b, nx, cp)) (ht : (t : Int) = b) (kt : y ≤ x → qa_E i t L S M r M') (kf : x < y → qa_E i nx L S M r M') : qa_E i pc L (qi y :: qi x :: S) M r M' := qa_fold (Or.inr ⟨_, _, _, _, _, hc, Or.inr (Or.inr (Or.inr (Or.inr (Or.inr (Or.inr (Or.inr (Or.inr (Or.inr (Or.inr (Or.inr (Or.inr (Or.inr (Or.inr (Or.inr (Or.inl (⟨rfl, _, _, _, _, rfl, ht, (fun h => kt ((qa_cmpT h).2.2.2.1 rfl)), (fun h => kf ((qa_cmpF h).2.2.2.1 rfl))⟩))))))))))))))))⟩)
theorem R_if_ge {i pc nx cp : Nat} {b : Int} {L : qa_L} {S : List qa_V} {M M' : qa_Mem} {r : qa_R} (t : Nat) {x : Int} (hc : qa_code i pc = some (16, 3, b, nx, cp)) (ht : (t : Int) = b) (kt : 0 ≤ x → qa_E i t L S M r M') (kf : x < 0 → qa_E i nx L S M r M') : qa_E i pc L (qi x :: S) M r M' := qa_fold (Or.inr ⟨_, _, _, _, _, hc, Or.inr (Or.inr (Or.inr (Or.inr (Or.inr (Or.inr (Or.inr (Or.inr (Or.inr (Or.inr (Or.inr (Or.inr (Or.inr (Or.inr (Or.inr (Or.inr (Or.inl (⟨rfl, _, _, _, rfl, ht, (fun h => kt ((qa_cmpT h).2.2.2.1 rfl)), (fun h => kf ((qa_cmpF h).2.2.2.1 rfl))⟩)))))))))))))))))⟩)
theorem R_icmp_gt {i pc nx cp : Nat} {b : Int} {L : qa_L} {S : List qa_V} {M M' : qa_Mem} {r : qa_R} (t : Nat) {x y : Int} (hc : qa_code i pc = some (15, 4, b, nx, cp)) (ht : (t : Int) = b) (kt : y < x → qa_E i t L S M r M') (kf : x ≤ y → qa_E i nx L S M r M') : qa_E i pc L (qi y :: qi x :: S) M r M' := qa_fold (Or.inr ⟨_, _, _, _, _, hc, Or.inr (Or.inr (Or.inr (Or.inr (Or.inr (Or.inr (Or.inr (Or.inr (Or.inr (Or.inr (Or.inr (Or.inr (Or.inr (Or.inr (Or.inr (Or.inl (⟨rfl, _, _, _, _, rfl, ht, (fun h => kt ((qa_cmpT h).2.2.2.2.1 rfl)), (fun h => kf ((qa_cmpF h).2.2.2.2.1 rfl))⟩))))))))))))))))⟩)
theorem R_if_gt {i pc nx cp : Nat} {b : Int} {L : qa_L} {S : List qa_V} {M M' : qa_Mem} {r : qa_R} (t : Nat) {x : Int} (hc : qa_code i pc = some (16, 4, b, nx, cp)) (ht : (t : Int) = b) (kt : 0 < x → qa_E i t L S M r M') (kf : x ≤ 0 → qa_E i nx L S M r M') : qa_E i pc L (qi x :: S) M r M' := qa_fold (Or.inr ⟨_, _, _, _, _, hc, Or.inr (Or.inr (Or.inr (Or.inr (Or.inr (Or.inr (Or.inr (Or.inr (Or.inr (Or.inr (Or.inr (Or.inr (Or.inr (Or.inr (Or.inr (Or.inr (Or.inl (⟨rfl, _, _, _, rfl, ht, (fun h => kt ((qa_cmpT h).2.2.2.2.1 rfl)), (fun h => kf ((qa_cmpF h).2.2.2.2.1 rfl))⟩)))))))))))))))))⟩)
theorem R_icmp_le {i pc nx cp : Nat} {b : Int} {L : qa_L} {S : List qa_V} {M M' : qa_Mem} {r : qa_R} (t : Nat) {x y : Int} (hc : qa_code i pc = some (15, 5, b, nx, cp)) (ht : (t : Int) = b) (kt : x ≤ y → qa_E i t L S M r M') (kf : y < x → qa_E i nx L S M r M') : qa_E i pc L (qi y :: qi x :: S) M r M' := qa_fold (Or.inr ⟨_, _, _, _, _, hc, Or.inr (Or.inr (Or.inr (Or.inr (Or.inr (Or.inr (Or.inr (Or.inr (Or.inr (Or.inr (Or.inr (Or.inr (Or.inr (Or.inr (Or.inr (Or.inl (⟨rfl, _, _, _, _, rfl, ht, (fun h => kt ((qa_cmpT h).2.2.2.2.2 rfl)), (fun h => kf ((qa_cmpF h).2.2.2.2.2 rfl))⟩))))))))))))))))⟩)
theorem R_if_le {i pc nx cp : Nat} {b : Int} {L : qa_L} {S : List qa_V} {M M' : qa_Mem} {r : qa_R} (t : Nat) {x : Int} (hc : qa_code i pc = some (16, 5, b, nx, cp)) (ht : (t : Int) = b) (kt : x ≤ 0 → qa_E i t L S M r M') (kf : 0 < x → qa_E i nx L S M r M') : qa_E i pc L (qi x :: S) M r M' := qa_fold (Or.inr ⟨_, _, _, _, _, hc, Or.inr (Or.inr (Or.inr (Or.inr (Or.inr (Or.inr (Or.inr (Or.inr (Or.inr (Or.inr (Or.inr (Or.inr (Or.inr (Or.inr (Or.inr (Or.inr (Or.inl (⟨rfl, _, _, _, rfl, ht, (fun h => kt ((qa_cmpT h).2.2.2.2.2 rfl)), (fun h => kf ((qa_cmpF h).2.2.2.2.2 rfl))⟩)))))))))))))))))⟩)
noncomputable def qb (P : Prop) : Int := @ite Int P (Classical.propDecidable P) 1 0
theorem qb_t {P : Prop} (h : P) : qb P = 1 := by unfold qb; rw [if_pos h]
theorem qb_f {P : Prop} (h : ¬ P) : qb P = 0 := by unfold qb; rw [if_neg h]
theorem qb_01 (P : Prop) : qb P = 0 ∨ qb P = 1 := by
  by_cases h : P
  · exact Or.inr (qb_t h)
  · exact Or.inl (qb_f h)
theorem qb_e0 {P : Prop} : qb P = 0 ↔ ¬ P := ⟨fun h q => (by rw [qb_t q] at h; cases h), qb_f⟩
theorem qb_e1 {P : Prop} : qb P = 1 ↔ P := ⟨fun h => Classical.byContradiction fun q => (by rw [qb_f q] at h; cases h), qb_t⟩
theorem qb_n0 {P : Prop} : qb P ≠ 0 ↔ P := ⟨fun h => Classical.byContradiction fun q => h (qb_f q), fun h => by rw [qb_t h]; decide⟩
theorem qb_c {P Q : Prop} (h : P ↔ Q) : qb P = qb Q := by rw [propext h]
theorem R_ifeq_b {i pc nx cp : Nat} {b : Int} {L : qa_L} {S : List qa_V} {M M' : qa_Mem} {r : qa_R} (t : Nat) {P : Prop} (hc : qa_code i pc = some (16, 0, b, nx, cp)) (ht : (t : Int) = b) (kt : ¬ P → qa_E i t L S M r M') (kf : P → qa_E i nx L S M r M') : qa_E i pc L (qi (qb P) :: S) M r M' := R_if_eq t hc ht (fun h => kt (qb_e0.mp h)) (fun h => kf (qb_n0.mp h))
theorem R_ifne_b {i pc nx cp : Nat} {b : Int} {L : qa_L} {S : List qa_V} {M M' : qa_Mem} {r : qa_R} (t : Nat) {P : Prop} (hc : qa_code i pc = some (16, 1, b, nx, cp)) (ht : (t : Int) = b) (kt : P → qa_E i t L S M r M') (kf : ¬ P → qa_E i nx L S M r M') : qa_E i pc L (qi (qb P) :: S) M r M' := R_if_ne t hc ht (fun h => kt (qb_n0.mp h)) (fun h => kf (qb_e0.mp h))
theorem R_goto {i pc a nx cp : Nat} {b : Int} {L : qa_L} {S : List qa_V} {M M' : qa_Mem} {r : qa_R} (hc : qa_code i pc = some (17, a, b, nx, cp)) (k : qa_E i nx L S M r M') : qa_E i pc L (S) M r M' := qa_fold (Or.inr ⟨_, _, _, _, _, hc, Or.inr (Or.inr (Or.inr (Or.inr (Or.inr (Or.inr (Or.inr (Or.inr (Or.inr (Or.inr (Or.inr (Or.inr (Or.inr (Or.inr (Or.inr (Or.inr (Or.inr (Or.inl (⟨rfl, k⟩))))))))))))))))))⟩)
theorem R_call0 {i pc a nx cp : Nat} {L : qa_L} {S : List qa_V} {M M' : qa_Mem} {r : qa_R} {M1 : qa_Mem} {v : qa_V} (hc : qa_code i pc = some (18, a, 0, nx, cp)) (h1 : ([] : List qa_V).all qa_c1 = true) (h2 : Nat.ble S.length 4 = true) (kc : qa_E a 0 [] [] M (.inl (some v)) M1) (k : qa_E i nx L (v :: S) M1 r M') : qa_E i pc L (S) M r M' := qa_fold (Or.inr ⟨_, _, _, _, _, hc, Or.inr (Or.inr (Or.inr (Or.inr (Or.inr (Or.inr (Or.inr (Or.inr (Or.inr (Or.inr (Or.inr (Or.inr (Or.inr (Or.inr (Or.inr (Or.inr (Or.inr (Or.inr (Or.inl (⟨rfl, [], S, _, _, rfl, rfl, h1, Nat.le_of_ble_eq_true h2, kc, Or.inl ⟨_, rfl, k⟩⟩)))))))))))))))))))⟩)
theorem R_callv0 {i pc a nx cp : Nat} {L : qa_L} {S : List qa_V} {M M' : qa_Mem} {r : qa_R} {M1 : qa_Mem} (hc : qa_code i pc = some (18, a, 0, nx, cp)) (h1 : ([] : List qa_V).all qa_c1 = true) (h2 : Nat.ble S.length 4 = true) (kc : qa_E a 0 [] [] M (.inl none) M1) (k : qa_E i nx L S M1 r M') : qa_E i pc L (S) M r M' := qa_fold (Or.inr ⟨_, _, _, _, _, hc, Or.inr (Or.inr (Or.inr (Or.inr (Or.inr (Or.inr (Or.inr (Or.inr (Or.inr (Or.inr (Or.inr (Or.inr (Or.inr (Or.inr (Or.inr (Or.inr (Or.inr (Or.inr (Or.inl (⟨rfl, [], S, _, _, rfl, rfl, h1, Nat.le_of_ble_eq_true h2, kc, Or.inl ⟨_, rfl, k⟩⟩)))))))))))))))))))⟩)
theorem R_callx0 {i pc a nx cp : Nat} {L : qa_L} {S : List qa_V} {M M' : qa_Mem} {r : qa_R} {M1 : qa_Mem} {E : Nat} (hc : qa_code i pc = some (18, a, 0, nx, cp)) (h1 : ([] : List qa_V).all qa_c1 = true) (h2 : Nat.ble S.length 4 = true) (hh : qa_catch (qa_hnd i) pc E = none) (kc : qa_E a 0 [] [] M (.inr E) M1) (hr : r = .inr E) (hM : M' = M1) : qa_E i pc L (S) M r M' := qa_fold (Or.inr ⟨_, _, _, _, _, hc, Or.inr (Or.inr (Or.inr (Or.inr (Or.inr (Or.inr (Or.inr (Or.inr (Or.inr (Or.inr (Or.inr (Or.inr (Or.inr (Or.inr (Or.inr (Or.inr (Or.inr (Or.inr (Or.inl (⟨rfl, [], S, _, _, rfl, rfl, h1, Nat.le_of_ble_eq_true h2, kc, Or.inr (Or.inl ⟨_, rfl, hh, hr, hM⟩)⟩)))))))))))))))))))⟩)
theorem R_callc0 {i pc a nx cp : Nat} {L : qa_L} {S : List qa_V} {M M' : qa_Mem} {r : qa_R} {M1 : qa_Mem} {E hd : Nat} (hc : qa_code i pc = some (18, a, 0, nx, cp)) (h1 : ([] : List qa_V).all qa_c1 = true) (h2 : Nat.ble S.length 4 = true) (hh : qa_catch (qa_hnd i) pc E = some hd) (kc : qa_E a 0 [] [] M (.inr E) M1) (k : qa_E i hd L [qr 999] M1 r M') : qa_E i pc L (S) M r M' := qa_fold (Or.inr ⟨_, _, _, _, _, hc, Or.inr (Or.inr (Or.inr (Or.inr (Or.inr (Or.inr (Or.inr (Or.inr (Or.inr (Or.inr (Or.inr (Or.inr (Or.inr (Or.inr (Or.inr (Or.inr (Or.inr (Or.inr (Or.inl (⟨rfl, [], S, _, _, rfl, rfl, h1, Nat.le_of_ble_eq_true h2, kc, Or.inr (Or.inr ⟨_, _, rfl, hh, k⟩)⟩)))))))))))))))))))⟩)
theorem R_call1 {i pc a nx cp : Nat} {L : qa_L} {S : List qa_V} {M M' : qa_Mem} {r : qa_R} {v0 : qa_V} {M1 : qa_Mem} {v : qa_V} (hc : qa_code i pc = some (18, a, 1, nx, cp)) (h1 : ([v0] : List qa_V).all qa_c1 = true) (h2 : Nat.ble S.length 4 = true) (kc : qa_E a 0 [(0, v0)] [] M (.inl (some v)) M1) (k : qa_E i nx L (v :: S) M1 r M') : qa_E i pc L (v0 :: S) M r M' := qa_fold (Or.inr ⟨_, _, _, _, _, hc, Or.inr (Or.inr (Or.inr (Or.inr (Or.inr (Or.inr (Or.inr (Or.inr (Or.inr (Or.inr (Or.inr (Or.inr (Or.inr (Or.inr (Or.inr (Or.inr (Or.inr (Or.inr (Or.inl (⟨rfl, [v0], S, _, _, rfl, rfl, h1, Nat.le_of_ble_eq_true h2, kc, Or.inl ⟨_, rfl, k⟩⟩)))))))))))))))))))⟩)
theorem R_callv1 {i pc a nx cp : Nat} {L : qa_L} {S : List qa_V} {M M' : qa_Mem} {r : qa_R} {v0 : qa_V} {M1 : qa_Mem} (hc : qa_code i pc = some (18, a, 1, nx, cp)) (h1 : ([v0] : List qa_V).all qa_c1 = true) (h2 : Nat.ble S.length 4 = true) (kc : qa_E a 0 [(0, v0)] [] M (.inl none) M1) (k : qa_E i nx L S M1 r M') : qa_E i pc L (v0 :: S) M r M' := qa_fold (Or.inr ⟨_, _, _, _, _, hc, Or.inr (Or.inr (Or.inr (Or.inr (Or.inr (Or.inr (Or.inr (Or.inr (Or.inr (Or.inr (Or.inr (Or.inr (Or.inr (Or.inr (Or.inr (Or.inr (Or.inr (Or.inr (Or.inl (⟨rfl, [v0], S, _, _, rfl, rfl, h1, Nat.le_of_ble_eq_true h2, kc, Or.inl ⟨_, rfl, k⟩⟩)))))))))))))))))))⟩)
theorem R_callx1 {i pc a nx cp : Nat} {L : qa_L} {S : List qa_V} {M M' : qa_Mem} {r : qa_R} {v0 : qa_V} {M1 : qa_Mem} {E : Nat} (hc : qa_code i pc = some (18, a, 1, nx, cp)) (h1 : ([v0] : List qa_V).all qa_c1 = true) (h2 : Nat.ble S.length 4 = true) (hh : qa_catch (qa_hnd i) pc E = none) (kc : qa_E a 0 [(0, v0)] [] M (.inr E) M1) (hr : r = .inr E) (hM : M' = M1) : qa_E i pc L (v0 :: S) M r M' := qa_fold (Or.inr ⟨_, _, _, _, _, hc, Or.inr (Or.inr (Or.inr (Or.inr (Or.inr (Or.inr (Or.inr (Or.inr (Or.inr (Or.inr (Or.inr (Or.inr (Or.inr (Or.inr (Or.inr (Or.inr (Or.inr (Or.inr (Or.inl (⟨rfl, [v0], S, _, _, rfl, rfl, h1, Nat.le_of_ble_eq_true h2, kc, Or.inr (Or.inl ⟨_, rfl, hh, hr, hM⟩)⟩)))))))))))))))))))⟩)
theorem R_callc1 {i pc a nx cp : Nat} {L : qa_L} {S : List qa_V} {M M' : qa_Mem} {r : qa_R} {v0 : qa_V} {M1 : qa_Mem} {E hd : Nat} (hc : qa_code i pc = some (18, a, 1, nx, cp)) (h1 : ([v0] : List qa_V).all qa_c1 = true) (h2 : Nat.ble S.length 4 = true) (hh : qa_catch (qa_hnd i) pc E = some hd) (kc : qa_E a 0 [(0, v0)] [] M (.inr E) M1) (k : qa_E i hd L [qr 999] M1 r M') : qa_E i pc L (v0 :: S) M r M' := qa_fold (Or.inr ⟨_, _, _, _, _, hc, Or.inr (Or.inr (Or.inr (Or.inr (Or.inr (Or.inr (Or.inr (Or.inr (Or.inr (Or.inr (Or.inr (Or.inr (Or.inr (Or.inr (Or.inr (Or.inr (Or.inr (Or.inr (Or.inl (⟨rfl, [v0], S, _, _, rfl, rfl, h1, Nat.le_of_ble_eq_true h2, kc, Or.inr (Or.inr ⟨_, _, rfl, hh, k⟩)⟩)))))))))))))))))))⟩)
theorem R_call2 {i pc a nx cp : Nat} {L : qa_L} {S : List qa_V} {M M' : qa_Mem} {r : qa_R} {v0 v1 : qa_V} {M1 : qa_Mem} {v : qa_V} (hc : qa_code i pc = some (18, a, 2, nx, cp)) (h1 : ([v1, v0] : List qa_V).all qa_c1 = true) (h2 : Nat.ble S.length 4 = true) (kc : qa_E a 0 [(0, v0), (1, v1)] [] M (.inl (some v)) M1) (k : qa_E i nx L (v :: S) M1 r M') : qa_E i pc L (v1 :: v0 :: S) M r M' := qa_fold (Or.inr ⟨_, _, _, _, _, hc, Or.inr (Or.inr (Or.inr (Or.inr (Or.inr (Or.inr (Or.inr (Or.inr (Or.inr (Or.inr (Or.inr (Or.inr (Or.inr (Or.inr (Or.inr (Or.inr (Or.inr (Or.inr (Or.inl (⟨rfl, [v1, v0], S, _, _, rfl, rfl, h1, Nat.le_of_ble_eq_true h2, kc, Or.inl ⟨_, rfl, k⟩⟩)))))))))))))))))))⟩)
theorem R_callv2 {i pc a nx cp : Nat} {L : qa_L} {S : List qa_V} {M M' : qa_Mem} {r : qa_R} {v0 v1 : qa_V} {M1 : qa_Mem} (hc : qa_code i pc = some (18, a, 2, nx, cp)) (h1 : ([v1, v0] : List qa_V).all qa_c1 = true) (h2 : Nat.ble S.length 4 = true) (kc : qa_E a 0 [(0, v0), (1, v1)] [] M (.inl none) M1) (k : qa_E i nx L S M1 r M') : qa_E i pc L (v1 :: v0 :: S) M r M' := qa_fold (Or.inr ⟨_, _, _, _, _, hc, Or.inr (Or.inr (Or.inr (Or.inr (Or.inr (Or.inr (Or.inr (Or.inr (Or.inr (Or.inr (Or.inr (Or.inr (Or.inr (Or.inr (Or.inr (Or.inr (Or.inr (Or.inr (Or.inl (⟨rfl, [v1, v0], S, _, _, rfl, rfl, h1, Nat.le_of_ble_eq_true h2, kc, Or.inl ⟨_, rfl, k⟩⟩)))))))))))))))))))⟩)
theorem R_callx2 {i pc a nx cp : Nat} {L : qa_L} {S : List qa_V} {M M' : qa_Mem} {r : qa_R} {v0 v1 : qa_V} {M1 : qa_Mem} {E : Nat} (hc : qa_code i pc = some (18, a, 2, nx, cp)) (h1 : ([v1, v0] : List qa_V).all qa_c1 = true) (h2 : Nat.ble S.length 4 = true) (hh : qa_catch (qa_hnd i) pc E = none) (kc : qa_E a 0 [(0, v0), (1, v1)] [] M (.inr E) M1) (hr : r = .inr E) (hM : M' = M1) : qa_E i pc L (v1 :: v0 :: S) M r M' := qa_fold (Or.inr ⟨_, _, _, _, _, hc, Or.inr (Or.inr (Or.inr (Or.inr (Or.inr (Or.inr (Or.inr (Or.inr (Or.inr (Or.inr (Or.inr (Or.inr (Or.inr (Or.inr (Or.inr (Or.inr (Or.inr (Or.inr (Or.inl (⟨rfl, [v1, v0], S, _, _, rfl, rfl, h1, Nat.le_of_ble_eq_true h2, kc, Or.inr (Or.inl ⟨_, rfl, hh, hr, hM⟩)⟩)))))))))))))))))))⟩)
theorem R_callc2 {i pc a nx cp : Nat} {L : qa_L} {S : List qa_V} {M M' : qa_Mem} {r : qa_R} {v0 v1 : qa_V} {M1 : qa_Mem} {E hd : Nat} (hc : qa_code i pc = some (18, a, 2, nx, cp)) (h1 : ([v1, v0] : List qa_V).all qa_c1 = true) (h2 : Nat.ble S.length 4 = true) (hh : qa_catch (qa_hnd i) pc E = some hd) (kc : qa_E a 0 [(0, v0), (1, v1)] [] M (.inr E) M1) (k : qa_E i hd L [qr 999] M1 r M') : qa_E i pc L (v1 :: v0 :: S) M r M' := qa_fold (Or.inr ⟨_, _, _, _, _, hc, Or.inr (Or.inr (Or.inr (Or.inr (Or.inr (Or.inr (Or.inr (Or.inr (Or.inr (Or.inr (Or.inr (Or.inr (Or.inr (Or.inr (Or.inr (Or.inr (Or.inr (Or.inr (Or.inl (⟨rfl, [v1, v0], S, _, _, rfl, rfl, h1, Nat.le_of_ble_eq_true h2, kc, Or.inr (Or.inr ⟨_, _, rfl, hh, k⟩)⟩)))))))))))))))))))⟩)
theorem R_call3 {i pc a nx cp : Nat} {L : qa_L} {S : List qa_V} {M M' : qa_Mem} {r : qa_R} {v0 v1 v2 : qa_V} {M1 : qa_Mem} {v : qa_V} (hc : qa_code i pc = some (18, a, 3, nx, cp)) (h1 : ([v2, v1, v0] : List qa_V).all qa_c1 = true) (h2 : Nat.ble S.length 4 = true) (kc : qa_E a 0 [(0, v0), (1, v1), (2, v2)] [] M (.inl (some v)) M1) (k : qa_E i nx L (v :: S) M1 r M') : qa_E i pc L (v2 :: v1 :: v0 :: S) M r M' := qa_fold (Or.inr ⟨_, _, _, _, _, hc, Or.inr (Or.inr (Or.inr (Or.inr (Or.inr (Or.inr (Or.inr (Or.inr (Or.inr (Or.inr (Or.inr (Or.inr (Or.inr (Or.inr (Or.inr (Or.inr (Or.inr (Or.inr (Or.inl (⟨rfl, [v2, v1, v0], S, _, _, rfl, rfl, h1, Nat.le_of_ble_eq_true h2, kc, Or.inl ⟨_, rfl, k⟩⟩)))))))))))))))))))⟩)
theorem R_callv3 {i pc a nx cp : Nat} {L : qa_L} {S : List qa_V} {M M' : qa_Mem} {r : qa_R} {v0 v1 v2 : qa_V} {M1 : qa_Mem} (hc : qa_code i pc = some (18, a, 3, nx, cp)) (h1 : ([v2, v1, v0] : List qa_V).all qa_c1 = true) (h2 : Nat.ble S.length 4 = true) (kc : qa_E a 0 [(0, v0), (1, v1), (2, v2)] [] M (.inl none) M1) (k : qa_E i nx L S M1 r M') : qa_E i pc L (v2 :: v1 :: v0 :: S) M r M' := qa_fold (Or.inr ⟨_, _, _, _, _, hc, Or.inr (Or.inr (Or.inr (Or.inr (Or.inr (Or.inr (Or.inr (Or.inr (Or.inr (Or.inr (Or.inr (Or.inr (Or.inr (Or.inr (Or.inr (Or.inr (Or.inr (Or.inr (Or.inl (⟨rfl, [v2, v1, v0], S, _, _, rfl, rfl, h1, Nat.le_of_ble_eq_true h2, kc, Or.inl ⟨_, rfl, k⟩⟩)))))))))))))))))))⟩)
theorem R_callx3 {i pc a nx cp : Nat} {L : qa_L} {S : List qa_V} {M M' : qa_Mem} {r : qa_R} {v0 v1 v2 : qa_V} {M1 : qa_Mem} {E : Nat} (hc : qa_code i pc = some (18, a, 3, nx, cp)) (h1 : ([v2, v1, v0] : List qa_V).all qa_c1 = true) (h2 : Nat.ble S.length 4 = true) (hh : qa_catch (qa_hnd i) pc E = none) (kc : qa_E a 0 [(0, v0), (1, v1), (2, v2)] [] M (.inr E) M1) (hr : r = .inr E) (hM : M' = M1) : qa_E i pc L (v2 :: v1 :: v0 :: S) M r M' := qa_fold (Or.inr ⟨_, _, _, _, _, hc, Or.inr (Or.inr (Or.inr (Or.inr (Or.inr (Or.inr (Or.inr (Or.inr (Or.inr (Or.inr (Or.inr (Or.inr (Or.inr (Or.inr (Or.inr (Or.inr (Or.inr (Or.inr (Or.inl (⟨rfl, [v2, v1, v0], S, _, _, rfl, rfl, h1, Nat.le_of_ble_eq_true h2, kc, Or.inr (Or.inl ⟨_, rfl, hh, hr, hM⟩)⟩)))))))))))))))))))⟩)
theorem R_callc3 {i pc a nx cp : Nat} {L : qa_L} {S : List qa_V} {M M' : qa_Mem} {r : qa_R} {v0 v1 v2 : qa_V} {M1 : qa_Mem} {E hd : Nat} (hc : qa_code i pc = some (18, a, 3, nx, cp)) (h1 : ([v2, v1, v0] : List qa_V).all qa_c1 = true) (h2 : Nat.ble S.length 4 = true) (hh : qa_catch (qa_hnd i) pc E = some hd) (kc : qa_E a 0 [(0, v0), (1, v1), (2, v2)] [] M (.inr E) M1) (k : qa_E i hd L [qr 999] M1 r M') : qa_E i pc L (v2 :: v1 :: v0 :: S) M r M' := qa_fold (Or.inr ⟨_, _, _, _, _, hc, Or.inr (Or.inr (Or.inr (Or.inr (Or.inr (Or.inr (Or.inr (Or.inr (Or.inr (Or.inr (Or.inr (Or.inr (Or.inr (Or.inr (Or.inr (Or.inr (Or.inr (Or.inr (Or.inl (⟨rfl, [v2, v1, v0], S, _, _, rfl, rfl, h1, Nat.le_of_ble_eq_true h2, kc, Or.inr (Or.inr ⟨_, _, rfl, hh, k⟩)⟩)))))))))))))))))))⟩)
theorem R_call4 {i pc a nx cp : Nat} {L : qa_L} {S : List qa_V} {M M' : qa_Mem} {r : qa_R} {v0 v1 v2 v3 : qa_V} {M1 : qa_Mem} {v : qa_V} (hc : qa_code i pc = some (18, a, 4, nx, cp)) (h1 : ([v3, v2, v1, v0] : List qa_V).all qa_c1 = true) (h2 : Nat.ble S.length 4 = true) (kc : qa_E a 0 [(0, v0), (1, v1), (2, v2), (3, v3)] [] M (.inl (some v)) M1) (k : qa_E i nx L (v :: S) M1 r M') : qa_E i pc L (v3 :: v2 :: v1 :: v0 :: S) M r M' := qa_fold (Or.inr ⟨_, _, _, _, _, hc, Or.inr (Or.inr (Or.inr (Or.inr (Or.inr (Or.inr (Or.inr (Or.inr (Or.inr (Or.inr (Or.inr (Or.inr (Or.inr (Or.inr (Or.inr (Or.inr (Or.inr (Or.inr (Or.inl (⟨rfl, [v3, v2, v1, v0], S, _, _, rfl, rfl, h1, Nat.le_of_ble_eq_true h2, kc, Or.inl ⟨_, rfl, k⟩⟩)))))))))))))))))))⟩)
theorem R_callv4 {i pc a nx cp : Nat} {L : qa_L} {S : List qa_V} {M M' : qa_Mem} {r : qa_R} {v0 v1 v2 v3 : qa_V} {M1 : qa_Mem} (hc : qa_code i pc = some (18, a, 4, nx, cp)) (h1 : ([v3, v2, v1, v0] : List qa_V).all qa_c1 = true) (h2 : Nat.ble S.length 4 = true) (kc : qa_E a 0 [(0, v0), (1, v1), (2, v2), (3, v3)] [] M (.inl none) M1) (k : qa_E i nx L S M1 r M') : qa_E i pc L (v3 :: v2 :: v1 :: v0 :: S) M r M' := qa_fold (Or.inr ⟨_, _, _, _, _, hc, Or.inr (Or.inr (Or.inr (Or.inr (Or.inr (Or.inr (Or.inr (Or.inr (Or.inr (Or.inr (Or.inr (Or.inr (Or.inr (Or.inr (Or.inr (Or.inr (Or.inr (Or.inr (Or.inl (⟨rfl, [v3, v2, v1, v0], S, _, _, rfl, rfl, h1, Nat.le_of_ble_eq_true h2, kc, Or.inl ⟨_, rfl, k⟩⟩)))))))))))))))))))⟩)
theorem R_callx4 {i pc a nx cp : Nat} {L : qa_L} {S : List qa_V} {M M' : qa_Mem} {r : qa_R} {v0 v1 v2 v3 : qa_V} {M1 : qa_Mem} {E : Nat} (hc : qa_code i pc = some (18, a, 4, nx, cp)) (h1 : ([v3, v2, v1, v0] : List qa_V).all qa_c1 = true) (h2 : Nat.ble S.length 4 = true) (hh : qa_catch (qa_hnd i) pc E = none) (kc : qa_E a 0 [(0, v0), (1, v1), (2, v2), (3, v3)] [] M (.inr E) M1) (hr : r = .inr E) (hM : M' = M1) : qa_E i pc L (v3 :: v2 :: v1 :: v0 :: S) M r M' := qa_fold (Or.inr ⟨_, _, _, _, _, hc, Or.inr (Or.inr (Or.inr (Or.inr (Or.inr (Or.inr (Or.inr (Or.inr (Or.inr (Or.inr (Or.inr (Or.inr (Or.inr (Or.inr (Or.inr (Or.inr (Or.inr (Or.inr (Or.inl (⟨rfl, [v3, v2, v1, v0], S, _, _, rfl, rfl, h1, Nat.le_of_ble_eq_true h2, kc, Or.inr (Or.inl ⟨_, rfl, hh, hr, hM⟩)⟩)))))))))))))))))))⟩)
theorem R_callc4 {i pc a nx cp : Nat} {L : qa_L} {S : List qa_V} {M M' : qa_Mem} {r : qa_R} {v0 v1 v2 v3 : qa_V} {M1 : qa_Mem} {E hd : Nat} (hc : qa_code i pc = some (18, a, 4, nx, cp)) (h1 : ([v3, v2, v1, v0] : List qa_V).all qa_c1 = true) (h2 : Nat.ble S.length 4 = true) (hh : qa_catch (qa_hnd i) pc E = some hd) (kc : qa_E a 0 [(0, v0), (1, v1), (2, v2), (3, v3)] [] M (.inr E) M1) (k : qa_E i hd L [qr 999] M1 r M') : qa_E i pc L (v3 :: v2 :: v1 :: v0 :: S) M r M' := qa_fold (Or.inr ⟨_, _, _, _, _, hc, Or.inr (Or.inr (Or.inr (Or.inr (Or.inr (Or.inr (Or.inr (Or.inr (Or.inr (Or.inr (Or.inr (Or.inr (Or.inr (Or.inr (Or.inr (Or.inr (Or.inr (Or.inr (Or.inl (⟨rfl, [v3, v2, v1, v0], S, _, _, rfl, rfl, h1, Nat.le_of_ble_eq_true h2, kc, Or.inr (Or.inr ⟨_, _, rfl, hh, k⟩)⟩)))))))))))))))))))⟩)
theorem R_call5 {i pc a nx cp : Nat} {L : qa_L} {S : List qa_V} {M M' : qa_Mem} {r : qa_R} {v0 v1 v2 v3 v4 : qa_V} {M1 : qa_Mem} {v : qa_V} (hc : qa_code i pc = some (18, a, 5, nx, cp)) (h1 : ([v4, v3, v2, v1, v0] : List qa_V).all qa_c1 = true) (h2 : Nat.ble S.length 4 = true) (kc : qa_E a 0 [(0, v0), (1, v1), (2, v2), (3, v3), (4, v4)] [] M (.inl (some v)) M1) (k : qa_E i nx L (v :: S) M1 r M') : qa_E i pc L (v4 :: v3 :: v2 :: v1 :: v0 :: S) M r M' := qa_fold (Or.inr ⟨_, _, _, _, _, hc, Or.inr (Or.inr (Or.inr (Or.inr (Or.inr (Or.inr (Or.inr (Or.inr (Or.inr (Or.inr (Or.inr (Or.inr (Or.inr (Or.inr (Or.inr (Or.inr (Or.inr (Or.inr (Or.inl (⟨rfl, [v4, v3, v2, v1, v0], S, _, _, rfl, rfl, h1, Nat.le_of_ble_eq_true h2, kc, Or.inl ⟨_, rfl, k⟩⟩)))))))))))))))))))⟩)
theorem R_callv5 {i pc a nx cp : Nat} {L : qa_L} {S : List qa_V} {M M' : qa_Mem} {r : qa_R} {v0 v1 v2 v3 v4 : qa_V} {M1 : qa_Mem} (hc : qa_code i pc = some (18, a, 5, nx, cp)) (h1 : ([v4, v3, v2, v1, v0] : List qa_V).all qa_c1 = true) (h2 : Nat.ble S.length 4 = true) (kc : qa_E a 0 [(0, v0), (1, v1), (2, v2), (3, v3), (4, v4)] [] M (.inl none) M1) (k : qa_E i nx L S M1 r M') : qa_E i pc L (v4 :: v3 :: v2 :: v1 :: v0 :: S) M r M' := qa_fold (Or.inr ⟨_, _, _, _, _, hc, Or.inr (Or.inr (Or.inr (Or.inr (Or.inr (Or.inr (Or.inr (Or.inr (Or.inr (Or.inr (Or.inr (Or.inr (Or.inr (Or.inr (Or.inr (Or.inr (Or.inr (Or.inr (Or.inl (⟨rfl, [v4, v3, v2, v1, v0], S, _, _, rfl, rfl, h1, Nat.le_of_ble_eq_true h2, kc, Or.inl ⟨_, rfl, k⟩⟩)))))))))))))))))))⟩)
theorem R_callx5 {i pc a nx cp : Nat} {L : qa_L} {S : List qa_V} {M M' : qa_Mem} {r : qa_R} {v0 v1 v2 v3 v4 : qa_V} {M1 : qa_Mem} {E : Nat} (hc : qa_code i pc = some (18, a, 5, nx, cp)) (h1 : ([v4, v3, v2, v1, v0] : List qa_V).all qa_c1 = true) (h2 : Nat.ble S.length 4 = true) (hh : qa_catch (qa_hnd i) pc E = none) (kc : qa_E a 0 [(0, v0), (1, v1), (2, v2), (3, v3), (4, v4)] [] M (.inr E) M1) (hr : r = .inr E) (hM : M' = M1) : qa_E i pc L (v4 :: v3 :: v2 :: v1 :: v0 :: S) M r M' := qa_fold (Or.inr ⟨_, _, _, _, _, hc, Or.inr (Or.inr (Or.inr (Or.inr (Or.inr (Or.inr (Or.inr (Or.inr (Or.inr (Or.inr (Or.inr (Or.inr (Or.inr (Or.inr (Or.inr (Or.inr (Or.inr (Or.inr (Or.inl (⟨rfl, [v4, v3, v2, v1, v0], S, _, _, rfl, rfl, h1, Nat.le_of_ble_eq_true h2, kc, Or.inr (Or.inl ⟨_, rfl, hh, hr, hM⟩)⟩)))))))))))))))))))⟩)
theorem R_callc5 {i pc a nx cp : Nat} {L : qa_L} {S : List qa_V} {M M' : qa_Mem} {r : qa_R} {v0 v1 v2 v3 v4 : qa_V} {M1 : qa_Mem} {E hd : Nat} (hc : qa_code i pc = some (18, a, 5, nx, cp)) (h1 : ([v4, v3, v2, v1, v0] : List qa_V).all qa_c1 = true) (h2 : Nat.ble S.length 4 = true) (hh : qa_catch (qa_hnd i) pc E = some hd) (kc : qa_E a 0 [(0, v0), (1, v1), (2, v2), (3, v3), (4, v4)] [] M (.inr E) M1) (k : qa_E i hd L [qr 999] M1 r M') : qa_E i pc L (v4 :: v3 :: v2 :: v1 :: v0 :: S) M r M' := qa_fold (Or.inr ⟨_, _, _, _, _, hc, Or.inr (Or.inr (Or.inr (Or.inr (Or.inr (Or.inr (Or.inr (Or.inr (Or.inr (Or.inr (Or.inr (Or.inr (Or.inr (Or.inr (Or.inr (Or.inr (Or.inr (Or.inr (Or.inl (⟨rfl, [v4, v3, v2, v1, v0], S, _, _, rfl, rfl, h1, Nat.le_of_ble_eq_true h2, kc, Or.inr (Or.inr ⟨_, _, rfl, hh, k⟩)⟩)))))))))))))))))))⟩)
theorem R_call6 {i pc a nx cp : Nat} {L : qa_L} {S : List qa_V} {M M' : qa_Mem} {r : qa_R} {v0 v1 v2 v3 v4 v5 : qa_V} {M1 : qa_Mem} {v : qa_V} (hc : qa_code i pc = some (18, a, 6, nx, cp)) (h1 : ([v5, v4, v3, v2, v1, v0] : List qa_V).all qa_c1 = true) (h2 : Nat.ble S.length 4 = true) (kc : qa_E a 0 [(0, v0), (1, v1), (2, v2), (3, v3), (4, v4), (5, v5)] [] M (.inl (some v)) M1) (k : qa_E i nx L (v :: S) M1 r M') : qa_E i pc L (v5 :: v4 :: v3 :: v2 :: v1 :: v0 :: S) M r M' := qa_fold (Or.inr ⟨_, _, _, _, _, hc, Or.inr (Or.inr (Or.inr (Or.inr (Or.inr (Or.inr (Or.inr (Or.inr (Or.inr (Or.inr (Or.inr (Or.inr (Or.inr (Or.inr (Or.inr (Or.inr (Or.inr (Or.inr (Or.inl (⟨rfl, [v5, v4, v3, v2, v1, v0], S, _, _, rfl, rfl, h1, Nat.le_of_ble_eq_true h2, kc, Or.inl ⟨_, rfl, k⟩⟩)))))))))))))))))))⟩)
theorem R_callv6 {i pc a nx cp : Nat} {L : qa_L} {S : List qa_V} {M M' : qa_Mem} {r : qa_R} {v0 v1 v2 v3 v4 v5 : qa_V} {M1 : qa_Mem} (hc : qa_code i pc = some (18, a, 6, nx, cp)) (h1 : ([v5, v4, v3, v2, v1, v0] : List qa_V).all qa_c1 = true) (h2 : Nat.ble S.length 4 = true) (kc : qa_E a 0 [(0, v0), (1, v1), (2, v2), (3, v3), (4, v4), (5, v5)] [] M (.inl none) M1) (k : qa_E i nx L S M1 r M') : qa_E i pc L (v5 :: v4 :: v3 :: v2 :: v1 :: v0 :: S) M r M' := qa_fold (Or.inr ⟨_, _, _, _, _, hc, Or.inr (Or.inr (Or.inr (Or.inr (Or.inr (Or.inr (Or.inr (Or.inr (Or.inr (Or.inr (Or.inr (Or.inr (Or.inr (Or.inr (Or.inr (Or.inr (Or.inr (Or.inr (Or.inl (⟨rfl, [v5, v4, v3, v2, v1, v0], S, _, _, rfl, rfl, h1, Nat.le_of_ble_eq_true h2, kc, Or.inl ⟨_, rfl, k⟩⟩)))))))))))))))))))⟩)
theorem R_callx6 {i pc a nx cp : Nat} {L : qa_L} {S : List qa_V} {M M' : qa_Mem} {r : qa_R} {v0 v1 v2 v3 v4 v5 : qa_V} {M1 : qa_Mem} {E : Nat} (hc : qa_code i pc = some (18, a, 6, nx, cp)) (h1 : ([v5, v4, v3, v2, v1, v0] : List qa_V).all qa_c1 = true) (h2 : Nat.ble S.length 4 = true) (hh : qa_catch (qa_hnd i) pc E = none) (kc : qa_E a 0 [(0, v0), (1, v1), (2, v2), (3, v3), (4, v4), (5, v5)] [] M (.inr E) M1) (hr : r = .inr E) (hM : M' = M1) : qa_E i pc L (v5 :: v4 :: v3 :: v2 :: v1 :: v0 :: S) M r M' := qa_fold (Or.inr ⟨_, _, _, _, _, hc, Or.inr (Or.inr (Or.inr (Or.inr (Or.inr (Or.inr (Or.inr (Or.inr (Or.inr (Or.inr (Or.inr (Or.inr (Or.inr (Or.inr (Or.inr (Or.inr (Or.inr (Or.inr (Or.inl (⟨rfl, [v5, v4, v3, v2, v1, v0], S, _, _, rfl, rfl, h1, Nat.le_of_ble_eq_true h2, kc, Or.inr (Or.inl ⟨_, rfl, hh, hr, hM⟩)⟩)))))))))))))))))))⟩)
theorem R_callc6 {i pc a nx cp : Nat} {L : qa_L} {S : List qa_V} {M M' : qa_Mem} {r : qa_R} {v0 v1 v2 v3 v4 v5 : qa_V} {M1 : qa_Mem} {E hd : Nat} (hc : qa_code i pc = some (18, a, 6, nx, cp)) (h1 : ([v5, v4, v3, v2, v1, v0] : List qa_V).all qa_c1 = true) (h2 : Nat.ble S.length 4 = true) (hh : qa_catch (qa_hnd i) pc E = some hd) (kc : qa_E a 0 [(0, v0), (1, v1), (2, v2), (3, v3), (4, v4), (5, v5)] [] M (.inr E) M1) (k : qa_E i hd L [qr 999] M1 r M') : qa_E i pc L (v5 :: v4 :: v3 :: v2 :: v1 :: v0 :: S) M r M' := qa_fold (Or.inr ⟨_, _, _, _, _, hc, Or.inr (Or.inr (Or.inr (Or.inr (Or.inr (Or.inr (Or.inr (Or.inr (Or.inr (Or.inr (Or.inr (Or.inr (Or.inr (Or.inr (Or.inr (Or.inr (Or.inr (Or.inr (Or.inl (⟨rfl, [v5, v4, v3, v2, v1, v0], S, _, _, rfl, rfl, h1, Nat.le_of_ble_eq_true h2, kc, Or.inr (Or.inr ⟨_, _, rfl, hh, k⟩)⟩)))))))))))))))))))⟩)
theorem R_call7 {i pc a nx cp : Nat} {L : qa_L} {S : List qa_V} {M M' : qa_Mem} {r : qa_R} {v0 v1 v2 v3 v4 v5 v6 : qa_V} {M1 : qa_Mem} {v : qa_V} (hc : qa_code i pc = some (18, a, 7, nx, cp)) (h1 : ([v6, v5, v4, v3, v2, v1, v0] : List qa_V).all qa_c1 = true) (h2 : Nat.ble S.length 4 = true) (kc : qa_E a 0 [(0, v0), (1, v1), (2, v2), (3, v3), (4, v4), (5, v5), (6, v6)] [] M (.inl (some v)) M1) (k : qa_E i nx L (v :: S) M1 r M') : qa_E i pc L (v6 :: v5 :: v4 :: v3 :: v2 :: v1 :: v0 :: S) M r M' := qa_fold (Or.inr ⟨_, _, _, _, _, hc, Or.inr (Or.inr (Or.inr (Or.inr (Or.inr (Or.inr (Or.inr (Or.inr (Or.inr (Or.inr (Or.inr (Or.inr (Or.inr (Or.inr (Or.inr (Or.inr (Or.inr (Or.inr (Or.inl (⟨rfl, [v6, v5, v4, v3, v2, v1, v0], S, _, _, rfl, rfl, h1, Nat.le_of_ble_eq_true h2, kc, Or.inl ⟨_, rfl, k⟩⟩)))))))))))))))))))⟩)
theorem R_callv7 {i pc a nx cp : Nat} {L : qa_L} {S : List qa_V} {M M' : qa_Mem} {r : qa_R} {v0 v1 v2 v3 v4 v5 v6 : qa_V} {M1 : qa_Mem} (hc : qa_code i pc = some (18, a, 7, nx, cp)) (h1 : ([v6, v5, v4, v3, v2, v1, v0] : List qa_V).all qa_c1 = true) (h2 : Nat.ble S.length 4 = true) (kc : qa_E a 0 [(0, v0), (1, v1), (2, v2), (3, v3), (4, v4), (5, v5), (6, v6)] [] M (.inl none) M1) (k : qa_E i nx L S M1 r M') : qa_E i pc L (v6 :: v5 :: v4 :: v3 :: v2 :: v1 :: v0 :: S) M r M' := qa_fold (Or.inr ⟨_, _, _, _, _, hc, Or.inr (Or.inr (Or.inr (Or.inr (Or.inr (Or.inr (Or.inr (Or.inr (Or.inr (Or.inr (Or.inr (Or.inr (Or.inr (Or.inr (Or.inr (Or.inr (Or.inr (Or.inr (Or.inl (⟨rfl, [v6, v5, v4, v3, v2, v1, v0], S, _, _, rfl, rfl, h1, Nat.le_of_ble_eq_true h2, kc, Or.inl ⟨_, rfl, k⟩⟩)))))))))))))))))))⟩)
theorem R_callx7 {i pc a nx cp : Nat} {L : qa_L} {S : List qa_V} {M M' : qa_Mem} {r : qa_R} {v0 v1 v2 v3 v4 v5 v6 : qa_V} {M1 : qa_Mem} {E : Nat} (hc : qa_code i pc = some (18, a, 7, nx, cp)) (h1 : ([v6, v5, v4, v3, v2, v1, v0] : List qa_V).all qa_c1 = true) (h2 : Nat.ble S.length 4 = true) (hh : qa_catch (qa_hnd i) pc E = none) (kc : qa_E a 0 [(0, v0), (1, v1), (2, v2), (3, v3), (4, v4), (5, v5), (6, v6)] [] M (.inr E) M1) (hr : r = .inr E) (hM : M' = M1) : qa_E i pc L (v6 :: v5 :: v4 :: v3 :: v2 :: v1 :: v0 :: S) M r M' := qa_fold (Or.inr ⟨_, _, _, _, _, hc, Or.inr (Or.inr (Or.inr (Or.inr (Or.inr (Or.inr (Or.inr (Or.inr (Or.inr (Or.inr (Or.inr (Or.inr (Or.inr (Or.inr (Or.inr (Or.inr (Or.inr (Or.inr (Or.inl (⟨rfl, [v6, v5, v4, v3, v2, v1, v0], S, _, _, rfl, rfl, h1, Nat.le_of_ble_eq_true h2, kc, Or.inr (Or.inl ⟨_, rfl, hh, hr, hM⟩)⟩)))))))))))))))))))⟩)
theorem R_callc7 {i pc a nx cp : Nat} {L : qa_L} {S : List qa_V} {M M' : qa_Mem} {r : qa_R} {v0 v1 v2 v3 v4 v5 v6 : qa_V} {M1 : qa_Mem} {E hd : Nat} (hc : qa_code i pc = some (18, a, 7, nx, cp)) (h1 : ([v6, v5, v4, v3, v2, v1, v0] : List qa_V).all qa_c1 = true) (h2 : Nat.ble S.length 4 = true) (hh : qa_catch (qa_hnd i) pc E = some hd) (kc : qa_E a 0 [(0, v0), (1, v1), (2, v2), (3, v3), (4, v4), (5, v5), (6, v6)] [] M (.inr E) M1) (k : qa_E i hd L [qr 999] M1 r M') : qa_E i pc L (v6 :: v5 :: v4 :: v3 :: v2 :: v1 :: v0 :: S) M r M' := qa_fold (Or.inr ⟨_, _, _, _, _, hc, Or.inr (Or.inr (Or.inr (Or.inr (Or.inr (Or.inr (Or.inr (Or.inr (Or.inr (Or.inr (Or.inr (Or.inr (Or.inr (Or.inr (Or.inr (Or.inr (Or.inr (Or.inr (Or.inl (⟨rfl, [v6, v5, v4, v3, v2, v1, v0], S, _, _, rfl, rfl, h1, Nat.le_of_ble_eq_true h2, kc, Or.inr (Or.inr ⟨_, _, rfl, hh, k⟩)⟩)))))))))))))))))))⟩)
theorem R_call8 {i pc a nx cp : Nat} {L : qa_L} {S : List qa_V} {M M' : qa_Mem} {r : qa_R} {v0 v1 v2 v3 v4 v5 v6 v7 : qa_V} {M1 : qa_Mem} {v : qa_V} (hc : qa_code i pc = some (18, a, 8, nx, cp)) (h1 : ([v7, v6, v5, v4, v3, v2, v1, v0] : List qa_V).all qa_c1 = true) (h2 : Nat.ble S.length 4 = true) (kc : qa_E a 0 [(0, v0), (1, v1), (2, v2), (3, v3), (4, v4), (5, v5), (6, v6), (7, v7)] [] M (.inl (some v)) M1) (k : qa_E i nx L (v :: S) M1 r M') : qa_E i pc L (v7 :: v6 :: v5 :: v4 :: v3 :: v2 :: v1 :: v0 :: S) M r M' := qa_fold (Or.inr ⟨_, _, _, _, _, hc, Or.inr (Or.inr (Or.inr (Or.inr (Or.inr (Or.inr (Or.inr (Or.inr (Or.inr (Or.inr (Or.inr (Or.inr (Or.inr (Or.inr (Or.inr (Or.inr (Or.inr (Or.inr (Or.inl (⟨rfl, [v7, v6, v5, v4, v3, v2, v1, v0], S, _, _, rfl, rfl, h1, Nat.le_of_ble_eq_true h2, kc, Or.inl ⟨_, rfl, k⟩⟩)))))))))))))))))))⟩)
theorem R_callv8 {i pc a nx cp : Nat} {L : qa_L} {S : List qa_V} {M M' : qa_Mem} {r : qa_R} {v0 v1 v2 v3 v4 v5 v6 v7 : qa_V} {M1 : qa_Mem} (hc : qa_code i pc = some (18, a, 8, nx, cp)) (h1 : ([v7, v6, v5, v4, v3, v2, v1, v0] : List qa_V).all qa_c1 = true) (h2 : Nat.ble S.length 4 = true) (kc : qa_E a 0 [(0, v0), (1, v1), (2, v2), (3, v3), (4, v4), (5, v5), (6, v6), (7, v7)] [] M (.inl none) M1) (k : qa_E i nx L S M1 r M') : qa_E i pc L (v7 :: v6 :: v5 :: v4 :: v3 :: v2 :: v1 :: v0 :: S) M r M' := qa_fold (Or.inr ⟨_, _, _, _, _, hc, Or.inr (Or.inr (Or.inr (Or.inr (Or.inr (Or.inr (Or.inr (Or.inr (Or.inr (Or.inr (Or.inr (Or.inr (Or.inr (Or.inr (Or.inr (Or.inr (Or.inr (Or.inr (Or.inl (⟨rfl, [v7, v6, v5, v4, v3, v2, v1, v0], S, _, _, rfl, rfl, h1, Nat.le_of_ble_eq_true h2, kc, Or.inl ⟨_, rfl, k⟩⟩)))))))))))))))))))⟩)
theorem R_callx8 {i pc a nx cp : Nat} {L : qa_L} {S : List qa_V} {M M' : qa_Mem} {r : qa_R} {v0 v1 v2 v3 v4 v5 v6 v7 : qa_V} {M1 : qa_Mem} {E : Nat} (hc : qa_code i pc = some (18, a, 8, nx, cp)) (h1 : ([v7, v6, v5, v4, v3, v2, v1, v0] : List qa_V).all qa_c1 = true) (h2 : Nat.ble S.length 4 = true) (hh : qa_catch (qa_hnd i) pc E = none) (kc : qa_E a 0 [(0, v0), (1, v1), (2, v2), (3, v3), (4, v4), (5, v5), (6, v6), (7, v7)] [] M (.inr E) M1) (hr : r = .inr E) (hM : M' = M1) : qa_E i pc L (v7 :: v6 :: v5 :: v4 :: v3 :: v2 :: v1 :: v0 :: S) M r M' := qa_fold (Or.inr ⟨_, _, _, _, _, hc, Or.inr (Or.inr (Or.inr (Or.inr (Or.inr (Or.inr (Or.inr (Or.inr (Or.inr (Or.inr (Or.inr (Or.inr (Or.inr (Or.inr (Or.inr (Or.inr (Or.inr (Or.inr (Or.inl (⟨rfl, [v7, v6, v5, v4, v3, v2, v1, v0], S, _, _, rfl, rfl, h1, Nat.le_of_ble_eq_true h2, kc, Or.inr (Or.inl ⟨_, rfl, hh, hr, hM⟩)⟩)))))))))))))))))))⟩)
theorem R_callc8 {i pc a nx cp : Nat} {L : qa_L} {S : List qa_V} {M M' : qa_Mem} {r : qa_R} {v0 v1 v2 v3 v4 v5 v6 v7 : qa_V} {M1 : qa_Mem} {E hd : Nat} (hc : qa_code i pc = some (18, a, 8, nx, cp)) (h1 : ([v7, v6, v5, v4, v3, v2, v1, v0] : List qa_V).all qa_c1 = true) (h2 : Nat.ble S.length 4 = true) (hh : qa_catch (qa_hnd i) pc E = some hd) (kc : qa_E a 0 [(0, v0), (1, v1), (2, v2), (3, v3), (4, v4), (5, v5), (6, v6), (7, v7)] [] M (.inr E) M1) (k : qa_E i hd L [qr 999] M1 r M') : qa_E i pc L (v7 :: v6 :: v5 :: v4 :: v3 :: v2 :: v1 :: v0 :: S) M r M' := qa_fold (Or.inr ⟨_, _, _, _, _, hc, Or.inr (Or.inr (Or.inr (Or.inr (Or.inr (Or.inr (Or.inr (Or.inr (Or.inr (Or.inr (Or.inr (Or.inr (Or.inr (Or.inr (Or.inr (Or.inr (Or.inr (Or.inr (Or.inl (⟨rfl, [v7, v6, v5, v4, v3, v2, v1, v0], S, _, _, rfl, rfl, h1, Nat.le_of_ble_eq_true h2, kc, Or.inr (Or.inr ⟨_, _, rfl, hh, k⟩)⟩)))))))))))))))))))⟩)
theorem R_iret {i pc nx cp : Nat} {b : Int} {L : qa_L} {M M' : qa_Mem} {x v : Int} (hc : qa_code i pc = some (19, 0, b, nx, cp)) (hx : x = v) (hM : M = M') : qa_E i pc L [qi x] M (.inl (some (qi v))) M' := by
  subst hx; subst hM
  exact qa_fold (Or.inr ⟨_, _, _, _, _, hc, Or.inr (Or.inr (Or.inr (Or.inr (Or.inr (Or.inr (Or.inr (Or.inr (Or.inr (Or.inr (Or.inr (Or.inr (Or.inr (Or.inr (Or.inr (Or.inr (Or.inr (Or.inr (Or.inr (Or.inl (⟨rfl, _, rfl, rfl, rfl, Or.inl rfl⟩))))))))))))))))))))⟩)
theorem R_zret {i pc nx cp : Nat} {b : Int} {L : qa_L} {M M' : qa_Mem} {x v : Int} (hc : qa_code i pc = some (19, 1, b, nx, cp)) (hx : x = v) (hb : x = 0 ∨ x = 1) (hM : M = M') : qa_E i pc L [qi x] M (.inl (some (qi v))) M' := by
  subst hx; subst hM
  exact qa_fold (Or.inr ⟨_, _, _, _, _, hc, Or.inr (Or.inr (Or.inr (Or.inr (Or.inr (Or.inr (Or.inr (Or.inr (Or.inr (Or.inr (Or.inr (Or.inr (Or.inr (Or.inr (Or.inr (Or.inr (Or.inr (Or.inr (Or.inr (Or.inl (⟨rfl, _, rfl, rfl, rfl, Or.inr ⟨rfl, hb⟩⟩))))))))))))))))))))⟩)
theorem R_zret_t {i pc nx cp : Nat} {b : Int} {L : qa_L} {M M' : qa_Mem} {P : Prop} (hc : qa_code i pc = some (19, 1, b, nx, cp)) (h : P) (hM : M = M') : qa_E i pc L [qi 1] M (.inl (some (qi (qb P)))) M' := R_zret hc (qb_t h).symm (Or.inr rfl) hM
theorem R_zret_f {i pc nx cp : Nat} {b : Int} {L : qa_L} {M M' : qa_Mem} {P : Prop} (hc : qa_code i pc = some (19, 1, b, nx, cp)) (h : ¬ P) (hM : M = M') : qa_E i pc L [qi 0] M (.inl (some (qi (qb P)))) M' := R_zret hc (qb_f h).symm (Or.inl rfl) hM
theorem R_zret_b {i pc nx cp : Nat} {b : Int} {L : qa_L} {M M' : qa_Mem} {P Q : Prop} (hc : qa_code i pc = some (19, 1, b, nx, cp)) (h : P ↔ Q) (hM : M = M') : qa_E i pc L [qi (qb P)] M (.inl (some (qi (qb Q)))) M' := R_zret hc (qb_c h) (qb_01 P) hM
theorem R_vret {i pc nx cp : Nat} {b : Int} {L : qa_L} {M M' : qa_Mem} {a : Nat} (hc : qa_code i pc = some (20, a, b, nx, cp)) (hM : M = M') : qa_E i pc L [] M (.inl none) M' := by
  subst hM
  exact qa_fold (Or.inr ⟨_, _, _, _, _, hc, Or.inr (Or.inr (Or.inr (Or.inr (Or.inr (Or.inr (Or.inr (Or.inr (Or.inr (Or.inr (Or.inr (Or.inr (Or.inr (Or.inr (Or.inr (Or.inr (Or.inr (Or.inr (Or.inr (Or.inr (Or.inl (⟨rfl, rfl, rfl, rfl⟩)))))))))))))))))))))⟩)
theorem R_throw {i pc nx cp a : Nat} {b : Int} {L : qa_L} {S : List qa_V} {M : qa_Mem} (hc : qa_code i pc = some (21, a, b, nx, cp)) : qa_E i pc L S M (.inr a) (qa_upd M 99 0 (M 99 0 + 1)) := qa_fold (Or.inr ⟨_, _, _, _, _, hc, Or.inr (Or.inr (Or.inr (Or.inr (Or.inr (Or.inr (Or.inr (Or.inr (Or.inr (Or.inr (Or.inr (Or.inr (Or.inr (Or.inr (Or.inr (Or.inr (Or.inr (Or.inr (Or.inr (Or.inr (Or.inr (Or.inl (⟨rfl, rfl, rfl⟩))))))))))))))))))))))⟩)
theorem R_i2l {i pc a nx cp : Nat} {b : Int} {L : qa_L} {S : List qa_V} {M M' : qa_Mem} {r : qa_R} {x : Int} (hc : qa_code i pc = some (22, a, b, nx, cp)) (k : qa_E i nx L (ql x :: S) M r M') : qa_E i pc L (qi x :: S) M r M' := qa_fold (Or.inr ⟨_, _, _, _, _, hc, Or.inr (Or.inr (Or.inr (Or.inr (Or.inr (Or.inr (Or.inr (Or.inr (Or.inr (Or.inr (Or.inr (Or.inr (Or.inr (Or.inr (Or.inr (Or.inr (Or.inr (Or.inr (Or.inr (Or.inr (Or.inr (Or.inr (Or.inl (⟨rfl, _, _, rfl, k⟩)))))))))))))))))))))))⟩)
theorem R_last {i pc a nx cp : Nat} {b : Int} {L : qa_L} {S : List qa_V} {M M' : qa_Mem} {r : qa_R} {v x : Int} {k n : Nat} (hc : qa_code i pc = some (23, a, b, nx, cp)) (hn : qa_len 2 k = some n) (h0 : 0 ≤ x) (h1 : x < n) (kk : qa_E i nx L S (qa_upd M k x v) r M') : qa_E i pc L (ql v :: qi x :: qr k :: S) M r M' := qa_fold (Or.inr ⟨_, _, _, _, _, hc, Or.inr (Or.inr (Or.inr (Or.inr (Or.inr (Or.inr (Or.inr (Or.inr (Or.inr (Or.inr (Or.inr (Or.inr (Or.inr (Or.inr (Or.inr (Or.inr (Or.inr (Or.inr (Or.inr (Or.inr (Or.inr (Or.inr (Or.inr (Or.inl (⟨rfl, _, _, _, _, _, rfl, hn, h0, h1, kk⟩))))))))))))))))))))))))⟩)
theorem R_lald {i pc a nx cp : Nat} {b : Int} {L : qa_L} {S : List qa_V} {M M' : qa_Mem} {r : qa_R} {x : Int} {k n : Nat} (hc : qa_code i pc = some (24, a, b, nx, cp)) (hn : qa_len 2 k = some n) (h0 : 0 ≤ x) (h1 : x < n) (kk : qa_E i nx L (ql (M k x) :: S) M r M') : qa_E i pc L (qi x :: qr k :: S) M r M' := qa_fold (Or.inr ⟨_, _, _, _, _, hc, Or.inr (Or.inr (Or.inr (Or.inr (Or.inr (Or.inr (Or.inr (Or.inr (Or.inr (Or.inr (Or.inr (Or.inr (Or.inr (Or.inr (Or.inr (Or.inr (Or.inr (Or.inr (Or.inr (Or.inr (Or.inr (Or.inr (Or.inr (Or.inr (Or.inl (⟨rfl, _, _, _, _, rfl, hn, h0, h1, kk⟩)))))))))))))))))))))))))⟩)
theorem R_lcmp {i pc a nx cp : Nat} {b : Int} {L : qa_L} {S : List qa_V} {M M' : qa_Mem} {r : qa_R} {x y : Int} (hc : qa_code i pc = some (25, a, b, nx, cp)) (k : qa_E i nx L (qi (qa_sgn x y) :: S) M r M') : qa_E i pc L (ql y :: ql x :: S) M r M' := qa_fold (Or.inr ⟨_, _, _, _, _, hc, Or.inr (Or.inr (Or.inr (Or.inr (Or.inr (Or.inr (Or.inr (Or.inr (Or.inr (Or.inr (Or.inr (Or.inr (Or.inr (Or.inr (Or.inr (Or.inr (Or.inr (Or.inr (Or.inr (Or.inr (Or.inr (Or.inr (Or.inr (Or.inr (Or.inr (Or.inl (⟨rfl, _, _, _, rfl, k⟩))))))))))))))))))))))))))⟩)
theorem R_sld {i pc a nx cp : Nat} {b : Int} {L : qa_L} {S : List qa_V} {M M' : qa_Mem} {r : qa_R} {x : Int} (hc : qa_code i pc = some (26, a, b, nx, cp)) (h0 : 0 ≤ x) (h1 : x < M 97 0) (k : qa_E i nx L (qi (M 98 x) :: S) M r M') : qa_E i pc L (qi x :: qr 998 :: S) M r M' := qa_fold (Or.inr ⟨_, _, _, _, _, hc, Or.inr (Or.inr (Or.inr (Or.inr (Or.inr (Or.inr (Or.inr (Or.inr (Or.inr (Or.inr (Or.inr (Or.inr (Or.inr (Or.inr (Or.inr (Or.inr (Or.inr (Or.inr (Or.inr (Or.inr (Or.inr (Or.inr (Or.inr (Or.inr (Or.inr (Or.inr (Or.inl (⟨rfl, _, _, rfl, h0, h1, k⟩)))))))))))))))))))))))))))⟩)
theorem R_slen {i pc a nx cp : Nat} {b : Int} {L : qa_L} {S : List qa_V} {M M' : qa_Mem} {r : qa_R} (hc : qa_code i pc = some (27, a, b, nx, cp)) (k : qa_E i nx L (qi (M 97 0) :: S) M r M') : qa_E i pc L (qr 998 :: S) M r M' := qa_fold (Or.inr ⟨_, _, _, _, _, hc, Or.inr (Or.inr (Or.inr (Or.inr (Or.inr (Or.inr (Or.inr (Or.inr (Or.inr (Or.inr (Or.inr (Or.inr (Or.inr (Or.inr (Or.inr (Or.inr (Or.inr (Or.inr (Or.inr (Or.inr (Or.inr (Or.inr (Or.inr (Or.inr (Or.inr (Or.inr (Or.inr (Or.inl (⟨rfl, _, rfl, k⟩))))))))))))))))))))))))))))⟩)
theorem R_sw {i pc a nx cp : Nat} {b : Int} {L : qa_L} {S : List qa_V} {M M' : qa_Mem} {r : qa_R} {x : Int} (hc : qa_code i pc = some (28, a, b, nx, cp)) (kt : ∀ (j t : Nat), qa_sw[j]? = some t → x = (j : Int) → qa_E i t L S M r M') (kf : (x < 0 ∨ (qa_sw.length : Int) ≤ x) → qa_E i nx L S M r M') : qa_E i pc L (qi x :: S) M r M' := qa_fold (Or.inr ⟨_, _, _, _, _, hc, Or.inr (Or.inr (Or.inr (Or.inr (Or.inr (Or.inr (Or.inr (Or.inr (Or.inr (Or.inr (Or.inr (Or.inr (Or.inr (Or.inr (Or.inr (Or.inr (Or.inr (Or.inr (Or.inr (Or.inr (Or.inr (Or.inr (Or.inr (Or.inr (Or.inr (Or.inr (Or.inr (Or.inr (⟨rfl, _, _, rfl, kt, kf⟩))))))))))))))))))))))))))))⟩)
end
section
/-! arrays as functions -/
def qa_blk (M : qa_Mem) (k : Nat) (f : Int → Int) : qa_Mem := fun a b => if a = k then f b else M a b
theorem qa_blk_e {M : qa_Mem} {k : Nat} {f : Int → Int} : qa_blk M k f k = f := by funext b; unfold qa_blk; rw [if_pos rfl]
theorem qa_blk_n {M : qa_Mem} {k a : Nat} {f : Int → Int} (h : a ≠ k) : qa_blk M k f a = M a := by funext b; unfold qa_blk; rw [if_neg h]
theorem qa_upd_n {M : qa_Mem} {k a : Nat} {i v : Int} (h : a ≠ k) : qa_upd M k i v a = M a := by funext b; unfold qa_upd; rw [if_neg (fun q => h q.1)]
theorem qa_upd_i {M : qa_Mem} {k : Nat} {i v j : Int} (h : j ≠ i) : qa_upd M k i v k j = M k j := by unfold qa_upd; rw [if_neg (fun q => h q.2)]
theorem qa_upd_e {M : qa_Mem} {k : Nat} {i v : Int} : qa_upd M k i v k i = v := by unfold qa_upd; rw [if_pos ⟨rfl, rfl⟩]
def qf_ca (C : Int → Int) (n code : Int) : Nat → Int → Int
  | 0, a => a
  | k + 1, a => if a < n ∧ C a < code then qf_ca C n code k (a + 1) else a
def qf_ins (A : Int → Int) (p n v : Int) : Int → Int := fun j => if j = p then v else if p < j ∧ j ≤ n then A (j - 1) else A j
def qf_del (A : Int → Int) (p n : Int) : Int → Int := fun j => if p ≤ j ∧ j < n - 1 then A (j + 1) else A j
def qf_add (A : Int → Int) (lo hi c : Int) : Int → Int := fun j => if lo ≤ j ∧ j ≤ hi then A j + c else A j
def qf_set (A : Int → Int) (p v : Int) : Int → Int := fun j => if j = p then v else A j
/-- how many of the first n hold P -/
noncomputable def qf_cnt (P : Int → Prop) : Nat → Int
  | 0 => 0
  | n + 1 => qf_cnt P n + qb (P n)
theorem qf_cnt_r (P : Int → Prop) (n : Nat) : 0 ≤ qf_cnt P n ∧ qf_cnt P n ≤ n := by
  induction n with
  | zero => exact ⟨Int.le_refl _, Int.le_refl _⟩
  | succ n ih =>
    unfold qf_cnt
    rcases qb_01 (P n) with h | h <;> rw [h] <;> omega
theorem qf_cnt_c {P Q : Int → Prop} (n : Nat) (h : ∀ j : Int, 0 ≤ j → j < n → (P j ↔ Q j)) : qf_cnt P n = qf_cnt Q n := by
  induction n with
  | zero => rfl
  | succ n ih =>
    unfold qf_cnt
    rw [ih (fun j h0 h1 => h j h0 (by omega)), qb_c (h n (by omega) (by omega))]
theorem qb_ne {x : Int} (h : x = 0 ∨ x = 1) : x = qb (x ≠ 0) := by
  rcases h with h | h
  · rw [h, qb_f (by decide)]
  · rw [h, qb_t (by decide)]
theorem qf_ca_r (C : Int → Int) (n code : Int) (k : Nat) : ∀ a, a ≤ n → n ≤ a + k → a ≤ qf_ca C n code k a ∧ qf_ca C n code k a ≤ n ∧ (∀ j, a ≤ j → j < qf_ca C n code k a → C j < code) ∧ (qf_ca C n code k a < n → code ≤ C (qf_ca C n code k a)) := by
  induction k with
  | zero => intro a h1 h2; unfold qf_ca; exact ⟨by omega, by omega, fun j _ _ => by omega, fun h => by omega⟩
  | succ k ih =>
    intro a h1 h2
    unfold qf_ca
    by_cases hc : a < n ∧ C a < code
    · rw [if_pos hc]
      obtain ⟨g1, g2, g3, g4⟩ := ih (a + 1) (by omega) (by omega)
      refine ⟨by omega, g2, fun j h3 h4 => ?_, g4⟩
      by_cases hj : j = a
      · subst hj; exact hc.2
      · exact g3 j (by omega) h4
    · rw [if_neg hc]
      exact ⟨by omega, h1, fun j _ _ => by omega, fun h => by omega⟩
theorem qa_shl_b : ∀ a : Fin 6, qa_shl 1 (a.val : Int) = 2 ^ a.val := by decide +kernel
/-- the four rows of the key table, each changed alike -/
def qf_rows (M : qa_Mem) (g : (Int → Int) → Int → Int) : qa_Mem := fun c j => if 14 ≤ c ∧ c ≤ 17 then g (M c) j else M c j
theorem qf_rows_i {M : qa_Mem} {g : (Int → Int) → Int → Int} {c : Nat} (h : 14 ≤ c ∧ c ≤ 17) : qf_rows M g c = g (M c) := by funext j; unfold qf_rows; rw [if_pos h]
theorem qf_rows_n {M : qa_Mem} {g : (Int → Int) → Int → Int} {c : Nat} (h : ¬ (14 ≤ c ∧ c ≤ 17)) : qf_rows M g c = M c := by funext j; unfold qf_rows; rw [if_neg h]
theorem qf_rows_2 {M : qa_Mem} {g h : (Int → Int) → Int → Int} : qf_rows (qf_rows M g) h = qf_rows M (fun A => h (g A)) := by
  funext c j
  by_cases hc : 14 ≤ c ∧ c ≤ 17
  · rw [qf_rows_i hc, qf_rows_i hc, qf_rows_i hc]
  · rw [qf_rows_n hc, qf_rows_n hc, qf_rows_n hc]
theorem qf_rows_id {M : qa_Mem} {g : (Int → Int) → Int → Int} (h : ∀ A, g A = A) : qf_rows M g = M := by
  funext c j
  by_cases hc : 14 ≤ c ∧ c ≤ 17
  · rw [qf_rows_i hc, h]
  · rw [qf_rows_n hc]
def qf_or (A : Int → Int) : Nat → Int
  | 0 => 0
  | n + 1 => qa_or (qf_or A n) (A n)
def qf_sum (A : Int → Int) : Nat → Int
  | 0 => 0
  | n + 1 => qf_sum A n + A n
def qf_best (H P : Int → Int) : Nat → Int
  | 0 => -1
  | n + 1 => if 0 < H n ∧ (qf_best H P n < 0 ∨ P (qf_best H P n) < P n) then (n : Int) else qf_best H P n
def qf_cool (h : Int) : Int := if 4 < h then h - 4 else 0
theorem qf_mulb {d e A B : Int} (h1 : -A ≤ d) (h2 : d ≤ A) (h3 : -B ≤ e) (h4 : e ≤ B) : -(A * B) ≤ d * e ∧ d * e ≤ A * B := by
  have hA : d.natAbs ≤ A.toNat := by omega
  have hB : e.natAbs ≤ B.toNat := by omega
  have h := Nat.mul_le_mul hA hB
  rw [← Int.natAbs_mul] at h
  have e1 : ((A.toNat * B.toNat : Nat) : Int) = A * B := by
    rw [Int.natCast_mul, Int.toNat_of_nonneg (by omega), Int.toNat_of_nonneg (by omega)]
  omega
theorem qa_xor_neg {x y : Int} (hx : qa_InR x) (hy : 0 ≤ y) (hy2 : qa_InR y) : qa_xor x y < 0 ↔ x < 0 := by
  unfold qa_InR at hx hy2
  have e1 : (Int32.ofInt x).toInt = x := Int32.toInt_ofInt_of_le (by omega) (by omega)
  have e2 : (Int32.ofInt y).toInt = y := Int32.toInt_ofInt_of_le (by omega) (by omega)
  unfold qa_xor
  rw [← Int32.toInt_toBitVec, Int32.toBitVec_xor]
  have m1 := BitVec.msb_eq_toInt (x := (Int32.ofInt x).toBitVec ^^^ (Int32.ofInt y).toBitVec)
  rw [BitVec.msb_xor, BitVec.msb_eq_toInt, BitVec.msb_eq_toInt, Int32.toInt_toBitVec, Int32.toInt_toBitVec, e1, e2] at m1
  have h0 : decide (y < 0) = false := by simp; omega
  rw [h0, Bool.xor_false] at m1
  exact ⟨fun h => of_decide_eq_true (m1.trans (decide_eq_true h)), fun h => of_decide_eq_true (m1.symm.trans (decide_eq_true h))⟩
theorem qf_tdiv {x y : Int} (h : 0 < y) : x.tdiv y * y = x - x.tmod y ∧ (0 ≤ x → x.tdiv y = x / y) ∧ (x < 0 → x.tmod y = 0 → x.tdiv y = x / y) ∧ (x < 0 → x.tmod y ≠ 0 → x.tdiv y - 1 = x / y) ∧ x.tmod y < y ∧ -y < x.tmod y ∧ (0 ≤ x → 0 ≤ x.tmod y) ∧ (x < 0 → x.tmod y ≤ 0) := by
  have e1 := Int.mul_tdiv_add_tmod x y
  have e2 := Int.tmod_lt_of_pos x h
  have e3 : x.tdiv y * y = x - x.tmod y := by rw [Int.mul_comm]; omega
  have e4 : -y < x.tmod y := Int.lt_tmod_of_pos x h
  have e5 : 0 ≤ x → 0 ≤ x.tmod y := fun hx => Int.tmod_nonneg y hx
  have e6 : x < 0 → x.tmod y ≤ 0 := fun hx => by
    have := Int.tmod_nonneg (a := -x) y (by omega)
    rw [Int.neg_tmod] at this
    omega
  have uq : ∀ q r : Int, q * y = x - r → 0 ≤ r → r < y → q = x / y := fun q r a b c => by
    have : x = r + y * q := by rw [Int.mul_comm y q]; omega
    rw [this, Int.add_mul_ediv_left _ _ (by omega), Int.ediv_eq_zero_of_lt b c]
    omega
  refine ⟨e3, fun hx => uq _ _ e3 (e5 hx) e2, fun hx h0 => uq _ 0 (by omega) (by omega) h, fun hx h0 => uq _ (x.tmod y + y) ?_ (by have := e6 hx; omega) (by have := e6 hx; omega), e2, e4, e5, e6⟩
  rw [Int.sub_mul]
  omega
def qf_last (nx st : Int) : Int := if st < nx then nx - 1 else st
def qp_v (C V F : Int → Int) (st nx en f : Int) : Int := if st = en then 0 else if (nx < en ∧ C (qf_last nx st) % 1000 < f) ∧ F (qf_last nx st) ≠ 0 then V (qf_last nx st) + (V nx - V (qf_last nx st)) * (f - C (qf_last nx st) % 1000) / (C nx % 1000 - C (qf_last nx st) % 1000) else V (qf_last nx st)
def qp_b (C A F : Int → Int) (st nx en f : Int) : Int := if st = en then 0 else if (nx < en ∧ C (qf_last nx st) % 1000 < f) ∧ F (qf_last nx st) ≠ 0 then qa_or (qa_shl 1 (A (qf_last nx st))) (qa_shl 1 (A nx)) else qa_shl 1 (A (qf_last nx st))
theorem qa_upd_2 {M : qa_Mem} {k : Nat} {i v w : Int} : qa_upd (qa_upd M k i v) k i w = qa_upd M k i w := by
  funext a b
  unfold qa_upd
  by_cases h : a = k ∧ b = i
  · rw [if_pos h, if_pos h]
  · rw [if_neg h, if_neg h, if_neg h]
theorem qa_upd_x {M : qa_Mem} {k k1 : Nat} {i v j w : Int} (hk : k ≠ k1) : qa_upd (qa_upd M k i v) k1 j w = qa_upd (qa_upd M k1 j w) k i v := by
  funext a b
  unfold qa_upd
  by_cases h : a = k ∧ b = i
  · rw [if_pos h, if_neg (fun q => hk (h.1.symm.trans q.1)), if_pos h]
  · rw [if_neg h, if_neg h]
/-- sorted codes of keys -/
def qk_wf (C V A F : Int → Int) (n : Int) : Prop := 0 ≤ n ∧ n ≤ 80 ∧ (∀ i j : Int, 0 ≤ i → i < j → j < n → C i < C j) ∧ (∀ i : Int, 0 ≤ i → i < n → 0 ≤ C i ∧ C i < 24000 ∧ C i % 1000 < 120) ∧ (∀ i : Int, 0 ≤ i → i < 80 → -200 ≤ V i ∧ V i ≤ 200) ∧ (∀ i : Int, 0 ≤ i → i < 80 → 0 ≤ A i ∧ A i < 6) ∧ (∀ i : Int, 0 ≤ i → i < 80 → F i = 0 ∨ F i = 1)
theorem qf_ca_u {C V A F : Int → Int} {n c v : Int} (hw : qk_wf C V A F n) (h1 : 0 ≤ v) (h2 : v ≤ n) (h3 : v = 0 ∨ C (v - 1) < c) (h4 : v = n ∨ c ≤ C v) : qf_ca C n c 80 0 = v := by
  obtain ⟨w1, w2, w3, -⟩ := hw
  obtain ⟨g1, g2, g3, g4⟩ := qf_ca_r C n c 80 0 w1 (by omega)
  rcases Int.lt_trichotomy (qf_ca C n c 80 0) v with h | h | h
  · exfalso
    have a1 := g4 (by omega)
    have a2 : C (v - 1) < c := by omega
    by_cases hv : qf_ca C n c 80 0 = v - 1
    · rw [hv] at a1; omega
    · have := w3 (qf_ca C n c 80 0) (v - 1) g1 (by omega) (by omega); omega
  · exact h
  · exfalso
    have a1 := g3 v h1 h
    omega
theorem qf_ca_s {C V A F : Int → Int} {n : Int} (hw : qk_wf C V A F n) (c : Int) : 0 ≤ qf_ca C n c 80 0 ∧ qf_ca C n c 80 0 ≤ n ∧ (∀ j, 0 ≤ j → j < qf_ca C n c 80 0 → C j < c) ∧ (∀ j, qf_ca C n c 80 0 ≤ j → j < n → c ≤ C j) := by
  obtain ⟨w1, w2, w3, -⟩ := hw
  obtain ⟨g1, g2, g3, g4⟩ := qf_ca_r C n c 80 0 w1 (by omega)
  refine ⟨g1, g2, g3, fun j h1 h2 => ?_⟩
  have a1 := g4 (by omega)
  by_cases hj : j = qf_ca C n c 80 0
  · rw [hj]; exact a1
  · have := w3 _ j g1 (by omega) h2; omega
theorem qf_ca_m {C V A F : Int → Int} {n : Int} (hw : qk_wf C V A F n) {c d : Int} (h : c ≤ d) : qf_ca C n c 80 0 ≤ qf_ca C n d 80 0 := by
  obtain ⟨a1, a2, a3, a4⟩ := qf_ca_s hw c
  obtain ⟨b1, b2, b3, b4⟩ := qf_ca_s hw d
  by_cases hh : qf_ca C n c 80 0 ≤ qf_ca C n d 80 0
  · exact hh
  · have p1 := a3 (qf_ca C n d 80 0) b1 (by omega)
    have p2 := b4 (qf_ca C n d 80 0) (Int.le_refl _) (by omega)
    omega
/-- what a track's row of values is, up to the frame a -/
def qt_v (C V F : Int → Int) (n t : Int) (f : Int) : Int := qp_v C V F (qf_ca C n (1000 * t + 0) 80 0) (qf_ca C n (1000 * t + f + 1) 80 0) (qf_ca C n (1000 * (t + 1) + 0) 80 0) f
def qt_b (C A F : Int → Int) (n t : Int) (f : Int) : Int := qp_b C A F (qf_ca C n (1000 * t + 0) 80 0) (qf_ca C n (1000 * t + f + 1) 80 0) (qf_ca C n (1000 * (t + 1) + 0) 80 0) f
def qt_M (M : qa_Mem) (t a : Int) : qa_Mem := qa_blk (qa_blk M 12 (fun j => if 120 * t ≤ j ∧ j < 120 * t + a then qt_v (M 14) (M 15) (M 17) (M 2 4) t (j - 120 * t) else M 12 j)) 13 (fun j => if 120 * t ≤ j ∧ j < 120 * t + a then qt_b (M 14) (M 16) (M 17) (M 2 4) t (j - 120 * t) else M 13 j)
def qg_rot : Nat → Int × Int → Int × Int
  | 0, p => p
  | n + 1, p => qg_rot n (-p.2, p.1)
def qg_c (P T X Y : Int → Int) : Nat → Int → Int → Int → Int × Int
  | 0, _, x, y => (x, y)
  | n + 1, u, x, y => if u < 0 then (x, y) else qg_c P T X Y n (P u) ((qg_rot (T u).toNat (x, y)).1 + X u) ((qg_rot (T u).toNat (x, y)).2 + Y u)
theorem qg_rot_b {B : Int} (n : Nat) : ∀ p : Int × Int, -B ≤ p.1 → p.1 ≤ B → -B ≤ p.2 → p.2 ≤ B → -B ≤ (qg_rot n p).1 ∧ (qg_rot n p).1 ≤ B ∧ -B ≤ (qg_rot n p).2 ∧ (qg_rot n p).2 ≤ B := by
  induction n with
  | zero => intro p h1 h2 h3 h4; exact ⟨h1, h2, h3, h4⟩
  | succ n ih => intro p h1 h2 h3 h4; exact ih (-p.2, p.1) (by show -B ≤ -p.2; omega) (by show -p.2 ≤ B; omega) h1 h2
/-- a frame's values are those of which it was made (class) -/
def qs_am (M : qa_Mem) (f : Int) : Prop := M 19 f = M 1 3 ∧ ∀ t : Int, 0 ≤ t → t < 3 * M 1 3 → M 18 (t * 120 + f) = M 12 (t * 120 + f)
def qs_rend (M : qa_Mem) (f : Int) : qa_Mem := qa_upd (qa_upd (qa_blk M 18 (fun j => if j % 120 = f ∧ 0 ≤ j ∧ j < 360 * M 1 3 then M 12 j else M 18 j)) 19 f (M 1 3)) 20 f 1
noncomputable def qs_cmp (M : qa_Mem) (a : Int) : qa_Mem := qa_blk M 20 (fun f => if 0 ≤ f ∧ f < a ∧ M 20 f ≠ 0 then 2 - qb (qs_am M f) else M 20 f)
/-- the frame at a place of the film; none: its length is less -/
def qm_at (F G : Int → Int) : Nat → Int → Int → Int
  | 0, _, _ => -1
  | n + 1, k, left => if left < G k - F k + 1 then F k + left else qm_at F G n (k + 1) (left - (G k - F k + 1))
def qm_cnt (M : qa_Mem) (lo hi c : Int) : qa_Mem := qa_upd (qa_blk M 23 (qf_add (M 23) lo hi c)) 4 4 (M 4 4 + c * (hi + 1 - lo))
noncomputable def qx {α : Type} (P : Prop) (a b : α) : α := @ite α P (Classical.propDecidable P) a b
theorem qx_t {α : Type} {P : Prop} {a b : α} (h : P) : qx P a b = a := by unfold qx; rw [if_pos h]
theorem qx_f {α : Type} {P : Prop} {a b : α} (h : ¬ P) : qx P a b = b := by unfold qx; rw [if_neg h]
theorem qx_c {α : Type} {P Q : Prop} {a b : α} (h : P ↔ Q) : qx P a b = qx Q a b := by rw [propext h]
/-- how many of the frames ahead of n a machine of speed sp renders -/
noncomputable def qr_c (need : Int → Prop) (sp : Int) : Nat → Int
  | 0 => 0
  | n + 1 => qr_c need sp n + qb (qr_c need sp n < sp ∧ need n)
def qr_p (need : Int → Prop) (sp : Int) (f : Int) : Prop := qr_c need sp f.toNat < sp ∧ need f
theorem qr_c_r (need : Int → Prop) (sp : Int) (h : 0 ≤ sp) (n : Nat) : 0 ≤ qr_c need sp n ∧ qr_c need sp n ≤ sp := by
  induction n with
  | zero => exact ⟨Int.le_refl _, h⟩
  | succ n ih =>
    unfold qr_c
    by_cases hp : qr_c need sp n < sp ∧ need n
    · rw [qb_t hp]; omega
    · rw [qb_f hp]; omega
theorem qr_stop (need : Int → Prop) (sp : Int) (n k : Nat) (h : sp ≤ qr_c need sp n) : qr_c need sp (n + k) = qr_c need sp n := by
  induction k with
  | zero => rfl
  | succ k ih =>
    show qr_c need sp (n + k) + qb (qr_c need sp (n + k) < sp ∧ need ((n + k : Nat) : Int)) = _
    rw [qb_f (by omega)]
    omega
theorem qr_c_c {P Q : Int → Prop} (sp : Int) (n : Nat) (h : ∀ j : Int, 0 ≤ j → j < n → (P j ↔ Q j)) : qr_c P sp n = qr_c Q sp n := by
  induction n with
  | zero => rfl
  | succ n ih =>
    unfold qr_c
    rw [ih (fun j h0 h1 => h j h0 (by omega)), qb_c (and_congr Iff.rfl (h n (by omega) (by omega)))]
noncomputable def qs_rm (M : qa_Mem) (need : Int → Prop) (sp a : Int) : qa_Mem := qa_blk (qa_blk (qa_blk M 18 (fun j => qx (qr_p need sp (j % 120) ∧ j % 120 < a ∧ 0 ≤ j ∧ j < 360 * M 1 3) (M 12 j) (M 18 j))) 19 (fun f => qx (qr_p need sp f ∧ 0 ≤ f ∧ f < a) (M 1 3) (M 19 f))) 20 (fun f => qx (qr_p need sp f ∧ 0 ≤ f ∧ f < a) 1 (M 20 f))
def qc_need (M : qa_Mem) : Int → Prop := fun f => 0 < M 23 f ∧ M 20 f ≠ 1
def qv_farm (H R S L P : Int → Int) (nM nO : Int) : Prop := (0 ≤ nM ∧ nM ≤ 4) ∧ (0 ≤ nO ∧ nO ≤ 10) ∧ (∀ m : Int, 0 ≤ m → m < 4 → 0 ≤ H m ∧ H m ≤ 24 ∧ (R m = 0 ∨ R m = 1) ∧ (R m = 0 → H m < 20)) ∧ (∀ m : Int, 0 ≤ m → m < nM → 1 ≤ S m ∧ S m ≤ 5) ∧ (∀ o : Int, 0 ≤ o → o < nO → (0 ≤ L o ∧ L o ≤ 50) ∧ 1 ≤ P o ∧ P o ≤ 100)
theorem qf_best_r (H P : Int → Int) (n : Nat) : -1 ≤ qf_best H P n ∧ qf_best H P n < n ∧ (0 ≤ qf_best H P n → 0 < H (qf_best H P n)) := by
  induction n with
  | zero => exact ⟨show -1 ≤ (-1 : Int) by decide, show (-1 : Int) < 0 by decide, fun h => absurd (show (0 : Int) ≤ -1 from h) (by decide)⟩
  | succ n ih =>
    unfold qf_best
    by_cases hc : 0 < H n ∧ (qf_best H P n < 0 ∨ P (qf_best H P n) < P n)
    · rw [if_pos hc]; exact ⟨by omega, by omega, fun _ => hc.1⟩
    · rw [if_neg hc]; exact ⟨ih.1, by omega, ih.2.2⟩
/-- the heat of a machine behind an hour of work: r rendered, best the offer -/
noncomputable def qw_h (h r best : Int) : Int := qx (r ≠ 0) (h + r) (qx (0 ≤ best) (h + 3) (qf_cool h))
/-- class: an hour of work of a machine that does not rest -/
noncomputable def qc_wr (M : qa_Mem) (m : Int) : Int := qr_c (qc_need M) (M 24 m) 120
def qc_wb (M : qa_Mem) : Int := qf_best (M 28) (M 27) (M 5 6).toNat
noncomputable def qc_wM (M : qa_Mem) (m : Int) : qa_Mem :=
  let N := qs_rm M (qc_need M) (M 24 m) 120
  let K := qx (qc_wr M m = 0 ∧ 0 ≤ qc_wb M) (qa_upd (qa_upd N 28 (qc_wb M) (M 28 (qc_wb M) - 1)) 5 7 (qa_wrap (M 5 7 + M 27 (qc_wb M)))) N
  qa_upd (qa_upd K 25 m (qw_h (M 25 m) (qc_wr M m) (qc_wb M))) 26 m (qb (20 ≤ qw_h (M 25 m) (qc_wr M m) (qc_wb M)))
noncomputable def qc_wx (M : qa_Mem) (m : Int) : Int := 1000 * qc_wr M m + qb (qc_wr M m = 0 ∧ 0 ≤ qc_wb M)
noncomputable def qc_rM (M : qa_Mem) (m : Int) : qa_Mem := qa_upd (qa_upd M 25 m (qf_cool (M 25 m))) 26 m (qb (8 < qf_cool (M 25 m)))
/-- class: an hour of machine m: what it gains, and the memory behind it -/
noncomputable def qc_h (m : Int) (q : Int × qa_Mem) : Int × qa_Mem := qx (q.2 26 m ≠ 0) (qa_wrap (q.1 + 0), qc_rM q.2 m) (qa_wrap (q.1 + qc_wx q.2 m), qc_wM q.2 m)
noncomputable def qc_ms (q : Int × qa_Mem) : Nat → Int × qa_Mem
  | 0 => q
  | n + 1 => qc_h n (qc_ms q n)
noncomputable def qc_hs (q : Int × qa_Mem) (k : Nat) : Nat → Int × qa_Mem
  | 0 => q
  | n + 1 => qc_ms (qc_hs q k n) k
end
section
/-! contracts of the small methods -/
theorem K_Keys_codeOf {t f : Int} {M : qa_Mem} (h1 : 0 ≤ t) (h2 : t ≤ 1000) (h3 : 0 ≤ f) (h4 : f ≤ 1000) : qa_E 2 0 [(0, qi (t)), (1, qi (f))] [] (M) (.inl (some (qi (1000 * t + f)))) (M) := by
  refine R_push cd_2_0 ?_
  refine R_iload cd_2_3 rfl ?_
  refine R_imul cd_2_4 (by unfold qa_InR; first | omega | (simp [qa_upd, qa_blk] <;> omega)) ?_
  refine R_iload cd_2_5 rfl ?_
  refine R_iadd cd_2_6 (by unfold qa_InR; first | omega | (simp [qa_upd, qa_blk] <;> omega)) ?_
  exact R_iret cd_2_7 (by first | rfl | omega) rfl
theorem K_Keys_size {M : qa_Mem} : qa_E 3 0 [(0, qr 2)] [] (M) (.inl (some (qi (M 2 4)))) (M) := by
  refine R_aload cd_3_0 rfl ?_
  refine R_getf cd_3_1 rfl (by decide) ?_
  exact R_iret cd_3_4 (by first | rfl | omega) rfl
theorem K_Keys_codeAt {p : Int} {M : qa_Mem} (h1 : 0 ≤ p) (h2 : p < 80) : qa_E 4 0 [(0, qr 2), (1, qi (p))] [] (M) (.inl (some (qi (M 14 p)))) (M) := by
  refine R_aload cd_4_0 rfl ?_
  refine R_getr cd_4_1 rfl ?_
  refine R_iload cd_4_4 rfl ?_
  refine R_iald cd_4_5 rfl (by omega) (by omega) ?_
  exact R_iret cd_4_6 (by first | rfl | omega) rfl
theorem K_Keys_frameAt {p : Int} {M : qa_Mem} (h1 : 0 ≤ p) (h2 : p < 80) (h3 : 0 ≤ M 14 p) : qa_E 5 0 [(0, qr 2), (1, qi (p))] [] (M) (.inl (some (qi (M 14 p % 1000)))) (M) := by
  refine R_aload cd_5_0 rfl ?_
  refine R_getr cd_5_1 rfl ?_
  refine R_iload cd_5_4 rfl ?_
  refine R_iald cd_5_5 rfl (by omega) (by omega) ?_
  refine R_push cd_5_6 ?_
  refine R_irem cd_5_9 (by omega) ?_
  exact R_iret cd_5_10 (Int.tmod_eq_emod_of_nonneg h3) rfl
theorem K_Keys_valueAt {p : Int} {M : qa_Mem} (h1 : 0 ≤ p) (h2 : p < 80) : qa_E 6 0 [(0, qr 2), (1, qi (p))] [] (M) (.inl (some (qi (M 15 p)))) (M) := by
  refine R_aload cd_6_0 rfl ?_
  refine R_getr cd_6_1 rfl ?_
  refine R_iload cd_6_4 rfl ?_
  refine R_iald cd_6_5 rfl (by omega) (by omega) ?_
  exact R_iret cd_6_6 (by first | rfl | omega) rfl
theorem K_Keys_setterBit {p : Int} {M : qa_Mem} (h1 : 0 ≤ p) (h2 : p < 80) : qa_E 7 0 [(0, qr 2), (1, qi (p))] [] (M) (.inl (some (qi (qa_shl 1 (M 16 p))))) (M) := by
  refine R_push cd_7_0 ?_
  refine R_aload cd_7_1 rfl ?_
  refine R_getr cd_7_2 rfl ?_
  refine R_iload cd_7_5 rfl ?_
  refine R_iald cd_7_6 rfl (by omega) (by omega) ?_
  refine R_ishl cd_7_7 ?_
  exact R_iret cd_7_8 (by first | rfl | omega) rfl
theorem K_Keys_isSoft {p : Int} {M : qa_Mem} (h1 : 0 ≤ p) (h2 : p < 80) (h3 : M 17 p = 0 ∨ M 17 p = 1) : qa_E 8 0 [(0, qr 2), (1, qi (p))] [] (M) (.inl (some (qi (qb (M 17 p ≠ 0))))) (M) := by
  refine R_aload cd_8_0 rfl ?_
  refine R_getr cd_8_1 rfl ?_
  refine R_iload cd_8_4 rfl ?_
  refine R_zald cd_8_5 rfl (by omega) (by omega) ?_
  exact R_zret cd_8_6 (qb_ne h3) h3 rfl
theorem K_Keys_countAhead {c : Int} {M : qa_Mem} (h1 : 0 ≤ M 2 4) (h2 : M 2 4 ≤ 80) : qa_E 9 0 [(0, qr 2), (1, qi (c))] [] (M) (.inl (some (qi (qf_ca (M 14) (M 2 4) c 80 0)))) (M) := by
  have lp : ∀ (k : Nat) (a : Int), 0 ≤ a → a ≤ M 2 4 → M 2 4 ≤ a + k → qa_E 9 2 [(0, qr 2), (1, qi c), (2, qi a)] [] M (.inl (some (qi (qf_ca (M 14) (M 2 4) c k a)))) M := by
    intro k
    induction k with
    | zero =>
      intro a g1 g2 g3
      refine R_iload cd_9_2 rfl ?_
      refine R_aload cd_9_3 rfl ?_
      refine R_getf cd_9_4 rfl (by decide) ?_
      refine R_icmp_ge 26 cd_9_7 rfl (fun b7 => ?_) (fun b7 => ?_)
      · refine R_iload cd_9_26 rfl ?_
        exact R_iret cd_9_27 (by first | rfl | omega) rfl
      · omega
    | succ k ih =>
      intro a g1 g2 g3
      refine R_iload cd_9_2 rfl ?_
      refine R_aload cd_9_3 rfl ?_
      refine R_getf cd_9_4 rfl (by decide) ?_
      refine R_icmp_ge 26 cd_9_7 rfl (fun b7 => ?_) (fun b7 => ?_)
      · refine R_iload cd_9_26 rfl ?_
        exact R_iret cd_9_27 (by unfold qf_ca; rw [if_neg (by omega)]) rfl
      · refine R_aload cd_9_10 rfl ?_
        refine R_getr cd_9_11 rfl ?_
        refine R_iload cd_9_14 rfl ?_
        refine R_iald cd_9_15 rfl (by omega) (by omega) ?_
        refine R_iload cd_9_16 rfl ?_
        refine R_icmp_ge 26 cd_9_17 rfl (fun b17 => ?_) (fun b17 => ?_)
        · refine R_iload cd_9_26 rfl ?_
          exact R_iret cd_9_27 (by unfold qf_ca; rw [if_neg (by omega)]) rfl
        · refine R_iinc cd_9_20 rfl (by unfold qa_InR; first | omega | (simp [qa_upd, qa_blk] <;> omega)) ?_
          refine R_goto cd_9_23 ?_
          have e := ih (a + 1) (by omega) (by omega) (by omega)
          unfold qf_ca
          rw [if_pos ⟨b7, b17⟩]
          exact R_norm (qs_c rfl (qs_c rfl (qs_c rfl qs_n))) e
  refine R_push cd_9_0 ?_
  refine R_istore cd_9_1 ?_
  exact R_norm (qs_c rfl (qs_c rfl (qs_c rfl qs_n))) (lp 80 0 (by omega) (by omega) (by omega))
theorem K_Keys_startOf {t : Int} {M : qa_Mem} (h1 : 0 ≤ M 2 4) (h2 : M 2 4 ≤ 80) (h3 : 0 ≤ t) (h4 : t ≤ 1000) : qa_E 10 0 [(0, qr 2), (1, qi (t))] [] (M) (.inl (some (qi (qf_ca (M 14) (M 2 4) (1000 * t + 0) 80 0)))) (M) := by
  refine R_aload cd_10_0 rfl ?_
  refine R_iload cd_10_1 rfl ?_
  refine R_push cd_10_2 ?_
  refine R_call2 cd_10_3 rfl rfl (K_Keys_codeOf (by omega) (by omega) (by omega) (by omega)) ?_
  refine R_call2 cd_10_6 rfl rfl (K_Keys_countAhead (by omega) (by omega)) ?_
  exact R_iret cd_10_9 (by first | rfl | omega) rfl
theorem K_Keys_has {c : Int} {M : qa_Mem} (h1 : 0 ≤ M 2 4) (h2 : M 2 4 ≤ 80) : qa_E 11 0 [(0, qr 2), (1, qi (c))] [] (M) (.inl (some (qi (qb (qf_ca (M 14) (M 2 4) c 80 0 < M 2 4 ∧ M 14 (qf_ca (M 14) (M 2 4) c 80 0) = c))))) (M) := by
  have g := qf_ca_r (M 14) (M 2 4) c 80 0 (by omega) (by omega)
  refine R_aload cd_11_0 rfl ?_
  refine R_iload cd_11_1 rfl ?_
  refine R_call2 cd_11_2 rfl rfl (K_Keys_countAhead (by omega) (by omega)) ?_
  refine R_istore cd_11_5 ?_
  refine R_iload cd_11_6 rfl ?_
  refine R_aload cd_11_7 rfl ?_
  refine R_getf cd_11_8 rfl (by decide) ?_
  refine R_icmp_ge 28 cd_11_11 rfl (fun b11 => ?_) (fun b11 => ?_)
  · refine R_push cd_11_28 ?_
    exact R_zret_f cd_11_29 (by omega) rfl
  · refine R_aload cd_11_14 rfl ?_
    refine R_getr cd_11_15 rfl ?_
    refine R_iload cd_11_18 rfl ?_
    refine R_iald cd_11_19 rfl (by omega) (by omega) ?_
    refine R_iload cd_11_20 rfl ?_
    refine R_icmp_ne 28 cd_11_21 rfl (fun b21 => ?_) (fun b21 => ?_)
    · refine R_push cd_11_28 ?_
      exact R_zret_f cd_11_29 (by omega) rfl
    · refine R_push cd_11_24 ?_
      refine R_goto cd_11_25 ?_
      exact R_zret_t cd_11_29 (by omega) rfl
theorem K_Film_shotCount {M : qa_Mem} : qa_E 17 0 [(0, qr 4)] [] (M) (.inl (some (qi (M 4 3)))) (M) := by
  refine R_aload cd_17_0 rfl ?_
  refine R_getf cd_17_1 rfl (by decide) ?_
  exact R_iret cd_17_4 (by first | rfl | omega) rfl
theorem K_Film_length {M : qa_Mem} : qa_E 18 0 [(0, qr 4)] [] (M) (.inl (some (qi (M 4 4)))) (M) := by
  refine R_aload cd_18_0 rfl ?_
  refine R_getf cd_18_1 rfl (by decide) ?_
  exact R_iret cd_18_4 (by first | rfl | omega) rfl
theorem K_Film_timesOf {f : Int} {M : qa_Mem} (h1 : 0 ≤ f) (h2 : f < 120) : qa_E 19 0 [(0, qr 4), (1, qi (f))] [] (M) (.inl (some (qi (M 23 f)))) (M) := by
  refine R_aload cd_19_0 rfl ?_
  refine R_getr cd_19_1 rfl ?_
  refine R_iload cd_19_4 rfl ?_
  refine R_iald cd_19_5 rfl (by omega) (by omega) ?_
  exact R_iret cd_19_6 (by first | rfl | omega) rfl
theorem K_Film_needs {f : Int} {M : qa_Mem} (h1 : 0 ≤ f) (h2 : f < 120) : qa_E 20 0 [(0, qr 4), (1, qi (f))] [] (M) (.inl (some (qi (qb (0 < M 23 f))))) (M) := by
  refine R_aload cd_20_0 rfl ?_
  refine R_getr cd_20_1 rfl ?_
  refine R_iload cd_20_4 rfl ?_
  refine R_iald cd_20_5 rfl (by omega) (by omega) ?_
  refine R_if_le 13 cd_20_6 rfl (fun b6 => ?_) (fun b6 => ?_)
  · refine R_push cd_20_13 ?_
    exact R_zret_f cd_20_14 (by omega) rfl
  · refine R_push cd_20_9 ?_
    refine R_goto cd_20_10 ?_
    exact R_zret_t cd_20_14 (by omega) rfl
theorem K_Farm_machineCount {M : qa_Mem} : qa_E 25 0 [(0, qr 5)] [] (M) (.inl (some (qi (M 5 3)))) (M) := by
  refine R_aload cd_25_0 rfl ?_
  refine R_getf cd_25_1 rfl (by decide) ?_
  exact R_iret cd_25_4 (by first | rfl | omega) rfl
theorem K_Farm_offerCount {M : qa_Mem} : qa_E 26 0 [(0, qr 5)] [] (M) (.inl (some (qi (M 5 6)))) (M) := by
  refine R_aload cd_26_0 rfl ?_
  refine R_getf cd_26_1 rfl (by decide) ?_
  exact R_iret cd_26_4 (by first | rfl | omega) rfl
theorem K_Farm_earnings {M : qa_Mem} : qa_E 27 0 [(0, qr 5)] [] (M) (.inl (some (qi (M 5 7)))) (M) := by
  refine R_aload cd_27_0 rfl ?_
  refine R_getf cd_27_1 rfl (by decide) ?_
  exact R_iret cd_27_4 (by first | rfl | omega) rfl
theorem K_Rig_boneCount {M : qa_Mem} : qa_E 38 0 [(0, qr 1)] [] (M) (.inl (some (qi (M 1 3)))) (M) := by
  refine R_aload cd_38_0 rfl ?_
  refine R_getf cd_38_1 rfl (by decide) ?_
  exact R_iret cd_38_4 (by first | rfl | omega) rfl
theorem K_Rig_trackCount {M : qa_Mem} (h1 : 0 ≤ M 1 3) (h2 : M 1 3 ≤ 8) : qa_E 39 0 [(0, qr 1)] [] (M) (.inl (some (qi (3 * M 1 3)))) (M) := by
  refine R_push cd_39_0 ?_
  refine R_aload cd_39_1 rfl ?_
  refine R_getf cd_39_2 rfl (by decide) ?_
  refine R_imul cd_39_5 (by unfold qa_InR; first | omega | (simp [qa_upd, qa_blk] <;> omega)) ?_
  exact R_iret cd_39_6 (by first | rfl | omega) rfl
theorem K_Court_isWithin {x a b : Int} {M : qa_Mem} : qa_E 138 0 [(0, qi (x)), (1, qi (a)), (2, qi (b))] [] (M) (.inl (some (qi (qb (a ≤ x ∧ x ≤ b))))) (M) := by
  refine R_iload cd_138_0 rfl ?_
  refine R_iload cd_138_1 rfl ?_
  refine R_icmp_lt 14 cd_138_2 rfl (fun b2 => ?_) (fun b2 => ?_)
  · refine R_push cd_138_14 ?_
    exact R_zret_f cd_138_15 (by omega) rfl
  · refine R_iload cd_138_5 rfl ?_
    refine R_iload cd_138_6 rfl ?_
    refine R_icmp_gt 14 cd_138_7 rfl (fun b7 => ?_) (fun b7 => ?_)
    · refine R_push cd_138_14 ?_
      exact R_zret_f cd_138_15 (by omega) rfl
    · refine R_push cd_138_10 ?_
      refine R_goto cd_138_11 ?_
      exact R_zret_t cd_138_15 (by omega) rfl
theorem K_Court_isFrame {x : Int} {M : qa_Mem} : qa_E 139 0 [(0, qi (x))] [] (M) (.inl (some (qi (qb (0 ≤ x ∧ x ≤ 119))))) (M) := by
  refine R_iload cd_139_0 rfl ?_
  refine R_push cd_139_1 ?_
  refine R_push cd_139_2 ?_
  refine R_call3 cd_139_4 rfl rfl K_Court_isWithin ?_
  exact R_zret_b cd_139_7 Iff.rfl rfl
theorem K_Court_trackOf {b c : Int} {M : qa_Mem} (h1 : 0 ≤ b) (h2 : b ≤ 8) (h3 : 0 ≤ c) (h4 : c ≤ 3) : qa_E 140 0 [(0, qi (b)), (1, qi (c))] [] (M) (.inl (some (qi (3 * b + c)))) (M) := by
  refine R_push cd_140_0 ?_
  refine R_iload cd_140_1 rfl ?_
  refine R_imul cd_140_2 (by unfold qa_InR; first | omega | (simp [qa_upd, qa_blk] <;> omega)) ?_
  refine R_iload cd_140_3 rfl ?_
  refine R_iadd cd_140_4 (by unfold qa_InR; first | omega | (simp [qa_upd, qa_blk] <;> omega)) ?_
  exact R_iret cd_140_5 (by first | rfl | omega) rfl
theorem K_Rig_hasBone {b : Int} {M : qa_Mem} (h1 : 0 ≤ M 1 3) (h2 : M 1 3 ≤ 8) : qa_E 40 0 [(0, qr 1), (1, qi (b))] [] (M) (.inl (some (qi (qb (0 ≤ b ∧ b ≤ M 1 3 - 1))))) (M) := by
  refine R_iload cd_40_0 rfl ?_
  refine R_push cd_40_1 ?_
  refine R_aload cd_40_2 rfl ?_
  refine R_getf cd_40_3 rfl (by decide) ?_
  refine R_push cd_40_6 ?_
  refine R_isub cd_40_7 (by unfold qa_InR; first | omega | (simp [qa_upd, qa_blk] <;> omega)) ?_
  refine R_call3 cd_40_8 rfl rfl K_Court_isWithin ?_
  exact R_zret_b cd_40_11 Iff.rfl rfl
theorem K_Rig_hasCell {b c f : Int} {M : qa_Mem} (h1 : 0 ≤ M 1 3) (h2 : M 1 3 ≤ 8) : qa_E 41 0 [(0, qr 1), (1, qi (b)), (2, qi (c)), (3, qi (f))] [] (M) (.inl (some (qi (qb ((0 ≤ b ∧ b ≤ M 1 3 - 1) ∧ (0 ≤ c ∧ c ≤ 2) ∧ (0 ≤ f ∧ f ≤ 119)))))) (M) := by
  refine R_aload cd_41_0 rfl ?_
  refine R_iload cd_41_1 rfl ?_
  refine R_call2 cd_41_2 rfl rfl (K_Rig_hasBone (by omega) (by omega)) ?_
  refine R_ifeq_b 28 cd_41_5 rfl (fun b5 => ?_) (fun b5 => ?_)
  · refine R_push cd_41_28 ?_
    exact R_zret_f cd_41_29 (by omega) rfl
  · refine R_iload cd_41_8 rfl ?_
    refine R_push cd_41_9 ?_
    refine R_push cd_41_10 ?_
    refine R_call3 cd_41_11 rfl rfl K_Court_isWithin ?_
    refine R_ifeq_b 28 cd_41_14 rfl (fun b14 => ?_) (fun b14 => ?_)
    · refine R_push cd_41_28 ?_
      exact R_zret_f cd_41_29 (by omega) rfl
    · refine R_iload cd_41_17 rfl ?_
      refine R_call1 cd_41_18 rfl rfl K_Court_isFrame ?_
      refine R_ifeq_b 28 cd_41_21 rfl (fun b21 => ?_) (fun b21 => ?_)
      · refine R_push cd_41_28 ?_
        exact R_zret_f cd_41_29 (by omega) rfl
      · refine R_push cd_41_24 ?_
        refine R_goto cd_41_25 ?_
        exact R_zret_t cd_41_29 (by omega) rfl
theorem K_Rig_keyCount {M : qa_Mem} : qa_E 43 0 [(0, qr 1)] [] (M) (.inl (some (qi (M 2 4)))) (M) := by
  refine R_aload cd_43_0 rfl ?_
  refine R_getr cd_43_1 rfl ?_
  refine R_call1 cd_43_4 rfl rfl K_Keys_size ?_
  exact R_iret cd_43_7 (by first | rfl | omega) rfl
theorem K_Rig_keyCode {p : Int} {M : qa_Mem} (h1 : 0 ≤ p) (h2 : p < 80) : qa_E 44 0 [(0, qr 1), (1, qi (p))] [] (M) (.inl (some (qi (M 14 p)))) (M) := by
  refine R_aload cd_44_0 rfl ?_
  refine R_getr cd_44_1 rfl ?_
  refine R_iload cd_44_4 rfl ?_
  refine R_call2 cd_44_5 rfl rfl (K_Keys_codeAt (by omega) (by omega)) ?_
  exact R_iret cd_44_8 (by first | rfl | omega) rfl
theorem K_Rig_hasKey {t f : Int} {M : qa_Mem} (h1 : 0 ≤ M 2 4) (h2 : M 2 4 ≤ 80) (h3 : 0 ≤ t) (h4 : t ≤ 1000) (h5 : 0 ≤ f) (h6 : f ≤ 1000) : qa_E 45 0 [(0, qr 1), (1, qi (t)), (2, qi (f))] [] (M) (.inl (some (qi (qb (qf_ca (M 14) (M 2 4) (1000 * t + f) 80 0 < M 2 4 ∧ M 14 (qf_ca (M 14) (M 2 4) (1000 * t + f) 80 0) = 1000 * t + f))))) (M) := by
  refine R_aload cd_45_0 rfl ?_
  refine R_getr cd_45_1 rfl ?_
  refine R_iload cd_45_4 rfl ?_
  refine R_iload cd_45_5 rfl ?_
  refine R_call2 cd_45_6 rfl rfl (K_Keys_codeOf (by omega) (by omega) (by omega) (by omega)) ?_
  refine R_call2 cd_45_9 rfl rfl (K_Keys_has (by omega) (by omega)) ?_
  exact R_zret_b cd_45_12 Iff.rfl rfl
theorem K_Rig_poseAt {t f : Int} {M : qa_Mem} (h1 : 0 ≤ t) (h2 : t < 24) (h3 : 0 ≤ f) (h4 : f < 120) : qa_E 48 0 [(0, qr 1), (1, qi (t)), (2, qi (f))] [] (M) (.inl (some (qi (M 12 (t * 120 + f))))) (M) := by
  refine R_aload cd_48_0 rfl ?_
  refine R_getr cd_48_1 rfl ?_
  refine R_iload cd_48_4 rfl ?_
  refine R_push cd_48_5 ?_
  refine R_imul cd_48_7 (by unfold qa_InR; first | omega | (simp [qa_upd, qa_blk] <;> omega)) ?_
  refine R_iload cd_48_8 rfl ?_
  refine R_iadd cd_48_9 (by unfold qa_InR; first | omega | (simp [qa_upd, qa_blk] <;> omega)) ?_
  refine R_iald cd_48_10 rfl (by omega) (by omega) ?_
  exact R_iret cd_48_11 (by first | rfl | omega) rfl
theorem K_Court_mustExist {x : Int} {M : qa_Mem} (h1 : x ≠ 0) : qa_E 135 0 [(0, qi (x))] [] (M) (.inl none) (M) := by
  refine R_iload cd_135_0 rfl ?_
  refine R_if_ne 12 cd_135_1 rfl (fun b1 => ?_) (fun b1 => ?_)
  · exact R_vret cd_135_12 rfl
  · exact absurd b1 h1
theorem K_Court_mustExistX {x : Int} {M : qa_Mem} (h1 : x = 0) : qa_E 135 0 [(0, qi (x))] [] (M) (.inr 1) (qa_upd M 99 0 (M 99 0 + 1)) := by
  refine R_iload cd_135_0 rfl ?_
  refine R_if_ne 12 cd_135_1 rfl (fun b1 => ?_) (fun b1 => ?_)
  · exact absurd h1 b1
  · exact R_throw cd_135_4
theorem K_Court_mustFit {x : Int} {M : qa_Mem} (h1 : x ≠ 0) : qa_E 136 0 [(0, qi (x))] [] (M) (.inl none) (M) := by
  refine R_iload cd_136_0 rfl ?_
  refine R_if_ne 12 cd_136_1 rfl (fun b1 => ?_) (fun b1 => ?_)
  · exact R_vret cd_136_12 rfl
  · exact absurd b1 h1
theorem K_Court_mustFitX {x : Int} {M : qa_Mem} (h1 : x = 0) : qa_E 136 0 [(0, qi (x))] [] (M) (.inr 2) (qa_upd M 99 0 (M 99 0 + 1)) := by
  refine R_iload cd_136_0 rfl ?_
  refine R_if_ne 12 cd_136_1 rfl (fun b1 => ?_) (fun b1 => ?_)
  · exact absurd h1 b1
  · exact R_throw cd_136_4
theorem K_Court_mustBePossible {x : Int} {M : qa_Mem} (h1 : x ≠ 0) : qa_E 137 0 [(0, qi (x))] [] (M) (.inl none) (M) := by
  refine R_iload cd_137_0 rfl ?_
  refine R_if_ne 12 cd_137_1 rfl (fun b1 => ?_) (fun b1 => ?_)
  · exact R_vret cd_137_12 rfl
  · exact absurd b1 h1
theorem K_Court_mustBePossibleX {x : Int} {M : qa_Mem} (h1 : x = 0) : qa_E 137 0 [(0, qi (x))] [] (M) (.inr 3) (qa_upd M 99 0 (M 99 0 + 1)) := by
  refine R_iload cd_137_0 rfl ?_
  refine R_if_ne 12 cd_137_1 rfl (fun b1 => ?_) (fun b1 => ?_)
  · exact absurd h1 b1
  · exact R_throw cd_137_4
theorem K_Stills_standing {f : Int} {M : qa_Mem} (h1 : 0 ≤ f) (h2 : f < 120) : qa_E 57 0 [(0, qr 3), (1, qi (f))] [] (M) (.inl (some (qi (M 20 f)))) (M) := by
  refine R_aload cd_57_0 rfl ?_
  refine R_getr cd_57_1 rfl ?_
  refine R_iload cd_57_4 rfl ?_
  refine R_iald cd_57_5 rfl (by omega) (by omega) ?_
  exact R_iret cd_57_6 (by first | rfl | omega) rfl
theorem K_Stills_stands {f : Int} {M : qa_Mem} (h1 : 0 ≤ f) (h2 : f < 120) : qa_E 58 0 [(0, qr 3), (1, qi (f))] [] (M) (.inl (some (qi (qb (M 20 f = 1))))) (M) := by
  refine R_aload cd_58_0 rfl ?_
  refine R_getr cd_58_1 rfl ?_
  refine R_iload cd_58_4 rfl ?_
  refine R_iald cd_58_5 rfl (by omega) (by omega) ?_
  refine R_push cd_58_6 ?_
  refine R_icmp_ne 14 cd_58_7 rfl (fun b7 => ?_) (fun b7 => ?_)
  · refine R_push cd_58_14 ?_
    exact R_zret_f cd_58_15 (by omega) rfl
  · refine R_push cd_58_10 ?_
    refine R_goto cd_58_11 ?_
    exact R_zret_t cd_58_15 (by omega) rfl
end
section
/-! the key table's writes, the film's writes -/
theorem K_Keys_copyRow {p q : Int} {M : qa_Mem} (h1 : 0 ≤ p) (h2 : p < 80) (h3 : 0 ≤ q) (h4 : q < 80) (h5 : M 17 p = 0 ∨ M 17 p = 1) : qa_E 16 0 [(0, qr 2), (1, qi (p)), (2, qi (q))] [] (M) (.inl none) (qf_rows M (fun A => qf_set A q (A p))) := by
  refine R_aload cd_16_0 rfl ?_
  refine R_getr cd_16_1 rfl ?_
  refine R_iload cd_16_4 rfl ?_
  refine R_aload cd_16_5 rfl ?_
  refine R_getr cd_16_6 rfl ?_
  refine R_iload cd_16_9 rfl ?_
  refine R_iald cd_16_10 rfl (by omega) (by omega) ?_
  refine R_iast cd_16_11 rfl (by omega) (by omega)  ?_
  refine R_aload cd_16_12 rfl ?_
  refine R_getr cd_16_13 rfl ?_
  refine R_iload cd_16_16 rfl ?_
  refine R_aload cd_16_17 rfl ?_
  refine R_getr cd_16_18 rfl ?_
  refine R_iload cd_16_21 rfl ?_
  refine R_iald cd_16_22 rfl (by omega) (by omega) ?_
  refine R_iast cd_16_23 rfl (by omega) (by omega)  ?_
  refine R_aload cd_16_24 rfl ?_
  refine R_getr cd_16_25 rfl ?_
  refine R_iload cd_16_28 rfl ?_
  refine R_aload cd_16_29 rfl ?_
  refine R_getr cd_16_30 rfl ?_
  refine R_iload cd_16_33 rfl ?_
  refine R_iald cd_16_34 rfl (by omega) (by omega) ?_
  refine R_iast cd_16_35 rfl (by omega) (by omega)  ?_
  refine R_aload cd_16_36 rfl ?_
  refine R_getr cd_16_37 rfl ?_
  refine R_iload cd_16_40 rfl ?_
  refine R_aload cd_16_41 rfl ?_
  refine R_getr cd_16_42 rfl ?_
  refine R_iload cd_16_45 rfl ?_
  refine R_zald cd_16_46 rfl (by omega) (by omega) ?_
  refine R_zast cd_16_47 rfl (by omega) (by omega) (by simpa [qa_upd] using h5) ?_
  refine R_vret cd_16_48 ?_
  funext c j
  by_cases hc : 14 ≤ c ∧ c ≤ 17
  · rw [qf_rows_i hc]
    have : c = 14 ∨ c = 15 ∨ c = 16 ∨ c = 17 := by omega
    rcases this with rfl | rfl | rfl | rfl <;> simp [qa_upd, qf_set]
  · rw [qf_rows_n hc]
    have : c ≠ 14 ∧ c ≠ 15 ∧ c ≠ 16 ∧ c ≠ 17 := by omega
    simp [qa_upd, this]
theorem K_Keys_openRow {p : Int} {M : qa_Mem} (h1 : 0 ≤ M 2 4) (h2 : M 2 4 < 80) (h3 : 0 ≤ p) (h4 : p ≤ M 2 4) (h5 : ∀ j, 0 ≤ j → j < 80 → M 17 j = 0 ∨ M 17 j = 1) : qa_E 14 0 [(0, qr 2), (1, qi (p))] [] (M) (.inl none) (qa_upd (qf_rows M (fun A => qf_ins A p (M 2 4) (A p))) 2 4 (M 2 4 + 1)) := by
  have lp : ∀ (k : Nat) (a : Int), a = p + k → a ≤ M 2 4 → qa_E 14 5 [(0, qr 2), (1, qi p), (2, qi a)] [] (qf_rows M (fun A j => if a < j ∧ j ≤ M 2 4 then A (j - 1) else A j)) (.inl none) (qa_upd (qf_rows M (fun A => qf_ins A p (M 2 4) (A p))) 2 4 (M 2 4 + 1)) := by
    intro k
    induction k with
    | zero =>
      intro a g1 g2
      obtain rfl : a = p := by omega
      have e : (fun (A : Int → Int) j => if a < j ∧ j ≤ M 2 4 then A (j - 1) else A j) = (fun A => qf_ins A a (M 2 4) (A a)) := by
        funext A j
        unfold qf_ins
        (repeat' split) <;> first | rfl | omega | (congr 1 <;> omega)
      rw [e]
      refine R_iload cd_14_5 rfl ?_
      refine R_iload cd_14_6 rfl ?_
      refine R_icmp_le 24 cd_14_7 rfl (fun b7 => ?_) (fun b7 => ?_)
      · refine R_aload cd_14_24 rfl ?_
        refine R_dup cd_14_25 rfl ?_
        refine R_getf cd_14_26 rfl (by decide) ?_
        refine R_push cd_14_29 ?_
        refine R_iadd cd_14_30 (by rw [qf_rows_n (by decide)]; unfold qa_InR; omega) ?_
        refine R_putf cd_14_31 rfl (by decide) ?_
        exact R_vret cd_14_34 (by rw [qf_rows_n (by decide)])
      · omega
    | succ k ih =>
      intro a g1 g2
      refine R_iload cd_14_5 rfl ?_
      refine R_iload cd_14_6 rfl ?_
      refine R_icmp_le 24 cd_14_7 rfl (fun b7 => ?_) (fun b7 => ?_)
      · omega
      · refine R_aload cd_14_10 rfl ?_
        refine R_iload cd_14_11 rfl ?_
        refine R_push cd_14_12 ?_
        refine R_isub cd_14_13 (by unfold qa_InR; first | omega | (simp [qa_upd, qa_blk] <;> omega)) ?_
        refine R_iload cd_14_14 rfl ?_
        refine R_callv3 cd_14_15 rfl rfl (K_Keys_copyRow (by omega) (by omega) (by omega) (by omega) (by rw [qf_rows_i (by decide)]; rw [if_neg (by omega)]; exact h5 _ (by omega) (by omega))) ?_
        refine R_iinc cd_14_18 rfl (by unfold qa_InR; first | omega | (simp [qa_upd, qa_blk] <;> omega)) ?_
        refine R_goto cd_14_21 ?_
        have e := ih (a + -1) (by omega) (by omega)
        rw [qf_rows_2]
        have e2 : (fun A : Int → Int => qf_set (fun j => if a < j ∧ j ≤ M 2 4 then A (j - 1) else A j) a ((fun j => if a < j ∧ j ≤ M 2 4 then A (j - 1) else A j) (a - 1))) = (fun A j => if a + -1 < j ∧ j ≤ M 2 4 then A (j - 1) else A j) := by
          funext A j
          unfold qf_set
          dsimp only
          (repeat' split) <;> first | rfl | omega | (congr 1 <;> omega)
        rw [e2]
        exact R_norm (qs_c rfl (qs_c rfl (qs_c rfl qs_n))) e
  have e := lp (M 2 4 - p).toNat (M 2 4) (by omega) (by omega)
  rw [qf_rows_id (fun A => by funext j; rw [if_neg (by omega)])] at e
  refine R_aload cd_14_0 rfl ?_
  refine R_getf cd_14_1 rfl (by decide) ?_
  refine R_istore cd_14_4 ?_
  exact R_norm (qs_c rfl (qs_c rfl (qs_c rfl qs_n))) e
theorem K_Keys_closeRow {p : Int} {M : qa_Mem} (h1 : 0 < M 2 4) (h2 : M 2 4 ≤ 80) (h3 : 0 ≤ p) (h4 : p < M 2 4) (h5 : ∀ j, 0 ≤ j → j < 80 → M 17 j = 0 ∨ M 17 j = 1) : qa_E 15 0 [(0, qr 2), (1, qi (p))] [] (M) (.inl none) (qf_rows (qa_upd M 2 4 (M 2 4 - 1)) (fun A => qf_del A p (M 2 4))) := by
  obtain ⟨N, hN⟩ : ∃ N, N = qa_upd M 2 4 (M 2 4 - 1) := ⟨_, rfl⟩
  have hc : N 2 4 = M 2 4 - 1 := by rw [hN]; rfl
  have h6 : ∀ j, 0 ≤ j → j < 80 → N 17 j = 0 ∨ N 17 j = 1 := by rw [hN, qa_upd_n (by decide)]; exact h5
  have lp : ∀ (k : Nat) (a : Int), a + k = M 2 4 - 1 → p ≤ a → qa_E 15 12 [(0, qr 2), (1, qi p), (2, qi a)] [] (qf_rows N (fun A j => if p ≤ j ∧ j < a then A (j + 1) else A j)) (.inl none) (qf_rows N (fun A => qf_del A p (M 2 4))) := by
    intro k
    induction k with
    | zero =>
      intro a g1 g2
      obtain rfl : a = M 2 4 - 1 := by omega
      have gc : (qf_rows N (fun A j => if p ≤ j ∧ j < M 2 4 - 1 then A (j + 1) else A j)) 2 4 = M 2 4 - 1 := by rw [qf_rows_n (by decide)]; exact hc
      refine R_iload cd_15_12 rfl ?_
      refine R_aload cd_15_13 rfl ?_
      refine R_getf cd_15_14 rfl (by decide) ?_
      refine R_icmp_ge 34 cd_15_17 rfl (fun b17 => ?_) (fun b17 => ?_)
      · exact R_vret cd_15_34 rfl
      · omega
    | succ k ih =>
      intro a g1 g2
      have gc : (qf_rows N (fun A j => if p ≤ j ∧ j < a then A (j + 1) else A j)) 2 4 = M 2 4 - 1 := by rw [qf_rows_n (by decide)]; exact hc
      refine R_iload cd_15_12 rfl ?_
      refine R_aload cd_15_13 rfl ?_
      refine R_getf cd_15_14 rfl (by decide) ?_
      refine R_icmp_ge 34 cd_15_17 rfl (fun b17 => ?_) (fun b17 => ?_)
      · omega
      · refine R_aload cd_15_20 rfl ?_
        refine R_iload cd_15_21 rfl ?_
        refine R_push cd_15_22 ?_
        refine R_iadd cd_15_23 (by unfold qa_InR; first | omega | (simp [qa_upd, qa_blk] <;> omega)) ?_
        refine R_iload cd_15_24 rfl ?_
        refine R_callv3 cd_15_25 rfl rfl (K_Keys_copyRow (by omega) (by omega) (by omega) (by omega) (by rw [qf_rows_i (by decide)]; rw [if_neg (by omega)]; exact h6 _ (by omega) (by omega))) ?_
        refine R_iinc cd_15_28 rfl (by unfold qa_InR; first | omega | (simp [qa_upd, qa_blk] <;> omega)) ?_
        refine R_goto cd_15_31 ?_
        have e := ih (a + 1) (by omega) (by omega)
        rw [qf_rows_2]
        have e2 : (fun A : Int → Int => qf_set (fun j => if p ≤ j ∧ j < a then A (j + 1) else A j) a ((fun j => if p ≤ j ∧ j < a then A (j + 1) else A j) (a + 1))) = (fun A j => if p ≤ j ∧ j < a + 1 then A (j + 1) else A j) := by
          funext A j
          unfold qf_set
          dsimp only
          (repeat' split) <;> first | rfl | omega | (congr 1 <;> omega)
        rw [e2]
        exact R_norm (qs_c rfl (qs_c rfl (qs_c rfl qs_n))) e
  have e := lp (M 2 4 - 1 - p).toNat p (by omega) (by omega)
  rw [qf_rows_id (fun A => by funext j; rw [if_neg (by omega)]), hN] at e
  refine R_aload cd_15_0 rfl ?_
  refine R_dup cd_15_1 rfl ?_
  refine R_getf cd_15_2 rfl (by decide) ?_
  refine R_push cd_15_5 ?_
  refine R_isub cd_15_6 (by unfold qa_InR; first | omega | (simp [qa_upd, qa_blk] <;> omega)) ?_
  refine R_putf cd_15_7 rfl (by decide) ?_
  refine R_iload cd_15_10 rfl ?_
  refine R_istore cd_15_11 ?_
  exact R_norm (qs_c rfl (qs_c rfl (qs_c rfl qs_n))) e
/-- the table behind a write of a new key, or of an old one -/
def qk_put (M : qa_Mem) (c v a s : Int) : qa_Mem :=
  let p := qf_ca (M 14) (M 2 4) c 80 0
  if p < M 2 4 ∧ M 14 p = c then qa_upd (qa_upd (qa_upd (qa_upd M 14 p c) 15 p v) 16 p a) 17 p s
  else qa_upd (qa_upd (qa_upd (qa_upd (qa_upd (qf_rows M (fun A => qf_ins A p (M 2 4) (A p))) 2 4 (M 2 4 + 1)) 14 p c) 15 p v) 16 p a) 17 p s
theorem K_Keys_put {c v a s : Int} {M : qa_Mem} (h1 : 0 ≤ M 2 4) (h2 : M 2 4 ≤ 80) (h3 : ∀ j, 0 ≤ j → j < 80 → M 17 j = 0 ∨ M 17 j = 1) (h4 : s = 0 ∨ s = 1) (h5 : M 2 4 < 80 ∨ (qf_ca (M 14) (M 2 4) c 80 0 < M 2 4 ∧ M 14 (qf_ca (M 14) (M 2 4) c 80 0) = c)) : qa_E 12 0 [(0, qr 2), (1, qi (c)), (2, qi (v)), (3, qi (a)), (4, qi (s))] [] (M) (.inl none) (qk_put M c v a s) := by
  have g := qf_ca_r (M 14) (M 2 4) c 80 0 (by omega) (by omega)
  unfold qk_put
  refine R_aload cd_12_0 rfl ?_
  refine R_iload cd_12_1 rfl ?_
  refine R_call2 cd_12_2 rfl rfl (K_Keys_countAhead (by omega) (by omega)) ?_
  refine R_istore cd_12_5 ?_
  refine R_aload cd_12_7 rfl ?_
  refine R_iload cd_12_8 rfl ?_
  refine R_call2 cd_12_9 rfl rfl (K_Keys_has (by omega) (by omega)) ?_
  refine R_ifne_b 21 cd_12_12 rfl (fun b12 => ?_) (fun b12 => ?_)
  · rw [if_pos b12]
    refine R_aload cd_12_21 rfl ?_
    refine R_getr cd_12_22 rfl ?_
    refine R_iload cd_12_25 rfl ?_
    refine R_iload cd_12_27 rfl ?_
    refine R_iast cd_12_28 rfl (by omega) (by omega)  ?_
    refine R_aload cd_12_29 rfl ?_
    refine R_getr cd_12_30 rfl ?_
    refine R_iload cd_12_33 rfl ?_
    refine R_iload cd_12_35 rfl ?_
    refine R_iast cd_12_36 rfl (by omega) (by omega)  ?_
    refine R_aload cd_12_37 rfl ?_
    refine R_getr cd_12_38 rfl ?_
    refine R_iload cd_12_41 rfl ?_
    refine R_iload cd_12_43 rfl ?_
    refine R_iast cd_12_44 rfl (by omega) (by omega)  ?_
    refine R_aload cd_12_45 rfl ?_
    refine R_getr cd_12_46 rfl ?_
    refine R_iload cd_12_49 rfl ?_
    refine R_iload cd_12_51 rfl ?_
    refine R_zast cd_12_53 rfl (by omega) (by omega) h4 ?_
    exact R_vret cd_12_54 rfl
  · rw [if_neg b12]
    refine R_aload cd_12_15 rfl ?_
    refine R_iload cd_12_16 rfl ?_
    refine R_callv2 cd_12_18 rfl rfl (K_Keys_openRow h1 (by omega) (by omega) (by omega) h3) ?_
    refine R_aload cd_12_21 rfl ?_
    refine R_getr cd_12_22 rfl ?_
    refine R_iload cd_12_25 rfl ?_
    refine R_iload cd_12_27 rfl ?_
    refine R_iast cd_12_28 rfl (by omega) (by omega)  ?_
    refine R_aload cd_12_29 rfl ?_
    refine R_getr cd_12_30 rfl ?_
    refine R_iload cd_12_33 rfl ?_
    refine R_iload cd_12_35 rfl ?_
    refine R_iast cd_12_36 rfl (by omega) (by omega)  ?_
    refine R_aload cd_12_37 rfl ?_
    refine R_getr cd_12_38 rfl ?_
    refine R_iload cd_12_41 rfl ?_
    refine R_iload cd_12_43 rfl ?_
    refine R_iast cd_12_44 rfl (by omega) (by omega)  ?_
    refine R_aload cd_12_45 rfl ?_
    refine R_getr cd_12_46 rfl ?_
    refine R_iload cd_12_49 rfl ?_
    refine R_iload cd_12_51 rfl ?_
    refine R_zast cd_12_53 rfl (by omega) (by omega) h4 ?_
    exact R_vret cd_12_54 rfl
def qk_take (M : qa_Mem) (c : Int) : qa_Mem := qf_rows (qa_upd M 2 4 (M 2 4 - 1)) (fun A => qf_del A (qf_ca (M 14) (M 2 4) c 80 0) (M 2 4))
theorem K_Keys_take {c : Int} {M : qa_Mem} (h1 : 0 ≤ M 2 4) (h2 : M 2 4 ≤ 80) (h3 : ∀ j, 0 ≤ j → j < 80 → M 17 j = 0 ∨ M 17 j = 1) (h5 : qf_ca (M 14) (M 2 4) c 80 0 < M 2 4 ∧ M 14 (qf_ca (M 14) (M 2 4) c 80 0) = c) : qa_E 13 0 [(0, qr 2), (1, qi (c))] [] (M) (.inl none) (qk_take M c) := by
  have g := qf_ca_r (M 14) (M 2 4) c 80 0 (by omega) (by omega)
  refine R_aload cd_13_0 rfl ?_
  refine R_iload cd_13_1 rfl ?_
  refine R_call2 cd_13_2 rfl rfl (K_Keys_has (by omega) (by omega)) ?_
  refine R_ifeq_b 17 cd_13_5 rfl (fun b5 => ?_) (fun b5 => ?_)
  · first | exact absurd h5 b5 | exact R_vret cd_13_17 rfl
  · refine R_aload cd_13_8 rfl ?_
    refine R_aload cd_13_9 rfl ?_
    refine R_iload cd_13_10 rfl ?_
    refine R_call2 cd_13_11 rfl rfl (K_Keys_countAhead (by omega) (by omega)) ?_
    refine R_callv2 cd_13_14 rfl rfl (K_Keys_closeRow (by omega) (by omega) (by omega) (by omega) h3) ?_
    first | exact absurd h5 b5 | exact R_vret cd_13_17 rfl
end
section
/-! the rig's values -/
theorem K_Math_floorDiv {x y : Int} {M : qa_Mem} (h1 : 0 < y) (h2 : y ≤ 1000000) (h3 : -1000000 ≤ x) (h4 : x ≤ 1000000) : qa_E 0 0 [(0, qi (x)), (1, qi (y))] [] (M) (.inl (some (qi (x / y)))) (M) := by
  obtain ⟨e1, e2, e3, e4, e5, e6, e7, e8⟩ := qf_tdiv (x := x) h1
  have ex := qa_xor_neg (x := x) (y := y) (by unfold qa_InR; omega) (by omega) (by unfold qa_InR; omega)
  have eb : -2000000 ≤ x.tdiv y ∧ x.tdiv y ≤ 2000000 := by
    have hq : x / y ≤ x.natAbs ∧ -(x.natAbs : Int) - 1 ≤ x / y := by
      have a1 := Int.ediv_mul_le x (b := y) (by omega)
      have a2 := Int.lt_ediv_add_one_mul_self x h1
      constructor
      · by_cases hx : 0 ≤ x
        · have := Int.ediv_le_self y hx; omega
        · have := Int.ediv_neg_of_neg_of_pos (a := x) (b := y) (by omega) h1; omega
      · by_cases hx : 0 ≤ x
        · have := Int.ediv_nonneg hx (Int.le_of_lt h1); omega
        · have h5 : x ≤ x / y := by
            have : x * y ≤ x := by
              have h6 : x * y ≤ x * 1 := Int.mul_le_mul_of_nonpos_left (by omega) (by omega)
              omega
            exact (Int.le_ediv_iff_mul_le h1).mpr this
          omega
    by_cases hx : 0 ≤ x
    · have := e2 hx; omega
    · by_cases h0 : x.tmod y = 0
      · have := e3 (by omega) h0; omega
      · have := e4 (by omega) h0; omega
  refine R_iload cd_0_0 rfl ?_
  refine R_iload cd_0_1 rfl ?_
  refine R_idiv cd_0_2 (by omega) ?_
  refine R_istore cd_0_3 ?_
  refine R_iload cd_0_4 rfl ?_
  refine R_iload cd_0_5 rfl ?_
  refine R_ixor cd_0_6 ?_
  refine R_if_ge 21 cd_0_7 rfl (fun b7 => ?_) (fun b7 => ?_)
  · refine R_iload cd_0_21 rfl ?_
    refine R_iret cd_0_22 ?_ rfl
    first | exact e2 (by omega) | exact e3 (by omega) (by rw [e1] at b14; omega)
  · refine R_iload cd_0_10 rfl ?_
    refine R_iload cd_0_11 rfl ?_
    refine R_imul cd_0_12 (by rw [e1]; unfold qa_InR; omega) ?_
    refine R_iload cd_0_13 rfl ?_
    refine R_icmp_eq 21 cd_0_14 rfl (fun b14 => ?_) (fun b14 => ?_)
    · refine R_iload cd_0_21 rfl ?_
      refine R_iret cd_0_22 ?_ rfl
      first | exact e2 (by omega) | exact e3 (by omega) (by rw [e1] at b14; omega)
    · refine R_iload cd_0_17 rfl ?_
      refine R_push cd_0_18 ?_
      refine R_isub cd_0_19 (by unfold qa_InR; first | omega | (simp [qa_upd, qa_blk] <;> omega)) ?_
      exact R_iret cd_0_20 (e4 (by omega) (by rw [e1] at b14; omega)) rfl
theorem K_Rig_blend {p q f : Int} {M : qa_Mem} (h1 : 0 ≤ p) (h2 : p < 80) (h3 : 0 ≤ q) (h4 : q < 80) (h5 : 0 ≤ M 14 p) (h6 : 0 ≤ M 14 q) (h7 : M 14 p % 1000 < M 14 q % 1000) (h8 : -200 ≤ M 15 p ∧ M 15 p ≤ 200) (h9 : -200 ≤ M 15 q ∧ M 15 q ≤ 200) (h10 : 0 ≤ f) (h11 : f < 120) : qa_E 56 0 [(0, qr 1), (1, qi (p)), (2, qi (q)), (3, qi (f))] [] (M) (.inl (some (qi ((M 15 q - M 15 p) * (f - M 14 p % 1000) / (M 14 q % 1000 - M 14 p % 1000))))) (M) := by
  have hm := qf_mulb (d := M 15 q - M 15 p) (e := f - M 14 p % 1000) (A := 400) (B := 1000) (by omega) (by omega) (by omega) (by omega)
  refine R_aload cd_56_0 rfl ?_
  refine R_getr cd_56_1 rfl ?_
  refine R_iload cd_56_4 rfl ?_
  refine R_call2 cd_56_5 rfl rfl (K_Keys_frameAt (by omega) (by omega) (by omega)) ?_
  refine R_aload cd_56_8 rfl ?_
  refine R_getr cd_56_9 rfl ?_
  refine R_iload cd_56_12 rfl ?_
  refine R_call2 cd_56_13 rfl rfl (K_Keys_frameAt (by omega) (by omega) (by omega)) ?_
  refine R_isub cd_56_16 (by unfold qa_InR; first | omega | (simp [qa_upd, qa_blk] <;> omega)) ?_
  refine R_istore cd_56_17 ?_
  refine R_iload cd_56_19 rfl ?_
  refine R_if_gt 26 cd_56_21 rfl (fun b21 => ?_) (fun b21 => ?_)
  · refine R_aload cd_56_26 rfl ?_
    refine R_getr cd_56_27 rfl ?_
    refine R_iload cd_56_30 rfl ?_
    refine R_call2 cd_56_31 rfl rfl (K_Keys_valueAt (by omega) (by omega)) ?_
    refine R_aload cd_56_34 rfl ?_
    refine R_getr cd_56_35 rfl ?_
    refine R_iload cd_56_38 rfl ?_
    refine R_call2 cd_56_39 rfl rfl (K_Keys_valueAt (by omega) (by omega)) ?_
    refine R_isub cd_56_42 (by unfold qa_InR; first | omega | (simp [qa_upd, qa_blk] <;> omega)) ?_
    refine R_istore cd_56_43 ?_
    refine R_iload cd_56_45 rfl ?_
    refine R_iload cd_56_47 rfl ?_
    refine R_aload cd_56_48 rfl ?_
    refine R_getr cd_56_49 rfl ?_
    refine R_iload cd_56_52 rfl ?_
    refine R_call2 cd_56_53 rfl rfl (K_Keys_frameAt (by omega) (by omega) (by omega)) ?_
    refine R_isub cd_56_56 (by unfold qa_InR; first | omega | (simp [qa_upd, qa_blk] <;> omega)) ?_
    refine R_imul cd_56_57 (by unfold qa_InR; first | omega | (simp [qa_upd, qa_blk] <;> omega)) ?_
    refine R_iload cd_56_58 rfl ?_
    refine R_call2 cd_56_60 rfl rfl (K_Math_floorDiv (by omega) (by omega) (by omega) (by omega)) ?_
    exact R_iret cd_56_63 (by first | rfl | omega) rfl
  · omega
theorem K_Rig_poseCell {cell f st nx en : Int} {M : qa_Mem} (h1 : 0 ≤ cell ∧ cell < 2880) (h2 : 0 ≤ f ∧ f < 120) (h3 : 0 ≤ st) (h4 : st ≤ nx ∧ nx ≤ en) (h5 : en ≤ M 2 4) (hw : qk_wf (M 14) (M 15) (M 16) (M 17) (M 2 4)) (h6 : nx < en → st < nx → M 14 (nx - 1) % 1000 < M 14 nx % 1000) (h7 : nx = st → st < en → f < M 14 st % 1000) : qa_E 55 0 [(0, qr 1), (1, qi (cell)), (2, qi (f)), (3, qi (st)), (4, qi (nx)), (5, qi (en))] [] (M) (.inl none) (qa_upd (qa_upd M 12 cell (qp_v (M 14) (M 15) (M 17) st nx en f)) 13 cell (qp_b (M 14) (M 16) (M 17) st nx en f)) := by
  obtain ⟨w1, w2, w3, w4, w5, w6, w7⟩ := hw
  by_cases hse : st = en
  · have ev : qp_v (M 14) (M 15) (M 17) st nx en f = 0 := by unfold qp_v; rw [if_pos hse]
    have eb : qp_b (M 14) (M 16) (M 17) st nx en f = 0 := by unfold qp_b; rw [if_pos hse]
    rw [ev, eb]
    refine R_iload cd_55_0 rfl ?_
    refine R_iload cd_55_1 rfl ?_
    refine R_icmp_ne 21 cd_55_3 rfl (fun b3 => ?_) (fun b3 => ?_)
    · exact absurd hse b3
    · refine R_aload cd_55_6 rfl ?_
      refine R_getr cd_55_7 rfl ?_
      refine R_iload cd_55_10 rfl ?_
      refine R_push cd_55_11 ?_
      refine R_iast cd_55_12 rfl (by omega) (by omega)  ?_
      refine R_aload cd_55_13 rfl ?_
      refine R_getr cd_55_14 rfl ?_
      refine R_iload cd_55_17 rfl ?_
      refine R_push cd_55_18 ?_
      refine R_iast cd_55_19 rfl (by omega) (by omega)  ?_
      exact R_vret cd_55_20 rfl
  · obtain ⟨la, hla⟩ : ∃ la, la = qf_last nx st := ⟨_, rfl⟩
    have hlr : st ≤ la ∧ la < en ∧ la ≤ nx := by rw [hla]; unfold qf_last; split <;> omega
    have main : qa_E 55 35 [(0, qr 1), (1, qi cell), (2, qi f), (3, qi st), (4, qi nx), (5, qi en)] [qi la] M (.inl none) (qa_upd (qa_upd M 12 cell (qp_v (M 14) (M 15) (M 17) st nx en f)) 13 cell (qp_b (M 14) (M 16) (M 17) st nx en f)) := by
      have c4 := w4 la (by omega) (by omega)
      have c5 := w5 la (by omega) (by omega)
      have c7 := w7 la (by omega) (by omega)
      have fin : ∀ (P : Prop), (P ↔ (nx < en ∧ M 14 la % 1000 < f)) → qa_E 55 92 [(0, qr 1), (1, qi cell), (2, qi f), (3, qi st), (4, qi nx), (5, qi en), (6, qi la)] [qi (qb P)] (qa_upd (qa_upd M 12 cell (M 15 la)) 13 cell (qa_shl 1 (M 16 la))) (.inl none) (qa_upd (qa_upd M 12 cell (qp_v (M 14) (M 15) (M 17) st nx en f)) 13 cell (qp_b (M 14) (M 16) (M 17) st nx en f)) := by
        intro P hP
        by_cases hso : (nx < en ∧ M 14 la % 1000 < f) ∧ M 17 la ≠ 0
        · have ev : qp_v (M 14) (M 15) (M 17) st nx en f = M 15 la + (M 15 nx - M 15 la) * (f - M 14 la % 1000) / (M 14 nx % 1000 - M 14 la % 1000) := by
            unfold qp_v; rw [if_neg hse, ← hla, if_pos hso]
          have eb : qp_b (M 14) (M 16) (M 17) st nx en f = qa_or (qa_shl 1 (M 16 la)) (qa_shl 1 (M 16 nx)) := by
            unfold qp_b; rw [if_neg hse, ← hla, if_pos hso]
          have d4 := w4 nx (by omega) (by omega)
          have d5 := w5 nx (by omega) (by omega)
          have hlt : st < nx := by
            by_cases hq : st < nx
            · exact hq
            · have := h7 (by omega) (by omega)
              have : la = st := by rw [hla]; unfold qf_last; rw [if_neg hq]
              subst this
              omega
          have hln : la = nx - 1 := by rw [hla]; unfold qf_last; rw [if_pos hlt]
          have hgap : M 14 la % 1000 < M 14 nx % 1000 := by rw [hln]; exact h6 hso.1.1 hlt
          have hbl : -200 ≤ (M 15 nx - M 15 la) * (f - M 14 la % 1000) / (M 14 nx % 1000 - M 14 la % 1000) + 100000 * 1000 ∧ (M 15 nx - M 15 la) * (f - M 14 la % 1000) / (M 14 nx % 1000 - M 14 la % 1000) ≤ 100000000 := by
            have hm := qf_mulb (d := M 15 nx - M 15 la) (e := f - M 14 la % 1000) (A := 400) (B := 1000) (by omega) (by omega) (by omega) (by omega)
            generalize (M 15 nx - M 15 la) * (f - M 14 la % 1000) = X at hm ⊢
            have hg : 0 < M 14 nx % 1000 - M 14 la % 1000 := by omega
            generalize M 14 nx % 1000 - M 14 la % 1000 = G at hg ⊢
            constructor
            · have : -400000 ≤ X / G := by
                rw [Int.le_ediv_iff_mul_le hg]
                have h6 : -400000 * G ≤ -400000 * 1 := Int.mul_le_mul_of_nonpos_left (by omega) (by omega)
                omega
              omega
            · by_cases hx : 0 ≤ X
              · have := Int.ediv_le_self G hx; omega
              · have := Int.ediv_neg_of_neg_of_pos (a := X) (by omega) hg; omega
          refine R_istore cd_55_92 ?_
          refine R_iload cd_55_94 rfl ?_
          refine R_ifeq_b 147 cd_55_96 rfl (fun b96 => ?_) (fun b96 => ?_)
          · first
              | exact absurd (hP.mpr hso.1) b96
              | exact absurd hso.2 b108
              | refine R_vret cd_55_147 ?_
                rw [ev, eb]
                funext c9 j9
                by_cases g1 : c9 = 12 ∧ j9 = cell
                · obtain ⟨rfl, rfl⟩ := g1; simp [qa_upd]
                · by_cases g2 : c9 = 13 ∧ j9 = cell
                  · obtain ⟨rfl, rfl⟩ := g2; simp [qa_upd]
                  · simp [qa_upd, g1, g2]
          · refine R_aload cd_55_99 rfl ?_
            refine R_getr cd_55_100 rfl ?_
            refine R_iload cd_55_103 rfl ?_
            refine R_call2 cd_55_105 rfl rfl (K_Keys_isSoft (by omega) (by omega) c7) ?_
            refine R_ifeq_b 147 cd_55_108 rfl (fun b108 => ?_) (fun b108 => ?_)
            · first
                | exact absurd (hP.mpr hso.1) b96
                | exact absurd hso.2 b108
                | refine R_vret cd_55_147 ?_
                  rw [ev, eb]
                  funext c9 j9
                  by_cases g1 : c9 = 12 ∧ j9 = cell
                  · obtain ⟨rfl, rfl⟩ := g1; simp [qa_upd]
                  · by_cases g2 : c9 = 13 ∧ j9 = cell
                    · obtain ⟨rfl, rfl⟩ := g2; simp [qa_upd]
                    · simp [qa_upd, g1, g2]
            · refine R_aload cd_55_111 rfl ?_
              refine R_getr cd_55_112 rfl ?_
              refine R_iload cd_55_115 rfl ?_
              refine R_dup2 cd_55_116 rfl rfl ?_
              refine R_iald cd_55_117 rfl (by omega) (by omega) ?_
              refine R_aload cd_55_118 rfl ?_
              refine R_iload cd_55_119 rfl ?_
              refine R_iload cd_55_121 rfl ?_
              refine R_iload cd_55_123 rfl ?_
              refine R_call4 cd_55_124 rfl rfl (K_Rig_blend (by omega) (by omega) (by omega) (by omega) c4.1 d4.1 hgap c5 d5 (by omega) (by omega)) ?_
              refine R_iadd cd_55_127 (by rw [qa_upd_n (by decide), qa_upd_e]; show qa_InR (M 15 la + (M 15 nx - M 15 la) * (f - M 14 la % 1000) / (M 14 nx % 1000 - M 14 la % 1000)); unfold qa_InR; omega) ?_
              refine R_iast cd_55_128 rfl (by omega) (by omega)  ?_
              refine R_aload cd_55_129 rfl ?_
              refine R_getr cd_55_130 rfl ?_
              refine R_iload cd_55_133 rfl ?_
              refine R_dup2 cd_55_134 rfl rfl ?_
              refine R_iald cd_55_135 rfl (by omega) (by omega) ?_
              refine R_aload cd_55_136 rfl ?_
              refine R_getr cd_55_137 rfl ?_
              refine R_iload cd_55_140 rfl ?_
              refine R_call2 cd_55_142 rfl rfl (K_Keys_setterBit (by omega) (by omega)) ?_
              refine R_ior cd_55_145 ?_
              refine R_iast cd_55_146 rfl (by omega) (by omega)  ?_
              first
                | exact absurd (hP.mpr hso.1) b96
                | exact absurd hso.2 b108
                | refine R_vret cd_55_147 ?_
                  rw [ev, eb]
                  funext c9 j9
                  by_cases g1 : c9 = 12 ∧ j9 = cell
                  · obtain ⟨rfl, rfl⟩ := g1; simp [qa_upd]
                  · by_cases g2 : c9 = 13 ∧ j9 = cell
                    · obtain ⟨rfl, rfl⟩ := g2; simp [qa_upd]
                    · simp [qa_upd, g1, g2]
        · have ev : qp_v (M 14) (M 15) (M 17) st nx en f = M 15 la := by
            unfold qp_v; rw [if_neg hse, ← hla, if_neg hso]
          have eb : qp_b (M 14) (M 16) (M 17) st nx en f = qa_shl 1 (M 16 la) := by
            unfold qp_b; rw [if_neg hse, ← hla, if_neg hso]
          rw [ev, eb]
          refine R_istore cd_55_92 ?_
          refine R_iload cd_55_94 rfl ?_
          refine R_ifeq_b 147 cd_55_96 rfl (fun b96 => ?_) (fun b96 => ?_)
          · exact R_vret cd_55_147 rfl
          · refine R_aload cd_55_99 rfl ?_
            refine R_getr cd_55_100 rfl ?_
            refine R_iload cd_55_103 rfl ?_
            refine R_call2 cd_55_105 rfl rfl (K_Keys_isSoft (by omega) (by omega) c7) ?_
            refine R_ifeq_b 147 cd_55_108 rfl (fun b108 => ?_) (fun b108 => ?_)
            · exact R_vret cd_55_147 rfl
            · exact absurd ⟨hP.mp b96, b108⟩ hso
      refine R_istore cd_55_35 ?_
      refine R_aload cd_55_37 rfl ?_
      refine R_getr cd_55_38 rfl ?_
      refine R_iload cd_55_41 rfl ?_
      refine R_aload cd_55_42 rfl ?_
      refine R_getr cd_55_43 rfl ?_
      refine R_iload cd_55_46 rfl ?_
      refine R_call2 cd_55_48 rfl rfl (K_Keys_valueAt (by omega) (by omega)) ?_
      refine R_iast cd_55_51 rfl (by omega) (by omega)  ?_
      refine R_aload cd_55_52 rfl ?_
      refine R_getr cd_55_53 rfl ?_
      refine R_iload cd_55_56 rfl ?_
      refine R_aload cd_55_57 rfl ?_
      refine R_getr cd_55_58 rfl ?_
      refine R_iload cd_55_61 rfl ?_
      refine R_call2 cd_55_63 rfl rfl (K_Keys_setterBit (by omega) (by omega)) ?_
      refine R_iast cd_55_66 rfl (by omega) (by omega)  ?_
      refine R_iload cd_55_67 rfl ?_
      refine R_iload cd_55_69 rfl ?_
      refine R_icmp_ge 91 cd_55_71 rfl (fun b71 => ?_) (fun b71 => ?_)
      · refine R_push cd_55_91 ?_
        first
          | have b9 : M 14 la % 1000 < f := b84
            have m := fin True ⟨fun _ => ⟨b71, b9⟩, fun _ => trivial⟩
            rw [qb_t trivial] at m
            exact R_norm (qs_c rfl (qs_c rfl (qs_c rfl (qs_c rfl (qs_c rfl (qs_c rfl (qs_c rfl qs_n))))))) m
          | have m := fin False ⟨fun q => q.elim, fun q => absurd q.1 (by omega)⟩
            rw [qb_f id] at m
            exact R_norm (qs_c rfl (qs_c rfl (qs_c rfl (qs_c rfl (qs_c rfl (qs_c rfl (qs_c rfl qs_n))))))) m
          | have b9 : f ≤ M 14 la % 1000 := b84
            have m := fin False ⟨fun q => q.elim, fun q => absurd q.2 (by omega)⟩
            rw [qb_f id] at m
            exact R_norm (qs_c rfl (qs_c rfl (qs_c rfl (qs_c rfl (qs_c rfl (qs_c rfl (qs_c rfl qs_n))))))) m
      · refine R_aload cd_55_74 rfl ?_
        refine R_getr cd_55_75 rfl ?_
        refine R_iload cd_55_78 rfl ?_
        refine R_call2 cd_55_80 rfl rfl (K_Keys_frameAt (by omega) (by omega) c4.1) ?_
        refine R_iload cd_55_83 rfl ?_
        refine R_icmp_ge 91 cd_55_84 rfl (fun b84 => ?_) (fun b84 => ?_)
        · refine R_push cd_55_91 ?_
          first
            | have b9 : M 14 la % 1000 < f := b84
              have m := fin True ⟨fun _ => ⟨b71, b9⟩, fun _ => trivial⟩
              rw [qb_t trivial] at m
              exact R_norm (qs_c rfl (qs_c rfl (qs_c rfl (qs_c rfl (qs_c rfl (qs_c rfl (qs_c rfl qs_n))))))) m
            | have m := fin False ⟨fun q => q.elim, fun q => absurd q.1 (by omega)⟩
              rw [qb_f id] at m
              exact R_norm (qs_c rfl (qs_c rfl (qs_c rfl (qs_c rfl (qs_c rfl (qs_c rfl (qs_c rfl qs_n))))))) m
            | have b9 : f ≤ M 14 la % 1000 := b84
              have m := fin False ⟨fun q => q.elim, fun q => absurd q.2 (by omega)⟩
              rw [qb_f id] at m
              exact R_norm (qs_c rfl (qs_c rfl (qs_c rfl (qs_c rfl (qs_c rfl (qs_c rfl (qs_c rfl qs_n))))))) m
        · refine R_push cd_55_87 ?_
          refine R_goto cd_55_88 ?_
          first
            | have b9 : M 14 la % 1000 < f := b84
              have m := fin True ⟨fun _ => ⟨b71, b9⟩, fun _ => trivial⟩
              rw [qb_t trivial] at m
              exact R_norm (qs_c rfl (qs_c rfl (qs_c rfl (qs_c rfl (qs_c rfl (qs_c rfl (qs_c rfl qs_n))))))) m
            | have m := fin False ⟨fun q => q.elim, fun q => absurd q.1 (by omega)⟩
              rw [qb_f id] at m
              exact R_norm (qs_c rfl (qs_c rfl (qs_c rfl (qs_c rfl (qs_c rfl (qs_c rfl (qs_c rfl qs_n))))))) m
            | have b9 : f ≤ M 14 la % 1000 := b84
              have m := fin False ⟨fun q => q.elim, fun q => absurd q.2 (by omega)⟩
              rw [qb_f id] at m
              exact R_norm (qs_c rfl (qs_c rfl (qs_c rfl (qs_c rfl (qs_c rfl (qs_c rfl (qs_c rfl qs_n))))))) m
    refine R_iload cd_55_0 rfl ?_
    refine R_iload cd_55_1 rfl ?_
    refine R_icmp_ne 21 cd_55_3 rfl (fun b3 => ?_) (fun b3 => ?_)
    · refine R_iload cd_55_21 rfl ?_
      refine R_iload cd_55_23 rfl ?_
      refine R_icmp_le 34 cd_55_24 rfl (fun b24 => ?_) (fun b24 => ?_)
      · refine R_iload cd_55_34 rfl ?_
        have m := main
        first
          | rw [show la = nx - 1 by rw [hla]; unfold qf_last; rw [if_pos (by omega)]] at m
            exact R_norm (qs_c rfl (qs_c rfl (qs_c rfl (qs_c rfl (qs_c rfl (qs_c rfl qs_n)))))) m
          | rw [show la = st by rw [hla]; unfold qf_last; rw [if_neg (by omega)]] at m
            exact R_norm (qs_c rfl (qs_c rfl (qs_c rfl (qs_c rfl (qs_c rfl (qs_c rfl qs_n)))))) m
      · refine R_iload cd_55_27 rfl ?_
        refine R_push cd_55_29 ?_
        refine R_isub cd_55_30 (by unfold qa_InR; first | omega | (simp [qa_upd, qa_blk] <;> omega)) ?_
        refine R_goto cd_55_31 ?_
        have m := main
        first
          | rw [show la = nx - 1 by rw [hla]; unfold qf_last; rw [if_pos (by omega)]] at m
            exact R_norm (qs_c rfl (qs_c rfl (qs_c rfl (qs_c rfl (qs_c rfl (qs_c rfl qs_n)))))) m
          | rw [show la = st by rw [hla]; unfold qf_last; rw [if_neg (by omega)]] at m
            exact R_norm (qs_c rfl (qs_c rfl (qs_c rfl (qs_c rfl (qs_c rfl (qs_c rfl qs_n)))))) m
    · exact absurd b3 hse
theorem K_Rig_poseTrack {t : Int} {M : qa_Mem} (h1 : 0 ≤ t) (h2 : t < 24) (hw : qk_wf (M 14) (M 15) (M 16) (M 17) (M 2 4)) : qa_E 54 0 [(0, qr 1), (1, qi (t))] [] (M) (.inl none) (qt_M M t 120) := by
  have hw' := hw
  obtain ⟨w1, w2, w3, w4, w5, w6, w7⟩ := hw'
  obtain ⟨st, hst⟩ : ∃ x, x = qf_ca (M 14) (M 2 4) (1000 * t + 0) 80 0 := ⟨_, rfl⟩
  obtain ⟨en, hen⟩ : ∃ x, x = qf_ca (M 14) (M 2 4) (1000 * (t + 1) + 0) 80 0 := ⟨_, rfl⟩
  have hS := qf_ca_s hw (1000 * t + 0)
  have hE := qf_ca_s hw (1000 * (t + 1) + 0)
  have hSE := qf_ca_m hw (c := 1000 * t + 0) (d := 1000 * (t + 1) + 0) (by omega)
  rw [← hst] at hS hSE
  rw [← hen] at hE hSE
  have lp : ∀ (k : Nat) (a : Int), a + k = 120 → 0 ≤ a → qa_E 54 26 [(0, qr 1), (1, qi t), (2, qi st), (3, qi en), (4, qi (qf_ca (M 14) (M 2 4) (1000 * t + a) 80 0)), (5, qi a)] [] (qt_M M t a) (.inl none) (qt_M M t 120) := by
    intro k
    induction k with
    | zero =>
      intro a g1 g2
      obtain rfl : a = 120 := by omega
      refine R_iload cd_54_26 rfl ?_
      refine R_push cd_54_28 ?_
      refine R_icmp_ge 79 cd_54_30 rfl (fun b30 => ?_) (fun b30 => ?_)
      · exact R_vret cd_54_79 rfl
      · omega
    | succ k ih =>
      intro a g1 g2
      obtain ⟨nx, hnx⟩ : ∃ x, x = qf_ca (M 14) (M 2 4) (1000 * t + a) 80 0 := ⟨_, rfl⟩
      have hN := qf_ca_s hw (1000 * t + a)
      have hSN := qf_ca_m hw (c := 1000 * t + 0) (d := 1000 * t + a) (by omega)
      have hNE := qf_ca_m hw (c := 1000 * t + a) (d := 1000 * (t + 1) + 0) (by omega)
      rw [← hst] at hSN
      rw [← hen] at hNE
      rw [← hnx] at hN hSN hNE ⊢
      obtain ⟨n2, hn2⟩ : ∃ x, x = qf_ca (M 14) (M 2 4) (1000 * t + a + 1) 80 0 := ⟨_, rfl⟩
      have hN2 := qf_ca_s hw (1000 * t + a + 1)
      have hSN2 := qf_ca_m hw (c := 1000 * t + 0) (d := 1000 * t + a + 1) (by omega)
      have hN2E := qf_ca_m hw (c := 1000 * t + a + 1) (d := 1000 * (t + 1) + 0) (by omega)
      rw [← hst, ← hn2] at hSN2
      rw [← hen, ← hn2] at hN2E
      rw [← hn2] at hN2
      have main : qa_E 54 56 [(0, qr 1), (1, qi t), (2, qi st), (3, qi en), (4, qi n2), (5, qi a)] [] (qt_M M t a) (.inl none) (qt_M M t 120) := by
        have i6 : n2 < en → st < n2 → (qt_M M t a) 14 (n2 - 1) % 1000 < (qt_M M t a) 14 n2 % 1000 := by
          intro q1 q2
          show M 14 (n2 - 1) % 1000 < M 14 n2 % 1000
          have p1 := hS.2.2.2 (n2 - 1) (by omega) (by omega)
          have p2 := hE.2.2.1 n2 (by omega) (by omega)
          have p3 := w3 (n2 - 1) n2 (by omega) (by omega) (by omega)
          omega
        have i7 : n2 = st → st < en → a < (qt_M M t a) 14 st % 1000 := by
          intro q1 q2
          show a < M 14 st % 1000
          have p1 := hN2.2.2.2 st (by omega) (by omega)
          have p2 := hE.2.2.1 st (by omega) (by omega)
          omega
        refine R_aload cd_54_56 rfl ?_
        refine R_iload cd_54_57 rfl ?_
        refine R_push cd_54_58 ?_
        refine R_imul cd_54_60 (by unfold qa_InR; first | omega | (simp [qa_upd, qa_blk] <;> omega)) ?_
        refine R_iload cd_54_61 rfl ?_
        refine R_iadd cd_54_63 (by unfold qa_InR; first | omega | (simp [qa_upd, qa_blk] <;> omega)) ?_
        refine R_iload cd_54_64 rfl ?_
        refine R_iload cd_54_66 rfl ?_
        refine R_iload cd_54_67 rfl ?_
        refine R_iload cd_54_69 rfl ?_
        refine R_callv6 cd_54_70 rfl rfl (K_Rig_poseCell (by omega) (by omega) (by omega) (by omega) (show en ≤ M 2 4 by omega) hw i6 i7) ?_
        refine R_iinc cd_54_73 rfl (by unfold qa_InR; first | omega | (simp [qa_upd, qa_blk] <;> omega)) ?_
        refine R_goto cd_54_76 ?_
        have e := ih (a + 1) (by omega) (by omega)
        rw [show 1000 * t + (a + 1) = 1000 * t + a + 1 by omega, ← hn2] at e
        have ev : qp_v (M 14) (M 15) (M 17) st n2 en a = qt_v (M 14) (M 15) (M 17) (M 2 4) t a := by
          unfold qt_v; rw [← hst, ← hen, ← hn2]
        have eb : qp_b (M 14) (M 16) (M 17) st n2 en a = qt_b (M 14) (M 16) (M 17) (M 2 4) t a := by
          unfold qt_b; rw [← hst, ← hen, ← hn2]
        have em : qa_upd (qa_upd (qt_M M t a) 12 (t * 120 + a) (qp_v (M 14) (M 15) (M 17) st n2 en a)) 13 (t * 120 + a) (qp_b (M 14) (M 16) (M 17) st n2 en a) = qt_M M t (a + 1) := by
          rw [ev, eb]
          funext c9 j9
          by_cases g12 : c9 = 12
          · subst g12; simp [qa_upd, qa_blk, qt_M] <;> ((repeat' split) <;> first | rfl | omega | (congr 1 <;> omega) | (simp_all; done) | (simp_all; omega))
          · skip
            by_cases g13 : c9 = 13
            · subst g13; simp [qa_upd, qa_blk, qt_M] <;> ((repeat' split) <;> first | rfl | omega | (congr 1 <;> omega) | (simp_all; done) | (simp_all; omega))
            · skip
              simp [qa_upd, qa_blk, qt_M, g12, g13]
        rw [← em] at e
        exact R_norm (qs_c rfl (qs_c rfl (qs_c rfl (qs_c rfl (qs_c rfl (qs_c rfl qs_n)))))) e
      refine R_iload cd_54_26 rfl ?_
      refine R_push cd_54_28 ?_
      refine R_icmp_ge 79 cd_54_30 rfl (fun b30 => ?_) (fun b30 => ?_)
      · omega
      · refine R_iload cd_54_33 rfl ?_
        refine R_iload cd_54_35 rfl ?_
        refine R_icmp_ge 56 cd_54_36 rfl (fun b36 => ?_) (fun b36 => ?_)
        · have m := main
          first
            | rw [show n2 = nx by
                refine hn2.trans (qf_ca_u hw hN.1 hN.2.1 ?_ ?_)
                · by_cases hq : nx = 0
                  · exact Or.inl hq
                  · right; have := hN.2.2.1 (nx - 1) (by omega) (by omega); omega
                · by_cases hq : nx = M 2 4
                  · exact Or.inl hq
                  · right
                    have p1 := hN.2.2.2 nx (Int.le_refl _) (by omega)
                    first
                      | have p2 := hE.2.2.2 nx (by omega) (by omega); omega
                      | have b9 : M 14 nx % 1000 ≠ a := b50
                        have p2 := hE.2.2.1 nx (by omega) (by omega)
                        omega] at m
              exact R_norm (qs_c rfl (qs_c rfl (qs_c rfl (qs_c rfl (qs_c rfl (qs_c rfl qs_n)))))) m
            | rw [show n2 = nx + 1 by
                have b9 : M 14 nx % 1000 = a := b50
                have p1 := hN.2.2.2 nx (Int.le_refl _) (by omega)
                have p2 := hE.2.2.1 nx (by omega) (by omega)
                refine hn2.trans (qf_ca_u hw (by omega) (by omega) (Or.inr ?_) ?_)
                · rw [show nx + 1 - 1 = nx by omega]; omega
                · by_cases hq : nx + 1 = M 2 4
                  · exact Or.inl hq
                  · right
                    have := w3 nx (nx + 1) (by omega) (by omega) (by omega)
                    omega] at m
              exact R_norm (qs_c rfl (qs_c rfl (qs_c rfl (qs_c rfl (qs_c rfl (qs_c rfl qs_n)))))) m
        · refine R_aload cd_54_39 rfl ?_
          refine R_getr cd_54_40 rfl ?_
          refine R_iload cd_54_43 rfl ?_
          refine R_call2 cd_54_45 rfl rfl (K_Keys_frameAt (by omega) (by omega) (w4 nx (by omega) (by omega)).1) ?_
          refine R_iload cd_54_48 rfl ?_
          refine R_icmp_ne 56 cd_54_50 rfl (fun b50 => ?_) (fun b50 => ?_)
          · have m := main
            first
              | rw [show n2 = nx by
                  refine hn2.trans (qf_ca_u hw hN.1 hN.2.1 ?_ ?_)
                  · by_cases hq : nx = 0
                    · exact Or.inl hq
                    · right; have := hN.2.2.1 (nx - 1) (by omega) (by omega); omega
                  · by_cases hq : nx = M 2 4
                    · exact Or.inl hq
                    · right
                      have p1 := hN.2.2.2 nx (Int.le_refl _) (by omega)
                      first
                        | have p2 := hE.2.2.2 nx (by omega) (by omega); omega
                        | have b9 : M 14 nx % 1000 ≠ a := b50
                          have p2 := hE.2.2.1 nx (by omega) (by omega)
                          omega] at m
                exact R_norm (qs_c rfl (qs_c rfl (qs_c rfl (qs_c rfl (qs_c rfl (qs_c rfl qs_n)))))) m
              | rw [show n2 = nx + 1 by
                  have b9 : M 14 nx % 1000 = a := b50
                  have p1 := hN.2.2.2 nx (Int.le_refl _) (by omega)
                  have p2 := hE.2.2.1 nx (by omega) (by omega)
                  refine hn2.trans (qf_ca_u hw (by omega) (by omega) (Or.inr ?_) ?_)
                  · rw [show nx + 1 - 1 = nx by omega]; omega
                  · by_cases hq : nx + 1 = M 2 4
                    · exact Or.inl hq
                    · right
                      have := w3 nx (nx + 1) (by omega) (by omega) (by omega)
                      omega] at m
                exact R_norm (qs_c rfl (qs_c rfl (qs_c rfl (qs_c rfl (qs_c rfl (qs_c rfl qs_n)))))) m
          · refine R_iinc cd_54_53 rfl (by unfold qa_InR; first | omega | (simp [qa_upd, qa_blk] <;> omega)) ?_
            have m := main
            first
              | rw [show n2 = nx by
                  refine hn2.trans (qf_ca_u hw hN.1 hN.2.1 ?_ ?_)
                  · by_cases hq : nx = 0
                    · exact Or.inl hq
                    · right; have := hN.2.2.1 (nx - 1) (by omega) (by omega); omega
                  · by_cases hq : nx = M 2 4
                    · exact Or.inl hq
                    · right
                      have p1 := hN.2.2.2 nx (Int.le_refl _) (by omega)
                      first
                        | have p2 := hE.2.2.2 nx (by omega) (by omega); omega
                        | have b9 : M 14 nx % 1000 ≠ a := b50
                          have p2 := hE.2.2.1 nx (by omega) (by omega)
                          omega] at m
                exact R_norm (qs_c rfl (qs_c rfl (qs_c rfl (qs_c rfl (qs_c rfl (qs_c rfl qs_n)))))) m
              | rw [show n2 = nx + 1 by
                  have b9 : M 14 nx % 1000 = a := b50
                  have p1 := hN.2.2.2 nx (Int.le_refl _) (by omega)
                  have p2 := hE.2.2.1 nx (by omega) (by omega)
                  refine hn2.trans (qf_ca_u hw (by omega) (by omega) (Or.inr ?_) ?_)
                  · rw [show nx + 1 - 1 = nx by omega]; omega
                  · by_cases hq : nx + 1 = M 2 4
                    · exact Or.inl hq
                    · right
                      have := w3 nx (nx + 1) (by omega) (by omega) (by omega)
                      omega] at m
                exact R_norm (qs_c rfl (qs_c rfl (qs_c rfl (qs_c rfl (qs_c rfl (qs_c rfl qs_n)))))) m
  have e := lp 120 0 (by omega) (by omega)
  rw [← hst] at e
  have em : qt_M M t 0 = M := by
    funext c9 j9
    by_cases g12 : c9 = 12
    · subst g12; simp [qa_upd, qa_blk, qt_M] <;> ((repeat' split) <;> first | rfl | omega | (congr 1 <;> omega) | (simp_all; done) | (simp_all; omega))
    · skip
      by_cases g13 : c9 = 13
      · subst g13; simp [qa_upd, qa_blk, qt_M] <;> ((repeat' split) <;> first | rfl | omega | (congr 1 <;> omega) | (simp_all; done) | (simp_all; omega))
      · skip
        simp [qa_upd, qa_blk, qt_M, g12, g13]
  rw [em] at e
  have k1 := K_Keys_startOf (t := t) (M := M) w1 w2 h1 (by omega)
  rw [← hst] at k1
  have k2 := K_Keys_startOf (t := t + 1) (M := M) w1 w2 (by omega) (by omega)
  rw [← hen] at k2
  refine R_aload cd_54_0 rfl ?_
  refine R_getr cd_54_1 rfl ?_
  refine R_iload cd_54_4 rfl ?_
  refine R_call2 cd_54_5 rfl rfl k1 ?_
  refine R_istore cd_54_8 ?_
  refine R_aload cd_54_9 rfl ?_
  refine R_getr cd_54_10 rfl ?_
  refine R_iload cd_54_13 rfl ?_
  refine R_push cd_54_14 ?_
  refine R_iadd cd_54_15 (by unfold qa_InR; first | omega | (simp [qa_upd, qa_blk] <;> omega)) ?_
  refine R_call2 cd_54_16 rfl rfl k2 ?_
  refine R_istore cd_54_19 ?_
  refine R_iload cd_54_20 rfl ?_
  refine R_istore cd_54_21 ?_
  refine R_push cd_54_23 ?_
  refine R_istore cd_54_24 ?_
  exact R_norm (qs_c rfl (qs_c rfl (qs_c rfl (qs_c rfl (qs_c rfl (qs_c rfl qs_n)))))) e
end
section
/-! the rig's other methods -/
theorem K_Rig_setKey {t f v a s : Int} {M : qa_Mem} (h1 : 0 ≤ t) (h2 : t < 24) (h3 : 0 ≤ f) (h4 : f < 120) (h5 : 0 ≤ M 2 4) (h6 : M 2 4 ≤ 80) (h7 : ∀ j, 0 ≤ j → j < 80 → M 17 j = 0 ∨ M 17 j = 1) (h8 : s = 0 ∨ s = 1) (h9 : M 2 4 < 80 ∨ (qf_ca (M 14) (M 2 4) (1000 * t + f) 80 0 < M 2 4 ∧ M 14 (qf_ca (M 14) (M 2 4) (1000 * t + f) 80 0) = 1000 * t + f)) (h10 : qk_wf ((qk_put M (1000 * t + f) v a s) 14) ((qk_put M (1000 * t + f) v a s) 15) ((qk_put M (1000 * t + f) v a s) 16) ((qk_put M (1000 * t + f) v a s) 17) ((qk_put M (1000 * t + f) v a s) 2 4)) : qa_E 46 0 [(0, qr 1), (1, qi (t)), (2, qi (f)), (3, qi (v)), (4, qi (a)), (5, qi (s))] [] (M) (.inl none) (qt_M (qk_put M (1000 * t + f) v a s) t 120) := by
  refine R_aload cd_46_0 rfl ?_
  refine R_getr cd_46_1 rfl ?_
  refine R_iload cd_46_4 rfl ?_
  refine R_iload cd_46_5 rfl ?_
  refine R_call2 cd_46_6 rfl rfl (K_Keys_codeOf (by omega) (by omega) (by omega) (by omega)) ?_
  refine R_iload cd_46_9 rfl ?_
  refine R_iload cd_46_10 rfl ?_
  refine R_iload cd_46_12 rfl ?_
  refine R_callv5 cd_46_14 rfl rfl (K_Keys_put h5 h6 h7 h8 h9) ?_
  refine R_aload cd_46_17 rfl ?_
  refine R_iload cd_46_18 rfl ?_
  refine R_callv2 cd_46_19 rfl rfl (K_Rig_poseTrack h1 h2 h10) ?_
  exact R_vret cd_46_22 rfl
theorem K_Rig_takeKey {t f : Int} {M : qa_Mem} (h1 : 0 ≤ t) (h2 : t < 24) (h3 : 0 ≤ f) (h4 : f < 120) (h5 : 0 ≤ M 2 4) (h6 : M 2 4 ≤ 80) (h7 : ∀ j, 0 ≤ j → j < 80 → M 17 j = 0 ∨ M 17 j = 1) (h9 : qf_ca (M 14) (M 2 4) (1000 * t + f) 80 0 < M 2 4 ∧ M 14 (qf_ca (M 14) (M 2 4) (1000 * t + f) 80 0) = 1000 * t + f) (h10 : qk_wf ((qk_take M (1000 * t + f)) 14) ((qk_take M (1000 * t + f)) 15) ((qk_take M (1000 * t + f)) 16) ((qk_take M (1000 * t + f)) 17) ((qk_take M (1000 * t + f)) 2 4)) : qa_E 47 0 [(0, qr 1), (1, qi (t)), (2, qi (f))] [] (M) (.inl none) (qt_M (qk_take M (1000 * t + f)) t 120) := by
  refine R_aload cd_47_0 rfl ?_
  refine R_getr cd_47_1 rfl ?_
  refine R_iload cd_47_4 rfl ?_
  refine R_iload cd_47_5 rfl ?_
  refine R_call2 cd_47_6 rfl rfl (K_Keys_codeOf (by omega) (by omega) (by omega) (by omega)) ?_
  refine R_callv2 cd_47_9 rfl rfl (K_Keys_take h5 h6 h7 h9) ?_
  refine R_aload cd_47_12 rfl ?_
  refine R_iload cd_47_13 rfl ?_
  refine R_callv2 cd_47_14 rfl rfl (K_Rig_poseTrack h1 h2 h10) ?_
  exact R_vret cd_47_17 rfl
theorem K_Rig_addBone {p x y : Int} {M : qa_Mem} (h1 : 0 ≤ M 1 3) (h2 : M 1 3 < 8) : qa_E 42 0 [(0, qr 1), (1, qi (p)), (2, qi (x)), (3, qi (y))] [] (M) (.inl (some (qi (M 1 3)))) (qa_upd (qa_upd (qa_upd (qa_upd M 9 (M 1 3) p) 10 (M 1 3) x) 11 (M 1 3) y) 1 3 (M 1 3 + 1)) := by
  refine R_aload cd_42_0 rfl ?_
  refine R_getf cd_42_1 rfl (by decide) ?_
  refine R_istore cd_42_4 ?_
  refine R_aload cd_42_6 rfl ?_
  refine R_getr cd_42_7 rfl ?_
  refine R_iload cd_42_10 rfl ?_
  refine R_iload cd_42_12 rfl ?_
  refine R_iast cd_42_13 rfl (by omega) (by omega)  ?_
  refine R_aload cd_42_14 rfl ?_
  refine R_getr cd_42_15 rfl ?_
  refine R_iload cd_42_18 rfl ?_
  refine R_iload cd_42_20 rfl ?_
  refine R_iast cd_42_21 rfl (by omega) (by omega)  ?_
  refine R_aload cd_42_22 rfl ?_
  refine R_getr cd_42_23 rfl ?_
  refine R_iload cd_42_26 rfl ?_
  refine R_iload cd_42_28 rfl ?_
  refine R_iast cd_42_29 rfl (by omega) (by omega)  ?_
  refine R_aload cd_42_30 rfl ?_
  refine R_dup cd_42_31 rfl ?_
  refine R_getf cd_42_32 rfl (by decide) ?_
  refine R_push cd_42_35 ?_
  refine R_iadd cd_42_36 (show qa_InR (M 1 3 + 1) by unfold qa_InR; omega) ?_
  refine R_putf cd_42_37 rfl (by decide) ?_
  refine R_iload cd_42_40 rfl ?_
  exact R_iret cd_42_42 (by first | rfl | omega) rfl
theorem K_Rig_artistsAt {f : Int} {M : qa_Mem} (h1 : 0 ≤ M 1 3) (h2 : M 1 3 ≤ 8) (h3 : 0 ≤ f) (h4 : f < 120) : qa_E 49 0 [(0, qr 1), (1, qi (f))] [] (M) (.inl (some (qi (qf_or (fun t => M 13 (t * 120 + f)) (3 * M 1 3).toNat)))) (M) := by
  have lp : ∀ (k : Nat) (j : Nat), j + k = (3 * M 1 3).toNat → qa_E 49 4 [(0, qr 1), (1, qi f), (2, qi (qf_or (fun t => M 13 (t * 120 + f)) j)), (3, qi j)] [] M (.inl (some (qi (qf_or (fun t => M 13 (t * 120 + f)) (3 * M 1 3).toNat)))) M := by
    intro k
    induction k with
    | zero =>
      intro j g1
      refine R_iload cd_49_4 rfl ?_
      refine R_aload cd_49_5 rfl ?_
      refine R_call1 cd_49_6 rfl rfl (K_Rig_trackCount (by omega) (by omega)) ?_
      refine R_icmp_ge 32 cd_49_9 rfl (fun b9 => ?_) (fun b9 => ?_)
      · refine R_iload cd_49_32 rfl ?_
        exact R_iret cd_49_33 (by rw [← g1]; rfl) rfl
      · omega
    | succ k ih =>
      intro j g1
      have e := ih (j + 1) (by omega)
      rw [Int.natCast_add] at e
      refine R_iload cd_49_4 rfl ?_
      refine R_aload cd_49_5 rfl ?_
      refine R_call1 cd_49_6 rfl rfl (K_Rig_trackCount (by omega) (by omega)) ?_
      refine R_icmp_ge 32 cd_49_9 rfl (fun b9 => ?_) (fun b9 => ?_)
      · omega
      · refine R_iload cd_49_12 rfl ?_
        refine R_aload cd_49_13 rfl ?_
        refine R_getr cd_49_14 rfl ?_
        refine R_iload cd_49_17 rfl ?_
        refine R_push cd_49_18 ?_
        refine R_imul cd_49_20 (by unfold qa_InR; first | omega | (simp [qa_upd, qa_blk] <;> omega)) ?_
        refine R_iload cd_49_21 rfl ?_
        refine R_iadd cd_49_22 (by unfold qa_InR; first | omega | (simp [qa_upd, qa_blk] <;> omega)) ?_
        refine R_iald cd_49_23 rfl (by omega) (by omega) ?_
        refine R_ior cd_49_24 ?_
        refine R_istore cd_49_25 ?_
        refine R_iinc cd_49_26 rfl (by unfold qa_InR; first | omega | (simp [qa_upd, qa_blk] <;> omega)) ?_
        refine R_goto cd_49_29 ?_
        exact R_norm (qs_c rfl (qs_c rfl (qs_c rfl (qs_c rfl qs_n)))) e
  refine R_push cd_49_0 ?_
  refine R_istore cd_49_1 ?_
  refine R_push cd_49_2 ?_
  refine R_istore cd_49_3 ?_
  exact R_norm (qs_c rfl (qs_c rfl (qs_c rfl (qs_c rfl qs_n)))) (lp _ 0 (Nat.zero_add _))
theorem K_Rig_localX {b f : Int} {M : qa_Mem} (h1 : 0 ≤ b) (h2 : b < 8) (h3 : 0 ≤ f) (h4 : f < 120) (h5 : -100 ≤ M 10 b ∧ M 10 b ≤ 100) (h6 : -200 ≤ M 12 ((3 * b + 0) * 120 + f) ∧ M 12 ((3 * b + 0) * 120 + f) ≤ 200) : qa_E 52 0 [(0, qr 1), (1, qi (b)), (2, qi (f))] [] (M) (.inl (some (qi (M 10 b + M 12 ((3 * b + 0) * 120 + f))))) (M) := by
  refine R_aload cd_52_0 rfl ?_
  refine R_getr cd_52_1 rfl ?_
  refine R_iload cd_52_4 rfl ?_
  refine R_iald cd_52_5 rfl (by omega) (by omega) ?_
  refine R_aload cd_52_6 rfl ?_
  refine R_iload cd_52_7 rfl ?_
  refine R_push cd_52_8 ?_
  refine R_call2 cd_52_9 rfl rfl (K_Court_trackOf (by omega) (by omega) (by omega) (by omega)) ?_
  refine R_iload cd_52_12 rfl ?_
  refine R_call3 cd_52_13 rfl rfl (K_Rig_poseAt (by omega) (by omega) (by omega) (by omega)) ?_
  refine R_iadd cd_52_16 (by unfold qa_InR; first | omega | (simp [qa_upd, qa_blk] <;> omega)) ?_
  exact R_iret cd_52_17 (by first | rfl | omega) rfl
theorem K_Rig_localY {b f : Int} {M : qa_Mem} (h1 : 0 ≤ b) (h2 : b < 8) (h3 : 0 ≤ f) (h4 : f < 120) (h5 : -100 ≤ M 11 b ∧ M 11 b ≤ 100) (h6 : -200 ≤ M 12 ((3 * b + 1) * 120 + f) ∧ M 12 ((3 * b + 1) * 120 + f) ≤ 200) : qa_E 53 0 [(0, qr 1), (1, qi (b)), (2, qi (f))] [] (M) (.inl (some (qi (M 11 b + M 12 ((3 * b + 1) * 120 + f))))) (M) := by
  refine R_aload cd_53_0 rfl ?_
  refine R_getr cd_53_1 rfl ?_
  refine R_iload cd_53_4 rfl ?_
  refine R_iald cd_53_5 rfl (by omega) (by omega) ?_
  refine R_aload cd_53_6 rfl ?_
  refine R_iload cd_53_7 rfl ?_
  refine R_push cd_53_8 ?_
  refine R_call2 cd_53_9 rfl rfl (K_Court_trackOf (by omega) (by omega) (by omega) (by omega)) ?_
  refine R_iload cd_53_12 rfl ?_
  refine R_call3 cd_53_13 rfl rfl (K_Rig_poseAt (by omega) (by omega) (by omega) (by omega)) ?_
  refine R_iadd cd_53_16 (by unfold qa_InR; first | omega | (simp [qa_upd, qa_blk] <;> omega)) ?_
  exact R_iret cd_53_17 (by first | rfl | omega) rfl
theorem K_Rig_spanOf {t f : Int} {M : qa_Mem} (h1 : 0 ≤ t) (h2 : t < 24) (h3 : 0 ≤ f) (h4 : f < 120) (hw : qk_wf (M 14) (M 15) (M 16) (M 17) (M 2 4)) (h5 : qf_ca (M 14) (M 2 4) (1000 * t + f) 80 0 < M 2 4) : qa_E 50 0 [(0, qr 1), (1, qi (t)), (2, qi (f))] [] (M) (.inl (some (qi ((let p := qf_ca (M 14) (M 2 4) (1000 * t + f) 80 0; 1000 * (if p = qf_ca (M 14) (M 2 4) (1000 * t + 0) 80 0 then 0 else if M 17 (p - 1) ≠ 0 then M 14 (p - 1) % 1000 + 1 else f) + (if p + 1 < qf_ca (M 14) (M 2 4) (1000 * (t + 1) + 0) 80 0 then M 14 (p + 1) % 1000 - 1 else 119)))))) (M) := by
  have hw' := hw
  obtain ⟨w1, w2, w3, w4, w5, w6, w7⟩ := hw'
  have a1 := qf_ca_s hw (1000 * t + 0)
  have a2 := qf_ca_s hw (1000 * t + f)
  have a3 := qf_ca_s hw (1000 * (t + 1) + 0)
  have a4 := qf_ca_m hw (c := 1000 * t + 0) (d := 1000 * t + f) (by omega)
  have k1 := K_Keys_startOf (t := t) (M := M) w1 w2 h1 (by omega)
  have k2 := K_Keys_startOf (t := t + 1) (M := M) w1 w2 (by omega) (by omega)
  have k3 := K_Keys_countAhead (c := 1000 * t + f) (M := M) w1 w2
  generalize qf_ca (M 14) (M 2 4) (1000 * t + f) 80 0 = p at *
  generalize qf_ca (M 14) (M 2 4) (1000 * t + 0) 80 0 = st at *
  generalize qf_ca (M 14) (M 2 4) (1000 * (t + 1) + 0) 80 0 = en at *
  dsimp only
  have tail : ∀ fi : Int, 0 ≤ fi → fi ≤ 120 → qa_E 50 79 [(0, qr 1), (1, qi t), (2, qi f), (3, qi st), (4, qi en), (5, qi p), (6, qi fi)] [] M (.inl (some (qi (1000 * fi + (if p + 1 < en then M 14 (p + 1) % 1000 - 1 else 119))))) M := by
    intro fi g1 g2
    refine R_iload cd_50_79 rfl ?_
    refine R_push cd_50_81 ?_
    refine R_iadd cd_50_82 (by unfold qa_InR; first | omega | (simp [qa_upd, qa_blk] <;> omega)) ?_
    refine R_iload cd_50_83 rfl ?_
    refine R_icmp_ge 104 cd_50_85 rfl (fun b85 => ?_) (fun b85 => ?_)
    · rw [if_neg (show ¬ p + 1 < en by omega)]
      refine R_push cd_50_104 ?_
      refine R_istore cd_50_106 ?_
      refine R_push cd_50_108 ?_
      refine R_iload cd_50_111 rfl ?_
      refine R_imul cd_50_113 (by unfold qa_InR; first | omega | (simp [qa_upd, qa_blk] <;> omega)) ?_
      refine R_iload cd_50_114 rfl ?_
      refine R_iadd cd_50_116 (by unfold qa_InR; first | omega | (simp [qa_upd, qa_blk] <;> omega)) ?_
      exact R_iret cd_50_117 (by first | rfl | omega) rfl
    · rw [if_pos b85]
      have c4 := w4 (p + 1) (by omega) (by omega)
      refine R_aload cd_50_88 rfl ?_
      refine R_getr cd_50_89 rfl ?_
      refine R_iload cd_50_92 rfl ?_
      refine R_push cd_50_94 ?_
      refine R_iadd cd_50_95 (by unfold qa_InR; first | omega | (simp [qa_upd, qa_blk] <;> omega)) ?_
      refine R_call2 cd_50_96 rfl rfl (K_Keys_frameAt (by omega) (by omega) (w4 (p + 1) (by omega) (by omega)).1) ?_
      refine R_push cd_50_99 ?_
      refine R_isub cd_50_100 (by unfold qa_InR; first | omega | (simp [qa_upd, qa_blk] <;> omega)) ?_
      refine R_goto cd_50_101 ?_
      refine R_istore cd_50_106 ?_
      refine R_push cd_50_108 ?_
      refine R_iload cd_50_111 rfl ?_
      refine R_imul cd_50_113 (by unfold qa_InR; first | omega | (simp [qa_upd, qa_blk] <;> omega)) ?_
      refine R_iload cd_50_114 rfl ?_
      refine R_iadd cd_50_116 (by unfold qa_InR; first | omega | (simp [qa_upd, qa_blk] <;> omega)) ?_
      exact R_iret cd_50_117 (by first | rfl | omega) rfl
  refine R_aload cd_50_0 rfl ?_
  refine R_getr cd_50_1 rfl ?_
  refine R_iload cd_50_4 rfl ?_
  refine R_call2 cd_50_5 rfl rfl k1 ?_
  refine R_istore cd_50_8 ?_
  refine R_aload cd_50_9 rfl ?_
  refine R_getr cd_50_10 rfl ?_
  refine R_iload cd_50_13 rfl ?_
  refine R_push cd_50_14 ?_
  refine R_iadd cd_50_15 (by unfold qa_InR; first | omega | (simp [qa_upd, qa_blk] <;> omega)) ?_
  refine R_call2 cd_50_16 rfl rfl k2 ?_
  refine R_istore cd_50_19 ?_
  refine R_aload cd_50_21 rfl ?_
  refine R_getr cd_50_22 rfl ?_
  refine R_iload cd_50_25 rfl ?_
  refine R_iload cd_50_26 rfl ?_
  refine R_call2 cd_50_27 rfl rfl (K_Keys_codeOf (by omega) (by omega) (by omega) (by omega)) ?_
  refine R_call2 cd_50_30 rfl rfl k3 ?_
  refine R_istore cd_50_33 ?_
  refine R_iload cd_50_35 rfl ?_
  refine R_istore cd_50_36 ?_
  refine R_iload cd_50_38 rfl ?_
  refine R_iload cd_50_40 rfl ?_
  refine R_icmp_ne 50 cd_50_41 rfl (fun b41 => ?_) (fun b41 => ?_)
  · rw [if_neg b41]
    have c4 := w4 (p - 1) (by omega) (by omega)
    refine R_aload cd_50_50 rfl ?_
    refine R_getr cd_50_51 rfl ?_
    refine R_iload cd_50_54 rfl ?_
    refine R_push cd_50_56 ?_
    refine R_isub cd_50_57 (by unfold qa_InR; first | omega | (simp [qa_upd, qa_blk] <;> omega)) ?_
    refine R_call2 cd_50_58 rfl rfl (K_Keys_isSoft (by omega) (by omega) (w7 (p - 1) (by omega) (by omega))) ?_
    refine R_ifeq_b 79 cd_50_61 rfl (fun b61 => ?_) (fun b61 => ?_)
    · first
        | exact R_norm (qs_c rfl (qs_c rfl (qs_c rfl (qs_c rfl (qs_c rfl (qs_c rfl (qs_c rfl qs_n))))))) (tail 0 (by omega) (by omega))
        | exact R_norm (qs_c rfl (qs_c rfl (qs_c rfl (qs_c rfl (qs_c rfl (qs_c rfl (qs_c rfl qs_n))))))) (tail (M 14 (p - 1) % 1000 + 1) (by omega) (by omega))
        | rw [if_neg b61]
          exact R_norm (qs_c rfl (qs_c rfl (qs_c rfl (qs_c rfl (qs_c rfl (qs_c rfl (qs_c rfl qs_n))))))) (tail f (by omega) (by omega))
    · rw [if_pos b61]
      refine R_aload cd_50_64 rfl ?_
      refine R_getr cd_50_65 rfl ?_
      refine R_iload cd_50_68 rfl ?_
      refine R_push cd_50_70 ?_
      refine R_isub cd_50_71 (by unfold qa_InR; first | omega | (simp [qa_upd, qa_blk] <;> omega)) ?_
      refine R_call2 cd_50_72 rfl rfl (K_Keys_frameAt (by omega) (by omega) c4.1) ?_
      refine R_push cd_50_75 ?_
      refine R_iadd cd_50_76 (by unfold qa_InR; first | omega | (simp [qa_upd, qa_blk] <;> omega)) ?_
      refine R_istore cd_50_77 ?_
      first
        | exact R_norm (qs_c rfl (qs_c rfl (qs_c rfl (qs_c rfl (qs_c rfl (qs_c rfl (qs_c rfl qs_n))))))) (tail 0 (by omega) (by omega))
        | exact R_norm (qs_c rfl (qs_c rfl (qs_c rfl (qs_c rfl (qs_c rfl (qs_c rfl (qs_c rfl qs_n))))))) (tail (M 14 (p - 1) % 1000 + 1) (by omega) (by omega))
        | rw [if_neg b61]
          exact R_norm (qs_c rfl (qs_c rfl (qs_c rfl (qs_c rfl (qs_c rfl (qs_c rfl (qs_c rfl qs_n))))))) (tail f (by omega) (by omega))
  · rw [if_pos b41]
    refine R_push cd_50_44 ?_
    refine R_istore cd_50_45 ?_
    refine R_goto cd_50_47 ?_
    first
      | exact R_norm (qs_c rfl (qs_c rfl (qs_c rfl (qs_c rfl (qs_c rfl (qs_c rfl (qs_c rfl qs_n))))))) (tail 0 (by omega) (by omega))
      | exact R_norm (qs_c rfl (qs_c rfl (qs_c rfl (qs_c rfl (qs_c rfl (qs_c rfl (qs_c rfl qs_n))))))) (tail (M 14 (p - 1) % 1000 + 1) (by omega) (by omega))
      | rw [if_neg b61]
        exact R_norm (qs_c rfl (qs_c rfl (qs_c rfl (qs_c rfl (qs_c rfl (qs_c rfl (qs_c rfl qs_n))))))) (tail f (by omega) (by omega))
theorem K_Rig_placeOf {b f : Int} {M : qa_Mem} (h1 : 0 ≤ b) (h2 : b < 8) (h3 : 0 ≤ f) (h4 : f < 120) (h5 : ∀ u, 0 ≤ u → u < 8 → -1 ≤ M 9 u ∧ M 9 u < 8) (h6 : ∀ u, 0 ≤ u → u < 8 → (-100 ≤ M 10 u ∧ M 10 u ≤ 100) ∧ (-100 ≤ M 11 u ∧ M 11 u ≤ 100)) (h7 : ∀ u, 0 ≤ u → u < 8 → (-200 ≤ M 12 ((3 * u + 0) * 120 + f) ∧ M 12 ((3 * u + 0) * 120 + f) ≤ 200) ∧ (-200 ≤ M 12 ((3 * u + 1) * 120 + f) ∧ M 12 ((3 * u + 1) * 120 + f) ≤ 200) ∧ (0 ≤ M 12 ((3 * u + 2) * 120 + f) ∧ M 12 ((3 * u + 2) * 120 + f) ≤ 3)) : qa_E 51 0 [(0, qr 1), (1, qi (b)), (2, qi (f))] [] (M) (.inl (some (qi ((let r := qg_c (M 9) (fun u => M 12 ((3 * u + 2) * 120 + f)) (fun u => M 10 u + M 12 ((3 * u + 0) * 120 + f)) (fun u => M 11 u + M 12 ((3 * u + 1) * 120 + f)) 8 (M 9 b) (M 10 b + M 12 ((3 * b + 0) * 120 + f)) (M 11 b + M 12 ((3 * b + 1) * 120 + f)); 10000 * (r.1 + 5000) + r.2 + 5000))))) (M) := by
  have lp : ∀ (k : Nat) (a u x y : Int) (L : qa_L) (r : Int × Int), a + k = 8 → 0 ≤ a → -1 ≤ u → u < 8 → -(300 * (a + 1)) ≤ x → x ≤ 300 * (a + 1) → -(300 * (a + 1)) ≤ y → y ≤ 300 * (a + 1) → r = qg_c (M 9) (fun u => M 12 ((3 * u + 2) * 120 + f)) (fun u => M 10 u + M 12 ((3 * u + 0) * 120 + f)) (fun u => M 11 u + M 12 ((3 * u + 1) * 120 + f)) k u x y → qa_E 51 26 ([(0, qr 1), (1, qi b), (2, qi f), (3, qi x), (4, qi y), (5, qi u), (6, qi a)]) [] M (.inl (some (qi (10000 * (r.1 + 5000) + r.2 + 5000)))) M := by
    intro k
    induction k with
    | zero =>
      intro a u x y L r g1 g2 g3 g4 g5 g6 g7 g8 hr
      unfold qg_c at hr
      subst hr
      refine R_iload cd_51_26 rfl ?_
      refine R_push cd_51_28 ?_
      refine R_icmp_ge 115 cd_51_30 rfl (fun b30 => ?_) (fun b30 => ?_)
      · refine R_push cd_51_115 ?_
        refine R_iload cd_51_118 rfl ?_
        refine R_push cd_51_119 ?_
        refine R_iadd cd_51_122 (by unfold qa_InR; first | omega | (simp [qa_upd, qa_blk] <;> omega)) ?_
        refine R_imul cd_51_123 (by unfold qa_InR; first | omega | (simp [qa_upd, qa_blk] <;> omega)) ?_
        refine R_iload cd_51_124 rfl ?_
        refine R_iadd cd_51_126 (by unfold qa_InR; first | omega | (simp [qa_upd, qa_blk] <;> omega)) ?_
        refine R_push cd_51_127 ?_
        refine R_iadd cd_51_130 (by unfold qa_InR; first | omega | (simp [qa_upd, qa_blk] <;> omega)) ?_
        exact R_iret cd_51_131 (by first | rfl | omega) rfl
      · omega
    | succ k ih =>
      intro a u x y L r g1 g2 g3 g4 g5 g6 g7 g8 hr
      unfold qg_c at hr
      refine R_iload cd_51_26 rfl ?_
      refine R_push cd_51_28 ?_
      refine R_icmp_ge 115 cd_51_30 rfl (fun b30 => ?_) (fun b30 => ?_)
      · first
          | omega
          | rw [if_pos b35] at hr
            subst hr
            refine R_push cd_51_115 ?_
            refine R_iload cd_51_118 rfl ?_
            refine R_push cd_51_119 ?_
            refine R_iadd cd_51_122 (by unfold qa_InR; first | omega | (simp [qa_upd, qa_blk] <;> omega)) ?_
            refine R_imul cd_51_123 (by unfold qa_InR; first | omega | (simp [qa_upd, qa_blk] <;> omega)) ?_
            refine R_iload cd_51_124 rfl ?_
            refine R_iadd cd_51_126 (by unfold qa_InR; first | omega | (simp [qa_upd, qa_blk] <;> omega)) ?_
            refine R_push cd_51_127 ?_
            refine R_iadd cd_51_130 (by unfold qa_InR; first | omega | (simp [qa_upd, qa_blk] <;> omega)) ?_
            exact R_iret cd_51_131 (by first | rfl | omega) rfl
      · refine R_iload cd_51_33 rfl ?_
        refine R_if_lt 115 cd_51_35 rfl (fun b35 => ?_) (fun b35 => ?_)
        · first
            | omega
            | rw [if_pos b35] at hr
              subst hr
              refine R_push cd_51_115 ?_
              refine R_iload cd_51_118 rfl ?_
              refine R_push cd_51_119 ?_
              refine R_iadd cd_51_122 (by unfold qa_InR; first | omega | (simp [qa_upd, qa_blk] <;> omega)) ?_
              refine R_imul cd_51_123 (by unfold qa_InR; first | omega | (simp [qa_upd, qa_blk] <;> omega)) ?_
              refine R_iload cd_51_124 rfl ?_
              refine R_iadd cd_51_126 (by unfold qa_InR; first | omega | (simp [qa_upd, qa_blk] <;> omega)) ?_
              refine R_push cd_51_127 ?_
              refine R_iadd cd_51_130 (by unfold qa_InR; first | omega | (simp [qa_upd, qa_blk] <;> omega)) ?_
              exact R_iret cd_51_131 (by first | rfl | omega) rfl
        · rw [if_neg (by omega)] at hr
          obtain ⟨p1, p2⟩ := h5 u (by omega) g4
          obtain ⟨o1, o2⟩ := h6 u (by omega) g4
          obtain ⟨q1, q2, q3⟩ := h7 u (by omega) g4
          obtain ⟨tn, htn⟩ : ∃ z, z = M 12 ((3 * u + 2) * 120 + f) := ⟨_, rfl⟩
          rw [← htn] at hr q3
          have e9 := K_Rig_poseAt (t := 3 * u + 2) (f := f) (M := M) (by omega) (by omega) h3 h4
          rw [← htn] at e9
          have inner : ∀ (n : Nat) (c x1 y1 : Int) (w : qa_V), c + n = tn → 0 ≤ c → -(300 * (a + 1)) ≤ x1 → x1 ≤ 300 * (a + 1) → -(300 * (a + 1)) ≤ y1 → y1 ≤ 300 * (a + 1) → r = qg_c (M 9) (fun u => M 12 ((3 * u + 2) * 120 + f)) (fun u => M 10 u + M 12 ((3 * u + 0) * 120 + f)) (fun u => M 11 u + M 12 ((3 * u + 1) * 120 + f)) k (M 9 u) ((qg_rot n (x1, y1)).1 + (M 10 u + M 12 ((3 * u + 0) * 120 + f))) ((qg_rot n (x1, y1)).2 + (M 11 u + M 12 ((3 * u + 1) * 120 + f))) → qa_E 51 54 ([(0, qr 1), (1, qi b), (2, qi f), (3, qi x1), (4, qi y1), (5, qi u), (6, qi a), (7, qi tn), (8, qi c)]) [] M (.inl (some (qi (10000 * (r.1 + 5000) + r.2 + 5000)))) M := by
            intro n
            induction n with
            | zero =>
              intro c x1 y1 w k1 k2 k3 k4 k5 k6 k7
              unfold qg_rot at k7
              have e := ih (a + 1) (M 9 u) (x1 + (M 10 u + M 12 ((3 * u + 0) * 120 + f))) (y1 + (M 11 u + M 12 ((3 * u + 1) * 120 + f))) [] r (by omega) (by omega) p1 p2 (by omega) (by omega) (by omega) (by omega) k7
              refine R_iload cd_51_54 rfl ?_
              refine R_iload cd_51_56 rfl ?_
              refine R_icmp_ge 78 cd_51_58 rfl (fun b58 => ?_) (fun b58 => ?_)
              · refine R_iload cd_51_78 rfl ?_
                refine R_aload cd_51_79 rfl ?_
                refine R_iload cd_51_80 rfl ?_
                refine R_iload cd_51_82 rfl ?_
                refine R_call3 cd_51_83 rfl rfl (K_Rig_localX (by omega) (by omega) h3 h4 o1 q1) ?_
                refine R_iadd cd_51_86 (by unfold qa_InR; first | omega | (simp [qa_upd, qa_blk] <;> omega)) ?_
                refine R_istore cd_51_87 ?_
                refine R_iload cd_51_88 rfl ?_
                refine R_aload cd_51_90 rfl ?_
                refine R_iload cd_51_91 rfl ?_
                refine R_iload cd_51_93 rfl ?_
                refine R_call3 cd_51_94 rfl rfl (K_Rig_localY (by omega) (by omega) h3 h4 o2 q2) ?_
                refine R_iadd cd_51_97 (by unfold qa_InR; first | omega | (simp [qa_upd, qa_blk] <;> omega)) ?_
                refine R_istore cd_51_98 ?_
                refine R_aload cd_51_100 rfl ?_
                refine R_getr cd_51_101 rfl ?_
                refine R_iload cd_51_104 rfl ?_
                refine R_iald cd_51_106 rfl (by omega) (by omega) ?_
                refine R_istore cd_51_107 ?_
                refine R_iinc cd_51_109 rfl (by unfold qa_InR; first | omega | (simp [qa_upd, qa_blk] <;> omega)) ?_
                refine R_goto cd_51_112 ?_
                exact R_norm (qs_c rfl (qs_c rfl (qs_c rfl (qs_c rfl (qs_c rfl (qs_c rfl (qs_c rfl qs_n))))))) e
              · omega
            | succ n ih2 =>
              intro c x1 y1 w k1 k2 k3 k4 k5 k6 k7
              unfold qg_rot at k7
              have e := ih2 (c + 1) (-y1) x1 w (by omega) (by omega) (by omega) (by omega) k3 k4 k7
              refine R_iload cd_51_54 rfl ?_
              refine R_iload cd_51_56 rfl ?_
              refine R_icmp_ge 78 cd_51_58 rfl (fun b58 => ?_) (fun b58 => ?_)
              · omega
              · refine R_iload cd_51_61 rfl ?_
                refine R_ineg cd_51_63 (by unfold qa_InR; first | omega | (simp [qa_upd, qa_blk] <;> omega)) ?_
                refine R_istore cd_51_64 ?_
                refine R_iload cd_51_66 rfl ?_
                refine R_istore cd_51_67 ?_
                refine R_iload cd_51_69 rfl ?_
                refine R_istore cd_51_71 ?_
                refine R_iinc cd_51_72 rfl (by unfold qa_InR; first | omega | (simp [qa_upd, qa_blk] <;> omega)) ?_
                refine R_goto cd_51_75 ?_
                exact R_norm (qs_c rfl (qs_c rfl (qs_c rfl (qs_c rfl (qs_c rfl (qs_c rfl (qs_c rfl (qs_c rfl (qs_c rfl qs_n))))))))) e
          have e := inner tn.toNat 0 x y (qi 0) (by omega) (by omega) g5 g6 g7 g8 hr
          refine R_aload cd_51_38 rfl ?_
          refine R_iload cd_51_39 rfl ?_
          refine R_push cd_51_41 ?_
          refine R_call2 cd_51_42 rfl rfl (K_Court_trackOf (by omega) (by omega) (by omega) (by omega)) ?_
          refine R_iload cd_51_45 rfl ?_
          refine R_call3 cd_51_46 rfl rfl e9 ?_
          refine R_istore cd_51_49 ?_
          refine R_push cd_51_51 ?_
          refine R_istore cd_51_52 ?_
          exact R_norm (qs_c rfl (qs_c rfl (qs_c rfl (qs_c rfl (qs_c rfl (qs_c rfl (qs_c rfl (qs_c rfl (qs_c rfl qs_n))))))))) e
  have hb := h5 b h1 h2
  have ho := h6 b h1 h2
  have hp := h7 b h1 h2
  dsimp only
  have e := lp 8 0 (M 9 b) (M 10 b + M 12 ((3 * b + 0) * 120 + f)) (M 11 b + M 12 ((3 * b + 1) * 120 + f)) [] _ (by omega) (by omega) (by omega) (by omega) (by omega) (by omega) (by omega) (by omega) rfl
  refine R_aload cd_51_0 rfl ?_
  refine R_iload cd_51_1 rfl ?_
  refine R_iload cd_51_2 rfl ?_
  refine R_call3 cd_51_3 rfl rfl (K_Rig_localX h1 h2 h3 h4 ho.1 hp.1) ?_
  refine R_istore cd_51_6 ?_
  refine R_aload cd_51_7 rfl ?_
  refine R_iload cd_51_8 rfl ?_
  refine R_iload cd_51_9 rfl ?_
  refine R_call3 cd_51_10 rfl rfl (K_Rig_localY h1 h2 h3 h4 ho.2 hp.2.1) ?_
  refine R_istore cd_51_13 ?_
  refine R_aload cd_51_15 rfl ?_
  refine R_getr cd_51_16 rfl ?_
  refine R_iload cd_51_19 rfl ?_
  refine R_iald cd_51_20 rfl (by omega) (by omega) ?_
  refine R_istore cd_51_21 ?_
  refine R_push cd_51_23 ?_
  refine R_istore cd_51_24 ?_
  exact R_norm (qs_c rfl (qs_c rfl (qs_c rfl (qs_c rfl (qs_c rfl (qs_c rfl (qs_c rfl qs_n))))))) e
end
section
/-! the rendered frames -/
theorem K_Stills_render {f : Int} {M : qa_Mem} (h1 : 0 ≤ M 1 3) (h2 : M 1 3 ≤ 8) (h3 : 0 ≤ f) (h4 : f < 120) : qa_E 59 0 [(0, qr 3), (1, qi (f)), (2, qr (1))] [] (M) (.inl none) (qs_rend M f) := by
  have lp : ∀ (k : Nat) (j : Int), j + k = 3 * M 1 3 → 0 ≤ j → qa_E 59 2 [(0, qr 3), (1, qi f), (2, qr 1), (3, qi j)] [] (qa_blk M 18 (fun q => if q % 120 = f ∧ 0 ≤ q ∧ q < 120 * j then M 12 q else M 18 q)) (.inl none) (qs_rend M f) := by
    intro k
    induction k with
    | zero =>
      intro j g1 g2
      have e : (fun q : Int => if q % 120 = f ∧ 0 ≤ q ∧ q < 120 * j then M 12 q else M 18 q) = (fun q => if q % 120 = f ∧ 0 ≤ q ∧ q < 360 * M 1 3 then M 12 q else M 18 q) := by
        funext q
        (repeat' split) <;> first | rfl | omega | (congr 1 <;> omega)
      rw [e]
      refine R_iload cd_59_2 rfl ?_
      refine R_aload cd_59_3 rfl ?_
      refine R_call1 cd_59_4 rfl rfl (K_Rig_trackCount h1 h2) ?_
      refine R_icmp_ge 33 cd_59_7 rfl (fun b7 => ?_) (fun b7 => ?_)
      · refine R_aload cd_59_33 rfl ?_
        refine R_getr cd_59_34 rfl ?_
        refine R_iload cd_59_37 rfl ?_
        refine R_aload cd_59_38 rfl ?_
        refine R_call1 cd_59_39 rfl rfl K_Rig_boneCount ?_
        refine R_iast cd_59_42 rfl (by omega) (by omega)  ?_
        refine R_aload cd_59_43 rfl ?_
        refine R_getr cd_59_44 rfl ?_
        refine R_iload cd_59_47 rfl ?_
        refine R_push cd_59_48 ?_
        refine R_iast cd_59_49 rfl (by omega) (by omega)  ?_
        exact R_vret cd_59_50 rfl
      · exact absurd b7 (show ¬ j < 3 * M 1 3 by omega)
    | succ k ih =>
      intro j g1 g2
      have e := ih (j + 1) (by omega) (by omega)
      have em : qa_upd (qa_blk M 18 (fun q => if q % 120 = f ∧ 0 ≤ q ∧ q < 120 * j then M 12 q else M 18 q)) 18 (j * 120 + f) (M 12 (j * 120 + f)) = qa_blk M 18 (fun q => if q % 120 = f ∧ 0 ≤ q ∧ q < 120 * (j + 1) then M 12 q else M 18 q) := by
        funext c9 q
        by_cases g18 : c9 = 18
        · subst g18
          simp only [qa_upd, qa_blk, if_true, true_and]
          by_cases hq : q = j * 120 + f
          · subst hq; rw [if_pos rfl, if_pos (by omega)]
          · rw [if_neg hq]
            (repeat' split) <;> first | rfl | omega | (congr 1 <;> omega)
        · simp [qa_upd, qa_blk, g18]
      rw [← em] at e
      refine R_iload cd_59_2 rfl ?_
      refine R_aload cd_59_3 rfl ?_
      refine R_call1 cd_59_4 rfl rfl (K_Rig_trackCount h1 h2) ?_
      refine R_icmp_ge 33 cd_59_7 rfl (fun b7 => ?_) (fun b7 => ?_)
      · exact absurd b7 (show ¬ 3 * M 1 3 ≤ j by omega)
      · refine R_aload cd_59_10 rfl ?_
        refine R_getr cd_59_11 rfl ?_
        refine R_iload cd_59_14 rfl ?_
        refine R_push cd_59_15 ?_
        refine R_imul cd_59_17 (by unfold qa_InR; first | omega | (simp [qa_upd, qa_blk] <;> omega)) ?_
        refine R_iload cd_59_18 rfl ?_
        refine R_iadd cd_59_19 (by unfold qa_InR; first | omega | (simp [qa_upd, qa_blk] <;> omega)) ?_
        refine R_aload cd_59_20 rfl ?_
        refine R_iload cd_59_21 rfl ?_
        refine R_iload cd_59_22 rfl ?_
        refine R_call3 cd_59_23 rfl rfl (K_Rig_poseAt (by omega) (by omega) (by omega) (by omega)) ?_
        refine R_iast cd_59_26 rfl (by omega) (by omega)  ?_
        refine R_iinc cd_59_27 rfl (by unfold qa_InR; first | omega | (simp [qa_upd, qa_blk] <;> omega)) ?_
        refine R_goto cd_59_30 ?_
        exact R_norm (qs_c rfl (qs_c rfl (qs_c rfl (qs_c rfl qs_n)))) e
  have e := lp (3 * M 1 3).toNat 0 (by omega) (by omega)
  have em : qa_blk M 18 (fun q => if q % 120 = f ∧ 0 ≤ q ∧ q < 120 * 0 then M 12 q else M 18 q) = M := by
    funext c9 j9
    by_cases g18 : c9 = 18
    · subst g18; simp [qa_upd, qa_blk] <;> ((repeat' split) <;> first | rfl | omega | (congr 1 <;> omega) | (simp_all; done) | (simp_all; omega))
    · skip
      simp [qa_upd, qa_blk, g18]
  rw [em] at e
  refine R_push cd_59_0 ?_
  refine R_istore cd_59_1 ?_
  exact R_norm (qs_c rfl (qs_c rfl (qs_c rfl (qs_c rfl qs_n)))) e
theorem K_Stills_isAsMade {f : Int} {M : qa_Mem} (h1 : 0 ≤ M 1 3) (h2 : M 1 3 ≤ 8) (h3 : 0 ≤ f) (h4 : f < 120) : qa_E 63 0 [(0, qr 3), (1, qi (f)), (2, qr (1))] [] (M) (.inl (some (qi (qb (qs_am M f))))) (M) := by
  have lp : ∀ (k : Nat) (j : Int), j + k = 3 * M 1 3 → 0 ≤ j → M 19 f = M 1 3 → (∀ t : Int, 0 ≤ t → t < j → M 18 (t * 120 + f) = M 12 (t * 120 + f)) → qa_E 63 17 [(0, qr 3), (1, qi f), (2, qr 1), (3, qi j)] [] M (.inl (some (qi (qb (qs_am M f))))) M := by
    intro k
    induction k with
    | zero =>
      intro j g1 g2 g3 g4
      refine R_iload cd_63_17 rfl ?_
      refine R_aload cd_63_18 rfl ?_
      refine R_call1 cd_63_19 rfl rfl (K_Rig_trackCount (by omega) (by omega)) ?_
      refine R_icmp_ge 53 cd_63_22 rfl (fun b22 => ?_) (fun b22 => ?_)
      · refine R_push cd_63_53 ?_
        exact R_zret_t cd_63_54 ⟨g3, fun t q1 q2 => g4 t q1 (by omega)⟩ rfl
      · omega
    | succ k ih =>
      intro j g1 g2 g3 g4
      refine R_iload cd_63_17 rfl ?_
      refine R_aload cd_63_18 rfl ?_
      refine R_call1 cd_63_19 rfl rfl (K_Rig_trackCount (by omega) (by omega)) ?_
      refine R_icmp_ge 53 cd_63_22 rfl (fun b22 => ?_) (fun b22 => ?_)
      · omega
      · refine R_aload cd_63_25 rfl ?_
        refine R_getr cd_63_26 rfl ?_
        refine R_iload cd_63_29 rfl ?_
        refine R_push cd_63_30 ?_
        refine R_imul cd_63_32 (by unfold qa_InR; first | omega | (simp [qa_upd, qa_blk] <;> omega)) ?_
        refine R_iload cd_63_33 rfl ?_
        refine R_iadd cd_63_34 (by unfold qa_InR; first | omega | (simp [qa_upd, qa_blk] <;> omega)) ?_
        refine R_iald cd_63_35 rfl (by omega) (by omega) ?_
        refine R_aload cd_63_36 rfl ?_
        refine R_iload cd_63_37 rfl ?_
        refine R_iload cd_63_38 rfl ?_
        refine R_call3 cd_63_39 rfl rfl (K_Rig_poseAt (by omega) (by omega) (by omega) (by omega)) ?_
        refine R_icmp_eq 47 cd_63_42 rfl (fun b42 => ?_) (fun b42 => ?_)
        · refine R_iinc cd_63_47 rfl (by unfold qa_InR; first | omega | (simp [qa_upd, qa_blk] <;> omega)) ?_
          refine R_goto cd_63_50 ?_
          have e := ih (j + 1) (by omega) (by omega) g3 (fun t q1 q2 => by
            by_cases hq : t = j
            · subst hq; exact b42
            · exact g4 t q1 (by omega))
          exact R_norm (qs_c rfl (qs_c rfl (qs_c rfl (qs_c rfl qs_n)))) e
        · refine R_push cd_63_45 ?_
          exact R_zret_f cd_63_46 (fun q => b42 (q.2 j g2 (by omega))) rfl
  refine R_aload cd_63_0 rfl ?_
  refine R_getr cd_63_1 rfl ?_
  refine R_iload cd_63_4 rfl ?_
  refine R_iald cd_63_5 rfl (by omega) (by omega) ?_
  refine R_aload cd_63_6 rfl ?_
  refine R_call1 cd_63_7 rfl rfl K_Rig_boneCount ?_
  refine R_icmp_eq 15 cd_63_10 rfl (fun b10 => ?_) (fun b10 => ?_)
  · refine R_push cd_63_15 ?_
    refine R_istore cd_63_16 ?_
    exact R_norm (qs_c rfl (qs_c rfl (qs_c rfl (qs_c rfl qs_n)))) (lp (3 * M 1 3).toNat 0 (by omega) (by omega) b10 (fun t q1 q2 => by omega))
  · refine R_push cd_63_13 ?_
    exact R_zret_f cd_63_14 (fun q => b10 q.1) rfl
theorem K_Stills_compareAll {M : qa_Mem} (h1 : 0 ≤ M 1 3) (h2 : M 1 3 ≤ 8) : qa_E 60 0 [(0, qr 3), (1, qr (1))] [] (M) (.inl none) (qs_cmp M 120) := by
  have lp : ∀ (k : Nat) (j : Int), j + k = 120 → 0 ≤ j → qa_E 60 2 [(0, qr 3), (1, qr 1), (2, qi j)] [] (qs_cmp M j) (.inl none) (qs_cmp M 120) := by
    intro k
    induction k with
    | zero =>
      intro j g1 g2
      obtain rfl : j = 120 := by omega
      refine R_iload cd_60_2 rfl ?_
      refine R_push cd_60_3 ?_
      refine R_icmp_ge 43 cd_60_5 rfl (fun b5 => ?_) (fun b5 => ?_)
      · exact R_vret cd_60_43 rfl
      · omega
    | succ k ih =>
      intro j g1 g2
      have e := ih (j + 1) (by omega) (by omega)
      have es : (qs_cmp M j) 20 j = M 20 j := by
        unfold qs_cmp; rw [qa_blk_e, if_neg (by omega)]
      have ea : qs_am (qs_cmp M j) j ↔ qs_am M j := Iff.rfl
      have key : M 20 j ≠ 0 → ∀ x, x = 2 - qb (qs_am M j) → qa_upd (qs_cmp M j) 20 j x = qs_cmp M (j + 1) := by
        intro q0 x hx
        subst hx
        funext c9 q
        by_cases g20 : c9 = 20
        · subst g20
          simp only [qa_upd, qs_cmp, qa_blk, if_true, true_and]
          by_cases hq : q = j
          · subst hq; rw [if_pos rfl, if_pos (by omega)]
          · rw [if_neg hq]
            (repeat' split) <;> first | rfl | omega | (congr 1 <;> omega)
        · simp [qa_upd, qs_cmp, qa_blk, g20]
      have key0 : M 20 j = 0 → qs_cmp M j = qs_cmp M (j + 1) := by
        intro q0
        funext c9 q
        by_cases g20 : c9 = 20
        · subst g20
          simp only [qs_cmp, qa_blk, if_true]
          by_cases hq : q = j
          · subst hq; rw [if_neg (by omega), if_neg (by omega)]
          · (repeat' split) <;> first | rfl | omega | (congr 1 <;> omega)
        · simp [qs_cmp, qa_blk, g20]
      refine R_iload cd_60_2 rfl ?_
      refine R_push cd_60_3 ?_
      refine R_icmp_ge 43 cd_60_5 rfl (fun b5 => ?_) (fun b5 => ?_)
      · omega
      · refine R_aload cd_60_8 rfl ?_
        refine R_getr cd_60_9 rfl ?_
        refine R_iload cd_60_12 rfl ?_
        refine R_iald cd_60_13 rfl (by omega) (by omega) ?_
        refine R_if_eq 37 cd_60_14 rfl (fun b14 => ?_) (fun b14 => ?_)
        · refine R_iinc cd_60_37 rfl (by unfold qa_InR; first | omega | (simp [qa_upd, qa_blk] <;> omega)) ?_
          refine R_goto cd_60_40 ?_
          first
            | rw [key (by rw [← es]; exact b14) _ (by rw [qb_t (ea.mp b28)]; decide)]
              exact R_norm (qs_c rfl (qs_c rfl (qs_c rfl qs_n))) e
            | rw [key (by rw [← es]; exact b14) _ (by rw [qb_f (fun z => b28 (ea.mpr z))]; decide)]
              exact R_norm (qs_c rfl (qs_c rfl (qs_c rfl qs_n))) e
            | rw [key0 (by rw [← es]; exact b14)]
              exact R_norm (qs_c rfl (qs_c rfl (qs_c rfl qs_n))) e
        · refine R_aload cd_60_17 rfl ?_
          refine R_getr cd_60_18 rfl ?_
          refine R_iload cd_60_21 rfl ?_
          refine R_aload cd_60_22 rfl ?_
          refine R_iload cd_60_23 rfl ?_
          refine R_aload cd_60_24 rfl ?_
          refine R_call3 cd_60_25 rfl rfl (K_Stills_isAsMade (M := qs_cmp M j) h1 h2 g2 (by omega)) ?_
          refine R_ifeq_b 35 cd_60_28 rfl (fun b28 => ?_) (fun b28 => ?_)
          · refine R_push cd_60_35 ?_
            refine R_iast cd_60_36 rfl (by omega) (by omega)  ?_
            refine R_iinc cd_60_37 rfl (by unfold qa_InR; first | omega | (simp [qa_upd, qa_blk] <;> omega)) ?_
            refine R_goto cd_60_40 ?_
            first
              | rw [key (by rw [← es]; exact b14) _ (by rw [qb_t (ea.mp b28)]; decide)]
                exact R_norm (qs_c rfl (qs_c rfl (qs_c rfl qs_n))) e
              | rw [key (by rw [← es]; exact b14) _ (by rw [qb_f (fun z => b28 (ea.mpr z))]; decide)]
                exact R_norm (qs_c rfl (qs_c rfl (qs_c rfl qs_n))) e
              | rw [key0 (by rw [← es]; exact b14)]
                exact R_norm (qs_c rfl (qs_c rfl (qs_c rfl qs_n))) e
          · refine R_push cd_60_31 ?_
            refine R_goto cd_60_32 ?_
            refine R_iast cd_60_36 rfl (by omega) (by omega)  ?_
            refine R_iinc cd_60_37 rfl (by unfold qa_InR; first | omega | (simp [qa_upd, qa_blk] <;> omega)) ?_
            refine R_goto cd_60_40 ?_
            first
              | rw [key (by rw [← es]; exact b14) _ (by rw [qb_t (ea.mp b28)]; decide)]
                exact R_norm (qs_c rfl (qs_c rfl (qs_c rfl qs_n))) e
              | rw [key (by rw [← es]; exact b14) _ (by rw [qb_f (fun z => b28 (ea.mpr z))]; decide)]
                exact R_norm (qs_c rfl (qs_c rfl (qs_c rfl qs_n))) e
              | rw [key0 (by rw [← es]; exact b14)]
                exact R_norm (qs_c rfl (qs_c rfl (qs_c rfl qs_n))) e
  have e := lp 120 0 (by omega) (by omega)
  have em : qs_cmp M 0 = M := by
    funext c9 q
    by_cases g20 : c9 = 20
    · subst g20; simp only [qs_cmp, qa_blk, if_true]; rw [if_neg (by omega)]
    · simp [qs_cmp, qa_blk, g20]
  rw [em] at e
  refine R_push cd_60_0 ?_
  refine R_istore cd_60_1 ?_
  exact R_norm (qs_c rfl (qs_c rfl (qs_c rfl qs_n))) e
theorem K_Stills_voidCount {M : qa_Mem} : qa_E 61 0 [(0, qr 3)] [] (M) (.inl (some (qi (qf_cnt (fun f => M 20 f = 2) 120)))) (M) := by
  have lp : ∀ (k : Nat) (j : Nat), j + k = 120 → qa_E 61 4 [(0, qr 3), (1, qi (qf_cnt (fun f => M 20 f = 2) j)), (2, qi j)] [] M (.inl (some (qi (qf_cnt (fun f => M 20 f = 2) 120)))) M := by
    intro k
    induction k with
    | zero =>
      intro j g1
      obtain rfl : j = 120 := by omega
      refine R_iload cd_61_4 rfl ?_
      refine R_push cd_61_5 ?_
      refine R_icmp_ge 29 cd_61_7 rfl (fun b7 => ?_) (fun b7 => ?_)
      · refine R_iload cd_61_29 rfl ?_
        exact R_iret cd_61_30 (by first | rfl | omega) rfl
      · omega
    | succ k ih =>
      intro j g1
      have e := ih (j + 1) (by omega)
      rw [Int.natCast_add] at e
      have r1 := qf_cnt_r (fun f => M 20 f = 2) j
      unfold qf_cnt at e
      refine R_iload cd_61_4 rfl ?_
      refine R_push cd_61_5 ?_
      refine R_icmp_ge 29 cd_61_7 rfl (fun b7 => ?_) (fun b7 => ?_)
      · omega
      · refine R_aload cd_61_10 rfl ?_
        refine R_getr cd_61_11 rfl ?_
        refine R_iload cd_61_14 rfl ?_
        refine R_iald cd_61_15 rfl (by omega) (by omega) ?_
        refine R_push cd_61_16 ?_
        refine R_icmp_ne 23 cd_61_17 rfl (fun b17 => ?_) (fun b17 => ?_)
        · refine R_iinc cd_61_23 rfl (by unfold qa_InR; first | omega | (simp [qa_upd, qa_blk] <;> omega)) ?_
          refine R_goto cd_61_26 ?_
          first
            | rw [qb_t (by assumption)] at e
              exact R_norm (qs_c rfl (qs_c rfl (qs_c rfl qs_n))) e
            | rw [qb_f (by assumption), Int.add_zero] at e
              exact R_norm (qs_c rfl (qs_c rfl (qs_c rfl qs_n))) e
        · refine R_iinc cd_61_20 rfl (by unfold qa_InR; first | omega | (simp [qa_upd, qa_blk] <;> omega)) ?_
          refine R_iinc cd_61_23 rfl (by unfold qa_InR; first | omega | (simp [qa_upd, qa_blk] <;> omega)) ?_
          refine R_goto cd_61_26 ?_
          first
            | rw [qb_t (by assumption)] at e
              exact R_norm (qs_c rfl (qs_c rfl (qs_c rfl qs_n))) e
            | rw [qb_f (by assumption), Int.add_zero] at e
              exact R_norm (qs_c rfl (qs_c rfl (qs_c rfl qs_n))) e
  refine R_push cd_61_0 ?_
  refine R_istore cd_61_1 ?_
  refine R_push cd_61_2 ?_
  refine R_istore cd_61_3 ?_
  exact R_norm (qs_c rfl (qs_c rfl (qs_c rfl qs_n))) (lp 120 0 (by omega))
theorem K_Stills_voidCountByAll {M : qa_Mem} (h1 : 0 ≤ M 1 3) (h2 : M 1 3 ≤ 8) : qa_E 62 0 [(0, qr 3), (1, qr (1))] [] (M) (.inl (some (qi (qf_cnt (fun f => M 20 f ≠ 0 ∧ ¬ qs_am M f) 120)))) (M) := by
  have lp : ∀ (k : Nat) (j : Nat), j + k = 120 → qa_E 62 4 [(0, qr 3), (1, qr 1), (2, qi (qf_cnt (fun f => M 20 f ≠ 0 ∧ ¬ qs_am M f) j)), (3, qi j)] [] M (.inl (some (qi (qf_cnt (fun f => M 20 f ≠ 0 ∧ ¬ qs_am M f) 120)))) M := by
    intro k
    induction k with
    | zero =>
      intro j g1
      obtain rfl : j = 120 := by omega
      refine R_iload cd_62_4 rfl ?_
      refine R_push cd_62_5 ?_
      refine R_icmp_ge 37 cd_62_7 rfl (fun b7 => ?_) (fun b7 => ?_)
      · refine R_iload cd_62_37 rfl ?_
        exact R_iret cd_62_38 (by first | rfl | omega) rfl
      · omega
    | succ k ih =>
      intro j g1
      have e := ih (j + 1) (by omega)
      rw [Int.natCast_add] at e
      have r1 := qf_cnt_r (fun f => M 20 f ≠ 0 ∧ ¬ qs_am M f) j
      unfold qf_cnt at e
      refine R_iload cd_62_4 rfl ?_
      refine R_push cd_62_5 ?_
      refine R_icmp_ge 37 cd_62_7 rfl (fun b7 => ?_) (fun b7 => ?_)
      · omega
      · refine R_aload cd_62_10 rfl ?_
        refine R_getr cd_62_11 rfl ?_
        refine R_iload cd_62_14 rfl ?_
        refine R_iald cd_62_15 rfl (by omega) (by omega) ?_
        refine R_if_eq 31 cd_62_16 rfl (fun b16 => ?_) (fun b16 => ?_)
        · refine R_iinc cd_62_31 rfl (by unfold qa_InR; first | omega | (simp [qa_upd, qa_blk] <;> omega)) ?_
          refine R_goto cd_62_34 ?_
          first
            | rw [qb_t ⟨b16, b25⟩] at e
              exact R_norm (qs_c rfl (qs_c rfl (qs_c rfl (qs_c rfl qs_n)))) e
            | rw [qb_f (fun q => absurd b25 q.2), Int.add_zero] at e
              exact R_norm (qs_c rfl (qs_c rfl (qs_c rfl (qs_c rfl qs_n)))) e
            | rw [qb_f (fun q => absurd b16 q.1), Int.add_zero] at e
              exact R_norm (qs_c rfl (qs_c rfl (qs_c rfl (qs_c rfl qs_n)))) e
        · refine R_aload cd_62_19 rfl ?_
          refine R_iload cd_62_20 rfl ?_
          refine R_aload cd_62_21 rfl ?_
          refine R_call3 cd_62_22 rfl rfl (K_Stills_isAsMade (by omega) (by omega) (by omega) (by omega)) ?_
          refine R_ifne_b 31 cd_62_25 rfl (fun b25 => ?_) (fun b25 => ?_)
          · refine R_iinc cd_62_31 rfl (by unfold qa_InR; first | omega | (simp [qa_upd, qa_blk] <;> omega)) ?_
            refine R_goto cd_62_34 ?_
            first
              | rw [qb_t ⟨b16, b25⟩] at e
                exact R_norm (qs_c rfl (qs_c rfl (qs_c rfl (qs_c rfl qs_n)))) e
              | rw [qb_f (fun q => absurd b25 q.2), Int.add_zero] at e
                exact R_norm (qs_c rfl (qs_c rfl (qs_c rfl (qs_c rfl qs_n)))) e
              | rw [qb_f (fun q => absurd b16 q.1), Int.add_zero] at e
                exact R_norm (qs_c rfl (qs_c rfl (qs_c rfl (qs_c rfl qs_n)))) e
          · refine R_iinc cd_62_28 rfl (by unfold qa_InR; first | omega | (simp [qa_upd, qa_blk] <;> omega)) ?_
            refine R_iinc cd_62_31 rfl (by unfold qa_InR; first | omega | (simp [qa_upd, qa_blk] <;> omega)) ?_
            refine R_goto cd_62_34 ?_
            first
              | rw [qb_t ⟨b16, b25⟩] at e
                exact R_norm (qs_c rfl (qs_c rfl (qs_c rfl (qs_c rfl qs_n)))) e
              | rw [qb_f (fun q => absurd b25 q.2), Int.add_zero] at e
                exact R_norm (qs_c rfl (qs_c rfl (qs_c rfl (qs_c rfl qs_n)))) e
              | rw [qb_f (fun q => absurd b16 q.1), Int.add_zero] at e
                exact R_norm (qs_c rfl (qs_c rfl (qs_c rfl (qs_c rfl qs_n)))) e
  refine R_push cd_62_0 ?_
  refine R_istore cd_62_1 ?_
  refine R_push cd_62_2 ?_
  refine R_istore cd_62_3 ?_
  exact R_norm (qs_c rfl (qs_c rfl (qs_c rfl (qs_c rfl qs_n)))) (lp 120 0 (by omega))
end
section
/-! the film -/
theorem K_Film_count {lo hi c : Int} {M : qa_Mem} (h1 : 0 ≤ lo) (h2 : lo ≤ hi) (h3 : hi < 120) (h4 : c = 1 ∨ c = -1) (h5 : ∀ j, 0 ≤ j → j < 120 → -1000 ≤ M 23 j ∧ M 23 j ≤ 1000) (h6 : -10000 ≤ M 4 4 ∧ M 4 4 ≤ 10000) : qa_E 24 0 [(0, qr 4), (1, qi (lo)), (2, qi (hi)), (3, qi (c))] [] (M) (.inl none) (qm_cnt M lo hi c) := by
  have lp : ∀ (k : Nat) (j : Int), j + k = hi + 1 → lo ≤ j → qa_E 24 3 [(0, qr 4), (1, qi lo), (2, qi hi), (3, qi c), (4, qi j)] [] (qm_cnt M lo (j - 1) c) (.inl none) (qm_cnt M lo hi c) := by
    intro k
    induction k with
    | zero =>
      intro j g1 g2
      obtain rfl : j = hi + 1 := by omega
      rw [show hi + 1 - 1 = hi by omega]
      refine R_iload cd_24_3 rfl ?_
      refine R_iload cd_24_5 rfl ?_
      refine R_icmp_gt 36 cd_24_6 rfl (fun b6 => ?_) (fun b6 => ?_)
      · exact R_vret cd_24_36 rfl
      · omega
    | succ k ih =>
      intro j g1 g2
      have e := ih (j + 1) (by omega) (by omega)
      have t5 := h5 j (by omega) (by omega)
      have et : (qm_cnt M lo (j - 1) c) 23 j = M 23 j := by
        unfold qm_cnt; rw [qa_upd_n (by decide), qa_blk_e]; unfold qf_add; rw [if_neg (by omega)]
      have ef : (qm_cnt M lo (j - 1) c) 4 4 = M 4 4 + c * (j - lo) := by
        unfold qm_cnt; rw [qa_upd_e, show j - 1 + 1 - lo = j - lo by omega]
      have em : qa_upd (qa_upd (qm_cnt M lo (j - 1) c) 23 j (M 23 j + c)) 4 4 (M 4 4 + c * (j - lo) + c) = qm_cnt M lo (j + 1 - 1) c := by
        rw [show j + 1 - 1 = j by omega]
        have ec : M 4 4 + c * (j - lo) + c = M 4 4 + c * (j + 1 - lo) := by
          rcases h4 with rfl | rfl <;> omega
        rw [ec]
        funext c9 q
        by_cases g23 : c9 = 23
        · subst g23
          simp only [qm_cnt, qa_upd, qa_blk, qf_add]
          by_cases hq : q = j
          · subst hq; simp <;> omega
          · simp [hq] <;> (repeat' split) <;> first | rfl | omega | (congr 1 <;> omega)
        · by_cases g4 : c9 = 4
          · subst g4
            by_cases hq : q = 4
            · subst hq; simp [qm_cnt, qa_upd, qa_blk]
            · simp [qm_cnt, qa_upd, qa_blk, hq]
          · simp [qm_cnt, qa_upd, qa_blk, g23, g4]
      rw [← em] at e
      have hb : -120 ≤ c * (j - lo) ∧ c * (j - lo) ≤ 120 := by rcases h4 with rfl | rfl <;> omega
      refine R_iload cd_24_3 rfl ?_
      refine R_iload cd_24_5 rfl ?_
      refine R_icmp_gt 36 cd_24_6 rfl (fun b6 => ?_) (fun b6 => ?_)
      · omega
      · refine R_aload cd_24_9 rfl ?_
        refine R_getr cd_24_10 rfl ?_
        refine R_iload cd_24_13 rfl ?_
        refine R_dup2 cd_24_15 rfl rfl ?_
        refine R_iald cd_24_16 rfl (by omega) (by omega) ?_
        refine R_iload cd_24_17 rfl ?_
        refine R_iadd cd_24_18 (by rw [et]; unfold qa_InR; omega) ?_
        refine R_iast cd_24_19 rfl (by omega) (by omega)  ?_
        refine R_aload cd_24_20 rfl ?_
        refine R_dup cd_24_21 rfl ?_
        refine R_getf cd_24_22 rfl (by decide) ?_
        refine R_iload cd_24_25 rfl ?_
        refine R_iadd cd_24_26 (by show qa_InR ((qm_cnt M lo (j - 1) c) 4 4 + c); rw [ef]; unfold qa_InR; omega) ?_
        refine R_putf cd_24_27 rfl (by decide) ?_
        refine R_iinc cd_24_30 rfl (by unfold qa_InR; first | omega | (simp [qa_upd, qa_blk] <;> omega)) ?_
        refine R_goto cd_24_33 ?_
        rw [show (qa_upd (qm_cnt M lo (j - 1) c) 23 j ((qm_cnt M lo (j - 1) c) 23 j + c)) 4 4 = (qm_cnt M lo (j - 1) c) 4 4 from rfl, et, ef]
        exact R_norm (qs_c rfl (qs_c rfl (qs_c rfl (qs_c rfl (qs_c rfl qs_n))))) e
  have e := lp (hi + 1 - lo).toNat lo (by omega) (by omega)
  have em : qm_cnt M lo (lo - 1) c = M := by
    funext c9 q
    by_cases g23 : c9 = 23
    · subst g23
      simp only [qm_cnt, qa_upd, qa_blk, qf_add]
      simp <;> omega
    · by_cases g4 : c9 = 4
      · subst g4
        by_cases hq : q = 4
        · subst hq; simp [qm_cnt, qa_upd, qa_blk] <;> (right; omega)
        · simp [qm_cnt, qa_upd, qa_blk, hq]
      · simp [qm_cnt, qa_upd, qa_blk, g23, g4]
  rw [em] at e
  refine R_iload cd_24_0 rfl ?_
  refine R_istore cd_24_1 ?_
  exact R_norm (qs_c rfl (qs_c rfl (qs_c rfl (qs_c rfl (qs_c rfl qs_n))))) e
def qm_ins (M : qa_Mem) (p a b : Int) : qa_Mem := qa_upd (qa_blk (qa_blk M 21 (qf_ins (M 21) p (M 4 3) a)) 22 (qf_ins (M 22) p (M 4 3) b)) 4 3 (M 4 3 + 1)
theorem K_Film_insert {p a b : Int} {M : qa_Mem} (h1 : 0 ≤ p) (h2 : p ≤ M 4 3) (h3 : M 4 3 < 10) (h4 : 0 ≤ a) (h5 : a ≤ b) (h6 : b < 120) (h7 : ∀ j, 0 ≤ j → j < 120 → -1000 ≤ M 23 j ∧ M 23 j ≤ 1000) (h8 : -10000 ≤ M 4 4 ∧ M 4 4 ≤ 10000) : qa_E 21 0 [(0, qr 4), (1, qi (p)), (2, qi (a)), (3, qi (b))] [] (M) (.inl none) (qm_cnt (qm_ins M p a b) a b 1) := by
  have lp : ∀ (k : Nat) (j : Int) (N : qa_Mem), p + k = j → j ≤ M 4 3 → N = qa_blk (qa_blk M 21 (fun q => if j < q ∧ q ≤ M 4 3 then M 21 (q - 1) else M 21 q)) 22 (fun q => if j < q ∧ q ≤ M 4 3 then M 22 (q - 1) else M 22 q) → qa_E 21 6 [(0, qr 4), (1, qi p), (2, qi a), (3, qi b), (4, qi j)] [] N (.inl none) (qm_cnt (qm_ins M p a b) a b 1) := by
    intro k
    induction k with
    | zero =>
      intro j N g1 g2 hN
      obtain rfl : p = j := by omega
      have em : qa_upd (qa_upd (qa_upd N 21 p a) 22 p b) 4 3 (M 4 3 + 1) = qm_ins M p a b := by
        rw [hN]
        funext c9 q
        by_cases g21 : c9 = 21
        · subst g21; simp only [qm_ins, qf_ins, qa_upd, qa_blk]; simp <;> (repeat' split) <;> first | rfl | omega | (congr 1 <;> omega)
        · by_cases g22 : c9 = 22
          · subst g22; simp only [qm_ins, qf_ins, qa_upd, qa_blk]; simp <;> (repeat' split) <;> first | rfl | omega | (congr 1 <;> omega)
          · simp [qm_ins, qf_ins, qa_upd, qa_blk, g21, g22]
      have es : N 4 3 = M 4 3 := by rw [hN]; rfl
      refine R_iload cd_21_6 rfl ?_
      refine R_iload cd_21_8 rfl ?_
      refine R_icmp_le 50 cd_21_9 rfl (fun b9 => ?_) (fun b9 => ?_)
      · refine R_aload cd_21_50 rfl ?_
        refine R_getr cd_21_51 rfl ?_
        refine R_iload cd_21_54 rfl ?_
        refine R_iload cd_21_55 rfl ?_
        refine R_iast cd_21_56 rfl (by omega) (by omega)  ?_
        refine R_aload cd_21_57 rfl ?_
        refine R_getr cd_21_58 rfl ?_
        refine R_iload cd_21_61 rfl ?_
        refine R_iload cd_21_62 rfl ?_
        refine R_iast cd_21_63 rfl (by omega) (by omega)  ?_
        refine R_aload cd_21_64 rfl ?_
        refine R_dup cd_21_65 rfl ?_
        refine R_getf cd_21_66 rfl (by decide) ?_
        refine R_push cd_21_69 ?_
        refine R_iadd cd_21_70 (show qa_InR (N 4 3 + 1) by rw [es]; unfold qa_InR; omega) ?_
        refine R_putf cd_21_71 rfl (by decide) ?_
        rw [show (qa_upd (qa_upd N 21 p a) 22 p b) 4 3 = N 4 3 from rfl, es, em]
        refine R_aload cd_21_74 rfl ?_
        refine R_iload cd_21_75 rfl ?_
        refine R_iload cd_21_76 rfl ?_
        refine R_push cd_21_77 ?_
        refine R_callv4 cd_21_78 rfl rfl (K_Film_count h4 h5 h6 (Or.inl rfl) h7 h8) ?_
        exact R_vret cd_21_81 rfl
      · omega
    | succ k ih =>
      intro j N g1 g2 hN
      have em : qa_upd (qa_upd N 21 j (N 21 (j - 1))) 22 j (N 22 (j - 1)) = qa_blk (qa_blk M 21 (fun q => if j + -1 < q ∧ q ≤ M 4 3 then M 21 (q - 1) else M 21 q)) 22 (fun q => if j + -1 < q ∧ q ≤ M 4 3 then M 22 (q - 1) else M 22 q) := by
        rw [hN]
        funext c9 q
        by_cases g21 : c9 = 21
        · subst g21; simp only [qa_upd, qa_blk]; simp <;> (repeat' split) <;> first | rfl | omega | (congr 1 <;> omega)
        · by_cases g22 : c9 = 22
          · subst g22; simp only [qa_upd, qa_blk]; simp <;> (repeat' split) <;> first | rfl | omega | (congr 1 <;> omega)
          · simp [qa_upd, qa_blk, g21, g22]
      have e := ih (j + -1) _ (by omega) (by omega) em
      refine R_iload cd_21_6 rfl ?_
      refine R_iload cd_21_8 rfl ?_
      refine R_icmp_le 50 cd_21_9 rfl (fun b9 => ?_) (fun b9 => ?_)
      · omega
      · refine R_aload cd_21_12 rfl ?_
        refine R_getr cd_21_13 rfl ?_
        refine R_iload cd_21_16 rfl ?_
        refine R_aload cd_21_18 rfl ?_
        refine R_getr cd_21_19 rfl ?_
        refine R_iload cd_21_22 rfl ?_
        refine R_push cd_21_24 ?_
        refine R_isub cd_21_25 (by unfold qa_InR; first | omega | (simp [qa_upd, qa_blk] <;> omega)) ?_
        refine R_iald cd_21_26 rfl (by omega) (by omega) ?_
        refine R_iast cd_21_27 rfl (by omega) (by omega)  ?_
        refine R_aload cd_21_28 rfl ?_
        refine R_getr cd_21_29 rfl ?_
        refine R_iload cd_21_32 rfl ?_
        refine R_aload cd_21_34 rfl ?_
        refine R_getr cd_21_35 rfl ?_
        refine R_iload cd_21_38 rfl ?_
        refine R_push cd_21_40 ?_
        refine R_isub cd_21_41 (by unfold qa_InR; first | omega | (simp [qa_upd, qa_blk] <;> omega)) ?_
        refine R_iald cd_21_42 rfl (by omega) (by omega) ?_
        refine R_iast cd_21_43 rfl (by omega) (by omega)  ?_
        refine R_iinc cd_21_44 rfl (by unfold qa_InR; first | omega | (simp [qa_upd, qa_blk] <;> omega)) ?_
        refine R_goto cd_21_47 ?_
        exact R_norm (qs_c rfl (qs_c rfl (qs_c rfl (qs_c rfl (qs_c rfl qs_n))))) e
  have e := lp (M 4 3 - p).toNat (M 4 3) M (by omega) (by omega) (by
    funext c9 q
    by_cases g21 : c9 = 21
    · subst g21; simp only [qa_blk]; simp <;> (repeat' split) <;> first | rfl | omega | (congr 1 <;> omega)
    · by_cases g22 : c9 = 22
      · subst g22; simp only [qa_blk]; simp <;> (repeat' split) <;> first | rfl | omega | (congr 1 <;> omega)
      · simp [qa_blk, g21, g22])
  refine R_aload cd_21_0 rfl ?_
  refine R_getf cd_21_1 rfl (by decide) ?_
  refine R_istore cd_21_4 ?_
  exact R_norm (qs_c rfl (qs_c rfl (qs_c rfl (qs_c rfl (qs_c rfl qs_n))))) e
def qm_del (M : qa_Mem) (p : Int) : qa_Mem := qa_blk (qa_blk (qa_upd M 4 3 (M 4 3 - 1)) 21 (qf_del (M 21) p (M 4 3))) 22 (qf_del (M 22) p (M 4 3))
theorem K_Film_remove {p : Int} {M : qa_Mem} (h1 : 0 ≤ p) (h2 : p < M 4 3) (h3 : M 4 3 ≤ 10) (h4 : 0 ≤ M 21 p) (h5 : M 21 p ≤ M 22 p) (h6 : M 22 p < 120) (h7 : ∀ j, 0 ≤ j → j < 120 → -1000 ≤ M 23 j ∧ M 23 j ≤ 1000) (h8 : -10000 ≤ M 4 4 ∧ M 4 4 ≤ 10000) : qa_E 22 0 [(0, qr 4), (1, qi (p))] [] (M) (.inl none) (qm_del (qm_cnt M (M 21 p) (M 22 p) (-1)) p) := by
  obtain ⟨N, hN⟩ : ∃ N, N = qm_cnt M (M 21 p) (M 22 p) (-1) := ⟨_, rfl⟩
  have k1 := K_Film_count (M := M) (c := -1) h4 h5 h6 (Or.inr rfl) h7 h8
  rw [← hN] at k1 ⊢
  have es : N 4 3 = M 4 3 := by rw [hN]; rfl
  have lp : ∀ (k : Nat) (j : Int), j + k = M 4 3 - 1 → p ≤ j → qa_E 22 29 [(0, qr 4), (1, qi p), (2, qi j)] [] (qa_blk (qa_blk (qa_upd N 4 3 (N 4 3 - 1)) 21 (fun q => if p ≤ q ∧ q < j then N 21 (q + 1) else N 21 q)) 22 (fun q => if p ≤ q ∧ q < j then N 22 (q + 1) else N 22 q)) (.inl none) (qm_del N p) := by
    intro k
    induction k with
    | zero =>
      intro j g1 g2
      have gs : (qa_blk (qa_blk (qa_upd N 4 3 (N 4 3 - 1)) 21 (fun q => if p ≤ q ∧ q < j then N 21 (q + 1) else N 21 q)) 22 (fun q => if p ≤ q ∧ q < j then N 22 (q + 1) else N 22 q)) 4 3 = M 4 3 - 1 := by rw [qa_blk_n (by decide), qa_blk_n (by decide), qa_upd_e, es]
      refine R_iload cd_22_29 rfl ?_
      refine R_aload cd_22_30 rfl ?_
      refine R_getf cd_22_31 rfl (by decide) ?_
      refine R_icmp_ge 71 cd_22_34 rfl (fun b34 => ?_) (fun b34 => ?_)
      · refine R_vret cd_22_71 ?_
        obtain rfl : j = N 4 3 - 1 := by omega
        rfl
      · omega
    | succ k ih =>
      intro j g1 g2
      have gs : (qa_blk (qa_blk (qa_upd N 4 3 (N 4 3 - 1)) 21 (fun q => if p ≤ q ∧ q < j then N 21 (q + 1) else N 21 q)) 22 (fun q => if p ≤ q ∧ q < j then N 22 (q + 1) else N 22 q)) 4 3 = M 4 3 - 1 := by rw [qa_blk_n (by decide), qa_blk_n (by decide), qa_upd_e, es]
      have e := ih (j + 1) (by omega) (by omega)
      generalize hW : (qa_blk (qa_blk (qa_upd N 4 3 (N 4 3 - 1)) 21 (fun q => if p ≤ q ∧ q < j then N 21 (q + 1) else N 21 q)) 22 (fun q => if p ≤ q ∧ q < j then N 22 (q + 1) else N 22 q)) = W at gs ⊢
      have em : qa_upd (qa_upd W 21 j (W 21 (j + 1))) 22 j (W 22 (j + 1)) = qa_blk (qa_blk (qa_upd N 4 3 (N 4 3 - 1)) 21 (fun q => if p ≤ q ∧ q < j + 1 then N 21 (q + 1) else N 21 q)) 22 (fun q => if p ≤ q ∧ q < j + 1 then N 22 (q + 1) else N 22 q) := by
        rw [← hW]
        funext c9 q
        by_cases g21 : c9 = 21
        · subst g21; simp only [qa_upd, qa_blk]; simp <;> (repeat' split) <;> first | rfl | omega | (congr 1 <;> omega)
        · by_cases g22 : c9 = 22
          · subst g22; simp only [qa_upd, qa_blk]; simp <;> (repeat' split) <;> first | rfl | omega | (congr 1 <;> omega)
          · simp [qa_upd, qa_blk, g21, g22]
      rw [← em] at e
      refine R_iload cd_22_29 rfl ?_
      refine R_aload cd_22_30 rfl ?_
      refine R_getf cd_22_31 rfl (by decide) ?_
      refine R_icmp_ge 71 cd_22_34 rfl (fun b34 => ?_) (fun b34 => ?_)
      · omega
      · refine R_aload cd_22_37 rfl ?_
        refine R_getr cd_22_38 rfl ?_
        refine R_iload cd_22_41 rfl ?_
        refine R_aload cd_22_42 rfl ?_
        refine R_getr cd_22_43 rfl ?_
        refine R_iload cd_22_46 rfl ?_
        refine R_push cd_22_47 ?_
        refine R_iadd cd_22_48 (by unfold qa_InR; first | omega | (simp [qa_upd, qa_blk] <;> omega)) ?_
        refine R_iald cd_22_49 rfl (by omega) (by omega) ?_
        refine R_iast cd_22_50 rfl (by omega) (by omega)  ?_
        refine R_aload cd_22_51 rfl ?_
        refine R_getr cd_22_52 rfl ?_
        refine R_iload cd_22_55 rfl ?_
        refine R_aload cd_22_56 rfl ?_
        refine R_getr cd_22_57 rfl ?_
        refine R_iload cd_22_60 rfl ?_
        refine R_push cd_22_61 ?_
        refine R_iadd cd_22_62 (by unfold qa_InR; first | omega | (simp [qa_upd, qa_blk] <;> omega)) ?_
        refine R_iald cd_22_63 rfl (by omega) (by omega) ?_
        refine R_iast cd_22_64 rfl (by omega) (by omega)  ?_
        refine R_iinc cd_22_65 rfl (by unfold qa_InR; first | omega | (simp [qa_upd, qa_blk] <;> omega)) ?_
        refine R_goto cd_22_68 ?_
        exact R_norm (qs_c rfl (qs_c rfl (qs_c rfl qs_n))) e
  have e := lp (M 4 3 - 1 - p).toNat p (by omega) (by omega)
  have em : (qa_blk (qa_blk (qa_upd N 4 3 (N 4 3 - 1)) 21 (fun q => if p ≤ q ∧ q < p then N 21 (q + 1) else N 21 q)) 22 (fun q => if p ≤ q ∧ q < p then N 22 (q + 1) else N 22 q)) = qa_upd N 4 3 (N 4 3 - 1) := by
    funext c9 q
    by_cases g21 : c9 = 21
    · subst g21; simp only [qa_upd, qa_blk]; simp <;> (repeat' split) <;> first | rfl | omega | (congr 1 <;> omega)
    · by_cases g22 : c9 = 22
      · subst g22; simp only [qa_upd, qa_blk]; simp <;> (repeat' split) <;> first | rfl | omega | (congr 1 <;> omega)
      · simp [qa_upd, qa_blk, g21, g22]
  rw [em] at e
  refine R_aload cd_22_0 rfl ?_
  refine R_aload cd_22_1 rfl ?_
  refine R_getr cd_22_2 rfl ?_
  refine R_iload cd_22_5 rfl ?_
  refine R_iald cd_22_6 rfl (by omega) (by omega) ?_
  refine R_aload cd_22_7 rfl ?_
  refine R_getr cd_22_8 rfl ?_
  refine R_iload cd_22_11 rfl ?_
  refine R_iald cd_22_12 rfl (by omega) (by omega) ?_
  refine R_push cd_22_13 ?_
  refine R_callv4 cd_22_14 rfl rfl k1 ?_
  refine R_aload cd_22_17 rfl ?_
  refine R_dup cd_22_18 rfl ?_
  refine R_getf cd_22_19 rfl (by decide) ?_
  refine R_push cd_22_22 ?_
  refine R_isub cd_22_23 (by rw [es]; unfold qa_InR; omega) ?_
  refine R_putf cd_22_24 rfl (by decide) ?_
  refine R_iload cd_22_27 rfl ?_
  refine R_istore cd_22_28 ?_
  exact R_norm (qs_c rfl (qs_c rfl (qs_c rfl qs_n))) e
theorem K_Film_frameAt {p : Int} {M : qa_Mem} (h1 : 0 ≤ p) (h2 : p ≤ 100000) (h3 : 0 ≤ M 4 3) (h4 : M 4 3 ≤ 10) (h5 : ∀ k, 0 ≤ k → k < M 4 3 → 0 ≤ M 21 k ∧ M 21 k ≤ M 22 k ∧ M 22 k < 120) : qa_E 23 0 [(0, qr 4), (1, qi (p))] [] (M) (.inl (some (qi ((let r := qm_at (M 21) (M 22) (M 4 3).toNat 0 p; if r = -1 then 0 else r))))) (M) := by
  have lp : ∀ (n : Nat) (k left : Int), k + n = M 4 3 → 0 ≤ k → 0 ≤ left → left ≤ p → qa_E 23 4 [(0, qr 4), (1, qi p), (2, qi left), (3, qi k)] [] M (.inl (some (qi (if qm_at (M 21) (M 22) n k left = -1 then 0 else qm_at (M 21) (M 22) n k left)))) M := by
    intro n
    induction n with
    | zero =>
      intro k left g1 g2 g3 g4
      refine R_iload cd_23_4 rfl ?_
      refine R_aload cd_23_5 rfl ?_
      refine R_getf cd_23_6 rfl (by decide) ?_
      refine R_icmp_ge 55 cd_23_9 rfl (fun b9 => ?_) (fun b9 => ?_)
      · refine R_push cd_23_55 ?_
        exact R_iret cd_23_56 (by first | rfl | omega) rfl
      · omega
    | succ n ih =>
      intro k left g1 g2 g3 g4
      have w := h5 k g2 (by omega)
      unfold qm_at
      refine R_iload cd_23_4 rfl ?_
      refine R_aload cd_23_5 rfl ?_
      refine R_getf cd_23_6 rfl (by decide) ?_
      refine R_icmp_ge 55 cd_23_9 rfl (fun b9 => ?_) (fun b9 => ?_)
      · omega
      · refine R_aload cd_23_12 rfl ?_
        refine R_getr cd_23_13 rfl ?_
        refine R_iload cd_23_16 rfl ?_
        refine R_iald cd_23_17 rfl (by omega) (by omega) ?_
        refine R_aload cd_23_18 rfl ?_
        refine R_getr cd_23_19 rfl ?_
        refine R_iload cd_23_22 rfl ?_
        refine R_iald cd_23_23 rfl (by omega) (by omega) ?_
        refine R_isub cd_23_24 (by unfold qa_InR; first | omega | (simp [qa_upd, qa_blk] <;> omega)) ?_
        refine R_push cd_23_25 ?_
        refine R_iadd cd_23_26 (by unfold qa_InR; first | omega | (simp [qa_upd, qa_blk] <;> omega)) ?_
        refine R_istore cd_23_27 ?_
        refine R_iload cd_23_29 rfl ?_
        refine R_iload cd_23_30 rfl ?_
        refine R_icmp_ge 44 cd_23_32 rfl (fun b32 => ?_) (fun b32 => ?_)
        · refine R_iload cd_23_44 rfl ?_
          refine R_iload cd_23_45 rfl ?_
          refine R_isub cd_23_47 (by unfold qa_InR; first | omega | (simp [qa_upd, qa_blk] <;> omega)) ?_
          refine R_istore cd_23_48 ?_
          refine R_iinc cd_23_49 rfl (by unfold qa_InR; first | omega | (simp [qa_upd, qa_blk] <;> omega)) ?_
          refine R_goto cd_23_52 ?_
          rw [if_neg (show ¬ left < M 22 k - M 21 k + 1 by omega)]
          exact R_norm (qs_c rfl (qs_c rfl (qs_c rfl (qs_c rfl qs_n)))) (ih (k + 1) _ (by omega) (by omega) (by omega) (by omega))
        · refine R_aload cd_23_35 rfl ?_
          refine R_getr cd_23_36 rfl ?_
          refine R_iload cd_23_39 rfl ?_
          refine R_iald cd_23_40 rfl (by omega) (by omega) ?_
          refine R_iload cd_23_41 rfl ?_
          refine R_iadd cd_23_42 (by unfold qa_InR; first | omega | (simp [qa_upd, qa_blk] <;> omega)) ?_
          exact R_iret cd_23_43 (by rw [if_pos b32, if_neg (by omega)]) rfl
  dsimp only
  refine R_iload cd_23_0 rfl ?_
  refine R_istore cd_23_1 ?_
  refine R_push cd_23_2 ?_
  refine R_istore cd_23_3 ?_
  exact R_norm (qs_c rfl (qs_c rfl (qs_c rfl (qs_c rfl qs_n)))) (lp _ 0 p (by omega) (by omega) h1 (by omega))
end
section
/-! the farm -/
theorem K_Math_max {x y : Int} {M : qa_Mem} : qa_E 1 0 [(0, qi (x)), (1, qi (y))] [] (M) (.inl (some (qi (if x < y then y else x)))) (M) := by
  refine R_iload cd_1_0 rfl ?_
  refine R_iload cd_1_1 rfl ?_
  refine R_icmp_lt 9 cd_1_2 rfl (fun b2 => ?_) (fun b2 => ?_)
  · refine R_iload cd_1_9 rfl ?_
    exact R_iret cd_1_10 (by first | (rw [if_pos (by omega)]) | (rw [if_neg (by omega)])) rfl
  · refine R_iload cd_1_5 rfl ?_
    refine R_goto cd_1_6 ?_
    exact R_iret cd_1_10 (by first | (rw [if_pos (by omega)]) | (rw [if_neg (by omega)])) rfl
theorem K_Farm_heatOf {m : Int} {M : qa_Mem} (h1 : 0 ≤ m) (h2 : m < 4) (h3 : 0 ≤ M 25 m ∧ M 25 m ≤ 24) (h4 : M 26 m = 0 ∨ M 26 m = 1) : qa_E 28 0 [(0, qr 5), (1, qi (m))] [] (M) (.inl (some (qi (10 * M 25 m + M 26 m)))) (M) := by
  refine R_push cd_28_0 ?_
  refine R_aload cd_28_2 rfl ?_
  refine R_getr cd_28_3 rfl ?_
  refine R_iload cd_28_6 rfl ?_
  refine R_iald cd_28_7 rfl (by omega) (by omega) ?_
  refine R_imul cd_28_8 (by unfold qa_InR; first | omega | (simp [qa_upd, qa_blk] <;> omega)) ?_
  refine R_aload cd_28_9 rfl ?_
  refine R_getr cd_28_10 rfl ?_
  refine R_iload cd_28_13 rfl ?_
  refine R_zald cd_28_14 rfl (by omega) (by omega) ?_
  refine R_if_eq 22 cd_28_15 rfl (fun b15 => ?_) (fun b15 => ?_)
  · refine R_push cd_28_22 ?_
    refine R_iadd cd_28_23 (by unfold qa_InR; first | omega | (simp [qa_upd, qa_blk] <;> omega)) ?_
    exact R_iret cd_28_24 (by first | rfl | omega) rfl
  · refine R_push cd_28_18 ?_
    refine R_goto cd_28_19 ?_
    refine R_iadd cd_28_23 (by unfold qa_InR; first | omega | (simp [qa_upd, qa_blk] <;> omega)) ?_
    exact R_iret cd_28_24 (by first | rfl | omega) rfl
theorem K_Farm_addMachine {s : Int} {M : qa_Mem} (h1 : 0 ≤ M 5 3) (h2 : M 5 3 < 4) : qa_E 29 0 [(0, qr 5), (1, qi (s))] [] (M) (.inl (some (qi (M 5 3)))) (qa_upd (qa_upd M 24 (M 5 3) s) 5 3 (M 5 3 + 1)) := by
  refine R_aload cd_29_0 rfl ?_
  refine R_getf cd_29_1 rfl (by decide) ?_
  refine R_istore cd_29_4 ?_
  refine R_aload cd_29_5 rfl ?_
  refine R_getr cd_29_6 rfl ?_
  refine R_iload cd_29_9 rfl ?_
  refine R_iload cd_29_10 rfl ?_
  refine R_iast cd_29_11 rfl (by omega) (by omega)  ?_
  refine R_aload cd_29_12 rfl ?_
  refine R_dup cd_29_13 rfl ?_
  refine R_getf cd_29_14 rfl (by decide) ?_
  refine R_push cd_29_17 ?_
  refine R_iadd cd_29_18 (show qa_InR (M 5 3 + 1) by unfold qa_InR; omega) ?_
  refine R_putf cd_29_19 rfl (by decide) ?_
  refine R_iload cd_29_22 rfl ?_
  exact R_iret cd_29_23 (by first | rfl | omega) rfl
theorem K_Farm_addOffer {p h : Int} {M : qa_Mem} (h1 : 0 ≤ M 5 6) (h2 : M 5 6 < 10) : qa_E 30 0 [(0, qr 5), (1, qi (p)), (2, qi (h))] [] (M) (.inl (some (qi (M 5 6)))) (qa_upd (qa_upd (qa_upd M 27 (M 5 6) p) 28 (M 5 6) h) 5 6 (M 5 6 + 1)) := by
  refine R_aload cd_30_0 rfl ?_
  refine R_getf cd_30_1 rfl (by decide) ?_
  refine R_istore cd_30_4 ?_
  refine R_aload cd_30_5 rfl ?_
  refine R_getr cd_30_6 rfl ?_
  refine R_iload cd_30_9 rfl ?_
  refine R_iload cd_30_10 rfl ?_
  refine R_iast cd_30_11 rfl (by omega) (by omega)  ?_
  refine R_aload cd_30_12 rfl ?_
  refine R_getr cd_30_13 rfl ?_
  refine R_iload cd_30_16 rfl ?_
  refine R_iload cd_30_17 rfl ?_
  refine R_iast cd_30_18 rfl (by omega) (by omega)  ?_
  refine R_aload cd_30_19 rfl ?_
  refine R_dup cd_30_20 rfl ?_
  refine R_getf cd_30_21 rfl (by decide) ?_
  refine R_push cd_30_24 ?_
  refine R_iadd cd_30_25 (show qa_InR (M 5 6 + 1) by unfold qa_InR; omega) ?_
  refine R_putf cd_30_26 rfl (by decide) ?_
  refine R_iload cd_30_29 rfl ?_
  exact R_iret cd_30_30 (by first | rfl | omega) rfl
theorem K_Farm_cool {m : Int} {M : qa_Mem} (h1 : 0 ≤ m) (h2 : m < 4) (h3 : 0 ≤ M 25 m ∧ M 25 m ≤ 100) : qa_E 37 0 [(0, qr 5), (1, qi (m))] [] (M) (.inl none) (qa_upd M 25 m (qf_cool (M 25 m))) := by
  have e : (if 0 < M 25 m - 4 then M 25 m - 4 else 0) = qf_cool (M 25 m) := by unfold qf_cool; (repeat' split) <;> first | rfl | omega | (congr 1 <;> omega)
  rw [← e]
  refine R_aload cd_37_0 rfl ?_
  refine R_getr cd_37_1 rfl ?_
  refine R_iload cd_37_4 rfl ?_
  refine R_push cd_37_5 ?_
  refine R_aload cd_37_6 rfl ?_
  refine R_getr cd_37_7 rfl ?_
  refine R_iload cd_37_10 rfl ?_
  refine R_iald cd_37_11 rfl (by omega) (by omega) ?_
  refine R_push cd_37_12 ?_
  refine R_isub cd_37_13 (by unfold qa_InR; first | omega | (simp [qa_upd, qa_blk] <;> omega)) ?_
  refine R_call2 cd_37_14 rfl rfl K_Math_max ?_
  refine R_iast cd_37_17 rfl (by omega) (by omega)  ?_
  exact R_vret cd_37_18 rfl
theorem K_Farm_rest {m : Int} {M : qa_Mem} (h1 : 0 ≤ m) (h2 : m < 4) (h3 : 0 ≤ M 25 m ∧ M 25 m ≤ 100) : qa_E 32 0 [(0, qr 5), (1, qi (m))] [] (M) (.inl (some (qi (0)))) (qc_rM M m) := by
  have e : (qa_upd M 25 m (qf_cool (M 25 m))) 25 m = qf_cool (M 25 m) := qa_upd_e
  refine R_aload cd_32_0 rfl ?_
  refine R_iload cd_32_1 rfl ?_
  refine R_callv2 cd_32_2 rfl rfl (K_Farm_cool (by omega) (by omega) (by omega)) ?_
  refine R_aload cd_32_5 rfl ?_
  refine R_getr cd_32_6 rfl ?_
  refine R_iload cd_32_9 rfl ?_
  refine R_aload cd_32_10 rfl ?_
  refine R_getr cd_32_11 rfl ?_
  refine R_iload cd_32_14 rfl ?_
  refine R_iald cd_32_15 rfl (by omega) (by omega) ?_
  refine R_push cd_32_16 ?_
  refine R_icmp_le 25 cd_32_18 rfl (fun b18 => ?_) (fun b18 => ?_)
  · refine R_push cd_32_25 ?_
    first
      | rw [e] at b18
        refine R_zast cd_32_26 rfl (by omega) (by omega) (by decide) ?_
        refine R_push cd_32_27 ?_
        refine R_iret cd_32_28 rfl ?_
        unfold qc_rM
        rw [qb_t (by omega)]
      | rw [e] at b18
        refine R_zast cd_32_26 rfl (by omega) (by omega) (by decide) ?_
        refine R_push cd_32_27 ?_
        refine R_iret cd_32_28 rfl ?_
        unfold qc_rM
        rw [qb_f (by omega)]
  · refine R_push cd_32_21 ?_
    refine R_goto cd_32_22 ?_
    first
      | rw [e] at b18
        refine R_zast cd_32_26 rfl (by omega) (by omega) (by decide) ?_
        refine R_push cd_32_27 ?_
        refine R_iret cd_32_28 rfl ?_
        unfold qc_rM
        rw [qb_t (by omega)]
      | rw [e] at b18
        refine R_zast cd_32_26 rfl (by omega) (by omega) (by decide) ?_
        refine R_push cd_32_27 ?_
        refine R_iret cd_32_28 rfl ?_
        unfold qc_rM
        rw [qb_f (by omega)]
theorem K_Farm_bestOffer {M : qa_Mem} (h1 : 0 ≤ M 5 6) (h2 : M 5 6 ≤ 10) : qa_E 36 0 [(0, qr 5)] [] (M) (.inl (some (qi (qc_wb M)))) (M) := by
  have lp : ∀ (k : Nat) (j : Nat), j + k = (M 5 6).toNat → qa_E 36 4 [(0, qr 5), (1, qi (qf_best (M 28) (M 27) j)), (2, qi j)] [] M (.inl (some (qi (qc_wb M)))) M := by
    intro k
    induction k with
    | zero =>
      intro j g1
      refine R_iload cd_36_4 rfl ?_
      refine R_aload cd_36_5 rfl ?_
      refine R_getf cd_36_6 rfl (by decide) ?_
      refine R_icmp_ge 48 cd_36_9 rfl (fun b9 => ?_) (fun b9 => ?_)
      · refine R_iload cd_36_48 rfl ?_
        exact R_iret cd_36_49 (by unfold qc_wb; rw [← g1]; rfl) rfl
      · omega
    | succ k ih =>
      intro j g1
      have e := ih (j + 1) (by omega)
      rw [Int.natCast_add] at e
      have r1 := qf_best_r (M 28) (M 27) j
      unfold qf_best at e
      refine R_iload cd_36_4 rfl ?_
      refine R_aload cd_36_5 rfl ?_
      refine R_getf cd_36_6 rfl (by decide) ?_
      refine R_icmp_ge 48 cd_36_9 rfl (fun b9 => ?_) (fun b9 => ?_)
      · omega
      · refine R_aload cd_36_12 rfl ?_
        refine R_getr cd_36_13 rfl ?_
        refine R_iload cd_36_16 rfl ?_
        refine R_iald cd_36_17 rfl (by omega) (by omega) ?_
        refine R_if_le 42 cd_36_18 rfl (fun b18 => ?_) (fun b18 => ?_)
        · refine R_iinc cd_36_42 rfl (by unfold qa_InR; first | omega | (simp [qa_upd, qa_blk] <;> omega)) ?_
          refine R_goto cd_36_45 ?_
          first
            | rw [if_pos ⟨by omega, by omega⟩] at e
              exact R_norm (qs_c rfl (qs_c rfl (qs_c rfl qs_n))) e
            | rw [if_neg (by omega)] at e
              exact R_norm (qs_c rfl (qs_c rfl (qs_c rfl qs_n))) e
        · refine R_iload cd_36_21 rfl ?_
          refine R_if_lt 40 cd_36_22 rfl (fun b22 => ?_) (fun b22 => ?_)
          · refine R_iload cd_36_40 rfl ?_
            refine R_istore cd_36_41 ?_
            refine R_iinc cd_36_42 rfl (by unfold qa_InR; first | omega | (simp [qa_upd, qa_blk] <;> omega)) ?_
            refine R_goto cd_36_45 ?_
            first
              | rw [if_pos ⟨by omega, by omega⟩] at e
                exact R_norm (qs_c rfl (qs_c rfl (qs_c rfl qs_n))) e
              | rw [if_neg (by omega)] at e
                exact R_norm (qs_c rfl (qs_c rfl (qs_c rfl qs_n))) e
          · refine R_aload cd_36_25 rfl ?_
            refine R_getr cd_36_26 rfl ?_
            refine R_iload cd_36_29 rfl ?_
            refine R_iald cd_36_30 rfl (by omega) (by omega) ?_
            refine R_aload cd_36_31 rfl ?_
            refine R_getr cd_36_32 rfl ?_
            refine R_iload cd_36_35 rfl ?_
            refine R_iald cd_36_36 rfl (by omega) (by omega) ?_
            refine R_icmp_le 42 cd_36_37 rfl (fun b37 => ?_) (fun b37 => ?_)
            · refine R_iinc cd_36_42 rfl (by unfold qa_InR; first | omega | (simp [qa_upd, qa_blk] <;> omega)) ?_
              refine R_goto cd_36_45 ?_
              first
                | rw [if_pos ⟨by omega, by omega⟩] at e
                  exact R_norm (qs_c rfl (qs_c rfl (qs_c rfl qs_n))) e
                | rw [if_neg (by omega)] at e
                  exact R_norm (qs_c rfl (qs_c rfl (qs_c rfl qs_n))) e
            · refine R_iload cd_36_40 rfl ?_
              refine R_istore cd_36_41 ?_
              refine R_iinc cd_36_42 rfl (by unfold qa_InR; first | omega | (simp [qa_upd, qa_blk] <;> omega)) ?_
              refine R_goto cd_36_45 ?_
              first
                | rw [if_pos ⟨by omega, by omega⟩] at e
                  exact R_norm (qs_c rfl (qs_c rfl (qs_c rfl qs_n))) e
                | rw [if_neg (by omega)] at e
                  exact R_norm (qs_c rfl (qs_c rfl (qs_c rfl qs_n))) e
  refine R_push cd_36_0 ?_
  refine R_istore cd_36_1 ?_
  refine R_push cd_36_2 ?_
  refine R_istore cd_36_3 ?_
  exact R_norm (qs_c rfl (qs_c rfl (qs_c rfl qs_n))) (lp _ 0 (Nat.zero_add _))
theorem K_Farm_sell0 {m : Int} {M : qa_Mem} (h1 : 0 ≤ M 5 6) (h2 : M 5 6 ≤ 10) (h3 : qc_wb M < 0) : qa_E 35 0 [(0, qr 5), (1, qi (m))] [] (M) (.inl (some (qi (0)))) (M) := by
  refine R_aload cd_35_0 rfl ?_
  refine R_call1 cd_35_1 rfl rfl (K_Farm_bestOffer (by omega) (by omega)) ?_
  refine R_istore cd_35_4 ?_
  refine R_iload cd_35_5 rfl ?_
  refine R_if_ge 11 cd_35_6 rfl (fun b6 => ?_) (fun b6 => ?_)
  · omega
  · refine R_push cd_35_9 ?_
    exact R_iret cd_35_10 (by first | rfl | omega) rfl
theorem K_Farm_sell1 {m : Int} {M : qa_Mem} (h1 : 0 ≤ M 5 6) (h2 : M 5 6 ≤ 10) (h3 : 0 ≤ qc_wb M) (h4 : M 28 (qc_wb M) ≤ 50) (h5 : 0 ≤ m) (h6 : m < 4) (h7 : 0 ≤ M 25 m ∧ M 25 m ≤ 100) : qa_E 35 0 [(0, qr 5), (1, qi (m))] [] (M) (.inl (some (qi (1)))) (qa_upd (qa_upd (qa_upd M 28 (qc_wb M) (M 28 (qc_wb M) - 1)) 5 7 (qa_wrap (M 5 7 + M 27 (qc_wb M)))) 25 m (M 25 m + 3)) := by
  have r1 := qf_best_r (M 28) (M 27) (M 5 6).toNat
  rw [show qf_best (M 28) (M 27) (M 5 6).toNat = qc_wb M from rfl] at r1
  refine R_aload cd_35_0 rfl ?_
  refine R_call1 cd_35_1 rfl rfl (K_Farm_bestOffer (by omega) (by omega)) ?_
  refine R_istore cd_35_4 ?_
  refine R_iload cd_35_5 rfl ?_
  refine R_if_ge 11 cd_35_6 rfl (fun b6 => ?_) (fun b6 => ?_)
  · refine R_aload cd_35_11 rfl ?_
    refine R_getr cd_35_12 rfl ?_
    refine R_iload cd_35_15 rfl ?_
    refine R_dup2 cd_35_16 rfl rfl ?_
    refine R_iald cd_35_17 rfl (by omega) (by omega) ?_
    refine R_push cd_35_18 ?_
    refine R_isub cd_35_19 (by unfold qa_InR; first | omega | (simp [qa_upd, qa_blk] <;> omega)) ?_
    refine R_iast cd_35_20 rfl (by omega) (by omega)  ?_
    refine R_aload cd_35_21 rfl ?_
    refine R_dup cd_35_22 rfl ?_
    refine R_getf cd_35_23 rfl (by decide) ?_
    refine R_aload cd_35_26 rfl ?_
    refine R_getr cd_35_27 rfl ?_
    refine R_iload cd_35_30 rfl ?_
    refine R_iald cd_35_31 rfl (by omega) (by omega) ?_
    refine R_iaddw cd_35_32 ?_
    refine R_putf cd_35_33 rfl (by decide) ?_
    refine R_aload cd_35_36 rfl ?_
    refine R_getr cd_35_37 rfl ?_
    refine R_iload cd_35_40 rfl ?_
    refine R_dup2 cd_35_41 rfl rfl ?_
    refine R_iald cd_35_42 rfl (by omega) (by omega) ?_
    refine R_push cd_35_43 ?_
    refine R_iadd cd_35_44 (show qa_InR (M 25 m + 3) by unfold qa_InR; omega) ?_
    refine R_iast cd_35_45 rfl (by omega) (by omega)  ?_
    refine R_push cd_35_46 ?_
    exact R_iret cd_35_47 (by first | rfl | omega) rfl
  · omega
end
section
/-! the farm's hours -/
theorem qs_rm_c {M : qa_Mem} {nd : Int → Prop} {sp a b : Int} (h : ∀ f : Int, 0 ≤ f → qr_p nd sp f → (f < a ↔ f < b)) : qs_rm M nd sp a = qs_rm M nd sp b := by
  have e1 : (fun j : Int => qx (qr_p nd sp (j % 120) ∧ j % 120 < a ∧ 0 ≤ j ∧ j < 360 * M 1 3) (M 12 j) (M 18 j)) = (fun j => qx (qr_p nd sp (j % 120) ∧ j % 120 < b ∧ 0 ≤ j ∧ j < 360 * M 1 3) (M 12 j) (M 18 j)) := by
    funext j
    exact qx_c ⟨fun ⟨p, q, r⟩ => ⟨p, (h _ (by omega) p).mp q, r⟩, fun ⟨p, q, r⟩ => ⟨p, (h _ (by omega) p).mpr q, r⟩⟩
  have e2 : ∀ x : Int, ∀ k : Nat, (fun f : Int => qx (qr_p nd sp f ∧ 0 ≤ f ∧ f < a) x (M k f)) = (fun f => qx (qr_p nd sp f ∧ 0 ≤ f ∧ f < b) x (M k f)) := by
    intro x k
    funext j
    exact qx_c ⟨fun ⟨p, q, r⟩ => ⟨p, q, (h _ q p).mp r⟩, fun ⟨p, q, r⟩ => ⟨p, q, (h _ q p).mpr r⟩⟩
  unfold qs_rm
  rw [e1, e2, e2]
theorem K_Farm_render {m : Int} {M : qa_Mem} (h1 : 0 ≤ m) (h2 : m < 4) (h3 : 1 ≤ M 24 m ∧ M 24 m ≤ 5) (h4 : 0 ≤ M 25 m ∧ M 25 m ≤ 100) (h5 : 0 ≤ M 1 3) (h6 : M 1 3 ≤ 8) : qa_E 34 0 [(0, qr 5), (1, qi (m)), (2, qr (4)), (3, qr (3)), (4, qr (1))] [] (M) (.inl (some (qi (qc_wr M m)))) (qa_upd (qs_rm M (qc_need M) (M 24 m) 120) 25 m (M 25 m + qc_wr M m)) := by
  obtain ⟨sp, hsp⟩ : ∃ x, x = M 24 m := ⟨_, rfl⟩
  obtain ⟨nd, hnd⟩ : ∃ x, x = qc_need M := ⟨_, rfl⟩
  have hr : qc_wr M m = qr_c nd sp 120 := by unfold qc_wr; rw [hnd, hsp]
  rw [hr, ← hnd, ← hsp]
  rw [← hsp] at h3
  have fin : ∀ (j : Nat), j ≤ 120 → (j = 120 ∨ sp ≤ qr_c nd sp j) → qa_E 34 59 [(0, qr 5), (1, qi m), (2, qr 4), (3, qr 3), (4, qr 1), (5, qi (qr_c nd sp j)), (6, qi j)] [] (qs_rm M nd sp j) (.inl (some (qi (qr_c nd sp 120)))) (qa_upd (qs_rm M nd sp 120) 25 m (M 25 m + qr_c nd sp 120)) := by
    intro j g1 g2
    have ec : qr_c nd sp 120 = qr_c nd sp j := by
      rcases g2 with g2 | g2
      · rw [g2]
      · have := qr_stop nd sp j (120 - j) g2
        rw [show j + (120 - j) = 120 by omega] at this
        exact this
    have em : qs_rm M nd sp j = qs_rm M nd sp 120 := by
      rcases g2 with g2 | g2
      · rw [g2]; rfl
      · have hp : ∀ f : Int, (j : Int) ≤ f → ¬ qr_p nd sp f := by
          intro f hf hq
          have := qr_stop nd sp j (f.toNat - j) g2
          rw [show j + (f.toNat - j) = f.toNat by omega] at this
          have := hq.1
          omega
        exact qs_rm_c (fun f f0 fp => ⟨fun _ => by
          by_cases hh : f < 120
          · exact hh
          · exact absurd fp (hp f (by omega)), fun _ => by
          by_cases hh : f < j
          · exact hh
          · exact absurd fp (hp f (by omega))⟩)
    have rr := qr_c_r nd sp (by omega) j
    rw [ec, ← em]
    have eh : (qs_rm M nd sp j) 25 m = M 25 m := by rfl
    refine R_aload cd_34_59 rfl ?_
    refine R_getr cd_34_60 rfl ?_
    refine R_iload cd_34_63 rfl ?_
    refine R_dup2 cd_34_64 rfl rfl ?_
    refine R_iald cd_34_65 rfl (by omega) (by omega) ?_
    refine R_iload cd_34_66 rfl ?_
    refine R_iadd cd_34_68 (by rw [eh]; unfold qa_InR; omega) ?_
    refine R_iast cd_34_69 rfl (by omega) (by omega)  ?_
    refine R_iload cd_34_70 rfl ?_
    exact R_iret cd_34_72 (by first | rfl | omega) rfl
  have lp : ∀ (k : Nat) (j : Nat), j + k = 120 → qa_E 34 6 [(0, qr 5), (1, qi m), (2, qr 4), (3, qr 3), (4, qr 1), (5, qi (qr_c nd sp j)), (6, qi j)] [] (qs_rm M nd sp j) (.inl (some (qi (qr_c nd sp 120)))) (qa_upd (qs_rm M nd sp 120) 25 m (M 25 m + qr_c nd sp 120)) := by
    intro k
    induction k with
    | zero =>
      intro j g1
      refine R_iload cd_34_6 rfl ?_
      refine R_push cd_34_8 ?_
      refine R_icmp_ge 59 cd_34_10 rfl (fun b10 => ?_) (fun b10 => ?_)
      · exact R_norm (qs_c rfl (qs_c rfl (qs_c rfl (qs_c rfl (qs_c rfl (qs_c rfl (qs_c rfl qs_n))))))) (fin j (by omega) (Or.inl (by omega)))
      · omega
    | succ k ih =>
      intro j g1
      have rr := qr_c_r nd sp (by omega) j
      have e := ih (j + 1) (by omega)
      have es : (qs_rm M nd sp j) 24 m = sp := by rw [hsp]; rfl
      have et : (qs_rm M nd sp j) 23 j = M 23 j := rfl
      have ed : (qs_rm M nd sp j) 20 j = M 20 j := by
        unfold qs_rm; rw [qa_blk_e, qx_f (fun q => by omega)]
      have hneed : nd j ↔ (0 < M 23 j ∧ M 20 j ≠ 1) := by rw [hnd]; exact Iff.rfl
      have stay : ¬ (qr_c nd sp j < sp ∧ nd j) → qr_c nd sp (j + 1) = qr_c nd sp j ∧ qs_rm M nd sp ((j + 1 : Nat) : Int) = qs_rm M nd sp j := by
        intro hn
        have hp : ¬ qr_p nd sp (j : Int) := by unfold qr_p; rw [Int.toNat_natCast]; exact hn
        refine ⟨by rw [qr_c, qb_f hn, Int.add_zero], ?_⟩
        rw [Int.natCast_add]
        exact qs_rm_c (fun f f0 fp => ⟨fun _ => by
          by_cases hh : f = j
          · rw [hh] at fp; exact absurd fp hp
          · omega, fun _ => by omega⟩)
      have go : (qr_c nd sp j < sp ∧ nd j) → qr_c nd sp (j + 1) = qr_c nd sp j + 1 ∧ qs_rm M nd sp ((j + 1 : Nat) : Int) = qs_rend (qs_rm M nd sp j) j := by
        intro hn
        have hp : qr_p nd sp (j : Int) := by unfold qr_p; rw [Int.toNat_natCast]; exact hn
        refine ⟨by rw [qr_c, qb_t hn], ?_⟩
        rw [Int.natCast_add]
        have e1 : ∀ q, (qs_rm M nd sp (j + 1)) 18 q = (qs_rend (qs_rm M nd sp j) j) 18 q := by
          intro q
          have hb : (qs_rm M nd sp j) 1 3 = M 1 3 := rfl
          show qx (qr_p nd sp (q % 120) ∧ q % 120 < (j : Int) + 1 ∧ 0 ≤ q ∧ q < 360 * M 1 3) (M 12 q) (M 18 q) = (if q % 120 = (j : Int) ∧ 0 ≤ q ∧ q < 360 * M 1 3 then M 12 q else qx (qr_p nd sp (q % 120) ∧ q % 120 < (j : Int) ∧ 0 ≤ q ∧ q < 360 * M 1 3) (M 12 q) (M 18 q))
          by_cases hq : q % 120 = (j : Int) ∧ 0 ≤ q ∧ q < 360 * M 1 3
          · rw [if_pos hq, qx_t ⟨by rw [hq.1]; exact hp, by omega, hq.2⟩]
          · rw [if_neg hq]
            refine qx_c ⟨fun ⟨a, b, c⟩ => ⟨a, by omega, c⟩, fun ⟨a, b, c⟩ => ⟨a, by omega, c⟩⟩
        have e2 : ∀ q, (qs_rm M nd sp (j + 1)) 19 q = (qs_rend (qs_rm M nd sp j) j) 19 q := by
          intro q
          show qx (qr_p nd sp q ∧ 0 ≤ q ∧ q < (j : Int) + 1) (M 1 3) (M 19 q) = (if 19 = 19 ∧ q = (j : Int) then M 1 3 else qx (qr_p nd sp q ∧ 0 ≤ q ∧ q < (j : Int)) (M 1 3) (M 19 q))
          by_cases hq : q = (j : Int)
          · subst hq; rw [if_pos ⟨rfl, rfl⟩, qx_t ⟨hp, by omega, by omega⟩]
          · rw [if_neg (fun z => hq z.2)]
            refine qx_c ⟨fun ⟨a, b, c⟩ => ⟨a, b, by omega⟩, fun ⟨a, b, c⟩ => ⟨a, b, by omega⟩⟩
        have e3 : ∀ q, (qs_rm M nd sp (j + 1)) 20 q = (qs_rend (qs_rm M nd sp j) j) 20 q := by
          intro q
          show qx (qr_p nd sp q ∧ 0 ≤ q ∧ q < (j : Int) + 1) 1 (M 20 q) = (if 20 = 20 ∧ q = (j : Int) then 1 else qx (qr_p nd sp q ∧ 0 ≤ q ∧ q < (j : Int)) 1 (M 20 q))
          by_cases hq : q = (j : Int)
          · subst hq; rw [if_pos ⟨rfl, rfl⟩, qx_t ⟨hp, by omega, by omega⟩]
          · rw [if_neg (fun z => hq z.2)]
            refine qx_c ⟨fun ⟨a, b, c⟩ => ⟨a, b, by omega⟩, fun ⟨a, b, c⟩ => ⟨a, b, by omega⟩⟩
        funext c9 q
        by_cases g18 : c9 = 18
        · subst g18; exact e1 q
        · by_cases g19 : c9 = 19
          · subst g19; exact e2 q
          · by_cases g20 : c9 = 20
            · subst g20; exact e3 q
            · simp [qs_rm, qs_rend, qa_upd, qa_blk, g18, g19, g20]
      refine R_iload cd_34_6 rfl ?_
      refine R_push cd_34_8 ?_
      refine R_icmp_ge 59 cd_34_10 rfl (fun b10 => ?_) (fun b10 => ?_)
      · first | omega | exact R_norm (qs_c rfl (qs_c rfl (qs_c rfl (qs_c rfl (qs_c rfl (qs_c rfl (qs_c rfl qs_n))))))) (fin j (by omega) (Or.inr (by omega)))
      · refine R_iload cd_34_13 rfl ?_
        refine R_aload cd_34_15 rfl ?_
        refine R_getr cd_34_16 rfl ?_
        refine R_iload cd_34_19 rfl ?_
        refine R_iald cd_34_20 rfl (by omega) (by omega) ?_
        refine R_icmp_ge 59 cd_34_21 rfl (fun b21 => ?_) (fun b21 => ?_)
        · first | omega | exact R_norm (qs_c rfl (qs_c rfl (qs_c rfl (qs_c rfl (qs_c rfl (qs_c rfl (qs_c rfl qs_n))))))) (fin j (by omega) (Or.inr (by omega)))
        · refine R_aload cd_34_24 rfl ?_
          refine R_iload cd_34_25 rfl ?_
          refine R_call2 cd_34_27 rfl rfl (K_Film_needs (by omega) (by omega)) ?_
          refine R_ifeq_b 53 cd_34_30 rfl (fun b30 => ?_) (fun b30 => ?_)
          · refine R_iinc cd_34_53 rfl (by unfold qa_InR; first | omega | (simp [qa_upd, qa_blk] <;> omega)) ?_
            refine R_goto cd_34_56 ?_
            first
              | have hh := go ⟨by omega, hneed.mpr ⟨by rw [← et]; exact b30, by rw [← ed]; exact b39⟩⟩
                rw [hh.1, hh.2, Int.natCast_add] at e
                exact R_norm (qs_c rfl (qs_c rfl (qs_c rfl (qs_c rfl (qs_c rfl (qs_c rfl (qs_c rfl qs_n))))))) e
              | have hh := stay (fun q => absurd (hneed.mp q.2).2 (by rw [← ed]; exact fun z => z b39))
                rw [hh.1, hh.2, Int.natCast_add] at e
                exact R_norm (qs_c rfl (qs_c rfl (qs_c rfl (qs_c rfl (qs_c rfl (qs_c rfl (qs_c rfl qs_n))))))) e
              | have hh := stay (fun q => absurd (hneed.mp q.2).1 (by rw [← et]; exact b30))
                rw [hh.1, hh.2, Int.natCast_add] at e
                exact R_norm (qs_c rfl (qs_c rfl (qs_c rfl (qs_c rfl (qs_c rfl (qs_c rfl (qs_c rfl qs_n))))))) e
          · refine R_aload cd_34_33 rfl ?_
            refine R_iload cd_34_34 rfl ?_
            refine R_call2 cd_34_36 rfl rfl (K_Stills_stands (by omega) (by omega)) ?_
            refine R_ifne_b 53 cd_34_39 rfl (fun b39 => ?_) (fun b39 => ?_)
            · refine R_iinc cd_34_53 rfl (by unfold qa_InR; first | omega | (simp [qa_upd, qa_blk] <;> omega)) ?_
              refine R_goto cd_34_56 ?_
              first
                | have hh := go ⟨by omega, hneed.mpr ⟨by rw [← et]; exact b30, by rw [← ed]; exact b39⟩⟩
                  rw [hh.1, hh.2, Int.natCast_add] at e
                  exact R_norm (qs_c rfl (qs_c rfl (qs_c rfl (qs_c rfl (qs_c rfl (qs_c rfl (qs_c rfl qs_n))))))) e
                | have hh := stay (fun q => absurd (hneed.mp q.2).2 (by rw [← ed]; exact fun z => z b39))
                  rw [hh.1, hh.2, Int.natCast_add] at e
                  exact R_norm (qs_c rfl (qs_c rfl (qs_c rfl (qs_c rfl (qs_c rfl (qs_c rfl (qs_c rfl qs_n))))))) e
                | have hh := stay (fun q => absurd (hneed.mp q.2).1 (by rw [← et]; exact b30))
                  rw [hh.1, hh.2, Int.natCast_add] at e
                  exact R_norm (qs_c rfl (qs_c rfl (qs_c rfl (qs_c rfl (qs_c rfl (qs_c rfl (qs_c rfl qs_n))))))) e
            · refine R_aload cd_34_42 rfl ?_
              refine R_iload cd_34_43 rfl ?_
              refine R_aload cd_34_45 rfl ?_
              refine R_callv3 cd_34_47 rfl rfl (K_Stills_render h5 h6 (by omega) (by omega)) ?_
              refine R_iinc cd_34_50 rfl (by unfold qa_InR; first | omega | (simp [qa_upd, qa_blk] <;> omega)) ?_
              refine R_iinc cd_34_53 rfl (by unfold qa_InR; first | omega | (simp [qa_upd, qa_blk] <;> omega)) ?_
              refine R_goto cd_34_56 ?_
              first
                | have hh := go ⟨by omega, hneed.mpr ⟨by rw [← et]; exact b30, by rw [← ed]; exact b39⟩⟩
                  rw [hh.1, hh.2, Int.natCast_add] at e
                  exact R_norm (qs_c rfl (qs_c rfl (qs_c rfl (qs_c rfl (qs_c rfl (qs_c rfl (qs_c rfl qs_n))))))) e
                | have hh := stay (fun q => absurd (hneed.mp q.2).2 (by rw [← ed]; exact fun z => z b39))
                  rw [hh.1, hh.2, Int.natCast_add] at e
                  exact R_norm (qs_c rfl (qs_c rfl (qs_c rfl (qs_c rfl (qs_c rfl (qs_c rfl (qs_c rfl qs_n))))))) e
                | have hh := stay (fun q => absurd (hneed.mp q.2).1 (by rw [← et]; exact b30))
                  rw [hh.1, hh.2, Int.natCast_add] at e
                  exact R_norm (qs_c rfl (qs_c rfl (qs_c rfl (qs_c rfl (qs_c rfl (qs_c rfl (qs_c rfl qs_n))))))) e
  have e0 : qs_rm M nd sp ((0 : Nat) : Int) = M := by
    funext c9 q
    by_cases g18 : c9 = 18
    · subst g18; show qx _ _ _ = _; rw [qx_f (fun z => by omega)]
    · by_cases g19 : c9 = 19
      · subst g19; show qx _ _ _ = _; rw [qx_f (fun z => by omega)]
      · by_cases g20 : c9 = 20
        · subst g20; show qx _ _ _ = _; rw [qx_f (fun z => by omega)]
        · simp [qs_rm, qa_blk, g18, g19, g20]
  have e := lp 120 0 (by omega)
  rw [e0] at e
  refine R_push cd_34_0 ?_
  refine R_istore cd_34_1 ?_
  refine R_push cd_34_3 ?_
  refine R_istore cd_34_4 ?_
  exact R_norm (qs_c rfl (qs_c rfl (qs_c rfl (qs_c rfl (qs_c rfl (qs_c rfl (qs_c rfl qs_n))))))) e
end
section
/-! work, and the hours of a night -/
def qc_fv (M : qa_Mem) : Prop := qv_farm (M 25) (M 26) (M 24) (M 28) (M 27) (M 5 3) (M 5 6) ∧ 0 ≤ M 1 3 ∧ M 1 3 ≤ 8
theorem K_Farm_work {m : Int} {M : qa_Mem} (hv : qc_fv M) (h1 : 0 ≤ m) (h2 : m < M 5 3) (h3 : M 26 m = 0) : qa_E 33 0 [(0, qr 5), (1, qi (m)), (2, qr (4)), (3, qr (3)), (4, qr (1))] [] (M) (.inl (some (qi (qc_wx M m)))) (qc_wM M m) := by
  obtain ⟨⟨v1, v2, v3, v4, v5⟩, v6, v7⟩ := hv
  obtain ⟨t1, t2, t3, t4⟩ := v3 m h1 (by omega)
  have t4 := t4 h3
  have t5 := v4 m h1 h2
  have rr := qr_c_r (qc_need M) (M 24 m) (by omega) 120
  rw [show qr_c (qc_need M) (M 24 m) 120 = qc_wr M m from rfl] at rr
  have rb := qf_best_r (M 28) (M 27) (M 5 6).toNat
  rw [show qf_best (M 28) (M 27) (M 5 6).toNat = qc_wb M from rfl] at rb
  obtain ⟨N, hN⟩ : ∃ x, x = qs_rm M (qc_need M) (M 24 m) 120 := ⟨_, rfl⟩
  have kr := K_Farm_render (M := M) h1 (by omega) t5 ⟨t1, by omega⟩ v6 v7
  rw [← hN] at kr
  have eN : ∀ k : Nat, k ≠ 18 → k ≠ 19 → k ≠ 20 → N k = M k := by
    intro k a b c
    rw [hN]; unfold qs_rm
    rw [qa_blk_n c, qa_blk_n b, qa_blk_n a]
  have tail : ∀ (K : qa_Mem) (z h : Int), h = K 25 m → (z = 0 ∨ z = 1) → qa_upd K 26 m (qb (20 ≤ h)) = qc_wM M m → 1000 * qc_wr M m + z = qc_wx M m → qa_E 33 42 [(0, qr 5), (1, qi m), (2, qr 4), (3, qr 3), (4, qr 1), (5, qi (qc_wr M m)), (6, qi z)] [] K (.inl (some (qi (qc_wx M m)))) (qc_wM M m) := by
    intro K z h hh hz hm hx
    rw [hh] at hm
    refine R_aload cd_33_42 rfl ?_
    refine R_getr cd_33_43 rfl ?_
    refine R_iload cd_33_46 rfl ?_
    refine R_aload cd_33_47 rfl ?_
    refine R_getr cd_33_48 rfl ?_
    refine R_iload cd_33_51 rfl ?_
    refine R_iald cd_33_52 rfl (by omega) (by omega) ?_
    refine R_push cd_33_53 ?_
    refine R_icmp_lt 62 cd_33_55 rfl (fun b55 => ?_) (fun b55 => ?_)
    · refine R_push cd_33_62 ?_
      first
        | rw [qb_t b55] at hm
          refine R_zast cd_33_63 rfl (by omega) (by omega) (by decide) ?_
          refine R_push cd_33_64 ?_
          refine R_iload cd_33_67 rfl ?_
          refine R_imul cd_33_69 (by unfold qa_InR; first | omega | (simp [qa_upd, qa_blk] <;> omega)) ?_
          refine R_iload cd_33_70 rfl ?_
          refine R_iadd cd_33_72 (by unfold qa_InR; first | omega | (simp [qa_upd, qa_blk] <;> omega)) ?_
          exact R_iret cd_33_73 hx hm
        | rw [qb_f (by omega)] at hm
          refine R_zast cd_33_63 rfl (by omega) (by omega) (by decide) ?_
          refine R_push cd_33_64 ?_
          refine R_iload cd_33_67 rfl ?_
          refine R_imul cd_33_69 (by unfold qa_InR; first | omega | (simp [qa_upd, qa_blk] <;> omega)) ?_
          refine R_iload cd_33_70 rfl ?_
          refine R_iadd cd_33_72 (by unfold qa_InR; first | omega | (simp [qa_upd, qa_blk] <;> omega)) ?_
          exact R_iret cd_33_73 hx hm
    · refine R_push cd_33_58 ?_
      refine R_goto cd_33_59 ?_
      first
        | rw [qb_t b55] at hm
          refine R_zast cd_33_63 rfl (by omega) (by omega) (by decide) ?_
          refine R_push cd_33_64 ?_
          refine R_iload cd_33_67 rfl ?_
          refine R_imul cd_33_69 (by unfold qa_InR; first | omega | (simp [qa_upd, qa_blk] <;> omega)) ?_
          refine R_iload cd_33_70 rfl ?_
          refine R_iadd cd_33_72 (by unfold qa_InR; first | omega | (simp [qa_upd, qa_blk] <;> omega)) ?_
          exact R_iret cd_33_73 hx hm
        | rw [qb_f (by omega)] at hm
          refine R_zast cd_33_63 rfl (by omega) (by omega) (by decide) ?_
          refine R_push cd_33_64 ?_
          refine R_iload cd_33_67 rfl ?_
          refine R_imul cd_33_69 (by unfold qa_InR; first | omega | (simp [qa_upd, qa_blk] <;> omega)) ?_
          refine R_iload cd_33_70 rfl ?_
          refine R_iadd cd_33_72 (by unfold qa_InR; first | omega | (simp [qa_upd, qa_blk] <;> omega)) ?_
          exact R_iret cd_33_73 hx hm
  by_cases hr0 : qc_wr M m = 0
  · by_cases hb : 0 ≤ qc_wb M
    · have kb := v5 (qc_wb M) hb (by omega)
      have ks := K_Farm_sell1 (M := qa_upd N 25 m (M 25 m + qc_wr M m)) (m := m) (by rw [qa_upd_n (by decide), eN 5 (by decide) (by decide) (by decide)]; exact v2.1) (by rw [qa_upd_n (by decide), eN 5 (by decide) (by decide) (by decide)]; exact v2.2) (by show 0 ≤ qc_wb N; unfold qc_wb; rw [eN 5 (by decide) (by decide) (by decide), eN 28 (by decide) (by decide) (by decide), eN 27 (by decide) (by decide) (by decide)]; exact hb) (by show N 28 (qc_wb N) ≤ 50; unfold qc_wb; rw [eN 5 (by decide) (by decide) (by decide), eN 28 (by decide) (by decide) (by decide), eN 27 (by decide) (by decide) (by decide)]; exact kb.1.2) h1 (by omega) (by rw [qa_upd_e]; omega)
      rw [show qc_wb (qa_upd N 25 m (M 25 m + qc_wr M m)) = qc_wb M by show qc_wb N = _; unfold qc_wb; rw [eN 5 (by decide) (by decide) (by decide), eN 28 (by decide) (by decide) (by decide), eN 27 (by decide) (by decide) (by decide)]] at ks
      rw [qa_upd_n (by decide), qa_upd_n (by decide), qa_upd_n (by decide), eN 5 (by decide) (by decide) (by decide), eN 28 (by decide) (by decide) (by decide), eN 27 (by decide) (by decide) (by decide), qa_upd_e] at ks
      have ew : qw_h (M 25 m) (qc_wr M m) (qc_wb M) = M 25 m + 3 := by unfold qw_h; rw [qx_f (fun z => z hr0), qx_t hb]
      have em : qa_upd (qa_upd (qa_upd (qa_upd (qa_upd N 25 m (M 25 m + qc_wr M m)) 28 (qc_wb M) (M 28 (qc_wb M) - 1)) 5 7 (qa_wrap (M 5 7 + M 27 (qc_wb M)))) 25 m (M 25 m + qc_wr M m + 3)) 26 m (qb (20 ≤ M 25 m + 3)) = qc_wM M m := by
        unfold qc_wM
        dsimp only
        rw [← hN, qx_t ⟨hr0, hb⟩, ew, hr0, Int.add_zero, qa_upd_x (k := 25) (k1 := 28) (by decide), qa_upd_x (k := 25) (k1 := 5) (by decide), qa_upd_2]
      have tl := tail _ 1 (M 25 m + 3) (by rw [qa_upd_e]; omega) (Or.inr rfl) em (by unfold qc_wx; rw [qb_t ⟨hr0, hb⟩])
      refine R_aload cd_33_0 rfl ?_
      refine R_iload cd_33_1 rfl ?_
      refine R_aload cd_33_2 rfl ?_
      refine R_aload cd_33_3 rfl ?_
      refine R_aload cd_33_4 rfl ?_
      refine R_call5 cd_33_6 rfl rfl kr ?_
      refine R_istore cd_33_9 ?_
      refine R_iload cd_33_11 rfl ?_
      refine R_if_ne 24 cd_33_13 rfl (fun b13 => ?_) (fun b13 => ?_)
      · exact absurd hr0 b13
      · refine R_aload cd_33_16 rfl ?_
        refine R_iload cd_33_17 rfl ?_
        refine R_call2 cd_33_18 rfl rfl ks ?_
        refine R_goto cd_33_21 ?_
        refine R_istore cd_33_25 ?_
        refine R_iload cd_33_27 rfl ?_
        refine R_if_ne 42 cd_33_29 rfl (fun b29 => ?_) (fun b29 => ?_)
        · first | exact absurd hr0 b29 | exact R_norm (qs_c rfl (qs_c rfl (qs_c rfl (qs_c rfl (qs_c rfl (qs_c rfl (qs_c rfl qs_n))))))) tl
        · refine R_iload cd_33_32 rfl ?_
          refine R_if_ne 42 cd_33_34 rfl (fun b34 => ?_) (fun b34 => ?_)
          · first | exact absurd hr0 b29 | exact R_norm (qs_c rfl (qs_c rfl (qs_c rfl (qs_c rfl (qs_c rfl (qs_c rfl (qs_c rfl qs_n))))))) tl
          · exact absurd b34 (by decide)
    · have ks := K_Farm_sell0 (M := qa_upd N 25 m (M 25 m + qc_wr M m)) (m := m) (by rw [qa_upd_n (by decide), eN 5 (by decide) (by decide) (by decide)]; exact v2.1) (by rw [qa_upd_n (by decide), eN 5 (by decide) (by decide) (by decide)]; exact v2.2) (by show qc_wb N < 0; unfold qc_wb; rw [eN 5 (by decide) (by decide) (by decide), eN 28 (by decide) (by decide) (by decide), eN 27 (by decide) (by decide) (by decide)]; exact Int.not_le.mp hb)
      have ew : qw_h (M 25 m) (qc_wr M m) (qc_wb M) = qf_cool (M 25 m) := by unfold qw_h; rw [qx_f (fun z => z hr0), qx_f hb]
      have kc := K_Farm_cool (M := qa_upd N 25 m (M 25 m + qc_wr M m)) (m := m) h1 (by omega) (by rw [qa_upd_e]; omega)
      rw [qa_upd_e, qa_upd_2] at kc
      have em : qa_upd (qa_upd N 25 m (qf_cool (M 25 m + qc_wr M m))) 26 m (qb (20 ≤ qf_cool (M 25 m))) = qc_wM M m := by
        unfold qc_wM
        dsimp only
        rw [← hN, qx_f (fun z => hb z.2), ew, hr0, Int.add_zero]
      have tl := tail _ 0 (qf_cool (M 25 m)) (by rw [qa_upd_e, hr0, Int.add_zero]) (Or.inl rfl) em (by unfold qc_wx; rw [qb_f (fun z => hb z.2)])
      refine R_aload cd_33_0 rfl ?_
      refine R_iload cd_33_1 rfl ?_
      refine R_aload cd_33_2 rfl ?_
      refine R_aload cd_33_3 rfl ?_
      refine R_aload cd_33_4 rfl ?_
      refine R_call5 cd_33_6 rfl rfl kr ?_
      refine R_istore cd_33_9 ?_
      refine R_iload cd_33_11 rfl ?_
      refine R_if_ne 24 cd_33_13 rfl (fun b13 => ?_) (fun b13 => ?_)
      · exact absurd hr0 b13
      · refine R_aload cd_33_16 rfl ?_
        refine R_iload cd_33_17 rfl ?_
        refine R_call2 cd_33_18 rfl rfl ks ?_
        refine R_goto cd_33_21 ?_
        refine R_istore cd_33_25 ?_
        refine R_iload cd_33_27 rfl ?_
        refine R_if_ne 42 cd_33_29 rfl (fun b29 => ?_) (fun b29 => ?_)
        · first | exact absurd hr0 b29 | exact absurd rfl b34 | exact R_norm (qs_c rfl (qs_c rfl (qs_c rfl (qs_c rfl (qs_c rfl (qs_c rfl (qs_c rfl qs_n))))))) tl
        · refine R_iload cd_33_32 rfl ?_
          refine R_if_ne 42 cd_33_34 rfl (fun b34 => ?_) (fun b34 => ?_)
          · first | exact absurd hr0 b29 | exact absurd rfl b34 | exact R_norm (qs_c rfl (qs_c rfl (qs_c rfl (qs_c rfl (qs_c rfl (qs_c rfl (qs_c rfl qs_n))))))) tl
          · refine R_aload cd_33_37 rfl ?_
            refine R_iload cd_33_38 rfl ?_
            refine R_callv2 cd_33_39 rfl rfl kc ?_
            first | exact absurd hr0 b29 | exact absurd rfl b34 | exact R_norm (qs_c rfl (qs_c rfl (qs_c rfl (qs_c rfl (qs_c rfl (qs_c rfl (qs_c rfl qs_n))))))) tl
  · have ew : qw_h (M 25 m) (qc_wr M m) (qc_wb M) = M 25 m + qc_wr M m := by unfold qw_h; rw [qx_t hr0]
    have em : qa_upd (qa_upd N 25 m (M 25 m + qc_wr M m)) 26 m (qb (20 ≤ M 25 m + qc_wr M m)) = qc_wM M m := by
      unfold qc_wM
      dsimp only
      rw [← hN, qx_f (fun z => hr0 z.1), ew]
    have tl := tail _ 0 (M 25 m + qc_wr M m) (by rw [qa_upd_e]) (Or.inl rfl) em (by unfold qc_wx; rw [qb_f (fun z => hr0 z.1)])
    refine R_aload cd_33_0 rfl ?_
    refine R_iload cd_33_1 rfl ?_
    refine R_aload cd_33_2 rfl ?_
    refine R_aload cd_33_3 rfl ?_
    refine R_aload cd_33_4 rfl ?_
    refine R_call5 cd_33_6 rfl rfl kr ?_
    refine R_istore cd_33_9 ?_
    refine R_iload cd_33_11 rfl ?_
    refine R_if_ne 24 cd_33_13 rfl (fun b13 => ?_) (fun b13 => ?_)
    · refine R_push cd_33_24 ?_
      refine R_istore cd_33_25 ?_
      refine R_iload cd_33_27 rfl ?_
      refine R_if_ne 42 cd_33_29 rfl (fun b29 => ?_) (fun b29 => ?_)
      · exact R_norm (qs_c rfl (qs_c rfl (qs_c rfl (qs_c rfl (qs_c rfl (qs_c rfl (qs_c rfl qs_n))))))) tl
      · exact absurd b29 hr0
    · exact absurd b13 hr0
theorem qc_rM_v {M : qa_Mem} {m : Int} (hv : qc_fv M) (h1 : 0 ≤ m) (h2 : m < M 5 3) : qc_fv (qc_rM M m) := by
  obtain ⟨⟨v1, v2, v3, v4, v5⟩, v6, v7⟩ := hv
  refine ⟨⟨v1, v2, fun k k1 k2 => ?_, v4, v5⟩, v6, v7⟩
  obtain ⟨t1, t2, t3, t4⟩ := v3 k k1 k2
  by_cases hk : k = m
  · subst hk
    have e1 : (qc_rM M k) 25 k = qf_cool (M 25 k) := by unfold qc_rM; rw [qa_upd_n (by decide), qa_upd_e]
    have e2 : (qc_rM M k) 26 k = qb (8 < qf_cool (M 25 k)) := by unfold qc_rM; rw [qa_upd_e]
    rw [e1, e2]
    have hc : 0 ≤ qf_cool (M 25 k) ∧ qf_cool (M 25 k) ≤ 20 := by unfold qf_cool; split <;> omega
    exact ⟨hc.1, by omega, qb_01 _, fun z => by have := qb_e0.mp z; omega⟩
  · have e1 : (qc_rM M m) 25 k = M 25 k := by unfold qc_rM; rw [qa_upd_n (by decide), qa_upd_i hk]
    have e2 : (qc_rM M m) 26 k = M 26 k := by unfold qc_rM; rw [qa_upd_i hk, qa_upd_n (by decide)]
    rw [e1, e2]
    exact ⟨t1, t2, t3, t4⟩
theorem qc_wM_v {M : qa_Mem} {m : Int} (hv : qc_fv M) (h1 : 0 ≤ m) (h2 : m < M 5 3) (h3 : M 26 m = 0) : qc_fv (qc_wM M m) := by
  obtain ⟨⟨v1, v2, v3, v4, v5⟩, v6, v7⟩ := hv
  have rb := qf_best_r (M 28) (M 27) (M 5 6).toNat
  rw [show qf_best (M 28) (M 27) (M 5 6).toNat = qc_wb M from rfl] at rb
  obtain ⟨N, hN⟩ : ∃ x, x = qs_rm M (qc_need M) (M 24 m) 120 := ⟨_, rfl⟩
  obtain ⟨K, hK⟩ : ∃ x, x = qx (qc_wr M m = 0 ∧ 0 ≤ qc_wb M) (qa_upd (qa_upd N 28 (qc_wb M) (M 28 (qc_wb M) - 1)) 5 7 (qa_wrap (M 5 7 + M 27 (qc_wb M)))) N := ⟨_, rfl⟩
  have hW : qc_wM M m = qa_upd (qa_upd K 25 m (qw_h (M 25 m) (qc_wr M m) (qc_wb M))) 26 m (qb (20 ≤ qw_h (M 25 m) (qc_wr M m) (qc_wb M))) := by rw [hK, hN]; rfl
  have eN : ∀ k : Nat, k ≠ 18 → k ≠ 19 → k ≠ 20 → N k = M k := by
    intro k a b c
    rw [hN]; unfold qs_rm
    rw [qa_blk_n c, qa_blk_n b, qa_blk_n a]
  have eK : ∀ k : Nat, k ≠ 18 → k ≠ 19 → k ≠ 20 → k ≠ 28 → k ≠ 5 → K k = M k := by
    intro k a b c d f
    rw [hK]
    by_cases hc : qc_wr M m = 0 ∧ 0 ≤ qc_wb M
    · rw [qx_t hc, qa_upd_n f, qa_upd_n d, eN k a b c]
    · rw [qx_f hc, eN k a b c]
  have e5 : ∀ j : Int, j ≠ 7 → K 5 j = M 5 j := by
    intro j hj
    rw [hK]
    by_cases hc : qc_wr M m = 0 ∧ 0 ≤ qc_wb M
    · rw [qx_t hc, qa_upd_i hj, qa_upd_n (by decide), eN 5 (by decide) (by decide) (by decide)]
    · rw [qx_f hc, eN 5 (by decide) (by decide) (by decide)]
  have rr := qr_c_r (qc_need M) (M 24 m) (by have := v4 m h1 h2; omega) 120
  rw [show qr_c (qc_need M) (M 24 m) 120 = qc_wr M m from rfl] at rr
  rw [hW]
  refine ⟨⟨?_, ?_, ?_, ?_, ?_⟩, ?_, ?_⟩
  · rw [qa_upd_n (by decide), qa_upd_n (by decide), e5 3 (by decide)]; exact v1
  · rw [qa_upd_n (by decide), qa_upd_n (by decide), e5 6 (by decide)]; exact v2
  · intro k k1 k2
    obtain ⟨t1, t2, t3, t4⟩ := v3 k k1 k2
    by_cases hk : k = m
    · subst hk
      have t4 := t4 h3
      have t5 := v4 k h1 h2
      have e1 : (qa_upd (qa_upd K 25 k (qw_h (M 25 k) (qc_wr M k) (qc_wb M))) 26 k (qb (20 ≤ qw_h (M 25 k) (qc_wr M k) (qc_wb M)))) 25 k = qw_h (M 25 k) (qc_wr M k) (qc_wb M) := by rw [qa_upd_n (by decide), qa_upd_e]
      have e2 : (qa_upd (qa_upd K 25 k (qw_h (M 25 k) (qc_wr M k) (qc_wb M))) 26 k (qb (20 ≤ qw_h (M 25 k) (qc_wr M k) (qc_wb M)))) 26 k = qb (20 ≤ qw_h (M 25 k) (qc_wr M k) (qc_wb M)) := qa_upd_e
      rw [e1, e2]
      have hc : 0 ≤ qw_h (M 25 k) (qc_wr M k) (qc_wb M) ∧ qw_h (M 25 k) (qc_wr M k) (qc_wb M) ≤ 24 := by
        unfold qw_h
        by_cases c1 : qc_wr M k ≠ 0
        · rw [qx_t c1]; omega
        · rw [qx_f c1]
          by_cases c2 : 0 ≤ qc_wb M
          · rw [qx_t c2]; omega
          · rw [qx_f c2]; unfold qf_cool; split <;> omega
      exact ⟨hc.1, hc.2, qb_01 _, fun z => by have := qb_e0.mp z; omega⟩
    · have e1 : (qa_upd (qa_upd K 25 m (qw_h (M 25 m) (qc_wr M m) (qc_wb M))) 26 m (qb (20 ≤ qw_h (M 25 m) (qc_wr M m) (qc_wb M)))) 25 k = M 25 k := by rw [qa_upd_n (by decide), qa_upd_i hk, eK 25 (by decide) (by decide) (by decide) (by decide) (by decide)]
      have e2 : (qa_upd (qa_upd K 25 m (qw_h (M 25 m) (qc_wr M m) (qc_wb M))) 26 m (qb (20 ≤ qw_h (M 25 m) (qc_wr M m) (qc_wb M)))) 26 k = M 26 k := by rw [qa_upd_i hk, qa_upd_n (by decide), eK 26 (by decide) (by decide) (by decide) (by decide) (by decide)]
      rw [e1, e2]
      exact ⟨t1, t2, t3, t4⟩
  · rw [qa_upd_n (by decide), qa_upd_n (by decide), qa_upd_n (by decide), qa_upd_n (by decide), e5 3 (by decide), eK 24 (by decide) (by decide) (by decide) (by decide) (by decide)]
    exact v4
  · rw [qa_upd_n (by decide), qa_upd_n (by decide), qa_upd_n (by decide), qa_upd_n (by decide), qa_upd_n (by decide), qa_upd_n (by decide), e5 6 (by decide), eK 27 (by decide) (by decide) (by decide) (by decide) (by decide)]
    intro o o1 o2
    have w := v5 o o1 o2
    refine ⟨?_, w.2⟩
    rw [hK]
    by_cases hc : qc_wr M m = 0 ∧ 0 ≤ qc_wb M
    · rw [qx_t hc, qa_upd_n (by decide)]
      by_cases ho : o = qc_wb M
      · subst ho
        rw [qa_upd_e]
        have := rb.2.2 hc.2
        omega
      · rw [qa_upd_i ho, eN 28 (by decide) (by decide) (by decide)]; exact w.1
    · rw [qx_f hc, eN 28 (by decide) (by decide) (by decide)]; exact w.1
  · rw [qa_upd_n (by decide), qa_upd_n (by decide), eK 1 (by decide) (by decide) (by decide) (by decide) (by decide)]; exact v6
  · rw [qa_upd_n (by decide), qa_upd_n (by decide), eK 1 (by decide) (by decide) (by decide) (by decide) (by decide)]; exact v7
end
section
theorem qc_wM_m {M : qa_Mem} {m : Int} : (qc_wM M m) 5 3 = M 5 3 := by
  unfold qc_wM
  rw [qa_upd_n (by decide), qa_upd_n (by decide)]
  by_cases hc : qc_wr M m = 0 ∧ 0 ≤ qc_wb M
  · rw [qx_t hc, qa_upd_i (by decide), qa_upd_n (by decide)]; rfl
  · rw [qx_f hc]; rfl
theorem qc_h_v {q : Int × qa_Mem} {m : Int} (hv : qc_fv q.2) (h1 : 0 ≤ m) (h2 : m < q.2 5 3) : qc_fv (qc_h m q).2 ∧ (qc_h m q).2 5 3 = q.2 5 3 := by
  unfold qc_h
  by_cases hr : q.2 26 m ≠ 0
  · rw [qx_t hr]
    exact ⟨qc_rM_v hv h1 h2, rfl⟩
  · rw [qx_f hr]
    exact ⟨qc_wM_v hv h1 h2 (Classical.byContradiction hr), qc_wM_m⟩
theorem qc_ms_v {q : Int × qa_Mem} (hv : qc_fv q.2) (k : Nat) (hk : (k : Int) ≤ q.2 5 3) : qc_fv (qc_ms q k).2 ∧ (qc_ms q k).2 5 3 = q.2 5 3 := by
  induction k with
  | zero => exact ⟨hv, rfl⟩
  | succ k ih =>
    obtain ⟨i1, i2⟩ := ih (by omega)
    have := qc_h_v (m := k) i1 (by omega) (by omega)
    exact ⟨this.1, this.2.trans i2⟩
theorem qc_hs_v {q : Int × qa_Mem} (hv : qc_fv q.2) (k : Nat) (hk : (k : Int) ≤ q.2 5 3) (n : Nat) : qc_fv (qc_hs q k n).2 ∧ (qc_hs q k n).2 5 3 = q.2 5 3 := by
  induction n with
  | zero => exact ⟨hv, rfl⟩
  | succ n ih =>
    have := qc_ms_v ih.1 k (by rw [ih.2]; exact hk)
    exact ⟨this.1, this.2.trans ih.2⟩
theorem K_Farm_passHours {h : Int} {M : qa_Mem} (hv : qc_fv M) (h1 : 0 ≤ h) (h2 : h ≤ 24) : qa_E 31 0 [(0, qr 5), (1, qi (h)), (2, qr (4)), (3, qr (3)), (4, qr (1))] [] (M) (.inl (some (qi ((qc_hs (0, M) (M 5 3).toNat h.toNat).1)))) ((qc_hs (0, M) (M 5 3).toNat h.toNat).2) := by
  obtain ⟨nM, hnM⟩ : ∃ x, x = M 5 3 := ⟨_, rfl⟩
  have hm := hv.1.1
  rw [← hnM] at hm ⊢
  obtain ⟨R, hR⟩ : ∃ x, x = qc_hs (0, M) nM.toNat h.toNat := ⟨_, rfl⟩
  rw [← hR]
  have outer : ∀ (k : Nat) (j : Nat), j + k = h.toNat → qa_E 31 6 [(0, qr 5), (1, qi h), (2, qr 4), (3, qr 3), (4, qr 1), (5, qi (qc_hs (0, M) nM.toNat j).1), (6, qi j)] [] (qc_hs (0, M) nM.toNat j).2 (.inl (some (qi R.1))) R.2 := by
    intro k
    induction k with
    | zero =>
      intro j g1
      obtain rfl : j = h.toNat := by omega
      rw [← hR]
      refine R_iload cd_31_6 rfl ?_
      refine R_iload cd_31_8 rfl ?_
      refine R_icmp_ge 70 cd_31_9 rfl (fun b9 => ?_) (fun b9 => ?_)
      · refine R_iload cd_31_70 rfl ?_
        exact R_iret cd_31_72 (by first | rfl | omega) rfl
      · omega
    | succ k ih =>
      intro j g1
      have e := ih (j + 1) (by omega)
      rw [show qc_hs (0, M) nM.toNat (j + 1) = qc_ms (qc_hs (0, M) nM.toNat j) nM.toNat from rfl, Int.natCast_add] at e
      obtain ⟨v1, v2⟩ := qc_hs_v (q := (0, M)) hv nM.toNat (by show ((nM.toNat : Nat) : Int) ≤ M 5 3; omega) j
      obtain ⟨q, hq⟩ : ∃ x, x = qc_hs (0, M) nM.toNat j := ⟨_, rfl⟩
      rw [← hq] at e v1 v2 ⊢
      have v2 : q.2 5 3 = nM := v2.trans hnM.symm
      have inner : ∀ (k : Nat) (i : Nat), i + k = nM.toNat → qa_E 31 15 [(0, qr 5), (1, qi h), (2, qr 4), (3, qr 3), (4, qr 1), (5, qi (qc_ms q i).1), (6, qi j), (7, qi i)] [] (qc_ms q i).2 (.inl (some (qi R.1))) R.2 := by
        intro k
        induction k with
        | zero =>
          intro i f1
          obtain rfl : i = nM.toNat := by omega
          obtain ⟨w1, w2⟩ := qc_ms_v v1 nM.toNat (by omega)
          refine R_iload cd_31_15 rfl ?_
          refine R_aload cd_31_17 rfl ?_
          refine R_getf cd_31_18 rfl (by decide) ?_
          refine R_icmp_ge 64 cd_31_21 rfl (fun b21 => ?_) (fun b21 => ?_)
          · refine R_iinc cd_31_64 rfl (by unfold qa_InR; first | omega | (simp [qa_upd, qa_blk] <;> omega)) ?_
            refine R_goto cd_31_67 ?_
            exact R_norm (qs_c rfl (qs_c rfl (qs_c rfl (qs_c rfl (qs_c rfl (qs_c rfl (qs_c rfl qs_n))))))) e
          · omega
        | succ k ih3 =>
          intro i f1
          have e3 := ih3 (i + 1) (by omega)
          obtain ⟨w1, w2⟩ := qc_ms_v v1 i (by omega)
          have w0 := w1.1.2.2.1 i (by omega) (by omega)
          rw [show qc_ms q (i + 1) = qc_h i (qc_ms q i) from rfl, Int.natCast_add] at e3
          obtain ⟨p, hp⟩ : ∃ x, x = qc_ms q i := ⟨_, rfl⟩
          rw [← hp] at e3 w1 w2 w0 ⊢
          unfold qc_h at e3
          refine R_iload cd_31_15 rfl ?_
          refine R_aload cd_31_17 rfl ?_
          refine R_getf cd_31_18 rfl (by decide) ?_
          refine R_icmp_ge 64 cd_31_21 rfl (fun b21 => ?_) (fun b21 => ?_)
          · omega
          · refine R_iload cd_31_24 rfl ?_
            refine R_aload cd_31_26 rfl ?_
            refine R_getr cd_31_27 rfl ?_
            refine R_iload cd_31_30 rfl ?_
            refine R_zald cd_31_32 rfl (by omega) (by omega) ?_
            refine R_if_eq 45 cd_31_33 rfl (fun b33 => ?_) (fun b33 => ?_)
            · rw [qx_f (fun z => z b33)] at e3
              refine R_aload cd_31_45 rfl ?_
              refine R_iload cd_31_46 rfl ?_
              refine R_aload cd_31_48 rfl ?_
              refine R_aload cd_31_49 rfl ?_
              refine R_aload cd_31_50 rfl ?_
              refine R_call5 cd_31_52 rfl rfl (K_Farm_work w1 (by omega) (by omega) b33) ?_
              refine R_iaddw cd_31_55 ?_
              refine R_istore cd_31_56 ?_
              refine R_iinc cd_31_58 rfl (by unfold qa_InR; first | omega | (simp [qa_upd, qa_blk] <;> omega)) ?_
              refine R_goto cd_31_61 ?_
              exact R_norm (qs_c rfl (qs_c rfl (qs_c rfl (qs_c rfl (qs_c rfl (qs_c rfl (qs_c rfl (qs_c rfl qs_n)))))))) e3
            · rw [qx_t b33] at e3
              refine R_aload cd_31_36 rfl ?_
              refine R_iload cd_31_37 rfl ?_
              refine R_call2 cd_31_39 rfl rfl (K_Farm_rest (by omega) (by omega) (by omega)) ?_
              refine R_goto cd_31_42 ?_
              refine R_iaddw cd_31_55 ?_
              refine R_istore cd_31_56 ?_
              refine R_iinc cd_31_58 rfl (by unfold qa_InR; first | omega | (simp [qa_upd, qa_blk] <;> omega)) ?_
              refine R_goto cd_31_61 ?_
              exact R_norm (qs_c rfl (qs_c rfl (qs_c rfl (qs_c rfl (qs_c rfl (qs_c rfl (qs_c rfl (qs_c rfl qs_n)))))))) e3
      refine R_iload cd_31_6 rfl ?_
      refine R_iload cd_31_8 rfl ?_
      refine R_icmp_ge 70 cd_31_9 rfl (fun b9 => ?_) (fun b9 => ?_)
      · omega
      · refine R_push cd_31_12 ?_
        refine R_istore cd_31_13 ?_
        exact R_norm (qs_c rfl (qs_c rfl (qs_c rfl (qs_c rfl (qs_c rfl (qs_c rfl (qs_c rfl (qs_c rfl qs_n)))))))) (inner nM.toNat 0 (Nat.zero_add _))
  refine R_push cd_31_0 ?_
  refine R_istore cd_31_1 ?_
  refine R_push cd_31_3 ?_
  refine R_istore cd_31_4 ?_
  exact R_norm (qs_c rfl (qs_c rfl (qs_c rfl (qs_c rfl (qs_c rfl (qs_c rfl (qs_c rfl qs_n))))))) (outer h.toNat 0 (Nat.zero_add _))
end
section
/-! the class's face -/
theorem K_Court_bone1 {p x y : Int} {M : qa_Mem} (h1 : 0 ≤ M 1 3) (h2 : M 1 3 ≤ 8) (h3 : ¬ (p = -1 ∨ 0 ≤ p ∧ p ≤ M 1 3 - 1)) : qa_E 111 0 [(0, qr 0), (1, qi (p)), (2, qi (x)), (3, qi (y))] [] (M) (.inr 1) (qa_upd M 99 0 (M 99 0 + 1)) := by
  refine R_iload cd_111_0 rfl ?_
  refine R_push cd_111_1 ?_
  refine R_icmp_eq 16 cd_111_2 rfl (fun b2 => ?_) (fun b2 => ?_)
  · refine R_push cd_111_16 ?_
    refine R_goto cd_111_17 ?_
    exfalso
    omega
  · refine R_aload cd_111_5 rfl ?_
    refine R_getr cd_111_6 rfl ?_
    refine R_iload cd_111_9 rfl ?_
    refine R_call2 cd_111_10 rfl rfl (K_Rig_hasBone (by omega) (by omega)) ?_
    refine R_ifeq_b 20 cd_111_13 rfl (fun b13 => ?_) (fun b13 => ?_)
    · refine R_push cd_111_20 ?_
      exact R_callx1 cd_111_21 rfl rfl rfl (K_Court_mustExistX rfl) rfl rfl
    · refine R_push cd_111_16 ?_
      refine R_goto cd_111_17 ?_
      exfalso
      omega
theorem K_Court_bone2 {p x y : Int} {M : qa_Mem} (h1 : 0 ≤ M 1 3) (h2 : M 1 3 ≤ 8) (h3 : p = -1 ∨ 0 ≤ p ∧ p ≤ M 1 3 - 1) (h4 : ¬ ((-100 ≤ x ∧ x ≤ 100) ∧ (-100 ≤ y ∧ y ≤ 100))) : qa_E 111 0 [(0, qr 0), (1, qi (p)), (2, qi (x)), (3, qi (y))] [] (M) (.inr 2) (qa_upd M 99 0 (M 99 0 + 1)) := by
  refine R_iload cd_111_0 rfl ?_
  refine R_push cd_111_1 ?_
  refine R_icmp_eq 16 cd_111_2 rfl (fun b2 => ?_) (fun b2 => ?_)
  · refine R_push cd_111_16 ?_
    refine R_goto cd_111_17 ?_
    refine R_callv1 cd_111_21 rfl rfl (K_Court_mustExist (by decide)) ?_
    refine R_iload cd_111_24 rfl ?_
    refine R_push cd_111_25 ?_
    refine R_push cd_111_27 ?_
    refine R_call3 cd_111_29 rfl rfl K_Court_isWithin ?_
    refine R_ifeq_b 50 cd_111_32 rfl (fun b32 => ?_) (fun b32 => ?_)
    · refine R_push cd_111_50 ?_
      exact R_callx1 cd_111_51 rfl rfl rfl (K_Court_mustFitX rfl) rfl rfl
    · refine R_iload cd_111_35 rfl ?_
      refine R_push cd_111_36 ?_
      refine R_push cd_111_38 ?_
      refine R_call3 cd_111_40 rfl rfl K_Court_isWithin ?_
      refine R_ifeq_b 50 cd_111_43 rfl (fun b43 => ?_) (fun b43 => ?_)
      · refine R_push cd_111_50 ?_
        exact R_callx1 cd_111_51 rfl rfl rfl (K_Court_mustFitX rfl) rfl rfl
      · refine R_push cd_111_46 ?_
        refine R_goto cd_111_47 ?_
        exfalso
        omega
  · refine R_aload cd_111_5 rfl ?_
    refine R_getr cd_111_6 rfl ?_
    refine R_iload cd_111_9 rfl ?_
    refine R_call2 cd_111_10 rfl rfl (K_Rig_hasBone (by omega) (by omega)) ?_
    refine R_ifeq_b 20 cd_111_13 rfl (fun b13 => ?_) (fun b13 => ?_)
    · refine R_push cd_111_20 ?_
      exfalso
      omega
    · refine R_push cd_111_16 ?_
      refine R_goto cd_111_17 ?_
      refine R_callv1 cd_111_21 rfl rfl (K_Court_mustExist (by decide)) ?_
      refine R_iload cd_111_24 rfl ?_
      refine R_push cd_111_25 ?_
      refine R_push cd_111_27 ?_
      refine R_call3 cd_111_29 rfl rfl K_Court_isWithin ?_
      refine R_ifeq_b 50 cd_111_32 rfl (fun b32 => ?_) (fun b32 => ?_)
      · refine R_push cd_111_50 ?_
        exact R_callx1 cd_111_51 rfl rfl rfl (K_Court_mustFitX rfl) rfl rfl
      · refine R_iload cd_111_35 rfl ?_
        refine R_push cd_111_36 ?_
        refine R_push cd_111_38 ?_
        refine R_call3 cd_111_40 rfl rfl K_Court_isWithin ?_
        refine R_ifeq_b 50 cd_111_43 rfl (fun b43 => ?_) (fun b43 => ?_)
        · refine R_push cd_111_50 ?_
          exact R_callx1 cd_111_51 rfl rfl rfl (K_Court_mustFitX rfl) rfl rfl
        · refine R_push cd_111_46 ?_
          refine R_goto cd_111_47 ?_
          exfalso
          omega
theorem K_Court_bone3 {p x y : Int} {M : qa_Mem} (h1 : 0 ≤ M 1 3) (h2 : M 1 3 = 8) (h3 : p = -1 ∨ 0 ≤ p ∧ p ≤ M 1 3 - 1) (h4 : (-100 ≤ x ∧ x ≤ 100) ∧ (-100 ≤ y ∧ y ≤ 100)) : qa_E 111 0 [(0, qr 0), (1, qi (p)), (2, qi (x)), (3, qi (y))] [] (M) (.inr 3) (qa_upd M 99 0 (M 99 0 + 1)) := by
  refine R_iload cd_111_0 rfl ?_
  refine R_push cd_111_1 ?_
  refine R_icmp_eq 16 cd_111_2 rfl (fun b2 => ?_) (fun b2 => ?_)
  · refine R_push cd_111_16 ?_
    refine R_goto cd_111_17 ?_
    refine R_callv1 cd_111_21 rfl rfl (K_Court_mustExist (by decide)) ?_
    refine R_iload cd_111_24 rfl ?_
    refine R_push cd_111_25 ?_
    refine R_push cd_111_27 ?_
    refine R_call3 cd_111_29 rfl rfl K_Court_isWithin ?_
    refine R_ifeq_b 50 cd_111_32 rfl (fun b32 => ?_) (fun b32 => ?_)
    · refine R_push cd_111_50 ?_
      exfalso
      omega
    · refine R_iload cd_111_35 rfl ?_
      refine R_push cd_111_36 ?_
      refine R_push cd_111_38 ?_
      refine R_call3 cd_111_40 rfl rfl K_Court_isWithin ?_
      refine R_ifeq_b 50 cd_111_43 rfl (fun b43 => ?_) (fun b43 => ?_)
      · refine R_push cd_111_50 ?_
        exfalso
        omega
      · refine R_push cd_111_46 ?_
        refine R_goto cd_111_47 ?_
        refine R_callv1 cd_111_51 rfl rfl (K_Court_mustFit (by decide)) ?_
        refine R_aload cd_111_54 rfl ?_
        refine R_getr cd_111_55 rfl ?_
        refine R_call1 cd_111_58 rfl rfl K_Rig_boneCount ?_
        refine R_push cd_111_61 ?_
        refine R_icmp_ge 70 cd_111_63 rfl (fun b63 => ?_) (fun b63 => ?_)
        · refine R_push cd_111_70 ?_
          exact R_callx1 cd_111_71 rfl rfl rfl (K_Court_mustBePossibleX rfl) rfl rfl
        · refine R_push cd_111_66 ?_
          refine R_goto cd_111_67 ?_
          exfalso
          omega
  · refine R_aload cd_111_5 rfl ?_
    refine R_getr cd_111_6 rfl ?_
    refine R_iload cd_111_9 rfl ?_
    refine R_call2 cd_111_10 rfl rfl (K_Rig_hasBone (by omega) (by omega)) ?_
    refine R_ifeq_b 20 cd_111_13 rfl (fun b13 => ?_) (fun b13 => ?_)
    · refine R_push cd_111_20 ?_
      exfalso
      omega
    · refine R_push cd_111_16 ?_
      refine R_goto cd_111_17 ?_
      refine R_callv1 cd_111_21 rfl rfl (K_Court_mustExist (by decide)) ?_
      refine R_iload cd_111_24 rfl ?_
      refine R_push cd_111_25 ?_
      refine R_push cd_111_27 ?_
      refine R_call3 cd_111_29 rfl rfl K_Court_isWithin ?_
      refine R_ifeq_b 50 cd_111_32 rfl (fun b32 => ?_) (fun b32 => ?_)
      · refine R_push cd_111_50 ?_
        exfalso
        omega
      · refine R_iload cd_111_35 rfl ?_
        refine R_push cd_111_36 ?_
        refine R_push cd_111_38 ?_
        refine R_call3 cd_111_40 rfl rfl K_Court_isWithin ?_
        refine R_ifeq_b 50 cd_111_43 rfl (fun b43 => ?_) (fun b43 => ?_)
        · refine R_push cd_111_50 ?_
          exfalso
          omega
        · refine R_push cd_111_46 ?_
          refine R_goto cd_111_47 ?_
          refine R_callv1 cd_111_51 rfl rfl (K_Court_mustFit (by decide)) ?_
          refine R_aload cd_111_54 rfl ?_
          refine R_getr cd_111_55 rfl ?_
          refine R_call1 cd_111_58 rfl rfl K_Rig_boneCount ?_
          refine R_push cd_111_61 ?_
          refine R_icmp_ge 70 cd_111_63 rfl (fun b63 => ?_) (fun b63 => ?_)
          · refine R_push cd_111_70 ?_
            exact R_callx1 cd_111_71 rfl rfl rfl (K_Court_mustBePossibleX rfl) rfl rfl
          · refine R_push cd_111_66 ?_
            refine R_goto cd_111_67 ?_
            exfalso
            omega
def qc_bone (M : qa_Mem) (p x y : Int) : qa_Mem := qa_upd (qa_upd (qa_upd (qa_upd M 9 (M 1 3) p) 10 (M 1 3) x) 11 (M 1 3) y) 1 3 (M 1 3 + 1)
theorem K_Court_bone0 {p x y : Int} {M : qa_Mem} (h1 : 0 ≤ M 1 3) (h2 : M 1 3 < 8) (h3 : p = -1 ∨ 0 ≤ p ∧ p ≤ M 1 3 - 1) (h4 : (-100 ≤ x ∧ x ≤ 100) ∧ (-100 ≤ y ∧ y ≤ 100)) : qa_E 111 0 [(0, qr 0), (1, qi (p)), (2, qi (x)), (3, qi (y))] [] (M) (.inl (some (qi (M 1 3)))) (qs_cmp (qc_bone M p x y) 120) := by
  have e : (qc_bone M p x y) 1 3 = M 1 3 + 1 := qa_upd_e
  refine R_iload cd_111_0 rfl ?_
  refine R_push cd_111_1 ?_
  refine R_icmp_eq 16 cd_111_2 rfl (fun b2 => ?_) (fun b2 => ?_)
  · refine R_push cd_111_16 ?_
    refine R_goto cd_111_17 ?_
    refine R_callv1 cd_111_21 rfl rfl (K_Court_mustExist (by decide)) ?_
    refine R_iload cd_111_24 rfl ?_
    refine R_push cd_111_25 ?_
    refine R_push cd_111_27 ?_
    refine R_call3 cd_111_29 rfl rfl K_Court_isWithin ?_
    refine R_ifeq_b 50 cd_111_32 rfl (fun b32 => ?_) (fun b32 => ?_)
    · refine R_push cd_111_50 ?_
      exfalso
      omega
    · refine R_iload cd_111_35 rfl ?_
      refine R_push cd_111_36 ?_
      refine R_push cd_111_38 ?_
      refine R_call3 cd_111_40 rfl rfl K_Court_isWithin ?_
      refine R_ifeq_b 50 cd_111_43 rfl (fun b43 => ?_) (fun b43 => ?_)
      · refine R_push cd_111_50 ?_
        exfalso
        omega
      · refine R_push cd_111_46 ?_
        refine R_goto cd_111_47 ?_
        refine R_callv1 cd_111_51 rfl rfl (K_Court_mustFit (by decide)) ?_
        refine R_aload cd_111_54 rfl ?_
        refine R_getr cd_111_55 rfl ?_
        refine R_call1 cd_111_58 rfl rfl K_Rig_boneCount ?_
        refine R_push cd_111_61 ?_
        refine R_icmp_ge 70 cd_111_63 rfl (fun b63 => ?_) (fun b63 => ?_)
        · refine R_push cd_111_70 ?_
          exfalso
          omega
        · refine R_push cd_111_66 ?_
          refine R_goto cd_111_67 ?_
          refine R_callv1 cd_111_71 rfl rfl (K_Court_mustBePossible (by decide)) ?_
          refine R_aload cd_111_74 rfl ?_
          refine R_getr cd_111_75 rfl ?_
          refine R_iload cd_111_78 rfl ?_
          refine R_iload cd_111_79 rfl ?_
          refine R_iload cd_111_80 rfl ?_
          refine R_call4 cd_111_81 rfl rfl (K_Rig_addBone (by omega) (by omega)) ?_
          refine R_istore cd_111_84 ?_
          refine R_aload cd_111_86 rfl ?_
          refine R_getr cd_111_87 rfl ?_
          refine R_aload cd_111_90 rfl ?_
          refine R_getr cd_111_91 rfl ?_
          refine R_callv2 cd_111_94 rfl rfl (K_Stills_compareAll (M := qc_bone M p x y) (by omega) (by omega)) ?_
          refine R_iload cd_111_97 rfl ?_
          exact R_iret cd_111_99 (by first | rfl | omega) rfl
  · refine R_aload cd_111_5 rfl ?_
    refine R_getr cd_111_6 rfl ?_
    refine R_iload cd_111_9 rfl ?_
    refine R_call2 cd_111_10 rfl rfl (K_Rig_hasBone (by omega) (by omega)) ?_
    refine R_ifeq_b 20 cd_111_13 rfl (fun b13 => ?_) (fun b13 => ?_)
    · refine R_push cd_111_20 ?_
      exfalso
      omega
    · refine R_push cd_111_16 ?_
      refine R_goto cd_111_17 ?_
      refine R_callv1 cd_111_21 rfl rfl (K_Court_mustExist (by decide)) ?_
      refine R_iload cd_111_24 rfl ?_
      refine R_push cd_111_25 ?_
      refine R_push cd_111_27 ?_
      refine R_call3 cd_111_29 rfl rfl K_Court_isWithin ?_
      refine R_ifeq_b 50 cd_111_32 rfl (fun b32 => ?_) (fun b32 => ?_)
      · refine R_push cd_111_50 ?_
        exfalso
        omega
      · refine R_iload cd_111_35 rfl ?_
        refine R_push cd_111_36 ?_
        refine R_push cd_111_38 ?_
        refine R_call3 cd_111_40 rfl rfl K_Court_isWithin ?_
        refine R_ifeq_b 50 cd_111_43 rfl (fun b43 => ?_) (fun b43 => ?_)
        · refine R_push cd_111_50 ?_
          exfalso
          omega
        · refine R_push cd_111_46 ?_
          refine R_goto cd_111_47 ?_
          refine R_callv1 cd_111_51 rfl rfl (K_Court_mustFit (by decide)) ?_
          refine R_aload cd_111_54 rfl ?_
          refine R_getr cd_111_55 rfl ?_
          refine R_call1 cd_111_58 rfl rfl K_Rig_boneCount ?_
          refine R_push cd_111_61 ?_
          refine R_icmp_ge 70 cd_111_63 rfl (fun b63 => ?_) (fun b63 => ?_)
          · refine R_push cd_111_70 ?_
            exfalso
            omega
          · refine R_push cd_111_66 ?_
            refine R_goto cd_111_67 ?_
            refine R_callv1 cd_111_71 rfl rfl (K_Court_mustBePossible (by decide)) ?_
            refine R_aload cd_111_74 rfl ?_
            refine R_getr cd_111_75 rfl ?_
            refine R_iload cd_111_78 rfl ?_
            refine R_iload cd_111_79 rfl ?_
            refine R_iload cd_111_80 rfl ?_
            refine R_call4 cd_111_81 rfl rfl (K_Rig_addBone (by omega) (by omega)) ?_
            refine R_istore cd_111_84 ?_
            refine R_aload cd_111_86 rfl ?_
            refine R_getr cd_111_87 rfl ?_
            refine R_aload cd_111_90 rfl ?_
            refine R_getr cd_111_91 rfl ?_
            refine R_callv2 cd_111_94 rfl rfl (K_Stills_compareAll (M := qc_bone M p x y) (by omega) (by omega)) ?_
            refine R_iload cd_111_97 rfl ?_
            exact R_iret cd_111_99 (by first | rfl | omega) rfl
def qp_cell (M : qa_Mem) (b c f : Int) : Prop := (0 ≤ b ∧ b ≤ M 1 3 - 1) ∧ (0 ≤ c ∧ c ≤ 2) ∧ (0 ≤ f ∧ f ≤ 119)
def qp_has (M : qa_Mem) (b c f : Int) : Prop := qf_ca (M 14) (M 2 4) (1000 * (3 * b + c) + f) 80 0 < M 2 4 ∧ M 14 (qf_ca (M 14) (M 2 4) (1000 * (3 * b + c) + f) 80 0) = 1000 * (3 * b + c) + f
theorem K_Court_key1 {b c f v a s : Int} {M : qa_Mem} (h1 : 0 ≤ M 1 3) (h2 : M 1 3 ≤ 8) (h3 : ¬ (qp_cell M b c f ∧ 0 ≤ a ∧ a ≤ 5)) : qa_E 112 0 [(0, qr 0), (1, qi (b)), (2, qi (c)), (3, qi (f)), (4, qi (v)), (5, qi (a)), (6, qi (s))] [] (M) (.inr 1) (qa_upd M 99 0 (M 99 0 + 1)) := by
  unfold qp_cell at h3
  refine R_aload cd_112_0 rfl ?_
  refine R_getr cd_112_1 rfl ?_
  refine R_iload cd_112_4 rfl ?_
  refine R_iload cd_112_5 rfl ?_
  refine R_iload cd_112_6 rfl ?_
  refine R_call4 cd_112_7 rfl rfl (K_Rig_hasCell (by omega) (by omega)) ?_
  refine R_ifeq_b 27 cd_112_10 rfl (fun b10 => ?_) (fun b10 => ?_)
  · refine R_push cd_112_27 ?_
    exact R_callx1 cd_112_28 rfl rfl rfl (K_Court_mustExistX rfl) rfl rfl
  · refine R_iload cd_112_13 rfl ?_
    refine R_push cd_112_15 ?_
    refine R_push cd_112_16 ?_
    refine R_call3 cd_112_17 rfl rfl K_Court_isWithin ?_
    refine R_ifeq_b 27 cd_112_20 rfl (fun b20 => ?_) (fun b20 => ?_)
    · refine R_push cd_112_27 ?_
      exact R_callx1 cd_112_28 rfl rfl rfl (K_Court_mustExistX rfl) rfl rfl
    · refine R_push cd_112_23 ?_
      refine R_goto cd_112_24 ?_
      exfalso
      omega
theorem K_Court_key2 {b c f v a s : Int} {M : qa_Mem} (h1 : 0 ≤ M 1 3) (h2 : M 1 3 ≤ 8) (h3 : qp_cell M b c f ∧ 0 ≤ a ∧ a ≤ 5) (h4 : ¬ ((c = 2 → (0 ≤ v ∧ v ≤ 3) ∧ s = 0) ∧ (c ≠ 2 → -200 ≤ v ∧ v ≤ 200))) : qa_E 112 0 [(0, qr 0), (1, qi (b)), (2, qi (c)), (3, qi (f)), (4, qi (v)), (5, qi (a)), (6, qi (s))] [] (M) (.inr 2) (qa_upd M 99 0 (M 99 0 + 1)) := by
  unfold qp_cell at h3
  refine R_aload cd_112_0 rfl ?_
  refine R_getr cd_112_1 rfl ?_
  refine R_iload cd_112_4 rfl ?_
  refine R_iload cd_112_5 rfl ?_
  refine R_iload cd_112_6 rfl ?_
  refine R_call4 cd_112_7 rfl rfl (K_Rig_hasCell (by omega) (by omega)) ?_
  refine R_ifeq_b 27 cd_112_10 rfl (fun b10 => ?_) (fun b10 => ?_)
  · refine R_push cd_112_27 ?_
    exfalso
    omega
  · refine R_iload cd_112_13 rfl ?_
    refine R_push cd_112_15 ?_
    refine R_push cd_112_16 ?_
    refine R_call3 cd_112_17 rfl rfl K_Court_isWithin ?_
    refine R_ifeq_b 27 cd_112_20 rfl (fun b20 => ?_) (fun b20 => ?_)
    · refine R_push cd_112_27 ?_
      exfalso
      omega
    · refine R_push cd_112_23 ?_
      refine R_goto cd_112_24 ?_
      refine R_callv1 cd_112_28 rfl rfl (K_Court_mustExist (by decide)) ?_
      refine R_iload cd_112_31 rfl ?_
      refine R_push cd_112_32 ?_
      refine R_icmp_ne 59 cd_112_33 rfl (fun b33 => ?_) (fun b33 => ?_)
      · refine R_iload cd_112_59 rfl ?_
        refine R_push cd_112_61 ?_
        refine R_push cd_112_64 ?_
        refine R_call3 cd_112_67 rfl rfl K_Court_isWithin ?_
        exact R_callx1 cd_112_70 rfl rfl rfl (K_Court_mustFitX (qb_f (by omega))) rfl rfl
      · refine R_iload cd_112_36 rfl ?_
        refine R_push cd_112_38 ?_
        refine R_push cd_112_39 ?_
        refine R_call3 cd_112_40 rfl rfl K_Court_isWithin ?_
        refine R_ifeq_b 55 cd_112_43 rfl (fun b43 => ?_) (fun b43 => ?_)
        · refine R_push cd_112_55 ?_
          refine R_goto cd_112_56 ?_
          exact R_callx1 cd_112_70 rfl rfl rfl (K_Court_mustFitX rfl) rfl rfl
        · refine R_iload cd_112_46 rfl ?_
          refine R_if_ne 55 cd_112_48 rfl (fun b48 => ?_) (fun b48 => ?_)
          · refine R_push cd_112_55 ?_
            refine R_goto cd_112_56 ?_
            exact R_callx1 cd_112_70 rfl rfl rfl (K_Court_mustFitX rfl) rfl rfl
          · refine R_push cd_112_51 ?_
            refine R_goto cd_112_52 ?_
            exfalso
            omega
theorem K_Court_key3 {b c f v a s : Int} {M : qa_Mem} (h1 : 0 ≤ M 1 3) (h2 : M 1 3 ≤ 8) (h3 : qp_cell M b c f ∧ 0 ≤ a ∧ a ≤ 5) (h4 : (c = 2 → (0 ≤ v ∧ v ≤ 3) ∧ s = 0) ∧ (c ≠ 2 → -200 ≤ v ∧ v ≤ 200)) (h5 : 0 ≤ M 2 4) (h6 : M 2 4 = 80) (h7 : ¬ qp_has M b c f) : qa_E 112 0 [(0, qr 0), (1, qi (b)), (2, qi (c)), (3, qi (f)), (4, qi (v)), (5, qi (a)), (6, qi (s))] [] (M) (.inr 3) (qa_upd M 99 0 (M 99 0 + 1)) := by
  unfold qp_cell at h3
  unfold qp_has at h7
  refine R_aload cd_112_0 rfl ?_
  refine R_getr cd_112_1 rfl ?_
  refine R_iload cd_112_4 rfl ?_
  refine R_iload cd_112_5 rfl ?_
  refine R_iload cd_112_6 rfl ?_
  refine R_call4 cd_112_7 rfl rfl (K_Rig_hasCell (by omega) (by omega)) ?_
  refine R_ifeq_b 27 cd_112_10 rfl (fun b10 => ?_) (fun b10 => ?_)
  · refine R_push cd_112_27 ?_
    exfalso
    omega
  · refine R_iload cd_112_13 rfl ?_
    refine R_push cd_112_15 ?_
    refine R_push cd_112_16 ?_
    refine R_call3 cd_112_17 rfl rfl K_Court_isWithin ?_
    refine R_ifeq_b 27 cd_112_20 rfl (fun b20 => ?_) (fun b20 => ?_)
    · refine R_push cd_112_27 ?_
      exfalso
      omega
    · refine R_push cd_112_23 ?_
      refine R_goto cd_112_24 ?_
      refine R_callv1 cd_112_28 rfl rfl (K_Court_mustExist (by decide)) ?_
      refine R_iload cd_112_31 rfl ?_
      refine R_push cd_112_32 ?_
      refine R_icmp_ne 59 cd_112_33 rfl (fun b33 => ?_) (fun b33 => ?_)
      · refine R_iload cd_112_59 rfl ?_
        refine R_push cd_112_61 ?_
        refine R_push cd_112_64 ?_
        refine R_call3 cd_112_67 rfl rfl K_Court_isWithin ?_
        refine R_callv1 cd_112_70 rfl rfl (K_Court_mustFit (qb_n0.mpr (by omega))) ?_
        refine R_iload cd_112_73 rfl ?_
        refine R_iload cd_112_74 rfl ?_
        refine R_call2 cd_112_75 rfl rfl (K_Court_trackOf (by omega) (by omega) (by omega) (by omega)) ?_
        refine R_istore cd_112_78 ?_
        refine R_aload cd_112_80 rfl ?_
        refine R_getr cd_112_81 rfl ?_
        refine R_iload cd_112_84 rfl ?_
        refine R_iload cd_112_86 rfl ?_
        refine R_call3 cd_112_87 rfl rfl (K_Rig_hasKey (by omega) (by omega) (by omega) (by omega) (by omega) (by omega)) ?_
        refine R_ifne_b 105 cd_112_90 rfl (fun b90 => ?_) (fun b90 => ?_)
        · refine R_push cd_112_105 ?_
          refine R_goto cd_112_106 ?_
          exfalso
          omega
        · refine R_aload cd_112_93 rfl ?_
          refine R_getr cd_112_94 rfl ?_
          refine R_call1 cd_112_97 rfl rfl K_Rig_keyCount ?_
          refine R_push cd_112_100 ?_
          refine R_icmp_ge 109 cd_112_102 rfl (fun b102 => ?_) (fun b102 => ?_)
          · refine R_push cd_112_109 ?_
            exact R_callx1 cd_112_110 rfl rfl rfl (K_Court_mustBePossibleX rfl) rfl rfl
          · refine R_push cd_112_105 ?_
            refine R_goto cd_112_106 ?_
            exfalso
            omega
      · refine R_iload cd_112_36 rfl ?_
        refine R_push cd_112_38 ?_
        refine R_push cd_112_39 ?_
        refine R_call3 cd_112_40 rfl rfl K_Court_isWithin ?_
        refine R_ifeq_b 55 cd_112_43 rfl (fun b43 => ?_) (fun b43 => ?_)
        · refine R_push cd_112_55 ?_
          refine R_goto cd_112_56 ?_
          exfalso
          omega
        · refine R_iload cd_112_46 rfl ?_
          refine R_if_ne 55 cd_112_48 rfl (fun b48 => ?_) (fun b48 => ?_)
          · refine R_push cd_112_55 ?_
            refine R_goto cd_112_56 ?_
            exfalso
            omega
          · refine R_push cd_112_51 ?_
            refine R_goto cd_112_52 ?_
            refine R_callv1 cd_112_70 rfl rfl (K_Court_mustFit (by decide)) ?_
            refine R_iload cd_112_73 rfl ?_
            refine R_iload cd_112_74 rfl ?_
            refine R_call2 cd_112_75 rfl rfl (K_Court_trackOf (by omega) (by omega) (by omega) (by omega)) ?_
            refine R_istore cd_112_78 ?_
            refine R_aload cd_112_80 rfl ?_
            refine R_getr cd_112_81 rfl ?_
            refine R_iload cd_112_84 rfl ?_
            refine R_iload cd_112_86 rfl ?_
            refine R_call3 cd_112_87 rfl rfl (K_Rig_hasKey (by omega) (by omega) (by omega) (by omega) (by omega) (by omega)) ?_
            refine R_ifne_b 105 cd_112_90 rfl (fun b90 => ?_) (fun b90 => ?_)
            · refine R_push cd_112_105 ?_
              refine R_goto cd_112_106 ?_
              exfalso
              omega
            · refine R_aload cd_112_93 rfl ?_
              refine R_getr cd_112_94 rfl ?_
              refine R_call1 cd_112_97 rfl rfl K_Rig_keyCount ?_
              refine R_push cd_112_100 ?_
              refine R_icmp_ge 109 cd_112_102 rfl (fun b102 => ?_) (fun b102 => ?_)
              · refine R_push cd_112_109 ?_
                exact R_callx1 cd_112_110 rfl rfl rfl (K_Court_mustBePossibleX rfl) rfl rfl
              · refine R_push cd_112_105 ?_
                refine R_goto cd_112_106 ?_
                exfalso
                omega
noncomputable def qc_key (M : qa_Mem) (b c f v a s : Int) : qa_Mem := qs_cmp (qt_M (qk_put M (1000 * (3 * b + c) + f) v a s) (3 * b + c) 120) 120
theorem K_Court_key0 {b c f v a s : Int} {M : qa_Mem} (h1 : 0 ≤ M 1 3) (h2 : M 1 3 ≤ 8) (h3 : qp_cell M b c f ∧ 0 ≤ a ∧ a ≤ 5) (h4 : (c = 2 → (0 ≤ v ∧ v ≤ 3) ∧ s = 0) ∧ (c ≠ 2 → -200 ≤ v ∧ v ≤ 200)) (h5 : 0 ≤ M 2 4) (h6 : M 2 4 ≤ 80) (h7 : M 2 4 < 80 ∨ qp_has M b c f) (h8 : s = 0 ∨ s = 1) (h9 : ∀ j, 0 ≤ j → j < 80 → M 17 j = 0 ∨ M 17 j = 1) (h10 : qk_wf ((qk_put M (1000 * (3 * b + c) + f) v a s) 14) ((qk_put M (1000 * (3 * b + c) + f) v a s) 15) ((qk_put M (1000 * (3 * b + c) + f) v a s) 16) ((qk_put M (1000 * (3 * b + c) + f) v a s) 17) ((qk_put M (1000 * (3 * b + c) + f) v a s) 2 4)) (h11 : (qk_put M (1000 * (3 * b + c) + f) v a s) 1 3 = M 1 3) : qa_E 112 0 [(0, qr 0), (1, qi (b)), (2, qi (c)), (3, qi (f)), (4, qi (v)), (5, qi (a)), (6, qi (s))] [] (M) (.inl (some (qi (qf_cnt (fun f9 => (qc_key M b c f v a s) 20 f9 = 2) 120 - qf_cnt (fun f9 => M 20 f9 = 2) 120)))) (qc_key M b c f v a s) := by
  unfold qp_cell at h3
  unfold qp_has at h7
  have q1 := qf_cnt_r (fun f9 => (qc_key M b c f v a s) 20 f9 = 2) 120
  have q2 := qf_cnt_r (fun f9 => M 20 f9 = 2) 120
  have fin : qa_E 112 113 [(0, qr 0), (1, qi b), (2, qi c), (3, qi f), (4, qi v), (5, qi a), (6, qi s), (7, qi (3 * b + c))] [] M (.inl (some (qi (qf_cnt (fun f9 => (qc_key M b c f v a s) 20 f9 = 2) 120 - qf_cnt (fun f9 => M 20 f9 = 2) 120)))) (qc_key M b c f v a s) := by
    refine R_aload cd_112_113 rfl ?_
    refine R_getr cd_112_114 rfl ?_
    refine R_call1 cd_112_117 rfl rfl K_Stills_voidCount ?_
    refine R_istore cd_112_120 ?_
    refine R_aload cd_112_122 rfl ?_
    refine R_getr cd_112_123 rfl ?_
    refine R_iload cd_112_126 rfl ?_
    refine R_iload cd_112_128 rfl ?_
    refine R_iload cd_112_129 rfl ?_
    refine R_iload cd_112_131 rfl ?_
    refine R_iload cd_112_133 rfl ?_
    refine R_callv6 cd_112_135 rfl rfl (K_Rig_setKey (by omega) (by omega) (by omega) (by omega) h5 h6 h9 h8 h7 h10) ?_
    refine R_aload cd_112_138 rfl ?_
    refine R_getr cd_112_139 rfl ?_
    refine R_aload cd_112_142 rfl ?_
    refine R_getr cd_112_143 rfl ?_
    refine R_callv2 cd_112_146 rfl rfl (K_Stills_compareAll (by show 0 ≤ (qk_put M (1000 * (3 * b + c) + f) v a s) 1 3; omega) (by show (qk_put M (1000 * (3 * b + c) + f) v a s) 1 3 ≤ 8; omega)) ?_
    refine R_aload cd_112_149 rfl ?_
    refine R_getr cd_112_150 rfl ?_
    refine R_call1 cd_112_153 rfl rfl K_Stills_voidCount ?_
    refine R_iload cd_112_156 rfl ?_
    refine R_isub cd_112_158 (by show qa_InR (qf_cnt (fun f9 => (qc_key M b c f v a s) 20 f9 = 2) 120 - qf_cnt (fun f9 => M 20 f9 = 2) 120); unfold qa_InR; omega) ?_
    exact R_iret cd_112_159 (by first | rfl | omega) rfl
  refine R_aload cd_112_0 rfl ?_
  refine R_getr cd_112_1 rfl ?_
  refine R_iload cd_112_4 rfl ?_
  refine R_iload cd_112_5 rfl ?_
  refine R_iload cd_112_6 rfl ?_
  refine R_call4 cd_112_7 rfl rfl (K_Rig_hasCell (by omega) (by omega)) ?_
  refine R_ifeq_b 27 cd_112_10 rfl (fun b10 => ?_) (fun b10 => ?_)
  · refine R_push cd_112_27 ?_
    exfalso
    omega
  · refine R_iload cd_112_13 rfl ?_
    refine R_push cd_112_15 ?_
    refine R_push cd_112_16 ?_
    refine R_call3 cd_112_17 rfl rfl K_Court_isWithin ?_
    refine R_ifeq_b 27 cd_112_20 rfl (fun b20 => ?_) (fun b20 => ?_)
    · refine R_push cd_112_27 ?_
      exfalso
      omega
    · refine R_push cd_112_23 ?_
      refine R_goto cd_112_24 ?_
      refine R_callv1 cd_112_28 rfl rfl (K_Court_mustExist (by decide)) ?_
      refine R_iload cd_112_31 rfl ?_
      refine R_push cd_112_32 ?_
      refine R_icmp_ne 59 cd_112_33 rfl (fun b33 => ?_) (fun b33 => ?_)
      · refine R_iload cd_112_59 rfl ?_
        refine R_push cd_112_61 ?_
        refine R_push cd_112_64 ?_
        refine R_call3 cd_112_67 rfl rfl K_Court_isWithin ?_
        refine R_callv1 cd_112_70 rfl rfl (K_Court_mustFit (qb_n0.mpr (by omega))) ?_
        refine R_iload cd_112_73 rfl ?_
        refine R_iload cd_112_74 rfl ?_
        refine R_call2 cd_112_75 rfl rfl (K_Court_trackOf (by omega) (by omega) (by omega) (by omega)) ?_
        refine R_istore cd_112_78 ?_
        refine R_aload cd_112_80 rfl ?_
        refine R_getr cd_112_81 rfl ?_
        refine R_iload cd_112_84 rfl ?_
        refine R_iload cd_112_86 rfl ?_
        refine R_call3 cd_112_87 rfl rfl (K_Rig_hasKey (by omega) (by omega) (by omega) (by omega) (by omega) (by omega)) ?_
        refine R_ifne_b 105 cd_112_90 rfl (fun b90 => ?_) (fun b90 => ?_)
        · refine R_push cd_112_105 ?_
          refine R_goto cd_112_106 ?_
          refine R_callv1 cd_112_110 rfl rfl (K_Court_mustBePossible (by decide)) ?_
          exact R_norm (qs_c rfl (qs_c rfl (qs_c rfl (qs_c rfl (qs_c rfl (qs_c rfl (qs_c rfl (qs_c rfl qs_n)))))))) fin
        · refine R_aload cd_112_93 rfl ?_
          refine R_getr cd_112_94 rfl ?_
          refine R_call1 cd_112_97 rfl rfl K_Rig_keyCount ?_
          refine R_push cd_112_100 ?_
          refine R_icmp_ge 109 cd_112_102 rfl (fun b102 => ?_) (fun b102 => ?_)
          · refine R_push cd_112_109 ?_
            exfalso
            omega
          · refine R_push cd_112_105 ?_
            refine R_goto cd_112_106 ?_
            refine R_callv1 cd_112_110 rfl rfl (K_Court_mustBePossible (by decide)) ?_
            exact R_norm (qs_c rfl (qs_c rfl (qs_c rfl (qs_c rfl (qs_c rfl (qs_c rfl (qs_c rfl (qs_c rfl qs_n)))))))) fin
      · refine R_iload cd_112_36 rfl ?_
        refine R_push cd_112_38 ?_
        refine R_push cd_112_39 ?_
        refine R_call3 cd_112_40 rfl rfl K_Court_isWithin ?_
        refine R_ifeq_b 55 cd_112_43 rfl (fun b43 => ?_) (fun b43 => ?_)
        · refine R_push cd_112_55 ?_
          refine R_goto cd_112_56 ?_
          exfalso
          omega
        · refine R_iload cd_112_46 rfl ?_
          refine R_if_ne 55 cd_112_48 rfl (fun b48 => ?_) (fun b48 => ?_)
          · refine R_push cd_112_55 ?_
            refine R_goto cd_112_56 ?_
            exfalso
            omega
          · refine R_push cd_112_51 ?_
            refine R_goto cd_112_52 ?_
            refine R_callv1 cd_112_70 rfl rfl (K_Court_mustFit (by decide)) ?_
            refine R_iload cd_112_73 rfl ?_
            refine R_iload cd_112_74 rfl ?_
            refine R_call2 cd_112_75 rfl rfl (K_Court_trackOf (by omega) (by omega) (by omega) (by omega)) ?_
            refine R_istore cd_112_78 ?_
            refine R_aload cd_112_80 rfl ?_
            refine R_getr cd_112_81 rfl ?_
            refine R_iload cd_112_84 rfl ?_
            refine R_iload cd_112_86 rfl ?_
            refine R_call3 cd_112_87 rfl rfl (K_Rig_hasKey (by omega) (by omega) (by omega) (by omega) (by omega) (by omega)) ?_
            refine R_ifne_b 105 cd_112_90 rfl (fun b90 => ?_) (fun b90 => ?_)
            · refine R_push cd_112_105 ?_
              refine R_goto cd_112_106 ?_
              refine R_callv1 cd_112_110 rfl rfl (K_Court_mustBePossible (by decide)) ?_
              exact R_norm (qs_c rfl (qs_c rfl (qs_c rfl (qs_c rfl (qs_c rfl (qs_c rfl (qs_c rfl (qs_c rfl qs_n)))))))) fin
            · refine R_aload cd_112_93 rfl ?_
              refine R_getr cd_112_94 rfl ?_
              refine R_call1 cd_112_97 rfl rfl K_Rig_keyCount ?_
              refine R_push cd_112_100 ?_
              refine R_icmp_ge 109 cd_112_102 rfl (fun b102 => ?_) (fun b102 => ?_)
              · refine R_push cd_112_109 ?_
                exfalso
                omega
              · refine R_push cd_112_105 ?_
                refine R_goto cd_112_106 ?_
                refine R_callv1 cd_112_110 rfl rfl (K_Court_mustBePossible (by decide)) ?_
                exact R_norm (qs_c rfl (qs_c rfl (qs_c rfl (qs_c rfl (qs_c rfl (qs_c rfl (qs_c rfl (qs_c rfl qs_n)))))))) fin
theorem K_Court_unkey1 {b c f : Int} {M : qa_Mem} (h1 : 0 ≤ M 1 3) (h2 : M 1 3 ≤ 8) (h3 : ¬ (qp_cell M b c f ∧ qp_has M b c f)) (h5 : 0 ≤ M 2 4) (h6 : M 2 4 ≤ 80) : qa_E 113 0 [(0, qr 0), (1, qi (b)), (2, qi (c)), (3, qi (f))] [] (M) (.inr 1) (qa_upd M 99 0 (M 99 0 + 1)) := by
  unfold qp_cell qp_has at h3
  by_cases hc : (0 ≤ b ∧ b ≤ M 1 3 - 1) ∧ (0 ≤ c ∧ c ≤ 2) ∧ (0 ≤ f ∧ f ≤ 119)
  · refine R_aload cd_113_0 rfl ?_
    refine R_getr cd_113_1 rfl ?_
    refine R_iload cd_113_4 rfl ?_
    refine R_iload cd_113_5 rfl ?_
    refine R_iload cd_113_6 rfl ?_
    refine R_call4 cd_113_7 rfl rfl (K_Rig_hasCell (by omega) (by omega)) ?_
    refine R_callv1 cd_113_10 rfl rfl (K_Court_mustExist (qb_n0.mpr (by omega))) ?_
    refine R_iload cd_113_13 rfl ?_
    refine R_iload cd_113_14 rfl ?_
    refine R_call2 cd_113_15 rfl rfl (K_Court_trackOf (by omega) (by omega) (by omega) (by omega)) ?_
    refine R_istore cd_113_18 ?_
    refine R_aload cd_113_20 rfl ?_
    refine R_getr cd_113_21 rfl ?_
    refine R_iload cd_113_24 rfl ?_
    refine R_iload cd_113_26 rfl ?_
    refine R_call3 cd_113_27 rfl rfl (K_Rig_hasKey (by omega) (by omega) (by omega) (by omega) (by omega) (by omega)) ?_
    exact R_callx1 cd_113_30 rfl rfl rfl (K_Court_mustExistX (qb_f (by omega))) rfl rfl
  · refine R_aload cd_113_0 rfl ?_
    refine R_getr cd_113_1 rfl ?_
    refine R_iload cd_113_4 rfl ?_
    refine R_iload cd_113_5 rfl ?_
    refine R_iload cd_113_6 rfl ?_
    refine R_call4 cd_113_7 rfl rfl (K_Rig_hasCell (by omega) (by omega)) ?_
    exact R_callx1 cd_113_10 rfl rfl rfl (K_Court_mustExistX (qb_f (by omega))) rfl rfl
noncomputable def qc_unkey (M : qa_Mem) (b c f : Int) : qa_Mem := qs_cmp (qt_M (qk_take M (1000 * (3 * b + c) + f)) (3 * b + c) 120) 120
theorem K_Court_unkey0 {b c f : Int} {M : qa_Mem} (h1 : 0 ≤ M 1 3) (h2 : M 1 3 ≤ 8) (h3 : qp_cell M b c f) (h4 : qp_has M b c f) (h5 : 0 ≤ M 2 4) (h6 : M 2 4 ≤ 80) (h9 : ∀ j, 0 ≤ j → j < 80 → M 17 j = 0 ∨ M 17 j = 1) (h10 : qk_wf ((qk_take M (1000 * (3 * b + c) + f)) 14) ((qk_take M (1000 * (3 * b + c) + f)) 15) ((qk_take M (1000 * (3 * b + c) + f)) 16) ((qk_take M (1000 * (3 * b + c) + f)) 17) ((qk_take M (1000 * (3 * b + c) + f)) 2 4)) : qa_E 113 0 [(0, qr 0), (1, qi (b)), (2, qi (c)), (3, qi (f))] [] (M) (.inl (some (qi (qf_cnt (fun f9 => (qc_unkey M b c f) 20 f9 = 2) 120 - qf_cnt (fun f9 => M 20 f9 = 2) 120)))) (qc_unkey M b c f) := by
  have h4' := h4
  unfold qp_cell at h3
  unfold qp_has at h4
  have q1 := qf_cnt_r (fun f9 => (qc_unkey M b c f) 20 f9 = 2) 120
  have q2 := qf_cnt_r (fun f9 => M 20 f9 = 2) 120
  refine R_aload cd_113_0 rfl ?_
  refine R_getr cd_113_1 rfl ?_
  refine R_iload cd_113_4 rfl ?_
  refine R_iload cd_113_5 rfl ?_
  refine R_iload cd_113_6 rfl ?_
  refine R_call4 cd_113_7 rfl rfl (K_Rig_hasCell (by omega) (by omega)) ?_
  refine R_callv1 cd_113_10 rfl rfl (K_Court_mustExist (qb_n0.mpr (by omega))) ?_
  refine R_iload cd_113_13 rfl ?_
  refine R_iload cd_113_14 rfl ?_
  refine R_call2 cd_113_15 rfl rfl (K_Court_trackOf (by omega) (by omega) (by omega) (by omega)) ?_
  refine R_istore cd_113_18 ?_
  refine R_aload cd_113_20 rfl ?_
  refine R_getr cd_113_21 rfl ?_
  refine R_iload cd_113_24 rfl ?_
  refine R_iload cd_113_26 rfl ?_
  refine R_call3 cd_113_27 rfl rfl (K_Rig_hasKey (by omega) (by omega) (by omega) (by omega) (by omega) (by omega)) ?_
  refine R_callv1 cd_113_30 rfl rfl (K_Court_mustExist (qb_n0.mpr (by omega))) ?_
  refine R_aload cd_113_33 rfl ?_
  refine R_getr cd_113_34 rfl ?_
  refine R_call1 cd_113_37 rfl rfl K_Stills_voidCount ?_
  refine R_istore cd_113_40 ?_
  refine R_aload cd_113_42 rfl ?_
  refine R_getr cd_113_43 rfl ?_
  refine R_iload cd_113_46 rfl ?_
  refine R_iload cd_113_48 rfl ?_
  refine R_callv3 cd_113_49 rfl rfl (K_Rig_takeKey (by omega) (by omega) (by omega) (by omega) h5 h6 h9 h4 h10) ?_
  refine R_aload cd_113_52 rfl ?_
  refine R_getr cd_113_53 rfl ?_
  refine R_aload cd_113_56 rfl ?_
  refine R_getr cd_113_57 rfl ?_
  refine R_callv2 cd_113_60 rfl rfl (K_Stills_compareAll (show 0 ≤ M 1 3 by omega) (show M 1 3 ≤ 8 by omega)) ?_
  refine R_aload cd_113_63 rfl ?_
  refine R_getr cd_113_64 rfl ?_
  refine R_call1 cd_113_67 rfl rfl K_Stills_voidCount ?_
  refine R_iload cd_113_70 rfl ?_
  refine R_isub cd_113_72 (by show qa_InR (qf_cnt (fun f9 => (qc_unkey M b c f) 20 f9 = 2) 120 - qf_cnt (fun f9 => M 20 f9 = 2) 120); unfold qa_InR; omega) ?_
  exact R_iret cd_113_73 (by first | rfl | omega) rfl
theorem K_Court_value1 {b c f : Int} {M : qa_Mem} (h1 : 0 ≤ M 1 3) (h2 : M 1 3 ≤ 8) (h3 : ¬ qp_cell M b c f) : qa_E 114 0 [(0, qr 0), (1, qi (b)), (2, qi (c)), (3, qi (f))] [] (M) (.inr 1) (qa_upd M 99 0 (M 99 0 + 1)) := by
  unfold qp_cell at h3
  refine R_aload cd_114_0 rfl ?_
  refine R_getr cd_114_1 rfl ?_
  refine R_iload cd_114_4 rfl ?_
  refine R_iload cd_114_5 rfl ?_
  refine R_iload cd_114_6 rfl ?_
  refine R_call4 cd_114_7 rfl rfl (K_Rig_hasCell (by omega) (by omega)) ?_
  exact R_callx1 cd_114_10 rfl rfl rfl (K_Court_mustExistX (qb_f (by omega))) rfl rfl
theorem K_Court_value0 {b c f : Int} {M : qa_Mem} (h1 : 0 ≤ M 1 3) (h2 : M 1 3 ≤ 8) (h3 : qp_cell M b c f) : qa_E 114 0 [(0, qr 0), (1, qi (b)), (2, qi (c)), (3, qi (f))] [] (M) (.inl (some (qi (M 12 ((3 * b + c) * 120 + f))))) (M) := by
  unfold qp_cell at h3
  refine R_aload cd_114_0 rfl ?_
  refine R_getr cd_114_1 rfl ?_
  refine R_iload cd_114_4 rfl ?_
  refine R_iload cd_114_5 rfl ?_
  refine R_iload cd_114_6 rfl ?_
  refine R_call4 cd_114_7 rfl rfl (K_Rig_hasCell (by omega) (by omega)) ?_
  refine R_callv1 cd_114_10 rfl rfl (K_Court_mustExist (qb_n0.mpr (by omega))) ?_
  refine R_aload cd_114_13 rfl ?_
  refine R_getr cd_114_14 rfl ?_
  refine R_iload cd_114_17 rfl ?_
  refine R_iload cd_114_18 rfl ?_
  refine R_call2 cd_114_19 rfl rfl (K_Court_trackOf (by omega) (by omega) (by omega) (by omega)) ?_
  refine R_iload cd_114_22 rfl ?_
  refine R_call3 cd_114_23 rfl rfl (K_Rig_poseAt (by omega) (by omega) (by omega) (by omega)) ?_
  exact R_iret cd_114_26 (by first | rfl | omega) rfl
theorem K_Court_span1 {b c f : Int} {M : qa_Mem} (h1 : 0 ≤ M 1 3) (h2 : M 1 3 ≤ 8) (h3 : ¬ (qp_cell M b c f ∧ qp_has M b c f)) (h5 : 0 ≤ M 2 4) (h6 : M 2 4 ≤ 80) : qa_E 115 0 [(0, qr 0), (1, qi (b)), (2, qi (c)), (3, qi (f))] [] (M) (.inr 1) (qa_upd M 99 0 (M 99 0 + 1)) := by
  unfold qp_cell qp_has at h3
  by_cases hc : (0 ≤ b ∧ b ≤ M 1 3 - 1) ∧ (0 ≤ c ∧ c ≤ 2) ∧ (0 ≤ f ∧ f ≤ 119)
  · refine R_aload cd_115_0 rfl ?_
    refine R_getr cd_115_1 rfl ?_
    refine R_iload cd_115_4 rfl ?_
    refine R_iload cd_115_5 rfl ?_
    refine R_iload cd_115_6 rfl ?_
    refine R_call4 cd_115_7 rfl rfl (K_Rig_hasCell (by omega) (by omega)) ?_
    refine R_callv1 cd_115_10 rfl rfl (K_Court_mustExist (qb_n0.mpr (by omega))) ?_
    refine R_iload cd_115_13 rfl ?_
    refine R_iload cd_115_14 rfl ?_
    refine R_call2 cd_115_15 rfl rfl (K_Court_trackOf (by omega) (by omega) (by omega) (by omega)) ?_
    refine R_istore cd_115_18 ?_
    refine R_aload cd_115_20 rfl ?_
    refine R_getr cd_115_21 rfl ?_
    refine R_iload cd_115_24 rfl ?_
    refine R_iload cd_115_26 rfl ?_
    refine R_call3 cd_115_27 rfl rfl (K_Rig_hasKey (by omega) (by omega) (by omega) (by omega) (by omega) (by omega)) ?_
    exact R_callx1 cd_115_30 rfl rfl rfl (K_Court_mustExistX (qb_f (by omega))) rfl rfl
  · refine R_aload cd_115_0 rfl ?_
    refine R_getr cd_115_1 rfl ?_
    refine R_iload cd_115_4 rfl ?_
    refine R_iload cd_115_5 rfl ?_
    refine R_iload cd_115_6 rfl ?_
    refine R_call4 cd_115_7 rfl rfl (K_Rig_hasCell (by omega) (by omega)) ?_
    exact R_callx1 cd_115_10 rfl rfl rfl (K_Court_mustExistX (qb_f (by omega))) rfl rfl
end
section
theorem K_Court_span0 {b c f : Int} {M : qa_Mem} (h1 : 0 ≤ M 1 3) (h2 : M 1 3 ≤ 8) (h3 : qp_cell M b c f) (h4 : qp_has M b c f) (hw : qk_wf (M 14) (M 15) (M 16) (M 17) (M 2 4)) : qa_E 115 0 [(0, qr 0), (1, qi (b)), (2, qi (c)), (3, qi (f))] [] (M) (.inl (some (qi ((let p := qf_ca (M 14) (M 2 4) (1000 * (3 * b + c) + f) 80 0; 1000 * (if p = qf_ca (M 14) (M 2 4) (1000 * (3 * b + c) + 0) 80 0 then 0 else if M 17 (p - 1) ≠ 0 then M 14 (p - 1) % 1000 + 1 else f) + (if p + 1 < qf_ca (M 14) (M 2 4) (1000 * (3 * b + c + 1) + 0) 80 0 then M 14 (p + 1) % 1000 - 1 else 119)))))) (M) := by
  have w1 := hw.1
  have w2 := hw.2.1
  unfold qp_cell at h3
  unfold qp_has at h4
  refine R_aload cd_115_0 rfl ?_
  refine R_getr cd_115_1 rfl ?_
  refine R_iload cd_115_4 rfl ?_
  refine R_iload cd_115_5 rfl ?_
  refine R_iload cd_115_6 rfl ?_
  refine R_call4 cd_115_7 rfl rfl (K_Rig_hasCell (by omega) (by omega)) ?_
  refine R_callv1 cd_115_10 rfl rfl (K_Court_mustExist (qb_n0.mpr (by omega))) ?_
  refine R_iload cd_115_13 rfl ?_
  refine R_iload cd_115_14 rfl ?_
  refine R_call2 cd_115_15 rfl rfl (K_Court_trackOf (by omega) (by omega) (by omega) (by omega)) ?_
  refine R_istore cd_115_18 ?_
  refine R_aload cd_115_20 rfl ?_
  refine R_getr cd_115_21 rfl ?_
  refine R_iload cd_115_24 rfl ?_
  refine R_iload cd_115_26 rfl ?_
  refine R_call3 cd_115_27 rfl rfl (K_Rig_hasKey (by omega) (by omega) (by omega) (by omega) (by omega) (by omega)) ?_
  refine R_callv1 cd_115_30 rfl rfl (K_Court_mustExist (qb_n0.mpr (by omega))) ?_
  refine R_aload cd_115_33 rfl ?_
  refine R_getr cd_115_34 rfl ?_
  refine R_iload cd_115_37 rfl ?_
  refine R_iload cd_115_39 rfl ?_
  refine R_call3 cd_115_40 rfl rfl (K_Rig_spanOf (by omega) (by omega) (by omega) (by omega) hw h4.1) ?_
  exact R_iret cd_115_43 (by first | rfl | omega) rfl
theorem K_Court_keyAt1 {p : Int} {M : qa_Mem} (h1 : 0 ≤ M 2 4) (h2 : M 2 4 ≤ 80) (h3 : ¬ (0 ≤ p ∧ p ≤ M 2 4 - 1)) : qa_E 116 0 [(0, qr 0), (1, qi (p))] [] (M) (.inr 1) (qa_upd M 99 0 (M 99 0 + 1)) := by
  refine R_iload cd_116_0 rfl ?_
  refine R_push cd_116_1 ?_
  refine R_aload cd_116_2 rfl ?_
  refine R_getr cd_116_3 rfl ?_
  refine R_call1 cd_116_6 rfl rfl K_Rig_keyCount ?_
  refine R_push cd_116_9 ?_
  refine R_isub cd_116_10 (by unfold qa_InR; first | omega | (simp [qa_upd, qa_blk] <;> omega)) ?_
  refine R_call3 cd_116_11 rfl rfl K_Court_isWithin ?_
  exact R_callx1 cd_116_14 rfl rfl rfl (K_Court_mustExistX (qb_f (by omega))) rfl rfl
theorem K_Court_keyAt0 {p : Int} {M : qa_Mem} (h1 : 0 ≤ M 2 4) (h2 : M 2 4 ≤ 80) (h3 : 0 ≤ p ∧ p ≤ M 2 4 - 1) : qa_E 116 0 [(0, qr 0), (1, qi (p))] [] (M) (.inl (some (qi (M 14 p)))) (M) := by
  refine R_iload cd_116_0 rfl ?_
  refine R_push cd_116_1 ?_
  refine R_aload cd_116_2 rfl ?_
  refine R_getr cd_116_3 rfl ?_
  refine R_call1 cd_116_6 rfl rfl K_Rig_keyCount ?_
  refine R_push cd_116_9 ?_
  refine R_isub cd_116_10 (by unfold qa_InR; first | omega | (simp [qa_upd, qa_blk] <;> omega)) ?_
  refine R_call3 cd_116_11 rfl rfl K_Court_isWithin ?_
  refine R_callv1 cd_116_14 rfl rfl (K_Court_mustExist (qb_n0.mpr (by omega))) ?_
  refine R_aload cd_116_17 rfl ?_
  refine R_getr cd_116_18 rfl ?_
  refine R_iload cd_116_21 rfl ?_
  refine R_call2 cd_116_22 rfl rfl (K_Rig_keyCode (by omega) (by omega)) ?_
  exact R_iret cd_116_25 (by first | rfl | omega) rfl
theorem K_Court_place1 {b f : Int} {M : qa_Mem} (h1 : 0 ≤ M 1 3) (h2 : M 1 3 ≤ 8) (h3 : ¬ ((0 ≤ b ∧ b ≤ M 1 3 - 1) ∧ 0 ≤ f ∧ f ≤ 119)) : qa_E 117 0 [(0, qr 0), (1, qi (b)), (2, qi (f))] [] (M) (.inr 1) (qa_upd M 99 0 (M 99 0 + 1)) := by
  refine R_aload cd_117_0 rfl ?_
  refine R_getr cd_117_1 rfl ?_
  refine R_iload cd_117_4 rfl ?_
  refine R_call2 cd_117_5 rfl rfl (K_Rig_hasBone (by omega) (by omega)) ?_
  refine R_ifeq_b 22 cd_117_8 rfl (fun b8 => ?_) (fun b8 => ?_)
  · refine R_push cd_117_22 ?_
    exact R_callx1 cd_117_23 rfl rfl rfl (K_Court_mustExistX rfl) rfl rfl
  · refine R_iload cd_117_11 rfl ?_
    refine R_call1 cd_117_12 rfl rfl K_Court_isFrame ?_
    refine R_ifeq_b 22 cd_117_15 rfl (fun b15 => ?_) (fun b15 => ?_)
    · refine R_push cd_117_22 ?_
      exact R_callx1 cd_117_23 rfl rfl rfl (K_Court_mustExistX rfl) rfl rfl
    · refine R_push cd_117_18 ?_
      refine R_goto cd_117_19 ?_
      exfalso
      omega
theorem K_Court_place0 {b f : Int} {M : qa_Mem} (h1 : 0 ≤ M 1 3) (h2 : M 1 3 ≤ 8) (h3 : (0 ≤ b ∧ b ≤ M 1 3 - 1) ∧ 0 ≤ f ∧ f ≤ 119) (h5 : ∀ u, 0 ≤ u → u < 8 → -1 ≤ M 9 u ∧ M 9 u < 8) (h6 : ∀ u, 0 ≤ u → u < 8 → (-100 ≤ M 10 u ∧ M 10 u ≤ 100) ∧ (-100 ≤ M 11 u ∧ M 11 u ≤ 100)) (h7 : ∀ u, 0 ≤ u → u < 8 → (-200 ≤ M 12 ((3 * u + 0) * 120 + f) ∧ M 12 ((3 * u + 0) * 120 + f) ≤ 200) ∧ (-200 ≤ M 12 ((3 * u + 1) * 120 + f) ∧ M 12 ((3 * u + 1) * 120 + f) ≤ 200) ∧ (0 ≤ M 12 ((3 * u + 2) * 120 + f) ∧ M 12 ((3 * u + 2) * 120 + f) ≤ 3)) : qa_E 117 0 [(0, qr 0), (1, qi (b)), (2, qi (f))] [] (M) (.inl (some (qi ((let r := qg_c (M 9) (fun u => M 12 ((3 * u + 2) * 120 + f)) (fun u => M 10 u + M 12 ((3 * u + 0) * 120 + f)) (fun u => M 11 u + M 12 ((3 * u + 1) * 120 + f)) 8 (M 9 b) (M 10 b + M 12 ((3 * b + 0) * 120 + f)) (M 11 b + M 12 ((3 * b + 1) * 120 + f)); 10000 * (r.1 + 5000) + r.2 + 5000))))) (M) := by
  refine R_aload cd_117_0 rfl ?_
  refine R_getr cd_117_1 rfl ?_
  refine R_iload cd_117_4 rfl ?_
  refine R_call2 cd_117_5 rfl rfl (K_Rig_hasBone (by omega) (by omega)) ?_
  refine R_ifeq_b 22 cd_117_8 rfl (fun b8 => ?_) (fun b8 => ?_)
  · refine R_push cd_117_22 ?_
    exfalso
    omega
  · refine R_iload cd_117_11 rfl ?_
    refine R_call1 cd_117_12 rfl rfl K_Court_isFrame ?_
    refine R_ifeq_b 22 cd_117_15 rfl (fun b15 => ?_) (fun b15 => ?_)
    · refine R_push cd_117_22 ?_
      exfalso
      omega
    · refine R_push cd_117_18 ?_
      refine R_goto cd_117_19 ?_
      refine R_callv1 cd_117_23 rfl rfl (K_Court_mustExist (by decide)) ?_
      refine R_aload cd_117_26 rfl ?_
      refine R_getr cd_117_27 rfl ?_
      refine R_iload cd_117_30 rfl ?_
      refine R_iload cd_117_31 rfl ?_
      refine R_call3 cd_117_32 rfl rfl (K_Rig_placeOf (by omega) (by omega) (by omega) (by omega) h5 h6 h7) ?_
      exact R_iret cd_117_35 (by first | rfl | omega) rfl
theorem K_Court_artists1 {f : Int} {M : qa_Mem} (h3 : ¬ (0 ≤ f ∧ f ≤ 119)) : qa_E 118 0 [(0, qr 0), (1, qi (f))] [] (M) (.inr 1) (qa_upd M 99 0 (M 99 0 + 1)) := by
  refine R_iload cd_118_0 rfl ?_
  refine R_call1 cd_118_1 rfl rfl K_Court_isFrame ?_
  exact R_callx1 cd_118_4 rfl rfl rfl (K_Court_mustExistX (qb_f (by omega))) rfl rfl
theorem K_Court_artists0 {f : Int} {M : qa_Mem} (h1 : 0 ≤ M 1 3) (h2 : M 1 3 ≤ 8) (h3 : 0 ≤ f ∧ f ≤ 119) : qa_E 118 0 [(0, qr 0), (1, qi (f))] [] (M) (.inl (some (qi (qf_or (fun t => M 13 (t * 120 + f)) (3 * M 1 3).toNat)))) (M) := by
  refine R_iload cd_118_0 rfl ?_
  refine R_call1 cd_118_1 rfl rfl K_Court_isFrame ?_
  refine R_callv1 cd_118_4 rfl rfl (K_Court_mustExist (qb_n0.mpr (by omega))) ?_
  refine R_aload cd_118_7 rfl ?_
  refine R_getr cd_118_8 rfl ?_
  refine R_iload cd_118_11 rfl ?_
  refine R_call2 cd_118_12 rfl rfl (K_Rig_artistsAt (by omega) (by omega) (by omega) (by omega)) ?_
  exact R_iret cd_118_15 (by first | rfl | omega) rfl
theorem K_Court_cut1 {p a b : Int} {M : qa_Mem} (h3 : ¬ ((0 ≤ p ∧ p ≤ M 4 3) ∧ (0 ≤ a ∧ a ≤ 119) ∧ 0 ≤ b ∧ b ≤ 119)) : qa_E 119 0 [(0, qr 0), (1, qi (p)), (2, qi (a)), (3, qi (b))] [] (M) (.inr 1) (qa_upd M 99 0 (M 99 0 + 1)) := by
  refine R_iload cd_119_0 rfl ?_
  refine R_push cd_119_1 ?_
  refine R_aload cd_119_2 rfl ?_
  refine R_getr cd_119_3 rfl ?_
  refine R_call1 cd_119_6 rfl rfl K_Film_shotCount ?_
  refine R_call3 cd_119_9 rfl rfl K_Court_isWithin ?_
  refine R_ifeq_b 33 cd_119_12 rfl (fun b12 => ?_) (fun b12 => ?_)
  · refine R_push cd_119_33 ?_
    exact R_callx1 cd_119_34 rfl rfl rfl (K_Court_mustExistX rfl) rfl rfl
  · refine R_iload cd_119_15 rfl ?_
    refine R_call1 cd_119_16 rfl rfl K_Court_isFrame ?_
    refine R_ifeq_b 33 cd_119_19 rfl (fun b19 => ?_) (fun b19 => ?_)
    · refine R_push cd_119_33 ?_
      exact R_callx1 cd_119_34 rfl rfl rfl (K_Court_mustExistX rfl) rfl rfl
    · refine R_iload cd_119_22 rfl ?_
      refine R_call1 cd_119_23 rfl rfl K_Court_isFrame ?_
      refine R_ifeq_b 33 cd_119_26 rfl (fun b26 => ?_) (fun b26 => ?_)
      · refine R_push cd_119_33 ?_
        exact R_callx1 cd_119_34 rfl rfl rfl (K_Court_mustExistX rfl) rfl rfl
      · refine R_push cd_119_29 ?_
        refine R_goto cd_119_30 ?_
        exfalso
        omega
theorem K_Court_cut2 {p a b : Int} {M : qa_Mem} (h3 : (0 ≤ p ∧ p ≤ M 4 3) ∧ (0 ≤ a ∧ a ≤ 119) ∧ 0 ≤ b ∧ b ≤ 119) (h4 : b < a) : qa_E 119 0 [(0, qr 0), (1, qi (p)), (2, qi (a)), (3, qi (b))] [] (M) (.inr 2) (qa_upd M 99 0 (M 99 0 + 1)) := by
  refine R_iload cd_119_0 rfl ?_
  refine R_push cd_119_1 ?_
  refine R_aload cd_119_2 rfl ?_
  refine R_getr cd_119_3 rfl ?_
  refine R_call1 cd_119_6 rfl rfl K_Film_shotCount ?_
  refine R_call3 cd_119_9 rfl rfl K_Court_isWithin ?_
  refine R_ifeq_b 33 cd_119_12 rfl (fun b12 => ?_) (fun b12 => ?_)
  · refine R_push cd_119_33 ?_
    exfalso
    omega
  · refine R_iload cd_119_15 rfl ?_
    refine R_call1 cd_119_16 rfl rfl K_Court_isFrame ?_
    refine R_ifeq_b 33 cd_119_19 rfl (fun b19 => ?_) (fun b19 => ?_)
    · refine R_push cd_119_33 ?_
      exfalso
      omega
    · refine R_iload cd_119_22 rfl ?_
      refine R_call1 cd_119_23 rfl rfl K_Court_isFrame ?_
      refine R_ifeq_b 33 cd_119_26 rfl (fun b26 => ?_) (fun b26 => ?_)
      · refine R_push cd_119_33 ?_
        exfalso
        omega
      · refine R_push cd_119_29 ?_
        refine R_goto cd_119_30 ?_
        refine R_callv1 cd_119_34 rfl rfl (K_Court_mustExist (by decide)) ?_
        refine R_iload cd_119_37 rfl ?_
        refine R_iload cd_119_38 rfl ?_
        refine R_icmp_gt 46 cd_119_39 rfl (fun b39 => ?_) (fun b39 => ?_)
        · refine R_push cd_119_46 ?_
          exact R_callx1 cd_119_47 rfl rfl rfl (K_Court_mustFitX rfl) rfl rfl
        · refine R_push cd_119_42 ?_
          refine R_goto cd_119_43 ?_
          exfalso
          omega
theorem K_Court_cut3 {p a b : Int} {M : qa_Mem} (h3 : (0 ≤ p ∧ p ≤ M 4 3) ∧ (0 ≤ a ∧ a ≤ 119) ∧ 0 ≤ b ∧ b ≤ 119) (h4 : a ≤ b) (h5 : M 4 3 = 10) : qa_E 119 0 [(0, qr 0), (1, qi (p)), (2, qi (a)), (3, qi (b))] [] (M) (.inr 3) (qa_upd M 99 0 (M 99 0 + 1)) := by
  refine R_iload cd_119_0 rfl ?_
  refine R_push cd_119_1 ?_
  refine R_aload cd_119_2 rfl ?_
  refine R_getr cd_119_3 rfl ?_
  refine R_call1 cd_119_6 rfl rfl K_Film_shotCount ?_
  refine R_call3 cd_119_9 rfl rfl K_Court_isWithin ?_
  refine R_ifeq_b 33 cd_119_12 rfl (fun b12 => ?_) (fun b12 => ?_)
  · refine R_push cd_119_33 ?_
    exfalso
    omega
  · refine R_iload cd_119_15 rfl ?_
    refine R_call1 cd_119_16 rfl rfl K_Court_isFrame ?_
    refine R_ifeq_b 33 cd_119_19 rfl (fun b19 => ?_) (fun b19 => ?_)
    · refine R_push cd_119_33 ?_
      exfalso
      omega
    · refine R_iload cd_119_22 rfl ?_
      refine R_call1 cd_119_23 rfl rfl K_Court_isFrame ?_
      refine R_ifeq_b 33 cd_119_26 rfl (fun b26 => ?_) (fun b26 => ?_)
      · refine R_push cd_119_33 ?_
        exfalso
        omega
      · refine R_push cd_119_29 ?_
        refine R_goto cd_119_30 ?_
        refine R_callv1 cd_119_34 rfl rfl (K_Court_mustExist (by decide)) ?_
        refine R_iload cd_119_37 rfl ?_
        refine R_iload cd_119_38 rfl ?_
        refine R_icmp_gt 46 cd_119_39 rfl (fun b39 => ?_) (fun b39 => ?_)
        · refine R_push cd_119_46 ?_
          exfalso
          omega
        · refine R_push cd_119_42 ?_
          refine R_goto cd_119_43 ?_
          refine R_callv1 cd_119_47 rfl rfl (K_Court_mustFit (by decide)) ?_
          refine R_aload cd_119_50 rfl ?_
          refine R_getr cd_119_51 rfl ?_
          refine R_call1 cd_119_54 rfl rfl K_Film_shotCount ?_
          refine R_push cd_119_57 ?_
          refine R_icmp_ge 66 cd_119_59 rfl (fun b59 => ?_) (fun b59 => ?_)
          · refine R_push cd_119_66 ?_
            exact R_callx1 cd_119_67 rfl rfl rfl (K_Court_mustBePossibleX rfl) rfl rfl
          · refine R_push cd_119_62 ?_
            refine R_goto cd_119_63 ?_
            exfalso
            omega
theorem K_Court_cut0 {p a b : Int} {M : qa_Mem} (h3 : (0 ≤ p ∧ p ≤ M 4 3) ∧ (0 ≤ a ∧ a ≤ 119) ∧ 0 ≤ b ∧ b ≤ 119) (h4 : a ≤ b) (h5 : M 4 3 < 10) (h7 : ∀ j, 0 ≤ j → j < 120 → -1000 ≤ M 23 j ∧ M 23 j ≤ 1000) (h8 : -10000 ≤ M 4 4 ∧ M 4 4 ≤ 10000) : qa_E 119 0 [(0, qr 0), (1, qi (p)), (2, qi (a)), (3, qi (b))] [] (M) (.inl (some (qi (M 4 4 + 1 * (b + 1 - a))))) (qm_cnt (qm_ins M p a b) a b 1) := by
  refine R_iload cd_119_0 rfl ?_
  refine R_push cd_119_1 ?_
  refine R_aload cd_119_2 rfl ?_
  refine R_getr cd_119_3 rfl ?_
  refine R_call1 cd_119_6 rfl rfl K_Film_shotCount ?_
  refine R_call3 cd_119_9 rfl rfl K_Court_isWithin ?_
  refine R_ifeq_b 33 cd_119_12 rfl (fun b12 => ?_) (fun b12 => ?_)
  · refine R_push cd_119_33 ?_
    exfalso
    omega
  · refine R_iload cd_119_15 rfl ?_
    refine R_call1 cd_119_16 rfl rfl K_Court_isFrame ?_
    refine R_ifeq_b 33 cd_119_19 rfl (fun b19 => ?_) (fun b19 => ?_)
    · refine R_push cd_119_33 ?_
      exfalso
      omega
    · refine R_iload cd_119_22 rfl ?_
      refine R_call1 cd_119_23 rfl rfl K_Court_isFrame ?_
      refine R_ifeq_b 33 cd_119_26 rfl (fun b26 => ?_) (fun b26 => ?_)
      · refine R_push cd_119_33 ?_
        exfalso
        omega
      · refine R_push cd_119_29 ?_
        refine R_goto cd_119_30 ?_
        refine R_callv1 cd_119_34 rfl rfl (K_Court_mustExist (by decide)) ?_
        refine R_iload cd_119_37 rfl ?_
        refine R_iload cd_119_38 rfl ?_
        refine R_icmp_gt 46 cd_119_39 rfl (fun b39 => ?_) (fun b39 => ?_)
        · refine R_push cd_119_46 ?_
          exfalso
          omega
        · refine R_push cd_119_42 ?_
          refine R_goto cd_119_43 ?_
          refine R_callv1 cd_119_47 rfl rfl (K_Court_mustFit (by decide)) ?_
          refine R_aload cd_119_50 rfl ?_
          refine R_getr cd_119_51 rfl ?_
          refine R_call1 cd_119_54 rfl rfl K_Film_shotCount ?_
          refine R_push cd_119_57 ?_
          refine R_icmp_ge 66 cd_119_59 rfl (fun b59 => ?_) (fun b59 => ?_)
          · refine R_push cd_119_66 ?_
            exfalso
            omega
          · refine R_push cd_119_62 ?_
            refine R_goto cd_119_63 ?_
            refine R_callv1 cd_119_67 rfl rfl (K_Court_mustBePossible (by decide)) ?_
            refine R_aload cd_119_70 rfl ?_
            refine R_getr cd_119_71 rfl ?_
            refine R_iload cd_119_74 rfl ?_
            refine R_iload cd_119_75 rfl ?_
            refine R_iload cd_119_76 rfl ?_
            refine R_callv4 cd_119_77 rfl rfl (K_Film_insert (by omega) (by omega) (by omega) (by omega) (by omega) (by omega) h7 h8) ?_
            refine R_aload cd_119_80 rfl ?_
            refine R_getr cd_119_81 rfl ?_
            refine R_call1 cd_119_84 rfl rfl K_Film_length ?_
            exact R_iret cd_119_87 (by unfold qm_cnt; rw [qa_upd_e]; rfl) rfl
theorem K_Court_uncut1 {p : Int} {M : qa_Mem} (h1 : 0 ≤ M 4 3) (h2 : M 4 3 ≤ 10) (h3 : ¬ (0 ≤ p ∧ p ≤ M 4 3 - 1)) : qa_E 120 0 [(0, qr 0), (1, qi (p))] [] (M) (.inr 1) (qa_upd M 99 0 (M 99 0 + 1)) := by
  refine R_iload cd_120_0 rfl ?_
  refine R_push cd_120_1 ?_
  refine R_aload cd_120_2 rfl ?_
  refine R_getr cd_120_3 rfl ?_
  refine R_call1 cd_120_6 rfl rfl K_Film_shotCount ?_
  refine R_push cd_120_9 ?_
  refine R_isub cd_120_10 (by unfold qa_InR; first | omega | (simp [qa_upd, qa_blk] <;> omega)) ?_
  refine R_call3 cd_120_11 rfl rfl K_Court_isWithin ?_
  exact R_callx1 cd_120_14 rfl rfl rfl (K_Court_mustExistX (qb_f (by omega))) rfl rfl
theorem K_Court_uncut0 {p : Int} {M : qa_Mem} (h1 : 0 ≤ M 4 3) (h2 : M 4 3 ≤ 10) (h3 : 0 ≤ p ∧ p ≤ M 4 3 - 1) (h4 : 0 ≤ M 21 p) (h5 : M 21 p ≤ M 22 p) (h6 : M 22 p < 120) (h7 : ∀ j, 0 ≤ j → j < 120 → -1000 ≤ M 23 j ∧ M 23 j ≤ 1000) (h8 : -10000 ≤ M 4 4 ∧ M 4 4 ≤ 10000) : qa_E 120 0 [(0, qr 0), (1, qi (p))] [] (M) (.inl (some (qi (M 4 4 + -1 * (M 22 p + 1 - M 21 p))))) (qm_del (qm_cnt M (M 21 p) (M 22 p) (-1)) p) := by
  refine R_iload cd_120_0 rfl ?_
  refine R_push cd_120_1 ?_
  refine R_aload cd_120_2 rfl ?_
  refine R_getr cd_120_3 rfl ?_
  refine R_call1 cd_120_6 rfl rfl K_Film_shotCount ?_
  refine R_push cd_120_9 ?_
  refine R_isub cd_120_10 (by unfold qa_InR; first | omega | (simp [qa_upd, qa_blk] <;> omega)) ?_
  refine R_call3 cd_120_11 rfl rfl K_Court_isWithin ?_
  refine R_callv1 cd_120_14 rfl rfl (K_Court_mustExist (qb_n0.mpr (by omega))) ?_
  refine R_aload cd_120_17 rfl ?_
  refine R_getr cd_120_18 rfl ?_
  refine R_iload cd_120_21 rfl ?_
  refine R_callv2 cd_120_22 rfl rfl (K_Film_remove (by omega) (by omega) (by omega) h4 h5 h6 h7 h8) ?_
  refine R_aload cd_120_25 rfl ?_
  refine R_getr cd_120_26 rfl ?_
  refine R_call1 cd_120_29 rfl rfl K_Film_length ?_
  exact R_iret cd_120_32 (by unfold qm_del qm_cnt; rw [qa_blk_n (by decide), qa_blk_n (by decide), qa_upd_i (by decide), qa_upd_e]) rfl
theorem K_Court_shown1 {p : Int} {M : qa_Mem} (h1 : 0 ≤ M 4 4) (h2 : M 4 4 ≤ 100000) (h3 : ¬ (0 ≤ p ∧ p ≤ M 4 4 - 1)) : qa_E 121 0 [(0, qr 0), (1, qi (p))] [] (M) (.inr 1) (qa_upd M 99 0 (M 99 0 + 1)) := by
  refine R_iload cd_121_0 rfl ?_
  refine R_push cd_121_1 ?_
  refine R_aload cd_121_2 rfl ?_
  refine R_getr cd_121_3 rfl ?_
  refine R_call1 cd_121_6 rfl rfl K_Film_length ?_
  refine R_push cd_121_9 ?_
  refine R_isub cd_121_10 (by unfold qa_InR; first | omega | (simp [qa_upd, qa_blk] <;> omega)) ?_
  refine R_call3 cd_121_11 rfl rfl K_Court_isWithin ?_
  exact R_callx1 cd_121_14 rfl rfl rfl (K_Court_mustExistX (qb_f (by omega))) rfl rfl
theorem K_Court_shown0 {p : Int} {M : qa_Mem} (h1 : 0 ≤ M 4 4) (h2 : M 4 4 ≤ 100000) (h3 : 0 ≤ p ∧ p ≤ M 4 4 - 1) (h4 : 0 ≤ M 4 3) (h5 : M 4 3 ≤ 10) (h6 : ∀ k, 0 ≤ k → k < M 4 3 → 0 ≤ M 21 k ∧ M 21 k ≤ M 22 k ∧ M 22 k < 120) : qa_E 121 0 [(0, qr 0), (1, qi (p))] [] (M) (.inl (some (qi ((let r := qm_at (M 21) (M 22) (M 4 3).toNat 0 p; if r = -1 then 0 else r))))) (M) := by
  refine R_iload cd_121_0 rfl ?_
  refine R_push cd_121_1 ?_
  refine R_aload cd_121_2 rfl ?_
  refine R_getr cd_121_3 rfl ?_
  refine R_call1 cd_121_6 rfl rfl K_Film_length ?_
  refine R_push cd_121_9 ?_
  refine R_isub cd_121_10 (by unfold qa_InR; first | omega | (simp [qa_upd, qa_blk] <;> omega)) ?_
  refine R_call3 cd_121_11 rfl rfl K_Court_isWithin ?_
  refine R_callv1 cd_121_14 rfl rfl (K_Court_mustExist (qb_n0.mpr (by omega))) ?_
  refine R_aload cd_121_17 rfl ?_
  refine R_getr cd_121_18 rfl ?_
  refine R_iload cd_121_21 rfl ?_
  refine R_call2 cd_121_22 rfl rfl (K_Film_frameAt (by omega) (by omega) h4 h5 h6) ?_
  exact R_iret cd_121_25 (by first | rfl | omega) rfl
theorem K_Court_state1 {f : Int} {M : qa_Mem} (h3 : ¬ (0 ≤ f ∧ f ≤ 119)) : qa_E 122 0 [(0, qr 0), (1, qi (f))] [] (M) (.inr 1) (qa_upd M 99 0 (M 99 0 + 1)) := by
  refine R_iload cd_122_0 rfl ?_
  refine R_call1 cd_122_1 rfl rfl K_Court_isFrame ?_
  exact R_callx1 cd_122_4 rfl rfl rfl (K_Court_mustExistX (qb_f (by omega))) rfl rfl
theorem K_Court_state0 {f : Int} {M : qa_Mem} (h3 : 0 ≤ f ∧ f ≤ 119) (h4 : 0 ≤ M 20 f ∧ M 20 f ≤ 2) : qa_E 122 0 [(0, qr 0), (1, qi (f))] [] (M) (.inl (some (qi (M 20 f + 10 * qb (0 < M 23 f))))) (M) := by
  refine R_iload cd_122_0 rfl ?_
  refine R_call1 cd_122_1 rfl rfl K_Court_isFrame ?_
  refine R_callv1 cd_122_4 rfl rfl (K_Court_mustExist (qb_n0.mpr (by omega))) ?_
  refine R_aload cd_122_7 rfl ?_
  refine R_getr cd_122_8 rfl ?_
  refine R_iload cd_122_11 rfl ?_
  refine R_call2 cd_122_12 rfl rfl (K_Stills_standing (by omega) (by omega)) ?_
  refine R_aload cd_122_15 rfl ?_
  refine R_getr cd_122_16 rfl ?_
  refine R_iload cd_122_19 rfl ?_
  refine R_call2 cd_122_20 rfl rfl (K_Film_needs (by omega) (by omega)) ?_
  refine R_ifeq_b 31 cd_122_23 rfl (fun b23 => ?_) (fun b23 => ?_)
  · refine R_push cd_122_31 ?_
    refine R_iadd cd_122_32 (by unfold qa_InR; first | omega | (simp [qa_upd, qa_blk] <;> omega)) ?_
    first
      | exact R_iret cd_122_33 (by rw [qb_t b23]; omega) rfl
      | exact R_iret cd_122_33 (by rw [qb_f b23]; omega) rfl
  · refine R_push cd_122_26 ?_
    refine R_goto cd_122_28 ?_
    refine R_iadd cd_122_32 (by unfold qa_InR; first | omega | (simp [qa_upd, qa_blk] <;> omega)) ?_
    first
      | exact R_iret cd_122_33 (by rw [qb_t b23]; omega) rfl
      | exact R_iret cd_122_33 (by rw [qb_f b23]; omega) rfl
theorem K_Court_voids {M : qa_Mem} : qa_E 123 0 [(0, qr 0)] [] (M) (.inl (some (qi (qf_cnt (fun f => M 20 f = 2) 120)))) (M) := by
  refine R_aload cd_123_0 rfl ?_
  refine R_getr cd_123_1 rfl ?_
  refine R_call1 cd_123_4 rfl rfl K_Stills_voidCount ?_
  exact R_iret cd_123_7 (by first | rfl | omega) rfl
theorem K_Court_voidsByAll {M : qa_Mem} (h1 : 0 ≤ M 1 3) (h2 : M 1 3 ≤ 8) : qa_E 124 0 [(0, qr 0)] [] (M) (.inl (some (qi (qf_cnt (fun f => M 20 f ≠ 0 ∧ ¬ qs_am M f) 120)))) (M) := by
  refine R_aload cd_124_0 rfl ?_
  refine R_getr cd_124_1 rfl ?_
  refine R_aload cd_124_4 rfl ?_
  refine R_getr cd_124_5 rfl ?_
  refine R_call2 cd_124_8 rfl rfl (K_Stills_voidCountByAll (by omega) (by omega)) ?_
  exact R_iret cd_124_11 (by first | rfl | omega) rfl
theorem K_Court_machine1 {s : Int} {M : qa_Mem} (h3 : ¬ (1 ≤ s ∧ s ≤ 5)) : qa_E 125 0 [(0, qr 0), (1, qi (s))] [] (M) (.inr 2) (qa_upd M 99 0 (M 99 0 + 1)) := by
  refine R_iload cd_125_0 rfl ?_
  refine R_push cd_125_1 ?_
  refine R_push cd_125_2 ?_
  refine R_call3 cd_125_3 rfl rfl K_Court_isWithin ?_
  exact R_callx1 cd_125_6 rfl rfl rfl (K_Court_mustFitX (qb_f (by omega))) rfl rfl
theorem K_Court_machine2 {s : Int} {M : qa_Mem} (h3 : 1 ≤ s ∧ s ≤ 5) (h4 : M 5 3 = 4) : qa_E 125 0 [(0, qr 0), (1, qi (s))] [] (M) (.inr 3) (qa_upd M 99 0 (M 99 0 + 1)) := by
  refine R_iload cd_125_0 rfl ?_
  refine R_push cd_125_1 ?_
  refine R_push cd_125_2 ?_
  refine R_call3 cd_125_3 rfl rfl K_Court_isWithin ?_
  refine R_callv1 cd_125_6 rfl rfl (K_Court_mustFit (qb_n0.mpr (by omega))) ?_
  refine R_aload cd_125_9 rfl ?_
  refine R_getr cd_125_10 rfl ?_
  refine R_call1 cd_125_13 rfl rfl K_Farm_machineCount ?_
  refine R_push cd_125_16 ?_
  refine R_icmp_ge 24 cd_125_17 rfl (fun b17 => ?_) (fun b17 => ?_)
  · refine R_push cd_125_24 ?_
    exact R_callx1 cd_125_25 rfl rfl rfl (K_Court_mustBePossibleX rfl) rfl rfl
  · refine R_push cd_125_20 ?_
    refine R_goto cd_125_21 ?_
    exfalso
    omega
theorem K_Court_machine0 {s : Int} {M : qa_Mem} (h3 : 1 ≤ s ∧ s ≤ 5) (h4 : 0 ≤ M 5 3 ∧ M 5 3 < 4) : qa_E 125 0 [(0, qr 0), (1, qi (s))] [] (M) (.inl (some (qi (M 5 3)))) (qa_upd (qa_upd M 24 (M 5 3) s) 5 3 (M 5 3 + 1)) := by
  refine R_iload cd_125_0 rfl ?_
  refine R_push cd_125_1 ?_
  refine R_push cd_125_2 ?_
  refine R_call3 cd_125_3 rfl rfl K_Court_isWithin ?_
  refine R_callv1 cd_125_6 rfl rfl (K_Court_mustFit (qb_n0.mpr (by omega))) ?_
  refine R_aload cd_125_9 rfl ?_
  refine R_getr cd_125_10 rfl ?_
  refine R_call1 cd_125_13 rfl rfl K_Farm_machineCount ?_
  refine R_push cd_125_16 ?_
  refine R_icmp_ge 24 cd_125_17 rfl (fun b17 => ?_) (fun b17 => ?_)
  · refine R_push cd_125_24 ?_
    exfalso
    omega
  · refine R_push cd_125_20 ?_
    refine R_goto cd_125_21 ?_
    refine R_callv1 cd_125_25 rfl rfl (K_Court_mustBePossible (by decide)) ?_
    refine R_aload cd_125_28 rfl ?_
    refine R_getr cd_125_29 rfl ?_
    refine R_iload cd_125_32 rfl ?_
    refine R_call2 cd_125_33 rfl rfl (K_Farm_addMachine (by omega) (by omega)) ?_
    exact R_iret cd_125_36 (by first | rfl | omega) rfl
theorem K_Court_offer1 {p h : Int} {M : qa_Mem} (h3 : ¬ ((1 ≤ p ∧ p ≤ 100) ∧ 1 ≤ h ∧ h ≤ 50)) : qa_E 126 0 [(0, qr 0), (1, qi (p)), (2, qi (h))] [] (M) (.inr 2) (qa_upd M 99 0 (M 99 0 + 1)) := by
  refine R_iload cd_126_0 rfl ?_
  refine R_push cd_126_1 ?_
  refine R_push cd_126_2 ?_
  refine R_call3 cd_126_4 rfl rfl K_Court_isWithin ?_
  refine R_ifeq_b 24 cd_126_7 rfl (fun b7 => ?_) (fun b7 => ?_)
  · refine R_push cd_126_24 ?_
    exact R_callx1 cd_126_25 rfl rfl rfl (K_Court_mustFitX rfl) rfl rfl
  · refine R_iload cd_126_10 rfl ?_
    refine R_push cd_126_11 ?_
    refine R_push cd_126_12 ?_
    refine R_call3 cd_126_14 rfl rfl K_Court_isWithin ?_
    refine R_ifeq_b 24 cd_126_17 rfl (fun b17 => ?_) (fun b17 => ?_)
    · refine R_push cd_126_24 ?_
      exact R_callx1 cd_126_25 rfl rfl rfl (K_Court_mustFitX rfl) rfl rfl
    · refine R_push cd_126_20 ?_
      refine R_goto cd_126_21 ?_
      exfalso
      omega
theorem K_Court_offer2 {p h : Int} {M : qa_Mem} (h3 : (1 ≤ p ∧ p ≤ 100) ∧ 1 ≤ h ∧ h ≤ 50) (h4 : M 5 6 = 10) : qa_E 126 0 [(0, qr 0), (1, qi (p)), (2, qi (h))] [] (M) (.inr 3) (qa_upd M 99 0 (M 99 0 + 1)) := by
  refine R_iload cd_126_0 rfl ?_
  refine R_push cd_126_1 ?_
  refine R_push cd_126_2 ?_
  refine R_call3 cd_126_4 rfl rfl K_Court_isWithin ?_
  refine R_ifeq_b 24 cd_126_7 rfl (fun b7 => ?_) (fun b7 => ?_)
  · refine R_push cd_126_24 ?_
    exfalso
    omega
  · refine R_iload cd_126_10 rfl ?_
    refine R_push cd_126_11 ?_
    refine R_push cd_126_12 ?_
    refine R_call3 cd_126_14 rfl rfl K_Court_isWithin ?_
    refine R_ifeq_b 24 cd_126_17 rfl (fun b17 => ?_) (fun b17 => ?_)
    · refine R_push cd_126_24 ?_
      exfalso
      omega
    · refine R_push cd_126_20 ?_
      refine R_goto cd_126_21 ?_
      refine R_callv1 cd_126_25 rfl rfl (K_Court_mustFit (by decide)) ?_
      refine R_aload cd_126_28 rfl ?_
      refine R_getr cd_126_29 rfl ?_
      refine R_call1 cd_126_32 rfl rfl K_Farm_offerCount ?_
      refine R_push cd_126_35 ?_
      refine R_icmp_ge 44 cd_126_37 rfl (fun b37 => ?_) (fun b37 => ?_)
      · refine R_push cd_126_44 ?_
        exact R_callx1 cd_126_45 rfl rfl rfl (K_Court_mustBePossibleX rfl) rfl rfl
      · refine R_push cd_126_40 ?_
        refine R_goto cd_126_41 ?_
        exfalso
        omega
theorem K_Court_offer0 {p h : Int} {M : qa_Mem} (h3 : (1 ≤ p ∧ p ≤ 100) ∧ 1 ≤ h ∧ h ≤ 50) (h4 : 0 ≤ M 5 6 ∧ M 5 6 < 10) : qa_E 126 0 [(0, qr 0), (1, qi (p)), (2, qi (h))] [] (M) (.inl (some (qi (M 5 6)))) (qa_upd (qa_upd (qa_upd M 27 (M 5 6) p) 28 (M 5 6) h) 5 6 (M 5 6 + 1)) := by
  refine R_iload cd_126_0 rfl ?_
  refine R_push cd_126_1 ?_
  refine R_push cd_126_2 ?_
  refine R_call3 cd_126_4 rfl rfl K_Court_isWithin ?_
  refine R_ifeq_b 24 cd_126_7 rfl (fun b7 => ?_) (fun b7 => ?_)
  · refine R_push cd_126_24 ?_
    exfalso
    omega
  · refine R_iload cd_126_10 rfl ?_
    refine R_push cd_126_11 ?_
    refine R_push cd_126_12 ?_
    refine R_call3 cd_126_14 rfl rfl K_Court_isWithin ?_
    refine R_ifeq_b 24 cd_126_17 rfl (fun b17 => ?_) (fun b17 => ?_)
    · refine R_push cd_126_24 ?_
      exfalso
      omega
    · refine R_push cd_126_20 ?_
      refine R_goto cd_126_21 ?_
      refine R_callv1 cd_126_25 rfl rfl (K_Court_mustFit (by decide)) ?_
      refine R_aload cd_126_28 rfl ?_
      refine R_getr cd_126_29 rfl ?_
      refine R_call1 cd_126_32 rfl rfl K_Farm_offerCount ?_
      refine R_push cd_126_35 ?_
      refine R_icmp_ge 44 cd_126_37 rfl (fun b37 => ?_) (fun b37 => ?_)
      · refine R_push cd_126_44 ?_
        exfalso
        omega
      · refine R_push cd_126_40 ?_
        refine R_goto cd_126_41 ?_
        refine R_callv1 cd_126_45 rfl rfl (K_Court_mustBePossible (by decide)) ?_
        refine R_aload cd_126_48 rfl ?_
        refine R_getr cd_126_49 rfl ?_
        refine R_iload cd_126_52 rfl ?_
        refine R_iload cd_126_53 rfl ?_
        refine R_call3 cd_126_54 rfl rfl (K_Farm_addOffer (by omega) (by omega)) ?_
        exact R_iret cd_126_57 (by first | rfl | omega) rfl
theorem K_Court_night1 {h : Int} {M : qa_Mem} (h3 : ¬ (1 ≤ h ∧ h ≤ 24)) : qa_E 127 0 [(0, qr 0), (1, qi (h))] [] (M) (.inr 2) (qa_upd M 99 0 (M 99 0 + 1)) := by
  refine R_iload cd_127_0 rfl ?_
  refine R_push cd_127_1 ?_
  refine R_push cd_127_2 ?_
  refine R_call3 cd_127_4 rfl rfl K_Court_isWithin ?_
  exact R_callx1 cd_127_7 rfl rfl rfl (K_Court_mustFitX (qb_f (by omega))) rfl rfl
theorem K_Court_night0 {h : Int} {M : qa_Mem} (hv : qc_fv M) (h3 : 1 ≤ h ∧ h ≤ 24) : qa_E 127 0 [(0, qr 0), (1, qi (h))] [] (M) (.inl (some (qi ((qc_hs (0, M) (M 5 3).toNat h.toNat).1)))) ((qc_hs (0, M) (M 5 3).toNat h.toNat).2) := by
  refine R_iload cd_127_0 rfl ?_
  refine R_push cd_127_1 ?_
  refine R_push cd_127_2 ?_
  refine R_call3 cd_127_4 rfl rfl K_Court_isWithin ?_
  refine R_callv1 cd_127_7 rfl rfl (K_Court_mustFit (qb_n0.mpr (by omega))) ?_
  refine R_aload cd_127_10 rfl ?_
  refine R_getr cd_127_11 rfl ?_
  refine R_iload cd_127_14 rfl ?_
  refine R_aload cd_127_15 rfl ?_
  refine R_getr cd_127_16 rfl ?_
  refine R_aload cd_127_19 rfl ?_
  refine R_getr cd_127_20 rfl ?_
  refine R_aload cd_127_23 rfl ?_
  refine R_getr cd_127_24 rfl ?_
  refine R_call5 cd_127_27 rfl rfl (K_Farm_passHours hv (by omega) (by omega)) ?_
  exact R_iret cd_127_30 (by first | rfl | omega) rfl
theorem K_Court_heat1 {m : Int} {M : qa_Mem} (h1 : 0 ≤ M 5 3 ∧ M 5 3 ≤ 4) (h3 : ¬ (0 ≤ m ∧ m ≤ M 5 3 - 1)) : qa_E 128 0 [(0, qr 0), (1, qi (m))] [] (M) (.inr 1) (qa_upd M 99 0 (M 99 0 + 1)) := by
  refine R_iload cd_128_0 rfl ?_
  refine R_push cd_128_1 ?_
  refine R_aload cd_128_2 rfl ?_
  refine R_getr cd_128_3 rfl ?_
  refine R_call1 cd_128_6 rfl rfl K_Farm_machineCount ?_
  refine R_push cd_128_9 ?_
  refine R_isub cd_128_10 (by unfold qa_InR; first | omega | (simp [qa_upd, qa_blk] <;> omega)) ?_
  refine R_call3 cd_128_11 rfl rfl K_Court_isWithin ?_
  exact R_callx1 cd_128_14 rfl rfl rfl (K_Court_mustExistX (qb_f (by omega))) rfl rfl
theorem K_Court_heat0 {m : Int} {M : qa_Mem} (h1 : 0 ≤ M 5 3 ∧ M 5 3 ≤ 4) (h3 : 0 ≤ m ∧ m ≤ M 5 3 - 1) (h4 : 0 ≤ M 25 m ∧ M 25 m ≤ 24) (h5 : M 26 m = 0 ∨ M 26 m = 1) : qa_E 128 0 [(0, qr 0), (1, qi (m))] [] (M) (.inl (some (qi (10 * M 25 m + M 26 m)))) (M) := by
  refine R_iload cd_128_0 rfl ?_
  refine R_push cd_128_1 ?_
  refine R_aload cd_128_2 rfl ?_
  refine R_getr cd_128_3 rfl ?_
  refine R_call1 cd_128_6 rfl rfl K_Farm_machineCount ?_
  refine R_push cd_128_9 ?_
  refine R_isub cd_128_10 (by unfold qa_InR; first | omega | (simp [qa_upd, qa_blk] <;> omega)) ?_
  refine R_call3 cd_128_11 rfl rfl K_Court_isWithin ?_
  refine R_callv1 cd_128_14 rfl rfl (K_Court_mustExist (qb_n0.mpr (by omega))) ?_
  refine R_aload cd_128_17 rfl ?_
  refine R_getr cd_128_18 rfl ?_
  refine R_iload cd_128_21 rfl ?_
  refine R_call2 cd_128_22 rfl rfl (K_Farm_heatOf (by omega) (by omega) (by omega) (by omega)) ?_
  exact R_iret cd_128_25 (by first | rfl | omega) rfl
theorem K_Court_setRate1 {r : Int} {M : qa_Mem} (h3 : ¬ (0 ≤ r ∧ r ≤ 1000)) : qa_E 129 0 [(0, qr 0), (1, qi (r))] [] (M) (.inr 2) (qa_upd M 99 0 (M 99 0 + 1)) := by
  refine R_iload cd_129_0 rfl ?_
  refine R_push cd_129_1 ?_
  refine R_push cd_129_2 ?_
  refine R_call3 cd_129_5 rfl rfl K_Court_isWithin ?_
  exact R_callx1 cd_129_8 rfl rfl rfl (K_Court_mustFitX (qb_f (by omega))) rfl rfl
theorem K_Court_setRate0 {r : Int} {M : qa_Mem} (h3 : 0 ≤ r ∧ r ≤ 1000) : qa_E 129 0 [(0, qr 0), (1, qi (r))] [] (M) (.inl (some (qi (M 0 5)))) (qa_upd M 0 5 r) := by
  refine R_iload cd_129_0 rfl ?_
  refine R_push cd_129_1 ?_
  refine R_push cd_129_2 ?_
  refine R_call3 cd_129_5 rfl rfl K_Court_isWithin ?_
  refine R_callv1 cd_129_8 rfl rfl (K_Court_mustFit (qb_n0.mpr (by omega))) ?_
  refine R_aload cd_129_11 rfl ?_
  refine R_getf cd_129_12 rfl (by decide) ?_
  refine R_istore cd_129_15 ?_
  refine R_aload cd_129_16 rfl ?_
  refine R_iload cd_129_17 rfl ?_
  refine R_putf cd_129_18 rfl (by decide) ?_
  refine R_iload cd_129_21 rfl ?_
  exact R_iret cd_129_22 (by first | rfl | omega) rfl
theorem K_Court_money1 {w : Int} {M : qa_Mem} (h3 : ¬ (0 ≤ w ∧ w ≤ 6)) : qa_E 132 0 [(0, qr 0), (1, qi (w))] [] (M) (.inr 1) (qa_upd M 99 0 (M 99 0 + 1)) := by
  refine R_iload cd_132_0 rfl ?_
  refine R_push cd_132_1 ?_
  refine R_push cd_132_2 ?_
  refine R_call3 cd_132_4 rfl rfl K_Court_isWithin ?_
  exact R_callx1 cd_132_7 rfl rfl rfl (K_Court_mustExistX (qb_f (by omega))) rfl rfl
theorem K_Court_money0 {w : Int} {M : qa_Mem} (h3 : 0 ≤ w ∧ w ≤ 6) : qa_E 132 0 [(0, qr 0), (1, qi (w))] [] (M) (.inl (some (qi (if w = 6 then M 5 7 else M 8 w)))) (M) := by
  refine R_iload cd_132_0 rfl ?_
  refine R_push cd_132_1 ?_
  refine R_push cd_132_2 ?_
  refine R_call3 cd_132_4 rfl rfl K_Court_isWithin ?_
  refine R_callv1 cd_132_7 rfl rfl (K_Court_mustExist (qb_n0.mpr (by omega))) ?_
  refine R_iload cd_132_10 rfl ?_
  refine R_push cd_132_11 ?_
  refine R_icmp_ne 26 cd_132_13 rfl (fun b13 => ?_) (fun b13 => ?_)
  · refine R_aload cd_132_26 rfl ?_
    refine R_getr cd_132_27 rfl ?_
    refine R_iload cd_132_30 rfl ?_
    refine R_iald cd_132_31 rfl (by omega) (by omega) ?_
    exact R_iret cd_132_32 (by first | rw [if_pos b13] | rw [if_neg b13]) rfl
  · refine R_aload cd_132_16 rfl ?_
    refine R_getr cd_132_17 rfl ?_
    refine R_call1 cd_132_20 rfl rfl K_Farm_earnings ?_
    refine R_goto cd_132_23 ?_
    exact R_iret cd_132_32 (by first | rw [if_pos b13] | rw [if_neg b13]) rfl
/-- the frames of the film that hang on the artist's keys (class) -/
def qc_sec (M : qa_Mem) (w : Int) : Int := qf_sum (fun f => if qa_and (qf_or (fun t => M 13 (t * 120 + f)) (3 * M 1 3).toNat) (qa_shl 1 w) = 0 then 0 else M 23 f) 120
theorem qf_sum_r {A : Int → Int} {B : Int} (n : Nat) (h : ∀ j : Int, 0 ≤ j → j < n → 0 ≤ A j ∧ A j ≤ B) : 0 ≤ qf_sum A n ∧ qf_sum A n ≤ n * B := by
  induction n with
  | zero => exact ⟨Int.le_refl _, by show (0 : Int) ≤ (0 : Nat) * B; simp⟩
  | succ n ih =>
    have i := ih (fun j a b => h j a (by omega))
    have t := h n (by omega) (by omega)
    unfold qf_sum
    rw [Int.natCast_add, Int.add_mul]
    omega
theorem K_Court_secondsOf {w : Int} {M : qa_Mem} (h1 : 0 ≤ M 1 3) (h2 : M 1 3 ≤ 8) (h3 : ∀ j, 0 ≤ j → j < 120 → 0 ≤ M 23 j ∧ M 23 j ≤ 10) : qa_E 133 0 [(0, qr 0), (1, qi (w))] [] (M) (.inl (some (qi (qc_sec M w / 24)))) (M) := by
  obtain ⟨A, hA⟩ : ∃ A : Int → Int, A = (fun f => if qa_and (qf_or (fun t => M 13 (t * 120 + f)) (3 * M 1 3).toNat) (qa_shl 1 w) = 0 then 0 else M 23 f) := ⟨_, rfl⟩
  have hs : qc_sec M w = qf_sum A 120 := by rw [hA]; rfl
  have hb : ∀ j : Int, 0 ≤ j → j < 120 → 0 ≤ A j ∧ A j ≤ 10 := by
    intro j a b
    rw [hA]
    dsimp only
    split
    · omega
    · exact h3 j a b
  rw [hs]
  have lp : ∀ (k : Nat) (j : Nat), j + k = 120 → qa_E 133 4 [(0, qr 0), (1, qi w), (2, qi (qf_sum A j)), (3, qi j)] [] M (.inl (some (qi (qf_sum A 120 / 24)))) M := by
    intro k
    induction k with
    | zero =>
      intro j g1
      obtain rfl : j = 120 := by omega
      have r1 := qf_sum_r (A := A) (B := 10) 120 (fun j a b => hb j a (by omega))
      refine R_iload cd_133_4 rfl ?_
      refine R_push cd_133_5 ?_
      refine R_icmp_ge 42 cd_133_7 rfl (fun b7 => ?_) (fun b7 => ?_)
      · refine R_iload cd_133_42 rfl ?_
        refine R_push cd_133_43 ?_
        refine R_idiv cd_133_45 (by decide) ?_
        exact R_iret cd_133_46 (Int.tdiv_eq_ediv_of_nonneg r1.1) rfl
      · omega
    | succ k ih =>
      intro j g1
      have e := ih (j + 1) (by omega)
      have r1 := qf_sum_r (A := A) (B := 10) j (fun i a b => hb i a (by omega))
      have r2 := hb j (by omega) (by omega)
      rw [Int.natCast_add] at e
      unfold qf_sum at e
      have eA : A j = if qa_and (qf_or (fun t => M 13 (t * 120 + j)) (3 * M 1 3).toNat) (qa_shl 1 w) = 0 then 0 else M 23 j := by rw [hA]
      refine R_iload cd_133_4 rfl ?_
      refine R_push cd_133_5 ?_
      refine R_icmp_ge 42 cd_133_7 rfl (fun b7 => ?_) (fun b7 => ?_)
      · omega
      · refine R_aload cd_133_10 rfl ?_
        refine R_getr cd_133_11 rfl ?_
        refine R_iload cd_133_14 rfl ?_
        refine R_call2 cd_133_15 rfl rfl (K_Rig_artistsAt (by omega) (by omega) (by omega) (by omega)) ?_
        refine R_push cd_133_18 ?_
        refine R_iload cd_133_19 rfl ?_
        refine R_ishl cd_133_20 ?_
        refine R_iand cd_133_21 ?_
        refine R_if_eq 36 cd_133_22 rfl (fun b22 => ?_) (fun b22 => ?_)
        · first
            | rw [eA, if_pos b22, Int.add_zero] at e
              refine R_iinc cd_133_36 rfl (by unfold qa_InR; first | omega | (simp [qa_upd, qa_blk] <;> omega)) ?_
              refine R_goto cd_133_39 ?_
              exact R_norm (qs_c rfl (qs_c rfl (qs_c rfl (qs_c rfl qs_n)))) e
            | rw [eA, if_neg b22] at e
              refine R_iinc cd_133_36 rfl (by unfold qa_InR; first | omega | (simp [qa_upd, qa_blk] <;> omega)) ?_
              refine R_goto cd_133_39 ?_
              exact R_norm (qs_c rfl (qs_c rfl (qs_c rfl (qs_c rfl qs_n)))) e
        · refine R_iload cd_133_25 rfl ?_
          refine R_aload cd_133_26 rfl ?_
          refine R_getr cd_133_27 rfl ?_
          refine R_iload cd_133_30 rfl ?_
          refine R_call2 cd_133_31 rfl rfl (K_Film_timesOf (by omega) (by omega)) ?_
          refine R_iadd cd_133_34 (by rw [eA, if_neg b22] at r2; unfold qa_InR; omega) ?_
          refine R_istore cd_133_35 ?_
          first
            | rw [eA, if_pos b22, Int.add_zero] at e
              refine R_iinc cd_133_36 rfl (by unfold qa_InR; first | omega | (simp [qa_upd, qa_blk] <;> omega)) ?_
              refine R_goto cd_133_39 ?_
              exact R_norm (qs_c rfl (qs_c rfl (qs_c rfl (qs_c rfl qs_n)))) e
            | rw [eA, if_neg b22] at e
              refine R_iinc cd_133_36 rfl (by unfold qa_InR; first | omega | (simp [qa_upd, qa_blk] <;> omega)) ?_
              refine R_goto cd_133_39 ?_
              exact R_norm (qs_c rfl (qs_c rfl (qs_c rfl (qs_c rfl qs_n)))) e
  refine R_push cd_133_0 ?_
  refine R_istore cd_133_1 ?_
  refine R_push cd_133_2 ?_
  refine R_istore cd_133_3 ?_
  exact R_norm (qs_c rfl (qs_c rfl (qs_c rfl (qs_c rfl qs_n)))) (lp 120 0 (by omega))
theorem K_Court_seconds1 {w : Int} {M : qa_Mem} (h3 : ¬ (0 ≤ w ∧ w ≤ 5)) : qa_E 130 0 [(0, qr 0), (1, qi (w))] [] (M) (.inr 1) (qa_upd M 99 0 (M 99 0 + 1)) := by
  refine R_iload cd_130_0 rfl ?_
  refine R_push cd_130_1 ?_
  refine R_push cd_130_2 ?_
  refine R_call3 cd_130_3 rfl rfl K_Court_isWithin ?_
  exact R_callx1 cd_130_6 rfl rfl rfl (K_Court_mustExistX (qb_f (by omega))) rfl rfl
theorem K_Court_seconds0 {w : Int} {M : qa_Mem} (h1 : 0 ≤ M 1 3) (h2 : M 1 3 ≤ 8) (h3 : ∀ j, 0 ≤ j → j < 120 → 0 ≤ M 23 j ∧ M 23 j ≤ 10) (h4 : 0 ≤ w ∧ w ≤ 5) : qa_E 130 0 [(0, qr 0), (1, qi (w))] [] (M) (.inl (some (qi (qc_sec M w / 24)))) (M) := by
  refine R_iload cd_130_0 rfl ?_
  refine R_push cd_130_1 ?_
  refine R_push cd_130_2 ?_
  refine R_call3 cd_130_3 rfl rfl K_Court_isWithin ?_
  refine R_callv1 cd_130_6 rfl rfl (K_Court_mustExist (qb_n0.mpr (by omega))) ?_
  refine R_aload cd_130_9 rfl ?_
  refine R_iload cd_130_10 rfl ?_
  refine R_call2 cd_130_11 rfl rfl (K_Court_secondsOf h1 h2 h3) ?_
  exact R_iret cd_130_14 (by first | rfl | omega) rfl
def qc_std (M : qa_Mem) : Prop := ∀ f : Int, 0 ≤ f → f < 120 → 0 < M 23 f → M 20 f = 1
theorem K_Court_isFilmStanding {M : qa_Mem} : qa_E 134 0 [(0, qr 0)] [] (M) (.inl (some (qi (qb (qc_std M))))) (M) := by
  have lp : ∀ (k : Nat) (j : Int), j + k = 120 → 0 ≤ j → (∀ f : Int, 0 ≤ f → f < j → 0 < M 23 f → M 20 f = 1) → qa_E 134 2 [(0, qr 0), (1, qi j)] [] M (.inl (some (qi (qb (qc_std M))))) M := by
    intro k
    induction k with
    | zero =>
      intro j g1 g2 g3
      refine R_iload cd_134_2 rfl ?_
      refine R_push cd_134_3 ?_
      refine R_icmp_ge 38 cd_134_5 rfl (fun b5 => ?_) (fun b5 => ?_)
      · refine R_push cd_134_38 ?_
        exact R_zret_t cd_134_39 (fun f a b c => g3 f a (by omega) c) rfl
      · omega
    | succ k ih =>
      intro j g1 g2 g3
      refine R_iload cd_134_2 rfl ?_
      refine R_push cd_134_3 ?_
      refine R_icmp_ge 38 cd_134_5 rfl (fun b5 => ?_) (fun b5 => ?_)
      · omega
      · refine R_aload cd_134_8 rfl ?_
        refine R_getr cd_134_9 rfl ?_
        refine R_iload cd_134_12 rfl ?_
        refine R_call2 cd_134_13 rfl rfl (K_Film_needs (by omega) (by omega)) ?_
        refine R_ifeq_b 32 cd_134_16 rfl (fun b16 => ?_) (fun b16 => ?_)
        · refine R_iinc cd_134_32 rfl (by unfold qa_InR; first | omega | (simp [qa_upd, qa_blk] <;> omega)) ?_
          refine R_goto cd_134_35 ?_
          exact R_norm (qs_c rfl (qs_c rfl qs_n)) (ih (j + 1) (by omega) (by omega) (fun f a b c => by
            by_cases hf : f = j
            · subst hf
              first
                | exact b27
                | exact absurd c b16
            · exact g3 f a (by omega) c))
        · refine R_aload cd_134_19 rfl ?_
          refine R_getr cd_134_20 rfl ?_
          refine R_iload cd_134_23 rfl ?_
          refine R_call2 cd_134_24 rfl rfl (K_Stills_stands (by omega) (by omega)) ?_
          refine R_ifne_b 32 cd_134_27 rfl (fun b27 => ?_) (fun b27 => ?_)
          · refine R_iinc cd_134_32 rfl (by unfold qa_InR; first | omega | (simp [qa_upd, qa_blk] <;> omega)) ?_
            refine R_goto cd_134_35 ?_
            exact R_norm (qs_c rfl (qs_c rfl qs_n)) (ih (j + 1) (by omega) (by omega) (fun f a b c => by
              by_cases hf : f = j
              · subst hf
                first
                  | exact b27
                  | exact absurd c b16
              · exact g3 f a (by omega) c))
          · refine R_push cd_134_30 ?_
            exact R_zret_f cd_134_31 (fun q => b27 (q j g2 (by omega) b16)) rfl
  refine R_push cd_134_0 ?_
  refine R_istore cd_134_1 ?_
  exact R_norm (qs_c rfl (qs_c rfl qs_n)) (lp 120 0 (by omega) (by omega) (fun f a b => by omega))
end
section
def qw_sum (A : Int → Int) : Nat → Int
  | 0 => 0
  | n + 1 => qa_wrap (qw_sum A n + A n)
theorem K_Court_show1 {M : qa_Mem} (h3 : ¬ (0 < M 4 4 ∧ qc_std M)) : qa_E 131 0 [(0, qr 0)] [] (M) (.inr 3) (qa_upd M 99 0 (M 99 0 + 1)) := by
  refine R_aload cd_131_0 rfl ?_
  refine R_getr cd_131_1 rfl ?_
  refine R_call1 cd_131_4 rfl rfl K_Film_length ?_
  refine R_if_le 21 cd_131_7 rfl (fun b7 => ?_) (fun b7 => ?_)
  · refine R_push cd_131_21 ?_
    exact R_callx1 cd_131_22 rfl rfl rfl (K_Court_mustBePossibleX rfl) rfl rfl
  · refine R_aload cd_131_10 rfl ?_
    refine R_call1 cd_131_11 rfl rfl K_Court_isFilmStanding ?_
    refine R_ifeq_b 21 cd_131_14 rfl (fun b14 => ?_) (fun b14 => ?_)
    · refine R_push cd_131_21 ?_
      exact R_callx1 cd_131_22 rfl rfl rfl (K_Court_mustBePossibleX rfl) rfl rfl
    · refine R_push cd_131_17 ?_
      refine R_goto cd_131_18 ?_
      exfalso
      first | omega | exact absurd ⟨b7, b14⟩ h3
def qc_due (M : qa_Mem) (w : Int) : Int := qc_sec M w / 24 * M 0 5
def qc_pay (M : qa_Mem) (a : Int) : qa_Mem := qa_blk M 8 (fun w => if 0 ≤ w ∧ w < a then qa_wrap (M 8 w + qc_due M w) else M 8 w)
theorem K_Court_show0 {M : qa_Mem} (h1 : 0 ≤ M 1 3) (h2 : M 1 3 ≤ 8) (h3 : ∀ j, 0 ≤ j → j < 120 → 0 ≤ M 23 j ∧ M 23 j ≤ 10) (h4 : 0 < M 4 4) (h5 : qc_std M) (h6 : 0 ≤ M 0 5 ∧ M 0 5 ≤ 1000) : qa_E 131 0 [(0, qr 0)] [] (M) (.inl (some (qi (qw_sum (qc_due M) 6)))) (qc_pay M 6) := by
  have lp : ∀ (k : Nat) (j : Nat), j + k = 6 → qa_E 131 29 [(0, qr 0), (1, qi (qw_sum (qc_due M) j)), (2, qi j)] [] (qc_pay M j) (.inl (some (qi (qw_sum (qc_due M) 6)))) (qc_pay M 6) := by
    intro k
    induction k with
    | zero =>
      intro j g1
      obtain rfl : j = 6 := by omega
      refine R_iload cd_131_29 rfl ?_
      refine R_push cd_131_30 ?_
      refine R_icmp_ge 66 cd_131_32 rfl (fun b32 => ?_) (fun b32 => ?_)
      · refine R_iload cd_131_66 rfl ?_
        exact R_iret cd_131_67 (by first | rfl | omega) rfl
      · omega
    | succ k ih =>
      intro j g1
      have e := ih (j + 1) (by omega)
      have es := K_Court_secondsOf (w := (j : Int)) (M := qc_pay M j) h1 h2 h3
      rw [show qc_sec (qc_pay M j) j = qc_sec M j from rfl] at es
      have r1 : 0 ≤ qc_sec M j ∧ qc_sec M j ≤ 120 * 10 := by
        unfold qc_sec
        have := qf_sum_r (A := fun f => if qa_and (qf_or (fun t => M 13 (t * 120 + f)) (3 * M 1 3).toNat) (qa_shl 1 j) = 0 then 0 else M 23 f) (B := 10) 120 (fun i a b => by
          split
          · omega
          · exact h3 i a (by omega))
        exact this
      have r2 := qf_mulb (d := qc_sec M j / 24) (e := M 0 5) (A := 50) (B := 1000) (by omega) (by omega) (by omega) (by omega)
      have ep : (qc_pay M j) 8 j = M 8 j := by unfold qc_pay; rw [qa_blk_e, if_neg (by omega)]
      have em : qa_upd (qc_pay M j) 8 j (qa_wrap (M 8 j + qc_due M j)) = qc_pay M ((j + 1 : Nat) : Int) := by
        rw [Int.natCast_add]
        funext c9 q
        by_cases g8 : c9 = 8
        · subst g8
          simp only [qc_pay, qa_upd, qa_blk, if_true, true_and]
          by_cases hq : q = (j : Int)
          · subst hq; rw [if_pos rfl, if_pos (by omega)]
          · rw [if_neg hq]
            (repeat' split) <;> first | rfl | omega | (congr 1 <;> omega)
        · simp [qc_pay, qa_upd, qa_blk, g8]
      rw [← em, show qw_sum (qc_due M) (j + 1) = qa_wrap (qw_sum (qc_due M) j + qc_due M j) from rfl, Int.natCast_add] at e
      refine R_iload cd_131_29 rfl ?_
      refine R_push cd_131_30 ?_
      refine R_icmp_ge 66 cd_131_32 rfl (fun b32 => ?_) (fun b32 => ?_)
      · omega
      · refine R_aload cd_131_35 rfl ?_
        refine R_iload cd_131_36 rfl ?_
        refine R_call2 cd_131_37 rfl rfl es ?_
        refine R_aload cd_131_40 rfl ?_
        refine R_getf cd_131_41 rfl (by decide) ?_
        refine R_imul cd_131_44 (show qa_InR (qc_sec M j / 24 * M 0 5) by unfold qa_InR; omega) ?_
        refine R_istore cd_131_45 ?_
        refine R_aload cd_131_46 rfl ?_
        refine R_getr cd_131_47 rfl ?_
        refine R_iload cd_131_50 rfl ?_
        refine R_dup2 cd_131_51 rfl rfl ?_
        refine R_iald cd_131_52 rfl (by omega) (by omega) ?_
        refine R_iload cd_131_53 rfl ?_
        refine R_iaddw cd_131_54 ?_
        refine R_iast cd_131_55 rfl (by omega) (by omega)  ?_
        refine R_iload cd_131_56 rfl ?_
        refine R_iload cd_131_57 rfl ?_
        refine R_iaddw cd_131_58 ?_
        refine R_istore cd_131_59 ?_
        refine R_iinc cd_131_60 rfl (by unfold qa_InR; first | omega | (simp [qa_upd, qa_blk] <;> omega)) ?_
        refine R_goto cd_131_63 ?_
        rw [ep]
        exact R_norm (qs_c rfl (qs_c rfl (qs_c rfl qs_n))) e
  have e := lp 6 0 (by omega)
  rw [show qc_pay M ((0 : Nat) : Int) = M by
    funext c9 q
    by_cases g8 : c9 = 8
    · subst g8; simp only [qc_pay, qa_blk, if_true]; rw [if_neg (by omega)]
    · simp [qc_pay, qa_blk, g8]] at e
  refine R_aload cd_131_0 rfl ?_
  refine R_getr cd_131_1 rfl ?_
  refine R_call1 cd_131_4 rfl rfl K_Film_length ?_
  refine R_if_le 21 cd_131_7 rfl (fun b7 => ?_) (fun b7 => ?_)
  · refine R_push cd_131_21 ?_
    exfalso
    first | omega | exact b14 h5
  · refine R_aload cd_131_10 rfl ?_
    refine R_call1 cd_131_11 rfl rfl K_Court_isFilmStanding ?_
    refine R_ifeq_b 21 cd_131_14 rfl (fun b14 => ?_) (fun b14 => ?_)
    · refine R_push cd_131_21 ?_
      exfalso
      first | omega | exact b14 h5
    · refine R_push cd_131_17 ?_
      refine R_goto cd_131_18 ?_
      refine R_callv1 cd_131_22 rfl rfl (K_Court_mustBePossible (by decide)) ?_
      refine R_push cd_131_25 ?_
      refine R_istore cd_131_26 ?_
      refine R_push cd_131_27 ?_
      refine R_istore cd_131_28 ?_
      exact R_norm (qs_c rfl (qs_c rfl (qs_c rfl qs_n))) e
end
section
/-! the reference: small methods, values -/
theorem K_Model_thrown {M : qa_Mem} : qa_E 64 0 [(0, qr 6)] [] (M) (.inl (some (qi (M 6 26)))) (M) := by
  refine R_aload cd_64_0 rfl ?_
  refine R_getf cd_64_1 rfl (by decide) ?_
  exact R_iret cd_64_4 (by first | rfl | omega) rfl
theorem K_Model_fails {w : Int} {M : qa_Mem} : qa_E 65 0 [(0, qr 6), (1, qi (w))] [] (M) (.inl (some (qi (qb (0 < w))))) (qa_upd M 6 26 w) := by
  refine R_aload cd_65_0 rfl ?_
  refine R_iload cd_65_1 rfl ?_
  refine R_putf cd_65_2 rfl (by decide) ?_
  refine R_iload cd_65_5 rfl ?_
  refine R_if_le 13 cd_65_6 rfl (fun b6 => ?_) (fun b6 => ?_)
  · refine R_push cd_65_13 ?_
    exact R_zret_f cd_65_14 (by omega) rfl
  · refine R_push cd_65_9 ?_
    refine R_goto cd_65_10 ?_
    exact R_zret_t cd_65_14 (by omega) rfl
theorem K_Model_isIn {x a b : Int} {M : qa_Mem} : qa_E 66 0 [(0, qi (x)), (1, qi (a)), (2, qi (b))] [] (M) (.inl (some (qi (qb (a ≤ x ∧ x ≤ b))))) (M) := by
  refine R_iload cd_66_0 rfl ?_
  refine R_iload cd_66_1 rfl ?_
  refine R_icmp_lt 14 cd_66_2 rfl (fun b2 => ?_) (fun b2 => ?_)
  · refine R_push cd_66_14 ?_
    exact R_zret_f cd_66_15 (by omega) rfl
  · refine R_iload cd_66_5 rfl ?_
    refine R_iload cd_66_6 rfl ?_
    refine R_icmp_gt 14 cd_66_7 rfl (fun b7 => ?_) (fun b7 => ?_)
    · refine R_push cd_66_14 ?_
      exact R_zret_f cd_66_15 (by omega) rfl
    · refine R_push cd_66_10 ?_
      refine R_goto cd_66_11 ?_
      exact R_zret_t cd_66_15 (by omega) rfl
theorem K_Model_isBone {b : Int} {M : qa_Mem} (h1 : 0 ≤ M 6 0) (h2 : M 6 0 ≤ 8) : qa_E 67 0 [(0, qr 6), (1, qi (b))] [] (M) (.inl (some (qi (qb (0 ≤ b ∧ b ≤ M 6 0 - 1))))) (M) := by
  refine R_iload cd_67_0 rfl ?_
  refine R_push cd_67_1 ?_
  refine R_aload cd_67_2 rfl ?_
  refine R_getf cd_67_3 rfl (by decide) ?_
  refine R_push cd_67_6 ?_
  refine R_isub cd_67_7 (by unfold qa_InR; first | omega | (simp [qa_upd, qa_blk] <;> omega)) ?_
  refine R_call3 cd_67_8 rfl rfl K_Model_isIn ?_
  exact R_zret_b cd_67_11 Iff.rfl rfl
theorem K_Model_isFrame {x : Int} {M : qa_Mem} : qa_E 68 0 [(0, qi (x))] [] (M) (.inl (some (qi (qb (0 ≤ x ∧ x ≤ 119))))) (M) := by
  refine R_iload cd_68_0 rfl ?_
  refine R_push cd_68_1 ?_
  refine R_push cd_68_2 ?_
  refine R_call3 cd_68_4 rfl rfl K_Model_isIn ?_
  exact R_zret_b cd_68_7 Iff.rfl rfl
theorem K_Model_isPlace {b c f : Int} {M : qa_Mem} (h1 : 0 ≤ M 6 0) (h2 : M 6 0 ≤ 8) : qa_E 69 0 [(0, qr 6), (1, qi (b)), (2, qi (c)), (3, qi (f))] [] (M) (.inl (some (qi (qb ((0 ≤ b ∧ b ≤ M 6 0 - 1) ∧ (0 ≤ c ∧ c ≤ 2) ∧ (0 ≤ f ∧ f ≤ 119)))))) (M) := by
  refine R_aload cd_69_0 rfl ?_
  refine R_iload cd_69_1 rfl ?_
  refine R_call2 cd_69_2 rfl rfl (K_Model_isBone (by omega) (by omega)) ?_
  refine R_ifeq_b 28 cd_69_5 rfl (fun b5 => ?_) (fun b5 => ?_)
  · refine R_push cd_69_28 ?_
    exact R_zret_f cd_69_29 (by omega) rfl
  · refine R_iload cd_69_8 rfl ?_
    refine R_push cd_69_9 ?_
    refine R_push cd_69_10 ?_
    refine R_call3 cd_69_11 rfl rfl K_Model_isIn ?_
    refine R_ifeq_b 28 cd_69_14 rfl (fun b14 => ?_) (fun b14 => ?_)
    · refine R_push cd_69_28 ?_
      exact R_zret_f cd_69_29 (by omega) rfl
    · refine R_iload cd_69_17 rfl ?_
      refine R_call1 cd_69_18 rfl rfl K_Model_isFrame ?_
      refine R_ifeq_b 28 cd_69_21 rfl (fun b21 => ?_) (fun b21 => ?_)
      · refine R_push cd_69_28 ?_
        exact R_zret_f cd_69_29 (by omega) rfl
      · refine R_push cd_69_24 ?_
        refine R_goto cd_69_25 ?_
        exact R_zret_t cd_69_29 (by omega) rfl
theorem K_Model_at {b c f : Int} {M : qa_Mem} (h1 : 0 ≤ b) (h2 : b ≤ 100) (h3 : 0 ≤ c) (h4 : c ≤ 100) (h5 : -1000 ≤ f) (h6 : f ≤ 1000) : qa_E 70 0 [(0, qi (b)), (1, qi (c)), (2, qi (f))] [] (M) (.inl (some (qi (120 * (3 * b + c) + f)))) (M) := by
  refine R_push cd_70_0 ?_
  refine R_push cd_70_2 ?_
  refine R_iload cd_70_3 rfl ?_
  refine R_imul cd_70_4 (by unfold qa_InR; first | omega | (simp [qa_upd, qa_blk] <;> omega)) ?_
  refine R_iload cd_70_5 rfl ?_
  refine R_iadd cd_70_6 (by unfold qa_InR; first | omega | (simp [qa_upd, qa_blk] <;> omega)) ?_
  refine R_imul cd_70_7 (by unfold qa_InR; first | omega | (simp [qa_upd, qa_blk] <;> omega)) ?_
  refine R_iload cd_70_8 rfl ?_
  refine R_iadd cd_70_9 (by unfold qa_InR; first | omega | (simp [qa_upd, qa_blk] <;> omega)) ?_
  exact R_iret cd_70_10 (by first | rfl | omega) rfl
/-- the last key of a track among its frames ahead of n; the first among its last n -/
def qm_bf (K : Int → Int) (t : Int) : Nat → Int
  | 0 => -1
  | n + 1 => if K (120 * t + n) ≠ 0 then (n : Int) else qm_bf K t n
def qm_bh (K : Int → Int) (t : Int) : Nat → Int
  | 0 => 120
  | n + 1 => if K (120 * t + (119 - (n : Int))) ≠ 0 then 119 - (n : Int) else qm_bh K t n
theorem qm_bf_r (K : Int → Int) (t : Int) (n : Nat) : -1 ≤ qm_bf K t n ∧ qm_bf K t n < n ∧ (0 ≤ qm_bf K t n → K (120 * t + qm_bf K t n) ≠ 0) ∧ (∀ j : Int, qm_bf K t n < j → j < n → K (120 * t + j) = 0) := by
  induction n with
  | zero => exact ⟨show -1 ≤ (-1 : Int) by decide, show (-1 : Int) < 0 by decide, fun h => absurd (show (0 : Int) ≤ -1 from h) (by decide), fun j h1 h2 => by have : (-1 : Int) < j := h1; omega⟩
  | succ n ih =>
    unfold qm_bf
    by_cases hc : K (120 * t + n) ≠ 0
    · rw [if_pos hc]; exact ⟨by omega, by omega, fun _ => hc, fun j h1 h2 => by omega⟩
    · rw [if_neg hc]
      refine ⟨ih.1, by omega, ih.2.2.1, fun j h1 h2 => ?_⟩
      by_cases hj : j = n
      · subst hj; exact Classical.byContradiction hc
      · exact ih.2.2.2 j h1 (by omega)
theorem qm_bh_r (K : Int → Int) (t : Int) (n : Nat) (hn : n ≤ 120) : 120 - (n : Int) ≤ qm_bh K t n ∧ qm_bh K t n ≤ 120 ∧ (qm_bh K t n < 120 → K (120 * t + qm_bh K t n) ≠ 0) ∧ (∀ j : Int, 120 - (n : Int) ≤ j → j < qm_bh K t n → K (120 * t + j) = 0) := by
  induction n with
  | zero => exact ⟨show (120 : Int) - 0 ≤ 120 by decide, show (120 : Int) ≤ 120 by decide, fun h => absurd (show (120 : Int) < 120 from h) (by decide), fun j h1 h2 => by have : j < (120 : Int) := h2; omega⟩
  | succ n ih =>
    have ih := ih (by omega)
    unfold qm_bh
    by_cases hc : K (120 * t + (119 - (n : Int))) ≠ 0
    · rw [if_pos hc]; exact ⟨by omega, by omega, fun _ => hc, fun j h1 h2 => by omega⟩
    · rw [if_neg hc]
      refine ⟨by omega, ih.2.1, ih.2.2.1, fun j h1 h2 => ?_⟩
      by_cases hj : j = 119 - (n : Int)
      · subst hj; exact Classical.byContradiction hc
      · exact ih.2.2.2 j (by omega) h2
theorem K_Model_before {b c f t : Int} {M : qa_Mem} (h1 : 0 ≤ b) (h2 : b < 8) (h3 : 0 ≤ c) (h4 : c ≤ 2) (h5 : t = 3 * b + c) (h6 : -1 ≤ f) (h7 : f ≤ 119) : qa_E 72 0 [(0, qr 6), (1, qi (b)), (2, qi (c)), (3, qi (f))] [] (M) (.inl (some (qi (qm_bf (M 32) t (f + 1).toNat)))) (M) := by
  subst h5
  have lp : ∀ (n : Nat) (k : Int), k + 1 = n → k ≤ 119 → qa_E 72 3 [(0, qr 6), (1, qi b), (2, qi c), (3, qi f), (4, qi k)] [] M (.inl (some (qi (qm_bf (M 32) (3 * b + c) n)))) M := by
    intro n
    induction n with
    | zero =>
      intro k g1 g2
      obtain rfl : k = -1 := by omega
      refine R_iload cd_72_3 rfl ?_
      refine R_if_lt 29 cd_72_5 rfl (fun b5 => ?_) (fun b5 => ?_)
      · refine R_iload cd_72_29 rfl ?_
        exact R_iret cd_72_31 (by first | rfl | omega) rfl
      · omega
    | succ n ih =>
      intro k g1 g2
      have e := ih (k + -1) (by omega) (by omega)
      unfold qm_bf
      rw [show ((n : Nat) : Int) = k by omega]
      refine R_iload cd_72_3 rfl ?_
      refine R_if_lt 29 cd_72_5 rfl (fun b5 => ?_) (fun b5 => ?_)
      · first
          | omega
          | rw [if_pos b20]
            refine R_iload cd_72_29 rfl ?_
            exact R_iret cd_72_31 (by first | rfl | omega) rfl
      · refine R_aload cd_72_8 rfl ?_
        refine R_getr cd_72_9 rfl ?_
        refine R_iload cd_72_12 rfl ?_
        refine R_iload cd_72_13 rfl ?_
        refine R_iload cd_72_14 rfl ?_
        refine R_call3 cd_72_16 rfl rfl (K_Model_at (by omega) (by omega) (by omega) (by omega) (by omega) (by omega)) ?_
        refine R_zald cd_72_19 rfl (by first | omega | (simp [qa_upd, qa_blk] <;> omega)) (by first | omega | (simp [qa_upd, qa_blk] <;> omega)) ?_
        refine R_if_ne 29 cd_72_20 rfl (fun b20 => ?_) (fun b20 => ?_)
        · first
            | omega
            | rw [if_pos b20]
              refine R_iload cd_72_29 rfl ?_
              exact R_iret cd_72_31 (by first | rfl | omega) rfl
        · refine R_iinc cd_72_23 rfl (by unfold qa_InR; first | omega | (simp [qa_upd, qa_blk] <;> omega)) ?_
          refine R_goto cd_72_26 ?_
          rw [if_neg (fun z => z b20)]
          exact R_norm (qs_c rfl (qs_c rfl (qs_c rfl (qs_c rfl (qs_c rfl qs_n))))) e
  refine R_iload cd_72_0 rfl ?_
  refine R_istore cd_72_1 ?_
  exact R_norm (qs_c rfl (qs_c rfl (qs_c rfl (qs_c rfl (qs_c rfl qs_n))))) (lp _ f (by omega) h7)
theorem K_Model_behind {b c f t : Int} {M : qa_Mem} (h1 : 0 ≤ b) (h2 : b < 8) (h3 : 0 ≤ c) (h4 : c ≤ 2) (h5 : t = 3 * b + c) (h6 : -1 ≤ f) (h7 : f ≤ 119) : qa_E 73 0 [(0, qr 6), (1, qi (b)), (2, qi (c)), (3, qi (f))] [] (M) (.inl (some (qi (qm_bh (M 32) t (119 - f).toNat)))) (M) := by
  subst h5
  have lp : ∀ (n : Nat) (k : Int), k + n = 120 → 0 ≤ k → qa_E 73 5 [(0, qr 6), (1, qi b), (2, qi c), (3, qi f), (4, qi k)] [] M (.inl (some (qi (qm_bh (M 32) (3 * b + c) n)))) M := by
    intro n
    induction n with
    | zero =>
      intro k g1 g2
      obtain rfl : k = 120 := by omega
      refine R_iload cd_73_5 rfl ?_
      refine R_push cd_73_7 ?_
      refine R_icmp_ge 33 cd_73_9 rfl (fun b9 => ?_) (fun b9 => ?_)
      · refine R_iload cd_73_33 rfl ?_
        exact R_iret cd_73_35 (by first | rfl | omega) rfl
      · omega
    | succ n ih =>
      intro k g1 g2
      have e := ih (k + 1) (by omega) (by omega)
      unfold qm_bh
      rw [show 119 - ((n : Nat) : Int) = k by omega]
      refine R_iload cd_73_5 rfl ?_
      refine R_push cd_73_7 ?_
      refine R_icmp_ge 33 cd_73_9 rfl (fun b9 => ?_) (fun b9 => ?_)
      · first
          | omega
          | rw [if_pos b24]
            refine R_iload cd_73_33 rfl ?_
            exact R_iret cd_73_35 (by first | rfl | omega) rfl
      · refine R_aload cd_73_12 rfl ?_
        refine R_getr cd_73_13 rfl ?_
        refine R_iload cd_73_16 rfl ?_
        refine R_iload cd_73_17 rfl ?_
        refine R_iload cd_73_18 rfl ?_
        refine R_call3 cd_73_20 rfl rfl (K_Model_at (by omega) (by omega) (by omega) (by omega) (by omega) (by omega)) ?_
        refine R_zald cd_73_23 rfl (by first | omega | (simp [qa_upd, qa_blk] <;> omega)) (by first | omega | (simp [qa_upd, qa_blk] <;> omega)) ?_
        refine R_if_ne 33 cd_73_24 rfl (fun b24 => ?_) (fun b24 => ?_)
        · first
            | omega
            | rw [if_pos b24]
              refine R_iload cd_73_33 rfl ?_
              exact R_iret cd_73_35 (by first | rfl | omega) rfl
        · refine R_iinc cd_73_27 rfl (by unfold qa_InR; first | omega | (simp [qa_upd, qa_blk] <;> omega)) ?_
          refine R_goto cd_73_30 ?_
          rw [if_neg (fun z => z b24)]
          exact R_norm (qs_c rfl (qs_c rfl (qs_c rfl (qs_c rfl (qs_c rfl qs_n))))) e
  refine R_iload cd_73_0 rfl ?_
  refine R_push cd_73_1 ?_
  refine R_iadd cd_73_2 (by unfold qa_InR; first | omega | (simp [qa_upd, qa_blk] <;> omega)) ?_
  refine R_istore cd_73_3 ?_
  exact R_norm (qs_c rfl (qs_c rfl (qs_c rfl (qs_c rfl (qs_c rfl qs_n))))) (lp _ (f + 1) (by omega) (by omega))
theorem K_Model_floor {a b : Int} {M : qa_Mem} (h1 : 0 < b) (h2 : b ≤ 1000000) (h3 : -1000000 ≤ a) (h4 : a ≤ 1000000) : qa_E 74 0 [(0, qi (a)), (1, qi (b))] [] (M) (.inl (some (qi (a / b)))) (M) := by
  obtain ⟨e1, e2, e3, e4, e5, e6, e7, e8⟩ := qf_tdiv (x := a) h1
  have eb : -2000000 ≤ a.tdiv b ∧ a.tdiv b ≤ 2000000 := by
    have hq : a / b ≤ a.natAbs ∧ -(a.natAbs : Int) - 1 ≤ a / b := by
      constructor
      · by_cases hx : 0 ≤ a
        · have := Int.ediv_le_self b hx; omega
        · have := Int.ediv_neg_of_neg_of_pos (a := a) (b := b) (by omega) h1; omega
      · by_cases hx : 0 ≤ a
        · have := Int.ediv_nonneg hx (Int.le_of_lt h1); omega
        · have h5 : a ≤ a / b := by
            have : a * b ≤ a := by
              have h6 : a * b ≤ a * 1 := Int.mul_le_mul_of_nonpos_left (by omega) (by omega)
              omega
            exact (Int.le_ediv_iff_mul_le h1).mpr this
          omega
    by_cases hx : 0 ≤ a
    · have := e2 hx; omega
    · by_cases h0 : a.tmod b = 0
      · have := e3 (by omega) h0; omega
      · have := e4 (by omega) h0; omega
  refine R_iload cd_74_0 rfl ?_
  refine R_iload cd_74_1 rfl ?_
  refine R_idiv cd_74_2 (by omega) ?_
  refine R_istore cd_74_3 ?_
  refine R_iload cd_74_4 rfl ?_
  refine R_iload cd_74_5 rfl ?_
  refine R_irem cd_74_6 (by omega) ?_
  refine R_if_ge 16 cd_74_7 rfl (fun b7 => ?_) (fun b7 => ?_)
  · refine R_iload cd_74_16 rfl ?_
    first
      | exact R_iret cd_74_17 (e4 (by omega) (by omega)) rfl
      | refine R_iret cd_74_17 ?_ rfl
        by_cases hx : 0 ≤ a
        · exact e2 hx
        · exact e3 (by omega) (by omega)
  · refine R_iload cd_74_10 rfl ?_
    refine R_push cd_74_11 ?_
    refine R_isub cd_74_12 (by unfold qa_InR; first | omega | (simp [qa_upd, qa_blk] <;> omega)) ?_
    refine R_goto cd_74_13 ?_
    first
      | exact R_iret cd_74_17 (e4 (by omega) (by omega)) rfl
      | refine R_iret cd_74_17 ?_ rfl
        by_cases hx : 0 ≤ a
        · exact e2 hx
        · exact e3 (by omega) (by omega)
def qm_v (K V F : Int → Int) (t f : Int) : Int :=
  if qm_bf K t (f + 1).toNat = -1 then (if qm_bh K t (119 - f).toNat = 120 then 0 else V (120 * t + qm_bh K t (119 - f).toNat))
  else if F (120 * t + qm_bf K t (f + 1).toNat) = 0 ∨ qm_bh K t (119 - f).toNat = 120 then V (120 * t + qm_bf K t (f + 1).toNat)
  else V (120 * t + qm_bf K t (f + 1).toNat) + (V (120 * t + qm_bh K t (119 - f).toNat) - V (120 * t + qm_bf K t (f + 1).toNat)) * (f - qm_bf K t (f + 1).toNat) / (qm_bh K t (119 - f).toNat - qm_bf K t (f + 1).toNat)
def qv_v (V : Int → Int) : Prop := ∀ j : Int, 0 ≤ j → j < 2880 → -200 ≤ V j ∧ V j ≤ 200
theorem qf_divb {X G : Int} (hg : 0 < G) (h1 : -400000 ≤ X) (h2 : X ≤ 400000) : -400000 ≤ X / G ∧ X / G ≤ 400000 := by
  constructor
  · rw [Int.le_ediv_iff_mul_le hg]
    have h6 : -400000 * G ≤ -400000 * 1 := Int.mul_le_mul_of_nonpos_left (by omega) (by omega)
    omega
  · by_cases hx : 0 ≤ X
    · have := Int.ediv_le_self G hx; omega
    · have := Int.ediv_neg_of_neg_of_pos (a := X) (by omega) hg; omega
theorem K_Model_valueAt {b c f t : Int} {M : qa_Mem} (h1 : 0 ≤ b) (h2 : b < 8) (h3 : 0 ≤ c) (h4 : c ≤ 2) (h5 : t = 3 * b + c) (h6 : 0 ≤ f) (h7 : f ≤ 119) (h8 : qv_v (M 33)) : qa_E 75 0 [(0, qr 6), (1, qi (b)), (2, qi (c)), (3, qi (f))] [] (M) (.inl (some (qi (qm_v (M 32) (M 33) (M 35) t f)))) (M) := by
  subst h5
  have rf := qm_bf_r (M 32) (3 * b + c) (f + 1).toNat
  have rh := qm_bh_r (M 32) (3 * b + c) (119 - f).toNat (by omega)
  have k1 := K_Model_before (f := f) (M := M) h1 h2 h3 h4 rfl (by omega) h7
  have k2 := K_Model_behind (f := f) (M := M) h1 h2 h3 h4 rfl (by omega) h7
  unfold qm_v
  generalize qm_bf (M 32) (3 * b + c) (f + 1).toNat = p at *
  generalize qm_bh (M 32) (3 * b + c) (119 - f).toNat = q at *
  have main : ¬ p = -1 → ¬ (M 35 (120 * (3 * b + c) + p) = 0 ∨ q = 120) → (-200 ≤ M 33 (120 * (3 * b + c) + p) ∧ M 33 (120 * (3 * b + c) + p) ≤ 200) ∧ (-200 ≤ M 33 (120 * (3 * b + c) + q) ∧ M 33 (120 * (3 * b + c) + q) ≤ 200) ∧ (-400000 ≤ (M 33 (120 * (3 * b + c) + q) - M 33 (120 * (3 * b + c) + p)) * (f - p) ∧ (M 33 (120 * (3 * b + c) + q) - M 33 (120 * (3 * b + c) + p)) * (f - p) ≤ 400000) ∧ -400000 ≤ (M 33 (120 * (3 * b + c) + q) - M 33 (120 * (3 * b + c) + p)) * (f - p) / (q - p) ∧ (M 33 (120 * (3 * b + c) + q) - M 33 (120 * (3 * b + c) + p)) * (f - p) / (q - p) ≤ 400000 := by
    intro a1 a2
    have a3 := h8 (120 * (3 * b + c) + p) (by omega) (by omega)
    have a4 := h8 (120 * (3 * b + c) + q) (by omega) (by omega)
    have hm := qf_mulb (d := M 33 (120 * (3 * b + c) + q) - M 33 (120 * (3 * b + c) + p)) (e := f - p) (A := 400) (B := 1000) (by omega) (by omega) (by omega) (by omega)
    have hd := qf_divb (X := (M 33 (120 * (3 * b + c) + q) - M 33 (120 * (3 * b + c) + p)) * (f - p)) (G := q - p) (by omega) (by omega) (by omega)
    exact ⟨a3, a4, by omega, hd⟩
  refine R_aload cd_75_0 rfl ?_
  refine R_iload cd_75_1 rfl ?_
  refine R_iload cd_75_2 rfl ?_
  refine R_iload cd_75_3 rfl ?_
  refine R_call4 cd_75_4 rfl rfl k1 ?_
  refine R_istore cd_75_7 ?_
  refine R_aload cd_75_9 rfl ?_
  refine R_iload cd_75_10 rfl ?_
  refine R_iload cd_75_11 rfl ?_
  refine R_iload cd_75_12 rfl ?_
  refine R_call4 cd_75_13 rfl rfl k2 ?_
  refine R_istore cd_75_16 ?_
  refine R_iload cd_75_18 rfl ?_
  refine R_push cd_75_20 ?_
  refine R_icmp_ne 48 cd_75_21 rfl (fun b21 => ?_) (fun b21 => ?_)
  · refine R_aload cd_75_48 rfl ?_
    refine R_getr cd_75_49 rfl ?_
    refine R_iload cd_75_52 rfl ?_
    refine R_iload cd_75_53 rfl ?_
    refine R_iload cd_75_54 rfl ?_
    refine R_call3 cd_75_56 rfl rfl (K_Model_at (by omega) (by omega) (by omega) (by omega) (by omega) (by omega)) ?_
    refine R_iald cd_75_59 rfl (by first | omega | (simp [qa_upd, qa_blk] <;> omega)) (by first | omega | (simp [qa_upd, qa_blk] <;> omega)) ?_
    refine R_istore cd_75_60 ?_
    refine R_aload cd_75_62 rfl ?_
    refine R_getr cd_75_63 rfl ?_
    refine R_iload cd_75_66 rfl ?_
    refine R_iload cd_75_67 rfl ?_
    refine R_iload cd_75_68 rfl ?_
    refine R_call3 cd_75_70 rfl rfl (K_Model_at (by omega) (by omega) (by omega) (by omega) (by omega) (by omega)) ?_
    refine R_zald cd_75_73 rfl (by first | omega | (simp [qa_upd, qa_blk] <;> omega)) (by first | omega | (simp [qa_upd, qa_blk] <;> omega)) ?_
    refine R_if_eq 84 cd_75_74 rfl (fun b74 => ?_) (fun b74 => ?_)
    · refine R_iload cd_75_84 rfl ?_
      exact R_iret cd_75_86 (by rw [if_neg b21, if_pos (by first | exact Or.inl b74 | exact Or.inr b81)]) rfl
    · refine R_iload cd_75_77 rfl ?_
      refine R_push cd_75_79 ?_
      refine R_icmp_ne 87 cd_75_81 rfl (fun b81 => ?_) (fun b81 => ?_)
      · have mm := main b21 (fun z => z.elim b74 b81)
        refine R_iload cd_75_87 rfl ?_
        refine R_aload cd_75_89 rfl ?_
        refine R_getr cd_75_90 rfl ?_
        refine R_iload cd_75_93 rfl ?_
        refine R_iload cd_75_94 rfl ?_
        refine R_iload cd_75_95 rfl ?_
        refine R_call3 cd_75_97 rfl rfl (K_Model_at (by omega) (by omega) (by omega) (by omega) (by omega) (by omega)) ?_
        refine R_iald cd_75_100 rfl (by first | omega | (simp [qa_upd, qa_blk] <;> omega)) (by first | omega | (simp [qa_upd, qa_blk] <;> omega)) ?_
        refine R_iload cd_75_101 rfl ?_
        refine R_isub cd_75_103 (by unfold qa_InR; first | omega | (simp [qa_upd, qa_blk] <;> omega)) ?_
        refine R_iload cd_75_104 rfl ?_
        refine R_iload cd_75_105 rfl ?_
        refine R_isub cd_75_107 (by unfold qa_InR; first | omega | (simp [qa_upd, qa_blk] <;> omega)) ?_
        refine R_imul cd_75_108 (by unfold qa_InR; first | omega | (simp [qa_upd, qa_blk] <;> omega)) ?_
        refine R_iload cd_75_109 rfl ?_
        refine R_iload cd_75_111 rfl ?_
        refine R_isub cd_75_113 (by unfold qa_InR; first | omega | (simp [qa_upd, qa_blk] <;> omega)) ?_
        refine R_call2 cd_75_114 rfl rfl (K_Model_floor (by omega) (by omega) (by omega) (by omega)) ?_
        refine R_iadd cd_75_117 (by unfold qa_InR; first | omega | (simp [qa_upd, qa_blk] <;> omega)) ?_
        exact R_iret cd_75_118 (by rw [if_neg b21, if_neg (fun z => z.elim b74 b81)]) rfl
      · refine R_iload cd_75_84 rfl ?_
        exact R_iret cd_75_86 (by rw [if_neg b21, if_pos (by first | exact Or.inl b74 | exact Or.inr b81)]) rfl
  · refine R_iload cd_75_24 rfl ?_
    refine R_push cd_75_26 ?_
    refine R_icmp_ne 35 cd_75_28 rfl (fun b28 => ?_) (fun b28 => ?_)
    · refine R_aload cd_75_35 rfl ?_
      refine R_getr cd_75_36 rfl ?_
      refine R_iload cd_75_39 rfl ?_
      refine R_iload cd_75_40 rfl ?_
      refine R_iload cd_75_41 rfl ?_
      refine R_call3 cd_75_43 rfl rfl (K_Model_at (by omega) (by omega) (by omega) (by omega) (by omega) (by omega)) ?_
      refine R_iald cd_75_46 rfl (by first | omega | (simp [qa_upd, qa_blk] <;> omega)) (by first | omega | (simp [qa_upd, qa_blk] <;> omega)) ?_
      exact R_iret cd_75_47 (by rw [if_pos b21, if_neg b28]) rfl
    · refine R_push cd_75_31 ?_
      refine R_goto cd_75_32 ?_
      exact R_iret cd_75_47 (by rw [if_pos b21, if_pos b28]) rfl
end
section
/-! the reference: bones, frames -/
theorem K_Model_boneX1 {p x y : Int} {M : qa_Mem} (h1 : 0 ≤ M 6 0) (h2 : M 6 0 ≤ 8) (h3 : ¬ (p = -1 ∨ 0 ≤ p ∧ p ≤ M 6 0 - 1)) : qa_E 71 0 [(0, qr 6), (1, qi (p)), (2, qi (x)), (3, qi (y))] [] (M) (.inl (some (qi (0)))) (qa_upd M 6 26 1) := by
  refine R_iload cd_71_0 rfl ?_
  refine R_push cd_71_1 ?_
  refine R_icmp_eq 13 cd_71_2 rfl (fun b2 => ?_) (fun b2 => ?_)
  · refine R_push cd_71_13 ?_
    refine R_goto cd_71_14 ?_
    refine R_istore cd_71_18 ?_
    refine R_iload cd_71_20 rfl ?_
    refine R_push cd_71_21 ?_
    refine R_push cd_71_23 ?_
    refine R_call3 cd_71_25 rfl rfl K_Model_isIn ?_
    refine R_ifeq_b 46 cd_71_28 rfl (fun b28 => ?_) (fun b28 => ?_)
    · refine R_push cd_71_46 ?_
      refine R_istore cd_71_47 ?_
      refine R_aload cd_71_49 rfl ?_
      refine R_iload cd_71_50 rfl ?_
      refine R_if_ne 59 cd_71_52 rfl (fun _ => ?_) (fun h => absurd h (by decide))
      refine R_iload cd_71_59 rfl ?_
      refine R_if_ne 68 cd_71_61 rfl (fun h => absurd h (by decide)) (fun _ => ?_)
      refine R_push cd_71_64 ?_
      refine R_goto cd_71_65 ?_
      exfalso
      omega
    · refine R_iload cd_71_31 rfl ?_
      refine R_push cd_71_32 ?_
      refine R_push cd_71_34 ?_
      refine R_call3 cd_71_36 rfl rfl K_Model_isIn ?_
      refine R_ifeq_b 46 cd_71_39 rfl (fun b39 => ?_) (fun b39 => ?_)
      · refine R_push cd_71_46 ?_
        refine R_istore cd_71_47 ?_
        refine R_aload cd_71_49 rfl ?_
        refine R_iload cd_71_50 rfl ?_
        refine R_if_ne 59 cd_71_52 rfl (fun _ => ?_) (fun h => absurd h (by decide))
        refine R_iload cd_71_59 rfl ?_
        refine R_if_ne 68 cd_71_61 rfl (fun h => absurd h (by decide)) (fun _ => ?_)
        refine R_push cd_71_64 ?_
        refine R_goto cd_71_65 ?_
        exfalso
        omega
      · refine R_push cd_71_42 ?_
        refine R_goto cd_71_43 ?_
        refine R_istore cd_71_47 ?_
        refine R_aload cd_71_49 rfl ?_
        refine R_iload cd_71_50 rfl ?_
        refine R_if_ne 59 cd_71_52 rfl (fun _ => ?_) (fun h => absurd h (by decide))
        refine R_iload cd_71_59 rfl ?_
        refine R_if_ne 68 cd_71_61 rfl (fun _ => ?_) (fun h => absurd h (by decide))
        refine R_aload cd_71_68 rfl ?_
        refine R_getf cd_71_69 rfl (by decide) ?_
        refine R_push cd_71_72 ?_
        refine R_icmp_ne 81 cd_71_74 rfl (fun b74 => ?_) (fun b74 => ?_)
        · refine R_push cd_71_81 ?_
          exfalso
          omega
        · refine R_push cd_71_77 ?_
          refine R_goto cd_71_78 ?_
          exfalso
          omega
  · refine R_aload cd_71_5 rfl ?_
    refine R_iload cd_71_6 rfl ?_
    refine R_call2 cd_71_7 rfl rfl (K_Model_isBone (by omega) (by omega)) ?_
    refine R_ifeq_b 17 cd_71_10 rfl (fun b10 => ?_) (fun b10 => ?_)
    · refine R_push cd_71_17 ?_
      refine R_istore cd_71_18 ?_
      refine R_iload cd_71_20 rfl ?_
      refine R_push cd_71_21 ?_
      refine R_push cd_71_23 ?_
      refine R_call3 cd_71_25 rfl rfl K_Model_isIn ?_
      refine R_ifeq_b 46 cd_71_28 rfl (fun b28 => ?_) (fun b28 => ?_)
      · refine R_push cd_71_46 ?_
        refine R_istore cd_71_47 ?_
        refine R_aload cd_71_49 rfl ?_
        refine R_iload cd_71_50 rfl ?_
        refine R_if_ne 59 cd_71_52 rfl (fun h => absurd h (by decide)) (fun _ => ?_)
        refine R_push cd_71_55 ?_
        refine R_goto cd_71_56 ?_
        refine R_call2 cd_71_82 rfl rfl K_Model_fails ?_
        refine R_ifeq_b 90 cd_71_85 rfl (fun h => absurd h (by decide)) (fun _ => ?_)
        refine R_push cd_71_88 ?_
        exact R_iret cd_71_89 (by first | rfl | omega) rfl
      · refine R_iload cd_71_31 rfl ?_
        refine R_push cd_71_32 ?_
        refine R_push cd_71_34 ?_
        refine R_call3 cd_71_36 rfl rfl K_Model_isIn ?_
        refine R_ifeq_b 46 cd_71_39 rfl (fun b39 => ?_) (fun b39 => ?_)
        · refine R_push cd_71_46 ?_
          refine R_istore cd_71_47 ?_
          refine R_aload cd_71_49 rfl ?_
          refine R_iload cd_71_50 rfl ?_
          refine R_if_ne 59 cd_71_52 rfl (fun h => absurd h (by decide)) (fun _ => ?_)
          refine R_push cd_71_55 ?_
          refine R_goto cd_71_56 ?_
          refine R_call2 cd_71_82 rfl rfl K_Model_fails ?_
          refine R_ifeq_b 90 cd_71_85 rfl (fun h => absurd h (by decide)) (fun _ => ?_)
          refine R_push cd_71_88 ?_
          exact R_iret cd_71_89 (by first | rfl | omega) rfl
        · refine R_push cd_71_42 ?_
          refine R_goto cd_71_43 ?_
          refine R_istore cd_71_47 ?_
          refine R_aload cd_71_49 rfl ?_
          refine R_iload cd_71_50 rfl ?_
          refine R_if_ne 59 cd_71_52 rfl (fun h => absurd h (by decide)) (fun _ => ?_)
          refine R_push cd_71_55 ?_
          refine R_goto cd_71_56 ?_
          refine R_call2 cd_71_82 rfl rfl K_Model_fails ?_
          refine R_ifeq_b 90 cd_71_85 rfl (fun h => absurd h (by decide)) (fun _ => ?_)
          refine R_push cd_71_88 ?_
          exact R_iret cd_71_89 (by first | rfl | omega) rfl
    · refine R_push cd_71_13 ?_
      refine R_goto cd_71_14 ?_
      refine R_istore cd_71_18 ?_
      refine R_iload cd_71_20 rfl ?_
      refine R_push cd_71_21 ?_
      refine R_push cd_71_23 ?_
      refine R_call3 cd_71_25 rfl rfl K_Model_isIn ?_
      refine R_ifeq_b 46 cd_71_28 rfl (fun b28 => ?_) (fun b28 => ?_)
      · refine R_push cd_71_46 ?_
        refine R_istore cd_71_47 ?_
        refine R_aload cd_71_49 rfl ?_
        refine R_iload cd_71_50 rfl ?_
        refine R_if_ne 59 cd_71_52 rfl (fun _ => ?_) (fun h => absurd h (by decide))
        refine R_iload cd_71_59 rfl ?_
        refine R_if_ne 68 cd_71_61 rfl (fun h => absurd h (by decide)) (fun _ => ?_)
        refine R_push cd_71_64 ?_
        refine R_goto cd_71_65 ?_
        exfalso
        omega
      · refine R_iload cd_71_31 rfl ?_
        refine R_push cd_71_32 ?_
        refine R_push cd_71_34 ?_
        refine R_call3 cd_71_36 rfl rfl K_Model_isIn ?_
        refine R_ifeq_b 46 cd_71_39 rfl (fun b39 => ?_) (fun b39 => ?_)
        · refine R_push cd_71_46 ?_
          refine R_istore cd_71_47 ?_
          refine R_aload cd_71_49 rfl ?_
          refine R_iload cd_71_50 rfl ?_
          refine R_if_ne 59 cd_71_52 rfl (fun _ => ?_) (fun h => absurd h (by decide))
          refine R_iload cd_71_59 rfl ?_
          refine R_if_ne 68 cd_71_61 rfl (fun h => absurd h (by decide)) (fun _ => ?_)
          refine R_push cd_71_64 ?_
          refine R_goto cd_71_65 ?_
          exfalso
          omega
        · refine R_push cd_71_42 ?_
          refine R_goto cd_71_43 ?_
          refine R_istore cd_71_47 ?_
          refine R_aload cd_71_49 rfl ?_
          refine R_iload cd_71_50 rfl ?_
          refine R_if_ne 59 cd_71_52 rfl (fun _ => ?_) (fun h => absurd h (by decide))
          refine R_iload cd_71_59 rfl ?_
          refine R_if_ne 68 cd_71_61 rfl (fun _ => ?_) (fun h => absurd h (by decide))
          refine R_aload cd_71_68 rfl ?_
          refine R_getf cd_71_69 rfl (by decide) ?_
          refine R_push cd_71_72 ?_
          refine R_icmp_ne 81 cd_71_74 rfl (fun b74 => ?_) (fun b74 => ?_)
          · refine R_push cd_71_81 ?_
            exfalso
            omega
          · refine R_push cd_71_77 ?_
            refine R_goto cd_71_78 ?_
            exfalso
            omega
theorem K_Model_boneX2 {p x y : Int} {M : qa_Mem} (h1 : 0 ≤ M 6 0) (h2 : M 6 0 ≤ 8) (h3 : p = -1 ∨ 0 ≤ p ∧ p ≤ M 6 0 - 1) (h4 : ¬ ((-100 ≤ x ∧ x ≤ 100) ∧ (-100 ≤ y ∧ y ≤ 100))) : qa_E 71 0 [(0, qr 6), (1, qi (p)), (2, qi (x)), (3, qi (y))] [] (M) (.inl (some (qi (0)))) (qa_upd M 6 26 2) := by
  refine R_iload cd_71_0 rfl ?_
  refine R_push cd_71_1 ?_
  refine R_icmp_eq 13 cd_71_2 rfl (fun b2 => ?_) (fun b2 => ?_)
  · refine R_push cd_71_13 ?_
    refine R_goto cd_71_14 ?_
    refine R_istore cd_71_18 ?_
    refine R_iload cd_71_20 rfl ?_
    refine R_push cd_71_21 ?_
    refine R_push cd_71_23 ?_
    refine R_call3 cd_71_25 rfl rfl K_Model_isIn ?_
    refine R_ifeq_b 46 cd_71_28 rfl (fun b28 => ?_) (fun b28 => ?_)
    · refine R_push cd_71_46 ?_
      refine R_istore cd_71_47 ?_
      refine R_aload cd_71_49 rfl ?_
      refine R_iload cd_71_50 rfl ?_
      refine R_if_ne 59 cd_71_52 rfl (fun _ => ?_) (fun h => absurd h (by decide))
      refine R_iload cd_71_59 rfl ?_
      refine R_if_ne 68 cd_71_61 rfl (fun h => absurd h (by decide)) (fun _ => ?_)
      refine R_push cd_71_64 ?_
      refine R_goto cd_71_65 ?_
      refine R_call2 cd_71_82 rfl rfl K_Model_fails ?_
      refine R_ifeq_b 90 cd_71_85 rfl (fun h => absurd h (by decide)) (fun _ => ?_)
      refine R_push cd_71_88 ?_
      exact R_iret cd_71_89 (by first | rfl | omega) rfl
    · refine R_iload cd_71_31 rfl ?_
      refine R_push cd_71_32 ?_
      refine R_push cd_71_34 ?_
      refine R_call3 cd_71_36 rfl rfl K_Model_isIn ?_
      refine R_ifeq_b 46 cd_71_39 rfl (fun b39 => ?_) (fun b39 => ?_)
      · refine R_push cd_71_46 ?_
        refine R_istore cd_71_47 ?_
        refine R_aload cd_71_49 rfl ?_
        refine R_iload cd_71_50 rfl ?_
        refine R_if_ne 59 cd_71_52 rfl (fun _ => ?_) (fun h => absurd h (by decide))
        refine R_iload cd_71_59 rfl ?_
        refine R_if_ne 68 cd_71_61 rfl (fun h => absurd h (by decide)) (fun _ => ?_)
        refine R_push cd_71_64 ?_
        refine R_goto cd_71_65 ?_
        refine R_call2 cd_71_82 rfl rfl K_Model_fails ?_
        refine R_ifeq_b 90 cd_71_85 rfl (fun h => absurd h (by decide)) (fun _ => ?_)
        refine R_push cd_71_88 ?_
        exact R_iret cd_71_89 (by first | rfl | omega) rfl
      · refine R_push cd_71_42 ?_
        refine R_goto cd_71_43 ?_
        refine R_istore cd_71_47 ?_
        refine R_aload cd_71_49 rfl ?_
        refine R_iload cd_71_50 rfl ?_
        refine R_if_ne 59 cd_71_52 rfl (fun _ => ?_) (fun h => absurd h (by decide))
        refine R_iload cd_71_59 rfl ?_
        refine R_if_ne 68 cd_71_61 rfl (fun _ => ?_) (fun h => absurd h (by decide))
        refine R_aload cd_71_68 rfl ?_
        refine R_getf cd_71_69 rfl (by decide) ?_
        refine R_push cd_71_72 ?_
        refine R_icmp_ne 81 cd_71_74 rfl (fun b74 => ?_) (fun b74 => ?_)
        · refine R_push cd_71_81 ?_
          exfalso
          omega
        · refine R_push cd_71_77 ?_
          refine R_goto cd_71_78 ?_
          exfalso
          omega
  · refine R_aload cd_71_5 rfl ?_
    refine R_iload cd_71_6 rfl ?_
    refine R_call2 cd_71_7 rfl rfl (K_Model_isBone (by omega) (by omega)) ?_
    refine R_ifeq_b 17 cd_71_10 rfl (fun b10 => ?_) (fun b10 => ?_)
    · refine R_push cd_71_17 ?_
      refine R_istore cd_71_18 ?_
      refine R_iload cd_71_20 rfl ?_
      refine R_push cd_71_21 ?_
      refine R_push cd_71_23 ?_
      refine R_call3 cd_71_25 rfl rfl K_Model_isIn ?_
      refine R_ifeq_b 46 cd_71_28 rfl (fun b28 => ?_) (fun b28 => ?_)
      · refine R_push cd_71_46 ?_
        refine R_istore cd_71_47 ?_
        refine R_aload cd_71_49 rfl ?_
        refine R_iload cd_71_50 rfl ?_
        refine R_if_ne 59 cd_71_52 rfl (fun h => absurd h (by decide)) (fun _ => ?_)
        refine R_push cd_71_55 ?_
        refine R_goto cd_71_56 ?_
        exfalso
        omega
      · refine R_iload cd_71_31 rfl ?_
        refine R_push cd_71_32 ?_
        refine R_push cd_71_34 ?_
        refine R_call3 cd_71_36 rfl rfl K_Model_isIn ?_
        refine R_ifeq_b 46 cd_71_39 rfl (fun b39 => ?_) (fun b39 => ?_)
        · refine R_push cd_71_46 ?_
          refine R_istore cd_71_47 ?_
          refine R_aload cd_71_49 rfl ?_
          refine R_iload cd_71_50 rfl ?_
          refine R_if_ne 59 cd_71_52 rfl (fun h => absurd h (by decide)) (fun _ => ?_)
          refine R_push cd_71_55 ?_
          refine R_goto cd_71_56 ?_
          exfalso
          omega
        · refine R_push cd_71_42 ?_
          refine R_goto cd_71_43 ?_
          refine R_istore cd_71_47 ?_
          refine R_aload cd_71_49 rfl ?_
          refine R_iload cd_71_50 rfl ?_
          refine R_if_ne 59 cd_71_52 rfl (fun h => absurd h (by decide)) (fun _ => ?_)
          refine R_push cd_71_55 ?_
          refine R_goto cd_71_56 ?_
          exfalso
          omega
    · refine R_push cd_71_13 ?_
      refine R_goto cd_71_14 ?_
      refine R_istore cd_71_18 ?_
      refine R_iload cd_71_20 rfl ?_
      refine R_push cd_71_21 ?_
      refine R_push cd_71_23 ?_
      refine R_call3 cd_71_25 rfl rfl K_Model_isIn ?_
      refine R_ifeq_b 46 cd_71_28 rfl (fun b28 => ?_) (fun b28 => ?_)
      · refine R_push cd_71_46 ?_
        refine R_istore cd_71_47 ?_
        refine R_aload cd_71_49 rfl ?_
        refine R_iload cd_71_50 rfl ?_
        refine R_if_ne 59 cd_71_52 rfl (fun _ => ?_) (fun h => absurd h (by decide))
        refine R_iload cd_71_59 rfl ?_
        refine R_if_ne 68 cd_71_61 rfl (fun h => absurd h (by decide)) (fun _ => ?_)
        refine R_push cd_71_64 ?_
        refine R_goto cd_71_65 ?_
        refine R_call2 cd_71_82 rfl rfl K_Model_fails ?_
        refine R_ifeq_b 90 cd_71_85 rfl (fun h => absurd h (by decide)) (fun _ => ?_)
        refine R_push cd_71_88 ?_
        exact R_iret cd_71_89 (by first | rfl | omega) rfl
      · refine R_iload cd_71_31 rfl ?_
        refine R_push cd_71_32 ?_
        refine R_push cd_71_34 ?_
        refine R_call3 cd_71_36 rfl rfl K_Model_isIn ?_
        refine R_ifeq_b 46 cd_71_39 rfl (fun b39 => ?_) (fun b39 => ?_)
        · refine R_push cd_71_46 ?_
          refine R_istore cd_71_47 ?_
          refine R_aload cd_71_49 rfl ?_
          refine R_iload cd_71_50 rfl ?_
          refine R_if_ne 59 cd_71_52 rfl (fun _ => ?_) (fun h => absurd h (by decide))
          refine R_iload cd_71_59 rfl ?_
          refine R_if_ne 68 cd_71_61 rfl (fun h => absurd h (by decide)) (fun _ => ?_)
          refine R_push cd_71_64 ?_
          refine R_goto cd_71_65 ?_
          refine R_call2 cd_71_82 rfl rfl K_Model_fails ?_
          refine R_ifeq_b 90 cd_71_85 rfl (fun h => absurd h (by decide)) (fun _ => ?_)
          refine R_push cd_71_88 ?_
          exact R_iret cd_71_89 (by first | rfl | omega) rfl
        · refine R_push cd_71_42 ?_
          refine R_goto cd_71_43 ?_
          refine R_istore cd_71_47 ?_
          refine R_aload cd_71_49 rfl ?_
          refine R_iload cd_71_50 rfl ?_
          refine R_if_ne 59 cd_71_52 rfl (fun _ => ?_) (fun h => absurd h (by decide))
          refine R_iload cd_71_59 rfl ?_
          refine R_if_ne 68 cd_71_61 rfl (fun _ => ?_) (fun h => absurd h (by decide))
          refine R_aload cd_71_68 rfl ?_
          refine R_getf cd_71_69 rfl (by decide) ?_
          refine R_push cd_71_72 ?_
          refine R_icmp_ne 81 cd_71_74 rfl (fun b74 => ?_) (fun b74 => ?_)
          · refine R_push cd_71_81 ?_
            exfalso
            omega
          · refine R_push cd_71_77 ?_
            refine R_goto cd_71_78 ?_
            exfalso
            omega
theorem K_Model_boneX3 {p x y : Int} {M : qa_Mem} (h1 : 0 ≤ M 6 0) (h2 : M 6 0 = 8) (h3 : p = -1 ∨ 0 ≤ p ∧ p ≤ M 6 0 - 1) (h4 : (-100 ≤ x ∧ x ≤ 100) ∧ (-100 ≤ y ∧ y ≤ 100)) : qa_E 71 0 [(0, qr 6), (1, qi (p)), (2, qi (x)), (3, qi (y))] [] (M) (.inl (some (qi (0)))) (qa_upd M 6 26 3) := by
  refine R_iload cd_71_0 rfl ?_
  refine R_push cd_71_1 ?_
  refine R_icmp_eq 13 cd_71_2 rfl (fun b2 => ?_) (fun b2 => ?_)
  · refine R_push cd_71_13 ?_
    refine R_goto cd_71_14 ?_
    refine R_istore cd_71_18 ?_
    refine R_iload cd_71_20 rfl ?_
    refine R_push cd_71_21 ?_
    refine R_push cd_71_23 ?_
    refine R_call3 cd_71_25 rfl rfl K_Model_isIn ?_
    refine R_ifeq_b 46 cd_71_28 rfl (fun b28 => ?_) (fun b28 => ?_)
    · refine R_push cd_71_46 ?_
      refine R_istore cd_71_47 ?_
      refine R_aload cd_71_49 rfl ?_
      refine R_iload cd_71_50 rfl ?_
      refine R_if_ne 59 cd_71_52 rfl (fun _ => ?_) (fun h => absurd h (by decide))
      refine R_iload cd_71_59 rfl ?_
      refine R_if_ne 68 cd_71_61 rfl (fun h => absurd h (by decide)) (fun _ => ?_)
      refine R_push cd_71_64 ?_
      refine R_goto cd_71_65 ?_
      exfalso
      omega
    · refine R_iload cd_71_31 rfl ?_
      refine R_push cd_71_32 ?_
      refine R_push cd_71_34 ?_
      refine R_call3 cd_71_36 rfl rfl K_Model_isIn ?_
      refine R_ifeq_b 46 cd_71_39 rfl (fun b39 => ?_) (fun b39 => ?_)
      · refine R_push cd_71_46 ?_
        refine R_istore cd_71_47 ?_
        refine R_aload cd_71_49 rfl ?_
        refine R_iload cd_71_50 rfl ?_
        refine R_if_ne 59 cd_71_52 rfl (fun _ => ?_) (fun h => absurd h (by decide))
        refine R_iload cd_71_59 rfl ?_
        refine R_if_ne 68 cd_71_61 rfl (fun h => absurd h (by decide)) (fun _ => ?_)
        refine R_push cd_71_64 ?_
        refine R_goto cd_71_65 ?_
        exfalso
        omega
      · refine R_push cd_71_42 ?_
        refine R_goto cd_71_43 ?_
        refine R_istore cd_71_47 ?_
        refine R_aload cd_71_49 rfl ?_
        refine R_iload cd_71_50 rfl ?_
        refine R_if_ne 59 cd_71_52 rfl (fun _ => ?_) (fun h => absurd h (by decide))
        refine R_iload cd_71_59 rfl ?_
        refine R_if_ne 68 cd_71_61 rfl (fun _ => ?_) (fun h => absurd h (by decide))
        refine R_aload cd_71_68 rfl ?_
        refine R_getf cd_71_69 rfl (by decide) ?_
        refine R_push cd_71_72 ?_
        refine R_icmp_ne 81 cd_71_74 rfl (fun b74 => ?_) (fun b74 => ?_)
        · refine R_push cd_71_81 ?_
          exfalso
          omega
        · refine R_push cd_71_77 ?_
          refine R_goto cd_71_78 ?_
          refine R_call2 cd_71_82 rfl rfl K_Model_fails ?_
          refine R_ifeq_b 90 cd_71_85 rfl (fun h => absurd h (by decide)) (fun _ => ?_)
          refine R_push cd_71_88 ?_
          exact R_iret cd_71_89 (by first | rfl | omega) rfl
  · refine R_aload cd_71_5 rfl ?_
    refine R_iload cd_71_6 rfl ?_
    refine R_call2 cd_71_7 rfl rfl (K_Model_isBone (by omega) (by omega)) ?_
    refine R_ifeq_b 17 cd_71_10 rfl (fun b10 => ?_) (fun b10 => ?_)
    · refine R_push cd_71_17 ?_
      refine R_istore cd_71_18 ?_
      refine R_iload cd_71_20 rfl ?_
      refine R_push cd_71_21 ?_
      refine R_push cd_71_23 ?_
      refine R_call3 cd_71_25 rfl rfl K_Model_isIn ?_
      refine R_ifeq_b 46 cd_71_28 rfl (fun b28 => ?_) (fun b28 => ?_)
      · refine R_push cd_71_46 ?_
        refine R_istore cd_71_47 ?_
        refine R_aload cd_71_49 rfl ?_
        refine R_iload cd_71_50 rfl ?_
        refine R_if_ne 59 cd_71_52 rfl (fun h => absurd h (by decide)) (fun _ => ?_)
        refine R_push cd_71_55 ?_
        refine R_goto cd_71_56 ?_
        exfalso
        omega
      · refine R_iload cd_71_31 rfl ?_
        refine R_push cd_71_32 ?_
        refine R_push cd_71_34 ?_
        refine R_call3 cd_71_36 rfl rfl K_Model_isIn ?_
        refine R_ifeq_b 46 cd_71_39 rfl (fun b39 => ?_) (fun b39 => ?_)
        · refine R_push cd_71_46 ?_
          refine R_istore cd_71_47 ?_
          refine R_aload cd_71_49 rfl ?_
          refine R_iload cd_71_50 rfl ?_
          refine R_if_ne 59 cd_71_52 rfl (fun h => absurd h (by decide)) (fun _ => ?_)
          refine R_push cd_71_55 ?_
          refine R_goto cd_71_56 ?_
          exfalso
          omega
        · refine R_push cd_71_42 ?_
          refine R_goto cd_71_43 ?_
          refine R_istore cd_71_47 ?_
          refine R_aload cd_71_49 rfl ?_
          refine R_iload cd_71_50 rfl ?_
          refine R_if_ne 59 cd_71_52 rfl (fun h => absurd h (by decide)) (fun _ => ?_)
          refine R_push cd_71_55 ?_
          refine R_goto cd_71_56 ?_
          exfalso
          omega
    · refine R_push cd_71_13 ?_
      refine R_goto cd_71_14 ?_
      refine R_istore cd_71_18 ?_
      refine R_iload cd_71_20 rfl ?_
      refine R_push cd_71_21 ?_
      refine R_push cd_71_23 ?_
      refine R_call3 cd_71_25 rfl rfl K_Model_isIn ?_
      refine R_ifeq_b 46 cd_71_28 rfl (fun b28 => ?_) (fun b28 => ?_)
      · refine R_push cd_71_46 ?_
        refine R_istore cd_71_47 ?_
        refine R_aload cd_71_49 rfl ?_
        refine R_iload cd_71_50 rfl ?_
        refine R_if_ne 59 cd_71_52 rfl (fun _ => ?_) (fun h => absurd h (by decide))
        refine R_iload cd_71_59 rfl ?_
        refine R_if_ne 68 cd_71_61 rfl (fun h => absurd h (by decide)) (fun _ => ?_)
        refine R_push cd_71_64 ?_
        refine R_goto cd_71_65 ?_
        exfalso
        omega
      · refine R_iload cd_71_31 rfl ?_
        refine R_push cd_71_32 ?_
        refine R_push cd_71_34 ?_
        refine R_call3 cd_71_36 rfl rfl K_Model_isIn ?_
        refine R_ifeq_b 46 cd_71_39 rfl (fun b39 => ?_) (fun b39 => ?_)
        · refine R_push cd_71_46 ?_
          refine R_istore cd_71_47 ?_
          refine R_aload cd_71_49 rfl ?_
          refine R_iload cd_71_50 rfl ?_
          refine R_if_ne 59 cd_71_52 rfl (fun _ => ?_) (fun h => absurd h (by decide))
          refine R_iload cd_71_59 rfl ?_
          refine R_if_ne 68 cd_71_61 rfl (fun h => absurd h (by decide)) (fun _ => ?_)
          refine R_push cd_71_64 ?_
          refine R_goto cd_71_65 ?_
          exfalso
          omega
        · refine R_push cd_71_42 ?_
          refine R_goto cd_71_43 ?_
          refine R_istore cd_71_47 ?_
          refine R_aload cd_71_49 rfl ?_
          refine R_iload cd_71_50 rfl ?_
          refine R_if_ne 59 cd_71_52 rfl (fun _ => ?_) (fun h => absurd h (by decide))
          refine R_iload cd_71_59 rfl ?_
          refine R_if_ne 68 cd_71_61 rfl (fun _ => ?_) (fun h => absurd h (by decide))
          refine R_aload cd_71_68 rfl ?_
          refine R_getf cd_71_69 rfl (by decide) ?_
          refine R_push cd_71_72 ?_
          refine R_icmp_ne 81 cd_71_74 rfl (fun b74 => ?_) (fun b74 => ?_)
          · refine R_push cd_71_81 ?_
            exfalso
            omega
          · refine R_push cd_71_77 ?_
            refine R_goto cd_71_78 ?_
            refine R_call2 cd_71_82 rfl rfl K_Model_fails ?_
            refine R_ifeq_b 90 cd_71_85 rfl (fun h => absurd h (by decide)) (fun _ => ?_)
            refine R_push cd_71_88 ?_
            exact R_iret cd_71_89 (by first | rfl | omega) rfl
def qm_bone (M : qa_Mem) (p x y : Int) : qa_Mem := qa_upd (qa_upd (qa_upd (qa_upd (qa_upd M 6 26 0) 29 (M 6 0) p) 30 (M 6 0) x) 31 (M 6 0) y) 6 0 (M 6 0 + 1)
theorem K_Model_bone0 {p x y : Int} {M : qa_Mem} (h1 : 0 ≤ M 6 0) (h2 : M 6 0 < 8) (h3 : p = -1 ∨ 0 ≤ p ∧ p ≤ M 6 0 - 1) (h4 : (-100 ≤ x ∧ x ≤ 100) ∧ (-100 ≤ y ∧ y ≤ 100)) : qa_E 71 0 [(0, qr 6), (1, qi (p)), (2, qi (x)), (3, qi (y))] [] (M) (.inl (some (qi (M 6 0)))) (qm_bone M p x y) := by
  have q0 : 0 ≤ (qa_upd M 6 26 0) 6 0 := h1
  have q1 : (qa_upd M 6 26 0) 6 0 < 8 := h2
  have fin : qa_E 71 90 [(0, qr 6), (1, qi p), (2, qi x), (3, qi y)] [] (qa_upd M 6 26 0) (.inl (some (qi (M 6 0)))) (qm_bone M p x y) := by
    refine R_aload cd_71_90 rfl ?_
    refine R_getr cd_71_91 rfl ?_
    refine R_aload cd_71_94 rfl ?_
    refine R_getf cd_71_95 rfl (by decide) ?_
    refine R_iload cd_71_98 rfl ?_
    refine R_iast cd_71_99 rfl (by first | omega | (simp [qa_upd, qa_blk] <;> omega)) (by first | omega | (simp [qa_upd, qa_blk] <;> omega))  ?_
    refine R_aload cd_71_100 rfl ?_
    refine R_getr cd_71_101 rfl ?_
    refine R_aload cd_71_104 rfl ?_
    refine R_getf cd_71_105 rfl (by decide) ?_
    refine R_iload cd_71_108 rfl ?_
    refine R_iast cd_71_109 rfl (by first | omega | (simp [qa_upd, qa_blk] <;> omega)) (by first | omega | (simp [qa_upd, qa_blk] <;> omega))  ?_
    refine R_aload cd_71_110 rfl ?_
    refine R_getr cd_71_111 rfl ?_
    refine R_aload cd_71_114 rfl ?_
    refine R_getf cd_71_115 rfl (by decide) ?_
    refine R_iload cd_71_118 rfl ?_
    refine R_iast cd_71_119 rfl (by first | omega | (simp [qa_upd, qa_blk] <;> omega)) (by first | omega | (simp [qa_upd, qa_blk] <;> omega))  ?_
    refine R_aload cd_71_120 rfl ?_
    refine R_dup cd_71_121 rfl ?_
    refine R_getf cd_71_122 rfl (by decide) ?_
    refine R_push cd_71_125 ?_
    refine R_iadd cd_71_126 (by unfold qa_InR; first | omega | (simp [qa_upd, qa_blk] <;> omega)) ?_
    refine R_putf cd_71_127 rfl (by decide) ?_
    refine R_aload cd_71_130 rfl ?_
    refine R_getf cd_71_131 rfl (by decide) ?_
    refine R_push cd_71_134 ?_
    refine R_isub cd_71_135 (by unfold qa_InR; first | omega | (simp [qa_upd, qa_blk] <;> omega)) ?_
    exact R_iret cd_71_136 (show M 6 0 + 1 - 1 = M 6 0 by omega) rfl
  refine R_iload cd_71_0 rfl ?_
  refine R_push cd_71_1 ?_
  refine R_icmp_eq 13 cd_71_2 rfl (fun b2 => ?_) (fun b2 => ?_)
  · refine R_push cd_71_13 ?_
    refine R_goto cd_71_14 ?_
    refine R_istore cd_71_18 ?_
    refine R_iload cd_71_20 rfl ?_
    refine R_push cd_71_21 ?_
    refine R_push cd_71_23 ?_
    refine R_call3 cd_71_25 rfl rfl K_Model_isIn ?_
    refine R_ifeq_b 46 cd_71_28 rfl (fun b28 => ?_) (fun b28 => ?_)
    · refine R_push cd_71_46 ?_
      refine R_istore cd_71_47 ?_
      refine R_aload cd_71_49 rfl ?_
      refine R_iload cd_71_50 rfl ?_
      refine R_if_ne 59 cd_71_52 rfl (fun _ => ?_) (fun h => absurd h (by decide))
      refine R_iload cd_71_59 rfl ?_
      refine R_if_ne 68 cd_71_61 rfl (fun h => absurd h (by decide)) (fun _ => ?_)
      refine R_push cd_71_64 ?_
      refine R_goto cd_71_65 ?_
      exfalso
      omega
    · refine R_iload cd_71_31 rfl ?_
      refine R_push cd_71_32 ?_
      refine R_push cd_71_34 ?_
      refine R_call3 cd_71_36 rfl rfl K_Model_isIn ?_
      refine R_ifeq_b 46 cd_71_39 rfl (fun b39 => ?_) (fun b39 => ?_)
      · refine R_push cd_71_46 ?_
        refine R_istore cd_71_47 ?_
        refine R_aload cd_71_49 rfl ?_
        refine R_iload cd_71_50 rfl ?_
        refine R_if_ne 59 cd_71_52 rfl (fun _ => ?_) (fun h => absurd h (by decide))
        refine R_iload cd_71_59 rfl ?_
        refine R_if_ne 68 cd_71_61 rfl (fun h => absurd h (by decide)) (fun _ => ?_)
        refine R_push cd_71_64 ?_
        refine R_goto cd_71_65 ?_
        exfalso
        omega
      · refine R_push cd_71_42 ?_
        refine R_goto cd_71_43 ?_
        refine R_istore cd_71_47 ?_
        refine R_aload cd_71_49 rfl ?_
        refine R_iload cd_71_50 rfl ?_
        refine R_if_ne 59 cd_71_52 rfl (fun _ => ?_) (fun h => absurd h (by decide))
        refine R_iload cd_71_59 rfl ?_
        refine R_if_ne 68 cd_71_61 rfl (fun _ => ?_) (fun h => absurd h (by decide))
        refine R_aload cd_71_68 rfl ?_
        refine R_getf cd_71_69 rfl (by decide) ?_
        refine R_push cd_71_72 ?_
        refine R_icmp_ne 81 cd_71_74 rfl (fun b74 => ?_) (fun b74 => ?_)
        · refine R_push cd_71_81 ?_
          refine R_call2 cd_71_82 rfl rfl K_Model_fails ?_
          refine R_ifeq_b 90 cd_71_85 rfl (fun _ => ?_) (fun h => absurd h (by decide))
          exact R_norm (qs_c rfl (qs_c rfl (qs_c rfl (qs_c rfl qs_n)))) fin
        · refine R_push cd_71_77 ?_
          refine R_goto cd_71_78 ?_
          exfalso
          omega
  · refine R_aload cd_71_5 rfl ?_
    refine R_iload cd_71_6 rfl ?_
    refine R_call2 cd_71_7 rfl rfl (K_Model_isBone (by omega) (by omega)) ?_
    refine R_ifeq_b 17 cd_71_10 rfl (fun b10 => ?_) (fun b10 => ?_)
    · refine R_push cd_71_17 ?_
      refine R_istore cd_71_18 ?_
      refine R_iload cd_71_20 rfl ?_
      refine R_push cd_71_21 ?_
      refine R_push cd_71_23 ?_
      refine R_call3 cd_71_25 rfl rfl K_Model_isIn ?_
      refine R_ifeq_b 46 cd_71_28 rfl (fun b28 => ?_) (fun b28 => ?_)
      · refine R_push cd_71_46 ?_
        refine R_istore cd_71_47 ?_
        refine R_aload cd_71_49 rfl ?_
        refine R_iload cd_71_50 rfl ?_
        refine R_if_ne 59 cd_71_52 rfl (fun h => absurd h (by decide)) (fun _ => ?_)
        refine R_push cd_71_55 ?_
        refine R_goto cd_71_56 ?_
        exfalso
        omega
      · refine R_iload cd_71_31 rfl ?_
        refine R_push cd_71_32 ?_
        refine R_push cd_71_34 ?_
        refine R_call3 cd_71_36 rfl rfl K_Model_isIn ?_
        refine R_ifeq_b 46 cd_71_39 rfl (fun b39 => ?_) (fun b39 => ?_)
        · refine R_push cd_71_46 ?_
          refine R_istore cd_71_47 ?_
          refine R_aload cd_71_49 rfl ?_
          refine R_iload cd_71_50 rfl ?_
          refine R_if_ne 59 cd_71_52 rfl (fun h => absurd h (by decide)) (fun _ => ?_)
          refine R_push cd_71_55 ?_
          refine R_goto cd_71_56 ?_
          exfalso
          omega
        · refine R_push cd_71_42 ?_
          refine R_goto cd_71_43 ?_
          refine R_istore cd_71_47 ?_
          refine R_aload cd_71_49 rfl ?_
          refine R_iload cd_71_50 rfl ?_
          refine R_if_ne 59 cd_71_52 rfl (fun h => absurd h (by decide)) (fun _ => ?_)
          refine R_push cd_71_55 ?_
          refine R_goto cd_71_56 ?_
          exfalso
          omega
    · refine R_push cd_71_13 ?_
      refine R_goto cd_71_14 ?_
      refine R_istore cd_71_18 ?_
      refine R_iload cd_71_20 rfl ?_
      refine R_push cd_71_21 ?_
      refine R_push cd_71_23 ?_
      refine R_call3 cd_71_25 rfl rfl K_Model_isIn ?_
      refine R_ifeq_b 46 cd_71_28 rfl (fun b28 => ?_) (fun b28 => ?_)
      · refine R_push cd_71_46 ?_
        refine R_istore cd_71_47 ?_
        refine R_aload cd_71_49 rfl ?_
        refine R_iload cd_71_50 rfl ?_
        refine R_if_ne 59 cd_71_52 rfl (fun _ => ?_) (fun h => absurd h (by decide))
        refine R_iload cd_71_59 rfl ?_
        refine R_if_ne 68 cd_71_61 rfl (fun h => absurd h (by decide)) (fun _ => ?_)
        refine R_push cd_71_64 ?_
        refine R_goto cd_71_65 ?_
        exfalso
        omega
      · refine R_iload cd_71_31 rfl ?_
        refine R_push cd_71_32 ?_
        refine R_push cd_71_34 ?_
        refine R_call3 cd_71_36 rfl rfl K_Model_isIn ?_
        refine R_ifeq_b 46 cd_71_39 rfl (fun b39 => ?_) (fun b39 => ?_)
        · refine R_push cd_71_46 ?_
          refine R_istore cd_71_47 ?_
          refine R_aload cd_71_49 rfl ?_
          refine R_iload cd_71_50 rfl ?_
          refine R_if_ne 59 cd_71_52 rfl (fun _ => ?_) (fun h => absurd h (by decide))
          refine R_iload cd_71_59 rfl ?_
          refine R_if_ne 68 cd_71_61 rfl (fun h => absurd h (by decide)) (fun _ => ?_)
          refine R_push cd_71_64 ?_
          refine R_goto cd_71_65 ?_
          exfalso
          omega
        · refine R_push cd_71_42 ?_
          refine R_goto cd_71_43 ?_
          refine R_istore cd_71_47 ?_
          refine R_aload cd_71_49 rfl ?_
          refine R_iload cd_71_50 rfl ?_
          refine R_if_ne 59 cd_71_52 rfl (fun _ => ?_) (fun h => absurd h (by decide))
          refine R_iload cd_71_59 rfl ?_
          refine R_if_ne 68 cd_71_61 rfl (fun _ => ?_) (fun h => absurd h (by decide))
          refine R_aload cd_71_68 rfl ?_
          refine R_getf cd_71_69 rfl (by decide) ?_
          refine R_push cd_71_72 ?_
          refine R_icmp_ne 81 cd_71_74 rfl (fun b74 => ?_) (fun b74 => ?_)
          · refine R_push cd_71_81 ?_
            refine R_call2 cd_71_82 rfl rfl K_Model_fails ?_
            refine R_ifeq_b 90 cd_71_85 rfl (fun _ => ?_) (fun h => absurd h (by decide))
            exact R_norm (qs_c rfl (qs_c rfl (qs_c rfl (qs_c rfl qs_n)))) fin
          · refine R_push cd_71_77 ?_
            refine R_goto cd_71_78 ?_
            exfalso
            omega
/-- the reference's frame stands -/
def qm_st (M : qa_Mem) (f : Int) : Prop := M 38 f ≠ 0 ∧ M 39 f = M 6 0 ∧ ∀ k : Int, 0 ≤ k → k < 3 * M 6 0 → M 40 (24 * f + k) = qm_v (M 32) (M 33) (M 35) k f
def qm_wf (M : qa_Mem) : Prop := (0 ≤ M 6 0 ∧ M 6 0 ≤ 8) ∧ qv_v (M 33)
theorem K_Model_stands {f : Int} {M : qa_Mem} (hw : qm_wf M) (h3 : 0 ≤ f) (h4 : f ≤ 119) : qa_E 76 0 [(0, qr 6), (1, qi (f))] [] (M) (.inl (some (qi (qb (qm_st M f))))) (M) := by
  obtain ⟨⟨h1, h2⟩, h5⟩ := hw
  have lp : ∀ (n : Nat) (k : Int) (P : Prop), k + n = 3 * M 6 0 → 0 ≤ k → (P ↔ (M 38 f ≠ 0 ∧ M 39 f = M 6 0 ∧ ∀ j : Int, 0 ≤ j → j < k → M 40 (24 * f + j) = qm_v (M 32) (M 33) (M 35) j f)) → qa_E 76 30 [(0, qr 6), (1, qi f), (2, qi (qb P)), (3, qi k)] [] M (.inl (some (qi (qb (qm_st M f))))) M := by
    intro n
    induction n with
    | zero =>
      intro k P g1 g2 hP
      obtain rfl : k = 3 * M 6 0 := by omega
      refine R_iload cd_76_30 rfl ?_
      refine R_push cd_76_31 ?_
      refine R_aload cd_76_32 rfl ?_
      refine R_getf cd_76_33 rfl (by decide) ?_
      refine R_imul cd_76_36 (by unfold qa_InR; first | omega | (simp [qa_upd, qa_blk] <;> omega)) ?_
      refine R_icmp_ge 81 cd_76_37 rfl (fun b37 => ?_) (fun b37 => ?_)
      · refine R_iload cd_76_81 rfl ?_
        exact R_zret_b cd_76_82 hP rfl
      · omega
    | succ n ih =>
      intro k P g1 g2 hP
      have e1 : k.tdiv 3 = k / 3 := Int.tdiv_eq_ediv_of_nonneg g2
      have e2 : k.tmod 3 = k % 3 := Int.tmod_eq_emod_of_nonneg g2
      have kv := K_Model_valueAt (b := k.tdiv 3) (c := k.tmod 3) (f := f) (t := k) (M := M) (by omega) (by omega) (by omega) (by omega) (by omega) h3 h4 h5
      refine R_iload cd_76_30 rfl ?_
      refine R_push cd_76_31 ?_
      refine R_aload cd_76_32 rfl ?_
      refine R_getf cd_76_33 rfl (by decide) ?_
      refine R_imul cd_76_36 (by unfold qa_InR; first | omega | (simp [qa_upd, qa_blk] <;> omega)) ?_
      refine R_icmp_ge 81 cd_76_37 rfl (fun b37 => ?_) (fun b37 => ?_)
      · first
          | omega
          | exact R_zret_b cd_76_82 ⟨fun p => absurd p b41, fun p => absurd (hP.mpr ⟨p.1, p.2.1, fun j a b => p.2.2 j a (by omega)⟩) b41⟩ rfl
          | refine R_iload cd_76_81 rfl ?_
            exact R_zret_b cd_76_82 ⟨fun p => absurd p b41, fun p => absurd (hP.mpr ⟨p.1, p.2.1, fun j a b => p.2.2 j a (by omega)⟩) b41⟩ rfl
      · refine R_iload cd_76_40 rfl ?_
        refine R_ifeq_b 81 cd_76_41 rfl (fun b41 => ?_) (fun b41 => ?_)
        · first
            | omega
            | exact R_zret_b cd_76_82 ⟨fun p => absurd p b41, fun p => absurd (hP.mpr ⟨p.1, p.2.1, fun j a b => p.2.2 j a (by omega)⟩) b41⟩ rfl
            | refine R_iload cd_76_81 rfl ?_
              exact R_zret_b cd_76_82 ⟨fun p => absurd p b41, fun p => absurd (hP.mpr ⟨p.1, p.2.1, fun j a b => p.2.2 j a (by omega)⟩) b41⟩ rfl
        · refine R_aload cd_76_44 rfl ?_
          refine R_getr cd_76_45 rfl ?_
          refine R_push cd_76_48 ?_
          refine R_iload cd_76_50 rfl ?_
          refine R_imul cd_76_51 (by unfold qa_InR; first | omega | (simp [qa_upd, qa_blk] <;> omega)) ?_
          refine R_iload cd_76_52 rfl ?_
          refine R_iadd cd_76_53 (by unfold qa_InR; first | omega | (simp [qa_upd, qa_blk] <;> omega)) ?_
          refine R_iald cd_76_54 rfl (by first | omega | (simp [qa_upd, qa_blk] <;> omega)) (by first | omega | (simp [qa_upd, qa_blk] <;> omega)) ?_
          refine R_aload cd_76_55 rfl ?_
          refine R_iload cd_76_56 rfl ?_
          refine R_push cd_76_57 ?_
          refine R_idiv cd_76_58 (by omega) ?_
          refine R_iload cd_76_59 rfl ?_
          refine R_push cd_76_60 ?_
          refine R_irem cd_76_61 (by omega) ?_
          refine R_iload cd_76_62 rfl ?_
          refine R_call4 cd_76_63 rfl rfl kv ?_
          refine R_icmp_ne 73 cd_76_66 rfl (fun b66 => ?_) (fun b66 => ?_)
          · refine R_push cd_76_73 ?_
            refine R_istore cd_76_74 ?_
            refine R_iinc cd_76_75 rfl (by unfold qa_InR; first | omega | (simp [qa_upd, qa_blk] <;> omega)) ?_
            refine R_goto cd_76_78 ?_
            first
              | have e := ih (k + 1) True (by omega) (by omega) ⟨fun _ => ⟨(hP.mp b41).1, (hP.mp b41).2.1, fun j a b => by
                  by_cases hj : j = k
                  · subst hj; exact b66
                  · exact (hP.mp b41).2.2 j a (by omega)⟩, fun _ => trivial⟩
                rw [qb_t trivial] at e
                exact R_norm (qs_c rfl (qs_c rfl (qs_c rfl (qs_c rfl qs_n)))) e
              | have e := ih (k + 1) False (by omega) (by omega) ⟨fun p => p.elim, fun p => b66 (p.2.2 k g2 (by omega))⟩
                rw [qb_f id] at e
                exact R_norm (qs_c rfl (qs_c rfl (qs_c rfl (qs_c rfl qs_n)))) e
          · refine R_push cd_76_69 ?_
            refine R_goto cd_76_70 ?_
            refine R_istore cd_76_74 ?_
            refine R_iinc cd_76_75 rfl (by unfold qa_InR; first | omega | (simp [qa_upd, qa_blk] <;> omega)) ?_
            refine R_goto cd_76_78 ?_
            first
              | have e := ih (k + 1) True (by omega) (by omega) ⟨fun _ => ⟨(hP.mp b41).1, (hP.mp b41).2.1, fun j a b => by
                  by_cases hj : j = k
                  · subst hj; exact b66
                  · exact (hP.mp b41).2.2 j a (by omega)⟩, fun _ => trivial⟩
                rw [qb_t trivial] at e
                exact R_norm (qs_c rfl (qs_c rfl (qs_c rfl (qs_c rfl qs_n)))) e
              | have e := ih (k + 1) False (by omega) (by omega) ⟨fun p => p.elim, fun p => b66 (p.2.2 k g2 (by omega))⟩
                rw [qb_f id] at e
                exact R_norm (qs_c rfl (qs_c rfl (qs_c rfl (qs_c rfl qs_n)))) e
  refine R_aload cd_76_0 rfl ?_
  refine R_getr cd_76_1 rfl ?_
  refine R_iload cd_76_4 rfl ?_
  refine R_zald cd_76_5 rfl (by first | omega | (simp [qa_upd, qa_blk] <;> omega)) (by first | omega | (simp [qa_upd, qa_blk] <;> omega)) ?_
  refine R_if_eq 26 cd_76_6 rfl (fun b6 => ?_) (fun b6 => ?_)
  · refine R_push cd_76_26 ?_
    refine R_istore cd_76_27 ?_
    refine R_push cd_76_28 ?_
    refine R_istore cd_76_29 ?_
    first
      | have e := lp _ 0 True (by omega : 0 + ((3 * M 6 0).toNat : Int) = 3 * M 6 0) (by omega) ⟨fun _ => ⟨b6, b19, fun j a b => by omega⟩, fun _ => trivial⟩
        rw [qb_t trivial] at e
        exact R_norm (qs_c rfl (qs_c rfl (qs_c rfl (qs_c rfl qs_n)))) e
      | have e := lp _ 0 False (by omega : 0 + ((3 * M 6 0).toNat : Int) = 3 * M 6 0) (by omega) ⟨fun p => p.elim, fun p => b19 p.2.1⟩
        rw [qb_f id] at e
        exact R_norm (qs_c rfl (qs_c rfl (qs_c rfl (qs_c rfl qs_n)))) e
      | have e := lp _ 0 False (by omega : 0 + ((3 * M 6 0).toNat : Int) = 3 * M 6 0) (by omega) ⟨fun p => p.elim, fun p => p.1 b6⟩
        rw [qb_f id] at e
        exact R_norm (qs_c rfl (qs_c rfl (qs_c rfl (qs_c rfl qs_n)))) e
  · refine R_aload cd_76_9 rfl ?_
    refine R_getr cd_76_10 rfl ?_
    refine R_iload cd_76_13 rfl ?_
    refine R_iald cd_76_14 rfl (by first | omega | (simp [qa_upd, qa_blk] <;> omega)) (by first | omega | (simp [qa_upd, qa_blk] <;> omega)) ?_
    refine R_aload cd_76_15 rfl ?_
    refine R_getf cd_76_16 rfl (by decide) ?_
    refine R_icmp_ne 26 cd_76_19 rfl (fun b19 => ?_) (fun b19 => ?_)
    · refine R_push cd_76_26 ?_
      refine R_istore cd_76_27 ?_
      refine R_push cd_76_28 ?_
      refine R_istore cd_76_29 ?_
      first
        | have e := lp _ 0 True (by omega : 0 + ((3 * M 6 0).toNat : Int) = 3 * M 6 0) (by omega) ⟨fun _ => ⟨b6, b19, fun j a b => by omega⟩, fun _ => trivial⟩
          rw [qb_t trivial] at e
          exact R_norm (qs_c rfl (qs_c rfl (qs_c rfl (qs_c rfl qs_n)))) e
        | have e := lp _ 0 False (by omega : 0 + ((3 * M 6 0).toNat : Int) = 3 * M 6 0) (by omega) ⟨fun p => p.elim, fun p => b19 p.2.1⟩
          rw [qb_f id] at e
          exact R_norm (qs_c rfl (qs_c rfl (qs_c rfl (qs_c rfl qs_n)))) e
        | have e := lp _ 0 False (by omega : 0 + ((3 * M 6 0).toNat : Int) = 3 * M 6 0) (by omega) ⟨fun p => p.elim, fun p => p.1 b6⟩
          rw [qb_f id] at e
          exact R_norm (qs_c rfl (qs_c rfl (qs_c rfl (qs_c rfl qs_n)))) e
    · refine R_push cd_76_22 ?_
      refine R_goto cd_76_23 ?_
      refine R_istore cd_76_27 ?_
      refine R_push cd_76_28 ?_
      refine R_istore cd_76_29 ?_
      first
        | have e := lp _ 0 True (by omega : 0 + ((3 * M 6 0).toNat : Int) = 3 * M 6 0) (by omega) ⟨fun _ => ⟨b6, b19, fun j a b => by omega⟩, fun _ => trivial⟩
          rw [qb_t trivial] at e
          exact R_norm (qs_c rfl (qs_c rfl (qs_c rfl (qs_c rfl qs_n)))) e
        | have e := lp _ 0 False (by omega : 0 + ((3 * M 6 0).toNat : Int) = 3 * M 6 0) (by omega) ⟨fun p => p.elim, fun p => b19 p.2.1⟩
          rw [qb_f id] at e
          exact R_norm (qs_c rfl (qs_c rfl (qs_c rfl (qs_c rfl qs_n)))) e
        | have e := lp _ 0 False (by omega : 0 + ((3 * M 6 0).toNat : Int) = 3 * M 6 0) (by omega) ⟨fun p => p.elim, fun p => p.1 b6⟩
          rw [qb_f id] at e
          exact R_norm (qs_c rfl (qs_c rfl (qs_c rfl (qs_c rfl qs_n)))) e
noncomputable def qm_vo (M : qa_Mem) : Int := qf_cnt (fun f => M 38 f ≠ 0 ∧ ¬ qm_st M f) 120
theorem K_Model_allVoids {M : qa_Mem} (hw : qm_wf M) : qa_E 77 0 [(0, qr 6)] [] (M) (.inl (some (qi (qm_vo M)))) (M) := by
  have lp : ∀ (k : Nat) (j : Nat), j + k = 120 → qa_E 77 4 [(0, qr 6), (1, qi (qf_cnt (fun f => M 38 f ≠ 0 ∧ ¬ qm_st M f) j)), (2, qi j)] [] M (.inl (some (qi (qm_vo M)))) M := by
    intro k
    induction k with
    | zero =>
      intro j g1
      obtain rfl : j = 120 := by omega
      refine R_iload cd_77_4 rfl ?_
      refine R_push cd_77_5 ?_
      refine R_icmp_ge 41 cd_77_7 rfl (fun b7 => ?_) (fun b7 => ?_)
      · refine R_iload cd_77_41 rfl ?_
        exact R_iret cd_77_42 (by first | rfl | omega) rfl
      · omega
    | succ k ih =>
      intro j g1
      have e := ih (j + 1) (by omega)
      rw [Int.natCast_add] at e
      have r1 := qf_cnt_r (fun f => M 38 f ≠ 0 ∧ ¬ qm_st M f) j
      unfold qf_cnt at e
      refine R_iload cd_77_4 rfl ?_
      refine R_push cd_77_5 ?_
      refine R_icmp_ge 41 cd_77_7 rfl (fun b7 => ?_) (fun b7 => ?_)
      · omega
      · refine R_iload cd_77_10 rfl ?_
        refine R_aload cd_77_11 rfl ?_
        refine R_getr cd_77_12 rfl ?_
        refine R_iload cd_77_15 rfl ?_
        refine R_zald cd_77_16 rfl (by first | omega | (simp [qa_upd, qa_blk] <;> omega)) (by first | omega | (simp [qa_upd, qa_blk] <;> omega)) ?_
        refine R_if_eq 32 cd_77_17 rfl (fun b17 => ?_) (fun b17 => ?_)
        · refine R_push cd_77_32 ?_
          refine R_iadd cd_77_33 (by unfold qa_InR; first | omega | (simp [qa_upd, qa_blk] <;> omega)) ?_
          refine R_istore cd_77_34 ?_
          refine R_iinc cd_77_35 rfl (by unfold qa_InR; first | omega | (simp [qa_upd, qa_blk] <;> omega)) ?_
          refine R_goto cd_77_38 ?_
          first
            | rw [qb_t ⟨b17, b25⟩] at e
              exact R_norm (qs_c rfl (qs_c rfl (qs_c rfl qs_n))) e
            | rw [qb_f (fun q => absurd b25 q.2)] at e
              exact R_norm (qs_c rfl (qs_c rfl (qs_c rfl qs_n))) e
            | rw [qb_f (fun q => absurd b17 q.1)] at e
              exact R_norm (qs_c rfl (qs_c rfl (qs_c rfl qs_n))) e
        · refine R_aload cd_77_20 rfl ?_
          refine R_iload cd_77_21 rfl ?_
          refine R_call2 cd_77_22 rfl rfl (K_Model_stands hw (by omega) (by omega)) ?_
          refine R_ifne_b 32 cd_77_25 rfl (fun b25 => ?_) (fun b25 => ?_)
          · refine R_push cd_77_32 ?_
            refine R_iadd cd_77_33 (by unfold qa_InR; first | omega | (simp [qa_upd, qa_blk] <;> omega)) ?_
            refine R_istore cd_77_34 ?_
            refine R_iinc cd_77_35 rfl (by unfold qa_InR; first | omega | (simp [qa_upd, qa_blk] <;> omega)) ?_
            refine R_goto cd_77_38 ?_
            first
              | rw [qb_t ⟨b17, b25⟩] at e
                exact R_norm (qs_c rfl (qs_c rfl (qs_c rfl qs_n))) e
              | rw [qb_f (fun q => absurd b25 q.2)] at e
                exact R_norm (qs_c rfl (qs_c rfl (qs_c rfl qs_n))) e
              | rw [qb_f (fun q => absurd b17 q.1)] at e
                exact R_norm (qs_c rfl (qs_c rfl (qs_c rfl qs_n))) e
          · refine R_push cd_77_28 ?_
            refine R_goto cd_77_29 ?_
            refine R_iadd cd_77_33 (by unfold qa_InR; first | omega | (simp [qa_upd, qa_blk] <;> omega)) ?_
            refine R_istore cd_77_34 ?_
            refine R_iinc cd_77_35 rfl (by unfold qa_InR; first | omega | (simp [qa_upd, qa_blk] <;> omega)) ?_
            refine R_goto cd_77_38 ?_
            first
              | rw [qb_t ⟨b17, b25⟩] at e
                exact R_norm (qs_c rfl (qs_c rfl (qs_c rfl qs_n))) e
              | rw [qb_f (fun q => absurd b25 q.2)] at e
                exact R_norm (qs_c rfl (qs_c rfl (qs_c rfl qs_n))) e
              | rw [qb_f (fun q => absurd b17 q.1)] at e
                exact R_norm (qs_c rfl (qs_c rfl (qs_c rfl qs_n))) e
  refine R_push cd_77_0 ?_
  refine R_istore cd_77_1 ?_
  refine R_push cd_77_2 ?_
  refine R_istore cd_77_3 ?_
  exact R_norm (qs_c rfl (qs_c rfl (qs_c rfl qs_n))) (lp 120 0 (by omega))
theorem K_Model_voids {M : qa_Mem} (hw : qm_wf M) : qa_E 95 0 [(0, qr 6)] [] (M) (.inl (some (qi (qm_vo M)))) (qa_upd M 6 26 0) := by
  refine R_aload cd_95_0 rfl ?_
  refine R_push cd_95_1 ?_
  refine R_putf cd_95_2 rfl (by decide) ?_
  refine R_aload cd_95_5 rfl ?_
  refine R_call1 cd_95_6 rfl rfl (K_Model_allVoids (by exact hw)) ?_
  exact R_iret cd_95_9 (by first | rfl | omega) rfl
theorem K_Model_voidsByAll {M : qa_Mem} (hw : qm_wf M) : qa_E 96 0 [(0, qr 6)] [] (M) (.inl (some (qi (qm_vo M)))) (qa_upd M 6 26 0) := by
  refine R_aload cd_96_0 rfl ?_
  refine R_push cd_96_1 ?_
  refine R_putf cd_96_2 rfl (by decide) ?_
  refine R_aload cd_96_5 rfl ?_
  refine R_call1 cd_96_6 rfl rfl (K_Model_allVoids (by exact hw)) ?_
  exact R_iret cd_96_9 (by first | rfl | omega) rfl
end
section
/-! the reference: keys -/
def qm_cell (M : qa_Mem) (b c f : Int) : Prop := (0 ≤ b ∧ b ≤ M 6 0 - 1) ∧ (0 ≤ c ∧ c ≤ 2) ∧ (0 ≤ f ∧ f ≤ 119)
theorem K_Model_keyX1 {b c f v a s : Int} {M : qa_Mem} (h1 : 0 ≤ M 6 0) (h2 : M 6 0 ≤ 8) (h3 : ¬ (qm_cell M b c f ∧ 0 ≤ a ∧ a ≤ 5)) : qa_E 78 0 [(0, qr 6), (1, qi (b)), (2, qi (c)), (3, qi (f)), (4, qi (v)), (5, qi (a)), (6, qi (s))] [] (M) (.inl (some (qi (0)))) (qa_upd M 6 26 1) := by
  unfold qm_cell at h3
  refine R_aload cd_78_0 rfl ?_
  refine R_iload cd_78_1 rfl ?_
  refine R_iload cd_78_2 rfl ?_
  refine R_iload cd_78_3 rfl ?_
  refine R_call4 cd_78_4 rfl rfl (K_Model_isPlace (by omega) (by omega)) ?_
  refine R_ifeq_b 24 cd_78_7 rfl (fun b7 => ?_) (fun b7 => ?_)
  · refine R_push cd_78_24 ?_
    refine R_istore cd_78_25 ?_
    refine R_iload cd_78_27 rfl ?_
    refine R_push cd_78_28 ?_
    refine R_icmp_ne 55 cd_78_29 rfl (fun b29 => ?_) (fun b29 => ?_)
    · refine R_iload cd_78_55 rfl ?_
      refine R_push cd_78_57 ?_
      refine R_push cd_78_60 ?_
      refine R_call3 cd_78_63 rfl rfl K_Model_isIn ?_
      refine R_istore cd_78_66 ?_
      refine R_aload cd_78_68 rfl ?_
      refine R_iload cd_78_69 rfl ?_
      refine R_if_ne 78 cd_78_71 rfl (fun h => absurd h (by decide)) (fun _ => ?_)
      refine R_push cd_78_74 ?_
      refine R_goto cd_78_75 ?_
      refine R_call2 cd_78_115 rfl rfl K_Model_fails ?_
      refine R_ifeq_b 123 cd_78_118 rfl (fun h => absurd h (by decide)) (fun _ => ?_)
      refine R_push cd_78_121 ?_
      exact R_iret cd_78_122 (by first | rfl | omega) rfl
    · refine R_iload cd_78_32 rfl ?_
      refine R_push cd_78_34 ?_
      refine R_push cd_78_35 ?_
      refine R_call3 cd_78_36 rfl rfl K_Model_isIn ?_
      refine R_ifeq_b 51 cd_78_39 rfl (fun b39 => ?_) (fun b39 => ?_)
      · refine R_push cd_78_51 ?_
        refine R_goto cd_78_52 ?_
        refine R_istore cd_78_66 ?_
        refine R_aload cd_78_68 rfl ?_
        refine R_iload cd_78_69 rfl ?_
        refine R_if_ne 78 cd_78_71 rfl (fun h => absurd h (by decide)) (fun _ => ?_)
        refine R_push cd_78_74 ?_
        refine R_goto cd_78_75 ?_
        refine R_call2 cd_78_115 rfl rfl K_Model_fails ?_
        refine R_ifeq_b 123 cd_78_118 rfl (fun h => absurd h (by decide)) (fun _ => ?_)
        refine R_push cd_78_121 ?_
        exact R_iret cd_78_122 (by first | rfl | omega) rfl
      · refine R_iload cd_78_42 rfl ?_
        refine R_if_ne 51 cd_78_44 rfl (fun b44 => ?_) (fun b44 => ?_)
        · refine R_push cd_78_51 ?_
          refine R_goto cd_78_52 ?_
          refine R_istore cd_78_66 ?_
          refine R_aload cd_78_68 rfl ?_
          refine R_iload cd_78_69 rfl ?_
          refine R_if_ne 78 cd_78_71 rfl (fun h => absurd h (by decide)) (fun _ => ?_)
          refine R_push cd_78_74 ?_
          refine R_goto cd_78_75 ?_
          refine R_call2 cd_78_115 rfl rfl K_Model_fails ?_
          refine R_ifeq_b 123 cd_78_118 rfl (fun h => absurd h (by decide)) (fun _ => ?_)
          refine R_push cd_78_121 ?_
          exact R_iret cd_78_122 (by first | rfl | omega) rfl
        · refine R_push cd_78_47 ?_
          refine R_goto cd_78_48 ?_
          refine R_istore cd_78_66 ?_
          refine R_aload cd_78_68 rfl ?_
          refine R_iload cd_78_69 rfl ?_
          refine R_if_ne 78 cd_78_71 rfl (fun h => absurd h (by decide)) (fun _ => ?_)
          refine R_push cd_78_74 ?_
          refine R_goto cd_78_75 ?_
          refine R_call2 cd_78_115 rfl rfl K_Model_fails ?_
          refine R_ifeq_b 123 cd_78_118 rfl (fun h => absurd h (by decide)) (fun _ => ?_)
          refine R_push cd_78_121 ?_
          exact R_iret cd_78_122 (by first | rfl | omega) rfl
  · refine R_iload cd_78_10 rfl ?_
    refine R_push cd_78_12 ?_
    refine R_push cd_78_13 ?_
    refine R_call3 cd_78_14 rfl rfl K_Model_isIn ?_
    refine R_ifeq_b 24 cd_78_17 rfl (fun b17 => ?_) (fun b17 => ?_)
    · refine R_push cd_78_24 ?_
      refine R_istore cd_78_25 ?_
      refine R_iload cd_78_27 rfl ?_
      refine R_push cd_78_28 ?_
      refine R_icmp_ne 55 cd_78_29 rfl (fun b29 => ?_) (fun b29 => ?_)
      · refine R_iload cd_78_55 rfl ?_
        refine R_push cd_78_57 ?_
        refine R_push cd_78_60 ?_
        refine R_call3 cd_78_63 rfl rfl K_Model_isIn ?_
        refine R_istore cd_78_66 ?_
        refine R_aload cd_78_68 rfl ?_
        refine R_iload cd_78_69 rfl ?_
        refine R_if_ne 78 cd_78_71 rfl (fun h => absurd h (by decide)) (fun _ => ?_)
        refine R_push cd_78_74 ?_
        refine R_goto cd_78_75 ?_
        refine R_call2 cd_78_115 rfl rfl K_Model_fails ?_
        refine R_ifeq_b 123 cd_78_118 rfl (fun h => absurd h (by decide)) (fun _ => ?_)
        refine R_push cd_78_121 ?_
        exact R_iret cd_78_122 (by first | rfl | omega) rfl
      · refine R_iload cd_78_32 rfl ?_
        refine R_push cd_78_34 ?_
        refine R_push cd_78_35 ?_
        refine R_call3 cd_78_36 rfl rfl K_Model_isIn ?_
        refine R_ifeq_b 51 cd_78_39 rfl (fun b39 => ?_) (fun b39 => ?_)
        · refine R_push cd_78_51 ?_
          refine R_goto cd_78_52 ?_
          refine R_istore cd_78_66 ?_
          refine R_aload cd_78_68 rfl ?_
          refine R_iload cd_78_69 rfl ?_
          refine R_if_ne 78 cd_78_71 rfl (fun h => absurd h (by decide)) (fun _ => ?_)
          refine R_push cd_78_74 ?_
          refine R_goto cd_78_75 ?_
          refine R_call2 cd_78_115 rfl rfl K_Model_fails ?_
          refine R_ifeq_b 123 cd_78_118 rfl (fun h => absurd h (by decide)) (fun _ => ?_)
          refine R_push cd_78_121 ?_
          exact R_iret cd_78_122 (by first | rfl | omega) rfl
        · refine R_iload cd_78_42 rfl ?_
          refine R_if_ne 51 cd_78_44 rfl (fun b44 => ?_) (fun b44 => ?_)
          · refine R_push cd_78_51 ?_
            refine R_goto cd_78_52 ?_
            refine R_istore cd_78_66 ?_
            refine R_aload cd_78_68 rfl ?_
            refine R_iload cd_78_69 rfl ?_
            refine R_if_ne 78 cd_78_71 rfl (fun h => absurd h (by decide)) (fun _ => ?_)
            refine R_push cd_78_74 ?_
            refine R_goto cd_78_75 ?_
            refine R_call2 cd_78_115 rfl rfl K_Model_fails ?_
            refine R_ifeq_b 123 cd_78_118 rfl (fun h => absurd h (by decide)) (fun _ => ?_)
            refine R_push cd_78_121 ?_
            exact R_iret cd_78_122 (by first | rfl | omega) rfl
          · refine R_push cd_78_47 ?_
            refine R_goto cd_78_48 ?_
            refine R_istore cd_78_66 ?_
            refine R_aload cd_78_68 rfl ?_
            refine R_iload cd_78_69 rfl ?_
            refine R_if_ne 78 cd_78_71 rfl (fun h => absurd h (by decide)) (fun _ => ?_)
            refine R_push cd_78_74 ?_
            refine R_goto cd_78_75 ?_
            refine R_call2 cd_78_115 rfl rfl K_Model_fails ?_
            refine R_ifeq_b 123 cd_78_118 rfl (fun h => absurd h (by decide)) (fun _ => ?_)
            refine R_push cd_78_121 ?_
            exact R_iret cd_78_122 (by first | rfl | omega) rfl
    · refine R_push cd_78_20 ?_
      refine R_goto cd_78_21 ?_
      refine R_istore cd_78_25 ?_
      refine R_iload cd_78_27 rfl ?_
      refine R_push cd_78_28 ?_
      refine R_icmp_ne 55 cd_78_29 rfl (fun b29 => ?_) (fun b29 => ?_)
      · refine R_iload cd_78_55 rfl ?_
        refine R_push cd_78_57 ?_
        refine R_push cd_78_60 ?_
        refine R_call3 cd_78_63 rfl rfl K_Model_isIn ?_
        refine R_istore cd_78_66 ?_
        refine R_aload cd_78_68 rfl ?_
        refine R_iload cd_78_69 rfl ?_
        refine R_if_ne 78 cd_78_71 rfl (fun _ => ?_) (fun h => absurd h (by decide))
        refine R_iload cd_78_78 rfl ?_
        refine R_ifne_b 87 cd_78_80 rfl (fun b80 => ?_) (fun b80 => ?_)
        · exfalso
          omega
        · refine R_push cd_78_83 ?_
          refine R_goto cd_78_84 ?_
          exfalso
          omega
      · refine R_iload cd_78_32 rfl ?_
        refine R_push cd_78_34 ?_
        refine R_push cd_78_35 ?_
        refine R_call3 cd_78_36 rfl rfl K_Model_isIn ?_
        refine R_ifeq_b 51 cd_78_39 rfl (fun b39 => ?_) (fun b39 => ?_)
        · refine R_push cd_78_51 ?_
          refine R_goto cd_78_52 ?_
          refine R_istore cd_78_66 ?_
          refine R_aload cd_78_68 rfl ?_
          refine R_iload cd_78_69 rfl ?_
          refine R_if_ne 78 cd_78_71 rfl (fun _ => ?_) (fun h => absurd h (by decide))
          refine R_iload cd_78_78 rfl ?_
          refine R_if_ne 87 cd_78_80 rfl (fun h => absurd h (by decide)) (fun _ => ?_)
          refine R_push cd_78_83 ?_
          refine R_goto cd_78_84 ?_
          exfalso
          omega
        · refine R_iload cd_78_42 rfl ?_
          refine R_if_ne 51 cd_78_44 rfl (fun b44 => ?_) (fun b44 => ?_)
          · refine R_push cd_78_51 ?_
            refine R_goto cd_78_52 ?_
            refine R_istore cd_78_66 ?_
            refine R_aload cd_78_68 rfl ?_
            refine R_iload cd_78_69 rfl ?_
            refine R_if_ne 78 cd_78_71 rfl (fun _ => ?_) (fun h => absurd h (by decide))
            refine R_iload cd_78_78 rfl ?_
            refine R_if_ne 87 cd_78_80 rfl (fun h => absurd h (by decide)) (fun _ => ?_)
            refine R_push cd_78_83 ?_
            refine R_goto cd_78_84 ?_
            exfalso
            omega
          · refine R_push cd_78_47 ?_
            refine R_goto cd_78_48 ?_
            refine R_istore cd_78_66 ?_
            refine R_aload cd_78_68 rfl ?_
            refine R_iload cd_78_69 rfl ?_
            refine R_if_ne 78 cd_78_71 rfl (fun _ => ?_) (fun h => absurd h (by decide))
            refine R_iload cd_78_78 rfl ?_
            refine R_if_ne 87 cd_78_80 rfl (fun _ => ?_) (fun h => absurd h (by decide))
            exfalso
            omega
theorem K_Model_keyX2 {b c f v a s : Int} {M : qa_Mem} (h1 : 0 ≤ M 6 0) (h2 : M 6 0 ≤ 8) (h3 : qm_cell M b c f ∧ 0 ≤ a ∧ a ≤ 5) (h4 : ¬ ((c = 2 → (0 ≤ v ∧ v ≤ 3) ∧ s = 0) ∧ (c ≠ 2 → -200 ≤ v ∧ v ≤ 200))) : qa_E 78 0 [(0, qr 6), (1, qi (b)), (2, qi (c)), (3, qi (f)), (4, qi (v)), (5, qi (a)), (6, qi (s))] [] (M) (.inl (some (qi (0)))) (qa_upd M 6 26 2) := by
  unfold qm_cell at h3
  refine R_aload cd_78_0 rfl ?_
  refine R_iload cd_78_1 rfl ?_
  refine R_iload cd_78_2 rfl ?_
  refine R_iload cd_78_3 rfl ?_
  refine R_call4 cd_78_4 rfl rfl (K_Model_isPlace (by omega) (by omega)) ?_
  refine R_ifeq_b 24 cd_78_7 rfl (fun b7 => ?_) (fun b7 => ?_)
  · refine R_push cd_78_24 ?_
    refine R_istore cd_78_25 ?_
    refine R_iload cd_78_27 rfl ?_
    refine R_push cd_78_28 ?_
    refine R_icmp_ne 55 cd_78_29 rfl (fun b29 => ?_) (fun b29 => ?_)
    · refine R_iload cd_78_55 rfl ?_
      refine R_push cd_78_57 ?_
      refine R_push cd_78_60 ?_
      refine R_call3 cd_78_63 rfl rfl K_Model_isIn ?_
      refine R_istore cd_78_66 ?_
      refine R_aload cd_78_68 rfl ?_
      refine R_iload cd_78_69 rfl ?_
      refine R_if_ne 78 cd_78_71 rfl (fun h => absurd h (by decide)) (fun _ => ?_)
      refine R_push cd_78_74 ?_
      refine R_goto cd_78_75 ?_
      exfalso
      omega
    · refine R_iload cd_78_32 rfl ?_
      refine R_push cd_78_34 ?_
      refine R_push cd_78_35 ?_
      refine R_call3 cd_78_36 rfl rfl K_Model_isIn ?_
      refine R_ifeq_b 51 cd_78_39 rfl (fun b39 => ?_) (fun b39 => ?_)
      · refine R_push cd_78_51 ?_
        refine R_goto cd_78_52 ?_
        refine R_istore cd_78_66 ?_
        refine R_aload cd_78_68 rfl ?_
        refine R_iload cd_78_69 rfl ?_
        refine R_if_ne 78 cd_78_71 rfl (fun h => absurd h (by decide)) (fun _ => ?_)
        refine R_push cd_78_74 ?_
        refine R_goto cd_78_75 ?_
        exfalso
        omega
      · refine R_iload cd_78_42 rfl ?_
        refine R_if_ne 51 cd_78_44 rfl (fun b44 => ?_) (fun b44 => ?_)
        · refine R_push cd_78_51 ?_
          refine R_goto cd_78_52 ?_
          refine R_istore cd_78_66 ?_
          refine R_aload cd_78_68 rfl ?_
          refine R_iload cd_78_69 rfl ?_
          refine R_if_ne 78 cd_78_71 rfl (fun h => absurd h (by decide)) (fun _ => ?_)
          refine R_push cd_78_74 ?_
          refine R_goto cd_78_75 ?_
          exfalso
          omega
        · refine R_push cd_78_47 ?_
          refine R_goto cd_78_48 ?_
          refine R_istore cd_78_66 ?_
          refine R_aload cd_78_68 rfl ?_
          refine R_iload cd_78_69 rfl ?_
          refine R_if_ne 78 cd_78_71 rfl (fun h => absurd h (by decide)) (fun _ => ?_)
          refine R_push cd_78_74 ?_
          refine R_goto cd_78_75 ?_
          exfalso
          omega
  · refine R_iload cd_78_10 rfl ?_
    refine R_push cd_78_12 ?_
    refine R_push cd_78_13 ?_
    refine R_call3 cd_78_14 rfl rfl K_Model_isIn ?_
    refine R_ifeq_b 24 cd_78_17 rfl (fun b17 => ?_) (fun b17 => ?_)
    · refine R_push cd_78_24 ?_
      refine R_istore cd_78_25 ?_
      refine R_iload cd_78_27 rfl ?_
      refine R_push cd_78_28 ?_
      refine R_icmp_ne 55 cd_78_29 rfl (fun b29 => ?_) (fun b29 => ?_)
      · refine R_iload cd_78_55 rfl ?_
        refine R_push cd_78_57 ?_
        refine R_push cd_78_60 ?_
        refine R_call3 cd_78_63 rfl rfl K_Model_isIn ?_
        refine R_istore cd_78_66 ?_
        refine R_aload cd_78_68 rfl ?_
        refine R_iload cd_78_69 rfl ?_
        refine R_if_ne 78 cd_78_71 rfl (fun h => absurd h (by decide)) (fun _ => ?_)
        refine R_push cd_78_74 ?_
        refine R_goto cd_78_75 ?_
        exfalso
        omega
      · refine R_iload cd_78_32 rfl ?_
        refine R_push cd_78_34 ?_
        refine R_push cd_78_35 ?_
        refine R_call3 cd_78_36 rfl rfl K_Model_isIn ?_
        refine R_ifeq_b 51 cd_78_39 rfl (fun b39 => ?_) (fun b39 => ?_)
        · refine R_push cd_78_51 ?_
          refine R_goto cd_78_52 ?_
          refine R_istore cd_78_66 ?_
          refine R_aload cd_78_68 rfl ?_
          refine R_iload cd_78_69 rfl ?_
          refine R_if_ne 78 cd_78_71 rfl (fun h => absurd h (by decide)) (fun _ => ?_)
          refine R_push cd_78_74 ?_
          refine R_goto cd_78_75 ?_
          exfalso
          omega
        · refine R_iload cd_78_42 rfl ?_
          refine R_if_ne 51 cd_78_44 rfl (fun b44 => ?_) (fun b44 => ?_)
          · refine R_push cd_78_51 ?_
            refine R_goto cd_78_52 ?_
            refine R_istore cd_78_66 ?_
            refine R_aload cd_78_68 rfl ?_
            refine R_iload cd_78_69 rfl ?_
            refine R_if_ne 78 cd_78_71 rfl (fun h => absurd h (by decide)) (fun _ => ?_)
            refine R_push cd_78_74 ?_
            refine R_goto cd_78_75 ?_
            exfalso
            omega
          · refine R_push cd_78_47 ?_
            refine R_goto cd_78_48 ?_
            refine R_istore cd_78_66 ?_
            refine R_aload cd_78_68 rfl ?_
            refine R_iload cd_78_69 rfl ?_
            refine R_if_ne 78 cd_78_71 rfl (fun h => absurd h (by decide)) (fun _ => ?_)
            refine R_push cd_78_74 ?_
            refine R_goto cd_78_75 ?_
            exfalso
            omega
    · refine R_push cd_78_20 ?_
      refine R_goto cd_78_21 ?_
      refine R_istore cd_78_25 ?_
      refine R_iload cd_78_27 rfl ?_
      refine R_push cd_78_28 ?_
      refine R_icmp_ne 55 cd_78_29 rfl (fun b29 => ?_) (fun b29 => ?_)
      · refine R_iload cd_78_55 rfl ?_
        refine R_push cd_78_57 ?_
        refine R_push cd_78_60 ?_
        refine R_call3 cd_78_63 rfl rfl K_Model_isIn ?_
        refine R_istore cd_78_66 ?_
        refine R_aload cd_78_68 rfl ?_
        refine R_iload cd_78_69 rfl ?_
        refine R_if_ne 78 cd_78_71 rfl (fun _ => ?_) (fun h => absurd h (by decide))
        refine R_iload cd_78_78 rfl ?_
        refine R_ifne_b 87 cd_78_80 rfl (fun b80 => ?_) (fun b80 => ?_)
        · exfalso
          omega
        · refine R_push cd_78_83 ?_
          refine R_goto cd_78_84 ?_
          refine R_call2 cd_78_115 rfl rfl K_Model_fails ?_
          refine R_ifeq_b 123 cd_78_118 rfl (fun h => absurd h (by decide)) (fun _ => ?_)
          refine R_push cd_78_121 ?_
          exact R_iret cd_78_122 (by first | rfl | omega) rfl
      · refine R_iload cd_78_32 rfl ?_
        refine R_push cd_78_34 ?_
        refine R_push cd_78_35 ?_
        refine R_call3 cd_78_36 rfl rfl K_Model_isIn ?_
        refine R_ifeq_b 51 cd_78_39 rfl (fun b39 => ?_) (fun b39 => ?_)
        · refine R_push cd_78_51 ?_
          refine R_goto cd_78_52 ?_
          refine R_istore cd_78_66 ?_
          refine R_aload cd_78_68 rfl ?_
          refine R_iload cd_78_69 rfl ?_
          refine R_if_ne 78 cd_78_71 rfl (fun _ => ?_) (fun h => absurd h (by decide))
          refine R_iload cd_78_78 rfl ?_
          refine R_if_ne 87 cd_78_80 rfl (fun h => absurd h (by decide)) (fun _ => ?_)
          refine R_push cd_78_83 ?_
          refine R_goto cd_78_84 ?_
          refine R_call2 cd_78_115 rfl rfl K_Model_fails ?_
          refine R_ifeq_b 123 cd_78_118 rfl (fun h => absurd h (by decide)) (fun _ => ?_)
          refine R_push cd_78_121 ?_
          exact R_iret cd_78_122 (by first | rfl | omega) rfl
        · refine R_iload cd_78_42 rfl ?_
          refine R_if_ne 51 cd_78_44 rfl (fun b44 => ?_) (fun b44 => ?_)
          · refine R_push cd_78_51 ?_
            refine R_goto cd_78_52 ?_
            refine R_istore cd_78_66 ?_
            refine R_aload cd_78_68 rfl ?_
            refine R_iload cd_78_69 rfl ?_
            refine R_if_ne 78 cd_78_71 rfl (fun _ => ?_) (fun h => absurd h (by decide))
            refine R_iload cd_78_78 rfl ?_
            refine R_if_ne 87 cd_78_80 rfl (fun h => absurd h (by decide)) (fun _ => ?_)
            refine R_push cd_78_83 ?_
            refine R_goto cd_78_84 ?_
            refine R_call2 cd_78_115 rfl rfl K_Model_fails ?_
            refine R_ifeq_b 123 cd_78_118 rfl (fun h => absurd h (by decide)) (fun _ => ?_)
            refine R_push cd_78_121 ?_
            exact R_iret cd_78_122 (by first | rfl | omega) rfl
          · refine R_push cd_78_47 ?_
            refine R_goto cd_78_48 ?_
            refine R_istore cd_78_66 ?_
            refine R_aload cd_78_68 rfl ?_
            refine R_iload cd_78_69 rfl ?_
            refine R_if_ne 78 cd_78_71 rfl (fun _ => ?_) (fun h => absurd h (by decide))
            refine R_iload cd_78_78 rfl ?_
            refine R_if_ne 87 cd_78_80 rfl (fun _ => ?_) (fun h => absurd h (by decide))
            exfalso
            omega
theorem K_Model_keyX3 {b c f v a s : Int} {M : qa_Mem} (h1 : 0 ≤ M 6 0) (h2 : M 6 0 ≤ 8) (h3 : qm_cell M b c f ∧ 0 ≤ a ∧ a ≤ 5) (h4 : (c = 2 → (0 ≤ v ∧ v ≤ 3) ∧ s = 0) ∧ (c ≠ 2 → -200 ≤ v ∧ v ≤ 200)) (h6 : M 6 4 = 80) (h7 : M 32 (120 * (3 * b + c) + f) = 0) : qa_E 78 0 [(0, qr 6), (1, qi (b)), (2, qi (c)), (3, qi (f)), (4, qi (v)), (5, qi (a)), (6, qi (s))] [] (M) (.inl (some (qi (0)))) (qa_upd M 6 26 3) := by
  unfold qm_cell at h3
  refine R_aload cd_78_0 rfl ?_
  refine R_iload cd_78_1 rfl ?_
  refine R_iload cd_78_2 rfl ?_
  refine R_iload cd_78_3 rfl ?_
  refine R_call4 cd_78_4 rfl rfl (K_Model_isPlace (by omega) (by omega)) ?_
  refine R_ifeq_b 24 cd_78_7 rfl (fun b7 => ?_) (fun b7 => ?_)
  · refine R_push cd_78_24 ?_
    refine R_istore cd_78_25 ?_
    refine R_iload cd_78_27 rfl ?_
    refine R_push cd_78_28 ?_
    refine R_icmp_ne 55 cd_78_29 rfl (fun b29 => ?_) (fun b29 => ?_)
    · refine R_iload cd_78_55 rfl ?_
      refine R_push cd_78_57 ?_
      refine R_push cd_78_60 ?_
      refine R_call3 cd_78_63 rfl rfl K_Model_isIn ?_
      refine R_istore cd_78_66 ?_
      refine R_aload cd_78_68 rfl ?_
      refine R_iload cd_78_69 rfl ?_
      refine R_if_ne 78 cd_78_71 rfl (fun h => absurd h (by decide)) (fun _ => ?_)
      refine R_push cd_78_74 ?_
      refine R_goto cd_78_75 ?_
      exfalso
      omega
    · refine R_iload cd_78_32 rfl ?_
      refine R_push cd_78_34 ?_
      refine R_push cd_78_35 ?_
      refine R_call3 cd_78_36 rfl rfl K_Model_isIn ?_
      refine R_ifeq_b 51 cd_78_39 rfl (fun b39 => ?_) (fun b39 => ?_)
      · refine R_push cd_78_51 ?_
        refine R_goto cd_78_52 ?_
        refine R_istore cd_78_66 ?_
        refine R_aload cd_78_68 rfl ?_
        refine R_iload cd_78_69 rfl ?_
        refine R_if_ne 78 cd_78_71 rfl (fun h => absurd h (by decide)) (fun _ => ?_)
        refine R_push cd_78_74 ?_
        refine R_goto cd_78_75 ?_
        exfalso
        omega
      · refine R_iload cd_78_42 rfl ?_
        refine R_if_ne 51 cd_78_44 rfl (fun b44 => ?_) (fun b44 => ?_)
        · refine R_push cd_78_51 ?_
          refine R_goto cd_78_52 ?_
          refine R_istore cd_78_66 ?_
          refine R_aload cd_78_68 rfl ?_
          refine R_iload cd_78_69 rfl ?_
          refine R_if_ne 78 cd_78_71 rfl (fun h => absurd h (by decide)) (fun _ => ?_)
          refine R_push cd_78_74 ?_
          refine R_goto cd_78_75 ?_
          exfalso
          omega
        · refine R_push cd_78_47 ?_
          refine R_goto cd_78_48 ?_
          refine R_istore cd_78_66 ?_
          refine R_aload cd_78_68 rfl ?_
          refine R_iload cd_78_69 rfl ?_
          refine R_if_ne 78 cd_78_71 rfl (fun h => absurd h (by decide)) (fun _ => ?_)
          refine R_push cd_78_74 ?_
          refine R_goto cd_78_75 ?_
          exfalso
          omega
  · refine R_iload cd_78_10 rfl ?_
    refine R_push cd_78_12 ?_
    refine R_push cd_78_13 ?_
    refine R_call3 cd_78_14 rfl rfl K_Model_isIn ?_
    refine R_ifeq_b 24 cd_78_17 rfl (fun b17 => ?_) (fun b17 => ?_)
    · refine R_push cd_78_24 ?_
      refine R_istore cd_78_25 ?_
      refine R_iload cd_78_27 rfl ?_
      refine R_push cd_78_28 ?_
      refine R_icmp_ne 55 cd_78_29 rfl (fun b29 => ?_) (fun b29 => ?_)
      · refine R_iload cd_78_55 rfl ?_
        refine R_push cd_78_57 ?_
        refine R_push cd_78_60 ?_
        refine R_call3 cd_78_63 rfl rfl K_Model_isIn ?_
        refine R_istore cd_78_66 ?_
        refine R_aload cd_78_68 rfl ?_
        refine R_iload cd_78_69 rfl ?_
        refine R_if_ne 78 cd_78_71 rfl (fun h => absurd h (by decide)) (fun _ => ?_)
        refine R_push cd_78_74 ?_
        refine R_goto cd_78_75 ?_
        exfalso
        omega
      · refine R_iload cd_78_32 rfl ?_
        refine R_push cd_78_34 ?_
        refine R_push cd_78_35 ?_
        refine R_call3 cd_78_36 rfl rfl K_Model_isIn ?_
        refine R_ifeq_b 51 cd_78_39 rfl (fun b39 => ?_) (fun b39 => ?_)
        · refine R_push cd_78_51 ?_
          refine R_goto cd_78_52 ?_
          refine R_istore cd_78_66 ?_
          refine R_aload cd_78_68 rfl ?_
          refine R_iload cd_78_69 rfl ?_
          refine R_if_ne 78 cd_78_71 rfl (fun h => absurd h (by decide)) (fun _ => ?_)
          refine R_push cd_78_74 ?_
          refine R_goto cd_78_75 ?_
          exfalso
          omega
        · refine R_iload cd_78_42 rfl ?_
          refine R_if_ne 51 cd_78_44 rfl (fun b44 => ?_) (fun b44 => ?_)
          · refine R_push cd_78_51 ?_
            refine R_goto cd_78_52 ?_
            refine R_istore cd_78_66 ?_
            refine R_aload cd_78_68 rfl ?_
            refine R_iload cd_78_69 rfl ?_
            refine R_if_ne 78 cd_78_71 rfl (fun h => absurd h (by decide)) (fun _ => ?_)
            refine R_push cd_78_74 ?_
            refine R_goto cd_78_75 ?_
            exfalso
            omega
          · refine R_push cd_78_47 ?_
            refine R_goto cd_78_48 ?_
            refine R_istore cd_78_66 ?_
            refine R_aload cd_78_68 rfl ?_
            refine R_iload cd_78_69 rfl ?_
            refine R_if_ne 78 cd_78_71 rfl (fun h => absurd h (by decide)) (fun _ => ?_)
            refine R_push cd_78_74 ?_
            refine R_goto cd_78_75 ?_
            exfalso
            omega
    · refine R_push cd_78_20 ?_
      refine R_goto cd_78_21 ?_
      refine R_istore cd_78_25 ?_
      refine R_iload cd_78_27 rfl ?_
      refine R_push cd_78_28 ?_
      refine R_icmp_ne 55 cd_78_29 rfl (fun b29 => ?_) (fun b29 => ?_)
      · refine R_iload cd_78_55 rfl ?_
        refine R_push cd_78_57 ?_
        refine R_push cd_78_60 ?_
        refine R_call3 cd_78_63 rfl rfl K_Model_isIn ?_
        refine R_istore cd_78_66 ?_
        refine R_aload cd_78_68 rfl ?_
        refine R_iload cd_78_69 rfl ?_
        refine R_if_ne 78 cd_78_71 rfl (fun _ => ?_) (fun h => absurd h (by decide))
        refine R_iload cd_78_78 rfl ?_
        refine R_ifne_b 87 cd_78_80 rfl (fun b80 => ?_) (fun b80 => ?_)
        · refine R_aload cd_78_87 rfl ?_
          refine R_getf cd_78_88 rfl (by decide) ?_
          refine R_push cd_78_91 ?_
          refine R_icmp_ne 114 cd_78_93 rfl (fun b93 => ?_) (fun b93 => ?_)
          · refine R_push cd_78_114 ?_
            exfalso
            omega
          · refine R_aload cd_78_96 rfl ?_
            refine R_getr cd_78_97 rfl ?_
            refine R_iload cd_78_100 rfl ?_
            refine R_iload cd_78_101 rfl ?_
            refine R_iload cd_78_102 rfl ?_
            refine R_call3 cd_78_103 rfl rfl (K_Model_at (by omega) (by omega) (by omega) (by omega) (by omega) (by omega)) ?_
            refine R_zald cd_78_106 rfl (by first | omega | (simp [qa_upd, qa_blk] <;> omega)) (by first | omega | (simp [qa_upd, qa_blk] <;> omega)) ?_
            refine R_if_ne 114 cd_78_107 rfl (fun b107 => ?_) (fun b107 => ?_)
            · refine R_push cd_78_114 ?_
              exfalso
              omega
            · refine R_push cd_78_110 ?_
              refine R_goto cd_78_111 ?_
              refine R_call2 cd_78_115 rfl rfl K_Model_fails ?_
              refine R_ifeq_b 123 cd_78_118 rfl (fun h => absurd h (by decide)) (fun _ => ?_)
              refine R_push cd_78_121 ?_
              exact R_iret cd_78_122 (by first | rfl | omega) rfl
        · refine R_push cd_78_83 ?_
          refine R_goto cd_78_84 ?_
          exfalso
          omega
      · refine R_iload cd_78_32 rfl ?_
        refine R_push cd_78_34 ?_
        refine R_push cd_78_35 ?_
        refine R_call3 cd_78_36 rfl rfl K_Model_isIn ?_
        refine R_ifeq_b 51 cd_78_39 rfl (fun b39 => ?_) (fun b39 => ?_)
        · refine R_push cd_78_51 ?_
          refine R_goto cd_78_52 ?_
          refine R_istore cd_78_66 ?_
          refine R_aload cd_78_68 rfl ?_
          refine R_iload cd_78_69 rfl ?_
          refine R_if_ne 78 cd_78_71 rfl (fun _ => ?_) (fun h => absurd h (by decide))
          refine R_iload cd_78_78 rfl ?_
          refine R_if_ne 87 cd_78_80 rfl (fun h => absurd h (by decide)) (fun _ => ?_)
          refine R_push cd_78_83 ?_
          refine R_goto cd_78_84 ?_
          exfalso
          omega
        · refine R_iload cd_78_42 rfl ?_
          refine R_if_ne 51 cd_78_44 rfl (fun b44 => ?_) (fun b44 => ?_)
          · refine R_push cd_78_51 ?_
            refine R_goto cd_78_52 ?_
            refine R_istore cd_78_66 ?_
            refine R_aload cd_78_68 rfl ?_
            refine R_iload cd_78_69 rfl ?_
            refine R_if_ne 78 cd_78_71 rfl (fun _ => ?_) (fun h => absurd h (by decide))
            refine R_iload cd_78_78 rfl ?_
            refine R_if_ne 87 cd_78_80 rfl (fun h => absurd h (by decide)) (fun _ => ?_)
            refine R_push cd_78_83 ?_
            refine R_goto cd_78_84 ?_
            exfalso
            omega
          · refine R_push cd_78_47 ?_
            refine R_goto cd_78_48 ?_
            refine R_istore cd_78_66 ?_
            refine R_aload cd_78_68 rfl ?_
            refine R_iload cd_78_69 rfl ?_
            refine R_if_ne 78 cd_78_71 rfl (fun _ => ?_) (fun h => absurd h (by decide))
            refine R_iload cd_78_78 rfl ?_
            refine R_if_ne 87 cd_78_80 rfl (fun _ => ?_) (fun h => absurd h (by decide))
            refine R_aload cd_78_87 rfl ?_
            refine R_getf cd_78_88 rfl (by decide) ?_
            refine R_push cd_78_91 ?_
            refine R_icmp_ne 114 cd_78_93 rfl (fun b93 => ?_) (fun b93 => ?_)
            · refine R_push cd_78_114 ?_
              exfalso
              omega
            · refine R_aload cd_78_96 rfl ?_
              refine R_getr cd_78_97 rfl ?_
              refine R_iload cd_78_100 rfl ?_
              refine R_iload cd_78_101 rfl ?_
              refine R_iload cd_78_102 rfl ?_
              refine R_call3 cd_78_103 rfl rfl (K_Model_at (by omega) (by omega) (by omega) (by omega) (by omega) (by omega)) ?_
              refine R_zald cd_78_106 rfl (by first | omega | (simp [qa_upd, qa_blk] <;> omega)) (by first | omega | (simp [qa_upd, qa_blk] <;> omega)) ?_
              refine R_if_ne 114 cd_78_107 rfl (fun b107 => ?_) (fun b107 => ?_)
              · refine R_push cd_78_114 ?_
                exfalso
                omega
              · refine R_push cd_78_110 ?_
                refine R_goto cd_78_111 ?_
                refine R_call2 cd_78_115 rfl rfl K_Model_fails ?_
                refine R_ifeq_b 123 cd_78_118 rfl (fun h => absurd h (by decide)) (fun _ => ?_)
                refine R_push cd_78_121 ?_
                exact R_iret cd_78_122 (by first | rfl | omega) rfl
def qm_key (M : qa_Mem) (j v a s : Int) : qa_Mem := qa_upd (qa_upd (qa_upd (qa_upd (qa_upd (qa_upd M 6 26 0) 6 4 (M 6 4 + (if M 32 j = 0 then 1 else 0))) 32 j 1) 33 j v) 34 j a) 35 j s
theorem qv_v_upd {M : qa_Mem} {k : Nat} {j v : Int} (h : qv_v (M k)) (hv : -200 ≤ v ∧ v ≤ 200) : qv_v ((qa_upd M k j v) k) := by
  intro i h1 h2
  by_cases hi : i = j
  · subst hi; rw [qa_upd_e]; exact hv
  · rw [qa_upd_i hi]; exact h i h1 h2
theorem K_Model_key0 {b c f v a s : Int} {M : qa_Mem} (hw : qm_wf M) (h3 : qm_cell M b c f ∧ 0 ≤ a ∧ a ≤ 5) (h4 : (c = 2 → (0 ≤ v ∧ v ≤ 3) ∧ s = 0) ∧ (c ≠ 2 → -200 ≤ v ∧ v ≤ 200)) (h5 : 0 ≤ M 6 4) (h6 : M 6 4 ≤ 80) (h7 : M 6 4 < 80 ∨ M 32 (120 * (3 * b + c) + f) ≠ 0) (h8 : s = 0 ∨ s = 1) : qa_E 78 0 [(0, qr 6), (1, qi (b)), (2, qi (c)), (3, qi (f)), (4, qi (v)), (5, qi (a)), (6, qi (s))] [] (M) (.inl (some (qi (qm_vo (qm_key M (120 * (3 * b + c) + f) v a s) - qm_vo M)))) (qm_key M (120 * (3 * b + c) + f) v a s) := by
  unfold qm_cell at h3
  obtain ⟨j, hj⟩ : ∃ x, x = 120 * (3 * b + c) + f := ⟨_, rfl⟩
  have h1 := hw.1.1
  have h2 := hw.1.2
  have ka := K_Model_at (b := b) (c := c) (f := f) (M := qa_upd M 6 26 0) (by omega) (by omega) (by omega) (by omega) (by omega) (by omega)
  rw [← hj] at h7 ka ⊢
  have hw0 : qm_wf (qa_upd M 6 26 0) := ⟨hw.1, hw.2⟩
  have hv : -200 ≤ v ∧ v ≤ 200 := by omega
  have hw1 : qm_wf (qm_key M j v a s) := ⟨hw.1, qv_v_upd (M := qa_upd (qa_upd (qa_upd M 6 26 0) 6 4 (M 6 4 + (if M 32 j = 0 then 1 else 0))) 32 j 1) hw.2 hv⟩
  have q1 : 0 ≤ qm_vo (qm_key M j v a s) ∧ qm_vo (qm_key M j v a s) ≤ (120 : Nat) := qf_cnt_r _ 120
  have q2 : 0 ≤ qm_vo M ∧ qm_vo M ≤ (120 : Nat) := qf_cnt_r _ 120
  have e0 : qm_vo (qa_upd M 6 26 0) = qm_vo M := rfl
  have fin : ∀ x : Int, x = (if M 32 j = 0 then 1 else 0) → qa_E 78 157 [(0, qr 6), (1, qi b), (2, qi c), (3, qi f), (4, qi v), (5, qi a), (6, qi s), (9, qi (qm_vo M)), (10, qi j)] [qi x, qi (M 6 4), qr 6] (qa_upd M 6 26 0) (.inl (some (qi (qm_vo (qm_key M j v a s) - qm_vo M)))) (qm_key M j v a s) := by
    intro x hx
    have hx1 : 0 ≤ x ∧ x ≤ 1 := by rw [hx]; split <;> omega
    rw [hx]
    rw [hx] at hx1
    have kv := K_Model_allVoids (M := qm_key M j v a s) hw1
    refine R_iadd cd_78_157 (by unfold qa_InR; first | omega | (simp [qa_upd, qa_blk] <;> omega)) ?_
    refine R_putf cd_78_158 rfl (by decide) ?_
    refine R_aload cd_78_161 rfl ?_
    refine R_getr cd_78_162 rfl ?_
    refine R_iload cd_78_165 rfl ?_
    refine R_push cd_78_167 ?_
    refine R_zast cd_78_168 rfl (by first | omega | (simp [qa_upd, qa_blk] <;> omega)) (by first | omega | (simp [qa_upd, qa_blk] <;> omega)) (Or.inr rfl) ?_
    refine R_aload cd_78_169 rfl ?_
    refine R_getr cd_78_170 rfl ?_
    refine R_iload cd_78_173 rfl ?_
    refine R_iload cd_78_175 rfl ?_
    refine R_iast cd_78_177 rfl (by first | omega | (simp [qa_upd, qa_blk] <;> omega)) (by first | omega | (simp [qa_upd, qa_blk] <;> omega))  ?_
    refine R_aload cd_78_178 rfl ?_
    refine R_getr cd_78_179 rfl ?_
    refine R_iload cd_78_182 rfl ?_
    refine R_iload cd_78_184 rfl ?_
    refine R_iast cd_78_186 rfl (by first | omega | (simp [qa_upd, qa_blk] <;> omega)) (by first | omega | (simp [qa_upd, qa_blk] <;> omega))  ?_
    refine R_aload cd_78_187 rfl ?_
    refine R_getr cd_78_188 rfl ?_
    refine R_iload cd_78_191 rfl ?_
    refine R_iload cd_78_193 rfl ?_
    refine R_zast cd_78_195 rfl (by first | omega | (simp [qa_upd, qa_blk] <;> omega)) (by first | omega | (simp [qa_upd, qa_blk] <;> omega)) h8 ?_
    refine R_aload cd_78_196 rfl ?_
    refine R_call1 cd_78_197 rfl rfl kv ?_
    refine R_iload cd_78_200 rfl ?_
    refine R_isub cd_78_202 (by unfold qa_InR; omega) ?_
    exact R_iret cd_78_203 (by first | rfl | omega) rfl
  have fin2 : qa_E 78 123 [(0, qr 6), (1, qi b), (2, qi c), (3, qi f), (4, qi v), (5, qi a), (6, qi s)] [] (qa_upd M 6 26 0) (.inl (some (qi (qm_vo (qm_key M j v a s) - qm_vo M)))) (qm_key M j v a s) := by
    have kv0 := K_Model_allVoids (M := qa_upd M 6 26 0) hw0
    rw [e0] at kv0
    refine R_aload cd_78_123 rfl ?_
    refine R_call1 cd_78_124 rfl rfl kv0 ?_
    refine R_istore cd_78_127 ?_
    refine R_iload cd_78_129 rfl ?_
    refine R_iload cd_78_130 rfl ?_
    refine R_iload cd_78_131 rfl ?_
    refine R_call3 cd_78_132 rfl rfl ka ?_
    refine R_istore cd_78_135 ?_
    refine R_aload cd_78_137 rfl ?_
    refine R_dup cd_78_138 rfl ?_
    refine R_getf cd_78_139 rfl (by decide) ?_
    refine R_aload cd_78_142 rfl ?_
    refine R_getr cd_78_143 rfl ?_
    refine R_iload cd_78_146 rfl ?_
    refine R_zald cd_78_148 rfl (by first | omega | (simp [qa_upd, qa_blk] <;> omega)) (by first | omega | (simp [qa_upd, qa_blk] <;> omega)) ?_
    refine R_if_eq 156 cd_78_149 rfl (fun b149 => ?_) (fun b149 => ?_)
    · refine R_push cd_78_156 ?_
      first
        | exact R_norm (qs_c rfl (qs_c rfl (qs_c rfl (qs_c rfl (qs_c rfl (qs_c rfl (qs_c rfl (qs_c rfl (qs_c rfl qs_n))))))))) (fin 0 (by rw [if_neg (show ¬ M 32 j = 0 from b149)]))
        | exact R_norm (qs_c rfl (qs_c rfl (qs_c rfl (qs_c rfl (qs_c rfl (qs_c rfl (qs_c rfl (qs_c rfl (qs_c rfl qs_n))))))))) (fin 1 (by rw [if_pos (show M 32 j = 0 from b149)]))
    · refine R_push cd_78_152 ?_
      refine R_goto cd_78_153 ?_
      first
        | exact R_norm (qs_c rfl (qs_c rfl (qs_c rfl (qs_c rfl (qs_c rfl (qs_c rfl (qs_c rfl (qs_c rfl (qs_c rfl qs_n))))))))) (fin 0 (by rw [if_neg (show ¬ M 32 j = 0 from b149)]))
        | exact R_norm (qs_c rfl (qs_c rfl (qs_c rfl (qs_c rfl (qs_c rfl (qs_c rfl (qs_c rfl (qs_c rfl (qs_c rfl qs_n))))))))) (fin 1 (by rw [if_pos (show M 32 j = 0 from b149)]))
  have h7' : M 6 4 < 80 ∨ M 32 (120 * (3 * b + c) + f) ≠ 0 := by rw [← hj]; exact h7
  refine R_aload cd_78_0 rfl ?_
  refine R_iload cd_78_1 rfl ?_
  refine R_iload cd_78_2 rfl ?_
  refine R_iload cd_78_3 rfl ?_
  refine R_call4 cd_78_4 rfl rfl (K_Model_isPlace (by omega) (by omega)) ?_
  refine R_ifeq_b 24 cd_78_7 rfl (fun b7 => ?_) (fun b7 => ?_)
  · refine R_push cd_78_24 ?_
    refine R_istore cd_78_25 ?_
    refine R_iload cd_78_27 rfl ?_
    refine R_push cd_78_28 ?_
    refine R_icmp_ne 55 cd_78_29 rfl (fun b29 => ?_) (fun b29 => ?_)
    · refine R_iload cd_78_55 rfl ?_
      refine R_push cd_78_57 ?_
      refine R_push cd_78_60 ?_
      refine R_call3 cd_78_63 rfl rfl K_Model_isIn ?_
      refine R_istore cd_78_66 ?_
      refine R_aload cd_78_68 rfl ?_
      refine R_iload cd_78_69 rfl ?_
      refine R_if_ne 78 cd_78_71 rfl (fun h => absurd h (by decide)) (fun _ => ?_)
      refine R_push cd_78_74 ?_
      refine R_goto cd_78_75 ?_
      exfalso
      omega
    · refine R_iload cd_78_32 rfl ?_
      refine R_push cd_78_34 ?_
      refine R_push cd_78_35 ?_
      refine R_call3 cd_78_36 rfl rfl K_Model_isIn ?_
      refine R_ifeq_b 51 cd_78_39 rfl (fun b39 => ?_) (fun b39 => ?_)
      · refine R_push cd_78_51 ?_
        refine R_goto cd_78_52 ?_
        refine R_istore cd_78_66 ?_
        refine R_aload cd_78_68 rfl ?_
        refine R_iload cd_78_69 rfl ?_
        refine R_if_ne 78 cd_78_71 rfl (fun h => absurd h (by decide)) (fun _ => ?_)
        refine R_push cd_78_74 ?_
        refine R_goto cd_78_75 ?_
        exfalso
        omega
      · refine R_iload cd_78_42 rfl ?_
        refine R_if_ne 51 cd_78_44 rfl (fun b44 => ?_) (fun b44 => ?_)
        · refine R_push cd_78_51 ?_
          refine R_goto cd_78_52 ?_
          refine R_istore cd_78_66 ?_
          refine R_aload cd_78_68 rfl ?_
          refine R_iload cd_78_69 rfl ?_
          refine R_if_ne 78 cd_78_71 rfl (fun h => absurd h (by decide)) (fun _ => ?_)
          refine R_push cd_78_74 ?_
          refine R_goto cd_78_75 ?_
          exfalso
          omega
        · refine R_push cd_78_47 ?_
          refine R_goto cd_78_48 ?_
          refine R_istore cd_78_66 ?_
          refine R_aload cd_78_68 rfl ?_
          refine R_iload cd_78_69 rfl ?_
          refine R_if_ne 78 cd_78_71 rfl (fun h => absurd h (by decide)) (fun _ => ?_)
          refine R_push cd_78_74 ?_
          refine R_goto cd_78_75 ?_
          exfalso
          omega
  · refine R_iload cd_78_10 rfl ?_
    refine R_push cd_78_12 ?_
    refine R_push cd_78_13 ?_
    refine R_call3 cd_78_14 rfl rfl K_Model_isIn ?_
    refine R_ifeq_b 24 cd_78_17 rfl (fun b17 => ?_) (fun b17 => ?_)
    · refine R_push cd_78_24 ?_
      refine R_istore cd_78_25 ?_
      refine R_iload cd_78_27 rfl ?_
      refine R_push cd_78_28 ?_
      refine R_icmp_ne 55 cd_78_29 rfl (fun b29 => ?_) (fun b29 => ?_)
      · refine R_iload cd_78_55 rfl ?_
        refine R_push cd_78_57 ?_
        refine R_push cd_78_60 ?_
        refine R_call3 cd_78_63 rfl rfl K_Model_isIn ?_
        refine R_istore cd_78_66 ?_
        refine R_aload cd_78_68 rfl ?_
        refine R_iload cd_78_69 rfl ?_
        refine R_if_ne 78 cd_78_71 rfl (fun h => absurd h (by decide)) (fun _ => ?_)
        refine R_push cd_78_74 ?_
        refine R_goto cd_78_75 ?_
        exfalso
        omega
      · refine R_iload cd_78_32 rfl ?_
        refine R_push cd_78_34 ?_
        refine R_push cd_78_35 ?_
        refine R_call3 cd_78_36 rfl rfl K_Model_isIn ?_
        refine R_ifeq_b 51 cd_78_39 rfl (fun b39 => ?_) (fun b39 => ?_)
        · refine R_push cd_78_51 ?_
          refine R_goto cd_78_52 ?_
          refine R_istore cd_78_66 ?_
          refine R_aload cd_78_68 rfl ?_
          refine R_iload cd_78_69 rfl ?_
          refine R_if_ne 78 cd_78_71 rfl (fun h => absurd h (by decide)) (fun _ => ?_)
          refine R_push cd_78_74 ?_
          refine R_goto cd_78_75 ?_
          exfalso
          omega
        · refine R_iload cd_78_42 rfl ?_
          refine R_if_ne 51 cd_78_44 rfl (fun b44 => ?_) (fun b44 => ?_)
          · refine R_push cd_78_51 ?_
            refine R_goto cd_78_52 ?_
            refine R_istore cd_78_66 ?_
            refine R_aload cd_78_68 rfl ?_
            refine R_iload cd_78_69 rfl ?_
            refine R_if_ne 78 cd_78_71 rfl (fun h => absurd h (by decide)) (fun _ => ?_)
            refine R_push cd_78_74 ?_
            refine R_goto cd_78_75 ?_
            exfalso
            omega
          · refine R_push cd_78_47 ?_
            refine R_goto cd_78_48 ?_
            refine R_istore cd_78_66 ?_
            refine R_aload cd_78_68 rfl ?_
            refine R_iload cd_78_69 rfl ?_
            refine R_if_ne 78 cd_78_71 rfl (fun h => absurd h (by decide)) (fun _ => ?_)
            refine R_push cd_78_74 ?_
            refine R_goto cd_78_75 ?_
            exfalso
            omega
    · refine R_push cd_78_20 ?_
      refine R_goto cd_78_21 ?_
      refine R_istore cd_78_25 ?_
      refine R_iload cd_78_27 rfl ?_
      refine R_push cd_78_28 ?_
      refine R_icmp_ne 55 cd_78_29 rfl (fun b29 => ?_) (fun b29 => ?_)
      · refine R_iload cd_78_55 rfl ?_
        refine R_push cd_78_57 ?_
        refine R_push cd_78_60 ?_
        refine R_call3 cd_78_63 rfl rfl K_Model_isIn ?_
        refine R_istore cd_78_66 ?_
        refine R_aload cd_78_68 rfl ?_
        refine R_iload cd_78_69 rfl ?_
        refine R_if_ne 78 cd_78_71 rfl (fun _ => ?_) (fun h => absurd h (by decide))
        refine R_iload cd_78_78 rfl ?_
        refine R_ifne_b 87 cd_78_80 rfl (fun b80 => ?_) (fun b80 => ?_)
        · refine R_aload cd_78_87 rfl ?_
          refine R_getf cd_78_88 rfl (by decide) ?_
          refine R_push cd_78_91 ?_
          refine R_icmp_ne 114 cd_78_93 rfl (fun b93 => ?_) (fun b93 => ?_)
          · refine R_push cd_78_114 ?_
            refine R_call2 cd_78_115 rfl rfl K_Model_fails ?_
            refine R_ifeq_b 123 cd_78_118 rfl (fun _ => ?_) (fun h => absurd h (by decide))
            exact R_norm (qs_c rfl (qs_c rfl (qs_c rfl (qs_c rfl (qs_c rfl (qs_c rfl (qs_c rfl qs_n))))))) fin2
          · refine R_aload cd_78_96 rfl ?_
            refine R_getr cd_78_97 rfl ?_
            refine R_iload cd_78_100 rfl ?_
            refine R_iload cd_78_101 rfl ?_
            refine R_iload cd_78_102 rfl ?_
            refine R_call3 cd_78_103 rfl rfl (K_Model_at (by omega) (by omega) (by omega) (by omega) (by omega) (by omega)) ?_
            refine R_zald cd_78_106 rfl (by first | omega | (simp [qa_upd, qa_blk] <;> omega)) (by first | omega | (simp [qa_upd, qa_blk] <;> omega)) ?_
            refine R_if_ne 114 cd_78_107 rfl (fun b107 => ?_) (fun b107 => ?_)
            · refine R_push cd_78_114 ?_
              refine R_call2 cd_78_115 rfl rfl K_Model_fails ?_
              refine R_ifeq_b 123 cd_78_118 rfl (fun _ => ?_) (fun h => absurd h (by decide))
              exact R_norm (qs_c rfl (qs_c rfl (qs_c rfl (qs_c rfl (qs_c rfl (qs_c rfl (qs_c rfl qs_n))))))) fin2
            · refine R_push cd_78_110 ?_
              refine R_goto cd_78_111 ?_
              exfalso
              omega
        · refine R_push cd_78_83 ?_
          refine R_goto cd_78_84 ?_
          exfalso
          omega
      · refine R_iload cd_78_32 rfl ?_
        refine R_push cd_78_34 ?_
        refine R_push cd_78_35 ?_
        refine R_call3 cd_78_36 rfl rfl K_Model_isIn ?_
        refine R_ifeq_b 51 cd_78_39 rfl (fun b39 => ?_) (fun b39 => ?_)
        · refine R_push cd_78_51 ?_
          refine R_goto cd_78_52 ?_
          refine R_istore cd_78_66 ?_
          refine R_aload cd_78_68 rfl ?_
          refine R_iload cd_78_69 rfl ?_
          refine R_if_ne 78 cd_78_71 rfl (fun _ => ?_) (fun h => absurd h (by decide))
          refine R_iload cd_78_78 rfl ?_
          refine R_if_ne 87 cd_78_80 rfl (fun h => absurd h (by decide)) (fun _ => ?_)
          refine R_push cd_78_83 ?_
          refine R_goto cd_78_84 ?_
          exfalso
          omega
        · refine R_iload cd_78_42 rfl ?_
          refine R_if_ne 51 cd_78_44 rfl (fun b44 => ?_) (fun b44 => ?_)
          · refine R_push cd_78_51 ?_
            refine R_goto cd_78_52 ?_
            refine R_istore cd_78_66 ?_
            refine R_aload cd_78_68 rfl ?_
            refine R_iload cd_78_69 rfl ?_
            refine R_if_ne 78 cd_78_71 rfl (fun _ => ?_) (fun h => absurd h (by decide))
            refine R_iload cd_78_78 rfl ?_
            refine R_if_ne 87 cd_78_80 rfl (fun h => absurd h (by decide)) (fun _ => ?_)
            refine R_push cd_78_83 ?_
            refine R_goto cd_78_84 ?_
            exfalso
            omega
          · refine R_push cd_78_47 ?_
            refine R_goto cd_78_48 ?_
            refine R_istore cd_78_66 ?_
            refine R_aload cd_78_68 rfl ?_
            refine R_iload cd_78_69 rfl ?_
            refine R_if_ne 78 cd_78_71 rfl (fun _ => ?_) (fun h => absurd h (by decide))
            refine R_iload cd_78_78 rfl ?_
            refine R_if_ne 87 cd_78_80 rfl (fun _ => ?_) (fun h => absurd h (by decide))
            refine R_aload cd_78_87 rfl ?_
            refine R_getf cd_78_88 rfl (by decide) ?_
            refine R_push cd_78_91 ?_
            refine R_icmp_ne 114 cd_78_93 rfl (fun b93 => ?_) (fun b93 => ?_)
            · refine R_push cd_78_114 ?_
              refine R_call2 cd_78_115 rfl rfl K_Model_fails ?_
              refine R_ifeq_b 123 cd_78_118 rfl (fun _ => ?_) (fun h => absurd h (by decide))
              exact R_norm (qs_c rfl (qs_c rfl (qs_c rfl (qs_c rfl (qs_c rfl (qs_c rfl (qs_c rfl qs_n))))))) fin2
            · refine R_aload cd_78_96 rfl ?_
              refine R_getr cd_78_97 rfl ?_
              refine R_iload cd_78_100 rfl ?_
              refine R_iload cd_78_101 rfl ?_
              refine R_iload cd_78_102 rfl ?_
              refine R_call3 cd_78_103 rfl rfl (K_Model_at (by omega) (by omega) (by omega) (by omega) (by omega) (by omega)) ?_
              refine R_zald cd_78_106 rfl (by first | omega | (simp [qa_upd, qa_blk] <;> omega)) (by first | omega | (simp [qa_upd, qa_blk] <;> omega)) ?_
              refine R_if_ne 114 cd_78_107 rfl (fun b107 => ?_) (fun b107 => ?_)
              · refine R_push cd_78_114 ?_
                refine R_call2 cd_78_115 rfl rfl K_Model_fails ?_
                refine R_ifeq_b 123 cd_78_118 rfl (fun _ => ?_) (fun h => absurd h (by decide))
                exact R_norm (qs_c rfl (qs_c rfl (qs_c rfl (qs_c rfl (qs_c rfl (qs_c rfl (qs_c rfl qs_n))))))) fin2
              · refine R_push cd_78_110 ?_
                refine R_goto cd_78_111 ?_
                exfalso
                omega
theorem K_Model_unkeyX1 {b c f : Int} {M : qa_Mem} (h1 : 0 ≤ M 6 0) (h2 : M 6 0 ≤ 8) (h3 : ¬ (qm_cell M b c f ∧ M 32 (120 * (3 * b + c) + f) ≠ 0)) : qa_E 79 0 [(0, qr 6), (1, qi (b)), (2, qi (c)), (3, qi (f))] [] (M) (.inl (some (qi (0)))) (qa_upd M 6 26 1) := by
  unfold qm_cell at h3
  refine R_aload cd_79_0 rfl ?_
  refine R_iload cd_79_1 rfl ?_
  refine R_iload cd_79_2 rfl ?_
  refine R_iload cd_79_3 rfl ?_
  refine R_call4 cd_79_4 rfl rfl (K_Model_isPlace (by omega) (by omega)) ?_
  refine R_ifeq_b 28 cd_79_7 rfl (fun b7 => ?_) (fun b7 => ?_)
  · refine R_push cd_79_28 ?_
    refine R_istore cd_79_29 ?_
    refine R_aload cd_79_31 rfl ?_
    refine R_iload cd_79_32 rfl ?_
    refine R_if_eq 41 cd_79_34 rfl (fun _ => ?_) (fun h => absurd h (by decide))
    refine R_push cd_79_41 ?_
    refine R_call2 cd_79_42 rfl rfl K_Model_fails ?_
    refine R_ifeq_b 50 cd_79_45 rfl (fun h => absurd h (by decide)) (fun _ => ?_)
    refine R_push cd_79_48 ?_
    exact R_iret cd_79_49 (by first | rfl | omega) rfl
  · refine R_aload cd_79_10 rfl ?_
    refine R_getr cd_79_11 rfl ?_
    refine R_iload cd_79_14 rfl ?_
    refine R_iload cd_79_15 rfl ?_
    refine R_iload cd_79_16 rfl ?_
    refine R_call3 cd_79_17 rfl rfl (K_Model_at (by omega) (by omega) (by omega) (by omega) (by omega) (by omega)) ?_
    refine R_zald cd_79_20 rfl (by first | omega | (simp [qa_upd, qa_blk] <;> omega)) (by first | omega | (simp [qa_upd, qa_blk] <;> omega)) ?_
    refine R_if_eq 28 cd_79_21 rfl (fun b21 => ?_) (fun b21 => ?_)
    · refine R_push cd_79_28 ?_
      refine R_istore cd_79_29 ?_
      refine R_aload cd_79_31 rfl ?_
      refine R_iload cd_79_32 rfl ?_
      refine R_if_eq 41 cd_79_34 rfl (fun _ => ?_) (fun h => absurd h (by decide))
      refine R_push cd_79_41 ?_
      refine R_call2 cd_79_42 rfl rfl K_Model_fails ?_
      refine R_ifeq_b 50 cd_79_45 rfl (fun h => absurd h (by decide)) (fun _ => ?_)
      refine R_push cd_79_48 ?_
      exact R_iret cd_79_49 (by first | rfl | omega) rfl
    · refine R_push cd_79_24 ?_
      refine R_goto cd_79_25 ?_
      refine R_istore cd_79_29 ?_
      refine R_aload cd_79_31 rfl ?_
      refine R_iload cd_79_32 rfl ?_
      refine R_if_eq 41 cd_79_34 rfl (fun h => absurd h (by decide)) (fun _ => ?_)
      refine R_push cd_79_37 ?_
      refine R_goto cd_79_38 ?_
      exfalso
      omega
def qm_unkey (M : qa_Mem) (j : Int) : qa_Mem := qa_upd (qa_upd (qa_upd M 6 26 0) 32 j 0) 6 4 (M 6 4 - 1)
theorem K_Model_unkey0 {b c f : Int} {M : qa_Mem} (hw : qm_wf M) (h3 : qm_cell M b c f) (h4 : M 32 (120 * (3 * b + c) + f) ≠ 0) (h5 : 0 ≤ M 6 4) (h6 : M 6 4 ≤ 80) : qa_E 79 0 [(0, qr 6), (1, qi (b)), (2, qi (c)), (3, qi (f))] [] (M) (.inl (some (qi (qm_vo (qm_unkey M (120 * (3 * b + c) + f)) - qm_vo M)))) (qm_unkey M (120 * (3 * b + c) + f)) := by
  unfold qm_cell at h3
  have h1 := hw.1.1
  have h2 := hw.1.2
  obtain ⟨j, hj⟩ : ∃ x, x = 120 * (3 * b + c) + f := ⟨_, rfl⟩
  have ka := K_Model_at (b := b) (c := c) (f := f) (M := qa_upd M 6 26 0) (by omega) (by omega) (by omega) (by omega) (by omega) (by omega)
  rw [← hj] at ka ⊢
  have hw0 : qm_wf (qa_upd M 6 26 0) := ⟨hw.1, hw.2⟩
  have hw1 : qm_wf (qm_unkey M j) := ⟨hw.1, hw.2⟩
  have q1 : 0 ≤ qm_vo (qm_unkey M j) ∧ qm_vo (qm_unkey M j) ≤ (120 : Nat) := qf_cnt_r _ 120
  have q2 : 0 ≤ qm_vo M ∧ qm_vo M ≤ (120 : Nat) := qf_cnt_r _ 120
  have e0 : qm_vo (qa_upd M 6 26 0) = qm_vo M := rfl
  have kv0 := K_Model_allVoids (M := qa_upd M 6 26 0) hw0
  have kv1 := K_Model_allVoids (M := qm_unkey M j) hw1
  rw [e0] at kv0
  have fin : qa_E 79 50 [(0, qr 6), (1, qi b), (2, qi c), (3, qi f)] [] (qa_upd M 6 26 0) (.inl (some (qi (qm_vo (qm_unkey M j) - qm_vo M)))) (qm_unkey M j) := by
    refine R_aload cd_79_50 rfl ?_
    refine R_call1 cd_79_51 rfl rfl kv0 ?_
    refine R_istore cd_79_54 ?_
    refine R_aload cd_79_56 rfl ?_
    refine R_getr cd_79_57 rfl ?_
    refine R_iload cd_79_60 rfl ?_
    refine R_iload cd_79_61 rfl ?_
    refine R_iload cd_79_62 rfl ?_
    refine R_call3 cd_79_63 rfl rfl ka ?_
    refine R_push cd_79_66 ?_
    refine R_zast cd_79_67 rfl (by first | omega | (simp [qa_upd, qa_blk] <;> omega)) (by first | omega | (simp [qa_upd, qa_blk] <;> omega)) (Or.inl rfl) ?_
    refine R_aload cd_79_68 rfl ?_
    refine R_dup cd_79_69 rfl ?_
    refine R_getf cd_79_70 rfl (by decide) ?_
    refine R_push cd_79_73 ?_
    refine R_isub cd_79_74 (by unfold qa_InR; first | omega | (simp [qa_upd, qa_blk] <;> omega)) ?_
    refine R_putf cd_79_75 rfl (by decide) ?_
    refine R_aload cd_79_78 rfl ?_
    refine R_call1 cd_79_79 rfl rfl kv1 ?_
    refine R_iload cd_79_82 rfl ?_
    refine R_isub cd_79_84 (by unfold qa_InR; omega) ?_
    exact R_iret cd_79_85 (by first | rfl | omega) rfl
  refine R_aload cd_79_0 rfl ?_
  refine R_iload cd_79_1 rfl ?_
  refine R_iload cd_79_2 rfl ?_
  refine R_iload cd_79_3 rfl ?_
  refine R_call4 cd_79_4 rfl rfl (K_Model_isPlace (by omega) (by omega)) ?_
  refine R_ifeq_b 28 cd_79_7 rfl (fun b7 => ?_) (fun b7 => ?_)
  · refine R_push cd_79_28 ?_
    refine R_istore cd_79_29 ?_
    refine R_aload cd_79_31 rfl ?_
    refine R_iload cd_79_32 rfl ?_
    refine R_if_eq 41 cd_79_34 rfl (fun _ => ?_) (fun h => absurd h (by decide))
    refine R_push cd_79_41 ?_
    exfalso
    omega
  · refine R_aload cd_79_10 rfl ?_
    refine R_getr cd_79_11 rfl ?_
    refine R_iload cd_79_14 rfl ?_
    refine R_iload cd_79_15 rfl ?_
    refine R_iload cd_79_16 rfl ?_
    refine R_call3 cd_79_17 rfl rfl (K_Model_at (by omega) (by omega) (by omega) (by omega) (by omega) (by omega)) ?_
    refine R_zald cd_79_20 rfl (by first | omega | (simp [qa_upd, qa_blk] <;> omega)) (by first | omega | (simp [qa_upd, qa_blk] <;> omega)) ?_
    refine R_if_eq 28 cd_79_21 rfl (fun b21 => ?_) (fun b21 => ?_)
    · refine R_push cd_79_28 ?_
      refine R_istore cd_79_29 ?_
      refine R_aload cd_79_31 rfl ?_
      refine R_iload cd_79_32 rfl ?_
      refine R_if_eq 41 cd_79_34 rfl (fun _ => ?_) (fun h => absurd h (by decide))
      refine R_push cd_79_41 ?_
      exfalso
      omega
    · refine R_push cd_79_24 ?_
      refine R_goto cd_79_25 ?_
      refine R_istore cd_79_29 ?_
      refine R_aload cd_79_31 rfl ?_
      refine R_iload cd_79_32 rfl ?_
      refine R_if_eq 41 cd_79_34 rfl (fun h => absurd h (by decide)) (fun _ => ?_)
      refine R_push cd_79_37 ?_
      refine R_goto cd_79_38 ?_
      refine R_call2 cd_79_42 rfl rfl K_Model_fails ?_
      refine R_ifeq_b 50 cd_79_45 rfl (fun _ => ?_) (fun h => absurd h (by decide))
      exact R_norm (qs_c rfl (qs_c rfl (qs_c rfl (qs_c rfl qs_n)))) fin
theorem K_Model_valueX1 {b c f : Int} {M : qa_Mem} (h1 : 0 ≤ M 6 0) (h2 : M 6 0 ≤ 8) (h3 : ¬ qm_cell M b c f) : qa_E 80 0 [(0, qr 6), (1, qi (b)), (2, qi (c)), (3, qi (f))] [] (M) (.inl (some (qi (0)))) (qa_upd M 6 26 1) := by
  unfold qm_cell at h3
  refine R_aload cd_80_0 rfl ?_
  refine R_aload cd_80_1 rfl ?_
  refine R_iload cd_80_2 rfl ?_
  refine R_iload cd_80_3 rfl ?_
  refine R_iload cd_80_4 rfl ?_
  refine R_call4 cd_80_5 rfl rfl (K_Model_isPlace (by omega) (by omega)) ?_
  refine R_ifeq_b 15 cd_80_8 rfl (fun b8 => ?_) (fun b8 => ?_)
  · refine R_push cd_80_15 ?_
    refine R_call2 cd_80_16 rfl rfl K_Model_fails ?_
    refine R_ifeq_b 26 cd_80_19 rfl (fun h => absurd h (by decide)) (fun _ => ?_)
    refine R_push cd_80_22 ?_
    refine R_goto cd_80_23 ?_
    exact R_iret cd_80_33 (by first | rfl | omega) rfl
  · refine R_push cd_80_11 ?_
    refine R_goto cd_80_12 ?_
    exfalso
    omega
theorem K_Model_value0 {b c f : Int} {M : qa_Mem} (hw : qm_wf M) (h3 : qm_cell M b c f) : qa_E 80 0 [(0, qr 6), (1, qi (b)), (2, qi (c)), (3, qi (f))] [] (M) (.inl (some (qi (qm_v (M 32) (M 33) (M 35) (3 * b + c) f)))) (qa_upd M 6 26 0) := by
  have h1 := hw.1.1
  have h2 := hw.1.2
  unfold qm_cell at h3
  refine R_aload cd_80_0 rfl ?_
  refine R_aload cd_80_1 rfl ?_
  refine R_iload cd_80_2 rfl ?_
  refine R_iload cd_80_3 rfl ?_
  refine R_iload cd_80_4 rfl ?_
  refine R_call4 cd_80_5 rfl rfl (K_Model_isPlace (by omega) (by omega)) ?_
  refine R_ifeq_b 15 cd_80_8 rfl (fun b8 => ?_) (fun b8 => ?_)
  · refine R_push cd_80_15 ?_
    exfalso
    omega
  · refine R_push cd_80_11 ?_
    refine R_goto cd_80_12 ?_
    refine R_call2 cd_80_16 rfl rfl K_Model_fails ?_
    refine R_ifeq_b 26 cd_80_19 rfl (fun _ => ?_) (fun h => absurd h (by decide))
    refine R_aload cd_80_26 rfl ?_
    refine R_iload cd_80_27 rfl ?_
    refine R_iload cd_80_28 rfl ?_
    refine R_iload cd_80_29 rfl ?_
    refine R_call4 cd_80_30 rfl rfl (K_Model_valueAt (t := 3 * b + c) (by omega) (by omega) (by omega) (by omega) rfl (by omega) (by omega) hw.2) ?_
    exact R_iret cd_80_33 (by first | rfl | omega) rfl
theorem K_Model_spanX1 {b c f : Int} {M : qa_Mem} (h1 : 0 ≤ M 6 0) (h2 : M 6 0 ≤ 8) (h3 : ¬ (qm_cell M b c f ∧ M 32 (120 * (3 * b + c) + f) ≠ 0)) : qa_E 81 0 [(0, qr 6), (1, qi (b)), (2, qi (c)), (3, qi (f))] [] (M) (.inl (some (qi (0)))) (qa_upd M 6 26 1) := by
  unfold qm_cell at h3
  refine R_aload cd_81_0 rfl ?_
  refine R_iload cd_81_1 rfl ?_
  refine R_iload cd_81_2 rfl ?_
  refine R_iload cd_81_3 rfl ?_
  refine R_call4 cd_81_4 rfl rfl (K_Model_isPlace (by omega) (by omega)) ?_
  refine R_ifeq_b 28 cd_81_7 rfl (fun b7 => ?_) (fun b7 => ?_)
  · refine R_push cd_81_28 ?_
    refine R_istore cd_81_29 ?_
    refine R_aload cd_81_31 rfl ?_
    refine R_iload cd_81_32 rfl ?_
    refine R_if_eq 41 cd_81_34 rfl (fun _ => ?_) (fun h => absurd h (by decide))
    refine R_push cd_81_41 ?_
    refine R_call2 cd_81_42 rfl rfl K_Model_fails ?_
    refine R_ifeq_b 50 cd_81_45 rfl (fun h => absurd h (by decide)) (fun _ => ?_)
    refine R_push cd_81_48 ?_
    exact R_iret cd_81_49 (by first | rfl | omega) rfl
  · refine R_aload cd_81_10 rfl ?_
    refine R_getr cd_81_11 rfl ?_
    refine R_iload cd_81_14 rfl ?_
    refine R_iload cd_81_15 rfl ?_
    refine R_iload cd_81_16 rfl ?_
    refine R_call3 cd_81_17 rfl rfl (K_Model_at (by omega) (by omega) (by omega) (by omega) (by omega) (by omega)) ?_
    refine R_zald cd_81_20 rfl (by first | omega | (simp [qa_upd, qa_blk] <;> omega)) (by first | omega | (simp [qa_upd, qa_blk] <;> omega)) ?_
    refine R_if_eq 28 cd_81_21 rfl (fun b21 => ?_) (fun b21 => ?_)
    · refine R_push cd_81_28 ?_
      refine R_istore cd_81_29 ?_
      refine R_aload cd_81_31 rfl ?_
      refine R_iload cd_81_32 rfl ?_
      refine R_if_eq 41 cd_81_34 rfl (fun _ => ?_) (fun h => absurd h (by decide))
      refine R_push cd_81_41 ?_
      refine R_call2 cd_81_42 rfl rfl K_Model_fails ?_
      refine R_ifeq_b 50 cd_81_45 rfl (fun h => absurd h (by decide)) (fun _ => ?_)
      refine R_push cd_81_48 ?_
      exact R_iret cd_81_49 (by first | rfl | omega) rfl
    · refine R_push cd_81_24 ?_
      refine R_goto cd_81_25 ?_
      refine R_istore cd_81_29 ?_
      refine R_aload cd_81_31 rfl ?_
      refine R_iload cd_81_32 rfl ?_
      refine R_if_eq 41 cd_81_34 rfl (fun h => absurd h (by decide)) (fun _ => ?_)
      refine R_push cd_81_37 ?_
      refine R_goto cd_81_38 ?_
      exfalso
      omega
theorem K_Model_span0 {b c f : Int} {M : qa_Mem} (hw : qm_wf M) (h3 : qm_cell M b c f) (h4 : M 32 (120 * (3 * b + c) + f) ≠ 0) : qa_E 81 0 [(0, qr 6), (1, qi (b)), (2, qi (c)), (3, qi (f))] [] (M) (.inl (some (qi (1000 * (if qm_bf (M 32) (3 * b + c) f.toNat = -1 then 0 else if M 35 (120 * (3 * b + c) + qm_bf (M 32) (3 * b + c) f.toNat) ≠ 0 then qm_bf (M 32) (3 * b + c) f.toNat + 1 else f) + qm_bh (M 32) (3 * b + c) (119 - f).toNat - 1)))) (qa_upd M 6 26 0) := by
  have h1 := hw.1.1
  have h2 := hw.1.2
  unfold qm_cell at h3
  have rf := qm_bf_r (M 32) (3 * b + c) f.toNat
  have rh := qm_bh_r (M 32) (3 * b + c) (119 - f).toNat (by omega)
  have k1 := K_Model_before (f := f - 1) (t := 3 * b + c) (M := qa_upd M 6 26 0) (by omega) (by omega : b < 8) (by omega) (by omega) rfl (by omega) (by omega)
  rw [show (f - 1 + 1).toNat = f.toNat by rw [show f - 1 + 1 = f by omega], show (qa_upd M 6 26 0) 32 = M 32 from rfl] at k1
  have k2 := K_Model_behind (f := f) (t := 3 * b + c) (M := qa_upd M 6 26 0) (by omega) (by omega : b < 8) (by omega) (by omega) rfl (by omega) (by omega)
  rw [show (qa_upd M 6 26 0) 32 = M 32 from rfl] at k2
  generalize qm_bf (M 32) (3 * b + c) f.toNat = p at *
  generalize qm_bh (M 32) (3 * b + c) (119 - f).toNat = q at *
  have fin : qa_E 81 50 [(0, qr 6), (1, qi b), (2, qi c), (3, qi f)] [] (qa_upd M 6 26 0) (.inl (some (qi (1000 * (if p = -1 then 0 else if M 35 (120 * (3 * b + c) + p) ≠ 0 then p + 1 else f) + q - 1)))) (qa_upd M 6 26 0) := by
    have tail : ∀ x : Int, 0 ≤ x → x ≤ 120 → x = (if p = -1 then 0 else if M 35 (120 * (3 * b + c) + p) ≠ 0 then p + 1 else f) → qa_E 81 94 [(0, qr 6), (1, qi b), (2, qi c), (3, qi f), (5, qi p)] [qi x] (qa_upd M 6 26 0) (.inl (some (qi (1000 * (if p = -1 then 0 else if M 35 (120 * (3 * b + c) + p) ≠ 0 then p + 1 else f) + q - 1)))) (qa_upd M 6 26 0) := by
      intro x x1 x2 hx
      rw [← hx]
      refine R_istore cd_81_94 ?_
      refine R_push cd_81_96 ?_
      refine R_iload cd_81_99 rfl ?_
      refine R_imul cd_81_101 (by unfold qa_InR; first | omega | (simp [qa_upd, qa_blk] <;> omega)) ?_
      refine R_aload cd_81_102 rfl ?_
      refine R_iload cd_81_103 rfl ?_
      refine R_iload cd_81_104 rfl ?_
      refine R_iload cd_81_105 rfl ?_
      refine R_call4 cd_81_106 rfl rfl k2 ?_
      refine R_iadd cd_81_109 (by unfold qa_InR; first | omega | (simp [qa_upd, qa_blk] <;> omega)) ?_
      refine R_push cd_81_110 ?_
      refine R_isub cd_81_111 (by unfold qa_InR; first | omega | (simp [qa_upd, qa_blk] <;> omega)) ?_
      exact R_iret cd_81_112 (by first | rfl | omega) rfl
    refine R_aload cd_81_50 rfl ?_
    refine R_iload cd_81_51 rfl ?_
    refine R_iload cd_81_52 rfl ?_
    refine R_iload cd_81_53 rfl ?_
    refine R_push cd_81_54 ?_
    refine R_isub cd_81_55 (by unfold qa_InR; first | omega | (simp [qa_upd, qa_blk] <;> omega)) ?_
    refine R_call4 cd_81_56 rfl rfl k1 ?_
    refine R_istore cd_81_59 ?_
    refine R_iload cd_81_61 rfl ?_
    refine R_push cd_81_63 ?_
    refine R_icmp_ne 71 cd_81_64 rfl (fun b64 => ?_) (fun b64 => ?_)
    · refine R_aload cd_81_71 rfl ?_
      refine R_getr cd_81_72 rfl ?_
      refine R_iload cd_81_75 rfl ?_
      refine R_iload cd_81_76 rfl ?_
      refine R_iload cd_81_77 rfl ?_
      refine R_call3 cd_81_79 rfl rfl (K_Model_at (by omega) (by omega) (by omega) (by omega) (by omega) (by omega)) ?_
      refine R_zald cd_81_82 rfl (by first | omega | (simp [qa_upd, qa_blk] <;> omega)) (by first | omega | (simp [qa_upd, qa_blk] <;> omega)) ?_
      refine R_if_eq 93 cd_81_83 rfl (fun b83 => ?_) (fun b83 => ?_)
      · refine R_iload cd_81_93 rfl ?_
        first
          | exact R_norm (qs_c rfl (qs_c rfl (qs_c rfl (qs_c rfl (qs_c rfl qs_n))))) (tail 0 (by omega) (by omega) (by rw [if_pos b64]))
          | exact R_norm (qs_c rfl (qs_c rfl (qs_c rfl (qs_c rfl (qs_c rfl qs_n))))) (tail (p + 1) (by omega) (by omega) (by rw [if_neg b64, if_pos (show M 35 (120 * (3 * b + c) + p) ≠ 0 from b83)]))
          | exact R_norm (qs_c rfl (qs_c rfl (qs_c rfl (qs_c rfl (qs_c rfl qs_n))))) (tail f (by omega) (by omega) (by rw [if_neg b64, if_neg (fun z => z b83)]))
      · refine R_iload cd_81_86 rfl ?_
        refine R_push cd_81_88 ?_
        refine R_iadd cd_81_89 (by unfold qa_InR; first | omega | (simp [qa_upd, qa_blk] <;> omega)) ?_
        refine R_goto cd_81_90 ?_
        first
          | exact R_norm (qs_c rfl (qs_c rfl (qs_c rfl (qs_c rfl (qs_c rfl qs_n))))) (tail 0 (by omega) (by omega) (by rw [if_pos b64]))
          | exact R_norm (qs_c rfl (qs_c rfl (qs_c rfl (qs_c rfl (qs_c rfl qs_n))))) (tail (p + 1) (by omega) (by omega) (by rw [if_neg b64, if_pos (show M 35 (120 * (3 * b + c) + p) ≠ 0 from b83)]))
          | exact R_norm (qs_c rfl (qs_c rfl (qs_c rfl (qs_c rfl (qs_c rfl qs_n))))) (tail f (by omega) (by omega) (by rw [if_neg b64, if_neg (fun z => z b83)]))
    · refine R_push cd_81_67 ?_
      refine R_goto cd_81_68 ?_
      first
        | exact R_norm (qs_c rfl (qs_c rfl (qs_c rfl (qs_c rfl (qs_c rfl qs_n))))) (tail 0 (by omega) (by omega) (by rw [if_pos b64]))
        | exact R_norm (qs_c rfl (qs_c rfl (qs_c rfl (qs_c rfl (qs_c rfl qs_n))))) (tail (p + 1) (by omega) (by omega) (by rw [if_neg b64, if_pos (show M 35 (120 * (3 * b + c) + p) ≠ 0 from b83)]))
        | exact R_norm (qs_c rfl (qs_c rfl (qs_c rfl (qs_c rfl (qs_c rfl qs_n))))) (tail f (by omega) (by omega) (by rw [if_neg b64, if_neg (fun z => z b83)]))
  refine R_aload cd_81_0 rfl ?_
  refine R_iload cd_81_1 rfl ?_
  refine R_iload cd_81_2 rfl ?_
  refine R_iload cd_81_3 rfl ?_
  refine R_call4 cd_81_4 rfl rfl (K_Model_isPlace (by omega) (by omega)) ?_
  refine R_ifeq_b 28 cd_81_7 rfl (fun b7 => ?_) (fun b7 => ?_)
  · refine R_push cd_81_28 ?_
    refine R_istore cd_81_29 ?_
    refine R_aload cd_81_31 rfl ?_
    refine R_iload cd_81_32 rfl ?_
    refine R_if_eq 41 cd_81_34 rfl (fun _ => ?_) (fun h => absurd h (by decide))
    refine R_push cd_81_41 ?_
    exfalso
    omega
  · refine R_aload cd_81_10 rfl ?_
    refine R_getr cd_81_11 rfl ?_
    refine R_iload cd_81_14 rfl ?_
    refine R_iload cd_81_15 rfl ?_
    refine R_iload cd_81_16 rfl ?_
    refine R_call3 cd_81_17 rfl rfl (K_Model_at (by omega) (by omega) (by omega) (by omega) (by omega) (by omega)) ?_
    refine R_zald cd_81_20 rfl (by first | omega | (simp [qa_upd, qa_blk] <;> omega)) (by first | omega | (simp [qa_upd, qa_blk] <;> omega)) ?_
    refine R_if_eq 28 cd_81_21 rfl (fun b21 => ?_) (fun b21 => ?_)
    · refine R_push cd_81_28 ?_
      refine R_istore cd_81_29 ?_
      refine R_aload cd_81_31 rfl ?_
      refine R_iload cd_81_32 rfl ?_
      refine R_if_eq 41 cd_81_34 rfl (fun _ => ?_) (fun h => absurd h (by decide))
      refine R_push cd_81_41 ?_
      exfalso
      omega
    · refine R_push cd_81_24 ?_
      refine R_goto cd_81_25 ?_
      refine R_istore cd_81_29 ?_
      refine R_aload cd_81_31 rfl ?_
      refine R_iload cd_81_32 rfl ?_
      refine R_if_eq 41 cd_81_34 rfl (fun h => absurd h (by decide)) (fun _ => ?_)
      refine R_push cd_81_37 ?_
      refine R_goto cd_81_38 ?_
      refine R_call2 cd_81_42 rfl rfl K_Model_fails ?_
      refine R_ifeq_b 50 cd_81_45 rfl (fun _ => ?_) (fun h => absurd h (by decide))
      exact R_norm (qs_c rfl (qs_c rfl (qs_c rfl (qs_c rfl qs_n)))) fin
end
