/-! THE ABSTRACT MACHINE: ints are Int, cells are numbers, a memory gives each cell's values -/
abbrev qa_Mem : Type := Nat → Int → Int
abbrev qa_V : Type := Int ⊕ (Nat ⊕ Int)
abbrev qi (v : Int) : qa_V := .inl v
abbrev qr (k : Nat) : qa_V := .inr (.inl k)
abbrev ql (v : Int) : qa_V := .inr (.inr v)
abbrev qa_L : Type := List (Nat × qa_V)
abbrev qa_R : Type := (Option qa_V) ⊕ Nat
/-- op, a, b, the next pc, the index into the constant pool -/
abbrev qa_I : Type := Nat × Nat × Int × Nat × Nat
def qa_InR (x : Int) : Prop := -2147483648 ≤ x ∧ x ≤ 2147483647
def qa_wrap (x : Int) : Int := (x + 2147483648) % 4294967296 - 2147483648
def qa_upd (M : qa_Mem) (k : Nat) (i v : Int) : qa_Mem := fun a b => if a = k ∧ b = i then v else M a b
def qa_lk : qa_L → Nat → Option qa_V
  | [], _ => none
  | q :: t, a => bif Nat.beq q.1 a then some q.2 else qa_lk t a
def qa_loc : Nat → List qa_V → qa_L
  | _, [] => []
  | i, v :: vs => (i, v) :: qa_loc (i + 1) vs
def qa_c1 : qa_V → Bool
  | .inl _ => true
  | .inr (.inl _) => true
  | .inr (.inr _) => false
def qa_and (x y : Int) : Int := (Int32.ofInt x &&& Int32.ofInt y).toInt
def qa_or (x y : Int) : Int := (Int32.ofInt x ||| Int32.ofInt y).toInt
def qa_xor (x y : Int) : Int := (Int32.ofInt x ^^^ Int32.ofInt y).toInt
def qa_shl (x y : Int) : Int := (Int32.ofInt x <<< (Int32.ofInt y &&& 31)).toInt
def qa_shr (x y : Int) : Int := (Int32.ofInt x >>> (Int32.ofInt y &&& 31)).toInt
def qa_bin (k : Nat) (x y z : Int) : Prop :=
  (k = 0 ∧ z = x + y ∧ qa_InR z) ∨ (k = 1 ∧ z = qa_wrap (x + y)) ∨ (k = 2 ∧ z = x - y ∧ qa_InR z) ∨ (k = 3 ∧ z = x * y ∧ qa_InR z) ∨
  (k = 4 ∧ 0 < y ∧ z = x.tdiv y) ∨ (k = 5 ∧ 0 < y ∧ z = x.tmod y) ∨ (k = 6 ∧ z = qa_and x y) ∨ (k = 7 ∧ z = qa_or x y) ∨
  (k = 8 ∧ z = qa_shl x y) ∨ (k = 9 ∧ z = qa_shr x y) ∨ (k = 10 ∧ z = qa_xor x y)
def qa_cmp (k : Nat) (x y : Int) : Prop :=
  (k = 0 ∧ x = y) ∨ (k = 1 ∧ x ≠ y) ∨ (k = 2 ∧ x < y) ∨ (k = 3 ∧ y ≤ x) ∨ (k = 4 ∧ y < x) ∨ (k = 5 ∧ x ≤ y)
def qa_sgn (x y : Int) : Int := if x < y then -1 else if x = y then 0 else 1
