/-! no method writes the script: its cells stay -/
theorem qa_len_s {t k n : Nat} (h : qa_len t k = some n) : k ≠ 97 ∧ k ≠ 98 := by
  constructor
  · intro e
    rw [e, show qa_len t 97 = none from rfl] at h
    cases h
  · intro e
    rw [e, show qa_len t 98 = none from rfl] at h
    cases h
theorem qa_fI_s {c k j : Nat} (h : qa_fI c k j = true) : k ≠ 97 ∧ k ≠ 98 := by
  constructor
  · intro e
    rw [e, show qa_fI c 97 j = false from rfl] at h
    cases h
  · intro e
    rw [e, show qa_fI c 98 j = false from rfl] at h
    cases h
theorem qa_upd_f {M M' : qa_Mem} {k : Nat} {i v : Int} (hk : k ≠ 97 ∧ k ≠ 98) (h : M' 97 = qa_upd M k i v 97 ∧ M' 98 = qa_upd M k i v 98) : M' 97 = M 97 ∧ M' 98 = M 98 := by
  rw [qa_upd_n (Ne.symm hk.1), qa_upd_n (Ne.symm hk.2)] at h
  exact h
theorem qa_frame {i pc : Nat} {L : qa_L} {S : List qa_V} {M M' : qa_Mem} {r : qa_R} (h : qa_E i pc L S M r M') : M' 97 = M 97 ∧ M' 98 = M 98 := by
  refine h (fun _ _ _ _ M _ M' => M' 97 = M 97 ∧ M' 98 = M 98) ?_
  intro i pc L S M r M' h
  rcases h with ⟨L', -, h⟩ | ⟨op, a, b, nx, cp, -, h⟩
  · exact h
  · unfold qa_do at h
    rcases h with ⟨-, h⟩ | ⟨-, _, -, h⟩ | ⟨-, _, -, h⟩ | ⟨-, _, _, -, h⟩ | ⟨-, _, _, -, h⟩ | ⟨-, _, -, -, h⟩ | ⟨-, _, _, _, _, -, -, h⟩ | ⟨-, _, _, -, -, h⟩ | ⟨-, _, _, -, -, h⟩ | ⟨-, _, _, _, -, -, -, h⟩ | ⟨-, _, _, _, _, -, -, -, -, -, h⟩ | ⟨-, _, _, _, _, _, -, hn, -, -, -, h⟩ | ⟨-, _, _, -, -, -, h⟩ | ⟨-, _, _, _, -, -, h⟩ | ⟨-, _, _, _, -, hn, -, h⟩ | ⟨-, x, y, _, _, -, -, h1, h2⟩ | ⟨-, x, _, _, -, -, h1, h2⟩ | ⟨-, h⟩ | ⟨-, _, _, _, _, -, -, -, -, h1, hk⟩ | ⟨-, _, -, -, rfl, -⟩ | ⟨-, -, -, rfl⟩ | ⟨-, -, -, rfl⟩ | ⟨-, _, _, -, h⟩ | ⟨-, _, _, _, _, _, -, hn, -, -, h⟩ | ⟨-, _, _, _, _, -, -, -, -, h⟩ | ⟨-, _, _, _, -, h⟩ | ⟨-, _, _, -, -, -, h⟩ | ⟨-, _, -, h⟩ | ⟨-, x, _, -, h1, h2⟩
    · exact h
    · exact h
    · exact h
    · exact h
    · exact h
    · exact h
    · exact h
    · exact h
    · exact h
    · exact h
    · exact h
    · exact qa_upd_f (qa_len_s hn) h
    · exact h
    · exact h
    · exact qa_upd_f (qa_fI_s hn) h
    · exact (Classical.em (qa_cmp a x y)).elim h1 h2
    · exact (Classical.em (qa_cmp a x 0)).elim h1 h2
    · exact h
    · rcases hk with ⟨_, -, h⟩ | ⟨_, -, -, -, rfl⟩ | ⟨_, _, -, -, h⟩
      · exact ⟨h.1.trans h1.1, h.2.trans h1.2⟩
      · exact h1
      · exact ⟨h.1.trans h1.1, h.2.trans h1.2⟩
    · exact ⟨rfl, rfl⟩
    · exact ⟨rfl, rfl⟩
    · exact ⟨rfl, rfl⟩
    · exact h
    · exact qa_upd_f (qa_len_s hn) h
    · exact h
    · exact h
    · exact h
    · exact h
    · by_cases z : x < 0 ∨ (qa_sw.length : Int) ≤ x
      · exact h2 z
      · have hx : x.toNat < qa_sw.length := by omega
        exact h1 x.toNat qa_sw[x.toNat] (List.getElem?_eq_getElem hx) (by omega)
