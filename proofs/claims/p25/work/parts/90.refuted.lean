/-! THE STATEMENT IS FALSE: at a start whose script is 28, 0, 0, 0 (54 times) the law returns 1, but has made more than 833 cells, and the claim allows 114 -/
def rf_ints : List Int32 := (List.range 216).map (fun j => if j % 4 = 0 then 28 else 0)
def rf_cells : Array Value := (rf_ints.map Value.int).toArray
def rf_s : State := start1.aboutOf rf_cells
theorem rf_code {y : MethodName} {b : ByteArray} {n : Nat} {r : Option FieldType} : (Cond.code y b n r).before start1.args0 rf_s = (Cond.code y b n r).before start1.args0 start1.about := rfl
theorem rf_wk {L : List Cond} (h1 : ∀ c ∈ L, c.before start1.args0 start1.about = true) (h2 : L.all (fun c => su_isCode c || c.before start1.args0 rf_s) = true) : ∀ c ∈ L, c.before start1.args0 rf_s = true := by
  intro c hc
  have h := List.all_eq_true.mp h2 c hc
  cases hq : su_isCode c with
  | false => simpa [hq] using h
  | true =>
    obtain ⟨y, b, n, r, rfl⟩ : ∃ y b n r, c = Cond.code y b n r := by
      unfold su_isCode at hq
      split at hq
      · exact ⟨_, _, _, _, rfl⟩
      · cases hq
    rw [rf_code]
    exact h1 _ hc
set_option maxRecDepth 16384 in
theorem rf_o_1_0 : (tables_1_1.take 40).all (fun c => su_isCode c || c.before start1.args0 rf_s) = true := by decide +kernel
set_option maxRecDepth 16384 in
theorem rf_o_1_1 : ((tables_1_1.drop 40).take 40).all (fun c => su_isCode c || c.before start1.args0 rf_s) = true := by decide +kernel
set_option maxRecDepth 16384 in
theorem rf_o_1_2 : (((tables_1_1.drop 40).drop 40).take 40).all (fun c => su_isCode c || c.before start1.args0 rf_s) = true := by decide +kernel
set_option maxRecDepth 16384 in
theorem rf_o_1_3 : ((((tables_1_1.drop 40).drop 40).drop 40).take 40).all (fun c => su_isCode c || c.before start1.args0 rf_s) = true := by decide +kernel
set_option maxRecDepth 16384 in
theorem rf_o_1_4 : (((((tables_1_1.drop 40).drop 40).drop 40).drop 40).take 40).all (fun c => su_isCode c || c.before start1.args0 rf_s) = true := by decide +kernel
set_option maxRecDepth 16384 in
theorem rf_o_1_5 : (((((tables_1_1.drop 40).drop 40).drop 40).drop 40).drop 40).all (fun c => su_isCode c || c.before start1.args0 rf_s) = true := by decide +kernel
theorem rf_w_1 : ∀ c ∈ tables_1_1, c.before start1.args0 rf_s = true := rf_wk start1.words_1 (start1.su_all_split _ 40 tables_1_1 rf_o_1_0 (start1.su_all_split _ 40 (tables_1_1.drop 40) rf_o_1_1 (start1.su_all_split _ 40 ((tables_1_1.drop 40).drop 40) rf_o_1_2 (start1.su_all_split _ 40 (((tables_1_1.drop 40).drop 40).drop 40) rf_o_1_3 (start1.su_all_split _ 40 ((((tables_1_1.drop 40).drop 40).drop 40).drop 40) rf_o_1_4 rf_o_1_5)))))
set_option maxRecDepth 16384 in
theorem rf_o_2_0 : (tables_1_2.take 40).all (fun c => su_isCode c || c.before start1.args0 rf_s) = true := by decide +kernel
set_option maxRecDepth 16384 in
theorem rf_o_2_1 : ((tables_1_2.drop 40).take 40).all (fun c => su_isCode c || c.before start1.args0 rf_s) = true := by decide +kernel
set_option maxRecDepth 16384 in
theorem rf_o_2_2 : (((tables_1_2.drop 40).drop 40).take 40).all (fun c => su_isCode c || c.before start1.args0 rf_s) = true := by decide +kernel
set_option maxRecDepth 16384 in
theorem rf_o_2_3 : ((((tables_1_2.drop 40).drop 40).drop 40).take 40).all (fun c => su_isCode c || c.before start1.args0 rf_s) = true := by decide +kernel
set_option maxRecDepth 16384 in
theorem rf_o_2_4 : (((((tables_1_2.drop 40).drop 40).drop 40).drop 40).take 40).all (fun c => su_isCode c || c.before start1.args0 rf_s) = true := by decide +kernel
set_option maxRecDepth 16384 in
theorem rf_o_2_5 : (((((tables_1_2.drop 40).drop 40).drop 40).drop 40).drop 40).all (fun c => su_isCode c || c.before start1.args0 rf_s) = true := by decide +kernel
theorem rf_w_2 : ∀ c ∈ tables_1_2, c.before start1.args0 rf_s = true := rf_wk start1.words_2 (start1.su_all_split _ 40 tables_1_2 rf_o_2_0 (start1.su_all_split _ 40 (tables_1_2.drop 40) rf_o_2_1 (start1.su_all_split _ 40 ((tables_1_2.drop 40).drop 40) rf_o_2_2 (start1.su_all_split _ 40 (((tables_1_2.drop 40).drop 40).drop 40) rf_o_2_3 (start1.su_all_split _ 40 ((((tables_1_2.drop 40).drop 40).drop 40).drop 40) rf_o_2_4 rf_o_2_5)))))
set_option maxRecDepth 16384 in
theorem rf_o_3_0 : (tables_1_3.take 40).all (fun c => su_isCode c || c.before start1.args0 rf_s) = true := by decide +kernel
set_option maxRecDepth 16384 in
theorem rf_o_3_1 : ((tables_1_3.drop 40).take 40).all (fun c => su_isCode c || c.before start1.args0 rf_s) = true := by decide +kernel
set_option maxRecDepth 16384 in
theorem rf_o_3_2 : (((tables_1_3.drop 40).drop 40).take 40).all (fun c => su_isCode c || c.before start1.args0 rf_s) = true := by decide +kernel
set_option maxRecDepth 16384 in
theorem rf_o_3_3 : ((((tables_1_3.drop 40).drop 40).drop 40).take 40).all (fun c => su_isCode c || c.before start1.args0 rf_s) = true := by decide +kernel
set_option maxRecDepth 16384 in
theorem rf_o_3_4 : (((((tables_1_3.drop 40).drop 40).drop 40).drop 40).take 40).all (fun c => su_isCode c || c.before start1.args0 rf_s) = true := by decide +kernel
set_option maxRecDepth 16384 in
theorem rf_o_3_5 : (((((tables_1_3.drop 40).drop 40).drop 40).drop 40).drop 40).all (fun c => su_isCode c || c.before start1.args0 rf_s) = true := by decide +kernel
theorem rf_w_3 : ∀ c ∈ tables_1_3, c.before start1.args0 rf_s = true := rf_wk start1.words_3 (start1.su_all_split _ 40 tables_1_3 rf_o_3_0 (start1.su_all_split _ 40 (tables_1_3.drop 40) rf_o_3_1 (start1.su_all_split _ 40 ((tables_1_3.drop 40).drop 40) rf_o_3_2 (start1.su_all_split _ 40 (((tables_1_3.drop 40).drop 40).drop 40) rf_o_3_3 (start1.su_all_split _ 40 ((((tables_1_3.drop 40).drop 40).drop 40).drop 40) rf_o_3_4 rf_o_3_5)))))
theorem rf_words : ∀ c ∈ (Cond.code x code maxLocals ret :: tables_1), c.before start1.args0 rf_s = true := by
  intro c hc
  rcases List.mem_cons.mp hc with h | h
  · rw [h, rf_code]
    exact start1.word_code
  · have h1 : c ∈ tables_1_1 ++ (tables_1_2 ++ tables_1_3) := h
    rcases List.mem_append.mp h1 with h2 | h1
    · exact rf_w_1 c h2
    rcases List.mem_append.mp h1 with h2 | h1
    · exact rf_w_2 c h2
    exact rf_w_3 c h1
theorem rf_rest : rest_1_c.before start1.args0 rf_s = true := by decide +kernel
theorem rf_pre : (Cond.and given_1 narrow_1).before start1.args0 rf_s = true := by decide +kernel
theorem rf_applies1 : (headSpec (Cond.code x code maxLocals ret :: tables_1) room_1).applies x start1.e0.platform rf_s = true :=
  (Spec.applies_iff rfl).mpr ⟨rfl, rfl, rfl, by decide +kernel, by decide +kernel, by decide +kernel, launch0.hasRoom_least _ room_1 (by decide +kernel) (by decide +kernel) (by decide +kernel) (by decide +kernel) (by decide +kernel) (by decide +kernel), atoms_intro rf_words⟩
theorem rf_applies2 : (headSpec (Cond.code x code maxLocals ret :: tables_1) room_2).applies x start1.e0.platform rf_s = true :=
  (Spec.applies_iff rfl).mpr ⟨rfl, rfl, rfl, by decide +kernel, by decide +kernel, by decide +kernel, launch0.hasRoom_least _ room_2 (by decide +kernel) (by decide +kernel) (by decide +kernel) (by decide +kernel) (by decide +kernel) (by decide +kernel), atoms_intro rf_words⟩
/-- a start that the Statement allows -/
theorem rf_at : AtStart classFile x code maxLocals ret World_1 tables_1 room_1 Calls_1 rest_1 Pre_1 launch0 start1.p0 start1.e0 rf_s ⟨0, 0⟩ start1.args0 Lib.HandBits.below0 :=
  ⟨lists_1, trivial, launch0.admits_env _ _ _, launch0.least_env, fairChoices_fair.cas, fairChoices_fair.clock, rfl, by decide +kernel, by decide +kernel, rf_applies1, trivial, rf_rest, rf_pre⟩
theorem rf_P : lw_P2 0 rf_ints start1.args0 rf_s := by
  refine ⟨rfl, ⟨{ cls := 16, slots := rf_cells, vm := .none }, rfl, rfl, ⟨(fun k h => nomatch h), _, rfl, _, rfl⟩, by decide +kernel⟩, by decide +kernel, fun j hj => ?_, rf_pre⟩
  have h : (List.range 216).all (fun j => decide ((rf_ints.getD j 0).toInt = if j % 4 = 0 then 28 else 0)) = true := by decide +kernel
  exact of_decide_eq_true (List.all_eq_true.mp h j (List.mem_range.mpr hj))
/-- the run from there: it ends, with 1, and with 833 new cells at the least -/
theorem rf_run : ∃ (n : Nat) (o : Outcome), (∀ k, k < n → Within (stepsAlone start1.p0.tables start1.e0 k rf_s) Lib.HandBits.below0) ∧ (stepsAlone start1.p0.tables start1.e0 n rf_s).status = Status.running ∧ Ended (stepsAlone start1.p0.tables start1.e0 n rf_s) Lib.HandBits.below0 o ∧ lw_Q2 rf_s o (stepsAlone start1.p0.tables start1.e0 n rf_s) :=
  lw_walk2 launch0 rfl 0 rf_ints start1.p0 start1.e0 (launch0.admits_env _ _ _) fairChoices_fair.cas fairChoices_fair.clock rf_s ⟨0, 0⟩ start1.args0 Lib.HandBits.below0 rfl ((Spec.applies_iff_loose rfl).mp rf_applies2).1 rf_P trivial
/-- the claim's end can't hold there -/
theorem rf_not {o : Outcome} {t : State} {L : List Loc} (h : lw_Q2 rf_s o t) : ¬ Framed rf_s o t L 114 10420 := by
  intro z0
  obtain ⟨-, -, z⟩ := z0
  have h1 : ({ t with vm := rf_s.vm } : State).heap.size ≤ rf_s.heap.size + 114 := z.2.2.1
  have h1 : t.heap.size ≤ rf_s.heap.size + 114 := h1
  have h2 := h.2
  omega
theorem refuted_1_1 : RefutedClaimed_1_1 := by
  obtain ⟨n, o, h1, h2, h3, h4⟩ := rf_run
  exact ⟨launch0, start1.p0, start1.e0, rf_s, ⟨0, 0⟩, start1.args0, Lib.HandBits.below0, rfl, rf_at, n, o, h1, h2, h3, fun z => rf_not h4 z.2⟩
theorem refuted_1_2 : RefutedClaimed_1_2 := by
  obtain ⟨n, o, h1, h2, h3, h4⟩ := rf_run
  exact ⟨launch0, start1.p0, start1.e0, rf_s, ⟨0, 0⟩, start1.args0, Lib.HandBits.below0, rfl, rf_at, n, o, h1, h2, h3, fun z => rf_not h4 z.2⟩
/-- what is owed can't be proved: it is false -/
theorem owed_is_false : ¬ (Claimed_1_1 ∧ Claimed_1_2) := by
  intro h0
  obtain ⟨h, -⟩ := h0
  obtain ⟨n, o, h1, h2, h3, h4⟩ := rf_run
  obtain ⟨-, -, a1, a2, a3, a4, a5, a6, a7, a8, a9, a10, a11⟩ := id rf_at
  obtain ⟨n', o', g1, g2, g3, g4⟩ := h launch0 rfl lists_1 trivial start1.p0 start1.e0 a1 a3 a4 rf_s ⟨0, 0⟩ start1.args0 Lib.HandBits.below0 a5 a6 a7 a8 ⟨a9, a10, a11⟩
  have hn : n = n' := by
    rcases Nat.lt_trichotomy n n' with q | q | q
    · exact absurd (g1 n q) h3.not_within
    · exact q
    · exact absurd (h1 n' q) g3.not_within
  subst hn
  exact rf_not h4 (h3.outcome_unique g3 ▸ g4.2)
/-- the head of the owed statement, which a whole round asks for: open, and to stay so (owed_is_false) -/
theorem i_vc : Claimed_1_1 ∧ Claimed_1_2 := sorry
