/-! The walk's own judgement over the pure heap: mv_V. A row an instruction; a call takes the callee's mv_V at its entry. -/


/-- what stays in a run of the law: the launch; numbers of classes and slots; of array types; of what is thrown; the heap's size at the start; the script's address, cell, length, ints -/
abbrev mv_G : Type := Launch × va_G × (Nat → ClassId) × (Nat → ClassId) × Nat × Nat × Cell × Nat × (Nat → Int32)
abbrev mg_l (G : mv_G) : Launch := G.1
abbrev mg_D (G : mv_G) : va_G := G.2.1
abbrev mg_A (G : mv_G) : Nat → ClassId := G.2.2.1
abbrev mg_X (G : mv_G) : Nat → ClassId := G.2.2.2.1
abbrev mg_B (G : mv_G) : Nat := G.2.2.2.2.1
abbrev mg_b (G : mv_G) : Nat := G.2.2.2.2.2.1
abbrev mg_c (G : mv_G) : Cell := G.2.2.2.2.2.2.1
abbrev mg_L (G : mv_G) : Nat := G.2.2.2.2.2.2.2.1
abbrev mg_x (G : mv_G) : Nat → Int32 := G.2.2.2.2.2.2.2.2
/-- a method's end: an answer, or the number of what it threw -/
abbrev mv_O : Type := Option Value ⊕ Nat
-- locals
def mv_lk : List (Nat × Value) → Nat → Option Value
  | [], _ => none
  | (j, w) :: r, i => bif Nat.beq j i then some w else mv_lk r i
def mv_set : List (Nat × Value) → Nat → Value → List (Nat × Value)
  | [], i, v => [(i, v)]
  | (j, w) :: r, i, v => bif Nat.beq j i then (i, v) :: r else (j, w) :: mv_set r i v
/-- i is there at most once, no long stands across it -/
def mv_no : List (Nat × Value) → Nat → Bool
  | [], _ => true
  | (j, _) :: r, i => bif Nat.beq j i then false else mv_no r i
def mv_on : List (Nat × Value) → Nat → Bool
  | [], _ => true
  | (j, _) :: r, i => bif Nat.beq j i then mv_no r i else mv_on r i
def mv_ac : List (Nat × Value) → Nat → Bool
  | [], _ => true
  | (j, w) :: r, i => (bif Nat.beq (j + 1) i then Nat.beq w.category 1 else true) && mv_ac r i
theorem mv_lk_mem {lo : List (Nat × Value)} {i : Nat} {v : Value} (h : mv_lk lo i = some v) : (i, v) ∈ lo := by
  induction lo with
  | nil => cases h
  | cons q r ih =>
    obtain ⟨j, w⟩ := q
    simp only [mv_lk] at h
    cases hb : Nat.beq j i with
    | true =>
      rw [hb] at h
      have e : j = i := Nat.eq_of_beq_eq_true hb
      have e2 : w = v := Option.some.inj h
      rw [e, e2]; exact List.mem_cons_self
    | false =>
      rw [hb] at h
      exact List.mem_cons_of_mem _ (ih h)
theorem mv_lk_at {ls : Array Slot} {n : Nat} {lo : List (Nat × Value)} (hl : lv_has ls n lo) {i : Nat} {v : Value} (h : mv_lk lo i = some v) : ls[i]? = some (.val v) := hl.2.2 (i, v) (mv_lk_mem h)
theorem mv_no_ne {lo : List (Nat × Value)} {i : Nat} (h : mv_no lo i = true) : ∀ q ∈ lo, q.1 ≠ i := by
  induction lo with
  | nil => intro q hq; cases hq
  | cons x r ih =>
    obtain ⟨j, w⟩ := x
    simp only [mv_no] at h
    cases hb : Nat.beq j i with
    | true => rw [hb] at h; cases h
    | false =>
      rw [hb] at h
      intro q hq
      rcases List.mem_cons.mp hq with rfl | hq
      · exact Nat.ne_of_beq_eq_false hb
      · exact ih h q hq
theorem mv_set_mem {lo : List (Nat × Value)} {i : Nat} {v : Value} (h : mv_on lo i = true) : ∀ q ∈ mv_set lo i v, q = (i, v) ∨ (q ∈ lo ∧ q.1 ≠ i) := by
  induction lo with
  | nil =>
    intro q hq
    exact Or.inl (List.mem_singleton.mp hq)
  | cons x r ih =>
    obtain ⟨j, w⟩ := x
    simp only [mv_on] at h
    simp only [mv_set]
    cases hb : Nat.beq j i with
    | true =>
      rw [hb] at h
      intro q hq
      rcases List.mem_cons.mp hq with rfl | hq
      · exact Or.inl rfl
      · exact Or.inr ⟨List.mem_cons_of_mem _ hq, mv_no_ne h q hq⟩
    | false =>
      rw [hb] at h
      intro q hq
      rcases List.mem_cons.mp hq with rfl | hq
      · exact Or.inr ⟨List.mem_cons_self, Nat.ne_of_beq_eq_false hb⟩
      · rcases ih h q hq with h2 | ⟨h2, h3⟩
        · exact Or.inl h2
        · exact Or.inr ⟨List.mem_cons_of_mem _ h2, h3⟩
theorem mv_ac_ne {lo : List (Nat × Value)} {i : Nat} (h : mv_ac lo i = true) : ∀ q ∈ lo, ¬ (q.1 + 1 = i ∧ q.2.category = 2) := by
  induction lo with
  | nil => intro q hq; cases hq
  | cons x r ih =>
    obtain ⟨j, w⟩ := x
    simp only [mv_ac, Bool.and_eq_true] at h
    intro q hq
    rcases List.mem_cons.mp hq with rfl | hq
    · rintro ⟨e1, e2⟩
      have h1 := h.1
      rw [show Nat.beq (j + 1) i = true from by rw [← e1]; exact Nat.beq_refl _] at h1
      have h3 : w.category = 1 := Nat.eq_of_beq_eq_true h1
      have h4 : w.category = 2 := e2
      omega
    · exact ih h.2 q hq
/-- the kit's list behind a store holds all that mv_set holds -/
theorem mv_st1 {ls : Array Slot} {n : Nat} {lo : List (Nat × Value)} {i : Nat} {v : Value} (h : lv_has ls n ((i, v) :: lo.filter (fun q => !(q.1 == i) && !(q.1 + 1 == i && q.2.category == 2)))) (h1 : mv_on lo i = true) (h2 : mv_ac lo i = true) : lv_has ls n (mv_set lo i v) := by
  refine ⟨h.1, h.2.1, fun q hq => ?_⟩
  rcases mv_set_mem h1 q hq with rfl | ⟨g1, g2⟩
  · exact h.2.2 _ List.mem_cons_self
  · refine h.2.2 q (List.mem_cons_of_mem _ (List.mem_filter.mpr ⟨g1, ?_⟩))
    have g3 := mv_ac_ne h2 q g1
    by_cases e1 : q.1 + 1 = i
    · have : ¬ q.2.category = 2 := fun e => g3 ⟨e1, e⟩
      simp [g2, this]
    · simp [g2, e1]
theorem mv_st2 {ls : Array Slot} {n : Nat} {lo : List (Nat × Value)} {i : Nat} {v : Value} (h : lv_has ls n ((i, v) :: lo.filter (fun q => !(q.1 == i) && (!(q.1 == i + 1) && !(q.1 + 1 == i && q.2.category == 2))))) (h1 : mv_on lo i = true) (h2 : mv_ac lo i = true) (h3 : mv_no lo (i + 1) = true) : lv_has ls n (mv_set lo i v) := by
  refine ⟨h.1, h.2.1, fun q hq => ?_⟩
  rcases mv_set_mem h1 q hq with rfl | ⟨g1, g2⟩
  · exact h.2.2 _ List.mem_cons_self
  · refine h.2.2 q (List.mem_cons_of_mem _ (List.mem_filter.mpr ⟨g1, ?_⟩))
    have g3 := mv_ac_ne h2 q g1
    have g4 := mv_no_ne h3 q g1
    by_cases e1 : q.1 + 1 = i
    · have : ¬ q.2.category = 2 := fun e => g3 ⟨e1, e⟩
      simp [g2, g4, this]
    · simp [g2, g4, e1]
