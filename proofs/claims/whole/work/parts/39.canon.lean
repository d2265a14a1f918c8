/-! Whole rows and whole pages set at once; two heaps are one if all readers agree. -/
theorem mh_ext {h h' : mh_T} (e1 : ∀ a, mh_kd h a = mh_kd h' a) (e2 : ∀ a, mh_ln h a = mh_ln h' a) (e3 : ∀ F a, mh_fI h F a = mh_fI h' F a) (e4 : ∀ F a, mh_fJ h F a = mh_fJ h' F a) (e5 : ∀ F a, mh_fR h F a = mh_fR h' F a) (e6 : ∀ a j, mh_aI h a j = mh_aI h' a j) (e7 : ∀ a j, mh_aJ h a j = mh_aJ h' a j) (e8 : ∀ a j, mh_aR h a j = mh_aR h' a j) : h = h' := by
  obtain ⟨a1, a2, a3, a4, a5, a6, a7, a8⟩ := h
  obtain ⟨b1, b2, b3, b4, b5, b6, b7, b8⟩ := h'
  have q1 : a1 = b1 := funext e1
  have q2 : a2 = b2 := funext e2
  have q3 : a3 = b3 := funext fun x => funext (e3 x)
  have q4 : a4 = b4 := funext fun x => funext (e4 x)
  have q5 : a5 = b5 := funext fun x => funext (e5 x)
  have q6 : a6 = b6 := funext fun x => funext (e6 x)
  have q7 : a7 = b7 := funext fun x => funext (e7 x)
  have q8 : a8 = b8 := funext fun x => funext (e8 x)
  rw [q1, q2, q3, q4, q5, q6, q7, q8]
/-- the row of longs at a is f -/
def mh_wJ (h : mh_T) (a : Nat) (f : Nat → Int64) : mh_T := (h.1, h.2.1, h.2.2.1, h.2.2.2.1, h.2.2.2.2.1, h.2.2.2.2.2.1, (fun a' j' => if a' = a then f j' else h.2.2.2.2.2.2.1 a' j'), h.2.2.2.2.2.2.2)
theorem mh_kd_wJ (h : mh_T) (a : Nat) (f : Nat → Int64) (x : Nat) : mh_kd (mh_wJ h a f) x = mh_kd h x := rfl
theorem mh_ln_wJ (h : mh_T) (a : Nat) (f : Nat → Int64) (x : Nat) : mh_ln (mh_wJ h a f) x = mh_ln h x := rfl
theorem mh_fI_wJ (h : mh_T) (a : Nat) (f : Nat → Int64) (x y : Nat) : mh_fI (mh_wJ h a f) x y = mh_fI h x y := rfl
theorem mh_fJ_wJ (h : mh_T) (a : Nat) (f : Nat → Int64) (x y : Nat) : mh_fJ (mh_wJ h a f) x y = mh_fJ h x y := rfl
theorem mh_fR_wJ (h : mh_T) (a : Nat) (f : Nat → Int64) (x y : Nat) : mh_fR (mh_wJ h a f) x y = mh_fR h x y := rfl
theorem mh_aI_wJ (h : mh_T) (a : Nat) (f : Nat → Int64) (x y : Nat) : mh_aI (mh_wJ h a f) x y = mh_aI h x y := rfl
theorem mh_aR_wJ (h : mh_T) (a : Nat) (f : Nat → Int64) (x y : Nat) : mh_aR (mh_wJ h a f) x y = mh_aR h x y := rfl
theorem mh_aJ_wJ (h : mh_T) (a : Nat) (f : Nat → Int64) (x y : Nat) : mh_aJ (mh_wJ h a f) x y = if x = a then f y else mh_aJ h x y := rfl
theorem mh_wJ_id (h : mh_T) (a : Nat) : mh_wJ h a (mh_aJ h a) = h := by
  refine mh_ext (fun _ => rfl) (fun _ => rfl) (fun _ _ => rfl) (fun _ _ => rfl) (fun _ _ => rfl) (fun _ _ => rfl) (fun x y => ?_) (fun _ _ => rfl)
  rw [mh_aJ_wJ]
  by_cases e : x = a
  · rw [if_pos e, e]
  · rw [if_neg e]
theorem mh_saJ_wJ (h : mh_T) (a i : Nat) (f : Nat → Int64) (x : Int64) : mh_saJ (mh_wJ h a f) a i x = mh_wJ h a (fun j => if j = i then x else f j) := by
  refine mh_ext (fun _ => rfl) (fun _ => rfl) (fun _ _ => rfl) (fun _ _ => rfl) (fun _ _ => rfl) (fun _ _ => rfl) (fun y z => ?_) (fun _ _ => rfl)
  rw [mh_aJ_saJ, mh_aJ_wJ, mh_aJ_wJ]
  by_cases e : y = a <;> by_cases e2 : z = i <;> simp [e, e2]
theorem mh_wJ_congr {h : mh_T} {a : Nat} {f g : Nat → Int64} (e : ∀ j, f j = g j) : mh_wJ h a f = mh_wJ h a g := by rw [funext e]
/-- the page p with the rows k and v: its numbers and its rows -/
def mh_pg (h : mh_T) (p k v : Nat) (u lo hi : Int32) (w : Int64) (K : Nat → Int32) (V : Nat → Int64) : mh_T :=
  (h.1, h.2.1, (fun F a => if a = p then (if F = 2 then u else if F = 3 then lo else if F = 4 then hi else h.2.2.1 F a) else h.2.2.1 F a), (fun F a => if a = p then (if F = 5 then w else h.2.2.2.1 F a) else h.2.2.2.1 F a), h.2.2.2.2.1, (fun a j => if a = k then K j else h.2.2.2.2.2.1 a j), (fun a j => if a = v then V j else h.2.2.2.2.2.2.1 a j), h.2.2.2.2.2.2.2)
section PGS
variable (h : mh_T) (p k v : Nat) (u lo hi : Int32) (w : Int64) (K : Nat → Int32) (V : Nat → Int64)
theorem mh_kd_pg (x : Nat) : mh_kd (mh_pg h p k v u lo hi w K V) x = mh_kd h x := rfl
theorem mh_ln_pg (x : Nat) : mh_ln (mh_pg h p k v u lo hi w K V) x = mh_ln h x := rfl
theorem mh_fR_pg (x y : Nat) : mh_fR (mh_pg h p k v u lo hi w K V) x y = mh_fR h x y := rfl
theorem mh_aR_pg (x y : Nat) : mh_aR (mh_pg h p k v u lo hi w K V) x y = mh_aR h x y := rfl
theorem mh_fI_pg (x y : Nat) : mh_fI (mh_pg h p k v u lo hi w K V) x y = if y = p then (if x = 2 then u else if x = 3 then lo else if x = 4 then hi else mh_fI h x y) else mh_fI h x y := rfl
theorem mh_fJ_pg (x y : Nat) : mh_fJ (mh_pg h p k v u lo hi w K V) x y = if y = p then (if x = 5 then w else mh_fJ h x y) else mh_fJ h x y := rfl
theorem mh_aI_pg (x y : Nat) : mh_aI (mh_pg h p k v u lo hi w K V) x y = if x = k then K y else mh_aI h x y := rfl
theorem mh_aJ_pg (x y : Nat) : mh_aJ (mh_pg h p k v u lo hi w K V) x y = if x = v then V y else mh_aJ h x y := rfl
end PGS
theorem mh_pg_id (h : mh_T) (p k v : Nat) : mh_pg h p k v (mh_fI h 2 p) (mh_fI h 3 p) (mh_fI h 4 p) (mh_fJ h 5 p) (mh_aI h k) (mh_aJ h v) = h := by
  refine mh_ext (fun _ => rfl) (fun _ => rfl) (fun x y => ?_) (fun x y => ?_) (fun _ _ => rfl) (fun x y => ?_) (fun x y => ?_) (fun _ _ => rfl)
  · rw [mh_fI_pg]
    by_cases e : y = p
    · rw [if_pos e, e]
      by_cases e2 : x = 2
      · rw [if_pos e2, e2]
      · rw [if_neg e2]
        by_cases e3 : x = 3
        · rw [if_pos e3, e3]
        · rw [if_neg e3]
          by_cases e4 : x = 4
          · rw [if_pos e4, e4]
          · rw [if_neg e4]
    · rw [if_neg e]
  · rw [mh_fJ_pg]
    by_cases e : y = p
    · rw [if_pos e, e]
      by_cases e2 : x = 5
      · rw [if_pos e2, e2]
      · rw [if_neg e2]
    · rw [if_neg e]
  · rw [mh_aI_pg]
    by_cases e : x = k
    · rw [if_pos e, e]
    · rw [if_neg e]
  · rw [mh_aJ_pg]
    by_cases e : x = v
    · rw [if_pos e, e]
    · rw [if_neg e]
theorem mh_pg_pg (h : mh_T) (p k v : Nat) (u lo hi u' lo' hi' : Int32) (w w' : Int64) (K K' : Nat → Int32) (V V' : Nat → Int64) : mh_pg (mh_pg h p k v u lo hi w K V) p k v u' lo' hi' w' K' V' = mh_pg h p k v u' lo' hi' w' K' V' := by
  refine mh_ext (fun _ => rfl) (fun _ => rfl) (fun x y => ?_) (fun x y => ?_) (fun _ _ => rfl) (fun x y => ?_) (fun x y => ?_) (fun _ _ => rfl)
  · simp only [mh_fI_pg]
    by_cases e : y = p <;> by_cases e2 : x = 2 <;> by_cases e3 : x = 3 <;> by_cases e4 : x = 4 <;> simp [e, e2, e3, e4]
  · simp only [mh_fJ_pg]
    by_cases e : y = p <;> by_cases e2 : x = 5 <;> simp [e, e2]
  · simp only [mh_aI_pg]
    by_cases e : x = k <;> simp [e]
  · simp only [mh_aJ_pg]
    by_cases e : x = v <;> simp [e]
/-- a heap that differs from h in one page's numbers and rows alone -/
theorem mh_pg_eq {h h' : mh_T} {p k v : Nat} {u lo hi : Int32} {w : Int64} {K : Nat → Int32} {V : Nat → Int64} (e1 : ∀ a, mh_kd h' a = mh_kd h a) (e2 : ∀ a, mh_ln h' a = mh_ln h a) (e5 : ∀ F a, mh_fR h' F a = mh_fR h F a) (e8 : ∀ a j, mh_aR h' a j = mh_aR h a j)
    (i1 : mh_fI h' 2 p = u) (i2 : mh_fI h' 3 p = lo) (i3 : mh_fI h' 4 p = hi) (i4 : ∀ F a, ¬ (a = p ∧ (F = 2 ∨ F = 3 ∨ F = 4)) → mh_fI h' F a = mh_fI h F a)
    (j1 : mh_fJ h' 5 p = w) (j2 : ∀ F a, ¬ (a = p ∧ F = 5) → mh_fJ h' F a = mh_fJ h F a) (k1 : ∀ j, mh_aI h' k j = K j) (k2 : ∀ a j, a ≠ k → mh_aI h' a j = mh_aI h a j) (v1 : ∀ j, mh_aJ h' v j = V j) (v2 : ∀ a j, a ≠ v → mh_aJ h' a j = mh_aJ h a j) : h' = mh_pg h p k v u lo hi w K V := by
  refine mh_ext e1 e2 (fun x y => ?_) (fun x y => ?_) e5 (fun x y => ?_) (fun x y => ?_) e8
  · rw [mh_fI_pg]
    by_cases e : y = p
    · rw [if_pos e]
      by_cases q2 : x = 2
      · rw [if_pos q2, e, q2, i1]
      · rw [if_neg q2]
        by_cases q3 : x = 3
        · rw [if_pos q3, e, q3, i2]
        · rw [if_neg q3]
          by_cases q4 : x = 4
          · rw [if_pos q4, e, q4, i3]
          · rw [if_neg q4]
            exact i4 x y (by omega)
    · rw [if_neg e]
      exact i4 x y (by omega)
  · rw [mh_fJ_pg]
    by_cases e : y = p
    · rw [if_pos e]
      by_cases q : x = 5
      · rw [if_pos q, e, q, j1]
      · rw [if_neg q]
        exact j2 x y (by omega)
    · rw [if_neg e]
      exact j2 x y (by omega)
  · rw [mh_aI_pg]
    by_cases e : x = k
    · rw [if_pos e, e, k1]
    · rw [if_neg e]
      exact k2 x y e
  · rw [mh_aJ_pg]
    by_cases e : x = v
    · rw [if_pos e, e, v1]
    · rw [if_neg e]
      exact v2 x y e
