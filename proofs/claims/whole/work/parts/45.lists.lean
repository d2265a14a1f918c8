/-! Lists of entries: rows of a function, pages one behind another, what the document's calls make of a rising list. -/
abbrev En : Type := Int32 × Int64
def rm {α : Type} (n : Nat) (g : Nat → α) : List α := (List.range n).map g
def fm {α : Type} (n : Nat) (X : Nat → List α) : List α := (List.range n).flatMap X
theorem rm_0 {α : Type} (g : Nat → α) : rm 0 g = [] := rfl
theorem rm_succ {α : Type} (n : Nat) (g : Nat → α) : rm (n + 1) g = rm n g ++ [g n] := by simp [rm, List.range_succ]
theorem rm_len {α : Type} (n : Nat) (g : Nat → α) : (rm n g).length = n := by simp [rm]
theorem rm_congr {α : Type} {n : Nat} {g g' : Nat → α} (h : ∀ i, i < n → g i = g' i) : rm n g = rm n g' := by
  unfold rm
  exact List.map_congr_left (fun i hi => h i (List.mem_range.mp hi))
theorem rm_add {α : Type} (a b : Nat) (g : Nat → α) : rm (a + b) g = rm a g ++ rm b (fun i => g (a + i)) := by
  induction b with
  | zero => simp [rm_0]
  | succ b ih => rw [← Nat.add_assoc, rm_succ, ih, rm_succ, List.append_assoc]
theorem rm_mem {α : Type} {n : Nat} {g : Nat → α} {e : α} : e ∈ rm n g ↔ ∃ i, i < n ∧ g i = e := by
  simp [rm]
theorem fm_succ {α : Type} (n : Nat) (X : Nat → List α) : fm (n + 1) X = fm n X ++ X n := by simp [fm, List.range_succ]
theorem fm_congr {α : Type} {n : Nat} {X X' : Nat → List α} (h : ∀ i, i < n → X i = X' i) : fm n X = fm n X' := by
  induction n with
  | zero => rfl
  | succ n ih => rw [fm_succ, fm_succ, ih (fun i hi => h i (by omega)), h n (by omega)]
theorem fm_add {α : Type} (a b : Nat) (X : Nat → List α) : fm (a + b) X = fm a X ++ fm b (fun i => X (a + i)) := by
  induction b with
  | zero => simp [fm]
  | succ b ih => rw [← Nat.add_assoc, fm_succ, ih, fm_succ, List.append_assoc]
theorem fm_mem {α : Type} {n : Nat} {X : Nat → List α} {e : α} : e ∈ fm n X ↔ ∃ i, i < n ∧ e ∈ X i := by
  simp [fm]
theorem fm_one {α : Type} (X : Nat → List α) : fm 1 X = X 0 := by simp [fm]
/-- the pages before i, i, those behind it -/
theorem fm_at {α : Type} {n i : Nat} (X : Nat → List α) (hi : i < n) : fm n X = fm i X ++ X i ++ fm (n - (i + 1)) (fun j => X (i + 1 + j)) := by
  have e : n = (i + 1) + (n - (i + 1)) := by omega
  conv => lhs; rw [e]
  rw [fm_add, fm_succ]
theorem fm_filter {α : Type} (n : Nat) (X : Nat → List α) (p : α → Bool) : (fm n X).filter p = fm n (fun i => (X i).filter p) := by
  induction n with
  | zero => rfl
  | succ n ih => rw [fm_succ, List.filter_append, ih, fm_succ]
theorem fm_map {α β : Type} (n : Nat) (X : Nat → List α) (f : α → β) : (fm n X).map f = fm n (fun i => (X i).map f) := by
  induction n with
  | zero => rfl
  | succ n ih => rw [fm_succ, List.map_append, ih, fm_succ]
theorem rm_filter {α : Type} {u a b : Nat} {g : Nat → α} {p : α → Bool} (hab : a ≤ b) (hb : b ≤ u) (h1 : ∀ i, i < a → p (g i) = false) (h2 : ∀ i, a ≤ i → i < b → p (g i) = true) (h3 : ∀ i, b ≤ i → i < u → p (g i) = false) : (rm u g).filter p = rm (b - a) (fun i => g (a + i)) := by
  have e1 : u = a + ((b - a) + (u - b)) := by omega
  conv => lhs; rw [e1]
  rw [rm_add, rm_add, List.filter_append, List.filter_append]
  have f1 : (rm a g).filter p = [] := by
    rw [List.filter_eq_nil_iff]
    intro e he
    obtain ⟨i, hi, rfl⟩ := rm_mem.mp he
    rw [h1 i hi]; decide
  have f2 : (rm (b - a) (fun i => g (a + i))).filter p = rm (b - a) (fun i => g (a + i)) := by
    rw [List.filter_eq_self]
    intro e he
    obtain ⟨i, hi, rfl⟩ := rm_mem.mp he
    exact h2 _ (by omega) (by omega)
  have f3 : (rm (u - b) (fun i => g (a + (b - a + i)))).filter p = [] := by
    rw [List.filter_eq_nil_iff]
    intro e he
    obtain ⟨i, hi, rfl⟩ := rm_mem.mp he
    rw [h3 _ (by omega) (by omega)]; decide
  rw [f1, f2, f3, List.nil_append, List.append_nil]
/-- what a page holds -/
def pl (K : Nat → Int32) (V : Nat → Int64) (w : Int64) (u : Nat) : List En := rm u (fun i => (K i, V i + w))
def kIn (a b : Int32) (e : En) : Bool := decide (a ≤ e.1) && decide (e.1 ≤ b)
def hasK (M : List En) (key : Int32) : Bool := M.any (fun e => decide (e.1 = key))
def valK (M : List En) (key : Int32) : Int64 := match M.find? (fun e => decide (e.1 = key)) with
  | some e => e.2
  | none => 0
def putK (M : List En) (key : Int32) (x : Int64) : List En := M.filter (fun e => decide (e.1 < key)) ++ (key, x) :: M.filter (fun e => decide (key < e.1))
def delK (M : List En) (a b : Int32) : List En := M.filter (fun e => !kIn a b e)
def raiK (M : List En) (a b : Int32) (x : Int64) : List En := M.map (fun e => if kIn a b e = true then (e.1, e.2 + x) else e)
def cntK (M : List En) (a b : Int32) : Nat := (M.filter (kIn a b)).length
def sumK (M : List En) : Int64 := (M.map (fun e => e.2)).foldl (fun s x => s + x) 0
theorem i32_lt_tr {a b c : Int32} (h1 : a < b) (h2 : b < c) : a < c := Int32.lt_trans h1 h2
theorem i32_lt_le {a b c : Int32} (h1 : a < b) (h2 : b ≤ c) : a < c := Int32.lt_of_lt_of_le h1 h2
theorem i32_le_lt {a b c : Int32} (h1 : a ≤ b) (h2 : b < c) : a < c := Int32.lt_of_le_of_lt h1 h2
theorem i32_irr {a : Int32} : ¬ a < a := fun h => Int32.lt_irrefl h
theorem i32_le_of_lt {a b : Int32} (h : a < b) : a ≤ b := Int32.le_of_lt h
theorem i32_lt_of_ne {a b : Int32} (h : ¬ a < b) (h2 : ¬ a = b) : b < a := by
  rcases Int32.lt_or_le b a with z | z
  · exact z
  · exact absurd (Int32.le_antisymm z (Int32.not_lt.mp h)) h2
/-- rising keys -/
def rsg (K : Nat → Int32) (u : Nat) : Prop := ∀ i j, i < j → j < u → K i < K j
theorem rsg_of {K : Nat → Int32} {u : Nat} (h : ∀ j, j + 1 < u → K j < K (j + 1)) : rsg K u := by
  intro i j
  induction j with
  | zero => intro a; omega
  | succ j ih =>
    intro a b
    rcases Nat.lt_or_ge i j with z | z
    · exact i32_lt_tr (ih z (by omega)) (h j b)
    · have e : i = j := by omega
      rw [e]; exact h j b
theorem pb_eq {K : Nat → Int32} {u : Nat} {key : Int32} (hs : rsg K u) {i : Nat} (hi : i < u) : K i < key ↔ i < pb K u key := by
  constructor
  · intro h
    rcases Nat.lt_or_ge i (pb K u key) with z | z
    · exact z
    · exfalso
      rcases Nat.lt_or_ge (pb K u key) i with y | y
      · exact pb_ge (by omega) (i32_lt_tr (hs _ _ y hi) h)
      · have e : pb K u key = i := by omega
        exact pb_ge (K := K) (u := u) (key := key) (by omega) (by rw [e]; exact h)
  · exact pb_lt
theorem pn_eq {K : Nat → Int32} {u : Nat} {key : Int32} (hs : rsg K u) {i : Nat} (hi : i < u) : K i ≤ key ↔ i < pn K u key := by
  have hb := pb_eq hs (key := key) hi
  have hle := pb_le K u key
  unfold pn
  by_cases c : pb K u key < u ∧ K (pb K u key) = key
  · rw [if_pos c]
    constructor
    · intro h
      rcases Nat.lt_or_ge (pb K u key) i with y | y
      · have z := hs _ _ y hi
        rw [c.2] at z
        exact absurd z (Int32.not_lt.mpr h)
      · omega
    · intro h
      rcases Nat.lt_or_ge i (pb K u key) with y | y
      · exact i32_le_of_lt (hb.mpr y)
      · have e : i = pb K u key := by omega
        rw [e, c.2]; exact Int32.le_refl _
  · rw [if_neg c]
    constructor
    · intro h
      rcases Nat.lt_or_ge i (pb K u key) with y | y
      · exact y
      · exfalso
        have h1 : ¬ K (pb K u key) < key := pb_ge (by omega)
        have h2 : key < K (pb K u key) := i32_lt_of_ne h1 (fun e => c ⟨by omega, e⟩)
        rcases Nat.lt_or_ge (pb K u key) i with z | z
        · exact Int32.not_lt.mpr h (i32_lt_tr h2 (hs _ _ z hi))
        · have e : pb K u key = i := by omega
          rw [e] at h2
          exact Int32.not_lt.mpr h h2
    · intro h
      exact i32_le_of_lt (hb.mpr h)
theorem pb_le_pn {K : Nat → Int32} {u : Nat} {a b : Int32} (hs : rsg K u) (hab : a ≤ b) : pb K u a ≤ pn K u b := by
  rcases Nat.lt_or_ge (pn K u b) (pb K u a) with z | z
  · exfalso
    have h1 := pb_lt z
    have hu := pb_le K u a
    have h2 : ¬ K (pn K u b) ≤ b := fun q => Nat.lt_irrefl _ ((pn_eq hs (by omega)).mp q)
    exact h2 (Int32.le_trans (i32_le_of_lt h1) hab)
  · exact z
/-- the entries of a page within a range -/
theorem pl_in {K : Nat → Int32} {V : Nat → Int64} {w : Int64} {u : Nat} {a b : Int32} (hs : rsg K u) (hab : a ≤ b) : (pl K V w u).filter (kIn a b) = rm (pn K u b - pb K u a) (fun i => (K (pb K u a + i), V (pb K u a + i) + w)) := by
  unfold pl
  refine rm_filter (pb_le_pn hs hab) (pn_le K u b) (fun i hi => ?_) (fun i h1 h2 => ?_) (fun i h1 h2 => ?_)
  · have z := pb_lt hi
    simp [kIn, Int32.not_le.mpr z]
  · have hu := pn_le K u b
    have z1 : ¬ K i < a := fun q => by have := (pb_eq hs (by omega)).mp q; omega
    have z2 := (pn_eq hs (show i < u by omega)).mpr h2
    simp [kIn, Int32.not_lt.mp z1, z2]
  · have z : ¬ K i ≤ b := fun q => by have := (pn_eq hs h2).mp q; omega
    simp [kIn, z]
theorem pl_cnt {K : Nat → Int32} {V : Nat → Int64} {w : Int64} {u : Nat} {a b : Int32} (hs : rsg K u) (hab : a ≤ b) : cntK (pl K V w u) a b = pn K u b - pb K u a := by
  unfold cntK
  rw [pl_in hs hab, rm_len]
theorem pl_lt {K : Nat → Int32} {V : Nat → Int64} {w : Int64} {u : Nat} {key : Int32} (hs : rsg K u) : (pl K V w u).filter (fun e => decide (e.1 < key)) = pl K V w (pb K u key) := by
  have h := rm_filter (u := u) (a := 0) (b := pb K u key) (g := fun i => (K i, V i + w)) (p := fun e : En => decide (e.1 < key)) (Nat.zero_le _) (pb_le K u key) (fun i hi => by omega) (fun i _ h2 => by simp [pb_lt h2]) (fun i h1 h2 => by
    have z : ¬ K i < key := fun q => by have := (pb_eq hs h2).mp q; omega
    simp [z])
  unfold pl
  rw [h]
  simp
theorem pl_gt {K : Nat → Int32} {V : Nat → Int64} {w : Int64} {u : Nat} {key : Int32} (hs : rsg K u) : (pl K V w u).filter (fun e => decide (key < e.1)) = rm (u - pn K u key) (fun i => (K (pn K u key + i), V (pn K u key + i) + w)) := by
  unfold pl
  exact rm_filter (pn_le K u key) (Nat.le_refl _) (fun i hi => by
    have := pn_le K u key
    have z := (pn_eq hs (show i < u by omega)).mpr hi
    simp [Int32.not_lt.mpr z]) (fun i h1 h2 => by
    have z : ¬ K i ≤ key := fun q => by have := (pn_eq hs h2).mp q; omega
    simp [Int32.not_le.mp z]) (fun i h1 h2 => by omega)
theorem pl_del {K : Nat → Int32} {V : Nat → Int64} {w : Int64} {u : Nat} {a b : Int32} (hs : rsg K u) (hab : a ≤ b) : pl (remF K (pb K u a) (pn K u b) u) (remF V (pb K u a) (pn K u b) u) w (u - (pn K u b - pb K u a)) = delK (pl K V w u) a b := by
  have h1 := pb_le_pn hs hab (b := b)
  have h2 := pn_le K u b
  have e1 : u = pb K u a + ((pn K u b - pb K u a) + (u - pn K u b)) := by omega
  have eL : u - (pn K u b - pb K u a) = pb K u a + (u - pn K u b) := by omega
  rw [eL]
  unfold pl delK
  conv => rhs; rw [e1]
  rw [rm_add, rm_add, rm_add, List.filter_append, List.filter_append]
  congr 1
  · have f : (rm (pb K u a) (fun i => (K i, V i + w))).filter (fun e => !kIn a b e) = rm (pb K u a) (fun i => (K i, V i + w)) := by
      rw [List.filter_eq_self]
      intro e he
      obtain ⟨i, hi, rfl⟩ := rm_mem.mp he
      simp [kIn, Int32.not_le.mpr (pb_lt hi)]
    rw [f]
    exact rm_congr (fun i hi => by simp [remF, show ¬ pb K u a ≤ i by omega])
  · have f1 : (rm (pn K u b - pb K u a) (fun i => (K (pb K u a + i), V (pb K u a + i) + w))).filter (fun e => !kIn a b e) = [] := by
      rw [List.filter_eq_nil_iff]
      intro e he
      obtain ⟨i, hi, rfl⟩ := rm_mem.mp he
      have z1 : ¬ K (pb K u a + i) < a := fun q => by have := (pb_eq hs (show pb K u a + i < u by omega)).mp q; omega
      have z2 := (pn_eq hs (show pb K u a + i < u by omega)).mpr (show pb K u a + i < pn K u b by omega)
      simp [kIn, Int32.not_lt.mp z1, z2]
    have f2 : (rm (u - pn K u b) (fun i => (K (pb K u a + (pn K u b - pb K u a + i)), V (pb K u a + (pn K u b - pb K u a + i)) + w))).filter (fun e => !kIn a b e) = rm (u - pn K u b) (fun i => (K (pb K u a + (pn K u b - pb K u a + i)), V (pb K u a + (pn K u b - pb K u a + i)) + w)) := by
      rw [List.filter_eq_self]
      intro e he
      obtain ⟨i, hi, rfl⟩ := rm_mem.mp he
      have z : ¬ K (pb K u a + (pn K u b - pb K u a + i)) ≤ b := fun q => by have := (pn_eq hs (show pb K u a + (pn K u b - pb K u a + i) < u by omega)).mp q; omega
      simp [kIn, z]
    rw [f1, f2, List.nil_append]
    refine rm_congr (fun i hi => ?_)
    have c : pb K u a ≤ pb K u a + i ∧ pb K u a + i < pb K u a + (u - pn K u b) := by omega
    have e : pn K u b + (pb K u a + i - pb K u a) = pb K u a + (pn K u b - pb K u a + i) := by omega
    simp only [remF, if_pos c, e]
theorem i64_sub_add (x w : Int64) : x - w + w = x := by
  rw [Int64.sub_eq_add_neg, Int64.add_assoc, Int64.add_comm (-w) w, ← Int64.sub_eq_add_neg, Int64.sub_self, Int64.add_zero]
theorem pl_ins {K : Nat → Int32} {V : Nat → Int64} {w x : Int64} {u : Nat} {key : Int32} (hs : rsg K u) (hn : ¬ (pb K u key < u ∧ K (pb K u key) = key)) : pl (insF K (pb K u key) key u) (insF V (pb K u key) (x - w) u) w (u + 1) = putK (pl K V w u) key x := by
  have h1 := pb_le K u key
  have ep : pn K u key = pb K u key := by rw [pn, if_neg hn]
  unfold putK
  rw [pl_lt hs, pl_gt hs, ep]
  have eL : u + 1 = pb K u key + (1 + (u - pb K u key)) := by omega
  rw [eL]
  unfold pl
  rw [rm_add, rm_add]
  congr 1
  · exact rm_congr (fun i hi => by simp [insF, show ¬ i = pb K u key by omega, show ¬ pb K u key + 1 ≤ i by omega])
  · have e1 : rm 1 (fun i => (insF K (pb K u key) key u (pb K u key + i), insF V (pb K u key) (x - w) u (pb K u key + i) + w)) = [(key, x)] := by
      simp [rm, insF, i64_sub_add]
    rw [e1]
    show (key, x) :: _ = (key, x) :: _
    congr 1
    refine rm_congr (fun i hi => ?_)
    have c1 : ¬ pb K u key + (1 + i) = pb K u key := by omega
    have c2 : pb K u key + 1 ≤ pb K u key + (1 + i) ∧ pb K u key + (1 + i) < pb K u key + 1 + (u - pb K u key) := by omega
    have e : pb K u key + (pb K u key + (1 + i) - (pb K u key + 1)) = pb K u key + i := by omega
    simp only [insF, if_neg c1, if_pos c2, e]
theorem pl_set {K : Nat → Int32} {V : Nat → Int64} {w x : Int64} {u : Nat} {key : Int32} (hs : rsg K u) (hn : pb K u key < u ∧ K (pb K u key) = key) : pl K (fun j => if j = pb K u key then x - w else V j) w u = putK (pl K V w u) key x := by
  have ep : pn K u key = pb K u key + 1 := by rw [pn, if_pos hn]
  unfold putK
  rw [pl_lt hs, pl_gt hs, ep]
  clear ep
  generalize pb K u key = r at *
  have eL : u = r + (1 + (u - (r + 1))) := by omega
  unfold pl
  conv => lhs; rw [eL]
  rw [rm_add, rm_add]
  congr 1
  · exact rm_congr (fun i hi => by simp [show ¬ i = r by omega])
  · have e1 : rm 1 (fun i => (K (r + i), (if r + i = r then x - w else V (r + i)) + w)) = [(key, x)] := by
      simp [rm, i64_sub_add, hn.2]
    rw [e1]
    show (key, x) :: _ = (key, x) :: _
    congr 1
    refine rm_congr (fun i hi => ?_)
    have e : r + (1 + i) = r + 1 + i := by omega
    have e2 : ¬ r + 1 + i = r := by omega
    simp [e, e2]
