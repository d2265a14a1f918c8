/-! A page as a list of entries. -/
def up (M : List En) : Prop := M.Pairwise (fun a b => a.1 < b.1)
theorem up_get {M : List En} (h : up M) {i j : Nat} (hj : j < M.length) (hij : i < j) : (M[i]'(by omega)).1 < (M[j]).1 := List.pairwise_iff_getElem.mp h i j (by omega) hj hij
theorem rm_get {α : Type} {u : Nat} {g : Nat → α} {i : Nat} (hi : i < (rm u g).length) : (rm u g)[i] = g i := by
  simp [rm]
theorem pl_get {K : Nat → Int32} {V : Nat → Int64} {w : Int64} {u i : Nat} (hi : i < (pl K V w u).length) : (pl K V w u)[i] = (K i, V i + w) := rm_get hi
theorem pl_len (K : Nat → Int32) (V : Nat → Int64) (w : Int64) (u : Nat) : (pl K V w u).length = u := rm_len _ _
theorem rsg_up {K : Nat → Int32} {V : Nat → Int64} {w : Int64} {u : Nat} (h : rsg K u) : up (pl K V w u) := by
  refine List.pairwise_iff_getElem.mpr (fun i j hi hj hij => ?_)
  rw [pl_get, pl_get]
  rw [pl_len] at hj
  exact h i j hij hj
theorem up_rsg {K : Nat → Int32} {V : Nat → Int64} {w : Int64} {u : Nat} (h : up (pl K V w u)) : rsg K u := by
  intro i j hij hj
  have z := up_get h (i := i) (j := j) (by rw [pl_len]; exact hj) hij
  rw [pl_get, pl_get] at z
  exact z
theorem up_filter {M : List En} (h : up M) (p : En → Bool) : up (M.filter p) := List.Pairwise.filter p h
theorem up_del {M : List En} (h : up M) (a b : Int32) : up (delK M a b) := up_filter h _
theorem raiK_1 (a b : Int32) (x : Int64) (e : En) : (if kIn a b e = true then (e.1, e.2 + x) else e).1 = e.1 := by
  split <;> rfl
theorem up_rai {M : List En} (h : up M) (a b : Int32) (x : Int64) : up (raiK M a b x) := by
  unfold raiK up
  rw [List.pairwise_map]
  refine List.Pairwise.imp (fun {p q} hpq => ?_) h
  rw [raiK_1, raiK_1]
  exact hpq
theorem up_put {M : List En} (h : up M) (key : Int32) (x : Int64) : up (putK M key x) := by
  unfold putK up
  rw [List.pairwise_append, List.pairwise_cons]
  refine ⟨up_filter h _, ⟨fun e he => ?_, up_filter h _⟩, fun e he f hf => ?_⟩
  · have := (List.mem_filter.mp he).2
    simpa using this
  · have z := (List.mem_filter.mp he).2
    have z1 : e.1 < key := by simpa using z
    rcases List.mem_cons.mp hf with c | c
    · rw [c]; exact z1
    · have y := (List.mem_filter.mp c).2
      have y1 : key < f.1 := by simpa using y
      exact i32_lt_tr z1 y1
theorem hasK_iff {M : List En} {key : Int32} : hasK M key = true ↔ ∃ e, e ∈ M ∧ e.1 = key := by
  simp [hasK]
theorem put_mem {M : List En} {key : Int32} {x : Int64} {e : En} : e ∈ putK M key x → e = (key, x) ∨ e ∈ M := by
  intro h
  unfold putK at h
  rcases List.mem_append.mp h with c | c
  · exact Or.inr (List.mem_filter.mp c).1
  · rcases List.mem_cons.mp c with c | c
    · exact Or.inl c
    · exact Or.inr (List.mem_filter.mp c).1
theorem pl_has {K : Nat → Int32} {V : Nat → Int64} {w : Int64} {u : Nat} {key : Int32} (hs : rsg K u) : hasK (pl K V w u) key = true ↔ (pb K u key < u ∧ K (pb K u key) = key) := by
  rw [hasK_iff]
  constructor
  · rintro ⟨e, he, hk⟩
    obtain ⟨i, hi, rfl⟩ := rm_mem.mp he
    have hk' : K i = key := hk
    have h1 : ¬ i < pb K u key := fun q => by
      have := pb_lt q
      rw [hk'] at this
      exact i32_irr this
    have h2 : pb K u key ≤ i := by omega
    rcases Nat.lt_or_ge (pb K u key) i with z | z
    · exfalso
      have z1 := hs _ _ z hi
      rw [hk'] at z1
      have := (pb_eq hs (show pb K u key < u by omega)).mp z1
      omega
    · have e : pb K u key = i := by omega
      rw [e]; exact ⟨hi, hk'⟩
  · rintro ⟨h1, h2⟩
    exact ⟨(K (pb K u key), V (pb K u key) + w), rm_mem.mpr ⟨_, h1, rfl⟩, h2⟩
theorem valK_no {M : List En} {key : Int32} (h : ¬ hasK M key = true) : valK M key = 0 := by
  unfold valK
  have : M.find? (fun e => decide (e.1 = key)) = none := by
    rw [List.find?_eq_none]
    intro e he q
    exact h (hasK_iff.mpr ⟨e, he, by simpa using q⟩)
  rw [this]
theorem valK_at {M : List En} {key : Int32} {x : Int64} (hs : up M) (h : (key, x) ∈ M) : valK M key = x := by
  induction M with
  | nil => simp at h
  | cons f M ih =>
    unfold valK
    rw [List.find?_cons]
    rcases List.mem_cons.mp h with c | c
    · rw [← c]; simp
    · have hf := (List.pairwise_cons.mp hs).1 _ c
      have hne : ¬ f.1 = key := fun q => by
        rw [q] at hf
        exact i32_irr hf
      have ih' := ih (List.pairwise_cons.mp hs).2 c
      simp [hne]
      exact ih'
theorem pl_val {K : Nat → Int32} {V : Nat → Int64} {w : Int64} {u : Nat} {key : Int32} (hs : rsg K u) (h : pb K u key < u ∧ K (pb K u key) = key) : valK (pl K V w u) key = V (pb K u key) + w :=
  valK_at (rsg_up hs) (rm_mem.mpr ⟨_, h.1, by rw [h.2]⟩)
theorem kIn_pl {K : Nat → Int32} {u : Nat} {a b : Int32} {i : Nat} {y : Int64} (hs : rsg K u) (hi : i < u) : kIn a b (K i, y) = true ↔ (pb K u a ≤ i ∧ i < pn K u b) := by
  have h1 := pb_eq hs (key := a) hi
  have h2 := pn_eq hs (key := b) hi
  simp only [kIn, Bool.and_eq_true, decide_eq_true_eq]
  constructor
  · rintro ⟨c1, c2⟩
    exact ⟨Nat.not_lt.mp (fun q => Int32.not_lt.mpr c1 (h1.mpr q)), h2.mp c2⟩
  · rintro ⟨c1, c2⟩
    exact ⟨Int32.not_lt.mp (fun q => by have := h1.mp q; omega), h2.mpr c2⟩
theorem rm_map {α β : Type} (n : Nat) (g : Nat → α) (f : α → β) : (rm n g).map f = rm n (fun i => f (g i)) := by
  simp [rm]
theorem pl_rai1 {K : Nat → Int32} {V : Nat → Int64} {w x : Int64} {u : Nat} {a b : Int32} (hs : rsg K u) (h1 : pb K u a = 0) (h2 : pn K u b = u) : pl K V (w + x) u = raiK (pl K V w u) a b x := by
  unfold pl raiK
  rw [rm_map]
  refine rm_congr (fun i hi => ?_)
  rw [if_pos ((kIn_pl hs hi).mpr (by omega))]
  show (K i, V i + (w + x)) = (K i, V i + w + x)
  rw [Int64.add_assoc]
theorem pl_rai2 {K : Nat → Int32} {V : Nat → Int64} {w x : Int64} {u : Nat} {a b : Int32} (hs : rsg K u) : pl K (fun j => if pb K u a ≤ j ∧ j < pn K u b then V j + x else V j) w u = raiK (pl K V w u) a b x := by
  unfold pl raiK
  rw [rm_map]
  refine rm_congr (fun i hi => ?_)
  show (K i, (if pb K u a ≤ i ∧ i < pn K u b then V i + x else V i) + w) = _
  by_cases c : pb K u a ≤ i ∧ i < pn K u b
  · rw [if_pos c, if_pos ((kIn_pl hs hi).mpr c)]
    show (K i, V i + x + w) = (K i, V i + w + x)
    rw [Int64.add_assoc, Int64.add_comm x w, ← Int64.add_assoc]
  · rw [if_neg c, if_neg (fun q => c ((kIn_pl hs hi).mp q))]
theorem sumf (l : List Int64) : ∀ s, l.foldl (fun s x => s + x) s = s + l.foldl (fun s x => s + x) 0 := by
  induction l with
  | nil => intro s; simp
  | cons x l ih =>
    intro s
    rw [List.foldl_cons, List.foldl_cons, ih (s + x), ih (0 + x), Int64.zero_add, Int64.add_assoc]
theorem sumK_app (A B : List En) : sumK (A ++ B) = sumK A + sumK B := by
  unfold sumK
  rw [List.map_append, List.foldl_append, sumf]
theorem ps_rm (f : Nat → Int64) : ∀ m i acc, ps f m i acc = (rm m (fun j => f (i + j))).foldl (fun s x => s + x) acc := by
  intro m
  induction m with
  | zero => intro i acc; rfl
  | succ m ih =>
    intro i acc
    rw [ps, ih]
    have e : rm (m + 1) (fun j => f (i + j)) = f i :: rm m (fun j => f (i + 1 + j)) := by
      rw [Nat.add_comm m 1, rm_add]
      show [f (i + 0)] ++ _ = _
      rw [Nat.add_zero]
      show f i :: _ = _
      congr 1
      exact rm_congr (fun j _ => by rw [Nat.add_assoc])
    rw [e, List.foldl_cons]
theorem pl_sum {K : Nat → Int32} {V : Nat → Int64} {w : Int64} {u : Nat} {a b : Int32} (hs : rsg K u) (hab : a ≤ b) : ps (fun j => V j + w) (pn K u b - pb K u a) (pb K u a) 0 = sumK ((pl K V w u).filter (kIn a b)) := by
  rw [pl_in hs hab, ps_rm, sumK, rm_map]
theorem del_len (M : List En) (a b : Int32) : (delK M a b).length + cntK M a b = M.length := by
  unfold delK cntK
  induction M with
  | nil => rfl
  | cons e M ih =>
    by_cases c : kIn a b e = true
    · simp [List.filter_cons, c]; omega
    · simp [List.filter_cons, c]; omega
/-- a page with its rows holds the list L, for keys from lo to hi -/
def pgL (h : mh_T) (D : Nat × Nat × Nat) (lo hi : Int32) (L : List En) : Prop := pg_at h D.1 D.2.1 D.2.2 L.length ∧ mh_fI h 3 D.1 = lo ∧ mh_fI h 4 D.1 = hi ∧ pl (mh_aI h D.2.1) (mh_aJ h D.2.2) (mh_fJ h 5 D.1) L.length = L
def pgF (h h' : mh_T) (D : Nat × Nat × Nat) : Prop := ∀ a, a ≠ D.1 → a ≠ D.2.1 → a ≠ D.2.2 → mh_sm h h' a
theorem pgL_sm {h h' : mh_T} {D : Nat × Nat × Nat} {lo hi : Int32} {L : List En} (hp : pgL h D lo hi L) (h1 : mh_sm h h' D.1) (h2 : mh_sm h h' D.2.1) (h3 : mh_sm h h' D.2.2) : pgL h' D lo hi L := by
  obtain ⟨⟨e1, e2, e3, e4, e5, e6, e7, e8, e9, e10, e11⟩, f1, f2, f3⟩ := hp
  obtain ⟨a1, a2, a3, a4, a5, a6, a7, a8⟩ := h1
  obtain ⟨b1, b2, b3, b4, b5, b6, b7, b8⟩ := h2
  obtain ⟨c1, c2, c3, c4, c5, c6, c7, c8⟩ := h3
  refine ⟨⟨a1.trans e1, (a5 0).trans e2, (a5 1).trans e3, e4, e5, b1.trans e6, b2.trans e7, c1.trans e8, c2.trans e9, (a3 2).trans e10, e11⟩, (a3 3).trans f1, (a3 4).trans f2, ?_⟩
  rw [funext b6, funext c7, a4 5]
  exact f3
theorem pgL_rsg {h : mh_T} {D : Nat × Nat × Nat} {lo hi : Int32} {L : List En} (hp : pgL h D lo hi L) (hu : up L) : rsg (mh_aI h D.2.1) L.length := by
  rw [← hp.2.2.2] at hu
  exact up_rsg hu
theorem pgL_pg {h : mh_T} {D : Nat × Nat × Nat} {lo hi lo' hi' : Int32} {L L' : List En} {w' : Int64} {K' : Nat → Int32} {V' : Nat → Int64} {u : Int32} (hp : pgL h D lo hi L) (hu : u = nI L'.length) (hl : L'.length ≤ 32) (he : pl K' V' w' L'.length = L') : pgL (mh_pg h D.1 D.2.1 D.2.2 u lo' hi' w' K' V') D lo' hi' L' := by
  obtain ⟨⟨e1, e2, e3, e4, e5, e6, e7, e8, e9, e10, e11⟩, f1, f2, f3⟩ := hp
  refine ⟨⟨e1, e2, e3, e4, e5, e6, e7, e8, e9, ?_, hl⟩, ?_, ?_, ?_⟩
  · rw [mh_fI_pg, if_pos rfl, if_pos rfl, hu]
  · rw [mh_fI_pg, if_pos rfl, if_neg (by decide), if_pos rfl]
  · rw [mh_fI_pg, if_pos rfl, if_neg (by decide), if_neg (by decide), if_pos rfl]
  · have a1 : mh_aI (mh_pg h D.1 D.2.1 D.2.2 u lo' hi' w' K' V') D.2.1 = K' := funext fun j => by rw [mh_aI_pg, if_pos rfl]
    have a2 : mh_aJ (mh_pg h D.1 D.2.1 D.2.2 u lo' hi' w' K' V') D.2.2 = V' := funext fun j => by rw [mh_aJ_pg, if_pos rfl]
    have a3 : mh_fJ (mh_pg h D.1 D.2.1 D.2.2 u lo' hi' w' K' V') 5 D.1 = w' := by rw [mh_fJ_pg, if_pos rfl, if_pos rfl]
    rw [a1, a2, a3]; exact he
theorem pgF_pg {h : mh_T} {D : Nat × Nat × Nat} {u lo hi : Int32} {w : Int64} {K : Nat → Int32} {V : Nat → Int64} : pgF h (mh_pg h D.1 D.2.1 D.2.2 u lo hi w K V) D := fun _ h1 h2 h3 => mh_sm_pg h1 h2 h3
section PL
variable {G : mv_G} {d : Nat} {h : mh_T} {D D2 : Nat × Nat × Nat} {lo hi lo2 hi2 a b key : Int32} {x : Int64} {L L2 : List En} {R : mv_O → mh_T → Prop}
theorem pgL_has (hp : pgL h D lo hi L) (hu : up L) : hasK L key = true ↔ (pb (mh_aI h D.2.1) L.length key < L.length ∧ mh_aI h D.2.1 (pb (mh_aI h D.2.1) L.length key) = key) := by
  have z := pl_has (V := mh_aJ h D.2.2) (w := mh_fJ h 5 D.1) (key := key) (pgL_rsg hp hu)
  rw [hp.2.2.2] at z
  exact z
theorem pgL_val (hp : pgL h D lo hi L) (hu : up L) (hk : hasK L key = true) : valK L key = mh_aJ h D.2.2 (pb (mh_aI h D.2.1) L.length key) + mh_fJ h 5 D.1 := by
  have z := pl_val (V := mh_aJ h D.2.2) (w := mh_fJ h 5 D.1) (key := key) (pgL_rsg hp hu) ((pgL_has hp hu).mp hk)
  rw [hp.2.2.2] at z
  exact z
theorem gl_count (hp : pgL h D lo hi L) (hu : up L) (hab : a ≤ b) (hR : R (.inl (some (.int (nI (cntK L a b))))) h) : mv_V G jX0_countIn (d + 2) 0 [(0, .ref D.1), (1, .int a), (2, .int b)] [] h 0 0 R := by
  refine c_countIn hp.1 ?_
  rw [pk_sub (pb_le_pn (pgL_rsg hp hu) hab), ← pl_cnt (V := mh_aJ h D.2.2) (w := mh_fJ h 5 D.1) (pgL_rsg hp hu) hab, hp.2.2.2]
  exact hR
theorem gl_sum (hp : pgL h D lo hi L) (hu : up L) (hab : a ≤ b) (hR : R (.inl (some (.long (sumK (L.filter (kIn a b)))))) h) : mv_V G jX0_sumIn (d + 2) 0 [(0, .ref D.1), (1, .int a), (2, .int b)] [] h 0 0 R := by
  refine c_sumIn hp.1 ?_
  rw [pl_sum (pgL_rsg hp hu) hab, hp.2.2.2]
  exact hR
theorem gl_remove (hp : pgL h D lo hi L) (hu : up L) (hab : a ≤ b) (hR : ∀ h', pgL h' D lo hi (delK L a b) → pgF h h' D → R (.inl none) h') : mv_V G jX0_removeIn (d + 3) 0 [(0, .ref D.1), (1, .int a), (2, .int b)] [] h 0 0 R := by
  have hs := pgL_rsg hp hu
  refine c_removeIn hp.1 (pb_le_pn hs hab) (hR _ ?_ pgF_pg)
  have e := pl_del (V := mh_aJ h D.2.2) (w := mh_fJ h 5 D.1) hs hab
  rw [hp.2.2.2] at e
  have el : (delK L a b).length = L.length - (pn (mh_aI h D.2.1) L.length b - pb (mh_aI h D.2.1) L.length a) := by
    rw [← e, pl_len]
  have := hp.1.2.2.2.2.2.2.2.2.2.2
  rw [hp.2.1, hp.2.2.1]
  refine pgL_pg hp (by rw [el]) (by omega) ?_
  rw [el]; exact e
theorem gl_raise (hp : pgL h D lo hi L) (hu : up L) (hR : ∀ h', pgL h' D lo hi (raiK L a b x) → pgF h h' D → R (.inl none) h') : mv_V G jX0_raiseIn (d + 2) 0 [(0, .ref D.1), (1, .int a), (2, .int b), (3, .long x)] [] h 0 0 R := by
  have hs := pgL_rsg hp hu
  have el : (raiK L a b x).length = L.length := by simp [raiK]
  have := hp.1.2.2.2.2.2.2.2.2.2.2
  have eu := hp.1.2.2.2.2.2.2.2.2.2.1
  refine c_raiseIn hp.1 (fun h1 h2 => hR _ ?_ pgF_pg) (fun h1 => hR _ ?_ pgF_pg)
  · rw [hp.2.1, hp.2.2.1]
    refine pgL_pg hp (by rw [el, eu]) (by omega) ?_
    rw [el, pl_rai1 (V := mh_aJ h D.2.2) hs h1 h2, hp.2.2.2]
  · rw [hp.2.1, hp.2.2.1]
    refine pgL_pg hp (by rw [el, eu]) (by omega) ?_
    rw [el, pl_rai2 (V := mh_aJ h D.2.2) hs, hp.2.2.2]
theorem gl_push (hp : pgL h D lo hi L) (hR : ∀ h', pgL h' D lo hi L → pgF h h' D → R (.inl none) h') : mv_V G jX0_pushDown d 0 [(0, .ref D.1)] [] h 0 0 R := by
  have := hp.1.2.2.2.2.2.2.2.2.2.2
  have eu := hp.1.2.2.2.2.2.2.2.2.2.1
  refine c_pushDown hp.1 (hR _ ?_ pgF_pg)
  rw [hp.2.1, hp.2.2.1]
  refine pgL_pg hp eu (by omega) ?_
  refine Eq.trans ?_ hp.2.2.2
  exact rm_congr (fun i hi => by simp [hi])
theorem gl_set (hp : pgL h D lo hi L) (hu : up L) (hk : hasK L key = true) (hR : ∀ h', pgL h' D lo hi (putK L key x) → pgF h h' D → R (.inl none) h') : mv_V G jX0_setValueAt d 0 [(0, .ref D.1), (1, .int (nI (pb (mh_aI h D.2.1) L.length key))), (2, .long x)] [] h 0 0 R := by
  have hl := hp.1.2.2.2.2.2.2.2.2.2.2
  have eu := hp.1.2.2.2.2.2.2.2.2.2.1
  have hh := (pgL_has hp hu).mp hk
  have hs := pgL_rsg hp hu
  have e := pl_set (V := mh_aJ h D.2.2) (w := mh_fJ h 5 D.1) (x := x) hs hh
  rw [hp.2.2.2] at e
  have el : (putK L key x).length = L.length := by rw [← e, pl_len]
  have q : mh_saJ h D.2.2 (pb (mh_aI h D.2.1) L.length key) (x - mh_fJ h 5 D.1) = mh_pg h D.1 D.2.1 D.2.2 (nI L.length) lo hi (mh_fJ h 5 D.1) (mh_aI h D.2.1) (fun j => if j = pb (mh_aI h D.2.1) L.length key then x - mh_fJ h 5 D.1 else mh_aJ h D.2.2 j) := by
    refine mh_pg_eq (fun _ => rfl) (fun _ => rfl) (fun _ _ => rfl) (fun _ _ => rfl) eu hp.2.1 hp.2.2.1 (fun _ _ _ => rfl) rfl (fun _ _ _ => rfl) (fun _ => rfl) (fun _ _ _ => rfl) ?_ ?_
    · intro j; simp [mh_aJ_saJ]
    · intro a j ha; simp [mh_aJ_saJ, ha]
  refine c_setValueAt hp.1 (by omega) ?_
  rw [q]
  refine hR _ ?_ pgF_pg
  refine pgL_pg hp (by rw [el]) (by omega) ?_
  rw [el]; exact e
theorem gl_insert (hp : pgL h D lo hi L) (hu : up L) (hl : L.length < 32) (hk : ¬ hasK L key = true) (hR : ∀ h', pgL h' D lo hi (putK L key x) → pgF h h' D → R (.inl none) h') : mv_V G jX0_insertAt (d + 3) 0 [(0, .ref D.1), (1, .int (nI (pb (mh_aI h D.2.1) L.length key))), (2, .int key), (3, .long x)] [] h 0 0 R := by
  have hs := pgL_rsg hp hu
  have e := pl_ins (V := mh_aJ h D.2.2) (w := mh_fJ h 5 D.1) (x := x) hs (fun q => hk ((pgL_has hp hu).mpr q))
  rw [hp.2.2.2] at e
  have el : (putK L key x).length = L.length + 1 := by rw [← e, pl_len]
  refine c_insertAt hp.1 (pb_le _ _ _) hl (hR _ ?_ pgF_pg)
  rw [hp.2.1, hp.2.2.1]
  refine pgL_pg hp (by rw [el]) (by omega) ?_
  rw [el]; exact e
theorem i64_add_sub (x w : Int64) : x + w - w = x := by
  rw [Int64.sub_eq_add_neg, Int64.add_assoc, ← Int64.sub_eq_add_neg, Int64.sub_self, Int64.add_zero]
theorem pgL_sm2 (hp : pgL h D lo hi L) (hp2 : pgL h D2 lo2 hi2 L2) (h1 : D2.1 ≠ D.1) (h2 : D2.2.1 ≠ D.2.1) (h3 : D2.2.2 ≠ D.2.2) : (D2.1 ≠ D.2.1 ∧ D2.1 ≠ D.2.2) ∧ (D2.2.1 ≠ D.1 ∧ D2.2.1 ≠ D.2.2) ∧ (D2.2.2 ≠ D.1 ∧ D2.2.2 ≠ D.2.1) := by
  obtain ⟨e1, _, _, _, _, e6, _, e8, _⟩ := hp.1
  obtain ⟨g1, _, _, _, _, g6, _, g8, _⟩ := hp2.1
  refine ⟨⟨fun q => ?_, fun q => ?_⟩, ⟨fun q => ?_, fun q => ?_⟩, ⟨fun q => ?_, fun q => ?_⟩⟩
  · rw [q, e6] at g1; exact absurd g1 (by decide)
  · rw [q, e8] at g1; exact absurd g1 (by decide)
  · rw [q, e1] at g6; exact absurd g6 (by decide)
  · rw [q, e8] at g6; exact absurd g6 (by decide)
  · rw [q, e1] at g8; exact absurd g8 (by decide)
  · rw [q, e6] at g8; exact absurd g8 (by decide)
theorem gl_take (hp : pgL h D lo hi L) (hp2 : pgL h D2 lo2 hi2 L2) (h1 : D2.1 ≠ D.1) (h2 : D2.2.1 ≠ D.2.1) (h3 : D2.2.2 ≠ D.2.2) (hl : L.length + L2.length ≤ 32) (hR : ∀ h', pgL h' D lo hi2 (L ++ L2) → pgF h h' D → R (.inl none) h') : mv_V G jX0_takeAllOf (d + 3) 0 [(0, .ref D.1), (1, .ref D2.1)] [] h 0 0 R := by
  refine c_takeAll hp.1 hp2.1 h1 h2 h3 hl (hR _ ?_ pgF_pg)
  rw [hp.2.1, hp2.2.2.1]
  have el : (L ++ L2).length = L.length + L2.length := by simp
  refine pgL_pg hp (by rw [el]) (by omega) ?_
  rw [el]
  unfold pl
  rw [rm_add]
  congr 1
  · refine Eq.trans ?_ hp.2.2.2
    exact rm_congr (fun i hi => by simp [show ¬ L.length ≤ i by omega])
  · refine Eq.trans ?_ hp2.2.2.2
    refine rm_congr (fun i hi => ?_)
    have c : L.length ≤ L.length + i ∧ L.length + i < L.length + L2.length := by omega
    have e : L.length + i - L.length = i := by omega
    simp only [if_pos c, e, i64_sub_add]
theorem gl_copy (hp : pgL h D lo hi L) (hp2 : pgL h D2 lo2 hi2 L2) (h1 : D2.1 ≠ D.1) (h2 : D2.2.1 ≠ D.2.1) (h3 : D2.2.2 ≠ D.2.2) (hR : ∀ h', pgL h' D lo2 hi2 L2 → pgF h h' D → R (.inl none) h') : mv_V G jX0_copyFrom (d + 3) 0 [(0, .ref D.1), (1, .ref D2.1)] [] h 0 0 R := by
  have hl := hp2.1.2.2.2.2.2.2.2.2.2.2
  refine c_pgCopy hp.1 hp2.1 h1 h2 h3 (hR _ ?_ pgF_pg)
  rw [hp2.2.1, hp2.2.2.1]
  refine pgL_pg hp rfl hl ?_
  refine Eq.trans ?_ hp2.2.2.2
  exact rm_congr (fun i hi => by simp [hi])
theorem gl_give (hp : pgL h D lo hi L) (hp2 : pgL h D2 lo2 hi2 L2) (h1 : D2.1 ≠ D.1) (h2 : D2.2.1 ≠ D.2.1) (h3 : D2.2.2 ≠ D.2.2) (hl : L.length = 32) (hR : ∀ h' m A B, L = A ++ B → A.length = 16 → B.length = 16 → (B.head?.map Prod.fst) = some m → pgL h' D lo (m - 1) A → pgL h' D2 m hi B → (∀ a, a ≠ D.1 → a ≠ D.2.1 → a ≠ D.2.2 → a ≠ D2.1 → a ≠ D2.2.1 → a ≠ D2.2.2 → mh_sm h h' a) → R (.inl none) h') : mv_V G jX0_giveUpperHalfTo (d + 3) 0 [(0, .ref D.1), (1, .ref D2.1)] [] h 0 0 R := by
  obtain ⟨s1, s2, s3⟩ := pgL_sm2 hp hp2 h1 h2 h3
  obtain ⟨t1, t2, t3⟩ := pgL_sm2 hp2 hp (Ne.symm h1) (Ne.symm h2) (Ne.symm h3)
  refine c_giveUpper hp.1 hp2.1 h1 h2 h3 (by omega) ?_
  rw [hl, hp.2.1, hp.2.2.1]
  have q1 : 32 / 2 = 16 := rfl
  have q2 : 32 - 16 = 16 := rfl
  rw [q1, q2]
  have f3 := hp.2.2.2
  rw [hl] at f3
  generalize hA : pl (mh_aI h D.2.1) (mh_aJ h D.2.2) (mh_fJ h 5 D.1) 16 = A
  generalize hB : rm 16 (fun i => (mh_aI h D.2.1 (16 + i), mh_aJ h D.2.2 (16 + i) + mh_fJ h 5 D.1)) = B
  have lA : A.length = 16 := by rw [← hA, pl_len]
  have lB : B.length = 16 := by rw [← hB, rm_len]
  have g1 : pgL (mh_pg h D2.1 D2.2.1 D2.2.2 (nI 16) (mh_aI h D.2.1 16) hi (mh_fJ h 5 D.1) (fun j => if j < 16 then mh_aI h D.2.1 (16 + j) else mh_aI h D2.2.1 j) (fun j => if j < 16 then mh_aJ h D.2.2 (16 + j) else mh_aJ h D2.2.2 j)) D2 (mh_aI h D.2.1 16) hi B := by
    refine pgL_pg hp2 (by rw [lB]) (by omega) ?_
    rw [lB, ← hB]
    exact rm_congr (fun i hi => by simp [hi])
  have g2 : pgL (mh_pg h D2.1 D2.2.1 D2.2.2 (nI 16) (mh_aI h D.2.1 16) hi (mh_fJ h 5 D.1) (fun j => if j < 16 then mh_aI h D.2.1 (16 + j) else mh_aI h D2.2.1 j) (fun j => if j < 16 then mh_aJ h D.2.2 (16 + j) else mh_aJ h D2.2.2 j)) D lo hi L :=
    pgL_sm hp (mh_sm_pg (Ne.symm h1) t1.1 t1.2) (mh_sm_pg t2.1 (Ne.symm h2) t2.2) (mh_sm_pg t3.1 t3.2 (Ne.symm h3))
  refine hR _ (mh_aI h D.2.1 16) A B ?_ lA lB ?_ ?_ ?_ ?_
  · rw [← hA, ← hB, ← f3]
    unfold pl
    exact rm_add 16 16 _
  · rw [← hB]
    rfl
  · refine pgL_pg g2 (by rw [lA]) (by omega) ?_
    rw [lA]; exact hA
  · exact pgL_sm g1 (mh_sm_pg h1 s1.1 s1.2) (mh_sm_pg s2.1 h2 s2.2) (mh_sm_pg s3.1 s3.2 h3)
  · intro c c1 c2 c3 c4 c5 c6
    exact mh_sm_tr (mh_sm_pg c4 c5 c6) (mh_sm_pg c1 c2 c3)
end PL
