/-! Cells of the pure heap, and what it is that a heap holds it. -/
def mv_vr (n : Nat) : Value := if n = 0 then .null else .ref n
def mv_or (n : Nat) : Option Nat := if n = 0 then none else some n
theorem mv_rf_or (n : Nat) : va_rf (mv_or n) = mv_vr n := by
  unfold mv_or mv_vr
  by_cases h : n = 0 <;> simp [h, va_rf]
def mv_fv (h : mh_T) (t F a : Nat) : Value := if t = 0 then .int (mh_fI h F a) else if t = 1 then .long (mh_fJ h F a) else mv_vr (mh_fR h F a)
def mv_fs (h : mh_T) : List Nat → Nat → Nat → List Value
  | [], _, _ => []
  | t :: r, F, a => mv_fv h t F a :: mv_fs h r (F + 1) a
theorem mv_fs_get (h : mh_T) {ts : List Nat} {k t : Nat} (F a : Nat) (hk : ts[k]? = some t) : (mv_fs h ts F a)[k]? = some (mv_fv h t (F + k) a) := by
  induction ts generalizing k F with
  | nil => cases hk
  | cons x r ih =>
    cases k with
    | zero =>
      have e : x = t := Option.some.inj hk
      subst e
      rfl
    | succ k =>
      show (mv_fs h r (F + 1) a)[k]? = _
      rw [ih (F + 1) hk]
      rw [show F + 1 + k = F + (k + 1) by omega]
theorem mv_fs_len (h : mh_T) (ts : List Nat) (F a : Nat) : (mv_fs h ts F a).length = ts.length := by
  induction ts generalizing F with
  | nil => rfl
  | cons x r ih => simp [mv_fs, ih]
/-- two heaps with the same fields at a give the same list -/
theorem mv_fs_congr {h h' : mh_T} {ts : List Nat} {F a : Nat} (e : ∀ (k t : Nat), ts[k]? = some t → mv_fv h' t (F + k) a = mv_fv h t (F + k) a) : mv_fs h' ts F a = mv_fs h ts F a := by
  induction ts generalizing F with
  | nil => rfl
  | cons x r ih =>
    have e0 := e 0 x rfl
    rw [Nat.add_zero] at e0
    have e1 : mv_fs h' r (F + 1) a = mv_fs h r (F + 1) a := ih (fun k t hk => by
      have := e (k + 1) t hk
      rw [show F + (k + 1) = F + 1 + k by omega] at this
      exact this)
    simp only [mv_fs, e0, e1]
theorem mv_fs_set {h h' : mh_T} {ts : List Nat} {F a k t0 : Nat} {v : Value} (hk : ts[k]? = some t0) (e0 : mv_fv h' t0 (F + k) a = v) (e : ∀ (j t : Nat), j ≠ k → ts[j]? = some t → mv_fv h' t (F + j) a = mv_fv h t (F + j) a) : mv_fs h' ts F a = (mv_fs h ts F a).set k v := by
  induction ts generalizing F k with
  | nil => cases hk
  | cons x r ih =>
    cases k with
    | zero =>
      have ex : x = t0 := Option.some.inj hk
      subst ex
      have e1 : mv_fs h' r (F + 1) a = mv_fs h r (F + 1) a := mv_fs_congr (fun j t hj => by
        have := e (j + 1) t (by omega) hj
        rw [show F + (j + 1) = F + 1 + j by omega] at this
        exact this)
      rw [Nat.add_zero] at e0
      simp only [mv_fs, e0, e1, List.set_cons_zero]
    | succ k =>
      have ex := e 0 x (by omega) rfl
      rw [Nat.add_zero] at ex
      have e1 : mv_fs h' r (F + 1) a = (mv_fs h r (F + 1) a).set k v := by
        refine ih hk (by rw [show F + 1 + k = F + (k + 1) by omega]; exact e0) (fun j t hj hjt => ?_)
        have := e (j + 1) t (by omega) hjt
        rw [show F + (j + 1) = F + 1 + j by omega] at this
        exact this
      simp only [mv_fs, ex, e1, List.set_cons_succ]
def mv_cel (G : mv_G) (h : mh_T) (a : Nat) : va_E :=
  if mh_kd h a = 50 then .inl (mg_A G 0, mh_ln h a, .inl (mh_aI h a))
  else if mh_kd h a = 51 then .inl (mg_A G 1, mh_ln h a, .inr (.inl (mh_aJ h a)))
  else if mh_kd h a = 52 then .inl (mg_A G 2, mh_ln h a, .inl (mh_aI h a))
  else if mh_kd h a = 53 then .inl (mg_A G 3, mh_ln h a, .inl (mh_aI h a))
  else if mh_kd h a = 54 then .inl (mg_A G 4, mh_ln h a, .inr (.inr (.inr (.inr (fun j => mv_or (mh_aR h a j))))))
  else if mh_kd h a = 55 then .inl (mg_A G 5, mh_ln h a, .inr (.inr (.inr (.inr (fun j => mv_or (mh_aR h a j))))))
  else .inr (mh_kd h a - 1, mv_fs h (mv_tags (mh_kd h a - 1)) (100 * (mh_kd h a - 1)) a)
theorem mv_cel50 {G : mv_G} {h : mh_T} {a : Nat} (hk : mh_kd h a = 50) : mv_cel G h a = .inl (mg_A G 0, mh_ln h a, .inl (mh_aI h a)) := by simp [mv_cel, hk]
theorem mv_cel51 {G : mv_G} {h : mh_T} {a : Nat} (hk : mh_kd h a = 51) : mv_cel G h a = .inl (mg_A G 1, mh_ln h a, .inr (.inl (mh_aJ h a))) := by simp [mv_cel, hk]
theorem mv_cel52 {G : mv_G} {h : mh_T} {a : Nat} (hk : mh_kd h a = 52) : mv_cel G h a = .inl (mg_A G 2, mh_ln h a, .inl (mh_aI h a)) := by simp [mv_cel, hk]
theorem mv_cel53 {G : mv_G} {h : mh_T} {a : Nat} (hk : mh_kd h a = 53) : mv_cel G h a = .inl (mg_A G 3, mh_ln h a, .inl (mh_aI h a)) := by simp [mv_cel, hk]
theorem mv_cel54 {G : mv_G} {h : mh_T} {a : Nat} (hk : mh_kd h a = 54) : mv_cel G h a = .inl (mg_A G 4, mh_ln h a, .inr (.inr (.inr (.inr (fun j => mv_or (mh_aR h a j)))))) := by simp [mv_cel, hk]
theorem mv_cel55 {G : mv_G} {h : mh_T} {a : Nat} (hk : mh_kd h a = 55) : mv_cel G h a = .inl (mg_A G 5, mh_ln h a, .inr (.inr (.inr (.inr (fun j => mv_or (mh_aR h a j)))))) := by simp [mv_cel, hk]
theorem mv_celO {G : mv_G} {h : mh_T} {a ci : Nat} (hk : mh_kd h a = ci + 1) (hc : ci < 40) : mv_cel G h a = .inr (ci, mv_fs h (mv_tags ci) (100 * ci) a) := by
  have e : mh_kd h a - 1 = ci := by omega
  unfold mv_cel
  rw [if_neg (by omega), if_neg (by omega), if_neg (by omega), if_neg (by omega), if_neg (by omega), if_neg (by omega), e]
/-- a cell's contents go by what the readers read at its address -/
theorem mv_cel_congr {G : mv_G} {h h' : mh_T} {a : Nat} (e1 : mh_kd h' a = mh_kd h a) (e2 : mh_ln h' a = mh_ln h a) (e3 : ∀ F, mh_fI h' F a = mh_fI h F a) (e4 : ∀ F, mh_fJ h' F a = mh_fJ h F a) (e5 : ∀ F, mh_fR h' F a = mh_fR h F a) (e6 : mh_aI h' a = mh_aI h a) (e7 : mh_aJ h' a = mh_aJ h a) (e8 : mh_aR h' a = mh_aR h a) : mv_cel G h' a = mv_cel G h a := by
  have ef : ∀ ts F, mv_fs h' ts F a = mv_fs h ts F a := fun ts F => mv_fs_congr (fun k t _ => by simp only [mv_fv, e3, e4, e5])
  simp only [mv_cel, e1, e2, e6, e7, e8, ef]
def mv_tys (G : mv_G) : List (ClassId × FieldType) := [(mg_A G 0, .int), (mg_A G 1, .long), (mg_A G 2, .boolean), (mg_A G 3, .byte), (mg_A G 4, .object "LazyPages$PageTable"), (mg_A G 5, .object "LazyPages$Page")]
/-- the heap H holds h -/
def mv_H (G : mv_G) (h : mh_T) (H : Heap) : Prop := ∃ Ls : List Nat, (∀ a, a ∈ Ls ↔ mh_kd h a ≠ 0) ∧ va_P (mg_D G) vwCl (va_pl Ls (mv_cel G h)) H ∧ va_D (fun q => mg_B G ≤ q) (va_pl Ls (mv_cel G h))
def mv_xn (k : Nat) : String := if k = 0 then "java/lang/UnsupportedOperationException" else if k = 1 then "java/lang/IllegalArgumentException" else "java/lang/IndexOutOfBoundsException"
/-- the texts of what is thrown -/
def mv_strs : List (Nat × String) := [(136, "the message is refused"), (141, "from is above to"), (139, "there would be too many messages"), (79, "n is not 0 .. 300"), (145, "the view is not 0 .. 3"), (151, "the view is none"), (98, "there are not so many keys, or k is below 0"), (128, "what is not 0 .. 2")]
/-- what throws need of a method's start -/
def mv_X (G : mv_G) (s : State) : Prop := (∀ k, s.vm.findClass (mv_xn k) = some (mg_X G k)) ∧ (vx_Zq Bundle.tN "UNASSIGNED_STACK" Bundle.steD (fun q => mg_B G ≤ q) s s.heap ∧ vx_Zq Bundle.tN "SUPPRESSED_SENTINEL" Bundle.listD (fun q => mg_B G ≤ q) s s.heap) ∧ (∀ q ∈ mv_strs, ∃ sa, vk_R "LazyPages" q.1 q.2 sa s) ∧ (∀ j k, j < 3 → k < 3 → j ≠ k → va_Nc (mv_xn j) (mv_xn k) s) ∧ (mg_l G).stackTraces = false
theorem mv_X.moved {G : mv_G} {s U : State} (hW : s.WarmedH U.vm) (h : mv_X G s) (hb : ∀ a : Nat, a < s.heap.size → ¬ mg_B G ≤ a → U.heap[a]? = s.heap[a]?) : mv_X G U := by
  obtain ⟨h1, ⟨h2, h3⟩, h4, h5, h6⟩ := h
  exact ⟨fun k => by rw [hW.alike.findClass]; exact h1 k, ⟨(h2.kept hb).moved hW.alike, (h3.kept hb).moved hW.alike⟩, fun q hq => by obtain ⟨sa, z⟩ := h4 q hq; exact ⟨sa, z.warm hW⟩, fun j k a b c => (h5 j k a b c).moved hW.alike, h6⟩
/-- what a method's start has -/
def mv_C (G : mv_G) (s : State) : Prop :=
  (∀ w, mv_Wd w → ∀ a : Array Value, w.before a s = true) ∧ va_K (mg_D G) vwCl (mv_tys G) s ∧ s.heap[mg_b G]? = some (mg_c G) ∧ s.isArrayOf (mg_c G) .int ∧ mg_B G ≤ s.heap.size ∧
    mv_X G s ∧ (mg_b G < mg_B G ∧ (mg_c G).vm ≠ .unknown ∧ (mg_c G).slots.size = mg_L G ∧ ∀ j : Nat, j < mg_L G → (mg_c G).slots[j]? = some (.int (mg_x G j)))
theorem mv_gd_at {w : Cond} (hg : mv_gd w) {s U : State} (hW : s.WarmedH U.vm) (h : ∀ a : Array Value, w.before a s = true) (a : Array Value) : w.before a U = true := by
  rcases hg with g | g | ⟨C, rfl⟩ | ⟨x, rfl⟩ | ⟨b, c, rfl⟩
  · exact word_at hW (Or.inl g) (h a)
  · exact word_at hW (Or.inr g) (h a)
  · have z : va_AO C U := va_AO.moved hW.alike (h #[])
    unfold va_AO at z
    simp only [Cond.before, Cond.holds, Cond.value] at z ⊢
    exact z
  · have z : va_Nw (.declares x) U := va_Nw.warmD hW (h #[])
    exact va_tabs (u := U) rfl rfl z
  · have z := h #[]
    rw [← Cond.castable_setVm hW.alike b c] at z
    exact va_tabs (u := s.setVm U.vm) rfl rfl z
theorem mv_C.moved {G : mv_G} {s U : State} (hW : s.WarmedH U.vm) (h : mv_C G s) (hb : ∀ a : Nat, a < s.heap.size → ¬ mg_B G ≤ a → U.heap[a]? = s.heap[a]?) (hs : s.heap.size ≤ U.heap.size) : mv_C G U := by
  obtain ⟨h1, h2, h3, h4, h5, h6, h7⟩ := h
  have h8 := h7.1
  exact ⟨fun w hw a => mv_gd_at hw.2 hW (h1 w hw) a, h2.moved hW.alike, (hb _ (by omega) (by omega)).trans h3, State.isArrayOf_alike hW.alike h4, Nat.le_trans h5 hs, h6.moved hW hb, h7⟩
def mv_E (G : mv_G) (below : List Frame) (t : State) : mv_O → Prop
  | .inl v => Ended t below (.returned v)
  | .inr k => ∃ (a : Addr) (cell : Cell), Ended t below (.threw a) ∧ t.heap[a]? = some cell ∧ cell.vm.isStatics = false ∧ cell.cls = mg_X G k
/-- a method's end -/
def mv_Q (G : mv_G) (below : List Frame) (s : State) (mc ms : Nat) (R : mv_O → mh_T → Prop) : State → Prop := fun t =>
  ∃ (o : mv_O) (h' : mh_T), t.status = .running ∧ R o h' ∧ mv_H G h' t.heap ∧ s.WarmedH t.vm ∧ (∃ L, s.sameButNew ({ t with vm := s.vm } : State) L mc ms ∧ ∀ q ∈ L, mg_B G ≤ q.base) ∧ mv_E G below t o
def mv_At (G : mv_G) (I : mv_M) (d : Nat) (p : Program) (Rm : Room) (s : State) (m : MethodId) (meth : Method) (c : Code) (mc ms : Nat) : Prop :=
  p.tables.exec = Jvm.exec ∧ c.code = I.2.1 ∧ meth.sig.returnType = I.2.2.2.1 ∧ meth.locks = false ∧ c.exceptionTable.toList.map (fun h => (h.startPc, h.endPc, h.handlerPc, h.catchType)) = I.2.2.2.2 ∧ c.maxLocals = I.2.2.1 ∧ s.vm.findClass I.1.cls = some m.cls ∧ meth.name = I.1.name ∧ mv_C G s ∧ (mc ≤ Rm.cells ∧ ms ≤ Rm.slots ∧ d ≤ Rm.frames ∧ d * 36 ≤ Rm.locals)
/-- from pc, with the locals lo, the stack st, the pure heap h, d frames and kc cells of ks slots left, the method I comes to an end with R -/
def mv_V (G : mv_G) (I : mv_M) (d pc : Nat) (lo : List (Nat × Value)) (st : List Value) (h : mh_T) (kc ks : Nat) (R : mv_O → mh_T → Prop) : Prop :=
  ∀ (p : Program) (e : Env) (Rm : Room) (s : State) (m : MethodId) (args : Array Value) (below : List Frame) (meth : Method) (c : Code) (H : Heap) (locs : List Loc) (cells slots : Nat) (ls : Array Slot) (mc ms : Nat),
    mv_At G I d p Rm s m meth c mc ms → mv_H G h H → va_S (fun q => mg_B G ≤ q) s.heap H locs → lv_has ls I.2.2.1 lo → cells + kc ≤ mc → slots + ks ≤ ms →
    W p (mg_l G) e Rm s m args below meth c H locs cells slots (mv_Q G below s mc ms R) (F0 m pc ls st)
theorem mv_imp {p : Program} {l : Launch} {e : Env} {R : Room} {s : State} {m : MethodId} {args : Array Value} {below : List Frame} {meth : Method} {c : Code} {H : Heap} {locs : List Loc} {cells slots : Nat} {Q Q' : State → Prop} {g : JFrame} (h : ∀ t, Q t → Q' t) (k : W p l e R s m args below meth c H locs cells slots Q g) : W p l e R s m args below meth c H locs cells slots Q' g := fun T hT X => by
  obtain ⟨t, a, b⟩ := k T hT X
  exact ⟨t, a, h t b⟩
theorem mv_fin {G : mv_G} {below : List Frame} {s t : State} {args : Array Value} {mc ms : Nat} {R : mv_O → mh_T → Prop} {h : mh_T} {H : Heap} {v : Option Value} (k : R (.inl v) h) (hH : mv_H G h H)
    (q : MQ below (fun _ _ o t => o = .returned v ∧ t.heap = H) args s mc ms (fun q => mg_B G ≤ q) t) : mv_Q G below s mc ms R t := by
  obtain ⟨o, h1, h2, ⟨rfl, h4⟩, L, ⟨-, h6, h7⟩, h8⟩ := q
  exact ⟨.inl v, h, h1, k, by rw [h4]; exact hH, h6, ⟨L, h7, h8⟩, h2⟩
theorem mv_H.at {G : mv_G} {h : mh_T} {H : Heap} (hH : mv_H G h H) {a : Nat} (ha : mh_kd h a ≠ 0) : va_at (mg_D G) vwCl (a, mv_cel G h a) H ∧ mg_B G ≤ a := by
  obtain ⟨Ls, h1, h2, h3⟩ := hH
  obtain ⟨k, hk⟩ := va_pl_get (X := []) (f := mv_cel G h) ((h1 a).mpr ha)
  exact ⟨h2 k _ hk, h3.2 k _ hk⟩
/-- one cell, as a world -/
theorem mv_H.one {G : mv_G} {h : mh_T} {H : Heap} (hH : mv_H G h H) {a : Nat} (ha : mh_kd h a ≠ 0) : va_P (mg_D G) vwCl [(a, mv_cel G h a)] H := by
  intro k q hq
  cases k with
  | zero => cases hq; exact (hH.at ha).1
  | succ k => cases hq
/-- behind a store into one cell -/
theorem mv_H.up {G : mv_G} {h h' : mh_T} {H1 : Heap} {Ls : List Nat} (h1 : ∀ a, a ∈ Ls ↔ mh_kd h a ≠ 0) (hD : va_D (fun q => mg_B G ≤ q) (va_pl Ls (mv_cel G h))) {a n : Nat} (ha : a ∈ Ls) (hn : (va_pl Ls (mv_cel G h))[n]? = some (a, mv_cel G h a)) {x : va_E} (hx : mv_cel G h' a = x) (ho : ∀ b, b ≠ a → mv_cel G h' b = mv_cel G h b) (hk : ∀ b, mh_kd h' b = mh_kd h b)
    (hP : va_P (mg_D G) vwCl ((va_pl Ls (mv_cel G h)).set n (a, x)) H1) (hD1 : va_D (fun q => mg_B G ≤ q) ((va_pl Ls (mv_cel G h)).set n (a, x))) : mv_H G h' H1 := by
  have e : (va_pl Ls (mv_cel G h)).set n (a, x) = va_pl Ls (mv_cel G h') := by
    have e1 := va_pl_set (X := []) (e := x) hD ha hn
    rw [List.nil_append, List.nil_append] at e1
    rw [e1]
    apply va_pl_congr
    intro b
    by_cases hb : b = a
    · subst hb; rw [va_up_self, hx]
    · rw [va_up_ne _ _ hb, ho b hb]
  rw [e] at hP hD1
  exact ⟨Ls, fun b => by rw [hk b]; exact h1 b, hP, hD1⟩
theorem mv_H.place {G : mv_G} {h : mh_T} {H : Heap} (hH : mv_H G h H) {a : Nat} (ha : mh_kd h a ≠ 0) : ∃ (Ls : List Nat) (n : Nat), (∀ a, a ∈ Ls ↔ mh_kd h a ≠ 0) ∧ va_P (mg_D G) vwCl (va_pl Ls (mv_cel G h)) H ∧ va_D (fun q => mg_B G ≤ q) (va_pl Ls (mv_cel G h)) ∧ a ∈ Ls ∧ (va_pl Ls (mv_cel G h))[n]? = some (a, mv_cel G h a) := by
  obtain ⟨Ls, h1, h2, h3⟩ := hH
  obtain ⟨k, hk⟩ := va_pl_get (X := []) (f := mv_cel G h) ((h1 a).mpr ha)
  exact ⟨Ls, k, h1, h2, h3, (h1 a).mpr ha, hk⟩
/-- behind a new cell -/
theorem mv_H.new {G : mv_G} {h : mh_T} {H1 : Heap} {Ls : List Nat} (h1 : ∀ a, a ∈ Ls ↔ mh_kd h a ≠ 0) {q k n : Nat} (hq : q ∉ Ls) (hk : k ≠ 0) {x : va_E} (hx : mv_cel G (mh_new h q k n) q = x)
    (hP : va_P (mg_D G) vwCl (va_pl Ls (mv_cel G h) ++ [(q, x)]) H1) (hD : va_D (fun q => mg_B G ≤ q) (va_pl Ls (mv_cel G h) ++ [(q, x)])) : mv_H G (mh_new h q k n) H1 := by
  have e : va_pl Ls (mv_cel G h) ++ [(q, x)] = va_pl (Ls ++ [q]) (mv_cel G (mh_new h q k n)) := by
    rw [va_pl_push hq]
    apply va_pl_congr
    intro b
    by_cases hb : b = q
    · subst hb; rw [va_up_self, hx]
    · rw [va_up_ne _ _ hb]
      exact (mv_cel_congr (by rw [mh_kd_new, if_neg hb]) (by rw [mh_ln_new, if_neg hb]) (fun F => by rw [mh_fI_new, if_neg hb]) (fun F => by rw [mh_fJ_new, if_neg hb]) (fun F => by rw [mh_fR_new, if_neg hb]) (by funext j; rw [mh_aI_new, if_neg hb]) (by funext j; rw [mh_aJ_new, if_neg hb]) (by funext j; rw [mh_aR_new, if_neg hb])).symm
  rw [e] at hP hD
  refine ⟨Ls ++ [q], fun b => ?_, hP, hD⟩
  rw [List.mem_append, mh_kd_new, h1 b]
  by_cases hb : b = q
  · subst hb; simp [hk]
  · simp [hb]
