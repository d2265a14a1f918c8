/-! The law's entry, and the claim out of it (what follows lw_begin goes as the starting text has it, but that the launch's flags, the law's name and its handlers are kept). -/
theorem lw_st {l : Launch} (h : l.flags = flags0) : l.stackTraces = false := by
  unfold Launch.stackTraces
  rw [h]
  unfold flags0
  simp
def R_law : String := "LazyPagesLaw"
def lw_P (b : Addr) (xs : List Int32) (args : Array Value) (s : State) : Prop := args = #[.ref b] ∧ s.IntsAt b xs ∧ xs.length ≤ 4096 ∧ (Jvm.Cond.and given_1 narrow_1).before args s = true
def lw_Q (_ : Array Value) (s : State) (o : Outcome) (t : State) : Prop := o = .returned (some (.int 1)) ∧ Framed s o t [] 601024 7293034
def lw_Z (below : List Frame) (a : Array Value) (s : State) : State → Prop := fun t => ∃ o, t.status = .running ∧ Ended t below o ∧ lw_Q a s o t
def lw_At (p : Program) (s : State) (m : MethodId) (meth : Method) (c : Code) (b L : Nat) (xs : Nat → Int32) : Prop :=
  p.tables.exec = Jvm.exec ∧ c.code = code ∧ meth.sig.returnType = ret ∧ c.maxLocals = 8 ∧ s.vm.findClass R_law = some m.cls ∧ (∀ w ∈ lw_tbl, w.before #[Value.ref b] s = true) ∧ va_X b L xs s s.heap ∧ b < s.heap.size ∧ meth.locks = false ∧ (Jvm.Cond.and given_1 narrow_1).before #[Value.ref b] s = true ∧ c.exceptionTable.toList.map (fun h => (h.startPc, h.endPc, h.handlerPc, h.catchType)) = [] ∧ meth.name = "law"
section ST
variable {s : State} {args : Array Value}
theorem st_words (hts : ∀ w ∈ lw_tbl, w.before args s = true) (w : Cond) (hw : mv_Wd w) (a : Array Value) : w.before a s = true := by
  obtain ⟨h1, h2⟩ := hw
  have h3 := hts w h1
  rcases h2 with g | ⟨ty, rfl⟩ | ⟨C, rfl⟩ | ⟨x, rfl⟩ | ⟨b, c, rfl⟩
  · rw [Bool.and_eq_true] at g
    exact va_tabs g.1 rfl h3
  · exact word_at (State.WarmedH.refl s) (Or.inr ⟨ty, rfl⟩) h3
  · exact va_AO.use (va_AO.of h3)
  · exact va_tabs rfl rfl h3
  · exact va_tabs rfl rfl h3
theorem st_arr {ty : FieldType} (h : (Cond.arrayClass ty).before args s = true) (hp : ∀ C, ty ≠ .object C) : ∃ cA : ClassId, ArrOfT s cA ty ∧ va_RA s cA ty := by
  obtain ⟨cA, kA, comp, h1, h2, h3⟩ := Cond.arrayClass_spec (args := args) (first := s) (o := none) (s := s) (idx := []) h
  refine ⟨cA, fun n z => ⟨fun k h => (by cases h), kA, h2, comp, h3⟩, ?_⟩
  cases ty with
  | object C => exact absurd rfl (hp C)
  | _ => exact h1
theorem st_arrO {C : String} (h : (Cond.arrayOver (.object C)).before args s = true) : ∃ cA : ClassId, ArrOfT s cA (.object C) ∧ va_RA s cA (.object C) := by
  obtain ⟨comp, cA, kA, h1, h2, h3, h4, h5⟩ := Cond.arrayOver_spec (args := args) (first := s) (o := none) (s := s) (idx := []) h
  exact ⟨cA, fun n z => ⟨fun k h => (by cases h), kA, h3, comp, h4⟩, kA, comp, h3, h4, h1, h5⟩
theorem st_str {k : Nat} {tx : String} (h1 : (Cond.stringRef "LazyPages" k tx).before args s = true) (h2 : (Cond.exactly (.string "LazyPages" k) "java/lang/String").before args s = true) : ∃ sa, vk_R "LazyPages" k tx sa s := by
  obtain ⟨a, c, cell, kk, g1, _⟩ := Cond.exactly_spec (args := args) (first := s) (o := none) (s := s) (idx := []) h2
  exact ⟨a, vk_R.of h1 g1⟩
theorem st_known {C : String} {T : u_T} {n : Nat} (hts : ∀ w ∈ lw_tbl, w.before args s = true) (hw : ∀ w ∈ u_ws C T n, mv_Wd w) (hi : mv_Wd (.instantiable C n)) : ∃ (cC : ClassId) (iS : Nat → Nat), u_Kn s C T n cC iS :=
  u_known hts (fun w h => (hw w h).1) (hts _ hi.1)
end ST
set_option maxHeartbeats 4000000 in
set_option maxRecDepth 100000 in
theorem lw_world {s : State} {b L : Nat} {xs : Nat → Int32} (l : Launch) (hfl : l.flags = flags0) (hts : ∀ w ∈ lw_tbl, w.before #[Value.ref b] s = true) (hX : va_X b L xs s s.heap) (hb : b < s.heap.size) (hgv : (Jvm.Cond.and given_1 narrow_1).before #[Value.ref b] s = true) : ∃ G : mv_G, mg_l G = l ∧ mg_B G = s.heap.size ∧ mg_b G = b ∧ mg_L G = L ∧ mv_C G s := by
  have hs := flat_of_before _ hgv
  obtain ⟨scr, s1, s2, s3, s4, s5⟩ := hX
  obtain ⟨c0, i0, q0⟩ := st_known hts wsX0_wd wd243
  obtain ⟨c1, i1, q1⟩ := st_known hts wsX1_wd wd30
  obtain ⟨c2, i2, q2⟩ := st_known hts wsX2_wd wd379
  obtain ⟨c3, i3, q3⟩ := st_known hts wsX3_wd wd384
  obtain ⟨a0, r0⟩ := st_arr (hts _ na_int.1) (fun C h => by cases h)
  obtain ⟨a1, r1⟩ := st_arr (hts _ na_long.1) (fun C h => by cases h)
  obtain ⟨a2, r2⟩ := st_arr (hts _ na_boolean.1) (fun C h => by cases h)
  obtain ⟨a3, r3⟩ := st_arr (hts _ na_byte.1) (fun C h => by cases h)
  obtain ⟨a4, r4⟩ := st_arrO (hts _ aX2_7.2.1)
  obtain ⟨a5, r5⟩ := st_arrO (hts _ aX1_9.2.1)
  have n01 : va_Nc (mv_xn 0) (mv_xn 1) s := va_Nc.of (hs (.not (.castable "java/lang/UnsupportedOperationException" "java/lang/IllegalArgumentException")) (by decide +kernel))
  have n02 : va_Nc (mv_xn 0) (mv_xn 2) s := va_Nc.of (hs (.not (.castable "java/lang/UnsupportedOperationException" "java/lang/IndexOutOfBoundsException")) (by decide +kernel))
  have n10 : va_Nc (mv_xn 1) (mv_xn 0) s := va_Nc.of (hs (.not (.castable "java/lang/IllegalArgumentException" "java/lang/UnsupportedOperationException")) (by decide +kernel))
  have n12 : va_Nc (mv_xn 1) (mv_xn 2) s := va_Nc.of (hs (.not (.castable "java/lang/IllegalArgumentException" "java/lang/IndexOutOfBoundsException")) (by decide +kernel))
  have n20 : va_Nc (mv_xn 2) (mv_xn 0) s := va_Nc.of (hs (.not (.castable "java/lang/IndexOutOfBoundsException" "java/lang/UnsupportedOperationException")) (by decide +kernel))
  have n21 : va_Nc (mv_xn 2) (mv_xn 1) s := va_Nc.of (hs (.not (.castable "java/lang/IndexOutOfBoundsException" "java/lang/IllegalArgumentException")) (by decide +kernel))
  obtain ⟨x0, x1, y0, y1, _⟩ := id n01
  obtain ⟨x2, _, y2, _, _⟩ := id n20
  have z1 : (Cond.isRef (.static Bundle.tN "UNASSIGNED_STACK" Bundle.steD)).before #[Value.ref b] s = true := hs _ (by decide +kernel)
  have z2 : (Cond.isRef (.static Bundle.tN "SUPPRESSED_SENTINEL" Bundle.listD)).before #[Value.ref b] s = true := hs _ (by decide +kernel)
  have z3 : (Cond.laysStatic Bundle.tN "UNASSIGNED_STACK" Bundle.steD).before #[Value.ref b] s = true := hts _ (by decide +kernel)
  have z4 : (Cond.laysStatic Bundle.tN "SUPPRESSED_SENTINEL" Bundle.listD).before #[Value.ref b] s = true := hts _ (by decide +kernel)
  have z5 : (Cond.initialized Bundle.tN).before #[Value.ref b] s = true := hts _ (by decide +kernel)
  have t1 := st_str (hts (.stringRef "LazyPages" 136 "the message is refused") (by decide +kernel)) (hs (.exactly (.string "LazyPages" 136) "java/lang/String") (by decide +kernel))
  have t2 := st_str (hts (.stringRef "LazyPages" 141 "from is above to") (by decide +kernel)) (hs (.exactly (.string "LazyPages" 141) "java/lang/String") (by decide +kernel))
  have t3 := st_str (hts (.stringRef "LazyPages" 139 "there would be too many messages") (by decide +kernel)) (hs (.exactly (.string "LazyPages" 139) "java/lang/String") (by decide +kernel))
  have t4 := st_str (hts (.stringRef "LazyPages" 79 "n is not 0 .. 300") (by decide +kernel)) (hs (.exactly (.string "LazyPages" 79) "java/lang/String") (by decide +kernel))
  have t5 := st_str (hts (.stringRef "LazyPages" 145 "the view is not 0 .. 3") (by decide +kernel)) (hs (.exactly (.string "LazyPages" 145) "java/lang/String") (by decide +kernel))
  have t6 := st_str (hts (.stringRef "LazyPages" 151 "the view is none") (by decide +kernel)) (hs (.exactly (.string "LazyPages" 151) "java/lang/String") (by decide +kernel))
  have t7 := st_str (hts (.stringRef "LazyPages" 98 "there are not so many keys, or k is below 0") (by decide +kernel)) (hs (.exactly (.string "LazyPages" 98) "java/lang/String") (by decide +kernel))
  have t8 := st_str (hts (.stringRef "LazyPages" 128 "what is not 0 .. 2") (by decide +kernel)) (hs (.exactly (.string "LazyPages" 128) "java/lang/String") (by decide +kernel))
  have nB : ∀ a : Nat, a < s.heap.size → ¬ s.heap.size ≤ a := fun a ha => by omega
  refine ⟨(l, (fun c => if c = 0 then c0 else if c = 1 then c1 else if c = 2 then c2 else c3, fun c => if c = 0 then i0 else if c = 1 then i1 else if c = 2 then i2 else i3), (fun k => if k = 0 then a0 else if k = 1 then a1 else if k = 2 then a2 else if k = 3 then a3 else if k = 4 then a4 else a5), (fun k => if k = 0 then x0 else if k = 1 then x1 else x2), s.heap.size, b, scr, L, xs), rfl, rfl, rfl, rfl, st_words hts, ⟨fun c q hq => ?_, fun k q hq => ?_⟩, s1, s2, Nat.le_refl _, ⟨fun k => ?_, ⟨vx_Zqof z3 z5 z1 nB, vx_Zqof z4 z5 z2 nB⟩, fun q hq => ?_, fun j k hj hk hjk => ?_, lw_st hfl⟩, hb, s3, s4, s5⟩
  · match c, hq with
    | 0, h => cases h; exact q0
    | 1, h => cases h; exact q1
    | 2, h => cases h; exact q2
    | 3, h => cases h; exact q3
    | c + 4, h => cases h
  · match k, hq with
    | 0, h => cases h; exact r0
    | 1, h => cases h; exact r1
    | 2, h => cases h; exact r2
    | 3, h => cases h; exact r3
    | 4, h => cases h; exact r4
    | 5, h => cases h; exact r5
    | k + 6, h => cases h
  · by_cases k0 : k = 0
    · subst k0; exact y0
    · by_cases k1 : k = 1
      · subst k1; exact y1
      · have e1 : mv_xn k = mv_xn 2 := by
          unfold mv_xn
          rw [if_neg k0, if_neg k1, if_neg (by decide), if_neg (by decide)]
        have e2 : (if k = 0 then x0 else if k = 1 then x1 else x2) = x2 := by rw [if_neg k0, if_neg k1]
        show s.vm.findClass (mv_xn k) = some (if k = 0 then x0 else if k = 1 then x1 else x2)
        rw [e1, e2]
        exact y2
  · unfold mv_strs at hq
    simp only [List.mem_cons, List.not_mem_nil, or_false] at hq
    rcases hq with rfl | rfl | rfl | rfl | rfl | rfl | rfl | rfl
    · exact t1
    · exact t2
    · exact t3
    · exact t4
    · exact t5
    · exact t6
    · exact t7
    · exact t8
  · match j, k, hj, hk, hjk with
    | 0, 0, _, _, h => exact absurd rfl h
    | 0, 1, _, _, _ => exact n01
    | 0, 2, _, _, _ => exact n02
    | 1, 0, _, _, _ => exact n10
    | 1, 1, _, _, h => exact absurd rfl h
    | 1, 2, _, _, _ => exact n12
    | 2, 0, _, _, _ => exact n20
    | 2, 1, _, _, _ => exact n21
    | 2, 2, _, _, h => exact absurd rfl h
    | j + 3, _, h, _, _ => omega
    | _, k + 3, _, h, _ => omega
theorem mh_0_H (G : mv_G) (H : Heap) : mv_H G mh_0 H := ⟨[], fun a => ⟨fun h => absurd h List.not_mem_nil, fun h => absurd rfl h⟩, fun k q h => (by cases h), fun i j p q h => (by cases h), fun k q h => (by cases h)⟩
set_option maxHeartbeats 4000000 in
theorem whole_start {p : Program} {e : Env} {s : State} {m : MethodId} {below : List Frame} {meth : Method} {c : Code} (l : Launch) (hfl : l.flags = flags0) {b L : Nat} {xs : Nat → Int32} (hL : L ≤ 4096) (C0 : lw_At p s m meth c b L xs) : W p l e room_1 s m #[Value.ref b] below meth c s.heap [] 0 0 (lw_Z below #[Value.ref b] s) (entryFrame m ([Value.ref b] : List Value).toArray 8) := by
  obtain ⟨h1, h2, h3, h4, h5, h6, h7, h8, h9, h10, h11, h12⟩ := C0
  obtain ⟨G, g1, g2, g3, g4, g5⟩ := lw_world l hfl h6 h7 h8 h10
  have hV := law_start (G := G) (d := 2) (R := fun o _ => o = .inl (some (.int 1))) (by rw [g4]; exact hL) (fun _ => rfl)
  rw [g3] at hV
  have hAt : mv_At G jL_law 13 p room_1 s m meth c 601024 7293034 := ⟨h1, h2, h3, h9, h11, h4, h5, h12, g5, Nat.le_refl _, Nat.le_refl _, by decide, by decide⟩
  have hW := hV p e room_1 s m #[Value.ref b] below meth c s.heap [] 0 0 _ 601024 7293034 hAt (mh_0_H G s.heap) va_S.rf (lv_entry [Value.ref b] (n := 8) (Nat.le_of_ble_eq_true rfl)) (by decide) (by decide)
  rw [g1] at hW
  rw [lg_entry_eq]
  refine mv_imp (fun t ht => ?_) hW
  obtain ⟨o, h', t1, rfl, t3, t4, ⟨Ls, t5, t6⟩, t7⟩ := ht
  refine ⟨.returned (some (.int 1)), t1, t7, rfl, ⟨_, rfl⟩, t4, ?_⟩
  rw [g2] at t6
  exact State.sameButNew.weaken t5 (fun q hq hlt => absurd hlt (Nat.not_lt.mpr (t6 q hq))) (Nat.le_refl _) (Nat.le_refl _)
