/-! A call: the callee's mv_V at its entry is walked inside the caller's walk; it comes back, or it throws. -/
/-- the word of a method's code -/
def mv_cw (J : mv_M) : Cond := if J.2.2.2.2 = [] then .code J.1 J.2.1 J.2.2.1 J.2.2.2.1 else .codeWith J.1 J.2.1 J.2.2.1 J.2.2.2.1 J.2.2.2.2
theorem mv_cw_spec {J : mv_M} {a : Array Value} {U : State} {mk : MethodId} (h : (mv_cw J).before a U = true) (hn : U.methodNamed? J.1 = some mk) : ∃ (meth : Method) (c : Code), U.vm.method? mk = some meth ∧ meth.code = some c ∧ c.code = J.2.1 ∧ c.maxLocals = J.2.2.1 ∧ meth.sig.returnType = J.2.2.2.1 ∧ meth.locks = false ∧ c.exceptionTable.toList.map (fun h => (h.startPc, h.endPc, h.handlerPc, h.catchType)) = J.2.2.2.2 ∧ parseMethodDescriptor J.1.desc = some meth.sig := by
  unfold mv_cw at h
  by_cases hj : J.2.2.2.2 = []
  · rw [if_pos hj] at h
    obtain ⟨meth, c, g1, g2, g3, g4, g5, g6, g7, g8⟩ := Cond.code_spec hn h
    refine ⟨meth, c, g1, g2, g3, g4, g5, g6, ?_, g8⟩
    have h0 : c.exceptionTable.size = 0 := by simpa [Array.isEmpty] using g7
    have h9 : c.exceptionTable.toList = [] := List.eq_nil_of_length_eq_zero (by simpa using h0)
    rw [h9, hj]
    rfl
  · rw [if_neg hj] at h
    obtain ⟨m9, meth, c, g0, g1, g2, g3, g4, g5, g6, g7, g8⟩ := Cond.codeWith_spec h
    cases hn.symm.trans g0
    exact ⟨meth, c, g1, g2, g3, g4, g6, g7, g5, g8⟩
theorem mv_kept {s s' : State} {L : List Loc} {k n B : Nat} (h : s.sameButNew s' L k n) (hL : ∀ q ∈ L, B ≤ q.base) : s.heap.size ≤ s'.heap.size ∧ ∀ a : Nat, a < s.heap.size → ¬ B ≤ a → s'.heap[a]? = s.heap[a]? := by
  obtain ⟨-, h2, -, -, -, h6⟩ := h
  refine ⟨h2, fun a ha hb => ?_⟩
  have hc : s.heap[a]? = some s.heap[a] := Array.getElem?_eq_getElem ha
  obtain ⟨c', g1, g2, g3, g4⟩ := h6 a _ hc
  rw [g1, hc]
  congr 1
  rw [g2]
  have e : c'.slots = s.heap[a].slots := by
    apply Array.ext_getElem?
    intro i
    exact g4 i (fun hm => hb (hL _ hm))
  rw [e]
theorem mv_weaken {tb : Tables} {e : Env} {mid below : List Frame} {a b : State} (h : Steps tb e (mid ++ below) a b) : Steps tb e below a b := by
  obtain ⟨n, hn, w⟩ := h
  exact ⟨n, hn, fun k hk => (w k hk).weaken⟩
section MVC
variable {G : mv_G} {p : Program} {e : Env} {Rm : Room} {s : State} {m : MethodId} {args : Array Value} {below : List Frame} {meth : Method} {c : Code} {U : State} {locs : List Loc} {cells slots : Nat}
/-- how a call ends: behind it, or with the note of a throw over the caller's frame -/
def mv_Bk (G : mv_G) (p : Program) (e : Env) (below : List Frame) (D0 : State) (T' : State) (g : JFrame) (len : Nat) : mv_O → Prop
  | .inl v => Steps p.tables e below D0 (T'.setTop { g with pc := g.pc + len, stack := v.toList ++ g.stack })
  | .inr k => ∃ (a : Addr) (cell : Cell), T'.heap[a]? = some cell ∧ cell.vm.isStatics = false ∧ cell.cls = mg_X G k ∧ Steps p.tables e below D0 ((T'.setTop g).pushFrame (.throwing a))
set_option maxHeartbeats 1000000 in
theorem mv_into {J : mv_M} {d kc ks : Nat} {As : List Value} {h : mh_T} {R : mv_O → mh_T → Prop} (X : Stand p (mg_l G) e Rm s m args below meth c U locs cells slots) (hx : p.tables.exec = Jvm.exec) {g : JFrame} (hg : g.method = m) (hsize : g.locals.size = c.maxLocals) {ig : Instr} {len : Nat} (hdg : decode c.code g.pc = .ok (ig, len))
    {mk : MethodId} (hn : U.methodNamed? J.1 = some mk) (hcw : (mv_cw J).before As.toArray U = true) (hy : plainName J.1.cls = true) (hAs : (lg_sl As).length ≤ J.2.2.1) (hV : mv_V G J d 0 (lv_args 0 As) [] h kc ks R) (hH : mv_H G h U.heap) (hC : mv_C G U)
    (hst : 2 * g.monitorRoom + (g.stack.map fun v => v.category).sum ≤ 8) (hJ : J.2.2.1 ≤ 17) (r1 : d + 1 ≤ Rm.frames) (r2 : (d + 1) * 36 ≤ Rm.locals) (r3 : cells + kc ≤ Rm.cells) (r4 : slots + ks ≤ Rm.slots) (acts : List Action) :
    ∃ (o : mv_O) (h' : mh_T) (T' : State) (L : List Loc), R o h' ∧ Stand p (mg_l G) e Rm s m args below meth c T' (locs ++ L) (cells + kc) (slots + ks) ∧ (∀ q ∈ L, mg_B G ≤ q.base) ∧ mv_H G h' T'.heap ∧ U.heap.size ≤ T'.heap.size ∧ (∀ q : Nat, q < U.heap.size → ¬ mg_B G ≤ q → T'.heap[q]? = U.heap[q]?) ∧ mv_Bk G p e below (doInvoke e (U.setTop g) acts mk As.toArray).1 T' g len o := by
  obtain ⟨methk, ck, g1, g2, g3, g4, g5, g6, g7, g8⟩ := mv_cw_spec hcw hn
  have hpk : U.plainMethod mk := by
    refine State.plainMethod.of_name ?_
    intro k hk
    obtain ⟨k', hk', hn'⟩ := className_of_methodNamed hn
    cases hk.symm.trans hk'
    rw [hn']; exact hy
  obtain ⟨Y, hin⟩ := X.into hg hsize hdg As.toArray (R' := { frames := d, cells := kc, slots := ks, locals := d * 36 }) g1 g2 g6 hpk r1 (by rw [g4]; show _ + d * 36 ≤ _; omega) r3 r4
  have hnm : U.vm.findClass J.1.cls = some mk.cls := findClass_of_methodNamed hn
  have hC' : mv_C G (U.calling g mk As.toArray) := mv_C.moved (s := U) (State.WarmedH.refl U) hC (fun _ _ _ => rfl) (Nat.le_refl _)
  have hAt : mv_At G J d p { frames := d, cells := kc, slots := ks, locals := d * 36 } (U.calling g mk As.toArray) mk methk ck kc ks :=
    ⟨hx, g3, g5, g6, g7, g4, hnm, (name_of_methodNamed hn g1).1, hC', Nat.le_refl _, Nat.le_refl _, Nat.le_refl _, Nat.le_refl _⟩
  have hl := lv_entry As (n := J.2.2.1) hAs
  have hW := hV p e _ (U.calling g mk As.toArray) mk As.toArray (.java g :: below) methk ck U.heap [] 0 0 _ kc ks hAt hH va_S.rf hl (by omega) (by omega)
  have hT0 : ((U.setTop g).pushFrame (.java (entryFrame mk As.toArray ck.maxLocals))).heap = U.heap := rfl
  generalize (U.setTop g).pushFrame (.java (entryFrame mk As.toArray ck.maxLocals)) = T0 at Y hin hT0
  obtain ⟨t, st, o, h', q1, q2, q3, q4, ⟨L, q5, q6⟩, q7⟩ := hW T0 hT0 Y
  have hst9 : Steps p.tables e below (doInvoke e (U.setTop g) acts mk As.toArray).1 t := by
    rw [hin acts, g4, lg_entry_eq]
    exact mv_weaken (mid := [.java g]) st
  obtain ⟨k1, k2⟩ := mv_kept q5 q6
  cases o with
  | inl v =>
    obtain ⟨T', X', -, -, ht⟩ := X.outOf hg hdg q7 q4 q5
    have hh : t.heap = T'.heap := by rw [ht]; rfl
    refine ⟨.inl v, h', T', L, q2, X', q6, by rw [← hh]; exact q3, by rw [← hh]; exact k1, fun q z1 z2 => by rw [← hh]; exact k2 q z1 z2, ?_⟩
    show Steps _ _ _ _ _
    rw [← ht]
    exact hst9
  | inr k =>
    obtain ⟨a, cell, w1, w2, w3, w4⟩ := q7
    obtain ⟨T', X', -, -, ht⟩ := X.outOfThrown hg w1 q4 q5
    have hh : t.heap = T'.heap := by rw [ht]; rfl
    refine ⟨.inr k, h', T', L, q2, X', q6, by rw [← hh]; exact q3, by rw [← hh]; exact k1, fun q z1 z2 => by rw [← hh]; exact k2 q z1 z2, a, cell, by rw [← hh]; exact w2, w3, w4, ?_⟩
    rw [← ht]
    exact hst9
end MVC
/-- a throw lies over the method's frame at pc: it comes to an end with R -/
def mv_T (G : mv_G) (I : mv_M) (d pc : Nat) (lo : List (Nat × Value)) (h : mh_T) (kc ks : Nat) (R : mv_O → mh_T → Prop) (k : Nat) : Prop :=
  ∀ (p : Program) (e : Env) (Rm : Room) (s : State) (m : MethodId) (args : Array Value) (below : List Frame) (meth : Method) (c : Code) (T : State) (locs : List Loc) (cells slots : Nat) (ls : Array Slot) (mc ms : Nat) (rest : List Value) (a : Addr) (cell : Cell),
    mv_At G I d p Rm s m meth c mc ms → mv_H G h T.heap → va_S (fun q => mg_B G ≤ q) s.heap T.heap locs → lv_has ls I.2.2.1 lo → cells + kc ≤ mc → slots + ks ≤ ms → Stand p (mg_l G) e Rm s m args below meth c T locs cells slots →
    T.heap[a]? = some cell → cell.vm.isStatics = false → cell.cls = mg_X G k → ∃ t, Steps p.tables e below ((T.setTop (F0 m pc ls rest)).pushFrame (.throwing a)) t ∧ mv_Q G below s mc ms R t
/-- what a call goes on with -/
def mv_K (G : mv_G) (I : mv_M) (d pc : Nat) (lo : List (Nat × Value)) (rest : List Value) (kc ks : Nat) (R : mv_O → mh_T → Prop) : mv_O → mh_T → Prop
  | .inl v, h => mv_V G I d (pc + 3) lo (v.toList ++ rest) h kc ks R
  | .inr k, h => mv_T G I d pc lo h kc ks R k
theorem mv_cw_named {J : mv_M} {a : Array Value} {U : State} (h : (mv_cw J).before a U = true) : ∃ mk, U.methodNamed? J.1 = some mk := by
  unfold mv_cw at h
  by_cases hj : J.2.2.2.2 = []
  · rw [if_pos hj] at h
    exact Cond.code_named h
  · rw [if_neg hj] at h
    obtain ⟨m9, meth, c, g0, -⟩ := Cond.codeWith_spec h
    exact ⟨m9, g0⟩
/-- a link to a method, as an instruction's pool entry has it: what the three kinds share -/
def mv_Lk (own : String) (idx : Nat) (J : mv_M) (n : Nat) : Prop := mv_Wd (.methodLink own idx J.1) ∧ mv_Wd (.initialized J.1.cls) ∧ mv_Wd (mv_cw J) ∧ (J.1.cls ≠ "java/lang/invoke/MethodHandle" ∧ J.1.cls ≠ "java/lang/invoke/VarHandle") ∧ (parseMethodDescriptor J.1.desc).map (fun d => d.parameters.length) = some n ∧ plainName J.1.cls = true ∧ J.2.2.1 ≤ 17
def mv_LS (own : String) (idx : Nat) (J : mv_M) (n : Nat) : Prop := mv_Lk own idx J n ∧ mv_Wd (.static J.1)
def mv_LV (own : String) (idx : Nat) (J : mv_M) (n ci : Nat) : Prop := mv_Lk own idx J n ∧ mv_Wd (.instanceMethod J.1) ∧ mv_Wd (.selects J.1.cls J.1 J.1) ∧ vwCl[ci]?.map (fun q => q.1) = some J.1.cls ∧ ci < 40
def mv_LI (own : String) (idx : Nat) (J : mv_M) (n : Nat) : Prop := mv_Lk own idx J n ∧ mv_Wd (.instanceMethod J.1) ∧ J.1.name = "<init>" ∧ J.2.2.2.2 = [] ∧ J.2.2.2.1 = none
theorem mv_lst {st : List Value} {n : Nat} {b : Value} (h : st[n]? = some b) : st = st.take n ++ b :: st.drop (n + 1) := by
  have hl := (List.getElem?_eq_some_iff.mp h).1
  have e := (List.getElem?_eq_some_iff.mp h).2
  rw [← e]
  rw [← List.drop_eq_getElem_cons hl]
  exact (List.take_append_drop n st).symm
section MVK
variable {G : mv_G} {I J : mv_M} {d pc : Nat} {lo : List (Nat × Value)} {st : List Value} {h : mh_T} {kc ks : Nat} {R : mv_O → mh_T → Prop} {idx n ci : Nat}
/-- behind the callee's end -/
theorem mv_goes {p : Program} {e : Env} {Rm : Room} {s : State} {m : MethodId} {args : Array Value} {below : List Frame} {meth : Method} {c : Code} {H : Heap} {locs L : List Loc} {cells slots : Nat} {ls : Array Slot} {mc ms a b : Nat} {U T' D0 : State} {rest : List Value} {o : mv_O} {h' : mh_T}
    (hA : mv_At G I d p Rm s m meth c mc ms) (hS : va_S (fun q => mg_B G ≤ q) s.heap U.heap locs) (hl : lv_has ls I.2.2.1 lo) (h1 : cells + kc ≤ mc) (h2 : slots + ks ≤ ms) (ha : a ≤ kc) (hb : b ≤ ks)
    (r1 : mv_K G I d pc lo rest (kc - a) (ks - b) R o h') (X' : Stand p (mg_l G) e Rm s m args below meth c T' (locs ++ L) (cells + a) (slots + b)) (r3 : ∀ q ∈ L, mg_B G ≤ q.base) (r4 : mv_H G h' T'.heap) (r5 : U.heap.size ≤ T'.heap.size) (r6 : ∀ q : Nat, q < U.heap.size → ¬ mg_B G ≤ q → T'.heap[q]? = U.heap[q]?)
    (r7 : mv_Bk G p e below D0 T' (F0 m pc ls rest) 3 o) : ∃ t, Steps p.tables e below D0 t ∧ mv_Q G below s mc ms R t := by
  have hS' : va_S (fun q => mg_B G ≤ q) s.heap T'.heap (locs ++ L) := ⟨Nat.le_trans hS.1 r5, fun q z1 z2 => (r6 q (Nat.lt_of_lt_of_le z1 hS.1) z2).trans (hS.2.1 q z1 z2), fun q hq => by
    rcases List.mem_append.mp hq with z | z
    · exact hS.2.2 q z
    · exact r3 q z⟩
  cases o with
  | inl v =>
    obtain ⟨t, s1, s2⟩ := r1 p e Rm s m args below meth c T'.heap (locs ++ L) (cells + a) (slots + b) ls mc ms hA r4 hS' hl (by omega) (by omega) T' rfl X'
    exact ⟨t, Steps.trans r7 s1, s2⟩
  | inr k =>
    obtain ⟨x, cell, w1, w2, w3, w4⟩ := r7
    obtain ⟨t, s1, s2⟩ := r1 p e Rm s m args below meth c T' (locs ++ L) (cells + a) (slots + b) ls mc ms rest x cell hA r4 hS' hl (by omega) (by omega) X' w1 w2 w3
    exact ⟨t, Steps.trans w4 s1, s2⟩
theorem mv_C.at {p : Program} {l : Launch} {e : Env} {Rm : Room} {s : State} {m : MethodId} {args : Array Value} {below : List Frame} {meth : Method} {c : Code} {T : State} {locs : List Loc} {cells slots : Nat} {vm₁ : Vm} (hC : mv_C G s) (X : Stand p l e Rm s m args below meth c (T.setVm vm₁) locs cells slots) (hS : va_S (fun q => mg_B G ≤ q) s.heap T.heap locs) : mv_C G (T.setVm vm₁) := by
  have c5 : mg_B G ≤ s.heap.size := hC.2.2.2.2.1
  have c7 : mg_b G < mg_B G := hC.2.2.2.2.2.2.1
  exact mv_C.moved X.warmed hC (fun a z1 z2 => hS.2.1 a z1 z2) hS.1
set_option maxHeartbeats 1000000 in
theorem v_callS (a b : Nat) (hL : mv_LS I.1.cls idx J n) (hd : decode I.2.1 pc = .ok (.invokestatic idx, 3)) (hn : n ≤ st.length) (ha : a ≤ kc) (hb : b ≤ ks) (hst : ((st.drop n).map fun v => v.category).sum ≤ 8) (hAs : (lg_sl (st.take n).reverse).length ≤ J.2.2.1)
    (hV : mv_V G J d 0 (lv_args 0 (st.take n).reverse) [] h a b (mv_K G I (d + 1) pc lo (st.drop n) (kc - a) (ks - b) R)) : mv_V G I (d + 1) pc lo st h kc ks R := by
  intro p e Rm s m args below meth c H locs cells slots ls mc ms hA hH hS hl h1 h2 T hT X
  obtain ⟨⟨w1, w2, w3, hy, hpar, hpl, hJ⟩, w4⟩ := hL
  have hC := hA.2.2.2.2.2.2.2.2.1
  have hrm := hA.2.2.2.2.2.2.2.2.2
  subst hT
  obtain ⟨mk, hnamed⟩ := mv_cw_named (hC.1 _ w3 args)
  obtain ⟨methM, cM, hmethM, -, -, -, -, -, -, hsigM⟩ := mv_cw_spec (hC.1 _ w3 args) hnamed
  have hstatic : methM.isStatic = true := Cond.static_spec hnamed hmethM (hC.1 _ w4 args)
  obtain ⟨kP, hkP, -⟩ := className_of_methodNamed hnamed
  have hinitP : kP.init = .initialized := Cond.initialized_spec (findClass_of_methodNamed hnamed) hkP (hC.1 _ w2 args)
  have hlen : (st.take n).reverse.length = methM.sig.parameters.length := by
    rw [hsigM] at hpar
    have hp : methM.sig.parameters.length = n := Option.some.inj hpar
    rw [hp, List.length_reverse, List.length_take]; omega
  have hd' : decode c.code pc = .ok (.invokestatic idx, 3) := by rw [hA.2.1]; exact hd
  obtain ⟨vm₁, X₁, hstep⟩ := X.invokestatic hA.1 hA.2.2.2.2.2.2.1 (hC.1 _ w1 args) hnamed hmethM hstatic hkP hinitP hy (g := F0 m pc ls st) rfl (argsL := (st.take n).reverse) (rest := st.drop n) hlen (by show st = _; rw [List.reverse_reverse]; exact (List.take_append_drop n st).symm) hd'
  have hC₁ := hC.at X₁ hS
  obtain ⟨o, h', T', L, r1, X', r3, r4, r5, r6, r7⟩ := mv_into (J := J) X₁ hA.1 (g := F0 m pc ls (st.drop n)) rfl (by show ls.size = _; rw [hA.2.2.2.2.2.1]; exact hl.1) hd' (X₁.named hnamed) (hC₁.1 _ w3 _) hpl hAs hV hH hC₁ (by show 2 * 0 + ((st.drop n).map fun v => v.category).sum ≤ 8; omega) hJ (by omega) (by omega) (by omega) (by omega) []
  obtain ⟨t, s1, s2⟩ := mv_goes (U := T.setVm vm₁) (H := T.heap) hA hS hl h1 h2 ha hb r1 X' r3 r4 r5 r6 r7
  exact ⟨t, hstep t (fun acts => by rw [doInvoke_state]; exact s1), s2⟩
set_option maxHeartbeats 1000000 in
theorem v_callV (a b : Nat) {q : Nat} (hL : mv_LV I.1.cls idx J n ci) (hd : decode I.2.1 pc = .ok (.invokevirtual idx, 3)) (hn : st[n]? = some (.ref q)) (hq : mh_kd h q = ci + 1) (ha : a ≤ kc) (hb : b ≤ ks) (hst : ((st.drop (n + 1)).map fun v => v.category).sum ≤ 8) (hAs : (lg_sl (.ref q :: (st.take n).reverse)).length ≤ J.2.2.1)
    (hV : mv_V G J d 0 (lv_args 0 (.ref q :: (st.take n).reverse)) [] h a b (mv_K G I (d + 1) pc lo (st.drop (n + 1)) (kc - a) (ks - b) R)) : mv_V G I (d + 1) pc lo st h kc ks R := by
  intro p e Rm s m args below meth c H locs cells slots ls mc ms hA hH hS hl h1 h2 T hT X
  obtain ⟨⟨w1, w2, w3, hy, hpar, hpl, hJ⟩, w4, w5, w6, w7⟩ := hL
  have hC := hA.2.2.2.2.2.2.2.2.1
  have hrm := hA.2.2.2.2.2.2.2.2.2
  subst hT
  obtain ⟨mk, methM, hnamed, hmethM, hstM, habM⟩ := Cond.instanceMethod_spec (hC.1 _ w4 args)
  obtain ⟨methM', cM, hmethM', -, -, -, -, -, -, hsigM⟩ := mv_cw_spec (hC.1 _ w3 args) hnamed
  cases hmethM.symm.trans hmethM'
  obtain ⟨r, hr, hr2⟩ : ∃ r, vwCl[ci]? = some r ∧ r.1 = J.1.cls := by
    cases hz : vwCl[ci]? with
    | none => rw [hz] at w6; cases w6
    | some r => rw [hz] at w6; exact ⟨r, rfl, Option.some.inj w6⟩
  obtain ⟨cellB, hcB, hoB, hclB⟩ := va_recv (q0 := 0) hC.2.1 (hH.one (a := q) (by omega)) hr (show [(q, mv_cel G h q)][0]? = some (q, .inr (ci, mv_fs h (mv_tags ci) (100 * ci) q)) by rw [mv_celO hq w7]; rfl)
  rw [hr2] at hclB
  obtain ⟨c2, r2, m2, q1, q2, q3, q4, kP, hkP, hkPi⟩ := Cond.selects_spec (hC.1 _ w5 args)
  cases hclB.symm.trans q1
  cases (State.methodFound?_of_named hnamed hy).symm.trans q2
  cases hnamed.symm.trans q3
  have hselP : selectMethod e.platform s.vm cellB.cls mk = .method mk := by rw [Launch.admits_selectMethod X.admits]; exact q4
  have hnl : n < st.length := (List.getElem?_eq_some_iff.mp hn).1
  have hlen : (st.take n).reverse.length = methM.sig.parameters.length := by
    rw [hsigM] at hpar
    have hp : methM.sig.parameters.length = n := Option.some.inj hpar
    rw [hp, List.length_reverse, List.length_take]; omega
  have hd' : decode c.code pc = .ok (.invokevirtual idx, 3) := by rw [hA.2.1]; exact hd
  obtain ⟨vm₁, X₁, hstep⟩ := X.invokevirtual hA.1 hA.2.2.2.2.2.2.1 (hC.1 _ w1 args) hnamed hmethM hstM hkP hkPi hy (a := q) (cell := cellB) hcB (fun z hz => by rw [hz] at hoB; cases hoB) hselP hmethM habM hkP hkPi (g := F0 m pc ls st) rfl (argsL := (st.take n).reverse) (rest := st.drop (n + 1)) hlen (by show st = _; rw [List.reverse_reverse]; exact mv_lst hn) hd'
  have hC₁ := hC.at X₁ hS
  obtain ⟨o, h', T', L, r1, X', r3, r4, r5, r6, r7⟩ := mv_into (J := J) (As := .ref q :: (st.take n).reverse) X₁ hA.1 (g := F0 m pc ls (st.drop (n + 1))) rfl (by show ls.size = _; rw [hA.2.2.2.2.2.1]; exact hl.1) hd' (X₁.named hnamed) (hC₁.1 _ w3 _) hpl hAs hV hH hC₁ (by show 2 * 0 + ((st.drop (n + 1)).map fun v => v.category).sum ≤ 8; omega) hJ (by omega) (by omega) (by omega) (by omega) []
  obtain ⟨t, s1, s2⟩ := mv_goes (U := T.setVm vm₁) (H := T.heap) hA hS hl h1 h2 ha hb r1 X' r3 r4 r5 r6 r7
  exact ⟨t, hstep t (fun acts => by rw [doInvoke_state]; exact s1), s2⟩
set_option maxHeartbeats 1000000 in
theorem v_callI (a b : Nat) {q : Nat} (hL : mv_LI I.1.cls idx J n) (hd : decode I.2.1 pc = .ok (.invokespecial idx, 3)) (hn : st[n]? = some (.ref q)) (ha : a ≤ kc) (hb : b ≤ ks) (hst : ((st.drop (n + 1)).map fun v => v.category).sum ≤ 8) (hAs : (lg_sl (.ref q :: (st.take n).reverse)).length ≤ J.2.2.1)
    (hV : mv_V G J d 0 (lv_args 0 (.ref q :: (st.take n).reverse)) [] h a b (mv_K G I (d + 1) pc lo (st.drop (n + 1)) (kc - a) (ks - b) R)) : mv_V G I (d + 1) pc lo st h kc ks R := by
  intro p e Rm s m args below meth c H locs cells slots ls mc ms hA hH hS hl h1 h2 T hT X
  obtain ⟨⟨w1, w2, w3, hy, hpar, hpl, hJ⟩, w4, w5, w6, w7⟩ := hL
  have hC := hA.2.2.2.2.2.2.2.2.1
  have hrm := hA.2.2.2.2.2.2.2.2.2
  subst hT
  have hcode : (Cond.code J.1 J.2.1 J.2.2.1 none).before args s = true := by
    have z := hC.1 _ w3 args
    unfold mv_cw at z
    rw [if_pos w6, w7] at z
    exact z
  have hnl : n < st.length := (List.getElem?_eq_some_iff.mp hn).1
  have hlen : ∀ sig, parseMethodDescriptor J.1.desc = some sig → (st.take n).reverse.length = sig.parameters.length := by
    intro sig hsig
    rw [hsig] at hpar
    have hp : sig.parameters.length = n := Option.some.inj hpar
    rw [hp, List.length_reverse, List.length_take]; omega
  have hd' : decode c.code pc = .ok (.invokespecial idx, 3) := by rw [hA.2.1]; exact hd
  have hpl9 : e.platform.magicAccessors = ({} : Platform).magicAccessors := by rw [X.admits.platform]
  obtain ⟨mk, methM, cM, kP, vm₁, hnamed, hmethM, hcodeM, -, hlocalsM, -, hkP, -, hW₁, hstep⟩ := Steps.initColdArgs (tb := p.tables) (e := e) X.here hA.1 X.warmed hpl9 hA.2.2.2.2.2.2.1 w5 hy (hC.1 _ w1 args) (hC.1 _ w4 args) hcode (f := F0 m pc ls st) rfl (a := q) (argsL := (st.take n).reverse) (rest := st.drop (n + 1)) hlen (by show st = _; rw [List.reverse_reverse]; exact mv_lst hn) hd'
  have X₁ := X.noted hW₁
  have hC₁ := hC.at X₁ hS
  obtain ⟨o, h', T', L, r1, X', r3, r4, r5, r6, r7⟩ := mv_into (J := J) (As := .ref q :: (st.take n).reverse) X₁ hA.1 (g := F0 m pc ls (st.drop (n + 1))) rfl (by show ls.size = _; rw [hA.2.2.2.2.2.1]; exact hl.1) hd' (X₁.named hnamed) (hC₁.1 _ w3 _) hpl hAs hV hH hC₁ (by show 2 * 0 + ((st.drop (n + 1)).map fun v => v.category).sum ≤ 8; omega) hJ (by omega) (by omega) (by omega) (by omega) []
  obtain ⟨t, s1, s2⟩ := mv_goes (U := T.setVm vm₁) (H := T.heap) hA hS hl h1 h2 ha hb r1 X' r3 r4 r5 r6 r7
  exact ⟨t, hstep t (fun acts => by rw [doInvoke_state]; exact s1), s2⟩
-- throws
def mv_out (hs : List (Nat × Nat × Nat × Nat)) (pc : Nat) : Bool := hs.all (fun q => !(decide (q.1 ≤ pc) && decide (pc < q.2.1)))
theorem mv_out_spec {c : Code} {hs : List (Nat × Nat × Nat × Nat)} {pc : Nat} (h : c.exceptionTable.toList.map (fun h => (h.startPc, h.endPc, h.handlerPc, h.catchType)) = hs) (ho : mv_out hs pc = true) : ∀ x ∈ c.exceptionTable.toList, covers x pc = false := by
  intro x hx
  have hm : (x.startPc, x.endPc, x.handlerPc, x.catchType) ∈ hs := by rw [← h]; exact List.mem_map.mpr ⟨x, hx, rfl⟩
  have z : (!(covers x pc)) = true := List.all_eq_true.mp ho _ hm
  cases hc : covers x pc
  · rfl
  · rw [hc] at z; cases z
/-- no handler here: out of the method -/
theorem t_out {k : Nat} (ho : mv_out I.2.2.2.2 pc = true) (hr : R (.inr k) h) : mv_T G I d pc lo h kc ks R k := by
  intro p e Rm s m args below meth c T locs cells slots ls mc ms rest a cell hA hH hS hl h1 h2 X g1 g2 g3
  obtain ⟨q1, q2, q3, q4, q5⟩ := X.leaveThrown a (g := F0 m pc ls rest) rfl rfl rfl (mv_out_spec hA.2.2.2.2.1 ho) hA.2.2.2.1
  exact ⟨_, q1, .inr k, h, q2, hr, hH, q4, ⟨locs, q5.mono (by omega) (by omega), hS.2.2⟩, a, cell, q3, g1, g2, g3⟩
end MVK
