/-! Throws: 'throw new E("text")' leaves a method; a throw caught by a row of the method's table. -/
def mv_gb (w : Cond) : Bool := (w.onTables && w.keeps) || (match w with
  | .arrayClass _ => true
  | .arrayOver (.object _) => true
  | .declares _ => true
  | .castable _ _ => true
  | _ => false)
theorem mv_gb_gd {w : Cond} (h : mv_gb w = true) : mv_gd w := by
  unfold mv_gb at h
  rcases (Bool.or_eq_true _ _).mp h with h | h
  · exact Or.inl h
  · split at h
    · exact Or.inr (Or.inl ⟨_, rfl⟩)
    · exact Or.inr (Or.inr (Or.inl ⟨_, rfl⟩))
    · exact Or.inr (Or.inr (Or.inr (Or.inl ⟨_, rfl⟩)))
    · exact Or.inr (Or.inr (Or.inr (Or.inr ⟨_, _, rfl⟩)))
    · cases h
abbrev mv_up : List String := ["java/lang/RuntimeException", "java/lang/Exception"]
/-- the words of 'throw new E(..)' in LazyPages: ik the entry of the type, ic of its constructor -/
def mv_Tw (k ik ic : Nat) : Prop := ∀ w ∈ Cond.classLink "LazyPages" ik (mv_xn k) :: Cond.initialized (mv_xn k) :: vx_atS "LazyPages" ic (mv_xn k) mv_up, (w ∈ lw_tbl ∧ mv_gb w = true) ∧ vx_ot w = true
set_option maxRecDepth 100000 in
theorem tw_0 : mv_Tw 0 134 138 := by unfold mv_Tw; decide +kernel
set_option maxRecDepth 100000 in
theorem tw_1 : mv_Tw 1 77 81 := by unfold mv_Tw; decide +kernel
set_option maxRecDepth 100000 in
theorem tw_2 : mv_Tw 2 143 147 := by unfold mv_Tw; decide +kernel
section MVX
variable {G : mv_G} {I : mv_M} {d pc : Nat} {lo : List (Nat × Value)} {st : List Value} {h : mh_T} {kc ks : Nat} {R : mv_O → mh_T → Prop}
theorem mv_xfit (k : Nat) : Bundle.fit (mv_xn k) = true := by
  unfold mv_xn
  split
  · decide
  · split <;> decide
set_option maxHeartbeats 1000000 in
theorem v_throw (k ik is ic : Nat) (text : String) (hI : I.1.cls = "LazyPages") (hw : mv_Tw k ik ic) (hs : (is, text) ∈ mv_strs)
    (d0 : decode I.2.1 pc = .ok (.new ik, 3)) (d3 : decode I.2.1 (pc + 3) = .ok (.dup, 1)) (d4 : decode I.2.1 (pc + 4) = .ok (.ldc is, 2)) (d6 : decode I.2.1 (pc + 6) = .ok (.invokespecial ic, 3)) (d9 : decode I.2.1 (pc + 9) = .ok (.athrow, 1))
    (ho : mv_out I.2.2.2.2 (pc + 9) = true) (hst : (st.map fun v => v.category).sum ≤ 8) (hdd : 6 ≤ d) (hc : 1 ≤ kc) (hk : 6 ≤ ks) (hr : R (.inr k) h) : mv_V G I d pc lo st h kc ks R := by
  intro p e Rm s m args below meth c H locs cells slots ls mc ms hA hH hS hl h1 h2
  have hC := hA.2.2.2.2.2.2.2.2.1
  have hrm := hA.2.2.2.2.2.2.2.2.2
  have hown : s.vm.findClass "LazyPages" = some m.cls := by rw [← hI]; exact hA.2.2.2.2.2.2.1
  obtain ⟨x1, ⟨x2, x3⟩, x4, x5, x6⟩ := hC.2.2.2.2.2.1
  obtain ⟨sa, hsa⟩ := x4 _ hs
  have hword : ∀ w ∈ Cond.classLink "LazyPages" ik (mv_xn k) :: Cond.initialized (mv_xn k) :: vx_atS "LazyPages" ic (mv_xn k) mv_up, w.before args s = true := fun w z => hC.1 w ⟨(hw w z).1.1, mv_gb_gd (hw w z).1.2⟩ args
  refine mv_imp (Q := vx_MQ below (fun _ _ _ _ => False) (fun E _ t => E = mv_xn k ∧ mv_H G h t.heap) args s mc ms (fun q => mg_B G ≤ q)) (fun t ht => ?_) (vx_throwS (own := "LazyPages") (cls := mv_xn k) (text := text) (names := mv_up) (ik := ik) (is := is) (ic := ic) (sa := sa) (A := fun q => mg_B G ≤ q) hA.1 hA.2.1 x6 hown (mv_xfit k) (by decide) (hword _ List.mem_cons_self) (hword _ (List.mem_cons_of_mem _ List.mem_cons_self)) hsa (fun w z => hword w (List.mem_cons_of_mem _ (List.mem_cons_of_mem _ z))) (fun w z => (hw w z).2) x2 x3 hS (hl.1.trans hA.2.2.2.2.2.1.symm) d0 d3 d4 d6 d9 (mv_out_spec hA.2.2.2.2.1 ho) (by show 2 + 3 < _; omega) (by show _ + (13 * (2 + 1) + 43) ≤ _; omega) (by omega) (by omega) hA.2.2.2.1 (fun t _ q1 q2 => ⟨rfl, ?_⟩) hS.2.2 (by omega) (by omega))
  · obtain ⟨o, t1, t2, t3⟩ := ht
    rcases t3 with ⟨t4, -⟩ | ⟨q, rfl, E, ce, L, ⟨rfl, t5⟩, t6, t7, t8, t9, t10, t11⟩
    · exact t4.elim
    · refine ⟨.inr k, h, t1, hr, t5, t9, ⟨L, t10, t11⟩, q, ce, t2, t6, by rw [t7]; rfl, ?_⟩
      exact Option.some.inj (t8.symm.trans (x1 k))
  · obtain ⟨Ls, z1, z2, z3⟩ := hH
    exact ⟨Ls, z1, z2.kept (fun n x hx => q2 x.1 ((z2 n x hx).lt)), z3⟩
/-- what the search through a method's table gives, and the tables that it leaves -/
def mv_Fi (e : Env) (s : State) (f : JFrame) (a : Addr) (h : Handler) (vm' : Vm) : Prop :=
  ∀ (Q : Handler → Pre) (E : CtlPost) (d : Bool) (acts : List Action), wp (findHandler f a) Q E e d acts s ↔ Q h d acts (s.setVm vm')
theorem mv_golink {Q : Handler → Pre} {E : CtlPost} {e : Env} {d : Bool} {acts : List Action} {s : State} {f : JFrame} {a : Addr} {x : ExceptionTableEntry} {t : List ExceptionTableEntry} {c : ClassId} {cell : Cell} (hx : covers x f.pc = true) (h0 : x.catchType ≠ 0)
    (hl : s.vm.ClassLinks e.platform f.method.cls x.catchType c) (hcell : s.heap[a]? = some cell) (hobj : ∀ k, cell.vm ≠ .statics k) (hk : ∃ k, s.vm.classes[cell.cls]? = some k) (hc : ∃ k, s.vm.classes[c]? = some k) :
    wp (findHandler.go f a (x :: t)) Q E e d acts s ↔ if s.vm.assignable cell.cls c = true then Q (.found x.handlerPc) d acts (s.setVm (s.vm.noted f.method.cls x.catchType (.cls c))) else wp (findHandler.go f a t) Q E e d acts (s.setVm (s.vm.noted f.method.cls x.catchType (.cls c))) := by
  simp only [covers] at hx
  obtain ⟨ha, ht⟩ := (resolveClass_links e.toSetting hl).op (op := VmOp.resolveClass f.method.cls x.catchType) rfl
  have hal : s.vm.Alike (s.vm.noted f.method.cls x.catchType (.cls c)) := (Vm.Alike.refl s.vm).noted _ _ _
  obtain ⟨k1, hk1⟩ := hk
  obtain ⟨k2, hk2⟩ := hc
  obtain ⟨k1', hk1', -⟩ := hal.2.2 _ _ hk1
  obtain ⟨k2', hk2', -⟩ := hal.2.2 _ _ hk2
  cases hfit : s.vm.assignable cell.cls c with
  | true =>
    have hfit' : (s.vm.noted f.method.cls x.catchType (.cls c)).assignable cell.cls c = true := by rw [hal.assignable]; exact hfit
    simp [findHandler.go, hx, h0, ha, ht, hcell, hobj, hk1', hk2', hfit', VmOp.dirties, VmOp.acts]
  | false =>
    have hfit' : (s.vm.noted f.method.cls x.catchType (.cls c)).assignable cell.cls c = false := by rw [hal.assignable]; exact hfit
    simp [findHandler.go, hx, h0, ha, ht, hcell, hobj, hk1', hk2', hfit', VmOp.dirties, VmOp.acts]
theorem mv_caught {tb : Tables} {e : Env} {s target : State} {g : JFrame} {c : Code} {below : List Frame} {a : Addr} (h : At s g.method c below) {pc : Nat} {vm' : Vm}
    (hfind : mv_Fi e ((s.setTop g).pushFrame (.throwing a)) g a (.found pc) vm') (hrest : Steps tb e below ((s.setVm vm').setTop { g with pc := pc, stack := [.ref a] }) target) :
    Steps tb e below ((s.setTop g).pushFrame (.throwing a)) target := by
  have hstep : (stepThrowing e ((s.setTop g).pushFrame (.throwing a)) a (.java g :: s.frames.tail)).Is ((((s.setTop g).pushFrame (.throwing a)).setVm vm').setFrames (.java { g with pc := pc, stack := [.ref a] } :: s.frames.tail)) [] := by
    simp only [stepThrowing, searchFrame, vmDo]
    generalize hr : Sem.go _ e false [] ((s.setTop g).pushFrame (.throwing a)) = res
    obtain ⟨as, rfl, ha⟩ := Sem.eq_ok_of hr (a := Handler.found pc) (s' := ((s.setTop g).pushFrame (.throwing a)).setVm vm') (acts' := []) (by simp [hfind _ _ _ _])
    exact ⟨rfl, ha⟩
  obtain ⟨hgo, hw⟩ := h.throwing a
  refine Steps.head hgo hw ?_
  rw [stepThread_throwing (frames_entered h.top _), hstep.1]
  obtain ⟨g₀, hg⟩ := Option.isSome_iff_exists.mp h.top
  obtain ⟨r, hr⟩ := State.topJava?_eq_some.mp hg
  have hr' : (s.setVm vm').frames = .java g₀ :: r := hr
  have key : ∀ (u : State) (F F' : List Frame), ((u.setFrames F).setVm vm').setFrames F' = (u.setVm vm').setFrames F' := fun u F F' => by
    have e1 : (u.setFrames F).setVm vm' = (u.setVm vm').setFrames F := rfl
    rw [e1, State.setFrames_setFrames]
  rw [State.setTop_of_frames _ hr'] at hrest
  rw [hr, List.tail_cons, State.pushFrame, key, State.setTop_of_frames _ hr, key]
  exact hrest
/-- caught by the first row of the table -/
theorem t_c1 {k : Nat} {x : Nat × Nat × Nat × Nat} {hs : List (Nat × Nat × Nat × Nat)} (hI : I.2.2.2.2 = x :: hs) (hx1 : x.1 ≤ pc) (hx2 : pc < x.2.1) (h0 : x.2.2.2 ≠ 0) (hw : mv_Wd (.classLink I.1.cls x.2.2.2 (mv_xn k))) (hcs : mv_Wd (.castable (mv_xn k) (mv_xn k)))
    (kk : ∀ a : Nat, mv_V G I d x.2.2.1 lo [.ref a] h kc ks R) : mv_T G I d pc lo h kc ks R k := by
  intro p e Rm s m args below meth c T locs cells slots ls mc ms rest a cell hA hH hS hl h1 h2 X g1 g2 g3
  have hC := hA.2.2.2.2.2.2.2.2.1
  have hown := hA.2.2.2.2.2.2.1
  have hpl : e.platform.magicAccessors = ({} : Platform).magicAccessors := by rw [X.admits.platform]
  have x1 := hC.2.2.2.2.2.1.1
  obtain ⟨c3, c4, hc3, hc4, hasg⟩ := Cond.castable_spec (hC.1 _ hcs args)
  cases Option.some.inj (hc3.symm.trans hc4)
  have ecls : cell.cls = c3 := g3.trans (Option.some.inj ((x1 k).symm.trans hc3))
  obtain ⟨c5, hc5, hcl5⟩ := Cond.classLink_spec hown (hC.1 _ hw args) e.platform hpl
  cases Option.some.inj (hc3.symm.trans hc5)
  obtain ⟨dk, _, _, kt, hd, _, _, _, _, hkt, _, hopen⟩ := hcl5.here
  have hal := X.warmed.alike
  obtain ⟨kt', hkt', -⟩ := hal.2.2 _ _ hkt
  have htab := hA.2.2.2.2.1
  rw [hI] at htab
  obtain ⟨y, ys, hy1, hy2, hy3⟩ := List.map_eq_cons_iff.mp htab
  have ey1 : y.startPc = x.1 := congrArg (fun q => q.1) hy2
  have ey2 : y.endPc = x.2.1 := congrArg (fun q => q.2.1) hy2
  have ey3 : y.handlerPc = x.2.2.1 := congrArg (fun q => q.2.2.1) hy2
  have ey4 : y.catchType = x.2.2.2 := congrArg (fun q => q.2.2.2) hy2
  have hcov : covers y pc = true := by simp [covers, ey1, ey2, hx1, hx2]
  have hW' : s.WarmedH (T.vm.noted m.cls y.catchType (.cls c3)) := by rw [ey4]; exact X.warmed.noted hd hopen (State.rightAt_cls hcl5)
  have hfi : mv_Fi e ((T.setTop (F0 m pc ls rest)).pushFrame (.throwing a)) (F0 m pc ls rest) a (.found y.handlerPc) (T.vm.noted m.cls y.catchType (.cls c3)) := by
    intro Q E d9 acts
    rw [W.findHandler_eq (meth := meth) (code := c) X.method' X.code, hy1]
    rw [mv_golink (s := ((T.setTop (F0 m pc ls rest)).pushFrame (.throwing a))) (f := F0 m pc ls rest) (c := c3) (cell := cell) hcov (by rw [ey4]; exact h0) (by rw [ey4]; exact X.warmed.classLinks hcl5) g1 (VmData.ne_statics_of g2) ⟨kt', by rw [ecls]; exact hkt'⟩ ⟨kt', hkt'⟩]
    have hq : ((T.setTop (F0 m pc ls rest)).pushFrame (.throwing a)).vm.assignable cell.cls c3 = true := (show T.vm.assignable cell.cls c3 = true by rw [ecls, hal.assignable]; exact hasg)
    rw [if_pos hq]
    exact Iff.rfl
  have X' := X.noted hW'
  obtain ⟨t, s1, s2⟩ := kk a p e Rm s m args below meth c T.heap locs cells slots ls mc ms hA hH hS hl h1 h2 (T.setVm (T.vm.noted m.cls y.catchType (.cls c3))) rfl X'
  exact ⟨t, mv_caught (s := T) (g := F0 m pc ls rest) X.here hfi (by rw [ey3]; exact s1), s2⟩
/-- passed by the first row, caught by the second -/
theorem t_c2 {k j : Nat} {z x : Nat × Nat × Nat × Nat} {hs : List (Nat × Nat × Nat × Nat)} (hI : I.2.2.2.2 = z :: x :: hs) (hz1 : z.1 ≤ pc) (hz2 : pc < z.2.1) (hz0 : z.2.2.2 ≠ 0) (hwz : mv_Wd (.classLink I.1.cls z.2.2.2 (mv_xn j))) (hj : j < 3) (hk : k < 3) (hjk : k ≠ j)
    (hx1 : x.1 ≤ pc) (hx2 : pc < x.2.1) (h0 : x.2.2.2 ≠ 0) (hw : mv_Wd (.classLink I.1.cls x.2.2.2 (mv_xn k))) (hcs : mv_Wd (.castable (mv_xn k) (mv_xn k)))
    (kk : ∀ a : Nat, mv_V G I d x.2.2.1 lo [.ref a] h kc ks R) : mv_T G I d pc lo h kc ks R k := by
  intro p e Rm s m args below meth c T locs cells slots ls mc ms rest a cell hA hH hS hl h1 h2 X g1 g2 g3
  have hC := hA.2.2.2.2.2.2.2.2.1
  have hown := hA.2.2.2.2.2.2.1
  have hpl : e.platform.magicAccessors = ({} : Platform).magicAccessors := by rw [X.admits.platform]
  have x1 := hC.2.2.2.2.2.1.1
  obtain ⟨c3, c4, hc3, hc4, hasg⟩ := Cond.castable_spec (hC.1 _ hcs args)
  cases Option.some.inj (hc3.symm.trans hc4)
  have ecls : cell.cls = c3 := g3.trans (Option.some.inj ((x1 k).symm.trans hc3))
  obtain ⟨c5, hc5, hcl5⟩ := Cond.classLink_spec hown (hC.1 _ hw args) e.platform hpl
  cases Option.some.inj (hc3.symm.trans hc5)
  obtain ⟨c6, hc6, hcl6⟩ := Cond.classLink_spec hown (hC.1 _ hwz args) e.platform hpl
  obtain ⟨n1, n2, n3, n4, n5⟩ := hC.2.2.2.2.2.1.2.2.2.1 k j hk hj hjk
  cases Option.some.inj (n3.symm.trans hc3)
  cases Option.some.inj (n4.symm.trans hc6)
  obtain ⟨dk, _, _, kt, hd, _, _, _, _, hkt, _, hopen⟩ := hcl5.here
  obtain ⟨dk6, _, _, kt6, hd6, _, _, _, _, hkt6, _, hopen6⟩ := hcl6.here
  have hal := X.warmed.alike
  obtain ⟨kt', hkt', -⟩ := hal.2.2 _ _ hkt
  obtain ⟨kt6', hkt6', -⟩ := hal.2.2 _ _ hkt6
  have htab := hA.2.2.2.2.1
  rw [hI] at htab
  obtain ⟨y, ys, hy1, hy2, hy3⟩ := List.map_eq_cons_iff.mp htab
  obtain ⟨y', ys', hy1', hy2', hy3'⟩ := List.map_eq_cons_iff.mp hy3
  have ez1 : y.startPc = z.1 := congrArg (fun q => q.1) hy2
  have ez2 : y.endPc = z.2.1 := congrArg (fun q => q.2.1) hy2
  have ez4 : y.catchType = z.2.2.2 := congrArg (fun q => q.2.2.2) hy2
  have ey1 : y'.startPc = x.1 := congrArg (fun q => q.1) hy2'
  have ey2 : y'.endPc = x.2.1 := congrArg (fun q => q.2.1) hy2'
  have ey3 : y'.handlerPc = x.2.2.1 := congrArg (fun q => q.2.2.1) hy2'
  have ey4 : y'.catchType = x.2.2.2 := congrArg (fun q => q.2.2.2) hy2'
  have hcovz : covers y pc = true := by simp [covers, ez1, ez2, hz1, hz2]
  have hcov : covers y' pc = true := by simp [covers, ey1, ey2, hx1, hx2]
  have hW1 : s.WarmedH (T.vm.noted m.cls y.catchType (.cls c6)) := by rw [ez4]; exact X.warmed.noted hd6 hopen6 (State.rightAt_cls hcl6)
  have hW' : s.WarmedH ((T.vm.noted m.cls y.catchType (.cls c6)).noted m.cls y'.catchType (.cls c3)) := by rw [ey4]; exact hW1.noted hd hopen (State.rightAt_cls hcl5)
  obtain ⟨ktb, hktb, -⟩ := hW1.alike.2.2 _ _ hkt
  have hfi : mv_Fi e ((T.setTop (F0 m pc ls rest)).pushFrame (.throwing a)) (F0 m pc ls rest) a (.found y'.handlerPc) ((T.vm.noted m.cls y.catchType (.cls c6)).noted m.cls y'.catchType (.cls c3)) := by
    intro Q E d9 acts
    rw [W.findHandler_eq (meth := meth) (code := c) X.method' X.code, hy1, hy1']
    rw [mv_golink (s := ((T.setTop (F0 m pc ls rest)).pushFrame (.throwing a))) (f := F0 m pc ls rest) (c := c6) (cell := cell) hcovz (by rw [ez4]; exact hz0) (by rw [ez4]; exact X.warmed.classLinks hcl6) g1 (VmData.ne_statics_of g2) ⟨kt', by rw [ecls]; exact hkt'⟩ ⟨kt6', hkt6'⟩]
    have hq6 : ¬ ((T.setTop (F0 m pc ls rest)).pushFrame (.throwing a)).vm.assignable cell.cls c6 = true := (show ¬ T.vm.assignable cell.cls c6 = true by rw [ecls, hal.assignable, n5]; decide)
    rw [if_neg hq6]
    refine Iff.trans ?_ (Iff.rfl)
    refine (mv_golink (s := (((T.setTop (F0 m pc ls rest)).pushFrame (.throwing a)).setVm (T.vm.noted m.cls y.catchType (.cls c6)))) (f := F0 m pc ls rest) (c := c3) (cell := cell) hcov (by rw [ey4]; exact h0) (by rw [ey4]; exact hW1.classLinks hcl5) g1 (VmData.ne_statics_of g2) ⟨ktb, by rw [ecls]; exact hktb⟩ ⟨ktb, hktb⟩).trans ?_
    have hq : (((T.setTop (F0 m pc ls rest)).pushFrame (.throwing a)).setVm (T.vm.noted m.cls y.catchType (.cls c6))).vm.assignable cell.cls c3 = true := (show (T.vm.noted m.cls y.catchType (.cls c6)).assignable cell.cls c3 = true by rw [ecls, hW1.alike.assignable]; exact hasg)
    rw [if_pos hq]
    exact Iff.rfl
  have X' := X.noted hW'
  obtain ⟨t, s1, s2⟩ := kk a p e Rm s m args below meth c T.heap locs cells slots ls mc ms hA hH hS hl h1 h2 (T.setVm ((T.vm.noted m.cls y.catchType (.cls c6)).noted m.cls y'.catchType (.cls c3))) rfl X'
  exact ⟨t, mv_caught (s := T) (g := F0 m pc ls rest) X.here hfi (by rw [ey3]; exact s1), s2⟩
end MVX
