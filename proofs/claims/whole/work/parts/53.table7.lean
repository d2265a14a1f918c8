/-! LazyPages$PageTable(): a new table. -/
theorem v_kle {G : mv_G} {I : mv_M} {d pc : Nat} {lo : List (Nat × Value)} {st : List Value} {h : mh_T} {kc ks kc' ks' : Nat} {R : mv_O → mh_T → Prop} (h1 : kc' ≤ kc) (h2 : ks' ≤ ks) (k : mv_V G I d pc lo st h kc' ks' R) : mv_V G I d pc lo st h kc ks R := fun p e Rm s m args below meth c H locs cells slots ls mc ms hA hH hS hl g1 g2 => k p e Rm s m args below meth c H locs cells slots ls mc ms hA hH hS hl (by omega) (by omega)
theorem mh_sm_new {h : mh_T} {q k n a : Nat} (ha : a ≠ q) : mh_sm h (mh_new h q k n) a := by
  refine ⟨?_, ?_, fun F => ?_, fun F => ?_, fun F => ?_, fun j => ?_, fun j => ?_, fun j => ?_⟩ <;> simp [mh_kd_sfI, mh_ln_sfI, mh_fI_sfI, mh_fJ_sfI, mh_fR_sfI, mh_aI_sfI, mh_aJ_sfI, mh_aR_sfI, mh_kd_sfJ, mh_ln_sfJ, mh_fI_sfJ, mh_fJ_sfJ, mh_fR_sfJ, mh_aI_sfJ, mh_aJ_sfJ, mh_aR_sfJ, mh_kd_sfR, mh_ln_sfR, mh_fI_sfR, mh_fJ_sfR, mh_fR_sfR, mh_aI_sfR, mh_aJ_sfR, mh_aR_sfR, mh_kd_saI, mh_ln_saI, mh_fI_saI, mh_fJ_saI, mh_fR_saI, mh_aI_saI, mh_aJ_saI, mh_aR_saI, mh_kd_saJ, mh_ln_saJ, mh_fI_saJ, mh_fJ_saJ, mh_fR_saJ, mh_aI_saJ, mh_aJ_saJ, mh_aR_saJ, mh_kd_saR, mh_ln_saR, mh_fI_saR, mh_fJ_saR, mh_fR_saR, mh_aI_saR, mh_aJ_saR, mh_aR_saR, mh_kd_caI, mh_ln_caI, mh_fI_caI, mh_fJ_caI, mh_fR_caI, mh_aI_caI, mh_aJ_caI, mh_aR_caI, mh_kd_caJ, mh_ln_caJ, mh_fI_caJ, mh_fJ_caJ, mh_fR_caJ, mh_aI_caJ, mh_aJ_caJ, mh_aR_caJ, mh_kd_new, mh_ln_new, mh_fI_new, mh_fJ_new, mh_fR_new, mh_aI_new, mh_aJ_new, mh_aR_new, ha]
theorem mh_sm_sfR {h : mh_T} {F t a x : Nat} (ha : a ≠ t) : mh_sm h (mh_sfR h F t x) a := by
  refine ⟨rfl, rfl, fun _ => rfl, fun _ => rfl, fun F' => ?_, fun _ => rfl, fun _ => rfl, fun _ => rfl⟩
  rw [mh_fR_sfR, if_neg (fun q => ha q.2)]
/-- so far i pages of a new table are there -/
def tbi (h hc : mh_T) (t pa i : Nat) (D : Nat → Nat × Nat × Nat) : Prop :=
  mh_kd hc t = 2 ∧ mh_fR hc 100 t = pa ∧ mh_kd hc pa = 55 ∧ mh_ln hc pa = 40 ∧ (∀ j, j < i → mh_aR hc pa j = (D j).1 ∧ (D j).1 ≠ 0 ∧ pgL hc (D j) (-2147483648) 2147483647 [] ∧ mh_kd h (D j).1 = 0 ∧ mh_kd h (D j).2.1 = 0 ∧ mh_kd h (D j).2.2 = 0) ∧ (∀ j j', j < i → j' < i → j ≠ j' → (D j).1 ≠ (D j').1 ∧ (D j).2.1 ≠ (D j').2.1 ∧ (D j).2.2 ≠ (D j').2.2) ∧ (∀ a, a ≠ t → a ≠ pa → (∀ j, j < i → a ≠ (D j).1 ∧ a ≠ (D j).2.1 ∧ a ≠ (D j).2.2) → mh_sm h hc a)
section TI
variable {G : mv_G} {d : Nat} {h : mh_T} {t : Nat} {R : mv_O → mh_T → Prop}
theorem tbi_fresh {hc : mh_T} {pa i q : Nat} {D : Nat → Nat × Nat × Nat} (hI : tbi h hc t pa i D) (hq : mh_kd hc q = 0) : q ≠ t ∧ q ≠ pa ∧ (∀ j, j < i → q ≠ (D j).1 ∧ q ≠ (D j).2.1 ∧ q ≠ (D j).2.2) ∧ mh_kd h q = 0 := by
  obtain ⟨e1, e2, e4, e5, e8, e9, eF⟩ := hI
  have a1 : q ≠ t := fun e => by rw [e, e1] at hq; exact absurd hq (by decide)
  have a2 : q ≠ pa := fun e => by rw [e, e4] at hq; exact absurd hq (by decide)
  have a3 : ∀ j, j < i → q ≠ (D j).1 ∧ q ≠ (D j).2.1 ∧ q ≠ (D j).2.2 := fun j hj => by
    obtain ⟨g1, _, _, _, _, g6, _, g8, _⟩ := (e8 j hj).2.2.1.1
    exact ⟨fun e => by rw [e, g1] at hq; exact absurd hq (by decide), fun e => by rw [e, g6] at hq; exact absurd hq (by decide), fun e => by rw [e, g8] at hq; exact absurd hq (by decide)⟩
  exact ⟨a1, a2, a3, by rw [← (eF q a1 a2 a3).1]; exact hq⟩
theorem tbi_step {hc h1 : mh_T} {pa i q k v : Nat} {D : Nat → Nat × Nat × Nat} (hI : tbi h hc t pa i D) (q0 : q ≠ 0) (hq : mh_kd hc q = 0) (hkk : mh_kd (mh_new hc q 1 0) k = 0) (hv : mh_kd (mh_new hc q 1 0) v = 0) (hp : pg_at h1 q k v 0) (hlo : mh_fI h1 3 q = -2147483648) (hhi : mh_fI h1 4 q = 2147483647) (hF : ∀ a, a ≠ q → a ≠ k → a ≠ v → mh_sm (mh_new hc q 1 0) h1 a) : tbi h (mh_saR h1 pa i q) t pa (i + 1) (up1 D i (q, k, v)) ∧ mh_kd h1 t = 2 ∧ mh_kd h1 pa = 55 ∧ mh_ln h1 pa = 40 ∧ mh_fR h1 100 t = pa := by
  obtain ⟨q1, q2, q3, q4⟩ := tbi_fresh hI hq
  have kq : k ≠ q := fun e => by rw [e, mh_kd_new, if_pos rfl] at hkk; exact absurd hkk (by decide)
  have vq : v ≠ q := fun e => by rw [e, mh_kd_new, if_pos rfl] at hv; exact absurd hv (by decide)
  rw [mh_kd_new, if_neg kq] at hkk
  rw [mh_kd_new, if_neg vq] at hv
  obtain ⟨k1, k2, k3, k4⟩ := tbi_fresh hI hkk
  obtain ⟨v1, v2, v3, v4⟩ := tbi_fresh hI hv
  obtain ⟨e1, e2, e4, e5, e8, e9, eF⟩ := hI
  have S : ∀ a, a ≠ q → a ≠ k → a ≠ v → mh_sm hc h1 a := fun a a1 a2 a3 => mh_sm_tr (mh_sm_new a1) (hF a a1 a2 a3)
  have St := S t q1.symm k1.symm v1.symm
  have Sp := S pa q2.symm k2.symm v2.symm

  have np : q ≠ pa := q2
  refine ⟨⟨St.1.trans e1, (St.2.2.2.2.1 100).trans e2, Sp.1.trans e4, Sp.2.1.trans e5, fun j hj => ?_, fun j j' hj hj' hne => ?_, fun a a1 a2 a3 => ?_⟩, St.1.trans e1, Sp.1.trans e4, Sp.2.1.trans e5, (St.2.2.2.2.1 100).trans e2⟩
  · by_cases c : j = i
    · subst c
      rw [up1_eq]
      refine ⟨?_, q0, ?_, q4, k4, v4⟩
      · rw [mh_aR_saR, if_pos ⟨rfl, rfl⟩]
      · refine pgL_sm (h := h1) ⟨hp, hlo, hhi, rfl⟩ (mh_sm_saR q2) (mh_sm_saR k2) (mh_sm_saR v2)
    · rw [up1_ne _ _ c]
      obtain ⟨f1, f2, f3, f4, f5, f6⟩ := e8 j (by omega)
      obtain ⟨p1, _, _, _, _, p6, _, p8, _⟩ := f3.1
      obtain ⟨a1, a2, a3⟩ := q3 j (by omega)
      obtain ⟨b1, b2, b3⟩ := k3 j (by omega)
      obtain ⟨c1, c2, c3⟩ := v3 j (by omega)
      refine ⟨?_, f2, ?_, f4, f5, f6⟩
      · rw [mh_aR_saR, if_neg (fun q => c q.2)]
        exact (Sp.2.2.2.2.2.2.2 j).trans f1
      · refine pgL_sm f3 (mh_sm_tr (S _ a1.symm b1.symm c1.symm) (mh_sm_saR (fun e => ?_))) (mh_sm_tr (S _ a2.symm b2.symm c2.symm) (mh_sm_saR (fun e => ?_))) (mh_sm_tr (S _ a3.symm b3.symm c3.symm) (mh_sm_saR (fun e => ?_)))
        · rw [e, e4] at p1; exact absurd p1 (by decide)
        · rw [e, e4] at p6; exact absurd p6 (by decide)
        · rw [e, e4] at p8; exact absurd p8 (by decide)
  · by_cases c : j = i
    · by_cases c2 : j' = i
      · exact absurd (c.trans c2.symm) hne
      · rw [c, up1_eq, up1_ne _ _ c2]
        exact ⟨(q3 j' (by omega)).1, (k3 j' (by omega)).2.1, (v3 j' (by omega)).2.2⟩
    · rw [up1_ne _ _ c]
      by_cases c2 : j' = i
      · rw [c2, up1_eq]
        exact ⟨(q3 j (by omega)).1.symm, (k3 j (by omega)).2.1.symm, (v3 j (by omega)).2.2.symm⟩
      · rw [up1_ne _ _ c2]
        exact e9 j j' (by omega) (by omega) hne
  · have ai := a3 i (by omega)
    rw [up1_eq] at ai
    refine mh_sm_tr (mh_sm_tr (eF a a1 a2 (fun j hj => ?_)) (S a ai.1 ai.2.1 ai.2.2)) (mh_sm_saR a2)
    have := a3 j (by omega)
    rw [up1_ne _ _ (by omega)] at this
    exact this
set_option maxHeartbeats 4000000 in
set_option maxRecDepth 100000 in
theorem t_init (hk : mh_kd h t = 2) (hR : ∀ h' S, TB h' t S [] → (∀ a, S a → (a = t ∨ mh_kd h a = 0) ∧ mh_kd h' a ≠ 0) → SF S h h' → R (.inl none) h') : mv_V G jX1_init (d + 2) 0 [(0, .ref t)] [] h 121 2840 R := by
  refine v_aload_n (pc := 0) dX1_init_0 rfl rfl ?_
  refine v_oinit (pc := 1) kX1_3 dX1_init_1 (Nat.le_of_ble_eq_true rfl) (by omega) ?_
  refine v_aload_n (pc := 4) dX1_init_4 rfl rfl ?_
  refine v_bipush (pc := 5) (v := 40) dX1_init_5 (by decide) ?_
  refine v_newA55 (pc := 7) (N := 40) aX1_9.1 aX1_9.2 dX1_init_7 (by decide) (by decide) (by decide) (by omega) (by omega) (fun pa k1 k2 => ?_)
  have pt : pa ≠ t := fun e => by rw [e, hk] at k1; exact absurd k1 (by decide)
  have hk1 : mh_kd (mh_new h pa 55 40) t = 2 := by rw [mh_kd_new, if_neg pt.symm]; exact hk
  refine p_RF 100 2 (pc := 10) fX1_11 dX1_init_10 rfl rfl rfl rfl hk1 k2 ?_
  refine v_iconst (pc := 13) (v := 0) dX1_init_13 (by decide) ?_
  refine v_istore_n (pc := 14) dX1_init_14 rfl rfl rfl (by decide) ?_
  have loop : ∀ m i hc (D : Nat → Nat × Nat × Nat), i + m = 40 → tbi h hc t pa i D → mv_V G jX1_init (d + 2) 15 [(0, .ref t), (1, .int (nI i))] [] hc (3 * m) (70 * m) R := by
    intro m
    induction m with
    | zero =>
      intro i hc D hm hI
      have ei : i = 40 := by omega
      subst ei
      obtain ⟨e1, e2, e4, e5, e8, e9, eF⟩ := hI
      have e8' : ∀ j, j < 40 → (D j).1 ≠ t ∧ (D j).2.1 ≠ t ∧ (D j).2.2 ≠ t := fun j hj => by
        obtain ⟨p1, _, _, _, _, p6, _, p8, _⟩ := (e8 j hj).2.2.1.1
        exact ⟨fun e => by rw [e, e1] at p1; exact absurd p1 (by decide), fun e => by rw [e, e1] at p6; exact absurd p6 (by decide), fun e => by rw [e, e1] at p8; exact absurd p8 (by decide)⟩
      refine v_iload_n (pc := 15) dX1_init_15 rfl rfl ?_
      refine v_bipush (pc := 16) (v := 40) dX1_init_16 (by decide) ?_
      refine v_icmp_ge 40 (pc := 18) dX1_init_18 (by decide) (fun hb => ?_) (fun hb => ?_)
      · refine v_aload_n (pc := 40) dX1_init_40 rfl rfl ?_
        refine v_iconst (pc := 41) (v := 1) dX1_init_41 (by decide) ?_
        refine p_I 101 2 (pc := 42) fX1_18 dX1_init_42 rfl rfl (by assumption) ?_
        refine v_aload_n (pc := 45) dX1_init_45 rfl rfl ?_
        refine v_iconst (pc := 46) (v := 0) dX1_init_46 (by decide) ?_
        refine p_I 102 2 (pc := 47) fX1_22 dX1_init_47 rfl rfl (by assumption) ?_
        refine v_vret (pc := 50) dX1_init_50 rfl ?_
        refine hR _ (fun a => a = t ∨ a = pa ∨ ∃ j, j < 40 ∧ (a = (D j).1 ∨ a = (D j).2.1 ∨ a = (D j).2.2)) ⟨pa, 1, D, fun _ => -2147483648, fun _ => 2147483647, fun _ => [], ⟨e1, e2, k2, e4, e5, ?_, ?_, fun j hj => ?_, e9⟩, ?_, ?_, rfl, by decide⟩ ?_ ?_
        · rw [mh_fI_sfI, if_neg (fun q => absurd q.1 (by decide)), mh_fI_sfI, if_pos ⟨rfl, rfl⟩]; rfl
        · rw [mh_fI_sfI, if_pos ⟨rfl, rfl⟩]; rfl
        · obtain ⟨f1, f2, f3, f4⟩ := e8 j hj
          obtain ⟨n1, n2, n3⟩ := e8' j hj
          exact ⟨f1, f2, pgL_sm f3 (mh_sm_tr (mh_sm_sfI n1) (mh_sm_sfI n1)) (mh_sm_tr (mh_sm_sfI n2) (mh_sm_sfI n2)) (mh_sm_tr (mh_sm_sfI n3) (mh_sm_sfI n3))⟩
        · refine ⟨by decide, by decide, rfl, rfl, fun j _ => ⟨i32_min _, List.Pairwise.nil, fun e he => ?_⟩, fun j hj => by omega⟩
          exact absurd he List.not_mem_nil
        · exact ⟨Or.inl rfl, Or.inr (Or.inl rfl), fun j hj => ⟨Or.inr (Or.inr ⟨j, hj, Or.inl rfl⟩), Or.inr (Or.inr ⟨j, hj, Or.inr (Or.inl rfl)⟩), Or.inr (Or.inr ⟨j, hj, Or.inr (Or.inr rfl)⟩)⟩⟩
        · intro a ha
          rcases ha with rfl | rfl | ⟨j, hj, hq⟩
          · exact ⟨Or.inl rfl, fun z => absurd (e1.symm.trans z) (by decide)⟩
          · exact ⟨Or.inr k1, fun z => absurd (e4.symm.trans z) (by decide)⟩
          · obtain ⟨_, _, z0, z1, z2, z3⟩ := e8 j hj
            obtain ⟨p1, _, _, _, _, p6, _, p8, _⟩ := z0.1
            rcases hq with rfl | rfl | rfl
            · exact ⟨Or.inr z1, fun z => absurd (p1.symm.trans z) (by decide)⟩
            · exact ⟨Or.inr z2, fun z => absurd (p6.symm.trans z) (by decide)⟩
            · exact ⟨Or.inr z3, fun z => absurd (p8.symm.trans z) (by decide)⟩
        · intro a ha
          have a1 : a ≠ t := fun q => ha (Or.inl q)
          exact mh_sm_tr (mh_sm_tr (eF a a1 (fun q => ha (Or.inr (Or.inl q))) (fun j hj => ⟨fun q => ha (Or.inr (Or.inr ⟨j, hj, Or.inl q⟩)), fun q => ha (Or.inr (Or.inr ⟨j, hj, Or.inr (Or.inl q)⟩)), fun q => ha (Or.inr (Or.inr ⟨j, hj, Or.inr (Or.inr q)⟩))⟩)) (mh_sm_sfI a1)) (mh_sm_sfI a1)
      · exact absurd ((nI_leI (a := 40) (by omega) (by omega)).mpr (by omega)) hb
    | succ m ih =>
      intro i hc D hm hI
      have hI' := hI
      obtain ⟨e1, e2, e4, e5, e8, e9, eF⟩ := hI
      refine v_iload_n (pc := 15) dX1_init_15 rfl rfl ?_
      refine v_bipush (pc := 16) (v := 40) dX1_init_16 (by decide) ?_
      refine v_icmp_ge 40 (pc := 18) dX1_init_18 (by decide) (fun hb => ?_) (fun hb => ?_)
      · have := (nI_leI (a := 40) (by omega) (by omega)).mp hb
        omega
      · refine v_aload_n (pc := 21) dX1_init_21 rfl rfl ?_
        refine g_R 100 2 (pc := 22) fX1_11 dX1_init_22 rfl rfl (by assumption) (by assumption) (by assumption) ?_
        refine v_iload_n (pc := 25) dX1_init_25 rfl rfl ?_
        refine v_new (pc := 26) nX1_9 dX1_init_26 (by omega) (by omega) (fun q q1 q2 => ?_)
        refine v_dup (pc := 29) dX1_init_29 rfl ?_
        refine v_callI 2 64 (pc := 30) kX1_17 dX1_init_30 rfl (by omega) (by omega) (Nat.le_of_ble_eq_true rfl) (Nat.le_of_ble_eq_true rfl) ?_
        refine c_pgInit (by rw [mh_kd_new, if_pos rfl]) (fun k v h1 c1 c2 c3 c4 c5 c6 c7 c8 => ?_)
        obtain ⟨s1, s2, s3, s4, s5⟩ := tbi_step hI' q2 q1 c1 c2 c4 c5 c6 c8
        have c9 := c4.1
        refine n_aast55 (i) _ (pc := 33) dX1_init_33 (by assumption) (by assumption) rfl (by omega) (by decide) (by assumption) (by assumption) ?_
        refine v_iinc (pc := 34) dX1_init_34 rfl (mv_inc _) rfl rfl (by decide) ?_
        refine v_goto 15 (pc := 37) dX1_init_37 (by decide) ?_
        exact v_kle (by omega) (by omega) (ih (i + 1) _ _ (by omega) s1)
  refine v_kle (kc' := 3 * 40) (ks' := 70 * 40) (by omega) (by omega) (loop 40 0 _ (fun _ => (0, 0, 0)) (by omega) ⟨hk1, ?_, ?_, ?_, fun j hj => by omega, fun j j' hj => by omega, fun a a1 a2 _ => ?_⟩)
  · rw [mh_fR_sfR, if_pos ⟨rfl, rfl⟩]
  · rw [mh_kd_sfR, mh_kd_new, if_pos rfl]
  · rw [mh_ln_sfR, mh_ln_new, if_pos rfl]
  · exact mh_sm_tr (mh_sm_new a2) (mh_sm_sfR a1)
end TI
