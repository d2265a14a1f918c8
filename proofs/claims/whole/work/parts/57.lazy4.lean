/-! LazyPages(): a new one. -/
/-- n tables are built since h, in the cells ss; E holds the arrays of x -/
def Bd (h hc : mh_T) (x n : Nat) (tt : Nat → Nat) (ss : Nat → Nat → Prop) (E : Nat → Prop) : Prop :=
  mh_kd hc x = 3 ∧ (∀ k, k < n → tt k ≠ 0 ∧ TB hc (tt k) (ss k) [] ∧ ∀ a, ss k a → mh_kd h a = 0 ∧ mh_kd hc a ≠ 0 ∧ a ≠ x) ∧ (∀ k k', k < n → k' < n → k ≠ k' → ∀ a, ss k a → ¬ ss k' a) ∧ (∀ a, E a → mh_kd h a = 0 ∧ mh_kd hc a ≠ 0 ∧ a ≠ x ∧ ∀ k, k < n → ¬ ss k a) ∧ (∀ a, a ≠ x → (∀ k, k < n → ¬ ss k a) → ¬ E a → mh_sm h hc a)
section BD
variable {h hc h1 : mh_T} {x n : Nat} {tt : Nat → Nat} {ss : Nat → Nat → Prop} {E E' : Nat → Prop}
theorem Bd_fresh (hB : Bd h hc x n tt ss E) {a : Nat} (ha : mh_kd hc a = 0) : a ≠ x ∧ (∀ k, k < n → ¬ ss k a) ∧ ¬ E a ∧ mh_kd h a = 0 := by
  obtain ⟨b1, b2, b3, b4, b5⟩ := hB
  have a1 : a ≠ x := fun q => by rw [q, b1] at ha; exact absurd ha (by decide)
  have a2 : ∀ k, k < n → ¬ ss k a := fun k hk q => ((b2 k hk).2.2 a q).2.1 ha
  have a3 : ¬ E a := fun q => (b4 a q).2.1 ha
  exact ⟨a1, a2, a3, by rw [← (b5 a a1 a2 a3).1]; exact ha⟩
theorem Bd_gen (hB : Bd h hc x n tt ss E) (hE : ∀ a, E a → E' a) (hN : ∀ a, E' a → E a ∨ mh_kd hc a = 0) (h2 : ∀ a, E' a → mh_kd h1 a ≠ 0) (hx : mh_kd h1 x = 3) (hs : ∀ a, a ≠ x → ¬ E' a → mh_sm hc h1 a) : Bd h h1 x n tt ss E' := by
  obtain ⟨b1, b2, b3, b4, b5⟩ := id hB
  have nE : ∀ k, k < n → ∀ a, ss k a → ¬ E' a := fun k hk a ha q => by
    rcases hN a q with z | z
    · exact (b4 a z).2.2.2 k hk ha
    · exact (Bd_fresh hB z).2.1 k hk ha
  refine ⟨hx, fun k hk => ?_, b3, fun a ha => ?_, fun a a1 a2 a3 => ?_⟩
  · obtain ⟨c1, c2, c3⟩ := b2 k hk
    refine ⟨c1, TB_sm c2 (fun a ha => hs a (c3 a ha).2.2 (nE k hk a ha)), fun a ha => ?_⟩
    obtain ⟨d1, d2, d3⟩ := c3 a ha
    refine ⟨d1, ?_, d3⟩
    rw [(hs a d3 (nE k hk a ha)).1]; exact d2
  · rcases hN a ha with z | z
    · obtain ⟨d1, d2, d3, d4⟩ := b4 a z
      exact ⟨d1, h2 a ha, d3, d4⟩
    · obtain ⟨d1, d2, d3, d4⟩ := Bd_fresh hB z
      exact ⟨d4, h2 a ha, d1, d2⟩
  · exact mh_sm_tr (b5 a a1 a2 (fun q => a3 (hE a q))) (hs a a1 a3)
theorem TB_in {t : Nat} {S : Nat → Prop} {M : List En} (hT : TB h t S M) : S t := by
  obtain ⟨_, _, _, _, _, _, _, _, z, _⟩ := hT
  exact z.1
theorem Bd_new {q : Nat} {S' : Nat → Prop} (hB : Bd h hc x n tt ss E) (q0 : q ≠ 0) (hq : mh_kd hc q = 0) (hT : TB h1 q S' []) (hS : ∀ a, S' a → (a = q ∨ mh_kd (mh_new hc q 2 0) a = 0) ∧ mh_kd h1 a ≠ 0) (hF : SF S' (mh_new hc q 2 0) h1) : Bd h h1 x (n + 1) (up1 tt n q) (up1 ss n S') E ∧ mh_sm hc h1 x ∧ ∀ a, E a → mh_sm hc h1 a := by
  have hS0 : ∀ a, S' a → mh_kd hc a = 0 := fun a ha => by
    rcases (hS a ha).1 with z | z
    · rw [z]; exact hq
    · rw [mh_kd_new] at z
      by_cases c : a = q
      · rw [c]; exact hq
      · rw [if_neg c] at z; exact z
  have sm : ∀ a, ¬ S' a → mh_sm hc h1 a := fun a ha => mh_sm_tr (mh_sm_new (fun e => ha (e ▸ TB_in hT))) (hF a ha)
  have nx : ¬ S' x := fun z => (Bd_fresh hB (hS0 x z)).1 rfl
  have nE : ∀ a, E a → ¬ S' a := fun a ha z => (Bd_fresh hB (hS0 a z)).2.2.1 ha
  have ns : ∀ k, k < n → ∀ a, ss k a → ¬ S' a := fun k hk a ha z => (Bd_fresh hB (hS0 a z)).2.1 k hk ha
  obtain ⟨b1, b2, b3, b4, b5⟩ := id hB
  refine ⟨⟨(sm x nx).1.trans b1, fun k hk => ?_, fun k k' hk hk' hne a ha => ?_, fun a ha => ?_, fun a a1 a2 a3 => ?_⟩, sm x nx, fun a ha => sm a (nE a ha)⟩
  · by_cases c : k = n
    · subst c
      rw [up1_eq, up1_eq]
      refine ⟨q0, hT, fun a ha => ?_⟩
      obtain ⟨z1, z2, z3, z4⟩ := Bd_fresh hB (hS0 a ha)
      exact ⟨z4, (hS a ha).2, z1⟩
    · rw [up1_ne _ _ c, up1_ne _ _ c]
      obtain ⟨c1, c2, c3⟩ := b2 k (by omega)
      refine ⟨c1, TB_sm c2 (fun a ha => sm a (ns k (by omega) a ha)), fun a ha => ?_⟩
      obtain ⟨d1, d2, d3⟩ := c3 a ha
      refine ⟨d1, ?_, d3⟩
      rw [(sm a (ns k (by omega) a ha)).1]; exact d2
  · by_cases c : k = n
    · by_cases c2 : k' = n
      · exact absurd (c.trans c2.symm) hne
      · rw [c, up1_eq] at ha
        rw [up1_ne _ _ c2]
        exact fun z => ns k' (by omega) a z ha
    · rw [up1_ne _ _ c] at ha
      by_cases c2 : k' = n
      · rw [c2, up1_eq]
        exact ns k (by omega) a ha
      · rw [up1_ne _ _ c2]
        exact b3 k k' (by omega) (by omega) hne a ha
  · obtain ⟨d1, d2, d3, d4⟩ := b4 a ha
    refine ⟨d1, ?_, d3, fun k hk => ?_⟩
    · rw [(sm a (nE a ha)).1]; exact d2
    · by_cases c : k = n
      · rw [c, up1_eq]; exact nE a ha
      · rw [up1_ne _ _ c]; exact d4 k (by omega)
  · have nS : ¬ S' a := by
      have := a2 n (by omega)
      rw [up1_eq] at this
      exact this
    refine mh_sm_tr (b5 a a1 (fun k hk => ?_) a3) (sm a nS)
    have := a2 k (by omega)
    rw [up1_ne _ _ (by omega)] at this
    exact this
end BD
section LPI
variable {G : mv_G} {d : Nat} {h : mh_T} {x : Nat} {R : mv_O → mh_T → Prop}
set_option maxHeartbeats 4000000 in
set_option maxRecDepth 100000 in
theorem o_init (hk : mh_kd h x = 3) (hR : ∀ h' S vs sa T SS, LPx h' x S vs sa T SS (fun _ => []) (fun _ => false) 0 0 → (∀ a, S a → (a = x ∨ mh_kd h a = 0) ∧ mh_kd h' a ≠ 0) → SF S h h' → R (.inl none) h') : mv_V G jX2_init (d + 3) 0 [(0, .ref x)] [] h 740 17200 R := by
  have B0 : Bd h h x 0 (fun _ => 0) (fun _ _ => False) (fun _ => False) := ⟨hk, fun k hk => by omega, fun k k' hk => by omega, fun a ha => ha.elim, fun a _ _ _ => mh_sm_rf h a⟩
  refine v_aload_n (pc := 0) dX2_init_0 rfl rfl ?_
  refine v_oinit (pc := 1) kX2_1 dX2_init_1 (Nat.le_of_ble_eq_true rfl) (by omega) ?_
  refine v_aload_n (pc := 4) dX2_init_4 rfl rfl ?_
  refine v_new (pc := 5) nX2_7 dX2_init_5 (by omega) (by omega) (fun q4 k1 k2 => ?_)
  refine v_dup (pc := 8) dX2_init_8 rfl ?_
  refine v_callI 121 2840 (pc := 9) kX2_9 dX2_init_9 rfl (by omega) (by omega) (Nat.le_of_ble_eq_true rfl) (Nat.le_of_ble_eq_true rfl) ?_
  refine t_init (by rw [mh_kd_new, if_pos rfl]) (fun h1 S4 u1 u2 u3 => ?_)
  obtain ⟨B1, sx1, _⟩ := Bd_new B0 k2 k1 u1 u2 u3
  have x1 := B1.1
  refine p_RF 200 3 (pc := 12) fX2_10 dX2_init_12 rfl rfl rfl rfl (by assumption) (by assumption) ?_
  have B2 : Bd h (mh_sfR h1 200 x q4) x 1 (up1 (fun _ => 0) 0 q4) (up1 (fun _ _ => False) 0 S4) (fun _ => False) := Bd_gen B1 (fun _ q => q) (fun _ q => q.elim) (fun _ q => q.elim) x1 (fun a ha _ => mh_sm_sfR ha)
  have y2 : mh_fR (mh_sfR h1 200 x q4) 200 x = q4 := by rw [mh_fR_sfR, if_pos ⟨rfl, rfl⟩]
  generalize mh_sfR h1 200 x q4 = h2 at *
  clear B1 u1 u2 u3 x1
  refine v_aload_n (pc := 15) dX2_init_15 rfl rfl ?_
  refine v_new (pc := 16) nX2_7 dX2_init_16 (by omega) (by omega) (fun q5 k3 k4 => ?_)
  refine v_dup (pc := 19) dX2_init_19 rfl ?_
  refine v_callI 121 2840 (pc := 20) kX2_9 dX2_init_20 rfl (by omega) (by omega) (Nat.le_of_ble_eq_true rfl) (Nat.le_of_ble_eq_true rfl) ?_
  refine t_init (by rw [mh_kd_new, if_pos rfl]) (fun h3 S5 u1 u2 u3 => ?_)
  obtain ⟨B3, sx3, _⟩ := Bd_new B2 k4 k3 u1 u2 u3
  have x3 := B3.1
  refine p_RF 201 3 (pc := 23) fX2_16 dX2_init_23 rfl rfl rfl rfl (by assumption) (by assumption) ?_
  have B4 : Bd h (mh_sfR h3 201 x q5) x 2 (up1 (up1 (fun _ => 0) 0 q4) 1 q5) (up1 (up1 (fun _ _ => False) 0 S4) 1 S5) (fun _ => False) := Bd_gen B3 (fun _ q => q) (fun _ q => q.elim) (fun _ q => q.elim) x3 (fun a ha _ => mh_sm_sfR ha)
  have y4 : mh_fR (mh_sfR h3 201 x q5) 200 x = q4 := by
    rw [mh_fR_sfR, if_neg (fun q => absurd q.1 (by decide))]
    exact (sx3.2.2.2.2.1 200).trans y2
  have z4 : mh_fR (mh_sfR h3 201 x q5) 201 x = q5 := by rw [mh_fR_sfR, if_pos ⟨rfl, rfl⟩]
  generalize mh_sfR h3 201 x q5 = h4 at *
  clear B2 B3 u1 u2 u3 x3 y2 sx3
  refine v_aload_n (pc := 26) dX2_init_26 rfl rfl ?_
  refine v_iconst (pc := 27) (v := 4) dX2_init_27 (by decide) ?_
  refine v_newA54 (pc := 28) (N := 4) aX2_7.1 aX2_7.2 dX2_init_28 (by decide) (by decide) (by decide) (by omega) (by omega) (fun vs k5 k6 => ?_)
  have fv := Bd_fresh B4 k5
  have x5 : mh_kd (mh_new h4 vs 54 4) x = 3 := by rw [mh_kd_new, if_neg fv.1.symm]; exact B4.1
  refine p_RF 202 3 (pc := 31) fX2_19 dX2_init_31 rfl rfl rfl rfl x5 k6 ?_
  refine v_iconst (pc := 34) (v := 0) dX2_init_34 (by decide) ?_
  refine v_istore_n (pc := 35) dX2_init_35 rfl rfl rfl (by decide) ?_
  have B6 : Bd h (mh_sfR (mh_new h4 vs 54 4) 202 x vs) x 2 (up1 (up1 (fun _ => 0) 0 q4) 1 q5) (up1 (up1 (fun _ _ => False) 0 S4) 1 S5) (fun a => a = vs) := by
    refine Bd_gen B4 (fun _ q => q.elim) (fun a q => Or.inr (q ▸ k5)) (fun a q => ?_) x5 (fun a ha ha2 => mh_sm_tr (mh_sm_new ha2) (mh_sm_sfR ha))
    subst q
    rw [mh_kd_sfR, mh_kd_new, if_pos rfl]; decide
  have y6 : mh_fR (mh_sfR (mh_new h4 vs 54 4) 202 x vs) 200 x = q4 := by
    rw [mh_fR_sfR, if_neg (fun q => absurd q.1 (by decide)), mh_fR_new, if_neg fv.1.symm]
    exact y4
  have z6 : mh_fR (mh_sfR (mh_new h4 vs 54 4) 202 x vs) 201 x = q5 := by
    rw [mh_fR_sfR, if_neg (fun q => absurd q.1 (by decide)), mh_fR_new, if_neg fv.1.symm]
    exact z4
  have w6 : mh_fR (mh_sfR (mh_new h4 vs 54 4) 202 x vs) 202 x = vs := by rw [mh_fR_sfR, if_pos ⟨rfl, rfl⟩]
  have a6 : mh_kd (mh_sfR (mh_new h4 vs 54 4) 202 x vs) vs = 54 := by rw [mh_kd_sfR, mh_kd_new, if_pos rfl]
  have b6 : mh_ln (mh_sfR (mh_new h4 vs 54 4) 202 x vs) vs = 4 := by rw [mh_ln_sfR, mh_ln_new, if_pos rfl]
  have tq4 : up1 (up1 (fun _ : Nat => 0) 0 q4) 1 q5 0 = q4 := rfl
  have tq5 : up1 (up1 (fun _ : Nat => 0) 0 q4) 1 q5 1 = q5 := rfl
  generalize mh_sfR (mh_new h4 vs 54 4) 202 x vs = h6 at *
  generalize up1 (up1 (fun _ : Nat => 0) 0 q4) 1 q5 = tt at *
  generalize up1 (up1 (fun _ _ => False) 0 S4) 1 S5 = ss at *
  clear B4 x5 y4 z4
  have fin : ∀ hc tt ss, Bd h hc x 6 tt ss (fun a => a = vs) → tt 0 = q4 → tt 1 = q5 → mh_fR hc 200 x = q4 → mh_fR hc 201 x = q5 → mh_fR hc 202 x = vs → mh_kd hc vs = 54 → mh_ln hc vs = 4 → (∀ j, j < 4 → mh_aR hc vs j = tt (j + 2)) → mv_V G jX2_init (d + 3) 60 [(0, .ref x), (1, .int (nI 4))] [] hc 1 4 R := by
    intro hc tt ss B t0 t1 y z w av bv c
    refine v_aload_n (pc := 60) dX2_init_60 rfl rfl ?_
    refine v_iconst (pc := 61) (v := 4) dX2_init_61 (by decide) ?_
    refine v_newZ (pc := 62) (N := 4) na_boolean dX2_init_62 (by decide) (by decide) (by decide) (by omega) (by omega) (fun sa k7 k8 => ?_)
    have fs := Bd_fresh B k7
    have x7 : mh_kd (mh_new hc sa 52 4) x = 3 := by rw [mh_kd_new, if_neg fs.1.symm]; exact B.1
    have svs : vs ≠ sa := fun q => fs.2.2.1 q.symm
    refine p_RF 203 3 (pc := 64) fX2_23 dX2_init_64 rfl rfl rfl rfl x7 k8 ?_
    refine v_aload_n (pc := 67) dX2_init_67 rfl rfl ?_
    refine v_iconst (pc := 68) (v := 0) dX2_init_68 (by decide) ?_
    refine p_I 204 3 (pc := 69) fX2_27 dX2_init_69 rfl rfl x7 ?_
    refine v_aload_n (pc := 72) dX2_init_72 rfl rfl ?_
    refine v_iconst (pc := 73) (v := 0) dX2_init_73 (by decide) ?_
    refine p_I 205 3 (pc := 74) fX2_31 dX2_init_74 rfl rfl x7 ?_
    refine v_vret (pc := 77) dX2_init_77 rfl ?_
    have B8 : Bd h (mh_sfI (mh_sfI (mh_sfR (mh_new hc sa 52 4) 203 x sa) 204 x 0) 205 x 0) x 6 tt ss (fun a => a = vs ∨ a = sa) := by
      refine Bd_gen B (fun _ q => Or.inl q) (fun a q => ?_) (fun a q => ?_) x7 (fun a ha ha2 => mh_sm_tr (mh_sm_tr (mh_sm_tr (mh_sm_new (fun q => ha2 (Or.inr q))) (mh_sm_sfR ha)) (mh_sm_sfI ha)) (mh_sm_sfI ha))
      · rcases q with q | q
        · exact Or.inl q
        · exact Or.inr (q ▸ k7)
      · show mh_kd (mh_new hc sa 52 4) a ≠ 0
        rw [mh_kd_new]
        rcases q with q | q
        · rw [q, if_neg svs, av]; decide
        · rw [if_pos q]; decide
    obtain ⟨c1, c2, c3, c4, c5⟩ := id B8
    have pi : ∀ i, i < 6 → (if i = 4 then 0 else if i = 5 then 1 else i + 2) < 6 := fun i hi => by
      repeat' split
      all_goals omega
    refine hR _ (fun a => a = x ∨ a = vs ∨ a = sa ∨ ∃ k, k < 6 ∧ ss k a) vs sa (fun i => tt (if i = 4 then 0 else if i = 5 then 1 else i + 2)) (fun i => ss (if i = 4 then 0 else if i = 5 then 1 else i + 2)) ⟨⟨c1, ?_, ?_, ?_, ?_, k6, k8, ?_, ?_, ?_, ?_, ?_, ?_⟩, fun i hi => ?_, fun i hi => ?_, fun i j hi hj hne => ?_, ⟨Or.inl rfl, Or.inr (Or.inl rfl), Or.inr (Or.inr (Or.inl rfl))⟩, by decide, by decide⟩ ?_ ?_
    · simp [mh_kd_sfI, mh_ln_sfI, mh_fI_sfI, mh_fJ_sfI, mh_fR_sfI, mh_aI_sfI, mh_aJ_sfI, mh_aR_sfI, mh_kd_sfJ, mh_ln_sfJ, mh_fI_sfJ, mh_fJ_sfJ, mh_fR_sfJ, mh_aI_sfJ, mh_aJ_sfJ, mh_aR_sfJ, mh_kd_sfR, mh_ln_sfR, mh_fI_sfR, mh_fJ_sfR, mh_fR_sfR, mh_aI_sfR, mh_aJ_sfR, mh_aR_sfR, mh_kd_saI, mh_ln_saI, mh_fI_saI, mh_fJ_saI, mh_fR_saI, mh_aI_saI, mh_aJ_saI, mh_aR_saI, mh_kd_saJ, mh_ln_saJ, mh_fI_saJ, mh_fJ_saJ, mh_fR_saJ, mh_aI_saJ, mh_aJ_saJ, mh_aR_saJ, mh_kd_saR, mh_ln_saR, mh_fI_saR, mh_fJ_saR, mh_fR_saR, mh_aI_saR, mh_aJ_saR, mh_aR_saR, mh_kd_caI, mh_ln_caI, mh_fI_caI, mh_fJ_caI, mh_fR_caI, mh_aI_caI, mh_aJ_caI, mh_aR_caI, mh_kd_caJ, mh_ln_caJ, mh_fI_caJ, mh_fJ_caJ, mh_fR_caJ, mh_aI_caJ, mh_aJ_caJ, mh_aR_caJ, mh_kd_new, mh_ln_new, mh_fI_new, mh_fJ_new, mh_fR_new, mh_aI_new, mh_aJ_new, mh_aR_new, fs.1.symm, y, t0]
    · simp [mh_kd_sfI, mh_ln_sfI, mh_fI_sfI, mh_fJ_sfI, mh_fR_sfI, mh_aI_sfI, mh_aJ_sfI, mh_aR_sfI, mh_kd_sfJ, mh_ln_sfJ, mh_fI_sfJ, mh_fJ_sfJ, mh_fR_sfJ, mh_aI_sfJ, mh_aJ_sfJ, mh_aR_sfJ, mh_kd_sfR, mh_ln_sfR, mh_fI_sfR, mh_fJ_sfR, mh_fR_sfR, mh_aI_sfR, mh_aJ_sfR, mh_aR_sfR, mh_kd_saI, mh_ln_saI, mh_fI_saI, mh_fJ_saI, mh_fR_saI, mh_aI_saI, mh_aJ_saI, mh_aR_saI, mh_kd_saJ, mh_ln_saJ, mh_fI_saJ, mh_fJ_saJ, mh_fR_saJ, mh_aI_saJ, mh_aJ_saJ, mh_aR_saJ, mh_kd_saR, mh_ln_saR, mh_fI_saR, mh_fJ_saR, mh_fR_saR, mh_aI_saR, mh_aJ_saR, mh_aR_saR, mh_kd_caI, mh_ln_caI, mh_fI_caI, mh_fJ_caI, mh_fR_caI, mh_aI_caI, mh_aJ_caI, mh_aR_caI, mh_kd_caJ, mh_ln_caJ, mh_fI_caJ, mh_fJ_caJ, mh_fR_caJ, mh_aI_caJ, mh_aJ_caJ, mh_aR_caJ, mh_kd_new, mh_ln_new, mh_fI_new, mh_fJ_new, mh_fR_new, mh_aI_new, mh_aJ_new, mh_aR_new, fs.1.symm, z, t1]
    · simp [mh_kd_sfI, mh_ln_sfI, mh_fI_sfI, mh_fJ_sfI, mh_fR_sfI, mh_aI_sfI, mh_aJ_sfI, mh_aR_sfI, mh_kd_sfJ, mh_ln_sfJ, mh_fI_sfJ, mh_fJ_sfJ, mh_fR_sfJ, mh_aI_sfJ, mh_aJ_sfJ, mh_aR_sfJ, mh_kd_sfR, mh_ln_sfR, mh_fI_sfR, mh_fJ_sfR, mh_fR_sfR, mh_aI_sfR, mh_aJ_sfR, mh_aR_sfR, mh_kd_saI, mh_ln_saI, mh_fI_saI, mh_fJ_saI, mh_fR_saI, mh_aI_saI, mh_aJ_saI, mh_aR_saI, mh_kd_saJ, mh_ln_saJ, mh_fI_saJ, mh_fJ_saJ, mh_fR_saJ, mh_aI_saJ, mh_aJ_saJ, mh_aR_saJ, mh_kd_saR, mh_ln_saR, mh_fI_saR, mh_fJ_saR, mh_fR_saR, mh_aI_saR, mh_aJ_saR, mh_aR_saR, mh_kd_caI, mh_ln_caI, mh_fI_caI, mh_fJ_caI, mh_fR_caI, mh_aI_caI, mh_aJ_caI, mh_aR_caI, mh_kd_caJ, mh_ln_caJ, mh_fI_caJ, mh_fJ_caJ, mh_fR_caJ, mh_aI_caJ, mh_aJ_caJ, mh_aR_caJ, mh_kd_new, mh_ln_new, mh_fI_new, mh_fJ_new, mh_fR_new, mh_aI_new, mh_aJ_new, mh_aR_new, fs.1.symm, w]
    · simp [mh_kd_sfI, mh_ln_sfI, mh_fI_sfI, mh_fJ_sfI, mh_fR_sfI, mh_aI_sfI, mh_aJ_sfI, mh_aR_sfI, mh_kd_sfJ, mh_ln_sfJ, mh_fI_sfJ, mh_fJ_sfJ, mh_fR_sfJ, mh_aI_sfJ, mh_aJ_sfJ, mh_aR_sfJ, mh_kd_sfR, mh_ln_sfR, mh_fI_sfR, mh_fJ_sfR, mh_fR_sfR, mh_aI_sfR, mh_aJ_sfR, mh_aR_sfR, mh_kd_saI, mh_ln_saI, mh_fI_saI, mh_fJ_saI, mh_fR_saI, mh_aI_saI, mh_aJ_saI, mh_aR_saI, mh_kd_saJ, mh_ln_saJ, mh_fI_saJ, mh_fJ_saJ, mh_fR_saJ, mh_aI_saJ, mh_aJ_saJ, mh_aR_saJ, mh_kd_saR, mh_ln_saR, mh_fI_saR, mh_fJ_saR, mh_fR_saR, mh_aI_saR, mh_aJ_saR, mh_aR_saR, mh_kd_caI, mh_ln_caI, mh_fI_caI, mh_fJ_caI, mh_fR_caI, mh_aI_caI, mh_aJ_caI, mh_aR_caI, mh_kd_caJ, mh_ln_caJ, mh_fI_caJ, mh_fJ_caJ, mh_fR_caJ, mh_aI_caJ, mh_aJ_caJ, mh_aR_caJ, mh_kd_new, mh_ln_new, mh_fI_new, mh_fJ_new, mh_fR_new, mh_aI_new, mh_aJ_new, mh_aR_new]
    · simp [mh_kd_sfI, mh_ln_sfI, mh_fI_sfI, mh_fJ_sfI, mh_fR_sfI, mh_aI_sfI, mh_aJ_sfI, mh_aR_sfI, mh_kd_sfJ, mh_ln_sfJ, mh_fI_sfJ, mh_fJ_sfJ, mh_fR_sfJ, mh_aI_sfJ, mh_aJ_sfJ, mh_aR_sfJ, mh_kd_sfR, mh_ln_sfR, mh_fI_sfR, mh_fJ_sfR, mh_fR_sfR, mh_aI_sfR, mh_aJ_sfR, mh_aR_sfR, mh_kd_saI, mh_ln_saI, mh_fI_saI, mh_fJ_saI, mh_fR_saI, mh_aI_saI, mh_aJ_saI, mh_aR_saI, mh_kd_saJ, mh_ln_saJ, mh_fI_saJ, mh_fJ_saJ, mh_fR_saJ, mh_aI_saJ, mh_aJ_saJ, mh_aR_saJ, mh_kd_saR, mh_ln_saR, mh_fI_saR, mh_fJ_saR, mh_fR_saR, mh_aI_saR, mh_aJ_saR, mh_aR_saR, mh_kd_caI, mh_ln_caI, mh_fI_caI, mh_fJ_caI, mh_fR_caI, mh_aI_caI, mh_aJ_caI, mh_aR_caI, mh_kd_caJ, mh_ln_caJ, mh_fI_caJ, mh_fJ_caJ, mh_fR_caJ, mh_aI_caJ, mh_aJ_caJ, mh_aR_caJ, mh_kd_new, mh_ln_new, mh_fI_new, mh_fJ_new, mh_fR_new, mh_aI_new, mh_aJ_new, mh_aR_new, svs, av]
    · simp [mh_kd_sfI, mh_ln_sfI, mh_fI_sfI, mh_fJ_sfI, mh_fR_sfI, mh_aI_sfI, mh_aJ_sfI, mh_aR_sfI, mh_kd_sfJ, mh_ln_sfJ, mh_fI_sfJ, mh_fJ_sfJ, mh_fR_sfJ, mh_aI_sfJ, mh_aJ_sfJ, mh_aR_sfJ, mh_kd_sfR, mh_ln_sfR, mh_fI_sfR, mh_fJ_sfR, mh_fR_sfR, mh_aI_sfR, mh_aJ_sfR, mh_aR_sfR, mh_kd_saI, mh_ln_saI, mh_fI_saI, mh_fJ_saI, mh_fR_saI, mh_aI_saI, mh_aJ_saI, mh_aR_saI, mh_kd_saJ, mh_ln_saJ, mh_fI_saJ, mh_fJ_saJ, mh_fR_saJ, mh_aI_saJ, mh_aJ_saJ, mh_aR_saJ, mh_kd_saR, mh_ln_saR, mh_fI_saR, mh_fJ_saR, mh_fR_saR, mh_aI_saR, mh_aJ_saR, mh_aR_saR, mh_kd_caI, mh_ln_caI, mh_fI_caI, mh_fJ_caI, mh_fR_caI, mh_aI_caI, mh_aJ_caI, mh_aR_caI, mh_kd_caJ, mh_ln_caJ, mh_fI_caJ, mh_fJ_caJ, mh_fR_caJ, mh_aI_caJ, mh_aJ_caJ, mh_aR_caJ, mh_kd_new, mh_ln_new, mh_fI_new, mh_fJ_new, mh_fR_new, mh_aI_new, mh_aJ_new, mh_aR_new, svs, bv]
    · simp [mh_kd_sfI, mh_ln_sfI, mh_fI_sfI, mh_fJ_sfI, mh_fR_sfI, mh_aI_sfI, mh_aJ_sfI, mh_aR_sfI, mh_kd_sfJ, mh_ln_sfJ, mh_fI_sfJ, mh_fJ_sfJ, mh_fR_sfJ, mh_aI_sfJ, mh_aJ_sfJ, mh_aR_sfJ, mh_kd_sfR, mh_ln_sfR, mh_fI_sfR, mh_fJ_sfR, mh_fR_sfR, mh_aI_sfR, mh_aJ_sfR, mh_aR_sfR, mh_kd_saI, mh_ln_saI, mh_fI_saI, mh_fJ_saI, mh_fR_saI, mh_aI_saI, mh_aJ_saI, mh_aR_saI, mh_kd_saJ, mh_ln_saJ, mh_fI_saJ, mh_fJ_saJ, mh_fR_saJ, mh_aI_saJ, mh_aJ_saJ, mh_aR_saJ, mh_kd_saR, mh_ln_saR, mh_fI_saR, mh_fJ_saR, mh_fR_saR, mh_aI_saR, mh_aJ_saR, mh_aR_saR, mh_kd_caI, mh_ln_caI, mh_fI_caI, mh_fJ_caI, mh_fR_caI, mh_aI_caI, mh_aJ_caI, mh_aR_caI, mh_kd_caJ, mh_ln_caJ, mh_fI_caJ, mh_fJ_caJ, mh_fR_caJ, mh_aI_caJ, mh_aJ_caJ, mh_aR_caJ, mh_kd_new, mh_ln_new, mh_fI_new, mh_fJ_new, mh_fR_new, mh_aI_new, mh_aJ_new, mh_aR_new]
    · simp [mh_kd_sfI, mh_ln_sfI, mh_fI_sfI, mh_fJ_sfI, mh_fR_sfI, mh_aI_sfI, mh_aJ_sfI, mh_aR_sfI, mh_kd_sfJ, mh_ln_sfJ, mh_fI_sfJ, mh_fJ_sfJ, mh_fR_sfJ, mh_aI_sfJ, mh_aJ_sfJ, mh_aR_sfJ, mh_kd_sfR, mh_ln_sfR, mh_fI_sfR, mh_fJ_sfR, mh_fR_sfR, mh_aI_sfR, mh_aJ_sfR, mh_aR_sfR, mh_kd_saI, mh_ln_saI, mh_fI_saI, mh_fJ_saI, mh_fR_saI, mh_aI_saI, mh_aJ_saI, mh_aR_saI, mh_kd_saJ, mh_ln_saJ, mh_fI_saJ, mh_fJ_saJ, mh_fR_saJ, mh_aI_saJ, mh_aJ_saJ, mh_aR_saJ, mh_kd_saR, mh_ln_saR, mh_fI_saR, mh_fJ_saR, mh_fR_saR, mh_aI_saR, mh_aJ_saR, mh_aR_saR, mh_kd_caI, mh_ln_caI, mh_fI_caI, mh_fJ_caI, mh_fR_caI, mh_aI_caI, mh_aJ_caI, mh_aR_caI, mh_kd_caJ, mh_ln_caJ, mh_fI_caJ, mh_fJ_caJ, mh_fR_caJ, mh_aI_caJ, mh_aJ_caJ, mh_aR_caJ, mh_kd_new, mh_ln_new, mh_fI_new, mh_fJ_new, mh_fR_new, mh_aI_new, mh_aJ_new, mh_aR_new]
    · simp [mh_kd_sfI, mh_ln_sfI, mh_fI_sfI, mh_fJ_sfI, mh_fR_sfI, mh_aI_sfI, mh_aJ_sfI, mh_aR_sfI, mh_kd_sfJ, mh_ln_sfJ, mh_fI_sfJ, mh_fJ_sfJ, mh_fR_sfJ, mh_aI_sfJ, mh_aJ_sfJ, mh_aR_sfJ, mh_kd_sfR, mh_ln_sfR, mh_fI_sfR, mh_fJ_sfR, mh_fR_sfR, mh_aI_sfR, mh_aJ_sfR, mh_aR_sfR, mh_kd_saI, mh_ln_saI, mh_fI_saI, mh_fJ_saI, mh_fR_saI, mh_aI_saI, mh_aJ_saI, mh_aR_saI, mh_kd_saJ, mh_ln_saJ, mh_fI_saJ, mh_fJ_saJ, mh_fR_saJ, mh_aI_saJ, mh_aJ_saJ, mh_aR_saJ, mh_kd_saR, mh_ln_saR, mh_fI_saR, mh_fJ_saR, mh_fR_saR, mh_aI_saR, mh_aJ_saR, mh_aR_saR, mh_kd_caI, mh_ln_caI, mh_fI_caI, mh_fJ_caI, mh_fR_caI, mh_aI_caI, mh_aJ_caI, mh_aR_caI, mh_kd_caJ, mh_ln_caJ, mh_fI_caJ, mh_fJ_caJ, mh_fR_caJ, mh_aI_caJ, mh_aJ_caJ, mh_aR_caJ, mh_kd_new, mh_ln_new, mh_fI_new, mh_fJ_new, mh_fR_new, mh_aI_new, mh_aJ_new, mh_aR_new, nI_0]
    · simp [mh_kd_sfI, mh_ln_sfI, mh_fI_sfI, mh_fJ_sfI, mh_fR_sfI, mh_aI_sfI, mh_aJ_sfI, mh_aR_sfI, mh_kd_sfJ, mh_ln_sfJ, mh_fI_sfJ, mh_fJ_sfJ, mh_fR_sfJ, mh_aI_sfJ, mh_aJ_sfJ, mh_aR_sfJ, mh_kd_sfR, mh_ln_sfR, mh_fI_sfR, mh_fJ_sfR, mh_fR_sfR, mh_aI_sfR, mh_aJ_sfR, mh_aR_sfR, mh_kd_saI, mh_ln_saI, mh_fI_saI, mh_fJ_saI, mh_fR_saI, mh_aI_saI, mh_aJ_saI, mh_aR_saI, mh_kd_saJ, mh_ln_saJ, mh_fI_saJ, mh_fJ_saJ, mh_fR_saJ, mh_aI_saJ, mh_aJ_saJ, mh_aR_saJ, mh_kd_saR, mh_ln_saR, mh_fI_saR, mh_fJ_saR, mh_fR_saR, mh_aI_saR, mh_aJ_saR, mh_aR_saR, mh_kd_caI, mh_ln_caI, mh_fI_caI, mh_fJ_caI, mh_fR_caI, mh_aI_caI, mh_aJ_caI, mh_aR_caI, mh_kd_caJ, mh_ln_caJ, mh_fI_caJ, mh_fJ_caJ, mh_fR_caJ, mh_aI_caJ, mh_aJ_caJ, mh_aR_caJ, mh_kd_new, mh_ln_new, mh_fI_new, mh_fJ_new, mh_fR_new, mh_aI_new, mh_aJ_new, mh_aR_new, nI_0]
    · refine ⟨?_, ?_⟩
      · simp [mh_kd_sfI, mh_ln_sfI, mh_fI_sfI, mh_fJ_sfI, mh_fR_sfI, mh_aI_sfI, mh_aJ_sfI, mh_aR_sfI, mh_kd_sfJ, mh_ln_sfJ, mh_fI_sfJ, mh_fJ_sfJ, mh_fR_sfJ, mh_aI_sfJ, mh_aJ_sfJ, mh_aR_sfJ, mh_kd_sfR, mh_ln_sfR, mh_fI_sfR, mh_fJ_sfR, mh_fR_sfR, mh_aI_sfR, mh_aJ_sfR, mh_aR_sfR, mh_kd_saI, mh_ln_saI, mh_fI_saI, mh_fJ_saI, mh_fR_saI, mh_aI_saI, mh_aJ_saI, mh_aR_saI, mh_kd_saJ, mh_ln_saJ, mh_fI_saJ, mh_fJ_saJ, mh_fR_saJ, mh_aI_saJ, mh_aJ_saJ, mh_aR_saJ, mh_kd_saR, mh_ln_saR, mh_fI_saR, mh_fJ_saR, mh_fR_saR, mh_aI_saR, mh_aJ_saR, mh_aR_saR, mh_kd_caI, mh_ln_caI, mh_fI_caI, mh_fJ_caI, mh_fR_caI, mh_aI_caI, mh_aJ_caI, mh_aR_caI, mh_kd_caJ, mh_ln_caJ, mh_fI_caJ, mh_fJ_caJ, mh_fR_caJ, mh_aI_caJ, mh_aJ_caJ, mh_aR_caJ, mh_kd_new, mh_ln_new, mh_fI_new, mh_fJ_new, mh_fR_new, mh_aI_new, mh_aJ_new, mh_aR_new, svs, c i hi, show ¬ i = 4 by omega, show ¬ i = 5 by omega]
      · simp [mh_kd_sfI, mh_ln_sfI, mh_fI_sfI, mh_fJ_sfI, mh_fR_sfI, mh_aI_sfI, mh_aJ_sfI, mh_aR_sfI, mh_kd_sfJ, mh_ln_sfJ, mh_fI_sfJ, mh_fJ_sfJ, mh_fR_sfJ, mh_aI_sfJ, mh_aJ_sfJ, mh_aR_sfJ, mh_kd_sfR, mh_ln_sfR, mh_fI_sfR, mh_fJ_sfR, mh_fR_sfR, mh_aI_sfR, mh_aJ_sfR, mh_aR_sfR, mh_kd_saI, mh_ln_saI, mh_fI_saI, mh_fJ_saI, mh_fR_saI, mh_aI_saI, mh_aJ_saI, mh_aR_saI, mh_kd_saJ, mh_ln_saJ, mh_fI_saJ, mh_fJ_saJ, mh_fR_saJ, mh_aI_saJ, mh_aJ_saJ, mh_aR_saJ, mh_kd_saR, mh_ln_saR, mh_fI_saR, mh_fJ_saR, mh_fR_saR, mh_aI_saR, mh_aJ_saR, mh_aR_saR, mh_kd_caI, mh_ln_caI, mh_fI_caI, mh_fJ_caI, mh_fR_caI, mh_aI_caI, mh_aJ_caI, mh_aR_caI, mh_kd_caJ, mh_ln_caJ, mh_fI_caJ, mh_fJ_caJ, mh_fR_caJ, mh_aI_caJ, mh_aJ_caJ, mh_aR_caJ, mh_kd_new, mh_ln_new, mh_fI_new, mh_fJ_new, mh_fR_new, mh_aI_new, mh_aJ_new, mh_aR_new]
    · obtain ⟨g1, g2, g3⟩ := c2 _ (pi i hi)
      refine ⟨g1, g2, fun a ha => ?_⟩
      obtain ⟨g4, g5, g6⟩ := g3 a ha
      refine ⟨Or.inr (Or.inr (Or.inr ⟨_, pi i hi, ha⟩)), g6, fun q => ?_, fun q => ?_⟩
      · exact (c4 vs (Or.inl rfl)).2.2.2 _ (pi i hi) (q ▸ ha)
      · exact (c4 sa (Or.inr rfl)).2.2.2 _ (pi i hi) (q ▸ ha)
    · refine c3 _ _ (pi i hi) (pi j hj) ?_
      repeat' split
      all_goals omega
    · intro a ha
      rcases ha with rfl | rfl | rfl | ⟨k, hk, hs⟩
      · exact ⟨Or.inl rfl, fun q => absurd (c1.symm.trans q) (by decide)⟩
      · exact ⟨Or.inr (c4 _ (Or.inl rfl)).1, (c4 _ (Or.inl rfl)).2.1⟩
      · exact ⟨Or.inr (c4 _ (Or.inr rfl)).1, (c4 _ (Or.inr rfl)).2.1⟩
      · obtain ⟨g4, g5, g6⟩ := (c2 k hk).2.2 a hs
        exact ⟨Or.inr g4, g5⟩
    · intro a ha
      exact c5 a (fun q => ha (Or.inl q)) (fun k hk q => ha (Or.inr (Or.inr (Or.inr ⟨k, hk, q⟩)))) (fun q => by
        rcases q with q | q
        · exact ha (Or.inr (Or.inl q))
        · exact ha (Or.inr (Or.inr (Or.inl q))))
  have loop : ∀ m i hc tt ss, i + m = 4 → Bd h hc x (i + 2) tt ss (fun a => a = vs) → tt 0 = q4 → tt 1 = q5 → mh_fR hc 200 x = q4 → mh_fR hc 201 x = q5 → mh_fR hc 202 x = vs → mh_kd hc vs = 54 → mh_ln hc vs = 4 → (∀ j, j < i → mh_aR hc vs j = tt (j + 2)) → mv_V G jX2_init (d + 3) 36 [(0, .ref x), (1, .int (nI i))] [] hc (122 * m + 1) (2843 * m + 4) R := by
    intro m
    induction m with
    | zero =>
      intro i hc tt ss hm B t0 t1 y z w a b c
      have ei : i = 4 := by omega
      subst ei
      refine v_iload_n (pc := 36) dX2_init_36 rfl rfl ?_
      refine v_iconst (pc := 37) (v := 4) dX2_init_37 (by decide) ?_
      refine v_icmp_ge 60 (pc := 38) dX2_init_38 (by decide) (fun hb => ?_) (fun hb => ?_)
      · exact v_kle (by omega) (by omega) (fin hc tt ss B t0 t1 y z w a b c)
      · exact absurd ((nI_leI (a := 4) (b := 4) (by omega) (by omega)).mpr (by omega)) hb
    | succ m ih =>
      intro i hc tt ss hm B t0 t1 y z w a b c
      have x0 := B.1
      refine v_iload_n (pc := 36) dX2_init_36 rfl rfl ?_
      refine v_iconst (pc := 37) (v := 4) dX2_init_37 (by decide) ?_
      refine v_icmp_ge 60 (pc := 38) dX2_init_38 (by decide) (fun hb => ?_) (fun hb => ?_)
      · have := (nI_leI (a := 4) (by omega) (by omega)).mp hb
        omega
      · refine v_aload_n (pc := 41) dX2_init_41 rfl rfl ?_
        refine g_R 202 3 (pc := 42) fX2_19 dX2_init_42 rfl rfl (by assumption) (by assumption) (by assumption) ?_
        refine v_iload_n (pc := 45) dX2_init_45 rfl rfl ?_
        refine v_new (pc := 46) nX2_7 dX2_init_46 (by omega) (by omega) (fun q k7 k8 => ?_)
        refine v_dup (pc := 49) dX2_init_49 rfl ?_
        refine v_callI 121 2840 (pc := 50) kX2_9 dX2_init_50 rfl (by omega) (by omega) (Nat.le_of_ble_eq_true rfl) (Nat.le_of_ble_eq_true rfl) ?_
        refine t_init (by rw [mh_kd_new, if_pos rfl]) (fun h8 S8 u1 u2 u3 => ?_)
        obtain ⟨B1, sx, sE⟩ := Bd_new B k8 k7 u1 u2 u3
        have sv := sE vs rfl
        have kq := TB_kd u1
        have kv : mh_kd h8 vs = 54 := sv.1.trans a
        have lv : mh_ln h8 vs = 4 := sv.2.1.trans b
        refine n_aast54 (i) _ (pc := 53) dX2_init_53 (by assumption) (by assumption) rfl (by omega) (by decide) (by assumption) (by assumption) ?_
        refine v_iinc (pc := 54) dX2_init_54 rfl (mv_inc _) rfl rfl (by decide) ?_
        refine v_goto 36 (pc := 57) dX2_init_57 (by decide) ?_
        refine v_kle (kc' := 122 * m + 1) (ks' := 2843 * m + 4) (by omega) (by omega) (ih (i + 1) (mh_saR h8 vs i q) (up1 tt (i + 2) q) (up1 ss (i + 2) S8) (by omega) ?_ ?_ ?_ ?_ ?_ ?_ kv lv ?_)
        · rw [show i + 1 + 2 = i + 2 + 1 by omega]
          refine Bd_gen B1 (fun _ q => q) (fun _ q => Or.inl q) (fun a q => ?_) B1.1 (fun a _ ha2 => mh_sm_saR ha2)
          rw [q]
          show mh_kd h8 vs ≠ 0
          rw [kv]; decide
        · rw [up1_ne _ _ (by omega)]; exact t0
        · rw [up1_ne _ _ (by omega)]; exact t1
        · exact (sx.2.2.2.2.1 200).trans y
        · exact (sx.2.2.2.2.1 201).trans z
        · exact (sx.2.2.2.2.1 202).trans w
        · intro j hj
          rw [mh_aR_saR]
          by_cases c1 : j = i
          · rw [if_pos ⟨rfl, c1⟩, c1, up1_eq]
          · rw [if_neg (fun q => c1 q.2), up1_ne _ _ (by omega)]
            exact (sv.2.2.2.2.2.2.2 j).trans (c j (by omega))
  exact v_kle (kc' := 122 * 4 + 1) (ks' := 2843 * 4 + 4) (by omega) (by omega) (loop 4 0 h6 tt ss (by omega) B6 tq4 tq5 y6 z6 w6 a6 b6 (fun j hj => by omega))
end LPI
