/-! LazyPagesLaw.law: both objects side by side. -/
theorem n_sld {G : mv_G} {I : mv_M} {d pc : Nat} {lo : List (Nat × Value)} {st : List Value} {h : mh_T} {kc ks : Nat} {R : mv_O → mh_T → Prop} {j : Int32} (i : Nat) (hd : decode I.2.1 pc = .ok (.iaload, 1)) (hj : j = nI i) (hi : i < mg_L G) (hN : mg_L G ≤ 4096) (kk : mv_V G I d (pc + 1) lo (.int (mg_x G i) :: st) h kc ks R) : mv_V G I d pc lo (.int j :: .ref (mg_b G) :: st) h kc ks R := by
  subst hj
  exact v_sld hd (vp_in_nI hi (by omega)) (by rw [nI_clamp (by omega)]; exact kk)
theorem md_sm {h h' : mh_T} {S : Nat → Prop} {mo ka va za sa ki fi la aa : Nat} {V : Nat → List En} {sv : Nat → Bool} {nm nk : Nat} (hm : md h S mo ka va za sa ki fi la aa V sv nm nk) (hs : ∀ a, S a → mh_sm h h' a) : md h' S mo ka va za sa ki fi la aa V sv nm nk ∧ mh_fI h' 300 mo = mh_fI h 300 mo := by
  obtain ⟨m1, m2, m3, m4, m5, m6, m7, m8, m9⟩ := hm
  obtain ⟨s1, s2, s3, s4, s5, s6, s7, s8, s9⟩ := id m2
  obtain ⟨⟨e1, ⟨f1, f2, f3, f4, f5, f6, f7, f8⟩, nn, ⟨k1, k2, k3, k4, k5, k6, k7, k8⟩, ⟨l1, l2, l3, l4, l5, l6, l7, l8⟩, xx⟩, hrows⟩ := m1
  have a0 := hs mo s1
  have a1 := hs ka s2
  have a2 := hs va s3
  have a3 := hs za s4
  have a4 := hs sa s5
  have a5 := hs ki s6
  have a6 := hs fi s7
  have a7 := hs la s8
  have a8 := hs aa s9
  have r := a0.2.2.2.2.1
  have i1 : mh_aI h' ki = mh_aI h ki := funext a5.2.2.2.2.2.1
  have i2 : mh_aI h' fi = mh_aI h fi := funext a6.2.2.2.2.2.1
  have i3 : mh_aI h' la = mh_aI h la := funext a7.2.2.2.2.2.1
  have i4 : mh_aJ h' aa = mh_aJ h aa := funext a8.2.2.2.2.2.2.1
  refine ⟨⟨⟨⟨a0.1.trans e1, ⟨(r 301).trans f1, (r 302).trans f2, (r 303).trans f3, (r 304).trans f4, (r 305).trans f5, (r 306).trans f6, (r 307).trans f7, (r 308).trans f8⟩, nn, ⟨a1.1.trans k1, a2.1.trans k2, a3.1.trans k3, a4.1.trans k4, a5.1.trans k5, a6.1.trans k6, a7.1.trans k7, a8.1.trans k8⟩, ⟨a1.2.1.trans l1, a2.2.1.trans l2, a3.2.1.trans l3, a4.2.1.trans l4, a5.2.1.trans l5, a6.2.1.trans l6, a7.2.1.trans l7, a8.2.1.trans l8⟩, xx⟩, fun q hq => ?_⟩, m2, fun q hq => (a4.2.2.2.2.2.1 q).trans (m3 q hq), (a0.2.2.1 309).trans m4, (a0.2.2.1 310).trans m5, m6, ?_, ?_, ?_⟩, a0.2.2.1 300⟩
  · obtain ⟨w1, w2, w3, w4⟩ := hrows q hq
    exact ⟨(a3.2.2.2.2.2.1 q).trans w1, w2, w3, Eq.trans (pl_congr (fun i hi => a1.2.2.2.2.2.1 _) (fun i hi => a2.2.2.2.2.2.2.1 _)) w4⟩
  · rw [i1, i2, i3, i4]; exact m7
  · rw [i1, i2, i3, i4]; exact m8
  · rw [i1, i2, i3, i4]; exact m9
theorem w_thrown {G : mv_G} {d : Nat} {h : mh_T} {mo : Nat} {t : Int32} {R : mv_O → mh_T → Prop} (hk : mh_kd h mo = 4) (ht : mh_fI h 300 mo = t) (hR : R (.inl (some (.int t))) h) : mv_V G jX3_thrown d 0 [(0, .ref mo)] [] h 0 0 R := by
  refine v_aload_n (pc := 0) dX3_thrown_0 rfl rfl ?_
  refine g_I 300 4 (pc := 1) fX3_37 dX3_thrown_1 rfl rfl (by assumption) (by assumption) ?_
  refine v_iret (pc := 4) dX3_thrown_4 rfl ?_
  exact hR
/-- the map, the model and the row of answers lie apart, and the first two hold the same -/
def LW (h : mh_T) (x : Nat) (S : Nat → Prop) (vs sa : Nat) (T : Nat → Nat) (SS : Nat → Nat → Prop) (mo : Nat) (Sm : Nat → Prop) (ka va za sm ki fi la aa out : Nat) (V : Nat → List En) (sv : Nat → Bool) (nm nk : Nat) : Prop :=
  LPx h x S vs sa T SS V sv nm nk ∧ md h Sm mo ka va za sm ki fi la aa V sv nm nk ∧ (mh_kd h out = 51 ∧ mh_ln h out = 1 ∧ out ≠ 0) ∧ ¬ S out ∧ ¬ Sm out ∧ (∀ a, S a → ¬ Sm a)
section LWS
variable {h h1 h2 : mh_T} {x : Nat} {S : Nat → Prop} {vs sa : Nat} {T : Nat → Nat} {SS : Nat → Nat → Prop} {mo : Nat} {Sm : Nat → Prop} {ka va za sm ki fi la aa out : Nat} {V V1 V2 : Nat → List En} {sv sv1 sv2 : Nat → Bool} {nm nk nm1 nk1 : Nat}
/-- behind a helper: the model is as it was -/
theorem LW_a (hW : LW h x S vs sa T SS mo Sm ka va za sm ki fi la aa out V sv nm nk) (hF : SO S out h h1) : md h1 Sm mo ka va za sm ki fi la aa V sv nm nk :=
  (md_sm hW.2.1 (fun a ha => hF.1 a (fun q => by
    rcases q with q | q
    · exact hW.2.2.2.2.2 a q ha
    · exact hW.2.2.2.2.1 (q ▸ ha)))).1
theorem LW_ah (hW : LW h x S vs sa T SS mo Sm ka va za sm ki fi la aa out V sv nm nk) (hF : SO S out h h1) (hL : LPx h1 x S vs sa T SS V1 sv1 nm1 nk1) : ∀ {h2 : mh_T}, md h2 Sm mo ka va za sm ki fi la aa V1 sv1 nm1 nk1 → SF Sm h1 h2 → LW h2 x S vs sa T SS mo Sm ka va za sm ki fi la aa out V1 sv1 nm1 nk1 := fun {h2} hm h12 =>
  ⟨LPx_sm hL (fun a ha => h12 a (hW.2.2.2.2.2 a ha)), hm, ⟨(h12 out hW.2.2.2.2.1).1.trans (hF.2.1.trans hW.2.2.1.1), (h12 out hW.2.2.2.2.1).2.1.trans (hF.2.2.trans hW.2.2.1.2.1), hW.2.2.1.2.2⟩, hW.2.2.2.1, hW.2.2.2.2.1, hW.2.2.2.2.2⟩
/-- nothing but the model's own cells changed -/
theorem LW_m (hW : LW h x S vs sa T SS mo Sm ka va za sm ki fi la aa out V sv nm nk) (hm : md h2 Sm mo ka va za sm ki fi la aa V sv nm nk) (h12 : SF Sm h h2) : LW h2 x S vs sa T SS mo Sm ka va za sm ki fi la aa out V sv nm nk :=
  ⟨LPx_sm hW.1 (fun a ha => h12 a (hW.2.2.2.2.2 a ha)), hm, ⟨(h12 out hW.2.2.2.2.1).1.trans hW.2.2.1.1, (h12 out hW.2.2.2.2.1).2.1.trans hW.2.2.1.2.1, hW.2.2.1.2.2⟩, hW.2.2.2.1, hW.2.2.2.2.1, hW.2.2.2.2.2⟩
end LWS
