/-! LazyPagesModel: crash; a new one. -/
section MDC
variable {G : mv_G} {d : Nat} {h h' : mh_T} {S : Nat → Prop} {mo ka va za sa ki fi la aa : Nat} {V : Nat → List En} {sv : Nat → Bool} {nm nk : Nat} {R : mv_O → mh_T → Prop}
set_option maxHeartbeats 4000000 in
set_option maxRecDepth 100000 in
theorem w_crash (hm : md h S mo ka va za sa ki fi la aa V sv nm nk) (h1 : ∀ h', md h' S mo ka va za sa ki fi la aa (up1 V 4 (V 5)) (upto (fun _ => false) sv 4) nk nk → SF S h h' → mh_fI h' 300 mo = 0 → R (.inl (some (.int (nI (nm - nk))))) h') : mv_V G jX3_crash (d + 9) 0 [(0, .ref mo)] [] h 0 0 R := by
  have e1 := hm.1.1.1
  refine v_aload_n (pc := 0) dX3_crash_0 rfl rfl ?_
  refine v_iconst (pc := 1) (v := 0) dX3_crash_1 (by decide) ?_
  refine p_I 300 4 (pc := 2) fX3_37 dX3_crash_2 rfl rfl (by assumption) ?_
  obtain ⟨q1, q2, q3⟩ := md_thr (x := 0) hm
  generalize mh_sfI h 300 mo 0 = hc at *
  clear hm
  obtain ⟨m1, m2, m3, m4, m5, m6, m7, m8, m9⟩ := id q1
  obtain ⟨⟨e2, ⟨f1, f2, f3, f4, f5, f6, f7, f8⟩, ⟨n1, n2, n3, n4, n5, n6, n7, n8⟩, ⟨k1, k2, k3, k4, k5, k6, k7, k8⟩, ⟨l1, l2, l3, l4, l5, l6, l7, l8⟩, x1, x2, x3, x4, x5, x6, x7⟩, hrows⟩ := id m1
  obtain ⟨y1, y2, y3, y4, y5, y6, y7, y8, y9, y10, y11, y12, y13, y14, y15, y16, y17, y18, y19⟩ := MDs_ne m1.1
  refine v_aload_n (pc := 5) dX3_crash_5 rfl rfl ?_
  refine g_I 309 4 (pc := 6) fX3_65 dX3_crash_6 rfl rfl (by assumption) (by assumption) ?_
  refine v_aload_n (pc := 9) dX3_crash_9 rfl rfl ?_
  refine g_I 310 4 (pc := 10) fX3_88 dX3_crash_10 rfl rfl (by assumption) (by assumption) ?_
  refine v_isub (pc := 13) dX3_crash_13 ?_
  refine v_eqi (pk_sub m6.1) ?_
  refine v_istore_n (pc := 14) dX3_crash_14 rfl rfl rfl (by decide) ?_
  refine v_aload_n (pc := 15) dX3_crash_15 rfl rfl ?_
  refine v_aload_n (pc := 16) dX3_crash_16 rfl rfl ?_
  refine g_I 310 4 (pc := 17) fX3_88 dX3_crash_17 rfl rfl (by assumption) (by assumption) ?_
  refine p_I 309 4 (pc := 20) fX3_65 dX3_crash_20 rfl rfl (by assumption) ?_
  refine v_aload_n (pc := 23) dX3_crash_23 rfl rfl ?_
  refine g_R 303 4 (pc := 24) fX3_17 dX3_crash_24 rfl rfl (by assumption) (by assumption) (by assumption) ?_
  refine v_iconst (pc := 27) (v := 4) dX3_crash_27 (by decide) ?_
  refine v_iconst (pc := 28) (v := 0) dX3_crash_28 (by decide) ?_
  refine n_iast (4) _ (pc := 29) dX3_crash_29 (by assumption) (by assumption) rfl (by omega) (by decide) ?_
  refine v_iconst (pc := 30) (v := 0) dX3_crash_30 (by decide) ?_
  refine v_istore_n (pc := 31) dX3_crash_31 rfl rfl rfl (by decide) ?_
  have b0 : md0 (mh_saI (mh_sfI hc 309 mo (nI nk)) za 4 0) mo ka va za sa ki fi la aa (up1 V 4 []) := by
    refine md0_4 m1 (fun _ => rfl) (fun _ => rfl) (fun _ _ => rfl) (fun z _ => ?_) (fun _ _ => rfl) (fun r hr => ?_) ?_ (by decide) List.Pairwise.nil rfl
    · rw [mh_aI_saI, if_neg (fun q => x1 q.1)]; rfl
    · rw [mh_aI_saI, if_neg (by omega)]; rfl
    · rw [mh_aI_saI, if_pos ⟨rfl, rfl⟩]; rfl
  have b1 : ∀ w, w ≠ za → w ≠ mo → mh_sm hc (mh_saI (mh_sfI hc 309 mo (nI nk)) za 4 0) w := fun w w1 w2 => mh_sm_tr (mh_sm_sfI w2) (mh_sm_saI w1)
  have b2 : ∀ F, mh_fI (mh_saI (mh_sfI hc 309 mo (nI nk)) za 4 0) F mo = if F = 309 then nI nk else mh_fI hc F mo := fun F => by
    rw [mh_fI_saI, mh_fI_sfI]
    by_cases c : F = 309
    · rw [if_pos ⟨c, rfl⟩, if_pos c]
    · rw [if_neg (fun q => c q.1), if_neg c]
  generalize mh_saI (mh_sfI hc 309 mo (nI nk)) za 4 0 = h2 at *
  have mo_sa : sa ≠ mo := fun e => by rw [e, e2] at k4; exact absurd k4 (by decide)
  have mo_ki : ki ≠ mo := fun e => by rw [e, e2] at k5; exact absurd k5 (by decide)
  have mo_fi : fi ≠ mo := fun e => by rw [e, e2] at k6; exact absurd k6 (by decide)
  have mo_la : la ≠ mo := fun e => by rw [e, e2] at k7; exact absurd k7 (by decide)
  have mo_aa : aa ≠ mo := fun e => by rw [e, e2] at k8; exact absurd k8 (by decide)
  have flags : ∀ m i hd, i + m = 4 → md hd S mo ka va za sa ki fi la aa (up1 V 4 (V 5)) (upto (fun _ => false) sv i) nk nk → SF S h hd → mh_fI hd 300 mo = 0 → mv_V G jX3_crash (d + 9) 77 [(0, .ref mo), (1, .int (nI (nm - nk))), (2, .int (nI i))] [] hd 0 0 R := by
    intro m
    induction m with
    | zero =>
      intro i hd hi hL hF h300
      have ei : i = 4 := by omega
      subst ei
      refine v_iload_n (pc := 77) dX3_crash_77 rfl rfl ?_
      refine v_iconst (pc := 78) (v := 4) dX3_crash_78 (by decide) ?_
      refine v_icmp_ge 95 (pc := 79) dX3_crash_79 (by decide) (fun hb => ?_) (fun hb => ?_)
      · refine v_iload_n (pc := 95) dX3_crash_95 rfl rfl ?_
        refine v_iret (pc := 96) dX3_crash_96 rfl ?_
        exact h1 hd hL hF h300
      · exact absurd ((nI_leI (a := 4) (b := 4) (by omega) (by omega)).mpr (by omega)) hb
    | succ m ih =>
      intro i hd hi hL hF h300
      obtain ⟨⟨⟨g1, ⟨_, _, _, g4, _⟩, _, ⟨_, _, _, g5, _⟩, ⟨_, _, _, g6, _⟩, _⟩, _⟩, _⟩ := id hL
      refine v_iload_n (pc := 77) dX3_crash_77 rfl rfl ?_
      refine v_iconst (pc := 78) (v := 4) dX3_crash_78 (by decide) ?_
      refine v_icmp_ge 95 (pc := 79) dX3_crash_79 (by decide) (fun hb => ?_) (fun hb => ?_)
      · have := (nI_leI (a := 4) (by omega) (by omega)).mp hb
        omega
      · refine v_aload_n (pc := 82) dX3_crash_82 rfl rfl ?_
        refine g_R 304 4 (pc := 83) fX3_20 dX3_crash_83 rfl rfl (by assumption) (by assumption) (by assumption) ?_
        refine v_iload_n (pc := 86) dX3_crash_86 rfl rfl ?_
        refine v_iconst (pc := 87) (v := 0) dX3_crash_87 (by decide) ?_
        refine n_zast (i) _ (pc := 88) dX3_crash_88 (by assumption) (by assumption) rfl (by omega) (by decide) ?_
        refine v_iinc (pc := 89) dX3_crash_89 rfl (mv_inc _) rfl rfl (by decide) ?_
        refine v_goto 77 (pc := 92) dX3_crash_92 (by decide) ?_
        obtain ⟨w1, w2, w3⟩ := md_sav (c := false) hL (show i < 4 by omega)
        rw [upto_succ (fun _ => false) sv i] at w1
        exact ih (i + 1) _ (by omega) w1 (SF_tr hF w2) (w3.trans h300)
  have loop : ∀ m i hd, i + m = nk → md0 hd mo ka va za sa ki fi la aa (up1 V 4 (rp (mh_aI hc ki) (mh_aI hc fi) (mh_aI hc la) (mh_aJ hc aa) i)) → mF h2 hd ka va za → mv_V G jX3_crash (d + 9) 32 [(0, .ref mo), (1, .int (nI (nm - nk))), (2, .int (nI i))] [] hd 0 0 R := by
    intro m
    induction m with
    | zero =>
      intro i hd hi hL hF
      have ei : i = nk := by omega
      subst ei
      have gm := hF mo y15 y16 y17
      have t310 : mh_fI hd 310 mo = nI i := by rw [gm.2.2.1 310, b2, if_neg (by decide)]; exact m5
      have g1 := hL.1.1
      refine v_iload_n (pc := 32) dX3_crash_32 rfl rfl ?_
      refine v_aload_n (pc := 33) dX3_crash_33 rfl rfl ?_
      refine g_I 310 4 (pc := 34) fX3_88 dX3_crash_34 rfl rfl (by assumption) (by assumption) ?_
      refine v_icmp_ge 75 (pc := 37) dX3_crash_37 (by decide) (fun hb => ?_) (fun hb => ?_)
      · refine v_iconst (pc := 75) (v := 0) dX3_crash_75 (by decide) ?_
        refine v_istore_n (pc := 76) dX3_crash_76 rfl rfl rfl (by decide) ?_
        rw [m9] at hL
        refine flags 4 0 hd (by omega) ?_ (SF_tr q2 (fun w hw => ?_)) ?_
        · rw [upto_0]
          refine ⟨hL, m2, fun r hr => ?_, ?_, t310, ⟨Nat.le_refl _, by omega⟩, ?_, ?_, ?_⟩
          · rw [(hF sa y1 y2 y3).2.2.2.2.2.1 r, (b1 sa y3 mo_sa).2.2.2.2.2.1 r]; exact m3 r hr
          · rw [gm.2.2.1 309, b2, if_pos rfl]
          · have r1 : mh_aI hd ki = mh_aI hc ki := funext fun z => by rw [(hF ki y8 y10 y9).2.2.2.2.2.1 z, (b1 ki y9 mo_ki).2.2.2.2.2.1 z]
            have r2 : mh_aI hd fi = mh_aI hc fi := funext fun z => by rw [(hF fi (Ne.symm x2) y11 (Ne.symm x4)).2.2.2.2.2.1 z, (b1 fi (Ne.symm x4) mo_fi).2.2.2.2.2.1 z]
            have r3 : mh_aI hd la = mh_aI hc la := funext fun z => by rw [(hF la (Ne.symm x3) y12 (Ne.symm x5)).2.2.2.2.2.1 z, (b1 la (Ne.symm x5) mo_la).2.2.2.2.2.1 z]
            have r4 : mh_aJ hd aa = mh_aJ hc aa := funext fun z => by rw [(hF aa y13 (Ne.symm x7) y14).2.2.2.2.2.2.1 z, (b1 aa y14 mo_aa).2.2.2.2.2.2.1 z]
            rw [r1, r2, r3, r4]
            exact okL_le m7 m6.1
          · have r1 : mh_aI hd ki = mh_aI hc ki := funext fun z => by rw [(hF ki y8 y10 y9).2.2.2.2.2.1 z, (b1 ki y9 mo_ki).2.2.2.2.2.1 z]
            have r2 : mh_aI hd fi = mh_aI hc fi := funext fun z => by rw [(hF fi (Ne.symm x2) y11 (Ne.symm x4)).2.2.2.2.2.1 z, (b1 fi (Ne.symm x4) mo_fi).2.2.2.2.2.1 z]
            have r3 : mh_aI hd la = mh_aI hc la := funext fun z => by rw [(hF la (Ne.symm x3) y12 (Ne.symm x5)).2.2.2.2.2.1 z, (b1 la (Ne.symm x5) mo_la).2.2.2.2.2.1 z]
            have r4 : mh_aJ hd aa = mh_aJ hc aa := funext fun z => by rw [(hF aa y13 (Ne.symm x7) y14).2.2.2.2.2.2.1 z, (b1 aa y14 mo_aa).2.2.2.2.2.2.1 z]
            rw [r1, r2, r3, r4, m9, up1_eq]
          · have r1 : mh_aI hd ki = mh_aI hc ki := funext fun z => by rw [(hF ki y8 y10 y9).2.2.2.2.2.1 z, (b1 ki y9 mo_ki).2.2.2.2.2.1 z]
            have r2 : mh_aI hd fi = mh_aI hc fi := funext fun z => by rw [(hF fi (Ne.symm x2) y11 (Ne.symm x4)).2.2.2.2.2.1 z, (b1 fi (Ne.symm x4) mo_fi).2.2.2.2.2.1 z]
            have r3 : mh_aI hd la = mh_aI hc la := funext fun z => by rw [(hF la (Ne.symm x3) y12 (Ne.symm x5)).2.2.2.2.2.1 z, (b1 la (Ne.symm x5) mo_la).2.2.2.2.2.1 z]
            have r4 : mh_aJ hd aa = mh_aJ hc aa := funext fun z => by rw [(hF aa y13 (Ne.symm x7) y14).2.2.2.2.2.2.1 z, (b1 aa y14 mo_aa).2.2.2.2.2.2.1 z]
            rw [r1, r2, r3, r4, m9, up1_ne _ _ (by decide)]
        · exact mh_sm_tr (b1 w (fun q => hw (q ▸ m2.2.2.2.1)) (fun q => hw (q ▸ m2.1))) (mF_SF m2 hF w hw)
        · rw [gm.2.2.1 300, b2, if_neg (by decide)]; exact q3
      · exact absurd ((nI_leI (by omega) (by omega)).mpr (by omega)) hb
    | succ m ih =>
      intro i hd hi hL hF
      have gm := hF mo y15 y16 y17
      have t310 : mh_fI hd 310 mo = nI nk := by rw [gm.2.2.1 310, b2, if_neg (by decide)]; exact m5
      obtain ⟨⟨g1, ⟨_, _, _, _, g5, g6, g7, g8⟩, _, ⟨_, _, _, _, i5, i6, i7, i8⟩, ⟨_, _, _, _, j5, j6, j7, j8⟩, _⟩, _⟩ := id hL
      have r1 : mh_aI hd ki i = mh_aI hc ki i := by rw [(hF ki y8 y10 y9).2.2.2.2.2.1 i, (b1 ki y9 mo_ki).2.2.2.2.2.1 i]
      have r2 : mh_aI hd fi i = mh_aI hc fi i := by rw [(hF fi (Ne.symm x2) y11 (Ne.symm x4)).2.2.2.2.2.1 i, (b1 fi (Ne.symm x4) mo_fi).2.2.2.2.2.1 i]
      have r3 : mh_aI hd la i = mh_aI hc la i := by rw [(hF la (Ne.symm x3) y12 (Ne.symm x5)).2.2.2.2.2.1 i, (b1 la (Ne.symm x5) mo_la).2.2.2.2.2.1 i]
      have r4 : mh_aJ hd aa i = mh_aJ hc aa i := by rw [(hF aa y13 (Ne.symm x7) y14).2.2.2.2.2.2.1 i, (b1 aa y14 mo_aa).2.2.2.2.2.2.1 i]
      clear k1 k2 k3 k4 k5 k6 k7 k8 l1 l2 l3 l4 l5 l6 l7 l8 f1 f2 f3 f4 f5 f6 f7 f8
      refine v_iload_n (pc := 32) dX3_crash_32 rfl rfl ?_
      refine v_aload_n (pc := 33) dX3_crash_33 rfl rfl ?_
      refine g_I 310 4 (pc := 34) fX3_88 dX3_crash_34 rfl rfl (by assumption) (by assumption) ?_
      refine v_icmp_ge 75 (pc := 37) dX3_crash_37 (by decide) (fun hb => ?_) (fun hb => ?_)
      · have := (nI_leI (by omega) (by omega)).mp hb
        omega
      · refine v_aload_n (pc := 40) dX3_crash_40 rfl rfl ?_
        refine v_aload_n (pc := 41) dX3_crash_41 rfl rfl ?_
        refine g_R 305 4 (pc := 42) fX3_24 dX3_crash_42 rfl rfl (by assumption) (by assumption) (by assumption) ?_
        refine v_iload_n (pc := 45) dX3_crash_45 rfl rfl ?_
        refine n_bald (i) _ (pc := 46) dX3_crash_46 (by assumption) (by assumption) rfl (by omega) (by decide) r1 ?_
        refine v_aload_n (pc := 47) dX3_crash_47 rfl rfl ?_
        refine g_R 306 4 (pc := 48) fX3_28 dX3_crash_48 rfl rfl (by assumption) (by assumption) (by assumption) ?_
        refine v_iload_n (pc := 51) dX3_crash_51 rfl rfl ?_
        refine n_iald (i) _ (pc := 52) dX3_crash_52 (by assumption) (by assumption) rfl (by omega) (by decide) r2 ?_
        refine v_aload_n (pc := 53) dX3_crash_53 rfl rfl ?_
        refine g_R 307 4 (pc := 54) fX3_31 dX3_crash_54 rfl rfl (by assumption) (by assumption) (by assumption) ?_
        refine v_iload_n (pc := 57) dX3_crash_57 rfl rfl ?_
        refine n_iald (i) _ (pc := 58) dX3_crash_58 (by assumption) (by assumption) rfl (by omega) (by decide) r3 ?_
        refine v_aload_n (pc := 59) dX3_crash_59 rfl rfl ?_
        refine g_R 308 4 (pc := 60) fX3_34 dX3_crash_60 rfl rfl (by assumption) (by assumption) (by assumption) ?_
        refine v_iload_n (pc := 63) dX3_crash_63 rfl rfl ?_
        refine n_lald (i) _ (pc := 64) dX3_crash_64 (by assumption) (by assumption) rfl (by omega) (by decide) r4 ?_
        refine v_callV 0 0 (pc := 65) kX3_68 dX3_crash_65 rfl (by assumption) (Nat.zero_le _) (Nat.zero_le _) (Nat.le_of_ble_eq_true rfl) (Nat.le_of_ble_eq_true rfl) ?_
        refine m_done hL (by rw [up1_eq]; exact m7 i (by omega)) (fun h' u1 u2 => ?_)
        rw [up1_eq, up1_up1] at u1
        refine v_pop2 (pc := 68) dX3_crash_68 rfl ?_
        refine v_iinc (pc := 69) dX3_crash_69 rfl (mv_inc _) rfl rfl (by decide) ?_
        refine v_goto 32 (pc := 72) dX3_crash_72 (by decide) ?_
        exact ih (i + 1) h' (by omega) u1 (mF_tr hF u2)
  exact loop nk 0 h2 (by omega) b0 (fun w _ _ _ => mh_sm_rf h2 w)
end MDC
/-- the arrays of a new model so far: field, address, kind, length -/
def IMd (h hc : mh_T) (mo : Nat) (L : List (Nat × Nat × Nat × Nat)) : Prop :=
  mh_kd hc mo = 4 ∧ (∀ F, mh_fI hc F mo = 0) ∧ (∀ t, t ∈ L → mh_fR hc t.1 mo = t.2.1 ∧ t.2.1 ≠ 0 ∧ mh_kd hc t.2.1 = t.2.2.1 ∧ mh_ln hc t.2.1 = t.2.2.2 ∧ (∀ j, mh_aI hc t.2.1 j = 0) ∧ mh_kd h t.2.1 = 0 ∧ t.2.1 ≠ mo ∧ t.2.2.1 ≠ 0) ∧ L.Pairwise (fun t u => t.2.1 ≠ u.2.1) ∧ (∀ a, a ≠ mo → (∀ t, t ∈ L → a ≠ t.2.1) → mh_sm h hc a)
theorem IMd_step {h hc : mh_T} {mo : Nat} {L : List (Nat × Nat × Nat × Nat)} (hI : IMd h hc mo L) (F q k n : Nat) (hq : mh_kd hc q = 0) (q0 : q ≠ 0) (hk : k ≠ 0) (hF : ∀ t, t ∈ L → F ≠ t.1) : IMd h (mh_sfR (mh_new hc q k n) F mo q) mo ((F, q, k, n) :: L) := by
  obtain ⟨i1, i2, i3, i4, i5⟩ := hI
  have qm : q ≠ mo := fun e => by rw [e, i1] at hq; exact absurd hq (by decide)
  have qt : ∀ t, t ∈ L → q ≠ t.2.1 := fun t ht e => by
    obtain ⟨_, _, z, _, _, _, _, z2⟩ := i3 t ht
    rw [e, z] at hq; exact z2 hq
  refine ⟨?_, fun G => ?_, fun t ht => ?_, List.pairwise_cons.mpr ⟨fun t ht => qt t ht, i4⟩, fun a a1 a2 => ?_⟩
  · rw [mh_kd_sfR, mh_kd_new, if_neg qm.symm]; exact i1
  · rw [mh_fI_sfR, mh_fI_new, if_neg qm.symm]; exact i2 G
  · rcases List.mem_cons.mp ht with z | z
    · subst z
      refine ⟨?_, q0, ?_, ?_, fun j => ?_, ?_, qm, hk⟩
      · rw [mh_fR_sfR, if_pos ⟨rfl, rfl⟩]
      · rw [mh_kd_sfR, mh_kd_new, if_pos rfl]
      · rw [mh_ln_sfR, mh_ln_new, if_pos rfl]
      · rw [mh_aI_sfR, mh_aI_new, if_pos rfl]
      · rw [← (i5 q qm qt).1]; exact hq
    · obtain ⟨g1, g2, g3, g4, g5, g6, g7, g8⟩ := i3 t z
      have nq := Ne.symm (qt t z)
      refine ⟨?_, g2, ?_, ?_, fun j => ?_, g6, g7, g8⟩
      · rw [mh_fR_sfR, if_neg (fun e => hF t z e.1.symm), mh_fR_new, if_neg qm.symm]; exact g1
      · rw [mh_kd_sfR, mh_kd_new, if_neg nq]; exact g3
      · rw [mh_ln_sfR, mh_ln_new, if_neg nq]; exact g4
      · rw [mh_aI_sfR, mh_aI_new, if_neg nq]; exact g5 j
  · have aq : a ≠ q := a2 (F, q, k, n) List.mem_cons_self
    exact mh_sm_tr (i5 a a1 (fun t ht => a2 t (List.mem_cons_of_mem _ ht))) (mh_sm_tr (mh_sm_new aq) (mh_sm_sfR a1))
section MDI
variable {G : mv_G} {d : Nat} {h : mh_T} {mo : Nat} {R : mv_O → mh_T → Prop}
set_option maxHeartbeats 4000000 in
set_option maxRecDepth 100000 in
theorem w_init (hk : mh_kd h mo = 4) (hf : ∀ F, mh_fI h F mo = 0) (hR : ∀ h' S ka va za sa ki fi la aa, md h' S mo ka va za sa ki fi la aa (fun _ => []) (fun _ => false) 0 0 → (∀ a, S a → (a = mo ∨ mh_kd h a = 0) ∧ mh_kd h' a ≠ 0) → SF S h h' → R (.inl none) h') : mv_V G jX3_init (d + 1) 0 [(0, .ref mo)] [] h 8 16009 R := by
  have I0 : IMd h h mo [] := ⟨hk, hf, fun t ht => absurd ht List.not_mem_nil, List.Pairwise.nil, fun a _ _ => mh_sm_rf h a⟩
  have st : ∀ {hc : mh_T} {q k n : Nat}, mh_kd hc mo = 4 → mh_kd hc q = 0 → mh_kd (mh_new hc q k n) mo = 4 := fun {hc q k n} a b => by
    rw [mh_kd_new, if_neg (fun e => by rw [← e, a] at b; exact absurd b (by decide))]; exact a
  refine v_aload_n (pc := 0) dX3_init_0 rfl rfl ?_
  refine v_oinit (pc := 1) kX3_1 dX3_init_1 (Nat.le_of_ble_eq_true rfl) (by omega) ?_
  refine v_aload_n (pc := 4) dX3_init_4 rfl rfl ?_
  refine v_sipush (pc := 5) (v := 3000) dX3_init_5 (by decide) ?_
  refine v_newI (pc := 8) (N := 3000) na_int dX3_init_8 (by decide) (by decide) (by decide) (by omega) (by omega) (fun ka a1 b1 => ?_)
  have I1 := IMd_step I0 301 ka 50 3000 a1 b1 (by decide) (by simp)
  refine p_RF 301 4 (pc := 10) fX3_7 dX3_init_10 rfl rfl rfl rfl (st I0.1 a1) b1 ?_
  refine v_aload_n (pc := 13) dX3_init_13 rfl rfl ?_
  refine v_sipush (pc := 14) (v := 3000) dX3_init_14 (by decide) ?_
  generalize mh_sfR (mh_new h ka 50 3000) 301 mo ka = h1 at *
  refine v_newJ (pc := 17) (N := 3000) na_long dX3_init_17 (by decide) (by decide) (by decide) (by omega) (by omega) (fun va a2 b2 => ?_)
  have I2 := IMd_step I1 302 va 51 3000 a2 b2 (by decide) (by simp)
  refine p_RF 302 4 (pc := 19) fX3_13 dX3_init_19 rfl rfl rfl rfl (st I1.1 a2) b2 ?_
  refine v_aload_n (pc := 22) dX3_init_22 rfl rfl ?_
  refine v_iconst (pc := 23) (v := 5) dX3_init_23 (by decide) ?_
  generalize mh_sfR (mh_new h1 va 51 3000) 302 mo va = h2 at *
  refine v_newI (pc := 24) (N := 5) na_int dX3_init_24 (by decide) (by decide) (by decide) (by omega) (by omega) (fun za a3 b3 => ?_)
  have I3 := IMd_step I2 303 za 50 5 a3 b3 (by decide) (by simp)
  refine p_RF 303 4 (pc := 26) fX3_17 dX3_init_26 rfl rfl rfl rfl (st I2.1 a3) b3 ?_
  refine v_aload_n (pc := 29) dX3_init_29 rfl rfl ?_
  refine v_iconst (pc := 30) (v := 4) dX3_init_30 (by decide) ?_
  generalize mh_sfR (mh_new h2 za 50 5) 303 mo za = h3 at *
  refine v_newZ (pc := 31) (N := 4) na_boolean dX3_init_31 (by decide) (by decide) (by decide) (by omega) (by omega) (fun sa a4 b4 => ?_)
  have I4 := IMd_step I3 304 sa 52 4 a4 b4 (by decide) (by simp)
  refine p_RF 304 4 (pc := 33) fX3_20 dX3_init_33 rfl rfl rfl rfl (st I3.1 a4) b4 ?_
  refine v_aload_n (pc := 36) dX3_init_36 rfl rfl ?_
  refine v_sipush (pc := 37) (v := 2500) dX3_init_37 (by decide) ?_
  generalize mh_sfR (mh_new h3 sa 52 4) 304 mo sa = h4 at *
  refine v_newB (pc := 40) (N := 2500) na_byte dX3_init_40 (by decide) (by decide) (by decide) (by omega) (by omega) (fun ki a5 b5 => ?_)
  have I5 := IMd_step I4 305 ki 53 2500 a5 b5 (by decide) (by simp)
  refine p_RF 305 4 (pc := 42) fX3_24 dX3_init_42 rfl rfl rfl rfl (st I4.1 a5) b5 ?_
  refine v_aload_n (pc := 45) dX3_init_45 rfl rfl ?_
  refine v_sipush (pc := 46) (v := 2500) dX3_init_46 (by decide) ?_
  generalize mh_sfR (mh_new h4 ki 53 2500) 305 mo ki = h5 at *
  refine v_newI (pc := 49) (N := 2500) na_int dX3_init_49 (by decide) (by decide) (by decide) (by omega) (by omega) (fun fi a6 b6 => ?_)
  have I6 := IMd_step I5 306 fi 50 2500 a6 b6 (by decide) (by simp)
  refine p_RF 306 4 (pc := 51) fX3_28 dX3_init_51 rfl rfl rfl rfl (st I5.1 a6) b6 ?_
  refine v_aload_n (pc := 54) dX3_init_54 rfl rfl ?_
  refine v_sipush (pc := 55) (v := 2500) dX3_init_55 (by decide) ?_
  generalize mh_sfR (mh_new h5 fi 50 2500) 306 mo fi = h6 at *
  refine v_newI (pc := 58) (N := 2500) na_int dX3_init_58 (by decide) (by decide) (by decide) (by omega) (by omega) (fun la a7 b7 => ?_)
  have I7 := IMd_step I6 307 la 50 2500 a7 b7 (by decide) (by simp)
  refine p_RF 307 4 (pc := 60) fX3_31 dX3_init_60 rfl rfl rfl rfl (st I6.1 a7) b7 ?_
  refine v_aload_n (pc := 63) dX3_init_63 rfl rfl ?_
  refine v_sipush (pc := 64) (v := 2500) dX3_init_64 (by decide) ?_
  generalize mh_sfR (mh_new h6 la 50 2500) 307 mo la = h7 at *
  refine v_newJ (pc := 67) (N := 2500) na_long dX3_init_67 (by decide) (by decide) (by decide) (by omega) (by omega) (fun aa a8 b8 => ?_)
  have I8 := IMd_step I7 308 aa 51 2500 a8 b8 (by decide) (by simp)
  refine p_RF 308 4 (pc := 69) fX3_34 dX3_init_69 rfl rfl rfl rfl (st I7.1 a8) b8 ?_
  refine v_vret (pc := 72) dX3_init_72 rfl ?_
  generalize mh_sfR (mh_new h7 aa 51 2500) 308 mo aa = h8 at *
  obtain ⟨i1, i2, i3, i4, i5⟩ := I8
  obtain ⟨p1, p2, p3, p4, p5, p6, p7, p8⟩ := i3 (301, ka, 50, 3000) (by simp)
  obtain ⟨q1, q2, q3, q4, q5, q6, q7, q8⟩ := i3 (302, va, 51, 3000) (by simp)
  obtain ⟨r1, r2, r3, r4, r5, r6, r7, r8⟩ := i3 (303, za, 50, 5) (by simp)
  obtain ⟨s1, s2, s3, s4, s5, s6, s7, s8⟩ := i3 (304, sa, 52, 4) (by simp)
  obtain ⟨t1, t2, t3, t4, t5, t6, t7, t8⟩ := i3 (305, ki, 53, 2500) (by simp)
  obtain ⟨u1, u2, u3, u4, u5, u6, u7, u8⟩ := i3 (306, fi, 50, 2500) (by simp)
  obtain ⟨v1, v2, v3, v4, v5, v6, v7, v8⟩ := i3 (307, la, 50, 2500) (by simp)
  obtain ⟨w1, w2, w3, w4, w5, w6, w7, w8⟩ := i3 (308, aa, 51, 2500) (by simp)
  simp only [List.pairwise_cons, List.mem_cons, forall_eq_or_imp, List.not_mem_nil, false_imp_iff, implies_true, and_true] at i4
  obtain ⟨⟨c1, c2, c3, c4, c5, c6, c7⟩, ⟨c8, c9, c10, c11, c12, c13⟩, ⟨c14, c15, c16, c17, c18⟩, ⟨c19, c20, c21, c22⟩, ⟨c23, c24, c25⟩, ⟨c26, c27⟩, c28, _⟩ := i4
  refine hR h8 (fun a => a = mo ∨ a = ka ∨ a = va ∨ a = za ∨ a = sa ∨ a = ki ∨ a = fi ∨ a = la ∨ a = aa) ka va za sa ki fi la aa ⟨⟨⟨i1, ⟨p1, q1, r1, s1, t1, u1, v1, w1⟩, ⟨p2, q2, r2, s2, t2, u2, v2, w2⟩, ⟨p3, q3, r3, s3, t3, u3, v3, w3⟩, ⟨p4, q4, r4, s4, t4, u4, v4, w4⟩, ?_, ?_, ?_, ?_, ?_, ?_, ?_⟩, fun r hr => ⟨r5 r, Nat.zero_le _, List.Pairwise.nil, rfl⟩⟩, ⟨Or.inl rfl, Or.inr (Or.inl rfl), Or.inr (Or.inr (Or.inl rfl)), Or.inr (Or.inr (Or.inr (Or.inl rfl))), Or.inr (Or.inr (Or.inr (Or.inr (Or.inl rfl)))), Or.inr (Or.inr (Or.inr (Or.inr (Or.inr (Or.inl rfl))))), Or.inr (Or.inr (Or.inr (Or.inr (Or.inr (Or.inr (Or.inl rfl)))))), Or.inr (Or.inr (Or.inr (Or.inr (Or.inr (Or.inr (Or.inr (Or.inl rfl))))))), Or.inr (Or.inr (Or.inr (Or.inr (Or.inr (Or.inr (Or.inr (Or.inr rfl)))))))⟩, fun r hr => s5 r, i2 309, i2 310, ⟨Nat.le_refl _, by decide⟩, fun j hj => by omega, rfl, rfl⟩ ?_ ?_
  · exact Ne.symm c27
  · exact Ne.symm c18
  · exact Ne.symm c13
  · exact Ne.symm c16
  · exact Ne.symm c11
  · exact Ne.symm c8
  · exact Ne.symm c6
  · intro a ha
    rcases ha with rfl | rfl | rfl | rfl | rfl | rfl | rfl | rfl | rfl
    · exact ⟨Or.inl rfl, fun z => absurd (i1.symm.trans z) (by decide)⟩
    · exact ⟨Or.inr p6, fun z => p8 (p3.symm.trans z)⟩
    · exact ⟨Or.inr q6, fun z => q8 (q3.symm.trans z)⟩
    · exact ⟨Or.inr r6, fun z => r8 (r3.symm.trans z)⟩
    · exact ⟨Or.inr s6, fun z => s8 (s3.symm.trans z)⟩
    · exact ⟨Or.inr t6, fun z => t8 (t3.symm.trans z)⟩
    · exact ⟨Or.inr u6, fun z => u8 (u3.symm.trans z)⟩
    · exact ⟨Or.inr v6, fun z => v8 (v3.symm.trans z)⟩
    · exact ⟨Or.inr w6, fun z => w8 (w3.symm.trans z)⟩
  · intro a ha
    refine i5 a (fun q => ha (Or.inl q)) (fun t ht q => ?_)
    simp only [List.mem_cons, List.not_mem_nil, or_false] at ht
    rcases ht with rfl | rfl | rfl | rfl | rfl | rfl | rfl | rfl
    · exact ha (by simp only [q]; simp)
    · exact ha (by simp only [q]; simp)
    · exact ha (by simp only [q]; simp)
    · exact ha (by simp only [q]; simp)
    · exact ha (by simp only [q]; simp)
    · exact ha (by simp only [q]; simp)
    · exact ha (by simp only [q]; simp)
    · exact ha (by simp only [q]; simp)
end MDI
