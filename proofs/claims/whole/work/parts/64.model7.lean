/-! LazyPagesModel: the views, sync, crash, total. -/
theorem put_snoc {P : List En} {key : Int32} {x : Int64} (h : ∀ e, e ∈ P → e.1 < key) : putK P key x = P ++ [(key, x)] := by
  unfold putK
  rw [flt_all (fun e he => by simp [h e he]), flt_non (p := fun e => decide (key < e.1)) (fun e he => by simp [Int32.not_lt.mpr (i32_le_of_lt (h e he))])]
theorem del_all (M : List En) : delK M (-2147483648) 2147483647 = [] := flt_non (fun e _ => by simp [kIn, i32_min, i32_max])
section MDW
variable {G : mv_G} {d : Nat} {h h' : mh_T} {S : Nat → Prop} {mo ka va za sa ki fi la aa : Nat} {V : Nat → List En} {sv : Nat → Bool} {nm nk : Nat} {v v2 a b key : Int32} {y : Int64} {R : mv_O → mh_T → Prop}
theorem MDs_ne (hm : MDs h mo ka va za sa ki fi la aa) : sa ≠ ka ∧ sa ≠ va ∧ sa ≠ za ∧ sa ≠ ki ∧ sa ≠ fi ∧ sa ≠ la ∧ sa ≠ aa ∧ ki ≠ ka ∧ ki ≠ za ∧ ki ≠ va ∧ fi ≠ va ∧ la ≠ va ∧ aa ≠ ka ∧ aa ≠ za ∧ mo ≠ ka ∧ mo ≠ va ∧ mo ≠ za ∧ va ≠ ka ∧ va ≠ za := by
  obtain ⟨e1, _, _, ⟨k1, k2, k3, k4, k5, k6, k7, k8⟩, _⟩ := hm
  have ne : ∀ {p q i j : Nat}, mh_kd h p = i → mh_kd h q = j → i ≠ j → p ≠ q := fun hp hq hij e => by rw [e, hq] at hp; exact hij hp.symm
  exact ⟨ne k4 k1 (by decide), ne k4 k2 (by decide), ne k4 k3 (by decide), ne k4 k5 (by decide), ne k4 k6 (by decide), ne k4 k7 (by decide), ne k4 k8 (by decide), ne k5 k1 (by decide), ne k5 k3 (by decide), ne k5 k2 (by decide), ne k6 k2 (by decide), ne k7 k2 (by decide), ne k8 k1 (by decide), ne k8 k3 (by decide), ne e1 k1 (by decide), ne e1 k2 (by decide), ne e1 k3 (by decide), ne k2 k1 (by decide), ne k2 k3 (by decide)⟩
/-- the log is kept where nothing but rows, sizes and flags changed -/
theorem md_to {V' : Nat → List En} {sv' : Nat → Bool} (hm : md h S mo ka va za sa ki fi la aa V sv nm nk) (h0 : md0 h' mo ka va za sa ki fi la aa V') (hsv : ∀ r, r < 4 → mh_aI h' sa r = (if sv' r = true then 1 else 0)) (g1 : ∀ j, mh_aI h' ki j = mh_aI h ki j) (g2 : ∀ j, mh_aI h' fi j = mh_aI h fi j) (g3 : ∀ j, mh_aI h' la j = mh_aI h la j) (g4 : ∀ j, mh_aJ h' aa j = mh_aJ h aa j) (g5 : ∀ F, mh_fI h' F mo = mh_fI h F mo) (v4 : V' 4 = V 4) (v5 : V' 5 = V 5) : md h' S mo ka va za sa ki fi la aa V' sv' nm nk := by
  obtain ⟨m1, m2, m3, m4, m5, m6, m7, m8, m9⟩ := hm
  refine ⟨h0, m2, hsv, (g5 309).trans m4, (g5 310).trans m5, m6, ?_, ?_, ?_⟩
  · rw [funext g1, funext g2, funext g3, funext g4]; exact m7
  · rw [funext g1, funext g2, funext g3, funext g4, v4]; exact m8
  · rw [funext g1, funext g2, funext g3, funext g4, v5]; exact m9
theorem md_sav {i : Nat} {c : Bool} (hm : md h S mo ka va za sa ki fi la aa V sv nm nk) (hi : i < 4) : md (mh_saI h sa i (if c = true then 1 else 0)) S mo ka va za sa ki fi la aa V (up1 sv i c) nm nk ∧ SF S h (mh_saI h sa i (if c = true then 1 else 0)) ∧ mh_fI (mh_saI h sa i (if c = true then 1 else 0)) 300 mo = mh_fI h 300 mo := by
  obtain ⟨n1, n2, n3, n4, n5, n6, _⟩ := MDs_ne hm.1.1
  have hz : ∀ w z, w ≠ sa → mh_aI (mh_saI h sa i (if c = true then 1 else 0)) w z = mh_aI h w z := fun w z hw => by rw [mh_aI_saI, if_neg (fun q => hw q.1)]
  refine ⟨md_to hm ⟨MDs_of hm.1.1 (fun _ => rfl) (fun _ => rfl) (fun _ _ => rfl), fun r hr => ?_⟩ (fun r hr => ?_) (fun j => hz _ _ (Ne.symm n4)) (fun j => hz _ _ (Ne.symm n5)) (fun j => hz _ _ (Ne.symm n6)) (fun _ => rfl) (fun _ => rfl) rfl rfl, fun w hw => mh_sm_saI (fun q => hw (q ▸ hm.2.1.2.2.2.2.1)), rfl⟩
  · obtain ⟨w1, w2, w3, w4⟩ := hm.1.2 r hr
    exact ⟨(hz _ _ (Ne.symm n3)).trans w1, w2, w3, Eq.trans (pl_congr (fun i hi => hz _ _ (Ne.symm n1)) (fun _ _ => rfl)) w4⟩
  · rw [mh_aI_saI]
    by_cases e : r = i
    · rw [if_pos ⟨rfl, e⟩, e, up1_eq]
    · rw [if_neg (fun q => e q.2), up1_ne _ _ e]; exact hm.2.2.1 r hr
set_option maxHeartbeats 4000000 in
set_option maxRecDepth 100000 in
theorem m_isView (h1 : ∀ j, j < 4 → v = nI j → R (.inl (some (.int 1))) h) (h0 : (∀ j, j < 4 → v ≠ nI j) → R (.inl (some (.int 0))) h) : mv_V G jX3_isView d 0 [(0, .int v)] [] h 0 0 R := by
  refine v_iload_n (pc := 0) dX3_isView_0 rfl rfl ?_
  refine v_if_lt 13 (pc := 1) dX3_isView_1 (by decide) (fun hb => ?_) (fun hb => ?_)
  · refine v_iconst (pc := 13) (v := 0) dX3_isView_13 (by decide) ?_
    refine v_zret (pc := 14) dX3_isView_14 rfl rfl ?_
    exact h0 (fun j hj q => (nI_vw hj).1 (q ▸ hb))
  · have hb1 := hb
    refine v_iload_n (pc := 4) dX3_isView_4 rfl rfl ?_
    refine v_iconst (pc := 5) (v := 4) dX3_isView_5 (by decide) ?_
    refine v_icmp_ge 13 (pc := 6) dX3_isView_6 (by decide) (fun hb => ?_) (fun hb => ?_)
    · refine v_iconst (pc := 13) (v := 0) dX3_isView_13 (by decide) ?_
      refine v_zret (pc := 14) dX3_isView_14 rfl rfl ?_
      exact h0 (fun j hj q => Int32.not_lt.mpr hb (q ▸ (nI_vw hj).2))
    · obtain ⟨j, hj, q⟩ := vw_ix hb1 (Int32.not_le.mp hb)
      refine v_iconst (pc := 9) (v := 1) dX3_isView_9 (by decide) ?_
      refine v_goto 14 (pc := 10) dX3_isView_10 (by decide) ?_
      refine v_zret (pc := 14) dX3_isView_14 rfl rfl ?_
      exact h1 j hj q
set_option maxHeartbeats 4000000 in
set_option maxRecDepth 100000 in
theorem w_save (hm : md h S mo ka va za sa ki fi la aa V sv nm nk) (h1 : ∀ j, j < 4 → v = nI j → ∀ h', md h' S mo ka va za sa ki fi la aa (up1 V j (V 4)) (up1 sv j true) nm nk → SF S h h' → mh_fI h' 300 mo = 0 → R (.inl none) h') (h0 : (∀ j, j < 4 → v ≠ nI j) → ∀ h', md h' S mo ka va za sa ki fi la aa V sv nm nk → SF S h h' → mh_fI h' 300 mo = 1 → R (.inl none) h') : mv_V G jX3_save (d + 9) 0 [(0, .ref mo), (1, .int v)] [] h 0 0 R := by
  have e1 := hm.1.1.1
  refine v_aload_n (pc := 0) dX3_save_0 rfl rfl ?_
  refine v_iload_n (pc := 1) dX3_save_1 rfl rfl ?_
  refine v_callS 0 0 (pc := 2) kX3_83 dX3_save_2 (Nat.le_of_ble_eq_true rfl) (Nat.zero_le _) (Nat.zero_le _) (Nat.le_of_ble_eq_true rfl) (Nat.le_of_ble_eq_true rfl) ?_
  refine m_isView (fun j hj q => ?_) (fun c => ?_)
  · refine v_if_eq 12 (pc := 5) dX3_save_5 (by decide) (fun hb => ?_) (fun hb => ?_)
    · exact absurd hb (by decide)
    · refine v_iconst (pc := 8) (v := 0) dX3_save_8 (by decide) ?_
      refine v_goto 13 (pc := 9) dX3_save_9 (by decide) ?_
      refine p_I 300 4 (pc := 13) fX3_37 dX3_save_13 rfl rfl (by assumption) ?_
      obtain ⟨q1, q2, q3⟩ := md_thr (x := 0) hm
      generalize mh_sfI h 300 mo 0 = hc at *
      subst q
      have e2 := q1.1.1.1
      refine v_aload_n (pc := 16) dX3_save_16 rfl rfl ?_
      refine g_I 300 4 (pc := 17) fX3_37 dX3_save_17 rfl rfl (by assumption) (by assumption) ?_
      refine v_if_le 24 (pc := 20) dX3_save_20 (by decide) (fun hb => ?_) (fun hb => ?_)
      · obtain ⟨⟨_, ⟨f1, f2, f3, f4, f5, f6, f7, f8⟩, ⟨n1, n2, n3, n4, n5, n6, n7, n8⟩, ⟨k1, k2, k3, k4, k5, k6, k7, k8⟩, ⟨l1, l2, l3, l4, l5, l6, l7, l8⟩, _⟩, _⟩ := id q1.1
        refine v_aload_n (pc := 24) dX3_save_24 rfl rfl ?_
        refine g_R 304 4 (pc := 25) fX3_20 dX3_save_25 rfl rfl (by assumption) (by assumption) (by assumption) ?_
        refine v_iload_n (pc := 28) dX3_save_28 rfl rfl ?_
        refine v_iconst (pc := 29) (v := 1) dX3_save_29 (by decide) ?_
        refine n_zast (j) _ (pc := 30) dX3_save_30 (by assumption) (by assumption) rfl (by omega) (by decide) ?_
        obtain ⟨p1, p2, p3⟩ := md_sav (c := true) q1 hj
        have p1' : md (mh_saI hc sa j (vp_nar .boolean 1)) S mo ka va za sa ki fi la aa V (up1 sv j true) nm nk := p1
        have p2' : SF S hc (mh_saI hc sa j (vp_nar .boolean 1)) := p2
        have p3' : mh_fI (mh_saI hc sa j (vp_nar .boolean 1)) 300 mo = mh_fI hc 300 mo := p3
        generalize mh_saI hc sa j (vp_nar .boolean 1) = h2 at *
        clear p1 p2 p3 f1 f2 f3 f4 f5 f6 f7 f8 k1 k2 k3 k4 k5 k6 k7 k8 l1 l2 l3 l4 l5 l6 l7 l8 e2
        obtain ⟨⟨⟨e2, ⟨f1, f2, f3, f4, f5, f6, f7, f8⟩, _, ⟨k1, k2, k3, k4, k5, k6, k7, k8⟩, ⟨l1, l2, l3, l4, l5, l6, l7, l8⟩, x1, x2, x3, x4, x5, x6, x7⟩, hrows⟩, m2, m3, _⟩ := id p1'
        obtain ⟨w1, w2, w3, w4⟩ := hrows 4 (by omega)
        obtain ⟨y1, y2, y3, y4, y5, y6, y7, y8, y9, y10, y11, y12, y13, y14, y15, y16, y17, y18, y19⟩ := MDs_ne p1'.1.1
        refine v_aload_n (pc := 31) dX3_save_31 rfl rfl ?_
        refine g_R 303 4 (pc := 32) fX3_17 dX3_save_32 rfl rfl (by assumption) (by assumption) (by assumption) ?_
        refine v_iload_n (pc := 35) dX3_save_35 rfl rfl ?_
        refine v_aload_n (pc := 36) dX3_save_36 rfl rfl ?_
        refine g_R 303 4 (pc := 37) fX3_17 dX3_save_37 rfl rfl (by assumption) (by assumption) (by assumption) ?_
        refine v_iconst (pc := 40) (v := 4) dX3_save_40 (by decide) ?_
        refine n_iald (4) _ (pc := 41) dX3_save_41 (by assumption) (by assumption) rfl (by omega) (by decide) w1 ?_
        refine n_iast (j) _ (pc := 42) dX3_save_42 (by assumption) (by assumption) rfl (by omega) (by decide) ?_
        refine v_iconst (pc := 43) (v := 0) dX3_save_43 (by decide) ?_
        refine v_istore_n (pc := 44) dX3_save_44 rfl rfl rfl (by decide) ?_
        have loop : ∀ m i, i + m = (V 4).length → mv_V G jX3_save (d + 9) 45 [(0, .ref mo), (1, .int (nI j)), (2, .int (nI i))] [] (mh_wJ (mh_wI (mh_saI h2 za j (nI (V 4).length)) ka (fun z => if 600 * j ≤ z ∧ z < 600 * j + i then mh_aI h2 ka (2400 + (z - 600 * j)) else mh_aI h2 ka z)) va (fun z => if 600 * j ≤ z ∧ z < 600 * j + i then mh_aJ h2 va (2400 + (z - 600 * j)) else mh_aJ h2 va z)) 0 0 R := by
          intro m
          induction m with
          | zero =>
            intro i hi
            have rz : mh_aI (mh_wJ (mh_wI (mh_saI h2 za j (nI (V 4).length)) ka (fun z => if 600 * j ≤ z ∧ z < 600 * j + i then mh_aI h2 ka (2400 + (z - 600 * j)) else mh_aI h2 ka z)) va (fun z => if 600 * j ≤ z ∧ z < 600 * j + i then mh_aJ h2 va (2400 + (z - 600 * j)) else mh_aJ h2 va z)) za 4 = nI (V 4).length := by
              rw [mh_aI_wJ, mh_aI_wI, if_neg (Ne.symm x1), mh_aI_saI, if_neg (by omega)]; exact w1
            refine v_iload_n (pc := 45) dX3_save_45 rfl rfl ?_
            refine v_aload_n (pc := 46) dX3_save_46 rfl rfl ?_
            refine g_R 303 4 (pc := 47) fX3_17 dX3_save_47 rfl rfl (by assumption) (by assumption) (by assumption) ?_
            refine v_iconst (pc := 50) (v := 4) dX3_save_50 (by decide) ?_
            refine n_iald (4) _ (pc := 51) dX3_save_51 (by assumption) (by assumption) rfl (by omega) (by decide) rz ?_
            refine v_icmp_ge 105 (pc := 52) dX3_save_52 (by decide) (fun hb => ?_) (fun hb => ?_)
            · have ei : i = (V 4).length := by omega
              subst ei
              refine v_vret (pc := 105) dX3_save_105 rfl ?_
              have hz : ∀ w z, w ≠ ka → w ≠ za → mh_aI (mh_wJ (mh_wI (mh_saI h2 za j (nI (V 4).length)) ka (fun z => if 600 * j ≤ z ∧ z < 600 * j + (V 4).length then mh_aI h2 ka (2400 + (z - 600 * j)) else mh_aI h2 ka z)) va (fun z => if 600 * j ≤ z ∧ z < 600 * j + (V 4).length then mh_aJ h2 va (2400 + (z - 600 * j)) else mh_aJ h2 va z)) w z = mh_aI h2 w z := fun w z h1 h2 => by
                rw [mh_aI_wJ, mh_aI_wI, if_neg h1, mh_aI_saI, if_neg (fun q => h2 q.1)]
              refine h1 j hj rfl _ (md_to p1' ⟨MDs_of p1'.1.1 (fun _ => rfl) (fun _ => rfl) (fun _ _ => rfl), fun r hr => ?_⟩ (fun r hr => ?_) (fun z => hz _ _ y8 y9) (fun z => hz _ _ (Ne.symm x2) (Ne.symm x4)) (fun z => hz _ _ (Ne.symm x3) (Ne.symm x5)) (fun z => ?_) (fun _ => rfl) (up1_ne _ _ (by omega)) (up1_ne _ _ (by omega))) (SF_tr (SF_tr q2 p2') (fun w hw => ?_)) (p3'.trans q3)
              · by_cases c : r = j
                · subst c
                  rw [up1_eq]
                  refine ⟨?_, w2, w3, ?_⟩
                  · rw [mh_aI_wJ, mh_aI_wI, if_neg (Ne.symm x1), mh_aI_saI, if_pos ⟨rfl, rfl⟩]
                  · refine Eq.trans (pl_congr (fun i hi => ?_) (fun i hi => ?_)) w4
                    · rw [mh_aI_wJ, mh_aI_wI, if_pos rfl, if_pos (by omega)]
                      congr 1; omega
                    · rw [mh_aJ_wJ, if_pos rfl, if_pos (by omega)]
                      congr 1; omega
                · rw [up1_ne _ _ c]
                  obtain ⟨z1, z2, z3, z4⟩ := hrows r hr
                  refine ⟨?_, z2, z3, Eq.trans (pl_congr (fun i hi => ?_) (fun i hi => ?_)) z4⟩
                  · rw [mh_aI_wJ, mh_aI_wI, if_neg (Ne.symm x1), mh_aI_saI, if_neg (fun q => c q.2)]; exact z1
                  · have : r < j ∨ j < r := by omega
                    rw [mh_aI_wJ, mh_aI_wI, if_pos rfl, if_neg (by omega)]
                  · have : r < j ∨ j < r := by omega
                    rw [mh_aJ_wJ, if_pos rfl, if_neg (by omega)]
              · rw [hz _ _ y1 y3]; exact m3 r hr
              · rw [mh_aJ_wJ, if_neg (Ne.symm x7)]; rfl
              · obtain ⟨s1, s2, s3, s4, _⟩ := m2
                refine ⟨rfl, rfl, fun _ => rfl, fun _ => rfl, fun _ => rfl, fun z => hz _ _ (fun q => hw (q ▸ s2)) (fun q => hw (q ▸ s4)), fun z => ?_, fun _ => rfl⟩
                rw [mh_aJ_wJ, if_neg (fun q : w = va => hw (q ▸ s3))]; rfl
            · exact absurd ((nI_leI (by omega) (by omega)).mpr (by omega)) hb
          | succ m ih =>
            intro i hi
            have rz : mh_aI (mh_wJ (mh_wI (mh_saI h2 za j (nI (V 4).length)) ka (fun z => if 600 * j ≤ z ∧ z < 600 * j + i then mh_aI h2 ka (2400 + (z - 600 * j)) else mh_aI h2 ka z)) va (fun z => if 600 * j ≤ z ∧ z < 600 * j + i then mh_aJ h2 va (2400 + (z - 600 * j)) else mh_aJ h2 va z)) za 4 = nI (V 4).length := by
              rw [mh_aI_wJ, mh_aI_wI, if_neg (Ne.symm x1), mh_aI_saI, if_neg (by omega)]; exact w1
            refine v_iload_n (pc := 45) dX3_save_45 rfl rfl ?_
            refine v_aload_n (pc := 46) dX3_save_46 rfl rfl ?_
            refine g_R 303 4 (pc := 47) fX3_17 dX3_save_47 rfl rfl (by assumption) (by assumption) (by assumption) ?_
            refine v_iconst (pc := 50) (v := 4) dX3_save_50 (by decide) ?_
            refine n_iald (4) _ (pc := 51) dX3_save_51 (by assumption) (by assumption) rfl (by omega) (by decide) rz ?_
            refine v_icmp_ge 105 (pc := 52) dX3_save_52 (by decide) (fun hb => ?_) (fun hb => ?_)
            · have := (nI_leI (by omega) (by omega)).mp hb
              omega
            · refine v_aload_n (pc := 55) dX3_save_55 rfl rfl ?_
              refine g_R 301 4 (pc := 56) fX3_7 dX3_save_56 rfl rfl (by assumption) (by assumption) (by assumption) ?_
              refine v_sipush (pc := 59) (v := 600) dX3_save_59 (by decide) ?_
              refine v_iload_n (pc := 62) dX3_save_62 rfl rfl ?_
              refine v_imul (pc := 63) dX3_save_63 ?_
              refine v_iload_n (pc := 64) dX3_save_64 rfl rfl ?_
              refine v_iadd (pc := 65) dX3_save_65 ?_
              refine v_eqi (mx_ix j i) ?_
              refine v_aload_n (pc := 66) dX3_save_66 rfl rfl ?_
              refine g_R 301 4 (pc := 67) fX3_7 dX3_save_67 rfl rfl (by assumption) (by assumption) (by assumption) ?_
              refine v_sipush (pc := 70) (v := 2400) dX3_save_70 (by decide) ?_
              refine v_iload_n (pc := 73) dX3_save_73 rfl rfl ?_
              refine v_iadd (pc := 74) dX3_save_74 ?_
              refine v_eqi (ix_24 i) ?_
              refine n_iald (2400 + i) _ (pc := 75) dX3_save_75 (by assumption) (by assumption) rfl (by omega) (by decide) rfl ?_
              refine n_iast (600 * j + i) _ (pc := 76) dX3_save_76 (by assumption) (by assumption) rfl (by omega) (by decide) ?_
              refine v_aload_n (pc := 77) dX3_save_77 rfl rfl ?_
              refine g_R 302 4 (pc := 78) fX3_13 dX3_save_78 rfl rfl (by assumption) (by assumption) (by assumption) ?_
              refine v_sipush (pc := 81) (v := 600) dX3_save_81 (by decide) ?_
              refine v_iload_n (pc := 84) dX3_save_84 rfl rfl ?_
              refine v_imul (pc := 85) dX3_save_85 ?_
              refine v_iload_n (pc := 86) dX3_save_86 rfl rfl ?_
              refine v_iadd (pc := 87) dX3_save_87 ?_
              refine v_eqi (mx_ix j i) ?_
              refine v_aload_n (pc := 88) dX3_save_88 rfl rfl ?_
              refine g_R 302 4 (pc := 89) fX3_13 dX3_save_89 rfl rfl (by assumption) (by assumption) (by assumption) ?_
              refine v_sipush (pc := 92) (v := 2400) dX3_save_92 (by decide) ?_
              refine v_iload_n (pc := 95) dX3_save_95 rfl rfl ?_
              refine v_iadd (pc := 96) dX3_save_96 ?_
              refine v_eqi (ix_24 i) ?_
              refine n_lald (2400 + i) _ (pc := 97) dX3_save_97 (by assumption) (by assumption) rfl (by omega) (by decide) rfl ?_
              refine n_last (600 * j + i) _ (pc := 98) dX3_save_98 (by assumption) (by assumption) rfl (by omega) (by decide) ?_
              refine v_iinc (pc := 99) dX3_save_99 rfl (mv_inc _) rfl rfl (by decide) ?_
              refine v_goto 45 (pc := 102) dX3_save_102 (by decide) ?_
              refine v_eqh ?_ (ih (i + 1) (by omega))
              refine mh_ext (fun _ => rfl) (fun _ => rfl) (fun _ _ => rfl) (fun _ _ => rfl) (fun _ _ => rfl) (fun w z => ?_) (fun w z => ?_) (fun _ _ => rfl)
              · rw [mh_aI_saJ, mh_aI_saI, mh_aI_wJ, mh_aI_wI, mh_aI_wJ, mh_aI_wI, mh_aI_wJ, mh_aI_wI, if_pos rfl]
                by_cases cw : w = ka
                · subst cw
                  by_cases cz : z = 600 * j + i
                  · rw [if_pos ⟨rfl, cz⟩, if_neg (by omega), if_pos rfl, if_pos (by omega), cz]
                    congr 1; omega
                  · rw [if_neg (fun q => cz q.2), if_pos rfl, if_pos rfl]
                    by_cases c3 : 600 * j ≤ z ∧ z < 600 * j + i
                    · rw [if_pos c3, if_pos (by omega)]
                    · rw [if_neg c3, if_neg (by omega)]
                · rw [if_neg (fun q => cw q.1), if_neg cw, if_neg cw]
              · rw [mh_aJ_saJ, mh_aJ_saI, mh_aJ_saI, mh_aJ_wJ, mh_aJ_wJ, mh_aJ_wJ, if_pos rfl]
                by_cases cw : w = va
                · subst cw
                  by_cases cz : z = 600 * j + i
                  · rw [if_pos ⟨rfl, cz⟩, if_neg (by omega), if_pos rfl, if_pos (by omega), cz]
                    congr 1; omega
                  · rw [if_neg (fun q => cz q.2), if_pos rfl, if_pos rfl]
                    by_cases c3 : 600 * j ≤ z ∧ z < 600 * j + i
                    · rw [if_pos c3, if_pos (by omega)]
                    · rw [if_neg c3, if_neg (by omega)]
                · rw [if_neg (fun q => cw q.1), if_neg cw, if_neg cw]; rfl
        refine v_eqh ?_ (loop (V 4).length 0 (by omega))
        refine mh_ext (fun _ => rfl) (fun _ => rfl) (fun _ _ => rfl) (fun _ _ => rfl) (fun _ _ => rfl) (fun w z => ?_) (fun w z => ?_) (fun _ _ => rfl)
        · rw [mh_aI_wJ, mh_aI_wI]
          by_cases cw : w = ka
          · rw [if_pos cw, if_neg (by omega), cw, mh_aI_saI, if_neg (fun q => x1 q.1)]
          · rw [if_neg cw]
        · rw [mh_aJ_wJ]
          by_cases cw : w = va
          · rw [if_pos cw, if_neg (by omega), cw]; rfl
          · rw [if_neg cw]; rfl
      · exact absurd (by decide) hb
  · refine v_if_eq 12 (pc := 5) dX3_save_5 (by decide) (fun hb => ?_) (fun hb => ?_)
    · refine v_iconst (pc := 12) (v := 1) dX3_save_12 (by decide) ?_
      refine p_I 300 4 (pc := 13) fX3_37 dX3_save_13 rfl rfl (by assumption) ?_
      obtain ⟨q1, q2, q3⟩ := md_thr (x := 1) hm
      generalize mh_sfI h 300 mo 1 = hc at *
      have e2 := q1.1.1.1
      refine v_aload_n (pc := 16) dX3_save_16 rfl rfl ?_
      refine g_I 300 4 (pc := 17) fX3_37 dX3_save_17 rfl rfl (by assumption) (by assumption) ?_
      refine v_if_le 24 (pc := 20) dX3_save_20 (by decide) (fun hb => ?_) (fun hb => ?_)
      · exact absurd hb (by decide)
      · refine v_vret (pc := 23) dX3_save_23 rfl ?_
        exact h0 c hc q1 q2 q3
    · exact absurd rfl hb
set_option maxHeartbeats 4000000 in
set_option maxRecDepth 100000 in
theorem w_drop (hm : md h S mo ka va za sa ki fi la aa V sv nm nk) (h1 : ∀ j, j < 4 → v = nI j → ∀ h', md h' S mo ka va za sa ki fi la aa V (up1 sv j false) nm nk → SF S h h' → mh_fI h' 300 mo = 0 → R (.inl (some (.int (if sv j = true then 1 else 0)))) h') (h0 : (∀ j, j < 4 → v ≠ nI j) → ∀ h', md h' S mo ka va za sa ki fi la aa V sv nm nk → SF S h h' → mh_fI h' 300 mo = 1 → R (.inl (some (.int 0))) h') : mv_V G jX3_drop (d + 9) 0 [(0, .ref mo), (1, .int v)] [] h 0 0 R := by
  have e1 := hm.1.1.1
  refine v_aload_n (pc := 0) dX3_drop_0 rfl rfl ?_
  refine v_iload_n (pc := 1) dX3_drop_1 rfl rfl ?_
  refine v_callS 0 0 (pc := 2) kX3_83 dX3_drop_2 (Nat.le_of_ble_eq_true rfl) (Nat.zero_le _) (Nat.zero_le _) (Nat.le_of_ble_eq_true rfl) (Nat.le_of_ble_eq_true rfl) ?_
  refine m_isView (fun j hj q => ?_) (fun c => ?_)
  · refine v_if_eq 12 (pc := 5) dX3_drop_5 (by decide) (fun hb => ?_) (fun hb => ?_)
    · exact absurd hb (by decide)
    · refine v_iconst (pc := 8) (v := 0) dX3_drop_8 (by decide) ?_
      refine v_goto 13 (pc := 9) dX3_drop_9 (by decide) ?_
      refine p_I 300 4 (pc := 13) fX3_37 dX3_drop_13 rfl rfl (by assumption) ?_
      obtain ⟨q1, q2, q3⟩ := md_thr (x := 0) hm
      generalize mh_sfI h 300 mo 0 = hc at *
      subst q
      obtain ⟨⟨⟨e2, ⟨f1, f2, f3, f4, f5, f6, f7, f8⟩, ⟨n1, n2, n3, n4, n5, n6, n7, n8⟩, ⟨k1, k2, k3, k4, k5, k6, k7, k8⟩, ⟨l1, l2, l3, l4, l5, l6, l7, l8⟩, _⟩, _⟩, _, m3, _⟩ := id q1
      have g1 := m3 j hj
      obtain ⟨p1, p2, p3⟩ := md_sav (c := false) q1 hj
      have z := h1 j hj rfl _ p1 (SF_tr q2 p2) (p3.trans q3)
      refine v_aload_n (pc := 16) dX3_drop_16 rfl rfl ?_
      refine g_I 300 4 (pc := 17) fX3_37 dX3_drop_17 rfl rfl (by assumption) q3 ?_
      refine v_if_le 25 (pc := 20) dX3_drop_20 (by decide) (fun hb => ?_) (fun hb => ?_)
      · refine v_aload_n (pc := 25) dX3_drop_25 rfl rfl ?_
        refine g_R 304 4 (pc := 26) fX3_20 dX3_drop_26 rfl rfl (by assumption) (by assumption) (by assumption) ?_
        refine v_iload_n (pc := 29) dX3_drop_29 rfl rfl ?_
        refine n_zald (j) _ (pc := 30) dX3_drop_30 (by assumption) (by assumption) rfl (by omega) (by decide) g1 ?_
        refine v_istore_n (pc := 31) dX3_drop_31 rfl rfl rfl (by decide) ?_
        refine v_aload_n (pc := 32) dX3_drop_32 rfl rfl ?_
        refine g_R 304 4 (pc := 33) fX3_20 dX3_drop_33 rfl rfl (by assumption) (by assumption) (by assumption) ?_
        refine v_iload_n (pc := 36) dX3_drop_36 rfl rfl ?_
        refine v_iconst (pc := 37) (v := 0) dX3_drop_37 (by decide) ?_
        refine n_zast (j) _ (pc := 38) dX3_drop_38 (by assumption) (by assumption) rfl (by omega) (by decide) ?_
        refine v_iload_n (pc := 39) dX3_drop_39 rfl rfl ?_
        by_cases c : sv j = true
        · rw [if_pos c] at z ⊢
          refine v_zret (pc := 40) dX3_drop_40 rfl rfl ?_
          exact z
        · rw [if_neg c] at z ⊢
          refine v_zret (pc := 40) dX3_drop_40 rfl rfl ?_
          exact z
      · exact absurd (by decide) hb
  · refine v_if_eq 12 (pc := 5) dX3_drop_5 (by decide) (fun hb => ?_) (fun hb => ?_)
    · refine v_iconst (pc := 12) (v := 1) dX3_drop_12 (by decide) ?_
      refine p_I 300 4 (pc := 13) fX3_37 dX3_drop_13 rfl rfl (by assumption) ?_
      obtain ⟨q1, q2, q3⟩ := md_thr (x := 1) hm
      generalize mh_sfI h 300 mo 1 = hc at *
      have e2 := q1.1.1.1
      refine v_aload_n (pc := 16) dX3_drop_16 rfl rfl ?_
      refine g_I 300 4 (pc := 17) fX3_37 dX3_drop_17 rfl rfl (by assumption) (by assumption) ?_
      refine v_if_le 25 (pc := 20) dX3_drop_20 (by decide) (fun hb => ?_) (fun hb => ?_)
      · exact absurd hb (by decide)
      · refine v_iconst (pc := 23) (v := 0) dX3_drop_23 (by decide) ?_
        refine v_zret (pc := 24) dX3_drop_24 rfl rfl ?_
        exact h0 c hc q1 q2 q3
    · exact absurd rfl hb
end MDW
