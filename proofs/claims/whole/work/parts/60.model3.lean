/-! LazyPagesModel: doDelete, doRaise, done. -/
section MDD
variable {G : mv_G} {d : Nat} {h : mh_T} {mo ka va za sa ki fi la aa : Nat} {V : Nat → List En} {r : Nat} {key a b : Int32} {y : Int64} {R : mv_O → mh_T → Prop}
set_option maxHeartbeats 4000000 in
set_option maxRecDepth 100000 in
theorem m_doDelete (hm : md0 h mo ka va za sa ki fi la aa V) (hab : a ≤ b) (hR : ∀ h', md0 h' mo ka va za sa ki fi la aa (up1 V 4 (delK (V 4) a b)) → mF h h' ka va za → R (.inl (some (.int (nI (cntK (V 4) a b))))) h') : mv_V G jX3_doDelete (d + 1) 0 [(0, .ref mo), (1, .int a), (2, .int b)] [] h 0 0 R := by
  obtain ⟨⟨e1, ⟨f1, f2, f3, f4, f5, f6, f7, f8⟩, ⟨n1, n2, n3, n4, n5, n6, n7, n8⟩, ⟨k1, k2, k3, k4, k5, k6, k7, k8⟩, ⟨l1, l2, l3, l4, l5, l6, l7, l8⟩, dz, _⟩, hrows⟩ := id hm
  have hw := hrows 4 (by omega)
  obtain ⟨w1, w2, w3, w4⟩ := id hw
  have hs := mrow_rsg hw
  have q1 := pb_le_pn hs hab (b := b)
  have q2 := pn_le (fun i => mh_aI h ka (600 * 4 + i)) (V 4).length b
  have zk : za ≠ ka := dz.symm
  have hcn := pl_cnt (V := fun i => mh_aJ h va (600 * 4 + i)) (w := 0) hs hab
  have hdl := pl_del (V := fun i => mh_aJ h va (600 * 4 + i)) (w := 0) hs hab
  have hdn := del_len (V 4) a b
  rw [w4] at hcn hdl
  refine v_aload_n (pc := 0) dX3_doDelete_0 rfl rfl ?_
  refine v_iconst (pc := 1) (v := 4) dX3_doDelete_1 (by decide) ?_
  refine v_iload_n (pc := 2) dX3_doDelete_2 rfl rfl ?_
  refine v_i2l (pc := 3) dX3_doDelete_3 ?_
  refine v_callV 0 0 (pc := 4) kX3_41 dX3_doDelete_4 rfl (by assumption) (Nat.zero_le _) (Nat.zero_le _) (Nat.le_of_ble_eq_true rfl) (Nat.le_of_ble_eq_true rfl) ?_
  refine m_belowA (r := 4) hm (by omega) ?_
  refine v_istore_n (pc := 7) dX3_doDelete_7 rfl rfl rfl (by decide) ?_
  refine v_aload_n (pc := 8) dX3_doDelete_8 rfl rfl ?_
  refine v_iconst (pc := 9) (v := 4) dX3_doDelete_9 (by decide) ?_
  refine v_iload_n (pc := 10) dX3_doDelete_10 rfl rfl ?_
  refine v_i2l (pc := 11) dX3_doDelete_11 ?_
  refine v_lconst (pc := 12) (v := 1) dX3_doDelete_12 (by decide) ?_
  refine v_ladd (pc := 13) dX3_doDelete_13 ?_
  refine v_callV 0 0 (pc := 14) kX3_41 dX3_doDelete_14 rfl (by assumption) (Nat.zero_le _) (Nat.zero_le _) (Nat.le_of_ble_eq_true rfl) (Nat.le_of_ble_eq_true rfl) ?_
  refine m_belowB (r := 4) hm (by omega) ?_
  generalize pb (fun i => mh_aI h ka (600 * 4 + i)) (V 4).length a = lo at *
  generalize pn (fun i => mh_aI h ka (600 * 4 + i)) (V 4).length b = hi at *
  refine v_istore (pc := 17) dX3_doDelete_17 rfl rfl (by decide) ?_
  refine v_iload (pc := 19) dX3_doDelete_19 rfl ?_
  refine v_istore (pc := 21) dX3_doDelete_21 rfl rfl (by decide) ?_
  have loop : ∀ m k, k + m = (V 4).length → hi ≤ k → mv_V G jX3_doDelete (d + 1) 23 [(0, .ref mo), (1, .int a), (2, .int b), (3, .int (nI lo)), (4, .int (nI hi)), (5, .int (nI k))] [] (mh_wJ (mh_wI h ka (fun z => if 2400 + lo ≤ z ∧ z < 2400 + lo + (k - hi) then mh_aI h ka (z - lo + hi) else mh_aI h ka z)) va (fun z => if 2400 + lo ≤ z ∧ z < 2400 + lo + (k - hi) then mh_aJ h va (z - lo + hi) else mh_aJ h va z)) 0 0 R := by
    intro m
    induction m with
    | zero =>
      intro k hk hk2
      have rz : mh_aI (mh_wJ (mh_wI h ka (fun z => if 2400 + lo ≤ z ∧ z < 2400 + lo + (k - hi) then mh_aI h ka (z - lo + hi) else mh_aI h ka z)) va (fun z => if 2400 + lo ≤ z ∧ z < 2400 + lo + (k - hi) then mh_aJ h va (z - lo + hi) else mh_aJ h va z)) za 4 = nI (V 4).length := by
        rw [mh_aI_wJ, mh_aI_wI, if_neg zk]; exact w1
      refine v_iload (pc := 23) dX3_doDelete_23 rfl ?_
      refine v_aload_n (pc := 25) dX3_doDelete_25 rfl rfl ?_
      refine g_R 303 4 (pc := 26) fX3_17 dX3_doDelete_26 rfl rfl (by assumption) (by assumption) (by assumption) ?_
      refine v_iconst (pc := 29) (v := 4) dX3_doDelete_29 (by decide) ?_
      refine n_iald (4) _ (pc := 30) dX3_doDelete_30 (by assumption) (by assumption) rfl (by omega) (by decide) rz ?_
      refine v_icmp_ge 94 (pc := 31) dX3_doDelete_31 (by decide) (fun hb => ?_) (fun hb => ?_)
      · refine v_aload_n (pc := 94) dX3_doDelete_94 rfl rfl ?_
        refine g_R 303 4 (pc := 95) fX3_17 dX3_doDelete_95 rfl rfl (by assumption) (by assumption) (by assumption) ?_
        refine v_iconst (pc := 98) (v := 4) dX3_doDelete_98 (by decide) ?_
        refine v_aload_n (pc := 99) dX3_doDelete_99 rfl rfl ?_
        refine g_R 303 4 (pc := 100) fX3_17 dX3_doDelete_100 rfl rfl (by assumption) (by assumption) (by assumption) ?_
        refine v_iconst (pc := 103) (v := 4) dX3_doDelete_103 (by decide) ?_
        refine n_iald (4) _ (pc := 104) dX3_doDelete_104 (by assumption) (by assumption) rfl (by omega) (by decide) rz ?_
        refine v_iload (pc := 105) dX3_doDelete_105 rfl ?_
        refine v_iload_n (pc := 107) dX3_doDelete_107 rfl rfl ?_
        refine v_isub (pc := 108) dX3_doDelete_108 ?_
        refine v_eqi (pk_sub q1) ?_
        refine v_isub (pc := 109) dX3_doDelete_109 ?_
        refine v_eqi (pk_sub (by omega)) ?_
        refine n_iast (4) _ (pc := 110) dX3_doDelete_110 (by assumption) (by assumption) rfl (by omega) (by decide) ?_
        refine v_iload (pc := 111) dX3_doDelete_111 rfl ?_
        refine v_iload_n (pc := 113) dX3_doDelete_113 rfl rfl ?_
        refine v_isub (pc := 114) dX3_doDelete_114 ?_
        refine v_eqi (pk_sub q1) ?_
        refine v_iret (pc := 115) dX3_doDelete_115 rfl ?_
        rw [← hcn]
        have ek : k = (V 4).length := by omega
        subst ek
        refine hR _ (md0_4 hm (fun _ => rfl) (fun _ => rfl) (fun _ _ => rfl) (fun z hz => ?_) (fun z hz => ?_) (fun r hr => ?_) ?_ ?_ (up_del w3 _ _) ?_) (fun z z1 z2 z3 => ?_)
        · rw [mh_aI_saI, if_neg (fun q => zk q.1.symm), mh_aI_wJ, mh_aI_wI, if_pos rfl, if_neg (by omega)]
        · rw [mh_aJ_saI, mh_aJ_wJ, if_pos rfl, if_neg (by omega)]
        · rw [mh_aI_saI, if_neg (by omega), mh_aI_wJ, mh_aI_wI, if_neg zk]
        · rw [mh_aI_saI, if_pos ⟨rfl, rfl⟩]
          congr 1; omega
        · omega
        · rw [show (delK (V 4) a b).length = (V 4).length - (hi - lo) by omega]
          rw [← hdl]
          refine pl_congr (fun i hi' => ?_) (fun i hi' => ?_)
          · rw [mh_aI_saI, if_neg (fun q => zk q.1.symm), mh_aI_wJ, mh_aI_wI, if_pos rfl]
            unfold remF
            by_cases c : lo ≤ i ∧ i < lo + ((V 4).length - hi)
            · rw [if_pos (by omega), if_pos c]
              have e : 600 * 4 + i - lo + hi = 600 * 4 + (hi + (i - lo)) := by omega
              rw [e]
            · rw [if_neg (by omega), if_neg c]
          · rw [mh_aJ_saI, mh_aJ_wJ, if_pos rfl]
            unfold remF
            by_cases c : lo ≤ i ∧ i < lo + ((V 4).length - hi)
            · rw [if_pos (by omega), if_pos c]
              have e : 600 * 4 + i - lo + hi = 600 * 4 + (hi + (i - lo)) := by omega
              rw [e]
            · rw [if_neg (by omega), if_neg c]
        · refine ⟨rfl, rfl, fun _ => rfl, fun _ => rfl, fun _ => rfl, fun j => ?_, fun j => ?_, fun _ => rfl⟩
          · rw [mh_aI_saI, if_neg (fun q => z3 q.1), mh_aI_wJ, mh_aI_wI, if_neg z1]
          · rw [mh_aJ_saI, mh_aJ_wJ, if_neg z2]; rfl
      · exact absurd ((nI_leI (by omega) (by omega)).mpr (by omega)) hb
    | succ m ih =>
      intro k hk hk2
      have rz : mh_aI (mh_wJ (mh_wI h ka (fun z => if 2400 + lo ≤ z ∧ z < 2400 + lo + (k - hi) then mh_aI h ka (z - lo + hi) else mh_aI h ka z)) va (fun z => if 2400 + lo ≤ z ∧ z < 2400 + lo + (k - hi) then mh_aJ h va (z - lo + hi) else mh_aJ h va z)) za 4 = nI (V 4).length := by
        rw [mh_aI_wJ, mh_aI_wI, if_neg zk]; exact w1
      have s1 : nI (2400 + lo + k) - nI hi = nI (2400 + lo + k - hi) := pk_sub (by omega)
      refine v_iload (pc := 23) dX3_doDelete_23 rfl ?_
      refine v_aload_n (pc := 25) dX3_doDelete_25 rfl rfl ?_
      refine g_R 303 4 (pc := 26) fX3_17 dX3_doDelete_26 rfl rfl (by assumption) (by assumption) (by assumption) ?_
      refine v_iconst (pc := 29) (v := 4) dX3_doDelete_29 (by decide) ?_
      refine n_iald (4) _ (pc := 30) dX3_doDelete_30 (by assumption) (by assumption) rfl (by omega) (by decide) rz ?_
      refine v_icmp_ge 94 (pc := 31) dX3_doDelete_31 (by decide) (fun hb => ?_) (fun hb => ?_)
      · have := (nI_leI (by omega) (by omega)).mp hb
        omega
      · refine v_aload_n (pc := 34) dX3_doDelete_34 rfl rfl ?_
        refine g_R 301 4 (pc := 35) fX3_7 dX3_doDelete_35 rfl rfl (by assumption) (by assumption) (by assumption) ?_
        refine v_sipush (pc := 38) (v := 2400) dX3_doDelete_38 (by decide) ?_
        refine v_iload_n (pc := 41) dX3_doDelete_41 rfl rfl ?_
        refine v_iadd (pc := 42) dX3_doDelete_42 ?_
        refine v_eqi (ix_24 lo) ?_
        refine v_iload (pc := 43) dX3_doDelete_43 rfl ?_
        refine v_iadd (pc := 45) dX3_doDelete_45 ?_
        refine v_eqi (nI_add _ _) ?_
        refine v_iload (pc := 46) dX3_doDelete_46 rfl ?_
        refine v_isub (pc := 48) dX3_doDelete_48 ?_
        refine v_eqi s1 ?_
        refine v_aload_n (pc := 49) dX3_doDelete_49 rfl rfl ?_
        refine g_R 301 4 (pc := 50) fX3_7 dX3_doDelete_50 rfl rfl (by assumption) (by assumption) (by assumption) ?_
        refine v_sipush (pc := 53) (v := 2400) dX3_doDelete_53 (by decide) ?_
        refine v_iload (pc := 56) dX3_doDelete_56 rfl ?_
        refine v_iadd (pc := 58) dX3_doDelete_58 ?_
        refine v_eqi (ix_24 k) ?_
        refine n_iald (2400 + k) _ (pc := 59) dX3_doDelete_59 (by assumption) (by assumption) rfl (by omega) (by decide) rfl ?_
        refine n_iast (2400 + lo + k - hi) _ (pc := 60) dX3_doDelete_60 (by assumption) (by assumption) rfl (by omega) (by decide) ?_
        refine v_aload_n (pc := 61) dX3_doDelete_61 rfl rfl ?_
        refine g_R 302 4 (pc := 62) fX3_13 dX3_doDelete_62 rfl rfl (by assumption) (by assumption) (by assumption) ?_
        refine v_sipush (pc := 65) (v := 2400) dX3_doDelete_65 (by decide) ?_
        refine v_iload_n (pc := 68) dX3_doDelete_68 rfl rfl ?_
        refine v_iadd (pc := 69) dX3_doDelete_69 ?_
        refine v_eqi (ix_24 lo) ?_
        refine v_iload (pc := 70) dX3_doDelete_70 rfl ?_
        refine v_iadd (pc := 72) dX3_doDelete_72 ?_
        refine v_eqi (nI_add _ _) ?_
        refine v_iload (pc := 73) dX3_doDelete_73 rfl ?_
        refine v_isub (pc := 75) dX3_doDelete_75 ?_
        refine v_eqi s1 ?_
        refine v_aload_n (pc := 76) dX3_doDelete_76 rfl rfl ?_
        refine g_R 302 4 (pc := 77) fX3_13 dX3_doDelete_77 rfl rfl (by assumption) (by assumption) (by assumption) ?_
        refine v_sipush (pc := 80) (v := 2400) dX3_doDelete_80 (by decide) ?_
        refine v_iload (pc := 83) dX3_doDelete_83 rfl ?_
        refine v_iadd (pc := 85) dX3_doDelete_85 ?_
        refine v_eqi (ix_24 k) ?_
        refine n_lald (2400 + k) _ (pc := 86) dX3_doDelete_86 (by assumption) (by assumption) rfl (by omega) (by decide) rfl ?_
        refine n_last (2400 + lo + k - hi) _ (pc := 87) dX3_doDelete_87 (by assumption) (by assumption) rfl (by omega) (by decide) ?_
        refine v_iinc (pc := 88) dX3_doDelete_88 rfl (mv_inc _) rfl rfl (by decide) ?_
        refine v_goto 23 (pc := 91) dX3_doDelete_91 (by decide) ?_
        refine v_eqh ?_ (ih (k + 1) (by omega) (by omega))
        refine mh_ext (fun _ => rfl) (fun _ => rfl) (fun _ _ => rfl) (fun _ _ => rfl) (fun _ _ => rfl) (fun w z => ?_) (fun w z => ?_) (fun _ _ => rfl)
        · rw [mh_aI_saJ, mh_aI_saI, mh_aI_wJ, mh_aI_wI, mh_aI_wJ, mh_aI_wI, mh_aI_wJ, mh_aI_wI, if_pos rfl]
          by_cases cw : w = ka
          · subst cw
            by_cases cz : z = 2400 + lo + k - hi
            · rw [if_pos ⟨rfl, cz⟩, if_neg (by omega), if_pos rfl, if_pos (by omega), cz]
              congr 1; omega
            · rw [if_neg (fun q => cz q.2), if_pos rfl, if_pos rfl]
              by_cases c3 : 2400 + lo ≤ z ∧ z < 2400 + lo + (k - hi)
              · rw [if_pos c3, if_pos (by omega)]
              · rw [if_neg c3, if_neg (by omega)]
          · rw [if_neg (fun q => cw q.1), if_neg cw, if_neg cw]
        · rw [mh_aJ_saJ, mh_aJ_saI, mh_aJ_saI, mh_aJ_wJ, mh_aJ_wJ, mh_aJ_wJ, if_pos rfl]
          by_cases cw : w = va
          · subst cw
            by_cases cz : z = 2400 + lo + k - hi
            · rw [if_pos ⟨rfl, cz⟩, if_neg (by omega), if_pos rfl, if_pos (by omega), cz]
              congr 1; omega
            · rw [if_neg (fun q => cz q.2), if_pos rfl, if_pos rfl]
              by_cases c3 : 2400 + lo ≤ z ∧ z < 2400 + lo + (k - hi)
              · rw [if_pos c3, if_pos (by omega)]
              · rw [if_neg c3, if_neg (by omega)]
          · rw [if_neg (fun q => cw q.1), if_neg cw, if_neg cw]; rfl
  refine v_eqh ?_ (loop ((V 4).length - hi) hi (by omega) (Nat.le_refl _))
  refine mh_ext (fun _ => rfl) (fun _ => rfl) (fun _ _ => rfl) (fun _ _ => rfl) (fun _ _ => rfl) (fun w z => ?_) (fun w z => ?_) (fun _ _ => rfl)
  · rw [mh_aI_wJ, mh_aI_wI]
    by_cases cw : w = ka
    · rw [if_pos cw, if_neg (by omega), cw]
    · rw [if_neg cw]
  · rw [mh_aJ_wJ]
    by_cases cw : w = va
    · rw [if_pos cw, if_neg (by omega), cw]
    · rw [if_neg cw]; rfl
set_option maxHeartbeats 4000000 in
set_option maxRecDepth 100000 in
theorem m_doRaise (hm : md0 h mo ka va za sa ki fi la aa V) (hab : a ≤ b) (hR : ∀ h', md0 h' mo ka va za sa ki fi la aa (up1 V 4 (raiK (V 4) a b y)) → mF h h' ka va za → R (.inl (some (.int (nI (cntK (V 4) a b))))) h') : mv_V G jX3_doRaise (d + 1) 0 [(0, .ref mo), (1, .int a), (2, .int b), (3, .long y)] [] h 0 0 R := by
  obtain ⟨⟨e1, ⟨f1, f2, f3, f4, f5, f6, f7, f8⟩, ⟨n1, n2, n3, n4, n5, n6, n7, n8⟩, ⟨k1, k2, k3, k4, k5, k6, k7, k8⟩, ⟨l1, l2, l3, l4, l5, l6, l7, l8⟩, dz, _⟩, hrows⟩ := id hm
  have hw := hrows 4 (by omega)
  obtain ⟨w1, w2, w3, w4⟩ := id hw
  have hs := mrow_rsg hw
  have q1 := pb_le_pn hs hab (b := b)
  have q2 := pn_le (fun i => mh_aI h ka (600 * 4 + i)) (V 4).length b
  have zk : za ≠ ka := dz.symm
  have hcn := pl_cnt (V := fun i => mh_aJ h va (600 * 4 + i)) (w := 0) hs hab
  have hra := pl_rai2 (V := fun i => mh_aJ h va (600 * 4 + i)) (w := 0) (x := y) (a := a) (b := b) hs
  rw [w4] at hcn hra
  refine v_aload_n (pc := 0) dX3_doRaise_0 rfl rfl ?_
  refine v_iconst (pc := 1) (v := 4) dX3_doRaise_1 (by decide) ?_
  refine v_iload_n (pc := 2) dX3_doRaise_2 rfl rfl ?_
  refine v_i2l (pc := 3) dX3_doRaise_3 ?_
  refine v_callV 0 0 (pc := 4) kX3_41 dX3_doRaise_4 rfl (by assumption) (Nat.zero_le _) (Nat.zero_le _) (Nat.le_of_ble_eq_true rfl) (Nat.le_of_ble_eq_true rfl) ?_
  refine m_belowA (r := 4) hm (by omega) ?_
  refine v_istore (pc := 7) dX3_doRaise_7 rfl rfl (by decide) ?_
  refine v_aload_n (pc := 9) dX3_doRaise_9 rfl rfl ?_
  refine v_iconst (pc := 10) (v := 4) dX3_doRaise_10 (by decide) ?_
  refine v_iload_n (pc := 11) dX3_doRaise_11 rfl rfl ?_
  refine v_i2l (pc := 12) dX3_doRaise_12 ?_
  refine v_lconst (pc := 13) (v := 1) dX3_doRaise_13 (by decide) ?_
  refine v_ladd (pc := 14) dX3_doRaise_14 ?_
  refine v_callV 0 0 (pc := 15) kX3_41 dX3_doRaise_15 rfl (by assumption) (Nat.zero_le _) (Nat.zero_le _) (Nat.le_of_ble_eq_true rfl) (Nat.le_of_ble_eq_true rfl) ?_
  refine m_belowB (r := 4) hm (by omega) ?_
  generalize pb (fun i => mh_aI h ka (600 * 4 + i)) (V 4).length a = lo at *
  generalize pn (fun i => mh_aI h ka (600 * 4 + i)) (V 4).length b = hi at *
  refine v_istore (pc := 18) dX3_doRaise_18 rfl rfl (by decide) ?_
  refine v_iload (pc := 20) dX3_doRaise_20 rfl ?_
  refine v_istore (pc := 22) dX3_doRaise_22 rfl rfl (by decide) ?_
  have loop : ∀ m k, k + m = hi → lo ≤ k → mv_V G jX3_doRaise (d + 1) 24 [(0, .ref mo), (1, .int a), (2, .int b), (3, .long y), (5, .int (nI lo)), (6, .int (nI hi)), (7, .int (nI k))] [] (mh_wJ h va (fun z => if 2400 + lo ≤ z ∧ z < 2400 + k then mh_aJ h va z + y else mh_aJ h va z)) 0 0 R := by
    intro m
    induction m with
    | zero =>
      intro k hk hk2
      have ek : k = hi := by omega
      subst ek
      refine v_iload (pc := 24) dX3_doRaise_24 rfl ?_
      refine v_iload (pc := 26) dX3_doRaise_26 rfl ?_
      refine v_icmp_ge 52 (pc := 28) dX3_doRaise_28 (by decide) (fun hb => ?_) (fun hb => ?_)
      · refine v_iload (pc := 52) dX3_doRaise_52 rfl ?_
        refine v_iload (pc := 54) dX3_doRaise_54 rfl ?_
        refine v_isub (pc := 56) dX3_doRaise_56 ?_
        refine v_eqi (pk_sub q1) ?_
        refine v_iret (pc := 57) dX3_doRaise_57 rfl ?_
        rw [← hcn]
        refine hR _ (md0_4 hm (fun _ => rfl) (fun _ => rfl) (fun _ _ => rfl) (fun z hz => rfl) (fun z hz => ?_) (fun r hr => rfl) ?_ ?_ (up_rai w3 _ _ _) ?_) (fun z z1 z2 z3 => ?_)
        · rw [mh_aJ_wJ, if_pos rfl, if_neg (by omega)]
        · rw [rai_len]; exact w1
        · rw [rai_len]; exact w2
        · rw [rai_len, ← hra]
          refine pl_congr (fun i hi' => rfl) (fun i hi' => ?_)
          rw [mh_aJ_wJ, if_pos rfl]
          by_cases c : lo ≤ i ∧ i < k
          · rw [if_pos (by omega), if_pos c]
          · rw [if_neg (by omega), if_neg c]
        · refine ⟨rfl, rfl, fun _ => rfl, fun _ => rfl, fun _ => rfl, fun j => rfl, fun j => ?_, fun _ => rfl⟩
          rw [mh_aJ_wJ, if_neg z2]
      · exact absurd ((nI_leI (by omega) (by omega)).mpr (by omega)) hb
    | succ m ih =>
      intro k hk hk2
      have q : mh_aJ (mh_wJ h va (fun z => if 2400 + lo ≤ z ∧ z < 2400 + k then mh_aJ h va z + y else mh_aJ h va z)) va (2400 + k) = mh_aJ h va (2400 + k) := by
        rw [mh_aJ_wJ, if_pos rfl, if_neg (by omega)]
      refine v_iload (pc := 24) dX3_doRaise_24 rfl ?_
      refine v_iload (pc := 26) dX3_doRaise_26 rfl ?_
      refine v_icmp_ge 52 (pc := 28) dX3_doRaise_28 (by decide) (fun hb => ?_) (fun hb => ?_)
      · have := (nI_leI (by omega) (by omega)).mp hb
        omega
      · refine v_aload_n (pc := 31) dX3_doRaise_31 rfl rfl ?_
        refine g_R 302 4 (pc := 32) fX3_13 dX3_doRaise_32 rfl rfl (by assumption) (by assumption) (by assumption) ?_
        refine v_sipush (pc := 35) (v := 2400) dX3_doRaise_35 (by decide) ?_
        refine v_iload (pc := 38) dX3_doRaise_38 rfl ?_
        refine v_iadd (pc := 40) dX3_doRaise_40 ?_
        refine v_eqi (ix_24 k) ?_
        refine v_dup2 (pc := 41) dX3_doRaise_41 rfl rfl ?_
        refine n_lald (2400 + k) _ (pc := 42) dX3_doRaise_42 (by assumption) (by assumption) rfl (by omega) (by decide) q ?_
        refine v_lload_n (pc := 43) dX3_doRaise_43 rfl rfl ?_
        refine v_ladd (pc := 44) dX3_doRaise_44 ?_
        refine n_last (2400 + k) _ (pc := 45) dX3_doRaise_45 (by assumption) (by assumption) rfl (by omega) (by decide) ?_
        refine v_iinc (pc := 46) dX3_doRaise_46 rfl (mv_inc _) rfl rfl (by decide) ?_
        refine v_goto 24 (pc := 49) dX3_doRaise_49 (by decide) ?_
        refine v_eqh ?_ (ih (k + 1) (by omega) (by omega))
        rw [mh_saJ_wJ]
        refine mh_wJ_congr (fun z => ?_)
        by_cases cz : z = 2400 + k
        · rw [if_pos cz, if_pos (by omega), cz]
        · rw [if_neg cz]
          by_cases c3 : 2400 + lo ≤ z ∧ z < 2400 + k
          · rw [if_pos c3, if_pos (by omega)]
          · rw [if_neg c3, if_neg (by omega)]
  refine v_eqh ?_ (loop (hi - lo) lo (by omega) (Nat.le_refl _))
  refine Eq.trans (mh_wJ_id h va).symm (mh_wJ_congr (fun z => ?_))
  rw [if_neg (by omega)]
end MDD
/-- what a message makes of a map; what it answers; whether it may come -/
def nowK (M : List En) (k a : Int32) (x : Int64) : Int64 := if k = 0 then x else if k = 1 then valK M a + x else mostK M a x
def doM (M : List En) (k a b : Int32) (x : Int64) : List En := if k = 3 then delK M a b else if k = 4 then raiK M a b x else putK M a (nowK M k a x)
def resM (M : List En) (k a b : Int32) (x : Int64) : Int64 := if k = 3 then (nI (cntK M a b)).toInt64 else if k = 4 then (nI (cntK M a b)).toInt64 else nowK M k a x
def okM (M : List En) (k a b : Int32) : Prop := (k = 3 → a ≤ b) ∧ (k = 4 → a ≤ b) ∧ (k ≠ 3 → k ≠ 4 → hasK M a = true ∨ M.length < 600)
theorem doM_up {M : List En} (hu : up M) (k a b : Int32) (x : Int64) : up (doM M k a b x) := by
  unfold doM
  split
  · exact up_del hu _ _
  · split
    · exact up_rai hu _ _ _
    · exact up_put hu _ _
section MDN
variable {G : mv_G} {d : Nat} {h : mh_T} {mo ka va za sa ki fi la aa : Nat} {V : Nat → List En} {r : Nat} {k a b : Int32} {y : Int64} {R : mv_O → mh_T → Prop}
set_option maxHeartbeats 4000000 in
set_option maxRecDepth 100000 in
theorem m_done (hm : md0 h mo ka va za sa ki fi la aa V) (hok : okM (V 4) k a b) (hR : ∀ h', md0 h' mo ka va za sa ki fi la aa (up1 V 4 (doM (V 4) k a b y)) → mF h h' ka va za → R (.inl (some (.long (resM (V 4) k a b y)))) h') : mv_V G jX3_done (d + 3) 0 [(0, .ref mo), (1, .int k), (2, .int a), (3, .int b), (4, .long y)] [] h 0 0 R := by
  obtain ⟨e1, _⟩ := id hm.1
  unfold doM resM at hR
  refine v_iload_n (pc := 0) dX3_done_0 rfl rfl ?_
  refine v_iconst (pc := 1) (v := 3) dX3_done_1 (by decide) ?_
  refine v_icmp_ne 13 (pc := 2) dX3_done_2 (by decide) (fun hb => ?_) (fun hb => ?_)
  · have c3 := hb
    rw [if_neg c3, if_neg c3] at hR
    refine v_iload_n (pc := 13) dX3_done_13 rfl rfl ?_
    refine v_iconst (pc := 14) (v := 4) dX3_done_14 (by decide) ?_
    refine v_icmp_ne 28 (pc := 15) dX3_done_15 (by decide) (fun hb => ?_) (fun hb => ?_)
    · have c4 := hb
      rw [if_neg c4, if_neg c4] at hR
      have last : ∀ lo', lo' = [(0, Value.ref mo), (1, .int k), (2, .int a), (3, .int b), (4, .long y), (6, .long (valK (V 4) a))] → mv_V G jX3_done (d + 3) 82 lo' [.long (nowK (V 4) k a y)] h 0 0 R := by
        intro lo' hlo
        subst hlo
        refine v_lstore (pc := 82) dX3_done_82 rfl rfl rfl (by decide) ?_
        refine v_aload_n (pc := 84) dX3_done_84 rfl rfl ?_
        refine v_iload_n (pc := 85) dX3_done_85 rfl rfl ?_
        refine v_lload (pc := 86) dX3_done_86 rfl ?_
        refine v_callV 0 0 (pc := 88) kX3_61 dX3_done_88 rfl (by assumption) (Nat.zero_le _) (Nat.zero_le _) (Nat.le_of_ble_eq_true rfl) (Nat.le_of_ble_eq_true rfl) ?_
        refine m_enter hm (hok.2.2 c3 c4) (fun h' u1 u2 => ?_)
        refine v_lload (pc := 91) dX3_done_91 rfl ?_
        refine v_lret (pc := 93) dX3_done_93 rfl ?_
        exact hR h' u1 u2
      refine v_aload_n (pc := 28) dX3_done_28 rfl rfl ?_
      refine v_iconst (pc := 29) (v := 4) dX3_done_29 (by decide) ?_
      refine v_iload_n (pc := 30) dX3_done_30 rfl rfl ?_
      refine v_callV 0 0 (pc := 31) kX3_57 dX3_done_31 rfl (by assumption) (Nat.zero_le _) (Nat.zero_le _) (Nat.le_of_ble_eq_true rfl) (Nat.le_of_ble_eq_true rfl) ?_
      refine m_valueIn (r := 4) hm (by omega) ?_
      refine v_lstore (pc := 34) dX3_done_34 rfl rfl rfl (by decide) ?_
      refine v_iload_n (pc := 36) dX3_done_36 rfl rfl ?_
      refine v_if_ne 45 (pc := 37) dX3_done_37 (by decide) (fun hb => ?_) (fun hb => ?_)
      · have c0 := hb
        refine v_iload_n (pc := 45) dX3_done_45 rfl rfl ?_
        refine v_iconst (pc := 46) (v := 1) dX3_done_46 (by decide) ?_
        refine v_icmp_ne 58 (pc := 47) dX3_done_47 (by decide) (fun hb => ?_) (fun hb => ?_)
        · have c1 := hb
          refine v_aload_n (pc := 58) dX3_done_58 rfl rfl ?_
          refine v_iconst (pc := 59) (v := 4) dX3_done_59 (by decide) ?_
          refine v_iload_n (pc := 60) dX3_done_60 rfl rfl ?_
          refine v_callV 0 0 (pc := 61) kX3_45 dX3_done_61 rfl (by assumption) (Nat.zero_le _) (Nat.zero_le _) (Nat.le_of_ble_eq_true rfl) (Nat.le_of_ble_eq_true rfl) ?_
          refine m_isIn (r := 4) hm (by omega) ?_
          by_cases ck : hasK (V 4) a = true
          · rw [if_pos ck]
            refine v_if_eq 80 (pc := 64) dX3_done_64 (by decide) (fun hb => ?_) (fun hb => ?_)
            · exact absurd hb (by decide)
            · refine v_lload (pc := 67) dX3_done_67 rfl ?_
              refine v_lload (pc := 69) dX3_done_69 rfl ?_
              refine v_lcmp (pc := 71) dX3_done_71 ?_
              refine v_if_le 80 (pc := 72) dX3_done_72 (by decide) (fun hb => ?_) (fun hb => ?_)
              · have c2 := lg_le0.mp hb
                refine v_lload (pc := 80) dX3_done_80 rfl ?_
                refine v_eql (y := nowK (V 4) k a y) ?_ (last _ rfl)
                unfold nowK mostK
                rw [if_neg c0, if_neg c1, if_neg (fun q => c2 q.2)]
              · have c2 : y < valK (V 4) a := by
                  by_cases z : y < valK (V 4) a
                  · exact z
                  · exact absurd (lg_le0.mpr z) hb
                refine v_lload (pc := 75) dX3_done_75 rfl ?_
                refine v_goto 82 (pc := 77) dX3_done_77 (by decide) ?_
                refine v_eql (y := nowK (V 4) k a y) ?_ (last _ rfl)
                unfold nowK mostK
                rw [if_neg c0, if_neg c1, if_pos ⟨ck, c2⟩]
          · rw [if_neg ck]
            refine v_if_eq 80 (pc := 64) dX3_done_64 (by decide) (fun hb => ?_) (fun hb => ?_)
            · refine v_lload (pc := 80) dX3_done_80 rfl ?_
              refine v_eql (y := nowK (V 4) k a y) ?_ (last _ rfl)
              unfold nowK mostK
              rw [if_neg c0, if_neg c1, if_neg (fun q => ck q.1)]
            · exact absurd rfl hb
        · have c1 := hb
          refine v_lload (pc := 50) dX3_done_50 rfl ?_
          refine v_lload (pc := 52) dX3_done_52 rfl ?_
          refine v_ladd (pc := 54) dX3_done_54 ?_
          refine v_goto 82 (pc := 55) dX3_done_55 (by decide) ?_
          refine v_eql (y := nowK (V 4) k a y) ?_ (last _ rfl)
          unfold nowK
          rw [if_neg c0, if_pos c1]
      · have c0 := hb
        refine v_lload (pc := 40) dX3_done_40 rfl ?_
        refine v_goto 82 (pc := 42) dX3_done_42 (by decide) ?_
        refine v_eql (y := nowK (V 4) k a y) ?_ (last _ rfl)
        unfold nowK
        rw [if_pos c0]
    · have c4 := hb
      rw [if_pos c4, if_pos c4] at hR
      refine v_aload_n (pc := 18) dX3_done_18 rfl rfl ?_
      refine v_iload_n (pc := 19) dX3_done_19 rfl rfl ?_
      refine v_iload_n (pc := 20) dX3_done_20 rfl rfl ?_
      refine v_lload (pc := 21) dX3_done_21 rfl ?_
      refine v_callV 0 0 (pc := 23) kX3_53 dX3_done_23 rfl (by assumption) (Nat.zero_le _) (Nat.zero_le _) (Nat.le_of_ble_eq_true rfl) (Nat.le_of_ble_eq_true rfl) ?_
      refine m_doRaise hm (hok.2.1 c4) (fun h' u1 u2 => ?_)
      refine v_i2l (pc := 26) dX3_done_26 ?_
      refine v_lret (pc := 27) dX3_done_27 rfl ?_
      exact hR h' u1 u2
  · have c3 := hb
    rw [if_pos c3, if_pos c3] at hR
    refine v_aload_n (pc := 5) dX3_done_5 rfl rfl ?_
    refine v_iload_n (pc := 6) dX3_done_6 rfl rfl ?_
    refine v_iload_n (pc := 7) dX3_done_7 rfl rfl ?_
    refine v_callV 0 0 (pc := 8) kX3_49 dX3_done_8 rfl (by assumption) (Nat.zero_le _) (Nat.zero_le _) (Nat.le_of_ble_eq_true rfl) (Nat.le_of_ble_eq_true rfl) ?_
    refine m_doDelete hm (hok.1 c3) (fun h' u1 u2 => ?_)
    refine v_i2l (pc := 11) dX3_done_11 ?_
    refine v_lret (pc := 12) dX3_done_12 rfl ?_
    exact hR h' u1 u2
end MDN
