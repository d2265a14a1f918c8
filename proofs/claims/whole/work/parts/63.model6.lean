/-! LazyPagesModel: the reads; save, drop, settle, sync, total, isSound. -/
theorem pn_max {K : Nat → Int32} {u : Nat} (hs : rsg K u) : pn K u 2147483647 = u := (pn_uniq hs (Nat.le_refl u) (fun _ _ => i32_max _) (fun q => by omega)).symm
section MDV
variable {G : mv_G} {d : Nat} {h : mh_T} {S : Nat → Prop} {mo ka va za sa ki fi la aa : Nat} {V : Nat → List En} {sv : Nat → Bool} {nm nk : Nat} {v v2 a b key : Int32} {y : Int64} {R : mv_O → mh_T → Prop}
theorem mrow_cnt {r : Nat} {L : List En} (hr : mrow h ka va za r L) (hab : a ≤ b) : nI (pn (fun i => mh_aI h ka (600 * r + i)) L.length b) - nI (pb (fun i => mh_aI h ka (600 * r + i)) L.length a) = nI (cntK L a b) := by
  have z := pl_cnt (V := fun i => mh_aJ h va (600 * r + i)) (w := 0) (mrow_rsg hr) hab
  rw [hr.2.2.2] at z
  rw [pk_sub (pb_le_pn (mrow_rsg hr) hab), z]
set_option maxHeartbeats 4000000 in
set_option maxRecDepth 100000 in
theorem m_rowOf (hm : md h S mo ka va za sa ki fi la aa V sv nm nk) (h1 : ∀ j, isR v sv j → R (.inl (some (.int (nI j)))) h) (h0 : (∀ j, ¬ isR v sv j) → R (.inl (some (.int (-1)))) h) : mv_V G jX3_rowOf d 0 [(0, .ref mo), (1, .int v)] [] h 0 0 R := by
  obtain ⟨⟨⟨e1, ⟨f1, f2, f3, f4, f5, f6, f7, f8⟩, ⟨n1, n2, n3, n4, n5, n6, n7, n8⟩, ⟨k1, k2, k3, k4, k5, k6, k7, k8⟩, ⟨l1, l2, l3, l4, l5, l6, l7, l8⟩, _⟩, hrows⟩, m2, m3, m4, m5, m6⟩ := id hm
  have fail : ¬ v = -1 → (∀ j, j < 4 → v = nI j → ¬ sv j = true) → ∀ j, ¬ isR v sv j := fun c1 c2 j hj => by
    rcases hj with ⟨z1, z2⟩ | ⟨z1, z2, z3⟩
    · exact c1 z1
    · exact c2 j z1 z2 z3
  refine v_iload_n (pc := 0) dX3_rowOf_0 rfl rfl ?_
  refine v_iconst (pc := 1) (v := (-1)) dX3_rowOf_1 (by decide) ?_
  refine v_icmp_ne 9 (pc := 2) dX3_rowOf_2 (by decide) (fun hb => ?_) (fun hb => ?_)
  · have c1 := hb
    refine v_iload_n (pc := 9) dX3_rowOf_9 rfl rfl ?_
    refine v_if_lt 31 (pc := 10) dX3_rowOf_10 (by decide) (fun hb => ?_) (fun hb => ?_)
    · have c2 := hb
      refine v_iconst (pc := 31) (v := (-1)) dX3_rowOf_31 (by decide) ?_
      refine v_iret (pc := 32) dX3_rowOf_32 rfl ?_
      exact h0 (fail c1 (fun j hj q => absurd (q ▸ c2) (nI_vw hj).1))
    · have c2 := hb
      refine v_iload_n (pc := 13) dX3_rowOf_13 rfl rfl ?_
      refine v_iconst (pc := 14) (v := 4) dX3_rowOf_14 (by decide) ?_
      refine v_icmp_ge 31 (pc := 15) dX3_rowOf_15 (by decide) (fun hb => ?_) (fun hb => ?_)
      · have c3 := hb
        refine v_iconst (pc := 31) (v := (-1)) dX3_rowOf_31 (by decide) ?_
        refine v_iret (pc := 32) dX3_rowOf_32 rfl ?_
        exact h0 (fail c1 (fun j hj q => absurd (nI_vw hj).2 (by rw [← q]; exact Int32.not_lt.mpr c3)))
      · obtain ⟨j, hj, q⟩ := vw_ix c2 (Int32.not_le.mp hb)
        subst q
        refine v_aload_n (pc := 18) dX3_rowOf_18 rfl rfl ?_
        refine g_R 304 4 (pc := 19) fX3_20 dX3_rowOf_19 rfl rfl (by assumption) (by assumption) (by assumption) ?_
        refine v_iload_n (pc := 22) dX3_rowOf_22 rfl rfl ?_
        refine n_zald (j) _ (pc := 23) dX3_rowOf_23 (by assumption) (by assumption) rfl (by omega) (by decide) (m3 j hj) ?_
        by_cases c : sv j = true
        · rw [if_pos c]
          refine v_if_eq 31 (pc := 24) dX3_rowOf_24 (by decide) (fun hb => ?_) (fun hb => ?_)
          · exact absurd hb (by decide)
          · refine v_iload_n (pc := 27) dX3_rowOf_27 rfl rfl ?_
            refine v_goto 32 (pc := 28) dX3_rowOf_28 (by decide) ?_
            refine v_iret (pc := 32) dX3_rowOf_32 rfl ?_
            exact h1 j (Or.inr ⟨hj, rfl, c⟩)
        · rw [if_neg c]
          refine v_if_eq 31 (pc := 24) dX3_rowOf_24 (by decide) (fun hb => ?_) (fun hb => ?_)
          · refine v_iconst (pc := 31) (v := (-1)) dX3_rowOf_31 (by decide) ?_
            refine v_iret (pc := 32) dX3_rowOf_32 rfl ?_
            refine h0 (fail c1 (fun i hi q => ?_))
            rw [← (nI_eq (by omega) (by omega)).mp q]
            exact c
          · exact absurd rfl hb
  · refine v_iconst (pc := 5) (v := 4) dX3_rowOf_5 (by decide) ?_
    refine v_goto 32 (pc := 6) dX3_rowOf_6 (by decide) ?_
    refine v_iret (pc := 32) dX3_rowOf_32 rfl ?_
    exact h1 4 (Or.inl ⟨hb, rfl⟩)
set_option maxHeartbeats 4000000 in
set_option maxRecDepth 100000 in
theorem w_has (hm : md h S mo ka va za sa ki fi la aa V sv nm nk) (h1 : ∀ j, isR v sv j → ∀ h', md h' S mo ka va za sa ki fi la aa V sv nm nk → SF S h h' → mh_fI h' 300 mo = 0 → R (.inl (some (.int (if hasK (V j) key = true then 1 else 0)))) h') (h0 : (∀ j, ¬ isR v sv j) → ∀ h', md h' S mo ka va za sa ki fi la aa V sv nm nk → SF S h h' → mh_fI h' 300 mo = 1 → R (.inl (some (.int 0))) h') : mv_V G jX3_has (d + 9) 0 [(0, .ref mo), (1, .int v), (2, .int key)] [] h 0 0 R := by
  have e1 := hm.1.1.1
  refine v_aload_n (pc := 0) dX3_has_0 rfl rfl ?_
  refine v_iload_n (pc := 1) dX3_has_1 rfl rfl ?_
  refine v_callV 0 0 (pc := 2) kX3_79 dX3_has_2 rfl (by assumption) (Nat.zero_le _) (Nat.zero_le _) (Nat.le_of_ble_eq_true rfl) (Nat.le_of_ble_eq_true rfl) ?_
  refine m_rowOf hm (fun j hj => ?_) (fun c => ?_)
  · have j5 := isR_lt hj
    refine v_istore_n (pc := 5) dX3_has_5 rfl rfl rfl (by decide) ?_
    refine v_aload_n (pc := 6) dX3_has_6 rfl rfl ?_
    refine v_iload_n (pc := 7) dX3_has_7 rfl rfl ?_
    refine v_if_ge 15 (pc := 8) dX3_has_8 (by decide) (fun hb => ?_) (fun hb => ?_)
    · refine v_iconst (pc := 15) (v := 0) dX3_has_15 (by decide) ?_
      refine p_I 300 4 (pc := 16) fX3_37 dX3_has_16 rfl rfl (by assumption) ?_
      obtain ⟨q1, q2, q3⟩ := md_thr (x := 0) hm
      generalize mh_sfI h 300 mo 0 = hc at *
      have e2 := q1.1.1.1
      have z := h1 j hj hc q1 q2 q3
      refine v_aload_n (pc := 19) dX3_has_19 rfl rfl ?_
      refine g_I 300 4 (pc := 20) fX3_37 dX3_has_20 rfl rfl (by assumption) (by assumption) ?_
      refine v_if_ne 39 (pc := 23) dX3_has_23 (by decide) (fun hb => ?_) (fun hb => ?_)
      · exact absurd rfl hb
      · refine v_aload_n (pc := 26) dX3_has_26 rfl rfl ?_
        refine v_iload_n (pc := 27) dX3_has_27 rfl rfl ?_
        refine v_iload_n (pc := 28) dX3_has_28 rfl rfl ?_
        refine v_callV 0 0 (pc := 29) kX3_45 dX3_has_29 rfl (by assumption) (Nat.zero_le _) (Nat.zero_le _) (Nat.le_of_ble_eq_true rfl) (Nat.le_of_ble_eq_true rfl) ?_
        refine m_isIn q1.1 j5 ?_
        by_cases c : hasK (V j) key = true
        · rw [if_pos c] at z ⊢
          refine v_if_eq 39 (pc := 32) dX3_has_32 (by decide) (fun hb => ?_) (fun hb => ?_)
          · exact absurd hb (by decide)
          · refine v_iconst (pc := 35) (v := 1) dX3_has_35 (by decide) ?_
            refine v_goto 40 (pc := 36) dX3_has_36 (by decide) ?_
            refine v_zret (pc := 40) dX3_has_40 rfl rfl ?_
            exact z
        · rw [if_neg c] at z ⊢
          refine v_if_eq 39 (pc := 32) dX3_has_32 (by decide) (fun hb => ?_) (fun hb => ?_)
          · refine v_iconst (pc := 39) (v := 0) dX3_has_39 (by decide) ?_
            refine v_zret (pc := 40) dX3_has_40 rfl rfl ?_
            exact z
          · exact absurd rfl hb
    · exact absurd ((nI_leI (a := 0) (by omega) (by omega)).mpr (Nat.zero_le j)) hb
  · refine v_istore_n (pc := 5) dX3_has_5 rfl rfl rfl (by decide) ?_
    refine v_aload_n (pc := 6) dX3_has_6 rfl rfl ?_
    refine v_iload_n (pc := 7) dX3_has_7 rfl rfl ?_
    refine v_if_ge 15 (pc := 8) dX3_has_8 (by decide) (fun hb => ?_) (fun hb => ?_)
    · exact absurd hb (by decide)
    · refine v_iconst (pc := 11) (v := 1) dX3_has_11 (by decide) ?_
      refine v_goto 16 (pc := 12) dX3_has_12 (by decide) ?_
      refine p_I 300 4 (pc := 16) fX3_37 dX3_has_16 rfl rfl (by assumption) ?_
      obtain ⟨q1, q2, q3⟩ := md_thr (x := 1) hm
      generalize mh_sfI h 300 mo 1 = hc at *
      have e2 := q1.1.1.1
      refine v_aload_n (pc := 19) dX3_has_19 rfl rfl ?_
      refine g_I 300 4 (pc := 20) fX3_37 dX3_has_20 rfl rfl (by assumption) (by assumption) ?_
      refine v_if_ne 39 (pc := 23) dX3_has_23 (by decide) (fun hb => ?_) (fun hb => ?_)
      · refine v_iconst (pc := 39) (v := 0) dX3_has_39 (by decide) ?_
        refine v_zret (pc := 40) dX3_has_40 rfl rfl ?_
        exact h0 c hc q1 q2 q3
      · exact absurd hb (by decide)
set_option maxHeartbeats 4000000 in
set_option maxRecDepth 100000 in
theorem w_get (hm : md h S mo ka va za sa ki fi la aa V sv nm nk) (h1 : ∀ j, isR v sv j → ∀ h', md h' S mo ka va za sa ki fi la aa V sv nm nk → SF S h h' → mh_fI h' 300 mo = 0 → R (.inl (some (.long (valK (V j) key)))) h') (h0 : (∀ j, ¬ isR v sv j) → ∀ h', md h' S mo ka va za sa ki fi la aa V sv nm nk → SF S h h' → mh_fI h' 300 mo = 1 → R (.inl (some (.long 0))) h') : mv_V G jX3_get (d + 9) 0 [(0, .ref mo), (1, .int v), (2, .int key)] [] h 0 0 R := by
  have e1 := hm.1.1.1
  refine v_aload_n (pc := 0) dX3_get_0 rfl rfl ?_
  refine v_iload_n (pc := 1) dX3_get_1 rfl rfl ?_
  refine v_callV 0 0 (pc := 2) kX3_79 dX3_get_2 rfl (by assumption) (Nat.zero_le _) (Nat.zero_le _) (Nat.le_of_ble_eq_true rfl) (Nat.le_of_ble_eq_true rfl) ?_
  refine m_rowOf hm (fun j hj => ?_) (fun c => ?_)
  · have j5 := isR_lt hj
    refine v_istore_n (pc := 5) dX3_get_5 rfl rfl rfl (by decide) ?_
    refine v_aload_n (pc := 6) dX3_get_6 rfl rfl ?_
    refine v_iload_n (pc := 7) dX3_get_7 rfl rfl ?_
    refine v_if_ge 15 (pc := 8) dX3_get_8 (by decide) (fun hb => ?_) (fun hb => ?_)
    · refine v_iconst (pc := 15) (v := 0) dX3_get_15 (by decide) ?_
      refine p_I 300 4 (pc := 16) fX3_37 dX3_get_16 rfl rfl (by assumption) ?_
      obtain ⟨q1, q2, q3⟩ := md_thr (x := 0) hm
      generalize mh_sfI h 300 mo 0 = hc at *
      have e2 := q1.1.1.1
      refine v_aload_n (pc := 19) dX3_get_19 rfl rfl ?_
      refine g_I 300 4 (pc := 20) fX3_37 dX3_get_20 rfl rfl (by assumption) (by assumption) ?_
      refine v_if_le 30 (pc := 23) dX3_get_23 (by decide) (fun hb => ?_) (fun hb => ?_)
      · refine v_aload_n (pc := 30) dX3_get_30 rfl rfl ?_
        refine v_iload_n (pc := 31) dX3_get_31 rfl rfl ?_
        refine v_iload_n (pc := 32) dX3_get_32 rfl rfl ?_
        refine v_callV 0 0 (pc := 33) kX3_57 dX3_get_33 rfl (by assumption) (Nat.zero_le _) (Nat.zero_le _) (Nat.le_of_ble_eq_true rfl) (Nat.le_of_ble_eq_true rfl) ?_
        refine m_valueIn q1.1 j5 ?_
        refine v_lret (pc := 36) dX3_get_36 rfl ?_
        exact h1 j hj hc q1 q2 q3
      · exact absurd (by decide) hb
    · exact absurd ((nI_leI (a := 0) (by omega) (by omega)).mpr (Nat.zero_le j)) hb
  · refine v_istore_n (pc := 5) dX3_get_5 rfl rfl rfl (by decide) ?_
    refine v_aload_n (pc := 6) dX3_get_6 rfl rfl ?_
    refine v_iload_n (pc := 7) dX3_get_7 rfl rfl ?_
    refine v_if_ge 15 (pc := 8) dX3_get_8 (by decide) (fun hb => ?_) (fun hb => ?_)
    · exact absurd hb (by decide)
    · refine v_iconst (pc := 11) (v := 1) dX3_get_11 (by decide) ?_
      refine v_goto 16 (pc := 12) dX3_get_12 (by decide) ?_
      refine p_I 300 4 (pc := 16) fX3_37 dX3_get_16 rfl rfl (by assumption) ?_
      obtain ⟨q1, q2, q3⟩ := md_thr (x := 1) hm
      generalize mh_sfI h 300 mo 1 = hc at *
      have e2 := q1.1.1.1
      refine v_aload_n (pc := 19) dX3_get_19 rfl rfl ?_
      refine g_I 300 4 (pc := 20) fX3_37 dX3_get_20 rfl rfl (by assumption) (by assumption) ?_
      refine v_if_le 30 (pc := 23) dX3_get_23 (by decide) (fun hb => ?_) (fun hb => ?_)
      · exact absurd hb (by decide)
      · refine v_lconst (pc := 26) (v := 0) dX3_get_26 (by decide) ?_
        refine v_goto 36 (pc := 27) dX3_get_27 (by decide) ?_
        refine v_lret (pc := 36) dX3_get_36 rfl ?_
        exact h0 c hc q1 q2 q3
set_option maxHeartbeats 4000000 in
set_option maxRecDepth 100000 in
theorem w_count (hm : md h S mo ka va za sa ki fi la aa V sv nm nk) (h1 : ∀ j, isR v sv j → a ≤ b → ∀ h', md h' S mo ka va za sa ki fi la aa V sv nm nk → SF S h h' → mh_fI h' 300 mo = 0 → R (.inl (some (.int (nI (cntK (V j) a b))))) h') (h0 : (∀ j, ¬ isR v sv j) → ∀ h', md h' S mo ka va za sa ki fi la aa V sv nm nk → SF S h h' → mh_fI h' 300 mo = 1 → R (.inl (some (.int 0))) h') (h2 : ∀ j, isR v sv j → ¬ a ≤ b → ∀ h', md h' S mo ka va za sa ki fi la aa V sv nm nk → SF S h h' → mh_fI h' 300 mo = 2 → R (.inl (some (.int 0))) h') : mv_V G jX3_count (d + 9) 0 [(0, .ref mo), (1, .int v), (2, .int a), (3, .int b)] [] h 0 0 R := by
  have e1 := hm.1.1.1
  refine v_aload_n (pc := 0) dX3_count_0 rfl rfl ?_
  refine v_iload_n (pc := 1) dX3_count_1 rfl rfl ?_
  refine v_callV 0 0 (pc := 2) kX3_79 dX3_count_2 rfl (by assumption) (Nat.zero_le _) (Nat.zero_le _) (Nat.le_of_ble_eq_true rfl) (Nat.le_of_ble_eq_true rfl) ?_
  refine m_rowOf hm (fun j hj => ?_) (fun c => ?_)
  · have j5 := isR_lt hj
    refine v_istore (pc := 5) dX3_count_5 rfl rfl (by decide) ?_
    refine v_aload_n (pc := 7) dX3_count_7 rfl rfl ?_
    refine v_iload (pc := 8) dX3_count_8 rfl ?_
    refine v_if_ge 17 (pc := 10) dX3_count_10 (by decide) (fun hb => ?_) (fun hb => ?_)
    · refine v_iload_n (pc := 17) dX3_count_17 rfl rfl ?_
      refine v_iload_n (pc := 18) dX3_count_18 rfl rfl ?_
      refine v_icmp_le 26 (pc := 19) dX3_count_19 (by decide) (fun hb => ?_) (fun hb => ?_)
      · have c := hb
        refine v_iconst (pc := 26) (v := 0) dX3_count_26 (by decide) ?_
        refine p_I 300 4 (pc := 27) fX3_37 dX3_count_27 rfl rfl (by assumption) ?_
        obtain ⟨q1, q2, q3⟩ := md_thr (x := 0) hm
        generalize mh_sfI h 300 mo 0 = hc at *
        have e2 := q1.1.1.1
        refine v_aload_n (pc := 30) dX3_count_30 rfl rfl ?_
        refine g_I 300 4 (pc := 31) fX3_37 dX3_count_31 rfl rfl (by assumption) (by assumption) ?_
        refine v_if_le 41 (pc := 34) dX3_count_34 (by decide) (fun hb => ?_) (fun hb => ?_)
        · refine v_aload_n (pc := 41) dX3_count_41 rfl rfl ?_
          refine v_iload (pc := 42) dX3_count_42 rfl ?_
          refine v_iload_n (pc := 44) dX3_count_44 rfl rfl ?_
          refine v_i2l (pc := 45) dX3_count_45 ?_
          refine v_lconst (pc := 46) (v := 1) dX3_count_46 (by decide) ?_
          refine v_ladd (pc := 47) dX3_count_47 ?_
          refine v_callV 0 0 (pc := 48) kX3_41 dX3_count_48 rfl (by assumption) (Nat.zero_le _) (Nat.zero_le _) (Nat.le_of_ble_eq_true rfl) (Nat.le_of_ble_eq_true rfl) ?_
          refine m_belowB q1.1 j5 ?_
          refine v_aload_n (pc := 51) dX3_count_51 rfl rfl ?_
          refine v_iload (pc := 52) dX3_count_52 rfl ?_
          refine v_iload_n (pc := 54) dX3_count_54 rfl rfl ?_
          refine v_i2l (pc := 55) dX3_count_55 ?_
          refine v_callV 0 0 (pc := 56) kX3_41 dX3_count_56 rfl (by assumption) (Nat.zero_le _) (Nat.zero_le _) (Nat.le_of_ble_eq_true rfl) (Nat.le_of_ble_eq_true rfl) ?_
          refine m_belowA q1.1 j5 ?_
          refine v_isub (pc := 59) dX3_count_59 ?_
          refine v_eqi (mrow_cnt (q1.1.2 j j5) c) ?_
          refine v_iret (pc := 60) dX3_count_60 rfl ?_
          exact h1 j hj c hc q1 q2 q3
        · exact absurd (by decide) hb
      · have c := hb
        refine v_iconst (pc := 22) (v := 2) dX3_count_22 (by decide) ?_
        refine v_goto 27 (pc := 23) dX3_count_23 (by decide) ?_
        refine p_I 300 4 (pc := 27) fX3_37 dX3_count_27 rfl rfl (by assumption) ?_
        obtain ⟨q1, q2, q3⟩ := md_thr (x := 2) hm
        generalize mh_sfI h 300 mo 2 = hc at *
        have e2 := q1.1.1.1
        refine v_aload_n (pc := 30) dX3_count_30 rfl rfl ?_
        refine g_I 300 4 (pc := 31) fX3_37 dX3_count_31 rfl rfl (by assumption) (by assumption) ?_
        refine v_if_le 41 (pc := 34) dX3_count_34 (by decide) (fun hb => ?_) (fun hb => ?_)
        · exact absurd hb (by decide)
        · refine v_iconst (pc := 37) (v := 0) dX3_count_37 (by decide) ?_
          refine v_goto 60 (pc := 38) dX3_count_38 (by decide) ?_
          refine v_iret (pc := 60) dX3_count_60 rfl ?_
          exact h2 j hj c hc q1 q2 q3
    · exact absurd ((nI_leI (a := 0) (by omega) (by omega)).mpr (Nat.zero_le j)) hb
  · refine v_istore (pc := 5) dX3_count_5 rfl rfl (by decide) ?_
    refine v_aload_n (pc := 7) dX3_count_7 rfl rfl ?_
    refine v_iload (pc := 8) dX3_count_8 rfl ?_
    refine v_if_ge 17 (pc := 10) dX3_count_10 (by decide) (fun hb => ?_) (fun hb => ?_)
    · exact absurd hb (by decide)
    · refine v_iconst (pc := 13) (v := 1) dX3_count_13 (by decide) ?_
      refine v_goto 27 (pc := 14) dX3_count_14 (by decide) ?_
      refine p_I 300 4 (pc := 27) fX3_37 dX3_count_27 rfl rfl (by assumption) ?_
      obtain ⟨q1, q2, q3⟩ := md_thr (x := 1) hm
      generalize mh_sfI h 300 mo 1 = hc at *
      have e2 := q1.1.1.1
      refine v_aload_n (pc := 30) dX3_count_30 rfl rfl ?_
      refine g_I 300 4 (pc := 31) fX3_37 dX3_count_31 rfl rfl (by assumption) (by assumption) ?_
      refine v_if_le 41 (pc := 34) dX3_count_34 (by decide) (fun hb => ?_) (fun hb => ?_)
      · exact absurd hb (by decide)
      · refine v_iconst (pc := 37) (v := 0) dX3_count_37 (by decide) ?_
        refine v_goto 60 (pc := 38) dX3_count_38 (by decide) ?_
        refine v_iret (pc := 60) dX3_count_60 rfl ?_
        exact h0 c hc q1 q2 q3
set_option maxHeartbeats 4000000 in
set_option maxRecDepth 100000 in
theorem w_sum (hm : md h S mo ka va za sa ki fi la aa V sv nm nk) (h1 : ∀ j, isR v sv j → a ≤ b → ∀ h', md h' S mo ka va za sa ki fi la aa V sv nm nk → SF S h h' → mh_fI h' 300 mo = 0 → R (.inl (some (.long (sumK ((V j).filter (kIn a b)))))) h') (h0 : (∀ j, ¬ isR v sv j) → ∀ h', md h' S mo ka va za sa ki fi la aa V sv nm nk → SF S h h' → mh_fI h' 300 mo = 1 → R (.inl (some (.long 0))) h') (h2 : ∀ j, isR v sv j → ¬ a ≤ b → ∀ h', md h' S mo ka va za sa ki fi la aa V sv nm nk → SF S h h' → mh_fI h' 300 mo = 2 → R (.inl (some (.long 0))) h') : mv_V G jX3_sum (d + 9) 0 [(0, .ref mo), (1, .int v), (2, .int a), (3, .int b)] [] h 0 0 R := by
  have e1 := hm.1.1.1
  refine v_aload_n (pc := 0) dX3_sum_0 rfl rfl ?_
  refine v_iload_n (pc := 1) dX3_sum_1 rfl rfl ?_
  refine v_callV 0 0 (pc := 2) kX3_79 dX3_sum_2 rfl (by assumption) (Nat.zero_le _) (Nat.zero_le _) (Nat.le_of_ble_eq_true rfl) (Nat.le_of_ble_eq_true rfl) ?_
  refine m_rowOf hm (fun j hj => ?_) (fun c => ?_)
  · have j5 := isR_lt hj
    refine v_istore (pc := 5) dX3_sum_5 rfl rfl (by decide) ?_
    refine v_aload_n (pc := 7) dX3_sum_7 rfl rfl ?_
    refine v_iload (pc := 8) dX3_sum_8 rfl ?_
    refine v_if_ge 17 (pc := 10) dX3_sum_10 (by decide) (fun hb => ?_) (fun hb => ?_)
    · refine v_iload_n (pc := 17) dX3_sum_17 rfl rfl ?_
      refine v_iload_n (pc := 18) dX3_sum_18 rfl rfl ?_
      refine v_icmp_le 26 (pc := 19) dX3_sum_19 (by decide) (fun hb => ?_) (fun hb => ?_)
      · have c := hb
        refine v_iconst (pc := 26) (v := 0) dX3_sum_26 (by decide) ?_
        refine p_I 300 4 (pc := 27) fX3_37 dX3_sum_27 rfl rfl (by assumption) ?_
        obtain ⟨q1, q2, q3⟩ := md_thr (x := 0) hm
        generalize mh_sfI h 300 mo 0 = hc at *
        have fin := h1 j hj c hc q1 q2 q3
        obtain ⟨⟨⟨e2, ⟨f1, f2, f3, f4, f5, f6, f7, f8⟩, ⟨n1, n2, n3, n4, n5, n6, n7, n8⟩, ⟨k1, k2, k3, k4, k5, k6, k7, k8⟩, ⟨l1, l2, l3, l4, l5, l6, l7, l8⟩, _⟩, hrows⟩, _⟩ := id q1
        have hw := hrows j j5
        obtain ⟨w1, w2, w3, w4⟩ := id hw
        have loop : ∀ m i, i + m = (V j).length → mv_V G jX3_sum (d + 9) 36 [(0, .ref mo), (1, .int v), (2, .int a), (3, .int b), (4, .int (nI j)), (5, .long (sumK (((V j).take i).filter (kIn a b)))), (7, .int (nI i))] [] hc 0 0 R := by
          intro m
          induction m with
          | zero =>
            intro i hi
            refine v_aload_n (pc := 36) dX3_sum_36 rfl rfl ?_
            refine g_I 300 4 (pc := 37) fX3_37 dX3_sum_37 rfl rfl (by assumption) (by assumption) ?_
            refine v_if_ne 113 (pc := 40) dX3_sum_40 (by decide) (fun hb => ?_) (fun hb => ?_)
            · exact absurd rfl hb
            · refine v_iload (pc := 43) dX3_sum_43 rfl ?_
              refine v_aload_n (pc := 45) dX3_sum_45 rfl rfl ?_
              refine g_R 303 4 (pc := 46) fX3_17 dX3_sum_46 rfl rfl (by assumption) (by assumption) (by assumption) ?_
              refine v_iload (pc := 49) dX3_sum_49 rfl ?_
              refine n_iald (j) _ (pc := 51) dX3_sum_51 (by assumption) (by assumption) rfl (by omega) (by decide) w1 ?_
              refine v_icmp_ge 113 (pc := 52) dX3_sum_52 (by decide) (fun hb => ?_) (fun hb => ?_)
              · rw [List.take_of_length_le (show (V j).length ≤ i by omega)]
                refine v_lload (pc := 113) dX3_sum_113 rfl ?_
                refine v_lret (pc := 115) dX3_sum_115 rfl ?_
                exact fin
              · exact absurd ((nI_leI (by omega) (by omega)).mpr (by omega)) hb
          | succ m ih =>
            intro i hi
            have hil : i < (V j).length := by omega
            have hget : (V j)[i]? = some (V j)[i] := List.getElem?_eq_getElem hil
            obtain ⟨g1, g2⟩ := mrow_get hw hget
            have nx := ih (i + 1) (by omega)
            have ht : (V j).take (i + 1) = (V j).take i ++ [(V j)[i]] := by
              rw [List.take_succ, hget]; rfl
            rw [ht, List.filter_append, sumK_app] at nx
            generalize (V j)[i] = e at *
            have no : kIn a b e = false → mv_V G jX3_sum (d + 9) 103 [(0, .ref mo), (1, .int v), (2, .int a), (3, .int b), (4, .int (nI j)), (5, .long (sumK (((V j).take i).filter (kIn a b)))), (7, .int (nI i)), (8, .int e.1)] [] hc 0 0 R := by
              intro hk
              have z : sumK (((V j).take i).filter (kIn a b)) + sumK ([e].filter (kIn a b)) = sumK (((V j).take i).filter (kIn a b)) := by
                rw [List.filter_cons, hk]
                show _ + 0 = _
                exact Int64.add_zero _
              rw [z] at nx
              refine v_lload (pc := 103) dX3_sum_103 rfl ?_
              refine v_lstore (pc := 105) dX3_sum_105 rfl rfl rfl (by decide) ?_
              refine v_iinc (pc := 107) dX3_sum_107 rfl (mv_inc _) rfl rfl (by decide) ?_
              refine v_goto 36 (pc := 110) dX3_sum_110 (by decide) ?_
              refine v_loc [0, 1, 2, 3, 4, 5, 6] rfl ?_
              exact nx
            refine v_aload_n (pc := 36) dX3_sum_36 rfl rfl ?_
            refine g_I 300 4 (pc := 37) fX3_37 dX3_sum_37 rfl rfl (by assumption) (by assumption) ?_
            refine v_if_ne 113 (pc := 40) dX3_sum_40 (by decide) (fun hb => ?_) (fun hb => ?_)
            · exact absurd rfl hb
            · refine v_iload (pc := 43) dX3_sum_43 rfl ?_
              refine v_aload_n (pc := 45) dX3_sum_45 rfl rfl ?_
              refine g_R 303 4 (pc := 46) fX3_17 dX3_sum_46 rfl rfl (by assumption) (by assumption) (by assumption) ?_
              refine v_iload (pc := 49) dX3_sum_49 rfl ?_
              refine n_iald (j) _ (pc := 51) dX3_sum_51 (by assumption) (by assumption) rfl (by omega) (by decide) w1 ?_
              refine v_icmp_ge 113 (pc := 52) dX3_sum_52 (by decide) (fun hb => ?_) (fun hb => ?_)
              · have := (nI_leI (by omega) (by omega)).mp hb
                omega
              · refine v_aload_n (pc := 55) dX3_sum_55 rfl rfl ?_
                refine g_R 301 4 (pc := 56) fX3_7 dX3_sum_56 rfl rfl (by assumption) (by assumption) (by assumption) ?_
                refine v_sipush (pc := 59) (v := 600) dX3_sum_59 (by decide) ?_
                refine v_iload (pc := 62) dX3_sum_62 rfl ?_
                refine v_imul (pc := 64) dX3_sum_64 ?_
                refine v_iload (pc := 65) dX3_sum_65 rfl ?_
                refine v_iadd (pc := 67) dX3_sum_67 ?_
                refine v_eqi (mx_ix j i) ?_
                refine n_iald (600 * j + i) _ (pc := 68) dX3_sum_68 (by assumption) (by assumption) rfl (by omega) (by decide) g1 ?_
                refine v_istore (pc := 69) dX3_sum_69 rfl rfl (by decide) ?_
                refine v_iload (pc := 71) dX3_sum_71 rfl ?_
                refine v_iload_n (pc := 73) dX3_sum_73 rfl rfl ?_
                refine v_icmp_lt 103 (pc := 74) dX3_sum_74 (by decide) (fun hb => ?_) (fun hb => ?_)
                · exact no (kIn_no (Or.inl hb))
                · have c1 := Int32.not_lt.mp hb
                  refine v_iload (pc := 77) dX3_sum_77 rfl ?_
                  refine v_iload_n (pc := 79) dX3_sum_79 rfl rfl ?_
                  refine v_icmp_gt 103 (pc := 80) dX3_sum_80 (by decide) (fun hb => ?_) (fun hb => ?_)
                  · exact no (kIn_no (Or.inr hb))
                  · have c2 := Int32.not_lt.mp hb
                    have hk : kIn a b e = true := by simp [kIn, c1, c2]
                    have z : sumK ([e].filter (kIn a b)) = e.2 := by
                      rw [List.filter_cons, hk]
                      show 0 + e.2 = _
                      exact Int64.zero_add _
                    rw [z] at nx
                    refine v_lload (pc := 83) dX3_sum_83 rfl ?_
                    refine v_aload_n (pc := 85) dX3_sum_85 rfl rfl ?_
                    refine g_R 302 4 (pc := 86) fX3_13 dX3_sum_86 rfl rfl (by assumption) (by assumption) (by assumption) ?_
                    refine v_sipush (pc := 89) (v := 600) dX3_sum_89 (by decide) ?_
                    refine v_iload (pc := 92) dX3_sum_92 rfl ?_
                    refine v_imul (pc := 94) dX3_sum_94 ?_
                    refine v_iload (pc := 95) dX3_sum_95 rfl ?_
                    refine v_iadd (pc := 97) dX3_sum_97 ?_
                    refine v_eqi (mx_ix j i) ?_
                    refine n_lald (600 * j + i) _ (pc := 98) dX3_sum_98 (by assumption) (by assumption) rfl (by omega) (by decide) g2 ?_
                    refine v_ladd (pc := 99) dX3_sum_99 ?_
                    refine v_goto 105 (pc := 100) dX3_sum_100 (by decide) ?_
                    refine v_lstore (pc := 105) dX3_sum_105 rfl rfl rfl (by decide) ?_
                    refine v_iinc (pc := 107) dX3_sum_107 rfl (mv_inc _) rfl rfl (by decide) ?_
                    refine v_goto 36 (pc := 110) dX3_sum_110 (by decide) ?_
                    refine v_loc [0, 1, 2, 3, 4, 5, 6] rfl ?_
                    exact nx
        refine v_lconst (pc := 30) (v := 0) dX3_sum_30 (by decide) ?_
        refine v_lstore (pc := 31) dX3_sum_31 rfl rfl rfl (by decide) ?_
        refine v_iconst (pc := 33) (v := 0) dX3_sum_33 (by decide) ?_
        refine v_istore (pc := 34) dX3_sum_34 rfl rfl (by decide) ?_
        exact loop (V j).length 0 (by omega)
      · have c := hb
        refine v_iconst (pc := 22) (v := 2) dX3_sum_22 (by decide) ?_
        refine v_goto 27 (pc := 23) dX3_sum_23 (by decide) ?_
        refine p_I 300 4 (pc := 27) fX3_37 dX3_sum_27 rfl rfl (by assumption) ?_
        obtain ⟨q1, q2, q3⟩ := md_thr (x := 2) hm
        generalize mh_sfI h 300 mo 2 = hc at *
        have e2 := q1.1.1.1
        refine v_lconst (pc := 30) (v := 0) dX3_sum_30 (by decide) ?_
        refine v_lstore (pc := 31) dX3_sum_31 rfl rfl rfl (by decide) ?_
        refine v_iconst (pc := 33) (v := 0) dX3_sum_33 (by decide) ?_
        refine v_istore (pc := 34) dX3_sum_34 rfl rfl (by decide) ?_
        refine v_aload_n (pc := 36) dX3_sum_36 rfl rfl ?_
        refine g_I 300 4 (pc := 37) fX3_37 dX3_sum_37 rfl rfl (by assumption) (by assumption) ?_
        refine v_if_ne 113 (pc := 40) dX3_sum_40 (by decide) (fun hb => ?_) (fun hb => ?_)
        · refine v_lload (pc := 113) dX3_sum_113 rfl ?_
          refine v_lret (pc := 115) dX3_sum_115 rfl ?_
          exact h2 j hj c hc q1 q2 q3
        · exact absurd hb (by decide)
    · exact absurd ((nI_leI (a := 0) (by omega) (by omega)).mpr (Nat.zero_le j)) hb
  · refine v_istore (pc := 5) dX3_sum_5 rfl rfl (by decide) ?_
    refine v_aload_n (pc := 7) dX3_sum_7 rfl rfl ?_
    refine v_iload (pc := 8) dX3_sum_8 rfl ?_
    refine v_if_ge 17 (pc := 10) dX3_sum_10 (by decide) (fun hb => ?_) (fun hb => ?_)
    · exact absurd hb (by decide)
    · refine v_iconst (pc := 13) (v := 1) dX3_sum_13 (by decide) ?_
      refine v_goto 27 (pc := 14) dX3_sum_14 (by decide) ?_
      refine p_I 300 4 (pc := 27) fX3_37 dX3_sum_27 rfl rfl (by assumption) ?_
      obtain ⟨q1, q2, q3⟩ := md_thr (x := 1) hm
      generalize mh_sfI h 300 mo 1 = hc at *
      have e2 := q1.1.1.1
      refine v_lconst (pc := 30) (v := 0) dX3_sum_30 (by decide) ?_
      refine v_lstore (pc := 31) dX3_sum_31 rfl rfl rfl (by decide) ?_
      refine v_iconst (pc := 33) (v := 0) dX3_sum_33 (by decide) ?_
      refine v_istore (pc := 34) dX3_sum_34 rfl rfl (by decide) ?_
      refine v_aload_n (pc := 36) dX3_sum_36 rfl rfl ?_
      refine g_I 300 4 (pc := 37) fX3_37 dX3_sum_37 rfl rfl (by assumption) (by assumption) ?_
      refine v_if_ne 113 (pc := 40) dX3_sum_40 (by decide) (fun hb => ?_) (fun hb => ?_)
      · refine v_lload (pc := 113) dX3_sum_113 rfl ?_
        refine v_lret (pc := 115) dX3_sum_115 rfl ?_
        exact h0 c hc q1 q2 q3
      · exact absurd hb (by decide)
set_option maxHeartbeats 4000000 in
set_option maxRecDepth 100000 in
theorem w_key (hm : md h S mo ka va za sa ki fi la aa V sv nm nk) (h1 : ∀ j k e, isR v sv j → k < cntK (V j) a 2147483647 → b = nI k → (V j)[(V j).length - cntK (V j) a 2147483647 + k]? = some e → ∀ h', md h' S mo ka va za sa ki fi la aa V sv nm nk → SF S h h' → mh_fI h' 300 mo = 0 → R (.inl (some (.int e.1))) h') (h0 : (∀ j, ¬ isR v sv j) → ∀ h', md h' S mo ka va za sa ki fi la aa V sv nm nk → SF S h h' → mh_fI h' 300 mo = 1 → R (.inl (some (.int 0))) h') (h2 : ∀ j, isR v sv j → (∀ k, k < cntK (V j) a 2147483647 → b ≠ nI k) → ∀ h', md h' S mo ka va za sa ki fi la aa V sv nm nk → SF S h h' → mh_fI h' 300 mo = 2 → R (.inl (some (.int 0))) h') : mv_V G jX3_key (d + 9) 0 [(0, .ref mo), (1, .int v), (2, .int a), (3, .int b)] [] h 0 0 R := by
  have e1 := hm.1.1.1
  refine v_aload_n (pc := 0) dX3_key_0 rfl rfl ?_
  refine v_iload_n (pc := 1) dX3_key_1 rfl rfl ?_
  refine v_callV 0 0 (pc := 2) kX3_79 dX3_key_2 rfl (by assumption) (Nat.zero_le _) (Nat.zero_le _) (Nat.le_of_ble_eq_true rfl) (Nat.le_of_ble_eq_true rfl) ?_
  refine m_rowOf hm (fun j hj => ?_) (fun c => ?_)
  · have j5 := isR_lt hj
    obtain ⟨⟨⟨_, ⟨f1, f2, f3, f4, f5, f6, f7, f8⟩, ⟨n1, n2, n3, n4, n5, n6, n7, n8⟩, ⟨k1, k2, k3, k4, k5, k6, k7, k8⟩, ⟨l1, l2, l3, l4, l5, l6, l7, l8⟩, _⟩, hrows⟩, _⟩ := id hm
    have hw := hrows j j5
    obtain ⟨w1, w2, w3, w4⟩ := id hw
    have hcn := pl_cnt (V := fun i => mh_aJ h va (600 * j + i)) (w := 0) (mrow_rsg hw) (i32_max a)
    rw [w4, pn_max (mrow_rsg hw)] at hcn
    have hpl := pb_le (fun i => mh_aI h ka (600 * j + i)) (V j).length a
    have fail : (∀ k, k < cntK (V j) a 2147483647 → b ≠ nI k) → mv_V G jX3_key (d + 9) 41 [(0, .ref mo), (1, .int v), (2, .int a), (3, .int b), (4, .int (nI j))] [.ref mo] h 0 0 R := by
      intro hno
      refine v_iconst (pc := 41) (v := 2) dX3_key_41 (by decide) ?_
      refine v_goto 46 (pc := 42) dX3_key_42 (by decide) ?_
      refine p_I 300 4 (pc := 46) fX3_37 dX3_key_46 rfl rfl (by assumption) ?_
      obtain ⟨q1, q2, q3⟩ := md_thr (x := 2) hm
      generalize mh_sfI h 300 mo 2 = hc at *
      have e2 := q1.1.1.1
      refine v_aload_n (pc := 49) dX3_key_49 rfl rfl ?_
      refine g_I 300 4 (pc := 50) fX3_37 dX3_key_50 rfl rfl (by assumption) (by assumption) ?_
      refine v_if_le 60 (pc := 53) dX3_key_53 (by decide) (fun hb => ?_) (fun hb => ?_)
      · exact absurd hb (by decide)
      · refine v_iconst (pc := 56) (v := 0) dX3_key_56 (by decide) ?_
        refine v_goto 82 (pc := 57) dX3_key_57 (by decide) ?_
        refine v_iret (pc := 82) dX3_key_82 rfl ?_
        exact h2 j hj hno hc q1 q2 q3
    refine v_istore (pc := 5) dX3_key_5 rfl rfl (by decide) ?_
    refine v_aload_n (pc := 7) dX3_key_7 rfl rfl ?_
    refine v_iload (pc := 8) dX3_key_8 rfl ?_
    refine v_if_ge 17 (pc := 10) dX3_key_10 (by decide) (fun hb => ?_) (fun hb => ?_)
    · refine v_iload_n (pc := 17) dX3_key_17 rfl rfl ?_
      refine v_if_lt 41 (pc := 18) dX3_key_18 (by decide) (fun hb => ?_) (fun hb => ?_)
      · exact fail (fun k hk q => nI_ge0 (by omega) (q ▸ hb))
      · have hb1 := hb
        refine v_iload_n (pc := 21) dX3_key_21 rfl rfl ?_
        refine v_aload_n (pc := 22) dX3_key_22 rfl rfl ?_
        refine g_R 303 4 (pc := 23) fX3_17 dX3_key_23 rfl rfl (by assumption) (by assumption) (by assumption) ?_
        refine v_iload (pc := 26) dX3_key_26 rfl ?_
        refine n_iald (j) _ (pc := 28) dX3_key_28 (by assumption) (by assumption) rfl (by omega) (by decide) w1 ?_
        refine v_aload_n (pc := 29) dX3_key_29 rfl rfl ?_
        refine v_iload (pc := 30) dX3_key_30 rfl ?_
        refine v_iload_n (pc := 32) dX3_key_32 rfl rfl ?_
        refine v_i2l (pc := 33) dX3_key_33 ?_
        refine v_callV 0 0 (pc := 34) kX3_41 dX3_key_34 rfl (by assumption) (Nat.zero_le _) (Nat.zero_le _) (Nat.le_of_ble_eq_true rfl) (Nat.le_of_ble_eq_true rfl) ?_
        refine m_belowA hm.1 j5 ?_
        refine v_isub (pc := 37) dX3_key_37 ?_
        refine v_eqi (y := nI (cntK (V j) a 2147483647)) (by rw [hcn]; exact pk_sub hpl) ?_
        refine v_icmp_lt 45 (pc := 38) dX3_key_38 (by decide) (fun hb => ?_) (fun hb => ?_)
        · obtain ⟨k, hk, q⟩ := i32_ix hb1 hb (by omega)
          refine v_iconst (pc := 45) (v := 0) dX3_key_45 (by decide) ?_
          refine p_I 300 4 (pc := 46) fX3_37 dX3_key_46 rfl rfl (by assumption) ?_
          obtain ⟨q1, q2, q3⟩ := md_thr (x := 0) hm
          have hpb : pb (fun i => mh_aI (mh_sfI h 300 mo 0) ka (600 * j + i)) (V j).length a = pb (fun i => mh_aI h ka (600 * j + i)) (V j).length a := rfl
          generalize mh_sfI h 300 mo 0 = hc at *
          obtain ⟨⟨⟨e2, ⟨f1', _⟩, _, ⟨k1', _⟩, ⟨l1', _⟩, _⟩, hrows'⟩, _⟩ := id q1
          have hil : (V j).length - cntK (V j) a 2147483647 + k < (V j).length := by omega
          have hget := List.getElem?_eq_getElem hil
          have hg := (mrow_get (hrows' j j5) hget).1
          have hp0 : (V j).length - cntK (V j) a 2147483647 = pb (fun i => mh_aI h ka (600 * j + i)) (V j).length a := by omega
          refine v_aload_n (pc := 49) dX3_key_49 rfl rfl ?_
          refine g_I 300 4 (pc := 50) fX3_37 dX3_key_50 rfl rfl (by assumption) (by assumption) ?_
          refine v_if_le 60 (pc := 53) dX3_key_53 (by decide) (fun hb => ?_) (fun hb => ?_)
          · refine v_aload_n (pc := 60) dX3_key_60 rfl rfl ?_
            refine g_R 301 4 (pc := 61) fX3_7 dX3_key_61 rfl rfl (by assumption) (by assumption) (by assumption) ?_
            refine v_sipush (pc := 64) (v := 600) dX3_key_64 (by decide) ?_
            refine v_iload (pc := 67) dX3_key_67 rfl ?_
            refine v_imul (pc := 69) dX3_key_69 ?_
            refine v_aload_n (pc := 70) dX3_key_70 rfl rfl ?_
            refine v_iload (pc := 71) dX3_key_71 rfl ?_
            refine v_iload_n (pc := 73) dX3_key_73 rfl rfl ?_
            refine v_i2l (pc := 74) dX3_key_74 ?_
            refine v_callV 0 0 (pc := 75) kX3_41 dX3_key_75 rfl (by assumption) (Nat.zero_le _) (Nat.zero_le _) (Nat.le_of_ble_eq_true rfl) (Nat.le_of_ble_eq_true rfl) ?_
            refine m_belowA q1.1 j5 ?_
            rw [hpb, ← hp0]
            refine v_iadd (pc := 78) dX3_key_78 ?_
            refine v_eqi (mx_ix j _) ?_
            rw [q]
            refine v_iload_n (pc := 79) dX3_key_79 rfl rfl ?_
            refine v_iadd (pc := 80) dX3_key_80 ?_
            refine v_eqi (y := nI (600 * j + ((V j).length - cntK (V j) a 2147483647 + k))) (by rw [nI_add, Nat.add_assoc]) ?_
            refine n_iald (600 * j + ((V j).length - cntK (V j) a 2147483647 + k)) _ (pc := 81) dX3_key_81 (by assumption) (by assumption) rfl (by omega) (by decide) hg ?_
            refine v_iret (pc := 82) dX3_key_82 rfl ?_
            exact h1 j k _ hj hk q hget hc q1 q2 q3
          · exact absurd (by decide) hb
        · exact fail (fun k hk q => hb (q ▸ (nI_ltI (by omega) (by omega)).mpr hk))
    · exact absurd ((nI_leI (a := 0) (by omega) (by omega)).mpr (Nat.zero_le j)) hb
  · refine v_istore (pc := 5) dX3_key_5 rfl rfl (by decide) ?_
    refine v_aload_n (pc := 7) dX3_key_7 rfl rfl ?_
    refine v_iload (pc := 8) dX3_key_8 rfl ?_
    refine v_if_ge 17 (pc := 10) dX3_key_10 (by decide) (fun hb => ?_) (fun hb => ?_)
    · exact absurd hb (by decide)
    · refine v_iconst (pc := 13) (v := 1) dX3_key_13 (by decide) ?_
      refine v_goto 46 (pc := 14) dX3_key_14 (by decide) ?_
      refine p_I 300 4 (pc := 46) fX3_37 dX3_key_46 rfl rfl (by assumption) ?_
      obtain ⟨q1, q2, q3⟩ := md_thr (x := 1) hm
      generalize mh_sfI h 300 mo 1 = hc at *
      have e2 := q1.1.1.1
      refine v_aload_n (pc := 49) dX3_key_49 rfl rfl ?_
      refine g_I 300 4 (pc := 50) fX3_37 dX3_key_50 rfl rfl (by assumption) (by assumption) ?_
      refine v_if_le 60 (pc := 53) dX3_key_53 (by decide) (fun hb => ?_) (fun hb => ?_)
      · exact absurd hb (by decide)
      · refine v_iconst (pc := 56) (v := 0) dX3_key_56 (by decide) ?_
        refine v_goto 82 (pc := 57) dX3_key_57 (by decide) ?_
        refine v_iret (pc := 82) dX3_key_82 rfl ?_
        exact h0 c hc q1 q2 q3
end MDV
