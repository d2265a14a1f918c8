/-! LazyPagesModel: put, add, most, delete, raise, putAll. -/
section MDO
variable {G : mv_G} {d : Nat} {h : mh_T} {S : Nat → Prop} {mo ka va za sa ki fi la aa : Nat} {V : Nat → List En} {sv : Nat → Bool} {nm nk : Nat} {a b key : Int32} {y : Int64} {R : mv_O → mh_T → Prop}
set_option maxHeartbeats 4000000 in
set_option maxRecDepth 100000 in
theorem w_put (hm : md h S mo ka va za sa ki fi la aa V sv nm nk) (h1 : okA nm (V 4) key → ∀ h', md h' S mo ka va za sa ki fi la aa (up1 V 4 (putK (V 4) key y)) sv (nm + 1) nk → SF S h h' → mh_fI h' 300 mo = 0 → R (.inl (some (.int (nI (nm + 1))))) h') (h0 : ¬ okA nm (V 4) key → ∀ h', md h' S mo ka va za sa ki fi la aa V sv nm nk → SF S h h' → mh_fI h' 300 mo = 1 → R (.inl (some (.int 0))) h') : mv_V G jX3_put (d + 9) 0 [(0, .ref mo), (1, .int key), (2, .long y)] [] h 0 0 R := by
  have e1 := hm.1.1.1
  refine v_aload_n (pc := 0) dX3_put_0 rfl rfl ?_
  refine v_aload_n (pc := 1) dX3_put_1 rfl rfl ?_
  refine v_iload_n (pc := 2) dX3_put_2 rfl rfl ?_
  refine v_callV 0 0 (pc := 3) kX3_72 dX3_put_3 rfl (by assumption) (Nat.zero_le _) (Nat.zero_le _) (Nat.le_of_ble_eq_true rfl) (Nat.le_of_ble_eq_true rfl) ?_
  refine m_refused hm (fun c => ?_) (fun c => ?_)
  · refine v_if_eq 13 (pc := 6) dX3_put_6 (by decide) (fun hb => ?_) (fun hb => ?_)
    · refine v_iconst (pc := 13) (v := 0) dX3_put_13 (by decide) ?_
      refine p_I 300 4 (pc := 14) fX3_37 dX3_put_14 rfl rfl (by assumption) ?_
      obtain ⟨q1, q2, q3⟩ := md_thr (x := 0) hm
      generalize mh_sfI h 300 mo 0 = hc at *
      have e2 := q1.1.1.1
      refine v_aload_n (pc := 17) dX3_put_17 rfl rfl ?_
      refine g_I 300 4 (pc := 18) fX3_37 dX3_put_18 rfl rfl (by assumption) (by assumption) ?_
      refine v_if_le 26 (pc := 21) dX3_put_21 (by decide) (fun hb => ?_) (fun hb => ?_)
      · refine v_aload_n (pc := 26) dX3_put_26 rfl rfl ?_
        refine v_iconst (pc := 27) (v := 0) dX3_put_27 (by decide) ?_
        refine v_iload_n (pc := 28) dX3_put_28 rfl rfl ?_
        refine v_iload_n (pc := 29) dX3_put_29 rfl rfl ?_
        refine v_lload_n (pc := 30) dX3_put_30 rfl rfl ?_
        refine v_callV 0 0 (pc := 31) kX3_76 dX3_put_31 rfl (by assumption) (Nat.zero_le _) (Nat.zero_le _) (Nat.le_of_ble_eq_true rfl) (Nat.le_of_ble_eq_true rfl) ?_
        refine m_message q1 c.1 (by decide) (okM_p c (by decide) (by decide)) (fun h' u1 u2 u3 => ?_)
        rw [doM_0] at u1
        have e3 := u1.1.1.1
        have e4 := u1.2.2.2.1
        refine v_pop2 (pc := 34) dX3_put_34 rfl ?_
        refine v_aload_n (pc := 35) dX3_put_35 rfl rfl ?_
        refine g_I 309 4 (pc := 36) fX3_65 dX3_put_36 rfl rfl (by assumption) (by assumption) ?_
        refine v_iret (pc := 39) dX3_put_39 rfl ?_
        exact h1 c h' u1 (SF_tr q2 u2) (u3.trans q3)
      · exact absurd (by decide) hb
    · exact absurd rfl hb
  · refine v_if_eq 13 (pc := 6) dX3_put_6 (by decide) (fun hb => ?_) (fun hb => ?_)
    · exact absurd hb (by decide)
    · refine v_iconst (pc := 9) (v := 1) dX3_put_9 (by decide) ?_
      refine v_goto 14 (pc := 10) dX3_put_10 (by decide) ?_
      refine p_I 300 4 (pc := 14) fX3_37 dX3_put_14 rfl rfl (by assumption) ?_
      obtain ⟨q1, q2, q3⟩ := md_thr (x := 1) hm
      generalize mh_sfI h 300 mo 1 = hc at *
      have e2 := q1.1.1.1
      refine v_aload_n (pc := 17) dX3_put_17 rfl rfl ?_
      refine g_I 300 4 (pc := 18) fX3_37 dX3_put_18 rfl rfl (by assumption) (by assumption) ?_
      refine v_if_le 26 (pc := 21) dX3_put_21 (by decide) (fun hb => ?_) (fun hb => ?_)
      · exact absurd hb (by decide)
      · refine v_iconst (pc := 24) (v := 0) dX3_put_24 (by decide) ?_
        refine v_iret (pc := 25) dX3_put_25 rfl ?_
        exact h0 c hc q1 q2 q3
set_option maxHeartbeats 4000000 in
set_option maxRecDepth 100000 in
theorem w_add (hm : md h S mo ka va za sa ki fi la aa V sv nm nk) (h1 : okA nm (V 4) key → ∀ h', md h' S mo ka va za sa ki fi la aa (up1 V 4 (putK (V 4) key (valK (V 4) key + y))) sv (nm + 1) nk → SF S h h' → mh_fI h' 300 mo = 0 → R (.inl (some (.long (valK (V 4) key + y)))) h') (h0 : ¬ okA nm (V 4) key → ∀ h', md h' S mo ka va za sa ki fi la aa V sv nm nk → SF S h h' → mh_fI h' 300 mo = 1 → R (.inl (some (.long 0))) h') : mv_V G jX3_add (d + 9) 0 [(0, .ref mo), (1, .int key), (2, .long y)] [] h 0 0 R := by
  have e1 := hm.1.1.1
  refine v_aload_n (pc := 0) dX3_add_0 rfl rfl ?_
  refine v_aload_n (pc := 1) dX3_add_1 rfl rfl ?_
  refine v_iload_n (pc := 2) dX3_add_2 rfl rfl ?_
  refine v_callV 0 0 (pc := 3) kX3_72 dX3_add_3 rfl (by assumption) (Nat.zero_le _) (Nat.zero_le _) (Nat.le_of_ble_eq_true rfl) (Nat.le_of_ble_eq_true rfl) ?_
  refine m_refused hm (fun c => ?_) (fun c => ?_)
  · refine v_if_eq 13 (pc := 6) dX3_add_6 (by decide) (fun hb => ?_) (fun hb => ?_)
    · refine v_iconst (pc := 13) (v := 0) dX3_add_13 (by decide) ?_
      refine p_I 300 4 (pc := 14) fX3_37 dX3_add_14 rfl rfl (by assumption) ?_
      obtain ⟨q1, q2, q3⟩ := md_thr (x := 0) hm
      generalize mh_sfI h 300 mo 0 = hc at *
      have e2 := q1.1.1.1
      refine v_aload_n (pc := 17) dX3_add_17 rfl rfl ?_
      refine g_I 300 4 (pc := 18) fX3_37 dX3_add_18 rfl rfl (by assumption) (by assumption) ?_
      refine v_if_le 28 (pc := 21) dX3_add_21 (by decide) (fun hb => ?_) (fun hb => ?_)
      · refine v_aload_n (pc := 28) dX3_add_28 rfl rfl ?_
        refine v_iconst (pc := 29) (v := 1) dX3_add_29 (by decide) ?_
        refine v_iload_n (pc := 30) dX3_add_30 rfl rfl ?_
        refine v_iload_n (pc := 31) dX3_add_31 rfl rfl ?_
        refine v_lload_n (pc := 32) dX3_add_32 rfl rfl ?_
        refine v_callV 0 0 (pc := 33) kX3_76 dX3_add_33 rfl (by assumption) (Nat.zero_le _) (Nat.zero_le _) (Nat.le_of_ble_eq_true rfl) (Nat.le_of_ble_eq_true rfl) ?_
        refine m_message q1 c.1 (by decide) (okM_p c (by decide) (by decide)) (fun h' u1 u2 u3 => ?_)
        rw [doM_1] at u1
        rw [resM_1]
        refine v_lret (pc := 36) dX3_add_36 rfl ?_
        exact h1 c h' u1 (SF_tr q2 u2) (u3.trans q3)
      · exact absurd (by decide) hb
    · exact absurd rfl hb
  · refine v_if_eq 13 (pc := 6) dX3_add_6 (by decide) (fun hb => ?_) (fun hb => ?_)
    · exact absurd hb (by decide)
    · refine v_iconst (pc := 9) (v := 1) dX3_add_9 (by decide) ?_
      refine v_goto 14 (pc := 10) dX3_add_10 (by decide) ?_
      refine p_I 300 4 (pc := 14) fX3_37 dX3_add_14 rfl rfl (by assumption) ?_
      obtain ⟨q1, q2, q3⟩ := md_thr (x := 1) hm
      generalize mh_sfI h 300 mo 1 = hc at *
      have e2 := q1.1.1.1
      refine v_aload_n (pc := 17) dX3_add_17 rfl rfl ?_
      refine g_I 300 4 (pc := 18) fX3_37 dX3_add_18 rfl rfl (by assumption) (by assumption) ?_
      refine v_if_le 28 (pc := 21) dX3_add_21 (by decide) (fun hb => ?_) (fun hb => ?_)
      · exact absurd hb (by decide)
      · refine v_lconst (pc := 24) (v := 0) dX3_add_24 (by decide) ?_
        refine v_goto 36 (pc := 25) dX3_add_25 (by decide) ?_
        refine v_lret (pc := 36) dX3_add_36 rfl ?_
        exact h0 c hc q1 q2 q3
set_option maxHeartbeats 4000000 in
set_option maxRecDepth 100000 in
theorem w_most (hm : md h S mo ka va za sa ki fi la aa V sv nm nk) (h1 : okA nm (V 4) key → ∀ h', md h' S mo ka va za sa ki fi la aa (up1 V 4 (putK (V 4) key (mostK (V 4) key y))) sv (nm + 1) nk → SF S h h' → mh_fI h' 300 mo = 0 → R (.inl (some (.long (mostK (V 4) key y)))) h') (h0 : ¬ okA nm (V 4) key → ∀ h', md h' S mo ka va za sa ki fi la aa V sv nm nk → SF S h h' → mh_fI h' 300 mo = 1 → R (.inl (some (.long 0))) h') : mv_V G jX3_most (d + 9) 0 [(0, .ref mo), (1, .int key), (2, .long y)] [] h 0 0 R := by
  have e1 := hm.1.1.1
  refine v_aload_n (pc := 0) dX3_most_0 rfl rfl ?_
  refine v_aload_n (pc := 1) dX3_most_1 rfl rfl ?_
  refine v_iload_n (pc := 2) dX3_most_2 rfl rfl ?_
  refine v_callV 0 0 (pc := 3) kX3_72 dX3_most_3 rfl (by assumption) (Nat.zero_le _) (Nat.zero_le _) (Nat.le_of_ble_eq_true rfl) (Nat.le_of_ble_eq_true rfl) ?_
  refine m_refused hm (fun c => ?_) (fun c => ?_)
  · refine v_if_eq 13 (pc := 6) dX3_most_6 (by decide) (fun hb => ?_) (fun hb => ?_)
    · refine v_iconst (pc := 13) (v := 0) dX3_most_13 (by decide) ?_
      refine p_I 300 4 (pc := 14) fX3_37 dX3_most_14 rfl rfl (by assumption) ?_
      obtain ⟨q1, q2, q3⟩ := md_thr (x := 0) hm
      generalize mh_sfI h 300 mo 0 = hc at *
      have e2 := q1.1.1.1
      refine v_aload_n (pc := 17) dX3_most_17 rfl rfl ?_
      refine g_I 300 4 (pc := 18) fX3_37 dX3_most_18 rfl rfl (by assumption) (by assumption) ?_
      refine v_if_le 28 (pc := 21) dX3_most_21 (by decide) (fun hb => ?_) (fun hb => ?_)
      · refine v_aload_n (pc := 28) dX3_most_28 rfl rfl ?_
        refine v_iconst (pc := 29) (v := 2) dX3_most_29 (by decide) ?_
        refine v_iload_n (pc := 30) dX3_most_30 rfl rfl ?_
        refine v_iload_n (pc := 31) dX3_most_31 rfl rfl ?_
        refine v_lload_n (pc := 32) dX3_most_32 rfl rfl ?_
        refine v_callV 0 0 (pc := 33) kX3_76 dX3_most_33 rfl (by assumption) (Nat.zero_le _) (Nat.zero_le _) (Nat.le_of_ble_eq_true rfl) (Nat.le_of_ble_eq_true rfl) ?_
        refine m_message q1 c.1 (by decide) (okM_p c (by decide) (by decide)) (fun h' u1 u2 u3 => ?_)
        rw [doM_2] at u1
        rw [resM_2]
        refine v_lret (pc := 36) dX3_most_36 rfl ?_
        exact h1 c h' u1 (SF_tr q2 u2) (u3.trans q3)
      · exact absurd (by decide) hb
    · exact absurd rfl hb
  · refine v_if_eq 13 (pc := 6) dX3_most_6 (by decide) (fun hb => ?_) (fun hb => ?_)
    · exact absurd hb (by decide)
    · refine v_iconst (pc := 9) (v := 1) dX3_most_9 (by decide) ?_
      refine v_goto 14 (pc := 10) dX3_most_10 (by decide) ?_
      refine p_I 300 4 (pc := 14) fX3_37 dX3_most_14 rfl rfl (by assumption) ?_
      obtain ⟨q1, q2, q3⟩ := md_thr (x := 1) hm
      generalize mh_sfI h 300 mo 1 = hc at *
      have e2 := q1.1.1.1
      refine v_aload_n (pc := 17) dX3_most_17 rfl rfl ?_
      refine g_I 300 4 (pc := 18) fX3_37 dX3_most_18 rfl rfl (by assumption) (by assumption) ?_
      refine v_if_le 28 (pc := 21) dX3_most_21 (by decide) (fun hb => ?_) (fun hb => ?_)
      · exact absurd hb (by decide)
      · refine v_lconst (pc := 24) (v := 0) dX3_most_24 (by decide) ?_
        refine v_goto 36 (pc := 25) dX3_most_25 (by decide) ?_
        refine v_lret (pc := 36) dX3_most_36 rfl ?_
        exact h0 c hc q1 q2 q3
set_option maxHeartbeats 4000000 in
set_option maxRecDepth 100000 in
theorem w_delete (hm : md h S mo ka va za sa ki fi la aa V sv nm nk) (h1 : a ≤ b → nm + 1 ≤ 2500 → ∀ h', md h' S mo ka va za sa ki fi la aa (up1 V 4 (delK (V 4) a b)) sv (nm + 1) nk → SF S h h' → mh_fI h' 300 mo = 0 → R (.inl (some (.int (nI (cntK (V 4) a b))))) h') (h0 : ¬ a ≤ b → ∀ h', md h' S mo ka va za sa ki fi la aa V sv nm nk → SF S h h' → mh_fI h' 300 mo = 1 → R (.inl (some (.int 0))) h') (h2 : a ≤ b → ¬ nm + 1 ≤ 2500 → ∀ h', md h' S mo ka va za sa ki fi la aa V sv nm nk → SF S h h' → mh_fI h' 300 mo = 2 → R (.inl (some (.int 0))) h') : mv_V G jX3_delete (d + 9) 0 [(0, .ref mo), (1, .int a), (2, .int b)] [] h 0 0 R := by
  have e1 := hm.1.1.1
  have mm := hm.2.2.2.1
  have m6 := hm.2.2.2.2.2.1
  refine v_aload_n (pc := 0) dX3_delete_0 rfl rfl ?_
  refine v_iload_n (pc := 1) dX3_delete_1 rfl rfl ?_
  refine v_iload_n (pc := 2) dX3_delete_2 rfl rfl ?_
  refine v_icmp_le 10 (pc := 3) dX3_delete_3 (by decide) (fun hb => ?_) (fun hb => ?_)
  · have c := hb
    refine v_aload_n (pc := 10) dX3_delete_10 rfl rfl ?_
    refine g_I 309 4 (pc := 11) fX3_65 dX3_delete_11 rfl rfl (by assumption) (by assumption) ?_
    refine v_sipush (pc := 14) (v := 2500) dX3_delete_14 (by decide) ?_
    refine v_icmp_ne 24 (pc := 17) dX3_delete_17 (by decide) (fun hb => ?_) (fun hb => ?_)
    · refine v_iconst (pc := 24) (v := 0) dX3_delete_24 (by decide) ?_
      refine p_I 300 4 (pc := 25) fX3_37 dX3_delete_25 rfl rfl (by assumption) ?_
      have c2 : nm + 1 ≤ 2500 := by
        rcases Nat.lt_or_ge nm 2500 with z | z
        · omega
        · exact absurd (by rw [show nm = 2500 by omega]; rfl) hb
      obtain ⟨q1, q2, q3⟩ := md_thr (x := 0) hm
      generalize mh_sfI h 300 mo 0 = hc at *
      have e2 := q1.1.1.1
      refine v_aload_n (pc := 28) dX3_delete_28 rfl rfl ?_
      refine g_I 300 4 (pc := 29) fX3_37 dX3_delete_29 rfl rfl (by assumption) (by assumption) ?_
      refine v_if_le 39 (pc := 32) dX3_delete_32 (by decide) (fun hb => ?_) (fun hb => ?_)
      · refine v_aload_n (pc := 39) dX3_delete_39 rfl rfl ?_
        refine v_iconst (pc := 40) (v := 3) dX3_delete_40 (by decide) ?_
        refine v_iload_n (pc := 41) dX3_delete_41 rfl rfl ?_
        refine v_iload_n (pc := 42) dX3_delete_42 rfl rfl ?_
        refine v_lconst (pc := 43) (v := 0) dX3_delete_43 (by decide) ?_
        refine v_callV 0 0 (pc := 44) kX3_76 dX3_delete_44 rfl (by assumption) (Nat.zero_le _) (Nat.zero_le _) (Nat.le_of_ble_eq_true rfl) (Nat.le_of_ble_eq_true rfl) ?_
        refine m_message q1 (by omega) (by decide) (okM_3 c) (fun h' u1 u2 u3 => ?_)
        rw [doM_3] at u1
        rw [resM_3]
        refine v_l2i (pc := 47) dX3_delete_47 ?_
        refine v_eqi (Int32.toInt32_toInt64 _) ?_
        refine v_iret (pc := 48) dX3_delete_48 rfl ?_
        exact h1 c c2 h' u1 (SF_tr q2 u2) (u3.trans q3)
      · exact absurd (by decide) hb
    · have c2 := (nI_eq (a := nm) (b := 2500) (by omega) (by omega)).mp hb
      refine v_iconst (pc := 20) (v := 2) dX3_delete_20 (by decide) ?_
      refine v_goto 25 (pc := 21) dX3_delete_21 (by decide) ?_
      refine p_I 300 4 (pc := 25) fX3_37 dX3_delete_25 rfl rfl (by assumption) ?_
      obtain ⟨q1, q2, q3⟩ := md_thr (x := 2) hm
      generalize mh_sfI h 300 mo 2 = hc at *
      have e2 := q1.1.1.1
      refine v_aload_n (pc := 28) dX3_delete_28 rfl rfl ?_
      refine g_I 300 4 (pc := 29) fX3_37 dX3_delete_29 rfl rfl (by assumption) (by assumption) ?_
      refine v_if_le 39 (pc := 32) dX3_delete_32 (by decide) (fun hb => ?_) (fun hb => ?_)
      · exact absurd hb (by decide)
      · refine v_iconst (pc := 35) (v := 0) dX3_delete_35 (by decide) ?_
        refine v_goto 48 (pc := 36) dX3_delete_36 (by decide) ?_
        refine v_iret (pc := 48) dX3_delete_48 rfl ?_
        exact h2 c (by omega) hc q1 q2 q3
  · have c := hb
    refine v_iconst (pc := 6) (v := 1) dX3_delete_6 (by decide) ?_
    refine v_goto 25 (pc := 7) dX3_delete_7 (by decide) ?_
    refine p_I 300 4 (pc := 25) fX3_37 dX3_delete_25 rfl rfl (by assumption) ?_
    obtain ⟨q1, q2, q3⟩ := md_thr (x := 1) hm
    generalize mh_sfI h 300 mo 1 = hc at *
    have e2 := q1.1.1.1
    refine v_aload_n (pc := 28) dX3_delete_28 rfl rfl ?_
    refine g_I 300 4 (pc := 29) fX3_37 dX3_delete_29 rfl rfl (by assumption) (by assumption) ?_
    refine v_if_le 39 (pc := 32) dX3_delete_32 (by decide) (fun hb => ?_) (fun hb => ?_)
    · exact absurd hb (by decide)
    · refine v_iconst (pc := 35) (v := 0) dX3_delete_35 (by decide) ?_
      refine v_goto 48 (pc := 36) dX3_delete_36 (by decide) ?_
      refine v_iret (pc := 48) dX3_delete_48 rfl ?_
      exact h0 c hc q1 q2 q3
set_option maxHeartbeats 4000000 in
set_option maxRecDepth 100000 in
theorem w_raise (hm : md h S mo ka va za sa ki fi la aa V sv nm nk) (h1 : a ≤ b → nm + 1 ≤ 2500 → ∀ h', md h' S mo ka va za sa ki fi la aa (up1 V 4 (raiK (V 4) a b y)) sv (nm + 1) nk → SF S h h' → mh_fI h' 300 mo = 0 → R (.inl (some (.int (nI (cntK (V 4) a b))))) h') (h0 : ¬ a ≤ b → ∀ h', md h' S mo ka va za sa ki fi la aa V sv nm nk → SF S h h' → mh_fI h' 300 mo = 1 → R (.inl (some (.int 0))) h') (h2 : a ≤ b → ¬ nm + 1 ≤ 2500 → ∀ h', md h' S mo ka va za sa ki fi la aa V sv nm nk → SF S h h' → mh_fI h' 300 mo = 2 → R (.inl (some (.int 0))) h') : mv_V G jX3_raise (d + 9) 0 [(0, .ref mo), (1, .int a), (2, .int b), (3, .long y)] [] h 0 0 R := by
  have e1 := hm.1.1.1
  have mm := hm.2.2.2.1
  have m6 := hm.2.2.2.2.2.1
  refine v_aload_n (pc := 0) dX3_raise_0 rfl rfl ?_
  refine v_iload_n (pc := 1) dX3_raise_1 rfl rfl ?_
  refine v_iload_n (pc := 2) dX3_raise_2 rfl rfl ?_
  refine v_icmp_le 10 (pc := 3) dX3_raise_3 (by decide) (fun hb => ?_) (fun hb => ?_)
  · have c := hb
    refine v_aload_n (pc := 10) dX3_raise_10 rfl rfl ?_
    refine g_I 309 4 (pc := 11) fX3_65 dX3_raise_11 rfl rfl (by assumption) (by assumption) ?_
    refine v_sipush (pc := 14) (v := 2500) dX3_raise_14 (by decide) ?_
    refine v_icmp_ne 24 (pc := 17) dX3_raise_17 (by decide) (fun hb => ?_) (fun hb => ?_)
    · refine v_iconst (pc := 24) (v := 0) dX3_raise_24 (by decide) ?_
      refine p_I 300 4 (pc := 25) fX3_37 dX3_raise_25 rfl rfl (by assumption) ?_
      have c2 : nm + 1 ≤ 2500 := by
        rcases Nat.lt_or_ge nm 2500 with z | z
        · omega
        · exact absurd (by rw [show nm = 2500 by omega]; rfl) hb
      obtain ⟨q1, q2, q3⟩ := md_thr (x := 0) hm
      generalize mh_sfI h 300 mo 0 = hc at *
      have e2 := q1.1.1.1
      refine v_aload_n (pc := 28) dX3_raise_28 rfl rfl ?_
      refine g_I 300 4 (pc := 29) fX3_37 dX3_raise_29 rfl rfl (by assumption) (by assumption) ?_
      refine v_if_le 39 (pc := 32) dX3_raise_32 (by decide) (fun hb => ?_) (fun hb => ?_)
      · refine v_aload_n (pc := 39) dX3_raise_39 rfl rfl ?_
        refine v_iconst (pc := 40) (v := 4) dX3_raise_40 (by decide) ?_
        refine v_iload_n (pc := 41) dX3_raise_41 rfl rfl ?_
        refine v_iload_n (pc := 42) dX3_raise_42 rfl rfl ?_
        refine v_lload_n (pc := 43) dX3_raise_43 rfl rfl ?_
        refine v_callV 0 0 (pc := 44) kX3_76 dX3_raise_44 rfl (by assumption) (Nat.zero_le _) (Nat.zero_le _) (Nat.le_of_ble_eq_true rfl) (Nat.le_of_ble_eq_true rfl) ?_
        refine m_message q1 (by omega) (by decide) (okM_4 c) (fun h' u1 u2 u3 => ?_)
        rw [doM_4] at u1
        rw [resM_4]
        refine v_l2i (pc := 47) dX3_raise_47 ?_
        refine v_eqi (Int32.toInt32_toInt64 _) ?_
        refine v_iret (pc := 48) dX3_raise_48 rfl ?_
        exact h1 c c2 h' u1 (SF_tr q2 u2) (u3.trans q3)
      · exact absurd (by decide) hb
    · have c2 := (nI_eq (a := nm) (b := 2500) (by omega) (by omega)).mp hb
      refine v_iconst (pc := 20) (v := 2) dX3_raise_20 (by decide) ?_
      refine v_goto 25 (pc := 21) dX3_raise_21 (by decide) ?_
      refine p_I 300 4 (pc := 25) fX3_37 dX3_raise_25 rfl rfl (by assumption) ?_
      obtain ⟨q1, q2, q3⟩ := md_thr (x := 2) hm
      generalize mh_sfI h 300 mo 2 = hc at *
      have e2 := q1.1.1.1
      refine v_aload_n (pc := 28) dX3_raise_28 rfl rfl ?_
      refine g_I 300 4 (pc := 29) fX3_37 dX3_raise_29 rfl rfl (by assumption) (by assumption) ?_
      refine v_if_le 39 (pc := 32) dX3_raise_32 (by decide) (fun hb => ?_) (fun hb => ?_)
      · exact absurd hb (by decide)
      · refine v_iconst (pc := 35) (v := 0) dX3_raise_35 (by decide) ?_
        refine v_goto 48 (pc := 36) dX3_raise_36 (by decide) ?_
        refine v_iret (pc := 48) dX3_raise_48 rfl ?_
        exact h2 c (by omega) hc q1 q2 q3
  · have c := hb
    refine v_iconst (pc := 6) (v := 1) dX3_raise_6 (by decide) ?_
    refine v_goto 25 (pc := 7) dX3_raise_7 (by decide) ?_
    refine p_I 300 4 (pc := 25) fX3_37 dX3_raise_25 rfl rfl (by assumption) ?_
    obtain ⟨q1, q2, q3⟩ := md_thr (x := 1) hm
    generalize mh_sfI h 300 mo 1 = hc at *
    have e2 := q1.1.1.1
    refine v_aload_n (pc := 28) dX3_raise_28 rfl rfl ?_
    refine g_I 300 4 (pc := 29) fX3_37 dX3_raise_29 rfl rfl (by assumption) (by assumption) ?_
    refine v_if_le 39 (pc := 32) dX3_raise_32 (by decide) (fun hb => ?_) (fun hb => ?_)
    · exact absurd hb (by decide)
    · refine v_iconst (pc := 35) (v := 0) dX3_raise_35 (by decide) ?_
      refine v_goto 48 (pc := 36) dX3_raise_36 (by decide) ?_
      refine v_iret (pc := 48) dX3_raise_48 rfl ?_
      exact h0 c hc q1 q2 q3
set_option maxHeartbeats 4000000 in
set_option maxRecDepth 100000 in
theorem w_putAll {step n : Int32} {grow : Int64} (hm : md h S mo ka va za sa ki fi la aa V sv nm nk) (h1 : ∀ N, N ≤ 300 → n = nI N → ∀ h', md h' S mo ka va za sa ki fi la aa (up1 V 4 (pAll step grow N key y (V 4) nm).1) sv (pAll step grow N key y (V 4) nm).2.1 nk → SF S h h' → mh_fI h' 300 mo = 0 → R (.inl (some (.int (nI (pAll step grow N key y (V 4) nm).2.2)))) h') (h0 : (∀ N, N ≤ 300 → n ≠ nI N) → ∀ h', md h' S mo ka va za sa ki fi la aa V sv nm nk → SF S h h' → mh_fI h' 300 mo = 1 → R (.inl (some (.int 0))) h') : mv_V G jX3_putAll (d + 9) 0 [(0, .ref mo), (1, .int key), (2, .int step), (3, .long y), (5, .long grow), (7, .int n)] [] h 0 0 R := by
  have e1 := hm.1.1.1
  have main : ∀ N, N ≤ 300 → n = nI N → mv_V G jX3_putAll (d + 9) 19 [(0, .ref mo), (1, .int key), (2, .int step), (3, .long y), (5, .long grow), (7, .int n)] [.int 0, .ref mo] h 0 0 R := by
    intro N hN hn
    subst hn
    have loop : ∀ m i at' v hc V' nm', i + m = N → md hc S mo ka va za sa ki fi la aa (up1 V 4 V') sv nm' nk → SF S h hc → mh_fI hc 300 mo = 0 → ((pAll step grow m at' v V' nm').1 = (pAll step grow N key y (V 4) nm).1 ∧ (pAll step grow m at' v V' nm').2.1 = (pAll step grow N key y (V 4) nm).2.1 ∧ i + (pAll step grow m at' v V' nm').2.2 = (pAll step grow N key y (V 4) nm).2.2) → mv_V G jX3_putAll (d + 9) 40 [(0, .ref mo), (1, .int key), (2, .int step), (3, .long y), (5, .long grow), (7, .int (nI N)), (8, .int (nI i)), (9, .int at'), (10, .long v)] [] hc 0 0 R := by
      intro m
      induction m with
      | zero =>
        intro i at' v hc V' nm' hm2 hL' hF h300 hp
        refine v_iload (pc := 40) dX3_putAll_40 rfl ?_
        refine v_iload (pc := 42) dX3_putAll_42 rfl ?_
        refine v_icmp_ge 87 (pc := 44) dX3_putAll_44 (by decide) (fun hb => ?_) (fun hb => ?_)
        · refine v_iload (pc := 87) dX3_putAll_87 rfl ?_
          refine v_iret (pc := 89) dX3_putAll_89 rfl ?_
          obtain ⟨p1, p2, p3⟩ := hp
          have hp3 : i = (pAll step grow N key y (V 4) nm).2.2 := by
            rw [← p3]
            show i = i + 0
            omega
          have z := h1 N hN rfl hc (by rw [← p1, ← p2]; exact hL') hF h300
          rw [← hp3] at z
          exact z
        · exact absurd ((nI_leI (by omega) (by omega)).mpr (by omega)) hb
      | succ m ih =>
        intro i at' v hc V' nm' hm2 hL' hF h300 hp
        have e1 := hL'.1.1.1
        refine v_iload (pc := 40) dX3_putAll_40 rfl ?_
        refine v_iload (pc := 42) dX3_putAll_42 rfl ?_
        refine v_icmp_ge 87 (pc := 44) dX3_putAll_44 (by decide) (fun hb => ?_) (fun hb => ?_)
        · have := (nI_leI (by omega) (by omega)).mp hb
          omega
        · refine v_aload_n (pc := 47) dX3_putAll_47 rfl rfl ?_
          refine v_iload (pc := 48) dX3_putAll_48 rfl ?_
          refine v_callV 0 0 (pc := 50) kX3_72 dX3_putAll_50 rfl (by assumption) (Nat.zero_le _) (Nat.zero_le _) (Nat.le_of_ble_eq_true rfl) (Nat.le_of_ble_eq_true rfl) ?_
          rw [pAll_s] at hp
          refine m_refused hL' (fun c => ?_) (fun c => ?_)
          · have c' := c
            rw [up1_eq] at c'
            rw [if_pos (okA_b.mp c')] at hp
            refine v_if_ne 87 (pc := 53) dX3_putAll_53 (by decide) (fun hb => ?_) (fun hb => ?_)
            · exact absurd rfl hb
            · refine v_aload_n (pc := 56) dX3_putAll_56 rfl rfl ?_
              refine v_iconst (pc := 57) (v := 0) dX3_putAll_57 (by decide) ?_
              refine v_iload (pc := 58) dX3_putAll_58 rfl ?_
              refine v_iload (pc := 60) dX3_putAll_60 rfl ?_
              refine v_lload (pc := 62) dX3_putAll_62 rfl ?_
              refine v_callV 0 0 (pc := 64) kX3_76 dX3_putAll_64 rfl (by assumption) (Nat.zero_le _) (Nat.zero_le _) (Nat.le_of_ble_eq_true rfl) (Nat.le_of_ble_eq_true rfl) ?_
              refine m_message hL' c.1 (by decide) (okM_p c (by decide) (by decide)) (fun h' u1 u2 u3 => ?_)
              rw [doM_0] at u1
              refine v_pop2 (pc := 67) dX3_putAll_67 rfl ?_
              refine v_iload (pc := 68) dX3_putAll_68 rfl ?_
              refine v_iload_n (pc := 70) dX3_putAll_70 rfl rfl ?_
              refine v_iadd (pc := 71) dX3_putAll_71 ?_
              refine v_istore (pc := 72) dX3_putAll_72 rfl rfl (by decide) ?_
              refine v_lload (pc := 74) dX3_putAll_74 rfl ?_
              refine v_lload (pc := 76) dX3_putAll_76 rfl ?_
              refine v_ladd (pc := 78) dX3_putAll_78 ?_
              refine v_lstore (pc := 79) dX3_putAll_79 rfl rfl rfl (by decide) ?_
              refine v_iinc (pc := 81) dX3_putAll_81 rfl (mv_inc _) rfl rfl (by decide) ?_
              refine v_goto 40 (pc := 84) dX3_putAll_84 (by decide) ?_
              have e : up1 (up1 V 4 V') 4 (putK (up1 V 4 V' 4) at' v) = up1 V 4 (putK V' at' v) := by
                rw [up1_eq]
                funext j
                unfold up1
                by_cases c1 : j = 4
                · rw [if_pos c1, if_pos c1]
                · rw [if_neg c1, if_neg c1, if_neg c1]
              rw [e] at u1
              refine ih (i + 1) _ _ h' _ _ (by omega) u1 (SF_tr hF u2) (u3.trans h300) ⟨hp.1, hp.2.1, ?_⟩
              have := hp.2.2
              rw [← this]
              show i + 1 + (pAll step grow m (at' + step) (v + grow) (putK V' at' v) (nm' + 1)).2.2 = i + ((pAll step grow m (at' + step) (v + grow) (putK V' at' v) (nm' + 1)).2.2 + 1)
              omega
          · have c' := c
            rw [up1_eq] at c'
            rw [if_neg (fun q => c' (okA_b.mpr q))] at hp
            refine v_if_ne 87 (pc := 53) dX3_putAll_53 (by decide) (fun hb => ?_) (fun hb => ?_)
            · refine v_iload (pc := 87) dX3_putAll_87 rfl ?_
              refine v_iret (pc := 89) dX3_putAll_89 rfl ?_
              obtain ⟨p1, p2, p3⟩ := hp
              have z := h1 N hN rfl hc (by rw [← p1, ← p2]; exact hL') hF h300
              rw [← p3] at z
              exact z
            · exact absurd hb (by decide)
    refine p_I 300 4 (pc := 19) fX3_37 dX3_putAll_19 rfl rfl (by assumption) ?_
    obtain ⟨q1, q2, q3⟩ := md_thr (x := 0) hm
    generalize mh_sfI h 300 mo 0 = hc at *
    have e2 := q1.1.1.1
    refine v_aload_n (pc := 22) dX3_putAll_22 rfl rfl ?_
    refine g_I 300 4 (pc := 23) fX3_37 dX3_putAll_23 rfl rfl (by assumption) (by assumption) ?_
    refine v_if_le 31 (pc := 26) dX3_putAll_26 (by decide) (fun hb => ?_) (fun hb => ?_)
    · refine v_iconst (pc := 31) (v := 0) dX3_putAll_31 (by decide) ?_
      refine v_istore (pc := 32) dX3_putAll_32 rfl rfl (by decide) ?_
      refine v_iload_n (pc := 34) dX3_putAll_34 rfl rfl ?_
      refine v_istore (pc := 35) dX3_putAll_35 rfl rfl (by decide) ?_
      refine v_lload_n (pc := 37) dX3_putAll_37 rfl rfl ?_
      refine v_lstore (pc := 38) dX3_putAll_38 rfl rfl rfl (by decide) ?_
      refine loop N 0 key y hc (V 4) nm (by omega) (by rw [up1_id]; exact q1) q2 q3 ⟨rfl, rfl, by omega⟩
    · exact absurd (by decide) hb
  have fail : (∀ N, N ≤ 300 → n ≠ nI N) → mv_V G jX3_putAll (d + 9) 14 [(0, .ref mo), (1, .int key), (2, .int step), (3, .long y), (5, .long grow), (7, .int n)] [.ref mo] h 0 0 R := by
    intro hno
    refine v_iconst (pc := 14) (v := 1) dX3_putAll_14 (by decide) ?_
    refine v_goto 19 (pc := 15) dX3_putAll_15 (by decide) ?_
    refine p_I 300 4 (pc := 19) fX3_37 dX3_putAll_19 rfl rfl (by assumption) ?_
    obtain ⟨q1, q2, q3⟩ := md_thr (x := 1) hm
    generalize mh_sfI h 300 mo 1 = hc at *
    have e2 := q1.1.1.1
    refine v_aload_n (pc := 22) dX3_putAll_22 rfl rfl ?_
    refine g_I 300 4 (pc := 23) fX3_37 dX3_putAll_23 rfl rfl (by assumption) (by assumption) ?_
    refine v_if_le 31 (pc := 26) dX3_putAll_26 (by decide) (fun hb => ?_) (fun hb => ?_)
    · exact absurd hb (by decide)
    · refine v_iconst (pc := 29) (v := 0) dX3_putAll_29 (by decide) ?_
      refine v_iret (pc := 30) dX3_putAll_30 rfl ?_
      exact h0 hno hc q1 q2 q3
  have hn300 : ∀ N, n = nI N → N ≤ 300 → ¬ n < 0 ∧ n ≤ 300 := fun N q hN => by
    rw [q]
    exact ⟨nI_ge0 (by omega), (nI_leI (b := 300) (by omega) (by omega)).mpr hN⟩
  refine v_aload_n (pc := 0) dX3_putAll_0 rfl rfl ?_
  refine v_iload (pc := 1) dX3_putAll_1 rfl ?_
  refine v_if_lt 14 (pc := 3) dX3_putAll_3 (by decide) (fun hb => ?_) (fun hb => ?_)
  · exact fail (fun N hN q => (hn300 N q hN).1 hb)
  · have hb1 := hb
    refine v_iload (pc := 6) dX3_putAll_6 rfl ?_
    refine v_sipush (pc := 8) (v := 300) dX3_putAll_8 (by decide) ?_
    refine v_icmp_le 18 (pc := 11) dX3_putAll_11 (by decide) (fun hb => ?_) (fun hb => ?_)
    · obtain ⟨N, hN, q⟩ := i32_ix (n := 301) hb1 (i32_le_lt hb (by decide)) (by omega)
      refine v_iconst (pc := 18) (v := 0) dX3_putAll_18 (by decide) ?_
      exact main N (by omega) q
    · exact fail (fun N hN q => hb (hn300 N q hN).2)
end MDO
