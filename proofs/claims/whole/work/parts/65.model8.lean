/-! LazyPagesModel: restore, settle, sync, checkpoint, total, isSound, differ. -/
theorem up1_up1 {α : Type} (f : Nat → α) (i : Nat) (x y : α) : up1 (up1 f i x) i y = up1 f i y := funext fun j => by
  unfold up1
  by_cases c : j = i
  · rw [if_pos c, if_pos c]
  · rw [if_neg c, if_neg c, if_neg c]
theorem take_put {L : List En} {i : Nat} {e : En} (hu : up L) (he : L[i]? = some e) : putK (L.take i) e.1 e.2 = L.take (i + 1) := by
  obtain ⟨hi, hv⟩ := List.getElem?_eq_some_iff.mp he
  rw [List.take_succ, he, put_snoc (fun f hf => ?_)]
  · rfl
  · obtain ⟨n, hn, hq⟩ := List.getElem_of_mem hf
    rw [List.length_take] at hn
    rw [List.getElem_take] at hq
    rw [← hq, ← hv]
    exact up_get hu hi (by omega)
section MDX
variable {G : mv_G} {d : Nat} {h h' : mh_T} {S : Nat → Prop} {mo ka va za sa ki fi la aa : Nat} {V : Nat → List En} {sv : Nat → Bool} {nm nk : Nat} {v v2 a b key : Int32} {y : Int64} {R : mv_O → mh_T → Prop}
set_option maxHeartbeats 4000000 in
set_option maxRecDepth 100000 in
theorem w_restore (hm : md h S mo ka va za sa ki fi la aa V sv nm nk) (h1 : ∀ j, j < 4 → v = nI j → sv j = true → nm + (1 + (V j).length) ≤ 2500 → ∀ h', md h' S mo ka va za sa ki fi la aa (up1 V 4 (V j)) sv (nm + (1 + (V j).length)) nk → SF S h h' → mh_fI h' 300 mo = 0 → R (.inl (some (.int (nI (nm + (1 + (V j).length)))))) h') (h0 : (∀ j, j < 4 → v = nI j → ¬ sv j = true) → ∀ h', md h' S mo ka va za sa ki fi la aa V sv nm nk → SF S h h' → mh_fI h' 300 mo = 1 → R (.inl (some (.int 0))) h') (h2 : ∀ j, j < 4 → v = nI j → sv j = true → ¬ nm + (1 + (V j).length) ≤ 2500 → ∀ h', md h' S mo ka va za sa ki fi la aa V sv nm nk → SF S h h' → mh_fI h' 300 mo = 2 → R (.inl (some (.int 0))) h') : mv_V G jX3_restore (d + 9) 0 [(0, .ref mo), (1, .int v)] [] h 0 0 R := by
  obtain ⟨⟨⟨e1, ⟨f1, f2, f3, f4, f5, f6, f7, f8⟩, ⟨n1, n2, n3, n4, n5, n6, n7, n8⟩, ⟨k1, k2, k3, k4, k5, k6, k7, k8⟩, ⟨l1, l2, l3, l4, l5, l6, l7, l8⟩, _⟩, hrows⟩, m2, m3, m4, m5, m6, _⟩ := id hm
  have fail : (∀ j, j < 4 → v = nI j → ¬ sv j = true) → mv_V G jX3_restore (d + 9) 20 [(0, .ref mo), (1, .int v)] [] h 0 0 R := by
    intro hno
    refine v_iconst (pc := 20) (v := 0) dX3_restore_20 (by decide) ?_
    refine v_istore_n (pc := 21) dX3_restore_21 rfl rfl rfl (by decide) ?_
    refine v_aload_n (pc := 22) dX3_restore_22 rfl rfl ?_
    refine v_iload_n (pc := 23) dX3_restore_23 rfl rfl ?_
    refine v_if_ne 31 (pc := 24) dX3_restore_24 (by decide) (fun hb => ?_) (fun hb => ?_)
    · exact absurd rfl hb
    · refine v_iconst (pc := 27) (v := 1) dX3_restore_27 (by decide) ?_
      refine v_goto 55 (pc := 28) dX3_restore_28 (by decide) ?_
      refine p_I 300 4 (pc := 55) fX3_37 dX3_restore_55 rfl rfl (by assumption) ?_
      obtain ⟨q1, q2, q3⟩ := md_thr (x := 1) hm
      generalize mh_sfI h 300 mo 1 = hc at *
      have e2 := q1.1.1.1
      refine v_aload_n (pc := 58) dX3_restore_58 rfl rfl ?_
      refine g_I 300 4 (pc := 59) fX3_37 dX3_restore_59 rfl rfl (by assumption) (by assumption) ?_
      refine v_if_le 67 (pc := 62) dX3_restore_62 (by decide) (fun hb => ?_) (fun hb => ?_)
      · exact absurd hb (by decide)
      · refine v_iconst (pc := 65) (v := 0) dX3_restore_65 (by decide) ?_
        refine v_iret (pc := 66) dX3_restore_66 rfl ?_
        exact h0 hno hc q1 q2 q3
  refine v_iload_n (pc := 0) dX3_restore_0 rfl rfl ?_
  refine v_callS 0 0 (pc := 1) kX3_83 dX3_restore_1 (Nat.le_of_ble_eq_true rfl) (Nat.zero_le _) (Nat.zero_le _) (Nat.le_of_ble_eq_true rfl) (Nat.le_of_ble_eq_true rfl) ?_
  refine m_isView (fun j hj q => ?_) (fun c => ?_)
  · refine v_if_eq 20 (pc := 4) dX3_restore_4 (by decide) (fun hb => ?_) (fun hb => ?_)
    · exact absurd hb (by decide)
    · subst q
      have w1 := (hrows j (by omega)).1
      have w2 := (hrows j (by omega)).2.1
      have w3 := (hrows j (by omega)).2.2.1
      have g1 := m3 j hj
      refine v_aload_n (pc := 7) dX3_restore_7 rfl rfl ?_
      refine g_R 304 4 (pc := 8) fX3_20 dX3_restore_8 rfl rfl (by assumption) (by assumption) (by assumption) ?_
      refine v_iload_n (pc := 11) dX3_restore_11 rfl rfl ?_
      refine n_zald (j) _ (pc := 12) dX3_restore_12 (by assumption) (by assumption) rfl (by omega) (by decide) g1 ?_
      by_cases c : sv j = true
      · rw [if_pos c]
        refine v_if_eq 20 (pc := 13) dX3_restore_13 (by decide) (fun hb => ?_) (fun hb => ?_)
        · exact absurd hb (by decide)
        · refine v_iconst (pc := 16) (v := 1) dX3_restore_16 (by decide) ?_
          refine v_goto 21 (pc := 17) dX3_restore_17 (by decide) ?_
          refine v_istore_n (pc := 21) dX3_restore_21 rfl rfl rfl (by decide) ?_
          refine v_aload_n (pc := 22) dX3_restore_22 rfl rfl ?_
          refine v_iload_n (pc := 23) dX3_restore_23 rfl rfl ?_
          refine v_if_ne 31 (pc := 24) dX3_restore_24 (by decide) (fun hb => ?_) (fun hb => ?_)
          · refine v_aload_n (pc := 31) dX3_restore_31 rfl rfl ?_
            refine g_I 309 4 (pc := 32) fX3_65 dX3_restore_32 rfl rfl (by assumption) (by assumption) ?_
            refine v_iconst (pc := 35) (v := 1) dX3_restore_35 (by decide) ?_
            refine v_iadd (pc := 36) dX3_restore_36 ?_
            refine v_eqi (nI_succ nm).symm ?_
            refine v_aload_n (pc := 37) dX3_restore_37 rfl rfl ?_
            refine g_R 303 4 (pc := 38) fX3_17 dX3_restore_38 rfl rfl (by assumption) (by assumption) (by assumption) ?_
            refine v_iload_n (pc := 41) dX3_restore_41 rfl rfl ?_
            refine n_iald (j) _ (pc := 42) dX3_restore_42 (by assumption) (by assumption) rfl (by omega) (by decide) w1 ?_
            refine v_iadd (pc := 43) dX3_restore_43 ?_
            refine v_eqi (nI_add _ _) ?_
            refine v_sipush (pc := 44) (v := 2500) dX3_restore_44 (by decide) ?_
            refine v_icmp_le 54 (pc := 47) dX3_restore_47 (by decide) (fun hb => ?_) (fun hb => ?_)
            · have c2 : nm + (1 + (V j).length) ≤ 2500 := by
                have := (nI_leI (b := 2500) (by omega) (by omega)).mp hb
                omega
              refine v_iconst (pc := 54) (v := 0) dX3_restore_54 (by decide) ?_
              refine p_I 300 4 (pc := 55) fX3_37 dX3_restore_55 rfl rfl (by assumption) ?_
              obtain ⟨q1, q2, q3⟩ := md_thr (x := 0) hm
              generalize mh_sfI h 300 mo 0 = hc at *
              have e2 := q1.1.1.1
              clear f1 f2 f3 f4 f5 f6 f7 f8 k1 k2 k3 k4 k5 k6 k7 k8 l1 l2 l3 l4 l5 l6 l7 l8 hrows m3 m4 m5 g1 w1 e1 hm h2 h0 fail
              refine v_aload_n (pc := 58) dX3_restore_58 rfl rfl ?_
              refine g_I 300 4 (pc := 59) fX3_37 dX3_restore_59 rfl rfl (by assumption) (by assumption) ?_
              refine v_if_le 67 (pc := 62) dX3_restore_62 (by decide) (fun hb => ?_) (fun hb => ?_)
              · have loop : ∀ m i hd, i + m = (V j).length → md hd S mo ka va za sa ki fi la aa (up1 V 4 ((V j).take i)) sv (nm + 1 + i) nk → SF S h hd → mh_fI hd 300 mo = 0 → mv_V G jX3_restore (d + 9) 80 [(0, .ref mo), (1, .int (nI j)), (2, .int 1), (3, .int (nI i))] [] hd 0 0 R := by
                  intro m
                  induction m with
                  | zero =>
                    intro i hd hi hL hF h300
                    have ei : i = (V j).length := by omega
                    subst ei
                    obtain ⟨⟨⟨e1, ⟨_, _, f3, _⟩, _, ⟨_, _, k3, _⟩, ⟨_, _, l3, _⟩, _⟩, hrows⟩, _, _, m4, _⟩ := id hL
                    have w1 := (hrows j (by omega)).1
                    rw [up1_ne _ _ (show j ≠ 4 by omega)] at w1
                    rw [List.take_length, Nat.add_assoc] at hL
                    rw [Nat.add_assoc] at m4
                    refine v_iload_n (pc := 80) dX3_restore_80 rfl rfl ?_
                    refine v_aload_n (pc := 81) dX3_restore_81 rfl rfl ?_
                    refine g_R 303 4 (pc := 82) fX3_17 dX3_restore_82 rfl rfl (by assumption) (by assumption) (by assumption) ?_
                    refine v_iload_n (pc := 85) dX3_restore_85 rfl rfl ?_
                    refine n_iald (j) _ (pc := 86) dX3_restore_86 (by assumption) (by assumption) rfl (by omega) (by decide) w1 ?_
                    refine v_icmp_ge 138 (pc := 87) dX3_restore_87 (by decide) (fun hb => ?_) (fun hb => ?_)
                    · refine v_aload_n (pc := 138) dX3_restore_138 rfl rfl ?_
                      refine g_I 309 4 (pc := 139) fX3_65 dX3_restore_139 rfl rfl (by assumption) (by assumption) ?_
                      refine v_iret (pc := 142) dX3_restore_142 rfl ?_
                      exact h1 j hj rfl c c2 hd hL hF h300
                    · exact absurd ((nI_leI (by omega) (by omega)).mpr (by omega)) hb
                  | succ m ih =>
                    intro i hd hi hL hF h300
                    have hil : i < (V j).length := by omega
                    have hget : (V j)[i]? = some (V j)[i] := List.getElem?_eq_getElem hil
                    obtain ⟨⟨⟨e1, ⟨f1, f2, f3, _⟩, _, ⟨k1, k2, k3, _⟩, ⟨l1, l2, l3, _⟩, _⟩, hrows⟩, _⟩ := id hL
                    have hw := hrows j (by omega)
                    rw [up1_ne _ _ (show j ≠ 4 by omega)] at hw
                    have w1 := hw.1
                    obtain ⟨g1, g2⟩ := mrow_get hw hget
                    have htp := take_put w3 hget
                    generalize (V j)[i] = e at *
                    refine v_iload_n (pc := 80) dX3_restore_80 rfl rfl ?_
                    refine v_aload_n (pc := 81) dX3_restore_81 rfl rfl ?_
                    refine g_R 303 4 (pc := 82) fX3_17 dX3_restore_82 rfl rfl (by assumption) (by assumption) (by assumption) ?_
                    refine v_iload_n (pc := 85) dX3_restore_85 rfl rfl ?_
                    refine n_iald (j) _ (pc := 86) dX3_restore_86 (by assumption) (by assumption) rfl (by omega) (by decide) w1 ?_
                    refine v_icmp_ge 138 (pc := 87) dX3_restore_87 (by decide) (fun hb => ?_) (fun hb => ?_)
                    · have := (nI_leI (by omega) (by omega)).mp hb
                      omega
                    · refine v_aload_n (pc := 90) dX3_restore_90 rfl rfl ?_
                      refine v_iconst (pc := 91) (v := 0) dX3_restore_91 (by decide) ?_
                      refine v_aload_n (pc := 92) dX3_restore_92 rfl rfl ?_
                      refine g_R 301 4 (pc := 93) fX3_7 dX3_restore_93 rfl rfl (by assumption) (by assumption) (by assumption) ?_
                      refine v_sipush (pc := 96) (v := 600) dX3_restore_96 (by decide) ?_
                      refine v_iload_n (pc := 99) dX3_restore_99 rfl rfl ?_
                      refine v_imul (pc := 100) dX3_restore_100 ?_
                      refine v_iload_n (pc := 101) dX3_restore_101 rfl rfl ?_
                      refine v_iadd (pc := 102) dX3_restore_102 ?_
                      refine v_eqi (mx_ix j i) ?_
                      refine n_iald (600 * j + i) _ (pc := 103) dX3_restore_103 (by assumption) (by assumption) rfl (by omega) (by decide) g1 ?_
                      refine v_aload_n (pc := 104) dX3_restore_104 rfl rfl ?_
                      refine g_R 301 4 (pc := 105) fX3_7 dX3_restore_105 rfl rfl (by assumption) (by assumption) (by assumption) ?_
                      refine v_sipush (pc := 108) (v := 600) dX3_restore_108 (by decide) ?_
                      refine v_iload_n (pc := 111) dX3_restore_111 rfl rfl ?_
                      refine v_imul (pc := 112) dX3_restore_112 ?_
                      refine v_iload_n (pc := 113) dX3_restore_113 rfl rfl ?_
                      refine v_iadd (pc := 114) dX3_restore_114 ?_
                      refine v_eqi (mx_ix j i) ?_
                      refine n_iald (600 * j + i) _ (pc := 115) dX3_restore_115 (by assumption) (by assumption) rfl (by omega) (by decide) g1 ?_
                      refine v_aload_n (pc := 116) dX3_restore_116 rfl rfl ?_
                      refine g_R 302 4 (pc := 117) fX3_13 dX3_restore_117 rfl rfl (by assumption) (by assumption) (by assumption) ?_
                      refine v_sipush (pc := 120) (v := 600) dX3_restore_120 (by decide) ?_
                      refine v_iload_n (pc := 123) dX3_restore_123 rfl rfl ?_
                      refine v_imul (pc := 124) dX3_restore_124 ?_
                      refine v_iload_n (pc := 125) dX3_restore_125 rfl rfl ?_
                      refine v_iadd (pc := 126) dX3_restore_126 ?_
                      refine v_eqi (mx_ix j i) ?_
                      refine n_lald (600 * j + i) _ (pc := 127) dX3_restore_127 (by assumption) (by assumption) rfl (by omega) (by decide) g2 ?_
                      refine v_callV 0 0 (pc := 128) kX3_76 dX3_restore_128 rfl (by assumption) (Nat.zero_le _) (Nat.zero_le _) (Nat.le_of_ble_eq_true rfl) (Nat.le_of_ble_eq_true rfl) ?_
                      refine m_message hL (by omega) (by decide) ⟨fun q => absurd q (by decide), fun q => absurd q (by decide), fun _ _ => Or.inr ?_⟩ (fun h' u1 u2 u3 => ?_)
                      · rw [up1_eq, List.length_take]
                        omega
                      · rw [doM_0, up1_eq, up1_up1, htp] at u1
                        refine v_pop2 (pc := 131) dX3_restore_131 rfl ?_
                        refine v_iinc (pc := 132) dX3_restore_132 rfl (mv_inc _) rfl rfl (by decide) ?_
                        refine v_goto 80 (pc := 135) dX3_restore_135 (by decide) ?_
                        exact ih (i + 1) h' (by omega) u1 (SF_tr hF u2) (u3.trans h300)
                refine v_aload_n (pc := 67) dX3_restore_67 rfl rfl ?_
                refine v_iconst (pc := 68) (v := 3) dX3_restore_68 (by decide) ?_
                refine v_ldc (pc := 69) (v := -2147483648) dX3_restore_69 cX3_86 ?_
                refine v_ldc (pc := 71) (v := 2147483647) dX3_restore_71 cX3_87 ?_
                refine v_lconst (pc := 73) (v := 0) dX3_restore_73 (by decide) ?_
                refine v_callV 0 0 (pc := 74) kX3_76 dX3_restore_74 rfl (by assumption) (Nat.zero_le _) (Nat.zero_le _) (Nat.le_of_ble_eq_true rfl) (Nat.le_of_ble_eq_true rfl) ?_
                refine m_message q1 (by omega) (by decide) (okM_3 (i32_min _)) (fun h' u1 u2 u3 => ?_)
                rw [doM_3, del_all] at u1
                refine v_pop2 (pc := 77) dX3_restore_77 rfl ?_
                refine v_iconst (pc := 78) (v := 0) dX3_restore_78 (by decide) ?_
                refine v_istore_n (pc := 79) dX3_restore_79 rfl rfl rfl (by decide) ?_
                exact loop (V j).length 0 h' (by omega) u1 (SF_tr q2 u2) (u3.trans q3)
              · exact absurd (by decide) hb
            · have c2 : ¬ nm + (1 + (V j).length) ≤ 2500 := fun q => hb ((nI_leI (b := 2500) (by omega) (by omega)).mpr (by omega))
              refine v_iconst (pc := 50) (v := 2) dX3_restore_50 (by decide) ?_
              refine v_goto 55 (pc := 51) dX3_restore_51 (by decide) ?_
              refine p_I 300 4 (pc := 55) fX3_37 dX3_restore_55 rfl rfl (by assumption) ?_
              obtain ⟨q1, q2, q3⟩ := md_thr (x := 2) hm
              generalize mh_sfI h 300 mo 2 = hc at *
              have e2 := q1.1.1.1
              refine v_aload_n (pc := 58) dX3_restore_58 rfl rfl ?_
              refine g_I 300 4 (pc := 59) fX3_37 dX3_restore_59 rfl rfl (by assumption) (by assumption) ?_
              refine v_if_le 67 (pc := 62) dX3_restore_62 (by decide) (fun hb => ?_) (fun hb => ?_)
              · exact absurd hb (by decide)
              · refine v_iconst (pc := 65) (v := 0) dX3_restore_65 (by decide) ?_
                refine v_iret (pc := 66) dX3_restore_66 rfl ?_
                exact h2 j hj rfl c c2 hc q1 q2 q3
          · exact absurd hb (by decide)
      · rw [if_neg c]
        refine v_if_eq 20 (pc := 13) dX3_restore_13 (by decide) (fun hb => ?_) (fun hb => ?_)
        · refine fail (fun i hi q => ?_)
          rw [← (nI_eq (by omega) (by omega)).mp q]
          exact c
        · exact absurd rfl hb
  · refine v_if_eq 20 (pc := 4) dX3_restore_4 (by decide) (fun hb => ?_) (fun hb => ?_)
    · exact fail (fun j hj q => absurd q (c j hj))
    · exact absurd rfl hb
set_option maxHeartbeats 4000000 in
set_option maxRecDepth 100000 in
theorem w_settle (hm : md h S mo ka va za sa ki fi la aa V sv nm nk) (h1 : ∀ h', md h' S mo ka va za sa ki fi la aa V sv nm nk → SF S h h' → mh_fI h' 300 mo = 0 → R (.inl none) h') : mv_V G jX3_settle (d + 9) 0 [(0, .ref mo)] [] h 0 0 R := by
  have e1 := hm.1.1.1
  refine v_aload_n (pc := 0) dX3_settle_0 rfl rfl ?_
  refine v_iconst (pc := 1) (v := 0) dX3_settle_1 (by decide) ?_
  refine p_I 300 4 (pc := 2) fX3_37 dX3_settle_2 rfl rfl (by assumption) ?_
  refine v_vret (pc := 5) dX3_settle_5 rfl ?_
  obtain ⟨q1, q2, q3⟩ := md_thr (x := 0) hm
  exact h1 _ q1 q2 q3
theorem md_kpt (hm : md h S mo ka va za sa ki fi la aa V sv nm nk) : md (mh_sfI h 310 mo (nI nm)) S mo ka va za sa ki fi la aa (up1 V 5 (V 4)) sv nm nm ∧ SF S h (mh_sfI h 310 mo (nI nm)) ∧ mh_fI (mh_sfI h 310 mo (nI nm)) 300 mo = mh_fI h 300 mo := by
  obtain ⟨m1, m2, m3, m4, m5, m6, m7, m8, m9⟩ := hm
  refine ⟨⟨⟨m1.1, fun r hr => ?_⟩, m2, m3, ?_, ?_, ⟨Nat.le_refl _, m6.2⟩, m7, ?_, ?_⟩, SF_sfI m2.1, ?_⟩
  · rw [up1_ne _ _ (show r ≠ 5 by omega)]; exact m1.2 r hr
  · rw [mh_fI_sfI, if_neg (fun q => absurd q.1 (by decide))]; exact m4
  · rw [mh_fI_sfI, if_pos ⟨rfl, rfl⟩]
  · rw [up1_ne _ _ (by decide)]; exact m8
  · rw [up1_eq]; exact m8
  · rw [mh_fI_sfI, if_neg (fun q => absurd q.1 (by decide))]
set_option maxHeartbeats 4000000 in
set_option maxRecDepth 100000 in
theorem w_sync (hm : md h S mo ka va za sa ki fi la aa V sv nm nk) (h1 : ∀ h', md h' S mo ka va za sa ki fi la aa (up1 V 5 (V 4)) sv nm nm → SF S h h' → mh_fI h' 300 mo = 0 → R (.inl (some (.int (nI (nm - nk))))) h') : mv_V G jX3_sync (d + 8) 0 [(0, .ref mo)] [] h 0 0 R := by
  have e1 := hm.1.1.1
  refine v_aload_n (pc := 0) dX3_sync_0 rfl rfl ?_
  refine v_iconst (pc := 1) (v := 0) dX3_sync_1 (by decide) ?_
  refine p_I 300 4 (pc := 2) fX3_37 dX3_sync_2 rfl rfl (by assumption) ?_
  obtain ⟨q1, q2, q3⟩ := md_thr (x := 0) hm
  generalize mh_sfI h 300 mo 0 = hc at *
  have e2 := q1.1.1.1
  have m4 := q1.2.2.2.1
  have m5 := q1.2.2.2.2.1
  have m6 := q1.2.2.2.2.2.1
  refine v_aload_n (pc := 5) dX3_sync_5 rfl rfl ?_
  refine g_I 309 4 (pc := 6) fX3_65 dX3_sync_6 rfl rfl (by assumption) (by assumption) ?_
  refine v_aload_n (pc := 9) dX3_sync_9 rfl rfl ?_
  refine g_I 310 4 (pc := 10) fX3_88 dX3_sync_10 rfl rfl (by assumption) (by assumption) ?_
  refine v_isub (pc := 13) dX3_sync_13 ?_
  refine v_eqi (pk_sub m6.1) ?_
  refine v_istore_n (pc := 14) dX3_sync_14 rfl rfl rfl (by decide) ?_
  refine v_aload_n (pc := 15) dX3_sync_15 rfl rfl ?_
  refine v_aload_n (pc := 16) dX3_sync_16 rfl rfl ?_
  refine g_I 309 4 (pc := 17) fX3_65 dX3_sync_17 rfl rfl (by assumption) (by assumption) ?_
  refine p_I 310 4 (pc := 20) fX3_88 dX3_sync_20 rfl rfl (by assumption) ?_
  refine v_iload_n (pc := 23) dX3_sync_23 rfl rfl ?_
  refine v_iret (pc := 24) dX3_sync_24 rfl ?_
  obtain ⟨p1, p2, p3⟩ := md_kpt q1
  exact h1 _ p1 (SF_tr q2 p2) (p3.trans q3)
set_option maxHeartbeats 4000000 in
set_option maxRecDepth 100000 in
theorem w_checkpoint (hm : md h S mo ka va za sa ki fi la aa V sv nm nk) (h1 : ∀ h', md h' S mo ka va za sa ki fi la aa (up1 V 5 (V 4)) sv nm nm → SF S h h' → mh_fI h' 300 mo = 0 → R (.inl (some (.int (nI (nm - nk))))) h') : mv_V G jX3_checkpoint (d + 9) 0 [(0, .ref mo)] [] h 0 0 R := by
  have e1 := hm.1.1.1
  refine v_aload_n (pc := 0) dX3_checkpoint_0 rfl rfl ?_
  refine v_callV 0 0 (pc := 1) kX3_91 dX3_checkpoint_1 rfl (by assumption) (Nat.zero_le _) (Nat.zero_le _) (Nat.le_of_ble_eq_true rfl) (Nat.le_of_ble_eq_true rfl) ?_
  refine w_sync hm (fun h' u1 u2 u3 => ?_)
  refine v_iret (pc := 4) dX3_checkpoint_4 rfl ?_
  exact h1 h' u1 u2 u3
set_option maxHeartbeats 4000000 in
set_option maxRecDepth 100000 in
theorem w_isSound (hm : md h S mo ka va za sa ki fi la aa V sv nm nk) (h1 : ∀ h', md h' S mo ka va za sa ki fi la aa V sv nm nk → SF S h h' → mh_fI h' 300 mo = 0 → R (.inl (some (.int 1))) h') : mv_V G jX3_isSound (d + 9) 0 [(0, .ref mo)] [] h 0 0 R := by
  have e1 := hm.1.1.1
  refine v_aload_n (pc := 0) dX3_isSound_0 rfl rfl ?_
  refine v_iconst (pc := 1) (v := 0) dX3_isSound_1 (by decide) ?_
  refine p_I 300 4 (pc := 2) fX3_37 dX3_isSound_2 rfl rfl (by assumption) ?_
  refine v_iconst (pc := 5) (v := 1) dX3_isSound_5 (by decide) ?_
  refine v_zret (pc := 6) dX3_isSound_6 rfl rfl ?_
  obtain ⟨q1, q2, q3⟩ := md_thr (x := 0) hm
  exact h1 _ q1 q2 q3
set_option maxHeartbeats 4000000 in
set_option maxRecDepth 100000 in
theorem w_total (hm : md h S mo ka va za sa ki fi la aa V sv nm nk) (h1 : ∀ k, v = nI k → k < 3 → ∀ h', md h' S mo ka va za sa ki fi la aa V sv nm nk → SF S h h' → mh_fI h' 300 mo = 0 → R (.inl (some (.int (nI (if k = 0 then nm else if k = 1 then nk else cS sv 4))))) h') (h0 : (∀ k, k < 3 → v ≠ nI k) → ∀ h', md h' S mo ka va za sa ki fi la aa V sv nm nk → SF S h h' → mh_fI h' 300 mo = 1 → R (.inl (some (.int 0))) h') : mv_V G jX3_total (d + 9) 0 [(0, .ref mo), (1, .int v)] [] h 0 0 R := by
  have e1 := hm.1.1.1
  have fail : (∀ k, k < 3 → v ≠ nI k) → mv_V G jX3_total (d + 9) 14 [(0, .ref mo), (1, .int v)] [.ref mo] h 0 0 R := by
    intro hno
    refine v_iconst (pc := 14) (v := 1) dX3_total_14 (by decide) ?_
    refine p_I 300 4 (pc := 15) fX3_37 dX3_total_15 rfl rfl (by assumption) ?_
    obtain ⟨q1, q2, q3⟩ := md_thr (x := 1) hm
    generalize mh_sfI h 300 mo 1 = hc at *
    have e2 := q1.1.1.1
    refine v_aload_n (pc := 18) dX3_total_18 rfl rfl ?_
    refine g_I 300 4 (pc := 19) fX3_37 dX3_total_19 rfl rfl (by assumption) (by assumption) ?_
    refine v_if_le 27 (pc := 22) dX3_total_22 (by decide) (fun hb => ?_) (fun hb => ?_)
    · exact absurd hb (by decide)
    · refine v_iconst (pc := 25) (v := 0) dX3_total_25 (by decide) ?_
      refine v_iret (pc := 26) dX3_total_26 rfl ?_
      exact h0 hno hc q1 q2 q3
  refine v_aload_n (pc := 0) dX3_total_0 rfl rfl ?_
  refine v_iload_n (pc := 1) dX3_total_1 rfl rfl ?_
  refine v_if_lt 14 (pc := 2) dX3_total_2 (by decide) (fun hb => ?_) (fun hb => ?_)
  · exact fail (fun k hk q => nI_ge0 (by omega) (q ▸ hb))
  · have hb1 := hb
    refine v_iload_n (pc := 5) dX3_total_5 rfl rfl ?_
    refine v_iconst (pc := 6) (v := 2) dX3_total_6 (by decide) ?_
    refine v_icmp_gt 14 (pc := 7) dX3_total_7 (by decide) (fun hb => ?_) (fun hb => ?_)
    · exact fail (fun k hk q => by
        rw [q] at hb
        have := (nI_ltI (a := 2) (by omega) (by omega)).mp hb
        omega)
    · obtain ⟨k, hk, q⟩ := i32_ix (n := 3) hb1 (i32_le_lt (Int32.not_lt.mp hb) (by decide)) (by omega)
      refine v_iconst (pc := 10) (v := 0) dX3_total_10 (by decide) ?_
      refine v_goto 15 (pc := 11) dX3_total_11 (by decide) ?_
      refine p_I 300 4 (pc := 15) fX3_37 dX3_total_15 rfl rfl (by assumption) ?_
      obtain ⟨q1, q2, q3⟩ := md_thr (x := 0) hm
      generalize mh_sfI h 300 mo 0 = hc at *
      obtain ⟨⟨⟨e2, ⟨_, _, _, f4, _⟩, ⟨_, _, _, n4, _⟩, ⟨_, _, _, k4, _⟩, ⟨_, _, _, l4, _⟩, _⟩, _⟩, _, m3, m4, m5, _⟩ := id q1
      have fin := h1 k q hk hc q1 q2 q3
      have loop : ∀ m i, i + m = 4 → mv_V G jX3_total (d + 9) 31 [(0, .ref mo), (1, .int v), (2, .int (nI (cS sv i))), (3, .int (nI i))] [] hc 0 0 R := by
        intro m
        induction m with
        | zero =>
          intro i hm2
          have ei : i = 4 := by omega
          subst ei
          refine v_iload_n (pc := 31) dX3_total_31 rfl rfl ?_
          refine v_iconst (pc := 32) (v := 4) dX3_total_32 (by decide) ?_
          refine v_icmp_ge 59 (pc := 33) dX3_total_33 (by decide) (fun hb => ?_) (fun hb => ?_)
          · rcases (show k = 0 ∨ k = 1 ∨ k = 2 by omega) with rfl | rfl | rfl
            · refine v_iload_n (pc := 59) dX3_total_59 rfl rfl ?_
              refine v_if_ne 70 (pc := 60) dX3_total_60 (by decide) (fun hb => ?_) (fun hb => ?_)
              · exact absurd q hb
              · refine v_aload_n (pc := 63) dX3_total_63 rfl rfl ?_
                refine g_I 309 4 (pc := 64) fX3_65 dX3_total_64 rfl rfl (by assumption) (by assumption) ?_
                refine v_goto 83 (pc := 67) dX3_total_67 (by decide) ?_
                refine v_iret (pc := 83) dX3_total_83 rfl ?_
                exact fin
            · refine v_iload_n (pc := 59) dX3_total_59 rfl rfl ?_
              refine v_if_ne 70 (pc := 60) dX3_total_60 (by decide) (fun hb => ?_) (fun hb => ?_)
              · refine v_iload_n (pc := 70) dX3_total_70 rfl rfl ?_
                refine v_iconst (pc := 71) (v := 1) dX3_total_71 (by decide) ?_
                refine v_icmp_ne 82 (pc := 72) dX3_total_72 (by decide) (fun hb => ?_) (fun hb => ?_)
                · exact absurd q hb
                · refine v_aload_n (pc := 75) dX3_total_75 rfl rfl ?_
                  refine g_I 310 4 (pc := 76) fX3_88 dX3_total_76 rfl rfl (by assumption) (by assumption) ?_
                  refine v_goto 83 (pc := 79) dX3_total_79 (by decide) ?_
                  refine v_iret (pc := 83) dX3_total_83 rfl ?_
                  exact fin
              · rw [q] at hb; exact absurd hb (by decide)
            · refine v_iload_n (pc := 59) dX3_total_59 rfl rfl ?_
              refine v_if_ne 70 (pc := 60) dX3_total_60 (by decide) (fun hb => ?_) (fun hb => ?_)
              · refine v_iload_n (pc := 70) dX3_total_70 rfl rfl ?_
                refine v_iconst (pc := 71) (v := 1) dX3_total_71 (by decide) ?_
                refine v_icmp_ne 82 (pc := 72) dX3_total_72 (by decide) (fun hb => ?_) (fun hb => ?_)
                · refine v_iload_n (pc := 82) dX3_total_82 rfl rfl ?_
                  refine v_iret (pc := 83) dX3_total_83 rfl ?_
                  exact fin
                · rw [q] at hb; exact absurd hb (by decide)
              · rw [q] at hb; exact absurd hb (by decide)
          · exact absurd ((nI_leI (a := 4) (b := 4) (by omega) (by omega)).mpr (by omega)) hb
        | succ m ih =>
          intro i hm2
          have g1 := m3 i (by omega)
          have nx := ih (i + 1) (by omega)
          unfold cS at nx
          refine v_iload_n (pc := 31) dX3_total_31 rfl rfl ?_
          refine v_iconst (pc := 32) (v := 4) dX3_total_32 (by decide) ?_
          refine v_icmp_ge 59 (pc := 33) dX3_total_33 (by decide) (fun hb => ?_) (fun hb => ?_)
          · have := (nI_leI (a := 4) (by omega) (by omega)).mp hb
            omega
          · refine v_aload_n (pc := 36) dX3_total_36 rfl rfl ?_
            refine g_R 304 4 (pc := 37) fX3_20 dX3_total_37 rfl rfl (by assumption) (by assumption) (by assumption) ?_
            refine v_iload_n (pc := 40) dX3_total_40 rfl rfl ?_
            refine n_zald (i) _ (pc := 41) dX3_total_41 (by assumption) (by assumption) rfl (by omega) (by decide) g1 ?_
            by_cases c : sv i = true
            · rw [if_pos c]
              rw [if_pos c, nI_succ] at nx
              refine v_if_eq 51 (pc := 42) dX3_total_42 (by decide) (fun hb => ?_) (fun hb => ?_)
              · exact absurd hb (by decide)
              · refine v_iload_n (pc := 45) dX3_total_45 rfl rfl ?_
                refine v_iconst (pc := 46) (v := 1) dX3_total_46 (by decide) ?_
                refine v_iadd (pc := 47) dX3_total_47 ?_
                refine v_goto 52 (pc := 48) dX3_total_48 (by decide) ?_
                refine v_istore_n (pc := 52) dX3_total_52 rfl rfl rfl (by decide) ?_
                refine v_iinc (pc := 53) dX3_total_53 rfl (mv_inc _) rfl rfl (by decide) ?_
                refine v_goto 31 (pc := 56) dX3_total_56 (by decide) ?_
                exact nx
            · rw [if_neg c]
              rw [if_neg c] at nx
              refine v_if_eq 51 (pc := 42) dX3_total_42 (by decide) (fun hb => ?_) (fun hb => ?_)
              · refine v_iload_n (pc := 51) dX3_total_51 rfl rfl ?_
                refine v_istore_n (pc := 52) dX3_total_52 rfl rfl rfl (by decide) ?_
                refine v_iinc (pc := 53) dX3_total_53 rfl (mv_inc _) rfl rfl (by decide) ?_
                refine v_goto 31 (pc := 56) dX3_total_56 (by decide) ?_
                exact nx
              · exact absurd rfl hb
      refine v_aload_n (pc := 18) dX3_total_18 rfl rfl ?_
      refine g_I 300 4 (pc := 19) fX3_37 dX3_total_19 rfl rfl (by assumption) (by assumption) ?_
      refine v_if_le 27 (pc := 22) dX3_total_22 (by decide) (fun hb => ?_) (fun hb => ?_)
      · refine v_iconst (pc := 27) (v := 0) dX3_total_27 (by decide) ?_
        refine v_istore_n (pc := 28) dX3_total_28 rfl rfl rfl (by decide) ?_
        refine v_iconst (pc := 29) (v := 0) dX3_total_29 (by decide) ?_
        refine v_istore_n (pc := 30) dX3_total_30 rfl rfl rfl (by decide) ?_
        exact loop 4 0 (by omega)
      · exact absurd (by decide) hb
end MDX
