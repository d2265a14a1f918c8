/-! LazyPagesModel: enter, doDelete, doRaise, done. -/
theorem mh_aJ_wI (h : mh_T) (a : Nat) (f : Nat → Int32) (x y : Nat) : mh_aJ (mh_wI h a f) x y = mh_aJ h x y := rfl
def mF (h h' : mh_T) (ka va za : Nat) : Prop := ∀ a, a ≠ ka → a ≠ va → a ≠ za → mh_sm h h' a
theorem mF_tr {h h1 h2 : mh_T} {ka va za : Nat} (x : mF h h1 ka va za) (y : mF h1 h2 ka va za) : mF h h2 ka va za := fun a a1 a2 a3 => mh_sm_tr (x a a1 a2 a3) (y a a1 a2 a3)
theorem pl_congr {K K' : Nat → Int32} {V V' : Nat → Int64} {w : Int64} {u : Nat} (h1 : ∀ i, i < u → K i = K' i) (h2 : ∀ i, i < u → V i = V' i) : pl K V w u = pl K' V' w u := rm_congr (fun i hi => by rw [h1 i hi, h2 i hi])
section MD4
variable {h h' : mh_T} {mo ka va za sa ki fi la aa : Nat} {V : Nat → List En}
theorem MDs_of (hm : MDs h mo ka va za sa ki fi la aa) (e1 : ∀ a, mh_kd h' a = mh_kd h a) (e2 : ∀ a, mh_ln h' a = mh_ln h a) (e3 : ∀ F a, mh_fR h' F a = mh_fR h F a) : MDs h' mo ka va za sa ki fi la aa := by
  unfold MDs at *
  rw [e1, e1, e1, e1, e1, e1, e1, e1, e1, e2, e2, e2, e2, e2, e2, e2, e2, e3, e3, e3, e3, e3, e3, e3, e3]
  exact hm
theorem md0_4 {L : List En} (hm : md0 h mo ka va za sa ki fi la aa V) (e1 : ∀ a, mh_kd h' a = mh_kd h a) (e2 : ∀ a, mh_ln h' a = mh_ln h a) (e3 : ∀ F a, mh_fR h' F a = mh_fR h F a) (k1 : ∀ y, y < 2400 → mh_aI h' ka y = mh_aI h ka y) (v1 : ∀ y, y < 2400 → mh_aJ h' va y = mh_aJ h va y) (z1 : ∀ r, r < 4 → mh_aI h' za r = mh_aI h za r) (z2 : mh_aI h' za 4 = nI L.length) (hl : L.length ≤ 600) (hu : up L) (hp : pl (fun i => mh_aI h' ka (600 * 4 + i)) (fun i => mh_aJ h' va (600 * 4 + i)) 0 L.length = L) : md0 h' mo ka va za sa ki fi la aa (up1 V 4 L) := by
  refine ⟨MDs_of hm.1 e1 e2 e3, fun r hr => ?_⟩
  by_cases c : r = 4
  · subst c
    rw [up1_eq]
    exact ⟨z2, hl, hu, hp⟩
  · rw [up1_ne _ _ c]
    obtain ⟨w1, w2, w3, w4⟩ := hm.2 r hr
    refine ⟨(z1 r (by omega)).trans w1, w2, w3, Eq.trans ?_ w4⟩
    exact pl_congr (fun i hi => k1 _ (by omega)) (fun i hi => v1 _ (by omega))
end MD4
theorem ix_24 (c : Nat) : (2400 : Int32) + nI c = nI (2400 + c) := nI_add 2400 c
section MDE
variable {G : mv_G} {d : Nat} {h : mh_T} {mo ka va za sa ki fi la aa : Nat} {V : Nat → List En} {r : Nat} {key a b : Int32} {y : Int64} {R : mv_O → mh_T → Prop}
set_option maxHeartbeats 4000000 in
set_option maxRecDepth 100000 in
theorem m_enter (hm : md0 h mo ka va za sa ki fi la aa V) (hroom : hasK (V 4) key = true ∨ (V 4).length < 600) (hR : ∀ h', md0 h' mo ka va za sa ki fi la aa (up1 V 4 (putK (V 4) key y)) → mF h h' ka va za → R (.inl none) h') : mv_V G jX3_enter (d + 2) 0 [(0, .ref mo), (1, .int key), (2, .long y)] [] h 0 0 R := by
  obtain ⟨⟨e1, ⟨f1, f2, f3, f4, f5, f6, f7, f8⟩, ⟨n1, n2, n3, n4, n5, n6, n7, n8⟩, ⟨k1, k2, k3, k4, k5, k6, k7, k8⟩, ⟨l1, l2, l3, l4, l5, l6, l7, l8⟩, dz, _⟩, hrows⟩ := id hm
  have hw := hrows 4 (by omega)
  obtain ⟨w1, w2, w3, w4⟩ := id hw
  have hs := mrow_rsg hw
  have hp := mrow_has (key := key) hw
  have q := pb_le (fun i => mh_aI h ka (600 * 4 + i)) (V 4).length key
  have zk : za ≠ ka := dz.symm
  have kvv : va ≠ ka := fun e => by rw [e, k1] at k2; exact absurd k2 (by decide)
  refine v_sipush (pc := 0) (v := 2400) dX3_enter_0 (by decide) ?_
  refine v_aload_n (pc := 3) dX3_enter_3 rfl rfl ?_
  refine v_iconst (pc := 4) (v := 4) dX3_enter_4 (by decide) ?_
  refine v_iload_n (pc := 5) dX3_enter_5 rfl rfl ?_
  refine v_i2l (pc := 6) dX3_enter_6 ?_
  refine v_callV 0 0 (pc := 7) kX3_41 dX3_enter_7 rfl (by assumption) (Nat.zero_le _) (Nat.zero_le _) (Nat.le_of_ble_eq_true rfl) (Nat.le_of_ble_eq_true rfl) ?_
  refine m_belowA (r := 4) hm (by omega) ?_
  generalize hpb : pb (fun i => mh_aI h ka (600 * 4 + i)) (V 4).length key = p at *
  refine v_iadd (pc := 10) dX3_enter_10 ?_
  refine v_eqi (ix_24 p) ?_
  refine v_istore (pc := 11) dX3_enter_11 rfl rfl (by decide) ?_
  refine v_aload_n (pc := 13) dX3_enter_13 rfl rfl ?_
  refine v_iconst (pc := 14) (v := 4) dX3_enter_14 (by decide) ?_
  refine v_iload_n (pc := 15) dX3_enter_15 rfl rfl ?_
  refine v_callV 0 0 (pc := 16) kX3_45 dX3_enter_16 rfl (by assumption) (Nat.zero_le _) (Nat.zero_le _) (Nat.le_of_ble_eq_true rfl) (Nat.le_of_ble_eq_true rfl) ?_
  refine m_isIn (r := 4) hm (by omega) ?_
  by_cases c : hasK (V 4) key = true
  · rw [if_pos c]
    refine v_if_ne 89 (pc := 19) dX3_enter_19 (by decide) (fun hb => ?_) (fun hb => ?_)
    · obtain ⟨p1, p2⟩ := hp.mp c
      refine v_aload_n (pc := 89) dX3_enter_89 rfl rfl ?_
      refine g_R 301 4 (pc := 90) fX3_7 dX3_enter_90 rfl rfl (by assumption) (by assumption) (by assumption) ?_
      refine v_iload (pc := 93) dX3_enter_93 rfl ?_
      refine v_iload_n (pc := 95) dX3_enter_95 rfl rfl ?_
      refine n_iast (2400 + p) _ (pc := 96) dX3_enter_96 (by assumption) (by assumption) rfl (by omega) (by decide) ?_
      refine v_aload_n (pc := 97) dX3_enter_97 rfl rfl ?_
      refine g_R 302 4 (pc := 98) fX3_13 dX3_enter_98 rfl rfl (by assumption) (by assumption) (by assumption) ?_
      refine v_iload (pc := 101) dX3_enter_101 rfl ?_
      refine v_lload_n (pc := 103) dX3_enter_103 rfl rfl ?_
      refine n_last (2400 + p) _ (pc := 104) dX3_enter_104 (by assumption) (by assumption) rfl (by omega) (by decide) ?_
      refine v_vret (pc := 105) dX3_enter_105 rfl ?_
      refine hR _ (md0_4 hm (fun _ => rfl) (fun _ => rfl) (fun _ _ => rfl) (fun z hz => ?_) (fun z hz => ?_) (fun r hr => ?_) ?_ ?_ (up_put w3 _ _) ?_) (fun z z1 z2 z3 => ?_)
      · rw [mh_aI_saJ, mh_aI_saI, if_neg (by omega)]
      · rw [mh_aJ_saJ, if_neg (by omega)]; rfl
      · rw [mh_aI_saJ, mh_aI_saI, if_neg (fun q => zk q.1)]
      · rw [mh_aI_saJ, mh_aI_saI, if_neg (fun q => zk q.1), put_len_has w3 c]; exact w1
      · rw [put_len_has w3 c]; exact w2
      · rw [put_len_has w3 c]
        have z := pl_set (V := fun i => mh_aJ h va (600 * 4 + i)) (w := 0) (x := y) hs (by rw [hpb]; exact ⟨p1, p2⟩)
        rw [w4, hpb] at z
        rw [← z]
        refine pl_congr (fun i hi => ?_) (fun i hi => ?_)
        · rw [mh_aI_saJ, mh_aI_saI]
          by_cases ci : i = p
          · subst ci
            rw [if_pos ⟨rfl, by omega⟩, p2]
          · rw [if_neg (by omega)]
        · rw [mh_aJ_saJ, mh_aJ_saI]
          by_cases ci : i = p
          · subst ci
            rw [if_pos ⟨rfl, by omega⟩, if_pos rfl, Int64.sub_zero]
          · rw [if_neg (by omega), if_neg ci]
      · exact mh_sm_tr (mh_sm_saI z1) (by
          refine ⟨rfl, rfl, fun _ => rfl, fun _ => rfl, fun _ => rfl, fun _ => rfl, fun j => ?_, fun _ => rfl⟩
          rw [mh_aJ_saJ, if_neg (fun q => z2 q.1)])
    · exact absurd hb (by decide)
  · rw [if_neg c]
    have hlen : (V 4).length < 600 := by
      rcases hroom with z | z
      · exact absurd z c
      · exact z
    have loop : ∀ m k, p + m = k → k ≤ (V 4).length → mv_V G jX3_enter (d + 2) 34 [(0, .ref mo), (1, .int key), (2, .long y), (4, .int (nI (2400 + p))), (5, .int (nI (2400 + k)))] [] (mh_wJ (mh_wI h ka (fun z => if 2400 + k < z ∧ z ≤ 2400 + (V 4).length then mh_aI h ka (z - 1) else mh_aI h ka z)) va (fun z => if 2400 + k < z ∧ z ≤ 2400 + (V 4).length then mh_aJ h va (z - 1) else mh_aJ h va z)) 0 0 R := by
      intro m
      induction m with
      | zero =>
        intro k hk hku
        have ek : k = p := by omega
        subst ek
        refine v_iload (pc := 34) dX3_enter_34 rfl ?_
        refine v_iload (pc := 36) dX3_enter_36 rfl ?_
        refine v_icmp_le 79 (pc := 38) dX3_enter_38 (by decide) (fun hb => ?_) (fun hb => ?_)
        · have rz : mh_aI (mh_wJ (mh_wI h ka (fun z => if 2400 + k < z ∧ z ≤ 2400 + (V 4).length then mh_aI h ka (z - 1) else mh_aI h ka z)) va (fun z => if 2400 + k < z ∧ z ≤ 2400 + (V 4).length then mh_aJ h va (z - 1) else mh_aJ h va z)) za 4 = nI (V 4).length := by
            rw [mh_aI_wJ, mh_aI_wI, if_neg zk]; exact w1
          refine v_aload_n (pc := 79) dX3_enter_79 rfl rfl ?_
          refine g_R 303 4 (pc := 80) fX3_17 dX3_enter_80 rfl rfl (by assumption) (by assumption) (by assumption) ?_
          refine v_iconst (pc := 83) (v := 4) dX3_enter_83 (by decide) ?_
          refine v_dup2 (pc := 84) dX3_enter_84 rfl rfl ?_
          refine n_iald (4) _ (pc := 85) dX3_enter_85 (by assumption) (by assumption) rfl (by omega) (by decide) rz ?_
          refine v_iconst (pc := 86) (v := 1) dX3_enter_86 (by decide) ?_
          refine v_iadd (pc := 87) dX3_enter_87 ?_
          refine v_eqi (nI_succ _).symm ?_
          refine n_iast (4) _ (pc := 88) dX3_enter_88 (by assumption) (by assumption) rfl (by omega) (by decide) ?_
          refine v_aload_n (pc := 89) dX3_enter_89 rfl rfl ?_
          refine g_R 301 4 (pc := 90) fX3_7 dX3_enter_90 rfl rfl (by assumption) (by assumption) (by assumption) ?_
          refine v_iload (pc := 93) dX3_enter_93 rfl ?_
          refine v_iload_n (pc := 95) dX3_enter_95 rfl rfl ?_
          refine n_iast (2400 + k) _ (pc := 96) dX3_enter_96 (by assumption) (by assumption) rfl (by omega) (by decide) ?_
          refine v_aload_n (pc := 97) dX3_enter_97 rfl rfl ?_
          refine g_R 302 4 (pc := 98) fX3_13 dX3_enter_98 rfl rfl (by assumption) (by assumption) (by assumption) ?_
          refine v_iload (pc := 101) dX3_enter_101 rfl ?_
          refine v_lload_n (pc := 103) dX3_enter_103 rfl rfl ?_
          refine n_last (2400 + k) _ (pc := 104) dX3_enter_104 (by assumption) (by assumption) rfl (by omega) (by decide) ?_
          refine v_vret (pc := 105) dX3_enter_105 rfl ?_
          have hln := put_len_no (x := y) c
          refine hR _ (md0_4 hm (fun _ => rfl) (fun _ => rfl) (fun _ _ => rfl) (fun z hz => ?_) (fun z hz => ?_) (fun r hr => ?_) ?_ ?_ (up_put w3 _ _) ?_) (fun z z1 z2 z3 => ?_)
          · rw [mh_aI_saJ, mh_aI_saI, if_neg (by omega), mh_aI_saI, if_neg (fun q => zk q.1.symm), mh_aI_wJ, mh_aI_wI, if_pos rfl, if_neg (by omega)]
          · rw [mh_aJ_saJ, if_neg (by omega), mh_aJ_saI, mh_aJ_saI, mh_aJ_wJ, if_pos rfl, if_neg (by omega)]
          · rw [mh_aI_saJ, mh_aI_saI, if_neg (fun q => zk q.1), mh_aI_saI, if_neg (by omega), mh_aI_wJ, mh_aI_wI, if_neg zk]
          · rw [mh_aI_saJ, mh_aI_saI, if_neg (fun q => zk q.1), mh_aI_saI, if_pos ⟨rfl, rfl⟩, hln]
          · omega
          · rw [hln]
            have z := pl_ins (V := fun i => mh_aJ h va (600 * 4 + i)) (w := 0) (x := y) hs (by rw [hpb]; exact fun q => c (hp.mpr q))
            rw [w4, hpb] at z
            rw [← z]
            refine pl_congr (fun i hi => ?_) (fun i hi => ?_)
            · rw [mh_aI_saJ, mh_aI_saI, mh_aI_saI, mh_aI_wJ, mh_aI_wI]
              unfold insF
              by_cases ci : i = k
              · subst ci
                rw [if_pos ⟨rfl, by omega⟩, if_pos rfl]
              · rw [if_neg (by omega), if_neg ci, if_neg (fun q => zk q.1.symm), if_pos rfl]
                by_cases c2 : k + 1 ≤ i
                · rw [if_pos (by omega), if_pos (by omega)]
                  have e : 600 * 4 + i - 1 = 600 * 4 + (k + (i - (k + 1))) := by omega
                  rw [e]
                · rw [if_neg (by omega), if_neg (by omega)]
            · rw [mh_aJ_saJ, mh_aJ_saI, mh_aJ_saI, mh_aJ_wJ]
              unfold insF
              by_cases ci : i = k
              · subst ci
                rw [if_pos ⟨rfl, by omega⟩, if_pos rfl, Int64.sub_zero]
              · rw [if_neg (by omega), if_neg ci, if_pos rfl]
                by_cases c2 : k + 1 ≤ i
                · rw [if_pos (by omega), if_pos (by omega)]
                  have e : 600 * 4 + i - 1 = 600 * 4 + (k + (i - (k + 1))) := by omega
                  rw [e]
                · rw [if_neg (by omega), if_neg (by omega)]
          · refine ⟨rfl, rfl, fun _ => rfl, fun _ => rfl, fun _ => rfl, fun j => ?_, fun j => ?_, fun _ => rfl⟩
            · rw [mh_aI_saJ, mh_aI_saI, if_neg (fun q => z1 q.1), mh_aI_saI, if_neg (fun q => z3 q.1), mh_aI_wJ, mh_aI_wI, if_neg z1]
            · rw [mh_aJ_saJ, if_neg (fun q => z2 q.1), mh_aJ_saI, mh_aJ_saI, mh_aJ_wJ, if_neg z2]; rfl
        · exact absurd ((nI_leI (by omega) (by omega)).mpr (by omega)) hb
      | succ m ih =>
        intro k hk hku
        have s1 : nI (2400 + k) - (1 : Int32) = nI (2400 + k - 1) := pk_sub (a := 2400 + k) (b := 1) (by omega)
        have s2 : nI (2400 + k) + Int32.ofInt (-1) = nI (2400 + (k - 1)) := by
          rw [show 2400 + (k - 1) = 2400 + k - 1 by omega, ← s1, Int32.sub_eq_add_neg]; rfl
        refine v_iload (pc := 34) dX3_enter_34 rfl ?_
        refine v_iload (pc := 36) dX3_enter_36 rfl ?_
        refine v_icmp_le 79 (pc := 38) dX3_enter_38 (by decide) (fun hb => ?_) (fun hb => ?_)
        · have := (nI_leI (by omega) (by omega)).mp hb
          omega
        · refine v_aload_n (pc := 41) dX3_enter_41 rfl rfl ?_
          refine g_R 301 4 (pc := 42) fX3_7 dX3_enter_42 rfl rfl (by assumption) (by assumption) (by assumption) ?_
          refine v_iload (pc := 45) dX3_enter_45 rfl ?_
          refine v_aload_n (pc := 47) dX3_enter_47 rfl rfl ?_
          refine g_R 301 4 (pc := 48) fX3_7 dX3_enter_48 rfl rfl (by assumption) (by assumption) (by assumption) ?_
          refine v_iload (pc := 51) dX3_enter_51 rfl ?_
          refine v_iconst (pc := 53) (v := 1) dX3_enter_53 (by decide) ?_
          refine v_isub (pc := 54) dX3_enter_54 ?_
          refine v_eqi s1 ?_
          refine n_iald (2400 + k - 1) _ (pc := 55) dX3_enter_55 (by assumption) (by assumption) rfl (by omega) (by decide) rfl ?_
          refine n_iast (2400 + k) _ (pc := 56) dX3_enter_56 (by assumption) (by assumption) rfl (by omega) (by decide) ?_
          refine v_aload_n (pc := 57) dX3_enter_57 rfl rfl ?_
          refine g_R 302 4 (pc := 58) fX3_13 dX3_enter_58 rfl rfl (by assumption) (by assumption) (by assumption) ?_
          refine v_iload (pc := 61) dX3_enter_61 rfl ?_
          refine v_aload_n (pc := 63) dX3_enter_63 rfl rfl ?_
          refine g_R 302 4 (pc := 64) fX3_13 dX3_enter_64 rfl rfl (by assumption) (by assumption) (by assumption) ?_
          refine v_iload (pc := 67) dX3_enter_67 rfl ?_
          refine v_iconst (pc := 69) (v := 1) dX3_enter_69 (by decide) ?_
          refine v_isub (pc := 70) dX3_enter_70 ?_
          refine v_eqi s1 ?_
          refine n_lald (2400 + k - 1) _ (pc := 71) dX3_enter_71 (by assumption) (by assumption) rfl (by omega) (by decide) rfl ?_
          refine n_last (2400 + k) _ (pc := 72) dX3_enter_72 (by assumption) (by assumption) rfl (by omega) (by decide) ?_
          refine v_iinc (pc := 73) dX3_enter_73 rfl s2 rfl rfl (by decide) ?_
          refine v_goto 34 (pc := 76) dX3_enter_76 (by decide) ?_
          refine v_eqh ?_ (ih (k - 1) (by omega) (by omega))
          refine mh_ext (fun _ => rfl) (fun _ => rfl) (fun _ _ => rfl) (fun _ _ => rfl) (fun _ _ => rfl) (fun w z => ?_) (fun w z => ?_) (fun _ _ => rfl)
          · rw [mh_aI_saJ, mh_aI_saI, mh_aI_wJ, mh_aI_wI, mh_aI_wJ, mh_aI_wI, mh_aI_wJ, mh_aI_wI, if_pos rfl]
            by_cases cw : w = ka
            · subst cw
              by_cases cz : z = 2400 + k
              · rw [if_pos ⟨rfl, cz⟩, if_neg (by omega), if_pos rfl, if_pos (by omega), cz]
              · rw [if_neg (fun q => cz q.2), if_pos rfl, if_pos rfl]
                by_cases c3 : 2400 + k < z ∧ z ≤ 2400 + (V 4).length
                · rw [if_pos c3, if_pos (by omega)]
                · rw [if_neg c3, if_neg (by omega)]
            · rw [if_neg (fun q => cw q.1), if_neg cw, if_neg cw]
          · rw [mh_aJ_saJ, mh_aJ_saI, mh_aJ_saI, mh_aJ_wJ, mh_aJ_wJ, mh_aJ_wJ, if_pos rfl]
            by_cases cw : w = va
            · subst cw
              by_cases cz : z = 2400 + k
              · rw [if_pos ⟨rfl, cz⟩, if_neg (by omega), if_pos rfl, if_pos (by omega), cz]
              · rw [if_neg (fun q => cz q.2), if_pos rfl, if_pos rfl]
                by_cases c3 : 2400 + k < z ∧ z ≤ 2400 + (V 4).length
                · rw [if_pos c3, if_pos (by omega)]
                · rw [if_neg c3, if_neg (by omega)]
            · rw [if_neg (fun q => cw q.1), if_neg cw, if_neg cw]; rfl
    refine v_if_ne 89 (pc := 19) dX3_enter_19 (by decide) (fun hb => ?_) (fun hb => ?_)
    · exact absurd rfl hb
    · refine v_sipush (pc := 22) (v := 2400) dX3_enter_22 (by decide) ?_
      refine v_aload_n (pc := 25) dX3_enter_25 rfl rfl ?_
      refine g_R 303 4 (pc := 26) fX3_17 dX3_enter_26 rfl rfl (by assumption) (by assumption) (by assumption) ?_
      refine v_iconst (pc := 29) (v := 4) dX3_enter_29 (by decide) ?_
      refine n_iald (4) _ (pc := 30) dX3_enter_30 (by assumption) (by assumption) rfl (by omega) (by decide) w1 ?_
      refine v_iadd (pc := 31) dX3_enter_31 ?_
      refine v_eqi (ix_24 _) ?_
      refine v_istore (pc := 32) dX3_enter_32 rfl rfl (by decide) ?_
      refine v_eqh ?_ (loop ((V 4).length - p) (V 4).length (by omega) (Nat.le_refl _))
      refine mh_ext (fun _ => rfl) (fun _ => rfl) (fun _ _ => rfl) (fun _ _ => rfl) (fun _ _ => rfl) (fun w z => ?_) (fun w z => ?_) (fun _ _ => rfl)
      · rw [mh_aI_wJ, mh_aI_wI]
        by_cases cw : w = ka
        · rw [if_pos cw, if_neg (by omega), cw]
        · rw [if_neg cw]
      · rw [mh_aJ_wJ]
        by_cases cw : w = va
        · rw [if_pos cw, if_neg (by omega), cw]
        · rw [if_neg cw]; rfl
end MDE
