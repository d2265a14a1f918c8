/-! LazyPages: its public calls, the reads and the views. -/
section LPR
variable {G : mv_G} {d : Nat} {h : mh_T} {x : Nat} {S : Nat → Prop} {vs sa : Nat} {T : Nat → Nat} {SS : Nat → Nat → Prop} {V : Nat → List En} {sv : Nat → Bool} {nm nk : Nat} {key v v2 a b : Int32} {y : Int64} {R : mv_O → mh_T → Prop}
theorem LP_t {j : Nat} (hL : LPx h x S vs sa T SS V sv nm nk) (hj : j < 6) : TB h (T j) (SS j) (V j) := (hL.2.2.1 j hj).2.1
set_option maxHeartbeats 4000000 in
set_option maxRecDepth 100000 in
theorem o_has (hL : LPx h x S vs sa T SS V sv nm nk) (h1 : ∀ j, isR v sv j → R (.inl (some (.int (if hasK (V j) key = true then 1 else 0)))) h) (h0 : (∀ j, ¬ isR v sv j) → R (.inr 2) h) : mv_V G jX2_has (d + 9) 0 [(0, .ref x), (1, .int v), (2, .int key)] [] h 8 48 R := by
  have e1 := hL.1.1
  refine v_aload_n (pc := 0) dX2_has_0 rfl rfl ?_
  refine v_iload_n (pc := 1) dX2_has_1 rfl rfl ?_
  refine v_callV 2 12 (pc := 2) kX2_87 dX2_has_2 rfl (by assumption) (by omega) (by omega) (Nat.le_of_ble_eq_true rfl) (Nat.le_of_ble_eq_true rfl) ?_
  refine p_tableOf hL (fun j hj => ?_) (fun q => t_out rfl (h0 q))
  have g2 := LP_t hL (show j < 6 by have := isR_lt hj; omega)
  have k1 := TB_kd g2
  have z := h1 j hj
  refine v_iload_n (pc := 5) dX2_has_5 rfl rfl ?_
  refine v_callV 0 0 (pc := 6) kX2_46 dX2_has_6 rfl (by assumption) (Nat.zero_le _) (Nat.zero_le _) (Nat.le_of_ble_eq_true rfl) (Nat.le_of_ble_eq_true rfl) ?_
  refine t_holds g2 ?_
  by_cases c : hasK (V j) key = true
  · rw [if_pos c] at z ⊢
    refine v_zret (pc := 9) dX2_has_9 rfl rfl ?_
    exact z
  · rw [if_neg c] at z ⊢
    refine v_zret (pc := 9) dX2_has_9 rfl rfl ?_
    exact z
set_option maxHeartbeats 4000000 in
set_option maxRecDepth 100000 in
theorem o_get (hL : LPx h x S vs sa T SS V sv nm nk) (h1 : ∀ j, isR v sv j → R (.inl (some (.long (valK (V j) key)))) h) (h0 : (∀ j, ¬ isR v sv j) → R (.inr 2) h) : mv_V G jX2_get (d + 9) 0 [(0, .ref x), (1, .int v), (2, .int key)] [] h 8 48 R := by
  have e1 := hL.1.1
  refine v_aload_n (pc := 0) dX2_get_0 rfl rfl ?_
  refine v_iload_n (pc := 1) dX2_get_1 rfl rfl ?_
  refine v_callV 2 12 (pc := 2) kX2_87 dX2_get_2 rfl (by assumption) (by omega) (by omega) (Nat.le_of_ble_eq_true rfl) (Nat.le_of_ble_eq_true rfl) ?_
  refine p_tableOf hL (fun j hj => ?_) (fun q => t_out rfl (h0 q))
  have g2 := LP_t hL (show j < 6 by have := isR_lt hj; omega)
  have k1 := TB_kd g2
  refine v_iload_n (pc := 5) dX2_get_5 rfl rfl ?_
  refine v_callV 0 0 (pc := 6) kX2_42 dX2_get_6 rfl (by assumption) (Nat.zero_le _) (Nat.zero_le _) (Nat.le_of_ble_eq_true rfl) (Nat.le_of_ble_eq_true rfl) ?_
  refine t_valueOf g2 ?_
  refine v_lret (pc := 9) dX2_get_9 rfl ?_
  exact h1 j hj
set_option maxHeartbeats 4000000 in
set_option maxRecDepth 100000 in
theorem o_count (hL : LPx h x S vs sa T SS V sv nm nk) (h1 : ∀ j, isR v sv j → a ≤ b → R (.inl (some (.int (nI (cntK (V j) a b))))) h) (h0 : (∀ j, ¬ isR v sv j) → R (.inr 2) h) (h2 : ∀ j, isR v sv j → ¬ a ≤ b → R (.inr 1) h) : mv_V G jX2_count (d + 9) 0 [(0, .ref x), (1, .int v), (2, .int a), (3, .int b)] [] h 8 48 R := by
  have e1 := hL.1.1
  refine v_aload_n (pc := 0) dX2_count_0 rfl rfl ?_
  refine v_iload_n (pc := 1) dX2_count_1 rfl rfl ?_
  refine v_callV 2 12 (pc := 2) kX2_87 dX2_count_2 rfl (by assumption) (by omega) (by omega) (Nat.le_of_ble_eq_true rfl) (Nat.le_of_ble_eq_true rfl) ?_
  refine p_tableOf hL (fun j hj => ?_) (fun q => t_out rfl (h0 q))
  have g2 := LP_t hL (show j < 6 by have := isR_lt hj; omega)
  have k1 := TB_kd g2
  refine v_astore (pc := 5) dX2_count_5 rfl rfl (by decide) ?_
  refine v_iload_n (pc := 7) dX2_count_7 rfl rfl ?_
  refine v_iload_n (pc := 8) dX2_count_8 rfl rfl ?_
  refine v_callS 1 6 (pc := 9) kX2_56 dX2_count_9 (Nat.le_of_ble_eq_true rfl) (by omega) (by omega) (Nat.le_of_ble_eq_true rfl) (Nat.le_of_ble_eq_true rfl) ?_
  refine p_reqRange (fun c => ?_) (fun c => t_out rfl (h2 j hj c))
  refine v_aload (pc := 12) dX2_count_12 rfl ?_
  refine v_iload_n (pc := 14) dX2_count_14 rfl rfl ?_
  refine v_iload_n (pc := 15) dX2_count_15 rfl rfl ?_
  refine v_callV 0 0 (pc := 16) kX2_73 dX2_count_16 rfl (by assumption) (Nat.zero_le _) (Nat.zero_le _) (Nat.le_of_ble_eq_true rfl) (Nat.le_of_ble_eq_true rfl) ?_
  refine t_countIn g2 c ?_
  refine v_iret (pc := 19) dX2_count_19 rfl ?_
  exact h1 j hj c
set_option maxHeartbeats 4000000 in
set_option maxRecDepth 100000 in
theorem o_sum (hL : LPx h x S vs sa T SS V sv nm nk) (h1 : ∀ j, isR v sv j → a ≤ b → R (.inl (some (.long (sumK ((V j).filter (kIn a b)))))) h) (h0 : (∀ j, ¬ isR v sv j) → R (.inr 2) h) (h2 : ∀ j, isR v sv j → ¬ a ≤ b → R (.inr 1) h) : mv_V G jX2_sum (d + 9) 0 [(0, .ref x), (1, .int v), (2, .int a), (3, .int b)] [] h 8 48 R := by
  have e1 := hL.1.1
  refine v_aload_n (pc := 0) dX2_sum_0 rfl rfl ?_
  refine v_iload_n (pc := 1) dX2_sum_1 rfl rfl ?_
  refine v_callV 2 12 (pc := 2) kX2_87 dX2_sum_2 rfl (by assumption) (by omega) (by omega) (Nat.le_of_ble_eq_true rfl) (Nat.le_of_ble_eq_true rfl) ?_
  refine p_tableOf hL (fun j hj => ?_) (fun q => t_out rfl (h0 q))
  have g2 := LP_t hL (show j < 6 by have := isR_lt hj; omega)
  have k1 := TB_kd g2
  refine v_astore (pc := 5) dX2_sum_5 rfl rfl (by decide) ?_
  refine v_iload_n (pc := 7) dX2_sum_7 rfl rfl ?_
  refine v_iload_n (pc := 8) dX2_sum_8 rfl rfl ?_
  refine v_callS 1 6 (pc := 9) kX2_56 dX2_sum_9 (Nat.le_of_ble_eq_true rfl) (by omega) (by omega) (Nat.le_of_ble_eq_true rfl) (Nat.le_of_ble_eq_true rfl) ?_
  refine p_reqRange (fun c => ?_) (fun c => t_out rfl (h2 j hj c))
  refine v_aload (pc := 12) dX2_sum_12 rfl ?_
  refine v_iload_n (pc := 14) dX2_sum_14 rfl rfl ?_
  refine v_iload_n (pc := 15) dX2_sum_15 rfl rfl ?_
  refine v_callV 0 0 (pc := 16) kX2_91 dX2_sum_16 rfl (by assumption) (Nat.zero_le _) (Nat.zero_le _) (Nat.le_of_ble_eq_true rfl) (Nat.le_of_ble_eq_true rfl) ?_
  refine t_sumIn g2 c ?_
  refine v_lret (pc := 19) dX2_sum_19 rfl ?_
  exact h1 j hj c
theorem cnt_le (M : List En) (a b : Int32) : cntK M a b ≤ M.length := List.length_filter_le _ _
set_option maxHeartbeats 4000000 in
set_option maxRecDepth 100000 in
theorem o_key (hL : LPx h x S vs sa T SS V sv nm nk) (h1 : ∀ j k e, isR v sv j → k < cntK (V j) a 2147483647 → b = nI k → (V j)[(V j).length - cntK (V j) a 2147483647 + k]? = some e → R (.inl (some (.int e.1))) h) (h0 : (∀ j, ¬ isR v sv j) → R (.inr 2) h) (h2 : ∀ j, isR v sv j → (∀ k, k < cntK (V j) a 2147483647 → b ≠ nI k) → R (.inr 1) h) : mv_V G jX2_key (d + 9) 0 [(0, .ref x), (1, .int v), (2, .int a), (3, .int b)] [] h 8 48 R := by
  have e1 := hL.1.1
  refine v_aload_n (pc := 0) dX2_key_0 rfl rfl ?_
  refine v_iload_n (pc := 1) dX2_key_1 rfl rfl ?_
  refine v_callV 2 12 (pc := 2) kX2_87 dX2_key_2 rfl (by assumption) (by omega) (by omega) (Nat.le_of_ble_eq_true rfl) (Nat.le_of_ble_eq_true rfl) ?_
  refine p_tableOf hL (fun j hj => ?_) (fun q => t_out rfl (h0 q))
  have g2 := LP_t hL (show j < 6 by have := isR_lt hj; omega)
  have k1 := TB_kd g2
  have k2 := TB_sz g2
  have k3 := TB_len g2
  have k4 := cnt_le (V j) a 2147483647
  refine v_astore (pc := 5) dX2_key_5 rfl rfl (by decide) ?_
  refine v_aload (pc := 7) dX2_key_7 rfl ?_
  refine v_iload_n (pc := 9) dX2_key_9 rfl rfl ?_
  refine v_ldc (pc := 10) (v := 2147483647) dX2_key_10 cX2_97 ?_
  refine v_callV 0 0 (pc := 12) kX2_73 dX2_key_12 rfl (by assumption) (Nat.zero_le _) (Nat.zero_le _) (Nat.le_of_ble_eq_true rfl) (Nat.le_of_ble_eq_true rfl) ?_
  refine t_countIn g2 (i32_max _) ?_
  refine v_istore (pc := 15) dX2_key_15 rfl rfl (by decide) ?_
  refine v_iload_n (pc := 17) dX2_key_17 rfl rfl ?_
  refine v_if_lt 27 (pc := 18) dX2_key_18 (by decide) (fun hb => ?_) (fun hb => ?_)
  · refine v_throw (pc := 27) 1 77 98 81 "there are not so many keys, or k is below 0" rfl tw_1 ms_98 dX2_key_27 dX2_key_30 dX2_key_31 dX2_key_33 dX2_key_36 rfl (Nat.le_of_ble_eq_true rfl) (by omega) (by omega) (by omega) ?_
    exact h2 j hj (fun k hk q => nI_ge0 (by omega) (q ▸ hb))
  · have hb1 := hb
    refine v_iload_n (pc := 21) dX2_key_21 rfl rfl ?_
    refine v_iload (pc := 22) dX2_key_22 rfl ?_
    refine v_icmp_lt 37 (pc := 24) dX2_key_24 (by decide) (fun hb => ?_) (fun hb => ?_)
    · obtain ⟨k, hk, q⟩ := i32_ix hb1 hb (by omega)
      subst q
      refine v_aload (pc := 37) dX2_key_37 rfl ?_
      refine v_aload (pc := 39) dX2_key_39 rfl ?_
      refine g_I 102 2 (pc := 41) fX2_63 dX2_key_41 rfl rfl (by assumption) (by assumption) ?_
      refine v_iload (pc := 44) dX2_key_44 rfl ?_
      refine v_isub (pc := 46) dX2_key_46 ?_
      refine v_eqi (pk_sub k4) ?_
      refine v_iload_n (pc := 47) dX2_key_47 rfl rfl ?_
      refine v_iadd (pc := 48) dX2_key_48 ?_
      refine v_eqi (nI_add _ _) ?_
      refine v_callV 0 0 (pc := 49) kX2_100 dX2_key_49 rfl (by assumption) (Nat.zero_le _) (Nat.zero_le _) (Nat.le_of_ble_eq_true rfl) (Nat.le_of_ble_eq_true rfl) ?_
      have hl : (V j).length - cntK (V j) a 2147483647 + k < (V j).length := by omega
      refine t_keyAt g2 (List.getElem?_eq_getElem hl) ?_
      refine v_iret (pc := 52) dX2_key_52 rfl ?_
      exact h1 j k _ hj hk rfl (List.getElem?_eq_getElem hl)
    · refine v_throw (pc := 27) 1 77 98 81 "there are not so many keys, or k is below 0" rfl tw_1 ms_98 dX2_key_27 dX2_key_30 dX2_key_31 dX2_key_33 dX2_key_36 rfl (Nat.le_of_ble_eq_true rfl) (by omega) (by omega) (by omega) ?_
      exact h2 j hj (fun k hk q => hb (q ▸ (nI_ltI (by omega) (by omega)).mpr hk))
set_option maxHeartbeats 4000000 in
set_option maxRecDepth 100000 in
theorem o_save (hL : LPx h x S vs sa T SS V sv nm nk) (h1 : ∀ j, j < 4 → v = nI j → ∀ h', LPx h' x S vs sa T SS (up1 V j (V 4)) (up1 sv j true) nm nk → SF S h h' → R (.inl none) h') (h0 : (∀ j, j < 4 → v ≠ nI j) → R (.inr 2) h) : mv_V G jX2_save (d + 9) 0 [(0, .ref x), (1, .int v)] [] h 8 48 R := by
  obtain ⟨⟨e1, e2, e3, e4, e5, e6, e7, e8, e9, e10, e11, e12, e13⟩, f1, f2, f3, f4, f5, f6⟩ := id hL
  refine v_iload_n (pc := 0) dX2_save_0 rfl rfl ?_
  refine v_callS 1 6 (pc := 1) kX2_104 dX2_save_1 (Nat.le_of_ble_eq_true rfl) (by omega) (by omega) (Nat.le_of_ble_eq_true rfl) (Nat.le_of_ble_eq_true rfl) ?_
  refine p_reqView (fun j hj q => ?_) (fun q => t_out rfl (h0 q))
  subst q
  obtain ⟨g1, _⟩ := f1 j hj
  have g3 := (f2 j (by omega)).1
  have t4 := LP_t hL (show 4 < 6 by omega)
  have tj := LP_t hL (show j < 6 by omega)
  have k4 := TB_kd t4
  have kj := TB_kd tj
  have n4 := (f2 4 (by omega)).1
  refine v_aload_n (pc := 4) dX2_save_4 rfl rfl ?_
  refine g_R 202 3 (pc := 5) fX2_19 dX2_save_5 rfl rfl (by assumption) (by assumption) (by assumption) ?_
  refine v_iload_n (pc := 8) dX2_save_8 rfl rfl ?_
  refine n_aald54 (j) _ (pc := 9) dX2_save_9 (by assumption) (by assumption) rfl (by omega) (by decide) g1 (by assumption) ?_
  refine v_aload_n (pc := 10) dX2_save_10 rfl rfl ?_
  refine g_R 200 3 (pc := 11) fX2_10 dX2_save_11 rfl rfl (by assumption) (by assumption) (by assumption) ?_
  refine v_callV 0 0 (pc := 14) kX2_107 dX2_save_14 rfl (by assumption) (Nat.zero_le _) (Nat.zero_le _) (Nat.le_of_ble_eq_true rfl) (Nat.le_of_ble_eq_true rfl) ?_
  refine t_copyFrom tj t4 (f3 j 4 (by omega) (by omega) (by omega)) (fun h' u1 u2 => ?_)
  obtain ⟨q1, q2⟩ := LP_tab hL (by omega) u1 u2
  obtain ⟨⟨i1, i2, i3, i4, i5, i6, i7, i8, i9, i10, i11, i12, i13⟩, _⟩ := id q1
  refine v_aload_n (pc := 17) dX2_save_17 rfl rfl ?_
  refine g_R 203 3 (pc := 18) fX2_23 dX2_save_18 rfl rfl (by assumption) (by assumption) (by assumption) ?_
  refine v_iload_n (pc := 21) dX2_save_21 rfl rfl ?_
  refine v_iconst (pc := 22) (v := 1) dX2_save_22 (by decide) ?_
  refine n_zast (j) _ (pc := 23) dX2_save_23 (by assumption) (by assumption) rfl (by omega) (by decide) ?_
  refine v_vret (pc := 24) dX2_save_24 rfl ?_
  obtain ⟨r1, r2⟩ := LP_sav (b := true) q1 hj
  exact h1 j hj rfl _ r1 (SF_tr q2 r2)
set_option maxHeartbeats 4000000 in
set_option maxRecDepth 100000 in
theorem o_drop (hL : LPx h x S vs sa T SS V sv nm nk) (h1 : ∀ j, j < 4 → v = nI j → ∀ h', LPx h' x S vs sa T SS V (up1 sv j false) nm nk → SF S h h' → R (.inl (some (.int (if sv j = true then 1 else 0)))) h') (h0 : (∀ j, j < 4 → v ≠ nI j) → R (.inr 2) h) : mv_V G jX2_drop (d + 9) 0 [(0, .ref x), (1, .int v)] [] h 8 48 R := by
  obtain ⟨⟨e1, e2, e3, e4, e5, e6, e7, e8, e9, e10, e11, e12, e13⟩, f1, f2, f3, f4, f5, f6⟩ := id hL
  refine v_iload_n (pc := 0) dX2_drop_0 rfl rfl ?_
  refine v_callS 1 6 (pc := 1) kX2_104 dX2_drop_1 (Nat.le_of_ble_eq_true rfl) (by omega) (by omega) (Nat.le_of_ble_eq_true rfl) (Nat.le_of_ble_eq_true rfl) ?_
  refine p_reqView (fun j hj q => ?_) (fun q => t_out rfl (h0 q))
  subst q
  obtain ⟨_, g1⟩ := f1 j hj
  obtain ⟨r1, r2⟩ := LP_sav (b := false) hL hj
  have z := h1 j hj rfl _ r1 r2
  refine v_aload_n (pc := 4) dX2_drop_4 rfl rfl ?_
  refine g_R 203 3 (pc := 5) fX2_23 dX2_drop_5 rfl rfl (by assumption) (by assumption) (by assumption) ?_
  refine v_iload_n (pc := 8) dX2_drop_8 rfl rfl ?_
  refine n_zald (j) _ (pc := 9) dX2_drop_9 (by assumption) (by assumption) rfl (by omega) (by decide) g1 ?_
  refine v_istore_n (pc := 10) dX2_drop_10 rfl rfl rfl (by decide) ?_
  refine v_aload_n (pc := 11) dX2_drop_11 rfl rfl ?_
  refine g_R 203 3 (pc := 12) fX2_23 dX2_drop_12 rfl rfl (by assumption) (by assumption) (by assumption) ?_
  refine v_iload_n (pc := 15) dX2_drop_15 rfl rfl ?_
  refine v_iconst (pc := 16) (v := 0) dX2_drop_16 (by decide) ?_
  refine n_zast (j) _ (pc := 17) dX2_drop_17 (by assumption) (by assumption) rfl (by omega) (by decide) ?_
  refine v_iload_n (pc := 18) dX2_drop_18 rfl rfl ?_
  by_cases c : sv j = true
  · rw [if_pos c] at z ⊢
    refine v_zret (pc := 19) dX2_drop_19 rfl rfl ?_
    exact z
  · rw [if_neg c] at z ⊢
    refine v_zret (pc := 19) dX2_drop_19 rfl rfl ?_
    exact z
set_option maxHeartbeats 4000000 in
set_option maxRecDepth 100000 in
theorem o_restore (hL : LPx h x S vs sa T SS V sv nm nk) (h1 : ∀ j, j < 4 → v = nI j → sv j = true → nm + (1 + (V j).length) ≤ 2500 → ∀ h', LPx h' x S vs sa T SS (up1 V 4 (V j)) sv (nm + (1 + (V j).length)) nk → SF S h h' → R (.inl (some (.int (nI (nm + (1 + (V j).length)))))) h') (h0 : (∀ j, j < 4 → v = nI j → ¬ sv j = true) → R (.inr 2) h) (h2 : ∀ j, j < 4 → v = nI j → sv j = true → ¬ nm + (1 + (V j).length) ≤ 2500 → R (.inr 0) h) : mv_V G jX2_restore (d + 9) 0 [(0, .ref x), (1, .int v)] [] h 8 48 R := by
  obtain ⟨⟨e1, e2, e3, e4, e5, e6, e7, e8, e9, e10, e11, e12, e13⟩, f1, f2, f3, f4, f5, f6⟩ := id hL
  refine v_aload_n (pc := 0) dX2_restore_0 rfl rfl ?_
  refine v_iload_n (pc := 1) dX2_restore_1 rfl rfl ?_
  refine v_callV 2 12 (pc := 2) kX2_111 dX2_restore_2 rfl (by assumption) (by omega) (by omega) (Nat.le_of_ble_eq_true rfl) (Nat.le_of_ble_eq_true rfl) ?_
  refine p_savedView hL (fun j hj q c => ?_) (fun q => t_out rfl (h0 q))
  have t4 := LP_t hL (show 4 < 6 by omega)
  have tj := LP_t hL (show j < 6 by omega)
  have k4 := TB_kd t4
  have kj := TB_kd tj
  have n4 := (f2 4 (by omega)).1
  have sj := TB_sz tj
  have lj := TB_len tj
  refine v_astore_n (pc := 5) dX2_restore_5 rfl rfl rfl (by decide) ?_
  refine v_iconst (pc := 6) (v := 1) dX2_restore_6 (by decide) ?_
  refine v_aload_n (pc := 7) dX2_restore_7 rfl rfl ?_
  refine g_I 102 2 (pc := 8) fX2_63 dX2_restore_8 rfl rfl (by assumption) (by assumption) ?_
  refine v_iadd (pc := 11) dX2_restore_11 ?_
  refine v_eqi (y := nI (1 + (V j).length)) (nI_add 1 _) ?_
  refine v_istore_n (pc := 12) dX2_restore_12 rfl rfl rfl (by decide) ?_
  refine v_aload_n (pc := 13) dX2_restore_13 rfl rfl ?_
  refine v_iload_n (pc := 14) dX2_restore_14 rfl rfl ?_
  refine v_callV 1 6 (pc := 15) kX2_60 dX2_restore_15 rfl (by assumption) (by omega) (by omega) (Nat.le_of_ble_eq_true rfl) (Nat.le_of_ble_eq_true rfl) ?_
  refine p_reqRoom hL (by omega) (fun c2 => ?_) (fun c2 => t_out rfl (h2 j hj q c c2))
  refine v_aload_n (pc := 18) dX2_restore_18 rfl rfl ?_
  refine g_R 200 3 (pc := 19) fX2_10 dX2_restore_19 rfl rfl (by assumption) (by assumption) (by assumption) ?_
  refine v_aload_n (pc := 22) dX2_restore_22 rfl rfl ?_
  refine v_callV 0 0 (pc := 23) kX2_107 dX2_restore_23 rfl (by assumption) (Nat.zero_le _) (Nat.zero_le _) (Nat.le_of_ble_eq_true rfl) (Nat.le_of_ble_eq_true rfl) ?_
  refine t_copyFrom t4 tj (f3 4 j (by omega) (by omega) (by omega)) (fun h' u1 u2 => ?_)
  obtain ⟨q1, q2⟩ := LP_tab hL (by omega) u1 u2
  obtain ⟨⟨i1, i2, i3, i4, i5, i6, i7, i8, i9, i10, i11, i12, i13⟩, _⟩ := id q1
  refine v_aload_n (pc := 26) dX2_restore_26 rfl rfl ?_
  refine v_dup (pc := 27) dX2_restore_27 rfl ?_
  refine g_I 204 3 (pc := 28) fX2_27 dX2_restore_28 rfl rfl (by assumption) (by assumption) ?_
  refine v_iload_n (pc := 31) dX2_restore_31 rfl rfl ?_
  refine v_iadd (pc := 32) dX2_restore_32 ?_
  refine v_eqi (nI_add _ _) ?_
  refine p_I 204 3 (pc := 33) fX2_27 dX2_restore_33 rfl rfl (by assumption) ?_
  obtain ⟨r1, r2⟩ := LP_msg q1 (show nk ≤ nm + (1 + (V j).length) by omega) c2
  generalize mh_sfI h' 204 x (nI (nm + (1 + (V j).length))) = hd at *
  obtain ⟨⟨l1, _, _, _, _, _, _, _, _, _, _, l12, _⟩, _⟩ := id r1
  refine v_aload_n (pc := 36) dX2_restore_36 rfl rfl ?_
  refine g_I 204 3 (pc := 37) fX2_27 dX2_restore_37 rfl rfl (by assumption) (by assumption) ?_
  refine v_iret (pc := 40) dX2_restore_40 rfl ?_
  exact h1 j hj q c c2 _ r1 (SF_tr q2 r2)
set_option maxHeartbeats 4000000 in
set_option maxRecDepth 100000 in
theorem o_differ (hL : LPx h x S vs sa T SS V sv nm nk) (h1 : ∀ i j, isR v sv i → isR v2 sv j → R (.inl (some (.int (nI (difN (V i) (V j)))))) h) (h0 : (∀ j, ¬ isR v sv j) ∨ (∀ j, ¬ isR v2 sv j) → R (.inr 2) h) : mv_V G jX2_differ (d + 9) 0 [(0, .ref x), (1, .int v), (2, .int v2)] [] h 8 48 R := by
  have e1 := hL.1.1
  refine v_aload_n (pc := 0) dX2_differ_0 rfl rfl ?_
  refine v_iload_n (pc := 1) dX2_differ_1 rfl rfl ?_
  refine v_callV 2 12 (pc := 2) kX2_87 dX2_differ_2 rfl (by assumption) (by omega) (by omega) (Nat.le_of_ble_eq_true rfl) (Nat.le_of_ble_eq_true rfl) ?_
  refine p_tableOf hL (fun i hi => ?_) (fun q => t_out rfl (h0 (Or.inl q)))
  refine v_astore_n (pc := 5) dX2_differ_5 rfl rfl rfl (by decide) ?_
  refine v_aload_n (pc := 6) dX2_differ_6 rfl rfl ?_
  refine v_iload_n (pc := 7) dX2_differ_7 rfl rfl ?_
  refine v_callV 2 12 (pc := 8) kX2_87 dX2_differ_8 rfl (by assumption) (by omega) (by omega) (Nat.le_of_ble_eq_true rfl) (Nat.le_of_ble_eq_true rfl) ?_
  refine p_tableOf hL (fun j hj => ?_) (fun q => t_out rfl (h0 (Or.inr q)))
  have ti := LP_t hL (show i < 6 by have := isR_lt hi; omega)
  have tj := LP_t hL (show j < 6 by have := isR_lt hj; omega)
  have k1 := TB_kd ti
  refine v_astore (pc := 11) dX2_differ_11 rfl rfl (by decide) ?_
  refine v_aload_n (pc := 13) dX2_differ_13 rfl rfl ?_
  refine v_aload (pc := 14) dX2_differ_14 rfl ?_
  refine v_callV 0 0 (pc := 16) kX2_114 dX2_differ_16 rfl (by assumption) (Nat.zero_le _) (Nat.zero_le _) (Nat.le_of_ble_eq_true rfl) (Nat.le_of_ble_eq_true rfl) ?_
  refine t_differ ti tj ?_
  refine v_iret (pc := 19) dX2_differ_19 rfl ?_
  exact h1 i j hi hj
set_option maxHeartbeats 4000000 in
set_option maxRecDepth 100000 in
theorem o_settle (hL : LPx h x S vs sa T SS V sv nm nk) (h1 : ∀ h', LPx h' x S vs sa T SS V sv nm nk → SF S h h' → R (.inl none) h') : mv_V G jX2_settle (d + 9) 0 [(0, .ref x)] [] h 8 48 R := by
  obtain ⟨⟨e1, e2, e3, e4, e5, e6, e7, e8, e9, e10, e11, e12, e13⟩, f1, f2, f3, f4, f5, f6⟩ := id hL
  have t4 := LP_t hL (show 4 < 6 by omega)
  have k4 := TB_kd t4
  have n4 := (f2 4 (by omega)).1
  refine v_aload_n (pc := 0) dX2_settle_0 rfl rfl ?_
  refine g_R 200 3 (pc := 1) fX2_10 dX2_settle_1 rfl rfl (by assumption) (by assumption) (by assumption) ?_
  refine v_callV 0 0 (pc := 4) kX2_118 dX2_settle_4 rfl (by assumption) (Nat.zero_le _) (Nat.zero_le _) (Nat.le_of_ble_eq_true rfl) (Nat.le_of_ble_eq_true rfl) ?_
  refine t_pushAll t4 (fun h' u1 u2 => ?_)
  obtain ⟨q1, q2⟩ := LP_tab hL (by omega) u1 u2
  rw [up1_id] at q1
  refine v_vret (pc := 7) dX2_settle_7 rfl ?_
  exact h1 h' q1 q2
set_option maxHeartbeats 4000000 in
set_option maxRecDepth 100000 in
theorem p_keep (hL : LPx h x S vs sa T SS V sv nm nk) (h1 : nk < nm → ∀ h', LPx h' x S vs sa T SS (up1 V 5 (V 4)) sv nm nm → SF S h h' → R (.inl (some (.int (nI (nm - nk))))) h') (h0 : nk = nm → R (.inl (some (.int (nI (nm - nk))))) h) : mv_V G jX2_keepMessages (d + 8) 0 [(0, .ref x)] [] h 0 0 R := by
  obtain ⟨⟨e1, e2, e3, e4, e5, e6, e7, e8, e9, e10, e11, e12, e13⟩, f1, f2, f3, f4, f5, f6⟩ := id hL
  have t4 := LP_t hL (show 4 < 6 by omega)
  have t5 := LP_t hL (show 5 < 6 by omega)
  have k4 := TB_kd t4
  have k5 := TB_kd t5
  have n4 := (f2 4 (by omega)).1
  have n5 := (f2 5 (by omega)).1
  refine v_aload_n (pc := 0) dX2_keepMessages_0 rfl rfl ?_
  refine g_I 204 3 (pc := 1) fX2_27 dX2_keepMessages_1 rfl rfl (by assumption) (by assumption) ?_
  refine v_aload_n (pc := 4) dX2_keepMessages_4 rfl rfl ?_
  refine g_I 205 3 (pc := 5) fX2_31 dX2_keepMessages_5 rfl rfl (by assumption) (by assumption) ?_
  refine v_isub (pc := 8) dX2_keepMessages_8 ?_
  refine v_eqi (pk_sub f5) ?_
  refine v_istore_n (pc := 9) dX2_keepMessages_9 rfl rfl rfl (by decide) ?_
  refine v_iload_n (pc := 10) dX2_keepMessages_10 rfl rfl ?_
  refine v_if_le 33 (pc := 11) dX2_keepMessages_11 (by decide) (fun hb => ?_) (fun hb => ?_)
  · have z := (nI_leI (b := 0) (by omega) (by omega)).mp hb
    refine v_iload_n (pc := 33) dX2_keepMessages_33 rfl rfl ?_
    refine v_iret (pc := 34) dX2_keepMessages_34 rfl ?_
    exact h0 (by omega)
  · have z : nk < nm := by
      rcases Nat.lt_or_ge nk nm with z | z
      · exact z
      · exact absurd ((nI_leI (b := 0) (by omega) (by omega)).mpr (by omega)) hb
    refine v_aload_n (pc := 14) dX2_keepMessages_14 rfl rfl ?_
    refine g_R 201 3 (pc := 15) fX2_16 dX2_keepMessages_15 rfl rfl (by assumption) (by assumption) (by assumption) ?_
    refine v_aload_n (pc := 18) dX2_keepMessages_18 rfl rfl ?_
    refine g_R 200 3 (pc := 19) fX2_10 dX2_keepMessages_19 rfl rfl (by assumption) (by assumption) (by assumption) ?_
    refine v_callV 0 0 (pc := 22) kX2_107 dX2_keepMessages_22 rfl (by assumption) (Nat.zero_le _) (Nat.zero_le _) (Nat.le_of_ble_eq_true rfl) (Nat.le_of_ble_eq_true rfl) ?_
    refine t_copyFrom t5 t4 (f3 5 4 (by omega) (by omega) (by omega)) (fun h' u1 u2 => ?_)
    obtain ⟨q1, q2⟩ := LP_tab hL (by omega) u1 u2
    obtain ⟨⟨i1, i2, i3, i4, i5, i6, i7, i8, i9, i10, i11, i12, i13⟩, _⟩ := id q1
    refine v_aload_n (pc := 25) dX2_keepMessages_25 rfl rfl ?_
    refine v_aload_n (pc := 26) dX2_keepMessages_26 rfl rfl ?_
    refine g_I 204 3 (pc := 27) fX2_27 dX2_keepMessages_27 rfl rfl (by assumption) (by assumption) ?_
    refine p_I 205 3 (pc := 30) fX2_31 dX2_keepMessages_30 rfl rfl (by assumption) ?_
    refine v_iload_n (pc := 33) dX2_keepMessages_33 rfl rfl ?_
    refine v_iret (pc := 34) dX2_keepMessages_34 rfl ?_
    obtain ⟨r1, r2⟩ := LP_kpt q1 (Nat.le_refl nm)
    exact h1 z _ r1 (SF_tr q2 r2)
set_option maxHeartbeats 4000000 in
set_option maxRecDepth 100000 in
theorem o_sync (hL : LPx h x S vs sa T SS V sv nm nk) (h1 : nk < nm → ∀ h', LPx h' x S vs sa T SS (up1 V 5 (V 4)) sv nm nm → SF S h h' → R (.inl (some (.int (nI (nm - nk))))) h') (h0 : nk = nm → R (.inl (some (.int (nI (nm - nk))))) h) : mv_V G jX2_sync (d + 9) 0 [(0, .ref x)] [] h 8 48 R := by
  have e1 := hL.1.1
  refine v_aload_n (pc := 0) dX2_sync_0 rfl rfl ?_
  refine v_callV 0 0 (pc := 1) kX2_121 dX2_sync_1 rfl (by assumption) (Nat.zero_le _) (Nat.zero_le _) (Nat.le_of_ble_eq_true rfl) (Nat.le_of_ble_eq_true rfl) ?_
  refine p_keep hL (fun c h' u1 u2 => ?_) (fun c => ?_)
  · refine v_iret (pc := 4) dX2_sync_4 rfl ?_
    exact h1 c h' u1 u2
  · refine v_iret (pc := 4) dX2_sync_4 rfl ?_
    exact h0 c
set_option maxHeartbeats 4000000 in
set_option maxRecDepth 100000 in
theorem o_checkpoint (hL : LPx h x S vs sa T SS V sv nm nk) (h1 : nk < nm → ∀ h', LPx h' x S vs sa T SS (up1 V 5 (V 4)) sv nm nm → SF S h h' → R (.inl (some (.int (nI (nm - nk))))) h') (h0 : nk = nm → R (.inl (some (.int (nI (nm - nk))))) h) : mv_V G jX2_checkpoint (d + 9) 0 [(0, .ref x)] [] h 8 48 R := by
  have e1 := hL.1.1
  refine v_aload_n (pc := 0) dX2_checkpoint_0 rfl rfl ?_
  refine v_callV 0 0 (pc := 1) kX2_121 dX2_checkpoint_1 rfl (by assumption) (Nat.zero_le _) (Nat.zero_le _) (Nat.le_of_ble_eq_true rfl) (Nat.le_of_ble_eq_true rfl) ?_
  refine p_keep hL (fun c h' u1 u2 => ?_) (fun c => ?_)
  · refine v_iret (pc := 4) dX2_checkpoint_4 rfl ?_
    exact h1 c h' u1 u2
  · refine v_iret (pc := 4) dX2_checkpoint_4 rfl ?_
    exact h0 c
set_option maxHeartbeats 4000000 in
set_option maxRecDepth 100000 in
theorem o_crash (hL : LPx h x S vs sa T SS V sv nm nk) (h1 : ∀ h', LPx h' x S vs sa T SS (up1 V 4 (V 5)) (upto (fun _ => false) sv 4) nk nk → SF S h h' → R (.inl (some (.int (nI (nm - nk))))) h') : mv_V G jX2_crash (d + 9) 0 [(0, .ref x)] [] h 8 48 R := by
  obtain ⟨⟨e1, e2, e3, e4, e5, e6, e7, e8, e9, e10, e11, e12, e13⟩, f1, f2, f3, f4, f5, f6⟩ := id hL
  have t4 := LP_t hL (show 4 < 6 by omega)
  have t5 := LP_t hL (show 5 < 6 by omega)
  have k4 := TB_kd t4
  have k5 := TB_kd t5
  have n4 := (f2 4 (by omega)).1
  have n5 := (f2 5 (by omega)).1
  refine v_aload_n (pc := 0) dX2_crash_0 rfl rfl ?_
  refine g_I 204 3 (pc := 1) fX2_27 dX2_crash_1 rfl rfl (by assumption) (by assumption) ?_
  refine v_aload_n (pc := 4) dX2_crash_4 rfl rfl ?_
  refine g_I 205 3 (pc := 5) fX2_31 dX2_crash_5 rfl rfl (by assumption) (by assumption) ?_
  refine v_isub (pc := 8) dX2_crash_8 ?_
  refine v_eqi (pk_sub f5) ?_
  refine v_istore_n (pc := 9) dX2_crash_9 rfl rfl rfl (by decide) ?_
  refine v_aload_n (pc := 10) dX2_crash_10 rfl rfl ?_
  refine g_R 200 3 (pc := 11) fX2_10 dX2_crash_11 rfl rfl (by assumption) (by assumption) (by assumption) ?_
  refine v_aload_n (pc := 14) dX2_crash_14 rfl rfl ?_
  refine g_R 201 3 (pc := 15) fX2_16 dX2_crash_15 rfl rfl (by assumption) (by assumption) (by assumption) ?_
  refine v_callV 0 0 (pc := 18) kX2_107 dX2_crash_18 rfl (by assumption) (Nat.zero_le _) (Nat.zero_le _) (Nat.le_of_ble_eq_true rfl) (Nat.le_of_ble_eq_true rfl) ?_
  refine t_copyFrom t4 t5 (f3 4 5 (by omega) (by omega) (by omega)) (fun h' u1 u2 => ?_)
  obtain ⟨q1, q2⟩ := LP_tab hL (by omega) u1 u2
  obtain ⟨⟨i1, i2, i3, i4, i5, i6, i7, i8, i9, i10, i11, i12, i13⟩, _⟩ := id q1
  refine v_aload_n (pc := 21) dX2_crash_21 rfl rfl ?_
  refine v_aload_n (pc := 22) dX2_crash_22 rfl rfl ?_
  refine g_I 205 3 (pc := 23) fX2_31 dX2_crash_23 rfl rfl (by assumption) (by assumption) ?_
  refine p_I 204 3 (pc := 26) fX2_27 dX2_crash_26 rfl rfl (by assumption) ?_
  refine v_iconst (pc := 29) (v := 0) dX2_crash_29 (by decide) ?_
  refine v_istore_n (pc := 30) dX2_crash_30 rfl rfl rfl (by decide) ?_
  obtain ⟨r1, r2⟩ := LP_msg q1 (Nat.le_refl nk) (by omega)
  have loop : ∀ m i hc, i + m = 4 → LPx hc x S vs sa T SS (up1 V 4 (V 5)) (upto (fun _ => false) sv i) nk nk → SF S h hc → mv_V G jX2_crash (d + 9) 31 [(0, .ref x), (1, .int (nI (nm - nk))), (2, .int (nI i))] [] hc 8 48 R := by
    intro m
    induction m with
    | zero =>
      intro i hc hm hL' hF
      have ei : i = 4 := by omega
      subst ei
      refine v_iload_n (pc := 31) dX2_crash_31 rfl rfl ?_
      refine v_iconst (pc := 32) (v := 4) dX2_crash_32 (by decide) ?_
      refine v_icmp_ge 49 (pc := 33) dX2_crash_33 (by decide) (fun hb => ?_) (fun hb => ?_)
      · refine v_iload_n (pc := 49) dX2_crash_49 rfl rfl ?_
        refine v_iret (pc := 50) dX2_crash_50 rfl ?_
        exact h1 hc hL' hF
      · exact absurd ((nI_leI (a := 4) (b := 4) (by omega) (by omega)).mpr (by omega)) hb
    | succ m ih =>
      intro i hc hm hL' hF
      obtain ⟨⟨i1, i2, i3, i4, i5, i6, i7, i8, i9, i10, i11, i12, i13⟩, _⟩ := id hL'
      refine v_iload_n (pc := 31) dX2_crash_31 rfl rfl ?_
      refine v_iconst (pc := 32) (v := 4) dX2_crash_32 (by decide) ?_
      refine v_icmp_ge 49 (pc := 33) dX2_crash_33 (by decide) (fun hb => ?_) (fun hb => ?_)
      · have := (nI_leI (a := 4) (by omega) (by omega)).mp hb
        omega
      · refine v_aload_n (pc := 36) dX2_crash_36 rfl rfl ?_
        refine g_R 203 3 (pc := 37) fX2_23 dX2_crash_37 rfl rfl (by assumption) (by assumption) (by assumption) ?_
        refine v_iload_n (pc := 40) dX2_crash_40 rfl rfl ?_
        refine v_iconst (pc := 41) (v := 0) dX2_crash_41 (by decide) ?_
        refine n_zast (i) _ (pc := 42) dX2_crash_42 (by assumption) (by assumption) rfl (by omega) (by decide) ?_
        refine v_iinc (pc := 43) dX2_crash_43 rfl (mv_inc _) rfl rfl (by decide) ?_
        refine v_goto 31 (pc := 46) dX2_crash_46 (by decide) ?_
        obtain ⟨w1, w2⟩ := LP_sav (b := false) hL' (show i < 4 by omega)
        rw [upto_succ (fun _ => false) sv i] at w1
        exact ih (i + 1) _ (by omega) w1 (SF_tr hF w2)
  refine loop 4 0 _ (by omega) ?_ (SF_tr q2 r2)
  rw [upto_0]; exact r1
set_option maxHeartbeats 4000000 in
set_option maxRecDepth 100000 in
theorem p_savedViews (hL : LPx h x S vs sa T SS V sv nm nk) (h1 : R (.inl (some (.int (nI (cS sv 4))))) h) : mv_V G jX2_savedViews d 0 [(0, .ref x)] [] h 0 0 R := by
  obtain ⟨⟨e1, e2, e3, e4, e5, e6, e7, e8, e9, e10, e11, e12, e13⟩, f1, f2, f3, f4, f5, f6⟩ := id hL
  have loop : ∀ m i, i + m = 4 → mv_V G jX2_savedViews d 4 [(0, .ref x), (1, .int (nI (cS sv i))), (2, .int (nI i))] [] h 0 0 R := by
    intro m
    induction m with
    | zero =>
      intro i hm
      have ei : i = 4 := by omega
      subst ei
      refine v_iload_n (pc := 4) dX2_savedViews_4 rfl rfl ?_
      refine v_iconst (pc := 5) (v := 4) dX2_savedViews_5 (by decide) ?_
      refine v_icmp_ge 27 (pc := 6) dX2_savedViews_6 (by decide) (fun hb => ?_) (fun hb => ?_)
      · refine v_iload_n (pc := 27) dX2_savedViews_27 rfl rfl ?_
        refine v_iret (pc := 28) dX2_savedViews_28 rfl ?_
        exact h1
      · exact absurd ((nI_leI (a := 4) (b := 4) (by omega) (by omega)).mpr (by omega)) hb
    | succ m ih =>
      intro i hm
      obtain ⟨_, g1⟩ := f1 i (by omega)
      have nx := ih (i + 1) (by omega)
      unfold cS at nx
      refine v_iload_n (pc := 4) dX2_savedViews_4 rfl rfl ?_
      refine v_iconst (pc := 5) (v := 4) dX2_savedViews_5 (by decide) ?_
      refine v_icmp_ge 27 (pc := 6) dX2_savedViews_6 (by decide) (fun hb => ?_) (fun hb => ?_)
      · have := (nI_leI (a := 4) (by omega) (by omega)).mp hb
        omega
      · refine v_aload_n (pc := 9) dX2_savedViews_9 rfl rfl ?_
        refine g_R 203 3 (pc := 10) fX2_23 dX2_savedViews_10 rfl rfl (by assumption) (by assumption) (by assumption) ?_
        refine v_iload_n (pc := 13) dX2_savedViews_13 rfl rfl ?_
        refine n_zald (i) _ (pc := 14) dX2_savedViews_14 (by assumption) (by assumption) rfl (by omega) (by decide) g1 ?_
        by_cases c : sv i = true
        · rw [if_pos c]
          rw [if_pos c] at nx
          refine v_if_eq 21 (pc := 15) dX2_savedViews_15 (by decide) (fun hb => ?_) (fun hb => ?_)
          · exact absurd hb (by decide)
          · refine v_iinc (pc := 18) dX2_savedViews_18 rfl (mv_inc _) rfl rfl (by decide) ?_
            refine v_iinc (pc := 21) dX2_savedViews_21 rfl (mv_inc _) rfl rfl (by decide) ?_
            refine v_goto 4 (pc := 24) dX2_savedViews_24 (by decide) ?_
            exact nx
        · rw [if_neg c]
          rw [if_neg c] at nx
          refine v_if_eq 21 (pc := 15) dX2_savedViews_15 (by decide) (fun hb => ?_) (fun hb => ?_)
          · refine v_iinc (pc := 21) dX2_savedViews_21 rfl (mv_inc _) rfl rfl (by decide) ?_
            refine v_goto 4 (pc := 24) dX2_savedViews_24 (by decide) ?_
            exact nx
          · exact absurd rfl hb
  refine v_iconst (pc := 0) (v := 0) dX2_savedViews_0 (by decide) ?_
  refine v_istore_n (pc := 1) dX2_savedViews_1 rfl rfl rfl (by decide) ?_
  refine v_iconst (pc := 2) (v := 0) dX2_savedViews_2 (by decide) ?_
  refine v_istore_n (pc := 3) dX2_savedViews_3 rfl rfl rfl (by decide) ?_
  exact loop 4 0 (by omega)
set_option maxHeartbeats 4000000 in
set_option maxRecDepth 100000 in
theorem o_total (hL : LPx h x S vs sa T SS V sv nm nk) (h1 : ∀ k, v = nI k → k < 3 → R (.inl (some (.int (nI (if k = 0 then nm else if k = 1 then nk else cS sv 4))))) h) (h0 : (∀ k, k < 3 → v ≠ nI k) → R (.inr 1) h) : mv_V G jX2_total (d + 9) 0 [(0, .ref x), (1, .int v)] [] h 8 48 R := by
  obtain ⟨⟨e1, e2, e3, e4, e5, e6, e7, e8, e9, e10, e11, e12, e13⟩, f1, f2, f3, f4, f5, f6⟩ := id hL
  refine v_iload_n (pc := 0) dX2_total_0 rfl rfl ?_
  by_cases c : ∃ k, k < 3 ∧ v = nI k
  · obtain ⟨k, hk, q⟩ := c
    have z := h1 k q hk
    subst q
    rcases (show k = 0 ∨ k = 1 ∨ k = 2 by omega) with rfl | rfl | rfl
    · refine v_tabIn (pc := 1) 28 dX2_total_1 (by decide) (by decide) (off := 27) (by decide) (by decide) ?_
      refine v_aload_n (pc := 28) dX2_total_28 rfl rfl ?_
      refine g_I 204 3 (pc := 29) fX2_27 dX2_total_29 rfl rfl (by assumption) (by assumption) ?_
      refine v_iret (pc := 32) dX2_total_32 rfl ?_
      exact z
    · refine v_tabIn (pc := 1) 33 dX2_total_1 (by decide) (by decide) (off := 32) (by decide) (by decide) ?_
      refine v_aload_n (pc := 33) dX2_total_33 rfl rfl ?_
      refine g_I 205 3 (pc := 34) fX2_31 dX2_total_34 rfl rfl (by assumption) (by assumption) ?_
      refine v_iret (pc := 37) dX2_total_37 rfl ?_
      exact z
    · refine v_tabIn (pc := 1) 38 dX2_total_1 (by decide) (by decide) (off := 37) (by decide) (by decide) ?_
      refine v_aload_n (pc := 38) dX2_total_38 rfl rfl ?_
      refine v_callV 0 0 (pc := 39) kX2_125 dX2_total_39 rfl (by assumption) (Nat.zero_le _) (Nat.zero_le _) (Nat.le_of_ble_eq_true rfl) (Nat.le_of_ble_eq_true rfl) ?_
      refine p_savedViews hL ?_
      refine v_iret (pc := 42) dX2_total_42 rfl ?_
      exact z
  · have hq : v.toInt < 0 ∨ 2 < v.toInt := by
      by_cases c1 : v.toInt < 0
      · exact Or.inl c1
      · refine Or.inr (Int.not_le.mp (fun c2 => c ?_))
        have a0 : (0 : Int32).toInt = 0 := by decide
        have a3 : (3 : Int32).toInt = 3 := by decide
        obtain ⟨k, hk, q⟩ := i32_ix (v := v) (n := 3) (fun w => c1 (by have := Int32.lt_iff_toInt_lt.mp w; omega)) (Int32.lt_iff_toInt_lt.mpr (by show v.toInt < (3 : Int32).toInt; omega)) (by omega)
        exact ⟨k, hk, q⟩
    refine v_tabOut (pc := 1) 43 dX2_total_1 hq (by decide) ?_
    refine v_throw (pc := 43) 1 77 128 81 "what is not 0 .. 2" rfl tw_1 ms_128 dX2_total_43 dX2_total_46 dX2_total_47 dX2_total_49 dX2_total_52 rfl (Nat.le_of_ble_eq_true rfl) (by omega) (by omega) (by omega) ?_
    exact h0 (fun k hk q => c ⟨k, hk, q⟩)
set_option maxHeartbeats 4000000 in
set_option maxRecDepth 100000 in
theorem o_isSound (hL : LPx h x S vs sa T SS V sv nm nk) (h1 : R (.inl (some (.int 1))) h) : mv_V G jX2_isSound (d + 9) 0 [(0, .ref x)] [] h 8 48 R := by
  obtain ⟨⟨e1, e2, e3, e4, e5, e6, e7, e8, e9, e10, e11, e12, e13⟩, f1, f2, f3, f4, f5, f6⟩ := id hL
  have t4 := LP_t hL (show 4 < 6 by omega)
  have t5 := LP_t hL (show 5 < 6 by omega)
  have k4 := TB_kd t4
  have k5 := TB_kd t5
  have n4 := (f2 4 (by omega)).1
  have n5 := (f2 5 (by omega)).1
  have loop : ∀ m i, i + m = 4 → mv_V G jX2_isSound (d + 9) 28 [(0, .ref x), (1, .int 1), (2, .int (nI i))] [] h 8 48 R := by
    intro m
    induction m with
    | zero =>
      intro i hm
      have ei : i = 4 := by omega
      subst ei
      refine v_iload_n (pc := 28) dX2_isSound_28 rfl rfl ?_
      refine v_iconst (pc := 29) (v := 4) dX2_isSound_29 (by decide) ?_
      refine v_icmp_ge 70 (pc := 30) dX2_isSound_30 (by decide) (fun hb => ?_) (fun hb => ?_)
      · refine v_iload_n (pc := 70) dX2_isSound_70 rfl rfl ?_
        refine v_zret (pc := 71) dX2_isSound_71 rfl rfl ?_
        exact h1
      · exact absurd ((nI_leI (a := 4) (b := 4) (by omega) (by omega)).mpr (by omega)) hb
    | succ m ih =>
      intro i hm
      obtain ⟨g0, g1⟩ := f1 i (by omega)
      have ti := LP_t hL (show i < 6 by omega)
      have ki := TB_kd ti
      have ni := (f2 i (by omega)).1
      have nx := ih (i + 1) (by omega)
      refine v_iload_n (pc := 28) dX2_isSound_28 rfl rfl ?_
      refine v_iconst (pc := 29) (v := 4) dX2_isSound_29 (by decide) ?_
      refine v_icmp_ge 70 (pc := 30) dX2_isSound_30 (by decide) (fun hb => ?_) (fun hb => ?_)
      · have := (nI_leI (a := 4) (by omega) (by omega)).mp hb
        omega
      · refine v_iload_n (pc := 33) dX2_isSound_33 rfl rfl ?_
        refine v_if_eq 62 (pc := 34) dX2_isSound_34 (by decide) (fun hb => ?_) (fun hb => ?_)
        · exact absurd hb (by decide)
        · refine v_aload_n (pc := 37) dX2_isSound_37 rfl rfl ?_
          refine g_R 203 3 (pc := 38) fX2_23 dX2_isSound_38 rfl rfl (by assumption) (by assumption) (by assumption) ?_
          refine v_iload_n (pc := 41) dX2_isSound_41 rfl rfl ?_
          refine n_zald (i) _ (pc := 42) dX2_isSound_42 (by assumption) (by assumption) rfl (by omega) (by decide) g1 ?_
          by_cases c : sv i = true
          · rw [if_pos c]
            refine v_if_eq 58 (pc := 43) dX2_isSound_43 (by decide) (fun hb => ?_) (fun hb => ?_)
            · exact absurd hb (by decide)
            · refine v_aload_n (pc := 46) dX2_isSound_46 rfl rfl ?_
              refine g_R 202 3 (pc := 47) fX2_19 dX2_isSound_47 rfl rfl (by assumption) (by assumption) (by assumption) ?_
              refine v_iload_n (pc := 50) dX2_isSound_50 rfl rfl ?_
              refine n_aald54 (i) _ (pc := 51) dX2_isSound_51 (by assumption) (by assumption) rfl (by omega) (by decide) g0 (by assumption) ?_
              refine v_callV 0 0 (pc := 52) kX2_130 dX2_isSound_52 rfl (by assumption) (Nat.zero_le _) (Nat.zero_le _) (Nat.le_of_ble_eq_true rfl) (Nat.le_of_ble_eq_true rfl) ?_
              refine t_isInOrder ti ?_
              refine v_if_eq 62 (pc := 55) dX2_isSound_55 (by decide) (fun hb => ?_) (fun hb => ?_)
              · exact absurd hb (by decide)
              · refine v_iconst (pc := 58) (v := 1) dX2_isSound_58 (by decide) ?_
                refine v_goto 63 (pc := 59) dX2_isSound_59 (by decide) ?_
                refine v_istore_n (pc := 63) dX2_isSound_63 rfl rfl rfl (by decide) ?_
                refine v_iinc (pc := 64) dX2_isSound_64 rfl (mv_inc _) rfl rfl (by decide) ?_
                refine v_goto 28 (pc := 67) dX2_isSound_67 (by decide) ?_
                exact nx
          · rw [if_neg c]
            refine v_if_eq 58 (pc := 43) dX2_isSound_43 (by decide) (fun hb => ?_) (fun hb => ?_)
            · refine v_iconst (pc := 58) (v := 1) dX2_isSound_58 (by decide) ?_
              refine v_goto 63 (pc := 59) dX2_isSound_59 (by decide) ?_
              refine v_istore_n (pc := 63) dX2_isSound_63 rfl rfl rfl (by decide) ?_
              refine v_iinc (pc := 64) dX2_isSound_64 rfl (mv_inc _) rfl rfl (by decide) ?_
              refine v_goto 28 (pc := 67) dX2_isSound_67 (by decide) ?_
              exact nx
            · exact absurd rfl hb
  refine v_aload_n (pc := 0) dX2_isSound_0 rfl rfl ?_
  refine g_R 200 3 (pc := 1) fX2_10 dX2_isSound_1 rfl rfl (by assumption) (by assumption) (by assumption) ?_
  refine v_callV 0 0 (pc := 4) kX2_130 dX2_isSound_4 rfl (by assumption) (Nat.zero_le _) (Nat.zero_le _) (Nat.le_of_ble_eq_true rfl) (Nat.le_of_ble_eq_true rfl) ?_
  refine t_isInOrder t4 ?_
  refine v_if_eq 24 (pc := 7) dX2_isSound_7 (by decide) (fun hb => ?_) (fun hb => ?_)
  · exact absurd hb (by decide)
  · refine v_aload_n (pc := 10) dX2_isSound_10 rfl rfl ?_
    refine g_R 201 3 (pc := 11) fX2_16 dX2_isSound_11 rfl rfl (by assumption) (by assumption) (by assumption) ?_
    refine v_callV 0 0 (pc := 14) kX2_130 dX2_isSound_14 rfl (by assumption) (Nat.zero_le _) (Nat.zero_le _) (Nat.le_of_ble_eq_true rfl) (Nat.le_of_ble_eq_true rfl) ?_
    refine t_isInOrder t5 ?_
    refine v_if_eq 24 (pc := 17) dX2_isSound_17 (by decide) (fun hb => ?_) (fun hb => ?_)
    · exact absurd hb (by decide)
    · refine v_iconst (pc := 20) (v := 1) dX2_isSound_20 (by decide) ?_
      refine v_goto 25 (pc := 21) dX2_isSound_21 (by decide) ?_
      refine v_istore_n (pc := 25) dX2_isSound_25 rfl rfl rfl (by decide) ?_
      refine v_iconst (pc := 26) (v := 0) dX2_isSound_26 (by decide) ?_
      refine v_istore_n (pc := 27) dX2_isSound_27 rfl rfl rfl (by decide) ?_
      exact loop 4 0 (by omega)
end LPR
