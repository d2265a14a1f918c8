/-! LazyPagesLaw: its sixteen helpers. -/
set_option maxRecDepth 100000 in
theorem wl_0 : mv_Wd (.classLink "LazyPagesLaw" 13 (mv_xn 0)) := ⟨by decide +kernel, Or.inl rfl⟩
set_option maxRecDepth 100000 in
theorem wl_1 : mv_Wd (.classLink "LazyPagesLaw" 26 (mv_xn 1)) := ⟨by decide +kernel, Or.inl rfl⟩
set_option maxRecDepth 100000 in
theorem wl_2 : mv_Wd (.classLink "LazyPagesLaw" 40 (mv_xn 2)) := ⟨by decide +kernel, Or.inl rfl⟩
set_option maxRecDepth 100000 in
theorem wc_0 : mv_Wd (.castable (mv_xn 0) (mv_xn 0)) := ⟨by decide +kernel, Or.inr (Or.inr (Or.inr (Or.inr ⟨_, _, rfl⟩)))⟩
set_option maxRecDepth 100000 in
theorem wc_1 : mv_Wd (.castable (mv_xn 1) (mv_xn 1)) := ⟨by decide +kernel, Or.inr (Or.inr (Or.inr (Or.inr ⟨_, _, rfl⟩)))⟩
set_option maxRecDepth 100000 in
theorem wc_2 : mv_Wd (.castable (mv_xn 2) (mv_xn 2)) := ⟨by decide +kernel, Or.inr (Or.inr (Or.inr (Or.inr ⟨_, _, rfl⟩)))⟩
def So (S : Nat → Prop) (out : Nat) : Nat → Prop := fun a => S a ∨ a = out
def SO (S : Nat → Prop) (out : Nat) (h h' : mh_T) : Prop := SF (So S out) h h' ∧ mh_kd h' out = mh_kd h out ∧ mh_ln h' out = mh_ln h out
section ZZ
variable {G : mv_G} {d : Nat} {h h' : mh_T} {x : Nat} {S : Nat → Prop} {vs sa : Nat} {T : Nat → Nat} {SS : Nat → Nat → Prop} {V : Nat → List En} {sv : Nat → Bool} {nm nk out : Nat} {key v v2 a b : Int32} {y : Int64} {R : mv_O → mh_T → Prop}
theorem LP_out (hL : LPx h' x S vs sa T SS V sv nm nk) (hF : SF S h h') (hn : ¬ S out) (w : Int64) : LPx (mh_saJ h' out 0 w) x S vs sa T SS V sv nm nk ∧ SO S out h (mh_saJ h' out 0 w) ∧ mh_aJ (mh_saJ h' out 0 w) out 0 = w := by
  refine ⟨LPx_sm hL (fun a ha => mh_sm_saJ (fun q => hn (q ▸ ha))), ⟨fun a ha => mh_sm_tr (hF a (fun q => ha (Or.inl q))) (mh_sm_saJ (fun q => ha (Or.inr q))), (hF out hn).1, (hF out hn).2.1⟩, ?_⟩
  rw [mh_aJ_saJ, if_pos ⟨rfl, rfl⟩]
theorem out_k {k n : Nat} (hF : SF S h h') (hn : ¬ S out) (h1 : mh_kd h out = k) (h2 : mh_ln h out = n) : mh_kd h' out = k ∧ mh_ln h' out = n := ⟨(hF out hn).1.trans h1, (hF out hn).2.1.trans h2⟩
set_option maxHeartbeats 4000000 in
set_option maxRecDepth 100000 in
theorem z_put (hL : LPx h x S vs sa T SS V sv nm nk) (ho : mh_kd h out = 51) (hl : mh_ln h out = 1) (hn : ¬ S out) (h1 : okA nm (V 4) key → ∀ h', LPx h' x S vs sa T SS (up1 V 4 (putK (V 4) key y)) sv (nm + 1) nk → SO S out h h' → mh_aJ h' out 0 = (nI (nm + 1)).toInt64 → R (.inl (some (.int 0))) h') (h0 : ¬ okA nm (V 4) key → R (.inl (some (.int 1))) h) : mv_V G jL_put (d + 10) 0 [(0, .ref x), (1, .int key), (2, .long y), (4, .ref out)] [] h 8 48 R := by
  have e1 := hL.1.1
  refine v_aload (pc := 0) dL_put_0 rfl ?_
  refine v_iconst (pc := 2) (v := 0) dL_put_2 (by decide) ?_
  refine v_aload_n (pc := 3) dL_put_3 rfl rfl ?_
  refine v_iload_n (pc := 4) dL_put_4 rfl rfl ?_
  refine v_lload_n (pc := 5) dL_put_5 rfl rfl ?_
  refine v_callV 8 48 (pc := 6) kL_7 dL_put_6 rfl (by assumption) (by omega) (by omega) (Nat.le_of_ble_eq_true rfl) (Nat.le_of_ble_eq_true rfl) ?_
  refine o_put hL (fun c h' u1 u2 => ?_) (fun c => ?_)
  · obtain ⟨ho', hl'⟩ := out_k u2 hn ho hl
    refine v_i2l (pc := 9) dL_put_9 ?_
    refine n_last (0) _ (pc := 10) dL_put_10 (by assumption) (by assumption) rfl (by omega) (by decide) ?_
    refine v_goto 18 (pc := 11) dL_put_11 (by decide) ?_
    refine v_iconst (pc := 18) (v := 0) dL_put_18 (by decide) ?_
    refine v_iret (pc := 19) dL_put_19 rfl ?_
    obtain ⟨w1, w2, w3⟩ := LP_out u1 u2 hn ((nI (nm + 1)).toInt64)
    exact h1 c _ w1 w2 w3
  · skip
    refine t_c1 (k := 0) rfl (by decide) (by decide) (by decide) wl_0 wc_0 (fun ex => ?_)
    refine v_astore (pc := 14) dL_put_14 rfl rfl (by decide) ?_
    refine v_iconst (pc := 16) (v := 1) dL_put_16 (by decide) ?_
    refine v_iret (pc := 17) dL_put_17 rfl ?_
    exact h0 c
set_option maxHeartbeats 4000000 in
set_option maxRecDepth 100000 in
theorem z_add (hL : LPx h x S vs sa T SS V sv nm nk) (ho : mh_kd h out = 51) (hl : mh_ln h out = 1) (hn : ¬ S out) (h1 : okA nm (V 4) key → ∀ h', LPx h' x S vs sa T SS (up1 V 4 (putK (V 4) key (valK (V 4) key + y))) sv (nm + 1) nk → SO S out h h' → mh_aJ h' out 0 = valK (V 4) key + y → R (.inl (some (.int 0))) h') (h0 : ¬ okA nm (V 4) key → R (.inl (some (.int 1))) h) : mv_V G jL_add (d + 10) 0 [(0, .ref x), (1, .int key), (2, .long y), (4, .ref out)] [] h 8 48 R := by
  have e1 := hL.1.1
  refine v_aload (pc := 0) dL_add_0 rfl ?_
  refine v_iconst (pc := 2) (v := 0) dL_add_2 (by decide) ?_
  refine v_aload_n (pc := 3) dL_add_3 rfl rfl ?_
  refine v_iload_n (pc := 4) dL_add_4 rfl rfl ?_
  refine v_lload_n (pc := 5) dL_add_5 rfl rfl ?_
  refine v_callV 8 48 (pc := 6) kL_15 dL_add_6 rfl (by assumption) (by omega) (by omega) (Nat.le_of_ble_eq_true rfl) (Nat.le_of_ble_eq_true rfl) ?_
  refine o_add hL (fun c h' u1 u2 => ?_) (fun c => ?_)
  · obtain ⟨ho', hl'⟩ := out_k u2 hn ho hl
    refine n_last (0) _ (pc := 9) dL_add_9 (by assumption) (by assumption) rfl (by omega) (by decide) ?_
    refine v_goto 17 (pc := 10) dL_add_10 (by decide) ?_
    refine v_iconst (pc := 17) (v := 0) dL_add_17 (by decide) ?_
    refine v_iret (pc := 18) dL_add_18 rfl ?_
    obtain ⟨w1, w2, w3⟩ := LP_out u1 u2 hn (valK (V 4) key + y)
    exact h1 c _ w1 w2 w3
  · skip
    refine t_c1 (k := 0) rfl (by decide) (by decide) (by decide) wl_0 wc_0 (fun ex => ?_)
    refine v_astore (pc := 13) dL_add_13 rfl rfl (by decide) ?_
    refine v_iconst (pc := 15) (v := 1) dL_add_15 (by decide) ?_
    refine v_iret (pc := 16) dL_add_16 rfl ?_
    exact h0 c
set_option maxHeartbeats 4000000 in
set_option maxRecDepth 100000 in
theorem z_most (hL : LPx h x S vs sa T SS V sv nm nk) (ho : mh_kd h out = 51) (hl : mh_ln h out = 1) (hn : ¬ S out) (h1 : okA nm (V 4) key → ∀ h', LPx h' x S vs sa T SS (up1 V 4 (putK (V 4) key (mostK (V 4) key y))) sv (nm + 1) nk → SO S out h h' → mh_aJ h' out 0 = mostK (V 4) key y → R (.inl (some (.int 0))) h') (h0 : ¬ okA nm (V 4) key → R (.inl (some (.int 1))) h) : mv_V G jL_most (d + 10) 0 [(0, .ref x), (1, .int key), (2, .long y), (4, .ref out)] [] h 8 48 R := by
  have e1 := hL.1.1
  refine v_aload (pc := 0) dL_most_0 rfl ?_
  refine v_iconst (pc := 2) (v := 0) dL_most_2 (by decide) ?_
  refine v_aload_n (pc := 3) dL_most_3 rfl rfl ?_
  refine v_iload_n (pc := 4) dL_most_4 rfl rfl ?_
  refine v_lload_n (pc := 5) dL_most_5 rfl rfl ?_
  refine v_callV 8 48 (pc := 6) kL_19 dL_most_6 rfl (by assumption) (by omega) (by omega) (Nat.le_of_ble_eq_true rfl) (Nat.le_of_ble_eq_true rfl) ?_
  refine o_most hL (fun c h' u1 u2 => ?_) (fun c => ?_)
  · obtain ⟨ho', hl'⟩ := out_k u2 hn ho hl
    refine n_last (0) _ (pc := 9) dL_most_9 (by assumption) (by assumption) rfl (by omega) (by decide) ?_
    refine v_goto 17 (pc := 10) dL_most_10 (by decide) ?_
    refine v_iconst (pc := 17) (v := 0) dL_most_17 (by decide) ?_
    refine v_iret (pc := 18) dL_most_18 rfl ?_
    obtain ⟨w1, w2, w3⟩ := LP_out u1 u2 hn (mostK (V 4) key y)
    exact h1 c _ w1 w2 w3
  · skip
    refine t_c1 (k := 0) rfl (by decide) (by decide) (by decide) wl_0 wc_0 (fun ex => ?_)
    refine v_astore (pc := 13) dL_most_13 rfl rfl (by decide) ?_
    refine v_iconst (pc := 15) (v := 1) dL_most_15 (by decide) ?_
    refine v_iret (pc := 16) dL_most_16 rfl ?_
    exact h0 c
set_option maxHeartbeats 4000000 in
set_option maxRecDepth 100000 in
theorem z_delete (hL : LPx h x S vs sa T SS V sv nm nk) (ho : mh_kd h out = 51) (hl : mh_ln h out = 1) (hn : ¬ S out) (h1 : a ≤ b → nm + 1 ≤ 2500 → ∀ h', LPx h' x S vs sa T SS (up1 V 4 (delK (V 4) a b)) sv (nm + 1) nk → SO S out h h' → mh_aJ h' out 0 = (nI (cntK (V 4) a b)).toInt64 → R (.inl (some (.int 0))) h') (h0 : ¬ a ≤ b → R (.inl (some (.int 1))) h) (h2 : a ≤ b → ¬ nm + 1 ≤ 2500 → R (.inl (some (.int 2))) h) : mv_V G jL_delete (d + 10) 0 [(0, .ref x), (1, .int a), (2, .int b), (3, .ref out)] [] h 8 48 R := by
  have e1 := hL.1.1
  refine v_aload_n (pc := 0) dL_delete_0 rfl rfl ?_
  refine v_iconst (pc := 1) (v := 0) dL_delete_1 (by decide) ?_
  refine v_aload_n (pc := 2) dL_delete_2 rfl rfl ?_
  refine v_iload_n (pc := 3) dL_delete_3 rfl rfl ?_
  refine v_iload_n (pc := 4) dL_delete_4 rfl rfl ?_
  refine v_callV 8 48 (pc := 5) kL_22 dL_delete_5 rfl (by assumption) (by omega) (by omega) (Nat.le_of_ble_eq_true rfl) (Nat.le_of_ble_eq_true rfl) ?_
  refine o_delete hL (fun c c2 h' u1 u2 => ?_) (fun c => ?_) (fun c c2 => ?_)
  · obtain ⟨ho', hl'⟩ := out_k u2 hn ho hl
    refine v_i2l (pc := 8) dL_delete_8 ?_
    refine n_last (0) _ (pc := 9) dL_delete_9 (by assumption) (by assumption) rfl (by omega) (by decide) ?_
    refine v_goto 21 (pc := 10) dL_delete_10 (by decide) ?_
    refine v_iconst (pc := 21) (v := 0) dL_delete_21 (by decide) ?_
    refine v_iret (pc := 22) dL_delete_22 rfl ?_
    obtain ⟨w1, w2, w3⟩ := LP_out u1 u2 hn ((nI (cntK (V 4) a b)).toInt64)
    exact h1 c c2 _ w1 w2 w3
  · skip
    refine t_c1 (k := 1) rfl (by decide) (by decide) (by decide) wl_1 wc_1 (fun ex => ?_)
    refine v_astore (pc := 13) dL_delete_13 rfl rfl (by decide) ?_
    refine v_iconst (pc := 15) (v := 1) dL_delete_15 (by decide) ?_
    refine v_iret (pc := 16) dL_delete_16 rfl ?_
    exact h0 c
  · skip
    refine t_c2 (k := 0) (j := 1) rfl (by decide) (by decide) (by decide) wl_1 (by decide) (by decide) (by decide) (by decide) (by decide) (by decide) wl_0 wc_0 (fun ex => ?_)
    refine v_astore (pc := 17) dL_delete_17 rfl rfl (by decide) ?_
    refine v_iconst (pc := 19) (v := 2) dL_delete_19 (by decide) ?_
    refine v_iret (pc := 20) dL_delete_20 rfl ?_
    exact h2 c c2
set_option maxHeartbeats 4000000 in
set_option maxRecDepth 100000 in
theorem z_raise (hL : LPx h x S vs sa T SS V sv nm nk) (ho : mh_kd h out = 51) (hl : mh_ln h out = 1) (hn : ¬ S out) (h1 : a ≤ b → nm + 1 ≤ 2500 → ∀ h', LPx h' x S vs sa T SS (up1 V 4 (raiK (V 4) a b y)) sv (nm + 1) nk → SO S out h h' → mh_aJ h' out 0 = (nI (cntK (V 4) a b)).toInt64 → R (.inl (some (.int 0))) h') (h0 : ¬ a ≤ b → R (.inl (some (.int 1))) h) (h2 : a ≤ b → ¬ nm + 1 ≤ 2500 → R (.inl (some (.int 2))) h) : mv_V G jL_raise (d + 10) 0 [(0, .ref x), (1, .int a), (2, .int b), (3, .long y), (5, .ref out)] [] h 8 48 R := by
  have e1 := hL.1.1
  refine v_aload (pc := 0) dL_raise_0 rfl ?_
  refine v_iconst (pc := 2) (v := 0) dL_raise_2 (by decide) ?_
  refine v_aload_n (pc := 3) dL_raise_3 rfl rfl ?_
  refine v_iload_n (pc := 4) dL_raise_4 rfl rfl ?_
  refine v_iload_n (pc := 5) dL_raise_5 rfl rfl ?_
  refine v_lload_n (pc := 6) dL_raise_6 rfl rfl ?_
  refine v_callV 8 48 (pc := 7) kL_28 dL_raise_7 rfl (by assumption) (by omega) (by omega) (Nat.le_of_ble_eq_true rfl) (Nat.le_of_ble_eq_true rfl) ?_
  refine o_raise hL (fun c c2 h' u1 u2 => ?_) (fun c => ?_) (fun c c2 => ?_)
  · obtain ⟨ho', hl'⟩ := out_k u2 hn ho hl
    refine v_i2l (pc := 10) dL_raise_10 ?_
    refine n_last (0) _ (pc := 11) dL_raise_11 (by assumption) (by assumption) rfl (by omega) (by decide) ?_
    refine v_goto 23 (pc := 12) dL_raise_12 (by decide) ?_
    refine v_iconst (pc := 23) (v := 0) dL_raise_23 (by decide) ?_
    refine v_iret (pc := 24) dL_raise_24 rfl ?_
    obtain ⟨w1, w2, w3⟩ := LP_out u1 u2 hn ((nI (cntK (V 4) a b)).toInt64)
    exact h1 c c2 _ w1 w2 w3
  · skip
    refine t_c1 (k := 1) rfl (by decide) (by decide) (by decide) wl_1 wc_1 (fun ex => ?_)
    refine v_astore (pc := 15) dL_raise_15 rfl rfl (by decide) ?_
    refine v_iconst (pc := 17) (v := 1) dL_raise_17 (by decide) ?_
    refine v_iret (pc := 18) dL_raise_18 rfl ?_
    exact h0 c
  · skip
    refine t_c2 (k := 0) (j := 1) rfl (by decide) (by decide) (by decide) wl_1 (by decide) (by decide) (by decide) (by decide) (by decide) (by decide) wl_0 wc_0 (fun ex => ?_)
    refine v_astore (pc := 19) dL_raise_19 rfl rfl (by decide) ?_
    refine v_iconst (pc := 21) (v := 2) dL_raise_21 (by decide) ?_
    refine v_iret (pc := 22) dL_raise_22 rfl ?_
    exact h2 c c2
set_option maxHeartbeats 4000000 in
set_option maxRecDepth 100000 in
theorem z_putAll {step n : Int32} {grow : Int64} (hL : LPx h x S vs sa T SS V sv nm nk) (ho : mh_kd h out = 51) (hl : mh_ln h out = 1) (hn : ¬ S out) (h1 : ∀ N, N ≤ 300 → n = nI N → ∀ h', LPx h' x S vs sa T SS (up1 V 4 (pAll step grow N key y (V 4) nm).1) sv (pAll step grow N key y (V 4) nm).2.1 nk → SO S out h h' → mh_aJ h' out 0 = (nI (pAll step grow N key y (V 4) nm).2.2).toInt64 → R (.inl (some (.int 0))) h') (h0 : (∀ N, N ≤ 300 → n ≠ nI N) → R (.inl (some (.int 1))) h) : mv_V G jL_putAll (d + 10) 0 [(0, .ref x), (1, .int key), (2, .int step), (3, .long y), (5, .long grow), (7, .int n), (8, .ref out)] [] h 8 48 R := by
  have e1 := hL.1.1
  refine v_aload (pc := 0) dL_putAll_0 rfl ?_
  refine v_iconst (pc := 2) (v := 0) dL_putAll_2 (by decide) ?_
  refine v_aload_n (pc := 3) dL_putAll_3 rfl rfl ?_
  refine v_iload_n (pc := 4) dL_putAll_4 rfl rfl ?_
  refine v_iload_n (pc := 5) dL_putAll_5 rfl rfl ?_
  refine v_lload_n (pc := 6) dL_putAll_6 rfl rfl ?_
  refine v_lload (pc := 7) dL_putAll_7 rfl ?_
  refine v_iload (pc := 9) dL_putAll_9 rfl ?_
  refine v_callV 8 48 (pc := 11) kL_32 dL_putAll_11 rfl (by assumption) (by omega) (by omega) (Nat.le_of_ble_eq_true rfl) (Nat.le_of_ble_eq_true rfl) ?_
  refine o_putAll hL (fun N c c2 h' u1 u2 => ?_) (fun c => ?_)
  · obtain ⟨ho', hl'⟩ := out_k u2 hn ho hl
    refine v_i2l (pc := 14) dL_putAll_14 ?_
    refine n_last (0) _ (pc := 15) dL_putAll_15 (by assumption) (by assumption) rfl (by omega) (by decide) ?_
    refine v_goto 23 (pc := 16) dL_putAll_16 (by decide) ?_
    refine v_iconst (pc := 23) (v := 0) dL_putAll_23 (by decide) ?_
    refine v_iret (pc := 24) dL_putAll_24 rfl ?_
    obtain ⟨w1, w2, w3⟩ := LP_out u1 u2 hn ((nI (pAll step grow N key y (V 4) nm).2.2).toInt64)
    exact h1 N c c2 _ w1 w2 w3
  · skip
    refine t_c1 (k := 1) rfl (by decide) (by decide) (by decide) wl_1 wc_1 (fun ex => ?_)
    refine v_astore (pc := 19) dL_putAll_19 rfl rfl (by decide) ?_
    refine v_iconst (pc := 21) (v := 1) dL_putAll_21 (by decide) ?_
    refine v_iret (pc := 22) dL_putAll_22 rfl ?_
    exact h0 c
set_option maxHeartbeats 4000000 in
set_option maxRecDepth 100000 in
theorem z_has (hL : LPx h x S vs sa T SS V sv nm nk) (ho : mh_kd h out = 51) (hl : mh_ln h out = 1) (hn : ¬ S out) (h1 : ∀ j, isR v sv j → ∀ h', LPx h' x S vs sa T SS V sv nm nk → SO S out h h' → mh_aJ h' out 0 = (if hasK (V j) key = true then 1 else 0) → R (.inl (some (.int 0))) h') (h0 : (∀ j, ¬ isR v sv j) → R (.inl (some (.int 1))) h) : mv_V G jL_has (d + 10) 0 [(0, .ref x), (1, .int v), (2, .int key), (3, .ref out)] [] h 8 48 R := by
  have e1 := hL.1.1
  refine v_aload_n (pc := 0) dL_has_0 rfl rfl ?_
  refine v_iconst (pc := 1) (v := 0) dL_has_1 (by decide) ?_
  refine v_aload_n (pc := 2) dL_has_2 rfl rfl ?_
  refine v_iload_n (pc := 3) dL_has_3 rfl rfl ?_
  refine v_iload_n (pc := 4) dL_has_4 rfl rfl ?_
  refine v_callV 8 48 (pc := 5) kL_36 dL_has_5 rfl (by assumption) (by omega) (by omega) (Nat.le_of_ble_eq_true rfl) (Nat.le_of_ble_eq_true rfl) ?_
  refine o_has hL (fun j hj => ?_) (fun c => ?_)
  · have z := h1 j hj
    by_cases ck : hasK (V j) key = true
    · rw [if_pos ck] at z ⊢
      refine v_if_eq 15 (pc := 8) dL_has_8 (by decide) (fun hb => ?_) (fun hb => ?_)
      · exact absurd hb (by decide)
      · refine v_lconst (pc := 11) (v := 1) dL_has_11 (by decide) ?_
        refine v_goto 16 (pc := 12) dL_has_12 (by decide) ?_
        refine n_last (0) _ (pc := 16) dL_has_16 (by assumption) (by assumption) rfl (by omega) (by decide) ?_
        refine v_goto 24 (pc := 17) dL_has_17 (by decide) ?_
        refine v_iconst (pc := 24) (v := 0) dL_has_24 (by decide) ?_
        refine v_iret (pc := 25) dL_has_25 rfl ?_
        obtain ⟨w1, w2, w3⟩ := LP_out hL (SF_rf S h) hn 1
        exact z _ w1 w2 w3
    · rw [if_neg ck] at z ⊢
      refine v_if_eq 15 (pc := 8) dL_has_8 (by decide) (fun hb => ?_) (fun hb => ?_)
      · refine v_lconst (pc := 15) (v := 0) dL_has_15 (by decide) ?_
        refine n_last (0) _ (pc := 16) dL_has_16 (by assumption) (by assumption) rfl (by omega) (by decide) ?_
        refine v_goto 24 (pc := 17) dL_has_17 (by decide) ?_
        refine v_iconst (pc := 24) (v := 0) dL_has_24 (by decide) ?_
        refine v_iret (pc := 25) dL_has_25 rfl ?_
        obtain ⟨w1, w2, w3⟩ := LP_out hL (SF_rf S h) hn 0
        exact z _ w1 w2 w3
      · exact absurd rfl hb
  · skip
    refine t_c1 (k := 2) rfl (by decide) (by decide) (by decide) wl_2 wc_2 (fun ex => ?_)
    refine v_astore (pc := 20) dL_has_20 rfl rfl (by decide) ?_
    refine v_iconst (pc := 22) (v := 1) dL_has_22 (by decide) ?_
    refine v_iret (pc := 23) dL_has_23 rfl ?_
    exact h0 c
set_option maxHeartbeats 4000000 in
set_option maxRecDepth 100000 in
theorem z_get (hL : LPx h x S vs sa T SS V sv nm nk) (ho : mh_kd h out = 51) (hl : mh_ln h out = 1) (hn : ¬ S out) (h1 : ∀ j, isR v sv j → ∀ h', LPx h' x S vs sa T SS V sv nm nk → SO S out h h' → mh_aJ h' out 0 = valK (V j) key → R (.inl (some (.int 0))) h') (h0 : (∀ j, ¬ isR v sv j) → R (.inl (some (.int 1))) h) : mv_V G jL_get (d + 10) 0 [(0, .ref x), (1, .int v), (2, .int key), (3, .ref out)] [] h 8 48 R := by
  have e1 := hL.1.1
  refine v_aload_n (pc := 0) dL_get_0 rfl rfl ?_
  refine v_iconst (pc := 1) (v := 0) dL_get_1 (by decide) ?_
  refine v_aload_n (pc := 2) dL_get_2 rfl rfl ?_
  refine v_iload_n (pc := 3) dL_get_3 rfl rfl ?_
  refine v_iload_n (pc := 4) dL_get_4 rfl rfl ?_
  refine v_callV 8 48 (pc := 5) kL_42 dL_get_5 rfl (by assumption) (by omega) (by omega) (Nat.le_of_ble_eq_true rfl) (Nat.le_of_ble_eq_true rfl) ?_
  refine o_get hL (fun j hj => ?_) (fun c => ?_)
  · skip
    refine n_last (0) _ (pc := 8) dL_get_8 (by assumption) (by assumption) rfl (by omega) (by decide) ?_
    refine v_goto 16 (pc := 9) dL_get_9 (by decide) ?_
    refine v_iconst (pc := 16) (v := 0) dL_get_16 (by decide) ?_
    refine v_iret (pc := 17) dL_get_17 rfl ?_
    obtain ⟨w1, w2, w3⟩ := LP_out hL (SF_rf S h) hn (valK (V j) key)
    exact h1 j hj _ w1 w2 w3
  · skip
    refine t_c1 (k := 2) rfl (by decide) (by decide) (by decide) wl_2 wc_2 (fun ex => ?_)
    refine v_astore (pc := 12) dL_get_12 rfl rfl (by decide) ?_
    refine v_iconst (pc := 14) (v := 1) dL_get_14 (by decide) ?_
    refine v_iret (pc := 15) dL_get_15 rfl ?_
    exact h0 c
set_option maxHeartbeats 4000000 in
set_option maxRecDepth 100000 in
theorem z_count (hL : LPx h x S vs sa T SS V sv nm nk) (ho : mh_kd h out = 51) (hl : mh_ln h out = 1) (hn : ¬ S out) (h1 : ∀ j, isR v sv j → a ≤ b → ∀ h', LPx h' x S vs sa T SS V sv nm nk → SO S out h h' → mh_aJ h' out 0 = (nI (cntK (V j) a b)).toInt64 → R (.inl (some (.int 0))) h') (h0 : (∀ j, ¬ isR v sv j) → R (.inl (some (.int 1))) h) (h2 : ∀ j, isR v sv j → ¬ a ≤ b → R (.inl (some (.int 2))) h) : mv_V G jL_count (d + 10) 0 [(0, .ref x), (1, .int v), (2, .int a), (3, .int b), (4, .ref out)] [] h 8 48 R := by
  have e1 := hL.1.1
  refine v_aload (pc := 0) dL_count_0 rfl ?_
  refine v_iconst (pc := 2) (v := 0) dL_count_2 (by decide) ?_
  refine v_aload_n (pc := 3) dL_count_3 rfl rfl ?_
  refine v_iload_n (pc := 4) dL_count_4 rfl rfl ?_
  refine v_iload_n (pc := 5) dL_count_5 rfl rfl ?_
  refine v_iload_n (pc := 6) dL_count_6 rfl rfl ?_
  refine v_callV 8 48 (pc := 7) kL_46 dL_count_7 rfl (by assumption) (by omega) (by omega) (Nat.le_of_ble_eq_true rfl) (Nat.le_of_ble_eq_true rfl) ?_
  refine o_count hL (fun j hj c => ?_) (fun c => ?_) (fun j hj c => ?_)
  · skip
    refine v_i2l (pc := 10) dL_count_10 ?_
    refine n_last (0) _ (pc := 11) dL_count_11 (by assumption) (by assumption) rfl (by omega) (by decide) ?_
    refine v_goto 23 (pc := 12) dL_count_12 (by decide) ?_
    refine v_iconst (pc := 23) (v := 0) dL_count_23 (by decide) ?_
    refine v_iret (pc := 24) dL_count_24 rfl ?_
    obtain ⟨w1, w2, w3⟩ := LP_out hL (SF_rf S h) hn ((nI (cntK (V j) a b)).toInt64)
    exact h1 j hj c _ w1 w2 w3
  · skip
    refine t_c1 (k := 2) rfl (by decide) (by decide) (by decide) wl_2 wc_2 (fun ex => ?_)
    refine v_astore (pc := 15) dL_count_15 rfl rfl (by decide) ?_
    refine v_iconst (pc := 17) (v := 1) dL_count_17 (by decide) ?_
    refine v_iret (pc := 18) dL_count_18 rfl ?_
    exact h0 c
  · skip
    refine t_c2 (k := 1) (j := 2) rfl (by decide) (by decide) (by decide) wl_2 (by decide) (by decide) (by decide) (by decide) (by decide) (by decide) wl_1 wc_1 (fun ex => ?_)
    refine v_astore (pc := 19) dL_count_19 rfl rfl (by decide) ?_
    refine v_iconst (pc := 21) (v := 2) dL_count_21 (by decide) ?_
    refine v_iret (pc := 22) dL_count_22 rfl ?_
    exact h2 j hj c
set_option maxHeartbeats 4000000 in
set_option maxRecDepth 100000 in
theorem z_sum (hL : LPx h x S vs sa T SS V sv nm nk) (ho : mh_kd h out = 51) (hl : mh_ln h out = 1) (hn : ¬ S out) (h1 : ∀ j, isR v sv j → a ≤ b → ∀ h', LPx h' x S vs sa T SS V sv nm nk → SO S out h h' → mh_aJ h' out 0 = sumK ((V j).filter (kIn a b)) → R (.inl (some (.int 0))) h') (h0 : (∀ j, ¬ isR v sv j) → R (.inl (some (.int 1))) h) (h2 : ∀ j, isR v sv j → ¬ a ≤ b → R (.inl (some (.int 2))) h) : mv_V G jL_sum (d + 10) 0 [(0, .ref x), (1, .int v), (2, .int a), (3, .int b), (4, .ref out)] [] h 8 48 R := by
  have e1 := hL.1.1
  refine v_aload (pc := 0) dL_sum_0 rfl ?_
  refine v_iconst (pc := 2) (v := 0) dL_sum_2 (by decide) ?_
  refine v_aload_n (pc := 3) dL_sum_3 rfl rfl ?_
  refine v_iload_n (pc := 4) dL_sum_4 rfl rfl ?_
  refine v_iload_n (pc := 5) dL_sum_5 rfl rfl ?_
  refine v_iload_n (pc := 6) dL_sum_6 rfl rfl ?_
  refine v_callV 8 48 (pc := 7) kL_50 dL_sum_7 rfl (by assumption) (by omega) (by omega) (Nat.le_of_ble_eq_true rfl) (Nat.le_of_ble_eq_true rfl) ?_
  refine o_sum hL (fun j hj c => ?_) (fun c => ?_) (fun j hj c => ?_)
  · skip
    refine n_last (0) _ (pc := 10) dL_sum_10 (by assumption) (by assumption) rfl (by omega) (by decide) ?_
    refine v_goto 22 (pc := 11) dL_sum_11 (by decide) ?_
    refine v_iconst (pc := 22) (v := 0) dL_sum_22 (by decide) ?_
    refine v_iret (pc := 23) dL_sum_23 rfl ?_
    obtain ⟨w1, w2, w3⟩ := LP_out hL (SF_rf S h) hn (sumK ((V j).filter (kIn a b)))
    exact h1 j hj c _ w1 w2 w3
  · skip
    refine t_c1 (k := 2) rfl (by decide) (by decide) (by decide) wl_2 wc_2 (fun ex => ?_)
    refine v_astore (pc := 14) dL_sum_14 rfl rfl (by decide) ?_
    refine v_iconst (pc := 16) (v := 1) dL_sum_16 (by decide) ?_
    refine v_iret (pc := 17) dL_sum_17 rfl ?_
    exact h0 c
  · skip
    refine t_c2 (k := 1) (j := 2) rfl (by decide) (by decide) (by decide) wl_2 (by decide) (by decide) (by decide) (by decide) (by decide) (by decide) wl_1 wc_1 (fun ex => ?_)
    refine v_astore (pc := 18) dL_sum_18 rfl rfl (by decide) ?_
    refine v_iconst (pc := 20) (v := 2) dL_sum_20 (by decide) ?_
    refine v_iret (pc := 21) dL_sum_21 rfl ?_
    exact h2 j hj c
set_option maxHeartbeats 4000000 in
set_option maxRecDepth 100000 in
theorem z_key (hL : LPx h x S vs sa T SS V sv nm nk) (ho : mh_kd h out = 51) (hl : mh_ln h out = 1) (hn : ¬ S out) (h1 : ∀ j k e, isR v sv j → k < cntK (V j) a 2147483647 → b = nI k → (V j)[(V j).length - cntK (V j) a 2147483647 + k]? = some e → ∀ h', LPx h' x S vs sa T SS V sv nm nk → SO S out h h' → mh_aJ h' out 0 = (Int32.toInt64 e.1) → R (.inl (some (.int 0))) h') (h0 : (∀ j, ¬ isR v sv j) → R (.inl (some (.int 1))) h) (h2 : ∀ j, isR v sv j → (∀ k, k < cntK (V j) a 2147483647 → b ≠ nI k) → R (.inl (some (.int 2))) h) : mv_V G jL_key (d + 10) 0 [(0, .ref x), (1, .int v), (2, .int a), (3, .int b), (4, .ref out)] [] h 8 48 R := by
  have e1 := hL.1.1
  refine v_aload (pc := 0) dL_key_0 rfl ?_
  refine v_iconst (pc := 2) (v := 0) dL_key_2 (by decide) ?_
  refine v_aload_n (pc := 3) dL_key_3 rfl rfl ?_
  refine v_iload_n (pc := 4) dL_key_4 rfl rfl ?_
  refine v_iload_n (pc := 5) dL_key_5 rfl rfl ?_
  refine v_iload_n (pc := 6) dL_key_6 rfl rfl ?_
  refine v_callV 8 48 (pc := 7) kL_54 dL_key_7 rfl (by assumption) (by omega) (by omega) (Nat.le_of_ble_eq_true rfl) (Nat.le_of_ble_eq_true rfl) ?_
  refine o_key hL (fun j k e hj c c2 c3 => ?_) (fun c => ?_) (fun j hj c => ?_)
  · skip
    refine v_i2l (pc := 10) dL_key_10 ?_
    refine n_last (0) _ (pc := 11) dL_key_11 (by assumption) (by assumption) rfl (by omega) (by decide) ?_
    refine v_goto 23 (pc := 12) dL_key_12 (by decide) ?_
    refine v_iconst (pc := 23) (v := 0) dL_key_23 (by decide) ?_
    refine v_iret (pc := 24) dL_key_24 rfl ?_
    obtain ⟨w1, w2, w3⟩ := LP_out hL (SF_rf S h) hn ((Int32.toInt64 e.1))
    exact h1 j k e hj c c2 c3 _ w1 w2 w3
  · skip
    refine t_c1 (k := 2) rfl (by decide) (by decide) (by decide) wl_2 wc_2 (fun ex => ?_)
    refine v_astore (pc := 15) dL_key_15 rfl rfl (by decide) ?_
    refine v_iconst (pc := 17) (v := 1) dL_key_17 (by decide) ?_
    refine v_iret (pc := 18) dL_key_18 rfl ?_
    exact h0 c
  · skip
    refine t_c2 (k := 1) (j := 2) rfl (by decide) (by decide) (by decide) wl_2 (by decide) (by decide) (by decide) (by decide) (by decide) (by decide) wl_1 wc_1 (fun ex => ?_)
    refine v_astore (pc := 19) dL_key_19 rfl rfl (by decide) ?_
    refine v_iconst (pc := 21) (v := 2) dL_key_21 (by decide) ?_
    refine v_iret (pc := 22) dL_key_22 rfl ?_
    exact h2 j hj c
set_option maxHeartbeats 4000000 in
set_option maxRecDepth 100000 in
theorem z_save (hL : LPx h x S vs sa T SS V sv nm nk) (h1 : ∀ j, j < 4 → v = nI j → ∀ h', LPx h' x S vs sa T SS (up1 V j (V 4)) (up1 sv j true) nm nk → SF S h h' → R (.inl (some (.int 0))) h') (h0 : (∀ j, j < 4 → v ≠ nI j) → R (.inl (some (.int 1))) h) : mv_V G jL_save (d + 10) 0 [(0, .ref x), (1, .int v)] [] h 8 48 R := by
  have e1 := hL.1.1
  refine v_aload_n (pc := 0) dL_save_0 rfl rfl ?_
  refine v_iload_n (pc := 1) dL_save_1 rfl rfl ?_
  refine v_callV 8 48 (pc := 2) kL_57 dL_save_2 rfl (by assumption) (by omega) (by omega) (Nat.le_of_ble_eq_true rfl) (Nat.le_of_ble_eq_true rfl) ?_
  refine o_save hL (fun j hj c h' u1 u2 => ?_) (fun c => ?_)
  · refine v_goto 11 (pc := 5) dL_save_5 (by decide) ?_
    refine v_iconst (pc := 11) (v := 0) dL_save_11 (by decide) ?_
    refine v_iret (pc := 12) dL_save_12 rfl ?_
    exact h1 j hj c h' u1 u2
  · skip
    refine t_c1 (k := 2) rfl (by decide) (by decide) (by decide) wl_2 wc_2 (fun ex => ?_)
    refine v_astore_n (pc := 8) dL_save_8 rfl rfl rfl (by decide) ?_
    refine v_iconst (pc := 9) (v := 1) dL_save_9 (by decide) ?_
    refine v_iret (pc := 10) dL_save_10 rfl ?_
    exact h0 c
set_option maxHeartbeats 4000000 in
set_option maxRecDepth 100000 in
theorem z_drop (hL : LPx h x S vs sa T SS V sv nm nk) (ho : mh_kd h out = 51) (hl : mh_ln h out = 1) (hn : ¬ S out) (h1 : ∀ j, j < 4 → v = nI j → ∀ h', LPx h' x S vs sa T SS V (up1 sv j false) nm nk → SO S out h h' → mh_aJ h' out 0 = (if sv j = true then 1 else 0) → R (.inl (some (.int 0))) h') (h0 : (∀ j, j < 4 → v ≠ nI j) → R (.inl (some (.int 1))) h) : mv_V G jL_drop (d + 10) 0 [(0, .ref x), (1, .int v), (2, .ref out)] [] h 8 48 R := by
  have e1 := hL.1.1
  refine v_aload_n (pc := 0) dL_drop_0 rfl rfl ?_
  refine v_iconst (pc := 1) (v := 0) dL_drop_1 (by decide) ?_
  refine v_aload_n (pc := 2) dL_drop_2 rfl rfl ?_
  refine v_iload_n (pc := 3) dL_drop_3 rfl rfl ?_
  refine v_callV 8 48 (pc := 4) kL_61 dL_drop_4 rfl (by assumption) (by omega) (by omega) (Nat.le_of_ble_eq_true rfl) (Nat.le_of_ble_eq_true rfl) ?_
  refine o_drop hL (fun j hj c h' u1 u2 => ?_) (fun c => ?_)
  · obtain ⟨ho', hl'⟩ := out_k u2 hn ho hl
    have z := h1 j hj c
    by_cases ck : sv j = true
    · rw [if_pos ck] at z ⊢
      refine v_if_eq 14 (pc := 7) dL_drop_7 (by decide) (fun hb => ?_) (fun hb => ?_)
      · exact absurd hb (by decide)
      · refine v_lconst (pc := 10) (v := 1) dL_drop_10 (by decide) ?_
        refine v_goto 15 (pc := 11) dL_drop_11 (by decide) ?_
        refine n_last (0) _ (pc := 15) dL_drop_15 (by assumption) (by assumption) rfl (by omega) (by decide) ?_
        refine v_goto 22 (pc := 16) dL_drop_16 (by decide) ?_
        refine v_iconst (pc := 22) (v := 0) dL_drop_22 (by decide) ?_
        refine v_iret (pc := 23) dL_drop_23 rfl ?_
        obtain ⟨w1, w2, w3⟩ := LP_out u1 u2 hn 1
        exact z _ w1 w2 w3
    · rw [if_neg ck] at z ⊢
      refine v_if_eq 14 (pc := 7) dL_drop_7 (by decide) (fun hb => ?_) (fun hb => ?_)
      · refine v_lconst (pc := 14) (v := 0) dL_drop_14 (by decide) ?_
        refine n_last (0) _ (pc := 15) dL_drop_15 (by assumption) (by assumption) rfl (by omega) (by decide) ?_
        refine v_goto 22 (pc := 16) dL_drop_16 (by decide) ?_
        refine v_iconst (pc := 22) (v := 0) dL_drop_22 (by decide) ?_
        refine v_iret (pc := 23) dL_drop_23 rfl ?_
        obtain ⟨w1, w2, w3⟩ := LP_out u1 u2 hn 0
        exact z _ w1 w2 w3
      · exact absurd rfl hb
  · skip
    refine t_c1 (k := 2) rfl (by decide) (by decide) (by decide) wl_2 wc_2 (fun ex => ?_)
    refine v_astore_n (pc := 19) dL_drop_19 rfl rfl rfl (by decide) ?_
    refine v_iconst (pc := 20) (v := 1) dL_drop_20 (by decide) ?_
    refine v_iret (pc := 21) dL_drop_21 rfl ?_
    exact h0 c
set_option maxHeartbeats 4000000 in
set_option maxRecDepth 100000 in
theorem z_restore (hL : LPx h x S vs sa T SS V sv nm nk) (ho : mh_kd h out = 51) (hl : mh_ln h out = 1) (hn : ¬ S out) (h1 : ∀ j, j < 4 → v = nI j → sv j = true → nm + (1 + (V j).length) ≤ 2500 → ∀ h', LPx h' x S vs sa T SS (up1 V 4 (V j)) sv (nm + (1 + (V j).length)) nk → SO S out h h' → mh_aJ h' out 0 = (nI (nm + (1 + (V j).length))).toInt64 → R (.inl (some (.int 0))) h') (h0 : (∀ j, j < 4 → v = nI j → ¬ sv j = true) → R (.inl (some (.int 1))) h) (h2 : ∀ j, j < 4 → v = nI j → sv j = true → ¬ nm + (1 + (V j).length) ≤ 2500 → R (.inl (some (.int 2))) h) : mv_V G jL_restore (d + 10) 0 [(0, .ref x), (1, .int v), (2, .ref out)] [] h 8 48 R := by
  have e1 := hL.1.1
  refine v_aload_n (pc := 0) dL_restore_0 rfl rfl ?_
  refine v_iconst (pc := 1) (v := 0) dL_restore_1 (by decide) ?_
  refine v_aload_n (pc := 2) dL_restore_2 rfl rfl ?_
  refine v_iload_n (pc := 3) dL_restore_3 rfl rfl ?_
  refine v_callV 8 48 (pc := 4) kL_65 dL_restore_4 rfl (by assumption) (by omega) (by omega) (Nat.le_of_ble_eq_true rfl) (Nat.le_of_ble_eq_true rfl) ?_
  refine o_restore hL (fun j hj c c2 c3 h' u1 u2 => ?_) (fun c => ?_) (fun j hj c c2 c3 => ?_)
  · obtain ⟨ho', hl'⟩ := out_k u2 hn ho hl
    refine v_i2l (pc := 7) dL_restore_7 ?_
    refine n_last (0) _ (pc := 8) dL_restore_8 (by assumption) (by assumption) rfl (by omega) (by decide) ?_
    refine v_goto 18 (pc := 9) dL_restore_9 (by decide) ?_
    refine v_iconst (pc := 18) (v := 0) dL_restore_18 (by decide) ?_
    refine v_iret (pc := 19) dL_restore_19 rfl ?_
    obtain ⟨w1, w2, w3⟩ := LP_out u1 u2 hn ((nI (nm + (1 + (V j).length))).toInt64)
    exact h1 j hj c c2 c3 _ w1 w2 w3
  · skip
    refine t_c1 (k := 2) rfl (by decide) (by decide) (by decide) wl_2 wc_2 (fun ex => ?_)
    refine v_astore_n (pc := 12) dL_restore_12 rfl rfl rfl (by decide) ?_
    refine v_iconst (pc := 13) (v := 1) dL_restore_13 (by decide) ?_
    refine v_iret (pc := 14) dL_restore_14 rfl ?_
    exact h0 c
  · skip
    refine t_c2 (k := 0) (j := 2) rfl (by decide) (by decide) (by decide) wl_2 (by decide) (by decide) (by decide) (by decide) (by decide) (by decide) wl_0 wc_0 (fun ex => ?_)
    refine v_astore_n (pc := 15) dL_restore_15 rfl rfl rfl (by decide) ?_
    refine v_iconst (pc := 16) (v := 2) dL_restore_16 (by decide) ?_
    refine v_iret (pc := 17) dL_restore_17 rfl ?_
    exact h2 j hj c c2 c3
set_option maxHeartbeats 4000000 in
set_option maxRecDepth 100000 in
theorem z_differ (hL : LPx h x S vs sa T SS V sv nm nk) (ho : mh_kd h out = 51) (hl : mh_ln h out = 1) (hn : ¬ S out) (h1 : ∀ i j, isR v sv i → isR v2 sv j → ∀ h', LPx h' x S vs sa T SS V sv nm nk → SO S out h h' → mh_aJ h' out 0 = (nI (difN (V i) (V j))).toInt64 → R (.inl (some (.int 0))) h') (h0 : (∀ j, ¬ isR v sv j) ∨ (∀ j, ¬ isR v2 sv j) → R (.inl (some (.int 1))) h) : mv_V G jL_differ (d + 10) 0 [(0, .ref x), (1, .int v), (2, .int v2), (3, .ref out)] [] h 8 48 R := by
  have e1 := hL.1.1
  refine v_aload_n (pc := 0) dL_differ_0 rfl rfl ?_
  refine v_iconst (pc := 1) (v := 0) dL_differ_1 (by decide) ?_
  refine v_aload_n (pc := 2) dL_differ_2 rfl rfl ?_
  refine v_iload_n (pc := 3) dL_differ_3 rfl rfl ?_
  refine v_iload_n (pc := 4) dL_differ_4 rfl rfl ?_
  refine v_callV 8 48 (pc := 5) kL_69 dL_differ_5 rfl (by assumption) (by omega) (by omega) (Nat.le_of_ble_eq_true rfl) (Nat.le_of_ble_eq_true rfl) ?_
  refine o_differ hL (fun i j hi hj => ?_) (fun c => ?_)
  · skip
    refine v_i2l (pc := 8) dL_differ_8 ?_
    refine n_last (0) _ (pc := 9) dL_differ_9 (by assumption) (by assumption) rfl (by omega) (by decide) ?_
    refine v_goto 17 (pc := 10) dL_differ_10 (by decide) ?_
    refine v_iconst (pc := 17) (v := 0) dL_differ_17 (by decide) ?_
    refine v_iret (pc := 18) dL_differ_18 rfl ?_
    obtain ⟨w1, w2, w3⟩ := LP_out hL (SF_rf S h) hn ((nI (difN (V i) (V j))).toInt64)
    exact h1 i j hi hj _ w1 w2 w3
  · skip
    refine t_c1 (k := 2) rfl (by decide) (by decide) (by decide) wl_2 wc_2 (fun ex => ?_)
    refine v_astore (pc := 13) dL_differ_13 rfl rfl (by decide) ?_
    refine v_iconst (pc := 15) (v := 1) dL_differ_15 (by decide) ?_
    refine v_iret (pc := 16) dL_differ_16 rfl ?_
    exact h0 c
set_option maxHeartbeats 4000000 in
set_option maxRecDepth 100000 in
theorem z_total (hL : LPx h x S vs sa T SS V sv nm nk) (ho : mh_kd h out = 51) (hl : mh_ln h out = 1) (hn : ¬ S out) (h1 : ∀ k, v = nI k → k < 3 → ∀ h', LPx h' x S vs sa T SS V sv nm nk → SO S out h h' → mh_aJ h' out 0 = (nI (if k = 0 then nm else if k = 1 then nk else cS sv 4)).toInt64 → R (.inl (some (.int 0))) h') (h0 : (∀ k, k < 3 → v ≠ nI k) → R (.inl (some (.int 1))) h) : mv_V G jL_total (d + 10) 0 [(0, .ref x), (1, .int v), (2, .ref out)] [] h 8 48 R := by
  have e1 := hL.1.1
  refine v_aload_n (pc := 0) dL_total_0 rfl rfl ?_
  refine v_iconst (pc := 1) (v := 0) dL_total_1 (by decide) ?_
  refine v_aload_n (pc := 2) dL_total_2 rfl rfl ?_
  refine v_iload_n (pc := 3) dL_total_3 rfl rfl ?_
  refine v_callV 8 48 (pc := 4) kL_72 dL_total_4 rfl (by assumption) (by omega) (by omega) (Nat.le_of_ble_eq_true rfl) (Nat.le_of_ble_eq_true rfl) ?_
  refine o_total hL (fun k c c2 => ?_) (fun c => ?_)
  · skip
    refine v_i2l (pc := 7) dL_total_7 ?_
    refine n_last (0) _ (pc := 8) dL_total_8 (by assumption) (by assumption) rfl (by omega) (by decide) ?_
    refine v_goto 15 (pc := 9) dL_total_9 (by decide) ?_
    refine v_iconst (pc := 15) (v := 0) dL_total_15 (by decide) ?_
    refine v_iret (pc := 16) dL_total_16 rfl ?_
    obtain ⟨w1, w2, w3⟩ := LP_out hL (SF_rf S h) hn ((nI (if k = 0 then nm else if k = 1 then nk else cS sv 4)).toInt64)
    exact h1 k c c2 _ w1 w2 w3
  · skip
    refine t_c1 (k := 1) rfl (by decide) (by decide) (by decide) wl_1 wc_1 (fun ex => ?_)
    refine v_astore_n (pc := 12) dL_total_12 rfl rfl rfl (by decide) ?_
    refine v_iconst (pc := 13) (v := 1) dL_total_13 (by decide) ?_
    refine v_iret (pc := 14) dL_total_14 rfl ?_
    exact h0 c
end ZZ
