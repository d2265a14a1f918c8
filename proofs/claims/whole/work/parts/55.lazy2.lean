/-! LazyPages: its public calls. -/
def mostK (M : List En) (key : Int32) (y : Int64) : Int64 := if hasK M key = true ∧ y < valK M key then valK M key else y
theorem cnt_rai (M : List En) (a b : Int32) (x : Int64) : cntK (raiK M a b x) a b = cntK M a b := by
  unfold cntK raiK
  induction M with
  | nil => rfl
  | cons e M ih =>
    rw [List.map_cons, List.filter_cons, List.filter_cons]
    by_cases c : kIn a b e = true
    · have c2 : kIn a b (e.1, e.2 + x) = true := c
      rw [if_pos c, if_pos c2, if_pos c, List.length_cons, List.length_cons, ih]
    · rw [if_neg c, if_neg c, if_neg c, ih]
theorem i32_ix {v : Int32} {n : Nat} (h1 : ¬ v < 0) (h2 : v < nI n) (hn : n < 2 ^ 31) : ∃ j, j < n ∧ v = nI j := by
  have a1 : (0 : Int32).toInt = 0 := by decide
  have b1 := Int32.not_lt.mp h1
  have b2 := Int32.le_iff_toInt_le.mp b1
  rw [a1] at b2
  have z : v.toNatClampNeg = v.toInt.toNat := rfl
  have hv := Int32.toInt_lt v
  have e : v = nI v.toNatClampNeg := by
    unfold nI
    refine Int32.toInt_inj.mp ?_
    rw [z, Int32.toInt_ofNat_of_lt (by omega)]
    omega
  refine ⟨v.toNatClampNeg, ?_, e⟩
  rw [e] at h2
  exact (nI_ltI (by omega) (by omega)).mp h2
theorem nI_ge0 {n : Nat} (hn : n < 2 ^ 31) : ¬ nI n < 0 := fun q => by
  have := (nI_ltI (a := n) (b := 0) (by omega) (by omega)).mp q
  omega
/-- the batch: so many are left, of this key and value; what the map and the number of messages become, how many went in -/
def pAll (step : Int32) (grow : Int64) : Nat → Int32 → Int64 → List En → Nat → List En × Nat × Nat
  | 0, _, _, M, nm => (M, nm, 0)
  | m + 1, at', v, M, nm => if (decide (nm < 2500) && (decide (M.length < 600) || hasK M at')) = true then ((pAll step grow m (at' + step) (v + grow) (putK M at' v) (nm + 1)).1, (pAll step grow m (at' + step) (v + grow) (putK M at' v) (nm + 1)).2.1, (pAll step grow m (at' + step) (v + grow) (putK M at' v) (nm + 1)).2.2 + 1) else (M, nm, 0)
theorem pAll_s (step : Int32) (grow : Int64) (m : Nat) (at' : Int32) (v : Int64) (M : List En) (nm : Nat) : pAll step grow (m + 1) at' v M nm = if (decide (nm < 2500) && (decide (M.length < 600) || hasK M at')) = true then ((pAll step grow m (at' + step) (v + grow) (putK M at' v) (nm + 1)).1, (pAll step grow m (at' + step) (v + grow) (putK M at' v) (nm + 1)).2.1, (pAll step grow m (at' + step) (v + grow) (putK M at' v) (nm + 1)).2.2 + 1) else (M, nm, 0) := rfl
theorem okA_b {nm : Nat} {M : List En} {key : Int32} : okA nm M key ↔ (decide (nm < 2500) && (decide (M.length < 600) || hasK M key)) = true := by
  simp [okA]
/-- how many of the first n are saved -/
def cS (sv : Nat → Bool) : Nat → Nat
  | 0 => 0
  | n + 1 => cS sv n + (if sv n = true then 1 else 0)
theorem cS_le (sv : Nat → Bool) : ∀ n, cS sv n ≤ n := by
  intro n
  induction n with
  | zero => exact Nat.le_refl _
  | succ n ih =>
    show cS sv n + _ ≤ _
    split <;> omega
theorem i32_step (key step : Int32) (i : Nat) : key + nI i * step + step = key + nI (i + 1) * step := by
  rw [nI_succ, Int32.add_mul, Int32.one_mul, Int32.add_assoc]
theorem i64_step (v grow : Int64) (i : Nat) (hi : i < 1000) : v + (nI i).toInt64 * grow + grow = v + (nI (i + 1)).toInt64 * grow := by
  have e : (nI (i + 1)).toInt64 = (nI i).toInt64 + 1 := by
    refine Int64.toInt_inj.mp ?_
    rw [Int64.toInt_add, Int32.toInt_toInt64, Int32.toInt_toInt64]
    unfold nI
    rw [Int32.toInt_ofNat_of_lt (by omega), Int32.toInt_ofNat_of_lt (by omega)]
    have h1 : (1 : Int64).toInt = 1 := by decide
    rw [h1, Int.bmod_eq_of_le (by omega) (by omega)]
    omega
  rw [e, Int64.add_mul, Int64.one_mul, Int64.add_assoc]
section LPO
variable {G : mv_G} {d : Nat} {h : mh_T} {x : Nat} {S : Nat → Prop} {vs sa : Nat} {T : Nat → Nat} {SS : Nat → Nat → Prop} {V : Nat → List En} {sv : Nat → Bool} {nm nk : Nat} {key v v2 a b : Int32} {y : Int64} {R : mv_O → mh_T → Prop}
set_option maxHeartbeats 4000000 in
set_option maxRecDepth 100000 in
theorem o_put (hL : LPx h x S vs sa T SS V sv nm nk) (h1 : okA nm (V 4) key → ∀ h', LPx h' x S vs sa T SS (up1 V 4 (putK (V 4) key y)) sv (nm + 1) nk → SF S h h' → R (.inl (some (.int (nI (nm + 1))))) h') (h0 : ¬ okA nm (V 4) key → R (.inr 0) h) : mv_V G jX2_put (d + 9) 0 [(0, .ref x), (1, .int key), (2, .long y)] [] h 8 48 R := by
  have e1 := hL.1.1
  refine v_aload_n (pc := 0) dX2_put_0 rfl rfl ?_
  refine v_iload_n (pc := 1) dX2_put_1 rfl rfl ?_
  refine v_callV 1 6 (pc := 2) kX2_34 dX2_put_2 rfl (by assumption) (by omega) (by omega) (Nat.le_of_ble_eq_true rfl) (Nat.le_of_ble_eq_true rfl) ?_
  refine p_reqAcc hL (fun c => ?_) (fun c => t_out rfl (h0 c))
  refine v_aload_n (pc := 5) dX2_put_5 rfl rfl ?_
  refine v_iload_n (pc := 6) dX2_put_6 rfl rfl ?_
  refine v_lload_n (pc := 7) dX2_put_7 rfl rfl ?_
  refine v_callV 0 0 (pc := 8) kX2_38 dX2_put_8 rfl (by assumption) (Nat.zero_le _) (Nat.zero_le _) (Nat.le_of_ble_eq_true rfl) (Nat.le_of_ble_eq_true rfl) ?_
  refine p_accVal hL c (fun h' u1 u2 => ?_)
  obtain ⟨⟨e1', _, _, _, _, _, _, _, _, _, _, e12', _⟩, _⟩ := id u1
  refine v_aload_n (pc := 11) dX2_put_11 rfl rfl ?_
  refine g_I 204 3 (pc := 12) fX2_27 dX2_put_12 rfl rfl (by assumption) (by assumption) ?_
  refine v_iret (pc := 15) dX2_put_15 rfl ?_
  exact h1 c h' u1 u2
set_option maxHeartbeats 4000000 in
set_option maxRecDepth 100000 in
theorem o_add (hL : LPx h x S vs sa T SS V sv nm nk) (h1 : okA nm (V 4) key → ∀ h', LPx h' x S vs sa T SS (up1 V 4 (putK (V 4) key (valK (V 4) key + y))) sv (nm + 1) nk → SF S h h' → R (.inl (some (.long (valK (V 4) key + y)))) h') (h0 : ¬ okA nm (V 4) key → R (.inr 0) h) : mv_V G jX2_add (d + 9) 0 [(0, .ref x), (1, .int key), (2, .long y)] [] h 8 48 R := by
  obtain ⟨⟨e1, e2, e3, e4, e5, e6, e7, e8, e9, e10, e11, e12, e13⟩, f1, f2, f3, f4, f5, f6⟩ := id hL
  obtain ⟨g1, g2, g3⟩ := f2 4 (by omega)
  have k1 := TB_kd g2
  refine v_aload_n (pc := 0) dX2_add_0 rfl rfl ?_
  refine v_iload_n (pc := 1) dX2_add_1 rfl rfl ?_
  refine v_callV 1 6 (pc := 2) kX2_34 dX2_add_2 rfl (by assumption) (by omega) (by omega) (Nat.le_of_ble_eq_true rfl) (Nat.le_of_ble_eq_true rfl) ?_
  refine p_reqAcc hL (fun c => ?_) (fun c => t_out rfl (h0 c))
  refine v_aload_n (pc := 5) dX2_add_5 rfl rfl ?_
  refine g_R 200 3 (pc := 6) fX2_10 dX2_add_6 rfl rfl (by assumption) (by assumption) (by assumption) ?_
  refine v_iload_n (pc := 9) dX2_add_9 rfl rfl ?_
  refine v_callV 0 0 (pc := 10) kX2_42 dX2_add_10 rfl (by assumption) (Nat.zero_le _) (Nat.zero_le _) (Nat.le_of_ble_eq_true rfl) (Nat.le_of_ble_eq_true rfl) ?_
  refine t_valueOf g2 ?_
  refine v_lload_n (pc := 13) dX2_add_13 rfl rfl ?_
  refine v_ladd (pc := 14) dX2_add_14 ?_
  refine v_lstore (pc := 15) dX2_add_15 rfl rfl rfl (by decide) ?_
  refine v_aload_n (pc := 17) dX2_add_17 rfl rfl ?_
  refine v_iload_n (pc := 18) dX2_add_18 rfl rfl ?_
  refine v_lload (pc := 19) dX2_add_19 rfl ?_
  refine v_callV 0 0 (pc := 21) kX2_38 dX2_add_21 rfl (by assumption) (Nat.zero_le _) (Nat.zero_le _) (Nat.le_of_ble_eq_true rfl) (Nat.le_of_ble_eq_true rfl) ?_
  refine p_accVal hL c (fun h' u1 u2 => ?_)
  refine v_lload (pc := 24) dX2_add_24 rfl ?_
  refine v_lret (pc := 26) dX2_add_26 rfl ?_
  exact h1 c h' u1 u2
set_option maxHeartbeats 4000000 in
set_option maxRecDepth 100000 in
theorem o_most (hL : LPx h x S vs sa T SS V sv nm nk) (h1 : okA nm (V 4) key → ∀ h', LPx h' x S vs sa T SS (up1 V 4 (putK (V 4) key (mostK (V 4) key y))) sv (nm + 1) nk → SF S h h' → R (.inl (some (.long (mostK (V 4) key y)))) h') (h0 : ¬ okA nm (V 4) key → R (.inr 0) h) : mv_V G jX2_most (d + 9) 0 [(0, .ref x), (1, .int key), (2, .long y)] [] h 8 48 R := by
  obtain ⟨⟨e1, e2, e3, e4, e5, e6, e7, e8, e9, e10, e11, e12, e13⟩, f1, f2, f3, f4, f5, f6⟩ := id hL
  obtain ⟨g1, g2, g3⟩ := f2 4 (by omega)
  have k1 := TB_kd g2
  refine v_aload_n (pc := 0) dX2_most_0 rfl rfl ?_
  refine v_iload_n (pc := 1) dX2_most_1 rfl rfl ?_
  refine v_callV 1 6 (pc := 2) kX2_34 dX2_most_2 rfl (by assumption) (by omega) (by omega) (Nat.le_of_ble_eq_true rfl) (Nat.le_of_ble_eq_true rfl) ?_
  refine p_reqAcc hL (fun c => ?_) (fun c => t_out rfl (h0 c))
  refine v_aload_n (pc := 5) dX2_most_5 rfl rfl ?_
  refine g_R 200 3 (pc := 6) fX2_10 dX2_most_6 rfl rfl (by assumption) (by assumption) (by assumption) ?_
  refine v_iload_n (pc := 9) dX2_most_9 rfl rfl ?_
  refine v_callV 0 0 (pc := 10) kX2_46 dX2_most_10 rfl (by assumption) (Nat.zero_le _) (Nat.zero_le _) (Nat.le_of_ble_eq_true rfl) (Nat.le_of_ble_eq_true rfl) ?_
  refine t_holds g2 ?_
  by_cases ck : hasK (V 4) key = true
  · rw [if_pos ck]
    refine v_if_eq 31 (pc := 13) dX2_most_13 (by decide) (fun hb => ?_) (fun hb => ?_)
    · exact absurd hb (by decide)
    · refine v_aload_n (pc := 16) dX2_most_16 rfl rfl ?_
      refine g_R 200 3 (pc := 17) fX2_10 dX2_most_17 rfl rfl (by assumption) (by assumption) (by assumption) ?_
      refine v_iload_n (pc := 20) dX2_most_20 rfl rfl ?_
      refine v_callV 0 0 (pc := 21) kX2_42 dX2_most_21 rfl (by assumption) (Nat.zero_le _) (Nat.zero_le _) (Nat.le_of_ble_eq_true rfl) (Nat.le_of_ble_eq_true rfl) ?_
      refine t_valueOf g2 ?_
      refine v_lload_n (pc := 24) dX2_most_24 rfl rfl ?_
      refine v_max (pc := 25) kX2_50 dX2_most_25 (Nat.le_of_ble_eq_true rfl) (by omega) ?_
      refine v_goto 32 (pc := 28) dX2_most_28 (by decide) ?_
      refine v_eql (y := mostK (V 4) key y) ?_ ?_
      · unfold mostK
        by_cases c2 : y < valK (V 4) key
        · rw [if_pos c2, if_pos ⟨ck, c2⟩]
        · rw [if_neg c2, if_neg (fun q => c2 q.2)]
      refine v_lstore (pc := 32) dX2_most_32 rfl rfl rfl (by decide) ?_
      refine v_aload_n (pc := 34) dX2_most_34 rfl rfl ?_
      refine v_iload_n (pc := 35) dX2_most_35 rfl rfl ?_
      refine v_lload (pc := 36) dX2_most_36 rfl ?_
      refine v_callV 0 0 (pc := 38) kX2_38 dX2_most_38 rfl (by assumption) (Nat.zero_le _) (Nat.zero_le _) (Nat.le_of_ble_eq_true rfl) (Nat.le_of_ble_eq_true rfl) ?_
      refine p_accVal hL c (fun h' u1 u2 => ?_)
      refine v_lload (pc := 41) dX2_most_41 rfl ?_
      refine v_lret (pc := 43) dX2_most_43 rfl ?_
      exact h1 c h' u1 u2
  · rw [if_neg ck]
    refine v_if_eq 31 (pc := 13) dX2_most_13 (by decide) (fun hb => ?_) (fun hb => ?_)
    · refine v_lload_n (pc := 31) dX2_most_31 rfl rfl ?_
      refine v_eql (y := mostK (V 4) key y) ?_ ?_
      · unfold mostK
        rw [if_neg (fun q => ck q.1)]
      refine v_lstore (pc := 32) dX2_most_32 rfl rfl rfl (by decide) ?_
      refine v_aload_n (pc := 34) dX2_most_34 rfl rfl ?_
      refine v_iload_n (pc := 35) dX2_most_35 rfl rfl ?_
      refine v_lload (pc := 36) dX2_most_36 rfl ?_
      refine v_callV 0 0 (pc := 38) kX2_38 dX2_most_38 rfl (by assumption) (Nat.zero_le _) (Nat.zero_le _) (Nat.le_of_ble_eq_true rfl) (Nat.le_of_ble_eq_true rfl) ?_
      refine p_accVal hL c (fun h' u1 u2 => ?_)
      refine v_lload (pc := 41) dX2_most_41 rfl ?_
      refine v_lret (pc := 43) dX2_most_43 rfl ?_
      exact h1 c h' u1 u2
    · exact absurd rfl hb
set_option maxHeartbeats 4000000 in
set_option maxRecDepth 100000 in
theorem o_delete (hL : LPx h x S vs sa T SS V sv nm nk) (h1 : a ≤ b → nm + 1 ≤ 2500 → ∀ h', LPx h' x S vs sa T SS (up1 V 4 (delK (V 4) a b)) sv (nm + 1) nk → SF S h h' → R (.inl (some (.int (nI (cntK (V 4) a b))))) h') (h0 : ¬ a ≤ b → R (.inr 1) h) (h2 : a ≤ b → ¬ nm + 1 ≤ 2500 → R (.inr 0) h) : mv_V G jX2_delete (d + 9) 0 [(0, .ref x), (1, .int a), (2, .int b)] [] h 8 48 R := by
  obtain ⟨⟨e1, e2, e3, e4, e5, e6, e7, e8, e9, e10, e11, e12, e13⟩, f1, f2, f3, f4, f5, f6⟩ := id hL
  obtain ⟨g1, g2, g3⟩ := f2 4 (by omega)
  have k1 := TB_kd g2
  have k2 := TB_sz g2
  refine v_iload_n (pc := 0) dX2_delete_0 rfl rfl ?_
  refine v_iload_n (pc := 1) dX2_delete_1 rfl rfl ?_
  refine v_callS 1 6 (pc := 2) kX2_56 dX2_delete_2 (Nat.le_of_ble_eq_true rfl) (by omega) (by omega) (Nat.le_of_ble_eq_true rfl) (Nat.le_of_ble_eq_true rfl) ?_
  refine p_reqRange (fun c => ?_) (fun c => t_out rfl (h0 c))
  refine v_aload_n (pc := 5) dX2_delete_5 rfl rfl ?_
  refine v_iconst (pc := 6) (v := 1) dX2_delete_6 (by decide) ?_
  refine v_callV 1 6 (pc := 7) kX2_60 dX2_delete_7 rfl (by assumption) (by omega) (by omega) (Nat.le_of_ble_eq_true rfl) (Nat.le_of_ble_eq_true rfl) ?_
  refine p_reqRoom (k := 1) hL (by omega) (fun c2 => ?_) (fun c2 => t_out rfl (h2 c c2))
  refine v_aload_n (pc := 10) dX2_delete_10 rfl rfl ?_
  refine g_R 200 3 (pc := 11) fX2_10 dX2_delete_11 rfl rfl (by assumption) (by assumption) (by assumption) ?_
  refine g_I 102 2 (pc := 14) fX2_63 dX2_delete_14 rfl rfl (by assumption) (by assumption) ?_
  refine v_istore_n (pc := 17) dX2_delete_17 rfl rfl rfl (by decide) ?_
  refine v_aload_n (pc := 18) dX2_delete_18 rfl rfl ?_
  refine g_R 200 3 (pc := 19) fX2_10 dX2_delete_19 rfl rfl (by assumption) (by assumption) (by assumption) ?_
  refine v_iload_n (pc := 22) dX2_delete_22 rfl rfl ?_
  refine v_iload_n (pc := 23) dX2_delete_23 rfl rfl ?_
  refine v_callV 0 0 (pc := 24) kX2_66 dX2_delete_24 rfl (by assumption) (Nat.zero_le _) (Nat.zero_le _) (Nat.le_of_ble_eq_true rfl) (Nat.le_of_ble_eq_true rfl) ?_
  refine t_removeIn g2 c (fun h' u1 u2 => ?_)
  obtain ⟨q1, q2⟩ := LP_tab hL (by omega) u1 u2
  obtain ⟨⟨i1, _, _, _, _, _, _, _, _, _, _, i12, _⟩, _⟩ := id q1
  refine v_aload_n (pc := 27) dX2_delete_27 rfl rfl ?_
  refine v_dup (pc := 28) dX2_delete_28 rfl ?_
  refine g_I 204 3 (pc := 29) fX2_27 dX2_delete_29 rfl rfl (by assumption) (by assumption) ?_
  refine v_iconst (pc := 32) (v := 1) dX2_delete_32 (by decide) ?_
  refine v_iadd (pc := 33) dX2_delete_33 ?_
  refine v_eqi (nI_succ nm).symm ?_
  refine p_I 204 3 (pc := 34) fX2_27 dX2_delete_34 rfl rfl (by assumption) ?_
  obtain ⟨r1, r2⟩ := LP_msg q1 (show nk ≤ nm + 1 by omega) c2
  generalize mh_sfI h' 204 x (nI (nm + 1)) = hd at *
  obtain ⟨⟨j1, j2, _⟩, _, j14, _⟩ := id r1
  obtain ⟨l1, l2, _⟩ := j14 4 (by omega)
  rw [up1_eq] at l2
  have l3 := TB_sz l2
  have l4 := TB_kd l2
  refine v_iload_n (pc := 37) dX2_delete_37 rfl rfl ?_
  refine v_aload_n (pc := 38) dX2_delete_38 rfl rfl ?_
  refine g_R 200 3 (pc := 39) fX2_10 dX2_delete_39 rfl rfl (by assumption) (by assumption) (by assumption) ?_
  refine g_I 102 2 (pc := 42) fX2_63 dX2_delete_42 rfl rfl (by assumption) (by assumption) ?_
  refine v_isub (pc := 45) dX2_delete_45 ?_
  have hdl := del_len (V 4) a b
  refine v_eqi (y := nI (cntK (V 4) a b)) ?_ ?_
  · rw [pk_sub (by omega)]
    congr 1; omega
  refine v_iret (pc := 46) dX2_delete_46 rfl ?_
  exact h1 c c2 _ r1 (SF_tr q2 r2)
set_option maxHeartbeats 4000000 in
set_option maxRecDepth 100000 in
theorem o_raise (hL : LPx h x S vs sa T SS V sv nm nk) (h1 : a ≤ b → nm + 1 ≤ 2500 → ∀ h', LPx h' x S vs sa T SS (up1 V 4 (raiK (V 4) a b y)) sv (nm + 1) nk → SF S h h' → R (.inl (some (.int (nI (cntK (V 4) a b))))) h') (h0 : ¬ a ≤ b → R (.inr 1) h) (h2 : a ≤ b → ¬ nm + 1 ≤ 2500 → R (.inr 0) h) : mv_V G jX2_raise (d + 9) 0 [(0, .ref x), (1, .int a), (2, .int b), (3, .long y)] [] h 8 48 R := by
  obtain ⟨⟨e1, e2, e3, e4, e5, e6, e7, e8, e9, e10, e11, e12, e13⟩, f1, f2, f3, f4, f5, f6⟩ := id hL
  obtain ⟨g1, g2, g3⟩ := f2 4 (by omega)
  have k1 := TB_kd g2
  have k2 := TB_sz g2
  refine v_iload_n (pc := 0) dX2_raise_0 rfl rfl ?_
  refine v_iload_n (pc := 1) dX2_raise_1 rfl rfl ?_
  refine v_callS 1 6 (pc := 2) kX2_56 dX2_raise_2 (Nat.le_of_ble_eq_true rfl) (by omega) (by omega) (Nat.le_of_ble_eq_true rfl) (Nat.le_of_ble_eq_true rfl) ?_
  refine p_reqRange (fun c => ?_) (fun c => t_out rfl (h0 c))
  refine v_aload_n (pc := 5) dX2_raise_5 rfl rfl ?_
  refine v_iconst (pc := 6) (v := 1) dX2_raise_6 (by decide) ?_
  refine v_callV 1 6 (pc := 7) kX2_60 dX2_raise_7 rfl (by assumption) (by omega) (by omega) (Nat.le_of_ble_eq_true rfl) (Nat.le_of_ble_eq_true rfl) ?_
  refine p_reqRoom (k := 1) hL (by omega) (fun c2 => ?_) (fun c2 => t_out rfl (h2 c c2))
  refine v_aload_n (pc := 10) dX2_raise_10 rfl rfl ?_
  refine g_R 200 3 (pc := 11) fX2_10 dX2_raise_11 rfl rfl (by assumption) (by assumption) (by assumption) ?_
  refine v_iload_n (pc := 14) dX2_raise_14 rfl rfl ?_
  refine v_iload_n (pc := 15) dX2_raise_15 rfl rfl ?_
  refine v_lload_n (pc := 16) dX2_raise_16 rfl rfl ?_
  refine v_callV 0 0 (pc := 17) kX2_69 dX2_raise_17 rfl (by assumption) (Nat.zero_le _) (Nat.zero_le _) (Nat.le_of_ble_eq_true rfl) (Nat.le_of_ble_eq_true rfl) ?_
  refine t_raiseIn g2 c (fun h' u1 u2 => ?_)
  obtain ⟨q1, q2⟩ := LP_tab hL (by omega) u1 u2
  obtain ⟨⟨i1, _, _, _, _, _, _, _, _, _, _, i12, _⟩, _⟩ := id q1
  refine v_aload_n (pc := 20) dX2_raise_20 rfl rfl ?_
  refine v_dup (pc := 21) dX2_raise_21 rfl ?_
  refine g_I 204 3 (pc := 22) fX2_27 dX2_raise_22 rfl rfl (by assumption) (by assumption) ?_
  refine v_iconst (pc := 25) (v := 1) dX2_raise_25 (by decide) ?_
  refine v_iadd (pc := 26) dX2_raise_26 ?_
  refine v_eqi (nI_succ nm).symm ?_
  refine p_I 204 3 (pc := 27) fX2_27 dX2_raise_27 rfl rfl (by assumption) ?_
  obtain ⟨r1, r2⟩ := LP_msg q1 (show nk ≤ nm + 1 by omega) c2
  generalize mh_sfI h' 204 x (nI (nm + 1)) = hd at *
  obtain ⟨⟨j1, j2, _⟩, _, j14, _⟩ := id r1
  obtain ⟨l1, l2, _⟩ := j14 4 (by omega)
  rw [up1_eq] at l2
  have l4 := TB_kd l2
  refine v_aload_n (pc := 30) dX2_raise_30 rfl rfl ?_
  refine g_R 200 3 (pc := 31) fX2_10 dX2_raise_31 rfl rfl (by assumption) (by assumption) (by assumption) ?_
  refine v_iload_n (pc := 34) dX2_raise_34 rfl rfl ?_
  refine v_iload_n (pc := 35) dX2_raise_35 rfl rfl ?_
  refine v_callV 0 0 (pc := 36) kX2_73 dX2_raise_36 rfl (by assumption) (Nat.zero_le _) (Nat.zero_le _) (Nat.le_of_ble_eq_true rfl) (Nat.le_of_ble_eq_true rfl) ?_
  refine t_countIn l2 c ?_
  rw [cnt_rai]
  refine v_iret (pc := 39) dX2_raise_39 rfl ?_
  exact h1 c c2 _ r1 (SF_tr q2 r2)
set_option maxHeartbeats 4000000 in
set_option maxRecDepth 100000 in
theorem o_putAll {step n : Int32} {grow : Int64} (hL : LPx h x S vs sa T SS V sv nm nk) (h1 : ∀ N, N ≤ 300 → n = nI N → ∀ h', LPx h' x S vs sa T SS (up1 V 4 (pAll step grow N key y (V 4) nm).1) sv (pAll step grow N key y (V 4) nm).2.1 nk → SF S h h' → R (.inl (some (.int (nI (pAll step grow N key y (V 4) nm).2.2)))) h') (h0 : (∀ N, N ≤ 300 → n ≠ nI N) → R (.inr 1) h) : mv_V G jX2_putAll (d + 9) 0 [(0, .ref x), (1, .int key), (2, .int step), (3, .long y), (5, .long grow), (7, .int n)] [] h 8 48 R := by
  have main : ∀ N, N ≤ 300 → n = nI N → mv_V G jX2_putAll (d + 9) 23 [(0, .ref x), (1, .int key), (2, .int step), (3, .long y), (5, .long grow), (7, .int n)] [] h 8 48 R := by
    intro N hN hn
    subst hn
    have loop : ∀ m i hc V' nm', i + m = N → LPx hc x S vs sa T SS (up1 V 4 V') sv nm' nk → SF S h hc → ((pAll step grow m (key + nI i * step) (y + (nI i).toInt64 * grow) V' nm').1 = (pAll step grow N key y (V 4) nm).1 ∧ (pAll step grow m (key + nI i * step) (y + (nI i).toInt64 * grow) V' nm').2.1 = (pAll step grow N key y (V 4) nm).2.1 ∧ i + (pAll step grow m (key + nI i * step) (y + (nI i).toInt64 * grow) V' nm').2.2 = (pAll step grow N key y (V 4) nm).2.2) → mv_V G jX2_putAll (d + 9) 26 [(0, .ref x), (1, .int key), (2, .int step), (3, .long y), (5, .long grow), (7, .int (nI N)), (8, .int (nI i))] [] hc 8 48 R := by
      intro m
      induction m with
      | zero =>
        intro i hc V' nm' hm hL' hF hp
        refine v_iload (pc := 26) dX2_putAll_26 rfl ?_
        refine v_iload (pc := 28) dX2_putAll_28 rfl ?_
        refine v_icmp_ge 73 (pc := 30) dX2_putAll_30 (by decide) (fun hb => ?_) (fun hb => ?_)
        · refine v_iload (pc := 73) dX2_putAll_73 rfl ?_
          refine v_iret (pc := 75) dX2_putAll_75 rfl ?_
          obtain ⟨p1, p2, p3⟩ := hp
          have hp3 : N = (pAll step grow N key y (V 4) nm).2.2 := by
            rw [← p3]
            show N = i + 0
            omega
          have z := h1 N hN rfl hc (by rw [← p1, ← p2]; exact hL') hF
          rw [← hp3] at z
          exact z
        · exact absurd ((nI_leI (by omega) (by omega)).mpr (by omega)) hb
      | succ m ih =>
        intro i hc V' nm' hm hL' hF hp
        have e1 := hL'.1.1
        refine v_iload (pc := 26) dX2_putAll_26 rfl ?_
        refine v_iload (pc := 28) dX2_putAll_28 rfl ?_
        refine v_icmp_ge 73 (pc := 30) dX2_putAll_30 (by decide) (fun hb => ?_) (fun hb => ?_)
        · have := (nI_leI (by omega) (by omega)).mp hb
          omega
        · refine v_iload_n (pc := 33) dX2_putAll_33 rfl rfl ?_
          refine v_iload (pc := 34) dX2_putAll_34 rfl ?_
          refine v_iload_n (pc := 36) dX2_putAll_36 rfl rfl ?_
          refine v_imul (pc := 37) dX2_putAll_37 ?_
          refine v_iadd (pc := 38) dX2_putAll_38 ?_
          refine v_istore (pc := 39) dX2_putAll_39 rfl rfl (by decide) ?_
          refine v_aload_n (pc := 41) dX2_putAll_41 rfl rfl ?_
          refine v_iload (pc := 42) dX2_putAll_42 rfl ?_
          refine v_callV 0 0 (pc := 44) kX2_84 dX2_putAll_44 rfl (by assumption) (Nat.zero_le _) (Nat.zero_le _) (Nat.le_of_ble_eq_true rfl) (Nat.le_of_ble_eq_true rfl) ?_
          rw [pAll_s] at hp
          refine p_accepts hL' (fun c => ?_) (fun c => ?_)
          · rw [up1_eq] at c
            rw [if_pos (okA_b.mp c)] at hp
            refine v_if_ne 53 (pc := 47) dX2_putAll_47 (by decide) (fun hb => ?_) (fun hb => ?_)
            · refine v_aload_n (pc := 53) dX2_putAll_53 rfl rfl ?_
              refine v_iload (pc := 54) dX2_putAll_54 rfl ?_
              refine v_lload_n (pc := 56) dX2_putAll_56 rfl rfl ?_
              refine v_iload (pc := 57) dX2_putAll_57 rfl ?_
              refine v_i2l (pc := 59) dX2_putAll_59 ?_
              refine v_lload (pc := 60) dX2_putAll_60 rfl ?_
              refine v_lmul (pc := 62) dX2_putAll_62 ?_
              refine v_ladd (pc := 63) dX2_putAll_63 ?_
              refine v_callV 0 0 (pc := 64) kX2_38 dX2_putAll_64 rfl (by assumption) (Nat.zero_le _) (Nat.zero_le _) (Nat.le_of_ble_eq_true rfl) (Nat.le_of_ble_eq_true rfl) ?_
              refine p_accVal hL' (by rw [up1_eq]; exact c) (fun h' u1 u2 => ?_)
              refine v_iinc (pc := 67) dX2_putAll_67 rfl (mv_inc _) rfl rfl (by decide) ?_
              refine v_goto 26 (pc := 70) dX2_putAll_70 (by decide) ?_
              refine v_loc [0, 1, 2, 3, 4, 5, 6] rfl ?_
              have e : up1 (up1 V 4 V') 4 (putK (up1 V 4 V' 4) (key + nI i * step) (y + (nI i).toInt64 * grow)) = up1 V 4 (putK V' (key + nI i * step) (y + (nI i).toInt64 * grow)) := by
                rw [up1_eq]
                funext j
                unfold up1
                by_cases c1 : j = 4
                · rw [if_pos c1, if_pos c1]
                · rw [if_neg c1, if_neg c1, if_neg c1]
              rw [e] at u1
              refine ih (i + 1) h' _ _ (by omega) u1 (SF_tr hF u2) ?_
              rw [i32_step, i64_step _ _ _ (by omega)] at hp
              refine ⟨hp.1, hp.2.1, ?_⟩
              have := hp.2.2
              show i + 1 + _ = _
              rw [← this]
              show i + 1 + (pAll step grow m (key + nI (i + 1) * step) (y + (nI (i + 1)).toInt64 * grow) (putK V' (key + nI i * step) (y + (nI i).toInt64 * grow)) (nm' + 1)).2.2 = i + ((pAll step grow m (key + nI (i + 1) * step) (y + (nI (i + 1)).toInt64 * grow) (putK V' (key + nI i * step) (y + (nI i).toInt64 * grow)) (nm' + 1)).2.2 + 1)
              omega
            · exact absurd hb (by decide)
          · rw [up1_eq] at c
            rw [if_neg (fun q => c (okA_b.mpr q))] at hp
            refine v_if_ne 53 (pc := 47) dX2_putAll_47 (by decide) (fun hb => ?_) (fun hb => ?_)
            · exact absurd rfl hb
            · refine v_iload (pc := 50) dX2_putAll_50 rfl ?_
              refine v_iret (pc := 52) dX2_putAll_52 rfl ?_
              obtain ⟨p1, p2, p3⟩ := hp
              have z := h1 N hN rfl hc (by rw [← p1, ← p2]; exact hL') hF
              rw [← p3] at z
              exact z
    refine v_iconst (pc := 23) (v := 0) dX2_putAll_23 (by decide) ?_
    refine v_istore (pc := 24) dX2_putAll_24 rfl rfl (by decide) ?_
    refine loop N 0 h (V 4) nm (by omega) (by rw [up1_id]; exact hL) (SF_rf S h) ?_
    have q1 : key + nI 0 * step = key := by rw [nI_0, Int32.zero_mul, Int32.add_zero]
    have q2 : y + (nI 0).toInt64 * grow = y := by
      have : (nI 0).toInt64 = 0 := by rw [nI_0]; decide
      rw [this, Int64.zero_mul, Int64.add_zero]
    rw [q1, q2]
    exact ⟨rfl, rfl, by omega⟩
  have hn300 : ∀ N, n = nI N → N ≤ 300 → ¬ n < 0 ∧ n ≤ 300 := fun N q hN => by
    rw [q]
    exact ⟨nI_ge0 (by omega), (nI_leI (b := 300) (by omega) (by omega)).mpr hN⟩
  refine v_iload (pc := 0) dX2_putAll_0 rfl ?_
  refine v_if_lt 13 (pc := 2) dX2_putAll_2 (by decide) (fun hb => ?_) (fun hb => ?_)
  · refine v_throw (pc := 13) 1 77 79 81 "n is not 0 .. 300" rfl tw_1 ms_79 dX2_putAll_13 dX2_putAll_16 dX2_putAll_17 dX2_putAll_19 dX2_putAll_22 rfl (Nat.le_of_ble_eq_true rfl) (by omega) (by omega) (by omega) ?_
    exact h0 (fun N hN q => (hn300 N q hN).1 hb)
  · have hb1 := hb
    refine v_iload (pc := 5) dX2_putAll_5 rfl ?_
    refine v_sipush (pc := 7) (v := 300) dX2_putAll_7 (by decide) ?_
    refine v_icmp_le 23 (pc := 10) dX2_putAll_10 (by decide) (fun hb => ?_) (fun hb => ?_)
    · obtain ⟨N, hN, q⟩ := i32_ix (n := 301) hb1 (i32_le_lt hb (by decide)) (by omega)
      exact main N (by omega) q
    · refine v_throw (pc := 13) 1 77 79 81 "n is not 0 .. 300" rfl tw_1 ms_79 dX2_putAll_13 dX2_putAll_16 dX2_putAll_17 dX2_putAll_19 dX2_putAll_22 rfl (Nat.le_of_ble_eq_true rfl) (by omega) (by omega) (by omega) ?_
      exact h0 (fun N hN q => hb (hn300 N q hN).2)
end LPO
