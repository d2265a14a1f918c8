/-! LazyPages$PageTable: countIn, sumIn, keyAt, isNextTo, isInOrder. -/
theorem cnt_app (A B : List En) (a b : Int32) : cntK (A ++ B) a b = cntK A a b + cntK B a b := by simp [cntK, List.filter_append]
section TW2
variable {n : Nat} {LO HI : Nat → Int32} {X : Nat → List En} {a b : Int32}
theorem tw_outA (w : tw n LO HI X) {i : Nat} (hi : i < n) (hl : LO i ≤ a) (e : En) (he : e ∈ fm i X) : e.1 < a ∨ b < e.1 := Or.inl (i32_lt_le (tw_A w hi he) hl)
theorem tw_outC (w : tw n LO HI X) {i : Nat} (hi : i < n) (hh : b ≤ HI i) (e : En) (he : e ∈ fm (n - (i + 1)) (fun j => X (i + 1 + j))) : e.1 < a ∨ b < e.1 := Or.inr (i32_le_lt hh (tw_C w hi he))
theorem tw_flt0 (w : tw n LO HI X) {i : Nat} (hi : i < n) (hl : LO i ≤ a) : (fm i X).filter (kIn a b) = [] := flt_no (tw_outA w hi hl)
theorem tw_fltn (w : tw n LO HI X) {i : Nat} (hi : i < n) (hh : b ≤ HI i) : (fm n X).filter (kIn a b) = (fm (i + 1) X).filter (kIn a b) := by
  rw [fm_at X hi, List.filter_append, flt_no (tw_outC w hi hh), List.append_nil, fm_succ]
end TW2
section TR2
variable {G : mv_G} {d : Nat} {h : mh_T} {t pa n sz : Nat} {D : Nat → Nat × Nat × Nat} {LO HI : Nat → Int32} {X : Nat → List En} {S : Nat → Prop} {M : List En} {a b key : Int32} {x : Int64} {R : mv_O → mh_T → Prop}
set_option maxHeartbeats 4000000 in
set_option maxRecDepth 100000 in
theorem t_countIn (hT : TB h t S M) (hab : a ≤ b) (hR : R (.inl (some (.int (nI (cntK M a b))))) h) : mv_V G jX1_countIn (d + 3) 0 [(0, .ref t), (1, .int a), (2, .int b)] [] h 0 0 R := by
  obtain ⟨pa, n, D, LO, HI, X, h0, h1, h2, h3, h4⟩ := hT
  have h0' := h0
  obtain ⟨e1, e2, e3, e4, e5, e6, e7, e8, e9⟩ := h0
  have n40 := h1.2.1
  refine v_aload_n (pc := 0) dX1_countIn_0 rfl rfl ?_
  refine v_iload_n (pc := 1) dX1_countIn_1 rfl rfl ?_
  refine v_callV 0 0 (pc := 2) kX1_28 dX1_countIn_2 rfl (by assumption) (Nat.zero_le _) (Nat.zero_le _) (Nat.le_of_ble_eq_true rfl) (Nat.le_of_ble_eq_true rfl) ?_
  refine c_pageOf h0' h1 (fun l hl hl1 hl2 => ?_)
  refine v_istore_n (pc := 5) dX1_countIn_5 rfl rfl rfl (by decide) ?_
  refine v_iconst (pc := 6) (v := 0) dX1_countIn_6 (by decide) ?_
  refine v_istore (pc := 7) dX1_countIn_7 rfl rfl (by decide) ?_
  refine v_aload_n (pc := 9) dX1_countIn_9 rfl rfl ?_
  refine v_iload_n (pc := 10) dX1_countIn_10 rfl rfl ?_
  refine v_callV 0 0 (pc := 11) kX1_28 dX1_countIn_11 rfl (by assumption) (Nat.zero_le _) (Nat.zero_le _) (Nat.le_of_ble_eq_true rfl) (Nat.le_of_ble_eq_true rfl) ?_
  refine c_pageOf h0' h1 (fun i0 hi hi1 hi2 => ?_)
  refine v_istore (pc := 14) dX1_countIn_14 rfl rfl (by decide) ?_
  have hil := tw_le h1 hi hi1 hl2 hab
  have loop : ∀ m i, i + m = l + 1 → mv_V G jX1_countIn (d + 3) 16 [(0, .ref t), (1, .int a), (2, .int b), (3, .int (nI l)), (4, .int (nI (cntK (fm i X) a b))), (5, .int (nI i))] [] h 0 0 R := by
    intro m
    induction m with
    | zero =>
      intro i hm
      have ei : i = l + 1 := by omega
      subst ei
      refine v_iload (pc := 16) dX1_countIn_16 rfl ?_
      refine v_iload_n (pc := 18) dX1_countIn_18 rfl rfl ?_
      refine v_icmp_gt 45 (pc := 19) dX1_countIn_19 (by decide) (fun hb => ?_) (fun hb => ?_)
      · refine v_iload (pc := 45) dX1_countIn_45 rfl ?_
        refine v_iret (pc := 47) dX1_countIn_47 rfl ?_
        have e : cntK M a b = cntK (fm (l + 1) X) a b := by
          unfold cntK
          rw [← h3, tw_fltn h1 hl hl2]
        rw [e] at hR
        exact hR
      · exact absurd ((nI_ltI (by omega) (by omega)).mpr (by omega)) hb
    | succ m ih =>
      intro i hm
      obtain ⟨f1, f2, f3⟩ := e8 i (by omega)
      have f4 := f3.1.1
      refine v_iload (pc := 16) dX1_countIn_16 rfl ?_
      refine v_iload_n (pc := 18) dX1_countIn_18 rfl rfl ?_
      refine v_icmp_gt 45 (pc := 19) dX1_countIn_19 (by decide) (fun hb => ?_) (fun hb => ?_)
      · have := (nI_ltI (by omega) (by omega)).mp hb
        omega
      · refine v_iload (pc := 22) dX1_countIn_22 rfl ?_
        refine v_aload_n (pc := 24) dX1_countIn_24 rfl rfl ?_
        refine g_R 100 2 (pc := 25) fX1_11 dX1_countIn_25 rfl rfl (by assumption) (by assumption) (by assumption) ?_
        refine v_iload (pc := 28) dX1_countIn_28 rfl ?_
        refine n_aald55 (i) _ (pc := 30) dX1_countIn_30 (by assumption) (by assumption) rfl (by omega) (by decide) f1 (by assumption) ?_
        refine v_iload_n (pc := 31) dX1_countIn_31 rfl rfl ?_
        refine v_iload_n (pc := 32) dX1_countIn_32 rfl rfl ?_
        refine v_callV 0 0 (pc := 33) kX1_68 dX1_countIn_33 rfl (by assumption) (Nat.zero_le _) (Nat.zero_le _) (Nat.le_of_ble_eq_true rfl) (Nat.le_of_ble_eq_true rfl) ?_
        refine gl_count f3 (h1.2.2.2.2.1 i (by omega)).2.1 hab ?_
        refine v_iadd (pc := 36) dX1_countIn_36 ?_
        refine v_eqi (y := nI (cntK (fm (i + 1) X) a b)) ?_ ?_
        · rw [fm_succ, cnt_app, ← nI_add]
        refine v_istore (pc := 37) dX1_countIn_37 rfl rfl (by decide) ?_
        refine v_iinc (pc := 39) dX1_countIn_39 rfl (mv_inc _) rfl rfl (by decide) ?_
        refine v_goto 16 (pc := 42) dX1_countIn_42 (by decide) ?_
        exact ih (i + 1) (by omega)
  have z : cntK (fm i0 X) a b = 0 := by
    unfold cntK
    rw [tw_flt0 h1 hi hi1]; rfl
  have q := loop (l + 1 - i0) i0 (by omega)
  rw [z] at q
  exact q
set_option maxHeartbeats 4000000 in
set_option maxRecDepth 100000 in
theorem t_sumIn (hT : TB h t S M) (hab : a ≤ b) (hR : R (.inl (some (.long (sumK (M.filter (kIn a b)))))) h) : mv_V G jX1_sumIn (d + 3) 0 [(0, .ref t), (1, .int a), (2, .int b)] [] h 0 0 R := by
  obtain ⟨pa, n, D, LO, HI, X, h0, h1, h2, h3, h4⟩ := hT
  have h0' := h0
  obtain ⟨e1, e2, e3, e4, e5, e6, e7, e8, e9⟩ := h0
  have n40 := h1.2.1
  refine v_aload_n (pc := 0) dX1_sumIn_0 rfl rfl ?_
  refine v_iload_n (pc := 1) dX1_sumIn_1 rfl rfl ?_
  refine v_callV 0 0 (pc := 2) kX1_28 dX1_sumIn_2 rfl (by assumption) (Nat.zero_le _) (Nat.zero_le _) (Nat.le_of_ble_eq_true rfl) (Nat.le_of_ble_eq_true rfl) ?_
  refine c_pageOf h0' h1 (fun l hl hl1 hl2 => ?_)
  refine v_istore_n (pc := 5) dX1_sumIn_5 rfl rfl rfl (by decide) ?_
  refine v_lconst (pc := 6) (v := 0) dX1_sumIn_6 (by decide) ?_
  refine v_lstore (pc := 7) dX1_sumIn_7 rfl rfl rfl (by decide) ?_
  refine v_aload_n (pc := 9) dX1_sumIn_9 rfl rfl ?_
  refine v_iload_n (pc := 10) dX1_sumIn_10 rfl rfl ?_
  refine v_callV 0 0 (pc := 11) kX1_28 dX1_sumIn_11 rfl (by assumption) (Nat.zero_le _) (Nat.zero_le _) (Nat.le_of_ble_eq_true rfl) (Nat.le_of_ble_eq_true rfl) ?_
  refine c_pageOf h0' h1 (fun i0 hi hi1 hi2 => ?_)
  refine v_istore (pc := 14) dX1_sumIn_14 rfl rfl (by decide) ?_
  have hil := tw_le h1 hi hi1 hl2 hab
  have loop : ∀ m i, i + m = l + 1 → mv_V G jX1_sumIn (d + 3) 16 [(0, .ref t), (1, .int a), (2, .int b), (3, .int (nI l)), (4, .long (sumK ((fm i X).filter (kIn a b)))), (6, .int (nI i))] [] h 0 0 R := by
    intro m
    induction m with
    | zero =>
      intro i hm
      have ei : i = l + 1 := by omega
      subst ei
      refine v_iload (pc := 16) dX1_sumIn_16 rfl ?_
      refine v_iload_n (pc := 18) dX1_sumIn_18 rfl rfl ?_
      refine v_icmp_gt 45 (pc := 19) dX1_sumIn_19 (by decide) (fun hb => ?_) (fun hb => ?_)
      · refine v_lload (pc := 45) dX1_sumIn_45 rfl ?_
        refine v_lret (pc := 47) dX1_sumIn_47 rfl ?_
        rw [← h3, tw_fltn h1 hl hl2] at hR
        exact hR
      · exact absurd ((nI_ltI (by omega) (by omega)).mpr (by omega)) hb
    | succ m ih =>
      intro i hm
      obtain ⟨f1, f2, f3⟩ := e8 i (by omega)
      have f4 := f3.1.1
      refine v_iload (pc := 16) dX1_sumIn_16 rfl ?_
      refine v_iload_n (pc := 18) dX1_sumIn_18 rfl rfl ?_
      refine v_icmp_gt 45 (pc := 19) dX1_sumIn_19 (by decide) (fun hb => ?_) (fun hb => ?_)
      · have := (nI_ltI (by omega) (by omega)).mp hb
        omega
      · refine v_lload (pc := 22) dX1_sumIn_22 rfl ?_
        refine v_aload_n (pc := 24) dX1_sumIn_24 rfl rfl ?_
        refine g_R 100 2 (pc := 25) fX1_11 dX1_sumIn_25 rfl rfl (by assumption) (by assumption) (by assumption) ?_
        refine v_iload (pc := 28) dX1_sumIn_28 rfl ?_
        refine n_aald55 (i) _ (pc := 30) dX1_sumIn_30 (by assumption) (by assumption) rfl (by omega) (by decide) f1 (by assumption) ?_
        refine v_iload_n (pc := 31) dX1_sumIn_31 rfl rfl ?_
        refine v_iload_n (pc := 32) dX1_sumIn_32 rfl rfl ?_
        refine v_callV 0 0 (pc := 33) kX1_79 dX1_sumIn_33 rfl (by assumption) (Nat.zero_le _) (Nat.zero_le _) (Nat.le_of_ble_eq_true rfl) (Nat.le_of_ble_eq_true rfl) ?_
        refine gl_sum f3 (h1.2.2.2.2.1 i (by omega)).2.1 hab ?_
        refine v_ladd (pc := 36) dX1_sumIn_36 ?_
        refine v_eql (y := sumK ((fm (i + 1) X).filter (kIn a b))) ?_ ?_
        · rw [fm_succ, List.filter_append, sumK_app]
        refine v_lstore (pc := 37) dX1_sumIn_37 rfl rfl rfl (by decide) ?_
        refine v_iinc (pc := 39) dX1_sumIn_39 rfl (mv_inc _) rfl rfl (by decide) ?_
        refine v_goto 16 (pc := 42) dX1_sumIn_42 (by decide) ?_
        exact ih (i + 1) (by omega)
  have z : sumK ((fm i0 X).filter (kIn a b)) = 0 := by
    rw [tw_flt0 h1 hi hi1]; rfl
  have q := loop (l + 1 - i0) i0 (by omega)
  rw [z] at q
  exact q
theorem pgL_get {D : Nat × Nat × Nat} {lo hi : Int32} {L : List En} (hp : pgL h D lo hi L) {i : Nat} {e : En} (he : L[i]? = some e) : mh_aI h D.2.1 i = e.1 ∧ mh_aJ h D.2.2 i + mh_fJ h 5 D.1 = e.2 := by
  obtain ⟨hi, hv⟩ := List.getElem?_eq_some_iff.mp he
  have z := hp.2.2.2
  have q : (pl (mh_aI h D.2.1) (mh_aJ h D.2.2) (mh_fJ h 5 D.1) L.length)[i]'(by rw [pl_len]; exact hi) = L[i] := by
    congr 1
  rw [pl_get] at q
  rw [← hv, ← q]
  exact ⟨rfl, rfl⟩
set_option maxHeartbeats 4000000 in
set_option maxRecDepth 100000 in
theorem t_keyAt {r : Nat} {e : En} (hT : TB h t S M) (hr : M[r]? = some e) (hR : R (.inl (some (.int e.1))) h) : mv_V G jX1_keyAt d 0 [(0, .ref t), (1, .int (nI r))] [] h 0 0 R := by
  obtain ⟨pa, n, D, LO, HI, X, h0, h1, h2, h3, h4⟩ := hT
  have h0' := h0
  obtain ⟨e1, e2, e3, e4, e5, e6, e7, e8, e9⟩ := h0
  have n40 := h1.2.1
  have n1 := h1.1
  have hrl : r < M.length := (List.getElem?_eq_some_iff.mp hr).1
  have s1 : nI n - (1 : Int32) = nI (n - 1) := pk_sub n1
  have fin : ∀ i c, i < n → (fm i X).length + c = r → c < (X i).length → mv_V G jX1_keyAt d 45 [(0, .ref t), (1, .int (nI r)), (2, .int (nI i)), (3, .int (nI c))] [] h 0 0 R := by
    intro i c hi hc hl
    obtain ⟨f1, f2, f3⟩ := e8 i (by omega)
    have f3' := f3
    obtain ⟨⟨g1, g2, g3, g4, g5, g6, g7, g8, g9, g10, g11⟩, g12⟩ := f3
    have hx : (X i)[c]? = some e := by
      rw [← hr, ← h3, fm_at X hi, List.append_assoc, ← hc, List.getElem?_append_right (by omega), List.getElem?_append_left (by omega)]
      congr 1; omega
    have hk := (pgL_get f3' hx).1
    refine v_aload_n (pc := 45) dX1_keyAt_45 rfl rfl ?_
    refine g_R 100 2 (pc := 46) fX1_11 dX1_keyAt_46 rfl rfl (by assumption) (by assumption) (by assumption) ?_
    refine v_iload_n (pc := 49) dX1_keyAt_49 rfl rfl ?_
    refine n_aald55 (i) _ (pc := 50) dX1_keyAt_50 (by assumption) (by assumption) rfl (by omega) (by decide) f1 (by assumption) ?_
    refine g_R 0 1 (pc := 51) fX1_83 dX1_keyAt_51 rfl rfl (by assumption) (by assumption) (by assumption) ?_
    refine v_iload_n (pc := 54) dX1_keyAt_54 rfl rfl ?_
    refine n_iald (c) _ (pc := 55) dX1_keyAt_55 (by assumption) (by assumption) rfl (by omega) (by decide) hk ?_
    refine v_iret (pc := 56) dX1_keyAt_56 rfl ?_
    exact hR
  have loop : ∀ m i c, i + m = n - 1 → (fm i X).length + c = r → mv_V G jX1_keyAt d 4 [(0, .ref t), (1, .int (nI r)), (2, .int (nI i)), (3, .int (nI c))] [] h 0 0 R := by
    intro m
    induction m with
    | zero =>
      intro i c hm hc
      refine v_iload_n (pc := 4) dX1_keyAt_4 rfl rfl ?_
      refine v_aload_n (pc := 5) dX1_keyAt_5 rfl rfl ?_
      refine g_I 101 2 (pc := 6) fX1_18 dX1_keyAt_6 rfl rfl (by assumption) (by assumption) ?_
      refine v_iconst (pc := 9) (v := 1) dX1_keyAt_9 (by decide) ?_
      refine v_isub (pc := 10) dX1_keyAt_10 ?_
      refine v_icmp_ge 45 (pc := 11) dX1_keyAt_11 (by decide) (fun hb => ?_) (fun hb => ?_)
      · have ei : i + 1 = n := by omega
        refine fin i c (by omega) hc ?_
        rw [← h3, ← ei, fm_succ, List.length_append] at hrl
        omega
      · rw [s1] at hb
        exact absurd ((nI_leI (by omega) (by omega)).mpr (by omega)) hb
    | succ m ih =>
      intro i c hm hc
      obtain ⟨f1, f2, f3⟩ := e8 i (by omega)
      have f4 := f3.1.1
      have f5 := f3.1.2.2.2.2.2.2.2.2.2.1
      have f6 := f3.1.2.2.2.2.2.2.2.2.2.2
      refine v_iload_n (pc := 4) dX1_keyAt_4 rfl rfl ?_
      refine v_aload_n (pc := 5) dX1_keyAt_5 rfl rfl ?_
      refine g_I 101 2 (pc := 6) fX1_18 dX1_keyAt_6 rfl rfl (by assumption) (by assumption) ?_
      refine v_iconst (pc := 9) (v := 1) dX1_keyAt_9 (by decide) ?_
      refine v_isub (pc := 10) dX1_keyAt_10 ?_
      refine v_icmp_ge 45 (pc := 11) dX1_keyAt_11 (by decide) (fun hb => ?_) (fun hb => ?_)
      · rw [s1] at hb
        have := (nI_leI (by omega) (by omega)).mp hb
        omega
      · refine v_iload_n (pc := 14) dX1_keyAt_14 rfl rfl ?_
        refine v_aload_n (pc := 15) dX1_keyAt_15 rfl rfl ?_
        refine g_R 100 2 (pc := 16) fX1_11 dX1_keyAt_16 rfl rfl (by assumption) (by assumption) (by assumption) ?_
        refine v_iload_n (pc := 19) dX1_keyAt_19 rfl rfl ?_
        refine n_aald55 (i) _ (pc := 20) dX1_keyAt_20 (by assumption) (by assumption) rfl (by omega) (by decide) f1 (by assumption) ?_
        refine g_I 2 1 (pc := 21) fX1_47 dX1_keyAt_21 rfl rfl (by assumption) (by assumption) ?_
        refine v_icmp_lt 45 (pc := 24) dX1_keyAt_24 (by decide) (fun hb => ?_) (fun hb => ?_)
        · exact fin i c (by omega) hc ((nI_ltI (by omega) (by omega)).mp hb)
        · have hge : (X i).length ≤ c := by
            rcases Nat.lt_or_ge c (X i).length with z | z
            · exact absurd ((nI_ltI (by omega) (by omega)).mpr z) hb
            · exact z
          refine v_iload_n (pc := 27) dX1_keyAt_27 rfl rfl ?_
          refine v_aload_n (pc := 28) dX1_keyAt_28 rfl rfl ?_
          refine g_R 100 2 (pc := 29) fX1_11 dX1_keyAt_29 rfl rfl (by assumption) (by assumption) (by assumption) ?_
          refine v_iload_n (pc := 32) dX1_keyAt_32 rfl rfl ?_
          refine n_aald55 (i) _ (pc := 33) dX1_keyAt_33 (by assumption) (by assumption) rfl (by omega) (by decide) f1 (by assumption) ?_
          refine g_I 2 1 (pc := 34) fX1_47 dX1_keyAt_34 rfl rfl (by assumption) (by assumption) ?_
          refine v_isub (pc := 37) dX1_keyAt_37 ?_
          refine v_eqi (pk_sub hge) ?_
          refine v_istore_n (pc := 38) dX1_keyAt_38 rfl rfl rfl (by decide) ?_
          refine v_iinc (pc := 39) dX1_keyAt_39 rfl (mv_inc _) rfl rfl (by decide) ?_
          refine v_goto 4 (pc := 42) dX1_keyAt_42 (by decide) ?_
          refine ih (i + 1) _ (by omega) ?_
          rw [fm_succ, List.length_append]
          omega
  refine v_iconst (pc := 0) (v := 0) dX1_keyAt_0 (by decide) ?_
  refine v_istore_n (pc := 1) dX1_keyAt_1 rfl rfl rfl (by decide) ?_
  refine v_iload_n (pc := 2) dX1_keyAt_2 rfl rfl ?_
  refine v_istore_n (pc := 3) dX1_keyAt_3 rfl rfl rfl (by decide) ?_
  refine loop (n - 1) 0 r (by omega) ?_
  show 0 + r = r
  omega
set_option maxHeartbeats 4000000 in
set_option maxRecDepth 100000 in
theorem t_isNextTo {i : Nat} (h0 : tb0 h t pa n D LO HI X sz) (w : tw n LO HI X) (hi : i < n) (hR : R (.inl (some (.int 1))) h) : mv_V G jX1_isNextTo d 0 [(0, .ref t), (1, .int (nI i))] [] h 0 0 R := by
  obtain ⟨e1, e2, e3, e4, e5, e6, e7, e8, e9⟩ := h0
  obtain ⟨w1, w2, w3, w4, w5, w6⟩ := w
  rcases Nat.eq_zero_or_pos i with z | z
  · subst z
    obtain ⟨f1, f2, f3⟩ := e8 0 (by omega)
    have f4 := f3.1.1
    have f5 := f3.2.1
    refine v_iload_n (pc := 0) dX1_isNextTo_0 rfl rfl ?_
    refine v_if_ne 24 (pc := 1) dX1_isNextTo_1 (by decide) (fun hb => ?_) (fun hb => ?_)
    · exact absurd rfl hb
    · refine v_aload_n (pc := 4) dX1_isNextTo_4 rfl rfl ?_
      refine g_R 100 2 (pc := 5) fX1_11 dX1_isNextTo_5 rfl rfl (by assumption) (by assumption) (by assumption) ?_
      refine v_iconst (pc := 8) (v := 0) dX1_isNextTo_8 (by decide) ?_
      refine n_aald55 (0) _ (pc := 9) dX1_isNextTo_9 (by assumption) (by assumption) rfl (by omega) (by decide) f1 (by assumption) ?_
      refine g_I 3 1 (pc := 10) fX1_110 dX1_isNextTo_10 rfl rfl (by assumption) (by assumption) ?_
      refine v_ldc (pc := 13) (v := -2147483648) dX1_isNextTo_13 cX1_113 ?_
      refine v_icmp_ne 22 (pc := 15) dX1_isNextTo_15 (by decide) (fun hb => ?_) (fun hb => ?_)
      · exact absurd w3 hb
      · refine v_iconst (pc := 18) (v := 1) dX1_isNextTo_18 (by decide) ?_
        refine v_goto 23 (pc := 19) dX1_isNextTo_19 (by decide) ?_
        refine v_zret (pc := 23) dX1_isNextTo_23 rfl rfl ?_
        exact hR
  · obtain ⟨j, rfl⟩ : ∃ j, i = j + 1 := ⟨i - 1, by omega⟩
    have s1 : nI (j + 1) - (1 : Int32) = nI j := pk_sub (a := j + 1) (b := 1) (by omega)
    obtain ⟨f1, f2, f3⟩ := e8 j (by omega)
    have f4 := f3.1.1
    have f5 := f3.2.2.1
    obtain ⟨g1, g2, g3⟩ := e8 (j + 1) (by omega)
    have g4 := g3.1.1
    have g5 := g3.2.1
    obtain ⟨w7, w8⟩ := w6 j hi
    refine v_iload_n (pc := 0) dX1_isNextTo_0 rfl rfl ?_
    refine v_if_ne 24 (pc := 1) dX1_isNextTo_1 (by decide) (fun hb => ?_) (fun hb => ?_)
    · refine v_aload_n (pc := 24) dX1_isNextTo_24 rfl rfl ?_
      refine g_R 100 2 (pc := 25) fX1_11 dX1_isNextTo_25 rfl rfl (by assumption) (by assumption) (by assumption) ?_
      refine v_iload_n (pc := 28) dX1_isNextTo_28 rfl rfl ?_
      refine v_iconst (pc := 29) (v := 1) dX1_isNextTo_29 (by decide) ?_
      refine v_isub (pc := 30) dX1_isNextTo_30 ?_
      refine v_eqi s1 ?_
      refine n_aald55 (j) _ (pc := 31) dX1_isNextTo_31 (by assumption) (by assumption) rfl (by omega) (by decide) f1 (by assumption) ?_
      refine g_I 4 1 (pc := 32) fX1_25 dX1_isNextTo_32 rfl rfl (by assumption) (by assumption) ?_
      refine v_istore_n (pc := 35) dX1_isNextTo_35 rfl rfl rfl (by decide) ?_
      refine v_iload_n (pc := 36) dX1_isNextTo_36 rfl rfl ?_
      refine v_ldc (pc := 37) (v := 2147483647) dX1_isNextTo_37 cX1_109 ?_
      refine v_icmp_ge 61 (pc := 39) dX1_isNextTo_39 (by decide) (fun hb => ?_) (fun hb => ?_)
      · exact absurd w7 (Int32.not_lt.mpr hb)
      · refine v_aload_n (pc := 42) dX1_isNextTo_42 rfl rfl ?_
        refine g_R 100 2 (pc := 43) fX1_11 dX1_isNextTo_43 rfl rfl (by assumption) (by assumption) (by assumption) ?_
        refine v_iload_n (pc := 46) dX1_isNextTo_46 rfl rfl ?_
        refine n_aald55 (j + 1) _ (pc := 47) dX1_isNextTo_47 (by assumption) (by assumption) rfl (by omega) (by decide) g1 (by assumption) ?_
        refine g_I 3 1 (pc := 48) fX1_110 dX1_isNextTo_48 rfl rfl (by assumption) (by assumption) ?_
        refine v_iload_n (pc := 51) dX1_isNextTo_51 rfl rfl ?_
        refine v_iconst (pc := 52) (v := 1) dX1_isNextTo_52 (by decide) ?_
        refine v_iadd (pc := 53) dX1_isNextTo_53 ?_
        refine v_icmp_ne 61 (pc := 54) dX1_isNextTo_54 (by decide) (fun hb => ?_) (fun hb => ?_)
        · exact absurd w8 hb
        · refine v_iconst (pc := 57) (v := 1) dX1_isNextTo_57 (by decide) ?_
          refine v_goto 62 (pc := 58) dX1_isNextTo_58 (by decide) ?_
          refine v_zret (pc := 62) dX1_isNextTo_62 rfl rfl ?_
          exact hR
    · have : nI (j + 1) = nI 0 := hb
      have := (nI_eq (by omega) (by omega)).mp this
      omega
set_option maxHeartbeats 4000000 in
set_option maxRecDepth 100000 in
theorem t_isInOrder (hT : TB h t S M) (hR : R (.inl (some (.int 1))) h) : mv_V G jX1_isInOrder (d + 1) 0 [(0, .ref t)] [] h 0 0 R := by
  obtain ⟨pa, n, D, LO, HI, X, h0, h1, h2, h3, h4⟩ := hT
  have h0' := h0
  obtain ⟨e1, e2, e3, e4, e5, e6, e7, e8, e9⟩ := h0
  have n40 := h1.2.1
  have n1 := h1.1
  have s1 : nI n - (1 : Int32) = nI (n - 1) := pk_sub n1
  have loop : ∀ m i, i + m = n → mv_V G jX1_isInOrder (d + 1) 4 [(0, .ref t), (1, .int (nI (fm i X).length)), (2, .int (nI i))] [] h 0 0 R := by
    intro m
    induction m with
    | zero =>
      intro i hm
      have ei : i = n := by omega
      subst ei
      obtain ⟨f1, f2, f3⟩ := e8 (i - 1) (by omega)
      have f4 := f3.1.1
      have f5 := f3.2.2.1
      refine v_iload_n (pc := 4) dX1_isInOrder_4 rfl rfl ?_
      refine v_aload_n (pc := 5) dX1_isInOrder_5 rfl rfl ?_
      refine g_I 101 2 (pc := 6) fX1_18 dX1_isInOrder_6 rfl rfl (by assumption) (by assumption) ?_
      refine v_icmp_ge 52 (pc := 9) dX1_isInOrder_9 (by decide) (fun hb => ?_) (fun hb => ?_)
      · refine v_iload_n (pc := 52) dX1_isInOrder_52 rfl rfl ?_
        refine v_aload_n (pc := 53) dX1_isInOrder_53 rfl rfl ?_
        refine g_I 102 2 (pc := 54) fX1_22 dX1_isInOrder_54 rfl rfl (by assumption) (by assumption) ?_
        refine v_icmp_ne 93 (pc := 57) dX1_isInOrder_57 (by decide) (fun hb => ?_) (fun hb => ?_)
        · rw [h3] at hb
          exact absurd rfl hb
        · refine v_aload_n (pc := 60) dX1_isInOrder_60 rfl rfl ?_
          refine g_I 102 2 (pc := 61) fX1_22 dX1_isInOrder_61 rfl rfl (by assumption) (by assumption) ?_
          refine v_sipush (pc := 64) (v := 600) dX1_isInOrder_64 (by decide) ?_
          refine v_icmp_gt 93 (pc := 67) dX1_isInOrder_67 (by decide) (fun hb => ?_) (fun hb => ?_)
          · have := (nI_ltI (a := 600) (by omega) (by omega)).mp hb
            omega
          · refine v_aload_n (pc := 70) dX1_isInOrder_70 rfl rfl ?_
            refine g_R 100 2 (pc := 71) fX1_11 dX1_isInOrder_71 rfl rfl (by assumption) (by assumption) (by assumption) ?_
            refine v_aload_n (pc := 74) dX1_isInOrder_74 rfl rfl ?_
            refine g_I 101 2 (pc := 75) fX1_18 dX1_isInOrder_75 rfl rfl (by assumption) (by assumption) ?_
            refine v_iconst (pc := 78) (v := 1) dX1_isInOrder_78 (by decide) ?_
            refine v_isub (pc := 79) dX1_isInOrder_79 ?_
            refine v_eqi s1 ?_
            refine n_aald55 (i - 1) _ (pc := 80) dX1_isInOrder_80 (by assumption) (by assumption) rfl (by omega) (by decide) f1 (by assumption) ?_
            refine g_I 4 1 (pc := 81) fX1_25 dX1_isInOrder_81 rfl rfl (by assumption) (by assumption) ?_
            refine v_ldc (pc := 84) (v := 2147483647) dX1_isInOrder_84 cX1_109 ?_
            refine v_icmp_ne 93 (pc := 86) dX1_isInOrder_86 (by decide) (fun hb => ?_) (fun hb => ?_)
            · exact absurd h1.2.2.2.1 hb
            · refine v_iconst (pc := 89) (v := 1) dX1_isInOrder_89 (by decide) ?_
              refine v_goto 94 (pc := 90) dX1_isInOrder_90 (by decide) ?_
              refine v_zret (pc := 94) dX1_isInOrder_94 rfl rfl ?_
              exact hR
      · exact absurd ((nI_leI (by omega) (by omega)).mpr (by omega)) hb
    | succ m ih =>
      intro i hm
      obtain ⟨f1, f2, f3⟩ := e8 i (by omega)
      have f4 := f3.1.1
      have f5 := f3.1.2.2.2.2.2.2.2.2.2.1
      obtain ⟨w1, w2, w3⟩ := h1.2.2.2.2.1 i (by omega)
      have hrs := pgL_rsg f3 w2
      have hkey : ∀ j, j < (X i).length → LO i ≤ mh_aI h (D i).2.1 j ∧ mh_aI h (D i).2.1 j ≤ HI i := by
        intro j hj
        have z := (pgL_get f3 (List.getElem?_eq_getElem hj)).1
        rw [z]
        exact w3 _ (List.getElem_mem hj)
      refine v_iload_n (pc := 4) dX1_isInOrder_4 rfl rfl ?_
      refine v_aload_n (pc := 5) dX1_isInOrder_5 rfl rfl ?_
      refine g_I 101 2 (pc := 6) fX1_18 dX1_isInOrder_6 rfl rfl (by assumption) (by assumption) ?_
      refine v_icmp_ge 52 (pc := 9) dX1_isInOrder_9 (by decide) (fun hb => ?_) (fun hb => ?_)
      · have := (nI_leI (by omega) (by omega)).mp hb
        omega
      · refine v_aload_n (pc := 12) dX1_isInOrder_12 rfl rfl ?_
        refine g_R 100 2 (pc := 13) fX1_11 dX1_isInOrder_13 rfl rfl (by assumption) (by assumption) (by assumption) ?_
        refine v_iload_n (pc := 16) dX1_isInOrder_16 rfl rfl ?_
        refine n_aald55 (i) _ (pc := 17) dX1_isInOrder_17 (by assumption) (by assumption) rfl (by omega) (by decide) f1 (by assumption) ?_
        refine v_callV 0 0 (pc := 18) kX1_100 dX1_isInOrder_18 rfl (by assumption) (Nat.zero_le _) (Nat.zero_le _) (Nat.le_of_ble_eq_true rfl) (Nat.le_of_ble_eq_true rfl) ?_
        refine c_inOrder f3.1 (by rw [f3.2.1, f3.2.2.1]; exact w1) (by rw [f3.2.1, f3.2.2.1]; exact hkey) (fun j hj => hrs _ _ (by omega) hj) ?_
        refine v_if_eq 32 (pc := 21) dX1_isInOrder_21 (by decide) (fun hb => ?_) (fun hb => ?_)
        · exact absurd hb (by decide)
        · refine v_aload_n (pc := 24) dX1_isInOrder_24 rfl rfl ?_
          refine v_iload_n (pc := 25) dX1_isInOrder_25 rfl rfl ?_
          refine v_callV 0 0 (pc := 26) kX1_104 dX1_isInOrder_26 rfl (by assumption) (Nat.zero_le _) (Nat.zero_le _) (Nat.le_of_ble_eq_true rfl) (Nat.le_of_ble_eq_true rfl) ?_
          refine t_isNextTo h0' h1 (by omega) ?_
          refine v_if_ne 34 (pc := 29) dX1_isInOrder_29 (by decide) (fun hb => ?_) (fun hb => ?_)
          · refine v_iload_n (pc := 34) dX1_isInOrder_34 rfl rfl ?_
            refine v_aload_n (pc := 35) dX1_isInOrder_35 rfl rfl ?_
            refine g_R 100 2 (pc := 36) fX1_11 dX1_isInOrder_36 rfl rfl (by assumption) (by assumption) (by assumption) ?_
            refine v_iload_n (pc := 39) dX1_isInOrder_39 rfl rfl ?_
            refine n_aald55 (i) _ (pc := 40) dX1_isInOrder_40 (by assumption) (by assumption) rfl (by omega) (by decide) f1 (by assumption) ?_
            refine g_I 2 1 (pc := 41) fX1_47 dX1_isInOrder_41 rfl rfl (by assumption) (by assumption) ?_
            refine v_iadd (pc := 44) dX1_isInOrder_44 ?_
            refine v_eqi (y := nI (fm (i + 1) X).length) ?_ ?_
            · rw [fm_succ, List.length_append, ← nI_add]
            refine v_istore_n (pc := 45) dX1_isInOrder_45 rfl rfl rfl (by decide) ?_
            refine v_iinc (pc := 46) dX1_isInOrder_46 rfl (mv_inc _) rfl rfl (by decide) ?_
            refine v_goto 4 (pc := 49) dX1_isInOrder_49 (by decide) ?_
            exact ih (i + 1) (by omega)
          · exact absurd hb (by decide)
  refine v_iconst (pc := 0) (v := 0) dX1_isInOrder_0 (by decide) ?_
  refine v_istore_n (pc := 1) dX1_isInOrder_1 rfl rfl rfl (by decide) ?_
  refine v_iconst (pc := 2) (v := 0) dX1_isInOrder_2 (by decide) ?_
  refine v_istore_n (pc := 3) dX1_isInOrder_3 rfl rfl rfl (by decide) ?_
  exact loop n 0 (by omega)
end TR2
