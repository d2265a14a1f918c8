/-! LazyPagesModel: what it is; below, isIn, valueIn. -/
def mh_wI (h : mh_T) (a : Nat) (f : Nat → Int32) : mh_T := (h.1, h.2.1, h.2.2.1, h.2.2.2.1, h.2.2.2.2.1, (fun a' j' => if a' = a then f j' else h.2.2.2.2.2.1 a' j'), h.2.2.2.2.2.2.1, h.2.2.2.2.2.2.2)
theorem mh_aI_wI (h : mh_T) (a : Nat) (f : Nat → Int32) (x y : Nat) : mh_aI (mh_wI h a f) x y = if x = a then f y else mh_aI h x y := rfl
theorem mh_wI_id (h : mh_T) (a : Nat) : mh_wI h a (mh_aI h a) = h := by
  refine mh_ext (fun _ => rfl) (fun _ => rfl) (fun _ _ => rfl) (fun _ _ => rfl) (fun _ _ => rfl) (fun x y => ?_) (fun _ _ => rfl) (fun _ _ => rfl)
  rw [mh_aI_wI]
  by_cases e : x = a
  · rw [if_pos e, e]
  · rw [if_neg e]
theorem mh_saI_wI (h : mh_T) (a i : Nat) (f : Nat → Int32) (x : Int32) : mh_saI (mh_wI h a f) a i x = mh_wI h a (fun j => if j = i then x else f j) := by
  refine mh_ext (fun _ => rfl) (fun _ => rfl) (fun _ _ => rfl) (fun _ _ => rfl) (fun _ _ => rfl) (fun y z => ?_) (fun _ _ => rfl) (fun _ _ => rfl)
  rw [mh_aI_saI, mh_aI_wI, mh_aI_wI]
  by_cases e : y = a <;> by_cases e2 : z = i <;> simp [e, e2]
theorem lg_ge0 {x y : Int64} : (0 : Int32) ≤ lg_cmp x y ↔ ¬ x < y := by
  unfold lg_cmp
  by_cases c : x > y
  · rw [if_pos c]
    exact ⟨fun _ => Int64.not_lt.mpr (Int64.le_of_lt c), fun _ => by decide⟩
  · rw [if_neg c]
    by_cases c2 : x = y
    · rw [if_pos c2, c2]
      exact ⟨fun _ => Int64.lt_irrefl, fun _ => by decide⟩
    · rw [if_neg c2]
      have c3 : x < y := Int64.lt_of_le_of_ne (Int64.not_lt.mp c) c2
      exact ⟨fun q => absurd q (by decide), fun q => absurd c3 q⟩
theorem lg_le0 {x y : Int64} : lg_cmp x y ≤ (0 : Int32) ↔ ¬ y < x := by
  unfold lg_cmp
  by_cases c : x > y
  · rw [if_pos c]
    exact ⟨fun q => absurd q (by decide), fun q => absurd c q⟩
  · rw [if_neg c]
    by_cases c2 : x = y
    · rw [if_pos c2, c2]
      exact ⟨fun _ => Int64.lt_irrefl, fun _ => by decide⟩
    · rw [if_neg c2]
      exact ⟨fun _ => c, fun _ => by decide⟩
theorem pb_uniq {K : Nat → Int32} {u r : Nat} {a : Int32} (h1 : r ≤ u) (h2 : ∀ i, i < r → K i < a) (h3 : r < u → ¬ K r < a) : r = pb K u a := by
  have z := pb_le K u a
  rcases Nat.lt_trichotomy r (pb K u a) with c | c | c
  · exact absurd (pb_lt c) (h3 (by omega))
  · exact c
  · exact absurd (h2 _ c) (pb_ge (by omega))
theorem pn_uniq {K : Nat → Int32} {u r : Nat} {b : Int32} (hs : rsg K u) (h1 : r ≤ u) (h2 : ∀ i, i < r → K i ≤ b) (h3 : r < u → ¬ K r ≤ b) : r = pn K u b := by
  have z := pn_le K u b
  rcases Nat.lt_trichotomy r (pn K u b) with c | c | c
  · exact absurd ((pn_eq hs (by omega)).mpr c) (h3 (by omega))
  · exact c
  · have := (pn_eq hs (show pn K u b < u by omega)).mp (h2 _ c)
    omega
theorem i64_lt_iff {a b : Int32} : a.toInt64 < b.toInt64 ↔ a < b := by
  rw [Int64.lt_iff_toInt_lt, Int32.lt_iff_toInt_lt, Int32.toInt_toInt64, Int32.toInt_toInt64]
theorem i64_lt1_iff {a b : Int32} : a.toInt64 < b.toInt64 + 1 ↔ a ≤ b := by
  have h1 : (1 : Int64).toInt = 1 := by decide
  have h2 := Int32.toInt_lt b
  have h3 := Int32.le_toInt b
  rw [Int64.lt_iff_toInt_lt, Int32.le_iff_toInt_le, Int64.toInt_add, Int32.toInt_toInt64, Int32.toInt_toInt64, h1, Int.bmod_eq_of_le (by omega) (by omega)]
  omega
theorem nI_mul (a b : Nat) : nI a * nI b = nI (a * b) := by
  unfold nI
  exact (Int32.ofNat_mul a b).symm
theorem mx_ix (r c : Nat) : (600 : Int32) * nI r + nI c = nI (600 * r + c) := by
  have : (600 : Int32) = nI 600 := rfl
  rw [this, nI_mul, nI_add]
/-- the model's cells -/
def MDs (h : mh_T) (mo ka va za sa ki fi la aa : Nat) : Prop :=
  mh_kd h mo = 4 ∧ (mh_fR h 301 mo = ka ∧ mh_fR h 302 mo = va ∧ mh_fR h 303 mo = za ∧ mh_fR h 304 mo = sa ∧ mh_fR h 305 mo = ki ∧ mh_fR h 306 mo = fi ∧ mh_fR h 307 mo = la ∧ mh_fR h 308 mo = aa) ∧ (ka ≠ 0 ∧ va ≠ 0 ∧ za ≠ 0 ∧ sa ≠ 0 ∧ ki ≠ 0 ∧ fi ≠ 0 ∧ la ≠ 0 ∧ aa ≠ 0) ∧ (mh_kd h ka = 50 ∧ mh_kd h va = 51 ∧ mh_kd h za = 50 ∧ mh_kd h sa = 52 ∧ mh_kd h ki = 53 ∧ mh_kd h fi = 50 ∧ mh_kd h la = 50 ∧ mh_kd h aa = 51) ∧ (mh_ln h ka = 3000 ∧ mh_ln h va = 3000 ∧ mh_ln h za = 5 ∧ mh_ln h sa = 4 ∧ mh_ln h ki = 2500 ∧ mh_ln h fi = 2500 ∧ mh_ln h la = 2500 ∧ mh_ln h aa = 2500) ∧ ka ≠ za ∧ ka ≠ fi ∧ ka ≠ la ∧ za ≠ fi ∧ za ≠ la ∧ fi ≠ la ∧ va ≠ aa
def mrow (h : mh_T) (ka va za r : Nat) (L : List En) : Prop := mh_aI h za r = nI L.length ∧ L.length ≤ 600 ∧ up L ∧ pl (fun i => mh_aI h ka (600 * r + i)) (fun i => mh_aJ h va (600 * r + i)) 0 L.length = L
def md0 (h : mh_T) (mo ka va za sa ki fi la aa : Nat) (V : Nat → List En) : Prop := MDs h mo ka va za sa ki fi la aa ∧ ∀ r, r < 5 → mrow h ka va za r (V r)
section MDR
variable {G : mv_G} {d : Nat} {h : mh_T} {mo ka va za sa ki fi la aa : Nat} {V : Nat → List En} {r : Nat} {key a b : Int32} {y : Int64} {R : mv_O → mh_T → Prop}
theorem mrow_rsg {L : List En} (hr : mrow h ka va za r L) : rsg (fun i => mh_aI h ka (600 * r + i)) L.length := by
  have := hr.2.2.1
  rw [← hr.2.2.2] at this
  exact up_rsg this
theorem mrow_has {L : List En} (hr : mrow h ka va za r L) : hasK L key = true ↔ (pb (fun i => mh_aI h ka (600 * r + i)) L.length key < L.length ∧ mh_aI h ka (600 * r + pb (fun i => mh_aI h ka (600 * r + i)) L.length key) = key) := by
  have z := pl_has (V := fun i => mh_aJ h va (600 * r + i)) (w := 0) (key := key) (mrow_rsg hr)
  rw [hr.2.2.2] at z
  exact z
theorem mrow_val {L : List En} (hr : mrow h ka va za r L) (hk : hasK L key = true) : valK L key = mh_aJ h va (600 * r + pb (fun i => mh_aI h ka (600 * r + i)) L.length key) := by
  have z := pl_val (V := fun i => mh_aJ h va (600 * r + i)) (w := 0) (key := key) (mrow_rsg hr) ((mrow_has hr).mp hk)
  rw [hr.2.2.2] at z
  rw [z, Int64.add_zero]
theorem mrow_get {L : List En} (hr : mrow h ka va za r L) {i : Nat} {e : En} (he : L[i]? = some e) : mh_aI h ka (600 * r + i) = e.1 ∧ mh_aJ h va (600 * r + i) = e.2 := by
  obtain ⟨hi, hv⟩ := List.getElem?_eq_some_iff.mp he
  have z := hr.2.2.2
  have q : (pl (fun i => mh_aI h ka (600 * r + i)) (fun i => mh_aJ h va (600 * r + i)) 0 L.length)[i]'(by rw [pl_len]; exact hi) = L[i] := by
    congr 1
  rw [pl_get] at q
  rw [← hv, ← q, Int64.add_zero]
  exact ⟨rfl, rfl⟩
set_option maxHeartbeats 4000000 in
set_option maxRecDepth 100000 in
theorem m_below (hm : md0 h mo ka va za sa ki fi la aa V) (hr : r < 5) (hR : ∀ c, c ≤ (V r).length → (∀ i, i < c → (mh_aI h ka (600 * r + i)).toInt64 < y) → (c < (V r).length → ¬ (mh_aI h ka (600 * r + c)).toInt64 < y) → R (.inl (some (.int (nI c)))) h) : mv_V G jX3_below d 0 [(0, .ref mo), (1, .int (nI r)), (2, .long y)] [] h 0 0 R := by
  obtain ⟨⟨e1, ⟨f1, f2, f3, f4, f5, f6, f7, f8⟩, ⟨n1, n2, n3, n4, n5, n6, n7, n8⟩, ⟨k1, k2, k3, k4, k5, k6, k7, k8⟩, ⟨l1, l2, l3, l4, l5, l6, l7, l8⟩, _⟩, hrows⟩ := hm
  obtain ⟨w1, w2, w3, w4⟩ := hrows r hr
  have loop : ∀ m c, c + m = (V r).length → (∀ i, i < c → (mh_aI h ka (600 * r + i)).toInt64 < y) → mv_V G jX3_below d 3 [(0, .ref mo), (1, .int (nI r)), (2, .long y), (4, .int (nI c))] [] h 0 0 R := by
    intro m
    induction m with
    | zero =>
      intro c hc hlt
      refine v_iload (pc := 3) dX3_below_3 rfl ?_
      refine v_aload_n (pc := 5) dX3_below_5 rfl rfl ?_
      refine g_R 303 4 (pc := 6) fX3_17 dX3_below_6 rfl rfl (by assumption) (by assumption) (by assumption) ?_
      refine v_iload_n (pc := 9) dX3_below_9 rfl rfl ?_
      refine n_iald (r) _ (pc := 10) dX3_below_10 (by assumption) (by assumption) rfl (by omega) (by decide) w1 ?_
      refine v_icmp_ge 39 (pc := 11) dX3_below_11 (by decide) (fun hb => ?_) (fun hb => ?_)
      · refine v_iload (pc := 39) dX3_below_39 rfl ?_
        refine v_iret (pc := 41) dX3_below_41 rfl ?_
        exact hR c (by omega) hlt (fun q => by omega)
      · exact absurd ((nI_leI (by omega) (by omega)).mpr (by omega)) hb
    | succ m ih =>
      intro c hc hlt
      refine v_iload (pc := 3) dX3_below_3 rfl ?_
      refine v_aload_n (pc := 5) dX3_below_5 rfl rfl ?_
      refine g_R 303 4 (pc := 6) fX3_17 dX3_below_6 rfl rfl (by assumption) (by assumption) (by assumption) ?_
      refine v_iload_n (pc := 9) dX3_below_9 rfl rfl ?_
      refine n_iald (r) _ (pc := 10) dX3_below_10 (by assumption) (by assumption) rfl (by omega) (by decide) w1 ?_
      refine v_icmp_ge 39 (pc := 11) dX3_below_11 (by decide) (fun hb => ?_) (fun hb => ?_)
      · have := (nI_leI (by omega) (by omega)).mp hb
        omega
      · refine v_aload_n (pc := 14) dX3_below_14 rfl rfl ?_
        refine g_R 301 4 (pc := 15) fX3_7 dX3_below_15 rfl rfl (by assumption) (by assumption) (by assumption) ?_
        refine v_sipush (pc := 18) (v := 600) dX3_below_18 (by decide) ?_
        refine v_iload_n (pc := 21) dX3_below_21 rfl rfl ?_
        refine v_imul (pc := 22) dX3_below_22 ?_
        refine v_iload (pc := 23) dX3_below_23 rfl ?_
        refine v_iadd (pc := 25) dX3_below_25 ?_
        refine v_eqi (mx_ix r c) ?_
        refine n_iald (600 * r + c) _ (pc := 26) dX3_below_26 (by assumption) (by assumption) rfl (by omega) (by decide) rfl ?_
        refine v_i2l (pc := 27) dX3_below_27 ?_
        refine v_lload_n (pc := 28) dX3_below_28 rfl rfl ?_
        refine v_lcmp (pc := 29) dX3_below_29 ?_
        refine v_if_ge 39 (pc := 30) dX3_below_30 (by decide) (fun hb => ?_) (fun hb => ?_)
        · refine v_iload (pc := 39) dX3_below_39 rfl ?_
          refine v_iret (pc := 41) dX3_below_41 rfl ?_
          exact hR c (by omega) hlt (fun _ => lg_ge0.mp hb)
        · refine v_iinc (pc := 33) dX3_below_33 rfl (mv_inc _) rfl rfl (by decide) ?_
          refine v_goto 3 (pc := 36) dX3_below_36 (by decide) ?_
          refine ih (c + 1) (by omega) (fun i hi => ?_)
          by_cases c1 : i = c
          · rw [c1]
            by_cases c2 : (mh_aI h ka (600 * r + c)).toInt64 < y
            · exact c2
            · exact absurd (lg_ge0.mpr c2) hb
          · exact hlt i (by omega)
  refine v_iconst (pc := 0) (v := 0) dX3_below_0 (by decide) ?_
  refine v_istore (pc := 1) dX3_below_1 rfl rfl (by decide) ?_
  exact loop (V r).length 0 (by omega) (fun i hi => by omega)
theorem m_belowA (hm : md0 h mo ka va za sa ki fi la aa V) (hr : r < 5) (hR : R (.inl (some (.int (nI (pb (fun i => mh_aI h ka (600 * r + i)) (V r).length a))))) h) : mv_V G jX3_below d 0 [(0, .ref mo), (1, .int (nI r)), (2, .long a.toInt64)] [] h 0 0 R := by
  refine m_below hm hr (fun c h1 h2 h3 => ?_)
  rw [pb_uniq (K := fun i => mh_aI h ka (600 * r + i)) (a := a) h1 (fun i hi => i64_lt_iff.mp (h2 i hi)) (fun hc q => h3 hc (i64_lt_iff.mpr q))]
  exact hR
theorem m_belowB (hm : md0 h mo ka va za sa ki fi la aa V) (hr : r < 5) (hR : R (.inl (some (.int (nI (pn (fun i => mh_aI h ka (600 * r + i)) (V r).length b))))) h) : mv_V G jX3_below d 0 [(0, .ref mo), (1, .int (nI r)), (2, .long (b.toInt64 + 1))] [] h 0 0 R := by
  refine m_below hm hr (fun c h1 h2 h3 => ?_)
  rw [pn_uniq (K := fun i => mh_aI h ka (600 * r + i)) (b := b) (mrow_rsg (hm.2 r hr)) h1 (fun i hi => i64_lt1_iff.mp (h2 i hi)) (fun hc q => h3 hc (i64_lt1_iff.mpr q))]
  exact hR
set_option maxHeartbeats 4000000 in
set_option maxRecDepth 100000 in
theorem m_isIn (hm : md0 h mo ka va za sa ki fi la aa V) (hr : r < 5) (hR : R (.inl (some (.int (if hasK (V r) key = true then 1 else 0)))) h) : mv_V G jX3_isIn (d + 1) 0 [(0, .ref mo), (1, .int (nI r)), (2, .int key)] [] h 0 0 R := by
  obtain ⟨⟨e1, ⟨f1, f2, f3, f4, f5, f6, f7, f8⟩, ⟨n1, n2, n3, n4, n5, n6, n7, n8⟩, ⟨k1, k2, k3, k4, k5, k6, k7, k8⟩, ⟨l1, l2, l3, l4, l5, l6, l7, l8⟩, _⟩, hrows⟩ := id hm
  have hw := hrows r hr
  obtain ⟨w1, w2, w3, w4⟩ := id hw
  have hp := mrow_has (key := key) hw
  have q := pb_le (fun i => mh_aI h ka (600 * r + i)) (V r).length key
  refine v_aload_n (pc := 0) dX3_isIn_0 rfl rfl ?_
  refine v_iload_n (pc := 1) dX3_isIn_1 rfl rfl ?_
  refine v_iload_n (pc := 2) dX3_isIn_2 rfl rfl ?_
  refine v_i2l (pc := 3) dX3_isIn_3 ?_
  refine v_callV 0 0 (pc := 4) kX3_41 dX3_isIn_4 rfl (by assumption) (Nat.zero_le _) (Nat.zero_le _) (Nat.le_of_ble_eq_true rfl) (Nat.le_of_ble_eq_true rfl) ?_
  refine m_belowA hm hr ?_
  generalize pb (fun i => mh_aI h ka (600 * r + i)) (V r).length key = c at *
  refine v_istore_n (pc := 7) dX3_isIn_7 rfl rfl rfl (by decide) ?_
  refine v_iload_n (pc := 8) dX3_isIn_8 rfl rfl ?_
  refine v_aload_n (pc := 9) dX3_isIn_9 rfl rfl ?_
  refine g_R 303 4 (pc := 10) fX3_17 dX3_isIn_10 rfl rfl (by assumption) (by assumption) (by assumption) ?_
  refine v_iload_n (pc := 13) dX3_isIn_13 rfl rfl ?_
  refine n_iald (r) _ (pc := 14) dX3_isIn_14 (by assumption) (by assumption) rfl (by omega) (by decide) w1 ?_
  refine v_icmp_ge 38 (pc := 15) dX3_isIn_15 (by decide) (fun hb => ?_) (fun hb => ?_)
  · have z := (nI_leI (by omega) (by omega)).mp hb
    rw [if_neg (fun q => by have := (hp.mp q).1; omega)] at hR
    refine v_iconst (pc := 38) (v := 0) dX3_isIn_38 (by decide) ?_
    refine v_zret (pc := 39) dX3_isIn_39 rfl rfl ?_
    exact hR
  · have z : c < (V r).length := by
      rcases Nat.lt_or_ge c (V r).length with z | z
      · exact z
      · exact absurd ((nI_leI (by omega) (by omega)).mpr z) hb
    refine v_aload_n (pc := 18) dX3_isIn_18 rfl rfl ?_
    refine g_R 301 4 (pc := 19) fX3_7 dX3_isIn_19 rfl rfl (by assumption) (by assumption) (by assumption) ?_
    refine v_sipush (pc := 22) (v := 600) dX3_isIn_22 (by decide) ?_
    refine v_iload_n (pc := 25) dX3_isIn_25 rfl rfl ?_
    refine v_imul (pc := 26) dX3_isIn_26 ?_
    refine v_iload_n (pc := 27) dX3_isIn_27 rfl rfl ?_
    refine v_iadd (pc := 28) dX3_isIn_28 ?_
    refine v_eqi (mx_ix r c) ?_
    refine n_iald (600 * r + c) _ (pc := 29) dX3_isIn_29 (by assumption) (by assumption) rfl (by omega) (by decide) rfl ?_
    refine v_iload_n (pc := 30) dX3_isIn_30 rfl rfl ?_
    refine v_icmp_ne 38 (pc := 31) dX3_isIn_31 (by decide) (fun hb => ?_) (fun hb => ?_)
    · rw [if_neg (fun q => hb (hp.mp q).2)] at hR
      refine v_iconst (pc := 38) (v := 0) dX3_isIn_38 (by decide) ?_
      refine v_zret (pc := 39) dX3_isIn_39 rfl rfl ?_
      exact hR
    · rw [if_pos (hp.mpr ⟨z, hb⟩)] at hR
      refine v_iconst (pc := 34) (v := 1) dX3_isIn_34 (by decide) ?_
      refine v_goto 39 (pc := 35) dX3_isIn_35 (by decide) ?_
      refine v_zret (pc := 39) dX3_isIn_39 rfl rfl ?_
      exact hR
set_option maxHeartbeats 4000000 in
set_option maxRecDepth 100000 in
theorem m_valueIn (hm : md0 h mo ka va za sa ki fi la aa V) (hr : r < 5) (hR : R (.inl (some (.long (valK (V r) key)))) h) : mv_V G jX3_valueIn (d + 2) 0 [(0, .ref mo), (1, .int (nI r)), (2, .int key)] [] h 0 0 R := by
  obtain ⟨⟨e1, ⟨f1, f2, f3, f4, f5, f6, f7, f8⟩, ⟨n1, n2, n3, n4, n5, n6, n7, n8⟩, ⟨k1, k2, k3, k4, k5, k6, k7, k8⟩, ⟨l1, l2, l3, l4, l5, l6, l7, l8⟩, _⟩, hrows⟩ := id hm
  have hw := hrows r hr
  obtain ⟨w1, w2, w3, w4⟩ := id hw
  refine v_aload_n (pc := 0) dX3_valueIn_0 rfl rfl ?_
  refine v_iload_n (pc := 1) dX3_valueIn_1 rfl rfl ?_
  refine v_iload_n (pc := 2) dX3_valueIn_2 rfl rfl ?_
  refine v_callV 0 0 (pc := 3) kX3_45 dX3_valueIn_3 rfl (by assumption) (Nat.zero_le _) (Nat.zero_le _) (Nat.le_of_ble_eq_true rfl) (Nat.le_of_ble_eq_true rfl) ?_
  refine m_isIn hm hr ?_
  by_cases c : hasK (V r) key = true
  · rw [if_pos c]
    have hv := mrow_val hw c
    have q := ((mrow_has hw).mp c).1
    refine v_if_eq 30 (pc := 6) dX3_valueIn_6 (by decide) (fun hb => ?_) (fun hb => ?_)
    · exact absurd hb (by decide)
    · refine v_aload_n (pc := 9) dX3_valueIn_9 rfl rfl ?_
      refine g_R 302 4 (pc := 10) fX3_13 dX3_valueIn_10 rfl rfl (by assumption) (by assumption) (by assumption) ?_
      refine v_sipush (pc := 13) (v := 600) dX3_valueIn_13 (by decide) ?_
      refine v_iload_n (pc := 16) dX3_valueIn_16 rfl rfl ?_
      refine v_imul (pc := 17) dX3_valueIn_17 ?_
      refine v_aload_n (pc := 18) dX3_valueIn_18 rfl rfl ?_
      refine v_iload_n (pc := 19) dX3_valueIn_19 rfl rfl ?_
      refine v_iload_n (pc := 20) dX3_valueIn_20 rfl rfl ?_
      refine v_i2l (pc := 21) dX3_valueIn_21 ?_
      refine v_callV 0 0 (pc := 22) kX3_41 dX3_valueIn_22 rfl (by assumption) (Nat.zero_le _) (Nat.zero_le _) (Nat.le_of_ble_eq_true rfl) (Nat.le_of_ble_eq_true rfl) ?_
      refine m_belowA hm hr ?_
      generalize pb (fun i => mh_aI h ka (600 * r + i)) (V r).length key = c at *
      refine v_iadd (pc := 25) dX3_valueIn_25 ?_
      refine v_eqi (mx_ix r c) ?_
      refine n_lald (600 * r + c) _ (pc := 26) dX3_valueIn_26 (by assumption) (by assumption) rfl (by omega) (by decide) hv.symm ?_
      refine v_goto 31 (pc := 27) dX3_valueIn_27 (by decide) ?_
      refine v_lret (pc := 31) dX3_valueIn_31 rfl ?_
      exact hR
  · rw [if_neg c]
    rw [valK_no c] at hR
    refine v_if_eq 30 (pc := 6) dX3_valueIn_6 (by decide) (fun hb => ?_) (fun hb => ?_)
    · refine v_lconst (pc := 30) (v := 0) dX3_valueIn_30 (by decide) ?_
      refine v_lret (pc := 31) dX3_valueIn_31 rfl ?_
      exact hR
    · exact absurd rfl hb
end MDR
