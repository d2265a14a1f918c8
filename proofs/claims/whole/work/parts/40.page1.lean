/-! LazyPages$Page: reads. -/
/-- a page's cells are there: p the page, k its row of keys, v its row of values; u of its places are used -/
def pg_at (h : mh_T) (p k v u : Nat) : Prop := mh_kd h p = 1 ∧ mh_fR h 0 p = k ∧ mh_fR h 1 p = v ∧ k ≠ 0 ∧ v ≠ 0 ∧ mh_kd h k = 50 ∧ mh_ln h k = 32 ∧ mh_kd h v = 51 ∧ mh_ln h v = 32 ∧ mh_fI h 2 p = nI u ∧ u ≤ 32
/-- the first place from i on, of n, whose key isn't below -/
def pb_go (K : Nat → Int32) (key : Int32) : Nat → Nat → Nat
  | 0, i => i
  | n + 1, i => if K i < key then pb_go K key n (i + 1) else i
def pb (K : Nat → Int32) (u : Nat) (key : Int32) : Nat := pb_go K key u 0
def pn (K : Nat → Int32) (u : Nat) (key : Int32) : Nat := if pb K u key < u ∧ K (pb K u key) = key then pb K u key + 1 else pb K u key
theorem pb_go_spec (K : Nat → Int32) (key : Int32) : ∀ n i, i ≤ pb_go K key n i ∧ pb_go K key n i ≤ i + n ∧ (∀ j, i ≤ j → j < pb_go K key n i → K j < key) ∧ (pb_go K key n i < i + n → ¬ K (pb_go K key n i) < key) := by
  intro n
  induction n with
  | zero => intro i; exact ⟨Nat.le_refl _, Nat.le_refl _, fun j a b => absurd b (by show ¬ j < i; omega), fun z => absurd z (by show ¬ i < i + 0; omega)⟩
  | succ n ih =>
    intro i
    unfold pb_go
    by_cases hc : K i < key
    · rw [if_pos hc]
      obtain ⟨h1, h2, h3, h4⟩ := ih (i + 1)
      refine ⟨by omega, by omega, fun j a b => ?_, fun z => h4 (by omega)⟩
      rcases Nat.lt_or_ge i j with y | y
      · exact h3 j (by omega) b
      · have e : j = i := by omega
        rw [e]; exact hc
    · rw [if_neg hc]
      exact ⟨Nat.le_refl _, by omega, fun j a b => absurd b (by omega), fun _ => hc⟩
theorem pb_le (K : Nat → Int32) (u : Nat) (key : Int32) : pb K u key ≤ u := by
  have := (pb_go_spec K key u 0).2.1
  unfold pb; omega
theorem pb_lt {K : Nat → Int32} {u : Nat} {key : Int32} {j : Nat} (h : j < pb K u key) : K j < key := (pb_go_spec K key u 0).2.2.1 j (by omega) h
theorem pb_ge {K : Nat → Int32} {u : Nat} {key : Int32} (h : pb K u key < u) : ¬ K (pb K u key) < key := (pb_go_spec K key u 0).2.2.2 (by unfold pb at h; omega)
theorem pn_le (K : Nat → Int32) (u : Nat) (key : Int32) : pn K u key ≤ u := by
  have := pb_le K u key
  unfold pn
  split <;> omega
section PGR
variable {G : mv_G} {d : Nat} {h : mh_T} {p k v u : Nat} {key : Int32} {R : mv_O → mh_T → Prop}
set_option maxHeartbeats 4000000 in
set_option maxRecDepth 100000 in
theorem c_below (hp : pg_at h p k v u) (hR : R (.inl (some (.int (nI (pb (mh_aI h k) u key))))) h) : mv_V G jX0_below d 0 [(0, .ref p), (1, .int key)] [] h 0 0 R := by
  obtain ⟨e1, e2, e3, e4, e5, e6, e7, e8, e9, e10, e11⟩ := hp
  have loop : ∀ n i, i + n = u → pb (mh_aI h k) u key = pb_go (mh_aI h k) key n i → mv_V G jX0_below d 2 [(0, .ref p), (1, .int key), (2, .int (nI i))] [] h 0 0 R := by
    intro n
    induction n with
    | zero =>
      intro i h1 h2
      refine v_iload_n (pc := 2) dX0_below_2 rfl rfl ?_
      refine v_aload_n (pc := 3) dX0_below_3 rfl rfl ?_
      refine g_I 2 1 (pc := 4) fX0_19 dX0_below_4 rfl rfl (by assumption) (by assumption) ?_
      refine v_icmp_ge 26 (pc := 7) dX0_below_7 (by decide) (fun hb => ?_) (fun hb => ?_)
      · refine v_iload_n (pc := 26) dX0_below_26 rfl rfl ?_
        refine v_iret (pc := 27) dX0_below_27 rfl ?_
        rw [h2] at hR
        exact hR
      · exact absurd ((nI_leI (by omega) (by omega)).mpr (by omega)) hb
    | succ n ih =>
      intro i h1 h2
      refine v_iload_n (pc := 2) dX0_below_2 rfl rfl ?_
      refine v_aload_n (pc := 3) dX0_below_3 rfl rfl ?_
      refine g_I 2 1 (pc := 4) fX0_19 dX0_below_4 rfl rfl (by assumption) (by assumption) ?_
      refine v_icmp_ge 26 (pc := 7) dX0_below_7 (by decide) (fun hb => ?_) (fun hb => ?_)
      · have := (nI_leI (by omega) (by omega)).mp hb
        omega
      · refine v_aload_n (pc := 10) dX0_below_10 rfl rfl ?_
        refine g_R 0 1 (pc := 11) fX0_9 dX0_below_11 rfl rfl (by assumption) (by assumption) (by assumption) ?_
        refine v_iload_n (pc := 14) dX0_below_14 rfl rfl ?_
        refine n_iald (i) _ (pc := 15) dX0_below_15 (by assumption) (by assumption) rfl (by omega) (by decide) rfl ?_
        refine v_iload_n (pc := 16) dX0_below_16 rfl rfl ?_
        refine v_icmp_ge 26 (pc := 17) dX0_below_17 (by decide) (fun hb => ?_) (fun hb => ?_)
        · refine v_iload_n (pc := 26) dX0_below_26 rfl rfl ?_
          refine v_iret (pc := 27) dX0_below_27 rfl ?_
          rw [h2, pb_go, if_neg (Int32.not_lt.mpr hb)] at hR
          exact hR
        · refine v_iinc (pc := 20) dX0_below_20 rfl (mv_inc _) rfl rfl (by decide) ?_
          refine v_goto 2 (pc := 23) dX0_below_23 (by decide) ?_
          refine ih (i + 1) (by omega) ?_
          rw [h2, pb_go, if_pos (Int32.not_le.mp hb)]
  refine v_iconst (pc := 0) (v := 0) dX0_below_0 (by decide) ?_
  refine v_istore_n (pc := 1) dX0_below_1 rfl rfl rfl (by decide) ?_
  exact loop u 0 (by omega) rfl
set_option maxHeartbeats 4000000 in
set_option maxRecDepth 100000 in
theorem c_holdsAt {r : Nat} (hp : pg_at h p k v u) (hr : r ≤ 32) (hR : R (.inl (some (.int (if r < u ∧ mh_aI h k r = key then 1 else 0)))) h) : mv_V G jX0_holdsAt d 0 [(0, .ref p), (1, .int (nI r)), (2, .int key)] [] h 0 0 R := by
  obtain ⟨e1, e2, e3, e4, e5, e6, e7, e8, e9, e10, e11⟩ := hp
  refine v_iload_n (pc := 0) dX0_holdsAt_0 rfl rfl ?_
  refine v_aload_n (pc := 1) dX0_holdsAt_1 rfl rfl ?_
  refine g_I 2 1 (pc := 2) fX0_19 dX0_holdsAt_2 rfl rfl (by assumption) (by assumption) ?_
  refine v_icmp_ge 22 (pc := 5) dX0_holdsAt_5 (by decide) (fun hb => ?_) (fun hb => ?_)
  · have z := (nI_leI (by omega) (by omega)).mp hb
    rw [if_neg (by omega)] at hR
    refine v_iconst (pc := 22) (v := 0) dX0_holdsAt_22 (by decide) ?_
    refine v_zret (pc := 23) dX0_holdsAt_23 rfl rfl ?_
    exact hR
  · have z : r < u := Nat.not_le.mp (fun q => hb ((nI_leI (by omega) (by omega)).mpr q))
    refine v_aload_n (pc := 8) dX0_holdsAt_8 rfl rfl ?_
    refine g_R 0 1 (pc := 9) fX0_9 dX0_holdsAt_9 rfl rfl (by assumption) (by assumption) (by assumption) ?_
    refine v_iload_n (pc := 12) dX0_holdsAt_12 rfl rfl ?_
    refine n_iald (r) _ (pc := 13) dX0_holdsAt_13 (by assumption) (by assumption) rfl (by omega) (by decide) rfl ?_
    refine v_iload_n (pc := 14) dX0_holdsAt_14 rfl rfl ?_
    refine v_icmp_ne 22 (pc := 15) dX0_holdsAt_15 (by decide) (fun hb => ?_) (fun hb => ?_)
    · rw [if_neg (fun q => hb q.2)] at hR
      refine v_iconst (pc := 22) (v := 0) dX0_holdsAt_22 (by decide) ?_
      refine v_zret (pc := 23) dX0_holdsAt_23 rfl rfl ?_
      exact hR
    · rw [if_pos ⟨z, hb⟩] at hR
      refine v_iconst (pc := 18) (v := 1) dX0_holdsAt_18 (by decide) ?_
      refine v_goto 23 (pc := 19) dX0_holdsAt_19 (by decide) ?_
      refine v_zret (pc := 23) dX0_holdsAt_23 rfl rfl ?_
      exact hR
set_option maxHeartbeats 4000000 in
set_option maxRecDepth 100000 in
theorem c_notAbove (hp : pg_at h p k v u) (hR : R (.inl (some (.int (nI (pn (mh_aI h k) u key))))) h) : mv_V G jX0_notAbove (d + 1) 0 [(0, .ref p), (1, .int key)] [] h 0 0 R := by
  have hp' := hp
  obtain ⟨e1, e2, e3, e4, e5, e6, e7, e8, e9, e10, e11⟩ := hp
  have hle := pb_le (mh_aI h k) u key
  refine v_aload_n (pc := 0) dX0_notAbove_0 rfl rfl ?_
  refine v_iload_n (pc := 1) dX0_notAbove_1 rfl rfl ?_
  refine v_callV 0 0 (pc := 2) kX0_37 dX0_notAbove_2 rfl (by assumption) (Nat.zero_le _) (Nat.zero_le _) (Nat.le_of_ble_eq_true rfl) (Nat.le_of_ble_eq_true rfl) ?_
  refine c_below hp' ?_
  refine v_istore_n (pc := 5) dX0_notAbove_5 rfl rfl rfl (by decide) ?_
  refine v_aload_n (pc := 6) dX0_notAbove_6 rfl rfl ?_
  refine v_iload_n (pc := 7) dX0_notAbove_7 rfl rfl ?_
  refine v_iload_n (pc := 8) dX0_notAbove_8 rfl rfl ?_
  refine v_callV 0 0 (pc := 9) kX0_41 dX0_notAbove_9 rfl (by assumption) (Nat.zero_le _) (Nat.zero_le _) (Nat.le_of_ble_eq_true rfl) (Nat.le_of_ble_eq_true rfl) ?_
  refine c_holdsAt hp' (by omega) ?_
  by_cases hc : pb (mh_aI h k) u key < u ∧ mh_aI h k (pb (mh_aI h k) u key) = key
  · rw [if_pos hc]
    rw [pn, if_pos hc] at hR
    refine v_if_eq 21 (pc := 12) dX0_notAbove_12 (by decide) (fun hb => ?_) (fun hb => ?_)
    · exact absurd hb (by decide)
    · refine v_iload_n (pc := 15) dX0_notAbove_15 rfl rfl ?_
      refine v_iconst (pc := 16) (v := 1) dX0_notAbove_16 (by decide) ?_
      refine v_iadd (pc := 17) dX0_notAbove_17 ?_
      refine v_goto 22 (pc := 18) dX0_notAbove_18 (by decide) ?_
      refine v_iret (pc := 22) dX0_notAbove_22 rfl ?_
      rw [nI_succ] at hR
      exact hR
  · rw [if_neg hc]
    rw [pn, if_neg hc] at hR
    refine v_if_eq 21 (pc := 12) dX0_notAbove_12 (by decide) (fun hb => ?_) (fun hb => ?_)
    · refine v_iload_n (pc := 21) dX0_notAbove_21 rfl rfl ?_
      refine v_iret (pc := 22) dX0_notAbove_22 rfl ?_
      exact hR
    · exact absurd rfl hb
set_option maxHeartbeats 4000000 in
set_option maxRecDepth 100000 in
theorem c_countIn {to : Int32} (hp : pg_at h p k v u) (hR : R (.inl (some (.int (nI (pn (mh_aI h k) u to) - nI (pb (mh_aI h k) u key))))) h) : mv_V G jX0_countIn (d + 2) 0 [(0, .ref p), (1, .int key), (2, .int to)] [] h 0 0 R := by
  have e1 := hp.1
  refine v_aload_n (pc := 0) dX0_countIn_0 rfl rfl ?_
  refine v_iload_n (pc := 1) dX0_countIn_1 rfl rfl ?_
  refine v_callV 0 0 (pc := 2) kX0_45 dX0_countIn_2 rfl (by assumption) (Nat.zero_le _) (Nat.zero_le _) (Nat.le_of_ble_eq_true rfl) (Nat.le_of_ble_eq_true rfl) ?_
  refine c_notAbove hp ?_
  refine v_aload_n (pc := 5) dX0_countIn_5 rfl rfl ?_
  refine v_iload_n (pc := 6) dX0_countIn_6 rfl rfl ?_
  refine v_callV 0 0 (pc := 7) kX0_37 dX0_countIn_7 rfl (by assumption) (Nat.zero_le _) (Nat.zero_le _) (Nat.le_of_ble_eq_true rfl) (Nat.le_of_ble_eq_true rfl) ?_
  refine c_below hp ?_
  refine v_isub (pc := 10) dX0_countIn_10 ?_
  refine v_iret (pc := 11) dX0_countIn_11 rfl ?_
  exact hR
set_option maxHeartbeats 4000000 in
set_option maxRecDepth 100000 in
theorem c_valueAt {i : Nat} (hp : pg_at h p k v u) (hi : i < 32) (hR : R (.inl (some (.long (mh_aJ h v i + mh_fJ h 5 p)))) h) : mv_V G jX0_valueAt d 0 [(0, .ref p), (1, .int (nI i))] [] h 0 0 R := by
  obtain ⟨e1, e2, e3, e4, e5, e6, e7, e8, e9, e10, e11⟩ := hp
  refine v_aload_n (pc := 0) dX0_valueAt_0 rfl rfl ?_
  refine g_R 1 1 (pc := 1) fX0_15 dX0_valueAt_1 rfl rfl (by assumption) (by assumption) (by assumption) ?_
  refine v_iload_n (pc := 4) dX0_valueAt_4 rfl rfl ?_
  refine n_lald (i) _ (pc := 5) dX0_valueAt_5 (by assumption) (by assumption) rfl (by omega) (by decide) rfl ?_
  refine v_aload_n (pc := 6) dX0_valueAt_6 rfl rfl ?_
  refine g_J 5 1 (pc := 7) fX0_33 dX0_valueAt_7 rfl rfl (by assumption) rfl ?_
  refine v_ladd (pc := 10) dX0_valueAt_10 ?_
  refine v_lret (pc := 11) dX0_valueAt_11 rfl ?_
  exact hR
set_option maxHeartbeats 4000000 in
set_option maxRecDepth 100000 in
theorem c_setValueAt {i : Nat} {x : Int64} (hp : pg_at h p k v u) (hi : i < 32) (hR : R (.inl none) (mh_saJ h v i (x - mh_fJ h 5 p))) : mv_V G jX0_setValueAt d 0 [(0, .ref p), (1, .int (nI i)), (2, .long x)] [] h 0 0 R := by
  obtain ⟨e1, e2, e3, e4, e5, e6, e7, e8, e9, e10, e11⟩ := hp
  refine v_aload_n (pc := 0) dX0_setValueAt_0 rfl rfl ?_
  refine g_R 1 1 (pc := 1) fX0_15 dX0_setValueAt_1 rfl rfl (by assumption) (by assumption) (by assumption) ?_
  refine v_iload_n (pc := 4) dX0_setValueAt_4 rfl rfl ?_
  refine v_lload_n (pc := 5) dX0_setValueAt_5 rfl rfl ?_
  refine v_aload_n (pc := 6) dX0_setValueAt_6 rfl rfl ?_
  refine g_J 5 1 (pc := 7) fX0_33 dX0_setValueAt_7 rfl rfl (by assumption) rfl ?_
  refine v_lsub (pc := 10) dX0_setValueAt_10 ?_
  refine n_last (i) _ (pc := 11) dX0_setValueAt_11 (by assumption) (by assumption) rfl (by omega) (by decide) ?_
  refine v_vret (pc := 12) dX0_setValueAt_12 rfl ?_
  exact hR
end PGR
