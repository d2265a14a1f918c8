/-! LazyPages$PageTable: what it is, and its reads. -/
theorem i32_up {x : Int32} (h : x < 2147483647) : (x + 1).toInt = x.toInt + 1 := by
  have h1 := Int32.lt_iff_toInt_lt.mp h
  have h2 : (2147483647 : Int32).toInt = 2147483647 := by decide
  have h3 : (1 : Int32).toInt = 1 := by decide
  have h4 := Int32.le_toInt x
  rw [h2] at h1
  rw [Int32.toInt_add, h3]
  exact Int.bmod_eq_of_le (by omega) (by omega)
theorem i32_succ {x : Int32} (h : x < 2147483647) : x < x + 1 := Int32.lt_iff_toInt_lt.mpr (by rw [i32_up h]; omega)
theorem i32_max (x : Int32) : x ≤ 2147483647 := Int32.le_iff_toInt_le.mpr (by
  have h2 : (2147483647 : Int32).toInt = 2147483647 := by decide
  have := Int32.toInt_lt x
  omega)
theorem i32_min (x : Int32) : (-2147483648 : Int32) ≤ x := Int32.le_iff_toInt_le.mpr (by
  have h2 : (-2147483648 : Int32).toInt = -2147483648 := by decide
  have := Int32.le_toInt x
  omega)
theorem i32_succ_le {x y : Int32} (h : x < y) : x + 1 ≤ y := by
  have h0 : x < 2147483647 := i32_lt_le h (i32_max y)
  have h1 := Int32.lt_iff_toInt_lt.mp h
  exact Int32.le_iff_toInt_le.mpr (by rw [i32_up h0]; omega)
theorem hasK_mid {A L C : List En} {key : Int32} (hA : ∀ e, e ∈ A → e.1 < key) (hC : ∀ e, e ∈ C → key < e.1) : hasK (A ++ L ++ C) key = hasK L key := by
  have h1 : hasK A key = false := by
    rw [← Bool.not_eq_true]
    intro q
    obtain ⟨e, he, hk⟩ := hasK_iff.mp q
    have := hA e he
    rw [hk] at this
    exact i32_irr this
  have h2 : hasK C key = false := by
    rw [← Bool.not_eq_true]
    intro q
    obtain ⟨e, he, hk⟩ := hasK_iff.mp q
    have := hC e he
    rw [hk] at this
    exact i32_irr this
  have h3 : hasK (A ++ L ++ C) key = (hasK A key || hasK L key || hasK C key) := by simp [hasK, Bool.or_assoc]
  rw [h3, h1, h2]; simp
theorem valK_mid {A L C : List En} {key : Int32} (hu : up (A ++ L ++ C)) (hA : ∀ e, e ∈ A → e.1 < key) (hC : ∀ e, e ∈ C → key < e.1) : valK (A ++ L ++ C) key = valK L key := by
  have hL : up L := (List.pairwise_append.mp (List.pairwise_append.mp hu).1).2.1
  have hm := hasK_mid (L := L) hA hC
  by_cases c : hasK L key = true
  · obtain ⟨e, he, hk⟩ := hasK_iff.mp c
    obtain ⟨k, x⟩ := e
    have hk' : k = key := hk
    subst hk'
    rw [valK_at hL he, valK_at hu (List.mem_append_left _ (List.mem_append_right _ he))]
  · rw [valK_no c, valK_no (by rw [hm]; exact c)]
theorem flt_all {L : List En} {p : En → Bool} (h : ∀ e, e ∈ L → p e = true) : L.filter p = L := List.filter_eq_self.mpr h
theorem flt_non {L : List En} {p : En → Bool} (h : ∀ e, e ∈ L → p e = false) : L.filter p = [] := List.filter_eq_nil_iff.mpr (fun e he => by rw [h e he]; decide)
theorem putK_mid {A L C : List En} {key : Int32} {x : Int64} (hA : ∀ e, e ∈ A → e.1 < key) (hC : ∀ e, e ∈ C → key < e.1) : putK (A ++ L ++ C) key x = A ++ putK L key x ++ C := by
  unfold putK
  rw [List.filter_append, List.filter_append, List.filter_append, List.filter_append]
  rw [flt_all (L := A) (fun e he => by simp [hA e he]), flt_non (L := C) (p := fun e => decide (e.1 < key)) (fun e he => by simp [Int32.not_lt.mpr (i32_le_of_lt (hC e he))])]
  rw [flt_non (L := A) (p := fun e => decide (key < e.1)) (fun e he => by simp [Int32.not_lt.mpr (i32_le_of_lt (hA e he))]), flt_all (L := C) (fun e he => by simp [hC e he])]
  simp
theorem kIn_no {a b : Int32} {e : En} (h : e.1 < a ∨ b < e.1) : kIn a b e = false := by
  rcases h with h | h
  · simp [kIn, Int32.not_le.mpr h]
  · simp [kIn, Int32.not_le.mpr h]
theorem flt_no {L : List En} {a b : Int32} (h : ∀ e, e ∈ L → e.1 < a ∨ b < e.1) : L.filter (kIn a b) = [] := flt_non (fun e he => kIn_no (h e he))
theorem del_no {L : List En} {a b : Int32} (h : ∀ e, e ∈ L → e.1 < a ∨ b < e.1) : delK L a b = L := flt_all (fun e he => by simp [kIn_no (h e he)])
theorem rai_no {L : List En} {a b : Int32} {x : Int64} (h : ∀ e, e ∈ L → e.1 < a ∨ b < e.1) : raiK L a b x = L := by
  unfold raiK
  conv => rhs; rw [← List.map_id L]
  refine List.map_congr_left (fun e he => ?_)
  rw [kIn_no (h e he)]; simp
/-- a table's cells -/
def tb0 (h : mh_T) (t pa n : Nat) (D : Nat → Nat × Nat × Nat) (LO HI : Nat → Int32) (X : Nat → List En) (sz : Nat) : Prop :=
  mh_kd h t = 2 ∧ mh_fR h 100 t = pa ∧ pa ≠ 0 ∧ mh_kd h pa = 55 ∧ mh_ln h pa = 40 ∧ mh_fI h 101 t = nI n ∧ mh_fI h 102 t = nI sz ∧ (∀ i, i < 40 → mh_aR h pa i = (D i).1 ∧ (D i).1 ≠ 0 ∧ pgL h (D i) (LO i) (HI i) (X i)) ∧ (∀ i j, i < 40 → j < 40 → i ≠ j → (D i).1 ≠ (D j).1 ∧ (D i).2.1 ≠ (D j).2.1 ∧ (D i).2.2 ≠ (D j).2.2)
/-- the pages lie side by side -/
def tw (n : Nat) (LO HI : Nat → Int32) (X : Nat → List En) : Prop :=
  1 ≤ n ∧ n ≤ 40 ∧ LO 0 = -2147483648 ∧ HI (n - 1) = 2147483647 ∧ (∀ i, i < n → LO i ≤ HI i ∧ up (X i) ∧ ∀ e, e ∈ X i → LO i ≤ e.1 ∧ e.1 ≤ HI i) ∧ (∀ i, i + 1 < n → HI i < 2147483647 ∧ LO (i + 1) = HI i + 1)
def tS (S : Nat → Prop) (t pa : Nat) (D : Nat → Nat × Nat × Nat) : Prop := S t ∧ S pa ∧ ∀ i, i < 40 → S (D i).1 ∧ S (D i).2.1 ∧ S (D i).2.2
def SF (S : Nat → Prop) (h h' : mh_T) : Prop := ∀ a, ¬ S a → mh_sm h h' a
/-- the table t, whose cells lie in S, holds M -/
def TB (h : mh_T) (t : Nat) (S : Nat → Prop) (M : List En) : Prop := ∃ pa n D LO HI X, tb0 h t pa n D LO HI X M.length ∧ tw n LO HI X ∧ tS S t pa D ∧ fm n X = M ∧ M.length ≤ 600
theorem tb0_sm {h h' : mh_T} {t pa n : Nat} {D : Nat → Nat × Nat × Nat} {LO HI : Nat → Int32} {X : Nat → List En} {sz : Nat} {S : Nat → Prop} (hT : tb0 h t pa n D LO HI X sz) (hS : tS S t pa D) (hs : ∀ a, S a → mh_sm h h' a) : tb0 h' t pa n D LO HI X sz := by
  obtain ⟨e1, e2, e3, e4, e5, e6, e7, e8, e9⟩ := hT
  obtain ⟨s1, s2, s3⟩ := hS
  obtain ⟨a1, a2, a3, a4, a5, a6, a7, a8⟩ := hs t s1
  obtain ⟨b1, b2, b3, b4, b5, b6, b7, b8⟩ := hs pa s2
  refine ⟨a1.trans e1, (a5 100).trans e2, e3, b1.trans e4, b2.trans e5, (a3 101).trans e6, (a3 102).trans e7, fun i hi => ?_, e9⟩
  obtain ⟨f1, f2, f3⟩ := e8 i hi
  obtain ⟨g1, g2, g3⟩ := s3 i hi
  exact ⟨(b8 i).trans f1, f2, pgL_sm f3 (hs _ g1) (hs _ g2) (hs _ g3)⟩
theorem TB_sm {h h' : mh_T} {t : Nat} {S : Nat → Prop} {M : List En} (hT : TB h t S M) (hs : ∀ a, S a → mh_sm h h' a) : TB h' t S M := by
  obtain ⟨pa, n, D, LO, HI, X, h0, h1, h2, h3, h4⟩ := hT
  exact ⟨pa, n, D, LO, HI, X, tb0_sm h0 h2 hs, h1, h2, h3, h4⟩
section TW
variable {n : Nat} {LO HI : Nat → Int32} {X : Nat → List En}
theorem tw_lt (w : tw n LO HI X) {i j : Nat} (hij : i < j) (hj : j < n) : HI i < LO j := by
  obtain ⟨_, _, _, _, w5, w6⟩ := w
  induction j with
  | zero => omega
  | succ j ih =>
    rcases Nat.lt_or_ge i j with z | z
    · have h1 := ih z (by omega)
      have h2 := (w5 j (by omega)).1
      obtain ⟨h3, h4⟩ := w6 j hj
      rw [h4]
      exact i32_lt_tr (i32_lt_le h1 h2) (i32_succ h3)
    · have e : i = j := by omega
      subst e
      obtain ⟨h3, h4⟩ := w6 i hj
      rw [h4]
      exact i32_succ h3
theorem tw_A (w : tw n LO HI X) {i : Nat} (hi : i < n) {e : En} (he : e ∈ fm i X) : e.1 < LO i := by
  obtain ⟨j, hj, hm⟩ := fm_mem.mp he
  exact i32_le_lt ((w.2.2.2.2.1 j (by omega)).2.2 e hm).2 (tw_lt w hj hi)
theorem tw_C (w : tw n LO HI X) {i : Nat} (hi : i < n) {e : En} (he : e ∈ fm (n - (i + 1)) (fun j => X (i + 1 + j))) : HI i < e.1 := by
  obtain ⟨j, hj, hm⟩ := fm_mem.mp he
  exact i32_lt_le (tw_lt w (show i < i + 1 + j by omega) (by omega)) ((w.2.2.2.2.1 (i + 1 + j) (by omega)).2.2 e hm).1
theorem tw_up_m (w : tw n LO HI X) : ∀ m, m ≤ n → up (fm m X) := by
  intro m
  induction m with
  | zero => intro _; exact List.Pairwise.nil
  | succ m ih =>
    intro hm
    rw [fm_succ]
    refine List.pairwise_append.mpr ⟨ih (by omega), (w.2.2.2.2.1 m (by omega)).2.1, fun e he f hf => ?_⟩
    exact i32_lt_le (tw_A w (by omega) he) ((w.2.2.2.2.1 m (by omega)).2.2 f hf).1
theorem tw_up (w : tw n LO HI X) : up (fm n X) := tw_up_m w n (Nat.le_refl _)
theorem tw_le (w : tw n LO HI X) {i j : Nat} {a b : Int32} (hi : i < n) (ha : LO i ≤ a) (hb : b ≤ HI j) (hab : a ≤ b) : i ≤ j := by
  rcases Nat.lt_or_ge j i with z | z
  · have := tw_lt w z hi
    exact absurd (i32_lt_le (i32_le_lt hb this) ha) (Int32.not_lt.mpr hab)
  · exact z
end TW
theorem TB_up {h : mh_T} {t : Nat} {S : Nat → Prop} {M : List En} (hT : TB h t S M) : up M := by
  obtain ⟨pa, n, D, LO, HI, X, h0, h1, h2, h3, h4⟩ := hT
  rw [← h3]; exact tw_up h1
section TR
variable {G : mv_G} {d : Nat} {h : mh_T} {t pa n sz : Nat} {D : Nat → Nat × Nat × Nat} {LO HI : Nat → Int32} {X : Nat → List En} {S : Nat → Prop} {M : List En} {a b key : Int32} {x : Int64} {R : mv_O → mh_T → Prop}
set_option maxHeartbeats 4000000 in
set_option maxRecDepth 100000 in
theorem c_pageOf (hT : tb0 h t pa n D LO HI X sz) (w : tw n LO HI X) (hR : ∀ i, i < n → LO i ≤ key → key ≤ HI i → R (.inl (some (.int (nI i)))) h) : mv_V G jX1_pageOf d 0 [(0, .ref t), (1, .int key)] [] h 0 0 R := by
  obtain ⟨e1, e2, e3, e4, e5, e6, e7, e8, e9⟩ := hT
  obtain ⟨w1, w2, w3, w4, w5, w6⟩ := w
  have s1 : nI n - (1 : Int32) = nI (n - 1) := pk_sub w1
  have loop : ∀ m i, i + m = n - 1 → LO i ≤ key → mv_V G jX1_pageOf d 2 [(0, .ref t), (1, .int key), (2, .int (nI i))] [] h 0 0 R := by
    intro m
    induction m with
    | zero =>
      intro i h1 h2
      refine v_iload_n (pc := 2) dX1_pageOf_2 rfl rfl ?_
      refine v_aload_n (pc := 3) dX1_pageOf_3 rfl rfl ?_
      refine g_I 101 2 (pc := 4) fX1_18 dX1_pageOf_4 rfl rfl (by assumption) (by assumption) ?_
      refine v_iconst (pc := 7) (v := 1) dX1_pageOf_7 (by decide) ?_
      refine v_isub (pc := 8) dX1_pageOf_8 ?_
      refine v_icmp_ge 31 (pc := 9) dX1_pageOf_9 (by decide) (fun hb => ?_) (fun hb => ?_)
      · refine v_iload_n (pc := 31) dX1_pageOf_31 rfl rfl ?_
        refine v_iret (pc := 32) dX1_pageOf_32 rfl ?_
        have ei : i = n - 1 := by omega
        refine hR i (by omega) h2 ?_
        rw [ei, w4]; exact i32_max _
      · rw [s1] at hb
        exact absurd ((nI_leI (by omega) (by omega)).mpr (by omega)) hb
    | succ m ih =>
      intro i h1 h2
      obtain ⟨f1, f2, f3⟩ := e8 i (by omega)
      have f4 := f3.1.1
      have f5 := f3.2.2.1
      refine v_iload_n (pc := 2) dX1_pageOf_2 rfl rfl ?_
      refine v_aload_n (pc := 3) dX1_pageOf_3 rfl rfl ?_
      refine g_I 101 2 (pc := 4) fX1_18 dX1_pageOf_4 rfl rfl (by assumption) (by assumption) ?_
      refine v_iconst (pc := 7) (v := 1) dX1_pageOf_7 (by decide) ?_
      refine v_isub (pc := 8) dX1_pageOf_8 ?_
      refine v_icmp_ge 31 (pc := 9) dX1_pageOf_9 (by decide) (fun hb => ?_) (fun hb => ?_)
      · rw [s1] at hb
        have := (nI_leI (by omega) (by omega)).mp hb
        omega
      · refine v_aload_n (pc := 12) dX1_pageOf_12 rfl rfl ?_
        refine g_R 100 2 (pc := 13) fX1_11 dX1_pageOf_13 rfl rfl (by assumption) (by assumption) (by assumption) ?_
        refine v_iload_n (pc := 16) dX1_pageOf_16 rfl rfl ?_
        refine n_aald55 (i) _ (pc := 17) dX1_pageOf_17 (by assumption) (by assumption) rfl (by omega) (by decide) f1 (by assumption) ?_
        refine g_I 4 1 (pc := 18) fX1_25 dX1_pageOf_18 rfl rfl (by assumption) (by assumption) ?_
        refine v_iload_n (pc := 21) dX1_pageOf_21 rfl rfl ?_
        refine v_icmp_ge 31 (pc := 22) dX1_pageOf_22 (by decide) (fun hb => ?_) (fun hb => ?_)
        · refine v_iload_n (pc := 31) dX1_pageOf_31 rfl rfl ?_
          refine v_iret (pc := 32) dX1_pageOf_32 rfl ?_
          exact hR i (by omega) h2 hb
        · refine v_iinc (pc := 25) dX1_pageOf_25 rfl (mv_inc _) rfl rfl (by decide) ?_
          refine v_goto 2 (pc := 28) dX1_pageOf_28 (by decide) ?_
          refine ih (i + 1) (by omega) ?_
          rw [(w6 i (by omega)).2]
          exact i32_succ_le (Int32.not_le.mp hb)
  refine v_iconst (pc := 0) (v := 0) dX1_pageOf_0 (by decide) ?_
  refine v_istore_n (pc := 1) dX1_pageOf_1 rfl rfl rfl (by decide) ?_
  exact loop (n - 1) 0 (by omega) (by rw [w3]; exact i32_min _)
set_option maxHeartbeats 4000000 in
set_option maxRecDepth 100000 in
theorem t_holds (hT : TB h t S M) (hR : R (.inl (some (.int (if hasK M key = true then 1 else 0)))) h) : mv_V G jX1_holds (d + 1) 0 [(0, .ref t), (1, .int key)] [] h 0 0 R := by
  obtain ⟨pa, n, D, LO, HI, X, h0, h1, h2, h3, h4⟩ := hT
  have h0' := h0
  obtain ⟨e1, e2, e3, e4, e5, e6, e7, e8, e9⟩ := h0
  refine v_aload_n (pc := 0) dX1_holds_0 rfl rfl ?_
  refine g_R 100 2 (pc := 1) fX1_11 dX1_holds_1 rfl rfl (by assumption) (by assumption) (by assumption) ?_
  refine v_aload_n (pc := 4) dX1_holds_4 rfl rfl ?_
  refine v_iload_n (pc := 5) dX1_holds_5 rfl rfl ?_
  refine v_callV 0 0 (pc := 6) kX1_28 dX1_holds_6 rfl (by assumption) (Nat.zero_le _) (Nat.zero_le _) (Nat.le_of_ble_eq_true rfl) (Nat.le_of_ble_eq_true rfl) ?_
  refine c_pageOf h0' h1 (fun i hi hl hh => ?_)
  have i40 : i < 40 := by have := h1.2.1; omega
  obtain ⟨f1, f2, f3⟩ := e8 i i40
  have f4 := f3.1.1
  have hu := (h1.2.2.2.2.1 i hi).2.1
  refine n_aald55 (i) _ (pc := 9) dX1_holds_9 (by assumption) (by assumption) rfl (by omega) (by decide) f1 (by assumption) ?_
  refine v_astore_n (pc := 10) dX1_holds_10 rfl rfl rfl (by decide) ?_
  refine v_aload_n (pc := 11) dX1_holds_11 rfl rfl ?_
  refine v_aload_n (pc := 12) dX1_holds_12 rfl rfl ?_
  refine v_iload_n (pc := 13) dX1_holds_13 rfl rfl ?_
  refine v_callV 0 0 (pc := 14) kX1_32 dX1_holds_14 rfl (by assumption) (Nat.zero_le _) (Nat.zero_le _) (Nat.le_of_ble_eq_true rfl) (Nat.le_of_ble_eq_true rfl) ?_
  refine c_below f3.1 ?_
  refine v_iload_n (pc := 17) dX1_holds_17 rfl rfl ?_
  refine v_callV 0 0 (pc := 18) kX1_35 dX1_holds_18 rfl (by assumption) (Nat.zero_le _) (Nat.zero_le _) (Nat.le_of_ble_eq_true rfl) (Nat.le_of_ble_eq_true rfl) ?_
  have q := pb_le (mh_aI h (D i).2.1) (X i).length key
  have q2 := f3.1.2.2.2.2.2.2.2.2.2.2
  refine c_holdsAt f3.1 (by omega) ?_
  have em : hasK M key = hasK (X i) key := by
    rw [← h3, fm_at X hi]
    exact hasK_mid (fun e he => i32_lt_le (tw_A h1 hi he) hl) (fun e he => i32_le_lt hh (tw_C h1 hi he))
  rw [em] at hR
  have hp := pgL_has (key := key) f3 hu
  by_cases c : hasK (X i) key = true
  · rw [if_pos (hp.mp c)]
    rw [if_pos c] at hR
    refine v_zret (pc := 21) dX1_holds_21 rfl rfl ?_
    exact hR
  · rw [if_neg (fun q => c (hp.mpr q))]
    rw [if_neg c] at hR
    refine v_zret (pc := 21) dX1_holds_21 rfl rfl ?_
    exact hR
set_option maxHeartbeats 4000000 in
set_option maxRecDepth 100000 in
theorem t_valueOf (hT : TB h t S M) (hR : R (.inl (some (.long (valK M key)))) h) : mv_V G jX1_valueOf (d + 1) 0 [(0, .ref t), (1, .int key)] [] h 0 0 R := by
  obtain ⟨pa, n, D, LO, HI, X, h0, h1, h2, h3, h4⟩ := hT
  have h0' := h0
  obtain ⟨e1, e2, e3, e4, e5, e6, e7, e8, e9⟩ := h0
  refine v_aload_n (pc := 0) dX1_valueOf_0 rfl rfl ?_
  refine g_R 100 2 (pc := 1) fX1_11 dX1_valueOf_1 rfl rfl (by assumption) (by assumption) (by assumption) ?_
  refine v_aload_n (pc := 4) dX1_valueOf_4 rfl rfl ?_
  refine v_iload_n (pc := 5) dX1_valueOf_5 rfl rfl ?_
  refine v_callV 0 0 (pc := 6) kX1_28 dX1_valueOf_6 rfl (by assumption) (Nat.zero_le _) (Nat.zero_le _) (Nat.le_of_ble_eq_true rfl) (Nat.le_of_ble_eq_true rfl) ?_
  refine c_pageOf h0' h1 (fun i hi hl hh => ?_)
  have i40 : i < 40 := by have := h1.2.1; omega
  obtain ⟨f1, f2, f3⟩ := e8 i i40
  have f4 := f3.1.1
  have hu := (h1.2.2.2.2.1 i hi).2.1
  refine n_aald55 (i) _ (pc := 9) dX1_valueOf_9 (by assumption) (by assumption) rfl (by omega) (by decide) f1 (by assumption) ?_
  refine v_astore_n (pc := 10) dX1_valueOf_10 rfl rfl rfl (by decide) ?_
  refine v_aload_n (pc := 11) dX1_valueOf_11 rfl rfl ?_
  refine v_iload_n (pc := 12) dX1_valueOf_12 rfl rfl ?_
  refine v_callV 0 0 (pc := 13) kX1_32 dX1_valueOf_13 rfl (by assumption) (Nat.zero_le _) (Nat.zero_le _) (Nat.le_of_ble_eq_true rfl) (Nat.le_of_ble_eq_true rfl) ?_
  refine c_below f3.1 ?_
  refine v_istore_n (pc := 16) dX1_valueOf_16 rfl rfl rfl (by decide) ?_
  refine v_aload_n (pc := 17) dX1_valueOf_17 rfl rfl ?_
  refine v_iload_n (pc := 18) dX1_valueOf_18 rfl rfl ?_
  refine v_iload_n (pc := 19) dX1_valueOf_19 rfl rfl ?_
  refine v_callV 0 0 (pc := 20) kX1_35 dX1_valueOf_20 rfl (by assumption) (Nat.zero_le _) (Nat.zero_le _) (Nat.le_of_ble_eq_true rfl) (Nat.le_of_ble_eq_true rfl) ?_
  have q := pb_le (mh_aI h (D i).2.1) (X i).length key
  have q2 := f3.1.2.2.2.2.2.2.2.2.2.2
  refine c_holdsAt f3.1 (by omega) ?_
  have em : valK M key = valK (X i) key := by
    have hup := tw_up h1
    rw [fm_at X hi] at hup
    rw [← h3, fm_at X hi]
    exact valK_mid hup (fun e he => i32_lt_le (tw_A h1 hi he) hl) (fun e he => i32_le_lt hh (tw_C h1 hi he))
  rw [em] at hR
  have hp := pgL_has (key := key) f3 hu
  by_cases c : hasK (X i) key = true
  · rw [if_pos (hp.mp c)]
    have := (hp.mp c).1
    rw [pgL_val f3 hu c] at hR
    refine v_if_eq 34 (pc := 23) dX1_valueOf_23 (by decide) (fun hb => ?_) (fun hb => ?_)
    · exact absurd hb (by decide)
    · refine v_aload_n (pc := 26) dX1_valueOf_26 rfl rfl ?_
      refine v_iload_n (pc := 27) dX1_valueOf_27 rfl rfl ?_
      refine v_callV 0 0 (pc := 28) kX1_39 dX1_valueOf_28 rfl (by assumption) (Nat.zero_le _) (Nat.zero_le _) (Nat.le_of_ble_eq_true rfl) (Nat.le_of_ble_eq_true rfl) ?_
      refine c_valueAt f3.1 (by omega) ?_
      refine v_goto 35 (pc := 31) dX1_valueOf_31 (by decide) ?_
      refine v_lret (pc := 35) dX1_valueOf_35 rfl ?_
      exact hR
  · rw [if_neg (fun q => c (hp.mpr q))]
    rw [valK_no c] at hR
    refine v_if_eq 34 (pc := 23) dX1_valueOf_23 (by decide) (fun hb => ?_) (fun hb => ?_)
    · refine v_lconst (pc := 34) (v := 0) dX1_valueOf_34 (by decide) ?_
      refine v_lret (pc := 35) dX1_valueOf_35 rfl ?_
      exact hR
    · exact absurd rfl hb
end TR
