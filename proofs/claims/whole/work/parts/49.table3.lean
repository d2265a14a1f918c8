/-! LazyPages$PageTable: raiseIn, removeIn, pushAllDown, copyFrom. -/
def up1 {α : Type} (f : Nat → α) (i : Nat) (x : α) : Nat → α := fun j => if j = i then x else f j
theorem up1_id {α : Type} (f : Nat → α) (i : Nat) : up1 f i (f i) = f := funext fun j => by
  unfold up1
  by_cases c : j = i
  · rw [if_pos c, c]
  · rw [if_neg c]
theorem up1_eq {α : Type} (f : Nat → α) (i : Nat) (x : α) : up1 f i x i = x := if_pos rfl
theorem up1_ne {α : Type} (f : Nat → α) {i j : Nat} (x : α) (h : j ≠ i) : up1 f i x j = f j := if_neg h
/-- the first i of f, the others of g -/
def upto {α : Type} (f g : Nat → α) (i : Nat) : Nat → α := fun j => if j < i then f j else g j
theorem upto_lt {α : Type} (f g : Nat → α) {i j : Nat} (h : j < i) : upto f g i j = f j := if_pos h
theorem upto_ge {α : Type} (f g : Nat → α) {i j : Nat} (h : i ≤ j) : upto f g i j = g j := if_neg (by omega)
theorem upto_succ {α : Type} (f g : Nat → α) (i : Nat) : up1 (upto f g i) i (f i) = upto f g (i + 1) := funext fun j => by
  unfold up1 upto
  by_cases c : j = i
  · rw [if_pos c, if_pos (by omega), c]
  · rw [if_neg c]
    by_cases c2 : j < i
    · rw [if_pos c2, if_pos (by omega)]
    · rw [if_neg c2, if_neg (by omega)]
theorem upto_0 {α : Type} (f g : Nat → α) : upto f g 0 = g := funext fun j => if_neg (by omega)
theorem SF_rf (S : Nat → Prop) (h : mh_T) : SF S h h := fun a _ => mh_sm_rf h a
theorem SF_tr {S : Nat → Prop} {h h1 h2 : mh_T} (x : SF S h h1) (y : SF S h1 h2) : SF S h h2 := fun a ha => mh_sm_tr (x a ha) (y a ha)
theorem mh_sm_sfI {h : mh_T} {F t a : Nat} {x : Int32} (ha : a ≠ t) : mh_sm h (mh_sfI h F t x) a := by
  refine ⟨rfl, rfl, fun F' => ?_, fun _ => rfl, fun _ => rfl, fun _ => rfl, fun _ => rfl, fun _ => rfl⟩
  rw [mh_fI_sfI, if_neg (fun q => ha q.2)]
section TM
variable {h h' : mh_T} {t pa n sz : Nat} {D : Nat → Nat × Nat × Nat} {LO HI : Nat → Int32} {X : Nat → List En} {S : Nat → Prop}
theorem SF_pg {i : Nat} (hS : tS S t pa D) (hi : i < 40) (hF : pgF h h' (D i)) : SF S h h' := fun a ha => by
  obtain ⟨s1, s2, s3⟩ := hS.2.2 i hi
  exact hF a (fun q => ha (q ▸ s1)) (fun q => ha (q ▸ s2)) (fun q => ha (q ▸ s3))
theorem SF_sfI {F : Nat} {x : Int32} (hS : S t) : SF S h (mh_sfI h F t x) := fun a ha => mh_sm_sfI (fun q => ha (q ▸ hS))
theorem tb0_size {sz' : Nat} (hT : tb0 h t pa n D LO HI X sz) : tb0 (mh_sfI h 102 t (nI sz')) t pa n D LO HI X sz' := by
  obtain ⟨e1, e2, e3, e4, e5, e6, e7, e8, e9⟩ := hT
  refine ⟨e1, e2, e3, e4, e5, ?_, ?_, fun i hi => ?_, e9⟩
  · rw [mh_fI_sfI, if_neg (fun q => absurd q.1 (by decide))]; exact e6
  · rw [mh_fI_sfI, if_pos ⟨rfl, rfl⟩]
  · obtain ⟨f1, f2, f3⟩ := e8 i hi
    refine ⟨f1, f2, ?_⟩
    have k1 : (D i).1 ≠ t := fun q => by have := f3.1.1; rw [q, e1] at this; exact absurd this (by decide)
    have k2 : (D i).2.1 ≠ t := fun q => by have := f3.1.2.2.2.2.2.1; rw [q, e1] at this; exact absurd this (by decide)
    have k3 : (D i).2.2 ≠ t := fun q => by have := f3.1.2.2.2.2.2.2.2.1; rw [q, e1] at this; exact absurd this (by decide)
    exact pgL_sm f3 (mh_sm_sfI k1) (mh_sm_sfI k2) (mh_sm_sfI k3)
theorem tb0_count {n' : Nat} (hT : tb0 h t pa n D LO HI X sz) : tb0 (mh_sfI h 101 t (nI n')) t pa n' D LO HI X sz := by
  obtain ⟨e1, e2, e3, e4, e5, e6, e7, e8, e9⟩ := hT
  refine ⟨e1, e2, e3, e4, e5, ?_, ?_, fun i hi => ?_, e9⟩
  · rw [mh_fI_sfI, if_pos ⟨rfl, rfl⟩]
  · rw [mh_fI_sfI, if_neg (fun q => absurd q.1 (by decide))]; exact e7
  · obtain ⟨f1, f2, f3⟩ := e8 i hi
    refine ⟨f1, f2, ?_⟩
    have k1 : (D i).1 ≠ t := fun q => by have := f3.1.1; rw [q, e1] at this; exact absurd this (by decide)
    have k2 : (D i).2.1 ≠ t := fun q => by have := f3.1.2.2.2.2.2.1; rw [q, e1] at this; exact absurd this (by decide)
    have k3 : (D i).2.2 ≠ t := fun q => by have := f3.1.2.2.2.2.2.2.2.1; rw [q, e1] at this; exact absurd this (by decide)
    exact pgL_sm f3 (mh_sm_sfI k1) (mh_sm_sfI k2) (mh_sm_sfI k3)
theorem tb0_page {i : Nat} {lo hi : Int32} {L : List En} (hT : tb0 h t pa n D LO HI X sz) (hi40 : i < 40) (hp : pgL h' (D i) lo hi L) (hF : pgF h h' (D i)) : tb0 h' t pa n D (up1 LO i lo) (up1 HI i hi) (up1 X i L) sz := by
  obtain ⟨e1, e2, e3, e4, e5, e6, e7, e8, e9⟩ := hT
  obtain ⟨f1, f2, f3⟩ := e8 i hi40
  obtain ⟨g1, _, _, _, _, g6, _, g8, _⟩ := f3.1
  have t1 : mh_sm h h' t := hF t (fun q => by rw [← q, e1] at g1; exact absurd g1 (by decide)) (fun q => by rw [← q, e1] at g6; exact absurd g6 (by decide)) (fun q => by rw [← q, e1] at g8; exact absurd g8 (by decide))
  have t2 : mh_sm h h' pa := hF pa (fun q => by rw [← q, e4] at g1; exact absurd g1 (by decide)) (fun q => by rw [← q, e4] at g6; exact absurd g6 (by decide)) (fun q => by rw [← q, e4] at g8; exact absurd g8 (by decide))
  obtain ⟨a1, a2, a3, a4, a5, a6, a7, a8⟩ := t1
  obtain ⟨b1, b2, b3, b4, b5, b6, b7, b8⟩ := t2
  refine ⟨a1.trans e1, (a5 100).trans e2, e3, b1.trans e4, b2.trans e5, (a3 101).trans e6, (a3 102).trans e7, fun j hj => ?_, e9⟩
  obtain ⟨k1, k2, k3⟩ := e8 j hj
  refine ⟨(b8 j).trans k1, k2, ?_⟩
  by_cases c : j = i
  · subst c
    rw [up1_eq, up1_eq, up1_eq]; exact hp
  · rw [up1_ne _ _ c, up1_ne _ _ c, up1_ne _ _ c]
    obtain ⟨n1, n2, n3⟩ := e9 j i hj hi40 c
    obtain ⟨s1, s2, s3⟩ := pgL_sm2 f3 k3 n1 n2 n3
    exact pgL_sm k3 (hF _ n1 s1.1 s1.2) (hF _ s2.1 n2 s2.2) (hF _ s3.1 s3.2 n3)
/-- a page whose bounds stay -/
theorem tb0_pageX {i : Nat} {L : List En} (hT : tb0 h t pa n D LO HI X sz) (hi40 : i < 40) (hp : pgL h' (D i) (LO i) (HI i) L) (hF : pgF h h' (D i)) : tb0 h' t pa n D LO HI (up1 X i L) sz := by
  have q := tb0_page hT hi40 hp hF
  rw [up1_id, up1_id] at q
  exact q
theorem tw_X {X' : Nat → List En} (w : tw n LO HI X) (hX : ∀ i, i < n → up (X' i) ∧ ∀ e, e ∈ X' i → LO i ≤ e.1 ∧ e.1 ≤ HI i) : tw n LO HI X' := by
  obtain ⟨w1, w2, w3, w4, w5, w6⟩ := w
  exact ⟨w1, w2, w3, w4, fun i hi => ⟨(w5 i hi).1, hX i hi⟩, w6⟩
theorem tw_congr {LO' HI' : Nat → Int32} {X' : Nat → List En} (w : tw n LO HI X) (h1 : ∀ i, i < n → LO' i = LO i) (h2 : ∀ i, i < n → HI' i = HI i) (h3 : ∀ i, i < n → X' i = X i) : tw n LO' HI' X' := by
  obtain ⟨w1, w2, w3, w4, w5, w6⟩ := w
  refine ⟨w1, w2, by rw [h1 0 (by omega)]; exact w3, by rw [h2 _ (by omega)]; exact w4, fun i hi => ?_, fun i hi => ?_⟩
  · rw [h1 i hi, h2 i hi, h3 i hi]; exact w5 i hi
  · rw [h1 _ hi, h2 i (by omega)]; exact w6 i hi
theorem rai_mem {L : List En} {a b : Int32} {x : Int64} {e : En} (he : e ∈ raiK L a b x) : ∃ f, f ∈ L ∧ f.1 = e.1 := by
  unfold raiK at he
  obtain ⟨f, hf, rfl⟩ := List.mem_map.mp he
  exact ⟨f, hf, (raiK_1 a b x f).symm⟩
theorem rai_fm (n : Nat) (X : Nat → List En) (a b : Int32) (x : Int64) : raiK (fm n X) a b x = fm n (fun i => raiK (X i) a b x) := fm_map _ _ _
theorem del_fm (n : Nat) (X : Nat → List En) (a b : Int32) : delK (fm n X) a b = fm n (fun i => delK (X i) a b) := fm_filter _ _ _
theorem rai_len (L : List En) (a b : Int32) (x : Int64) : (raiK L a b x).length = L.length := by simp [raiK]
theorem tw_out1 (w : tw n LO HI X) {a b : Int32} {i j : Nat} (hi : i < n) (hl : LO i ≤ a) (hj : j < i) (e : En) (he : e ∈ X j) : e.1 < a ∨ b < e.1 := tw_outA w hi hl e (fm_mem.mpr ⟨j, hj, he⟩)
theorem tw_out2 (w : tw n LO HI X) {a b : Int32} {i j : Nat} (hj : j < n) (hh : b ≤ HI i) (hij : i < j) (e : En) (he : e ∈ X j) : e.1 < a ∨ b < e.1 := by
  have z := ((w.2.2.2.2.1 j hj).2.2 e he).1
  exact Or.inr (i32_le_lt hh (i32_lt_le (tw_lt w hij hj) z))
end TM
section TM2
variable {G : mv_G} {d : Nat} {h : mh_T} {t t2 : Nat} {S S2 : Nat → Prop} {M M2 : List En} {a b key : Int32} {x : Int64} {R : mv_O → mh_T → Prop}
set_option maxHeartbeats 4000000 in
set_option maxRecDepth 100000 in
theorem t_raiseIn (hT : TB h t S M) (hab : a ≤ b) (hR : ∀ h', TB h' t S (raiK M a b x) → SF S h h' → R (.inl none) h') : mv_V G jX1_raiseIn (d + 3) 0 [(0, .ref t), (1, .int a), (2, .int b), (3, .long x)] [] h 0 0 R := by
  obtain ⟨pa, n, D, LO, HI, X, h0, h1, h2, h3, h4⟩ := hT
  have h0' := h0
  obtain ⟨e1, e2, e3, e4, e5, e6, e7, e8, e9⟩ := h0
  have n40 := h1.2.1
  refine v_aload_n (pc := 0) dX1_raiseIn_0 rfl rfl ?_
  refine v_iload_n (pc := 1) dX1_raiseIn_1 rfl rfl ?_
  refine v_callV 0 0 (pc := 2) kX1_28 dX1_raiseIn_2 rfl (by assumption) (Nat.zero_le _) (Nat.zero_le _) (Nat.le_of_ble_eq_true rfl) (Nat.le_of_ble_eq_true rfl) ?_
  refine c_pageOf h0' h1 (fun l hl hl1 hl2 => ?_)
  refine v_istore (pc := 5) dX1_raiseIn_5 rfl rfl (by decide) ?_
  refine v_aload_n (pc := 7) dX1_raiseIn_7 rfl rfl ?_
  refine v_iload_n (pc := 8) dX1_raiseIn_8 rfl rfl ?_
  refine v_callV 0 0 (pc := 9) kX1_28 dX1_raiseIn_9 rfl (by assumption) (Nat.zero_le _) (Nat.zero_le _) (Nat.le_of_ble_eq_true rfl) (Nat.le_of_ble_eq_true rfl) ?_
  refine c_pageOf h0' h1 (fun i0 hi hi1 hi2 => ?_)
  refine v_istore (pc := 12) dX1_raiseIn_12 rfl rfl (by decide) ?_
  have hil := tw_le h1 hi hi1 hl2 hab
  clear e1 e2 e4 e5 e6 e7 e8 e9
  have loop : ∀ m i hc, i + m = l + 1 → tb0 hc t pa n D LO HI (upto (fun j => raiK (X j) a b x) X i) M.length → SF S h hc → mv_V G jX1_raiseIn (d + 3) 14 [(0, .ref t), (1, .int a), (2, .int b), (3, .long x), (5, .int (nI l)), (6, .int (nI i))] [] hc 0 0 R := by
    intro m
    induction m with
    | zero =>
      intro i hc hm hB hF
      have ei : i = l + 1 := by omega
      subst ei
      refine v_iload (pc := 14) dX1_raiseIn_14 rfl ?_
      refine v_iload (pc := 16) dX1_raiseIn_16 rfl ?_
      refine v_icmp_gt 40 (pc := 18) dX1_raiseIn_18 (by decide) (fun hb => ?_) (fun hb => ?_)
      · refine v_vret (pc := 40) dX1_raiseIn_40 rfl ?_
        refine hR _ ⟨pa, n, D, LO, HI, upto (fun j => raiK (X j) a b x) X (l + 1), ?_, ?_, h2, ?_, ?_⟩ hF
        · rw [rai_len]; exact hB
        · refine tw_X h1 (fun i hi => ?_)
          obtain ⟨_, w1, w2⟩ := h1.2.2.2.2.1 i hi
          unfold upto
          split
          · refine ⟨up_rai w1 _ _ _, fun e he => ?_⟩
            obtain ⟨f, hf, hq⟩ := rai_mem he
            rw [← hq]; exact w2 f hf
          · exact ⟨w1, w2⟩
        · rw [← h3, rai_fm]
          refine fm_congr (fun j hj => ?_)
          rcases Nat.lt_or_ge j (l + 1) with z | z
          · rw [upto_lt _ _ z]
          · rw [upto_ge _ _ z, rai_no (tw_out2 h1 hj hl2 (by omega))]
        · rw [rai_len]; exact h4
      · exact absurd ((nI_ltI (by omega) (by omega)).mpr (by omega)) hb
    | succ m ih =>
      intro i hc hm hB hF
      have hB' := hB
      obtain ⟨e1, e2, e3, e4, e5, e6, e7, e8, e9⟩ := hB
      obtain ⟨f1, f2, f3⟩ := e8 i (by omega)
      have f4 := f3.1.1
      refine v_iload (pc := 14) dX1_raiseIn_14 rfl ?_
      refine v_iload (pc := 16) dX1_raiseIn_16 rfl ?_
      refine v_icmp_gt 40 (pc := 18) dX1_raiseIn_18 (by decide) (fun hb => ?_) (fun hb => ?_)
      · have := (nI_ltI (by omega) (by omega)).mp hb
        omega
      · refine v_aload_n (pc := 21) dX1_raiseIn_21 rfl rfl ?_
        refine g_R 100 2 (pc := 22) fX1_11 dX1_raiseIn_22 rfl rfl (by assumption) (by assumption) (by assumption) ?_
        refine v_iload (pc := 25) dX1_raiseIn_25 rfl ?_
        refine n_aald55 (i) _ (pc := 27) dX1_raiseIn_27 (by assumption) (by assumption) rfl (by omega) (by decide) f1 (by assumption) ?_
        refine v_iload_n (pc := 28) dX1_raiseIn_28 rfl rfl ?_
        refine v_iload_n (pc := 29) dX1_raiseIn_29 rfl rfl ?_
        refine v_lload_n (pc := 30) dX1_raiseIn_30 rfl rfl ?_
        refine v_callV 0 0 (pc := 31) kX1_76 dX1_raiseIn_31 rfl (by assumption) (Nat.zero_le _) (Nat.zero_le _) (Nat.le_of_ble_eq_true rfl) (Nat.le_of_ble_eq_true rfl) ?_
        rw [upto_ge _ _ (Nat.le_refl i)] at f3
        refine gl_raise f3 (h1.2.2.2.2.1 i (by omega)).2.1 (fun h' g1 g2 => ?_)
        refine v_iinc (pc := 34) dX1_raiseIn_34 rfl (mv_inc _) rfl rfl (by decide) ?_
        refine v_goto 14 (pc := 37) dX1_raiseIn_37 (by decide) ?_
        refine ih (i + 1) h' (by omega) ?_ (SF_tr hF (SF_pg h2 (by omega) g2))
        have z := tb0_pageX hB' (by omega) g1 g2
        rw [upto_succ] at z
        exact z
  refine loop (l + 1 - i0) i0 h (by omega) ?_ (SF_rf S h)
  have e : upto (fun j => raiK (X j) a b x) X i0 = X := funext fun j => by
    unfold upto
    split
    · exact rai_no (tw_out1 h1 hi hi1 (by omega))
    · rfl
  rw [e]; exact h0'
theorem fm_len_at (n i : Nat) (X : Nat → List En) (hi : i < n) (L : List En) : (fm n (up1 X i L)).length + (X i).length = (fm n X).length + L.length := by
  rw [fm_at X hi, fm_at (up1 X i L) hi, up1_eq]
  have e1 : fm i (up1 X i L) = fm i X := fm_congr (fun j hj => up1_ne _ _ (by omega))
  have e2 : fm (n - (i + 1)) (fun j => up1 X i L (i + 1 + j)) = fm (n - (i + 1)) (fun j => X (i + 1 + j)) := fm_congr (fun j hj => up1_ne _ _ (by omega))
  rw [e1, e2]
  simp only [List.length_append]
  omega
set_option maxHeartbeats 4000000 in
set_option maxRecDepth 100000 in
theorem t_removeIn (hT : TB h t S M) (hab : a ≤ b) (hR : ∀ h', TB h' t S (delK M a b) → SF S h h' → R (.inl none) h') : mv_V G jX1_removeIn (d + 4) 0 [(0, .ref t), (1, .int a), (2, .int b)] [] h 0 0 R := by
  obtain ⟨pa, n, D, LO, HI, X, h0, h1, h2, h3, h4⟩ := hT
  have h0' := h0
  obtain ⟨e1, e2, e3, e4, e5, e6, e7, e8, e9⟩ := h0
  have n40 := h1.2.1
  refine v_aload_n (pc := 0) dX1_removeIn_0 rfl rfl ?_
  refine v_iload_n (pc := 1) dX1_removeIn_1 rfl rfl ?_
  refine v_callV 0 0 (pc := 2) kX1_28 dX1_removeIn_2 rfl (by assumption) (Nat.zero_le _) (Nat.zero_le _) (Nat.le_of_ble_eq_true rfl) (Nat.le_of_ble_eq_true rfl) ?_
  refine c_pageOf h0' h1 (fun l hl hl1 hl2 => ?_)
  refine v_istore_n (pc := 5) dX1_removeIn_5 rfl rfl rfl (by decide) ?_
  refine v_aload_n (pc := 6) dX1_removeIn_6 rfl rfl ?_
  refine v_iload_n (pc := 7) dX1_removeIn_7 rfl rfl ?_
  refine v_callV 0 0 (pc := 8) kX1_28 dX1_removeIn_8 rfl (by assumption) (Nat.zero_le _) (Nat.zero_le _) (Nat.le_of_ble_eq_true rfl) (Nat.le_of_ble_eq_true rfl) ?_
  refine c_pageOf h0' h1 (fun i0 hi hi1 hi2 => ?_)
  refine v_istore (pc := 11) dX1_removeIn_11 rfl rfl (by decide) ?_
  have hil := tw_le h1 hi hi1 hl2 hab
  clear e1 e2 e4 e5 e6 e7 e8 e9
  have loop : ∀ m i hc, i + m = l + 1 → tb0 hc t pa n D LO HI (upto (fun j => delK (X j) a b) X i) (fm n (upto (fun j => delK (X j) a b) X i)).length → SF S h hc → mv_V G jX1_removeIn (d + 4) 13 [(0, .ref t), (1, .int a), (2, .int b), (3, .int (nI l)), (4, .int (nI i))] [] hc 0 0 R := by
    intro m
    induction m with
    | zero =>
      intro i hc hm hB hF
      have ei : i = l + 1 := by omega
      subst ei
      refine v_iload (pc := 13) dX1_removeIn_13 rfl ?_
      refine v_iload_n (pc := 15) dX1_removeIn_15 rfl rfl ?_
      refine v_icmp_gt 58 (pc := 16) dX1_removeIn_16 (by decide) (fun hb => ?_) (fun hb => ?_)
      · refine v_vret (pc := 58) dX1_removeIn_58 rfl ?_
        have ef : fm n (upto (fun j => delK (X j) a b) X (l + 1)) = delK M a b := by
          rw [← h3, del_fm]
          refine fm_congr (fun j hj => ?_)
          rcases Nat.lt_or_ge j (l + 1) with z | z
          · rw [upto_lt _ _ z]
          · rw [upto_ge _ _ z, del_no (tw_out2 h1 hj hl2 (by omega))]
        rw [ef] at hB
        refine hR _ ⟨pa, n, D, LO, HI, _, hB, ?_, h2, ef, ?_⟩ hF
        · refine tw_X h1 (fun i hi => ?_)
          obtain ⟨_, w1, w2⟩ := h1.2.2.2.2.1 i hi
          unfold upto
          split
          · exact ⟨up_del w1 _ _, fun e he => w2 e (List.mem_filter.mp he).1⟩
          · exact ⟨w1, w2⟩
        · have := del_len M a b
          omega
      · exact absurd ((nI_ltI (by omega) (by omega)).mpr (by omega)) hb
    | succ m ih =>
      intro i hc hm hB hF
      have hB' := hB
      obtain ⟨e1, e2, e3, e4, e5, e6, e7, e8, e9⟩ := hB
      obtain ⟨f1, f2, f3⟩ := e8 i (by omega)
      have f4 := f3.1.1
      have hu := (h1.2.2.2.2.1 i (by omega)).2.1
      refine v_iload (pc := 13) dX1_removeIn_13 rfl ?_
      refine v_iload_n (pc := 15) dX1_removeIn_15 rfl rfl ?_
      refine v_icmp_gt 58 (pc := 16) dX1_removeIn_16 (by decide) (fun hb => ?_) (fun hb => ?_)
      · have := (nI_ltI (by omega) (by omega)).mp hb
        omega
      · refine v_aload_n (pc := 19) dX1_removeIn_19 rfl rfl ?_
        refine v_dup (pc := 20) dX1_removeIn_20 rfl ?_
        refine g_I 102 2 (pc := 21) fX1_22 dX1_removeIn_21 rfl rfl (by assumption) (by assumption) ?_
        refine v_aload_n (pc := 24) dX1_removeIn_24 rfl rfl ?_
        refine g_R 100 2 (pc := 25) fX1_11 dX1_removeIn_25 rfl rfl (by assumption) (by assumption) (by assumption) ?_
        refine v_iload (pc := 28) dX1_removeIn_28 rfl ?_
        refine n_aald55 (i) _ (pc := 30) dX1_removeIn_30 (by assumption) (by assumption) rfl (by omega) (by decide) f1 (by assumption) ?_
        refine v_iload_n (pc := 31) dX1_removeIn_31 rfl rfl ?_
        refine v_iload_n (pc := 32) dX1_removeIn_32 rfl rfl ?_
        refine v_callV 0 0 (pc := 33) kX1_68 dX1_removeIn_33 rfl (by assumption) (Nat.zero_le _) (Nat.zero_le _) (Nat.le_of_ble_eq_true rfl) (Nat.le_of_ble_eq_true rfl) ?_
        rw [upto_ge _ _ (Nat.le_refl i)] at f3
        refine gl_count f3 hu hab ?_
        have hlen := fm_len_at n i (upto (fun j => delK (X j) a b) X i) (by omega) (delK (X i) a b)
        rw [upto_ge _ _ (Nat.le_refl i)] at hlen
        have hdl := del_len (X i) a b
        have hsu := upto_succ (fun j => delK (X j) a b) X i
        rw [hsu] at hlen
        refine v_isub (pc := 36) dX1_removeIn_36 ?_
        refine v_eqi (y := nI (fm n (upto (fun j => delK (X j) a b) X (i + 1))).length) ?_ ?_
        · rw [pk_sub (by omega)]
          congr 1; omega
        refine p_I 102 2 (pc := 37) fX1_22 dX1_removeIn_37 rfl rfl (by assumption) ?_
        have hC := tb0_size (sz' := (fm n (upto (fun j => delK (X j) a b) X (i + 1))).length) hB'
        have hC' := hC
        have hFs : SF S h (mh_sfI hc 102 t (nI (fm n (upto (fun j => delK (X j) a b) X (i + 1))).length)) := SF_tr hF (SF_sfI h2.1)
        generalize mh_sfI hc 102 t (nI (fm n (upto (fun j => delK (X j) a b) X (i + 1))).length) = hd at *
        clear e1 e2 e4 e5 e6 e7 e8 f1 f2 f3 f4
        obtain ⟨e1, e2, e3, e4, e5, e6, e7, e8, e9⟩ := hC
        obtain ⟨f1, f2, f3⟩ := e8 i (by omega)
        have f4 := f3.1.1
        refine v_aload_n (pc := 40) dX1_removeIn_40 rfl rfl ?_
        refine g_R 100 2 (pc := 41) fX1_11 dX1_removeIn_41 rfl rfl (by assumption) (by assumption) (by assumption) ?_
        refine v_iload (pc := 44) dX1_removeIn_44 rfl ?_
        refine n_aald55 (i) _ (pc := 46) dX1_removeIn_46 (by assumption) (by assumption) rfl (by omega) (by decide) f1 (by assumption) ?_
        refine v_iload_n (pc := 47) dX1_removeIn_47 rfl rfl ?_
        refine v_iload_n (pc := 48) dX1_removeIn_48 rfl rfl ?_
        refine v_callV 0 0 (pc := 49) kX1_72 dX1_removeIn_49 rfl (by assumption) (Nat.zero_le _) (Nat.zero_le _) (Nat.le_of_ble_eq_true rfl) (Nat.le_of_ble_eq_true rfl) ?_
        rw [upto_ge _ _ (Nat.le_refl i)] at f3
        refine gl_remove f3 hu hab (fun h' g1 g2 => ?_)
        refine v_iinc (pc := 52) dX1_removeIn_52 rfl (mv_inc _) rfl rfl (by decide) ?_
        refine v_goto 13 (pc := 55) dX1_removeIn_55 (by decide) ?_
        refine ih (i + 1) h' (by omega) ?_ (SF_tr hFs (SF_pg h2 (by omega) g2))
        have z := tb0_pageX hC' (by omega) g1 g2
        rw [upto_succ] at z
        exact z
  have e : upto (fun j => delK (X j) a b) X i0 = X := funext fun j => by
    unfold upto
    split
    · exact del_no (tw_out1 h1 hi hi1 (by omega))
    · rfl
  refine loop (l + 1 - i0) i0 h (by omega) ?_ (SF_rf S h)
  rw [e, h3]; exact h0'
set_option maxHeartbeats 4000000 in
set_option maxRecDepth 100000 in
theorem t_pushAll (hT : TB h t S M) (hR : ∀ h', TB h' t S M → SF S h h' → R (.inl none) h') : mv_V G jX1_pushAllDown (d + 1) 0 [(0, .ref t)] [] h 0 0 R := by
  obtain ⟨pa, n, D, LO, HI, X, h0, h1, h2, h3, h4⟩ := hT
  have n40 := h1.2.1
  have loop : ∀ m i hc, i + m = n → tb0 hc t pa n D LO HI X M.length → SF S h hc → mv_V G jX1_pushAllDown (d + 1) 2 [(0, .ref t), (1, .int (nI i))] [] hc 0 0 R := by
    intro m
    induction m with
    | zero =>
      intro i hc hm hB hF
      have hB' := hB
      obtain ⟨e1, e2, e3, e4, e5, e6, e7, e8, e9⟩ := hB
      refine v_iload_n (pc := 2) dX1_pushAllDown_2 rfl rfl ?_
      refine v_aload_n (pc := 3) dX1_pushAllDown_3 rfl rfl ?_
      refine g_I 101 2 (pc := 4) fX1_18 dX1_pushAllDown_4 rfl rfl (by assumption) (by assumption) ?_
      refine v_icmp_ge 25 (pc := 7) dX1_pushAllDown_7 (by decide) (fun hb => ?_) (fun hb => ?_)
      · refine v_vret (pc := 25) dX1_pushAllDown_25 rfl ?_
        exact hR _ ⟨pa, n, D, LO, HI, X, hB', h1, h2, h3, h4⟩ hF
      · exact absurd ((nI_leI (by omega) (by omega)).mpr (by omega)) hb
    | succ m ih =>
      intro i hc hm hB hF
      have hB' := hB
      obtain ⟨e1, e2, e3, e4, e5, e6, e7, e8, e9⟩ := hB
      obtain ⟨f1, f2, f3⟩ := e8 i (by omega)
      have f4 := f3.1.1
      refine v_iload_n (pc := 2) dX1_pushAllDown_2 rfl rfl ?_
      refine v_aload_n (pc := 3) dX1_pushAllDown_3 rfl rfl ?_
      refine g_I 101 2 (pc := 4) fX1_18 dX1_pushAllDown_4 rfl rfl (by assumption) (by assumption) ?_
      refine v_icmp_ge 25 (pc := 7) dX1_pushAllDown_7 (by decide) (fun hb => ?_) (fun hb => ?_)
      · have := (nI_leI (by omega) (by omega)).mp hb
        omega
      · refine v_aload_n (pc := 10) dX1_pushAllDown_10 rfl rfl ?_
        refine g_R 100 2 (pc := 11) fX1_11 dX1_pushAllDown_11 rfl rfl (by assumption) (by assumption) (by assumption) ?_
        refine v_iload_n (pc := 14) dX1_pushAllDown_14 rfl rfl ?_
        refine n_aald55 (i) _ (pc := 15) dX1_pushAllDown_15 (by assumption) (by assumption) rfl (by omega) (by decide) f1 (by assumption) ?_
        refine v_callV 0 0 (pc := 16) kX1_94 dX1_pushAllDown_16 rfl (by assumption) (Nat.zero_le _) (Nat.zero_le _) (Nat.le_of_ble_eq_true rfl) (Nat.le_of_ble_eq_true rfl) ?_
        refine gl_push f3 (fun h' g1 g2 => ?_)
        refine v_iinc (pc := 19) dX1_pushAllDown_19 rfl (mv_inc _) rfl rfl (by decide) ?_
        refine v_goto 2 (pc := 22) dX1_pushAllDown_22 (by decide) ?_
        refine ih (i + 1) h' (by omega) ?_ (SF_tr hF (SF_pg h2 (by omega) g2))
        have z := tb0_pageX hB' (by omega) g1 g2
        rw [up1_id] at z
        exact z
  refine v_iconst (pc := 0) (v := 0) dX1_pushAllDown_0 (by decide) ?_
  refine v_istore_n (pc := 1) dX1_pushAllDown_1 rfl rfl rfl (by decide) ?_
  exact loop n 0 h (by omega) h0 (SF_rf S h)
set_option maxHeartbeats 4000000 in
set_option maxRecDepth 100000 in
theorem t_copyFrom (hT : TB h t S M) (hT2 : TB h t2 S2 M2) (hd : ∀ y, S y → ¬ S2 y) (hR : ∀ h', TB h' t S M2 → SF S h h' → R (.inl none) h') : mv_V G jX1_copyFrom (d + 4) 0 [(0, .ref t), (1, .ref t2)] [] h 0 0 R := by
  obtain ⟨pa, n, D, LO, HI, X, h0, h1, h2, h3, h4⟩ := hT
  obtain ⟨pa2, n2, D2, LO2, HI2, X2, i0, i1, i2, i3, i4⟩ := hT2
  have n40 := i1.2.1
  have h0' := h0
  have i0' := i0
  obtain ⟨e1, e2, e3, e4, e5, e6, e7, e8, e9⟩ := h0
  obtain ⟨k1, k2, k3, k4, k5, k6, k7, k8, k9⟩ := i0
  have tt : t2 ≠ t := fun q => hd t h2.1 (q ▸ i2.1)
  have loop : ∀ m i hc, i + m = n2 → tb0 hc t pa n2 D (upto LO2 LO i) (upto HI2 HI i) (upto X2 X i) M2.length → SF S h hc → mv_V G jX1_copyFrom (d + 4) 18 [(0, .ref t), (1, .ref t2), (2, .int (nI i))] [] hc 0 0 R := by
    clear e1 e2 e3 e4 e5 e6 e7 e8 e9 k1 k2 k3 k4 k5 k6 k7 k8 k9
    intro m
    induction m with
    | zero =>
      intro i hc hm hB hF
      have hB' := hB
      obtain ⟨e1, e2, e3, e4, e5, e6, e7, e8, e9⟩ := hB
      have ei : i = n2 := by omega
      subst ei
      refine v_iload_n (pc := 18) dX1_copyFrom_18 rfl rfl ?_
      refine v_aload_n (pc := 19) dX1_copyFrom_19 rfl rfl ?_
      refine g_I 101 2 (pc := 20) fX1_18 dX1_copyFrom_20 rfl rfl (by assumption) (by assumption) ?_
      refine v_icmp_ge 47 (pc := 23) dX1_copyFrom_23 (by decide) (fun hb => ?_) (fun hb => ?_)
      · refine v_vret (pc := 47) dX1_copyFrom_47 rfl ?_
        refine hR _ ⟨pa, i, D, _, _, _, hB', ?_, h2, ?_, i4⟩ hF
        · exact tw_congr i1 (fun j hj => upto_lt _ _ hj) (fun j hj => upto_lt _ _ hj) (fun j hj => upto_lt _ _ hj)
        · rw [← i3]
          exact fm_congr (fun j hj => upto_lt _ _ hj)
      · exact absurd ((nI_leI (by omega) (by omega)).mpr (by omega)) hb
    | succ m ih =>
      intro i hc hm hB hF
      have hB' := hB
      have hB2 : tb0 hc t2 pa2 n2 D2 LO2 HI2 X2 M2.length := tb0_sm i0' i2 (fun a ha => hF a (fun q => hd a q ha))
      obtain ⟨e1, e2, e3, e4, e5, e6, e7, e8, e9⟩ := hB
      obtain ⟨k1, k2, k3, k4, k5, k6, k7, k8, k9⟩ := hB2
      obtain ⟨f1, f2, f3⟩ := e8 i (by omega)
      obtain ⟨g1, g2, g3⟩ := k8 i (by omega)
      have f4 := f3.1.1
      have g4 := g3.1.1
      obtain ⟨s1, s2, s3⟩ := h2.2.2 i (by omega)
      obtain ⟨r1, r2, r3⟩ := i2.2.2 i (by omega)
      refine v_iload_n (pc := 18) dX1_copyFrom_18 rfl rfl ?_
      refine v_aload_n (pc := 19) dX1_copyFrom_19 rfl rfl ?_
      refine g_I 101 2 (pc := 20) fX1_18 dX1_copyFrom_20 rfl rfl (by assumption) (by assumption) ?_
      refine v_icmp_ge 47 (pc := 23) dX1_copyFrom_23 (by decide) (fun hb => ?_) (fun hb => ?_)
      · have := (nI_leI (by omega) (by omega)).mp hb
        omega
      · refine v_aload_n (pc := 26) dX1_copyFrom_26 rfl rfl ?_
        refine g_R 100 2 (pc := 27) fX1_11 dX1_copyFrom_27 rfl rfl (by assumption) (by assumption) (by assumption) ?_
        refine v_iload_n (pc := 30) dX1_copyFrom_30 rfl rfl ?_
        refine n_aald55 (i) _ (pc := 31) dX1_copyFrom_31 (by assumption) (by assumption) rfl (by omega) (by decide) f1 (by assumption) ?_
        refine v_aload_n (pc := 32) dX1_copyFrom_32 rfl rfl ?_
        refine g_R 100 2 (pc := 33) fX1_11 dX1_copyFrom_33 rfl rfl (by assumption) (by assumption) (by assumption) ?_
        refine v_iload_n (pc := 36) dX1_copyFrom_36 rfl rfl ?_
        refine n_aald55 (i) _ (pc := 37) dX1_copyFrom_37 (by assumption) (by assumption) rfl (by omega) (by decide) g1 (by assumption) ?_
        refine v_callV 0 0 (pc := 38) kX1_97 dX1_copyFrom_38 rfl (by assumption) (Nat.zero_le _) (Nat.zero_le _) (Nat.le_of_ble_eq_true rfl) (Nat.le_of_ble_eq_true rfl) ?_
        refine gl_copy f3 g3 (fun q => hd _ s1 (q ▸ r1)) (fun q => hd _ s2 (q ▸ r2)) (fun q => hd _ s3 (q ▸ r3)) (fun h' u1 u2 => ?_)
        refine v_iinc (pc := 41) dX1_copyFrom_41 rfl (mv_inc _) rfl rfl (by decide) ?_
        refine v_goto 18 (pc := 44) dX1_copyFrom_44 (by decide) ?_
        refine ih (i + 1) h' (by omega) ?_ (SF_tr hF (SF_pg h2 (by omega) u2))
        have z := tb0_page hB' (by omega) u1 u2
        rw [upto_succ, upto_succ, upto_succ] at z
        exact z
  refine v_aload_n (pc := 0) dX1_copyFrom_0 rfl rfl ?_
  refine v_aload_n (pc := 1) dX1_copyFrom_1 rfl rfl ?_
  refine g_I 101 2 (pc := 2) fX1_18 dX1_copyFrom_2 rfl rfl (by assumption) (by assumption) ?_
  refine p_I 101 2 (pc := 5) fX1_18 dX1_copyFrom_5 rfl rfl (by assumption) ?_
  have q1 : mh_fI (mh_sfI h 101 t (nI n2)) 102 t2 = nI M2.length := by rw [mh_fI_sfI, if_neg (fun q => tt q.2)]; exact k7
  refine v_aload_n (pc := 8) dX1_copyFrom_8 rfl rfl ?_
  refine v_aload_n (pc := 9) dX1_copyFrom_9 rfl rfl ?_
  refine g_I 102 2 (pc := 10) fX1_22 dX1_copyFrom_10 rfl rfl k1 q1 ?_
  refine p_I 102 2 (pc := 13) fX1_22 dX1_copyFrom_13 rfl rfl (by assumption) ?_
  refine v_iconst (pc := 16) (v := 0) dX1_copyFrom_16 (by decide) ?_
  refine v_istore_n (pc := 17) dX1_copyFrom_17 rfl rfl rfl (by decide) ?_
  refine loop n2 0 _ (by omega) ?_ (SF_tr (SF_sfI h2.1) (SF_sfI h2.1))
  rw [upto_0, upto_0, upto_0]
  exact tb0_size (tb0_count h0')
end TM2
