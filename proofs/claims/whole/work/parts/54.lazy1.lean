/-! LazyPages: what it is; its private calls. -/
theorem ms_136 : (136, "the message is refused") ∈ mv_strs := List.Mem.head _
theorem ms_141 : (141, "from is above to") ∈ mv_strs := List.Mem.tail _ (List.Mem.head _)
theorem ms_139 : (139, "there would be too many messages") ∈ mv_strs := List.Mem.tail _ (List.Mem.tail _ (List.Mem.head _))
theorem ms_79 : (79, "n is not 0 .. 300") ∈ mv_strs := List.Mem.tail _ (List.Mem.tail _ (List.Mem.tail _ (List.Mem.head _)))
theorem ms_145 : (145, "the view is not 0 .. 3") ∈ mv_strs := List.Mem.tail _ (List.Mem.tail _ (List.Mem.tail _ (List.Mem.tail _ (List.Mem.head _))))
theorem ms_151 : (151, "the view is none") ∈ mv_strs := List.Mem.tail _ (List.Mem.tail _ (List.Mem.tail _ (List.Mem.tail _ (List.Mem.tail _ (List.Mem.head _)))))
theorem ms_98 : (98, "there are not so many keys, or k is below 0") ∈ mv_strs := List.Mem.tail _ (List.Mem.tail _ (List.Mem.tail _ (List.Mem.tail _ (List.Mem.tail _ (List.Mem.tail _ (List.Mem.head _))))))
theorem ms_128 : (128, "what is not 0 .. 2") ∈ mv_strs := List.Mem.tail _ (List.Mem.tail _ (List.Mem.tail _ (List.Mem.tail _ (List.Mem.tail _ (List.Mem.tail _ (List.Mem.tail _ (List.Mem.head _)))))))
theorem TB_kd {h : mh_T} {t : Nat} {S : Nat → Prop} {M : List En} (hT : TB h t S M) : mh_kd h t = 2 := by
  obtain ⟨_, _, _, _, _, _, z, _⟩ := hT
  exact z.1
theorem TB_sz {h : mh_T} {t : Nat} {S : Nat → Prop} {M : List En} (hT : TB h t S M) : mh_fI h 102 t = nI M.length := by
  obtain ⟨_, _, _, _, _, _, z, _⟩ := hT
  exact z.2.2.2.2.2.2.1
theorem TB_len {h : mh_T} {t : Nat} {S : Nat → Prop} {M : List En} (hT : TB h t S M) : M.length ≤ 600 := by
  obtain ⟨_, _, _, _, _, _, _, _, _, _, z⟩ := hT
  exact z
theorem mh_sm_saI {h : mh_T} {sa i a : Nat} {x : Int32} (ha : a ≠ sa) : mh_sm h (mh_saI h sa i x) a := by
  refine ⟨rfl, rfl, fun _ => rfl, fun _ => rfl, fun _ => rfl, fun j => ?_, fun _ => rfl, fun _ => rfl⟩
  rw [mh_aI_saI, if_neg (fun q => ha q.1)]
/-- the object x with all its cells in S: tables 0 .. 3 the views, 4 the map, 5 what was kept -/
def LPx (h : mh_T) (x : Nat) (S : Nat → Prop) (vs sa : Nat) (T : Nat → Nat) (SS : Nat → Nat → Prop) (V : Nat → List En) (sv : Nat → Bool) (nm nk : Nat) : Prop :=
  (mh_kd h x = 3 ∧ mh_fR h 200 x = T 4 ∧ mh_fR h 201 x = T 5 ∧ mh_fR h 202 x = vs ∧ mh_fR h 203 x = sa ∧ vs ≠ 0 ∧ sa ≠ 0 ∧ mh_kd h vs = 54 ∧ mh_ln h vs = 4 ∧ mh_kd h sa = 52 ∧ mh_ln h sa = 4 ∧ mh_fI h 204 x = nI nm ∧ mh_fI h 205 x = nI nk) ∧ (∀ i, i < 4 → mh_aR h vs i = T i ∧ mh_aI h sa i = (if sv i = true then 1 else 0)) ∧ (∀ i, i < 6 → T i ≠ 0 ∧ TB h (T i) (SS i) (V i) ∧ ∀ a, SS i a → S a ∧ a ≠ x ∧ a ≠ vs ∧ a ≠ sa) ∧ (∀ i j, i < 6 → j < 6 → i ≠ j → ∀ a, SS i a → ¬ SS j a) ∧ (S x ∧ S vs ∧ S sa) ∧ nk ≤ nm ∧ nm ≤ 2500
section LPL
variable {h h' : mh_T} {x : Nat} {S : Nat → Prop} {vs sa : Nat} {T : Nat → Nat} {SS : Nat → Nat → Prop} {V : Nat → List En} {sv : Nat → Bool} {nm nk : Nat}
theorem LPx_sm (hL : LPx h x S vs sa T SS V sv nm nk) (hs : ∀ a, S a → mh_sm h h' a) : LPx h' x S vs sa T SS V sv nm nk := by
  obtain ⟨⟨e1, e2, e3, e4, e5, e6, e7, e8, e9, e10, e11, e12, e13⟩, f1, f2, f3, ⟨s1, s2, s3⟩, f5⟩ := hL
  obtain ⟨a1, a2, a3, a4, a5, a6, a7, a8⟩ := hs x s1
  obtain ⟨b1, b2, b3, b4, b5, b6, b7, b8⟩ := hs vs s2
  obtain ⟨c1, c2, c3, c4, c5, c6, c7, c8⟩ := hs sa s3
  refine ⟨⟨a1.trans e1, (a5 200).trans e2, (a5 201).trans e3, (a5 202).trans e4, (a5 203).trans e5, e6, e7, b1.trans e8, b2.trans e9, c1.trans e10, c2.trans e11, (a3 204).trans e12, (a3 205).trans e13⟩, fun i hi => ⟨(b8 i).trans (f1 i hi).1, (c6 i).trans (f1 i hi).2⟩, fun i hi => ?_, f3, ⟨s1, s2, s3⟩, f5⟩
  obtain ⟨g1, g2, g3⟩ := f2 i hi
  exact ⟨g1, TB_sm g2 (fun a ha => hs a (g3 a ha).1), g3⟩
theorem LP_tab {i : Nat} {L : List En} (hL : LPx h x S vs sa T SS V sv nm nk) (hi : i < 6) (hT : TB h' (T i) (SS i) L) (hF : SF (SS i) h h') : LPx h' x S vs sa T SS (up1 V i L) sv nm nk ∧ SF S h h' := by
  obtain ⟨⟨e1, e2, e3, e4, e5, e6, e7, e8, e9, e10, e11, e12, e13⟩, f1, f2, f3, f4, f5⟩ := hL
  have g := (f2 i hi).2.2
  obtain ⟨a1, a2, a3, a4, a5, a6, a7, a8⟩ := hF x (fun q => (g x q).2.1 rfl)
  obtain ⟨b1, b2, b3, b4, b5, b6, b7, b8⟩ := hF vs (fun q => (g vs q).2.2.1 rfl)
  obtain ⟨c1, c2, c3, c4, c5, c6, c7, c8⟩ := hF sa (fun q => (g sa q).2.2.2 rfl)
  refine ⟨⟨⟨a1.trans e1, (a5 200).trans e2, (a5 201).trans e3, (a5 202).trans e4, (a5 203).trans e5, e6, e7, b1.trans e8, b2.trans e9, c1.trans e10, c2.trans e11, (a3 204).trans e12, (a3 205).trans e13⟩, fun j hj => ⟨(b8 j).trans (f1 j hj).1, (c6 j).trans (f1 j hj).2⟩, fun j hj => ?_, f3, f4, f5⟩, fun a ha => hF a (fun q => ha (g a q).1)⟩
  obtain ⟨g1, g2, g3⟩ := f2 j hj
  refine ⟨g1, ?_, g3⟩
  by_cases c : j = i
  · subst c
    rw [up1_eq]; exact hT
  · rw [up1_ne _ _ c]
    exact TB_sm g2 (fun a ha => hF a (f3 j i hj hi c a ha))
theorem LP_msg {n' : Nat} (hL : LPx h x S vs sa T SS V sv nm nk) (h1 : nk ≤ n') (h2 : n' ≤ 2500) : LPx (mh_sfI h 204 x (nI n')) x S vs sa T SS V sv n' nk ∧ SF S h (mh_sfI h 204 x (nI n')) := by
  obtain ⟨⟨e1, e2, e3, e4, e5, e6, e7, e8, e9, e10, e11, e12, e13⟩, f1, f2, f3, f4, f5⟩ := hL
  refine ⟨⟨⟨e1, e2, e3, e4, e5, e6, e7, e8, e9, e10, e11, ?_, ?_⟩, f1, fun j hj => ?_, f3, f4, h1, h2⟩, SF_sfI f4.1⟩
  · rw [mh_fI_sfI, if_pos ⟨rfl, rfl⟩]
  · rw [mh_fI_sfI, if_neg (fun q => absurd q.1 (by decide))]; exact e13
  · obtain ⟨g1, g2, g3⟩ := f2 j hj
    exact ⟨g1, TB_sm g2 (fun a ha => mh_sm_sfI (g3 a ha).2.1), g3⟩
theorem LP_kpt {n' : Nat} (hL : LPx h x S vs sa T SS V sv nm nk) (h1 : n' ≤ nm) : LPx (mh_sfI h 205 x (nI n')) x S vs sa T SS V sv nm n' ∧ SF S h (mh_sfI h 205 x (nI n')) := by
  obtain ⟨⟨e1, e2, e3, e4, e5, e6, e7, e8, e9, e10, e11, e12, e13⟩, f1, f2, f3, f4, f5, f6⟩ := hL
  refine ⟨⟨⟨e1, e2, e3, e4, e5, e6, e7, e8, e9, e10, e11, ?_, ?_⟩, f1, fun j hj => ?_, f3, f4, h1, f6⟩, SF_sfI f4.1⟩
  · rw [mh_fI_sfI, if_neg (fun q => absurd q.1 (by decide))]; exact e12
  · rw [mh_fI_sfI, if_pos ⟨rfl, rfl⟩]
  · obtain ⟨g1, g2, g3⟩ := f2 j hj
    exact ⟨g1, TB_sm g2 (fun a ha => mh_sm_sfI (g3 a ha).2.1), g3⟩
theorem LP_sav {i : Nat} {b : Bool} (hL : LPx h x S vs sa T SS V sv nm nk) (hi : i < 4) : LPx (mh_saI h sa i (if b = true then 1 else 0)) x S vs sa T SS V (up1 sv i b) nm nk ∧ SF S h (mh_saI h sa i (if b = true then 1 else 0)) := by
  obtain ⟨⟨e1, e2, e3, e4, e5, e6, e7, e8, e9, e10, e11, e12, e13⟩, f1, f2, f3, f4, f5⟩ := hL
  refine ⟨⟨⟨e1, e2, e3, e4, e5, e6, e7, e8, e9, e10, e11, e12, e13⟩, fun j hj => ⟨(f1 j hj).1, ?_⟩, fun j hj => ?_, f3, f4, f5⟩, fun a ha => mh_sm_saI (fun q => ha (q ▸ f4.2.2))⟩
  · rw [mh_aI_saI]
    by_cases c : j = i
    · rw [if_pos ⟨rfl, c⟩, c, up1_eq]
    · rw [if_neg (fun q => c q.2), up1_ne _ _ c]; exact (f1 j hj).2
  · obtain ⟨g1, g2, g3⟩ := f2 j hj
    exact ⟨g1, TB_sm g2 (fun a ha => mh_sm_saI (g3 a ha).2.2.2), g3⟩
end LPL
/-- a message to this key is taken -/
def okA (nm : Nat) (M : List En) (key : Int32) : Prop := nm < 2500 ∧ (M.length < 600 ∨ hasK M key = true)
/-- the view's number v names the table j -/
def isR (v : Int32) (sv : Nat → Bool) (j : Nat) : Prop := (v = -1 ∧ j = 4) ∨ (j < 4 ∧ v = nI j ∧ sv j = true)
theorem nI_m1 {j : Nat} (hj : j < 4) : ¬ nI j = -1 := by
  intro q
  rcases (show j = 0 ∨ j = 1 ∨ j = 2 ∨ j = 3 by omega) with rfl | rfl | rfl | rfl <;> exact absurd q (by decide)
theorem isR_uniq {v : Int32} {sv : Nat → Bool} {i j : Nat} (h1 : isR v sv i) (h2 : isR v sv j) : i = j := by
  rcases h1 with ⟨a1, a2⟩ | ⟨a1, a2, a3⟩
  · rcases h2 with ⟨b1, b2⟩ | ⟨b1, b2, b3⟩
    · omega
    · rw [a1] at b2
      exact absurd b2.symm (nI_m1 b1)
  · rcases h2 with ⟨b1, b2⟩ | ⟨b1, b2, b3⟩
    · rw [a2] at b1
      exact absurd b1 (nI_m1 a1)
    · rw [a2] at b2
      exact (nI_eq (by omega) (by omega)).mp b2
theorem isR_lt {v : Int32} {sv : Nat → Bool} {j : Nat} (h : isR v sv j) : j < 5 := by
  rcases h with ⟨_, h⟩ | ⟨h, _⟩ <;> omega
theorem vw_ix {v : Int32} (h1 : ¬ v < 0) (h2 : v < 4) : ∃ j, j < 4 ∧ v = nI j := by
  refine ⟨v.toNatClampNeg, ?_, ?_⟩
  · have a1 : (0 : Int32).toInt = 0 := by decide
    have a2 : (4 : Int32).toInt = 4 := by decide
    have b1 := Int32.not_lt.mp h1
    have b2 := Int32.le_iff_toInt_le.mp b1
    have b3 := Int32.lt_iff_toInt_lt.mp h2
    rw [a1] at b2
    rw [a2] at b3
    have : v.toNatClampNeg = v.toInt.toNat := rfl
    omega
  · have a1 : (0 : Int32).toInt = 0 := by decide
    have b1 := Int32.not_lt.mp h1
    have b2 := Int32.le_iff_toInt_le.mp b1
    rw [a1] at b2
    unfold nI
    have z : v.toNatClampNeg = v.toInt.toNat := rfl
    refine Int32.toInt_inj.mp ?_
    rw [z]
    have hv := Int32.toInt_lt v
    rw [Int32.toInt_ofNat_of_lt (by omega)]
    omega
theorem nI_vw {j : Nat} (hj : j < 4) : ¬ nI j < 0 ∧ nI j < 4 := by
  rcases (show j = 0 ∨ j = 1 ∨ j = 2 ∨ j = 3 by omega) with rfl | rfl | rfl | rfl <;> exact ⟨by decide, by decide⟩
section LPP
variable {G : mv_G} {d : Nat} {h : mh_T} {x : Nat} {S : Nat → Prop} {vs sa : Nat} {T : Nat → Nat} {SS : Nat → Nat → Prop} {V : Nat → List En} {sv : Nat → Bool} {nm nk : Nat} {key v a b : Int32} {y : Int64} {R : mv_O → mh_T → Prop}
set_option maxHeartbeats 4000000 in
set_option maxRecDepth 100000 in
theorem p_accepts (hL : LPx h x S vs sa T SS V sv nm nk) (h1 : okA nm (V 4) key → R (.inl (some (.int 1))) h) (h0 : ¬ okA nm (V 4) key → R (.inl (some (.int 0))) h) : mv_V G jX2_accepts (d + 2) 0 [(0, .ref x), (1, .int key)] [] h 0 0 R := by
  obtain ⟨⟨e1, e2, e3, e4, e5, e6, e7, e8, e9, e10, e11, e12, e13⟩, f1, f2, f3, f4, f5, f6⟩ := hL
  obtain ⟨g1, g2, g3⟩ := f2 4 (by omega)
  have k1 := TB_kd g2
  have k2 := TB_sz g2
  have k3 := TB_len g2
  refine v_aload_n (pc := 0) dX2_accepts_0 rfl rfl ?_
  refine g_I 204 3 (pc := 1) fX2_27 dX2_accepts_1 rfl rfl (by assumption) (by assumption) ?_
  refine v_sipush (pc := 4) (v := 2500) dX2_accepts_4 (by decide) ?_
  refine v_icmp_ge 38 (pc := 7) dX2_accepts_7 (by decide) (fun hb => ?_) (fun hb => ?_)
  · have z := (nI_leI (a := 2500) (by omega) (by omega)).mp hb
    refine v_iconst (pc := 38) (v := 0) dX2_accepts_38 (by decide) ?_
    refine v_zret (pc := 39) dX2_accepts_39 rfl rfl ?_
    exact h0 (fun q => by have := q.1; omega)
  · have z : nm < 2500 := by
      rcases Nat.lt_or_ge nm 2500 with z | z
      · exact z
      · exact absurd ((nI_leI (a := 2500) (by omega) (by omega)).mpr z) hb
    refine v_aload_n (pc := 10) dX2_accepts_10 rfl rfl ?_
    refine g_R 200 3 (pc := 11) fX2_10 dX2_accepts_11 rfl rfl (by assumption) (by assumption) (by assumption) ?_
    refine g_I 102 2 (pc := 14) fX2_63 dX2_accepts_14 rfl rfl (by assumption) (by assumption) ?_
    refine v_sipush (pc := 17) (v := 600) dX2_accepts_17 (by decide) ?_
    refine v_icmp_lt 34 (pc := 20) dX2_accepts_20 (by decide) (fun hb => ?_) (fun hb => ?_)
    · have z2 := (nI_ltI (b := 600) (by omega) (by omega)).mp hb
      refine v_iconst (pc := 34) (v := 1) dX2_accepts_34 (by decide) ?_
      refine v_goto 39 (pc := 35) dX2_accepts_35 (by decide) ?_
      refine v_zret (pc := 39) dX2_accepts_39 rfl rfl ?_
      exact h1 ⟨z, Or.inl z2⟩
    · have z2 : ¬ (V 4).length < 600 := fun q => hb ((nI_ltI (b := 600) (by omega) (by omega)).mpr q)
      refine v_aload_n (pc := 23) dX2_accepts_23 rfl rfl ?_
      refine g_R 200 3 (pc := 24) fX2_10 dX2_accepts_24 rfl rfl (by assumption) (by assumption) (by assumption) ?_
      refine v_iload_n (pc := 27) dX2_accepts_27 rfl rfl ?_
      refine v_callV 0 0 (pc := 28) kX2_46 dX2_accepts_28 rfl (by assumption) (Nat.zero_le _) (Nat.zero_le _) (Nat.le_of_ble_eq_true rfl) (Nat.le_of_ble_eq_true rfl) ?_
      refine t_holds g2 ?_
      by_cases c : hasK (V 4) key = true
      · rw [if_pos c]
        refine v_if_eq 38 (pc := 31) dX2_accepts_31 (by decide) (fun hb => ?_) (fun hb => ?_)
        · exact absurd hb (by decide)
        · refine v_iconst (pc := 34) (v := 1) dX2_accepts_34 (by decide) ?_
          refine v_goto 39 (pc := 35) dX2_accepts_35 (by decide) ?_
          refine v_zret (pc := 39) dX2_accepts_39 rfl rfl ?_
          exact h1 ⟨z, Or.inr c⟩
      · rw [if_neg c]
        refine v_if_eq 38 (pc := 31) dX2_accepts_31 (by decide) (fun hb => ?_) (fun hb => ?_)
        · refine v_iconst (pc := 38) (v := 0) dX2_accepts_38 (by decide) ?_
          refine v_zret (pc := 39) dX2_accepts_39 rfl rfl ?_
          exact h0 (fun q => by
            rcases q.2 with q | q
            · exact z2 q
            · exact c q)
        · exact absurd rfl hb
set_option maxHeartbeats 4000000 in
set_option maxRecDepth 100000 in
theorem p_reqAcc (hL : LPx h x S vs sa T SS V sv nm nk) (h1 : okA nm (V 4) key → R (.inl none) h) (h0 : ¬ okA nm (V 4) key → R (.inr 0) h) : mv_V G jX2_requireAccepted (d + 6) 0 [(0, .ref x), (1, .int key)] [] h 1 6 R := by
  have e1 := hL.1.1
  refine v_aload_n (pc := 0) dX2_requireAccepted_0 rfl rfl ?_
  refine v_iload_n (pc := 1) dX2_requireAccepted_1 rfl rfl ?_
  refine v_callV 0 0 (pc := 2) kX2_84 dX2_requireAccepted_2 rfl (by assumption) (Nat.zero_le _) (Nat.zero_le _) (Nat.le_of_ble_eq_true rfl) (Nat.le_of_ble_eq_true rfl) ?_
  refine p_accepts hL (fun c => ?_) (fun c => ?_)
  · refine v_if_ne 18 (pc := 5) dX2_requireAccepted_5 (by decide) (fun hb => ?_) (fun hb => ?_)
    · refine v_vret (pc := 18) dX2_requireAccepted_18 rfl ?_
      exact h1 c
    · exact absurd hb (by decide)
  · refine v_if_ne 18 (pc := 5) dX2_requireAccepted_5 (by decide) (fun hb => ?_) (fun hb => ?_)
    · exact absurd rfl hb
    · refine v_throw (pc := 8) 0 134 136 138 "the message is refused" rfl tw_0 ms_136 dX2_requireAccepted_8 dX2_requireAccepted_11 dX2_requireAccepted_12 dX2_requireAccepted_14 dX2_requireAccepted_17 rfl (Nat.le_of_ble_eq_true rfl) (by omega) (by omega) (by omega) ?_
      exact h0 c
set_option maxHeartbeats 4000000 in
set_option maxRecDepth 100000 in
theorem p_reqRoom {k : Nat} (hL : LPx h x S vs sa T SS V sv nm nk) (hk : k < 10000) (h1 : nm + k ≤ 2500 → R (.inl none) h) (h0 : ¬ nm + k ≤ 2500 → R (.inr 0) h) : mv_V G jX2_requireRoomFor (d + 6) 0 [(0, .ref x), (1, .int (nI k))] [] h 1 6 R := by
  obtain ⟨⟨e1, e2, e3, e4, e5, e6, e7, e8, e9, e10, e11, e12, e13⟩, f1, f2, f3, f4, f5, f6⟩ := hL
  have s1 : (2500 : Int32) - nI nm = nI (2500 - nm) := pk_sub (a := 2500) f6
  refine v_iload_n (pc := 0) dX2_requireRoomFor_0 rfl rfl ?_
  refine v_sipush (pc := 1) (v := 2500) dX2_requireRoomFor_1 (by decide) ?_
  refine v_aload_n (pc := 4) dX2_requireRoomFor_4 rfl rfl ?_
  refine g_I 204 3 (pc := 5) fX2_27 dX2_requireRoomFor_5 rfl rfl (by assumption) (by assumption) ?_
  refine v_isub (pc := 8) dX2_requireRoomFor_8 ?_
  refine v_eqi s1 ?_
  refine v_icmp_le 22 (pc := 9) dX2_requireRoomFor_9 (by decide) (fun hb => ?_) (fun hb => ?_)
  · have z := (nI_leI (by omega) (by omega)).mp hb
    refine v_vret (pc := 22) dX2_requireRoomFor_22 rfl ?_
    exact h1 (by omega)
  · refine v_throw (pc := 12) 0 134 139 138 "there would be too many messages" rfl tw_0 ms_139 dX2_requireRoomFor_12 dX2_requireRoomFor_15 dX2_requireRoomFor_16 dX2_requireRoomFor_18 dX2_requireRoomFor_21 rfl (Nat.le_of_ble_eq_true rfl) (by omega) (by omega) (by omega) ?_
    exact h0 (fun q => hb ((nI_leI (by omega) (by omega)).mpr (by omega)))
set_option maxHeartbeats 4000000 in
set_option maxRecDepth 100000 in
theorem p_reqRange (h1 : a ≤ b → R (.inl none) h) (h0 : ¬ a ≤ b → R (.inr 1) h) : mv_V G jX2_requireRange (d + 6) 0 [(0, .int a), (1, .int b)] [] h 1 6 R := by
  refine v_iload_n (pc := 0) dX2_requireRange_0 rfl rfl ?_
  refine v_iload_n (pc := 1) dX2_requireRange_1 rfl rfl ?_
  refine v_icmp_le 15 (pc := 2) dX2_requireRange_2 (by decide) (fun hb => ?_) (fun hb => ?_)
  · refine v_vret (pc := 15) dX2_requireRange_15 rfl ?_
    exact h1 hb
  · refine v_throw (pc := 5) 1 77 141 81 "from is above to" rfl tw_1 ms_141 dX2_requireRange_5 dX2_requireRange_8 dX2_requireRange_9 dX2_requireRange_11 dX2_requireRange_14 rfl (Nat.le_of_ble_eq_true rfl) (by omega) (by omega) (by omega) ?_
    exact h0 hb
set_option maxHeartbeats 4000000 in
set_option maxRecDepth 100000 in
theorem p_reqView (h1 : ∀ j, j < 4 → v = nI j → R (.inl none) h) (h0 : (∀ j, j < 4 → v ≠ nI j) → R (.inr 2) h) : mv_V G jX2_requireViewNumber (d + 6) 0 [(0, .int v)] [] h 1 6 R := by
  refine v_iload_n (pc := 0) dX2_requireViewNumber_0 rfl rfl ?_
  refine v_if_lt 9 (pc := 1) dX2_requireViewNumber_1 (by decide) (fun hb => ?_) (fun hb => ?_)
  · refine v_throw (pc := 9) 2 143 145 147 "the view is not 0 .. 3" rfl tw_2 ms_145 dX2_requireViewNumber_9 dX2_requireViewNumber_12 dX2_requireViewNumber_13 dX2_requireViewNumber_15 dX2_requireViewNumber_18 rfl (Nat.le_of_ble_eq_true rfl) (by omega) (by omega) (by omega) ?_
    exact h0 (fun j hj q => (nI_vw hj).1 (q ▸ hb))
  · have hb1 := hb
    refine v_iload_n (pc := 4) dX2_requireViewNumber_4 rfl rfl ?_
    refine v_iconst (pc := 5) (v := 4) dX2_requireViewNumber_5 (by decide) ?_
    refine v_icmp_lt 19 (pc := 6) dX2_requireViewNumber_6 (by decide) (fun hb => ?_) (fun hb => ?_)
    · obtain ⟨j, hj, q⟩ := vw_ix hb1 hb
      refine v_vret (pc := 19) dX2_requireViewNumber_19 rfl ?_
      exact h1 j hj q
    · refine v_throw (pc := 9) 2 143 145 147 "the view is not 0 .. 3" rfl tw_2 ms_145 dX2_requireViewNumber_9 dX2_requireViewNumber_12 dX2_requireViewNumber_13 dX2_requireViewNumber_15 dX2_requireViewNumber_18 rfl (Nat.le_of_ble_eq_true rfl) (by omega) (by omega) (by omega) ?_
      exact h0 (fun j hj q => hb (q ▸ (nI_vw hj).2))
set_option maxHeartbeats 4000000 in
set_option maxRecDepth 100000 in
theorem p_accVal (hL : LPx h x S vs sa T SS V sv nm nk) (hok : okA nm (V 4) key) (hR : ∀ h', LPx h' x S vs sa T SS (up1 V 4 (putK (V 4) key y)) sv (nm + 1) nk → SF S h h' → R (.inl none) h') : mv_V G jX2_acceptValue (d + 7) 0 [(0, .ref x), (1, .int key), (2, .long y)] [] h 0 0 R := by
  have hL' := hL
  obtain ⟨⟨e1, e2, e3, e4, e5, e6, e7, e8, e9, e10, e11, e12, e13⟩, f1, f2, f3, f4, f5, f6⟩ := hL
  obtain ⟨g1, g2, g3⟩ := f2 4 (by omega)
  have k1 := TB_kd g2
  refine v_aload_n (pc := 0) dX2_acceptValue_0 rfl rfl ?_
  refine g_R 200 3 (pc := 1) fX2_10 dX2_acceptValue_1 rfl rfl (by assumption) (by assumption) (by assumption) ?_
  refine v_iload_n (pc := 4) dX2_acceptValue_4 rfl rfl ?_
  refine v_lload_n (pc := 5) dX2_acceptValue_5 rfl rfl ?_
  refine v_callV 0 0 (pc := 6) kX2_148 dX2_acceptValue_6 rfl (by assumption) (Nat.zero_le _) (Nat.zero_le _) (Nat.le_of_ble_eq_true rfl) (Nat.le_of_ble_eq_true rfl) ?_
  refine t_write g2 (Or.symm hok.2) (fun h' u1 u2 => ?_)
  obtain ⟨q1, q2⟩ := LP_tab hL' (by omega) u1 u2
  have q1' := q1
  obtain ⟨⟨e1', _, _, _, _, _, _, _, _, _, _, e12', _⟩, _⟩ := q1
  refine v_aload_n (pc := 9) dX2_acceptValue_9 rfl rfl ?_
  refine v_dup (pc := 10) dX2_acceptValue_10 rfl ?_
  refine g_I 204 3 (pc := 11) fX2_27 dX2_acceptValue_11 rfl rfl (by assumption) (by assumption) ?_
  refine v_iconst (pc := 14) (v := 1) dX2_acceptValue_14 (by decide) ?_
  refine v_iadd (pc := 15) dX2_acceptValue_15 ?_
  refine v_eqi (nI_succ nm).symm ?_
  refine p_I 204 3 (pc := 16) fX2_27 dX2_acceptValue_16 rfl rfl (by assumption) ?_
  refine v_vret (pc := 19) dX2_acceptValue_19 rfl ?_
  obtain ⟨r1, r2⟩ := LP_msg q1' (show nk ≤ nm + 1 by omega) (by have := hok.1; omega)
  exact hR _ r1 (SF_tr q2 r2)
set_option maxHeartbeats 4000000 in
set_option maxRecDepth 100000 in
theorem p_savedView (hL : LPx h x S vs sa T SS V sv nm nk) (h1 : ∀ j, j < 4 → v = nI j → sv j = true → R (.inl (some (.ref (T j)))) h) (h0 : (∀ j, j < 4 → v = nI j → ¬ sv j = true) → R (.inr 2) h) : mv_V G jX2_savedView (d + 7) 0 [(0, .ref x), (1, .int v)] [] h 2 12 R := by
  obtain ⟨⟨e1, e2, e3, e4, e5, e6, e7, e8, e9, e10, e11, e12, e13⟩, f1, f2, f3, f4, f5, f6⟩ := hL
  refine v_iload_n (pc := 0) dX2_savedView_0 rfl rfl ?_
  refine v_callS 1 6 (pc := 1) kX2_104 dX2_savedView_1 (Nat.le_of_ble_eq_true rfl) (by omega) (by omega) (Nat.le_of_ble_eq_true rfl) (Nat.le_of_ble_eq_true rfl) ?_
  refine p_reqView (fun j hj q => ?_) (fun q => t_out rfl (h0 (fun j hj z => absurd z (q j hj))))
  obtain ⟨g1, g2⟩ := f1 j hj
  have g3 := (f2 j (by omega)).1
  subst q
  refine v_aload_n (pc := 4) dX2_savedView_4 rfl rfl ?_
  refine g_R 203 3 (pc := 5) fX2_23 dX2_savedView_5 rfl rfl (by assumption) (by assumption) (by assumption) ?_
  refine v_iload_n (pc := 8) dX2_savedView_8 rfl rfl ?_
  refine n_zald (j) _ (pc := 9) dX2_savedView_9 (by assumption) (by assumption) rfl (by omega) (by decide) g2 ?_
  by_cases c : sv j = true
  · rw [if_pos c]
    refine v_if_ne 23 (pc := 10) dX2_savedView_10 (by decide) (fun hb => ?_) (fun hb => ?_)
    · refine v_aload_n (pc := 23) dX2_savedView_23 rfl rfl ?_
      refine g_R 202 3 (pc := 24) fX2_19 dX2_savedView_24 rfl rfl (by assumption) (by assumption) (by assumption) ?_
      refine v_iload_n (pc := 27) dX2_savedView_27 rfl rfl ?_
      refine n_aald54 (j) _ (pc := 28) dX2_savedView_28 (by assumption) (by assumption) rfl (by omega) (by decide) g1 (by assumption) ?_
      refine v_aret (pc := 29) dX2_savedView_29 rfl ?_
      exact h1 j hj rfl c
    · exact absurd hb (by decide)
  · rw [if_neg c]
    refine v_if_ne 23 (pc := 10) dX2_savedView_10 (by decide) (fun hb => ?_) (fun hb => ?_)
    · exact absurd rfl hb
    · refine v_throw (pc := 13) 2 143 151 147 "the view is none" rfl tw_2 ms_151 dX2_savedView_13 dX2_savedView_16 dX2_savedView_17 dX2_savedView_19 dX2_savedView_22 rfl (Nat.le_of_ble_eq_true rfl) (by omega) (by omega) (by omega) ?_
      refine h0 (fun i hi q => ?_)
      rw [← (nI_eq (by omega) (by omega)).mp q]
      exact c
set_option maxHeartbeats 4000000 in
set_option maxRecDepth 100000 in
theorem p_tableOf (hL : LPx h x S vs sa T SS V sv nm nk) (h1 : ∀ j, isR v sv j → R (.inl (some (.ref (T j)))) h) (h0 : (∀ j, ¬ isR v sv j) → R (.inr 2) h) : mv_V G jX2_tableOf (d + 8) 0 [(0, .ref x), (1, .int v)] [] h 2 12 R := by
  have hL' := hL
  obtain ⟨⟨e1, e2, e3, e4, e5, e6, e7, e8, e9, e10, e11, e12, e13⟩, f1, f2, f3, f4, f5, f6⟩ := hL
  have g3 := (f2 4 (by omega)).1
  refine v_iload_n (pc := 0) dX2_tableOf_0 rfl rfl ?_
  refine v_iconst (pc := 1) (v := (-1)) dX2_tableOf_1 (by decide) ?_
  refine v_icmp_ne 12 (pc := 2) dX2_tableOf_2 (by decide) (fun hb => ?_) (fun hb => ?_)
  · refine v_aload_n (pc := 12) dX2_tableOf_12 rfl rfl ?_
    refine v_iload_n (pc := 13) dX2_tableOf_13 rfl rfl ?_
    refine v_callV 2 12 (pc := 14) kX2_111 dX2_tableOf_14 rfl (by assumption) (by omega) (by omega) (Nat.le_of_ble_eq_true rfl) (Nat.le_of_ble_eq_true rfl) ?_
    refine p_savedView hL' (fun j hj q1 q2 => ?_) (fun q => t_out rfl (h0 (fun j hj => ?_)))
    · refine v_aret (pc := 17) dX2_tableOf_17 rfl ?_
      exact h1 j (Or.inr ⟨hj, q1, q2⟩)
    · rcases hj with ⟨z1, z2⟩ | ⟨z1, z2, z3⟩
      · exact hb z1
      · exact q j z1 z2 z3
  · refine v_aload_n (pc := 5) dX2_tableOf_5 rfl rfl ?_
    refine g_R 200 3 (pc := 6) fX2_10 dX2_tableOf_6 rfl rfl (by assumption) (by assumption) (by assumption) ?_
    refine v_goto 17 (pc := 9) dX2_tableOf_9 (by decide) ?_
    refine v_aret (pc := 17) dX2_tableOf_17 rfl ?_
    exact h1 4 (Or.inl ⟨hb, rfl⟩)
end LPP
