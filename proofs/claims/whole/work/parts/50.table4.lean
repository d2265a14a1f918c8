/-! LazyPages$PageTable: joinPages. -/
theorem mh_sm_saR {h : mh_T} {pa i x a : Nat} (ha : a ≠ pa) : mh_sm h (mh_saR h pa i x) a := by
  refine ⟨rfl, rfl, fun _ => rfl, fun _ => rfl, fun _ => rfl, fun _ => rfl, fun _ => rfl, fun j => ?_⟩
  rw [mh_aR_saR, if_neg (fun q => ha q.1)]
section TP
variable {h h' : mh_T} {t pa n sz : Nat} {D : Nat → Nat × Nat × Nat} {LO HI : Nat → Int32} {X : Nat → List En} {S : Nat → Prop}
/-- the row of pages in another order -/
theorem tb0_perm (hT : tb0 h t pa n D LO HI X sz) (s : Nat → Nat) (s1 : ∀ i, i < 40 → s i < 40) (s2 : ∀ i j, i < 40 → j < 40 → i ≠ j → s i ≠ s j) (hs : ∀ a, a ≠ pa → mh_sm h h' a) (hk : mh_kd h' pa = mh_kd h pa) (hl : mh_ln h' pa = mh_ln h pa) (hr : ∀ i, i < 40 → mh_aR h' pa i = (D (s i)).1) : tb0 h' t pa n (fun i => D (s i)) (fun i => LO (s i)) (fun i => HI (s i)) (fun i => X (s i)) sz := by
  obtain ⟨e1, e2, e3, e4, e5, e6, e7, e8, e9⟩ := hT
  obtain ⟨a1, a2, a3, a4, a5, a6, a7, a8⟩ := hs t (fun q => by rw [q, e4] at e1; exact absurd e1 (by decide))
  refine ⟨a1.trans e1, (a5 100).trans e2, e3, hk.trans e4, hl.trans e5, (a3 101).trans e6, (a3 102).trans e7, fun i hi => ?_, fun i j hi hj hij => e9 _ _ (s1 i hi) (s1 j hj) (s2 i j hi hj hij)⟩
  obtain ⟨f1, f2, f3⟩ := e8 (s i) (s1 i hi)
  refine ⟨hr i hi, f2, ?_⟩
  obtain ⟨g1, _, _, _, _, g6, _, g8, _⟩ := f3.1
  exact pgL_sm f3 (hs _ (fun q => by rw [q, e4] at g1; exact absurd g1 (by decide))) (hs _ (fun q => by rw [q, e4] at g6; exact absurd g6 (by decide))) (hs _ (fun q => by rw [q, e4] at g8; exact absurd g8 (by decide)))
theorem tS_perm (hS : tS S t pa D) {s : Nat → Nat} (s1 : ∀ i, i < 40 → s i < 40) : tS S t pa (fun i => D (s i)) := ⟨hS.1, hS.2.1, fun i hi => hS.2.2 _ (s1 i hi)⟩
theorem SF_at {a : Nat} (hS : S a) (hs : ∀ b, b ≠ a → mh_sm h h' b) : SF S h h' := fun b hb => hs b (fun q => hb (q ▸ hS))
end TP
/-- i and j changed for one another -/
def swp (i j : Nat) : Nat → Nat := fun x => if x = i then j else if x = j then i else x
theorem swp_lt {i j : Nat} (hi : i < 40) (hj : j < 40) (x : Nat) (hx : x < 40) : swp i j x < 40 := by
  unfold swp
  split
  · exact hj
  · split
    · exact hi
    · exact hx
theorem swp_ne {i j : Nat} (x y : Nat) (h : x ≠ y) : swp i j x ≠ swp i j y := by
  unfold swp
  repeat' split
  all_goals omega
/-- joined so far: pages 0 .. i - 1 of X are 0 .. l of X' -/
def jn (LO HI : Nat → Int32) (X : Nat → List En) (i l : Nat) (LO' HI' : Nat → Int32) (X' : Nat → List En) : Prop :=
  l < i ∧ (∀ j, i ≤ j → LO' j = LO j ∧ HI' j = HI j ∧ X' j = X j) ∧ LO' 0 = -2147483648 ∧ HI' l = HI (i - 1) ∧ (∀ j, j ≤ l → LO' j ≤ HI' j ∧ up (X' j) ∧ ∀ e, e ∈ X' j → LO' j ≤ e.1 ∧ e.1 ≤ HI' j) ∧ (∀ j, j < l → HI' j < 2147483647 ∧ LO' (j + 1) = HI' j + 1) ∧ (∀ j, j < l → 32 < (X' j).length + (X' (j + 1)).length) ∧ fm (l + 1) X' = fm i X ∧ (∀ j, j < i → ∃ j', j' ≤ l ∧ LO' j' ≤ LO j ∧ HI j ≤ HI' j')
section JN
variable {n : Nat} {LO HI LO' HI' : Nat → Int32} {X X' : Nat → List En} {i l : Nat}
theorem jn_take (w : tw n LO HI X) (hi : i < n) (hJ : jn LO HI X i l LO' HI' X') : jn LO HI X (i + 1) l LO' (up1 HI' l (HI' i)) (up1 X' l (X' l ++ X' i)) := by
  obtain ⟨j1, j2, j3, j4, j5, j6, j7, j8, j9⟩ := hJ
  obtain ⟨q1, q2, q3⟩ := j2 i (Nat.le_refl _)
  have hlt : HI' l < LO i := by rw [j4]; exact tw_lt w (by omega) hi
  obtain ⟨w1, w2, w3⟩ := w.2.2.2.2.1 i hi
  have hlt2 : HI' l < HI i := i32_lt_le hlt w1
  obtain ⟨p1, p2, p3⟩ := j5 l (Nat.le_refl _)
  refine ⟨by omega, fun j hj => ?_, j3, ?_, fun j hj => ?_, fun j hj => ?_, fun j hj => ?_, ?_, fun j hj => ?_⟩
  · rw [up1_ne _ _ (show j ≠ l by omega), up1_ne _ _ (show j ≠ l by omega)]
    exact j2 j (by omega)
  · rw [up1_eq, q2]; rfl
  · by_cases c : j = l
    · subst c
      rw [up1_eq, up1_eq, q2, q3]
      refine ⟨Int32.le_trans p1 (i32_le_of_lt hlt2), List.pairwise_append.mpr ⟨p2, w2, fun e he f hf => ?_⟩, fun e he => ?_⟩
      · exact i32_lt_le (i32_le_lt (p3 e he).2 hlt) (w3 f hf).1
      · rcases List.mem_append.mp he with z | z
        · exact ⟨(p3 e z).1, i32_le_of_lt (i32_le_lt (p3 e z).2 hlt2)⟩
        · exact ⟨Int32.le_trans p1 (i32_le_of_lt (i32_lt_le hlt (w3 e z).1)), (w3 e z).2⟩
    · rw [up1_ne _ _ c, up1_ne _ _ c]
      exact j5 j hj
  · rw [up1_ne _ _ (show j ≠ l by omega)]
    exact j6 j hj
  · have z := j7 j hj
    rw [up1_ne _ _ (show j ≠ l by omega)]
    by_cases c : j + 1 = l
    · rw [c, up1_eq, List.length_append]
      rw [c] at z
      omega
    · rw [up1_ne _ _ c]; exact z
  · rw [fm_succ, up1_eq, fm_congr (X' := X') (fun j hj => up1_ne _ _ (show j ≠ l by omega)), ← List.append_assoc, ← fm_succ, j8, q3, fm_succ]
  · rcases Nat.lt_or_ge j i with z | z
    · obtain ⟨j', k1, k2, k3⟩ := j9 j z
      refine ⟨j', k1, k2, ?_⟩
      by_cases c : j' = l
      · rw [c, up1_eq, q2]
        rw [c] at k3
        exact Int32.le_trans k3 (i32_le_of_lt hlt2)
      · rw [up1_ne _ _ c]; exact k3
    · have e : j = i := by omega
      subst e
      refine ⟨l, Nat.le_refl _, i32_le_of_lt (i32_le_lt p1 hlt), ?_⟩
      rw [up1_eq, q2]; exact Int32.le_refl _
theorem jn_swap (w : tw n LO HI X) (hi : i < n) (hJ : jn LO HI X i l LO' HI' X') (h32 : 32 < (X' l).length + (X' i).length) : jn LO HI X (i + 1) (l + 1) (fun j => LO' (swp i (l + 1) j)) (fun j => HI' (swp i (l + 1) j)) (fun j => X' (swp i (l + 1) j)) := by
  obtain ⟨j1, j2, j3, j4, j5, j6, j7, j8, j9⟩ := hJ
  obtain ⟨q1, q2, q3⟩ := j2 i (Nat.le_refl _)
  obtain ⟨w1, w2, w3⟩ := w.2.2.2.2.1 i hi
  have sl : ∀ j, j ≤ l → swp i (l + 1) j = j := fun j hj => by
    unfold swp
    rw [if_neg (by omega), if_neg (by omega)]
  have sg : ∀ j, i + 1 ≤ j → swp i (l + 1) j = j := fun j hj => by
    unfold swp
    rw [if_neg (by omega), if_neg (by omega)]
  have sm : swp i (l + 1) (l + 1) = i := by
    unfold swp
    by_cases c : l + 1 = i
    · rw [if_pos c, c]
    · rw [if_neg c, if_pos rfl]
  refine ⟨by omega, fun j hj => ?_, ?_, ?_, fun j hj => ?_, fun j hj => ?_, fun j hj => ?_, ?_, fun j hj => ?_⟩
  · show LO' (swp i (l + 1) j) = _ ∧ HI' (swp i (l + 1) j) = _ ∧ X' (swp i (l + 1) j) = _
    rw [sg j hj]
    exact j2 j (by omega)
  · show LO' (swp i (l + 1) 0) = _
    rw [sl 0 (by omega)]; exact j3
  · show HI' (swp i (l + 1) (l + 1)) = _
    rw [sm, q2]; rfl
  · show LO' (swp i (l + 1) j) ≤ HI' (swp i (l + 1) j) ∧ up (X' (swp i (l + 1) j)) ∧ ∀ e, e ∈ X' (swp i (l + 1) j) → LO' (swp i (l + 1) j) ≤ e.1 ∧ e.1 ≤ HI' (swp i (l + 1) j)
    rcases Nat.lt_or_ge j (l + 1) with z | z
    · rw [sl j (by omega)]; exact j5 j (by omega)
    · have e : j = l + 1 := by omega
      rw [e, sm, q1, q2, q3]; exact ⟨w1, w2, w3⟩
  · show HI' (swp i (l + 1) j) < _ ∧ LO' (swp i (l + 1) (j + 1)) = HI' (swp i (l + 1) j) + 1
    rw [sl j (by omega)]
    rcases Nat.lt_or_ge j l with z | z
    · rw [sl (j + 1) (by omega)]; exact j6 j z
    · have e : j = l := by omega
      rw [e, sm, q1, j4]
      have := w.2.2.2.2.2 (i - 1) (by omega)
      rw [show i - 1 + 1 = i by omega] at this
      exact this
  · show 32 < (X' (swp i (l + 1) j)).length + (X' (swp i (l + 1) (j + 1))).length
    rw [sl j (by omega)]
    rcases Nat.lt_or_ge j l with z | z
    · rw [sl (j + 1) (by omega)]; exact j7 j z
    · have e : j = l := by omega
      rw [e, sm]; exact h32
  · rw [fm_succ]
    show fm (l + 1) (fun j => X' (swp i (l + 1) j)) ++ X' (swp i (l + 1) (l + 1)) = _
    rw [sm, q3, fm_congr (X' := X') (fun j hj => by rw [sl j (by omega)]), j8, fm_succ]
  · rcases Nat.lt_or_ge j i with z | z
    · obtain ⟨j', k1, k2, k3⟩ := j9 j z
      refine ⟨j', by omega, ?_, ?_⟩
      · show LO' (swp i (l + 1) j') ≤ _
        rw [sl j' k1]; exact k2
      · show _ ≤ HI' (swp i (l + 1) j')
        rw [sl j' k1]; exact k3
    · have e : j = i := by omega
      subst e
      refine ⟨l + 1, Nat.le_refl _, ?_, ?_⟩
      · show LO' (swp j (l + 1) (l + 1)) ≤ _
        rw [sm, q1]; exact Int32.le_refl _
      · show _ ≤ HI' (swp j (l + 1) (l + 1))
        rw [sm, q2]; exact Int32.le_refl _
end JN
section TJ
variable {G : mv_G} {d : Nat} {h : mh_T} {t pa n sz : Nat} {D : Nat → Nat × Nat × Nat} {LO HI : Nat → Int32} {X : Nat → List En} {S : Nat → Prop} {R : mv_O → mh_T → Prop}
set_option maxHeartbeats 4000000 in
set_option maxRecDepth 100000 in
theorem c_joinPages (hT : tb0 h t pa n D LO HI X sz) (w : tw n LO HI X) (hS : tS S t pa D) (hR : ∀ h' n' D' LO' HI' X', tb0 h' t pa n' D' LO' HI' X' sz → tw n' LO' HI' X' → tS S t pa D' → fm n' X' = fm n X → (∀ i, i + 1 < n' → 32 < (X' i).length + (X' (i + 1)).length) → (∀ j, j < n → ∃ j', j' < n' ∧ LO' j' ≤ LO j ∧ HI j ≤ HI' j') → SF S h h' → R (.inl none) h') : mv_V G jX1_joinPages (d + 4) 0 [(0, .ref t)] [] h 0 0 R := by
  have n40 := w.2.1
  have n1 := w.1
  have loop : ∀ m i l hc D' LO' HI' X' lo3, i + m = n → tb0 hc t pa n D' LO' HI' X' sz → jn LO HI X i l LO' HI' X' → tS S t pa D' → SF S h hc → (lo3 = [(0, .ref t), (1, .int (nI l)), (2, .int (nI i))] ∨ ∃ q, lo3 = [(0, .ref t), (1, .int (nI l)), (2, .int (nI i)), (3, .ref q)]) → mv_V G jX1_joinPages (d + 4) 4 lo3 [] hc 0 0 R := by
    intro m
    induction m with
    | zero =>
      intro i l hc D' LO' HI' X' lo3 hm hB hJ hS' hF hlo
      have ei : i = n := by omega
      subst ei
      have hB' := hB
      obtain ⟨e1, e2, e3, e4, e5, e6, e7, e8, e9⟩ := hB
      obtain ⟨j1, j2, j3, j4, j5, j6, j7, j8, j9⟩ := hJ
      have fin : R (.inl none) (mh_sfI hc 101 t (nI (l + 1))) := by
        refine hR _ (l + 1) D' LO' HI' X' (tb0_count hB') ⟨by omega, by omega, j3, ?_, fun i hi => j5 i (by omega), fun i hi => j6 i (by omega)⟩ hS' j8 (fun i hi => j7 i (by omega)) (fun j hj => ?_) (SF_tr hF (SF_sfI hS.1))
        · show HI' (l + 1 - 1) = _
          rw [Nat.add_sub_cancel, j4]; exact w.2.2.2.1
        · obtain ⟨j', k1, k2⟩ := j9 j hj
          exact ⟨j', by omega, k2⟩
      rcases hlo with rfl | ⟨q, rfl⟩
      · refine v_iload_n (pc := 4) dX1_joinPages_4 rfl rfl ?_
        refine v_aload_n (pc := 5) dX1_joinPages_5 rfl rfl ?_
        refine g_I 101 2 (pc := 6) fX1_18 dX1_joinPages_6 rfl rfl (by assumption) (by assumption) ?_
        refine v_icmp_ge 79 (pc := 9) dX1_joinPages_9 (by decide) (fun hb => ?_) (fun hb => ?_)
        · refine v_aload_n (pc := 79) dX1_joinPages_79 rfl rfl ?_
          refine v_iload_n (pc := 80) dX1_joinPages_80 rfl rfl ?_
          refine v_iconst (pc := 81) (v := 1) dX1_joinPages_81 (by decide) ?_
          refine v_iadd (pc := 82) dX1_joinPages_82 ?_
          refine v_eqi (nI_succ l).symm ?_
          refine p_I 101 2 (pc := 83) fX1_18 dX1_joinPages_83 rfl rfl (by assumption) ?_
          refine v_vret (pc := 86) dX1_joinPages_86 rfl ?_
          exact fin
        · exact absurd ((nI_leI (by omega) (by omega)).mpr (by omega)) hb
      · refine v_iload_n (pc := 4) dX1_joinPages_4 rfl rfl ?_
        refine v_aload_n (pc := 5) dX1_joinPages_5 rfl rfl ?_
        refine g_I 101 2 (pc := 6) fX1_18 dX1_joinPages_6 rfl rfl (by assumption) (by assumption) ?_
        refine v_icmp_ge 79 (pc := 9) dX1_joinPages_9 (by decide) (fun hb => ?_) (fun hb => ?_)
        · refine v_aload_n (pc := 79) dX1_joinPages_79 rfl rfl ?_
          refine v_iload_n (pc := 80) dX1_joinPages_80 rfl rfl ?_
          refine v_iconst (pc := 81) (v := 1) dX1_joinPages_81 (by decide) ?_
          refine v_iadd (pc := 82) dX1_joinPages_82 ?_
          refine v_eqi (nI_succ l).symm ?_
          refine p_I 101 2 (pc := 83) fX1_18 dX1_joinPages_83 rfl rfl (by assumption) ?_
          refine v_vret (pc := 86) dX1_joinPages_86 rfl ?_
          exact fin
        · exact absurd ((nI_leI (by omega) (by omega)).mpr (by omega)) hb
    | succ m ih =>
      intro i l hc D' LO' HI' X' lo3 hm hB hJ hS' hF hlo
      have hB' := hB
      obtain ⟨e1, e2, e3, e4, e5, e6, e7, e8, e9⟩ := hB
      have hli := hJ.1
      obtain ⟨f1, f2, f3⟩ := e8 i (by omega)
      have f4 := f3.1.1
      have f5 := f3.1.2.2.2.2.2.2.2.2.2.1
      have f6 := f3.1.2.2.2.2.2.2.2.2.2.2
      obtain ⟨g1, g2, g3⟩ := e8 l (by omega)
      have g4 := g3.1.1
      have g5 := g3.1.2.2.2.2.2.2.2.2.2.1
      have g6 := g3.1.2.2.2.2.2.2.2.2.2.2
      obtain ⟨u1, u2, u3⟩ := e8 (l + 1) (by omega)
      have u4 := u3.1.1
      have step : ∀ lo0, (lo0 = [(0, .ref t), (1, .int (nI l)), (2, .int (nI i)), (3, .ref (D' i).1)]) → mv_V G jX1_joinPages (d + 4) 19 lo0 [] hc 0 0 R := by
        intro lo0 hlo0
        subst hlo0
        refine v_aload_n (pc := 19) dX1_joinPages_19 rfl rfl ?_
        refine g_R 100 2 (pc := 20) fX1_11 dX1_joinPages_20 rfl rfl (by assumption) (by assumption) (by assumption) ?_
        refine v_iload_n (pc := 23) dX1_joinPages_23 rfl rfl ?_
        refine n_aald55 (l) _ (pc := 24) dX1_joinPages_24 (by assumption) (by assumption) rfl (by omega) (by decide) g1 (by assumption) ?_
        refine g_I 2 1 (pc := 25) fX1_47 dX1_joinPages_25 rfl rfl (by assumption) (by assumption) ?_
        refine v_aload_n (pc := 28) dX1_joinPages_28 rfl rfl ?_
        refine g_I 2 1 (pc := 29) fX1_47 dX1_joinPages_29 rfl rfl (by assumption) (by assumption) ?_
        refine v_iadd (pc := 32) dX1_joinPages_32 ?_
        refine v_eqi (nI_add _ _) ?_
        refine v_bipush (pc := 33) (v := 32) dX1_joinPages_33 (by decide) ?_
        refine v_icmp_gt 51 (pc := 35) dX1_joinPages_35 (by decide) (fun hb => ?_) (fun hb => ?_)
        · have h32 := (nI_ltI (a := 32) (by omega) (by omega)).mp hb
          refine v_iinc (pc := 51) dX1_joinPages_51 rfl (mv_inc _) rfl rfl (by decide) ?_
          refine v_aload_n (pc := 54) dX1_joinPages_54 rfl rfl ?_
          refine g_R 100 2 (pc := 55) fX1_11 dX1_joinPages_55 rfl rfl (by assumption) (by assumption) (by assumption) ?_
          refine v_iload_n (pc := 58) dX1_joinPages_58 rfl rfl ?_
          refine v_aload_n (pc := 59) dX1_joinPages_59 rfl rfl ?_
          refine g_R 100 2 (pc := 60) fX1_11 dX1_joinPages_60 rfl rfl (by assumption) (by assumption) (by assumption) ?_
          refine v_iload_n (pc := 63) dX1_joinPages_63 rfl rfl ?_
          refine n_aald55 (l + 1) _ (pc := 64) dX1_joinPages_64 (by assumption) (by assumption) rfl (by omega) (by decide) u1 (by assumption) ?_
          refine n_aast55 (i) _ (pc := 65) dX1_joinPages_65 (by assumption) (by assumption) rfl (by omega) (by decide) u4 u2 ?_
          refine v_aload_n (pc := 66) dX1_joinPages_66 rfl rfl ?_
          refine g_R 100 2 (pc := 67) fX1_11 dX1_joinPages_67 rfl rfl (by assumption) (by assumption) (by assumption) ?_
          refine v_iload_n (pc := 70) dX1_joinPages_70 rfl rfl ?_
          refine v_aload_n (pc := 71) dX1_joinPages_71 rfl rfl ?_
          refine n_aast55 (l + 1) _ (pc := 72) dX1_joinPages_72 (by assumption) (by assumption) rfl (by omega) (by decide) f4 f2 ?_
          refine v_iinc (pc := 73) dX1_joinPages_73 rfl (mv_inc _) rfl rfl (by decide) ?_
          refine v_goto 4 (pc := 76) dX1_joinPages_76 (by decide) ?_
          have s1 := swp_lt (show i < 40 by omega) (show l + 1 < 40 by omega)
          refine ih (i + 1) (l + 1) _ (fun j => D' (swp i (l + 1) j)) _ _ _ _ (by omega) (tb0_perm (h' := mh_saR (mh_saR hc pa i (D' (l + 1)).1) pa (l + 1) (D' i).1) hB' (swp i (l + 1)) s1 (fun x y _ _ h => swp_ne x y h) (fun a ha => mh_sm_tr (mh_sm_saR ha) (mh_sm_saR ha)) rfl rfl ?_) (jn_swap w (by omega) hJ h32) (tS_perm hS' s1) (SF_tr hF (SF_at hS.2.1 (fun a ha => mh_sm_tr (mh_sm_saR ha) (mh_sm_saR ha)))) (Or.inr ⟨_, rfl⟩)
          intro x hx
          rw [mh_aR_saR, mh_aR_saR]
          unfold swp
          by_cases c1 : x = l + 1
          · rw [if_pos ⟨rfl, c1⟩]
            by_cases c2 : x = i
            · rw [if_pos c2]
              rw [show l + 1 = i by omega]
            · rw [if_neg c2, if_pos c1]
          · rw [if_neg (fun q => c1 q.2)]
            by_cases c2 : x = i
            · rw [if_pos ⟨rfl, c2⟩, if_pos c2]
            · rw [if_neg (fun q => c2 q.2), if_neg c2, if_neg c1]
              exact (e8 x hx).1
        · have h32 : (X' l).length + (X' i).length ≤ 32 := by
            rcases Nat.lt_or_ge 32 ((X' l).length + (X' i).length) with z | z
            · exact absurd ((nI_ltI (a := 32) (by omega) (by omega)).mpr z) hb
            · exact z
          refine v_aload_n (pc := 38) dX1_joinPages_38 rfl rfl ?_
          refine g_R 100 2 (pc := 39) fX1_11 dX1_joinPages_39 rfl rfl (by assumption) (by assumption) (by assumption) ?_
          refine v_iload_n (pc := 42) dX1_joinPages_42 rfl rfl ?_
          refine n_aald55 (l) _ (pc := 43) dX1_joinPages_43 (by assumption) (by assumption) rfl (by omega) (by decide) g1 (by assumption) ?_
          refine v_aload_n (pc := 44) dX1_joinPages_44 rfl rfl ?_
          refine v_callV 0 0 (pc := 45) kX1_65 dX1_joinPages_45 rfl (by assumption) (Nat.zero_le _) (Nat.zero_le _) (Nat.le_of_ble_eq_true rfl) (Nat.le_of_ble_eq_true rfl) ?_
          obtain ⟨n1, n2, n3⟩ := e9 i l (by omega) (by omega) (by omega)
          refine gl_take g3 f3 n1 n2 n3 h32 (fun h' v1 v2 => ?_)
          refine v_goto 73 (pc := 48) dX1_joinPages_48 (by decide) ?_
          refine v_iinc (pc := 73) dX1_joinPages_73 rfl (mv_inc _) rfl rfl (by decide) ?_
          refine v_goto 4 (pc := 76) dX1_joinPages_76 (by decide) ?_
          refine ih (i + 1) l h' D' LO' _ _ _ (by omega) ?_ (jn_take w (by omega) hJ) hS' (SF_tr hF (SF_pg hS' (by omega) v2)) (Or.inr ⟨_, rfl⟩)
          have z := tb0_page hB' (by omega) v1 v2
          rw [up1_id] at z
          exact z
      rcases hlo with rfl | ⟨q, rfl⟩
      · refine v_iload_n (pc := 4) dX1_joinPages_4 rfl rfl ?_
        refine v_aload_n (pc := 5) dX1_joinPages_5 rfl rfl ?_
        refine g_I 101 2 (pc := 6) fX1_18 dX1_joinPages_6 rfl rfl (by assumption) (by assumption) ?_
        refine v_icmp_ge 79 (pc := 9) dX1_joinPages_9 (by decide) (fun hb => ?_) (fun hb => ?_)
        · have := (nI_leI (by omega) (by omega)).mp hb
          omega
        · refine v_aload_n (pc := 12) dX1_joinPages_12 rfl rfl ?_
          refine g_R 100 2 (pc := 13) fX1_11 dX1_joinPages_13 rfl rfl (by assumption) (by assumption) (by assumption) ?_
          refine v_iload_n (pc := 16) dX1_joinPages_16 rfl rfl ?_
          refine n_aald55 (i) _ (pc := 17) dX1_joinPages_17 (by assumption) (by assumption) rfl (by omega) (by decide) f1 (by assumption) ?_
          refine v_astore_n (pc := 18) dX1_joinPages_18 rfl rfl rfl (by decide) ?_
          exact step _ rfl
      · refine v_iload_n (pc := 4) dX1_joinPages_4 rfl rfl ?_
        refine v_aload_n (pc := 5) dX1_joinPages_5 rfl rfl ?_
        refine g_I 101 2 (pc := 6) fX1_18 dX1_joinPages_6 rfl rfl (by assumption) (by assumption) ?_
        refine v_icmp_ge 79 (pc := 9) dX1_joinPages_9 (by decide) (fun hb => ?_) (fun hb => ?_)
        · have := (nI_leI (by omega) (by omega)).mp hb
          omega
        · refine v_aload_n (pc := 12) dX1_joinPages_12 rfl rfl ?_
          refine g_R 100 2 (pc := 13) fX1_11 dX1_joinPages_13 rfl rfl (by assumption) (by assumption) (by assumption) ?_
          refine v_iload_n (pc := 16) dX1_joinPages_16 rfl rfl ?_
          refine n_aald55 (i) _ (pc := 17) dX1_joinPages_17 (by assumption) (by assumption) rfl (by omega) (by decide) f1 (by assumption) ?_
          refine v_astore_n (pc := 18) dX1_joinPages_18 rfl rfl rfl (by decide) ?_
          exact step _ rfl
  refine v_iconst (pc := 0) (v := 0) dX1_joinPages_0 (by decide) ?_
  refine v_istore_n (pc := 1) dX1_joinPages_1 rfl rfl rfl (by decide) ?_
  refine v_iconst (pc := 2) (v := 1) dX1_joinPages_2 (by decide) ?_
  refine v_istore_n (pc := 3) dX1_joinPages_3 rfl rfl rfl (by decide) ?_
  refine loop (n - 1) 1 0 h D LO HI X _ (by omega) hT ⟨by omega, fun j _ => ⟨rfl, rfl, rfl⟩, w.2.2.1, rfl, fun j hj => w.2.2.2.2.1 j (by omega), fun j hj => by omega, fun j hj => by omega, rfl, fun j hj => ⟨j, by omega, Int32.le_refl _, Int32.le_refl _⟩⟩ hS (SF_rf S h) (Or.inl rfl)
end TJ
