/-! LazyPages$PageTable: differencesFrom. -/
theorem lg_cmp0 {x y : Int64} : lg_cmp x y = 0 ↔ x = y := by
  unfold lg_cmp
  constructor
  · intro h
    by_cases c : x > y
    · rw [if_pos c] at h; exact absurd h (by decide)
    · rw [if_neg c] at h
      by_cases c2 : x = y
      · exact c2
      · rw [if_neg c2] at h; exact absurd h (by decide)
  · intro h
    subst h
    rw [if_neg Int64.lt_irrefl, if_pos rfl]
def inB (M2 : List En) (e : En) : Bool := hasK M2 e.1
def chB (M2 : List En) (e : En) : Bool := hasK M2 e.1 && !decide (valK M2 e.1 = e.2)
def difB (M M2 : List En) : Nat := (M.filter (inB M2)).length
def difC (M M2 : List En) : Nat := (M.filter (chB M2)).length
def dfB (M2 : List En) (e : En) : Bool := !hasK M2 e.1 || !decide (valK M2 e.1 = e.2)
def nfB (M : List En) (e : En) : Bool := !hasK M e.1
/-- the document's number of differences -/
def difN (M M2 : List En) : Nat := (M.filter (dfB M2)).length + (M2.filter (nfB M)).length
theorem difB_snoc (M M2 : List En) (e : En) : difB (M ++ [e]) M2 = difB M M2 + (if hasK M2 e.1 = true then 1 else 0) := by
  unfold difB
  rw [List.filter_append, List.length_append]
  by_cases c : hasK M2 e.1 = true
  · simp [inB, c]
  · simp [inB, c]
theorem difC_snoc (M M2 : List En) (e : En) : difC (M ++ [e]) M2 = difC M M2 + (if hasK M2 e.1 = true ∧ ¬ valK M2 e.1 = e.2 then 1 else 0) := by
  unfold difC
  rw [List.filter_append, List.length_append]
  by_cases c : hasK M2 e.1 = true
  · by_cases c2 : valK M2 e.1 = e.2
    · simp [chB, c, c2]
    · simp [chB, c, c2]
  · simp [chB, c]
theorem difB_le (M M2 : List En) : difB M M2 ≤ M.length := List.length_filter_le _ _
theorem difB_1 (M M2 : List En) : (M.filter (dfB M2)).length + difB M M2 = M.length + difC M M2 := by
  unfold difB difC
  induction M with
  | nil => rfl
  | cons e M ih =>
    by_cases c : hasK M2 e.1 = true
    · by_cases c2 : valK M2 e.1 = e.2
      · simp [List.filter_cons, dfB, inB, chB, c, c2] at ih ⊢; omega
      · simp [List.filter_cons, dfB, inB, chB, c, c2] at ih ⊢; omega
    · simp [List.filter_cons, dfB, inB, chB, c] at ih ⊢; omega
theorem difB_2 (M M2 : List En) : (M2.filter (nfB M)).length + difB M2 M = M2.length := by
  unfold difB
  induction M2 with
  | nil => rfl
  | cons e M2 ih =>
    by_cases c : hasK M e.1 = true
    · simp [List.filter_cons, nfB, inB, c] at ih ⊢; omega
    · simp [List.filter_cons, nfB, inB, c] at ih ⊢; omega
theorem up_nodup {M : List En} (h : up M) : (M.map Prod.fst).Nodup := by
  unfold List.Nodup
  rw [List.pairwise_map]
  exact List.Pairwise.imp (fun {a b} hab q => by rw [q] at hab; exact i32_irr hab) h
theorem difB_sym {M M2 : List En} (h : up M) (h2 : up M2) : difB M M2 = difB M2 M := by
  have n1 := up_nodup (up_filter h (inB M2))
  have n2 := up_nodup (up_filter h2 (inB M))
  have p := (List.perm_ext_iff_of_nodup n1 n2).mpr (fun k => by
    simp only [List.mem_map, List.mem_filter, inB]
    constructor
    · rintro ⟨e, ⟨he, hk⟩, rfl⟩
      obtain ⟨f, hf, hq⟩ := hasK_iff.mp hk
      exact ⟨f, ⟨hf, hasK_iff.mpr ⟨e, he, hq.symm⟩⟩, hq⟩
    · rintro ⟨e, ⟨he, hk⟩, rfl⟩
      obtain ⟨f, hf, hq⟩ := hasK_iff.mp hk
      exact ⟨f, ⟨hf, hasK_iff.mpr ⟨e, he, hq.symm⟩⟩, hq⟩)
  have := p.length_eq
  rw [List.length_map, List.length_map] at this
  exact this
theorem difN_eq {M M2 : List En} (h : up M) (h2 : up M2) : M.length - difB M M2 + (M2.length - difB M M2) + difC M M2 = difN M M2 := by
  have a1 := difB_1 M M2
  have a2 := difB_2 M M2
  have a3 := difB_sym h h2
  have a4 := difB_le M M2
  unfold difN
  omega
section TDF
variable {G : mv_G} {d : Nat} {h : mh_T} {t t2 : Nat} {S S2 : Nat → Prop} {M M2 : List En} {R : mv_O → mh_T → Prop}
set_option maxHeartbeats 4000000 in
set_option maxRecDepth 100000 in
theorem t_differ (hT : TB h t S M) (hT2 : TB h t2 S2 M2) (hR : R (.inl (some (.int (nI (difN M M2))))) h) : mv_V G jX1_differencesFrom (d + 2) 0 [(0, .ref t), (1, .ref t2)] [] h 0 0 R := by
  have u1 := TB_up hT
  have u2 := TB_up hT2
  have hkt2 : mh_kd h t2 = 2 := by
    obtain ⟨_, _, _, _, _, _, z, _⟩ := hT2
    exact z.1
  have hsz2 : mh_fI h 102 t2 = nI M2.length := by
    obtain ⟨_, _, _, _, _, _, z, _⟩ := hT2
    exact z.2.2.2.2.2.2.1
  obtain ⟨pa, n, D, LO, HI, X, h0, h1, h2, h3, h4⟩ := hT
  have h0' := h0
  obtain ⟨e1, e2, e3, e4, e5, e6, e7, e8, e9⟩ := h0
  have n40 := h1.2.1
  have inner : ∀ i, i < n → (∀ lo', lo' = [(0, Value.ref t), (1, .ref t2), (2, .int (nI (difB (fm (i + 1) X) M2))), (3, .int (nI (difC (fm (i + 1) X) M2))), (4, .int (nI (i + 1)))] → mv_V G jX1_differencesFrom (d + 2) 7 lo' [] h 0 0 R) → ∀ m c, c + m = (X i).length → mv_V G jX1_differencesFrom (d + 2) 28 [(0, .ref t), (1, .ref t2), (2, .int (nI (difB (fm i X ++ (X i).take c) M2))), (3, .int (nI (difC (fm i X ++ (X i).take c) M2))), (4, .int (nI i)), (5, .ref (D i).1), (6, .int (nI c))] [] h 0 0 R := by
    intro i hi hnext m
    obtain ⟨f1, f2, f3⟩ := e8 i (by omega)
    have f3' := f3
    obtain ⟨⟨g1, g2, g3, g4, g5, g6, g7, g8, g9, g10, g11⟩, g12⟩ := f3
    induction m with
    | zero =>
      intro c hc
      refine v_iload (pc := 28) dX1_differencesFrom_28 rfl ?_
      refine v_aload (pc := 30) dX1_differencesFrom_30 rfl ?_
      refine g_I 2 1 (pc := 32) fX1_47 dX1_differencesFrom_32 rfl rfl (by assumption) (by assumption) ?_
      refine v_icmp_ge 91 (pc := 35) dX1_differencesFrom_35 (by decide) (fun hb => ?_) (fun hb => ?_)
      · refine v_iinc (pc := 91) dX1_differencesFrom_91 rfl (mv_inc _) rfl rfl (by decide) ?_
        refine v_goto 7 (pc := 94) dX1_differencesFrom_94 (by decide) ?_
        refine v_loc [0, 1, 2, 3, 4] rfl ?_
        have e : (X i).take c = X i := List.take_of_length_le (by omega)
        rw [e, ← fm_succ]
        exact hnext _ rfl
      · exact absurd ((nI_leI (by omega) (by omega)).mpr (by omega)) hb
    | succ m ih =>
      intro c hc
      have hcl : c < (X i).length := by omega
      have hget : (X i)[c]? = some (X i)[c] := List.getElem?_eq_getElem hcl
      obtain ⟨k1, k2⟩ := pgL_get f3' hget
      have ht : (X i).take (c + 1) = (X i).take c ++ [(X i)[c]] := by
        rw [List.take_succ, hget]; rfl
      generalize (X i)[c] = e at *
      refine v_iload (pc := 28) dX1_differencesFrom_28 rfl ?_
      refine v_aload (pc := 30) dX1_differencesFrom_30 rfl ?_
      refine g_I 2 1 (pc := 32) fX1_47 dX1_differencesFrom_32 rfl rfl (by assumption) (by assumption) ?_
      refine v_icmp_ge 91 (pc := 35) dX1_differencesFrom_35 (by decide) (fun hb => ?_) (fun hb => ?_)
      · have := (nI_leI (by omega) (by omega)).mp hb
        omega
      · refine v_aload (pc := 38) dX1_differencesFrom_38 rfl ?_
        refine g_R 0 1 (pc := 40) fX1_83 dX1_differencesFrom_40 rfl rfl (by assumption) (by assumption) (by assumption) ?_
        refine v_iload (pc := 43) dX1_differencesFrom_43 rfl ?_
        refine n_iald (c) _ (pc := 45) dX1_differencesFrom_45 (by assumption) (by assumption) rfl (by omega) (by decide) k1 ?_
        refine v_istore (pc := 46) dX1_differencesFrom_46 rfl rfl (by decide) ?_
        refine v_aload_n (pc := 48) dX1_differencesFrom_48 rfl rfl ?_
        refine v_iload (pc := 49) dX1_differencesFrom_49 rfl ?_
        refine v_callV 0 0 (pc := 51) kX1_87 dX1_differencesFrom_51 rfl (by assumption) (Nat.zero_le _) (Nat.zero_le _) (Nat.le_of_ble_eq_true rfl) (Nat.le_of_ble_eq_true rfl) ?_
        refine t_holds hT2 ?_
        have next := ih (c + 1) (by omega)
        rw [ht, ← List.append_assoc, difB_snoc, difC_snoc] at next
        by_cases ck : hasK M2 e.1 = true
        · rw [if_pos ck]
          rw [if_pos ck] at next
          refine v_if_eq 85 (pc := 54) dX1_differencesFrom_54 (by decide) (fun hb => ?_) (fun hb => ?_)
          · exact absurd hb (by decide)
          · refine v_iinc (pc := 57) dX1_differencesFrom_57 rfl (mv_inc _) rfl rfl (by decide) ?_
            refine v_iload_n (pc := 60) dX1_differencesFrom_60 rfl rfl ?_
            refine v_aload_n (pc := 61) dX1_differencesFrom_61 rfl rfl ?_
            refine v_iload (pc := 62) dX1_differencesFrom_62 rfl ?_
            refine v_callV 0 0 (pc := 64) kX1_91 dX1_differencesFrom_64 rfl (by assumption) (Nat.zero_le _) (Nat.zero_le _) (Nat.le_of_ble_eq_true rfl) (Nat.le_of_ble_eq_true rfl) ?_
            refine t_valueOf hT2 ?_
            refine v_aload (pc := 67) dX1_differencesFrom_67 rfl ?_
            refine v_iload (pc := 69) dX1_differencesFrom_69 rfl ?_
            refine v_callV 0 0 (pc := 71) kX1_39 dX1_differencesFrom_71 rfl (by assumption) (Nat.zero_le _) (Nat.zero_le _) (Nat.le_of_ble_eq_true rfl) (Nat.le_of_ble_eq_true rfl) ?_
            refine c_valueAt f3'.1 (by omega) ?_
            rw [k2]
            refine v_lcmp (pc := 74) dX1_differencesFrom_74 ?_
            refine v_if_ne 82 (pc := 75) dX1_differencesFrom_75 (by decide) (fun hb => ?_) (fun hb => ?_)
            · have cv : ¬ valK M2 e.1 = e.2 := fun q => hb (lg_cmp0.mpr q)
              rw [if_pos ⟨ck, cv⟩] at next
              refine v_iconst (pc := 82) (v := 1) dX1_differencesFrom_82 (by decide) ?_
              refine v_iadd (pc := 83) dX1_differencesFrom_83 ?_
              refine v_eqi (nI_succ _).symm ?_
              refine v_istore_n (pc := 84) dX1_differencesFrom_84 rfl rfl rfl (by decide) ?_
              refine v_iinc (pc := 85) dX1_differencesFrom_85 rfl (mv_inc _) rfl rfl (by decide) ?_
              refine v_goto 28 (pc := 88) dX1_differencesFrom_88 (by decide) ?_
              refine v_loc [0, 1, 2, 3, 4, 5, 6] rfl ?_
              exact next
            · have cv : valK M2 e.1 = e.2 := lg_cmp0.mp hb
              rw [if_neg (fun q => q.2 cv)] at next
              refine v_iconst (pc := 78) (v := 0) dX1_differencesFrom_78 (by decide) ?_
              refine v_goto 83 (pc := 79) dX1_differencesFrom_79 (by decide) ?_
              refine v_iadd (pc := 83) dX1_differencesFrom_83 ?_
              refine v_eqi (y := nI (difC (fm i X ++ (X i).take c) M2)) (Int32.add_zero _) ?_
              refine v_istore_n (pc := 84) dX1_differencesFrom_84 rfl rfl rfl (by decide) ?_
              refine v_iinc (pc := 85) dX1_differencesFrom_85 rfl (mv_inc _) rfl rfl (by decide) ?_
              refine v_goto 28 (pc := 88) dX1_differencesFrom_88 (by decide) ?_
              refine v_loc [0, 1, 2, 3, 4, 5, 6] rfl ?_
              exact next
        · rw [if_neg ck]
          rw [if_neg ck, if_neg (fun q => ck q.1)] at next
          refine v_if_eq 85 (pc := 54) dX1_differencesFrom_54 (by decide) (fun hb => ?_) (fun hb => ?_)
          · refine v_iinc (pc := 85) dX1_differencesFrom_85 rfl (mv_inc _) rfl rfl (by decide) ?_
            refine v_goto 28 (pc := 88) dX1_differencesFrom_88 (by decide) ?_
            refine v_loc [0, 1, 2, 3, 4, 5, 6] rfl ?_
            exact next
          · exact absurd rfl hb
  have outer : ∀ m i, i + m = n → mv_V G jX1_differencesFrom (d + 2) 7 [(0, .ref t), (1, .ref t2), (2, .int (nI (difB (fm i X) M2))), (3, .int (nI (difC (fm i X) M2))), (4, .int (nI i))] [] h 0 0 R := by
    intro m
    induction m with
    | zero =>
      intro i hm
      have ei : i = n := by omega
      subst ei
      refine v_iload (pc := 7) dX1_differencesFrom_7 rfl ?_
      refine v_aload_n (pc := 9) dX1_differencesFrom_9 rfl rfl ?_
      refine g_I 101 2 (pc := 10) fX1_18 dX1_differencesFrom_10 rfl rfl (by assumption) (by assumption) ?_
      refine v_icmp_ge 97 (pc := 13) dX1_differencesFrom_13 (by decide) (fun hb => ?_) (fun hb => ?_)
      · rw [h3]
        have q1 := difB_le M M2
        have q2 := difB_sym u1 u2
        have q3 := difB_le M2 M
        refine v_aload_n (pc := 97) dX1_differencesFrom_97 rfl rfl ?_
        refine g_I 102 2 (pc := 98) fX1_22 dX1_differencesFrom_98 rfl rfl (by assumption) (by assumption) ?_
        refine v_iload_n (pc := 101) dX1_differencesFrom_101 rfl rfl ?_
        refine v_isub (pc := 102) dX1_differencesFrom_102 ?_
        refine v_eqi (pk_sub q1) ?_
        refine v_aload_n (pc := 103) dX1_differencesFrom_103 rfl rfl ?_
        refine g_I 102 2 (pc := 104) fX1_22 dX1_differencesFrom_104 rfl rfl (by assumption) (by assumption) ?_
        refine v_iload_n (pc := 107) dX1_differencesFrom_107 rfl rfl ?_
        refine v_isub (pc := 108) dX1_differencesFrom_108 ?_
        refine v_eqi (pk_sub (by omega)) ?_
        refine v_iadd (pc := 109) dX1_differencesFrom_109 ?_
        refine v_eqi (nI_add _ _) ?_
        refine v_iload_n (pc := 110) dX1_differencesFrom_110 rfl rfl ?_
        refine v_iadd (pc := 111) dX1_differencesFrom_111 ?_
        refine v_eqi (nI_add _ _) ?_
        rw [difN_eq u1 u2]
        refine v_iret (pc := 112) dX1_differencesFrom_112 rfl ?_
        exact hR
      · exact absurd ((nI_leI (by omega) (by omega)).mpr (by omega)) hb
    | succ m ih =>
      intro i hm
      obtain ⟨f1, f2, f3⟩ := e8 i (by omega)
      refine v_iload (pc := 7) dX1_differencesFrom_7 rfl ?_
      refine v_aload_n (pc := 9) dX1_differencesFrom_9 rfl rfl ?_
      refine g_I 101 2 (pc := 10) fX1_18 dX1_differencesFrom_10 rfl rfl (by assumption) (by assumption) ?_
      refine v_icmp_ge 97 (pc := 13) dX1_differencesFrom_13 (by decide) (fun hb => ?_) (fun hb => ?_)
      · have := (nI_leI (by omega) (by omega)).mp hb
        omega
      · refine v_aload_n (pc := 16) dX1_differencesFrom_16 rfl rfl ?_
        refine g_R 100 2 (pc := 17) fX1_11 dX1_differencesFrom_17 rfl rfl (by assumption) (by assumption) (by assumption) ?_
        refine v_iload (pc := 20) dX1_differencesFrom_20 rfl ?_
        refine n_aald55 (i) _ (pc := 22) dX1_differencesFrom_22 (by assumption) (by assumption) rfl (by omega) (by decide) f1 (by assumption) ?_
        refine v_astore (pc := 23) dX1_differencesFrom_23 rfl rfl (by decide) ?_
        refine v_iconst (pc := 25) (v := 0) dX1_differencesFrom_25 (by decide) ?_
        refine v_istore (pc := 26) dX1_differencesFrom_26 rfl rfl (by decide) ?_
        have q := inner i (by omega) (fun lo' hlo => by rw [hlo]; exact ih (i + 1) (by omega)) (X i).length 0 (by omega)
        rw [List.take_zero, List.append_nil] at q
        exact q
  refine v_iconst (pc := 0) (v := 0) dX1_differencesFrom_0 (by decide) ?_
  refine v_istore_n (pc := 1) dX1_differencesFrom_1 rfl rfl rfl (by decide) ?_
  refine v_iconst (pc := 2) (v := 0) dX1_differencesFrom_2 (by decide) ?_
  refine v_istore_n (pc := 3) dX1_differencesFrom_3 rfl rfl rfl (by decide) ?_
  refine v_iconst (pc := 4) (v := 0) dX1_differencesFrom_4 (by decide) ?_
  refine v_istore (pc := 5) dX1_differencesFrom_5 rfl rfl (by decide) ?_
  exact outer n 0 (by omega)
end TDF
