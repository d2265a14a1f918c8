/-! LazyPagesModel: differ, crash. -/
section MDF
variable {G : mv_G} {d : Nat} {h h' : mh_T} {S : Nat → Prop} {mo ka va za sa ki fi la aa : Nat} {V : Nat → List En} {sv : Nat → Bool} {nm nk : Nat} {v v2 a b key : Int32} {y : Int64} {R : mv_O → mh_T → Prop}
theorem flt_snoc (p : En → Bool) (L : List En) (e : En) : ((L ++ [e]).filter p).length = (L.filter p).length + (if p e = true then 1 else 0) := by
  rw [List.filter_append, List.length_append]
  by_cases c : p e = true
  · simp [c]
  · simp [c]
set_option maxHeartbeats 4000000 in
set_option maxRecDepth 100000 in
theorem w_differ (hm : md h S mo ka va za sa ki fi la aa V sv nm nk) (h1 : ∀ i j, isR v sv i → isR v2 sv j → ∀ h', md h' S mo ka va za sa ki fi la aa V sv nm nk → SF S h h' → mh_fI h' 300 mo = 0 → R (.inl (some (.int (nI (difN (V i) (V j)))))) h') (h0 : (∀ j, ¬ isR v sv j) ∨ (∀ j, ¬ isR v2 sv j) → ∀ h', md h' S mo ka va za sa ki fi la aa V sv nm nk → SF S h h' → mh_fI h' 300 mo = 1 → R (.inl (some (.int 0))) h') : mv_V G jX3_differ (d + 9) 0 [(0, .ref mo), (1, .int v), (2, .int v2)] [] h 0 0 R := by
  have e1 := hm.1.1.1
  have fail : ((∀ j, ¬ isR v sv j) ∨ (∀ j, ¬ isR v2 sv j)) → ∀ x3 x4 : Int32, mv_V G jX3_differ (d + 9) 23 [(0, .ref mo), (1, .int v), (2, .int v2), (3, .int x3), (4, .int x4)] [.ref mo] h 0 0 R := by
    intro hno x3 x4
    refine v_iconst (pc := 23) (v := 1) dX3_differ_23 (by decide) ?_
    refine v_goto 28 (pc := 24) dX3_differ_24 (by decide) ?_
    refine p_I 300 4 (pc := 28) fX3_37 dX3_differ_28 rfl rfl (by assumption) ?_
    obtain ⟨q1, q2, q3⟩ := md_thr (x := 1) hm
    generalize mh_sfI h 300 mo 1 = hc at *
    have e2 := q1.1.1.1
    refine v_aload_n (pc := 31) dX3_differ_31 rfl rfl ?_
    refine g_I 300 4 (pc := 32) fX3_37 dX3_differ_32 rfl rfl (by assumption) (by assumption) ?_
    refine v_if_le 40 (pc := 35) dX3_differ_35 (by decide) (fun hb => ?_) (fun hb => ?_)
    · exact absurd hb (by decide)
    · refine v_iconst (pc := 38) (v := 0) dX3_differ_38 (by decide) ?_
      refine v_iret (pc := 39) dX3_differ_39 rfl ?_
      exact h0 hno hc q1 q2 q3
  have main : ∀ i j, isR v sv i → isR v2 sv j → mv_V G jX3_differ (d + 9) 27 [(0, .ref mo), (1, .int v), (2, .int v2), (3, .int (nI i)), (4, .int (nI j))] [.ref mo] h 0 0 R := by
    intro i j hi hj
    have i5 := isR_lt hi
    have j5 := isR_lt hj
    refine v_iconst (pc := 27) (v := 0) dX3_differ_27 (by decide) ?_
    refine p_I 300 4 (pc := 28) fX3_37 dX3_differ_28 rfl rfl (by assumption) ?_
    obtain ⟨q1, q2, q3⟩ := md_thr (x := 0) hm
    generalize mh_sfI h 300 mo 0 = hc at *
    have fin := h1 i j hi hj hc q1 q2 q3
    clear h1 h0 fail hm
    have q0 := q1.1
    obtain ⟨⟨e2, ⟨f1, f2, f3, _⟩, ⟨n1, n2, n3, _⟩, ⟨k1, k2, k3, _⟩, ⟨l1, l2, l3, _⟩, _⟩, hrows⟩ := id q0
    have wi := hrows i i5
    have wj := hrows j j5
    have wi1 := wi.1
    have wi2 := wi.2.1
    have wj1 := wj.1
    have wj2 := wj.2.1
    clear hrows q1 q2
    have second : ∀ m c, c + m = (V j).length → mv_V G jX3_differ (d + 9) 128 [(0, .ref mo), (1, .int v), (2, .int v2), (3, .int (nI i)), (4, .int (nI j)), (5, .int (nI (((V i).filter (dfB (V j))).length + (((V j).take c).filter (nfB (V i))).length))), (6, .int (nI c))] [] hc 0 0 R := by
      intro m
      induction m with
      | zero =>
        intro c hcl
        refine v_iload (pc := 128) dX3_differ_128 rfl ?_
        refine v_aload_n (pc := 130) dX3_differ_130 rfl rfl ?_
        refine g_R 303 4 (pc := 131) fX3_17 dX3_differ_131 rfl rfl (by assumption) (by assumption) (by assumption) ?_
        refine v_iload (pc := 134) dX3_differ_134 rfl ?_
        refine n_iald (j) _ (pc := 136) dX3_differ_136 (by assumption) (by assumption) rfl (by omega) (by decide) wj1 ?_
        refine v_icmp_ge 179 (pc := 137) dX3_differ_137 (by decide) (fun hb => ?_) (fun hb => ?_)
        · rw [List.take_of_length_le (show (V j).length ≤ c by omega)]
          refine v_iload (pc := 179) dX3_differ_179 rfl ?_
          refine v_iret (pc := 181) dX3_differ_181 rfl ?_
          exact fin
        · exact absurd ((nI_leI (by omega) (by omega)).mpr (by omega)) hb
      | succ m ih =>
        intro c hcl
        have hil : c < (V j).length := by omega
        have hget : (V j)[c]? = some (V j)[c] := List.getElem?_eq_getElem hil
        obtain ⟨g1, g2⟩ := mrow_get wj hget
        have nx := ih (c + 1) (by omega)
        have ht : (V j).take (c + 1) = (V j).take c ++ [(V j)[c]] := by
          rw [List.take_succ, hget]; rfl
        rw [ht, flt_snoc] at nx
        generalize (V j)[c] = e at *
        refine v_iload (pc := 128) dX3_differ_128 rfl ?_
        refine v_aload_n (pc := 130) dX3_differ_130 rfl rfl ?_
        refine g_R 303 4 (pc := 131) fX3_17 dX3_differ_131 rfl rfl (by assumption) (by assumption) (by assumption) ?_
        refine v_iload (pc := 134) dX3_differ_134 rfl ?_
        refine n_iald (j) _ (pc := 136) dX3_differ_136 (by assumption) (by assumption) rfl (by omega) (by decide) wj1 ?_
        refine v_icmp_ge 179 (pc := 137) dX3_differ_137 (by decide) (fun hb => ?_) (fun hb => ?_)
        · have := (nI_leI (by omega) (by omega)).mp hb
          omega
        · refine v_aload_n (pc := 140) dX3_differ_140 rfl rfl ?_
          refine v_iload_n (pc := 141) dX3_differ_141 rfl rfl ?_
          refine v_aload_n (pc := 142) dX3_differ_142 rfl rfl ?_
          refine g_R 301 4 (pc := 143) fX3_7 dX3_differ_143 rfl rfl (by assumption) (by assumption) (by assumption) ?_
          refine v_sipush (pc := 146) (v := 600) dX3_differ_146 (by decide) ?_
          refine v_iload (pc := 149) dX3_differ_149 rfl ?_
          refine v_imul (pc := 151) dX3_differ_151 ?_
          refine v_iload (pc := 152) dX3_differ_152 rfl ?_
          refine v_iadd (pc := 154) dX3_differ_154 ?_
          refine v_eqi (mx_ix j c) ?_
          refine n_iald (600 * j + c) _ (pc := 155) dX3_differ_155 (by assumption) (by assumption) rfl (by omega) (by decide) g1 ?_
          refine v_callV 0 0 (pc := 156) kX3_45 dX3_differ_156 rfl (by assumption) (Nat.zero_le _) (Nat.zero_le _) (Nat.le_of_ble_eq_true rfl) (Nat.le_of_ble_eq_true rfl) ?_
          refine m_isIn q0 i5 ?_
          by_cases ck : hasK (V i) e.1 = true
          · rw [if_pos ck]
            rw [if_neg (by simp [nfB, ck]), Nat.add_zero] at nx
            refine v_if_eq 167 (pc := 159) dX3_differ_159 (by decide) (fun hb => ?_) (fun hb => ?_)
            · exact absurd hb (by decide)
            · refine v_iload (pc := 162) dX3_differ_162 rfl ?_
              refine v_goto 171 (pc := 164) dX3_differ_164 (by decide) ?_
              refine v_istore (pc := 171) dX3_differ_171 rfl rfl (by decide) ?_
              refine v_iinc (pc := 173) dX3_differ_173 rfl (mv_inc _) rfl rfl (by decide) ?_
              refine v_goto 128 (pc := 176) dX3_differ_176 (by decide) ?_
              exact nx
          · rw [if_neg ck]
            rw [if_pos (by simp [nfB, ck]), ← Nat.add_assoc, nI_succ] at nx
            refine v_if_eq 167 (pc := 159) dX3_differ_159 (by decide) (fun hb => ?_) (fun hb => ?_)
            · refine v_iload (pc := 167) dX3_differ_167 rfl ?_
              refine v_iconst (pc := 169) (v := 1) dX3_differ_169 (by decide) ?_
              refine v_iadd (pc := 170) dX3_differ_170 ?_
              refine v_istore (pc := 171) dX3_differ_171 rfl rfl (by decide) ?_
              refine v_iinc (pc := 173) dX3_differ_173 rfl (mv_inc _) rfl rfl (by decide) ?_
              refine v_goto 128 (pc := 176) dX3_differ_176 (by decide) ?_
              exact nx
            · exact absurd rfl hb
    have first : ∀ m c lo0, c + m = (V i).length → (lo0 = [(0, .ref mo), (1, .int v), (2, .int v2), (3, .int (nI i)), (4, .int (nI j)), (5, .int (nI (((V i).take c).filter (dfB (V j))).length)), (6, .int (nI c))]) → mv_V G jX3_differ (d + 9) 46 lo0 [] hc 0 0 R := by
      intro m
      induction m with
      | zero =>
        intro c lo0 hcl hlo
        subst hlo
        refine v_iload (pc := 46) dX3_differ_46 rfl ?_
        refine v_aload_n (pc := 48) dX3_differ_48 rfl rfl ?_
        refine g_R 303 4 (pc := 49) fX3_17 dX3_differ_49 rfl rfl (by assumption) (by assumption) (by assumption) ?_
        refine v_iload_n (pc := 52) dX3_differ_52 rfl rfl ?_
        refine n_iald (i) _ (pc := 53) dX3_differ_53 (by assumption) (by assumption) rfl (by omega) (by decide) wi1 ?_
        refine v_icmp_ge 125 (pc := 54) dX3_differ_54 (by decide) (fun hb => ?_) (fun hb => ?_)
        · rw [List.take_of_length_le (show (V i).length ≤ c by omega)]
          refine v_iconst (pc := 125) (v := 0) dX3_differ_125 (by decide) ?_
          refine v_istore (pc := 126) dX3_differ_126 rfl rfl (by decide) ?_
          exact second (V j).length 0 (by omega)
        · exact absurd ((nI_leI (by omega) (by omega)).mpr (by omega)) hb
      | succ m ih =>
        intro c lo0 hcl hlo
        subst hlo
        have hil : c < (V i).length := by omega
        have hget : (V i)[c]? = some (V i)[c] := List.getElem?_eq_getElem hil
        obtain ⟨g1, g2⟩ := mrow_get wi hget
        have nx := ih (c + 1) _ (by omega) rfl
        have ht : (V i).take (c + 1) = (V i).take c ++ [(V i)[c]] := by
          rw [List.take_succ, hget]; rfl
        rw [ht, flt_snoc] at nx
        generalize (V i)[c] = e at *
        refine v_iload (pc := 46) dX3_differ_46 rfl ?_
        refine v_aload_n (pc := 48) dX3_differ_48 rfl rfl ?_
        refine g_R 303 4 (pc := 49) fX3_17 dX3_differ_49 rfl rfl (by assumption) (by assumption) (by assumption) ?_
        refine v_iload_n (pc := 52) dX3_differ_52 rfl rfl ?_
        refine n_iald (i) _ (pc := 53) dX3_differ_53 (by assumption) (by assumption) rfl (by omega) (by decide) wi1 ?_
        refine v_icmp_ge 125 (pc := 54) dX3_differ_54 (by decide) (fun hb => ?_) (fun hb => ?_)
        · have := (nI_leI (by omega) (by omega)).mp hb
          omega
        · refine v_aload_n (pc := 57) dX3_differ_57 rfl rfl ?_
          refine g_R 301 4 (pc := 58) fX3_7 dX3_differ_58 rfl rfl (by assumption) (by assumption) (by assumption) ?_
          refine v_sipush (pc := 61) (v := 600) dX3_differ_61 (by decide) ?_
          refine v_iload_n (pc := 64) dX3_differ_64 rfl rfl ?_
          refine v_imul (pc := 65) dX3_differ_65 ?_
          refine v_iload (pc := 66) dX3_differ_66 rfl ?_
          refine v_iadd (pc := 68) dX3_differ_68 ?_
          refine v_eqi (mx_ix i c) ?_
          refine n_iald (600 * i + c) _ (pc := 69) dX3_differ_69 (by assumption) (by assumption) rfl (by omega) (by decide) g1 ?_
          refine v_istore (pc := 70) dX3_differ_70 rfl rfl (by decide) ?_
          refine v_aload_n (pc := 72) dX3_differ_72 rfl rfl ?_
          refine v_iload (pc := 73) dX3_differ_73 rfl ?_
          refine v_iload (pc := 75) dX3_differ_75 rfl ?_
          refine v_callV 0 0 (pc := 77) kX3_45 dX3_differ_77 rfl (by assumption) (Nat.zero_le _) (Nat.zero_le _) (Nat.le_of_ble_eq_true rfl) (Nat.le_of_ble_eq_true rfl) ?_
          refine m_isIn q0 j5 ?_
          by_cases ck : hasK (V j) e.1 = true
          · rw [if_pos ck]
            refine v_if_eq 108 (pc := 80) dX3_differ_80 (by decide) (fun hb => ?_) (fun hb => ?_)
            · exact absurd hb (by decide)
            · refine v_aload_n (pc := 83) dX3_differ_83 rfl rfl ?_
              refine v_iload (pc := 84) dX3_differ_84 rfl ?_
              refine v_iload (pc := 86) dX3_differ_86 rfl ?_
              refine v_callV 0 0 (pc := 88) kX3_57 dX3_differ_88 rfl (by assumption) (Nat.zero_le _) (Nat.zero_le _) (Nat.le_of_ble_eq_true rfl) (Nat.le_of_ble_eq_true rfl) ?_
              refine m_valueIn q0 j5 ?_
              refine v_aload_n (pc := 91) dX3_differ_91 rfl rfl ?_
              refine g_R 302 4 (pc := 92) fX3_13 dX3_differ_92 rfl rfl (by assumption) (by assumption) (by assumption) ?_
              refine v_sipush (pc := 95) (v := 600) dX3_differ_95 (by decide) ?_
              refine v_iload_n (pc := 98) dX3_differ_98 rfl rfl ?_
              refine v_imul (pc := 99) dX3_differ_99 ?_
              refine v_iload (pc := 100) dX3_differ_100 rfl ?_
              refine v_iadd (pc := 102) dX3_differ_102 ?_
              refine v_eqi (mx_ix i c) ?_
              refine n_lald (600 * i + c) _ (pc := 103) dX3_differ_103 (by assumption) (by assumption) rfl (by omega) (by decide) g2 ?_
              refine v_lcmp (pc := 104) dX3_differ_104 ?_
              refine v_if_eq 115 (pc := 105) dX3_differ_105 (by decide) (fun hb => ?_) (fun hb => ?_)
              · have cv : valK (V j) e.1 = e.2 := lg_cmp0.mp hb
                rw [if_neg (by simp [dfB, ck, cv]), Nat.add_zero] at nx
                refine v_iload (pc := 115) dX3_differ_115 rfl ?_
                refine v_istore (pc := 117) dX3_differ_117 rfl rfl (by decide) ?_
                refine v_iinc (pc := 119) dX3_differ_119 rfl (mv_inc _) rfl rfl (by decide) ?_
                refine v_goto 46 (pc := 122) dX3_differ_122 (by decide) ?_
                refine v_loc [0, 1, 2, 3, 4, 5, 6] rfl ?_
                exact nx
              · have cv : ¬ valK (V j) e.1 = e.2 := fun q => hb (lg_cmp0.mpr q)
                rw [if_pos (by simp [dfB, ck, cv]), nI_succ] at nx
                refine v_iload (pc := 108) dX3_differ_108 rfl ?_
                refine v_iconst (pc := 110) (v := 1) dX3_differ_110 (by decide) ?_
                refine v_iadd (pc := 111) dX3_differ_111 ?_
                refine v_goto 117 (pc := 112) dX3_differ_112 (by decide) ?_
                refine v_istore (pc := 117) dX3_differ_117 rfl rfl (by decide) ?_
                refine v_iinc (pc := 119) dX3_differ_119 rfl (mv_inc _) rfl rfl (by decide) ?_
                refine v_goto 46 (pc := 122) dX3_differ_122 (by decide) ?_
                refine v_loc [0, 1, 2, 3, 4, 5, 6] rfl ?_
                exact nx
          · rw [if_neg ck]
            rw [if_pos (by simp [dfB, ck]), nI_succ] at nx
            refine v_if_eq 108 (pc := 80) dX3_differ_80 (by decide) (fun hb => ?_) (fun hb => ?_)
            · refine v_iload (pc := 108) dX3_differ_108 rfl ?_
              refine v_iconst (pc := 110) (v := 1) dX3_differ_110 (by decide) ?_
              refine v_iadd (pc := 111) dX3_differ_111 ?_
              refine v_goto 117 (pc := 112) dX3_differ_112 (by decide) ?_
              refine v_istore (pc := 117) dX3_differ_117 rfl rfl (by decide) ?_
              refine v_iinc (pc := 119) dX3_differ_119 rfl (mv_inc _) rfl rfl (by decide) ?_
              refine v_goto 46 (pc := 122) dX3_differ_122 (by decide) ?_
              refine v_loc [0, 1, 2, 3, 4, 5, 6] rfl ?_
              exact nx
            · exact absurd rfl hb
    refine v_aload_n (pc := 31) dX3_differ_31 rfl rfl ?_
    refine g_I 300 4 (pc := 32) fX3_37 dX3_differ_32 rfl rfl (by assumption) (by assumption) ?_
    refine v_if_le 40 (pc := 35) dX3_differ_35 (by decide) (fun hb => ?_) (fun hb => ?_)
    · refine v_iconst (pc := 40) (v := 0) dX3_differ_40 (by decide) ?_
      refine v_istore (pc := 41) dX3_differ_41 rfl rfl (by decide) ?_
      refine v_iconst (pc := 43) (v := 0) dX3_differ_43 (by decide) ?_
      refine v_istore (pc := 44) dX3_differ_44 rfl rfl (by decide) ?_
      exact first (V i).length 0 _ (by omega) rfl
    · exact absurd (by decide) hb
  refine v_aload_n (pc := 0) dX3_differ_0 rfl rfl ?_
  refine v_iload_n (pc := 1) dX3_differ_1 rfl rfl ?_
  refine v_callV 0 0 (pc := 2) kX3_79 dX3_differ_2 rfl (by assumption) (Nat.zero_le _) (Nat.zero_le _) (Nat.le_of_ble_eq_true rfl) (Nat.le_of_ble_eq_true rfl) ?_
  refine m_rowOf hm (fun i hi => ?_) (fun c => ?_)
  · refine v_istore_n (pc := 5) dX3_differ_5 rfl rfl rfl (by decide) ?_
    refine v_aload_n (pc := 6) dX3_differ_6 rfl rfl ?_
    refine v_iload_n (pc := 7) dX3_differ_7 rfl rfl ?_
    refine v_callV 0 0 (pc := 8) kX3_79 dX3_differ_8 rfl (by assumption) (Nat.zero_le _) (Nat.zero_le _) (Nat.le_of_ble_eq_true rfl) (Nat.le_of_ble_eq_true rfl) ?_
    refine m_rowOf hm (fun j hj => ?_) (fun c => ?_)
    · refine v_istore (pc := 11) dX3_differ_11 rfl rfl (by decide) ?_
      refine v_aload_n (pc := 13) dX3_differ_13 rfl rfl ?_
      refine v_iload_n (pc := 14) dX3_differ_14 rfl rfl ?_
      refine v_if_lt 23 (pc := 15) dX3_differ_15 (by decide) (fun hb => ?_) (fun hb => ?_)
      · exact absurd hb (nI_ge0 (by have := isR_lt hi; omega))
      · refine v_iload (pc := 18) dX3_differ_18 rfl ?_
        refine v_if_ge 27 (pc := 20) dX3_differ_20 (by decide) (fun hb => ?_) (fun hb => ?_)
        · exact main i j hi hj
        · exact absurd ((nI_leI (a := 0) (by omega) (by have := isR_lt hj; omega)).mpr (Nat.zero_le j)) hb
    · refine v_istore (pc := 11) dX3_differ_11 rfl rfl (by decide) ?_
      refine v_aload_n (pc := 13) dX3_differ_13 rfl rfl ?_
      refine v_iload_n (pc := 14) dX3_differ_14 rfl rfl ?_
      refine v_if_lt 23 (pc := 15) dX3_differ_15 (by decide) (fun hb => ?_) (fun hb => ?_)
      · exact absurd hb (nI_ge0 (by have := isR_lt hi; omega))
      · refine v_iload (pc := 18) dX3_differ_18 rfl ?_
        refine v_if_ge 27 (pc := 20) dX3_differ_20 (by decide) (fun hb => ?_) (fun hb => ?_)
        · exact absurd hb (by decide)
        · exact fail (Or.inr c) _ _
  · refine v_istore_n (pc := 5) dX3_differ_5 rfl rfl rfl (by decide) ?_
    refine v_aload_n (pc := 6) dX3_differ_6 rfl rfl ?_
    refine v_iload_n (pc := 7) dX3_differ_7 rfl rfl ?_
    refine v_callV 0 0 (pc := 8) kX3_79 dX3_differ_8 rfl (by assumption) (Nat.zero_le _) (Nat.zero_le _) (Nat.le_of_ble_eq_true rfl) (Nat.le_of_ble_eq_true rfl) ?_
    refine m_rowOf hm (fun j hj => ?_) (fun c2 => ?_)
    · refine v_istore (pc := 11) dX3_differ_11 rfl rfl (by decide) ?_
      refine v_aload_n (pc := 13) dX3_differ_13 rfl rfl ?_
      refine v_iload_n (pc := 14) dX3_differ_14 rfl rfl ?_
      refine v_if_lt 23 (pc := 15) dX3_differ_15 (by decide) (fun hb => ?_) (fun hb => ?_)
      · exact fail (Or.inl c) _ _
      · exact absurd (by decide) hb
    · refine v_istore (pc := 11) dX3_differ_11 rfl rfl (by decide) ?_
      refine v_aload_n (pc := 13) dX3_differ_13 rfl rfl ?_
      refine v_iload_n (pc := 14) dX3_differ_14 rfl rfl ?_
      refine v_if_lt 23 (pc := 15) dX3_differ_15 (by decide) (fun hb => ?_) (fun hb => ?_)
      · exact fail (Or.inl c) _ _
      · exact absurd (by decide) hb
end MDF
