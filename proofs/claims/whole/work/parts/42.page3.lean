/-! LazyPages$Page: raise, sum, order. -/
/-- the sum of n values of f from i on, and acc -/
def ps (f : Nat → Int64) : Nat → Nat → Int64 → Int64
  | 0, _, acc => acc
  | n + 1, i, acc => ps f n (i + 1) (acc + f i)
section PGX
variable {G : mv_G} {d : Nat} {h : mh_T} {p k v u : Nat} {key : Int32} {R : mv_O → mh_T → Prop}
set_option maxHeartbeats 4000000 in
set_option maxRecDepth 100000 in
theorem c_raiseIn {to : Int32} {x : Int64} (hp : pg_at h p k v u)
    (hR1 : pb (mh_aI h k) u key = 0 → pn (mh_aI h k) u to = u → R (.inl none) (mh_pg h p k v (mh_fI h 2 p) (mh_fI h 3 p) (mh_fI h 4 p) (mh_fJ h 5 p + x) (mh_aI h k) (mh_aJ h v)))
    (hR2 : ¬ (pb (mh_aI h k) u key = 0 ∧ pn (mh_aI h k) u to = u) → R (.inl none) (mh_pg h p k v (mh_fI h 2 p) (mh_fI h 3 p) (mh_fI h 4 p) (mh_fJ h 5 p) (mh_aI h k) (fun j => if pb (mh_aI h k) u key ≤ j ∧ j < pn (mh_aI h k) u to then mh_aJ h v j + x else mh_aJ h v j))) :
    mv_V G jX0_raiseIn (d + 2) 0 [(0, .ref p), (1, .int key), (2, .int to), (3, .long x)] [] h 0 0 R := by
  have hp' := hp
  obtain ⟨e1, e2, e3, e4, e5, e6, e7, e8, e9, e10, e11⟩ := hp
  have q1 := pb_le (mh_aI h k) u key
  have q2 := pn_le (mh_aI h k) u to
  refine v_aload_n (pc := 0) dX0_raiseIn_0 rfl rfl ?_
  refine v_iload_n (pc := 1) dX0_raiseIn_1 rfl rfl ?_
  refine v_callV 0 0 (pc := 2) kX0_37 dX0_raiseIn_2 rfl (by assumption) (Nat.zero_le _) (Nat.zero_le _) (Nat.le_of_ble_eq_true rfl) (Nat.le_of_ble_eq_true rfl) ?_
  refine c_below hp' ?_
  generalize ha : pb (mh_aI h k) u key = a at *
  refine v_istore (pc := 5) dX0_raiseIn_5 rfl rfl (by decide) ?_
  refine v_aload_n (pc := 7) dX0_raiseIn_7 rfl rfl ?_
  refine v_iload_n (pc := 8) dX0_raiseIn_8 rfl rfl ?_
  refine v_callV 0 0 (pc := 9) kX0_45 dX0_raiseIn_9 rfl (by assumption) (Nat.zero_le _) (Nat.zero_le _) (Nat.le_of_ble_eq_true rfl) (Nat.le_of_ble_eq_true rfl) ?_
  refine c_notAbove hp' ?_
  generalize hb9 : pn (mh_aI h k) u to = b at *
  have loop : ∀ n i, b - i = n → a ≤ i → (i ≤ b ∨ i = a) → ¬ (a = 0 ∧ b = u) → mv_V G jX0_raiseIn (d + 2) 43 [(0, .ref p), (1, .int key), (2, .int to), (3, .long x), (5, .int (nI a)), (6, .int (nI b)), (7, .int (nI i))] [] (mh_wJ h v (fun j => if a ≤ j ∧ j < i then mh_aJ h v j + x else mh_aJ h v j)) 0 0 R := by
    intro n
    induction n with
    | zero =>
      intro i h1 h2 h3 h4
      refine v_iload (pc := 43) dX0_raiseIn_43 rfl ?_
      refine v_iload (pc := 45) dX0_raiseIn_45 rfl ?_
      refine v_icmp_ge 67 (pc := 47) dX0_raiseIn_47 (by decide) (fun hb => ?_) (fun hb => ?_)
      · refine v_vret (pc := 67) dX0_raiseIn_67 rfl ?_
        refine mv_hr (hR2 h4) ?_
        refine mh_pg_eq (fun _ => rfl) (fun _ => rfl) (fun _ _ => rfl) (fun _ _ => rfl) rfl rfl rfl (fun _ _ _ => rfl) rfl (fun _ _ _ => rfl) (fun _ => rfl) (fun _ _ _ => rfl) ?_ ?_
        · intro j
          rw [mh_aJ_wJ, if_pos rfl]
          by_cases c : a ≤ j ∧ j < b
          · rw [if_pos c, if_pos (by omega)]
          · rw [if_neg c, if_neg (by omega)]
        · intro z j hz
          rw [mh_aJ_wJ, if_neg hz]
      · exact absurd ((nI_leI (by omega) (by omega)).mpr (by omega)) hb
    | succ n ih =>
      intro i h1 h2 h3 h4
      refine v_iload (pc := 43) dX0_raiseIn_43 rfl ?_
      refine v_iload (pc := 45) dX0_raiseIn_45 rfl ?_
      refine v_icmp_ge 67 (pc := 47) dX0_raiseIn_47 (by decide) (fun hb => ?_) (fun hb => ?_)
      · have := (nI_leI (by omega) (by omega)).mp hb
        omega
      · have q : mh_aJ (mh_wJ h v (fun j => if a ≤ j ∧ j < i then mh_aJ h v j + x else mh_aJ h v j)) v i = mh_aJ h v i := by simp [mh_aJ_wJ]
        refine v_aload_n (pc := 50) dX0_raiseIn_50 rfl rfl ?_
        refine g_R 1 1 (pc := 51) fX0_15 dX0_raiseIn_51 rfl rfl (by assumption) (by assumption) (by assumption) ?_
        refine v_iload (pc := 54) dX0_raiseIn_54 rfl ?_
        refine v_dup2 (pc := 56) dX0_raiseIn_56 rfl rfl ?_
        refine n_lald (i) _ (pc := 57) dX0_raiseIn_57 (by assumption) (by assumption) rfl (by omega) (by decide) q ?_
        refine v_lload_n (pc := 58) dX0_raiseIn_58 rfl rfl ?_
        refine v_ladd (pc := 59) dX0_raiseIn_59 ?_
        refine n_last (i) _ (pc := 60) dX0_raiseIn_60 (by assumption) (by assumption) rfl (by omega) (by decide) ?_
        refine v_iinc (pc := 61) dX0_raiseIn_61 rfl (mv_inc _) rfl rfl (by decide) ?_
        refine v_goto 43 (pc := 64) dX0_raiseIn_64 (by decide) ?_
        refine v_eqh ?_ (ih (i + 1) (by omega) (by omega) (by omega) h4)
        rw [mh_saJ_wJ]
        refine mh_wJ_congr (fun j => ?_)
        by_cases c1 : j = i
        · subst c1; rw [if_pos rfl, if_pos (by omega)]
        · rw [if_neg c1]
          by_cases c2 : a ≤ j ∧ j < i
          · rw [if_pos c2, if_pos (by omega)]
          · rw [if_neg c2, if_neg (by omega)]
  have out : ¬ (a = 0 ∧ b = u) → mv_V G jX0_raiseIn (d + 2) 39 [(0, .ref p), (1, .int key), (2, .int to), (3, .long x), (5, .int (nI a)), (6, .int (nI b))] [] h 0 0 R := by
    intro h4
    refine v_iload (pc := 39) dX0_raiseIn_39 rfl ?_
    refine v_istore (pc := 41) dX0_raiseIn_41 rfl rfl (by decide) ?_
    refine v_eqh ?_ (loop _ a rfl (Nat.le_refl _) (Or.inr rfl) h4)
    have e0 : (fun j => if a ≤ j ∧ j < a then mh_aJ h v j + x else mh_aJ h v j) = mh_aJ h v := by
      funext j; rw [if_neg (by omega)]
    rw [e0]
    exact (mh_wJ_id h v).symm
  refine v_istore (pc := 12) dX0_raiseIn_12 rfl rfl (by decide) ?_
  refine v_iload (pc := 14) dX0_raiseIn_14 rfl ?_
  refine v_if_ne 39 (pc := 16) dX0_raiseIn_16 (by decide) (fun hb => ?_) (fun hb => ?_)
  · refine out (fun z => hb ?_)
    rw [z.1]; rfl
  · have ea : a = 0 := by
      have : nI a = nI 0 := hb
      exact (nI_eq (by omega) (by omega)).mp this
    refine v_iload (pc := 19) dX0_raiseIn_19 rfl ?_
    refine v_aload_n (pc := 21) dX0_raiseIn_21 rfl rfl ?_
    refine g_I 2 1 (pc := 22) fX0_19 dX0_raiseIn_22 rfl rfl (by assumption) (by assumption) ?_
    refine v_icmp_ne 39 (pc := 25) dX0_raiseIn_25 (by decide) (fun hb => ?_) (fun hb => ?_)
    · refine out (fun z => hb ?_)
      rw [z.2]
    · have eb : b = u := (nI_eq (by omega) (by omega)).mp hb
      refine v_aload_n (pc := 28) dX0_raiseIn_28 rfl rfl ?_
      refine v_dup (pc := 29) dX0_raiseIn_29 rfl ?_
      refine g_J 5 1 (pc := 30) fX0_33 dX0_raiseIn_30 rfl rfl (by assumption) rfl ?_
      refine v_lload_n (pc := 33) dX0_raiseIn_33 rfl rfl ?_
      refine v_ladd (pc := 34) dX0_raiseIn_34 ?_
      refine p_J 5 1 (pc := 35) fX0_33 dX0_raiseIn_35 rfl rfl (by assumption) ?_
      refine v_vret (pc := 38) dX0_raiseIn_38 rfl ?_
      refine mv_hr (hR1 ea eb) ?_
      refine mh_pg_eq (fun _ => rfl) (fun _ => rfl) (fun _ _ => rfl) (fun _ _ => rfl) rfl rfl rfl (fun _ _ _ => rfl) ?_ ?_ (fun _ => rfl) (fun _ _ _ => rfl) (fun _ => rfl) (fun _ _ _ => rfl)
      · simp [mh_fJ_sfJ]
      · intro F z hF
        rw [mh_fJ_sfJ, if_neg (by omega)]
set_option maxHeartbeats 4000000 in
set_option maxRecDepth 100000 in
theorem c_sumIn {to : Int32} (hp : pg_at h p k v u) (hR : R (.inl (some (.long (ps (fun j => mh_aJ h v j + mh_fJ h 5 p) (pn (mh_aI h k) u to - pb (mh_aI h k) u key) (pb (mh_aI h k) u key) 0)))) h) : mv_V G jX0_sumIn (d + 2) 0 [(0, .ref p), (1, .int key), (2, .int to)] [] h 0 0 R := by
  have hp' := hp
  obtain ⟨e1, e2, e3, e4, e5, e6, e7, e8, e9, e10, e11⟩ := hp
  have q1 := pb_le (mh_aI h k) u key
  have q2 := pn_le (mh_aI h k) u to
  refine v_aload_n (pc := 0) dX0_sumIn_0 rfl rfl ?_
  refine v_iload_n (pc := 1) dX0_sumIn_1 rfl rfl ?_
  refine v_callV 0 0 (pc := 2) kX0_45 dX0_sumIn_2 rfl (by assumption) (Nat.zero_le _) (Nat.zero_le _) (Nat.le_of_ble_eq_true rfl) (Nat.le_of_ble_eq_true rfl) ?_
  refine c_notAbove hp' ?_
  generalize hb9 : pn (mh_aI h k) u to = b at *
  refine v_istore_n (pc := 5) dX0_sumIn_5 rfl rfl rfl (by decide) ?_
  refine v_lconst (pc := 6) (v := 0) dX0_sumIn_6 (by decide) ?_
  refine v_lstore (pc := 7) dX0_sumIn_7 rfl rfl rfl (by decide) ?_
  refine v_aload_n (pc := 9) dX0_sumIn_9 rfl rfl ?_
  refine v_iload_n (pc := 10) dX0_sumIn_10 rfl rfl ?_
  refine v_callV 0 0 (pc := 11) kX0_37 dX0_sumIn_11 rfl (by assumption) (Nat.zero_le _) (Nat.zero_le _) (Nat.le_of_ble_eq_true rfl) (Nat.le_of_ble_eq_true rfl) ?_
  refine c_below hp' ?_
  generalize ha : pb (mh_aI h k) u key = a at *
  have loop : ∀ n i acc, b - i = n → i ≤ 32 → R (.inl (some (.long (ps (fun j => mh_aJ h v j + mh_fJ h 5 p) n i acc)))) h → mv_V G jX0_sumIn (d + 2) 16 [(0, .ref p), (1, .int key), (2, .int to), (3, .int (nI b)), (4, .long acc), (6, .int (nI i))] [] h 0 0 R := by
    intro n
    induction n with
    | zero =>
      intro i acc h1 h2 h3
      refine v_iload (pc := 16) dX0_sumIn_16 rfl ?_
      refine v_iload_n (pc := 18) dX0_sumIn_18 rfl rfl ?_
      refine v_icmp_ge 39 (pc := 19) dX0_sumIn_19 (by decide) (fun hb => ?_) (fun hb => ?_)
      · refine v_lload (pc := 39) dX0_sumIn_39 rfl ?_
        refine v_lret (pc := 41) dX0_sumIn_41 rfl ?_
        exact h3
      · exact absurd ((nI_leI (by omega) (by omega)).mpr (by omega)) hb
    | succ n ih =>
      intro i acc h1 h2 h3
      refine v_iload (pc := 16) dX0_sumIn_16 rfl ?_
      refine v_iload_n (pc := 18) dX0_sumIn_18 rfl rfl ?_
      refine v_icmp_ge 39 (pc := 19) dX0_sumIn_19 (by decide) (fun hb => ?_) (fun hb => ?_)
      · have := (nI_leI (by omega) (by omega)).mp hb
        omega
      · refine v_lload (pc := 22) dX0_sumIn_22 rfl ?_
        refine v_aload_n (pc := 24) dX0_sumIn_24 rfl rfl ?_
        refine v_iload (pc := 25) dX0_sumIn_25 rfl ?_
        refine v_callV 0 0 (pc := 27) kX0_58 dX0_sumIn_27 rfl (by assumption) (Nat.zero_le _) (Nat.zero_le _) (Nat.le_of_ble_eq_true rfl) (Nat.le_of_ble_eq_true rfl) ?_
        refine c_valueAt hp' (by omega) ?_
        refine v_ladd (pc := 30) dX0_sumIn_30 ?_
        refine v_lstore (pc := 31) dX0_sumIn_31 rfl rfl rfl (by decide) ?_
        refine v_iinc (pc := 33) dX0_sumIn_33 rfl (mv_inc _) rfl rfl (by decide) ?_
        refine v_goto 16 (pc := 36) dX0_sumIn_36 (by decide) ?_
        exact ih (i + 1) _ (by omega) (by omega) h3
  refine v_istore (pc := 14) dX0_sumIn_14 rfl rfl (by decide) ?_
  exact loop _ a 0 rfl (by omega) hR
set_option maxHeartbeats 4000000 in
set_option maxRecDepth 100000 in
theorem c_inOrder (hp : pg_at h p k v u) (hlo : mh_fI h 3 p ≤ mh_fI h 4 p) (hin : ∀ j, j < u → mh_fI h 3 p ≤ mh_aI h k j ∧ mh_aI h k j ≤ mh_fI h 4 p) (hs : ∀ j, j + 1 < u → mh_aI h k j < mh_aI h k (j + 1)) (hR : R (.inl (some (.int 1))) h) : mv_V G jX0_isInOrder d 0 [(0, .ref p)] [] h 0 0 R := by
  obtain ⟨e1, e2, e3, e4, e5, e6, e7, e8, e9, e10, e11⟩ := hp
  have loop : ∀ n i, i + n = u → mv_V G jX0_isInOrder d 31 [(0, .ref p), (1, .int (nI i))] [] h 0 0 R := by
    intro n
    induction n with
    | zero =>
      intro i h1
      refine v_iload_n (pc := 31) dX0_isInOrder_31 rfl rfl ?_
      refine v_aload_n (pc := 32) dX0_isInOrder_32 rfl rfl ?_
      refine g_I 2 1 (pc := 33) fX0_19 dX0_isInOrder_33 rfl rfl (by assumption) (by assumption) ?_
      refine v_icmp_ge 96 (pc := 36) dX0_isInOrder_36 (by decide) (fun hb => ?_) (fun hb => ?_)
      · refine v_iconst (pc := 96) (v := 1) dX0_isInOrder_96 (by decide) ?_
        refine v_zret (pc := 97) dX0_isInOrder_97 rfl rfl ?_
        exact hR
      · exact absurd ((nI_leI (by omega) (by omega)).mpr (by omega)) hb
    | succ n ih =>
      intro i h1
      refine v_iload_n (pc := 31) dX0_isInOrder_31 rfl rfl ?_
      refine v_aload_n (pc := 32) dX0_isInOrder_32 rfl rfl ?_
      refine g_I 2 1 (pc := 33) fX0_19 dX0_isInOrder_33 rfl rfl (by assumption) (by assumption) ?_
      refine v_icmp_ge 96 (pc := 36) dX0_isInOrder_36 (by decide) (fun hb => ?_) (fun hb => ?_)
      · have := (nI_leI (by omega) (by omega)).mp hb
        omega
      · have next : mv_V G jX0_isInOrder d 90 [(0, .ref p), (1, .int (nI i))] [] h 0 0 R := by
          refine v_iinc (pc := 90) dX0_isInOrder_90 rfl (mv_inc _) rfl rfl (by decide) ?_
          refine v_goto 31 (pc := 93) dX0_isInOrder_93 (by decide) ?_
          exact ih (i + 1) (by omega)
        refine v_aload_n (pc := 39) dX0_isInOrder_39 rfl rfl ?_
        refine g_R 0 1 (pc := 40) fX0_9 dX0_isInOrder_40 rfl rfl (by assumption) (by assumption) (by assumption) ?_
        refine v_iload_n (pc := 43) dX0_isInOrder_43 rfl rfl ?_
        refine n_iald (i) _ (pc := 44) dX0_isInOrder_44 (by assumption) (by assumption) rfl (by omega) (by decide) rfl ?_
        refine v_aload_n (pc := 45) dX0_isInOrder_45 rfl rfl ?_
        refine g_I 3 1 (pc := 46) fX0_26 dX0_isInOrder_46 rfl rfl (by assumption) rfl ?_
        refine v_icmp_lt 65 (pc := 49) dX0_isInOrder_49 (by decide) (fun hb => ?_) (fun hb => ?_)
        · exact absurd hb (Int32.not_lt.mpr (hin i (by omega)).1)
        · refine v_aload_n (pc := 52) dX0_isInOrder_52 rfl rfl ?_
          refine g_R 0 1 (pc := 53) fX0_9 dX0_isInOrder_53 rfl rfl (by assumption) (by assumption) (by assumption) ?_
          refine v_iload_n (pc := 56) dX0_isInOrder_56 rfl rfl ?_
          refine n_iald (i) _ (pc := 57) dX0_isInOrder_57 (by assumption) (by assumption) rfl (by omega) (by decide) rfl ?_
          refine v_aload_n (pc := 58) dX0_isInOrder_58 rfl rfl ?_
          refine g_I 4 1 (pc := 59) fX0_30 dX0_isInOrder_59 rfl rfl (by assumption) rfl ?_
          refine v_icmp_le 67 (pc := 62) dX0_isInOrder_62 (by decide) (fun hb => ?_) (fun hb => ?_)
          · refine v_iload_n (pc := 67) dX0_isInOrder_67 rfl rfl ?_
            refine v_if_le 90 (pc := 68) dX0_isInOrder_68 (by decide) (fun hb => ?_) (fun hb => ?_)
            · exact next
            · obtain ⟨m, rfl⟩ : ∃ m, i = m + 1 := by
                cases i with
                | zero => exact absurd (show nI 0 ≤ 0 from by rw [nI_0]; exact Int32.le_refl _) hb
                | succ m => exact ⟨m, rfl⟩
              refine v_aload_n (pc := 71) dX0_isInOrder_71 rfl rfl ?_
              refine g_R 0 1 (pc := 72) fX0_9 dX0_isInOrder_72 rfl rfl (by assumption) (by assumption) (by assumption) ?_
              refine v_iload_n (pc := 75) dX0_isInOrder_75 rfl rfl ?_
              refine v_iconst (pc := 76) (v := 1) dX0_isInOrder_76 (by decide) ?_
              refine v_isub (pc := 77) dX0_isInOrder_77 ?_
              refine v_eqi (nI_pred m) ?_
              refine n_iald (m) _ (pc := 78) dX0_isInOrder_78 (by assumption) (by assumption) rfl (by omega) (by decide) rfl ?_
              refine v_aload_n (pc := 79) dX0_isInOrder_79 rfl rfl ?_
              refine g_R 0 1 (pc := 80) fX0_9 dX0_isInOrder_80 rfl rfl (by assumption) (by assumption) (by assumption) ?_
              refine v_iload_n (pc := 83) dX0_isInOrder_83 rfl rfl ?_
              refine n_iald (m + 1) _ (pc := 84) dX0_isInOrder_84 (by assumption) (by assumption) rfl (by omega) (by decide) rfl ?_
              refine v_icmp_lt 90 (pc := 85) dX0_isInOrder_85 (by decide) (fun hb => ?_) (fun hb => ?_)
              · exact next
              · exact absurd (hs m (by omega)) hb
          · exact absurd (hin i (by omega)).2 hb
  refine v_aload_n (pc := 0) dX0_isInOrder_0 rfl rfl ?_
  refine g_I 2 1 (pc := 1) fX0_19 dX0_isInOrder_1 rfl rfl (by assumption) (by assumption) ?_
  refine v_if_lt 27 (pc := 4) dX0_isInOrder_4 (by decide) (fun hb => ?_) (fun hb => ?_)
  · exact absurd hb (nI_pos (by omega))
  · refine v_aload_n (pc := 7) dX0_isInOrder_7 rfl rfl ?_
    refine g_I 2 1 (pc := 8) fX0_19 dX0_isInOrder_8 rfl rfl (by assumption) (by assumption) ?_
    refine v_bipush (pc := 11) (v := 32) dX0_isInOrder_11 (by decide) ?_
    refine v_icmp_gt 27 (pc := 13) dX0_isInOrder_13 (by decide) (fun hb => ?_) (fun hb => ?_)
    · have : nI 32 < nI u := hb
      exact absurd ((nI_ltI (by omega) (by omega)).mp this) (by omega)
    · refine v_aload_n (pc := 16) dX0_isInOrder_16 rfl rfl ?_
      refine g_I 3 1 (pc := 17) fX0_26 dX0_isInOrder_17 rfl rfl (by assumption) rfl ?_
      refine v_aload_n (pc := 20) dX0_isInOrder_20 rfl rfl ?_
      refine g_I 4 1 (pc := 21) fX0_30 dX0_isInOrder_21 rfl rfl (by assumption) rfl ?_
      refine v_icmp_le 29 (pc := 24) dX0_isInOrder_24 (by decide) (fun hb => ?_) (fun hb => ?_)
      · refine v_iconst (pc := 29) (v := 0) dX0_isInOrder_29 (by decide) ?_
        refine v_istore_n (pc := 30) dX0_isInOrder_30 rfl rfl rfl (by decide) ?_
        exact loop u 0 (by omega)
      · exact absurd hlo hb
end PGX
