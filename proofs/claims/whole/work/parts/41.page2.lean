/-! LazyPages$Page: writes on one page. -/
def insF {α : Type} (f : Nat → α) (i : Nat) (x : α) (u : Nat) : Nat → α := fun j => if j = i then x else if i + 1 ≤ j ∧ j < i + 1 + (u - i) then f (i + (j - (i + 1))) else f j
def remF {α : Type} (f : Nat → α) (a b u : Nat) : Nat → α := fun j => if a ≤ j ∧ j < a + (u - b) then f (b + (j - a)) else f j
theorem mv_hr {R : mv_O → mh_T → Prop} {o : mv_O} {h h' : mh_T} (hR : R o h') (e : h = h') : R o h := by rw [e]; exact hR
section PGW
variable {G : mv_G} {d : Nat} {h : mh_T} {p k v u : Nat} {key : Int32} {R : mv_O → mh_T → Prop}
set_option maxHeartbeats 4000000 in
set_option maxRecDepth 100000 in
theorem c_insertAt {i : Nat} {x : Int64} (hp : pg_at h p k v u) (hi : i ≤ u) (hu : u < 32) (hR : R (.inl none) (mh_pg h p k v (nI (u + 1)) (mh_fI h 3 p) (mh_fI h 4 p) (mh_fJ h 5 p) (insF (mh_aI h k) i key u) (insF (mh_aJ h v) i (x - mh_fJ h 5 p) u))) : mv_V G jX0_insertAt (d + 3) 0 [(0, .ref p), (1, .int (nI i)), (2, .int key), (3, .long x)] [] h 0 0 R := by
  obtain ⟨e1, e2, e3, e4, e5, e6, e7, e8, e9, e10, e11⟩ := hp
  have s1 : nI i + 1 = nI (i + 1) := (nI_succ i).symm
  have s2 : nI u - nI i = nI (u - i) := pk_sub hi
  refine v_aload_n (pc := 0) dX0_insertAt_0 rfl rfl ?_
  refine g_R 0 1 (pc := 1) fX0_9 dX0_insertAt_1 rfl rfl (by assumption) (by assumption) (by assumption) ?_
  refine v_iload_n (pc := 4) dX0_insertAt_4 rfl rfl ?_
  refine v_aload_n (pc := 5) dX0_insertAt_5 rfl rfl ?_
  refine g_R 0 1 (pc := 6) fX0_9 dX0_insertAt_6 rfl rfl (by assumption) (by assumption) (by assumption) ?_
  refine v_iload_n (pc := 9) dX0_insertAt_9 rfl rfl ?_
  refine v_iconst (pc := 10) (v := 1) dX0_insertAt_10 (by decide) ?_
  refine v_iadd (pc := 11) dX0_insertAt_11 ?_
  refine v_aload_n (pc := 12) dX0_insertAt_12 rfl rfl ?_
  refine g_I 2 1 (pc := 13) fX0_19 dX0_insertAt_13 rfl rfl (by assumption) (by assumption) ?_
  refine v_iload_n (pc := 16) dX0_insertAt_16 rfl rfl ?_
  refine v_isub (pc := 17) dX0_insertAt_17 ?_
  refine n_cpI (i) (i + 1) (u - i) _ _ (pc := 18) dX0_insertAt_18 kX0_48 (by assumption) (by assumption) (by assumption) (by assumption) rfl s1 s2 (by omega) (by omega) (by decide) (by decide) (Nat.le_of_ble_eq_true rfl) (by omega) ?_
  refine v_aload_n (pc := 21) dX0_insertAt_21 rfl rfl ?_
  refine g_R 1 1 (pc := 22) fX0_15 dX0_insertAt_22 rfl rfl (by assumption) (by assumption) (by assumption) ?_
  refine v_iload_n (pc := 25) dX0_insertAt_25 rfl rfl ?_
  refine v_aload_n (pc := 26) dX0_insertAt_26 rfl rfl ?_
  refine g_R 1 1 (pc := 27) fX0_15 dX0_insertAt_27 rfl rfl (by assumption) (by assumption) (by assumption) ?_
  refine v_iload_n (pc := 30) dX0_insertAt_30 rfl rfl ?_
  refine v_iconst (pc := 31) (v := 1) dX0_insertAt_31 (by decide) ?_
  refine v_iadd (pc := 32) dX0_insertAt_32 ?_
  refine v_aload_n (pc := 33) dX0_insertAt_33 rfl rfl ?_
  refine g_I 2 1 (pc := 34) fX0_19 dX0_insertAt_34 rfl rfl (by assumption) (by assumption) ?_
  refine v_iload_n (pc := 37) dX0_insertAt_37 rfl rfl ?_
  refine v_isub (pc := 38) dX0_insertAt_38 ?_
  refine n_cpJ (i) (i + 1) (u - i) _ _ (pc := 39) dX0_insertAt_39 kX0_48 (by assumption) (by assumption) (by assumption) (by assumption) rfl s1 s2 (by omega) (by omega) (by decide) (by decide) (Nat.le_of_ble_eq_true rfl) (by omega) ?_
  refine v_aload_n (pc := 42) dX0_insertAt_42 rfl rfl ?_
  refine v_dup (pc := 43) dX0_insertAt_43 rfl ?_
  refine g_I 2 1 (pc := 44) fX0_19 dX0_insertAt_44 rfl rfl (by assumption) (by assumption) ?_
  refine v_iconst (pc := 47) (v := 1) dX0_insertAt_47 (by decide) ?_
  refine v_iadd (pc := 48) dX0_insertAt_48 ?_
  refine p_I 2 1 (pc := 49) fX0_19 dX0_insertAt_49 rfl rfl (by assumption) ?_
  refine v_aload_n (pc := 52) dX0_insertAt_52 rfl rfl ?_
  refine g_R 0 1 (pc := 53) fX0_9 dX0_insertAt_53 rfl rfl (by assumption) (by assumption) (by assumption) ?_
  refine v_iload_n (pc := 56) dX0_insertAt_56 rfl rfl ?_
  refine v_iload_n (pc := 57) dX0_insertAt_57 rfl rfl ?_
  refine n_iast (i) _ (pc := 58) dX0_insertAt_58 (by assumption) (by assumption) rfl (by omega) (by decide) ?_
  refine v_aload_n (pc := 59) dX0_insertAt_59 rfl rfl ?_
  refine v_iload_n (pc := 60) dX0_insertAt_60 rfl rfl ?_
  refine v_lload_n (pc := 61) dX0_insertAt_61 rfl rfl ?_
  refine v_callV 0 0 (pc := 62) kX0_54 dX0_insertAt_62 rfl (by assumption) (Nat.zero_le _) (Nat.zero_le _) (Nat.le_of_ble_eq_true rfl) (Nat.le_of_ble_eq_true rfl) ?_
  refine c_setValueAt (u := u + 1) ⟨e1, e2, e3, e4, e5, e6, e7, e8, e9, ?_, by omega⟩ (by omega) ?_
  · simp [mh_kd_sfI, mh_ln_sfI, mh_fI_sfI, mh_fJ_sfI, mh_fR_sfI, mh_aI_sfI, mh_aJ_sfI, mh_aR_sfI, mh_kd_sfJ, mh_ln_sfJ, mh_fI_sfJ, mh_fJ_sfJ, mh_fR_sfJ, mh_aI_sfJ, mh_aJ_sfJ, mh_aR_sfJ, mh_kd_sfR, mh_ln_sfR, mh_fI_sfR, mh_fJ_sfR, mh_fR_sfR, mh_aI_sfR, mh_aJ_sfR, mh_aR_sfR, mh_kd_saI, mh_ln_saI, mh_fI_saI, mh_fJ_saI, mh_fR_saI, mh_aI_saI, mh_aJ_saI, mh_aR_saI, mh_kd_saJ, mh_ln_saJ, mh_fI_saJ, mh_fJ_saJ, mh_fR_saJ, mh_aI_saJ, mh_aJ_saJ, mh_aR_saJ, mh_kd_saR, mh_ln_saR, mh_fI_saR, mh_fJ_saR, mh_fR_saR, mh_aI_saR, mh_aJ_saR, mh_aR_saR, mh_kd_caI, mh_ln_caI, mh_fI_caI, mh_fJ_caI, mh_fR_caI, mh_aI_caI, mh_aJ_caI, mh_aR_caI, mh_kd_caJ, mh_ln_caJ, mh_fI_caJ, mh_fJ_caJ, mh_fR_caJ, mh_aI_caJ, mh_aJ_caJ, mh_aR_caJ, mh_kd_new, mh_ln_new, mh_fI_new, mh_fJ_new, mh_fR_new, mh_aI_new, mh_aJ_new, mh_aR_new, nI_succ]
  refine v_vret (pc := 65) dX0_insertAt_65 rfl ?_
  refine mv_hr hR ?_
  refine mh_pg_eq (fun _ => rfl) (fun _ => rfl) (fun _ _ => rfl) (fun _ _ => rfl) ?_ ?_ ?_ ?_ ?_ ?_ ?_ ?_ ?_ ?_
  · simp [mh_kd_sfI, mh_ln_sfI, mh_fI_sfI, mh_fJ_sfI, mh_fR_sfI, mh_aI_sfI, mh_aJ_sfI, mh_aR_sfI, mh_kd_sfJ, mh_ln_sfJ, mh_fI_sfJ, mh_fJ_sfJ, mh_fR_sfJ, mh_aI_sfJ, mh_aJ_sfJ, mh_aR_sfJ, mh_kd_sfR, mh_ln_sfR, mh_fI_sfR, mh_fJ_sfR, mh_fR_sfR, mh_aI_sfR, mh_aJ_sfR, mh_aR_sfR, mh_kd_saI, mh_ln_saI, mh_fI_saI, mh_fJ_saI, mh_fR_saI, mh_aI_saI, mh_aJ_saI, mh_aR_saI, mh_kd_saJ, mh_ln_saJ, mh_fI_saJ, mh_fJ_saJ, mh_fR_saJ, mh_aI_saJ, mh_aJ_saJ, mh_aR_saJ, mh_kd_saR, mh_ln_saR, mh_fI_saR, mh_fJ_saR, mh_fR_saR, mh_aI_saR, mh_aJ_saR, mh_aR_saR, mh_kd_caI, mh_ln_caI, mh_fI_caI, mh_fJ_caI, mh_fR_caI, mh_aI_caI, mh_aJ_caI, mh_aR_caI, mh_kd_caJ, mh_ln_caJ, mh_fI_caJ, mh_fJ_caJ, mh_fR_caJ, mh_aI_caJ, mh_aJ_caJ, mh_aR_caJ, mh_kd_new, mh_ln_new, mh_fI_new, mh_fJ_new, mh_fR_new, mh_aI_new, mh_aJ_new, mh_aR_new, nI_succ]
  · simp [mh_kd_sfI, mh_ln_sfI, mh_fI_sfI, mh_fJ_sfI, mh_fR_sfI, mh_aI_sfI, mh_aJ_sfI, mh_aR_sfI, mh_kd_sfJ, mh_ln_sfJ, mh_fI_sfJ, mh_fJ_sfJ, mh_fR_sfJ, mh_aI_sfJ, mh_aJ_sfJ, mh_aR_sfJ, mh_kd_sfR, mh_ln_sfR, mh_fI_sfR, mh_fJ_sfR, mh_fR_sfR, mh_aI_sfR, mh_aJ_sfR, mh_aR_sfR, mh_kd_saI, mh_ln_saI, mh_fI_saI, mh_fJ_saI, mh_fR_saI, mh_aI_saI, mh_aJ_saI, mh_aR_saI, mh_kd_saJ, mh_ln_saJ, mh_fI_saJ, mh_fJ_saJ, mh_fR_saJ, mh_aI_saJ, mh_aJ_saJ, mh_aR_saJ, mh_kd_saR, mh_ln_saR, mh_fI_saR, mh_fJ_saR, mh_fR_saR, mh_aI_saR, mh_aJ_saR, mh_aR_saR, mh_kd_caI, mh_ln_caI, mh_fI_caI, mh_fJ_caI, mh_fR_caI, mh_aI_caI, mh_aJ_caI, mh_aR_caI, mh_kd_caJ, mh_ln_caJ, mh_fI_caJ, mh_fJ_caJ, mh_fR_caJ, mh_aI_caJ, mh_aJ_caJ, mh_aR_caJ, mh_kd_new, mh_ln_new, mh_fI_new, mh_fJ_new, mh_fR_new, mh_aI_new, mh_aJ_new, mh_aR_new]
  · simp [mh_kd_sfI, mh_ln_sfI, mh_fI_sfI, mh_fJ_sfI, mh_fR_sfI, mh_aI_sfI, mh_aJ_sfI, mh_aR_sfI, mh_kd_sfJ, mh_ln_sfJ, mh_fI_sfJ, mh_fJ_sfJ, mh_fR_sfJ, mh_aI_sfJ, mh_aJ_sfJ, mh_aR_sfJ, mh_kd_sfR, mh_ln_sfR, mh_fI_sfR, mh_fJ_sfR, mh_fR_sfR, mh_aI_sfR, mh_aJ_sfR, mh_aR_sfR, mh_kd_saI, mh_ln_saI, mh_fI_saI, mh_fJ_saI, mh_fR_saI, mh_aI_saI, mh_aJ_saI, mh_aR_saI, mh_kd_saJ, mh_ln_saJ, mh_fI_saJ, mh_fJ_saJ, mh_fR_saJ, mh_aI_saJ, mh_aJ_saJ, mh_aR_saJ, mh_kd_saR, mh_ln_saR, mh_fI_saR, mh_fJ_saR, mh_fR_saR, mh_aI_saR, mh_aJ_saR, mh_aR_saR, mh_kd_caI, mh_ln_caI, mh_fI_caI, mh_fJ_caI, mh_fR_caI, mh_aI_caI, mh_aJ_caI, mh_aR_caI, mh_kd_caJ, mh_ln_caJ, mh_fI_caJ, mh_fJ_caJ, mh_fR_caJ, mh_aI_caJ, mh_aJ_caJ, mh_aR_caJ, mh_kd_new, mh_ln_new, mh_fI_new, mh_fJ_new, mh_fR_new, mh_aI_new, mh_aJ_new, mh_aR_new]
  · intro F a hF
    simp only [mh_kd_sfI, mh_ln_sfI, mh_fI_sfI, mh_fJ_sfI, mh_fR_sfI, mh_aI_sfI, mh_aJ_sfI, mh_aR_sfI, mh_kd_sfJ, mh_ln_sfJ, mh_fI_sfJ, mh_fJ_sfJ, mh_fR_sfJ, mh_aI_sfJ, mh_aJ_sfJ, mh_aR_sfJ, mh_kd_sfR, mh_ln_sfR, mh_fI_sfR, mh_fJ_sfR, mh_fR_sfR, mh_aI_sfR, mh_aJ_sfR, mh_aR_sfR, mh_kd_saI, mh_ln_saI, mh_fI_saI, mh_fJ_saI, mh_fR_saI, mh_aI_saI, mh_aJ_saI, mh_aR_saI, mh_kd_saJ, mh_ln_saJ, mh_fI_saJ, mh_fJ_saJ, mh_fR_saJ, mh_aI_saJ, mh_aJ_saJ, mh_aR_saJ, mh_kd_saR, mh_ln_saR, mh_fI_saR, mh_fJ_saR, mh_fR_saR, mh_aI_saR, mh_aJ_saR, mh_aR_saR, mh_kd_caI, mh_ln_caI, mh_fI_caI, mh_fJ_caI, mh_fR_caI, mh_aI_caI, mh_aJ_caI, mh_aR_caI, mh_kd_caJ, mh_ln_caJ, mh_fI_caJ, mh_fJ_caJ, mh_fR_caJ, mh_aI_caJ, mh_aJ_caJ, mh_aR_caJ, mh_kd_new, mh_ln_new, mh_fI_new, mh_fJ_new, mh_fR_new, mh_aI_new, mh_aJ_new, mh_aR_new]
    rw [if_neg (by omega)]
  · simp [mh_kd_sfI, mh_ln_sfI, mh_fI_sfI, mh_fJ_sfI, mh_fR_sfI, mh_aI_sfI, mh_aJ_sfI, mh_aR_sfI, mh_kd_sfJ, mh_ln_sfJ, mh_fI_sfJ, mh_fJ_sfJ, mh_fR_sfJ, mh_aI_sfJ, mh_aJ_sfJ, mh_aR_sfJ, mh_kd_sfR, mh_ln_sfR, mh_fI_sfR, mh_fJ_sfR, mh_fR_sfR, mh_aI_sfR, mh_aJ_sfR, mh_aR_sfR, mh_kd_saI, mh_ln_saI, mh_fI_saI, mh_fJ_saI, mh_fR_saI, mh_aI_saI, mh_aJ_saI, mh_aR_saI, mh_kd_saJ, mh_ln_saJ, mh_fI_saJ, mh_fJ_saJ, mh_fR_saJ, mh_aI_saJ, mh_aJ_saJ, mh_aR_saJ, mh_kd_saR, mh_ln_saR, mh_fI_saR, mh_fJ_saR, mh_fR_saR, mh_aI_saR, mh_aJ_saR, mh_aR_saR, mh_kd_caI, mh_ln_caI, mh_fI_caI, mh_fJ_caI, mh_fR_caI, mh_aI_caI, mh_aJ_caI, mh_aR_caI, mh_kd_caJ, mh_ln_caJ, mh_fI_caJ, mh_fJ_caJ, mh_fR_caJ, mh_aI_caJ, mh_aJ_caJ, mh_aR_caJ, mh_kd_new, mh_ln_new, mh_fI_new, mh_fJ_new, mh_fR_new, mh_aI_new, mh_aJ_new, mh_aR_new]
  · intro F a hF
    simp [mh_kd_sfI, mh_ln_sfI, mh_fI_sfI, mh_fJ_sfI, mh_fR_sfI, mh_aI_sfI, mh_aJ_sfI, mh_aR_sfI, mh_kd_sfJ, mh_ln_sfJ, mh_fI_sfJ, mh_fJ_sfJ, mh_fR_sfJ, mh_aI_sfJ, mh_aJ_sfJ, mh_aR_sfJ, mh_kd_sfR, mh_ln_sfR, mh_fI_sfR, mh_fJ_sfR, mh_fR_sfR, mh_aI_sfR, mh_aJ_sfR, mh_aR_sfR, mh_kd_saI, mh_ln_saI, mh_fI_saI, mh_fJ_saI, mh_fR_saI, mh_aI_saI, mh_aJ_saI, mh_aR_saI, mh_kd_saJ, mh_ln_saJ, mh_fI_saJ, mh_fJ_saJ, mh_fR_saJ, mh_aI_saJ, mh_aJ_saJ, mh_aR_saJ, mh_kd_saR, mh_ln_saR, mh_fI_saR, mh_fJ_saR, mh_fR_saR, mh_aI_saR, mh_aJ_saR, mh_aR_saR, mh_kd_caI, mh_ln_caI, mh_fI_caI, mh_fJ_caI, mh_fR_caI, mh_aI_caI, mh_aJ_caI, mh_aR_caI, mh_kd_caJ, mh_ln_caJ, mh_fI_caJ, mh_fJ_caJ, mh_fR_caJ, mh_aI_caJ, mh_aJ_caJ, mh_aR_caJ, mh_kd_new, mh_ln_new, mh_fI_new, mh_fJ_new, mh_fR_new, mh_aI_new, mh_aJ_new, mh_aR_new]
  · intro j
    simp [mh_kd_sfI, mh_ln_sfI, mh_fI_sfI, mh_fJ_sfI, mh_fR_sfI, mh_aI_sfI, mh_aJ_sfI, mh_aR_sfI, mh_kd_sfJ, mh_ln_sfJ, mh_fI_sfJ, mh_fJ_sfJ, mh_fR_sfJ, mh_aI_sfJ, mh_aJ_sfJ, mh_aR_sfJ, mh_kd_sfR, mh_ln_sfR, mh_fI_sfR, mh_fJ_sfR, mh_fR_sfR, mh_aI_sfR, mh_aJ_sfR, mh_aR_sfR, mh_kd_saI, mh_ln_saI, mh_fI_saI, mh_fJ_saI, mh_fR_saI, mh_aI_saI, mh_aJ_saI, mh_aR_saI, mh_kd_saJ, mh_ln_saJ, mh_fI_saJ, mh_fJ_saJ, mh_fR_saJ, mh_aI_saJ, mh_aJ_saJ, mh_aR_saJ, mh_kd_saR, mh_ln_saR, mh_fI_saR, mh_fJ_saR, mh_fR_saR, mh_aI_saR, mh_aJ_saR, mh_aR_saR, mh_kd_caI, mh_ln_caI, mh_fI_caI, mh_fJ_caI, mh_fR_caI, mh_aI_caI, mh_aJ_caI, mh_aR_caI, mh_kd_caJ, mh_ln_caJ, mh_fI_caJ, mh_fJ_caJ, mh_fR_caJ, mh_aI_caJ, mh_aJ_caJ, mh_aR_caJ, mh_kd_new, mh_ln_new, mh_fI_new, mh_fJ_new, mh_fR_new, mh_aI_new, mh_aJ_new, mh_aR_new, insF]
  · intro a j ha
    simp [mh_kd_sfI, mh_ln_sfI, mh_fI_sfI, mh_fJ_sfI, mh_fR_sfI, mh_aI_sfI, mh_aJ_sfI, mh_aR_sfI, mh_kd_sfJ, mh_ln_sfJ, mh_fI_sfJ, mh_fJ_sfJ, mh_fR_sfJ, mh_aI_sfJ, mh_aJ_sfJ, mh_aR_sfJ, mh_kd_sfR, mh_ln_sfR, mh_fI_sfR, mh_fJ_sfR, mh_fR_sfR, mh_aI_sfR, mh_aJ_sfR, mh_aR_sfR, mh_kd_saI, mh_ln_saI, mh_fI_saI, mh_fJ_saI, mh_fR_saI, mh_aI_saI, mh_aJ_saI, mh_aR_saI, mh_kd_saJ, mh_ln_saJ, mh_fI_saJ, mh_fJ_saJ, mh_fR_saJ, mh_aI_saJ, mh_aJ_saJ, mh_aR_saJ, mh_kd_saR, mh_ln_saR, mh_fI_saR, mh_fJ_saR, mh_fR_saR, mh_aI_saR, mh_aJ_saR, mh_aR_saR, mh_kd_caI, mh_ln_caI, mh_fI_caI, mh_fJ_caI, mh_fR_caI, mh_aI_caI, mh_aJ_caI, mh_aR_caI, mh_kd_caJ, mh_ln_caJ, mh_fI_caJ, mh_fJ_caJ, mh_fR_caJ, mh_aI_caJ, mh_aJ_caJ, mh_aR_caJ, mh_kd_new, mh_ln_new, mh_fI_new, mh_fJ_new, mh_fR_new, mh_aI_new, mh_aJ_new, mh_aR_new, ha]
  · intro j
    simp [mh_kd_sfI, mh_ln_sfI, mh_fI_sfI, mh_fJ_sfI, mh_fR_sfI, mh_aI_sfI, mh_aJ_sfI, mh_aR_sfI, mh_kd_sfJ, mh_ln_sfJ, mh_fI_sfJ, mh_fJ_sfJ, mh_fR_sfJ, mh_aI_sfJ, mh_aJ_sfJ, mh_aR_sfJ, mh_kd_sfR, mh_ln_sfR, mh_fI_sfR, mh_fJ_sfR, mh_fR_sfR, mh_aI_sfR, mh_aJ_sfR, mh_aR_sfR, mh_kd_saI, mh_ln_saI, mh_fI_saI, mh_fJ_saI, mh_fR_saI, mh_aI_saI, mh_aJ_saI, mh_aR_saI, mh_kd_saJ, mh_ln_saJ, mh_fI_saJ, mh_fJ_saJ, mh_fR_saJ, mh_aI_saJ, mh_aJ_saJ, mh_aR_saJ, mh_kd_saR, mh_ln_saR, mh_fI_saR, mh_fJ_saR, mh_fR_saR, mh_aI_saR, mh_aJ_saR, mh_aR_saR, mh_kd_caI, mh_ln_caI, mh_fI_caI, mh_fJ_caI, mh_fR_caI, mh_aI_caI, mh_aJ_caI, mh_aR_caI, mh_kd_caJ, mh_ln_caJ, mh_fI_caJ, mh_fJ_caJ, mh_fR_caJ, mh_aI_caJ, mh_aJ_caJ, mh_aR_caJ, mh_kd_new, mh_ln_new, mh_fI_new, mh_fJ_new, mh_fR_new, mh_aI_new, mh_aJ_new, mh_aR_new, insF]
  · intro a j ha
    simp [mh_kd_sfI, mh_ln_sfI, mh_fI_sfI, mh_fJ_sfI, mh_fR_sfI, mh_aI_sfI, mh_aJ_sfI, mh_aR_sfI, mh_kd_sfJ, mh_ln_sfJ, mh_fI_sfJ, mh_fJ_sfJ, mh_fR_sfJ, mh_aI_sfJ, mh_aJ_sfJ, mh_aR_sfJ, mh_kd_sfR, mh_ln_sfR, mh_fI_sfR, mh_fJ_sfR, mh_fR_sfR, mh_aI_sfR, mh_aJ_sfR, mh_aR_sfR, mh_kd_saI, mh_ln_saI, mh_fI_saI, mh_fJ_saI, mh_fR_saI, mh_aI_saI, mh_aJ_saI, mh_aR_saI, mh_kd_saJ, mh_ln_saJ, mh_fI_saJ, mh_fJ_saJ, mh_fR_saJ, mh_aI_saJ, mh_aJ_saJ, mh_aR_saJ, mh_kd_saR, mh_ln_saR, mh_fI_saR, mh_fJ_saR, mh_fR_saR, mh_aI_saR, mh_aJ_saR, mh_aR_saR, mh_kd_caI, mh_ln_caI, mh_fI_caI, mh_fJ_caI, mh_fR_caI, mh_aI_caI, mh_aJ_caI, mh_aR_caI, mh_kd_caJ, mh_ln_caJ, mh_fI_caJ, mh_fJ_caJ, mh_fR_caJ, mh_aI_caJ, mh_aJ_caJ, mh_aR_caJ, mh_kd_new, mh_ln_new, mh_fI_new, mh_fJ_new, mh_fR_new, mh_aI_new, mh_aJ_new, mh_aR_new, ha]
set_option maxHeartbeats 4000000 in
set_option maxRecDepth 100000 in
theorem c_removeIn {to : Int32} (hp : pg_at h p k v u) (hab : pb (mh_aI h k) u key ≤ pn (mh_aI h k) u to) (hR : R (.inl none) (mh_pg h p k v (nI (u - (pn (mh_aI h k) u to - pb (mh_aI h k) u key))) (mh_fI h 3 p) (mh_fI h 4 p) (mh_fJ h 5 p) (remF (mh_aI h k) (pb (mh_aI h k) u key) (pn (mh_aI h k) u to) u) (remF (mh_aJ h v) (pb (mh_aI h k) u key) (pn (mh_aI h k) u to) u))) : mv_V G jX0_removeIn (d + 3) 0 [(0, .ref p), (1, .int key), (2, .int to)] [] h 0 0 R := by
  have hp' := hp
  obtain ⟨e1, e2, e3, e4, e5, e6, e7, e8, e9, e10, e11⟩ := hp
  have q1 := pb_le (mh_aI h k) u key
  have q2 := pn_le (mh_aI h k) u to
  refine v_aload_n (pc := 0) dX0_removeIn_0 rfl rfl ?_
  refine v_iload_n (pc := 1) dX0_removeIn_1 rfl rfl ?_
  refine v_callV 0 0 (pc := 2) kX0_37 dX0_removeIn_2 rfl (by assumption) (Nat.zero_le _) (Nat.zero_le _) (Nat.le_of_ble_eq_true rfl) (Nat.le_of_ble_eq_true rfl) ?_
  refine c_below hp' ?_
  generalize ha : pb (mh_aI h k) u key = a at *
  refine v_istore_n (pc := 5) dX0_removeIn_5 rfl rfl rfl (by decide) ?_
  refine v_aload_n (pc := 6) dX0_removeIn_6 rfl rfl ?_
  refine v_iload_n (pc := 7) dX0_removeIn_7 rfl rfl ?_
  refine v_callV 0 0 (pc := 8) kX0_45 dX0_removeIn_8 rfl (by assumption) (Nat.zero_le _) (Nat.zero_le _) (Nat.le_of_ble_eq_true rfl) (Nat.le_of_ble_eq_true rfl) ?_
  refine c_notAbove hp' ?_
  generalize hb9 : pn (mh_aI h k) u to = b at *
  have s2 : nI u - nI b = nI (u - b) := pk_sub q2
  have s3 : nI b - nI a = nI (b - a) := pk_sub hab
  have s4 : nI u - nI (b - a) = nI (u - (b - a)) := pk_sub (by omega)
  refine v_istore (pc := 11) dX0_removeIn_11 rfl rfl (by decide) ?_
  refine v_aload_n (pc := 13) dX0_removeIn_13 rfl rfl ?_
  refine g_R 0 1 (pc := 14) fX0_9 dX0_removeIn_14 rfl rfl (by assumption) (by assumption) (by assumption) ?_
  refine v_iload (pc := 17) dX0_removeIn_17 rfl ?_
  refine v_aload_n (pc := 19) dX0_removeIn_19 rfl rfl ?_
  refine g_R 0 1 (pc := 20) fX0_9 dX0_removeIn_20 rfl rfl (by assumption) (by assumption) (by assumption) ?_
  refine v_iload_n (pc := 23) dX0_removeIn_23 rfl rfl ?_
  refine v_aload_n (pc := 24) dX0_removeIn_24 rfl rfl ?_
  refine g_I 2 1 (pc := 25) fX0_19 dX0_removeIn_25 rfl rfl (by assumption) (by assumption) ?_
  refine v_iload (pc := 28) dX0_removeIn_28 rfl ?_
  refine v_isub (pc := 30) dX0_removeIn_30 ?_
  refine n_cpI (b) (a) (u - b) _ _ (pc := 31) dX0_removeIn_31 kX0_48 (by assumption) (by assumption) (by assumption) (by assumption) rfl rfl s2 (by omega) (by omega) (by decide) (by decide) (Nat.le_of_ble_eq_true rfl) (by omega) ?_
  refine v_aload_n (pc := 34) dX0_removeIn_34 rfl rfl ?_
  refine g_R 1 1 (pc := 35) fX0_15 dX0_removeIn_35 rfl rfl (by assumption) (by assumption) (by assumption) ?_
  refine v_iload (pc := 38) dX0_removeIn_38 rfl ?_
  refine v_aload_n (pc := 40) dX0_removeIn_40 rfl rfl ?_
  refine g_R 1 1 (pc := 41) fX0_15 dX0_removeIn_41 rfl rfl (by assumption) (by assumption) (by assumption) ?_
  refine v_iload_n (pc := 44) dX0_removeIn_44 rfl rfl ?_
  refine v_aload_n (pc := 45) dX0_removeIn_45 rfl rfl ?_
  refine g_I 2 1 (pc := 46) fX0_19 dX0_removeIn_46 rfl rfl (by assumption) (by assumption) ?_
  refine v_iload (pc := 49) dX0_removeIn_49 rfl ?_
  refine v_isub (pc := 51) dX0_removeIn_51 ?_
  refine n_cpJ (b) (a) (u - b) _ _ (pc := 52) dX0_removeIn_52 kX0_48 (by assumption) (by assumption) (by assumption) (by assumption) rfl rfl s2 (by omega) (by omega) (by decide) (by decide) (Nat.le_of_ble_eq_true rfl) (by omega) ?_
  refine v_aload_n (pc := 55) dX0_removeIn_55 rfl rfl ?_
  refine v_dup (pc := 56) dX0_removeIn_56 rfl ?_
  refine g_I 2 1 (pc := 57) fX0_19 dX0_removeIn_57 rfl rfl (by assumption) (by assumption) ?_
  refine v_iload (pc := 60) dX0_removeIn_60 rfl ?_
  refine v_iload_n (pc := 62) dX0_removeIn_62 rfl rfl ?_
  refine v_isub (pc := 63) dX0_removeIn_63 ?_
  refine v_isub (pc := 64) dX0_removeIn_64 ?_
  refine p_I 2 1 (pc := 65) fX0_19 dX0_removeIn_65 rfl rfl (by assumption) ?_
  refine v_vret (pc := 68) dX0_removeIn_68 rfl ?_
  refine mv_hr hR ?_
  refine mh_pg_eq (fun _ => rfl) (fun _ => rfl) (fun _ _ => rfl) (fun _ _ => rfl) ?_ ?_ ?_ ?_ ?_ ?_ ?_ ?_ ?_ ?_
  · simp [mh_kd_sfI, mh_ln_sfI, mh_fI_sfI, mh_fJ_sfI, mh_fR_sfI, mh_aI_sfI, mh_aJ_sfI, mh_aR_sfI, mh_kd_sfJ, mh_ln_sfJ, mh_fI_sfJ, mh_fJ_sfJ, mh_fR_sfJ, mh_aI_sfJ, mh_aJ_sfJ, mh_aR_sfJ, mh_kd_sfR, mh_ln_sfR, mh_fI_sfR, mh_fJ_sfR, mh_fR_sfR, mh_aI_sfR, mh_aJ_sfR, mh_aR_sfR, mh_kd_saI, mh_ln_saI, mh_fI_saI, mh_fJ_saI, mh_fR_saI, mh_aI_saI, mh_aJ_saI, mh_aR_saI, mh_kd_saJ, mh_ln_saJ, mh_fI_saJ, mh_fJ_saJ, mh_fR_saJ, mh_aI_saJ, mh_aJ_saJ, mh_aR_saJ, mh_kd_saR, mh_ln_saR, mh_fI_saR, mh_fJ_saR, mh_fR_saR, mh_aI_saR, mh_aJ_saR, mh_aR_saR, mh_kd_caI, mh_ln_caI, mh_fI_caI, mh_fJ_caI, mh_fR_caI, mh_aI_caI, mh_aJ_caI, mh_aR_caI, mh_kd_caJ, mh_ln_caJ, mh_fI_caJ, mh_fJ_caJ, mh_fR_caJ, mh_aI_caJ, mh_aJ_caJ, mh_aR_caJ, mh_kd_new, mh_ln_new, mh_fI_new, mh_fJ_new, mh_fR_new, mh_aI_new, mh_aJ_new, mh_aR_new, s3, s4]
  · simp [mh_kd_sfI, mh_ln_sfI, mh_fI_sfI, mh_fJ_sfI, mh_fR_sfI, mh_aI_sfI, mh_aJ_sfI, mh_aR_sfI, mh_kd_sfJ, mh_ln_sfJ, mh_fI_sfJ, mh_fJ_sfJ, mh_fR_sfJ, mh_aI_sfJ, mh_aJ_sfJ, mh_aR_sfJ, mh_kd_sfR, mh_ln_sfR, mh_fI_sfR, mh_fJ_sfR, mh_fR_sfR, mh_aI_sfR, mh_aJ_sfR, mh_aR_sfR, mh_kd_saI, mh_ln_saI, mh_fI_saI, mh_fJ_saI, mh_fR_saI, mh_aI_saI, mh_aJ_saI, mh_aR_saI, mh_kd_saJ, mh_ln_saJ, mh_fI_saJ, mh_fJ_saJ, mh_fR_saJ, mh_aI_saJ, mh_aJ_saJ, mh_aR_saJ, mh_kd_saR, mh_ln_saR, mh_fI_saR, mh_fJ_saR, mh_fR_saR, mh_aI_saR, mh_aJ_saR, mh_aR_saR, mh_kd_caI, mh_ln_caI, mh_fI_caI, mh_fJ_caI, mh_fR_caI, mh_aI_caI, mh_aJ_caI, mh_aR_caI, mh_kd_caJ, mh_ln_caJ, mh_fI_caJ, mh_fJ_caJ, mh_fR_caJ, mh_aI_caJ, mh_aJ_caJ, mh_aR_caJ, mh_kd_new, mh_ln_new, mh_fI_new, mh_fJ_new, mh_fR_new, mh_aI_new, mh_aJ_new, mh_aR_new]
  · simp [mh_kd_sfI, mh_ln_sfI, mh_fI_sfI, mh_fJ_sfI, mh_fR_sfI, mh_aI_sfI, mh_aJ_sfI, mh_aR_sfI, mh_kd_sfJ, mh_ln_sfJ, mh_fI_sfJ, mh_fJ_sfJ, mh_fR_sfJ, mh_aI_sfJ, mh_aJ_sfJ, mh_aR_sfJ, mh_kd_sfR, mh_ln_sfR, mh_fI_sfR, mh_fJ_sfR, mh_fR_sfR, mh_aI_sfR, mh_aJ_sfR, mh_aR_sfR, mh_kd_saI, mh_ln_saI, mh_fI_saI, mh_fJ_saI, mh_fR_saI, mh_aI_saI, mh_aJ_saI, mh_aR_saI, mh_kd_saJ, mh_ln_saJ, mh_fI_saJ, mh_fJ_saJ, mh_fR_saJ, mh_aI_saJ, mh_aJ_saJ, mh_aR_saJ, mh_kd_saR, mh_ln_saR, mh_fI_saR, mh_fJ_saR, mh_fR_saR, mh_aI_saR, mh_aJ_saR, mh_aR_saR, mh_kd_caI, mh_ln_caI, mh_fI_caI, mh_fJ_caI, mh_fR_caI, mh_aI_caI, mh_aJ_caI, mh_aR_caI, mh_kd_caJ, mh_ln_caJ, mh_fI_caJ, mh_fJ_caJ, mh_fR_caJ, mh_aI_caJ, mh_aJ_caJ, mh_aR_caJ, mh_kd_new, mh_ln_new, mh_fI_new, mh_fJ_new, mh_fR_new, mh_aI_new, mh_aJ_new, mh_aR_new]
  · intro F a hF
    simp only [mh_kd_sfI, mh_ln_sfI, mh_fI_sfI, mh_fJ_sfI, mh_fR_sfI, mh_aI_sfI, mh_aJ_sfI, mh_aR_sfI, mh_kd_sfJ, mh_ln_sfJ, mh_fI_sfJ, mh_fJ_sfJ, mh_fR_sfJ, mh_aI_sfJ, mh_aJ_sfJ, mh_aR_sfJ, mh_kd_sfR, mh_ln_sfR, mh_fI_sfR, mh_fJ_sfR, mh_fR_sfR, mh_aI_sfR, mh_aJ_sfR, mh_aR_sfR, mh_kd_saI, mh_ln_saI, mh_fI_saI, mh_fJ_saI, mh_fR_saI, mh_aI_saI, mh_aJ_saI, mh_aR_saI, mh_kd_saJ, mh_ln_saJ, mh_fI_saJ, mh_fJ_saJ, mh_fR_saJ, mh_aI_saJ, mh_aJ_saJ, mh_aR_saJ, mh_kd_saR, mh_ln_saR, mh_fI_saR, mh_fJ_saR, mh_fR_saR, mh_aI_saR, mh_aJ_saR, mh_aR_saR, mh_kd_caI, mh_ln_caI, mh_fI_caI, mh_fJ_caI, mh_fR_caI, mh_aI_caI, mh_aJ_caI, mh_aR_caI, mh_kd_caJ, mh_ln_caJ, mh_fI_caJ, mh_fJ_caJ, mh_fR_caJ, mh_aI_caJ, mh_aJ_caJ, mh_aR_caJ, mh_kd_new, mh_ln_new, mh_fI_new, mh_fJ_new, mh_fR_new, mh_aI_new, mh_aJ_new, mh_aR_new]
    rw [if_neg (by omega)]
  · simp [mh_kd_sfI, mh_ln_sfI, mh_fI_sfI, mh_fJ_sfI, mh_fR_sfI, mh_aI_sfI, mh_aJ_sfI, mh_aR_sfI, mh_kd_sfJ, mh_ln_sfJ, mh_fI_sfJ, mh_fJ_sfJ, mh_fR_sfJ, mh_aI_sfJ, mh_aJ_sfJ, mh_aR_sfJ, mh_kd_sfR, mh_ln_sfR, mh_fI_sfR, mh_fJ_sfR, mh_fR_sfR, mh_aI_sfR, mh_aJ_sfR, mh_aR_sfR, mh_kd_saI, mh_ln_saI, mh_fI_saI, mh_fJ_saI, mh_fR_saI, mh_aI_saI, mh_aJ_saI, mh_aR_saI, mh_kd_saJ, mh_ln_saJ, mh_fI_saJ, mh_fJ_saJ, mh_fR_saJ, mh_aI_saJ, mh_aJ_saJ, mh_aR_saJ, mh_kd_saR, mh_ln_saR, mh_fI_saR, mh_fJ_saR, mh_fR_saR, mh_aI_saR, mh_aJ_saR, mh_aR_saR, mh_kd_caI, mh_ln_caI, mh_fI_caI, mh_fJ_caI, mh_fR_caI, mh_aI_caI, mh_aJ_caI, mh_aR_caI, mh_kd_caJ, mh_ln_caJ, mh_fI_caJ, mh_fJ_caJ, mh_fR_caJ, mh_aI_caJ, mh_aJ_caJ, mh_aR_caJ, mh_kd_new, mh_ln_new, mh_fI_new, mh_fJ_new, mh_fR_new, mh_aI_new, mh_aJ_new, mh_aR_new]
  · intro F a hF
    simp [mh_kd_sfI, mh_ln_sfI, mh_fI_sfI, mh_fJ_sfI, mh_fR_sfI, mh_aI_sfI, mh_aJ_sfI, mh_aR_sfI, mh_kd_sfJ, mh_ln_sfJ, mh_fI_sfJ, mh_fJ_sfJ, mh_fR_sfJ, mh_aI_sfJ, mh_aJ_sfJ, mh_aR_sfJ, mh_kd_sfR, mh_ln_sfR, mh_fI_sfR, mh_fJ_sfR, mh_fR_sfR, mh_aI_sfR, mh_aJ_sfR, mh_aR_sfR, mh_kd_saI, mh_ln_saI, mh_fI_saI, mh_fJ_saI, mh_fR_saI, mh_aI_saI, mh_aJ_saI, mh_aR_saI, mh_kd_saJ, mh_ln_saJ, mh_fI_saJ, mh_fJ_saJ, mh_fR_saJ, mh_aI_saJ, mh_aJ_saJ, mh_aR_saJ, mh_kd_saR, mh_ln_saR, mh_fI_saR, mh_fJ_saR, mh_fR_saR, mh_aI_saR, mh_aJ_saR, mh_aR_saR, mh_kd_caI, mh_ln_caI, mh_fI_caI, mh_fJ_caI, mh_fR_caI, mh_aI_caI, mh_aJ_caI, mh_aR_caI, mh_kd_caJ, mh_ln_caJ, mh_fI_caJ, mh_fJ_caJ, mh_fR_caJ, mh_aI_caJ, mh_aJ_caJ, mh_aR_caJ, mh_kd_new, mh_ln_new, mh_fI_new, mh_fJ_new, mh_fR_new, mh_aI_new, mh_aJ_new, mh_aR_new]
  · intro j
    simp [mh_kd_sfI, mh_ln_sfI, mh_fI_sfI, mh_fJ_sfI, mh_fR_sfI, mh_aI_sfI, mh_aJ_sfI, mh_aR_sfI, mh_kd_sfJ, mh_ln_sfJ, mh_fI_sfJ, mh_fJ_sfJ, mh_fR_sfJ, mh_aI_sfJ, mh_aJ_sfJ, mh_aR_sfJ, mh_kd_sfR, mh_ln_sfR, mh_fI_sfR, mh_fJ_sfR, mh_fR_sfR, mh_aI_sfR, mh_aJ_sfR, mh_aR_sfR, mh_kd_saI, mh_ln_saI, mh_fI_saI, mh_fJ_saI, mh_fR_saI, mh_aI_saI, mh_aJ_saI, mh_aR_saI, mh_kd_saJ, mh_ln_saJ, mh_fI_saJ, mh_fJ_saJ, mh_fR_saJ, mh_aI_saJ, mh_aJ_saJ, mh_aR_saJ, mh_kd_saR, mh_ln_saR, mh_fI_saR, mh_fJ_saR, mh_fR_saR, mh_aI_saR, mh_aJ_saR, mh_aR_saR, mh_kd_caI, mh_ln_caI, mh_fI_caI, mh_fJ_caI, mh_fR_caI, mh_aI_caI, mh_aJ_caI, mh_aR_caI, mh_kd_caJ, mh_ln_caJ, mh_fI_caJ, mh_fJ_caJ, mh_fR_caJ, mh_aI_caJ, mh_aJ_caJ, mh_aR_caJ, mh_kd_new, mh_ln_new, mh_fI_new, mh_fJ_new, mh_fR_new, mh_aI_new, mh_aJ_new, mh_aR_new, remF]
  · intro a j ha
    simp [mh_kd_sfI, mh_ln_sfI, mh_fI_sfI, mh_fJ_sfI, mh_fR_sfI, mh_aI_sfI, mh_aJ_sfI, mh_aR_sfI, mh_kd_sfJ, mh_ln_sfJ, mh_fI_sfJ, mh_fJ_sfJ, mh_fR_sfJ, mh_aI_sfJ, mh_aJ_sfJ, mh_aR_sfJ, mh_kd_sfR, mh_ln_sfR, mh_fI_sfR, mh_fJ_sfR, mh_fR_sfR, mh_aI_sfR, mh_aJ_sfR, mh_aR_sfR, mh_kd_saI, mh_ln_saI, mh_fI_saI, mh_fJ_saI, mh_fR_saI, mh_aI_saI, mh_aJ_saI, mh_aR_saI, mh_kd_saJ, mh_ln_saJ, mh_fI_saJ, mh_fJ_saJ, mh_fR_saJ, mh_aI_saJ, mh_aJ_saJ, mh_aR_saJ, mh_kd_saR, mh_ln_saR, mh_fI_saR, mh_fJ_saR, mh_fR_saR, mh_aI_saR, mh_aJ_saR, mh_aR_saR, mh_kd_caI, mh_ln_caI, mh_fI_caI, mh_fJ_caI, mh_fR_caI, mh_aI_caI, mh_aJ_caI, mh_aR_caI, mh_kd_caJ, mh_ln_caJ, mh_fI_caJ, mh_fJ_caJ, mh_fR_caJ, mh_aI_caJ, mh_aJ_caJ, mh_aR_caJ, mh_kd_new, mh_ln_new, mh_fI_new, mh_fJ_new, mh_fR_new, mh_aI_new, mh_aJ_new, mh_aR_new, ha]
  · intro j
    simp [mh_kd_sfI, mh_ln_sfI, mh_fI_sfI, mh_fJ_sfI, mh_fR_sfI, mh_aI_sfI, mh_aJ_sfI, mh_aR_sfI, mh_kd_sfJ, mh_ln_sfJ, mh_fI_sfJ, mh_fJ_sfJ, mh_fR_sfJ, mh_aI_sfJ, mh_aJ_sfJ, mh_aR_sfJ, mh_kd_sfR, mh_ln_sfR, mh_fI_sfR, mh_fJ_sfR, mh_fR_sfR, mh_aI_sfR, mh_aJ_sfR, mh_aR_sfR, mh_kd_saI, mh_ln_saI, mh_fI_saI, mh_fJ_saI, mh_fR_saI, mh_aI_saI, mh_aJ_saI, mh_aR_saI, mh_kd_saJ, mh_ln_saJ, mh_fI_saJ, mh_fJ_saJ, mh_fR_saJ, mh_aI_saJ, mh_aJ_saJ, mh_aR_saJ, mh_kd_saR, mh_ln_saR, mh_fI_saR, mh_fJ_saR, mh_fR_saR, mh_aI_saR, mh_aJ_saR, mh_aR_saR, mh_kd_caI, mh_ln_caI, mh_fI_caI, mh_fJ_caI, mh_fR_caI, mh_aI_caI, mh_aJ_caI, mh_aR_caI, mh_kd_caJ, mh_ln_caJ, mh_fI_caJ, mh_fJ_caJ, mh_fR_caJ, mh_aI_caJ, mh_aJ_caJ, mh_aR_caJ, mh_kd_new, mh_ln_new, mh_fI_new, mh_fJ_new, mh_fR_new, mh_aI_new, mh_aJ_new, mh_aR_new, remF]
  · intro a j ha
    simp [mh_kd_sfI, mh_ln_sfI, mh_fI_sfI, mh_fJ_sfI, mh_fR_sfI, mh_aI_sfI, mh_aJ_sfI, mh_aR_sfI, mh_kd_sfJ, mh_ln_sfJ, mh_fI_sfJ, mh_fJ_sfJ, mh_fR_sfJ, mh_aI_sfJ, mh_aJ_sfJ, mh_aR_sfJ, mh_kd_sfR, mh_ln_sfR, mh_fI_sfR, mh_fJ_sfR, mh_fR_sfR, mh_aI_sfR, mh_aJ_sfR, mh_aR_sfR, mh_kd_saI, mh_ln_saI, mh_fI_saI, mh_fJ_saI, mh_fR_saI, mh_aI_saI, mh_aJ_saI, mh_aR_saI, mh_kd_saJ, mh_ln_saJ, mh_fI_saJ, mh_fJ_saJ, mh_fR_saJ, mh_aI_saJ, mh_aJ_saJ, mh_aR_saJ, mh_kd_saR, mh_ln_saR, mh_fI_saR, mh_fJ_saR, mh_fR_saR, mh_aI_saR, mh_aJ_saR, mh_aR_saR, mh_kd_caI, mh_ln_caI, mh_fI_caI, mh_fJ_caI, mh_fR_caI, mh_aI_caI, mh_aJ_caI, mh_aR_caI, mh_kd_caJ, mh_ln_caJ, mh_fI_caJ, mh_fJ_caJ, mh_fR_caJ, mh_aI_caJ, mh_aJ_caJ, mh_aR_caJ, mh_kd_new, mh_ln_new, mh_fI_new, mh_fJ_new, mh_fR_new, mh_aI_new, mh_aJ_new, mh_aR_new, ha]
set_option maxHeartbeats 4000000 in
set_option maxRecDepth 100000 in
theorem c_pushDown (hp : pg_at h p k v u) (hR : R (.inl none) (mh_pg h p k v (mh_fI h 2 p) (mh_fI h 3 p) (mh_fI h 4 p) 0 (mh_aI h k) (fun j => if j < u then mh_aJ h v j + mh_fJ h 5 p else mh_aJ h v j))) : mv_V G jX0_pushDown d 0 [(0, .ref p)] [] h 0 0 R := by
  obtain ⟨e1, e2, e3, e4, e5, e6, e7, e8, e9, e10, e11⟩ := hp
  have loop : ∀ n i, i + n = u → mv_V G jX0_pushDown d 2 [(0, .ref p), (1, .int (nI i))] [] (mh_wJ h v (fun j => if j < i then mh_aJ h v j + mh_fJ h 5 p else mh_aJ h v j)) 0 0 R := by
    intro n
    induction n with
    | zero =>
      intro i h1
      refine v_iload_n (pc := 2) dX0_pushDown_2 rfl rfl ?_
      refine v_aload_n (pc := 3) dX0_pushDown_3 rfl rfl ?_
      refine g_I 2 1 (pc := 4) fX0_19 dX0_pushDown_4 rfl rfl (by assumption) (by assumption) ?_
      refine v_icmp_ge 29 (pc := 7) dX0_pushDown_7 (by decide) (fun hb => ?_) (fun hb => ?_)
      · refine v_aload_n (pc := 29) dX0_pushDown_29 rfl rfl ?_
        refine v_lconst (pc := 30) (v := 0) dX0_pushDown_30 (by decide) ?_
        refine p_J 5 1 (pc := 31) fX0_33 dX0_pushDown_31 rfl rfl (by assumption) ?_
        refine v_vret (pc := 34) dX0_pushDown_34 rfl ?_
        have ei : i = u := by omega
        subst ei
        refine mv_hr hR ?_
        refine mh_pg_eq (fun _ => rfl) (fun _ => rfl) (fun _ _ => rfl) (fun _ _ => rfl) rfl rfl rfl (fun _ _ _ => rfl) ?_ ?_ (fun _ => rfl) (fun _ _ _ => rfl) ?_ ?_
        · simp [mh_fJ_sfJ]
        · intro F a hF
          simp only [mh_fJ_sfJ]
          rw [if_neg (by omega)]
          rfl
        · intro j
          rw [mh_aJ_sfJ, mh_aJ_wJ, if_pos rfl]
        · intro a j ha
          rw [mh_aJ_sfJ, mh_aJ_wJ, if_neg ha]
      · exact absurd ((nI_leI (by omega) (by omega)).mpr (by omega)) hb
    | succ n ih =>
      intro i h1
      refine v_iload_n (pc := 2) dX0_pushDown_2 rfl rfl ?_
      refine v_aload_n (pc := 3) dX0_pushDown_3 rfl rfl ?_
      refine g_I 2 1 (pc := 4) fX0_19 dX0_pushDown_4 rfl rfl (by assumption) (by assumption) ?_
      refine v_icmp_ge 29 (pc := 7) dX0_pushDown_7 (by decide) (fun hb => ?_) (fun hb => ?_)
      · have := (nI_leI (by omega) (by omega)).mp hb
        omega
      · have q : mh_aJ (mh_wJ h v (fun j => if j < i then mh_aJ h v j + mh_fJ h 5 p else mh_aJ h v j)) v i = mh_aJ h v i := by simp [mh_aJ_wJ]
        refine v_aload_n (pc := 10) dX0_pushDown_10 rfl rfl ?_
        refine g_R 1 1 (pc := 11) fX0_15 dX0_pushDown_11 rfl rfl (by assumption) (by assumption) (by assumption) ?_
        refine v_iload_n (pc := 14) dX0_pushDown_14 rfl rfl ?_
        refine v_dup2 (pc := 15) dX0_pushDown_15 rfl rfl ?_
        refine n_lald (i) _ (pc := 16) dX0_pushDown_16 (by assumption) (by assumption) rfl (by omega) (by decide) q ?_
        refine v_aload_n (pc := 17) dX0_pushDown_17 rfl rfl ?_
        refine g_J 5 1 (pc := 18) fX0_33 dX0_pushDown_18 rfl rfl (by assumption) rfl ?_
        refine v_ladd (pc := 21) dX0_pushDown_21 ?_
        refine n_last (i) _ (pc := 22) dX0_pushDown_22 (by assumption) (by assumption) rfl (by omega) (by decide) ?_
        refine v_iinc (pc := 23) dX0_pushDown_23 rfl (mv_inc _) rfl rfl (by decide) ?_
        refine v_goto 2 (pc := 26) dX0_pushDown_26 (by decide) ?_
        refine v_eqh ?_ (ih (i + 1) (by omega))
        rw [mh_saJ_wJ]
        refine mh_wJ_congr (fun j => ?_)
        by_cases c1 : j = i
        · subst c1; simp [mh_fJ_wJ]
        · by_cases c2 : j < i
          · simp [c1, c2, show j < i + 1 by omega]
          · simp [c1, c2, show ¬ j < i + 1 by omega]
  refine v_iconst (pc := 0) (v := 0) dX0_pushDown_0 (by decide) ?_
  refine v_istore_n (pc := 1) dX0_pushDown_1 rfl rfl rfl (by decide) ?_
  refine v_eqh ?_ (loop u 0 (by omega))
  simp only [Nat.not_lt_zero, if_false]
  exact (mh_wJ_id h v).symm
end PGW
