/-! LazyPages$Page: two pages; a new page. -/
/-- nothing has changed at a -/
def mh_sm (h h' : mh_T) (a : Nat) : Prop := mh_kd h' a = mh_kd h a ∧ mh_ln h' a = mh_ln h a ∧ (∀ F, mh_fI h' F a = mh_fI h F a) ∧ (∀ F, mh_fJ h' F a = mh_fJ h F a) ∧ (∀ F, mh_fR h' F a = mh_fR h F a) ∧ (∀ j, mh_aI h' a j = mh_aI h a j) ∧ (∀ j, mh_aJ h' a j = mh_aJ h a j) ∧ ∀ j, mh_aR h' a j = mh_aR h a j
theorem mh_sm_rf (h : mh_T) (a : Nat) : mh_sm h h a := ⟨rfl, rfl, fun _ => rfl, fun _ => rfl, fun _ => rfl, fun _ => rfl, fun _ => rfl, fun _ => rfl⟩
theorem mh_sm_tr {h h1 h2 : mh_T} {a : Nat} (x : mh_sm h h1 a) (y : mh_sm h1 h2 a) : mh_sm h h2 a := by
  obtain ⟨x1, x2, x3, x4, x5, x6, x7, x8⟩ := x
  obtain ⟨y1, y2, y3, y4, y5, y6, y7, y8⟩ := y
  exact ⟨y1.trans x1, y2.trans x2, fun F => (y3 F).trans (x3 F), fun F => (y4 F).trans (x4 F), fun F => (y5 F).trans (x5 F), fun F => (y6 F).trans (x6 F), fun F => (y7 F).trans (x7 F), fun F => (y8 F).trans (x8 F)⟩
theorem mh_sm_pg {h : mh_T} {p k v : Nat} {u lo hi : Int32} {w : Int64} {K : Nat → Int32} {V : Nat → Int64} {a : Nat} (h1 : a ≠ p) (h2 : a ≠ k) (h3 : a ≠ v) : mh_sm h (mh_pg h p k v u lo hi w K V) a := by
  refine ⟨rfl, rfl, fun F => ?_, fun F => ?_, fun F => rfl, fun j => ?_, fun j => ?_, fun j => rfl⟩
  · rw [mh_fI_pg, if_neg h1]
  · rw [mh_fJ_pg, if_neg h1]
  · rw [mh_aI_pg, if_neg h2]
  · rw [mh_aJ_pg, if_neg h3]
section PGY
variable {G : mv_G} {d : Nat} {h : mh_T} {p k v u p2 k2 v2 u2 : Nat} {key : Int32} {R : mv_O → mh_T → Prop}
set_option maxHeartbeats 4000000 in
set_option maxRecDepth 100000 in
theorem c_giveUpper (hp : pg_at h p k v u) (hp2 : pg_at h p2 k2 v2 u2) (hpp : p2 ≠ p) (hkk : k2 ≠ k) (hvv : v2 ≠ v) (hu : 2 ≤ u)
    (hR : R (.inl none) (mh_pg (mh_pg h p2 k2 v2 (nI (u - u / 2)) (mh_aI h k (u / 2)) (mh_fI h 4 p) (mh_fJ h 5 p) (fun j => if j < u - u / 2 then mh_aI h k (u / 2 + j) else mh_aI h k2 j) (fun j => if j < u - u / 2 then mh_aJ h v (u / 2 + j) else mh_aJ h v2 j)) p k v (nI (u / 2)) (mh_fI h 3 p) (mh_aI h k (u / 2) - 1) (mh_fJ h 5 p) (mh_aI h k) (mh_aJ h v))) :
    mv_V G jX0_giveUpperHalfTo (d + 3) 0 [(0, .ref p), (1, .ref p2)] [] h 0 0 R := by
  obtain ⟨e1, e2, e3, e4, e5, e6, e7, e8, e9, e10, e11⟩ := hp
  obtain ⟨f1, f2, f3, f4, f5, f6, f7, f8, f9, f10, f11⟩ := hp2
  have s0 : nI u / 2 = nI (u / 2) := pk_div (d := 2) (by omega) (by omega) (by omega)
  generalize hf : u / 2 = m at *
  have hm : m ≤ u ∧ m < 32 ∧ u - m ≤ 32 ∧ m < u := by omega
  have s1 : nI u - nI m = nI (u - m) := pk_sub hm.1
  refine v_aload_n (pc := 0) dX0_giveUpperHalfTo_0 rfl rfl ?_
  refine g_I 2 1 (pc := 1) fX0_19 dX0_giveUpperHalfTo_1 rfl rfl (by assumption) (by assumption) ?_
  refine v_iconst (pc := 4) (v := 2) dX0_giveUpperHalfTo_4 (by decide) ?_
  refine v_idiv (pc := 5) dX0_giveUpperHalfTo_5 (by decide) ?_
  refine v_eqi s0 ?_
  refine v_istore_n (pc := 6) dX0_giveUpperHalfTo_6 rfl rfl rfl (by decide) ?_
  refine v_aload_n (pc := 7) dX0_giveUpperHalfTo_7 rfl rfl ?_
  refine v_aload_n (pc := 8) dX0_giveUpperHalfTo_8 rfl rfl ?_
  refine g_I 2 1 (pc := 9) fX0_19 dX0_giveUpperHalfTo_9 rfl rfl (by assumption) (by assumption) ?_
  refine v_iload_n (pc := 12) dX0_giveUpperHalfTo_12 rfl rfl ?_
  refine v_isub (pc := 13) dX0_giveUpperHalfTo_13 ?_
  refine v_eqi s1 ?_
  refine p_I 2 1 (pc := 14) fX0_19 dX0_giveUpperHalfTo_14 rfl rfl (by assumption) ?_
  have r1 : mh_fI (mh_sfI h 2 p2 (nI (u - m))) 2 p2 = nI (u - m) := by simp [mh_fI_sfI]
  refine v_aload_n (pc := 17) dX0_giveUpperHalfTo_17 rfl rfl ?_
  refine g_R 0 1 (pc := 18) fX0_9 dX0_giveUpperHalfTo_18 rfl rfl (by assumption) (by assumption) (by assumption) ?_
  refine v_iload_n (pc := 21) dX0_giveUpperHalfTo_21 rfl rfl ?_
  refine v_aload_n (pc := 22) dX0_giveUpperHalfTo_22 rfl rfl ?_
  refine g_R 0 1 (pc := 23) fX0_9 dX0_giveUpperHalfTo_23 rfl rfl (by assumption) (by assumption) (by assumption) ?_
  refine v_iconst (pc := 26) (v := 0) dX0_giveUpperHalfTo_26 (by decide) ?_
  refine v_aload_n (pc := 27) dX0_giveUpperHalfTo_27 rfl rfl ?_
  refine g_I 2 1 (pc := 28) fX0_19 dX0_giveUpperHalfTo_28 rfl rfl (by assumption) r1 ?_
  refine n_cpI (m) (0) (u - m) _ _ (pc := 31) dX0_giveUpperHalfTo_31 kX0_48 (by assumption) (by assumption) (by assumption) (by assumption) rfl rfl rfl (by omega) (by omega) (by decide) (by decide) (Nat.le_of_ble_eq_true rfl) (by omega) ?_
  refine v_aload_n (pc := 34) dX0_giveUpperHalfTo_34 rfl rfl ?_
  refine g_R 1 1 (pc := 35) fX0_15 dX0_giveUpperHalfTo_35 rfl rfl (by assumption) (by assumption) (by assumption) ?_
  refine v_iload_n (pc := 38) dX0_giveUpperHalfTo_38 rfl rfl ?_
  refine v_aload_n (pc := 39) dX0_giveUpperHalfTo_39 rfl rfl ?_
  refine g_R 1 1 (pc := 40) fX0_15 dX0_giveUpperHalfTo_40 rfl rfl (by assumption) (by assumption) (by assumption) ?_
  refine v_iconst (pc := 43) (v := 0) dX0_giveUpperHalfTo_43 (by decide) ?_
  refine v_aload_n (pc := 44) dX0_giveUpperHalfTo_44 rfl rfl ?_
  refine g_I 2 1 (pc := 45) fX0_19 dX0_giveUpperHalfTo_45 rfl rfl (by assumption) r1 ?_
  refine n_cpJ (m) (0) (u - m) _ _ (pc := 48) dX0_giveUpperHalfTo_48 kX0_48 (by assumption) (by assumption) (by assumption) (by assumption) rfl rfl rfl (by omega) (by omega) (by decide) (by decide) (Nat.le_of_ble_eq_true rfl) (by omega) ?_
  refine v_aload_n (pc := 51) dX0_giveUpperHalfTo_51 rfl rfl ?_
  refine v_aload_n (pc := 52) dX0_giveUpperHalfTo_52 rfl rfl ?_
  refine g_J 5 1 (pc := 53) fX0_33 dX0_giveUpperHalfTo_53 rfl rfl (by assumption) rfl ?_
  refine p_J 5 1 (pc := 56) fX0_33 dX0_giveUpperHalfTo_56 rfl rfl (by assumption) ?_
  have r2 : mh_aI (mh_sfJ (mh_caJ (mh_caI (mh_sfI h 2 p2 (nI (u - m))) k m k2 0 (u - m)) v m v2 0 (u - m)) 5 p2 (mh_fJ h 5 p)) k m = mh_aI h k m := by simp [mh_kd_sfI, mh_ln_sfI, mh_fI_sfI, mh_fJ_sfI, mh_fR_sfI, mh_aI_sfI, mh_aJ_sfI, mh_aR_sfI, mh_kd_sfJ, mh_ln_sfJ, mh_fI_sfJ, mh_fJ_sfJ, mh_fR_sfJ, mh_aI_sfJ, mh_aJ_sfJ, mh_aR_sfJ, mh_kd_sfR, mh_ln_sfR, mh_fI_sfR, mh_fJ_sfR, mh_fR_sfR, mh_aI_sfR, mh_aJ_sfR, mh_aR_sfR, mh_kd_saI, mh_ln_saI, mh_fI_saI, mh_fJ_saI, mh_fR_saI, mh_aI_saI, mh_aJ_saI, mh_aR_saI, mh_kd_saJ, mh_ln_saJ, mh_fI_saJ, mh_fJ_saJ, mh_fR_saJ, mh_aI_saJ, mh_aJ_saJ, mh_aR_saJ, mh_kd_saR, mh_ln_saR, mh_fI_saR, mh_fJ_saR, mh_fR_saR, mh_aI_saR, mh_aJ_saR, mh_aR_saR, mh_kd_caI, mh_ln_caI, mh_fI_caI, mh_fJ_caI, mh_fR_caI, mh_aI_caI, mh_aJ_caI, mh_aR_caI, mh_kd_caJ, mh_ln_caJ, mh_fI_caJ, mh_fJ_caJ, mh_fR_caJ, mh_aI_caJ, mh_aJ_caJ, mh_aR_caJ, mh_kd_new, mh_ln_new, mh_fI_new, mh_fJ_new, mh_fR_new, mh_aI_new, mh_aJ_new, mh_aR_new, hkk.symm]
  refine v_aload_n (pc := 59) dX0_giveUpperHalfTo_59 rfl rfl ?_
  refine v_aload_n (pc := 60) dX0_giveUpperHalfTo_60 rfl rfl ?_
  refine g_R 0 1 (pc := 61) fX0_9 dX0_giveUpperHalfTo_61 rfl rfl (by assumption) (by assumption) (by assumption) ?_
  refine v_iload_n (pc := 64) dX0_giveUpperHalfTo_64 rfl rfl ?_
  refine n_iald (m) _ (pc := 65) dX0_giveUpperHalfTo_65 (by assumption) (by assumption) rfl (by omega) (by decide) r2 ?_
  refine p_I 3 1 (pc := 66) fX0_26 dX0_giveUpperHalfTo_66 rfl rfl (by assumption) ?_
  refine v_aload_n (pc := 69) dX0_giveUpperHalfTo_69 rfl rfl ?_
  refine v_aload_n (pc := 70) dX0_giveUpperHalfTo_70 rfl rfl ?_
  refine g_I 4 1 (pc := 71) fX0_30 dX0_giveUpperHalfTo_71 rfl rfl (by assumption) rfl ?_
  refine p_I 4 1 (pc := 74) fX0_30 dX0_giveUpperHalfTo_74 rfl rfl (by assumption) ?_
  refine v_aload_n (pc := 77) dX0_giveUpperHalfTo_77 rfl rfl ?_
  refine v_aload_n (pc := 78) dX0_giveUpperHalfTo_78 rfl rfl ?_
  refine g_R 0 1 (pc := 79) fX0_9 dX0_giveUpperHalfTo_79 rfl rfl (by assumption) (by assumption) (by assumption) ?_
  refine v_iload_n (pc := 82) dX0_giveUpperHalfTo_82 rfl rfl ?_
  refine n_iald (m) _ (pc := 83) dX0_giveUpperHalfTo_83 (by assumption) (by assumption) rfl (by omega) (by decide) r2 ?_
  refine v_iconst (pc := 84) (v := 1) dX0_giveUpperHalfTo_84 (by decide) ?_
  refine v_isub (pc := 85) dX0_giveUpperHalfTo_85 ?_
  refine p_I 4 1 (pc := 86) fX0_30 dX0_giveUpperHalfTo_86 rfl rfl (by assumption) ?_
  refine v_aload_n (pc := 89) dX0_giveUpperHalfTo_89 rfl rfl ?_
  refine v_iload_n (pc := 90) dX0_giveUpperHalfTo_90 rfl rfl ?_
  refine p_I 2 1 (pc := 91) fX0_19 dX0_giveUpperHalfTo_91 rfl rfl (by assumption) ?_
  refine v_vret (pc := 94) dX0_giveUpperHalfTo_94 rfl ?_
  refine mv_hr hR ?_
  refine mh_ext (fun _ => rfl) (fun _ => rfl) ?_ ?_ (fun _ _ => rfl) ?_ ?_ (fun _ _ => rfl)
  · intro F a
    simp only [mh_kd_sfI, mh_ln_sfI, mh_fI_sfI, mh_fJ_sfI, mh_fR_sfI, mh_aI_sfI, mh_aJ_sfI, mh_aR_sfI, mh_kd_sfJ, mh_ln_sfJ, mh_fI_sfJ, mh_fJ_sfJ, mh_fR_sfJ, mh_aI_sfJ, mh_aJ_sfJ, mh_aR_sfJ, mh_kd_sfR, mh_ln_sfR, mh_fI_sfR, mh_fJ_sfR, mh_fR_sfR, mh_aI_sfR, mh_aJ_sfR, mh_aR_sfR, mh_kd_saI, mh_ln_saI, mh_fI_saI, mh_fJ_saI, mh_fR_saI, mh_aI_saI, mh_aJ_saI, mh_aR_saI, mh_kd_saJ, mh_ln_saJ, mh_fI_saJ, mh_fJ_saJ, mh_fR_saJ, mh_aI_saJ, mh_aJ_saJ, mh_aR_saJ, mh_kd_saR, mh_ln_saR, mh_fI_saR, mh_fJ_saR, mh_fR_saR, mh_aI_saR, mh_aJ_saR, mh_aR_saR, mh_kd_caI, mh_ln_caI, mh_fI_caI, mh_fJ_caI, mh_fR_caI, mh_aI_caI, mh_aJ_caI, mh_aR_caI, mh_kd_caJ, mh_ln_caJ, mh_fI_caJ, mh_fJ_caJ, mh_fR_caJ, mh_aI_caJ, mh_aJ_caJ, mh_aR_caJ, mh_kd_new, mh_ln_new, mh_fI_new, mh_fJ_new, mh_fR_new, mh_aI_new, mh_aJ_new, mh_aR_new, mh_fI_pg]
    by_cases c1 : a = p
    · subst c1
      by_cases c3 : F = 2 <;> by_cases c4 : F = 3 <;> by_cases c5 : F = 4 <;> simp [c3, c4, c5, hpp.symm]
    · by_cases c2 : a = p2
      · subst c2
        by_cases c3 : F = 2 <;> by_cases c4 : F = 3 <;> by_cases c5 : F = 4 <;> simp [c3, c4, c5, c1, hpp.symm]
      · simp [c1, c2]
  · intro F a
    simp only [mh_kd_sfI, mh_ln_sfI, mh_fI_sfI, mh_fJ_sfI, mh_fR_sfI, mh_aI_sfI, mh_aJ_sfI, mh_aR_sfI, mh_kd_sfJ, mh_ln_sfJ, mh_fI_sfJ, mh_fJ_sfJ, mh_fR_sfJ, mh_aI_sfJ, mh_aJ_sfJ, mh_aR_sfJ, mh_kd_sfR, mh_ln_sfR, mh_fI_sfR, mh_fJ_sfR, mh_fR_sfR, mh_aI_sfR, mh_aJ_sfR, mh_aR_sfR, mh_kd_saI, mh_ln_saI, mh_fI_saI, mh_fJ_saI, mh_fR_saI, mh_aI_saI, mh_aJ_saI, mh_aR_saI, mh_kd_saJ, mh_ln_saJ, mh_fI_saJ, mh_fJ_saJ, mh_fR_saJ, mh_aI_saJ, mh_aJ_saJ, mh_aR_saJ, mh_kd_saR, mh_ln_saR, mh_fI_saR, mh_fJ_saR, mh_fR_saR, mh_aI_saR, mh_aJ_saR, mh_aR_saR, mh_kd_caI, mh_ln_caI, mh_fI_caI, mh_fJ_caI, mh_fR_caI, mh_aI_caI, mh_aJ_caI, mh_aR_caI, mh_kd_caJ, mh_ln_caJ, mh_fI_caJ, mh_fJ_caJ, mh_fR_caJ, mh_aI_caJ, mh_aJ_caJ, mh_aR_caJ, mh_kd_new, mh_ln_new, mh_fI_new, mh_fJ_new, mh_fR_new, mh_aI_new, mh_aJ_new, mh_aR_new, mh_fJ_pg]
    by_cases c1 : a = p
    · subst c1
      by_cases c3 : F = 5 <;> simp [c3, hpp.symm]
    · by_cases c2 : a = p2
      · subst c2
        by_cases c3 : F = 5 <;> simp [c3, c1]
      · simp [c1, c2]
  · intro a j
    simp only [mh_kd_sfI, mh_ln_sfI, mh_fI_sfI, mh_fJ_sfI, mh_fR_sfI, mh_aI_sfI, mh_aJ_sfI, mh_aR_sfI, mh_kd_sfJ, mh_ln_sfJ, mh_fI_sfJ, mh_fJ_sfJ, mh_fR_sfJ, mh_aI_sfJ, mh_aJ_sfJ, mh_aR_sfJ, mh_kd_sfR, mh_ln_sfR, mh_fI_sfR, mh_fJ_sfR, mh_fR_sfR, mh_aI_sfR, mh_aJ_sfR, mh_aR_sfR, mh_kd_saI, mh_ln_saI, mh_fI_saI, mh_fJ_saI, mh_fR_saI, mh_aI_saI, mh_aJ_saI, mh_aR_saI, mh_kd_saJ, mh_ln_saJ, mh_fI_saJ, mh_fJ_saJ, mh_fR_saJ, mh_aI_saJ, mh_aJ_saJ, mh_aR_saJ, mh_kd_saR, mh_ln_saR, mh_fI_saR, mh_fJ_saR, mh_fR_saR, mh_aI_saR, mh_aJ_saR, mh_aR_saR, mh_kd_caI, mh_ln_caI, mh_fI_caI, mh_fJ_caI, mh_fR_caI, mh_aI_caI, mh_aJ_caI, mh_aR_caI, mh_kd_caJ, mh_ln_caJ, mh_fI_caJ, mh_fJ_caJ, mh_fR_caJ, mh_aI_caJ, mh_aJ_caJ, mh_aR_caJ, mh_kd_new, mh_ln_new, mh_fI_new, mh_fJ_new, mh_fR_new, mh_aI_new, mh_aJ_new, mh_aR_new, mh_aI_pg]
    by_cases c1 : a = k
    · subst c1; simp [hkk.symm]
    · by_cases c2 : a = k2
      · subst c2; simp [c1]
      · simp [c1, c2]
  · intro a j
    simp only [mh_kd_sfI, mh_ln_sfI, mh_fI_sfI, mh_fJ_sfI, mh_fR_sfI, mh_aI_sfI, mh_aJ_sfI, mh_aR_sfI, mh_kd_sfJ, mh_ln_sfJ, mh_fI_sfJ, mh_fJ_sfJ, mh_fR_sfJ, mh_aI_sfJ, mh_aJ_sfJ, mh_aR_sfJ, mh_kd_sfR, mh_ln_sfR, mh_fI_sfR, mh_fJ_sfR, mh_fR_sfR, mh_aI_sfR, mh_aJ_sfR, mh_aR_sfR, mh_kd_saI, mh_ln_saI, mh_fI_saI, mh_fJ_saI, mh_fR_saI, mh_aI_saI, mh_aJ_saI, mh_aR_saI, mh_kd_saJ, mh_ln_saJ, mh_fI_saJ, mh_fJ_saJ, mh_fR_saJ, mh_aI_saJ, mh_aJ_saJ, mh_aR_saJ, mh_kd_saR, mh_ln_saR, mh_fI_saR, mh_fJ_saR, mh_fR_saR, mh_aI_saR, mh_aJ_saR, mh_aR_saR, mh_kd_caI, mh_ln_caI, mh_fI_caI, mh_fJ_caI, mh_fR_caI, mh_aI_caI, mh_aJ_caI, mh_aR_caI, mh_kd_caJ, mh_ln_caJ, mh_fI_caJ, mh_fJ_caJ, mh_fR_caJ, mh_aI_caJ, mh_aJ_caJ, mh_aR_caJ, mh_kd_new, mh_ln_new, mh_fI_new, mh_fJ_new, mh_fR_new, mh_aI_new, mh_aJ_new, mh_aR_new, mh_aJ_pg]
    by_cases c1 : a = v
    · subst c1; simp [hvv.symm]
    · by_cases c2 : a = v2
      · subst c2; simp [c1]
      · simp [c1, c2]
set_option maxHeartbeats 4000000 in
set_option maxRecDepth 100000 in
theorem c_takeAll (hp : pg_at h p k v u) (hp2 : pg_at h p2 k2 v2 u2) (hpp : p2 ≠ p) (hkk : k2 ≠ k) (hvv : v2 ≠ v) (hu : u + u2 ≤ 32)
    (hR : R (.inl none) (mh_pg h p k v (nI (u + u2)) (mh_fI h 3 p) (mh_fI h 4 p2) (mh_fJ h 5 p) (fun j => if u ≤ j ∧ j < u + u2 then mh_aI h k2 (j - u) else mh_aI h k j) (fun j => if u ≤ j ∧ j < u + u2 then mh_aJ h v2 (j - u) + mh_fJ h 5 p2 - mh_fJ h 5 p else mh_aJ h v j))) :
    mv_V G jX0_takeAllOf (d + 3) 0 [(0, .ref p), (1, .ref p2)] [] h 0 0 R := by
  have hp' := hp
  have hp2' := hp2
  obtain ⟨e1, e2, e3, e4, e5, e6, e7, e8, e9, e10, e11⟩ := hp
  obtain ⟨f1, f2, f3, f4, f5, f6, f7, f8, f9, f10, f11⟩ := hp2
  have loop : ∀ n i, i + n = u2 → mv_V G jX0_takeAllOf (d + 3) 22 [(0, .ref p), (1, .ref p2), (2, .int (nI i))] [] (mh_wJ (mh_caI h k2 0 k u u2) v (fun j => if u ≤ j ∧ j < u + i then mh_aJ h v2 (j - u) + mh_fJ h 5 p2 - mh_fJ h 5 p else mh_aJ h v j)) 0 0 R := by
    intro n
    induction n with
    | zero =>
      intro i h1
      have ei : i = u2 := by omega
      subst ei
      refine v_iload_n (pc := 22) dX0_takeAllOf_22 rfl rfl ?_
      refine v_aload_n (pc := 23) dX0_takeAllOf_23 rfl rfl ?_
      refine g_I 2 1 (pc := 24) fX0_19 dX0_takeAllOf_24 rfl rfl (by assumption) (by assumption) ?_
      refine v_icmp_ge 51 (pc := 27) dX0_takeAllOf_27 (by decide) (fun hb => ?_) (fun hb => ?_)
      · have s1 : nI u + nI i = nI (u + i) := nI_add u i
        refine v_aload_n (pc := 51) dX0_takeAllOf_51 rfl rfl ?_
        refine v_dup (pc := 52) dX0_takeAllOf_52 rfl ?_
        refine g_I 2 1 (pc := 53) fX0_19 dX0_takeAllOf_53 rfl rfl (by assumption) (by assumption) ?_
        refine v_aload_n (pc := 56) dX0_takeAllOf_56 rfl rfl ?_
        refine g_I 2 1 (pc := 57) fX0_19 dX0_takeAllOf_57 rfl rfl (by assumption) (by assumption) ?_
        refine v_iadd (pc := 60) dX0_takeAllOf_60 ?_
        refine v_eqi s1 ?_
        refine p_I 2 1 (pc := 61) fX0_19 dX0_takeAllOf_61 rfl rfl (by assumption) ?_
        refine v_aload_n (pc := 64) dX0_takeAllOf_64 rfl rfl ?_
        refine v_aload_n (pc := 65) dX0_takeAllOf_65 rfl rfl ?_
        refine g_I 4 1 (pc := 66) fX0_30 dX0_takeAllOf_66 rfl rfl (by assumption) rfl ?_
        refine p_I 4 1 (pc := 69) fX0_30 dX0_takeAllOf_69 rfl rfl (by assumption) ?_
        refine v_vret (pc := 72) dX0_takeAllOf_72 rfl ?_
        refine mv_hr hR ?_
        refine mh_pg_eq (fun _ => rfl) (fun _ => rfl) (fun _ _ => rfl) (fun _ _ => rfl) ?_ ?_ ?_ ?_ rfl (fun _ _ _ => rfl) ?_ ?_ ?_ ?_
        · simp [mh_kd_sfI, mh_ln_sfI, mh_fI_sfI, mh_fJ_sfI, mh_fR_sfI, mh_aI_sfI, mh_aJ_sfI, mh_aR_sfI, mh_kd_sfJ, mh_ln_sfJ, mh_fI_sfJ, mh_fJ_sfJ, mh_fR_sfJ, mh_aI_sfJ, mh_aJ_sfJ, mh_aR_sfJ, mh_kd_sfR, mh_ln_sfR, mh_fI_sfR, mh_fJ_sfR, mh_fR_sfR, mh_aI_sfR, mh_aJ_sfR, mh_aR_sfR, mh_kd_saI, mh_ln_saI, mh_fI_saI, mh_fJ_saI, mh_fR_saI, mh_aI_saI, mh_aJ_saI, mh_aR_saI, mh_kd_saJ, mh_ln_saJ, mh_fI_saJ, mh_fJ_saJ, mh_fR_saJ, mh_aI_saJ, mh_aJ_saJ, mh_aR_saJ, mh_kd_saR, mh_ln_saR, mh_fI_saR, mh_fJ_saR, mh_fR_saR, mh_aI_saR, mh_aJ_saR, mh_aR_saR, mh_kd_caI, mh_ln_caI, mh_fI_caI, mh_fJ_caI, mh_fR_caI, mh_aI_caI, mh_aJ_caI, mh_aR_caI, mh_kd_caJ, mh_ln_caJ, mh_fI_caJ, mh_fJ_caJ, mh_fR_caJ, mh_aI_caJ, mh_aJ_caJ, mh_aR_caJ, mh_kd_new, mh_ln_new, mh_fI_new, mh_fJ_new, mh_fR_new, mh_aI_new, mh_aJ_new, mh_aR_new]
        · simp [mh_kd_sfI, mh_ln_sfI, mh_fI_sfI, mh_fJ_sfI, mh_fR_sfI, mh_aI_sfI, mh_aJ_sfI, mh_aR_sfI, mh_kd_sfJ, mh_ln_sfJ, mh_fI_sfJ, mh_fJ_sfJ, mh_fR_sfJ, mh_aI_sfJ, mh_aJ_sfJ, mh_aR_sfJ, mh_kd_sfR, mh_ln_sfR, mh_fI_sfR, mh_fJ_sfR, mh_fR_sfR, mh_aI_sfR, mh_aJ_sfR, mh_aR_sfR, mh_kd_saI, mh_ln_saI, mh_fI_saI, mh_fJ_saI, mh_fR_saI, mh_aI_saI, mh_aJ_saI, mh_aR_saI, mh_kd_saJ, mh_ln_saJ, mh_fI_saJ, mh_fJ_saJ, mh_fR_saJ, mh_aI_saJ, mh_aJ_saJ, mh_aR_saJ, mh_kd_saR, mh_ln_saR, mh_fI_saR, mh_fJ_saR, mh_fR_saR, mh_aI_saR, mh_aJ_saR, mh_aR_saR, mh_kd_caI, mh_ln_caI, mh_fI_caI, mh_fJ_caI, mh_fR_caI, mh_aI_caI, mh_aJ_caI, mh_aR_caI, mh_kd_caJ, mh_ln_caJ, mh_fI_caJ, mh_fJ_caJ, mh_fR_caJ, mh_aI_caJ, mh_aJ_caJ, mh_aR_caJ, mh_kd_new, mh_ln_new, mh_fI_new, mh_fJ_new, mh_fR_new, mh_aI_new, mh_aJ_new, mh_aR_new, mh_fI_wJ]
        · simp [mh_kd_sfI, mh_ln_sfI, mh_fI_sfI, mh_fJ_sfI, mh_fR_sfI, mh_aI_sfI, mh_aJ_sfI, mh_aR_sfI, mh_kd_sfJ, mh_ln_sfJ, mh_fI_sfJ, mh_fJ_sfJ, mh_fR_sfJ, mh_aI_sfJ, mh_aJ_sfJ, mh_aR_sfJ, mh_kd_sfR, mh_ln_sfR, mh_fI_sfR, mh_fJ_sfR, mh_fR_sfR, mh_aI_sfR, mh_aJ_sfR, mh_aR_sfR, mh_kd_saI, mh_ln_saI, mh_fI_saI, mh_fJ_saI, mh_fR_saI, mh_aI_saI, mh_aJ_saI, mh_aR_saI, mh_kd_saJ, mh_ln_saJ, mh_fI_saJ, mh_fJ_saJ, mh_fR_saJ, mh_aI_saJ, mh_aJ_saJ, mh_aR_saJ, mh_kd_saR, mh_ln_saR, mh_fI_saR, mh_fJ_saR, mh_fR_saR, mh_aI_saR, mh_aJ_saR, mh_aR_saR, mh_kd_caI, mh_ln_caI, mh_fI_caI, mh_fJ_caI, mh_fR_caI, mh_aI_caI, mh_aJ_caI, mh_aR_caI, mh_kd_caJ, mh_ln_caJ, mh_fI_caJ, mh_fJ_caJ, mh_fR_caJ, mh_aI_caJ, mh_aJ_caJ, mh_aR_caJ, mh_kd_new, mh_ln_new, mh_fI_new, mh_fJ_new, mh_fR_new, mh_aI_new, mh_aJ_new, mh_aR_new, mh_fI_wJ]
        · intro F a hF
          simp only [mh_kd_sfI, mh_ln_sfI, mh_fI_sfI, mh_fJ_sfI, mh_fR_sfI, mh_aI_sfI, mh_aJ_sfI, mh_aR_sfI, mh_kd_sfJ, mh_ln_sfJ, mh_fI_sfJ, mh_fJ_sfJ, mh_fR_sfJ, mh_aI_sfJ, mh_aJ_sfJ, mh_aR_sfJ, mh_kd_sfR, mh_ln_sfR, mh_fI_sfR, mh_fJ_sfR, mh_fR_sfR, mh_aI_sfR, mh_aJ_sfR, mh_aR_sfR, mh_kd_saI, mh_ln_saI, mh_fI_saI, mh_fJ_saI, mh_fR_saI, mh_aI_saI, mh_aJ_saI, mh_aR_saI, mh_kd_saJ, mh_ln_saJ, mh_fI_saJ, mh_fJ_saJ, mh_fR_saJ, mh_aI_saJ, mh_aJ_saJ, mh_aR_saJ, mh_kd_saR, mh_ln_saR, mh_fI_saR, mh_fJ_saR, mh_fR_saR, mh_aI_saR, mh_aJ_saR, mh_aR_saR, mh_kd_caI, mh_ln_caI, mh_fI_caI, mh_fJ_caI, mh_fR_caI, mh_aI_caI, mh_aJ_caI, mh_aR_caI, mh_kd_caJ, mh_ln_caJ, mh_fI_caJ, mh_fJ_caJ, mh_fR_caJ, mh_aI_caJ, mh_aJ_caJ, mh_aR_caJ, mh_kd_new, mh_ln_new, mh_fI_new, mh_fJ_new, mh_fR_new, mh_aI_new, mh_aJ_new, mh_aR_new, mh_fI_wJ]
          rw [if_neg (by omega), if_neg (by omega)]
        · intro j
          simp only [mh_kd_sfI, mh_ln_sfI, mh_fI_sfI, mh_fJ_sfI, mh_fR_sfI, mh_aI_sfI, mh_aJ_sfI, mh_aR_sfI, mh_kd_sfJ, mh_ln_sfJ, mh_fI_sfJ, mh_fJ_sfJ, mh_fR_sfJ, mh_aI_sfJ, mh_aJ_sfJ, mh_aR_sfJ, mh_kd_sfR, mh_ln_sfR, mh_fI_sfR, mh_fJ_sfR, mh_fR_sfR, mh_aI_sfR, mh_aJ_sfR, mh_aR_sfR, mh_kd_saI, mh_ln_saI, mh_fI_saI, mh_fJ_saI, mh_fR_saI, mh_aI_saI, mh_aJ_saI, mh_aR_saI, mh_kd_saJ, mh_ln_saJ, mh_fI_saJ, mh_fJ_saJ, mh_fR_saJ, mh_aI_saJ, mh_aJ_saJ, mh_aR_saJ, mh_kd_saR, mh_ln_saR, mh_fI_saR, mh_fJ_saR, mh_fR_saR, mh_aI_saR, mh_aJ_saR, mh_aR_saR, mh_kd_caI, mh_ln_caI, mh_fI_caI, mh_fJ_caI, mh_fR_caI, mh_aI_caI, mh_aJ_caI, mh_aR_caI, mh_kd_caJ, mh_ln_caJ, mh_fI_caJ, mh_fJ_caJ, mh_fR_caJ, mh_aI_caJ, mh_aJ_caJ, mh_aR_caJ, mh_kd_new, mh_ln_new, mh_fI_new, mh_fJ_new, mh_fR_new, mh_aI_new, mh_aJ_new, mh_aR_new, mh_aI_wJ]
          by_cases c : u ≤ j ∧ j < u + i
          · rw [if_pos ⟨trivial, c⟩, if_pos c, Nat.zero_add]
          · rw [if_neg (fun z => c z.2), if_neg c]
        · intro a j ha
          simp only [mh_kd_sfI, mh_ln_sfI, mh_fI_sfI, mh_fJ_sfI, mh_fR_sfI, mh_aI_sfI, mh_aJ_sfI, mh_aR_sfI, mh_kd_sfJ, mh_ln_sfJ, mh_fI_sfJ, mh_fJ_sfJ, mh_fR_sfJ, mh_aI_sfJ, mh_aJ_sfJ, mh_aR_sfJ, mh_kd_sfR, mh_ln_sfR, mh_fI_sfR, mh_fJ_sfR, mh_fR_sfR, mh_aI_sfR, mh_aJ_sfR, mh_aR_sfR, mh_kd_saI, mh_ln_saI, mh_fI_saI, mh_fJ_saI, mh_fR_saI, mh_aI_saI, mh_aJ_saI, mh_aR_saI, mh_kd_saJ, mh_ln_saJ, mh_fI_saJ, mh_fJ_saJ, mh_fR_saJ, mh_aI_saJ, mh_aJ_saJ, mh_aR_saJ, mh_kd_saR, mh_ln_saR, mh_fI_saR, mh_fJ_saR, mh_fR_saR, mh_aI_saR, mh_aJ_saR, mh_aR_saR, mh_kd_caI, mh_ln_caI, mh_fI_caI, mh_fJ_caI, mh_fR_caI, mh_aI_caI, mh_aJ_caI, mh_aR_caI, mh_kd_caJ, mh_ln_caJ, mh_fI_caJ, mh_fJ_caJ, mh_fR_caJ, mh_aI_caJ, mh_aJ_caJ, mh_aR_caJ, mh_kd_new, mh_ln_new, mh_fI_new, mh_fJ_new, mh_fR_new, mh_aI_new, mh_aJ_new, mh_aR_new, mh_aI_wJ]
          rw [if_neg (fun z => ha z.1)]
        · intro j
          simp only [mh_kd_sfI, mh_ln_sfI, mh_fI_sfI, mh_fJ_sfI, mh_fR_sfI, mh_aI_sfI, mh_aJ_sfI, mh_aR_sfI, mh_kd_sfJ, mh_ln_sfJ, mh_fI_sfJ, mh_fJ_sfJ, mh_fR_sfJ, mh_aI_sfJ, mh_aJ_sfJ, mh_aR_sfJ, mh_kd_sfR, mh_ln_sfR, mh_fI_sfR, mh_fJ_sfR, mh_fR_sfR, mh_aI_sfR, mh_aJ_sfR, mh_aR_sfR, mh_kd_saI, mh_ln_saI, mh_fI_saI, mh_fJ_saI, mh_fR_saI, mh_aI_saI, mh_aJ_saI, mh_aR_saI, mh_kd_saJ, mh_ln_saJ, mh_fI_saJ, mh_fJ_saJ, mh_fR_saJ, mh_aI_saJ, mh_aJ_saJ, mh_aR_saJ, mh_kd_saR, mh_ln_saR, mh_fI_saR, mh_fJ_saR, mh_fR_saR, mh_aI_saR, mh_aJ_saR, mh_aR_saR, mh_kd_caI, mh_ln_caI, mh_fI_caI, mh_fJ_caI, mh_fR_caI, mh_aI_caI, mh_aJ_caI, mh_aR_caI, mh_kd_caJ, mh_ln_caJ, mh_fI_caJ, mh_fJ_caJ, mh_fR_caJ, mh_aI_caJ, mh_aJ_caJ, mh_aR_caJ, mh_kd_new, mh_ln_new, mh_fI_new, mh_fJ_new, mh_fR_new, mh_aI_new, mh_aJ_new, mh_aR_new, mh_aJ_wJ, if_true]
        · intro a j ha
          simp only [mh_kd_sfI, mh_ln_sfI, mh_fI_sfI, mh_fJ_sfI, mh_fR_sfI, mh_aI_sfI, mh_aJ_sfI, mh_aR_sfI, mh_kd_sfJ, mh_ln_sfJ, mh_fI_sfJ, mh_fJ_sfJ, mh_fR_sfJ, mh_aI_sfJ, mh_aJ_sfJ, mh_aR_sfJ, mh_kd_sfR, mh_ln_sfR, mh_fI_sfR, mh_fJ_sfR, mh_fR_sfR, mh_aI_sfR, mh_aJ_sfR, mh_aR_sfR, mh_kd_saI, mh_ln_saI, mh_fI_saI, mh_fJ_saI, mh_fR_saI, mh_aI_saI, mh_aJ_saI, mh_aR_saI, mh_kd_saJ, mh_ln_saJ, mh_fI_saJ, mh_fJ_saJ, mh_fR_saJ, mh_aI_saJ, mh_aJ_saJ, mh_aR_saJ, mh_kd_saR, mh_ln_saR, mh_fI_saR, mh_fJ_saR, mh_fR_saR, mh_aI_saR, mh_aJ_saR, mh_aR_saR, mh_kd_caI, mh_ln_caI, mh_fI_caI, mh_fJ_caI, mh_fR_caI, mh_aI_caI, mh_aJ_caI, mh_aR_caI, mh_kd_caJ, mh_ln_caJ, mh_fI_caJ, mh_fJ_caJ, mh_fR_caJ, mh_aI_caJ, mh_aJ_caJ, mh_aR_caJ, mh_kd_new, mh_ln_new, mh_fI_new, mh_fJ_new, mh_fR_new, mh_aI_new, mh_aJ_new, mh_aR_new, mh_aJ_wJ]
          rw [if_neg ha]
      · exact absurd ((nI_leI (by omega) (by omega)).mpr (by omega)) hb
    | succ n ih =>
      intro i h1
      refine v_iload_n (pc := 22) dX0_takeAllOf_22 rfl rfl ?_
      refine v_aload_n (pc := 23) dX0_takeAllOf_23 rfl rfl ?_
      refine g_I 2 1 (pc := 24) fX0_19 dX0_takeAllOf_24 rfl rfl (by assumption) (by assumption) ?_
      refine v_icmp_ge 51 (pc := 27) dX0_takeAllOf_27 (by decide) (fun hb => ?_) (fun hb => ?_)
      · have := (nI_leI (by omega) (by omega)).mp hb
        omega
      · refine v_aload_n (pc := 30) dX0_takeAllOf_30 rfl rfl ?_
        refine v_aload_n (pc := 31) dX0_takeAllOf_31 rfl rfl ?_
        refine g_I 2 1 (pc := 32) fX0_19 dX0_takeAllOf_32 rfl rfl (by assumption) (by assumption) ?_
        refine v_iload_n (pc := 35) dX0_takeAllOf_35 rfl rfl ?_
        refine v_iadd (pc := 36) dX0_takeAllOf_36 ?_
        refine v_eqi (nI_add u i) ?_
        refine v_aload_n (pc := 37) dX0_takeAllOf_37 rfl rfl ?_
        refine v_iload_n (pc := 38) dX0_takeAllOf_38 rfl rfl ?_
        refine v_callV 0 0 (pc := 39) kX0_58 dX0_takeAllOf_39 rfl (by assumption) (Nat.zero_le _) (Nat.zero_le _) (Nat.le_of_ble_eq_true rfl) (Nat.le_of_ble_eq_true rfl) ?_
        refine c_valueAt (i := i) (k := k2) (v := v2) (u := u2) ⟨f1, f2, f3, f4, f5, f6, f7, f8, f9, f10, f11⟩ (by omega) ?_
        refine v_callV 0 0 (pc := 42) kX0_54 dX0_takeAllOf_42 rfl (by assumption) (Nat.zero_le _) (Nat.zero_le _) (Nat.le_of_ble_eq_true rfl) (Nat.le_of_ble_eq_true rfl) ?_
        refine c_setValueAt (i := u + i) (k := k) (v := v) (u := u) ⟨e1, e2, e3, e4, e5, e6, e7, e8, e9, e10, e11⟩ (by omega) ?_
        refine v_iinc (pc := 45) dX0_takeAllOf_45 rfl (mv_inc _) rfl rfl (by decide) ?_
        refine v_goto 22 (pc := 48) dX0_takeAllOf_48 (by decide) ?_
        refine v_eqh ?_ (ih (i + 1) (by omega))
        rw [mh_saJ_wJ]
        refine mh_wJ_congr (fun j => ?_)
        by_cases c1 : j = u + i
        · subst c1
          rw [if_pos rfl, if_pos (by omega), mh_aJ_wJ, if_neg hvv]
          have e0 : u + i - u = i := by omega
          rw [e0]
          rfl
        · rw [if_neg c1]
          by_cases c2 : u ≤ j ∧ j < u + i
          · rw [if_pos c2, if_pos (by omega)]
          · rw [if_neg c2, if_neg (by omega)]
  refine v_aload_n (pc := 0) dX0_takeAllOf_0 rfl rfl ?_
  refine g_R 0 1 (pc := 1) fX0_9 dX0_takeAllOf_1 rfl rfl (by assumption) (by assumption) (by assumption) ?_
  refine v_iconst (pc := 4) (v := 0) dX0_takeAllOf_4 (by decide) ?_
  refine v_aload_n (pc := 5) dX0_takeAllOf_5 rfl rfl ?_
  refine g_R 0 1 (pc := 6) fX0_9 dX0_takeAllOf_6 rfl rfl (by assumption) (by assumption) (by assumption) ?_
  refine v_aload_n (pc := 9) dX0_takeAllOf_9 rfl rfl ?_
  refine g_I 2 1 (pc := 10) fX0_19 dX0_takeAllOf_10 rfl rfl (by assumption) (by assumption) ?_
  refine v_aload_n (pc := 13) dX0_takeAllOf_13 rfl rfl ?_
  refine g_I 2 1 (pc := 14) fX0_19 dX0_takeAllOf_14 rfl rfl (by assumption) (by assumption) ?_
  refine n_cpI (0) (u) (u2) _ _ (pc := 17) dX0_takeAllOf_17 kX0_48 (by assumption) (by assumption) (by assumption) (by assumption) rfl rfl rfl (by omega) (by omega) (by decide) (by decide) (Nat.le_of_ble_eq_true rfl) (by omega) ?_
  refine v_iconst (pc := 20) (v := 0) dX0_takeAllOf_20 (by decide) ?_
  refine v_istore_n (pc := 21) dX0_takeAllOf_21 rfl rfl rfl (by decide) ?_
  refine v_eqh ?_ (loop u2 0 (by omega))
  have e0 : (fun j => if u ≤ j ∧ j < u + 0 then mh_aJ h v2 (j - u) + mh_fJ h 5 p2 - mh_fJ h 5 p else mh_aJ h v j) = mh_aJ (mh_caI h k2 0 k u u2) v := by
    funext j; rw [if_neg (by omega)]; rfl
  rw [e0]
  exact (mh_wJ_id _ v).symm
set_option maxHeartbeats 4000000 in
set_option maxRecDepth 100000 in
theorem c_pgCopy (hp : pg_at h p k v u) (hp2 : pg_at h p2 k2 v2 u2) (hpp : p2 ≠ p) (hkk : k2 ≠ k) (hvv : v2 ≠ v)
    (hR : R (.inl none) (mh_pg h p k v (nI u2) (mh_fI h 3 p2) (mh_fI h 4 p2) 0 (fun j => if j < u2 then mh_aI h k2 j else mh_aI h k j) (fun j => if j < u2 then mh_aJ h v2 j + mh_fJ h 5 p2 else mh_aJ h v j))) :
    mv_V G jX0_copyFrom (d + 3) 0 [(0, .ref p), (1, .ref p2)] [] h 0 0 R := by
  obtain ⟨e1, e2, e3, e4, e5, e6, e7, e8, e9, e10, e11⟩ := hp
  obtain ⟨f1, f2, f3, f4, f5, f6, f7, f8, f9, f10, f11⟩ := hp2
  refine v_aload_n (pc := 0) dX0_copyFrom_0 rfl rfl ?_
  refine v_aload_n (pc := 1) dX0_copyFrom_1 rfl rfl ?_
  refine g_I 2 1 (pc := 2) fX0_19 dX0_copyFrom_2 rfl rfl (by assumption) (by assumption) ?_
  refine p_I 2 1 (pc := 5) fX0_19 dX0_copyFrom_5 rfl rfl (by assumption) ?_
  have r3 : mh_fI (mh_sfI h 2 p (nI u2)) 3 p2 = mh_fI h 3 p2 := by simp [mh_kd_sfI, mh_ln_sfI, mh_fI_sfI, mh_fJ_sfI, mh_fR_sfI, mh_aI_sfI, mh_aJ_sfI, mh_aR_sfI, mh_kd_sfJ, mh_ln_sfJ, mh_fI_sfJ, mh_fJ_sfJ, mh_fR_sfJ, mh_aI_sfJ, mh_aJ_sfJ, mh_aR_sfJ, mh_kd_sfR, mh_ln_sfR, mh_fI_sfR, mh_fJ_sfR, mh_fR_sfR, mh_aI_sfR, mh_aJ_sfR, mh_aR_sfR, mh_kd_saI, mh_ln_saI, mh_fI_saI, mh_fJ_saI, mh_fR_saI, mh_aI_saI, mh_aJ_saI, mh_aR_saI, mh_kd_saJ, mh_ln_saJ, mh_fI_saJ, mh_fJ_saJ, mh_fR_saJ, mh_aI_saJ, mh_aJ_saJ, mh_aR_saJ, mh_kd_saR, mh_ln_saR, mh_fI_saR, mh_fJ_saR, mh_fR_saR, mh_aI_saR, mh_aJ_saR, mh_aR_saR, mh_kd_caI, mh_ln_caI, mh_fI_caI, mh_fJ_caI, mh_fR_caI, mh_aI_caI, mh_aJ_caI, mh_aR_caI, mh_kd_caJ, mh_ln_caJ, mh_fI_caJ, mh_fJ_caJ, mh_fR_caJ, mh_aI_caJ, mh_aJ_caJ, mh_aR_caJ, mh_kd_new, mh_ln_new, mh_fI_new, mh_fJ_new, mh_fR_new, mh_aI_new, mh_aJ_new, mh_aR_new]
  refine v_aload_n (pc := 8) dX0_copyFrom_8 rfl rfl ?_
  refine v_aload_n (pc := 9) dX0_copyFrom_9 rfl rfl ?_
  refine g_I 3 1 (pc := 10) fX0_26 dX0_copyFrom_10 rfl rfl (by assumption) r3 ?_
  refine p_I 3 1 (pc := 13) fX0_26 dX0_copyFrom_13 rfl rfl (by assumption) ?_
  have r4 : mh_fI (mh_sfI (mh_sfI h 2 p (nI u2)) 3 p (mh_fI h 3 p2)) 4 p2 = mh_fI h 4 p2 := by simp [mh_kd_sfI, mh_ln_sfI, mh_fI_sfI, mh_fJ_sfI, mh_fR_sfI, mh_aI_sfI, mh_aJ_sfI, mh_aR_sfI, mh_kd_sfJ, mh_ln_sfJ, mh_fI_sfJ, mh_fJ_sfJ, mh_fR_sfJ, mh_aI_sfJ, mh_aJ_sfJ, mh_aR_sfJ, mh_kd_sfR, mh_ln_sfR, mh_fI_sfR, mh_fJ_sfR, mh_fR_sfR, mh_aI_sfR, mh_aJ_sfR, mh_aR_sfR, mh_kd_saI, mh_ln_saI, mh_fI_saI, mh_fJ_saI, mh_fR_saI, mh_aI_saI, mh_aJ_saI, mh_aR_saI, mh_kd_saJ, mh_ln_saJ, mh_fI_saJ, mh_fJ_saJ, mh_fR_saJ, mh_aI_saJ, mh_aJ_saJ, mh_aR_saJ, mh_kd_saR, mh_ln_saR, mh_fI_saR, mh_fJ_saR, mh_fR_saR, mh_aI_saR, mh_aJ_saR, mh_aR_saR, mh_kd_caI, mh_ln_caI, mh_fI_caI, mh_fJ_caI, mh_fR_caI, mh_aI_caI, mh_aJ_caI, mh_aR_caI, mh_kd_caJ, mh_ln_caJ, mh_fI_caJ, mh_fJ_caJ, mh_fR_caJ, mh_aI_caJ, mh_aJ_caJ, mh_aR_caJ, mh_kd_new, mh_ln_new, mh_fI_new, mh_fJ_new, mh_fR_new, mh_aI_new, mh_aJ_new, mh_aR_new]
  refine v_aload_n (pc := 16) dX0_copyFrom_16 rfl rfl ?_
  refine v_aload_n (pc := 17) dX0_copyFrom_17 rfl rfl ?_
  refine g_I 4 1 (pc := 18) fX0_30 dX0_copyFrom_18 rfl rfl (by assumption) r4 ?_
  refine p_I 4 1 (pc := 21) fX0_30 dX0_copyFrom_21 rfl rfl (by assumption) ?_
  have r5 : mh_fI (mh_sfI (mh_sfI (mh_sfI h 2 p (nI u2)) 3 p (mh_fI h 3 p2)) 4 p (mh_fI h 4 p2)) 2 p = nI u2 := by simp [mh_kd_sfI, mh_ln_sfI, mh_fI_sfI, mh_fJ_sfI, mh_fR_sfI, mh_aI_sfI, mh_aJ_sfI, mh_aR_sfI, mh_kd_sfJ, mh_ln_sfJ, mh_fI_sfJ, mh_fJ_sfJ, mh_fR_sfJ, mh_aI_sfJ, mh_aJ_sfJ, mh_aR_sfJ, mh_kd_sfR, mh_ln_sfR, mh_fI_sfR, mh_fJ_sfR, mh_fR_sfR, mh_aI_sfR, mh_aJ_sfR, mh_aR_sfR, mh_kd_saI, mh_ln_saI, mh_fI_saI, mh_fJ_saI, mh_fR_saI, mh_aI_saI, mh_aJ_saI, mh_aR_saI, mh_kd_saJ, mh_ln_saJ, mh_fI_saJ, mh_fJ_saJ, mh_fR_saJ, mh_aI_saJ, mh_aJ_saJ, mh_aR_saJ, mh_kd_saR, mh_ln_saR, mh_fI_saR, mh_fJ_saR, mh_fR_saR, mh_aI_saR, mh_aJ_saR, mh_aR_saR, mh_kd_caI, mh_ln_caI, mh_fI_caI, mh_fJ_caI, mh_fR_caI, mh_aI_caI, mh_aJ_caI, mh_aR_caI, mh_kd_caJ, mh_ln_caJ, mh_fI_caJ, mh_fJ_caJ, mh_fR_caJ, mh_aI_caJ, mh_aJ_caJ, mh_aR_caJ, mh_kd_new, mh_ln_new, mh_fI_new, mh_fJ_new, mh_fR_new, mh_aI_new, mh_aJ_new, mh_aR_new]
  refine v_aload_n (pc := 24) dX0_copyFrom_24 rfl rfl ?_
  refine g_R 0 1 (pc := 25) fX0_9 dX0_copyFrom_25 rfl rfl (by assumption) (by assumption) (by assumption) ?_
  refine v_iconst (pc := 28) (v := 0) dX0_copyFrom_28 (by decide) ?_
  refine v_aload_n (pc := 29) dX0_copyFrom_29 rfl rfl ?_
  refine g_R 0 1 (pc := 30) fX0_9 dX0_copyFrom_30 rfl rfl (by assumption) (by assumption) (by assumption) ?_
  refine v_iconst (pc := 33) (v := 0) dX0_copyFrom_33 (by decide) ?_
  refine v_aload_n (pc := 34) dX0_copyFrom_34 rfl rfl ?_
  refine g_I 2 1 (pc := 35) fX0_19 dX0_copyFrom_35 rfl rfl (by assumption) r5 ?_
  refine n_cpI (0) (0) (u2) _ _ (pc := 38) dX0_copyFrom_38 kX0_48 (by assumption) (by assumption) (by assumption) (by assumption) rfl rfl rfl (by omega) (by omega) (by decide) (by decide) (Nat.le_of_ble_eq_true rfl) (by omega) ?_
  refine v_aload_n (pc := 41) dX0_copyFrom_41 rfl rfl ?_
  refine g_R 1 1 (pc := 42) fX0_15 dX0_copyFrom_42 rfl rfl (by assumption) (by assumption) (by assumption) ?_
  refine v_iconst (pc := 45) (v := 0) dX0_copyFrom_45 (by decide) ?_
  refine v_aload_n (pc := 46) dX0_copyFrom_46 rfl rfl ?_
  refine g_R 1 1 (pc := 47) fX0_15 dX0_copyFrom_47 rfl rfl (by assumption) (by assumption) (by assumption) ?_
  refine v_iconst (pc := 50) (v := 0) dX0_copyFrom_50 (by decide) ?_
  refine v_aload_n (pc := 51) dX0_copyFrom_51 rfl rfl ?_
  refine g_I 2 1 (pc := 52) fX0_19 dX0_copyFrom_52 rfl rfl (by assumption) r5 ?_
  refine n_cpJ (0) (0) (u2) _ _ (pc := 55) dX0_copyFrom_55 kX0_48 (by assumption) (by assumption) (by assumption) (by assumption) rfl rfl rfl (by omega) (by omega) (by decide) (by decide) (Nat.le_of_ble_eq_true rfl) (by omega) ?_
  refine v_aload_n (pc := 58) dX0_copyFrom_58 rfl rfl ?_
  refine v_aload_n (pc := 59) dX0_copyFrom_59 rfl rfl ?_
  refine g_J 5 1 (pc := 60) fX0_33 dX0_copyFrom_60 rfl rfl (by assumption) rfl ?_
  refine p_J 5 1 (pc := 63) fX0_33 dX0_copyFrom_63 rfl rfl (by assumption) ?_
  refine v_aload_n (pc := 66) dX0_copyFrom_66 rfl rfl ?_
  refine v_callV 0 0 (pc := 67) kX0_62 dX0_copyFrom_67 rfl (by assumption) (Nat.zero_le _) (Nat.zero_le _) (Nat.le_of_ble_eq_true rfl) (Nat.le_of_ble_eq_true rfl) ?_
  refine c_pushDown (u := u2) ⟨e1, e2, e3, e4, e5, e6, e7, e8, e9, r5, f11⟩ ?_
  refine v_vret (pc := 70) dX0_copyFrom_70 rfl ?_
  refine mv_hr hR ?_
  refine mh_ext (fun _ => rfl) (fun _ => rfl) ?_ ?_ (fun _ _ => rfl) ?_ ?_ (fun _ _ => rfl)
  · intro F a
    simp only [mh_kd_sfI, mh_ln_sfI, mh_fI_sfI, mh_fJ_sfI, mh_fR_sfI, mh_aI_sfI, mh_aJ_sfI, mh_aR_sfI, mh_kd_sfJ, mh_ln_sfJ, mh_fI_sfJ, mh_fJ_sfJ, mh_fR_sfJ, mh_aI_sfJ, mh_aJ_sfJ, mh_aR_sfJ, mh_kd_sfR, mh_ln_sfR, mh_fI_sfR, mh_fJ_sfR, mh_fR_sfR, mh_aI_sfR, mh_aJ_sfR, mh_aR_sfR, mh_kd_saI, mh_ln_saI, mh_fI_saI, mh_fJ_saI, mh_fR_saI, mh_aI_saI, mh_aJ_saI, mh_aR_saI, mh_kd_saJ, mh_ln_saJ, mh_fI_saJ, mh_fJ_saJ, mh_fR_saJ, mh_aI_saJ, mh_aJ_saJ, mh_aR_saJ, mh_kd_saR, mh_ln_saR, mh_fI_saR, mh_fJ_saR, mh_fR_saR, mh_aI_saR, mh_aJ_saR, mh_aR_saR, mh_kd_caI, mh_ln_caI, mh_fI_caI, mh_fJ_caI, mh_fR_caI, mh_aI_caI, mh_aJ_caI, mh_aR_caI, mh_kd_caJ, mh_ln_caJ, mh_fI_caJ, mh_fJ_caJ, mh_fR_caJ, mh_aI_caJ, mh_aJ_caJ, mh_aR_caJ, mh_kd_new, mh_ln_new, mh_fI_new, mh_fJ_new, mh_fR_new, mh_aI_new, mh_aJ_new, mh_aR_new, mh_fI_pg]
    by_cases c1 : a = p
    · subst c1
      by_cases c3 : F = 2 <;> by_cases c4 : F = 3 <;> by_cases c5 : F = 4 <;> simp [c3, c4, c5]
    · simp [c1]
  · intro F a
    simp only [mh_kd_sfI, mh_ln_sfI, mh_fI_sfI, mh_fJ_sfI, mh_fR_sfI, mh_aI_sfI, mh_aJ_sfI, mh_aR_sfI, mh_kd_sfJ, mh_ln_sfJ, mh_fI_sfJ, mh_fJ_sfJ, mh_fR_sfJ, mh_aI_sfJ, mh_aJ_sfJ, mh_aR_sfJ, mh_kd_sfR, mh_ln_sfR, mh_fI_sfR, mh_fJ_sfR, mh_fR_sfR, mh_aI_sfR, mh_aJ_sfR, mh_aR_sfR, mh_kd_saI, mh_ln_saI, mh_fI_saI, mh_fJ_saI, mh_fR_saI, mh_aI_saI, mh_aJ_saI, mh_aR_saI, mh_kd_saJ, mh_ln_saJ, mh_fI_saJ, mh_fJ_saJ, mh_fR_saJ, mh_aI_saJ, mh_aJ_saJ, mh_aR_saJ, mh_kd_saR, mh_ln_saR, mh_fI_saR, mh_fJ_saR, mh_fR_saR, mh_aI_saR, mh_aJ_saR, mh_aR_saR, mh_kd_caI, mh_ln_caI, mh_fI_caI, mh_fJ_caI, mh_fR_caI, mh_aI_caI, mh_aJ_caI, mh_aR_caI, mh_kd_caJ, mh_ln_caJ, mh_fI_caJ, mh_fJ_caJ, mh_fR_caJ, mh_aI_caJ, mh_aJ_caJ, mh_aR_caJ, mh_kd_new, mh_ln_new, mh_fI_new, mh_fJ_new, mh_fR_new, mh_aI_new, mh_aJ_new, mh_aR_new, mh_fJ_pg]
    by_cases c1 : a = p
    · subst c1
      by_cases c3 : F = 5 <;> simp [c3]
    · simp [c1]
  · intro a j
    simp only [mh_kd_sfI, mh_ln_sfI, mh_fI_sfI, mh_fJ_sfI, mh_fR_sfI, mh_aI_sfI, mh_aJ_sfI, mh_aR_sfI, mh_kd_sfJ, mh_ln_sfJ, mh_fI_sfJ, mh_fJ_sfJ, mh_fR_sfJ, mh_aI_sfJ, mh_aJ_sfJ, mh_aR_sfJ, mh_kd_sfR, mh_ln_sfR, mh_fI_sfR, mh_fJ_sfR, mh_fR_sfR, mh_aI_sfR, mh_aJ_sfR, mh_aR_sfR, mh_kd_saI, mh_ln_saI, mh_fI_saI, mh_fJ_saI, mh_fR_saI, mh_aI_saI, mh_aJ_saI, mh_aR_saI, mh_kd_saJ, mh_ln_saJ, mh_fI_saJ, mh_fJ_saJ, mh_fR_saJ, mh_aI_saJ, mh_aJ_saJ, mh_aR_saJ, mh_kd_saR, mh_ln_saR, mh_fI_saR, mh_fJ_saR, mh_fR_saR, mh_aI_saR, mh_aJ_saR, mh_aR_saR, mh_kd_caI, mh_ln_caI, mh_fI_caI, mh_fJ_caI, mh_fR_caI, mh_aI_caI, mh_aJ_caI, mh_aR_caI, mh_kd_caJ, mh_ln_caJ, mh_fI_caJ, mh_fJ_caJ, mh_fR_caJ, mh_aI_caJ, mh_aJ_caJ, mh_aR_caJ, mh_kd_new, mh_ln_new, mh_fI_new, mh_fJ_new, mh_fR_new, mh_aI_new, mh_aJ_new, mh_aR_new, mh_aI_pg]
    by_cases c1 : a = k
    · subst c1; simp
    · simp [c1]
  · intro a j
    simp only [mh_kd_sfI, mh_ln_sfI, mh_fI_sfI, mh_fJ_sfI, mh_fR_sfI, mh_aI_sfI, mh_aJ_sfI, mh_aR_sfI, mh_kd_sfJ, mh_ln_sfJ, mh_fI_sfJ, mh_fJ_sfJ, mh_fR_sfJ, mh_aI_sfJ, mh_aJ_sfJ, mh_aR_sfJ, mh_kd_sfR, mh_ln_sfR, mh_fI_sfR, mh_fJ_sfR, mh_fR_sfR, mh_aI_sfR, mh_aJ_sfR, mh_aR_sfR, mh_kd_saI, mh_ln_saI, mh_fI_saI, mh_fJ_saI, mh_fR_saI, mh_aI_saI, mh_aJ_saI, mh_aR_saI, mh_kd_saJ, mh_ln_saJ, mh_fI_saJ, mh_fJ_saJ, mh_fR_saJ, mh_aI_saJ, mh_aJ_saJ, mh_aR_saJ, mh_kd_saR, mh_ln_saR, mh_fI_saR, mh_fJ_saR, mh_fR_saR, mh_aI_saR, mh_aJ_saR, mh_aR_saR, mh_kd_caI, mh_ln_caI, mh_fI_caI, mh_fJ_caI, mh_fR_caI, mh_aI_caI, mh_aJ_caI, mh_aR_caI, mh_kd_caJ, mh_ln_caJ, mh_fI_caJ, mh_fJ_caJ, mh_fR_caJ, mh_aI_caJ, mh_aJ_caJ, mh_aR_caJ, mh_kd_new, mh_ln_new, mh_fI_new, mh_fJ_new, mh_fR_new, mh_aI_new, mh_aJ_new, mh_aR_new, mh_aJ_pg]
    by_cases c1 : a = v
    · subst c1
      by_cases c2 : j < u2
      · simp [c2]
      · simp [c2]
    · simp [c1]
end PGY
