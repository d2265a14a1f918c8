/-! LazyPagesModel: its messages; put, add, most, delete, raise, putAll. -/
def rp (ks fs ls : Nat → Int32) (am : Nat → Int64) : Nat → List En
  | 0 => []
  | n + 1 => doM (rp ks fs ls am n) (ks n) (fs n) (ls n) (am n)
def okL (ks fs ls : Nat → Int32) (am : Nat → Int64) (n : Nat) : Prop := ∀ j, j < n → okM (rp ks fs ls am j) (ks j) (fs j) (ls j)
theorem rp_up {ks fs ls : Nat → Int32} {am : Nat → Int64} {n : Nat} {k a b : Int32} {y : Int64} : ∀ j, j ≤ n → rp (up1 ks n k) (up1 fs n a) (up1 ls n b) (up1 am n y) j = rp ks fs ls am j := by
  intro j
  induction j with
  | zero => intro _; rfl
  | succ j ih =>
    intro hj
    rw [rp, rp, ih (by omega), up1_ne _ _ (show j ≠ n by omega), up1_ne _ _ (show j ≠ n by omega), up1_ne _ _ (show j ≠ n by omega), up1_ne _ _ (show j ≠ n by omega)]
theorem rp_up1 {ks fs ls : Nat → Int32} {am : Nat → Int64} {n : Nat} {k a b : Int32} {y : Int64} : rp (up1 ks n k) (up1 fs n a) (up1 ls n b) (up1 am n y) (n + 1) = doM (rp ks fs ls am n) k a b y := by
  rw [rp, rp_up n (Nat.le_refl n), up1_eq, up1_eq, up1_eq, up1_eq]
theorem okL_up {ks fs ls : Nat → Int32} {am : Nat → Int64} {n : Nat} {k a b : Int32} {y : Int64} (h : okL ks fs ls am n) (hok : okM (rp ks fs ls am n) k a b) : okL (up1 ks n k) (up1 fs n a) (up1 ls n b) (up1 am n y) (n + 1) := by
  intro j hj
  rw [rp_up j (by omega)]
  by_cases c : j = n
  · subst c
    rw [up1_eq, up1_eq, up1_eq]; exact hok
  · rw [up1_ne _ _ c, up1_ne _ _ c, up1_ne _ _ c]
    exact h j (by omega)
theorem okL_le {ks fs ls : Nat → Int32} {am : Nat → Int64} {n m : Nat} (h : okL ks fs ls am n) (hm : m ≤ n) : okL ks fs ls am m := fun j hj => h j (by omega)
def mS (S : Nat → Prop) (mo ka va za sa ki fi la aa : Nat) : Prop := S mo ∧ S ka ∧ S va ∧ S za ∧ S sa ∧ S ki ∧ S fi ∧ S la ∧ S aa
def md (h : mh_T) (S : Nat → Prop) (mo ka va za sa ki fi la aa : Nat) (V : Nat → List En) (sv : Nat → Bool) (nm nk : Nat) : Prop :=
  md0 h mo ka va za sa ki fi la aa V ∧ mS S mo ka va za sa ki fi la aa ∧ (∀ r, r < 4 → mh_aI h sa r = (if sv r = true then 1 else 0)) ∧ mh_fI h 309 mo = nI nm ∧ mh_fI h 310 mo = nI nk ∧ (nk ≤ nm ∧ nm ≤ 2500) ∧ okL (mh_aI h ki) (mh_aI h fi) (mh_aI h la) (mh_aJ h aa) nm ∧ rp (mh_aI h ki) (mh_aI h fi) (mh_aI h la) (mh_aJ h aa) nm = V 4 ∧ rp (mh_aI h ki) (mh_aI h fi) (mh_aI h la) (mh_aJ h aa) nk = V 5
theorem doM_0 (M : List En) (a b : Int32) (x : Int64) : doM M 0 a b x = putK M a x := by
  unfold doM nowK
  rw [if_neg (by decide), if_neg (by decide), if_pos rfl]
theorem doM_1 (M : List En) (a b : Int32) (x : Int64) : doM M 1 a b x = putK M a (valK M a + x) := by
  unfold doM nowK
  rw [if_neg (by decide), if_neg (by decide), if_neg (by decide), if_pos rfl]
theorem doM_2 (M : List En) (a b : Int32) (x : Int64) : doM M 2 a b x = putK M a (mostK M a x) := by
  unfold doM nowK
  rw [if_neg (by decide), if_neg (by decide), if_neg (by decide), if_neg (by decide)]
theorem doM_3 (M : List En) (a b : Int32) (x : Int64) : doM M 3 a b x = delK M a b := by
  unfold doM
  rw [if_pos rfl]
theorem doM_4 (M : List En) (a b : Int32) (x : Int64) : doM M 4 a b x = raiK M a b x := by
  unfold doM
  rw [if_neg (by decide), if_pos rfl]
theorem resM_1 (M : List En) (a b : Int32) (x : Int64) : resM M 1 a b x = valK M a + x := by
  unfold resM nowK
  rw [if_neg (by decide), if_neg (by decide), if_neg (by decide), if_pos rfl]
theorem resM_2 (M : List En) (a b : Int32) (x : Int64) : resM M 2 a b x = mostK M a x := by
  unfold resM nowK
  rw [if_neg (by decide), if_neg (by decide), if_neg (by decide), if_neg (by decide)]
theorem resM_3 (M : List En) (a b : Int32) (x : Int64) : resM M 3 a b x = (nI (cntK M a b)).toInt64 := by
  unfold resM
  rw [if_pos rfl]
theorem resM_4 (M : List En) (a b : Int32) (x : Int64) : resM M 4 a b x = (nI (cntK M a b)).toInt64 := by
  unfold resM
  rw [if_neg (by decide), if_pos rfl]
theorem okM_p {M : List En} {k a b : Int32} {nm : Nat} (h : okA nm M a) (h3 : k ≠ 3) (h4 : k ≠ 4) : okM M k a b := ⟨fun q => absurd q h3, fun q => absurd q h4, fun _ _ => Or.symm h.2⟩
theorem okM_3 {M : List En} {a b : Int32} (h : a ≤ b) : okM M 3 a b := ⟨fun _ => h, fun _ => h, fun q => absurd rfl q⟩
theorem okM_4 {M : List En} {a b : Int32} (h : a ≤ b) : okM M 4 a b := ⟨fun _ => h, fun _ => h, fun _ q => absurd rfl q⟩
section MDM
variable {G : mv_G} {d : Nat} {h : mh_T} {S : Nat → Prop} {mo ka va za sa ki fi la aa : Nat} {V : Nat → List En} {sv : Nat → Bool} {nm nk : Nat} {k a b key : Int32} {y : Int64} {R : mv_O → mh_T → Prop}
theorem mF_SF {h' : mh_T} (hS : mS S mo ka va za sa ki fi la aa) (hF : mF h h' ka va za) : SF S h h' := fun c hc => hF c (fun q => hc (q ▸ hS.2.1)) (fun q => hc (q ▸ hS.2.2.1)) (fun q => hc (q ▸ hS.2.2.2.1))
theorem md_thr {x : Int32} (hm : md h S mo ka va za sa ki fi la aa V sv nm nk) : md (mh_sfI h 300 mo x) S mo ka va za sa ki fi la aa V sv nm nk ∧ SF S h (mh_sfI h 300 mo x) ∧ mh_fI (mh_sfI h 300 mo x) 300 mo = x := by
  obtain ⟨m1, m2, m3, m4, m5, m6⟩ := hm
  refine ⟨⟨m1, m2, m3, ?_, ?_, m6⟩, SF_sfI m2.1, ?_⟩
  · rw [mh_fI_sfI, if_neg (fun q => absurd q.1 (by decide))]; exact m4
  · rw [mh_fI_sfI, if_neg (fun q => absurd q.1 (by decide))]; exact m5
  · rw [mh_fI_sfI, if_pos ⟨rfl, rfl⟩]
theorem mh_sm_saJ {h : mh_T} {sa i a : Nat} {x : Int64} (ha : a ≠ sa) : mh_sm h (mh_saJ h sa i x) a := by
  refine ⟨rfl, rfl, fun _ => rfl, fun _ => rfl, fun _ => rfl, fun _ => rfl, fun j => ?_, fun _ => rfl⟩
  rw [mh_aJ_saJ, if_neg (fun q => ha q.1)]
set_option maxHeartbeats 4000000 in
set_option maxRecDepth 100000 in
theorem m_message (hm : md h S mo ka va za sa ki fi la aa V sv nm nk) (hn : nm < 2500) (hk : vp_nar .byte k.toInt8.toInt32 = k) (hok : okM (V 4) k a b) (hR : ∀ h', md h' S mo ka va za sa ki fi la aa (up1 V 4 (doM (V 4) k a b y)) sv (nm + 1) nk → SF S h h' → mh_fI h' 300 mo = mh_fI h 300 mo → R (.inl (some (.long (resM (V 4) k a b y)))) h') : mv_V G jX3_message (d + 4) 0 [(0, .ref mo), (1, .int k), (2, .int a), (3, .int b), (4, .long y)] [] h 0 0 R := by
  obtain ⟨m1, m2, m3, m4, m5, m6, m7, m8, m9⟩ := id hm
  obtain ⟨⟨e1, ⟨f1, f2, f3, f4, f5, f6, f7, f8⟩, ⟨n1, n2, n3, n4, n5, n6, n7, n8⟩, ⟨k1, k2, k3, k4, k5, k6, k7, k8⟩, ⟨l1, l2, l3, l4, l5, l6, l7, l8⟩, x1, x2, x3, x4, x5, x6, x7⟩, hrows⟩ := id m1
  have ne : ∀ {p q i j : Nat}, mh_kd h p = i → mh_kd h q = j → i ≠ j → p ≠ q := fun hp hq hij e => by rw [e, hq] at hp; exact hij hp.symm
  have ki_fi : ki ≠ fi := ne k5 k6 (by decide)
  have ki_la : ki ≠ la := ne k5 k7 (by decide)
  have ki_ka : ki ≠ ka := ne k5 k1 (by decide)
  have ki_za : ki ≠ za := ne k5 k3 (by decide)
  have ki_va : ki ≠ va := ne k5 k2 (by decide)
  have fi_va : fi ≠ va := ne k6 k2 (by decide)
  have la_va : la ≠ va := ne k7 k2 (by decide)
  have aa_ka : aa ≠ ka := ne k8 k1 (by decide)
  have aa_za : aa ≠ za := ne k8 k3 (by decide)
  have sa_ka : sa ≠ ka := ne k4 k1 (by decide)
  have sa_va : sa ≠ va := ne k4 k2 (by decide)
  have sa_za : sa ≠ za := ne k4 k3 (by decide)
  have sa_ki : sa ≠ ki := ne k4 k5 (by decide)
  have sa_fi : sa ≠ fi := ne k4 k6 (by decide)
  have sa_la : sa ≠ la := ne k4 k7 (by decide)
  have mo_ka : mo ≠ ka := ne e1 k1 (by decide)
  have mo_va : mo ≠ va := ne e1 k2 (by decide)
  have mo_za : mo ≠ za := ne e1 k3 (by decide)
  refine v_aload_n (pc := 0) dX3_message_0 rfl rfl ?_
  refine g_R 305 4 (pc := 1) fX3_24 dX3_message_1 rfl rfl (by assumption) (by assumption) (by assumption) ?_
  refine v_aload_n (pc := 4) dX3_message_4 rfl rfl ?_
  refine g_I 309 4 (pc := 5) fX3_65 dX3_message_5 rfl rfl (by assumption) (by assumption) ?_
  refine v_iload_n (pc := 8) dX3_message_8 rfl rfl ?_
  refine v_i2b (pc := 9) dX3_message_9 ?_
  refine n_bast (nm) _ (pc := 10) dX3_message_10 (by assumption) (by assumption) rfl (by omega) (by decide) ?_
  rw [hk]
  refine v_aload_n (pc := 11) dX3_message_11 rfl rfl ?_
  refine g_R 306 4 (pc := 12) fX3_28 dX3_message_12 rfl rfl (by assumption) (by assumption) (by assumption) ?_
  refine v_aload_n (pc := 15) dX3_message_15 rfl rfl ?_
  refine g_I 309 4 (pc := 16) fX3_65 dX3_message_16 rfl rfl (by assumption) (by assumption) ?_
  refine v_iload_n (pc := 19) dX3_message_19 rfl rfl ?_
  refine n_iast (nm) _ (pc := 20) dX3_message_20 (by assumption) (by assumption) rfl (by omega) (by decide) ?_
  refine v_aload_n (pc := 21) dX3_message_21 rfl rfl ?_
  refine g_R 307 4 (pc := 22) fX3_31 dX3_message_22 rfl rfl (by assumption) (by assumption) (by assumption) ?_
  refine v_aload_n (pc := 25) dX3_message_25 rfl rfl ?_
  refine g_I 309 4 (pc := 26) fX3_65 dX3_message_26 rfl rfl (by assumption) (by assumption) ?_
  refine v_iload_n (pc := 29) dX3_message_29 rfl rfl ?_
  refine n_iast (nm) _ (pc := 30) dX3_message_30 (by assumption) (by assumption) rfl (by omega) (by decide) ?_
  refine v_aload_n (pc := 31) dX3_message_31 rfl rfl ?_
  refine g_R 308 4 (pc := 32) fX3_34 dX3_message_32 rfl rfl (by assumption) (by assumption) (by assumption) ?_
  refine v_aload_n (pc := 35) dX3_message_35 rfl rfl ?_
  refine g_I 309 4 (pc := 36) fX3_65 dX3_message_36 rfl rfl (by assumption) (by assumption) ?_
  refine v_lload (pc := 39) dX3_message_39 rfl ?_
  refine n_last (nm) _ (pc := 41) dX3_message_41 (by assumption) (by assumption) rfl (by omega) (by decide) ?_
  refine v_aload_n (pc := 42) dX3_message_42 rfl rfl ?_
  refine v_dup (pc := 43) dX3_message_43 rfl ?_
  refine g_I 309 4 (pc := 44) fX3_65 dX3_message_44 rfl rfl (by assumption) (by assumption) ?_
  refine v_iconst (pc := 47) (v := 1) dX3_message_47 (by decide) ?_
  refine v_iadd (pc := 48) dX3_message_48 ?_
  refine v_eqi (nI_succ nm).symm ?_
  refine p_I 309 4 (pc := 49) fX3_65 dX3_message_49 rfl rfl (by assumption) ?_
  have hz : ∀ w z, mh_aI (mh_sfI (mh_saJ (mh_saI (mh_saI (mh_saI h ki nm k) fi nm a) la nm b) aa nm y) 309 mo (nI (nm + 1))) w z = if w = la ∧ z = nm then b else if w = fi ∧ z = nm then a else if w = ki ∧ z = nm then k else mh_aI h w z := fun _ _ => rfl
  have hzJ : ∀ w z, mh_aJ (mh_sfI (mh_saJ (mh_saI (mh_saI (mh_saI h ki nm k) fi nm a) la nm b) aa nm y) 309 mo (nI (nm + 1))) w z = if w = aa ∧ z = nm then y else mh_aJ h w z := fun _ _ => rfl
  have hzF : ∀ F w, mh_fI (mh_sfI (mh_saJ (mh_saI (mh_saI (mh_saI h ki nm k) fi nm a) la nm b) aa nm y) 309 mo (nI (nm + 1))) F w = if F = 309 ∧ w = mo then nI (nm + 1) else mh_fI h F w := fun _ _ => rfl
  have hmd : md0 (mh_sfI (mh_saJ (mh_saI (mh_saI (mh_saI h ki nm k) fi nm a) la nm b) aa nm y) 309 mo (nI (nm + 1))) mo ka va za sa ki fi la aa V := by
    refine ⟨MDs_of m1.1 (fun _ => rfl) (fun _ => rfl) (fun _ _ => rfl), fun r hr => ?_⟩
    obtain ⟨w1, w2, w3, w4⟩ := hrows r hr
    refine ⟨?_, w2, w3, Eq.trans (pl_congr (fun i hi => ?_) (fun i hi => ?_)) w4⟩
    · rw [hz, if_neg (fun q => x5 q.1), if_neg (fun q => x4 q.1), if_neg (fun q => ki_za q.1.symm)]; exact w1
    · rw [hz, if_neg (fun q => x3 q.1), if_neg (fun q => x2 q.1), if_neg (fun q => ki_ka q.1.symm)]
    · rw [hzJ, if_neg (fun q => x7 q.1)]
  have hSF : SF S h (mh_sfI (mh_saJ (mh_saI (mh_saI (mh_saI h ki nm k) fi nm a) la nm b) aa nm y) 309 mo (nI (nm + 1))) := fun c hc => by
    obtain ⟨s1, s2, s3, s4, s5, s6, s7, s8, s9⟩ := m2
    exact mh_sm_tr (mh_sm_tr (mh_sm_tr (mh_sm_tr (mh_sm_saI (fun q => hc (q ▸ s6))) (mh_sm_saI (fun q => hc (q ▸ s7)))) (mh_sm_saI (fun q => hc (q ▸ s8)))) (mh_sm_saJ (fun q => hc (q ▸ s9)))) (mh_sm_sfI (fun q => hc (q ▸ s1)))
  generalize mh_sfI (mh_saJ (mh_saI (mh_saI (mh_saI h ki nm k) fi nm a) la nm b) aa nm y) 309 mo (nI (nm + 1)) = h1 at *
  have e1' := hmd.1.1
  refine v_aload_n (pc := 52) dX3_message_52 rfl rfl ?_
  refine v_iload_n (pc := 53) dX3_message_53 rfl rfl ?_
  refine v_iload_n (pc := 54) dX3_message_54 rfl rfl ?_
  refine v_iload_n (pc := 55) dX3_message_55 rfl rfl ?_
  refine v_lload (pc := 56) dX3_message_56 rfl ?_
  refine v_callV 0 0 (pc := 58) kX3_68 dX3_message_58 rfl (by assumption) (Nat.zero_le _) (Nat.zero_le _) (Nat.le_of_ble_eq_true rfl) (Nat.le_of_ble_eq_true rfl) ?_
  refine m_done hmd hok (fun h' u1 u2 => ?_)
  refine v_lret (pc := 61) dX3_message_61 rfl ?_
  have g1 := u2 ki ki_ka ki_va ki_za
  have g2 := u2 fi (Ne.symm x2) fi_va (Ne.symm x4)
  have g3 := u2 la (Ne.symm x3) la_va (Ne.symm x5)
  have g4 := u2 aa aa_ka (Ne.symm x7) aa_za
  have g5 := u2 sa sa_ka sa_va sa_za
  have g6 := u2 mo mo_ka mo_va mo_za
  have r1 : mh_aI h' ki = up1 (mh_aI h ki) nm k := funext fun j => by
    rw [g1.2.2.2.2.2.1 j, hz, if_neg (fun q => ki_la q.1), if_neg (fun q => ki_fi q.1)]
    unfold up1
    by_cases c : j = nm
    · rw [if_pos ⟨rfl, c⟩, if_pos c]
    · rw [if_neg (fun q => c q.2), if_neg c]
  have r2 : mh_aI h' fi = up1 (mh_aI h fi) nm a := funext fun j => by
    rw [g2.2.2.2.2.2.1 j, hz, if_neg (fun q => x6 q.1)]
    unfold up1
    by_cases c : j = nm
    · rw [if_pos ⟨rfl, c⟩, if_pos c]
    · rw [if_neg (fun q => c q.2), if_neg c, if_neg (fun q => c q.2)]
  have r3 : mh_aI h' la = up1 (mh_aI h la) nm b := funext fun j => by
    rw [g3.2.2.2.2.2.1 j, hz]
    unfold up1
    by_cases c : j = nm
    · rw [if_pos ⟨rfl, c⟩, if_pos c]
    · rw [if_neg (fun q => c q.2), if_neg c, if_neg (fun q => c q.2), if_neg (fun q => c q.2)]
  have r4 : mh_aJ h' aa = up1 (mh_aJ h aa) nm y := funext fun j => by
    rw [g4.2.2.2.2.2.2.1 j, hzJ]
    unfold up1
    by_cases c : j = nm
    · rw [if_pos ⟨rfl, c⟩, if_pos c]
    · rw [if_neg (fun q => c q.2), if_neg c]
  refine hR h' ⟨u1, m2, fun r hr => ?_, ?_, ?_, ⟨by omega, by omega⟩, ?_, ?_, ?_⟩ (SF_tr hSF (mF_SF m2 u2)) ?_
  · rw [g5.2.2.2.2.2.1 r, hz, if_neg (fun q => sa_la q.1), if_neg (fun q => sa_fi q.1), if_neg (fun q => sa_ki q.1)]
    exact m3 r hr
  · rw [g6.2.2.1 309, hzF, if_pos ⟨rfl, rfl⟩]
  · rw [g6.2.2.1 310, hzF, if_neg (fun q => absurd q.1 (by decide))]; exact m5
  · rw [r1, r2, r3, r4]
    exact okL_up m7 (by rw [m8]; exact hok)
  · rw [r1, r2, r3, r4, rp_up1, m8, up1_eq]
  · rw [r1, r2, r3, r4, rp_up nk (by omega), m9, up1_ne _ _ (by decide)]
  · rw [g6.2.2.1 300, hzF, if_neg (fun q => absurd q.1 (by decide))]
set_option maxHeartbeats 4000000 in
set_option maxRecDepth 100000 in
theorem m_refused (hm : md h S mo ka va za sa ki fi la aa V sv nm nk) (h1 : okA nm (V 4) key → R (.inl (some (.int 0))) h) (h0 : ¬ okA nm (V 4) key → R (.inl (some (.int 1))) h) : mv_V G jX3_isRefused (d + 2) 0 [(0, .ref mo), (1, .int key)] [] h 0 0 R := by
  obtain ⟨m1, m2, m3, m4, m5, m6, m7, m8, m9⟩ := id hm
  obtain ⟨⟨e1, ⟨f1, f2, f3, f4, f5, f6, f7, f8⟩, ⟨n1, n2, n3, n4, n5, n6, n7, n8⟩, ⟨k1, k2, k3, k4, k5, k6, k7, k8⟩, ⟨l1, l2, l3, l4, l5, l6, l7, l8⟩, _⟩, hrows⟩ := id m1
  obtain ⟨w1, w2, w3, w4⟩ := hrows 4 (by omega)
  refine v_aload_n (pc := 0) dX3_isRefused_0 rfl rfl ?_
  refine g_I 309 4 (pc := 1) fX3_65 dX3_isRefused_1 rfl rfl (by assumption) (by assumption) ?_
  refine v_sipush (pc := 4) (v := 2500) dX3_isRefused_4 (by decide) ?_
  refine v_icmp_eq 31 (pc := 7) dX3_isRefused_7 (by decide) (fun hb => ?_) (fun hb => ?_)
  · have z := (nI_eq (a := nm) (b := 2500) (by omega) (by omega)).mp hb
    refine v_iconst (pc := 31) (v := 1) dX3_isRefused_31 (by decide) ?_
    refine v_goto 36 (pc := 32) dX3_isRefused_32 (by decide) ?_
    refine v_zret (pc := 36) dX3_isRefused_36 rfl rfl ?_
    exact h0 (fun q => by have := q.1; omega)
  · have z : nm < 2500 := by
      rcases Nat.lt_or_ge nm 2500 with z | z
      · exact z
      · exact absurd (by rw [show nm = 2500 by omega]; rfl) hb
    refine v_aload_n (pc := 10) dX3_isRefused_10 rfl rfl ?_
    refine v_iconst (pc := 11) (v := 4) dX3_isRefused_11 (by decide) ?_
    refine v_iload_n (pc := 12) dX3_isRefused_12 rfl rfl ?_
    refine v_callV 0 0 (pc := 13) kX3_45 dX3_isRefused_13 rfl (by assumption) (Nat.zero_le _) (Nat.zero_le _) (Nat.le_of_ble_eq_true rfl) (Nat.le_of_ble_eq_true rfl) ?_
    refine m_isIn (r := 4) m1 (by omega) ?_
    by_cases c : hasK (V 4) key = true
    · rw [if_pos c]
      refine v_if_ne 35 (pc := 16) dX3_isRefused_16 (by decide) (fun hb => ?_) (fun hb => ?_)
      · refine v_iconst (pc := 35) (v := 0) dX3_isRefused_35 (by decide) ?_
        refine v_zret (pc := 36) dX3_isRefused_36 rfl rfl ?_
        exact h1 ⟨z, Or.inr c⟩
      · exact absurd hb (by decide)
    · rw [if_neg c]
      refine v_if_ne 35 (pc := 16) dX3_isRefused_16 (by decide) (fun hb => ?_) (fun hb => ?_)
      · exact absurd rfl hb
      · refine v_aload_n (pc := 19) dX3_isRefused_19 rfl rfl ?_
        refine g_R 303 4 (pc := 20) fX3_17 dX3_isRefused_20 rfl rfl (by assumption) (by assumption) (by assumption) ?_
        refine v_iconst (pc := 23) (v := 4) dX3_isRefused_23 (by decide) ?_
        refine n_iald (4) _ (pc := 24) dX3_isRefused_24 (by assumption) (by assumption) rfl (by omega) (by decide) w1 ?_
        refine v_sipush (pc := 25) (v := 600) dX3_isRefused_25 (by decide) ?_
        refine v_icmp_ne 35 (pc := 28) dX3_isRefused_28 (by decide) (fun hb => ?_) (fun hb => ?_)
        · refine v_iconst (pc := 35) (v := 0) dX3_isRefused_35 (by decide) ?_
          refine v_zret (pc := 36) dX3_isRefused_36 rfl rfl ?_
          refine h1 ⟨z, Or.inl ?_⟩
          rcases Nat.lt_or_ge (V 4).length 600 with z2 | z2
          · exact z2
          · exact absurd (by rw [show (V 4).length = 600 by omega]; rfl) hb
        · have z2 := (nI_eq (a := (V 4).length) (b := 600) (by omega) (by omega)).mp hb
          refine v_iconst (pc := 31) (v := 1) dX3_isRefused_31 (by decide) ?_
          refine v_goto 36 (pc := 32) dX3_isRefused_32 (by decide) ?_
          refine v_zret (pc := 36) dX3_isRefused_36 rfl rfl ?_
          exact h0 (fun q => by
            rcases q.2 with q | q
            · omega
            · exact c q)
end MDM
