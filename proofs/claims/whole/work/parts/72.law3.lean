/-! LazyPagesLaw.law: its loop, its start. -/
theorem lw_in {L i : Nat} (hL : L ≤ 4096) (hi : i < 10000) (h : ¬ Int32.ofNat L - 8 < nI i) : i + 8 ≤ L := by
  have h1 := Int32.le_iff_toInt_le.mp (Int32.not_lt.mp h)
  have h8 : (8 : Int32).toInt = 8 := by decide
  have e1 : (nI i).toInt = (i : Int) := by
    unfold nI
    exact Int32.toInt_ofNat_of_lt (by omega)
  rw [e1, Int32.toInt_sub, Int32.toInt_ofNat_of_lt (by omega), h8, Int.bmod_eq_of_le (by omega) (by omega)] at h1
  omega
section LLP
variable {G : mv_G} {d : Nat} {x : Nat} {S : Nat → Prop} {vs sa : Nat} {T : Nat → Nat} {SS : Nat → Nat → Prop} {mo : Nat} {Sm : Nat → Prop} {ka va za sm ki fi la aa out : Nat} {R : mv_O → mh_T → Prop}
set_option maxHeartbeats 4000000 in
set_option maxRecDepth 100000 in
theorem law_loop (hL4 : mg_L G ≤ 4096) (hR : ∀ h, R (.inl (some (.int 1))) h) : ∀ n i h V sv nm nk, mg_L G ≤ i + 8 * n → i ≤ 4104 → LW h x S vs sa T SS mo Sm ka va za sm ki fi la aa out V sv nm nk → mv_V G jL_law (d + 11) 23 [(0, .ref (mg_b G)), (1, .ref x), (2, .ref mo), (3, .ref out), (4, .int (nI i))] [] h (8 * n) (48 * n) R := by
  intro n
  induction n with
  | zero =>
    intro i h V sv nm nk hn hi hW
    refine v_iload (pc := 23) dL_law_23 rfl ?_
    refine v_aload_n (pc := 25) dL_law_25 rfl rfl ?_
    refine v_slen (pc := 26) dL_law_26 ?_
    refine v_bipush (pc := 27) (v := 8) dL_law_27 (by decide) ?_
    refine v_isub (pc := 29) dL_law_29 ?_
    refine v_icmp_gt 1519 (pc := 30) dL_law_30 (by decide) (fun hb => ?_) (fun hb => ?_)
    · refine v_iconst (pc := 1519) (v := 1) dL_law_1519 (by decide) ?_
      refine v_zret (pc := 1520) dL_law_1520 rfl rfl ?_
      exact hR h
    · have := lw_in hL4 (by omega) hb
      omega
  | succ n ih =>
    intro i h V sv nm nk hn hi hW
    refine v_iload (pc := 23) dL_law_23 rfl ?_
    refine v_aload_n (pc := 25) dL_law_25 rfl rfl ?_
    refine v_slen (pc := 26) dL_law_26 ?_
    refine v_bipush (pc := 27) (v := 8) dL_law_27 (by decide) ?_
    refine v_isub (pc := 29) dL_law_29 ?_
    refine v_icmp_gt 1519 (pc := 30) dL_law_30 (by decide) (fun hb => ?_) (fun hb => ?_)
    · refine v_iconst (pc := 1519) (v := 1) dL_law_1519 (by decide) ?_
      refine v_zret (pc := 1520) dL_law_1520 rfl rfl ?_
      exact hR h
    · have h8 := lw_in hL4 (by omega) hb
      have nx : ∀ h' V' sv' nm' nk', LW h' x S vs sa T SS mo Sm ka va za sm ki fi la aa out V' sv' nm' nk' → mv_V G jL_law (d + 11) 1513 [(0, .ref (mg_b G)), (1, .ref x), (2, .ref mo), (3, .ref out), (4, .int (nI i))] [] h' (8 * n) (48 * n) R := by
        intro h' V' sv' nm' nk' hW'
        have s8 : nI i + Int32.ofInt 8 = nI (i + 8) := by
          have : Int32.ofInt 8 = nI 8 := by decide
          rw [this, nI_add]
        refine v_iinc (pc := 1513) dL_law_1513 rfl s8 rfl rfl (by decide) ?_
        refine v_goto 23 (pc := 1516) dL_law_1516 (by decide) ?_
        exact ih (i + 8) h' V' sv' nm' nk' (by omega) (by omega) hW'
      refine v_aload_n (pc := 33) dL_law_33 rfl rfl ?_
      refine v_iload (pc := 34) dL_law_34 rfl ?_
      refine n_sld (i) (pc := 36) dL_law_36 rfl (by omega) hL4 ?_
      refine v_bipush (pc := 37) (v := 31) dL_law_37 (by decide) ?_
      refine v_iand (pc := 39) dL_law_39 ?_
      by_cases hq : (mg_x G i &&& 31).toInt < 0 ∨ 20 < (mg_x G i &&& 31).toInt
      · refine v_tabOut (pc := 40) 1513 dL_law_40 hq (by decide) ?_
        exact v_kle (by omega) (by omega) (nx h V sv nm nk hW)
      · have hk : (mg_x G i &&& 31).toInt = 0 ∨ (mg_x G i &&& 31).toInt = 1 ∨ (mg_x G i &&& 31).toInt = 2 ∨ (mg_x G i &&& 31).toInt = 3 ∨ (mg_x G i &&& 31).toInt = 4 ∨ (mg_x G i &&& 31).toInt = 5 ∨ (mg_x G i &&& 31).toInt = 6 ∨ (mg_x G i &&& 31).toInt = 7 ∨ (mg_x G i &&& 31).toInt = 8 ∨ (mg_x G i &&& 31).toInt = 9 ∨ (mg_x G i &&& 31).toInt = 10 ∨ (mg_x G i &&& 31).toInt = 11 ∨ (mg_x G i &&& 31).toInt = 12 ∨ (mg_x G i &&& 31).toInt = 13 ∨ (mg_x G i &&& 31).toInt = 14 ∨ (mg_x G i &&& 31).toInt = 15 ∨ (mg_x G i &&& 31).toInt = 16 ∨ (mg_x G i &&& 31).toInt = 17 ∨ (mg_x G i &&& 31).toInt = 18 ∨ (mg_x G i &&& 31).toInt = 19 ∨ (mg_x G i &&& 31).toInt = 20 := by omega
        rcases hk with hk | hk | hk | hk | hk | hk | hk | hk | hk | hk | hk | hk | hk | hk | hk | hk | hk | hk | hk | hk | hk
        · refine v_tabIn (pc := 40) 140 dL_law_40 (by rw [hk]; decide) (by rw [hk]; decide) (off := 100) (by rw [hk]; rfl) (by decide) ?_
          exact v_kle (by omega) (by omega) (g_put hW h8 hL4 nx)
        · refine v_tabIn (pc := 40) 240 dL_law_40 (by rw [hk]; decide) (by rw [hk]; decide) (off := 200) (by rw [hk]; rfl) (by decide) ?_
          exact v_kle (by omega) (by omega) (g_add hW h8 hL4 nx)
        · refine v_tabIn (pc := 40) 339 dL_law_40 (by rw [hk]; decide) (by rw [hk]; decide) (off := 299) (by rw [hk]; rfl) (by decide) ?_
          exact v_kle (by omega) (by omega) (g_most hW h8 hL4 nx)
        · refine v_tabIn (pc := 40) 438 dL_law_40 (by rw [hk]; decide) (by rw [hk]; decide) (off := 398) (by rw [hk]; rfl) (by decide) ?_
          exact v_kle (by omega) (by omega) (g_delete hW h8 hL4 nx)
        · refine v_tabIn (pc := 40) 506 dL_law_40 (by rw [hk]; decide) (by rw [hk]; decide) (off := 466) (by rw [hk]; rfl) (by decide) ?_
          exact v_kle (by omega) (by omega) (g_raise hW h8 hL4 nx)
        · refine v_tabIn (pc := 40) 618 dL_law_40 (by rw [hk]; decide) (by rw [hk]; decide) (off := 578) (by rw [hk]; rfl) (by decide) ?_
          exact v_kle (by omega) (by omega) (g_putAll hW h8 hL4 nx)
        · refine v_tabIn (pc := 40) 790 dL_law_40 (by rw [hk]; decide) (by rw [hk]; decide) (off := 750) (by rw [hk]; rfl) (by decide) ?_
          exact v_kle (by omega) (by omega) (g_has hW h8 hL4 nx)
        · refine v_tabIn (pc := 40) 865 dL_law_40 (by rw [hk]; decide) (by rw [hk]; decide) (off := 825) (by rw [hk]; rfl) (by decide) ?_
          exact v_kle (by omega) (by omega) (g_get hW h8 hL4 nx)
        · refine v_tabIn (pc := 40) 932 dL_law_40 (by rw [hk]; decide) (by rw [hk]; decide) (off := 892) (by rw [hk]; rfl) (by decide) ?_
          exact v_kle (by omega) (by omega) (g_count hW h8 hL4 nx)
        · refine v_tabIn (pc := 40) 1012 dL_law_40 (by rw [hk]; decide) (by rw [hk]; decide) (off := 972) (by rw [hk]; rfl) (by decide) ?_
          exact v_kle (by omega) (by omega) (g_sum hW h8 hL4 nx)
        · refine v_tabIn (pc := 40) 1091 dL_law_40 (by rw [hk]; decide) (by rw [hk]; decide) (off := 1051) (by rw [hk]; rfl) (by decide) ?_
          exact v_kle (by omega) (by omega) (g_key hW h8 hL4 nx)
        · refine v_tabIn (pc := 40) 1171 dL_law_40 (by rw [hk]; decide) (by rw [hk]; decide) (off := 1131) (by rw [hk]; rfl) (by decide) ?_
          exact v_kle (by omega) (by omega) (g_save hW h8 hL4 nx)
        · refine v_tabIn (pc := 40) 1207 dL_law_40 (by rw [hk]; decide) (by rw [hk]; decide) (off := 1167) (by rw [hk]; rfl) (by decide) ?_
          exact v_kle (by omega) (by omega) (g_drop hW h8 hL4 nx)
        · refine v_tabIn (pc := 40) 1270 dL_law_40 (by rw [hk]; decide) (by rw [hk]; decide) (off := 1230) (by rw [hk]; rfl) (by decide) ?_
          exact v_kle (by omega) (by omega) (g_restore hW h8 hL4 nx)
        · refine v_tabIn (pc := 40) 1326 dL_law_40 (by rw [hk]; decide) (by rw [hk]; decide) (off := 1286) (by rw [hk]; rfl) (by decide) ?_
          exact v_kle (by omega) (by omega) (g_differ hW h8 hL4 nx)
        · refine v_tabIn (pc := 40) 1394 dL_law_40 (by rw [hk]; decide) (by rw [hk]; decide) (off := 1354) (by rw [hk]; rfl) (by decide) ?_
          exact v_kle (by omega) (by omega) (g_settle hW h8 hL4 nx)
        · refine v_tabIn (pc := 40) 1405 dL_law_40 (by rw [hk]; decide) (by rw [hk]; decide) (off := 1365) (by rw [hk]; rfl) (by decide) ?_
          exact v_kle (by omega) (by omega) (g_sync hW h8 hL4 nx)
        · refine v_tabIn (pc := 40) 1418 dL_law_40 (by rw [hk]; decide) (by rw [hk]; decide) (off := 1378) (by rw [hk]; rfl) (by decide) ?_
          exact v_kle (by omega) (by omega) (g_checkpoint hW h8 hL4 nx)
        · refine v_tabIn (pc := 40) 1431 dL_law_40 (by rw [hk]; decide) (by rw [hk]; decide) (off := 1391) (by rw [hk]; rfl) (by decide) ?_
          exact v_kle (by omega) (by omega) (g_crash hW h8 hL4 nx)
        · refine v_tabIn (pc := 40) 1444 dL_law_40 (by rw [hk]; decide) (by rw [hk]; decide) (off := 1404) (by rw [hk]; rfl) (by decide) ?_
          exact v_kle (by omega) (by omega) (g_total hW h8 hL4 nx)
        · refine v_tabIn (pc := 40) 1500 dL_law_40 (by rw [hk]; decide) (by rw [hk]; decide) (off := 1460) (by rw [hk]; rfl) (by decide) ?_
          exact v_kle (by omega) (by omega) (g_isSound hW h8 hL4 nx)
end LLP
/-- an empty pure heap -/
def mh_0 : mh_T := ((fun _ => 0), (fun _ => 0), (fun _ _ => 0), (fun _ _ => 0), (fun _ _ => 0), (fun _ _ => 0), (fun _ _ => 0), (fun _ _ => 0))
section LLS
variable {G : mv_G} {d : Nat} {R : mv_O → mh_T → Prop}
set_option maxHeartbeats 4000000 in
set_option maxRecDepth 100000 in
theorem law_start (hL4 : mg_L G ≤ 4096) (hR : ∀ h, R (.inl (some (.int 1))) h) : mv_V G jL_law (d + 11) 0 [(0, .ref (mg_b G))] [] mh_0 5000 60000 R := by
  refine v_new (pc := 0) nL_8 dL_law_0 (by omega) (by omega) (fun x x1 x2 => ?_)
  refine v_dup (pc := 3) dL_law_3 rfl ?_
  refine v_callI 740 17200 (pc := 4) kL_75 dL_law_4 rfl (by omega) (by omega) (Nat.le_of_ble_eq_true rfl) (Nat.le_of_ble_eq_true rfl) ?_
  refine o_init (by rw [mh_kd_new, if_pos rfl]) (fun h1 S vs sa T SS u1 u2 u3 => ?_)
  refine v_astore_n (pc := 7) dL_law_7 rfl rfl rfl (by decide) ?_
  refine v_new (pc := 8) nL_76 dL_law_8 (by omega) (by omega) (fun mo m1 m2 => ?_)
  refine v_dup (pc := 11) dL_law_11 rfl ?_
  refine v_callI 8 16009 (pc := 12) kL_78 dL_law_12 rfl (by omega) (by omega) (Nat.le_of_ble_eq_true rfl) (Nat.le_of_ble_eq_true rfl) ?_
  have Smo : ∀ a, S a → a ≠ mo := fun a ha e => (u2 a ha).2 (e ▸ m1)
  have L2 : LPx (mh_new h1 mo 4 0) x S vs sa T SS (fun _ => []) (fun _ => false) 0 0 := LPx_sm u1 (fun a ha => mh_sm_new (Smo a ha))
  have K2 : ∀ a, S a → mh_kd (mh_new h1 mo 4 0) a ≠ 0 := fun a ha => by
    rw [mh_kd_new, if_neg (Smo a ha)]
    exact (u2 a ha).2
  refine w_init (by rw [mh_kd_new, if_pos rfl]) (fun F => by rw [mh_fI_new, if_pos rfl]) (fun h3 Sm ka va za sm ki fi la aa p1 p2 p3 => ?_)
  have Smm : ∀ a, S a → ¬ Sm a := fun a ha hs => by
    rcases (p2 a hs).1 with z | z
    · exact Smo a ha z
    · exact K2 a ha z
  have L3 : LPx h3 x S vs sa T SS (fun _ => []) (fun _ => false) 0 0 := LPx_sm L2 (fun a ha => p3 a (Smm a ha))
  have K3 : ∀ a, S a → mh_kd h3 a ≠ 0 := fun a ha => by
    rw [(p3 a (Smm a ha)).1]
    exact K2 a ha
  refine v_astore_n (pc := 15) dL_law_15 rfl rfl rfl (by decide) ?_
  refine v_iconst (pc := 16) (v := 1) dL_law_16 (by decide) ?_
  refine v_newJ (pc := 17) (N := 1) na_long dL_law_17 (by decide) (by decide) (by decide) (by omega) (by omega) (fun out o1 o2 => ?_)
  have nS : ¬ S out := fun q => K3 out q o1
  have nSm : ¬ Sm out := fun q => (p2 out q).2 o1
  have hW : LW (mh_new h3 out 51 1) x S vs sa T SS mo Sm ka va za sm ki fi la aa out (fun _ => []) (fun _ => false) 0 0 := ⟨LPx_sm L3 (fun a ha => mh_sm_new (fun e => nS (e ▸ ha))), (md_sm (h' := mh_new h3 out 51 1) p1 (fun a ha => mh_sm_new (fun e => nSm (e ▸ ha)))).1, ⟨by rw [mh_kd_new, if_pos rfl], by rw [mh_ln_new, if_pos rfl], o2⟩, nS, nSm, Smm⟩
  refine v_astore_n (pc := 19) dL_law_19 rfl rfl rfl (by decide) ?_
  refine v_iconst (pc := 20) (v := 0) dL_law_20 (by decide) ?_
  refine v_istore (pc := 21) dL_law_21 rfl rfl (by decide) ?_
  exact v_kle (by omega) (by omega) (law_loop hL4 hR 512 0 _ _ _ _ _ (by omega) (by omega) hW)
end LLS
