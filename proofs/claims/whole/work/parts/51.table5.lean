/-! LazyPages$PageTable: splitPageOf, write. -/
def mh_wR (h : mh_T) (a : Nat) (f : Nat → Nat) : mh_T := (h.1, h.2.1, h.2.2.1, h.2.2.2.1, h.2.2.2.2.1, h.2.2.2.2.2.1, h.2.2.2.2.2.2.1, (fun a' j' => if a' = a then f j' else h.2.2.2.2.2.2.2 a' j'))
theorem mh_aR_wR (h : mh_T) (a : Nat) (f : Nat → Nat) (x y : Nat) : mh_aR (mh_wR h a f) x y = if x = a then f y else mh_aR h x y := rfl
theorem mh_wR_id (h : mh_T) (a : Nat) : mh_wR h a (mh_aR h a) = h := by
  refine mh_ext (fun _ => rfl) (fun _ => rfl) (fun _ _ => rfl) (fun _ _ => rfl) (fun _ _ => rfl) (fun _ _ => rfl) (fun _ _ => rfl) (fun x y => ?_)
  rw [mh_aR_wR]
  by_cases e : x = a
  · rw [if_pos e, e]
  · rw [if_neg e]
theorem mh_saR_wR (h : mh_T) (a i : Nat) (f : Nat → Nat) (x : Nat) : mh_saR (mh_wR h a f) a i x = mh_wR h a (fun j => if j = i then x else f j) := by
  refine mh_ext (fun _ => rfl) (fun _ => rfl) (fun _ _ => rfl) (fun _ _ => rfl) (fun _ _ => rfl) (fun _ _ => rfl) (fun _ _ => rfl) (fun y z => ?_)
  rw [mh_aR_saR, mh_aR_wR, mh_aR_wR]
  by_cases e : y = a <;> by_cases e2 : z = i <;> simp [e, e2]
theorem mh_wR_congr {h : mh_T} {a : Nat} {f g : Nat → Nat} (e : ∀ j, f j = g j) : mh_wR h a f = mh_wR h a g := by rw [funext e]
theorem mh_sm_wR {h : mh_T} {pa a : Nat} {f : Nat → Nat} (ha : a ≠ pa) : mh_sm h (mh_wR h pa f) a := by
  refine ⟨rfl, rfl, fun _ => rfl, fun _ => rfl, fun _ => rfl, fun _ => rfl, fun _ => rfl, fun j => ?_⟩
  rw [mh_aR_wR, if_neg ha]
theorem i32_pred {x m : Int32} (h : x < m) : (m - 1).toInt = m.toInt - 1 := by
  have h1 := Int32.lt_iff_toInt_lt.mp h
  have h3 : (1 : Int32).toInt = 1 := by decide
  have h4 := Int32.le_toInt x
  have h5 := Int32.toInt_lt m
  rw [Int32.toInt_sub, h3]
  exact Int.bmod_eq_of_le (by omega) (by omega)
theorem i32_le_pred {x m : Int32} (h : x < m) : x ≤ m - 1 := Int32.le_iff_toInt_le.mpr (by
  have h1 := Int32.lt_iff_toInt_lt.mp h
  rw [i32_pred h]; omega)
theorem i32_pred_lt {x m : Int32} (h : x < m) : m - 1 < 2147483647 := Int32.lt_iff_toInt_lt.mpr (by
  have h2 : (2147483647 : Int32).toInt = 2147483647 := by decide
  have h5 := Int32.toInt_lt m
  rw [i32_pred h]; omega)
theorem i32_pred_lt2 {x m : Int32} (h : x < m) : m - 1 < m := Int32.lt_iff_toInt_lt.mpr (by rw [i32_pred h]; omega)
theorem i32_sub_add (m : Int32) : m - 1 + 1 = m := by
  rw [Int32.sub_eq_add_neg, Int32.add_assoc, Int32.add_comm (-1) 1, ← Int32.sub_eq_add_neg, Int32.sub_self, Int32.add_zero]
/-- where the pages come from once one behind i was put in -/
def shf (i n : Nat) : Nat → Nat := fun j => if j ≤ i then j else if j = i + 1 then n else if j ≤ n then j - 1 else j
theorem shf_lt {i n : Nat} (hi : i < n) (hn : n < 40) (x : Nat) (hx : x < 40) : shf i n x < 40 := by
  unfold shf
  repeat' split
  all_goals omega
theorem shf_ne {i n : Nat} (hi : i < n) (x y : Nat) (h : x ≠ y) : shf i n x ≠ shf i n y := by
  unfold shf
  repeat' split
  all_goals omega
theorem cnt_mono {M : List En} {a b a' b' : Int32} (h1 : a' ≤ a) (h2 : b ≤ b') : cntK M a b ≤ cntK M a' b' := by
  unfold cntK
  induction M with
  | nil => simp
  | cons e M ih =>
    rw [List.filter_cons, List.filter_cons]
    by_cases c : kIn a b e = true
    · have c' : kIn a' b' e = true := by
        simp only [kIn, Bool.and_eq_true, decide_eq_true_eq] at c ⊢
        exact ⟨Int32.le_trans h1 c.1, Int32.le_trans c.2 h2⟩
      rw [if_pos c, if_pos c']
      simp only [List.length_cons]
      omega
    · rw [if_neg c]
      split
      · simp only [List.length_cons]
        omega
      · exact ih
section TSP
variable {h h' : mh_T} {t pa n sz : Nat} {D : Nat → Nat × Nat × Nat} {LO HI : Nat → Int32} {X : Nat → List En} {S : Nat → Prop} {key : Int32}
theorem tw_cnt (w : tw n LO HI X) {i : Nat} (hi : i < n) : cntK (fm n X) (LO i) (HI i) = (X i).length := by
  unfold cntK
  rw [tw_fltn w hi (Int32.le_refl _), fm_succ, List.filter_append, tw_flt0 w hi (Int32.le_refl _), List.nil_append]
  rw [flt_all (fun e he => ?_)]
  obtain ⟨z1, z2⟩ := (w.2.2.2.2.1 i hi).2.2 e he
  simp [kIn, z1, z2]
theorem tw_uniq (w : tw n LO HI X) {i j : Nat} (hi : i < n) (hj : j < n) (h1 : LO i ≤ key) (h2 : key ≤ HI i) (h3 : LO j ≤ key) (h4 : key ≤ HI j) : i = j := by
  rcases Nat.lt_trichotomy i j with z | z | z
  · exact absurd (i32_le_lt h2 (i32_lt_le (tw_lt w z hj) h3)) i32_irr
  · exact z
  · exact absurd (i32_le_lt h4 (i32_lt_le (tw_lt w z hi) h1)) i32_irr
theorem tw_find (w : tw n LO HI X) (key : Int32) : ∃ i, i < n ∧ LO i ≤ key ∧ key ≤ HI i := by
  have w' := w
  obtain ⟨w1, w2, w3, w4, w5, w6⟩ := w
  have go : ∀ m i, i + m = n - 1 → LO i ≤ key → ∃ i, i < n ∧ LO i ≤ key ∧ key ≤ HI i := by
    intro m
    induction m with
    | zero =>
      intro i hm hl
      refine ⟨i, by omega, hl, ?_⟩
      rw [show i = n - 1 by omega, w4]; exact i32_max _
    | succ m ih =>
      intro i hm hl
      by_cases c : key ≤ HI i
      · exact ⟨i, by omega, hl, c⟩
      · refine ih (i + 1) (by omega) ?_
        rw [(w6 i (by omega)).2]
        exact i32_succ_le (Int32.not_le.mp c)
  exact go (n - 1) 0 (by omega) (by rw [w3]; exact i32_min _)
theorem tb0_page2 {i j : Nat} {lo hi lo2 hi2 : Int32} {L L2 : List En} (hT : tb0 h t pa n D LO HI X sz) (hi40 : i < 40) (hj40 : j < 40) (hij : i ≠ j) (hp : pgL h' (D i) lo hi L) (hp2 : pgL h' (D j) lo2 hi2 L2) (hF : ∀ a, a ≠ (D i).1 → a ≠ (D i).2.1 → a ≠ (D i).2.2 → a ≠ (D j).1 → a ≠ (D j).2.1 → a ≠ (D j).2.2 → mh_sm h h' a) : tb0 h' t pa n D (up1 (up1 LO i lo) j lo2) (up1 (up1 HI i hi) j hi2) (up1 (up1 X i L) j L2) sz := by
  obtain ⟨e1, e2, e3, e4, e5, e6, e7, e8, e9⟩ := hT
  obtain ⟨_, _, f3⟩ := e8 i hi40
  obtain ⟨g1, _, _, _, _, g6, _, g8, _⟩ := f3.1
  obtain ⟨_, _, u3⟩ := e8 j hj40
  obtain ⟨v1, _, _, _, _, v6, _, v8, _⟩ := u3.1
  have t1 : mh_sm h h' t := hF t (fun q => by rw [← q, e1] at g1; exact absurd g1 (by decide)) (fun q => by rw [← q, e1] at g6; exact absurd g6 (by decide)) (fun q => by rw [← q, e1] at g8; exact absurd g8 (by decide)) (fun q => by rw [← q, e1] at v1; exact absurd v1 (by decide)) (fun q => by rw [← q, e1] at v6; exact absurd v6 (by decide)) (fun q => by rw [← q, e1] at v8; exact absurd v8 (by decide))
  have t2 : mh_sm h h' pa := hF pa (fun q => by rw [← q, e4] at g1; exact absurd g1 (by decide)) (fun q => by rw [← q, e4] at g6; exact absurd g6 (by decide)) (fun q => by rw [← q, e4] at g8; exact absurd g8 (by decide)) (fun q => by rw [← q, e4] at v1; exact absurd v1 (by decide)) (fun q => by rw [← q, e4] at v6; exact absurd v6 (by decide)) (fun q => by rw [← q, e4] at v8; exact absurd v8 (by decide))
  obtain ⟨a1, a2, a3, a4, a5, a6, a7, a8⟩ := t1
  obtain ⟨b1, b2, b3, b4, b5, b6, b7, b8⟩ := t2
  refine ⟨a1.trans e1, (a5 100).trans e2, e3, b1.trans e4, b2.trans e5, (a3 101).trans e6, (a3 102).trans e7, fun x hx => ?_, e9⟩
  obtain ⟨k1, k2, k3⟩ := e8 x hx
  refine ⟨(b8 x).trans k1, k2, ?_⟩
  by_cases c2 : x = j
  · subst c2
    rw [up1_eq, up1_eq, up1_eq]; exact hp2
  · rw [up1_ne _ _ c2, up1_ne _ _ c2, up1_ne _ _ c2]
    by_cases c : x = i
    · subst c
      rw [up1_eq, up1_eq, up1_eq]; exact hp
    · rw [up1_ne _ _ c, up1_ne _ _ c, up1_ne _ _ c]
      obtain ⟨n1, n2, n3⟩ := e9 x i hx hi40 c
      obtain ⟨s1, s2, s3⟩ := pgL_sm2 f3 k3 n1 n2 n3
      obtain ⟨m1, m2, m3⟩ := e9 x j hx hj40 c2
      obtain ⟨r1, r2, r3⟩ := pgL_sm2 u3 k3 m1 m2 m3
      exact pgL_sm k3 (hF _ n1 s1.1 s1.2 m1 r1.1 r1.2) (hF _ s2.1 n2 s2.2 r2.1 m2 r2.2) (hF _ s3.1 s3.2 n3 r3.1 r3.2 m3)
/-- page i cut into A and B at m -/
theorem tw_split (w : tw n LO HI X) {i : Nat} {A B : List En} {m : Int32} (hi : i < n) (hn : n < 40) (hX : X i = A ++ B) (hA : A.length = 16) (hB : B.length = 16) (hm : (B.head?.map Prod.fst) = some m) {LO' HI' : Nat → Int32} {X' : Nat → List En}
    (l1 : LO' = up1 (up1 (fun j => LO (shf i n j)) i (LO i)) (i + 1) m) (l2 : HI' = up1 (up1 (fun j => HI (shf i n j)) i (m - 1)) (i + 1) (HI i)) (l3 : X' = up1 (up1 (fun j => X (shf i n j)) i A) (i + 1) B) :
    tw (n + 1) LO' HI' X' ∧ fm (n + 1) X' = fm n X ∧ (LO i ≤ key → key ≤ HI i → ∀ j, j < n + 1 → LO' j ≤ key → key ≤ HI' j → (X' j).length = 16) := by
  have w' := w
  obtain ⟨w1, w2, w3, w4, w5, w6⟩ := w
  obtain ⟨p1, p2, p3⟩ := w5 i hi
  rw [hX] at p2 p3
  obtain ⟨u1, u2, u3⟩ := List.pairwise_append.mp p2
  obtain ⟨b, B', hBe⟩ : ∃ b B', B = b :: B' := by
    cases B with
    | nil => simp at hB
    | cons b B' => exact ⟨b, B', rfl⟩
  have hmb : b.1 = m := by
    rw [hBe] at hm
    simpa using hm
  have bB : b ∈ B := by rw [hBe]; exact List.mem_cons_self
  obtain ⟨a0, A', hAe⟩ : ∃ b B', A = b :: B' := by
    cases A with
    | nil => simp at hA
    | cons b B' => exact ⟨b, B', rfl⟩
  have aA : a0 ∈ A := by rw [hAe]; exact List.mem_cons_self
  have hAm : ∀ e, e ∈ A → e.1 < m := fun e he => by rw [← hmb]; exact u3 e he b bB
  have hBm : ∀ e, e ∈ B → m ≤ e.1 := fun e he => by
    rw [hBe] at he
    rcases List.mem_cons.mp he with z | z
    · rw [z, hmb]; exact Int32.le_refl _
    · rw [hBe] at u2
      rw [← hmb]
      exact i32_le_of_lt ((List.pairwise_cons.mp u2).1 e z)
  have la := hAm a0 aA
  have lo_m : LO i < m := i32_le_lt (p3 a0 (List.mem_append_left _ aA)).1 la
  have m_hi : m ≤ HI i := by
    rw [← hmb]
    exact (p3 b (List.mem_append_right _ bB)).2
  have sle : ∀ j, j ≤ i → shf i n j = j := fun j hj => by unfold shf; rw [if_pos hj]
  have vlo : ∀ j, LO' j = if j ≤ i then LO j else if j = i + 1 then m else LO (shf i n j) := fun j => by
    rw [l1]
    unfold up1
    by_cases c1 : j = i + 1
    · rw [if_pos c1, if_neg (by omega), if_pos c1]
    · rw [if_neg c1]
      by_cases c2 : j = i
      · rw [if_pos c2, if_pos (by omega), c2]
      · rw [if_neg c2, if_neg c1]
        by_cases c3 : j ≤ i
        · rw [if_pos c3]
          show LO (shf i n j) = _
          rw [sle j c3]
        · rw [if_neg c3]
  have vhi : ∀ j, HI' j = if j < i then HI j else if j = i then m - 1 else if j = i + 1 then HI i else HI (shf i n j) := fun j => by
    rw [l2]
    unfold up1
    by_cases c1 : j = i + 1
    · rw [if_pos c1, if_neg (by omega), if_neg (by omega), if_pos c1]
    · rw [if_neg c1]
      by_cases c2 : j = i
      · rw [if_pos c2, if_neg (by omega), if_pos c2]
      · rw [if_neg c2, if_neg c2, if_neg c1]
        by_cases c3 : j ≤ i
        · rw [if_pos (by omega)]
          show HI (shf i n j) = _
          rw [sle j c3]
        · rw [if_neg (by omega)]
  have vx : ∀ j, X' j = if j < i then X j else if j = i then A else if j = i + 1 then B else X (shf i n j) := fun j => by
    rw [l3]
    unfold up1
    by_cases c1 : j = i + 1
    · rw [if_pos c1, if_neg (by omega), if_neg (by omega), if_pos c1]
    · rw [if_neg c1]
      by_cases c2 : j = i
      · rw [if_pos c2, if_neg (by omega), if_pos c2]
      · rw [if_neg c2, if_neg c2, if_neg c1]
        by_cases c3 : j ≤ i
        · rw [if_pos (by omega)]
          show X (shf i n j) = _
          rw [sle j c3]
        · rw [if_neg (by omega)]
  have sg : ∀ j, i + 1 < j → j < n + 1 → shf i n j = j - 1 := fun j h1 h2 => by
    unfold shf
    rw [if_neg (by omega), if_neg (by omega), if_pos (by omega)]
  have old : ∀ j, i + 1 < j → j < n + 1 → LO' j = LO (j - 1) ∧ HI' j = HI (j - 1) ∧ X' j = X (j - 1) := fun j h1 h2 => by
    rw [vlo, vhi, vx, if_neg (by omega), if_neg (by omega), if_neg (by omega), if_neg (by omega), if_neg (by omega), if_neg (by omega), if_neg (by omega), if_neg (by omega), sg j h1 h2]
    exact ⟨rfl, rfl, rfl⟩
  have low : ∀ j, j < i → LO' j = LO j ∧ HI' j = HI j ∧ X' j = X j := fun j h1 => by
    rw [vlo, vhi, vx, if_pos (by omega), if_pos h1, if_pos h1]
    exact ⟨rfl, rfl, rfl⟩
  have ati : LO' i = LO i ∧ HI' i = m - 1 ∧ X' i = A := by
    rw [vlo, vhi, vx, if_pos (by omega), if_neg (by omega), if_pos rfl, if_neg (by omega), if_pos rfl]
    exact ⟨rfl, rfl, rfl⟩
  have atj : LO' (i + 1) = m ∧ HI' (i + 1) = HI i ∧ X' (i + 1) = B := by
    rw [vlo, vhi, vx, if_neg (by omega), if_pos rfl, if_neg (by omega), if_neg (by omega), if_pos rfl, if_neg (by omega), if_neg (by omega), if_pos rfl]
    exact ⟨rfl, rfl, rfl⟩
  have TW : tw (n + 1) LO' HI' X' := by
    refine ⟨by omega, by omega, ?_, ?_, fun j hj => ?_, fun j hj => ?_⟩
    · rw [vlo, if_pos (by omega)]; exact w3
    · rw [Nat.add_sub_cancel]
      rcases Nat.lt_or_ge (i + 1) n with z | z
      · rw [(old n z (by omega)).2.1]; exact w4
      · have e : n = i + 1 := by omega
        rw [e, atj.2.1]
        rw [e] at w4
        exact w4
    · rcases Nat.lt_trichotomy j i with z | z | z
      · obtain ⟨q1, q2, q3⟩ := low j z
        rw [q1, q2, q3]; exact w5 j (by omega)
      · subst z
        rw [ati.1, ati.2.1, ati.2.2]
        exact ⟨i32_le_pred lo_m, u1, fun e he => ⟨(p3 e (List.mem_append_left _ he)).1, i32_le_pred (hAm e he)⟩⟩
      · rcases Nat.lt_or_ge (i + 1) j with y | y
        · obtain ⟨q1, q2, q3⟩ := old j y hj
          rw [q1, q2, q3]; exact w5 _ (by omega)
        · have e : j = i + 1 := by omega
          rw [e, atj.1, atj.2.1, atj.2.2]
          exact ⟨m_hi, u2, fun e he => ⟨hBm e he, (p3 e (List.mem_append_right _ he)).2⟩⟩
    · rcases Nat.lt_trichotomy j i with z | z | z
      · obtain ⟨q1, q2, q3⟩ := low j z
        rw [q2]
        rcases Nat.lt_or_ge (j + 1) i with y | y
        · rw [(low (j + 1) y).1]; exact w6 j (by omega)
        · have e : j + 1 = i := by omega
          rw [e, ati.1, ← e]; exact w6 j (by omega)
      · subst z
        rw [ati.2.1, atj.1]
        exact ⟨i32_pred_lt la, (i32_sub_add m).symm⟩
      · rw [(old (j + 1) (by omega) hj).1]
        rcases Nat.lt_or_ge (i + 1) j with y | y
        · rw [(old j y (by omega)).2.1]
          have := w6 (j - 1) (by omega)
          rw [show j - 1 + 1 = j by omega] at this
          exact this
        · have e : j = i + 1 := by omega
          rw [e, atj.2.1]; exact w6 i (by omega)
  refine ⟨TW, ?_, fun k1 k2 j hj k3 k4 => ?_⟩
  · rw [fm_at X hi, fm_at X' (show i + 1 < n + 1 by omega), fm_succ, ati.2.2, atj.2.2, hX]
    rw [fm_congr (n := i) (X' := X) (fun j hj => (low j hj).2.2)]
    have e : fm (n + 1 - (i + 1 + 1)) (fun j => X' (i + 1 + 1 + j)) = fm (n - (i + 1)) (fun j => X (i + 1 + j)) := by
      rw [show n + 1 - (i + 1 + 1) = n - (i + 1) by omega]
      refine fm_congr (fun j hj => ?_)
      rw [(old (i + 1 + 1 + j) (by omega) (by omega)).2.2]
      congr 1; omega
    rw [e]
    simp only [List.append_assoc]
  · rcases Nat.lt_trichotomy j i with z | z | z
    · rw [(low j z).2.1] at k4
      exact absurd (i32_le_lt k4 (i32_lt_le (tw_lt w' z hi) k1)) i32_irr
    · rw [z, ati.2.2]; exact hA
    · rcases Nat.lt_or_ge (i + 1) j with y | y
      · rw [(old j y hj).1] at k3
        exact absurd (i32_le_lt k2 (i32_lt_le (tw_lt w' (show i < j - 1 by omega) (by omega)) k3)) i32_irr
      · rw [show j = i + 1 by omega, atj.2.2]; exact hB
theorem big_len (w : tw n LO HI X) (hn : ∀ i, i + 1 < n → 32 < (X i).length + (X (i + 1)).length) : ∀ m, 2 * m ≤ n → 33 * m ≤ (fm (2 * m) X).length := by
  intro m
  induction m with
  | zero => intro _; omega
  | succ m ih =>
    intro hm
    have := ih (by omega)
    have h2 := hn (2 * m) (by omega)
    rw [show 2 * (m + 1) = 2 * m + 1 + 1 by omega, fm_succ, fm_succ, List.length_append, List.length_append]
    omega
end TSP
section TSW
variable {G : mv_G} {d : Nat} {h : mh_T} {t pa n sz : Nat} {D : Nat → Nat × Nat × Nat} {LO HI : Nat → Int32} {X : Nat → List En} {S : Nat → Prop} {M : List En} {key : Int32} {x : Int64} {R : mv_O → mh_T → Prop}
set_option maxHeartbeats 4000000 in
set_option maxRecDepth 100000 in
theorem c_split (hT : tb0 h t pa n D LO HI X sz) (w : tw n LO HI X) (hS : tS S t pa D) (h600 : (fm n X).length ≤ 600) (hfull : ∀ i, i < n → LO i ≤ key → key ≤ HI i → (X i).length = 32) (hR : ∀ h' n' D' LO' HI' X', tb0 h' t pa n' D' LO' HI' X' sz → tw n' LO' HI' X' → tS S t pa D' → fm n' X' = fm n X → (∀ i, i < n' → LO' i ≤ key → key ≤ HI' i → (X' i).length = 16) → SF S h h' → R (.inl none) h') : mv_V G jX1_splitPageOf (d + 5) 0 [(0, .ref t), (1, .int key)] [] h 0 0 R := by
  have main : ∀ hc n D LO HI X, tb0 hc t pa n D LO HI X sz → tw n LO HI X → tS S t pa D → n < 40 → (∀ i, i < n → LO i ≤ key → key ≤ HI i → (X i).length = 32) → (∀ h' n' D' LO' HI' X', tb0 h' t pa n' D' LO' HI' X' sz → tw n' LO' HI' X' → tS S t pa D' → fm n' X' = fm n X → (∀ i, i < n' → LO' i ≤ key → key ≤ HI' i → (X' i).length = 16) → SF S hc h' → R (.inl none) h') → mv_V G jX1_splitPageOf (d + 5) 13 [(0, .ref t), (1, .int key)] [] hc 0 0 R := by
    clear hT w hS h600 hfull hR
    intro h n D LO HI X hT w hS hn hfull hR
    have hT' := hT
    obtain ⟨e1, e2, e3, e4, e5, e6, e7, e8, e9⟩ := hT
    refine v_aload_n (pc := 13) dX1_splitPageOf_13 rfl rfl ?_
    refine v_iload_n (pc := 14) dX1_splitPageOf_14 rfl rfl ?_
    refine v_callV 0 0 (pc := 15) kX1_28 dX1_splitPageOf_15 rfl (by assumption) (Nat.zero_le _) (Nat.zero_le _) (Nat.le_of_ble_eq_true rfl) (Nat.le_of_ble_eq_true rfl) ?_
    refine c_pageOf hT' w (fun i hi hl hh => ?_)
    have h32 := hfull i hi hl hh
    obtain ⟨f1, f2, f3⟩ := e8 n hn
    have f4 := f3.1.1
    refine v_istore_n (pc := 18) dX1_splitPageOf_18 rfl rfl rfl (by decide) ?_
    refine v_aload_n (pc := 19) dX1_splitPageOf_19 rfl rfl ?_
    refine g_R 100 2 (pc := 20) fX1_11 dX1_splitPageOf_20 rfl rfl (by assumption) (by assumption) (by assumption) ?_
    refine v_aload_n (pc := 23) dX1_splitPageOf_23 rfl rfl ?_
    refine g_I 101 2 (pc := 24) fX1_18 dX1_splitPageOf_24 rfl rfl (by assumption) (by assumption) ?_
    refine n_aald55 (n) _ (pc := 27) dX1_splitPageOf_27 (by assumption) (by assumption) rfl (by omega) (by decide) f1 (by assumption) ?_
    refine v_astore_n (pc := 28) dX1_splitPageOf_28 rfl rfl rfl (by decide) ?_
    refine v_aload_n (pc := 29) dX1_splitPageOf_29 rfl rfl ?_
    refine g_I 101 2 (pc := 30) fX1_18 dX1_splitPageOf_30 rfl rfl (by assumption) (by assumption) ?_
    refine v_istore (pc := 33) dX1_splitPageOf_33 rfl rfl (by decide) ?_
    have loop : ∀ m j, i + 1 + m = j → j ≤ n → mv_V G jX1_splitPageOf (d + 5) 35 [(0, .ref t), (1, .int key), (2, .int (nI i)), (3, .ref (D n).1), (4, .int (nI j))] [] (mh_wR h pa (fun y => if j < y ∧ y ≤ n then mh_aR h pa (y - 1) else mh_aR h pa y)) 0 0 R := by
      intro m
      induction m with
      | zero =>
        intro j hj hjn
        have ej : j = i + 1 := by omega
        subst ej
        refine v_iload (pc := 35) dX1_splitPageOf_35 rfl ?_
        refine v_iload_n (pc := 37) dX1_splitPageOf_37 rfl rfl ?_
        refine v_iconst (pc := 38) (v := 1) dX1_splitPageOf_38 (by decide) ?_
        refine v_iadd (pc := 39) dX1_splitPageOf_39 ?_
        refine v_eqi (nI_succ i).symm ?_
        refine v_icmp_le 65 (pc := 40) dX1_splitPageOf_40 (by decide) (fun hb => ?_) (fun hb => ?_)
        · refine v_aload_n (pc := 65) dX1_splitPageOf_65 rfl rfl ?_
          refine g_R 100 2 (pc := 66) fX1_11 dX1_splitPageOf_66 rfl rfl (by assumption) (by assumption) (by assumption) ?_
          refine v_iload_n (pc := 69) dX1_splitPageOf_69 rfl rfl ?_
          refine v_iconst (pc := 70) (v := 1) dX1_splitPageOf_70 (by decide) ?_
          refine v_iadd (pc := 71) dX1_splitPageOf_71 ?_
          refine v_eqi (nI_succ i).symm ?_
          refine v_aload_n (pc := 72) dX1_splitPageOf_72 rfl rfl ?_
          refine n_aast55 (i + 1) _ (pc := 73) dX1_splitPageOf_73 (by assumption) (by assumption) rfl (by omega) (by decide) (by assumption) (by assumption) ?_
          have hp : tb0 (mh_saR (mh_wR h pa (fun y => if i + 1 < y ∧ y ≤ n then mh_aR h pa (y - 1) else mh_aR h pa y)) pa (i + 1) (D n).1) t pa n (fun j => D (shf i n j)) (fun j => LO (shf i n j)) (fun j => HI (shf i n j)) (fun j => X (shf i n j)) sz := by
            rw [mh_saR_wR]
            refine tb0_perm hT' (shf i n) (shf_lt hi hn) (fun x y _ _ q => shf_ne hi x y q) (fun a ha => mh_sm_wR ha) rfl rfl (fun y hy => ?_)
            rw [mh_aR_wR, if_pos rfl]
            unfold shf
            by_cases c1 : y = i + 1
            · rw [if_pos c1, if_neg (by omega), if_pos c1]
            · rw [if_neg c1]
              by_cases c2 : y ≤ i
              · rw [if_neg (by omega), if_pos c2]
                exact (e8 y hy).1
              · rw [if_neg c2, if_neg c1]
                by_cases c3 : y ≤ n
                · rw [if_pos (by omega), if_pos c3]
                  exact (e8 (y - 1) (by omega)).1
                · rw [if_neg (by omega), if_neg c3]
                  exact (e8 y hy).1
          have hS' : tS S t pa (fun j => D (shf i n j)) := tS_perm hS (shf_lt hi hn)
          have hF : SF S h (mh_saR (mh_wR h pa (fun y => if i + 1 < y ∧ y ≤ n then mh_aR h pa (y - 1) else mh_aR h pa y)) pa (i + 1) (D n).1) := SF_at hS.2.1 (fun b hb => mh_sm_tr (mh_sm_wR hb) (mh_sm_saR hb))
          generalize mh_saR (mh_wR h pa (fun y => if i + 1 < y ∧ y ≤ n then mh_aR h pa (y - 1) else mh_aR h pa y)) pa (i + 1) (D n).1 = hd at *
          clear e1 e2 e4 e5 e6 e7 e8 f1 f3 f4
          have hp1 := hp
          obtain ⟨e1, e2, _, e4, e5, e6, e7, e8, _⟩ := hp
          refine v_aload_n (pc := 74) dX1_splitPageOf_74 rfl rfl ?_
          refine v_dup (pc := 75) dX1_splitPageOf_75 rfl ?_
          refine g_I 101 2 (pc := 76) fX1_18 dX1_splitPageOf_76 rfl rfl (by assumption) (by assumption) ?_
          refine v_iconst (pc := 79) (v := 1) dX1_splitPageOf_79 (by decide) ?_
          refine v_iadd (pc := 80) dX1_splitPageOf_80 ?_
          refine v_eqi (nI_succ n).symm ?_
          refine p_I 101 2 (pc := 81) fX1_18 dX1_splitPageOf_81 rfl rfl (by assumption) ?_
          have hq := tb0_count (n' := n + 1) hp1
          have hF2 : SF S h (mh_sfI hd 101 t (nI (n + 1))) := SF_tr hF (SF_sfI hS.1)
          generalize mh_sfI hd 101 t (nI (n + 1)) = hf at *
          clear e1 e2 e4 e5 e6 e7 e8
          have hq1 := hq
          obtain ⟨e1, e2, _, e4, e5, e6, e7, e8, e9'⟩ := hq
          have si : shf i n i = i := by unfold shf; rw [if_pos (by omega)]
          have sj : shf i n (i + 1) = n := by unfold shf; rw [if_neg (by omega), if_pos rfl]
          have gg : mh_aR hf pa i = (D (shf i n i)).1 ∧ (D (shf i n i)).1 ≠ 0 ∧ pgL hf (D (shf i n i)) (LO (shf i n i)) (HI (shf i n i)) (X (shf i n i)) := e8 i (by omega)
          rw [si] at gg
          obtain ⟨g1, g2, g3⟩ := gg
          have uu : mh_aR hf pa (i + 1) = (D (shf i n (i + 1))).1 ∧ (D (shf i n (i + 1))).1 ≠ 0 ∧ pgL hf (D (shf i n (i + 1))) (LO (shf i n (i + 1))) (HI (shf i n (i + 1))) (X (shf i n (i + 1))) := e8 (i + 1) (by omega)
          rw [sj] at uu
          obtain ⟨u1, u2, u3⟩ := uu
          have g4 := g3.1.1
          refine v_aload_n (pc := 84) dX1_splitPageOf_84 rfl rfl ?_
          refine g_R 100 2 (pc := 85) fX1_11 dX1_splitPageOf_85 rfl rfl (by assumption) (by assumption) (by assumption) ?_
          refine v_iload_n (pc := 88) dX1_splitPageOf_88 rfl rfl ?_
          refine n_aald55 (i) _ (pc := 89) dX1_splitPageOf_89 (by assumption) (by assumption) rfl (by omega) (by decide) g1 (by assumption) ?_
          refine v_aload_n (pc := 90) dX1_splitPageOf_90 rfl rfl ?_
          refine v_callV 0 0 (pc := 91) kX1_61 dX1_splitPageOf_91 rfl (by assumption) (Nat.zero_le _) (Nat.zero_le _) (Nat.le_of_ble_eq_true rfl) (Nat.le_of_ble_eq_true rfl) ?_
          obtain ⟨n1, n2, n3⟩ := e9 n i hn (by omega) (by omega)
          refine gl_give g3 u3 n1 n2 n3 h32 (fun h' m A B a1 a2 a3 a4 a5 a6 a7 => ?_)
          refine v_vret (pc := 94) dX1_splitPageOf_94 rfl ?_
          obtain ⟨r1, r2, r3⟩ := tw_split (key := key) w hi hn a1 a2 a3 a4 rfl rfl rfl
          refine hR h' (n + 1) _ _ _ _ (tb0_page2 hq1 (i := i) (j := i + 1) (by omega) (by omega) (by omega) (by rw [si]; exact a5) (by rw [sj]; exact a6) (by rw [si, sj]; exact a7)) r1 hS' r2 (r3 hl hh) (SF_tr hF2 (fun a ha => ?_))
          obtain ⟨s1, s2, s3⟩ := hS.2.2 i (by omega)
          obtain ⟨s4, s5, s6⟩ := hS.2.2 n hn
          exact a7 a (fun q => ha (q ▸ s1)) (fun q => ha (q ▸ s2)) (fun q => ha (q ▸ s3)) (fun q => ha (q ▸ s4)) (fun q => ha (q ▸ s5)) (fun q => ha (q ▸ s6))
        · exact absurd ((nI_leI (by omega) (by omega)).mpr (by omega)) hb
      | succ m ih =>
        intro j hj hjn
        have s1 : nI j - (1 : Int32) = nI (j - 1) := pk_sub (a := j) (b := 1) (by omega)
        have s2 : nI j + Int32.ofInt (-1) = nI (j - 1) := by rw [← s1, Int32.sub_eq_add_neg]; rfl
        obtain ⟨g1, g2, g3⟩ := e8 (j - 1) (by omega)
        have g4 := g3.1.1
        refine v_iload (pc := 35) dX1_splitPageOf_35 rfl ?_
        refine v_iload_n (pc := 37) dX1_splitPageOf_37 rfl rfl ?_
        refine v_iconst (pc := 38) (v := 1) dX1_splitPageOf_38 (by decide) ?_
        refine v_iadd (pc := 39) dX1_splitPageOf_39 ?_
        refine v_eqi (nI_succ i).symm ?_
        refine v_icmp_le 65 (pc := 40) dX1_splitPageOf_40 (by decide) (fun hb => ?_) (fun hb => ?_)
        · have := (nI_leI (by omega) (by omega)).mp hb
          omega
        · have q1 : mh_aR (mh_wR h pa (fun y => if j < y ∧ y ≤ n then mh_aR h pa (y - 1) else mh_aR h pa y)) pa (j - 1) = (D (j - 1)).1 := by
            rw [mh_aR_wR, if_pos rfl, if_neg (by omega)]; exact g1
          refine v_aload_n (pc := 43) dX1_splitPageOf_43 rfl rfl ?_
          refine g_R 100 2 (pc := 44) fX1_11 dX1_splitPageOf_44 rfl rfl (by assumption) (by assumption) (by assumption) ?_
          refine v_iload (pc := 47) dX1_splitPageOf_47 rfl ?_
          refine v_aload_n (pc := 49) dX1_splitPageOf_49 rfl rfl ?_
          refine g_R 100 2 (pc := 50) fX1_11 dX1_splitPageOf_50 rfl rfl (by assumption) (by assumption) (by assumption) ?_
          refine v_iload (pc := 53) dX1_splitPageOf_53 rfl ?_
          refine v_iconst (pc := 55) (v := 1) dX1_splitPageOf_55 (by decide) ?_
          refine v_isub (pc := 56) dX1_splitPageOf_56 ?_
          refine v_eqi s1 ?_
          refine n_aald55 (j - 1) _ (pc := 57) dX1_splitPageOf_57 (by assumption) (by assumption) rfl (by omega) (by decide) q1 (by assumption) ?_
          refine n_aast55 (j) _ (pc := 58) dX1_splitPageOf_58 (by assumption) (by assumption) rfl (by omega) (by decide) (by assumption) (by assumption) ?_
          refine v_iinc (pc := 59) dX1_splitPageOf_59 rfl s2 rfl rfl (by decide) ?_
          refine v_goto 35 (pc := 62) dX1_splitPageOf_62 (by decide) ?_
          refine v_eqh ?_ (ih (j - 1) (by omega) (by omega))
          rw [mh_saR_wR]
          refine mh_wR_congr (fun y => ?_)
          by_cases c1 : y = j
          · rw [if_pos c1, if_pos (by omega), c1]; exact g1.symm
          · rw [if_neg c1]
            by_cases c2 : j < y ∧ y ≤ n
            · rw [if_pos c2, if_pos (by omega)]
            · rw [if_neg c2, if_neg (by omega)]
    refine v_eqh ?_ (loop (n - (i + 1)) n (by omega) (Nat.le_refl _))
    refine Eq.trans (mh_wR_id h pa).symm (mh_wR_congr (fun y => ?_))
    rw [if_neg (by omega)]
  have hT' := hT
  obtain ⟨e1, e2, e3, e4, e5, e6, e7, e8, e9⟩ := hT
  have n40 := w.2.1
  refine v_aload_n (pc := 0) dX1_splitPageOf_0 rfl rfl ?_
  refine g_I 101 2 (pc := 1) fX1_18 dX1_splitPageOf_1 rfl rfl (by assumption) (by assumption) ?_
  refine v_bipush (pc := 4) (v := 40) dX1_splitPageOf_4 (by decide) ?_
  refine v_icmp_ne 13 (pc := 6) dX1_splitPageOf_6 (by decide) (fun hb => ?_) (fun hb => ?_)
  · refine main h n D LO HI X hT' w hS ?_ hfull hR
    rcases Nat.lt_or_ge n 40 with z | z
    · exact z
    · exact absurd (by rw [show n = 40 by omega]; rfl) hb
  · refine v_aload_n (pc := 9) dX1_splitPageOf_9 rfl rfl ?_
    refine v_callV 0 0 (pc := 10) kX1_58 dX1_splitPageOf_10 rfl (by assumption) (Nat.zero_le _) (Nat.zero_le _) (Nat.le_of_ble_eq_true rfl) (Nat.le_of_ble_eq_true rfl) ?_
    refine c_joinPages hT' w hS (fun h' n' D' LO' HI' X' j1 j2 j3 j4 j5 j6 j7 => ?_)
    refine main h' n' D' LO' HI' X' j1 j2 j3 ?_ ?_ (fun h2 n2 D2 LO2 HI2 X2 k1 k2 k3 k4 k5 k6 => hR h2 n2 D2 LO2 HI2 X2 k1 k2 k3 (k4.trans j4) k5 (SF_tr j7 k6))
    · rcases Nat.lt_or_ge n' 38 with z | z
      · omega
      · exfalso
        have z1 := big_len j2 j5 19 (by omega)
        have z2 : (fm (2 * 19) X').length ≤ (fm n' X').length := by
          rw [show n' = 2 * 19 + (n' - 2 * 19) by omega, fm_add, List.length_append]
          omega
        rw [j4] at z2
        omega
    · intro i' hi' hl' hh'
      obtain ⟨i, hi, hl, hh⟩ := tw_find w key
      have h32 := hfull i hi hl hh
      obtain ⟨j', q1, q2, q3⟩ := j6 i hi
      have ej : i' = j' := tw_uniq j2 hi' q1 hl' hh' (Int32.le_trans q2 hl) (Int32.le_trans hh q3)
      subst ej
      have c1 := tw_cnt w hi
      have c2 := tw_cnt j2 hi'
      have c3 := cnt_mono (M := fm n X) q2 q3
      rw [j4] at c2
      have c4 := (j1.2.2.2.2.2.2.2.1 i' (by have := j2.2.1; omega)).2.2.1.2.2.2.2.2.2.2.2.2.2
      omega
theorem put_len_no {M : List En} (hk : ¬ hasK M key = true) : (putK M key x).length = M.length + 1 := by
  have h1 : (M.filter (fun e => decide (e.1 < key))).length + (M.filter (fun e => decide (key < e.1))).length = M.length := by
    induction M with
    | nil => rfl
    | cons e M ih =>
      have hk2 : ¬ hasK M key = true := fun q => hk (by
        obtain ⟨f, hf, hq⟩ := hasK_iff.mp q
        exact hasK_iff.mpr ⟨f, List.mem_cons_of_mem _ hf, hq⟩)
      have hne : e.1 ≠ key := fun q => hk (hasK_iff.mpr ⟨e, List.mem_cons_self, q⟩)
      have := ih hk2
      by_cases c : e.1 < key
      · simp [List.filter_cons, c, Int32.not_lt.mpr (i32_le_of_lt c)]
        omega
      · have c2 : key < e.1 := i32_lt_of_ne c hne
        simp [List.filter_cons, c, c2]
        omega
  have e : (putK M key x).length = (M.filter (fun e => decide (e.1 < key))).length + ((M.filter (fun e => decide (key < e.1))).length + 1) := by
    unfold putK
    rw [List.length_append, List.length_cons]
  rw [e]
  omega
theorem put_len_has {M : List En} (hu : up M) (hk : hasK M key = true) : (putK M key x).length = M.length := by
  obtain ⟨⟨k, y⟩, he, hq⟩ := hasK_iff.mp hk
  have hq' : k = key := hq
  subst hq'
  obtain ⟨A, C, rfl⟩ := List.append_of_mem he
  obtain ⟨u1, u2, u3⟩ := List.pairwise_append.mp hu
  have hA : ∀ e, e ∈ A → e.1 < k := fun e he => u3 e he (k, y) List.mem_cons_self
  have hC : ∀ e, e ∈ C → k < e.1 := (List.pairwise_cons.mp u2).1
  have e1 : A ++ (k, y) :: C = A ++ [(k, y)] ++ C := by simp
  rw [e1, putK_mid hA hC]
  have e2 : putK [(k, y)] k x = [(k, x)] := by
    unfold putK
    simp [i32_irr]
  rw [e2]
  simp
set_option maxHeartbeats 4000000 in
set_option maxRecDepth 100000 in
theorem t_write (hT : TB h t S M) (hroom : hasK M key = true ∨ M.length < 600) (hR : ∀ h', TB h' t S (putK M key x) → SF S h h' → R (.inl none) h') : mv_V G jX1_write (d + 6) 0 [(0, .ref t), (1, .int key), (2, .long x)] [] h 0 0 R := by
  have hup := TB_up hT
  obtain ⟨pa, n, D, LO, HI, X, h0, h1, h2, h3, h4⟩ := hT
  have mid : ∀ n LO HI X i, tw n LO HI X → fm n X = M → i < n → LO i ≤ key → key ≤ HI i → hasK M key = hasK (X i) key ∧ fm n (up1 X i (putK (X i) key x)) = putK M key x ∧ tw n LO HI (up1 X i (putK (X i) key x)) := by
    intro n LO HI X i w hM hi hl hh
    have hA : ∀ e, e ∈ fm i X → e.1 < key := fun e he => i32_lt_le (tw_A w hi he) hl
    have hC : ∀ e, e ∈ fm (n - (i + 1)) (fun j => X (i + 1 + j)) → key < e.1 := fun e he => i32_le_lt hh (tw_C w hi he)
    refine ⟨?_, ?_, ?_⟩
    · rw [← hM, fm_at X hi]
      exact hasK_mid hA hC
    · rw [← hM, fm_at X hi, putK_mid hA hC, fm_at (up1 X i (putK (X i) key x)) hi, up1_eq]
      rw [fm_congr (n := i) (X' := X) (fun j hj => up1_ne _ _ (by omega)), fm_congr (n := n - (i + 1)) (X' := fun j => X (i + 1 + j)) (fun j hj => up1_ne _ _ (by omega))]
    · refine tw_X w (fun j hj => ?_)
      by_cases c : j = i
      · subst c
        rw [up1_eq]
        obtain ⟨_, w1, w2⟩ := w.2.2.2.2.1 j hj
        refine ⟨up_put w1 _ _, fun e he => ?_⟩
        rcases put_mem he with z | z
        · rw [z]; exact ⟨hl, hh⟩
        · exact w2 e z
      · rw [up1_ne _ _ c]; exact (w.2.2.2.2.1 j hj).2
  have last : ∀ hc n D LO HI X i, tb0 hc t pa n D LO HI X M.length → tw n LO HI X → tS S t pa D → fm n X = M → SF S h hc → i < n → LO i ≤ key → key ≤ HI i → (X i).length < 32 → ¬ hasK (X i) key = true → mv_V G jX1_write (d + 6) 67 [(0, .ref t), (1, .int key), (2, .long x), (4, .ref (D i).1)] [] hc 0 0 R := by
    intro hc n D LO HI X i hB w hS hM hF hi hl hh h32 hk
    obtain ⟨m1, m2, m3⟩ := mid n LO HI X i w hM hi hl hh
    have i40 : i < 40 := by have := w.2.1; omega
    have hB' := hB
    obtain ⟨e1, e2, e3, e4, e5, e6, e7, e8, e9⟩ := hB
    obtain ⟨f1, f2, f3⟩ := e8 i i40
    have f4 := f3.1.1
    have hu := (w.2.2.2.2.1 i hi).2.1
    have hkM : ¬ hasK M key = true := by rw [m1]; exact hk
    have hlen := put_len_no (x := x) hkM
    refine v_aload (pc := 67) dX1_write_67 rfl ?_
    refine v_aload (pc := 69) dX1_write_69 rfl ?_
    refine v_iload_n (pc := 71) dX1_write_71 rfl rfl ?_
    refine v_callV 0 0 (pc := 72) kX1_32 dX1_write_72 rfl (by assumption) (Nat.zero_le _) (Nat.zero_le _) (Nat.le_of_ble_eq_true rfl) (Nat.le_of_ble_eq_true rfl) ?_
    refine c_below f3.1 ?_
    refine v_iload_n (pc := 75) dX1_write_75 rfl rfl ?_
    refine v_lload_n (pc := 76) dX1_write_76 rfl rfl ?_
    refine v_callV 0 0 (pc := 77) kX1_54 dX1_write_77 rfl (by assumption) (Nat.zero_le _) (Nat.zero_le _) (Nat.le_of_ble_eq_true rfl) (Nat.le_of_ble_eq_true rfl) ?_
    refine gl_insert f3 hu h32 hk (fun h' g1 g2 => ?_)
    have hC := tb0_pageX hB' i40 g1 g2
    have hC' := hC
    clear e1 e2 e4 e5 e6 e7 e8
    obtain ⟨e1, e2, _, e4, e5, e6, e7, e8, _⟩ := hC
    refine v_aload_n (pc := 80) dX1_write_80 rfl rfl ?_
    refine v_dup (pc := 81) dX1_write_81 rfl ?_
    refine g_I 102 2 (pc := 82) fX1_22 dX1_write_82 rfl rfl (by assumption) (by assumption) ?_
    refine v_iconst (pc := 85) (v := 1) dX1_write_85 (by decide) ?_
    refine v_iadd (pc := 86) dX1_write_86 ?_
    refine v_eqi (nI_succ _).symm ?_
    refine p_I 102 2 (pc := 87) fX1_22 dX1_write_87 rfl rfl (by assumption) ?_
    refine v_vret (pc := 90) dX1_write_90 rfl ?_
    refine hR _ ⟨pa, n, D, LO, HI, _, ?_, m3, hS, m2, ?_⟩ (SF_tr (SF_tr hF (SF_pg hS i40 g2)) (SF_sfI hS.1))
    · rw [hlen]; exact tb0_size hC'
    · rw [hlen]
      rcases hroom with z | z
      · exact absurd z hkM
      · omega
  have h0' := h0
  obtain ⟨e1, e2, e3, e4, e5, e6, e7, e8, e9⟩ := h0
  refine v_aload_n (pc := 0) dX1_write_0 rfl rfl ?_
  refine g_R 100 2 (pc := 1) fX1_11 dX1_write_1 rfl rfl (by assumption) (by assumption) (by assumption) ?_
  refine v_aload_n (pc := 4) dX1_write_4 rfl rfl ?_
  refine v_iload_n (pc := 5) dX1_write_5 rfl rfl ?_
  refine v_callV 0 0 (pc := 6) kX1_28 dX1_write_6 rfl (by assumption) (Nat.zero_le _) (Nat.zero_le _) (Nat.le_of_ble_eq_true rfl) (Nat.le_of_ble_eq_true rfl) ?_
  refine c_pageOf h0' h1 (fun i hi hl hh => ?_)
  obtain ⟨m1, m2, m3⟩ := mid n LO HI X i h1 h3 hi hl hh
  have i40 : i < 40 := by have := h1.2.1; omega
  obtain ⟨f1, f2, f3⟩ := e8 i i40
  have f4 := f3.1.1
  have f5 := f3.1.2.2.2.2.2.2.2.2.2.1
  have f6 := f3.1.2.2.2.2.2.2.2.2.2.2
  have hu := (h1.2.2.2.2.1 i hi).2.1
  refine n_aald55 (i) _ (pc := 9) dX1_write_9 (by assumption) (by assumption) rfl (by omega) (by decide) f1 (by assumption) ?_
  refine v_astore (pc := 10) dX1_write_10 rfl rfl (by decide) ?_
  refine v_aload (pc := 12) dX1_write_12 rfl ?_
  refine v_aload (pc := 14) dX1_write_14 rfl ?_
  refine v_iload_n (pc := 16) dX1_write_16 rfl rfl ?_
  refine v_callV 0 0 (pc := 17) kX1_32 dX1_write_17 rfl (by assumption) (Nat.zero_le _) (Nat.zero_le _) (Nat.le_of_ble_eq_true rfl) (Nat.le_of_ble_eq_true rfl) ?_
  refine c_below f3.1 ?_
  refine v_iload_n (pc := 20) dX1_write_20 rfl rfl ?_
  refine v_callV 0 0 (pc := 21) kX1_35 dX1_write_21 rfl (by assumption) (Nat.zero_le _) (Nat.zero_le _) (Nat.le_of_ble_eq_true rfl) (Nat.le_of_ble_eq_true rfl) ?_
  have q := pb_le (mh_aI h (D i).2.1) (X i).length key
  refine c_holdsAt f3.1 (by omega) ?_
  have hp := pgL_has (key := key) f3 hu
  by_cases c : hasK (X i) key = true
  · rw [if_pos (hp.mp c)]
    refine v_if_eq 40 (pc := 24) dX1_write_24 (by decide) (fun hb => ?_) (fun hb => ?_)
    · exact absurd hb (by decide)
    · refine v_aload (pc := 27) dX1_write_27 rfl ?_
      refine v_aload (pc := 29) dX1_write_29 rfl ?_
      refine v_iload_n (pc := 31) dX1_write_31 rfl rfl ?_
      refine v_callV 0 0 (pc := 32) kX1_32 dX1_write_32 rfl (by assumption) (Nat.zero_le _) (Nat.zero_le _) (Nat.le_of_ble_eq_true rfl) (Nat.le_of_ble_eq_true rfl) ?_
      refine c_below f3.1 ?_
      refine v_lload_n (pc := 35) dX1_write_35 rfl rfl ?_
      refine v_callV 0 0 (pc := 36) kX1_43 dX1_write_36 rfl (by assumption) (Nat.zero_le _) (Nat.zero_le _) (Nat.le_of_ble_eq_true rfl) (Nat.le_of_ble_eq_true rfl) ?_
      refine gl_set f3 hu c (fun h' g1 g2 => ?_)
      refine v_vret (pc := 39) dX1_write_39 rfl ?_
      have hlen := put_len_has (x := x) hup (m1.trans c)
      refine hR h' ⟨pa, n, D, LO, HI, _, ?_, m3, h2, m2, ?_⟩ (SF_pg h2 i40 g2)
      · rw [hlen]; exact tb0_pageX h0' i40 g1 g2
      · rw [hlen]; exact h4
  · rw [if_neg (fun q => c (hp.mpr q))]
    refine v_if_eq 40 (pc := 24) dX1_write_24 (by decide) (fun hb => ?_) (fun hb => ?_)
    · refine v_aload (pc := 40) dX1_write_40 rfl ?_
      refine g_I 2 1 (pc := 42) fX1_47 dX1_write_42 rfl rfl (by assumption) (by assumption) ?_
      refine v_bipush (pc := 45) (v := 32) dX1_write_45 (by decide) ?_
      refine v_icmp_ne 67 (pc := 47) dX1_write_47 (by decide) (fun hb => ?_) (fun hb => ?_)
      · refine last h n D LO HI X i h0' h1 h2 h3 (SF_rf S h) hi hl hh ?_ c
        rcases Nat.lt_or_ge (X i).length 32 with z | z
        · exact z
        · exact absurd (by rw [show (X i).length = 32 by omega]; rfl) hb
      · have h32 : (X i).length = 32 := (nI_eq (a := (X i).length) (b := 32) (by omega) (by omega)).mp hb
        refine v_aload_n (pc := 50) dX1_write_50 rfl rfl ?_
        refine v_iload_n (pc := 51) dX1_write_51 rfl rfl ?_
        refine v_callV 0 0 (pc := 52) kX1_50 dX1_write_52 rfl (by assumption) (Nat.zero_le _) (Nat.zero_le _) (Nat.le_of_ble_eq_true rfl) (Nat.le_of_ble_eq_true rfl) ?_
        refine c_split h0' h1 h2 (by rw [h3]; exact h4) (fun j hj hl2 hh2 => ?_) (fun h' n' D' LO' HI' X' j1 j2 j3 j4 j5 j6 => ?_)
        · rw [tw_uniq h1 hj hi hl2 hh2 hl hh]; exact h32
        · clear e1 e2 e4 e5 e6 e7 e8 f1 f2 f3 f4 f5 f6
          have j1' := j1
          obtain ⟨e1, e2, _, e4, e5, e6, e7, e8, _⟩ := j1
          refine v_aload_n (pc := 55) dX1_write_55 rfl rfl ?_
          refine g_R 100 2 (pc := 56) fX1_11 dX1_write_56 rfl rfl (by assumption) (by assumption) (by assumption) ?_
          refine v_aload_n (pc := 59) dX1_write_59 rfl rfl ?_
          refine v_iload_n (pc := 60) dX1_write_60 rfl rfl ?_
          refine v_callV 0 0 (pc := 61) kX1_28 dX1_write_61 rfl (by assumption) (Nat.zero_le _) (Nat.zero_le _) (Nat.le_of_ble_eq_true rfl) (Nat.le_of_ble_eq_true rfl) ?_
          refine c_pageOf j1' j2 (fun i' hi' hl' hh' => ?_)
          have i40' : i' < 40 := by have := j2.2.1; omega
          obtain ⟨f1, f2, f3⟩ := e8 i' i40'
          have h16 := j5 i' hi' hl' hh'
          refine n_aald55 (i') _ (pc := 64) dX1_write_64 (by assumption) (by assumption) rfl (by omega) (by decide) f1 (by assumption) ?_
          refine v_astore (pc := 65) dX1_write_65 rfl rfl (by decide) ?_
          obtain ⟨m4, m5, m6⟩ := mid n' LO' HI' X' i' j2 (j4.trans h3) hi' hl' hh'
          refine last h' n' D' LO' HI' X' i' j1' j2 j3 (j4.trans h3) j6 hi' hl' hh' (by omega) ?_
          rw [← m4, m1]; exact c
    · exact absurd rfl hb
end TSW
