/-! Rows of fields by one number and with the value named; rows of arrays at a place given as a Nat. -/
theorem mv_inc (i : Nat) : nI i + Int32.ofInt 1 = nI (i + 1) := by rw [nI_succ]; rfl
section MVN
variable {G : mv_G} {I : mv_M} {d pc : Nat} {lo : List (Nat × Value)} {st : List Value} {h : mh_T} {kc ks : Nat} {R : mv_O → mh_T → Prop} {idx ci k a : Nat} {fin : Bool}
theorem g_I (F K : Nat) {v : Int32} (hF : mv_Fd I.1.cls idx ci k 0 fin) (hd : decode I.2.1 pc = .ok (.getfield idx, 3)) (hFF : 100 * ci + k = F) (hKK : ci + 1 = K) (hk : mh_kd h a = K) (hv : mh_fI h F a = v) (kk : mv_V G I d (pc + 3) lo (.int v :: st) h kc ks R) : mv_V G I d pc lo (.ref a :: st) h kc ks R := by subst hFF; subst hKK; subst hv; exact v_getI hF hd hk kk
theorem g_J (F K : Nat) {v : Int64} (hF : mv_Fd I.1.cls idx ci k 1 fin) (hd : decode I.2.1 pc = .ok (.getfield idx, 3)) (hFF : 100 * ci + k = F) (hKK : ci + 1 = K) (hk : mh_kd h a = K) (hv : mh_fJ h F a = v) (kk : mv_V G I d (pc + 3) lo (.long v :: st) h kc ks R) : mv_V G I d pc lo (.ref a :: st) h kc ks R := by subst hFF; subst hKK; subst hv; exact v_getJ hF hd hk kk
theorem g_R (F K : Nat) {v : Nat} (hF : mv_Fd I.1.cls idx ci k 2 fin) (hd : decode I.2.1 pc = .ok (.getfield idx, 3)) (hFF : 100 * ci + k = F) (hKK : ci + 1 = K) (hk : mh_kd h a = K) (hv : mh_fR h F a = v) (hn : v ≠ 0) (kk : mv_V G I d (pc + 3) lo (.ref v :: st) h kc ks R) : mv_V G I d pc lo (.ref a :: st) h kc ks R := by subst hFF; subst hKK; subst hv; exact v_getR hF hd hk hn kk
theorem p_I (F K : Nat) {x : Int32} (hF : mv_Fd I.1.cls idx ci k 0 false) (hd : decode I.2.1 pc = .ok (.putfield idx, 3)) (hFF : 100 * ci + k = F) (hKK : ci + 1 = K) (hk : mh_kd h a = K) (kk : mv_V G I d (pc + 3) lo st (mh_sfI h F a x) kc ks R) : mv_V G I d pc lo (.int x :: .ref a :: st) h kc ks R := by subst hFF; subst hKK; exact v_putI hF hd hk kk
theorem p_IF (F K : Nat) {x : Int32} (hF : mv_Fd I.1.cls idx ci k 0 true) (hd : decode I.2.1 pc = .ok (.putfield idx, 3)) (hFF : 100 * ci + k = F) (hKK : ci + 1 = K) (hc : I.1.name = "<init>") (hc2 : vwCl[ci]?.map (fun q => q.1) = some I.1.cls) (hk : mh_kd h a = K) (kk : mv_V G I d (pc + 3) lo st (mh_sfI h F a x) kc ks R) : mv_V G I d pc lo (.int x :: .ref a :: st) h kc ks R := by subst hFF; subst hKK; exact v_putIF hF hd hc hc2 hk kk
theorem p_J (F K : Nat) {x : Int64} (hF : mv_Fd I.1.cls idx ci k 1 false) (hd : decode I.2.1 pc = .ok (.putfield idx, 3)) (hFF : 100 * ci + k = F) (hKK : ci + 1 = K) (hk : mh_kd h a = K) (kk : mv_V G I d (pc + 3) lo st (mh_sfJ h F a x) kc ks R) : mv_V G I d pc lo (.long x :: .ref a :: st) h kc ks R := by subst hFF; subst hKK; exact v_putJ hF hd hk kk
theorem p_JF (F K : Nat) {x : Int64} (hF : mv_Fd I.1.cls idx ci k 1 true) (hd : decode I.2.1 pc = .ok (.putfield idx, 3)) (hFF : 100 * ci + k = F) (hKK : ci + 1 = K) (hc : I.1.name = "<init>") (hc2 : vwCl[ci]?.map (fun q => q.1) = some I.1.cls) (hk : mh_kd h a = K) (kk : mv_V G I d (pc + 3) lo st (mh_sfJ h F a x) kc ks R) : mv_V G I d pc lo (.long x :: .ref a :: st) h kc ks R := by subst hFF; subst hKK; exact v_putJF hF hd hc hc2 hk kk
theorem p_R (F K : Nat) {x : Nat} (hF : mv_Fd I.1.cls idx ci k 2 false) (hd : decode I.2.1 pc = .ok (.putfield idx, 3)) (hFF : 100 * ci + k = F) (hKK : ci + 1 = K) (hk : mh_kd h a = K) (hn : x ≠ 0) (kk : mv_V G I d (pc + 3) lo st (mh_sfR h F a x) kc ks R) : mv_V G I d pc lo (.ref x :: .ref a :: st) h kc ks R := by subst hFF; subst hKK; exact v_putR hF hd hk hn kk
theorem p_RF (F K : Nat) {x : Nat} (hF : mv_Fd I.1.cls idx ci k 2 true) (hd : decode I.2.1 pc = .ok (.putfield idx, 3)) (hFF : 100 * ci + k = F) (hKK : ci + 1 = K) (hc : I.1.name = "<init>") (hc2 : vwCl[ci]?.map (fun q => q.1) = some I.1.cls) (hk : mh_kd h a = K) (hn : x ≠ 0) (kk : mv_V G I d (pc + 3) lo st (mh_sfR h F a x) kc ks R) : mv_V G I d pc lo (.ref x :: .ref a :: st) h kc ks R := by subst hFF; subst hKK; exact v_putRF hF hd hc hc2 hk hn kk
theorem n_iald {j : Int32} {v : Int32} (i N : Nat) (hd : decode I.2.1 pc = .ok (.iaload, 1)) (hk : mh_kd h a = 50) (hN : mh_ln h a = N) (hj : j = nI i) (hi : i < N) (hN2 : N < 2 ^ 31) (hv : mh_aI h a i = v) (kk : mv_V G I d (pc + 1) lo (.int v :: st) h kc ks R) : mv_V G I d pc lo (.int j :: .ref a :: st) h kc ks R := by
  subst hj; subst hN; subst hv
  exact v_iald hd hk (vp_in_nI hi hN2) (by rw [nI_clamp (by omega)]; exact kk)
theorem n_lald {j : Int32} {v : Int64} (i N : Nat) (hd : decode I.2.1 pc = .ok (.laload, 1)) (hk : mh_kd h a = 51) (hN : mh_ln h a = N) (hj : j = nI i) (hi : i < N) (hN2 : N < 2 ^ 31) (hv : mh_aJ h a i = v) (kk : mv_V G I d (pc + 1) lo (.long v :: st) h kc ks R) : mv_V G I d pc lo (.int j :: .ref a :: st) h kc ks R := by
  subst hj; subst hN; subst hv
  exact v_lald hd hk (vp_in_nI hi hN2) (by rw [nI_clamp (by omega)]; exact kk)
theorem n_zald {j : Int32} {v : Int32} (i N : Nat) (hd : decode I.2.1 pc = .ok (.baload, 1)) (hk : mh_kd h a = 52) (hN : mh_ln h a = N) (hj : j = nI i) (hi : i < N) (hN2 : N < 2 ^ 31) (hv : mh_aI h a i = v) (kk : mv_V G I d (pc + 1) lo (.int v :: st) h kc ks R) : mv_V G I d pc lo (.int j :: .ref a :: st) h kc ks R := by
  subst hj; subst hN; subst hv
  exact v_zald hd hk (vp_in_nI hi hN2) (by rw [nI_clamp (by omega)]; exact kk)
theorem n_bald {j : Int32} {v : Int32} (i N : Nat) (hd : decode I.2.1 pc = .ok (.baload, 1)) (hk : mh_kd h a = 53) (hN : mh_ln h a = N) (hj : j = nI i) (hi : i < N) (hN2 : N < 2 ^ 31) (hv : mh_aI h a i = v) (kk : mv_V G I d (pc + 1) lo (.int v :: st) h kc ks R) : mv_V G I d pc lo (.int j :: .ref a :: st) h kc ks R := by
  subst hj; subst hN; subst hv
  exact v_bald hd hk (vp_in_nI hi hN2) (by rw [nI_clamp (by omega)]; exact kk)
theorem n_aald54 {j : Int32} {v : Nat} (i N : Nat) (hd : decode I.2.1 pc = .ok (.aaload, 1)) (hk : mh_kd h a = 54) (hN : mh_ln h a = N) (hj : j = nI i) (hi : i < N) (hN2 : N < 2 ^ 31) (hv : mh_aR h a i = v) (hn : v ≠ 0) (kk : mv_V G I d (pc + 1) lo (.ref v :: st) h kc ks R) : mv_V G I d pc lo (.int j :: .ref a :: st) h kc ks R := by
  subst hj; subst hN; subst hv
  exact v_aald54 hd hk (vp_in_nI hi hN2) (by rw [nI_clamp (by omega)]; exact hn) (by rw [nI_clamp (by omega)]; exact kk)
theorem n_aald55 {j : Int32} {v : Nat} (i N : Nat) (hd : decode I.2.1 pc = .ok (.aaload, 1)) (hk : mh_kd h a = 55) (hN : mh_ln h a = N) (hj : j = nI i) (hi : i < N) (hN2 : N < 2 ^ 31) (hv : mh_aR h a i = v) (hn : v ≠ 0) (kk : mv_V G I d (pc + 1) lo (.ref v :: st) h kc ks R) : mv_V G I d pc lo (.int j :: .ref a :: st) h kc ks R := by
  subst hj; subst hN; subst hv
  exact v_aald55 hd hk (vp_in_nI hi hN2) (by rw [nI_clamp (by omega)]; exact hn) (by rw [nI_clamp (by omega)]; exact kk)
theorem n_iast {j : Int32} {x : Int32} (i N : Nat) (hd : decode I.2.1 pc = .ok (.iastore, 1)) (hk : mh_kd h a = 50) (hN : mh_ln h a = N) (hj : j = nI i) (hi : i < N) (hN2 : N < 2 ^ 31) (kk : mv_V G I d (pc + 1) lo st (mh_saI h a i x) kc ks R) : mv_V G I d pc lo (.int x :: .int j :: .ref a :: st) h kc ks R := by
  subst hj; subst hN
  exact v_iast hd hk (vp_in_nI hi hN2) (by rw [nI_clamp (by omega)]; exact kk)
theorem n_last {j : Int32} {x : Int64} (i N : Nat) (hd : decode I.2.1 pc = .ok (.lastore, 1)) (hk : mh_kd h a = 51) (hN : mh_ln h a = N) (hj : j = nI i) (hi : i < N) (hN2 : N < 2 ^ 31) (kk : mv_V G I d (pc + 1) lo st (mh_saJ h a i x) kc ks R) : mv_V G I d pc lo (.long x :: .int j :: .ref a :: st) h kc ks R := by
  subst hj; subst hN
  exact v_last hd hk (vp_in_nI hi hN2) (by rw [nI_clamp (by omega)]; exact kk)
theorem n_zast {j : Int32} {x : Int32} (i N : Nat) (hd : decode I.2.1 pc = .ok (.bastore, 1)) (hk : mh_kd h a = 52) (hN : mh_ln h a = N) (hj : j = nI i) (hi : i < N) (hN2 : N < 2 ^ 31) (kk : mv_V G I d (pc + 1) lo st (mh_saI h a i (vp_nar .boolean x)) kc ks R) : mv_V G I d pc lo (.int x :: .int j :: .ref a :: st) h kc ks R := by
  subst hj; subst hN
  exact v_zast hd hk (vp_in_nI hi hN2) (by rw [nI_clamp (by omega)]; exact kk)
theorem n_bast {j : Int32} {x : Int32} (i N : Nat) (hd : decode I.2.1 pc = .ok (.bastore, 1)) (hk : mh_kd h a = 53) (hN : mh_ln h a = N) (hj : j = nI i) (hi : i < N) (hN2 : N < 2 ^ 31) (kk : mv_V G I d (pc + 1) lo st (mh_saI h a i (vp_nar .byte x)) kc ks R) : mv_V G I d pc lo (.int x :: .int j :: .ref a :: st) h kc ks R := by
  subst hj; subst hN
  exact v_bast hd hk (vp_in_nI hi hN2) (by rw [nI_clamp (by omega)]; exact kk)
theorem n_aast54 {j : Int32} {x : Nat} (i N : Nat) (hd : decode I.2.1 pc = .ok (.aastore, 1)) (hk : mh_kd h a = 54) (hN : mh_ln h a = N) (hj : j = nI i) (hi : i < N) (hN2 : N < 2 ^ 31) (hv : mh_kd h x = 2) (hx0 : x ≠ 0) (kk : mv_V G I d (pc + 1) lo st (mh_saR h a i x) kc ks R) : mv_V G I d pc lo (.ref x :: .int j :: .ref a :: st) h kc ks R := by
  subst hj; subst hN
  exact v_aast54 (ci := 1) hd hk (vp_in_nI hi hN2) hv (by decide) rfl hx0 (by rw [nI_clamp (by omega)]; exact kk)
theorem n_aast55 {j : Int32} {x : Nat} (i N : Nat) (hd : decode I.2.1 pc = .ok (.aastore, 1)) (hk : mh_kd h a = 55) (hN : mh_ln h a = N) (hj : j = nI i) (hi : i < N) (hN2 : N < 2 ^ 31) (hv : mh_kd h x = 1) (hx0 : x ≠ 0) (kk : mv_V G I d (pc + 1) lo st (mh_saR h a i x) kc ks R) : mv_V G I d pc lo (.ref x :: .int j :: .ref a :: st) h kc ks R := by
  subst hj; subst hN
  exact v_aast55 (ci := 0) hd hk (vp_in_nI hi hN2) hv (by decide) rfl hx0 (by rw [nI_clamp (by omega)]; exact kk)
theorem n_cpI {a0 : Nat} {sp dp n : Int32} (i j m N0 N : Nat) (hd : decode I.2.1 pc = .ok (.invokestatic idx, 3)) (hw : mv_Wd (.methodLink I.1.cls idx arraycopyName) ∧ mv_Wd (.native arraycopyName) ∧ mv_Wd (.static arraycopyName) ∧ mv_Wd (.initialized "java/lang/System")) (hk0 : mh_kd h a0 = 50) (hk : mh_kd h a = 50) (hN0 : mh_ln h a0 = N0) (hN : mh_ln h a = N) (h1 : sp = nI i) (h2 : dp = nI j) (h3 : n = nI m) (q4 : i + m ≤ N0) (q5 : j + m ≤ N) (q6 : N0 < 2 ^ 31) (q7 : N < 2 ^ 31) (hst : (st.map fun v => v.category).sum ≤ 8) (hdd : 3 ≤ d) (kk : mv_V G I d (pc + 3) lo st (mh_caI h a0 i a j m) kc ks R) : mv_V G I d pc lo (.int n :: .int dp :: .ref a :: .int sp :: .ref a0 :: st) h kc ks R := by
  subst h1; subst h2; subst h3; subst hN0; subst hN
  have c1 : (nI i).toNatClampNeg = i := nI_clamp (by omega)
  have c2 : (nI j).toNatClampNeg = j := nI_clamp (by omega)
  have c3 : (nI m).toNatClampNeg = m := nI_clamp (by omega)
  exact v_cpI hd hw hk0 hk (nI_pos (by omega)) (nI_pos (by omega)) (nI_pos (by omega)) (by rw [c1, c3]; exact q4) (by rw [c2, c3]; exact q5) hst hdd (by rw [c1, c2, c3]; exact kk)
theorem n_cpJ {a0 : Nat} {sp dp n : Int32} (i j m N0 N : Nat) (hd : decode I.2.1 pc = .ok (.invokestatic idx, 3)) (hw : mv_Wd (.methodLink I.1.cls idx arraycopyName) ∧ mv_Wd (.native arraycopyName) ∧ mv_Wd (.static arraycopyName) ∧ mv_Wd (.initialized "java/lang/System")) (hk0 : mh_kd h a0 = 51) (hk : mh_kd h a = 51) (hN0 : mh_ln h a0 = N0) (hN : mh_ln h a = N) (h1 : sp = nI i) (h2 : dp = nI j) (h3 : n = nI m) (q4 : i + m ≤ N0) (q5 : j + m ≤ N) (q6 : N0 < 2 ^ 31) (q7 : N < 2 ^ 31) (hst : (st.map fun v => v.category).sum ≤ 8) (hdd : 3 ≤ d) (kk : mv_V G I d (pc + 3) lo st (mh_caJ h a0 i a j m) kc ks R) : mv_V G I d pc lo (.int n :: .int dp :: .ref a :: .int sp :: .ref a0 :: st) h kc ks R := by
  subst h1; subst h2; subst h3; subst hN0; subst hN
  have c1 : (nI i).toNatClampNeg = i := nI_clamp (by omega)
  have c2 : (nI j).toNatClampNeg = j := nI_clamp (by omega)
  have c3 : (nI m).toNatClampNeg = m := nI_clamp (by omega)
  exact v_cpJ hd hw hk0 hk (nI_pos (by omega)) (nI_pos (by omega)) (nI_pos (by omega)) (by rw [c1, c3]; exact q4) (by rw [c2, c3]; exact q5) hst hdd (by rw [c1, c2, c3]; exact kk)
/-- a call that comes back whatever its end: the callee's contract speaks of any end R' -/
theorem v_eqi {x y : Int32} (e : x = y) (k : mv_V G I d pc lo (.int y :: st) h kc ks R) : mv_V G I d pc lo (.int x :: st) h kc ks R := by subst e; exact k
theorem v_eql {x y : Int64} (e : x = y) (k : mv_V G I d pc lo (.long y :: st) h kc ks R) : mv_V G I d pc lo (.long x :: st) h kc ks R := by subst e; exact k
theorem v_eqh {h' : mh_T} (e : h = h') (k : mv_V G I d pc lo st h' kc ks R) : mv_V G I d pc lo st h kc ks R := by subst e; exact k
end MVN
