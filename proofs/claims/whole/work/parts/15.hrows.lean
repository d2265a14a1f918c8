/-! Rows of mv_V that read and write the heap. -/
def mv_ty (t : Nat) (ty : FieldType) : Prop := if t = 0 then ty = .int else if t = 1 then ty = .long else ∀ x : Nat, narrow ty (.ref x) = .ref x ∧ fits ty (.ref x) = true
/-- the pool's entry idx of own is the k-th field, of the sort t, of the ci-th of vwCl -/
def mv_Fd (own : String) (idx ci k t : Nat) (fin : Bool) : Prop := ∃ (C : String) (T : u_T) (N : Nat), vwCl[ci]? = some (C, T, N) ∧ ci < 40 ∧ (∀ w ∈ u_ws C T N, mv_Wd w) ∧ k < N ∧ (mv_tags ci)[k]? = some t ∧ mv_Wd (.fieldLink own idx (T k).1 (T k).2.1 (T k).2.2.1) ∧ (T k).2.2.2 = fin ∧ (T k).1 = C ∧ (∃ ty, parseFieldDescriptor (T k).2.2.1 = some ty ∧ mv_ty t ty) ∧ ∃ ty0 : Nat → FieldType, (∀ j, j < N → parseFieldDescriptor (T j).2.2.1 = some (ty0 j)) ∧ ∀ a, a < N → ∀ b, b < N → a ≠ b → (T a).2.1 ≠ (T b).2.1
section MVH
variable {G : mv_G} {I : mv_M} {d pc : Nat} {lo : List (Nat × Value)} {st : List Value} {h : mh_T} {kc ks : Nat} {R : mv_O → mh_T → Prop} {idx ci k a : Nat} {fin : Bool}
theorem v_getI (hF : mv_Fd I.1.cls idx ci k 0 fin) (hd : decode I.2.1 pc = .ok (.getfield idx, 3)) (hk : mh_kd h a = ci + 1) (kk : mv_V G I d (pc + 3) lo (.int (mh_fI h (100 * ci + k) a) :: st) h kc ks R) : mv_V G I d pc lo (.ref a :: st) h kc ks R := by
  intro p e Rm s m args below meth c H locs cells slots ls mc ms hA hH hS hl h1 h2
  have hC := hA.2.2.2.2.2.2.2.2.1
  have hown := hA.2.2.2.2.2.2.1
  obtain ⟨C, T, N, e1, e2, e3, e4, e5, e6, -⟩ := hF
  have hv : (mv_fs h (mv_tags ci) (100 * ci) a)[k]? = some (.int (mh_fI h (100 * ci + k) a)) := by rw [mv_fs_get h (100 * ci) a e5]; simp [mv_fv]
  exact va_get (D := mg_D G) (cl := vwCl) (tys := mv_tys G) (ci := ci) (C := C) (T := T) (N := N) (Ts := u_ws C T N) hA.1 hA.2.1 (fun w hw => hC.1 w (e3 w hw) args) (fun w hw => hw) hown hC.2.1 (hH.one (a := a) (by omega)) 0 (show [(a, mv_cel G h a)][0]? = some (a, .inr (ci, mv_fs h (mv_tags ci) (100 * ci) a)) by rw [mv_celO hk e2]; rfl) e1 k e4 (hC.1 _ e6 args) (fun x hx => hx) hv hd (kk p e Rm s m args below meth c H locs cells slots ls mc ms hA hH hS hl h1 h2)
theorem v_getJ (hF : mv_Fd I.1.cls idx ci k 1 fin) (hd : decode I.2.1 pc = .ok (.getfield idx, 3)) (hk : mh_kd h a = ci + 1) (kk : mv_V G I d (pc + 3) lo (.long (mh_fJ h (100 * ci + k) a) :: st) h kc ks R) : mv_V G I d pc lo (.ref a :: st) h kc ks R := by
  intro p e Rm s m args below meth c H locs cells slots ls mc ms hA hH hS hl h1 h2
  have hC := hA.2.2.2.2.2.2.2.2.1
  have hown := hA.2.2.2.2.2.2.1
  obtain ⟨C, T, N, e1, e2, e3, e4, e5, e6, -⟩ := hF
  have hv : (mv_fs h (mv_tags ci) (100 * ci) a)[k]? = some (.long (mh_fJ h (100 * ci + k) a)) := by rw [mv_fs_get h (100 * ci) a e5]; simp [mv_fv]
  exact va_get (D := mg_D G) (cl := vwCl) (tys := mv_tys G) (ci := ci) (C := C) (T := T) (N := N) (Ts := u_ws C T N) hA.1 hA.2.1 (fun w hw => hC.1 w (e3 w hw) args) (fun w hw => hw) hown hC.2.1 (hH.one (a := a) (by omega)) 0 (show [(a, mv_cel G h a)][0]? = some (a, .inr (ci, mv_fs h (mv_tags ci) (100 * ci) a)) by rw [mv_celO hk e2]; rfl) e1 k e4 (hC.1 _ e6 args) (fun x hx => hx) hv hd (kk p e Rm s m args below meth c H locs cells slots ls mc ms hA hH hS hl h1 h2)
theorem v_getR (hF : mv_Fd I.1.cls idx ci k 2 fin) (hd : decode I.2.1 pc = .ok (.getfield idx, 3)) (hk : mh_kd h a = ci + 1) (hn : mh_fR h (100 * ci + k) a ≠ 0) (kk : mv_V G I d (pc + 3) lo (.ref (mh_fR h (100 * ci + k) a) :: st) h kc ks R) : mv_V G I d pc lo (.ref a :: st) h kc ks R := by
  intro p e Rm s m args below meth c H locs cells slots ls mc ms hA hH hS hl h1 h2
  have hC := hA.2.2.2.2.2.2.2.2.1
  have hown := hA.2.2.2.2.2.2.1
  obtain ⟨C, T, N, e1, e2, e3, e4, e5, e6, -⟩ := hF
  have hv : (mv_fs h (mv_tags ci) (100 * ci) a)[k]? = some (.ref (mh_fR h (100 * ci + k) a)) := by rw [mv_fs_get h (100 * ci) a e5]; simp [mv_fv, mv_vr, hn]
  exact va_get (D := mg_D G) (cl := vwCl) (tys := mv_tys G) (ci := ci) (C := C) (T := T) (N := N) (Ts := u_ws C T N) hA.1 hA.2.1 (fun w hw => hC.1 w (e3 w hw) args) (fun w hw => hw) hown hC.2.1 (hH.one (a := a) (by omega)) 0 (show [(a, mv_cel G h a)][0]? = some (a, .inr (ci, mv_fs h (mv_tags ci) (100 * ci) a)) by rw [mv_celO hk e2]; rfl) e1 k e4 (hC.1 _ e6 args) (fun x hx => hx) hv hd (kk p e Rm s m args below meth c H locs cells slots ls mc ms hA hH hS hl h1 h2)
theorem v_putI {x : Int32} (hF : mv_Fd I.1.cls idx ci k 0 false) (hd : decode I.2.1 pc = .ok (.putfield idx, 3)) (hk : mh_kd h a = ci + 1) (kk : mv_V G I d (pc + 3) lo st (mh_sfI h (100 * ci + k) a x) kc ks R) : mv_V G I d pc lo (.int x :: .ref a :: st) h kc ks R := by
  intro p e Rm s m args below meth c H locs cells slots ls mc ms hA hH hS hl h1 h2
  have hC := hA.2.2.2.2.2.2.2.2.1
  have hown := hA.2.2.2.2.2.2.1
  obtain ⟨C, T, N, e1, e2, e3, e4, e5, e6, e7, e8, ⟨ty, e9, e10⟩, ty0, e11, e12⟩ := hF
  obtain ⟨Ls, n, h3, hP, hD, hm, hn9⟩ := hH.place (a := a) (by omega)
  have he : (va_pl Ls (mv_cel G h))[n]? = some (a, .inr (ci, mv_fs h (mv_tags ci) (100 * ci) a)) := by rw [hn9, mv_celO hk e2]
  have hx : mv_cel G (mh_sfI h (100 * ci + k) a x) a = .inr (ci, (mv_fs h (mv_tags ci) (100 * ci) a).set k (.int x)) := by
    rw [mv_celO (h := mh_sfI h (100 * ci + k) a x) hk e2]
    rw [mv_fs_set (h := h) e5 (v := .int x) (by simp [mv_fv, mh_fI_sfI]) (fun j t hj _ => by simp [mv_fv, mh_fI_sfI, mh_fJ_sfI, mh_fR_sfI, show ¬ (j = k) from hj])]
  have ho : ∀ b, b ≠ a → mv_cel G (mh_sfI h (100 * ci + k) a x) b = mv_cel G h b := fun b hb => mv_cel_congr rfl rfl (fun F => by simp [mh_fI_sfI, hb]) (fun F => by simp [mh_fJ_sfI, hb]) (fun F => by simp [mh_fR_sfI, hb]) rfl rfl rfl
  have hl9 : k < (mv_fs h (mv_tags ci) (100 * ci) a).length := by rw [mv_fs_len]; exact (List.getElem?_eq_some_iff.mp e5).1
  have hty : narrow ty (.int x) = .int x ∧ fits ty (.int x) = true := by simp [mv_ty] at e10; subst e10; exact ⟨rfl, rfl⟩
  exact va_put (D := mg_D G) (cl := vwCl) (tys := mv_tys G) (ci := ci) (C := C) (T := T) (N := N) (Ts := u_ws C T N) hA.1 hA.2.1 (fun w hw => hC.1 w (e3 w hw) args) (fun w hw => hw) ty0 e11 e12 hown hC.2.1 hP hD hS n he e1 k e4 (hC.1 _ e6 args) (fun x hx => hx) e7 e9 hty.1 hty.2 hl9 hd (fun H1 locs1 hP1 hD1 hS1 => (kk p e Rm s m args below meth c H1 locs1 cells slots ls mc ms hA (mv_H.up h3 hD hm hn9 hx ho (fun _ => rfl) hP1 hD1) hS1 hl h1 h2))
theorem v_putIF {x : Int32} (hF : mv_Fd I.1.cls idx ci k 0 true) (hd : decode I.2.1 pc = .ok (.putfield idx, 3)) (hc : I.1.name = "<init>") (hc2 : vwCl[ci]?.map (fun q => q.1) = some I.1.cls) (hk : mh_kd h a = ci + 1) (kk : mv_V G I d (pc + 3) lo st (mh_sfI h (100 * ci + k) a x) kc ks R) : mv_V G I d pc lo (.int x :: .ref a :: st) h kc ks R := by
  intro p e Rm s m args below meth c H locs cells slots ls mc ms hA hH hS hl h1 h2
  have hC := hA.2.2.2.2.2.2.2.2.1
  have hown := hA.2.2.2.2.2.2.1
  obtain ⟨C, T, N, e1, e2, e3, e4, e5, e6, e7, e8, ⟨ty, e9, e10⟩, ty0, e11, e12⟩ := hF
  obtain ⟨Ls, n, h3, hP, hD, hm, hn9⟩ := hH.place (a := a) (by omega)
  have he : (va_pl Ls (mv_cel G h))[n]? = some (a, .inr (ci, mv_fs h (mv_tags ci) (100 * ci) a)) := by rw [hn9, mv_celO hk e2]
  have hx : mv_cel G (mh_sfI h (100 * ci + k) a x) a = .inr (ci, (mv_fs h (mv_tags ci) (100 * ci) a).set k (.int x)) := by
    rw [mv_celO (h := mh_sfI h (100 * ci + k) a x) hk e2]
    rw [mv_fs_set (h := h) e5 (v := .int x) (by simp [mv_fv, mh_fI_sfI]) (fun j t hj _ => by simp [mv_fv, mh_fI_sfI, mh_fJ_sfI, mh_fR_sfI, show ¬ (j = k) from hj])]
  have ho : ∀ b, b ≠ a → mv_cel G (mh_sfI h (100 * ci + k) a x) b = mv_cel G h b := fun b hb => mv_cel_congr rfl rfl (fun F => by simp [mh_fI_sfI, hb]) (fun F => by simp [mh_fJ_sfI, hb]) (fun F => by simp [mh_fR_sfI, hb]) rfl rfl rfl
  have hl9 : k < (mv_fs h (mv_tags ci) (100 * ci) a).length := by rw [mv_fs_len]; exact (List.getElem?_eq_some_iff.mp e5).1
  have hty : narrow ty (.int x) = .int x ∧ fits ty (.int x) = true := by simp [mv_ty] at e10; subst e10; exact ⟨rfl, rfl⟩
  have hdecl : (T k).1 = I.1.cls := by rw [e1] at hc2; rw [e8]; exact Option.some.inj hc2
  exact va_putF (D := mg_D G) (cl := vwCl) (tys := mv_tys G) (ci := ci) (C := C) (T := T) (N := N) (Ts := u_ws C T N) hA.1 hA.2.1 (fun w hw => hC.1 w (e3 w hw) args) (fun w hw => hw) ty0 e11 e12 hown hC.2.1 hP hD hS n he e1 k e4 (hC.1 _ e6 args) (fun x hx => hx) e7 (hA.2.2.2.2.2.2.2.1.trans hc) hdecl e9 hty.1 hty.2 hl9 hd (fun H1 locs1 hP1 hD1 hS1 => (kk p e Rm s m args below meth c H1 locs1 cells slots ls mc ms hA (mv_H.up h3 hD hm hn9 hx ho (fun _ => rfl) hP1 hD1) hS1 hl h1 h2))
theorem v_putJ {x : Int64} (hF : mv_Fd I.1.cls idx ci k 1 false) (hd : decode I.2.1 pc = .ok (.putfield idx, 3)) (hk : mh_kd h a = ci + 1) (kk : mv_V G I d (pc + 3) lo st (mh_sfJ h (100 * ci + k) a x) kc ks R) : mv_V G I d pc lo (.long x :: .ref a :: st) h kc ks R := by
  intro p e Rm s m args below meth c H locs cells slots ls mc ms hA hH hS hl h1 h2
  have hC := hA.2.2.2.2.2.2.2.2.1
  have hown := hA.2.2.2.2.2.2.1
  obtain ⟨C, T, N, e1, e2, e3, e4, e5, e6, e7, e8, ⟨ty, e9, e10⟩, ty0, e11, e12⟩ := hF
  obtain ⟨Ls, n, h3, hP, hD, hm, hn9⟩ := hH.place (a := a) (by omega)
  have he : (va_pl Ls (mv_cel G h))[n]? = some (a, .inr (ci, mv_fs h (mv_tags ci) (100 * ci) a)) := by rw [hn9, mv_celO hk e2]
  have hx : mv_cel G (mh_sfJ h (100 * ci + k) a x) a = .inr (ci, (mv_fs h (mv_tags ci) (100 * ci) a).set k (.long x)) := by
    rw [mv_celO (h := mh_sfJ h (100 * ci + k) a x) hk e2]
    rw [mv_fs_set (h := h) e5 (v := .long x) (by simp [mv_fv, mh_fJ_sfJ]) (fun j t hj _ => by simp [mv_fv, mh_fI_sfJ, mh_fJ_sfJ, mh_fR_sfJ, show ¬ (j = k) from hj])]
  have ho : ∀ b, b ≠ a → mv_cel G (mh_sfJ h (100 * ci + k) a x) b = mv_cel G h b := fun b hb => mv_cel_congr rfl rfl (fun F => by simp [mh_fI_sfJ, hb]) (fun F => by simp [mh_fJ_sfJ, hb]) (fun F => by simp [mh_fR_sfJ, hb]) rfl rfl rfl
  have hl9 : k < (mv_fs h (mv_tags ci) (100 * ci) a).length := by rw [mv_fs_len]; exact (List.getElem?_eq_some_iff.mp e5).1
  have hty : narrow ty (.long x) = .long x ∧ fits ty (.long x) = true := by simp [mv_ty] at e10; subst e10; exact ⟨rfl, rfl⟩
  exact va_put (D := mg_D G) (cl := vwCl) (tys := mv_tys G) (ci := ci) (C := C) (T := T) (N := N) (Ts := u_ws C T N) hA.1 hA.2.1 (fun w hw => hC.1 w (e3 w hw) args) (fun w hw => hw) ty0 e11 e12 hown hC.2.1 hP hD hS n he e1 k e4 (hC.1 _ e6 args) (fun x hx => hx) e7 e9 hty.1 hty.2 hl9 hd (fun H1 locs1 hP1 hD1 hS1 => (kk p e Rm s m args below meth c H1 locs1 cells slots ls mc ms hA (mv_H.up h3 hD hm hn9 hx ho (fun _ => rfl) hP1 hD1) hS1 hl h1 h2))
theorem v_putJF {x : Int64} (hF : mv_Fd I.1.cls idx ci k 1 true) (hd : decode I.2.1 pc = .ok (.putfield idx, 3)) (hc : I.1.name = "<init>") (hc2 : vwCl[ci]?.map (fun q => q.1) = some I.1.cls) (hk : mh_kd h a = ci + 1) (kk : mv_V G I d (pc + 3) lo st (mh_sfJ h (100 * ci + k) a x) kc ks R) : mv_V G I d pc lo (.long x :: .ref a :: st) h kc ks R := by
  intro p e Rm s m args below meth c H locs cells slots ls mc ms hA hH hS hl h1 h2
  have hC := hA.2.2.2.2.2.2.2.2.1
  have hown := hA.2.2.2.2.2.2.1
  obtain ⟨C, T, N, e1, e2, e3, e4, e5, e6, e7, e8, ⟨ty, e9, e10⟩, ty0, e11, e12⟩ := hF
  obtain ⟨Ls, n, h3, hP, hD, hm, hn9⟩ := hH.place (a := a) (by omega)
  have he : (va_pl Ls (mv_cel G h))[n]? = some (a, .inr (ci, mv_fs h (mv_tags ci) (100 * ci) a)) := by rw [hn9, mv_celO hk e2]
  have hx : mv_cel G (mh_sfJ h (100 * ci + k) a x) a = .inr (ci, (mv_fs h (mv_tags ci) (100 * ci) a).set k (.long x)) := by
    rw [mv_celO (h := mh_sfJ h (100 * ci + k) a x) hk e2]
    rw [mv_fs_set (h := h) e5 (v := .long x) (by simp [mv_fv, mh_fJ_sfJ]) (fun j t hj _ => by simp [mv_fv, mh_fI_sfJ, mh_fJ_sfJ, mh_fR_sfJ, show ¬ (j = k) from hj])]
  have ho : ∀ b, b ≠ a → mv_cel G (mh_sfJ h (100 * ci + k) a x) b = mv_cel G h b := fun b hb => mv_cel_congr rfl rfl (fun F => by simp [mh_fI_sfJ, hb]) (fun F => by simp [mh_fJ_sfJ, hb]) (fun F => by simp [mh_fR_sfJ, hb]) rfl rfl rfl
  have hl9 : k < (mv_fs h (mv_tags ci) (100 * ci) a).length := by rw [mv_fs_len]; exact (List.getElem?_eq_some_iff.mp e5).1
  have hty : narrow ty (.long x) = .long x ∧ fits ty (.long x) = true := by simp [mv_ty] at e10; subst e10; exact ⟨rfl, rfl⟩
  have hdecl : (T k).1 = I.1.cls := by rw [e1] at hc2; rw [e8]; exact Option.some.inj hc2
  exact va_putF (D := mg_D G) (cl := vwCl) (tys := mv_tys G) (ci := ci) (C := C) (T := T) (N := N) (Ts := u_ws C T N) hA.1 hA.2.1 (fun w hw => hC.1 w (e3 w hw) args) (fun w hw => hw) ty0 e11 e12 hown hC.2.1 hP hD hS n he e1 k e4 (hC.1 _ e6 args) (fun x hx => hx) e7 (hA.2.2.2.2.2.2.2.1.trans hc) hdecl e9 hty.1 hty.2 hl9 hd (fun H1 locs1 hP1 hD1 hS1 => (kk p e Rm s m args below meth c H1 locs1 cells slots ls mc ms hA (mv_H.up h3 hD hm hn9 hx ho (fun _ => rfl) hP1 hD1) hS1 hl h1 h2))
theorem v_putR {x : Nat} (hF : mv_Fd I.1.cls idx ci k 2 false) (hd : decode I.2.1 pc = .ok (.putfield idx, 3)) (hk : mh_kd h a = ci + 1) (hn : x ≠ 0) (kk : mv_V G I d (pc + 3) lo st (mh_sfR h (100 * ci + k) a x) kc ks R) : mv_V G I d pc lo (.ref x :: .ref a :: st) h kc ks R := by
  intro p e Rm s m args below meth c H locs cells slots ls mc ms hA hH hS hl h1 h2
  have hC := hA.2.2.2.2.2.2.2.2.1
  have hown := hA.2.2.2.2.2.2.1
  obtain ⟨C, T, N, e1, e2, e3, e4, e5, e6, e7, e8, ⟨ty, e9, e10⟩, ty0, e11, e12⟩ := hF
  obtain ⟨Ls, n, h3, hP, hD, hm, hn9⟩ := hH.place (a := a) (by omega)
  have he : (va_pl Ls (mv_cel G h))[n]? = some (a, .inr (ci, mv_fs h (mv_tags ci) (100 * ci) a)) := by rw [hn9, mv_celO hk e2]
  have hx : mv_cel G (mh_sfR h (100 * ci + k) a x) a = .inr (ci, (mv_fs h (mv_tags ci) (100 * ci) a).set k (.ref x)) := by
    rw [mv_celO (h := mh_sfR h (100 * ci + k) a x) hk e2]
    rw [mv_fs_set (h := h) e5 (v := .ref x) (by simp [mv_fv, mh_fR_sfR, mv_vr, hn]) (fun j t hj _ => by simp [mv_fv, mh_fI_sfR, mh_fJ_sfR, mh_fR_sfR, show ¬ (j = k) from hj])]
  have ho : ∀ b, b ≠ a → mv_cel G (mh_sfR h (100 * ci + k) a x) b = mv_cel G h b := fun b hb => mv_cel_congr rfl rfl (fun F => by simp [mh_fI_sfR, hb]) (fun F => by simp [mh_fJ_sfR, hb]) (fun F => by simp [mh_fR_sfR, hb]) rfl rfl rfl
  have hl9 : k < (mv_fs h (mv_tags ci) (100 * ci) a).length := by rw [mv_fs_len]; exact (List.getElem?_eq_some_iff.mp e5).1
  have hty : narrow ty (.ref x) = .ref x ∧ fits ty (.ref x) = true := by simp [mv_ty] at e10; exact e10 x
  exact va_put (D := mg_D G) (cl := vwCl) (tys := mv_tys G) (ci := ci) (C := C) (T := T) (N := N) (Ts := u_ws C T N) hA.1 hA.2.1 (fun w hw => hC.1 w (e3 w hw) args) (fun w hw => hw) ty0 e11 e12 hown hC.2.1 hP hD hS n he e1 k e4 (hC.1 _ e6 args) (fun x hx => hx) e7 e9 hty.1 hty.2 hl9 hd (fun H1 locs1 hP1 hD1 hS1 => (kk p e Rm s m args below meth c H1 locs1 cells slots ls mc ms hA (mv_H.up h3 hD hm hn9 hx ho (fun _ => rfl) hP1 hD1) hS1 hl h1 h2))
theorem v_putRF {x : Nat} (hF : mv_Fd I.1.cls idx ci k 2 true) (hd : decode I.2.1 pc = .ok (.putfield idx, 3)) (hc : I.1.name = "<init>") (hc2 : vwCl[ci]?.map (fun q => q.1) = some I.1.cls) (hk : mh_kd h a = ci + 1) (hn : x ≠ 0) (kk : mv_V G I d (pc + 3) lo st (mh_sfR h (100 * ci + k) a x) kc ks R) : mv_V G I d pc lo (.ref x :: .ref a :: st) h kc ks R := by
  intro p e Rm s m args below meth c H locs cells slots ls mc ms hA hH hS hl h1 h2
  have hC := hA.2.2.2.2.2.2.2.2.1
  have hown := hA.2.2.2.2.2.2.1
  obtain ⟨C, T, N, e1, e2, e3, e4, e5, e6, e7, e8, ⟨ty, e9, e10⟩, ty0, e11, e12⟩ := hF
  obtain ⟨Ls, n, h3, hP, hD, hm, hn9⟩ := hH.place (a := a) (by omega)
  have he : (va_pl Ls (mv_cel G h))[n]? = some (a, .inr (ci, mv_fs h (mv_tags ci) (100 * ci) a)) := by rw [hn9, mv_celO hk e2]
  have hx : mv_cel G (mh_sfR h (100 * ci + k) a x) a = .inr (ci, (mv_fs h (mv_tags ci) (100 * ci) a).set k (.ref x)) := by
    rw [mv_celO (h := mh_sfR h (100 * ci + k) a x) hk e2]
    rw [mv_fs_set (h := h) e5 (v := .ref x) (by simp [mv_fv, mh_fR_sfR, mv_vr, hn]) (fun j t hj _ => by simp [mv_fv, mh_fI_sfR, mh_fJ_sfR, mh_fR_sfR, show ¬ (j = k) from hj])]
  have ho : ∀ b, b ≠ a → mv_cel G (mh_sfR h (100 * ci + k) a x) b = mv_cel G h b := fun b hb => mv_cel_congr rfl rfl (fun F => by simp [mh_fI_sfR, hb]) (fun F => by simp [mh_fJ_sfR, hb]) (fun F => by simp [mh_fR_sfR, hb]) rfl rfl rfl
  have hl9 : k < (mv_fs h (mv_tags ci) (100 * ci) a).length := by rw [mv_fs_len]; exact (List.getElem?_eq_some_iff.mp e5).1
  have hty : narrow ty (.ref x) = .ref x ∧ fits ty (.ref x) = true := by simp [mv_ty] at e10; exact e10 x
  have hdecl : (T k).1 = I.1.cls := by rw [e1] at hc2; rw [e8]; exact Option.some.inj hc2
  exact va_putF (D := mg_D G) (cl := vwCl) (tys := mv_tys G) (ci := ci) (C := C) (T := T) (N := N) (Ts := u_ws C T N) hA.1 hA.2.1 (fun w hw => hC.1 w (e3 w hw) args) (fun w hw => hw) ty0 e11 e12 hown hC.2.1 hP hD hS n he e1 k e4 (hC.1 _ e6 args) (fun x hx => hx) e7 (hA.2.2.2.2.2.2.2.1.trans hc) hdecl e9 hty.1 hty.2 hl9 hd (fun H1 locs1 hP1 hD1 hS1 => (kk p e Rm s m args below meth c H1 locs1 cells slots ls mc ms hA (mv_H.up h3 hD hm hn9 hx ho (fun _ => rfl) hP1 hD1) hS1 hl h1 h2))
theorem v_iald {j : Int32} (hd : decode I.2.1 pc = .ok (.iaload, 1)) (hk : mh_kd h a = 50) (hin : vp_in j (mh_ln h a)) (kk : mv_V G I d (pc + 1) lo (.int (mh_aI h a j.toNatClampNeg) :: st) h kc ks R) : mv_V G I d pc lo (.int j :: .ref a :: st) h kc ks R := by
  intro p e Rm s m args below meth c H locs cells slots ls mc ms hA hH hS hl h1 h2
  have hC := hA.2.2.2.2.2.2.2.2.1
  have hown := hA.2.2.2.2.2.2.1
  exact va_iald (D := mg_D G) (cl := vwCl) (tys := mv_tys G) hA.1 hA.2.1 hC.2.1 (hH.one (a := a) (by omega)) 0 0 (show [(a, mv_cel G h a)][0]? = some (a, .inl (mg_A G 0, mh_ln h a, .inl (mh_aI h a))) by rw [mv_cel50 hk]; rfl) rfl hin hd (kk p e Rm s m args below meth c H locs cells slots ls mc ms hA hH hS hl h1 h2)
theorem v_lald {j : Int32} (hd : decode I.2.1 pc = .ok (.laload, 1)) (hk : mh_kd h a = 51) (hin : vp_in j (mh_ln h a)) (kk : mv_V G I d (pc + 1) lo (.long (mh_aJ h a j.toNatClampNeg) :: st) h kc ks R) : mv_V G I d pc lo (.int j :: .ref a :: st) h kc ks R := by
  intro p e Rm s m args below meth c H locs cells slots ls mc ms hA hH hS hl h1 h2
  have hC := hA.2.2.2.2.2.2.2.2.1
  have hown := hA.2.2.2.2.2.2.1
  exact va_lald (D := mg_D G) (cl := vwCl) (tys := mv_tys G) hA.1 hA.2.1 hC.2.1 (hH.one (a := a) (by omega)) 0 1 (show [(a, mv_cel G h a)][0]? = some (a, .inl (mg_A G 1, mh_ln h a, .inr (.inl (mh_aJ h a)))) by rw [mv_cel51 hk]; rfl) rfl hin hd (kk p e Rm s m args below meth c H locs cells slots ls mc ms hA hH hS hl h1 h2)
theorem v_zald {j : Int32} (hd : decode I.2.1 pc = .ok (.baload, 1)) (hk : mh_kd h a = 52) (hin : vp_in j (mh_ln h a)) (kk : mv_V G I d (pc + 1) lo (.int (mh_aI h a j.toNatClampNeg) :: st) h kc ks R) : mv_V G I d pc lo (.int j :: .ref a :: st) h kc ks R := by
  intro p e Rm s m args below meth c H locs cells slots ls mc ms hA hH hS hl h1 h2
  have hC := hA.2.2.2.2.2.2.2.2.1
  have hown := hA.2.2.2.2.2.2.1
  exact va_zald (D := mg_D G) (cl := vwCl) (tys := mv_tys G) hA.1 hA.2.1 hC.2.1 (hH.one (a := a) (by omega)) 0 2 (show [(a, mv_cel G h a)][0]? = some (a, .inl (mg_A G 2, mh_ln h a, .inl (mh_aI h a))) by rw [mv_cel52 hk]; rfl) rfl hin hd (kk p e Rm s m args below meth c H locs cells slots ls mc ms hA hH hS hl h1 h2)
theorem v_bald {j : Int32} (hd : decode I.2.1 pc = .ok (.baload, 1)) (hk : mh_kd h a = 53) (hin : vp_in j (mh_ln h a)) (kk : mv_V G I d (pc + 1) lo (.int (mh_aI h a j.toNatClampNeg) :: st) h kc ks R) : mv_V G I d pc lo (.int j :: .ref a :: st) h kc ks R := by
  intro p e Rm s m args below meth c H locs cells slots ls mc ms hA hH hS hl h1 h2
  have hC := hA.2.2.2.2.2.2.2.2.1
  have hown := hA.2.2.2.2.2.2.1
  exact va_bald (D := mg_D G) (cl := vwCl) (tys := mv_tys G) hA.1 hA.2.1 hC.2.1 (hH.one (a := a) (by omega)) 0 3 (show [(a, mv_cel G h a)][0]? = some (a, .inl (mg_A G 3, mh_ln h a, .inl (mh_aI h a))) by rw [mv_cel53 hk]; rfl) rfl hin hd (kk p e Rm s m args below meth c H locs cells slots ls mc ms hA hH hS hl h1 h2)
theorem v_aald54 {j : Int32} (hd : decode I.2.1 pc = .ok (.aaload, 1)) (hk : mh_kd h a = 54) (hin : vp_in j (mh_ln h a)) (hn : mh_aR h a j.toNatClampNeg ≠ 0) (kk : mv_V G I d (pc + 1) lo (.ref (mh_aR h a j.toNatClampNeg) :: st) h kc ks R) : mv_V G I d pc lo (.int j :: .ref a :: st) h kc ks R := by
  intro p e Rm s m args below meth c H locs cells slots ls mc ms hA hH hS hl h1 h2
  have hC := hA.2.2.2.2.2.2.2.2.1
  have hown := hA.2.2.2.2.2.2.1
  refine va_aldq (D := mg_D G) (cl := vwCl) (tys := mv_tys G) hA.1 hA.2.1 hC.2.1 (hH.one (a := a) (by omega)) 0 4 (show [(a, mv_cel G h a)][0]? = some (a, .inl (mg_A G 4, mh_ln h a, .inr (.inr (.inr (.inr (fun j => mv_or (mh_aR h a j))))))) by rw [mv_cel54 hk]; rfl) rfl hin hd ?_
  rw [mv_rf_or, mv_vr, if_neg hn]
  exact (kk p e Rm s m args below meth c H locs cells slots ls mc ms hA hH hS hl h1 h2)
theorem v_aald55 {j : Int32} (hd : decode I.2.1 pc = .ok (.aaload, 1)) (hk : mh_kd h a = 55) (hin : vp_in j (mh_ln h a)) (hn : mh_aR h a j.toNatClampNeg ≠ 0) (kk : mv_V G I d (pc + 1) lo (.ref (mh_aR h a j.toNatClampNeg) :: st) h kc ks R) : mv_V G I d pc lo (.int j :: .ref a :: st) h kc ks R := by
  intro p e Rm s m args below meth c H locs cells slots ls mc ms hA hH hS hl h1 h2
  have hC := hA.2.2.2.2.2.2.2.2.1
  have hown := hA.2.2.2.2.2.2.1
  refine va_aldq (D := mg_D G) (cl := vwCl) (tys := mv_tys G) hA.1 hA.2.1 hC.2.1 (hH.one (a := a) (by omega)) 0 5 (show [(a, mv_cel G h a)][0]? = some (a, .inl (mg_A G 5, mh_ln h a, .inr (.inr (.inr (.inr (fun j => mv_or (mh_aR h a j))))))) by rw [mv_cel55 hk]; rfl) rfl hin hd ?_
  rw [mv_rf_or, mv_vr, if_neg hn]
  exact (kk p e Rm s m args below meth c H locs cells slots ls mc ms hA hH hS hl h1 h2)
theorem v_iast {j : Int32} {x : Int32} (hd : decode I.2.1 pc = .ok (.iastore, 1)) (hk : mh_kd h a = 50) (hin : vp_in j (mh_ln h a)) (kk : mv_V G I d (pc + 1) lo st (mh_saI h a j.toNatClampNeg x) kc ks R) : mv_V G I d pc lo (.int x :: .int j :: .ref a :: st) h kc ks R := by
  intro p e Rm s m args below meth c H locs cells slots ls mc ms hA hH hS hl h1 h2
  have hC := hA.2.2.2.2.2.2.2.2.1
  have hown := hA.2.2.2.2.2.2.1
  obtain ⟨Ls, n, h3, hP, hD, hm, hn9⟩ := hH.place (a := a) (by omega)
  have he : (va_pl Ls (mv_cel G h))[n]? = some (a, .inl (mg_A G 0, mh_ln h a, .inl (mh_aI h a))) := by rw [hn9, mv_cel50 hk]
  have hx : mv_cel G (mh_saI h a j.toNatClampNeg x) a = .inl (mg_A G 0, mh_ln h a, .inl (upd (mh_aI h a) j.toNatClampNeg x)) := by
    rw [mv_cel50 (h := mh_saI h a j.toNatClampNeg x) hk, mh_ln_saI]
    have e0 : mh_aI (mh_saI h a j.toNatClampNeg x) a = upd (mh_aI h a) j.toNatClampNeg x := by funext y; simp [mh_aI_saI, upd]
    rw [e0]
  have ho : ∀ b, b ≠ a → mv_cel G (mh_saI h a j.toNatClampNeg x) b = mv_cel G h b := fun b hb => mv_cel_congr rfl rfl (fun F => rfl) (fun F => rfl) (fun F => rfl) (by funext y; simp [mh_aI_saI, hb]) (by funext y; simp [mh_aJ_saI, hb]) (by funext y; simp [mh_aR_saI, hb])
  exact va_iast (D := mg_D G) (cl := vwCl) (tys := mv_tys G) hA.1 hA.2.1 hC.2.1 hP hD hS n 0 he rfl hin hd (fun H1 locs1 hP1 hD1 hS1 => (kk p e Rm s m args below meth c H1 locs1 cells slots ls mc ms hA (mv_H.up h3 hD hm hn9 hx ho (fun _ => rfl) hP1 hD1) hS1 hl h1 h2))
theorem v_last {j : Int32} {x : Int64} (hd : decode I.2.1 pc = .ok (.lastore, 1)) (hk : mh_kd h a = 51) (hin : vp_in j (mh_ln h a)) (kk : mv_V G I d (pc + 1) lo st (mh_saJ h a j.toNatClampNeg x) kc ks R) : mv_V G I d pc lo (.long x :: .int j :: .ref a :: st) h kc ks R := by
  intro p e Rm s m args below meth c H locs cells slots ls mc ms hA hH hS hl h1 h2
  have hC := hA.2.2.2.2.2.2.2.2.1
  have hown := hA.2.2.2.2.2.2.1
  obtain ⟨Ls, n, h3, hP, hD, hm, hn9⟩ := hH.place (a := a) (by omega)
  have he : (va_pl Ls (mv_cel G h))[n]? = some (a, .inl (mg_A G 1, mh_ln h a, .inr (.inl (mh_aJ h a)))) := by rw [hn9, mv_cel51 hk]
  have hx : mv_cel G (mh_saJ h a j.toNatClampNeg x) a = .inl (mg_A G 1, mh_ln h a, .inr (.inl (vp_updL (mh_aJ h a) j.toNatClampNeg x))) := by
    rw [mv_cel51 (h := mh_saJ h a j.toNatClampNeg x) hk, mh_ln_saJ]
    have e0 : mh_aJ (mh_saJ h a j.toNatClampNeg x) a = vp_updL (mh_aJ h a) j.toNatClampNeg x := by funext y; simp [mh_aJ_saJ, vp_updL]
    rw [e0]
  have ho : ∀ b, b ≠ a → mv_cel G (mh_saJ h a j.toNatClampNeg x) b = mv_cel G h b := fun b hb => mv_cel_congr rfl rfl (fun F => rfl) (fun F => rfl) (fun F => rfl) (by funext y; simp [mh_aI_saJ, hb]) (by funext y; simp [mh_aJ_saJ, hb]) (by funext y; simp [mh_aR_saJ, hb])
  exact va_last (D := mg_D G) (cl := vwCl) (tys := mv_tys G) hA.1 hA.2.1 hC.2.1 hP hD hS n 1 he rfl hin hd (fun H1 locs1 hP1 hD1 hS1 => (kk p e Rm s m args below meth c H1 locs1 cells slots ls mc ms hA (mv_H.up h3 hD hm hn9 hx ho (fun _ => rfl) hP1 hD1) hS1 hl h1 h2))
theorem v_zast {j : Int32} {x : Int32} (hd : decode I.2.1 pc = .ok (.bastore, 1)) (hk : mh_kd h a = 52) (hin : vp_in j (mh_ln h a)) (kk : mv_V G I d (pc + 1) lo st (mh_saI h a j.toNatClampNeg (vp_nar .boolean x)) kc ks R) : mv_V G I d pc lo (.int x :: .int j :: .ref a :: st) h kc ks R := by
  intro p e Rm s m args below meth c H locs cells slots ls mc ms hA hH hS hl h1 h2
  have hC := hA.2.2.2.2.2.2.2.2.1
  have hown := hA.2.2.2.2.2.2.1
  obtain ⟨Ls, n, h3, hP, hD, hm, hn9⟩ := hH.place (a := a) (by omega)
  have he : (va_pl Ls (mv_cel G h))[n]? = some (a, .inl (mg_A G 2, mh_ln h a, .inl (mh_aI h a))) := by rw [hn9, mv_cel52 hk]
  have hx : mv_cel G (mh_saI h a j.toNatClampNeg (vp_nar .boolean x)) a = .inl (mg_A G 2, mh_ln h a, .inl (upd (mh_aI h a) j.toNatClampNeg (vp_nar .boolean x))) := by
    rw [mv_cel52 (h := mh_saI h a j.toNatClampNeg (vp_nar .boolean x)) hk, mh_ln_saI]
    have e0 : mh_aI (mh_saI h a j.toNatClampNeg (vp_nar .boolean x)) a = upd (mh_aI h a) j.toNatClampNeg (vp_nar .boolean x) := by funext y; simp [mh_aI_saI, upd]
    rw [e0]
  have ho : ∀ b, b ≠ a → mv_cel G (mh_saI h a j.toNatClampNeg (vp_nar .boolean x)) b = mv_cel G h b := fun b hb => mv_cel_congr rfl rfl (fun F => rfl) (fun F => rfl) (fun F => rfl) (by funext y; simp [mh_aI_saI, hb]) (by funext y; simp [mh_aJ_saI, hb]) (by funext y; simp [mh_aR_saI, hb])
  exact va_zast (D := mg_D G) (cl := vwCl) (tys := mv_tys G) hA.1 hA.2.1 hC.2.1 hP hD hS n 2 he rfl hin hd (fun H1 locs1 hP1 hD1 hS1 => (kk p e Rm s m args below meth c H1 locs1 cells slots ls mc ms hA (mv_H.up h3 hD hm hn9 hx ho (fun _ => rfl) hP1 hD1) hS1 hl h1 h2))
theorem v_bast {j : Int32} {x : Int32} (hd : decode I.2.1 pc = .ok (.bastore, 1)) (hk : mh_kd h a = 53) (hin : vp_in j (mh_ln h a)) (kk : mv_V G I d (pc + 1) lo st (mh_saI h a j.toNatClampNeg (vp_nar .byte x)) kc ks R) : mv_V G I d pc lo (.int x :: .int j :: .ref a :: st) h kc ks R := by
  intro p e Rm s m args below meth c H locs cells slots ls mc ms hA hH hS hl h1 h2
  have hC := hA.2.2.2.2.2.2.2.2.1
  have hown := hA.2.2.2.2.2.2.1
  obtain ⟨Ls, n, h3, hP, hD, hm, hn9⟩ := hH.place (a := a) (by omega)
  have he : (va_pl Ls (mv_cel G h))[n]? = some (a, .inl (mg_A G 3, mh_ln h a, .inl (mh_aI h a))) := by rw [hn9, mv_cel53 hk]
  have hx : mv_cel G (mh_saI h a j.toNatClampNeg (vp_nar .byte x)) a = .inl (mg_A G 3, mh_ln h a, .inl (upd (mh_aI h a) j.toNatClampNeg (vp_nar .byte x))) := by
    rw [mv_cel53 (h := mh_saI h a j.toNatClampNeg (vp_nar .byte x)) hk, mh_ln_saI]
    have e0 : mh_aI (mh_saI h a j.toNatClampNeg (vp_nar .byte x)) a = upd (mh_aI h a) j.toNatClampNeg (vp_nar .byte x) := by funext y; simp [mh_aI_saI, upd]
    rw [e0]
  have ho : ∀ b, b ≠ a → mv_cel G (mh_saI h a j.toNatClampNeg (vp_nar .byte x)) b = mv_cel G h b := fun b hb => mv_cel_congr rfl rfl (fun F => rfl) (fun F => rfl) (fun F => rfl) (by funext y; simp [mh_aI_saI, hb]) (by funext y; simp [mh_aJ_saI, hb]) (by funext y; simp [mh_aR_saI, hb])
  exact va_bast (D := mg_D G) (cl := vwCl) (tys := mv_tys G) hA.1 hA.2.1 hC.2.1 hP hD hS n 3 he rfl hin hd (fun H1 locs1 hP1 hD1 hS1 => (kk p e Rm s m args below meth c H1 locs1 cells slots ls mc ms hA (mv_H.up h3 hD hm hn9 hx ho (fun _ => rfl) hP1 hD1) hS1 hl h1 h2))
theorem v_aast54 {j : Int32} {x : Nat} (hd : decode I.2.1 pc = .ok (.aastore, 1)) (hk : mh_kd h a = 54) (hin : vp_in j (mh_ln h a)) (hv : mh_kd h x = ci + 1) (hcl : ci < 40) (hcn : vwCl[ci]?.map (fun q => q.1) = some "LazyPages$PageTable") (hx0 : x ≠ 0) (kk : mv_V G I d (pc + 1) lo st (mh_saR h a j.toNatClampNeg x) kc ks R) : mv_V G I d pc lo (.ref x :: .int j :: .ref a :: st) h kc ks R := by
  intro p e Rm s m args below meth c H locs cells slots ls mc ms hA hH hS hl h1 h2
  have hC := hA.2.2.2.2.2.2.2.2.1
  have hown := hA.2.2.2.2.2.2.1
  obtain ⟨Ls, n, h3, hP, hD, hm, hn9⟩ := hH.place (a := a) (by omega)
  obtain ⟨nx, hnx⟩ := va_pl_get (X := []) (f := mv_cel G h) ((h3 x).mpr (by omega))
  have hnx' : (va_pl Ls (mv_cel G h))[nx]? = some (x, .inr (ci, mv_fs h (mv_tags ci) (100 * ci) x)) := by rw [← mv_celO (G := G) hv hcl]; exact hnx
  have he : (va_pl Ls (mv_cel G h))[n]? = some (a, .inl (mg_A G 4, mh_ln h a, .inr (.inr (.inr (.inr (fun j => mv_or (mh_aR h a j))))))) := by rw [hn9, mv_cel54 hk]
  have hx : mv_cel G (mh_saR h a j.toNatClampNeg x) a = .inl (mg_A G 4, mh_ln h a, .inr (.inr (.inr (.inr (va_up (fun j => mv_or (mh_aR h a j)) j.toNatClampNeg (some x)))))) := by
    rw [mv_cel54 (h := mh_saR h a j.toNatClampNeg x) hk, mh_ln_saR]
    have e0 : (fun j9 => mv_or (mh_aR (mh_saR h a j.toNatClampNeg x) a j9)) = va_up (fun j => mv_or (mh_aR h a j)) j.toNatClampNeg (some x) := by
      funext y
      by_cases hy : y = j.toNatClampNeg
      · subst hy; simp [mh_aR_saR, va_up, mv_or, hx0]
      · simp [mh_aR_saR, va_up, hy]
    rw [e0]
  have ho : ∀ b, b ≠ a → mv_cel G (mh_saR h a j.toNatClampNeg x) b = mv_cel G h b := fun b hb => mv_cel_congr rfl rfl (fun F => rfl) (fun F => rfl) (fun F => rfl) (by funext y; simp [mh_aI_saR, hb]) (by funext y; simp [mh_aJ_saR, hb]) (by funext y; simp [mh_aR_saR, hb])
  obtain ⟨r, hr, hr2⟩ : ∃ r, vwCl[ci]? = some r ∧ r.1 = "LazyPages$PageTable" := by
    cases hz : vwCl[ci]? with
    | none => rw [hz] at hcn; cases hcn
    | some r => rw [hz] at hcn; exact ⟨r, rfl, Option.some.inj hcn⟩
  exact va_astq (D := mg_D G) (cl := vwCl) (tys := mv_tys G) hA.1 hA.2.1 hC.2.1 hP hD hS n 4 nx ci (r := r) he (by rw [hr2]; rfl) hnx' hr hin hd (fun H1 locs1 hP1 hD1 hS1 => (kk p e Rm s m args below meth c H1 locs1 cells slots ls mc ms hA (mv_H.up h3 hD hm hn9 hx ho (fun _ => rfl) hP1 hD1) hS1 hl h1 h2))
theorem v_aast55 {j : Int32} {x : Nat} (hd : decode I.2.1 pc = .ok (.aastore, 1)) (hk : mh_kd h a = 55) (hin : vp_in j (mh_ln h a)) (hv : mh_kd h x = ci + 1) (hcl : ci < 40) (hcn : vwCl[ci]?.map (fun q => q.1) = some "LazyPages$Page") (hx0 : x ≠ 0) (kk : mv_V G I d (pc + 1) lo st (mh_saR h a j.toNatClampNeg x) kc ks R) : mv_V G I d pc lo (.ref x :: .int j :: .ref a :: st) h kc ks R := by
  intro p e Rm s m args below meth c H locs cells slots ls mc ms hA hH hS hl h1 h2
  have hC := hA.2.2.2.2.2.2.2.2.1
  have hown := hA.2.2.2.2.2.2.1
  obtain ⟨Ls, n, h3, hP, hD, hm, hn9⟩ := hH.place (a := a) (by omega)
  obtain ⟨nx, hnx⟩ := va_pl_get (X := []) (f := mv_cel G h) ((h3 x).mpr (by omega))
  have hnx' : (va_pl Ls (mv_cel G h))[nx]? = some (x, .inr (ci, mv_fs h (mv_tags ci) (100 * ci) x)) := by rw [← mv_celO (G := G) hv hcl]; exact hnx
  have he : (va_pl Ls (mv_cel G h))[n]? = some (a, .inl (mg_A G 5, mh_ln h a, .inr (.inr (.inr (.inr (fun j => mv_or (mh_aR h a j))))))) := by rw [hn9, mv_cel55 hk]
  have hx : mv_cel G (mh_saR h a j.toNatClampNeg x) a = .inl (mg_A G 5, mh_ln h a, .inr (.inr (.inr (.inr (va_up (fun j => mv_or (mh_aR h a j)) j.toNatClampNeg (some x)))))) := by
    rw [mv_cel55 (h := mh_saR h a j.toNatClampNeg x) hk, mh_ln_saR]
    have e0 : (fun j9 => mv_or (mh_aR (mh_saR h a j.toNatClampNeg x) a j9)) = va_up (fun j => mv_or (mh_aR h a j)) j.toNatClampNeg (some x) := by
      funext y
      by_cases hy : y = j.toNatClampNeg
      · subst hy; simp [mh_aR_saR, va_up, mv_or, hx0]
      · simp [mh_aR_saR, va_up, hy]
    rw [e0]
  have ho : ∀ b, b ≠ a → mv_cel G (mh_saR h a j.toNatClampNeg x) b = mv_cel G h b := fun b hb => mv_cel_congr rfl rfl (fun F => rfl) (fun F => rfl) (fun F => rfl) (by funext y; simp [mh_aI_saR, hb]) (by funext y; simp [mh_aJ_saR, hb]) (by funext y; simp [mh_aR_saR, hb])
  obtain ⟨r, hr, hr2⟩ : ∃ r, vwCl[ci]? = some r ∧ r.1 = "LazyPages$Page" := by
    cases hz : vwCl[ci]? with
    | none => rw [hz] at hcn; cases hcn
    | some r => rw [hz] at hcn; exact ⟨r, rfl, Option.some.inj hcn⟩
  exact va_astq (D := mg_D G) (cl := vwCl) (tys := mv_tys G) hA.1 hA.2.1 hC.2.1 hP hD hS n 5 nx ci (r := r) he (by rw [hr2]; rfl) hnx' hr hin hd (fun H1 locs1 hP1 hD1 hS1 => (kk p e Rm s m args below meth c H1 locs1 cells slots ls mc ms hA (mv_H.up h3 hD hm hn9 hx ho (fun _ => rfl) hP1 hD1) hS1 hl h1 h2))
theorem v_cpI {a0 : Nat} {sp dp n : Int32} (hd : decode I.2.1 pc = .ok (.invokestatic idx, 3)) (hw : mv_Wd (.methodLink I.1.cls idx arraycopyName) ∧ mv_Wd (.native arraycopyName) ∧ mv_Wd (.static arraycopyName) ∧ mv_Wd (.initialized "java/lang/System")) (hk0 : mh_kd h a0 = 50) (hk : mh_kd h a = 50) (q1 : ¬ sp < 0) (q2 : ¬ dp < 0) (q3 : ¬ n < 0) (q4 : sp.toNatClampNeg + n.toNatClampNeg ≤ mh_ln h a0) (q5 : dp.toNatClampNeg + n.toNatClampNeg ≤ mh_ln h a) (hst : (st.map fun v => v.category).sum ≤ 8) (hdd : 3 ≤ d) (kk : mv_V G I d (pc + 3) lo st (mh_caI h a0 sp.toNatClampNeg a dp.toNatClampNeg n.toNatClampNeg) kc ks R) : mv_V G I d pc lo (.int n :: .int dp :: .ref a :: .int sp :: .ref a0 :: st) h kc ks R := by
  intro p e Rm s m args below meth c H locs cells slots ls mc ms hA hH hS hl h1 h2
  have hC := hA.2.2.2.2.2.2.2.2.1
  have hown := hA.2.2.2.2.2.2.1
  obtain ⟨Ls, n9, h3, hP, hD, hm, hn9⟩ := hH.place (a := a) (by omega)
  obtain ⟨n0, hn0⟩ := va_pl_get (X := []) (f := mv_cel G h) ((h3 a0).mpr (by omega))
  have hn0' : (va_pl Ls (mv_cel G h))[n0]? = some (a0, .inl (mg_A G 0, mh_ln h a0, .inl (mh_aI h a0))) := by rw [← mv_cel50 (G := G) hk0]; exact hn0
  have he : (va_pl Ls (mv_cel G h))[n9]? = some (a, .inl (mg_A G 0, mh_ln h a, .inl (mh_aI h a))) := by rw [hn9, mv_cel50 hk]
  have hx : mv_cel G (mh_caI h a0 sp.toNatClampNeg a dp.toNatClampNeg n.toNatClampNeg) a = .inl (mg_A G 0, mh_ln h a, .inl (va_cpy (mh_aI h a0) (mh_aI h a) sp.toNatClampNeg dp.toNatClampNeg n.toNatClampNeg)) := by
    rw [mv_cel50 (h := mh_caI h a0 sp.toNatClampNeg a dp.toNatClampNeg n.toNatClampNeg) hk, mh_ln_caI]
    have e0 : mh_aI (mh_caI h a0 sp.toNatClampNeg a dp.toNatClampNeg n.toNatClampNeg) a = va_cpy (mh_aI h a0) (mh_aI h a) sp.toNatClampNeg dp.toNatClampNeg n.toNatClampNeg := by funext y; simp [mh_aI_caI, va_cpy]
    rw [e0]
  have ho : ∀ b, b ≠ a → mv_cel G (mh_caI h a0 sp.toNatClampNeg a dp.toNatClampNeg n.toNatClampNeg) b = mv_cel G h b := fun b hb => mv_cel_congr rfl rfl (fun F => rfl) (fun F => rfl) (fun F => rfl) (by funext y; simp [mh_aI_caI, hb]) (by funext y; simp [mh_aJ_caI, hb]) (by funext y; simp [mh_aR_caI, hb])
  have hrm := hA.2.2.2.2.2.2.2.2.2
  have e9 : nativeFrameWords "java/lang/System" "arraycopy" 5 ≤ 60 := by decide
  exact va_copyi (D := mg_D G) (cl := vwCl) (tys := mv_tys G) hA.1 hA.2.1 (hA.2.2.2.2.2.1.trans hl.1.symm) hown (hC.1 _ hw.1 args) (hC.1 _ hw.2.1 args) (hC.1 _ hw.2.2.1 args) (hC.1 _ hw.2.2.2 args) hC.2.1 hP hD hS n0 n9 0 0 hn0' he rfl rfl rfl q1 q2 q3 q4 q5 (fun i _ => rfl) (by omega) (by omega) hd (fun H1 locs1 hP1 hD1 hS1 => (kk p e Rm s m args below meth c H1 locs1 cells slots ls mc ms hA (mv_H.up h3 hD hm hn9 hx ho (fun _ => rfl) hP1 hD1) hS1 hl h1 h2))
theorem v_cpJ {a0 : Nat} {sp dp n : Int32} (hd : decode I.2.1 pc = .ok (.invokestatic idx, 3)) (hw : mv_Wd (.methodLink I.1.cls idx arraycopyName) ∧ mv_Wd (.native arraycopyName) ∧ mv_Wd (.static arraycopyName) ∧ mv_Wd (.initialized "java/lang/System")) (hk0 : mh_kd h a0 = 51) (hk : mh_kd h a = 51) (q1 : ¬ sp < 0) (q2 : ¬ dp < 0) (q3 : ¬ n < 0) (q4 : sp.toNatClampNeg + n.toNatClampNeg ≤ mh_ln h a0) (q5 : dp.toNatClampNeg + n.toNatClampNeg ≤ mh_ln h a) (hst : (st.map fun v => v.category).sum ≤ 8) (hdd : 3 ≤ d) (kk : mv_V G I d (pc + 3) lo st (mh_caJ h a0 sp.toNatClampNeg a dp.toNatClampNeg n.toNatClampNeg) kc ks R) : mv_V G I d pc lo (.int n :: .int dp :: .ref a :: .int sp :: .ref a0 :: st) h kc ks R := by
  intro p e Rm s m args below meth c H locs cells slots ls mc ms hA hH hS hl h1 h2
  have hC := hA.2.2.2.2.2.2.2.2.1
  have hown := hA.2.2.2.2.2.2.1
  obtain ⟨Ls, n9, h3, hP, hD, hm, hn9⟩ := hH.place (a := a) (by omega)
  obtain ⟨n0, hn0⟩ := va_pl_get (X := []) (f := mv_cel G h) ((h3 a0).mpr (by omega))
  have hn0' : (va_pl Ls (mv_cel G h))[n0]? = some (a0, .inl (mg_A G 1, mh_ln h a0, .inr (.inl (mh_aJ h a0)))) := by rw [← mv_cel51 (G := G) hk0]; exact hn0
  have he : (va_pl Ls (mv_cel G h))[n9]? = some (a, .inl (mg_A G 1, mh_ln h a, .inr (.inl (mh_aJ h a)))) := by rw [hn9, mv_cel51 hk]
  have hx : mv_cel G (mh_caJ h a0 sp.toNatClampNeg a dp.toNatClampNeg n.toNatClampNeg) a = .inl (mg_A G 1, mh_ln h a, .inr (.inl (va_cpy (mh_aJ h a0) (mh_aJ h a) sp.toNatClampNeg dp.toNatClampNeg n.toNatClampNeg))) := by
    rw [mv_cel51 (h := mh_caJ h a0 sp.toNatClampNeg a dp.toNatClampNeg n.toNatClampNeg) hk, mh_ln_caJ]
    have e0 : mh_aJ (mh_caJ h a0 sp.toNatClampNeg a dp.toNatClampNeg n.toNatClampNeg) a = va_cpy (mh_aJ h a0) (mh_aJ h a) sp.toNatClampNeg dp.toNatClampNeg n.toNatClampNeg := by funext y; simp [mh_aJ_caJ, va_cpy]
    rw [e0]
  have ho : ∀ b, b ≠ a → mv_cel G (mh_caJ h a0 sp.toNatClampNeg a dp.toNatClampNeg n.toNatClampNeg) b = mv_cel G h b := fun b hb => mv_cel_congr rfl rfl (fun F => rfl) (fun F => rfl) (fun F => rfl) (by funext y; simp [mh_aI_caJ, hb]) (by funext y; simp [mh_aJ_caJ, hb]) (by funext y; simp [mh_aR_caJ, hb])
  have hrm := hA.2.2.2.2.2.2.2.2.2
  have e9 : nativeFrameWords "java/lang/System" "arraycopy" 5 ≤ 60 := by decide
  exact va_copyl (D := mg_D G) (cl := vwCl) (tys := mv_tys G) hA.1 hA.2.1 (hA.2.2.2.2.2.1.trans hl.1.symm) hown (hC.1 _ hw.1 args) (hC.1 _ hw.2.1 args) (hC.1 _ hw.2.2.1 args) (hC.1 _ hw.2.2.2 args) hC.2.1 hP hD hS n0 n9 1 1 hn0' he rfl rfl rfl q1 q2 q3 q4 q5 (fun i _ => rfl) (by omega) (by omega) hd (fun H1 locs1 hP1 hD1 hS1 => (kk p e Rm s m args below meth c H1 locs1 cells slots ls mc ms hA (mv_H.up h3 hD hm hn9 hx ho (fun _ => rfl) hP1 hD1) hS1 hl h1 h2))
/-- the pool's entry idx of own names the ci-th of vwCl, of n slots, which can be made -/
def mv_Nw (own : String) (idx ci n : Nat) : Prop := ∃ (C : String) (T : u_T), vwCl[ci]? = some (C, T, n) ∧ ci < 40 ∧ (∀ w ∈ u_ws C T n, mv_Wd w) ∧ mv_Wd (.classLink own idx C) ∧ mv_Wd (.instantiable C n) ∧ mv_Wd (.initialized C) ∧ (mv_tags ci).length = n ∧ ∃ ty0 : Nat → FieldType, (∀ j, j < n → parseFieldDescriptor (T j).2.2.1 = some (ty0 j)) ∧ ∀ (j t : Nat), (mv_tags ci)[j]? = some t → defaultValue (ty0 j) = if t = 0 then .int 0 else if t = 1 then .long 0 else .null
theorem v_new {n : Nat} (hF : mv_Nw I.1.cls idx ci n) (hd : decode I.2.1 pc = .ok (.new idx, 3)) (hc : 1 ≤ kc) (hs : n ≤ ks) (kk : ∀ q : Nat, mh_kd h q = 0 → q ≠ 0 → mv_V G I d (pc + 3) lo (.ref q :: st) (mh_new h q (ci + 1) 0) (kc - 1) (ks - n) R) : mv_V G I d pc lo st h kc ks R := by
  intro p e Rm s m args below meth c H locs cells slots ls mc ms hA hH hS hl h1 h2
  have hC := hA.2.2.2.2.2.2.2.2.1
  have hown := hA.2.2.2.2.2.2.1
  obtain ⟨C, T, e1, e2, e3, e4, e5, e6, e7, ty0, e8, e9⟩ := hF
  have hrm := hA.2.2.2.2.2.2.2.2.2
  obtain ⟨Ls, h3, hP, hD⟩ := hH
  have hnew : ∀ q, mv_cel G (mh_new h q (ci + 1) 0) q = .inr (ci, mv_fs (mh_new h q (ci + 1) 0) (mv_tags ci) (100 * ci) q) := fun q => mv_celO (by rw [mh_kd_new, if_pos rfl]) e2
  have hfs : ∀ q j, j < n → defaultValue (ty0 j) = vp_V (mv_fs (mh_new h q (ci + 1) 0) (mv_tags ci) (100 * ci) q) j := by
    intro q j hj
    obtain ⟨t, ht⟩ : ∃ t, (mv_tags ci)[j]? = some t := ⟨_, List.getElem?_eq_getElem (by rw [e7]; exact hj)⟩
    rw [e9 j t ht]
    simp only [vp_V, List.getD_eq_getElem?_getD, mv_fs_get _ (100 * ci) q ht, Option.getD_some, mv_fv, mh_fI_new, mh_fJ_new, mh_fR_new, if_true, mv_vr]
  have hb : mg_B G ≤ s.heap.size := hC.2.2.2.2.1
  have hb0 : mg_b G < mg_B G := hC.2.2.2.2.2.2.1
  have hKn := hC.2.1.1 ci _ e1
  refine W.newcK hA.1 hA.2.1 hown (hC.1 _ e4 args) (hC.1 _ e5 args) (hC.1 _ e6 args) rfl hd (by omega) (by omega) hKn.2.1 rfl fun H1 kC hkC w1 w2 w3 => ?_
  have hq : H.size ∉ Ls := va_pl_fresh (X := []) hP (Nat.le_refl _)
  have hkd0 : mh_kd h H.size = 0 := Classical.byContradiction fun z => hq ((h3 H.size).mpr z)
  have hP1 : va_P (mg_D G) vwCl (va_pl Ls (mv_cel G h) ++ [(H.size, .inr (ci, mv_fs (mh_new h H.size (ci + 1) 0) (mv_tags ci) (100 * ci) H.size))]) H1 := by
    refine va_P.app (hP.kept (fun k x hx => w3 x.1 ((hP k x hx).lt))) (fun k x hx => ?_)
    have hz : k < 1 := (List.getElem?_eq_some_iff.mp hx).1
    rw [show k = 0 by omega] at hx
    cases hx
    exact ⟨_, e1, (u_born ty0 (fun w hw => hC.1 w (e3 w hw) args) (fun w hw => hw) hKn hkC w1 e8).to (hfs H.size)⟩
  have hsz : s.heap.size ≤ H.size := hS.1
  have hD1 := hD.push (e := .inr (ci, mv_fs (mh_new h H.size (ci + 1) 0) (mv_tags ci) (100 * ci) H.size)) hP rfl (show mg_B G ≤ H.size by omega)
  exact kk H.size hkd0 (by omega) p e Rm s m args below meth c H1 locs (cells + 1) (slots + n) ls mc ms hA (mv_H.new h3 hq (by omega) (hnew H.size) hP1 hD1) ⟨by omega, fun x g1 g2 => (w3 x (by omega)).trans (hS.2.1 x g1 g2), hS.2.2⟩ hl (by omega) (by omega)
theorem v_newI {n : Int32} {N : Nat} (hw : mv_Wd (.arrayClass (newarray.typeOf .int))) (hd : decode I.2.1 pc = .ok (.newarray .int, 2)) (hn : ¬ n < 0) (hN : n.toNatClampNeg = N) (hb8 : N * 8 ≤ 536870912) (hc : 1 ≤ kc) (hs : N ≤ ks) (kk : ∀ q : Nat, mh_kd h q = 0 → q ≠ 0 → mv_V G I d (pc + 2) lo (.ref q :: st) (mh_new h q 50 N) (kc - 1) (ks - N) R) : mv_V G I d pc lo (.int n :: st) h kc ks R := by
  intro p e Rm s m args below meth c H locs cells slots ls mc ms hA hH hS hl h1 h2
  have hC := hA.2.2.2.2.2.2.2.2.1
  have hown := hA.2.2.2.2.2.2.1
  have hrm := hA.2.2.2.2.2.2.2.2.2
  obtain ⟨Ls, h3, hP, hD⟩ := hH
  have hb : mg_B G ≤ s.heap.size := hC.2.2.2.2.1
  have hb0 : mg_b G < mg_B G := hC.2.2.2.2.2.2.1
  refine va_newaK hA.1 hA.2.1 (hC.1 _ hw args) rfl hd rfl hn hN (Nat.le_trans (Nat.mul_le_mul_left N (show componentBytes (newarray.typeOf .int) ≤ 8 by decide)) hb8) (by omega) (by omega) rfl fun H1 cA w1 w2 w3 hAr hNm => ?_
  have hq : H.size ∉ Ls := va_pl_fresh (X := []) hP (Nat.le_refl _)
  have hkd0 : mh_kd h H.size = 0 := Classical.byContradiction fun z => hq ((h3 H.size).mpr z)
  have hcA : cA = mg_A G 0 := Option.some.inj (hNm.symm.trans (hC.2.1.2 0 _ rfl).2)
  subst hcA
  have hnew : mv_cel G (mh_new h H.size 50 N) H.size = .inl (mg_A G 0, N, .inl (mh_aI (mh_new h H.size 50 N) H.size)) := by
    rw [mv_cel50 (h := mh_new h H.size 50 N) (by rw [mh_kd_new, if_pos rfl]), mh_ln_new, if_pos rfl]
  have hP1 : va_P (mg_D G) vwCl (va_pl Ls (mv_cel G h) ++ [(H.size, .inl (mg_A G 0, N, .inl (mh_aI (mh_new h H.size 50 N) H.size)))]) H1 := by
    refine va_P.app (hP.kept (fun k x hx => w3 x.1 ((hP k x hx).lt))) (fun k x hx => ?_)
    have hz : k < 1 := (List.getElem?_eq_some_iff.mp hx).1
    rw [show k = 0 by omega] at hx
    cases hx
    show H1[H.size]? = some (vp_cell _ _)
    rw [w1]
    have e0 : mh_aI (mh_new h H.size 50 N) H.size = fun _ => 0 := by funext y; rw [mh_aI_new, if_pos rfl]
    rw [e0]
    rfl
  have hsz : s.heap.size ≤ H.size := hS.1
  have hD1 := hD.push (e := .inl (mg_A G 0, N, .inl (mh_aI (mh_new h H.size 50 N) H.size))) hP rfl (show mg_B G ≤ H.size by omega)
  exact kk H.size hkd0 (by omega) p e Rm s m args below meth c H1 locs (cells + 1) (slots + N) ls mc ms hA (mv_H.new h3 hq (by omega) hnew hP1 hD1) ⟨by omega, fun x g1 g2 => (w3 x (by omega)).trans (hS.2.1 x g1 g2), hS.2.2⟩ hl (by omega) (by omega)
theorem v_newJ {n : Int32} {N : Nat} (hw : mv_Wd (.arrayClass (newarray.typeOf .long))) (hd : decode I.2.1 pc = .ok (.newarray .long, 2)) (hn : ¬ n < 0) (hN : n.toNatClampNeg = N) (hb8 : N * 8 ≤ 536870912) (hc : 1 ≤ kc) (hs : N ≤ ks) (kk : ∀ q : Nat, mh_kd h q = 0 → q ≠ 0 → mv_V G I d (pc + 2) lo (.ref q :: st) (mh_new h q 51 N) (kc - 1) (ks - N) R) : mv_V G I d pc lo (.int n :: st) h kc ks R := by
  intro p e Rm s m args below meth c H locs cells slots ls mc ms hA hH hS hl h1 h2
  have hC := hA.2.2.2.2.2.2.2.2.1
  have hown := hA.2.2.2.2.2.2.1
  have hrm := hA.2.2.2.2.2.2.2.2.2
  obtain ⟨Ls, h3, hP, hD⟩ := hH
  have hb : mg_B G ≤ s.heap.size := hC.2.2.2.2.1
  have hb0 : mg_b G < mg_B G := hC.2.2.2.2.2.2.1
  refine va_newaK hA.1 hA.2.1 (hC.1 _ hw args) rfl hd rfl hn hN (Nat.le_trans (Nat.mul_le_mul_left N (show componentBytes (newarray.typeOf .long) ≤ 8 by decide)) hb8) (by omega) (by omega) rfl fun H1 cA w1 w2 w3 hAr hNm => ?_
  have hq : H.size ∉ Ls := va_pl_fresh (X := []) hP (Nat.le_refl _)
  have hkd0 : mh_kd h H.size = 0 := Classical.byContradiction fun z => hq ((h3 H.size).mpr z)
  have hcA : cA = mg_A G 1 := Option.some.inj (hNm.symm.trans (hC.2.1.2 1 _ rfl).2)
  subst hcA
  have hnew : mv_cel G (mh_new h H.size 51 N) H.size = .inl (mg_A G 1, N, .inr (.inl (mh_aJ (mh_new h H.size 51 N) H.size))) := by
    rw [mv_cel51 (h := mh_new h H.size 51 N) (by rw [mh_kd_new, if_pos rfl]), mh_ln_new, if_pos rfl]
  have hP1 : va_P (mg_D G) vwCl (va_pl Ls (mv_cel G h) ++ [(H.size, .inl (mg_A G 1, N, .inr (.inl (mh_aJ (mh_new h H.size 51 N) H.size))))]) H1 := by
    refine va_P.app (hP.kept (fun k x hx => w3 x.1 ((hP k x hx).lt))) (fun k x hx => ?_)
    have hz : k < 1 := (List.getElem?_eq_some_iff.mp hx).1
    rw [show k = 0 by omega] at hx
    cases hx
    show H1[H.size]? = some (vp_cell _ _)
    rw [w1]
    have e0 : mh_aJ (mh_new h H.size 51 N) H.size = fun _ => 0 := by funext y; rw [mh_aJ_new, if_pos rfl]
    rw [e0]
    rfl
  have hsz : s.heap.size ≤ H.size := hS.1
  have hD1 := hD.push (e := .inl (mg_A G 1, N, .inr (.inl (mh_aJ (mh_new h H.size 51 N) H.size)))) hP rfl (show mg_B G ≤ H.size by omega)
  exact kk H.size hkd0 (by omega) p e Rm s m args below meth c H1 locs (cells + 1) (slots + N) ls mc ms hA (mv_H.new h3 hq (by omega) hnew hP1 hD1) ⟨by omega, fun x g1 g2 => (w3 x (by omega)).trans (hS.2.1 x g1 g2), hS.2.2⟩ hl (by omega) (by omega)
theorem v_newZ {n : Int32} {N : Nat} (hw : mv_Wd (.arrayClass (newarray.typeOf .boolean))) (hd : decode I.2.1 pc = .ok (.newarray .boolean, 2)) (hn : ¬ n < 0) (hN : n.toNatClampNeg = N) (hb8 : N * 8 ≤ 536870912) (hc : 1 ≤ kc) (hs : N ≤ ks) (kk : ∀ q : Nat, mh_kd h q = 0 → q ≠ 0 → mv_V G I d (pc + 2) lo (.ref q :: st) (mh_new h q 52 N) (kc - 1) (ks - N) R) : mv_V G I d pc lo (.int n :: st) h kc ks R := by
  intro p e Rm s m args below meth c H locs cells slots ls mc ms hA hH hS hl h1 h2
  have hC := hA.2.2.2.2.2.2.2.2.1
  have hown := hA.2.2.2.2.2.2.1
  have hrm := hA.2.2.2.2.2.2.2.2.2
  obtain ⟨Ls, h3, hP, hD⟩ := hH
  have hb : mg_B G ≤ s.heap.size := hC.2.2.2.2.1
  have hb0 : mg_b G < mg_B G := hC.2.2.2.2.2.2.1
  refine va_newaK hA.1 hA.2.1 (hC.1 _ hw args) rfl hd rfl hn hN (Nat.le_trans (Nat.mul_le_mul_left N (show componentBytes (newarray.typeOf .boolean) ≤ 8 by decide)) hb8) (by omega) (by omega) rfl fun H1 cA w1 w2 w3 hAr hNm => ?_
  have hq : H.size ∉ Ls := va_pl_fresh (X := []) hP (Nat.le_refl _)
  have hkd0 : mh_kd h H.size = 0 := Classical.byContradiction fun z => hq ((h3 H.size).mpr z)
  have hcA : cA = mg_A G 2 := Option.some.inj (hNm.symm.trans (hC.2.1.2 2 _ rfl).2)
  subst hcA
  have hnew : mv_cel G (mh_new h H.size 52 N) H.size = .inl (mg_A G 2, N, .inl (mh_aI (mh_new h H.size 52 N) H.size)) := by
    rw [mv_cel52 (h := mh_new h H.size 52 N) (by rw [mh_kd_new, if_pos rfl]), mh_ln_new, if_pos rfl]
  have hP1 : va_P (mg_D G) vwCl (va_pl Ls (mv_cel G h) ++ [(H.size, .inl (mg_A G 2, N, .inl (mh_aI (mh_new h H.size 52 N) H.size)))]) H1 := by
    refine va_P.app (hP.kept (fun k x hx => w3 x.1 ((hP k x hx).lt))) (fun k x hx => ?_)
    have hz : k < 1 := (List.getElem?_eq_some_iff.mp hx).1
    rw [show k = 0 by omega] at hx
    cases hx
    show H1[H.size]? = some (vp_cell _ _)
    rw [w1]
    have e0 : mh_aI (mh_new h H.size 52 N) H.size = fun _ => 0 := by funext y; rw [mh_aI_new, if_pos rfl]
    rw [e0]
    rfl
  have hsz : s.heap.size ≤ H.size := hS.1
  have hD1 := hD.push (e := .inl (mg_A G 2, N, .inl (mh_aI (mh_new h H.size 52 N) H.size))) hP rfl (show mg_B G ≤ H.size by omega)
  exact kk H.size hkd0 (by omega) p e Rm s m args below meth c H1 locs (cells + 1) (slots + N) ls mc ms hA (mv_H.new h3 hq (by omega) hnew hP1 hD1) ⟨by omega, fun x g1 g2 => (w3 x (by omega)).trans (hS.2.1 x g1 g2), hS.2.2⟩ hl (by omega) (by omega)
theorem v_newB {n : Int32} {N : Nat} (hw : mv_Wd (.arrayClass (newarray.typeOf .byte))) (hd : decode I.2.1 pc = .ok (.newarray .byte, 2)) (hn : ¬ n < 0) (hN : n.toNatClampNeg = N) (hb8 : N * 8 ≤ 536870912) (hc : 1 ≤ kc) (hs : N ≤ ks) (kk : ∀ q : Nat, mh_kd h q = 0 → q ≠ 0 → mv_V G I d (pc + 2) lo (.ref q :: st) (mh_new h q 53 N) (kc - 1) (ks - N) R) : mv_V G I d pc lo (.int n :: st) h kc ks R := by
  intro p e Rm s m args below meth c H locs cells slots ls mc ms hA hH hS hl h1 h2
  have hC := hA.2.2.2.2.2.2.2.2.1
  have hown := hA.2.2.2.2.2.2.1
  have hrm := hA.2.2.2.2.2.2.2.2.2
  obtain ⟨Ls, h3, hP, hD⟩ := hH
  have hb : mg_B G ≤ s.heap.size := hC.2.2.2.2.1
  have hb0 : mg_b G < mg_B G := hC.2.2.2.2.2.2.1
  refine va_newaK hA.1 hA.2.1 (hC.1 _ hw args) rfl hd rfl hn hN (Nat.le_trans (Nat.mul_le_mul_left N (show componentBytes (newarray.typeOf .byte) ≤ 8 by decide)) hb8) (by omega) (by omega) rfl fun H1 cA w1 w2 w3 hAr hNm => ?_
  have hq : H.size ∉ Ls := va_pl_fresh (X := []) hP (Nat.le_refl _)
  have hkd0 : mh_kd h H.size = 0 := Classical.byContradiction fun z => hq ((h3 H.size).mpr z)
  have hcA : cA = mg_A G 3 := Option.some.inj (hNm.symm.trans (hC.2.1.2 3 _ rfl).2)
  subst hcA
  have hnew : mv_cel G (mh_new h H.size 53 N) H.size = .inl (mg_A G 3, N, .inl (mh_aI (mh_new h H.size 53 N) H.size)) := by
    rw [mv_cel53 (h := mh_new h H.size 53 N) (by rw [mh_kd_new, if_pos rfl]), mh_ln_new, if_pos rfl]
  have hP1 : va_P (mg_D G) vwCl (va_pl Ls (mv_cel G h) ++ [(H.size, .inl (mg_A G 3, N, .inl (mh_aI (mh_new h H.size 53 N) H.size)))]) H1 := by
    refine va_P.app (hP.kept (fun k x hx => w3 x.1 ((hP k x hx).lt))) (fun k x hx => ?_)
    have hz : k < 1 := (List.getElem?_eq_some_iff.mp hx).1
    rw [show k = 0 by omega] at hx
    cases hx
    show H1[H.size]? = some (vp_cell _ _)
    rw [w1]
    have e0 : mh_aI (mh_new h H.size 53 N) H.size = fun _ => 0 := by funext y; rw [mh_aI_new, if_pos rfl]
    rw [e0]
    rfl
  have hsz : s.heap.size ≤ H.size := hS.1
  have hD1 := hD.push (e := .inl (mg_A G 3, N, .inl (mh_aI (mh_new h H.size 53 N) H.size))) hP rfl (show mg_B G ≤ H.size by omega)
  exact kk H.size hkd0 (by omega) p e Rm s m args below meth c H1 locs (cells + 1) (slots + N) ls mc ms hA (mv_H.new h3 hq (by omega) hnew hP1 hD1) ⟨by omega, fun x g1 g2 => (w3 x (by omega)).trans (hS.2.1 x g1 g2), hS.2.2⟩ hl (by omega) (by omega)
theorem v_newA54 {n : Int32} {N : Nat} (hw : mv_Wd (.classLink I.1.cls idx "LazyPages$PageTable")) (hw2 : mv_Wd (.arrayOver (.object "LazyPages$PageTable"))) (hd : decode I.2.1 pc = .ok (.anewarray idx, 3)) (hn : ¬ n < 0) (hN : n.toNatClampNeg = N) (hb8 : N * 4 ≤ 536870912) (hc : 1 ≤ kc) (hs : N ≤ ks) (kk : ∀ q : Nat, mh_kd h q = 0 → q ≠ 0 → mv_V G I d (pc + 3) lo (.ref q :: st) (mh_new h q 54 N) (kc - 1) (ks - N) R) : mv_V G I d pc lo (.int n :: st) h kc ks R := by
  intro p e Rm s m args below meth c H locs cells slots ls mc ms hA hH hS hl h1 h2
  have hC := hA.2.2.2.2.2.2.2.2.1
  have hown := hA.2.2.2.2.2.2.1
  have hrm := hA.2.2.2.2.2.2.2.2.2
  subst hN
  obtain ⟨Ls, h3, hP, hD⟩ := hH
  have hb : mg_B G ≤ s.heap.size := hC.2.2.2.2.1
  have hb0 : mg_b G < mg_B G := hC.2.2.2.2.2.2.1
  refine W.anew hA.1 hA.2.1 hown (hC.1 _ hw args) (hC.1 _ hw2 args) rfl hd rfl hn hb8 (by omega) (by omega) fun cA kA comp g1 g2 g3 g4 => ?_
  have hq : H.size ∉ Ls := va_pl_fresh (X := []) hP (Nat.le_refl _)
  have hkd0 : mh_kd h H.size = 0 := Classical.byContradiction fun z => hq ((h3 H.size).mpr z)
  obtain ⟨_, _, _, _, _, y4⟩ := (hC.2.1.2 4 _ rfl).2
  have hcA : cA = mg_A G 4 := Option.some.inj (g1.symm.trans y4)
  subst hcA
  have hnew : mv_cel G (mh_new h H.size 54 n.toNatClampNeg) H.size = .inl (mg_A G 4, n.toNatClampNeg, .inr (.inr (.inr (.inr (fun j => mv_or (mh_aR (mh_new h H.size 54 n.toNatClampNeg) H.size j)))))) := by
    rw [mv_cel54 (h := mh_new h H.size 54 n.toNatClampNeg) (by rw [mh_kd_new, if_pos rfl]), mh_ln_new, if_pos rfl]
  generalize hH1 : H.push { cls := mg_A G 4, slots := Array.replicate n.toNatClampNeg .null, vm := .none } = H1
  have w1 : H1[H.size]? = some (arrV (mg_A G 4) n.toNatClampNeg (fun _ => .null)) := by rw [← hH1, ← arrV_new]; simp
  have w2 : H1.size = H.size + 1 := by rw [← hH1]; simp
  have w3 : ∀ q, q < H.size → H1[q]? = H[q]? := fun q hq => by rw [← hH1, Array.getElem?_push, if_neg (Nat.ne_of_lt hq)]
  have hP1 : va_P (mg_D G) vwCl (va_pl Ls (mv_cel G h) ++ [(H.size, .inl (mg_A G 4, n.toNatClampNeg, .inr (.inr (.inr (.inr (fun j => mv_or (mh_aR (mh_new h H.size 54 n.toNatClampNeg) H.size j)))))))]) H1 := by
    refine va_P.app (hP.kept (fun k x hx => w3 x.1 ((hP k x hx).lt))) (fun k x hx => ?_)
    have hz : k < 1 := (List.getElem?_eq_some_iff.mp hx).1
    rw [show k = 0 by omega] at hx
    cases hx
    show H1[H.size]? = some (vp_cell _ _)
    rw [w1, vp_cell_q]
    have e0 : (fun j => va_rf (mv_or (mh_aR (mh_new h H.size 54 n.toNatClampNeg) H.size j))) = fun _ => Value.null := by funext y; rw [mh_aR_new, if_pos rfl]; rfl
    rw [e0]
  have hsz : s.heap.size ≤ H.size := hS.1
  have hD1 := hD.push (e := .inl (mg_A G 4, n.toNatClampNeg, .inr (.inr (.inr (.inr (fun j => mv_or (mh_aR (mh_new h H.size 54 n.toNatClampNeg) H.size j))))))) hP rfl (show mg_B G ≤ H.size by omega)
  exact kk H.size hkd0 (by omega) p e Rm s m args below meth c H1 locs (cells + 1) (slots + n.toNatClampNeg) ls mc ms hA (mv_H.new h3 hq (by omega) hnew hP1 hD1) ⟨by omega, fun x g1 g2 => (w3 x (by omega)).trans (hS.2.1 x g1 g2), hS.2.2⟩ hl (by omega) (by omega)
theorem v_newA55 {n : Int32} {N : Nat} (hw : mv_Wd (.classLink I.1.cls idx "LazyPages$Page")) (hw2 : mv_Wd (.arrayOver (.object "LazyPages$Page"))) (hd : decode I.2.1 pc = .ok (.anewarray idx, 3)) (hn : ¬ n < 0) (hN : n.toNatClampNeg = N) (hb8 : N * 4 ≤ 536870912) (hc : 1 ≤ kc) (hs : N ≤ ks) (kk : ∀ q : Nat, mh_kd h q = 0 → q ≠ 0 → mv_V G I d (pc + 3) lo (.ref q :: st) (mh_new h q 55 N) (kc - 1) (ks - N) R) : mv_V G I d pc lo (.int n :: st) h kc ks R := by
  intro p e Rm s m args below meth c H locs cells slots ls mc ms hA hH hS hl h1 h2
  have hC := hA.2.2.2.2.2.2.2.2.1
  have hown := hA.2.2.2.2.2.2.1
  have hrm := hA.2.2.2.2.2.2.2.2.2
  subst hN
  obtain ⟨Ls, h3, hP, hD⟩ := hH
  have hb : mg_B G ≤ s.heap.size := hC.2.2.2.2.1
  have hb0 : mg_b G < mg_B G := hC.2.2.2.2.2.2.1
  refine W.anew hA.1 hA.2.1 hown (hC.1 _ hw args) (hC.1 _ hw2 args) rfl hd rfl hn hb8 (by omega) (by omega) fun cA kA comp g1 g2 g3 g4 => ?_
  have hq : H.size ∉ Ls := va_pl_fresh (X := []) hP (Nat.le_refl _)
  have hkd0 : mh_kd h H.size = 0 := Classical.byContradiction fun z => hq ((h3 H.size).mpr z)
  obtain ⟨_, _, _, _, _, y4⟩ := (hC.2.1.2 5 _ rfl).2
  have hcA : cA = mg_A G 5 := Option.some.inj (g1.symm.trans y4)
  subst hcA
  have hnew : mv_cel G (mh_new h H.size 55 n.toNatClampNeg) H.size = .inl (mg_A G 5, n.toNatClampNeg, .inr (.inr (.inr (.inr (fun j => mv_or (mh_aR (mh_new h H.size 55 n.toNatClampNeg) H.size j)))))) := by
    rw [mv_cel55 (h := mh_new h H.size 55 n.toNatClampNeg) (by rw [mh_kd_new, if_pos rfl]), mh_ln_new, if_pos rfl]
  generalize hH1 : H.push { cls := mg_A G 5, slots := Array.replicate n.toNatClampNeg .null, vm := .none } = H1
  have w1 : H1[H.size]? = some (arrV (mg_A G 5) n.toNatClampNeg (fun _ => .null)) := by rw [← hH1, ← arrV_new]; simp
  have w2 : H1.size = H.size + 1 := by rw [← hH1]; simp
  have w3 : ∀ q, q < H.size → H1[q]? = H[q]? := fun q hq => by rw [← hH1, Array.getElem?_push, if_neg (Nat.ne_of_lt hq)]
  have hP1 : va_P (mg_D G) vwCl (va_pl Ls (mv_cel G h) ++ [(H.size, .inl (mg_A G 5, n.toNatClampNeg, .inr (.inr (.inr (.inr (fun j => mv_or (mh_aR (mh_new h H.size 55 n.toNatClampNeg) H.size j)))))))]) H1 := by
    refine va_P.app (hP.kept (fun k x hx => w3 x.1 ((hP k x hx).lt))) (fun k x hx => ?_)
    have hz : k < 1 := (List.getElem?_eq_some_iff.mp hx).1
    rw [show k = 0 by omega] at hx
    cases hx
    show H1[H.size]? = some (vp_cell _ _)
    rw [w1, vp_cell_q]
    have e0 : (fun j => va_rf (mv_or (mh_aR (mh_new h H.size 55 n.toNatClampNeg) H.size j))) = fun _ => Value.null := by funext y; rw [mh_aR_new, if_pos rfl]; rfl
    rw [e0]
  have hsz : s.heap.size ≤ H.size := hS.1
  have hD1 := hD.push (e := .inl (mg_A G 5, n.toNatClampNeg, .inr (.inr (.inr (.inr (fun j => mv_or (mh_aR (mh_new h H.size 55 n.toNatClampNeg) H.size j))))))) hP rfl (show mg_B G ≤ H.size by omega)
  exact kk H.size hkd0 (by omega) p e Rm s m args below meth c H1 locs (cells + 1) (slots + n.toNatClampNeg) ls mc ms hA (mv_H.new h3 hq (by omega) hnew hP1 hD1) ⟨by omega, fun x g1 g2 => (w3 x (by omega)).trans (hS.2.1 x g1 g2), hS.2.2⟩ hl (by omega) (by omega)
theorem v_sld {j : Int32} (hd : decode I.2.1 pc = .ok (.iaload, 1)) (hin : vp_in j (mg_L G)) (kk : mv_V G I d (pc + 1) lo (.int (mg_x G j.toNatClampNeg) :: st) h kc ks R) : mv_V G I d pc lo (.int j :: .ref (mg_b G) :: st) h kc ks R := by
  intro p e Rm s m args below meth c H locs cells slots ls mc ms hA hH hS hl h1 h2
  have hC := hA.2.2.2.2.2.2.2.2.1
  have hown := hA.2.2.2.2.2.2.1
  obtain ⟨-, -, c3, c4, c5, -, c7, c8, c9, c10⟩ := hC
  exact va_sld (A := fun q => mg_B G ≤ q) hA.1 hA.2.1 (b := mg_b G) (L := mg_L G) (xs := mg_x G) ⟨mg_c G, c3, c4, c8, c9, c10⟩ (by omega) (by omega) hS hin hd (kk p e Rm s m args below meth c H locs cells slots ls mc ms hA hH hS hl h1 h2)
theorem v_slen (hd : decode I.2.1 pc = .ok (.arraylength, 1)) (kk : mv_V G I d (pc + 1) lo (.int (Int32.ofNat (mg_L G)) :: st) h kc ks R) : mv_V G I d pc lo (.ref (mg_b G) :: st) h kc ks R := by
  intro p e Rm s m args below meth c H locs cells slots ls mc ms hA hH hS hl h1 h2
  have hC := hA.2.2.2.2.2.2.2.2.1
  have hown := hA.2.2.2.2.2.2.1
  obtain ⟨-, -, c3, c4, c5, -, c7, c8, c9, c10⟩ := hC
  exact va_slen (A := fun q => mg_B G ≤ q) hA.1 hA.2.1 (b := mg_b G) (L := mg_L G) (xs := mg_x G) ⟨mg_c G, c3, c4, c8, c9, c10⟩ (by omega) (by omega) hS hd (kk p e Rm s m args below meth c H locs cells slots ls mc ms hA hH hS hl h1 h2)
theorem v_oinit {a9 : Nat} (hw : mv_Wd (.methodLink I.1.cls idx objectInit) ∧ mv_Wd (.instanceMethod objectInit) ∧ mv_Wd (.code objectInit ⟨#[0xb1]⟩ 1 none)) (hd : decode I.2.1 pc = .ok (.invokespecial idx, 3)) (hst : (st.map fun v => v.category).sum ≤ 8) (hdd : 1 ≤ d) (kk : mv_V G I d (pc + 3) lo st h kc ks R) : mv_V G I d pc lo (.ref a9 :: st) h kc ks R := by
  intro p e Rm s m args below meth c H locs cells slots ls mc ms hA hH hS hl h1 h2
  have hC := hA.2.2.2.2.2.2.2.2.1
  have hown := hA.2.2.2.2.2.2.1
  have hrm := hA.2.2.2.2.2.2.2.2.2
  exact W.objInit hA.1 hA.2.1 hown (hC.1 _ hw.1 args) (hC.1 _ hw.2.1 args) (hC.1 _ hw.2.2 args) rfl (by show ls.size = _; rw [hA.2.2.2.2.2.1]; exact hl.1) rfl hd (by omega) (by show 2 * 0 + _ + 12 ≤ _; omega) (kk p e Rm s m args below meth c H locs cells slots ls mc ms hA hH hS hl h1 h2)
theorem v_max {x y : Int64} (hw : mv_Wd (.methodLink I.1.cls idx Lib.MathLoose.max_long.x) ∧ mv_Wd (.static Lib.MathLoose.max_long.x) ∧ mv_Wd (.initialized "java/lang/Math") ∧ mv_Wd (.code Lib.MathLoose.max_long.x Lib.MathLoose.max_long.code 4 (some .long))) (hd : decode I.2.1 pc = .ok (.invokestatic idx, 3)) (hst : (st.map fun v => v.category).sum ≤ 8) (hdd : 1 ≤ d) (kk : mv_V G I d (pc + 3) lo (.long (if y < x then x else y) :: st) h kc ks R) : mv_V G I d pc lo (.long y :: .long x :: st) h kc ks R := by
  intro p e Rm s m args below meth c H locs cells slots ls mc ms hA hH hS hl h1 h2
  have hC := hA.2.2.2.2.2.2.2.2.1
  have hown := hA.2.2.2.2.2.2.1
  have hrm := hA.2.2.2.2.2.2.2.2.2
  exact va_mmax_long hA.1 hA.2.1 (hA.2.2.2.2.2.1.trans hl.1.symm) hown (hC.1 _ hw.1 args) (hC.1 _ hw.2.1 args) (hC.1 _ hw.2.2.1 args) (hC.1 _ hw.2.2.2 args) (by omega) (by omega) (by omega) (by omega) hd (kk p e Rm s m args below meth c H locs cells slots ls mc ms hA hH hS hl h1 h2)
end MVH
