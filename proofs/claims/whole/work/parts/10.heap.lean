/-- the pure heap: kind of a cell, length of an array, int fields, long fields, reference fields (0: null), int arrays, long arrays, reference arrays -/
abbrev mh_T : Type := (Nat → Nat) × (Nat → Nat) × (Nat → Nat → Int32) × (Nat → Nat → Int64) × (Nat → Nat → Nat) × (Nat → Nat → Int32) × (Nat → Nat → Int64) × (Nat → Nat → Nat)
def mh_kd (h : mh_T) (a : Nat) : Nat := h.1 a
def mh_ln (h : mh_T) (a : Nat) : Nat := h.2.1 a
def mh_fI (h : mh_T) (a j : Nat) : Int32 := h.2.2.1 a j
def mh_fJ (h : mh_T) (a j : Nat) : Int64 := h.2.2.2.1 a j
def mh_fR (h : mh_T) (a j : Nat) : Nat := h.2.2.2.2.1 a j
def mh_aI (h : mh_T) (a j : Nat) : Int32 := h.2.2.2.2.2.1 a j
def mh_aJ (h : mh_T) (a j : Nat) : Int64 := h.2.2.2.2.2.2.1 a j
def mh_aR (h : mh_T) (a j : Nat) : Nat := h.2.2.2.2.2.2.2 a j
def mh_u {α : Type} (f : Nat → Nat → α) (a j : Nat) (v : α) : Nat → Nat → α := fun a' j' => if a' = a ∧ j' = j then v else f a' j'
def mh_z {α : Type} (f : Nat → Nat → α) (q : Nat) (v : α) : Nat → Nat → α := fun a' j' => if j' = q then v else f a' j'
def mh_y {α : Type} (f : Nat → Nat → α) (q : Nat) (v : α) : Nat → Nat → α := fun a' j' => if a' = q then v else f a' j'
def mh_c {α : Type} (f : Nat → Nat → α) (sa sp da dp n : Nat) : Nat → Nat → α := fun a' j' => if a' = da ∧ dp ≤ j' ∧ j' < dp + n then f sa (sp + (j' - dp)) else f a' j'
def mh_sfI (h : mh_T) (a j : Nat) (v : Int32) : mh_T := (h.1, h.2.1, mh_u h.2.2.1 a j v, h.2.2.2.1, h.2.2.2.2.1, h.2.2.2.2.2.1, h.2.2.2.2.2.2.1, h.2.2.2.2.2.2.2)
def mh_sfJ (h : mh_T) (a j : Nat) (v : Int64) : mh_T := (h.1, h.2.1, h.2.2.1, mh_u h.2.2.2.1 a j v, h.2.2.2.2.1, h.2.2.2.2.2.1, h.2.2.2.2.2.2.1, h.2.2.2.2.2.2.2)
def mh_sfR (h : mh_T) (a j : Nat) (v : Nat) : mh_T := (h.1, h.2.1, h.2.2.1, h.2.2.2.1, mh_u h.2.2.2.2.1 a j v, h.2.2.2.2.2.1, h.2.2.2.2.2.2.1, h.2.2.2.2.2.2.2)
def mh_saI (h : mh_T) (a j : Nat) (v : Int32) : mh_T := (h.1, h.2.1, h.2.2.1, h.2.2.2.1, h.2.2.2.2.1, mh_u h.2.2.2.2.2.1 a j v, h.2.2.2.2.2.2.1, h.2.2.2.2.2.2.2)
def mh_saJ (h : mh_T) (a j : Nat) (v : Int64) : mh_T := (h.1, h.2.1, h.2.2.1, h.2.2.2.1, h.2.2.2.2.1, h.2.2.2.2.2.1, mh_u h.2.2.2.2.2.2.1 a j v, h.2.2.2.2.2.2.2)
def mh_saR (h : mh_T) (a j : Nat) (v : Nat) : mh_T := (h.1, h.2.1, h.2.2.1, h.2.2.2.1, h.2.2.2.2.1, h.2.2.2.2.2.1, h.2.2.2.2.2.2.1, mh_u h.2.2.2.2.2.2.2 a j v)
def mh_caI (h : mh_T) (sa sp da dp n : Nat) : mh_T := (h.1, h.2.1, h.2.2.1, h.2.2.2.1, h.2.2.2.2.1, mh_c h.2.2.2.2.2.1 sa sp da dp n, h.2.2.2.2.2.2.1, h.2.2.2.2.2.2.2)
def mh_caJ (h : mh_T) (sa sp da dp n : Nat) : mh_T := (h.1, h.2.1, h.2.2.1, h.2.2.2.1, h.2.2.2.2.1, h.2.2.2.2.2.1, mh_c h.2.2.2.2.2.2.1 sa sp da dp n, h.2.2.2.2.2.2.2)
/-- a new cell at q: of kind k, of length n, all zero -/
def mh_new (h : mh_T) (q k n : Nat) : mh_T := ((fun a => if a = q then k else h.1 a), (fun a => if a = q then n else h.2.1 a), mh_z h.2.2.1 q 0, mh_z h.2.2.2.1 q 0, mh_z h.2.2.2.2.1 q 0, mh_y h.2.2.2.2.2.1 q 0, mh_y h.2.2.2.2.2.2.1 q 0, mh_y h.2.2.2.2.2.2.2 q 0)
theorem mh_kd_sfI (h : mh_T) (a j : Nat) (v : Int32) (x : Nat) : mh_kd (mh_sfI h a j v) x = mh_kd h x := rfl
theorem mh_ln_sfI (h : mh_T) (a j : Nat) (v : Int32) (x : Nat) : mh_ln (mh_sfI h a j v) x = mh_ln h x := rfl
theorem mh_fI_sfI (h : mh_T) (a j : Nat) (v : Int32) (x y : Nat) : mh_fI (mh_sfI h a j v) x y = if x = a ∧ y = j then v else mh_fI h x y := rfl
theorem mh_fJ_sfI (h : mh_T) (a j : Nat) (v : Int32) (x y : Nat) : mh_fJ (mh_sfI h a j v) x y = mh_fJ h x y := rfl
theorem mh_fR_sfI (h : mh_T) (a j : Nat) (v : Int32) (x y : Nat) : mh_fR (mh_sfI h a j v) x y = mh_fR h x y := rfl
theorem mh_aI_sfI (h : mh_T) (a j : Nat) (v : Int32) (x y : Nat) : mh_aI (mh_sfI h a j v) x y = mh_aI h x y := rfl
theorem mh_aJ_sfI (h : mh_T) (a j : Nat) (v : Int32) (x y : Nat) : mh_aJ (mh_sfI h a j v) x y = mh_aJ h x y := rfl
theorem mh_aR_sfI (h : mh_T) (a j : Nat) (v : Int32) (x y : Nat) : mh_aR (mh_sfI h a j v) x y = mh_aR h x y := rfl
theorem mh_kd_sfJ (h : mh_T) (a j : Nat) (v : Int64) (x : Nat) : mh_kd (mh_sfJ h a j v) x = mh_kd h x := rfl
theorem mh_ln_sfJ (h : mh_T) (a j : Nat) (v : Int64) (x : Nat) : mh_ln (mh_sfJ h a j v) x = mh_ln h x := rfl
theorem mh_fI_sfJ (h : mh_T) (a j : Nat) (v : Int64) (x y : Nat) : mh_fI (mh_sfJ h a j v) x y = mh_fI h x y := rfl
theorem mh_fJ_sfJ (h : mh_T) (a j : Nat) (v : Int64) (x y : Nat) : mh_fJ (mh_sfJ h a j v) x y = if x = a ∧ y = j then v else mh_fJ h x y := rfl
theorem mh_fR_sfJ (h : mh_T) (a j : Nat) (v : Int64) (x y : Nat) : mh_fR (mh_sfJ h a j v) x y = mh_fR h x y := rfl
theorem mh_aI_sfJ (h : mh_T) (a j : Nat) (v : Int64) (x y : Nat) : mh_aI (mh_sfJ h a j v) x y = mh_aI h x y := rfl
theorem mh_aJ_sfJ (h : mh_T) (a j : Nat) (v : Int64) (x y : Nat) : mh_aJ (mh_sfJ h a j v) x y = mh_aJ h x y := rfl
theorem mh_aR_sfJ (h : mh_T) (a j : Nat) (v : Int64) (x y : Nat) : mh_aR (mh_sfJ h a j v) x y = mh_aR h x y := rfl
theorem mh_kd_sfR (h : mh_T) (a j v : Nat) (x : Nat) : mh_kd (mh_sfR h a j v) x = mh_kd h x := rfl
theorem mh_ln_sfR (h : mh_T) (a j v : Nat) (x : Nat) : mh_ln (mh_sfR h a j v) x = mh_ln h x := rfl
theorem mh_fI_sfR (h : mh_T) (a j v : Nat) (x y : Nat) : mh_fI (mh_sfR h a j v) x y = mh_fI h x y := rfl
theorem mh_fJ_sfR (h : mh_T) (a j v : Nat) (x y : Nat) : mh_fJ (mh_sfR h a j v) x y = mh_fJ h x y := rfl
theorem mh_fR_sfR (h : mh_T) (a j v : Nat) (x y : Nat) : mh_fR (mh_sfR h a j v) x y = if x = a ∧ y = j then v else mh_fR h x y := rfl
theorem mh_aI_sfR (h : mh_T) (a j v : Nat) (x y : Nat) : mh_aI (mh_sfR h a j v) x y = mh_aI h x y := rfl
theorem mh_aJ_sfR (h : mh_T) (a j v : Nat) (x y : Nat) : mh_aJ (mh_sfR h a j v) x y = mh_aJ h x y := rfl
theorem mh_aR_sfR (h : mh_T) (a j v : Nat) (x y : Nat) : mh_aR (mh_sfR h a j v) x y = mh_aR h x y := rfl
theorem mh_kd_saI (h : mh_T) (a j : Nat) (v : Int32) (x : Nat) : mh_kd (mh_saI h a j v) x = mh_kd h x := rfl
theorem mh_ln_saI (h : mh_T) (a j : Nat) (v : Int32) (x : Nat) : mh_ln (mh_saI h a j v) x = mh_ln h x := rfl
theorem mh_fI_saI (h : mh_T) (a j : Nat) (v : Int32) (x y : Nat) : mh_fI (mh_saI h a j v) x y = mh_fI h x y := rfl
theorem mh_fJ_saI (h : mh_T) (a j : Nat) (v : Int32) (x y : Nat) : mh_fJ (mh_saI h a j v) x y = mh_fJ h x y := rfl
theorem mh_fR_saI (h : mh_T) (a j : Nat) (v : Int32) (x y : Nat) : mh_fR (mh_saI h a j v) x y = mh_fR h x y := rfl
theorem mh_aI_saI (h : mh_T) (a j : Nat) (v : Int32) (x y : Nat) : mh_aI (mh_saI h a j v) x y = if x = a ∧ y = j then v else mh_aI h x y := rfl
theorem mh_aJ_saI (h : mh_T) (a j : Nat) (v : Int32) (x y : Nat) : mh_aJ (mh_saI h a j v) x y = mh_aJ h x y := rfl
theorem mh_aR_saI (h : mh_T) (a j : Nat) (v : Int32) (x y : Nat) : mh_aR (mh_saI h a j v) x y = mh_aR h x y := rfl
theorem mh_kd_saJ (h : mh_T) (a j : Nat) (v : Int64) (x : Nat) : mh_kd (mh_saJ h a j v) x = mh_kd h x := rfl
theorem mh_ln_saJ (h : mh_T) (a j : Nat) (v : Int64) (x : Nat) : mh_ln (mh_saJ h a j v) x = mh_ln h x := rfl
theorem mh_fI_saJ (h : mh_T) (a j : Nat) (v : Int64) (x y : Nat) : mh_fI (mh_saJ h a j v) x y = mh_fI h x y := rfl
theorem mh_fJ_saJ (h : mh_T) (a j : Nat) (v : Int64) (x y : Nat) : mh_fJ (mh_saJ h a j v) x y = mh_fJ h x y := rfl
theorem mh_fR_saJ (h : mh_T) (a j : Nat) (v : Int64) (x y : Nat) : mh_fR (mh_saJ h a j v) x y = mh_fR h x y := rfl
theorem mh_aI_saJ (h : mh_T) (a j : Nat) (v : Int64) (x y : Nat) : mh_aI (mh_saJ h a j v) x y = mh_aI h x y := rfl
theorem mh_aJ_saJ (h : mh_T) (a j : Nat) (v : Int64) (x y : Nat) : mh_aJ (mh_saJ h a j v) x y = if x = a ∧ y = j then v else mh_aJ h x y := rfl
theorem mh_aR_saJ (h : mh_T) (a j : Nat) (v : Int64) (x y : Nat) : mh_aR (mh_saJ h a j v) x y = mh_aR h x y := rfl
theorem mh_kd_saR (h : mh_T) (a j v : Nat) (x : Nat) : mh_kd (mh_saR h a j v) x = mh_kd h x := rfl
theorem mh_ln_saR (h : mh_T) (a j v : Nat) (x : Nat) : mh_ln (mh_saR h a j v) x = mh_ln h x := rfl
theorem mh_fI_saR (h : mh_T) (a j v : Nat) (x y : Nat) : mh_fI (mh_saR h a j v) x y = mh_fI h x y := rfl
theorem mh_fJ_saR (h : mh_T) (a j v : Nat) (x y : Nat) : mh_fJ (mh_saR h a j v) x y = mh_fJ h x y := rfl
theorem mh_fR_saR (h : mh_T) (a j v : Nat) (x y : Nat) : mh_fR (mh_saR h a j v) x y = mh_fR h x y := rfl
theorem mh_aI_saR (h : mh_T) (a j v : Nat) (x y : Nat) : mh_aI (mh_saR h a j v) x y = mh_aI h x y := rfl
theorem mh_aJ_saR (h : mh_T) (a j v : Nat) (x y : Nat) : mh_aJ (mh_saR h a j v) x y = mh_aJ h x y := rfl
theorem mh_aR_saR (h : mh_T) (a j v : Nat) (x y : Nat) : mh_aR (mh_saR h a j v) x y = if x = a ∧ y = j then v else mh_aR h x y := rfl
theorem mh_kd_caI (h : mh_T) (sa sp da dp n : Nat) (x : Nat) : mh_kd (mh_caI h sa sp da dp n) x = mh_kd h x := rfl
theorem mh_ln_caI (h : mh_T) (sa sp da dp n : Nat) (x : Nat) : mh_ln (mh_caI h sa sp da dp n) x = mh_ln h x := rfl
theorem mh_fI_caI (h : mh_T) (sa sp da dp n : Nat) (x y : Nat) : mh_fI (mh_caI h sa sp da dp n) x y = mh_fI h x y := rfl
theorem mh_fJ_caI (h : mh_T) (sa sp da dp n : Nat) (x y : Nat) : mh_fJ (mh_caI h sa sp da dp n) x y = mh_fJ h x y := rfl
theorem mh_fR_caI (h : mh_T) (sa sp da dp n : Nat) (x y : Nat) : mh_fR (mh_caI h sa sp da dp n) x y = mh_fR h x y := rfl
theorem mh_aI_caI (h : mh_T) (sa sp da dp n : Nat) (x y : Nat) : mh_aI (mh_caI h sa sp da dp n) x y = if x = da ∧ dp ≤ y ∧ y < dp + n then mh_aI h sa (sp + (y - dp)) else mh_aI h x y := rfl
theorem mh_aJ_caI (h : mh_T) (sa sp da dp n : Nat) (x y : Nat) : mh_aJ (mh_caI h sa sp da dp n) x y = mh_aJ h x y := rfl
theorem mh_aR_caI (h : mh_T) (sa sp da dp n : Nat) (x y : Nat) : mh_aR (mh_caI h sa sp da dp n) x y = mh_aR h x y := rfl
theorem mh_kd_caJ (h : mh_T) (sa sp da dp n : Nat) (x : Nat) : mh_kd (mh_caJ h sa sp da dp n) x = mh_kd h x := rfl
theorem mh_ln_caJ (h : mh_T) (sa sp da dp n : Nat) (x : Nat) : mh_ln (mh_caJ h sa sp da dp n) x = mh_ln h x := rfl
theorem mh_fI_caJ (h : mh_T) (sa sp da dp n : Nat) (x y : Nat) : mh_fI (mh_caJ h sa sp da dp n) x y = mh_fI h x y := rfl
theorem mh_fJ_caJ (h : mh_T) (sa sp da dp n : Nat) (x y : Nat) : mh_fJ (mh_caJ h sa sp da dp n) x y = mh_fJ h x y := rfl
theorem mh_fR_caJ (h : mh_T) (sa sp da dp n : Nat) (x y : Nat) : mh_fR (mh_caJ h sa sp da dp n) x y = mh_fR h x y := rfl
theorem mh_aI_caJ (h : mh_T) (sa sp da dp n : Nat) (x y : Nat) : mh_aI (mh_caJ h sa sp da dp n) x y = mh_aI h x y := rfl
theorem mh_aJ_caJ (h : mh_T) (sa sp da dp n : Nat) (x y : Nat) : mh_aJ (mh_caJ h sa sp da dp n) x y = if x = da ∧ dp ≤ y ∧ y < dp + n then mh_aJ h sa (sp + (y - dp)) else mh_aJ h x y := rfl
theorem mh_aR_caJ (h : mh_T) (sa sp da dp n : Nat) (x y : Nat) : mh_aR (mh_caJ h sa sp da dp n) x y = mh_aR h x y := rfl
theorem mh_kd_new (h : mh_T) (q k n x : Nat) : mh_kd (mh_new h q k n) x = if x = q then k else mh_kd h x := rfl
theorem mh_ln_new (h : mh_T) (q k n x : Nat) : mh_ln (mh_new h q k n) x = if x = q then n else mh_ln h x := rfl
theorem mh_fI_new (h : mh_T) (q k n x y : Nat) : mh_fI (mh_new h q k n) x y = if y = q then 0 else mh_fI h x y := rfl
theorem mh_fJ_new (h : mh_T) (q k n x y : Nat) : mh_fJ (mh_new h q k n) x y = if y = q then 0 else mh_fJ h x y := rfl
theorem mh_fR_new (h : mh_T) (q k n x y : Nat) : mh_fR (mh_new h q k n) x y = if y = q then 0 else mh_fR h x y := rfl
theorem mh_aI_new (h : mh_T) (q k n x y : Nat) : mh_aI (mh_new h q k n) x y = if x = q then 0 else mh_aI h x y := rfl
theorem mh_aJ_new (h : mh_T) (q k n x y : Nat) : mh_aJ (mh_new h q k n) x y = if x = q then 0 else mh_aJ h x y := rfl
theorem mh_aR_new (h : mh_T) (q k n x y : Nat) : mh_aR (mh_new h q k n) x y = if x = q then 0 else mh_aR h x y := rfl
