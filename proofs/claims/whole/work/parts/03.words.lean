/-! The tables' words that the rows need, and the links of each pool entry. Laid by wip/whole/gen/names.py. -/
/-- a word that the tables have and that stays -/
def mv_gd (w : Cond) : Prop := (w.onTables && w.keeps) = true ∨ (∃ ty, w = .arrayClass ty) ∨ (∃ C, w = .arrayOver (.object C)) ∨ (∃ x, w = .declares x) ∨ ∃ a b, w = .castable a b
def mv_Wd (w : Cond) : Prop := w ∈ lw_tbl ∧ mv_gd w
theorem mv_w1 {w : Cond} (h : w ∈ tables_1_1) : w ∈ lw_tbl := List.mem_append_right _ (List.mem_append_left _ h)
theorem mv_w2 {w : Cond} (h : w ∈ tables_1_2) : w ∈ lw_tbl := List.mem_append_right _ (List.mem_append_right _ (List.mem_append_left _ h))
theorem mv_w3 {w : Cond} (h : w ∈ tables_1_3) : w ∈ lw_tbl := List.mem_append_right _ (List.mem_append_right _ (List.mem_append_right _ h))
theorem mv_wp {q : MethodName × Nat} (h : q ∈ lw_privs) : Cond.selects q.1.cls q.1 q.1 ∈ lw_tbl := List.mem_append_left _ (List.mem_map.mpr ⟨q, h, rfl⟩)
theorem wd0 : mv_Wd (Cond.laysFinal "LazyPages$Page" "LazyPages$Page" "keys" "[I") := ⟨mv_w1 (List.mem_of_getElem? (i := 46) rfl), Or.inl rfl⟩
theorem wd1 : mv_Wd (Cond.laysFinal "LazyPages$Page" "LazyPages$Page" "values" "[J") := ⟨mv_w1 (List.mem_of_getElem? (i := 48) rfl), Or.inl rfl⟩
theorem wd2 : mv_Wd (Cond.lays "LazyPages$Page" "LazyPages$Page" "used" "I") := ⟨mv_w1 (List.mem_of_getElem? (i := 50) rfl), Or.inl rfl⟩
theorem wd3 : mv_Wd (Cond.lays "LazyPages$Page" "LazyPages$Page" "low" "I") := ⟨mv_w1 (List.mem_of_getElem? (i := 52) rfl), Or.inl rfl⟩
theorem wd4 : mv_Wd (Cond.lays "LazyPages$Page" "LazyPages$Page" "high" "I") := ⟨mv_w1 (List.mem_of_getElem? (i := 54) rfl), Or.inl rfl⟩
theorem wd5 : mv_Wd (Cond.lays "LazyPages$Page" "LazyPages$Page" "waiting" "J") := ⟨mv_w1 (List.mem_of_getElem? (i := 56) rfl), Or.inl rfl⟩
theorem wsX0_wd : ∀ w ∈ u_ws RX0 TX0 6, mv_Wd w := by
  intro w hw
  obtain ⟨k, hk, rfl⟩ := List.mem_map.mp hw
  have hk := List.mem_range.mp hk
  match k, hk with
  | 0, _ => exact wd0
  | 1, _ => exact wd1
  | 2, _ => exact wd2
  | 3, _ => exact wd3
  | 4, _ => exact wd4
  | 5, _ => exact wd5
  | n + 6, h => exact absurd h (by omega)
theorem wd6 : mv_Wd (Cond.laysFinal "LazyPages$PageTable" "LazyPages$PageTable" "pages" "[LLazyPages$Page;") := ⟨mv_w1 (List.mem_of_getElem? (i := 65) rfl), Or.inl rfl⟩
theorem wd7 : mv_Wd (Cond.lays "LazyPages$PageTable" "LazyPages$PageTable" "pageCount" "I") := ⟨mv_w1 (List.mem_of_getElem? (i := 67) rfl), Or.inl rfl⟩
theorem wd8 : mv_Wd (Cond.lays "LazyPages$PageTable" "LazyPages$PageTable" "size" "I") := ⟨mv_w1 (List.mem_of_getElem? (i := 69) rfl), Or.inl rfl⟩
theorem wsX1_wd : ∀ w ∈ u_ws RX1 TX1 3, mv_Wd w := by
  intro w hw
  obtain ⟨k, hk, rfl⟩ := List.mem_map.mp hw
  have hk := List.mem_range.mp hk
  match k, hk with
  | 0, _ => exact wd6
  | 1, _ => exact wd7
  | 2, _ => exact wd8
  | n + 3, h => exact absurd h (by omega)
theorem wd9 : mv_Wd (Cond.laysFinal "LazyPages" "LazyPages" "map" "LLazyPages$PageTable;") := ⟨mv_w1 (List.mem_of_getElem? (i := 79) rfl), Or.inl rfl⟩
theorem wd10 : mv_Wd (Cond.laysFinal "LazyPages" "LazyPages" "kept" "LLazyPages$PageTable;") := ⟨mv_w1 (List.mem_of_getElem? (i := 81) rfl), Or.inl rfl⟩
theorem wd11 : mv_Wd (Cond.laysFinal "LazyPages" "LazyPages" "views" "[LLazyPages$PageTable;") := ⟨mv_w1 (List.mem_of_getElem? (i := 83) rfl), Or.inl rfl⟩
theorem wd12 : mv_Wd (Cond.laysFinal "LazyPages" "LazyPages" "saved" "[Z") := ⟨mv_w1 (List.mem_of_getElem? (i := 85) rfl), Or.inl rfl⟩
theorem wd13 : mv_Wd (Cond.lays "LazyPages" "LazyPages" "messages" "I") := ⟨mv_w1 (List.mem_of_getElem? (i := 87) rfl), Or.inl rfl⟩
theorem wd14 : mv_Wd (Cond.lays "LazyPages" "LazyPages" "keptMessages" "I") := ⟨mv_w1 (List.mem_of_getElem? (i := 89) rfl), Or.inl rfl⟩
theorem wsX2_wd : ∀ w ∈ u_ws RX2 TX2 6, mv_Wd w := by
  intro w hw
  obtain ⟨k, hk, rfl⟩ := List.mem_map.mp hw
  have hk := List.mem_range.mp hk
  match k, hk with
  | 0, _ => exact wd9
  | 1, _ => exact wd10
  | 2, _ => exact wd11
  | 3, _ => exact wd12
  | 4, _ => exact wd13
  | 5, _ => exact wd14
  | n + 6, h => exact absurd h (by omega)
theorem wd15 : mv_Wd (Cond.lays "LazyPagesModel" "LazyPagesModel" "thrown" "I") := ⟨mv_w3 (List.mem_of_getElem? (i := 48) rfl), Or.inl rfl⟩
theorem wd16 : mv_Wd (Cond.laysFinal "LazyPagesModel" "LazyPagesModel" "keys" "[I") := ⟨mv_w3 (List.mem_of_getElem? (i := 50) rfl), Or.inl rfl⟩
theorem wd17 : mv_Wd (Cond.laysFinal "LazyPagesModel" "LazyPagesModel" "values" "[J") := ⟨mv_w3 (List.mem_of_getElem? (i := 52) rfl), Or.inl rfl⟩
theorem wd18 : mv_Wd (Cond.laysFinal "LazyPagesModel" "LazyPagesModel" "sizes" "[I") := ⟨mv_w3 (List.mem_of_getElem? (i := 54) rfl), Or.inl rfl⟩
theorem wd19 : mv_Wd (Cond.laysFinal "LazyPagesModel" "LazyPagesModel" "saved" "[Z") := ⟨mv_w3 (List.mem_of_getElem? (i := 56) rfl), Or.inl rfl⟩
theorem wd20 : mv_Wd (Cond.laysFinal "LazyPagesModel" "LazyPagesModel" "kinds" "[B") := ⟨mv_w3 (List.mem_of_getElem? (i := 58) rfl), Or.inl rfl⟩
theorem wd21 : mv_Wd (Cond.laysFinal "LazyPagesModel" "LazyPagesModel" "firsts" "[I") := ⟨mv_w3 (List.mem_of_getElem? (i := 60) rfl), Or.inl rfl⟩
theorem wd22 : mv_Wd (Cond.laysFinal "LazyPagesModel" "LazyPagesModel" "lasts" "[I") := ⟨mv_w3 (List.mem_of_getElem? (i := 62) rfl), Or.inl rfl⟩
theorem wd23 : mv_Wd (Cond.laysFinal "LazyPagesModel" "LazyPagesModel" "amounts" "[J") := ⟨mv_w3 (List.mem_of_getElem? (i := 64) rfl), Or.inl rfl⟩
theorem wd24 : mv_Wd (Cond.lays "LazyPagesModel" "LazyPagesModel" "messages" "I") := ⟨mv_w3 (List.mem_of_getElem? (i := 66) rfl), Or.inl rfl⟩
theorem wd25 : mv_Wd (Cond.lays "LazyPagesModel" "LazyPagesModel" "kept" "I") := ⟨mv_w3 (List.mem_of_getElem? (i := 68) rfl), Or.inl rfl⟩
theorem wsX3_wd : ∀ w ∈ u_ws RX3 TX3 11, mv_Wd w := by
  intro w hw
  obtain ⟨k, hk, rfl⟩ := List.mem_map.mp hw
  have hk := List.mem_range.mp hk
  match k, hk with
  | 0, _ => exact wd15
  | 1, _ => exact wd16
  | 2, _ => exact wd17
  | 3, _ => exact wd18
  | 4, _ => exact wd19
  | 5, _ => exact wd20
  | 6, _ => exact wd21
  | 7, _ => exact wd22
  | 8, _ => exact wd23
  | 9, _ => exact wd24
  | 10, _ => exact wd25
  | n + 11, h => exact absurd h (by omega)
theorem wd26 : mv_Wd (Cond.methodLink "LazyPages" 1 ⟨"java/lang/Object", "<init>", "()V"⟩) := ⟨mv_w1 (List.mem_of_getElem? (i := 18) rfl), Or.inl rfl⟩
theorem wd27 : mv_Wd (Cond.instanceMethod ⟨"java/lang/Object", "<init>", "()V"⟩) := ⟨mv_w1 (List.mem_of_getElem? (i := 19) rfl), Or.inl rfl⟩
theorem wd28 : mv_Wd (Cond.code ⟨"java/lang/Object", "<init>", "()V"⟩ object_method_1_code 1 (Option.none : Option FieldType)) := ⟨mv_w1 (List.mem_of_getElem? (i := 20) rfl), Or.inl rfl⟩
theorem wd29 : mv_Wd (Cond.classLink "LazyPages" 7 "LazyPages$PageTable") := ⟨mv_w1 (List.mem_of_getElem? (i := 21) rfl), Or.inl rfl⟩
theorem wd30 : mv_Wd (Cond.instantiable "LazyPages$PageTable" 3) := ⟨mv_w1 (List.mem_of_getElem? (i := 22) rfl), Or.inl rfl⟩
theorem wd31 : mv_Wd (Cond.initialized "LazyPages$PageTable") := ⟨mv_w1 (List.mem_of_getElem? (i := 2) rfl), Or.inl rfl⟩
theorem wd32 : mv_Wd (Cond.methodLink "LazyPages" 9 ⟨"LazyPages$PageTable", "<init>", "()V"⟩) := ⟨mv_w1 (List.mem_of_getElem? (i := 23) rfl), Or.inl rfl⟩
theorem wd33 : mv_Wd (Cond.code ⟨"LazyPages$PageTable", "<init>", "()V"⟩ prog_3_method_1_code 2 (Option.none : Option FieldType)) := ⟨mv_w1 (List.mem_of_getElem? (i := 25) rfl), Or.inl rfl⟩
theorem wd34 : mv_Wd (Cond.instanceMethod ⟨"LazyPages$PageTable", "<init>", "()V"⟩) := ⟨mv_w1 (List.mem_of_getElem? (i := 24) rfl), Or.inl rfl⟩
theorem wd35 : mv_Wd (Cond.fieldLink "LazyPages" 10 "LazyPages" "map" "LLazyPages$PageTable;") := ⟨mv_w1 (List.mem_of_getElem? (i := 73) rfl), Or.inl rfl⟩
theorem wd36 : mv_Wd (Cond.fieldLink "LazyPages" 16 "LazyPages" "kept" "LLazyPages$PageTable;") := ⟨mv_w1 (List.mem_of_getElem? (i := 74) rfl), Or.inl rfl⟩
theorem wd37 : mv_Wd (Cond.arrayOver (FieldType.object "LazyPages$PageTable")) := ⟨mv_w1 (List.mem_of_getElem? (i := 72) rfl), Or.inr (Or.inr (Or.inl ⟨_, rfl⟩))⟩
theorem wd38 : mv_Wd (Cond.fieldLink "LazyPages" 19 "LazyPages" "views" "[LLazyPages$PageTable;") := ⟨mv_w1 (List.mem_of_getElem? (i := 75) rfl), Or.inl rfl⟩
theorem wd39 : mv_Wd (Cond.arrayClass FieldType.boolean) := ⟨mv_w1 (List.mem_of_getElem? (i := 92) rfl), Or.inr (Or.inl ⟨_, rfl⟩)⟩
theorem wd40 : mv_Wd (Cond.fieldLink "LazyPages" 23 "LazyPages" "saved" "[Z") := ⟨mv_w1 (List.mem_of_getElem? (i := 76) rfl), Or.inl rfl⟩
theorem wd41 : mv_Wd (Cond.fieldLink "LazyPages" 27 "LazyPages" "messages" "I") := ⟨mv_w1 (List.mem_of_getElem? (i := 77) rfl), Or.inl rfl⟩
theorem wd42 : mv_Wd (Cond.fieldLink "LazyPages" 31 "LazyPages" "keptMessages" "I") := ⟨mv_w1 (List.mem_of_getElem? (i := 78) rfl), Or.inl rfl⟩
theorem wd43 : mv_Wd (Cond.methodLink "LazyPages" 34 ⟨"LazyPages", "requireAccepted", "(I)V"⟩) := ⟨mv_w1 (List.mem_of_getElem? (i := 159) rfl), Or.inl rfl⟩
theorem wd44 : mv_Wd (Cond.initialized "LazyPages") := ⟨mv_w1 (List.mem_of_getElem? (i := 1) rfl), Or.inl rfl⟩
theorem wd45 : mv_Wd (Cond.code ⟨"LazyPages", "requireAccepted", "(I)V"⟩ prog_1_method_24_code 2 (Option.none : Option FieldType)) := ⟨mv_w1 (List.mem_of_getElem? (i := 162) rfl), Or.inl rfl⟩
theorem wd46 : mv_Wd (Cond.instanceMethod ⟨"LazyPages", "requireAccepted", "(I)V"⟩) := ⟨mv_w1 (List.mem_of_getElem? (i := 161) rfl), Or.inl rfl⟩
theorem wd47 : mv_Wd (Cond.selects "LazyPages" ⟨"LazyPages", "requireAccepted", "(I)V"⟩ ⟨"LazyPages", "requireAccepted", "(I)V"⟩) := ⟨mv_wp (q := (⟨"LazyPages", "requireAccepted", "(I)V"⟩, 6)) (List.mem_append_left _ (List.mem_of_getElem? (i := 1) rfl)), Or.inl rfl⟩
theorem wd48 : mv_Wd (Cond.methodLink "LazyPages" 38 ⟨"LazyPages", "acceptValue", "(IJ)V"⟩) := ⟨mv_w2 (List.mem_of_getElem? (i := 11) rfl), Or.inl rfl⟩
theorem wd49 : mv_Wd (Cond.code ⟨"LazyPages", "acceptValue", "(IJ)V"⟩ prog_1_method_28_code 4 (Option.none : Option FieldType)) := ⟨mv_w2 (List.mem_of_getElem? (i := 14) rfl), Or.inl rfl⟩
theorem wd50 : mv_Wd (Cond.instanceMethod ⟨"LazyPages", "acceptValue", "(IJ)V"⟩) := ⟨mv_w2 (List.mem_of_getElem? (i := 13) rfl), Or.inl rfl⟩
theorem wd51 : mv_Wd (Cond.selects "LazyPages" ⟨"LazyPages", "acceptValue", "(IJ)V"⟩ ⟨"LazyPages", "acceptValue", "(IJ)V"⟩) := ⟨mv_wp (q := (⟨"LazyPages", "acceptValue", "(IJ)V"⟩, 6)) (List.mem_append_left _ (List.mem_of_getElem? (i := 4) rfl)), Or.inl rfl⟩
theorem wd52 : mv_Wd (Cond.methodLink "LazyPages" 42 ⟨"LazyPages$PageTable", "valueOf", "(I)J"⟩) := ⟨mv_w2 (List.mem_of_getElem? (i := 55) rfl), Or.inl rfl⟩
theorem wd53 : mv_Wd (Cond.code ⟨"LazyPages$PageTable", "valueOf", "(I)J"⟩ prog_3_method_4_code 4 (Option.some FieldType.long)) := ⟨mv_w2 (List.mem_of_getElem? (i := 58) rfl), Or.inl rfl⟩
theorem wd54 : mv_Wd (Cond.instanceMethod ⟨"LazyPages$PageTable", "valueOf", "(I)J"⟩) := ⟨mv_w2 (List.mem_of_getElem? (i := 56) rfl), Or.inl rfl⟩
theorem wd55 : mv_Wd (Cond.selects "LazyPages$PageTable" ⟨"LazyPages$PageTable", "valueOf", "(I)J"⟩ ⟨"LazyPages$PageTable", "valueOf", "(I)J"⟩) := ⟨mv_w2 (List.mem_of_getElem? (i := 57) rfl), Or.inl rfl⟩
theorem wd56 : mv_Wd (Cond.methodLink "LazyPages" 46 ⟨"LazyPages$PageTable", "holds", "(I)Z"⟩) := ⟨mv_w1 (List.mem_of_getElem? (i := 167) rfl), Or.inl rfl⟩
theorem wd57 : mv_Wd (Cond.code ⟨"LazyPages$PageTable", "holds", "(I)Z"⟩ prog_3_method_3_code 3 (Option.some FieldType.boolean)) := ⟨mv_w1 (List.mem_of_getElem? (i := 170) rfl), Or.inl rfl⟩
theorem wd58 : mv_Wd (Cond.instanceMethod ⟨"LazyPages$PageTable", "holds", "(I)Z"⟩) := ⟨mv_w1 (List.mem_of_getElem? (i := 168) rfl), Or.inl rfl⟩
theorem wd59 : mv_Wd (Cond.selects "LazyPages$PageTable" ⟨"LazyPages$PageTable", "holds", "(I)Z"⟩ ⟨"LazyPages$PageTable", "holds", "(I)Z"⟩) := ⟨mv_w1 (List.mem_of_getElem? (i := 169) rfl), Or.inl rfl⟩
theorem wd60 : mv_Wd (Cond.methodLink "LazyPages" 50 ⟨"java/lang/Math", "max", "(JJ)J"⟩) := ⟨mv_w2 (List.mem_of_getElem? (i := 67) rfl), Or.inl rfl⟩
theorem wd61 : mv_Wd (Cond.static ⟨"java/lang/Math", "max", "(JJ)J"⟩) := ⟨mv_w2 (List.mem_of_getElem? (i := 68) rfl), Or.inl rfl⟩
theorem wd62 : mv_Wd (Cond.initialized "java/lang/Math") := ⟨mv_w1 (List.mem_of_getElem? (i := 10) rfl), Or.inl rfl⟩
theorem wd63 : mv_Wd (Cond.code ⟨"java/lang/Math", "max", "(JJ)J"⟩ prog_9_method_66_code 4 (Option.some FieldType.long)) := ⟨mv_w2 (List.mem_of_getElem? (i := 69) rfl), Or.inl rfl⟩
theorem wd64 : mv_Wd (Cond.methodLink "LazyPages" 56 ⟨"LazyPages", "requireRange", "(II)V"⟩) := ⟨mv_w2 (List.mem_of_getElem? (i := 78) rfl), Or.inl rfl⟩
theorem wd65 : mv_Wd (Cond.code ⟨"LazyPages", "requireRange", "(II)V"⟩ prog_1_method_26_code 2 (Option.none : Option FieldType)) := ⟨mv_w2 (List.mem_of_getElem? (i := 80) rfl), Or.inl rfl⟩
theorem wd66 : mv_Wd (Cond.static ⟨"LazyPages", "requireRange", "(II)V"⟩) := ⟨mv_w2 (List.mem_of_getElem? (i := 79) rfl), Or.inl rfl⟩
theorem wd67 : mv_Wd (Cond.methodLink "LazyPages" 60 ⟨"LazyPages", "requireRoomFor", "(I)V"⟩) := ⟨mv_w2 (List.mem_of_getElem? (i := 97) rfl), Or.inl rfl⟩
theorem wd68 : mv_Wd (Cond.code ⟨"LazyPages", "requireRoomFor", "(I)V"⟩ prog_1_method_25_code 2 (Option.none : Option FieldType)) := ⟨mv_w2 (List.mem_of_getElem? (i := 100) rfl), Or.inl rfl⟩
theorem wd69 : mv_Wd (Cond.instanceMethod ⟨"LazyPages", "requireRoomFor", "(I)V"⟩) := ⟨mv_w2 (List.mem_of_getElem? (i := 99) rfl), Or.inl rfl⟩
theorem wd70 : mv_Wd (Cond.selects "LazyPages" ⟨"LazyPages", "requireRoomFor", "(I)V"⟩ ⟨"LazyPages", "requireRoomFor", "(I)V"⟩) := ⟨mv_wp (q := (⟨"LazyPages", "requireRoomFor", "(I)V"⟩, 6)) (List.mem_append_left _ (List.mem_of_getElem? (i := 5) rfl)), Or.inl rfl⟩
theorem wd71 : mv_Wd (Cond.fieldLink "LazyPages" 63 "LazyPages$PageTable" "size" "I") := ⟨mv_w1 (List.mem_of_getElem? (i := 64) rfl), Or.inl rfl⟩
theorem wd72 : mv_Wd (Cond.methodLink "LazyPages" 66 ⟨"LazyPages$PageTable", "removeIn", "(II)V"⟩) := ⟨mv_w2 (List.mem_of_getElem? (i := 102) rfl), Or.inl rfl⟩
theorem wd73 : mv_Wd (Cond.code ⟨"LazyPages$PageTable", "removeIn", "(II)V"⟩ prog_3_method_8_code 5 (Option.none : Option FieldType)) := ⟨mv_w2 (List.mem_of_getElem? (i := 105) rfl), Or.inl rfl⟩
theorem wd74 : mv_Wd (Cond.instanceMethod ⟨"LazyPages$PageTable", "removeIn", "(II)V"⟩) := ⟨mv_w2 (List.mem_of_getElem? (i := 103) rfl), Or.inl rfl⟩
theorem wd75 : mv_Wd (Cond.selects "LazyPages$PageTable" ⟨"LazyPages$PageTable", "removeIn", "(II)V"⟩ ⟨"LazyPages$PageTable", "removeIn", "(II)V"⟩) := ⟨mv_w2 (List.mem_of_getElem? (i := 104) rfl), Or.inl rfl⟩
theorem wd76 : mv_Wd (Cond.methodLink "LazyPages" 69 ⟨"LazyPages$PageTable", "raiseIn", "(IIJ)V"⟩) := ⟨mv_w2 (List.mem_of_getElem? (i := 127) rfl), Or.inl rfl⟩
theorem wd77 : mv_Wd (Cond.code ⟨"LazyPages$PageTable", "raiseIn", "(IIJ)V"⟩ prog_3_method_9_code 7 (Option.none : Option FieldType)) := ⟨mv_w2 (List.mem_of_getElem? (i := 130) rfl), Or.inl rfl⟩
theorem wd78 : mv_Wd (Cond.instanceMethod ⟨"LazyPages$PageTable", "raiseIn", "(IIJ)V"⟩) := ⟨mv_w2 (List.mem_of_getElem? (i := 128) rfl), Or.inl rfl⟩
theorem wd79 : mv_Wd (Cond.selects "LazyPages$PageTable" ⟨"LazyPages$PageTable", "raiseIn", "(IIJ)V"⟩ ⟨"LazyPages$PageTable", "raiseIn", "(IIJ)V"⟩) := ⟨mv_w2 (List.mem_of_getElem? (i := 129) rfl), Or.inl rfl⟩
theorem wd80 : mv_Wd (Cond.methodLink "LazyPages" 73 ⟨"LazyPages$PageTable", "countIn", "(II)I"⟩) := ⟨mv_w2 (List.mem_of_getElem? (i := 135) rfl), Or.inl rfl⟩
theorem wd81 : mv_Wd (Cond.code ⟨"LazyPages$PageTable", "countIn", "(II)I"⟩ prog_3_method_10_code 6 (Option.some FieldType.int)) := ⟨mv_w2 (List.mem_of_getElem? (i := 138) rfl), Or.inl rfl⟩
theorem wd82 : mv_Wd (Cond.instanceMethod ⟨"LazyPages$PageTable", "countIn", "(II)I"⟩) := ⟨mv_w2 (List.mem_of_getElem? (i := 136) rfl), Or.inl rfl⟩
theorem wd83 : mv_Wd (Cond.selects "LazyPages$PageTable" ⟨"LazyPages$PageTable", "countIn", "(II)I"⟩ ⟨"LazyPages$PageTable", "countIn", "(II)I"⟩) := ⟨mv_w2 (List.mem_of_getElem? (i := 137) rfl), Or.inl rfl⟩
theorem wd84 : mv_Wd (Cond.methodLink "LazyPages" 84 ⟨"LazyPages", "accepts", "(I)Z"⟩) := ⟨mv_w1 (List.mem_of_getElem? (i := 163) rfl), Or.inl rfl⟩
theorem wd85 : mv_Wd (Cond.code ⟨"LazyPages", "accepts", "(I)Z"⟩ prog_1_method_23_code 2 (Option.some FieldType.boolean)) := ⟨mv_w1 (List.mem_of_getElem? (i := 166) rfl), Or.inl rfl⟩
theorem wd86 : mv_Wd (Cond.instanceMethod ⟨"LazyPages", "accepts", "(I)Z"⟩) := ⟨mv_w1 (List.mem_of_getElem? (i := 165) rfl), Or.inl rfl⟩
theorem wd87 : mv_Wd (Cond.selects "LazyPages" ⟨"LazyPages", "accepts", "(I)Z"⟩ ⟨"LazyPages", "accepts", "(I)Z"⟩) := ⟨mv_wp (q := (⟨"LazyPages", "accepts", "(I)Z"⟩, 6)) (List.mem_append_left _ (List.mem_of_getElem? (i := 2) rfl)), Or.inl rfl⟩
theorem wd88 : mv_Wd (Cond.methodLink "LazyPages" 87 ⟨"LazyPages", "tableOf", "(I)LLazyPages$PageTable;"⟩) := ⟨mv_w2 (List.mem_of_getElem? (i := 155) rfl), Or.inl rfl⟩
theorem wd89 : mv_Wd (Cond.code ⟨"LazyPages", "tableOf", "(I)LLazyPages$PageTable;"⟩ prog_1_method_29_code 2 (Option.some (FieldType.object "LazyPages$PageTable"))) := ⟨mv_w2 (List.mem_of_getElem? (i := 158) rfl), Or.inl rfl⟩
theorem wd90 : mv_Wd (Cond.instanceMethod ⟨"LazyPages", "tableOf", "(I)LLazyPages$PageTable;"⟩) := ⟨mv_w2 (List.mem_of_getElem? (i := 157) rfl), Or.inl rfl⟩
theorem wd91 : mv_Wd (Cond.selects "LazyPages" ⟨"LazyPages", "tableOf", "(I)LLazyPages$PageTable;"⟩ ⟨"LazyPages", "tableOf", "(I)LLazyPages$PageTable;"⟩) := ⟨mv_wp (q := (⟨"LazyPages", "tableOf", "(I)LLazyPages$PageTable;"⟩, 6)) (List.mem_append_left _ (List.mem_of_getElem? (i := 6) rfl)), Or.inl rfl⟩
theorem wd92 : mv_Wd (Cond.methodLink "LazyPages" 91 ⟨"LazyPages$PageTable", "sumIn", "(II)J"⟩) := ⟨mv_w2 (List.mem_of_getElem? (i := 204) rfl), Or.inl rfl⟩
theorem wd93 : mv_Wd (Cond.code ⟨"LazyPages$PageTable", "sumIn", "(II)J"⟩ prog_3_method_11_code 7 (Option.some FieldType.long)) := ⟨mv_w2 (List.mem_of_getElem? (i := 207) rfl), Or.inl rfl⟩
theorem wd94 : mv_Wd (Cond.instanceMethod ⟨"LazyPages$PageTable", "sumIn", "(II)J"⟩) := ⟨mv_w2 (List.mem_of_getElem? (i := 205) rfl), Or.inl rfl⟩
theorem wd95 : mv_Wd (Cond.selects "LazyPages$PageTable" ⟨"LazyPages$PageTable", "sumIn", "(II)J"⟩ ⟨"LazyPages$PageTable", "sumIn", "(II)J"⟩) := ⟨mv_w2 (List.mem_of_getElem? (i := 206) rfl), Or.inl rfl⟩
theorem wd96 : mv_Wd (Cond.constant "LazyPages" 97 (2147483647)) := ⟨mv_w2 (List.mem_of_getElem? (i := 219) rfl), Or.inl rfl⟩
theorem wd97 : mv_Wd (Cond.methodLink "LazyPages" 100 ⟨"LazyPages$PageTable", "keyAt", "(I)I"⟩) := ⟨mv_w2 (List.mem_of_getElem? (i := 221) rfl), Or.inl rfl⟩
theorem wd98 : mv_Wd (Cond.code ⟨"LazyPages$PageTable", "keyAt", "(I)I"⟩ prog_3_method_12_code 4 (Option.some FieldType.int)) := ⟨mv_w2 (List.mem_of_getElem? (i := 224) rfl), Or.inl rfl⟩
theorem wd99 : mv_Wd (Cond.instanceMethod ⟨"LazyPages$PageTable", "keyAt", "(I)I"⟩) := ⟨mv_w2 (List.mem_of_getElem? (i := 222) rfl), Or.inl rfl⟩
theorem wd100 : mv_Wd (Cond.selects "LazyPages$PageTable" ⟨"LazyPages$PageTable", "keyAt", "(I)I"⟩ ⟨"LazyPages$PageTable", "keyAt", "(I)I"⟩) := ⟨mv_w2 (List.mem_of_getElem? (i := 223) rfl), Or.inl rfl⟩
theorem wd101 : mv_Wd (Cond.methodLink "LazyPages" 104 ⟨"LazyPages", "requireViewNumber", "(I)V"⟩) := ⟨mv_w2 (List.mem_of_getElem? (i := 163) rfl), Or.inl rfl⟩
theorem wd102 : mv_Wd (Cond.code ⟨"LazyPages", "requireViewNumber", "(I)V"⟩ prog_1_method_27_code 1 (Option.none : Option FieldType)) := ⟨mv_w2 (List.mem_of_getElem? (i := 165) rfl), Or.inl rfl⟩
theorem wd103 : mv_Wd (Cond.static ⟨"LazyPages", "requireViewNumber", "(I)V"⟩) := ⟨mv_w2 (List.mem_of_getElem? (i := 164) rfl), Or.inl rfl⟩
theorem wd104 : mv_Wd (Cond.methodLink "LazyPages" 107 ⟨"LazyPages$PageTable", "copyFrom", "(LLazyPages$PageTable;)V"⟩) := ⟨mv_w1 (List.mem_of_getElem? (i := 113) rfl), Or.inl rfl⟩
theorem wd105 : mv_Wd (Cond.code ⟨"LazyPages$PageTable", "copyFrom", "(LLazyPages$PageTable;)V"⟩ prog_3_method_15_code 3 (Option.none : Option FieldType)) := ⟨mv_w1 (List.mem_of_getElem? (i := 116) rfl), Or.inl rfl⟩
theorem wd106 : mv_Wd (Cond.instanceMethod ⟨"LazyPages$PageTable", "copyFrom", "(LLazyPages$PageTable;)V"⟩) := ⟨mv_w1 (List.mem_of_getElem? (i := 114) rfl), Or.inl rfl⟩
theorem wd107 : mv_Wd (Cond.selects "LazyPages$PageTable" ⟨"LazyPages$PageTable", "copyFrom", "(LLazyPages$PageTable;)V"⟩ ⟨"LazyPages$PageTable", "copyFrom", "(LLazyPages$PageTable;)V"⟩) := ⟨mv_w1 (List.mem_of_getElem? (i := 115) rfl), Or.inl rfl⟩
theorem wd108 : mv_Wd (Cond.methodLink "LazyPages" 111 ⟨"LazyPages", "savedView", "(I)LLazyPages$PageTable;"⟩) := ⟨mv_w2 (List.mem_of_getElem? (i := 159) rfl), Or.inl rfl⟩
theorem wd109 : mv_Wd (Cond.code ⟨"LazyPages", "savedView", "(I)LLazyPages$PageTable;"⟩ prog_1_method_30_code 2 (Option.some (FieldType.object "LazyPages$PageTable"))) := ⟨mv_w2 (List.mem_of_getElem? (i := 162) rfl), Or.inl rfl⟩
theorem wd110 : mv_Wd (Cond.instanceMethod ⟨"LazyPages", "savedView", "(I)LLazyPages$PageTable;"⟩) := ⟨mv_w2 (List.mem_of_getElem? (i := 161) rfl), Or.inl rfl⟩
theorem wd111 : mv_Wd (Cond.selects "LazyPages" ⟨"LazyPages", "savedView", "(I)LLazyPages$PageTable;"⟩ ⟨"LazyPages", "savedView", "(I)LLazyPages$PageTable;"⟩) := ⟨mv_wp (q := (⟨"LazyPages", "savedView", "(I)LLazyPages$PageTable;"⟩, 6)) (List.mem_append_left _ (List.mem_of_getElem? (i := 7) rfl)), Or.inl rfl⟩
theorem wd112 : mv_Wd (Cond.methodLink "LazyPages" 114 ⟨"LazyPages$PageTable", "differencesFrom", "(LLazyPages$PageTable;)I"⟩) := ⟨mv_w3 (List.mem_of_getElem? (i := 13) rfl), Or.inl rfl⟩
theorem wd113 : mv_Wd (Cond.code ⟨"LazyPages$PageTable", "differencesFrom", "(LLazyPages$PageTable;)I"⟩ prog_3_method_13_code 8 (Option.some FieldType.int)) := ⟨mv_w3 (List.mem_of_getElem? (i := 16) rfl), Or.inl rfl⟩
theorem wd114 : mv_Wd (Cond.instanceMethod ⟨"LazyPages$PageTable", "differencesFrom", "(LLazyPages$PageTable;)I"⟩) := ⟨mv_w3 (List.mem_of_getElem? (i := 14) rfl), Or.inl rfl⟩
theorem wd115 : mv_Wd (Cond.selects "LazyPages$PageTable" ⟨"LazyPages$PageTable", "differencesFrom", "(LLazyPages$PageTable;)I"⟩ ⟨"LazyPages$PageTable", "differencesFrom", "(LLazyPages$PageTable;)I"⟩) := ⟨mv_w3 (List.mem_of_getElem? (i := 15) rfl), Or.inl rfl⟩
theorem wd116 : mv_Wd (Cond.methodLink "LazyPages" 118 ⟨"LazyPages$PageTable", "pushAllDown", "()V"⟩) := ⟨mv_w1 (List.mem_of_getElem? (i := 97) rfl), Or.inl rfl⟩
theorem wd117 : mv_Wd (Cond.code ⟨"LazyPages$PageTable", "pushAllDown", "()V"⟩ prog_3_method_14_code 2 (Option.none : Option FieldType)) := ⟨mv_w1 (List.mem_of_getElem? (i := 100) rfl), Or.inl rfl⟩
theorem wd118 : mv_Wd (Cond.instanceMethod ⟨"LazyPages$PageTable", "pushAllDown", "()V"⟩) := ⟨mv_w1 (List.mem_of_getElem? (i := 98) rfl), Or.inl rfl⟩
theorem wd119 : mv_Wd (Cond.selects "LazyPages$PageTable" ⟨"LazyPages$PageTable", "pushAllDown", "()V"⟩ ⟨"LazyPages$PageTable", "pushAllDown", "()V"⟩) := ⟨mv_w1 (List.mem_of_getElem? (i := 99) rfl), Or.inl rfl⟩
theorem wd120 : mv_Wd (Cond.methodLink "LazyPages" 121 ⟨"LazyPages", "keepMessages", "()I"⟩) := ⟨mv_w1 (List.mem_of_getElem? (i := 109) rfl), Or.inl rfl⟩
theorem wd121 : mv_Wd (Cond.code ⟨"LazyPages", "keepMessages", "()I"⟩ prog_1_method_32_code 2 (Option.some FieldType.int)) := ⟨mv_w1 (List.mem_of_getElem? (i := 112) rfl), Or.inl rfl⟩
theorem wd122 : mv_Wd (Cond.instanceMethod ⟨"LazyPages", "keepMessages", "()I"⟩) := ⟨mv_w1 (List.mem_of_getElem? (i := 111) rfl), Or.inl rfl⟩
theorem wd123 : mv_Wd (Cond.selects "LazyPages" ⟨"LazyPages", "keepMessages", "()I"⟩ ⟨"LazyPages", "keepMessages", "()I"⟩) := ⟨mv_wp (q := (⟨"LazyPages", "keepMessages", "()I"⟩, 6)) (List.mem_append_left _ (List.mem_of_getElem? (i := 0) rfl)), Or.inl rfl⟩
theorem wd124 : mv_Wd (Cond.methodLink "LazyPages" 125 ⟨"LazyPages", "savedViews", "()I"⟩) := ⟨mv_w3 (List.mem_of_getElem? (i := 26) rfl), Or.inl rfl⟩
theorem wd125 : mv_Wd (Cond.code ⟨"LazyPages", "savedViews", "()I"⟩ prog_1_method_31_code 3 (Option.some FieldType.int)) := ⟨mv_w3 (List.mem_of_getElem? (i := 29) rfl), Or.inl rfl⟩
theorem wd126 : mv_Wd (Cond.instanceMethod ⟨"LazyPages", "savedViews", "()I"⟩) := ⟨mv_w3 (List.mem_of_getElem? (i := 28) rfl), Or.inl rfl⟩
theorem wd127 : mv_Wd (Cond.selects "LazyPages" ⟨"LazyPages", "savedViews", "()I"⟩ ⟨"LazyPages", "savedViews", "()I"⟩) := ⟨mv_wp (q := (⟨"LazyPages", "savedViews", "()I"⟩, 6)) (List.mem_append_left _ (List.mem_of_getElem? (i := 8) rfl)), Or.inl rfl⟩
theorem wd128 : mv_Wd (Cond.methodLink "LazyPages" 130 ⟨"LazyPages$PageTable", "isInOrder", "()Z"⟩) := ⟨mv_w1 (List.mem_of_getElem? (i := 137) rfl), Or.inl rfl⟩
theorem wd129 : mv_Wd (Cond.code ⟨"LazyPages$PageTable", "isInOrder", "()Z"⟩ prog_3_method_16_code 3 (Option.some FieldType.boolean)) := ⟨mv_w1 (List.mem_of_getElem? (i := 140) rfl), Or.inl rfl⟩
theorem wd130 : mv_Wd (Cond.instanceMethod ⟨"LazyPages$PageTable", "isInOrder", "()Z"⟩) := ⟨mv_w1 (List.mem_of_getElem? (i := 138) rfl), Or.inl rfl⟩
theorem wd131 : mv_Wd (Cond.selects "LazyPages$PageTable" ⟨"LazyPages$PageTable", "isInOrder", "()Z"⟩ ⟨"LazyPages$PageTable", "isInOrder", "()Z"⟩) := ⟨mv_w1 (List.mem_of_getElem? (i := 139) rfl), Or.inl rfl⟩
theorem wd132 : mv_Wd (Cond.methodLink "LazyPages" 148 ⟨"LazyPages$PageTable", "write", "(IJ)V"⟩) := ⟨mv_w2 (List.mem_of_getElem? (i := 15) rfl), Or.inl rfl⟩
theorem wd133 : mv_Wd (Cond.code ⟨"LazyPages$PageTable", "write", "(IJ)V"⟩ prog_3_method_5_code 5 (Option.none : Option FieldType)) := ⟨mv_w2 (List.mem_of_getElem? (i := 18) rfl), Or.inl rfl⟩
theorem wd134 : mv_Wd (Cond.instanceMethod ⟨"LazyPages$PageTable", "write", "(IJ)V"⟩) := ⟨mv_w2 (List.mem_of_getElem? (i := 16) rfl), Or.inl rfl⟩
theorem wd135 : mv_Wd (Cond.selects "LazyPages$PageTable" ⟨"LazyPages$PageTable", "write", "(IJ)V"⟩ ⟨"LazyPages$PageTable", "write", "(IJ)V"⟩) := ⟨mv_w2 (List.mem_of_getElem? (i := 17) rfl), Or.inl rfl⟩
theorem wd136 : mv_Wd (Cond.methodLink "LazyPagesModel" 1 ⟨"java/lang/Object", "<init>", "()V"⟩) := ⟨mv_w3 (List.mem_of_getElem? (i := 36) rfl), Or.inl rfl⟩
theorem wd137 : mv_Wd (Cond.arrayClass FieldType.int) := ⟨mv_w1 (List.mem_of_getElem? (i := 59) rfl), Or.inr (Or.inl ⟨_, rfl⟩)⟩
theorem wd138 : mv_Wd (Cond.fieldLink "LazyPagesModel" 7 "LazyPagesModel" "keys" "[I") := ⟨mv_w3 (List.mem_of_getElem? (i := 38) rfl), Or.inl rfl⟩
theorem wd139 : mv_Wd (Cond.arrayClass FieldType.long) := ⟨mv_w1 (List.mem_of_getElem? (i := 60) rfl), Or.inr (Or.inl ⟨_, rfl⟩)⟩
theorem wd140 : mv_Wd (Cond.fieldLink "LazyPagesModel" 13 "LazyPagesModel" "values" "[J") := ⟨mv_w3 (List.mem_of_getElem? (i := 39) rfl), Or.inl rfl⟩
theorem wd141 : mv_Wd (Cond.fieldLink "LazyPagesModel" 17 "LazyPagesModel" "sizes" "[I") := ⟨mv_w3 (List.mem_of_getElem? (i := 40) rfl), Or.inl rfl⟩
theorem wd142 : mv_Wd (Cond.fieldLink "LazyPagesModel" 20 "LazyPagesModel" "saved" "[Z") := ⟨mv_w3 (List.mem_of_getElem? (i := 41) rfl), Or.inl rfl⟩
theorem wd143 : mv_Wd (Cond.arrayClass FieldType.byte) := ⟨mv_w2 (List.mem_of_getElem? (i := 10) rfl), Or.inr (Or.inl ⟨_, rfl⟩)⟩
theorem wd144 : mv_Wd (Cond.fieldLink "LazyPagesModel" 24 "LazyPagesModel" "kinds" "[B") := ⟨mv_w3 (List.mem_of_getElem? (i := 42) rfl), Or.inl rfl⟩
theorem wd145 : mv_Wd (Cond.fieldLink "LazyPagesModel" 28 "LazyPagesModel" "firsts" "[I") := ⟨mv_w3 (List.mem_of_getElem? (i := 43) rfl), Or.inl rfl⟩
theorem wd146 : mv_Wd (Cond.fieldLink "LazyPagesModel" 31 "LazyPagesModel" "lasts" "[I") := ⟨mv_w3 (List.mem_of_getElem? (i := 44) rfl), Or.inl rfl⟩
theorem wd147 : mv_Wd (Cond.fieldLink "LazyPagesModel" 34 "LazyPagesModel" "amounts" "[J") := ⟨mv_w3 (List.mem_of_getElem? (i := 45) rfl), Or.inl rfl⟩
theorem wd148 : mv_Wd (Cond.fieldLink "LazyPagesModel" 37 "LazyPagesModel" "thrown" "I") := ⟨mv_w3 (List.mem_of_getElem? (i := 37) rfl), Or.inl rfl⟩
theorem wd149 : mv_Wd (Cond.methodLink "LazyPagesModel" 41 ⟨"LazyPagesModel", "below", "(IJ)I"⟩) := ⟨mv_w3 (List.mem_of_getElem? (i := 87) rfl), Or.inl rfl⟩
theorem wd150 : mv_Wd (Cond.initialized "LazyPagesModel") := ⟨mv_w1 (List.mem_of_getElem? (i := 4) rfl), Or.inl rfl⟩
theorem wd151 : mv_Wd (Cond.code ⟨"LazyPagesModel", "below", "(IJ)I"⟩ prog_5_method_3_code 5 (Option.some FieldType.int)) := ⟨mv_w3 (List.mem_of_getElem? (i := 90) rfl), Or.inl rfl⟩
theorem wd152 : mv_Wd (Cond.instanceMethod ⟨"LazyPagesModel", "below", "(IJ)I"⟩) := ⟨mv_w3 (List.mem_of_getElem? (i := 89) rfl), Or.inl rfl⟩
theorem wd153 : mv_Wd (Cond.selects "LazyPagesModel" ⟨"LazyPagesModel", "below", "(IJ)I"⟩ ⟨"LazyPagesModel", "below", "(IJ)I"⟩) := ⟨mv_wp (q := (⟨"LazyPagesModel", "below", "(IJ)I"⟩, 11)) (List.mem_append_left _ (List.mem_of_getElem? (i := 11) rfl)), Or.inl rfl⟩
theorem wd154 : mv_Wd (Cond.methodLink "LazyPagesModel" 45 ⟨"LazyPagesModel", "isIn", "(II)Z"⟩) := ⟨mv_w3 (List.mem_of_getElem? (i := 83) rfl), Or.inl rfl⟩
theorem wd155 : mv_Wd (Cond.code ⟨"LazyPagesModel", "isIn", "(II)Z"⟩ prog_5_method_4_code 4 (Option.some FieldType.boolean)) := ⟨mv_w3 (List.mem_of_getElem? (i := 86) rfl), Or.inl rfl⟩
theorem wd156 : mv_Wd (Cond.instanceMethod ⟨"LazyPagesModel", "isIn", "(II)Z"⟩) := ⟨mv_w3 (List.mem_of_getElem? (i := 85) rfl), Or.inl rfl⟩
theorem wd157 : mv_Wd (Cond.selects "LazyPagesModel" ⟨"LazyPagesModel", "isIn", "(II)Z"⟩ ⟨"LazyPagesModel", "isIn", "(II)Z"⟩) := ⟨mv_wp (q := (⟨"LazyPagesModel", "isIn", "(II)Z"⟩, 11)) (List.mem_append_left _ (List.mem_of_getElem? (i := 10) rfl)), Or.inl rfl⟩
theorem wd158 : mv_Wd (Cond.methodLink "LazyPagesModel" 49 ⟨"LazyPagesModel", "doDelete", "(II)I"⟩) := ⟨mv_w3 (List.mem_of_getElem? (i := 99) rfl), Or.inl rfl⟩
theorem wd159 : mv_Wd (Cond.code ⟨"LazyPagesModel", "doDelete", "(II)I"⟩ prog_5_method_7_code 6 (Option.some FieldType.int)) := ⟨mv_w3 (List.mem_of_getElem? (i := 102) rfl), Or.inl rfl⟩
theorem wd160 : mv_Wd (Cond.instanceMethod ⟨"LazyPagesModel", "doDelete", "(II)I"⟩) := ⟨mv_w3 (List.mem_of_getElem? (i := 101) rfl), Or.inl rfl⟩
theorem wd161 : mv_Wd (Cond.selects "LazyPagesModel" ⟨"LazyPagesModel", "doDelete", "(II)I"⟩ ⟨"LazyPagesModel", "doDelete", "(II)I"⟩) := ⟨mv_wp (q := (⟨"LazyPagesModel", "doDelete", "(II)I"⟩, 11)) (List.mem_append_left _ (List.mem_of_getElem? (i := 14) rfl)), Or.inl rfl⟩
theorem wd162 : mv_Wd (Cond.methodLink "LazyPagesModel" 53 ⟨"LazyPagesModel", "doRaise", "(IIJ)I"⟩) := ⟨mv_w3 (List.mem_of_getElem? (i := 103) rfl), Or.inl rfl⟩
theorem wd163 : mv_Wd (Cond.code ⟨"LazyPagesModel", "doRaise", "(IIJ)I"⟩ prog_5_method_8_code 8 (Option.some FieldType.int)) := ⟨mv_w3 (List.mem_of_getElem? (i := 106) rfl), Or.inl rfl⟩
theorem wd164 : mv_Wd (Cond.instanceMethod ⟨"LazyPagesModel", "doRaise", "(IIJ)I"⟩) := ⟨mv_w3 (List.mem_of_getElem? (i := 105) rfl), Or.inl rfl⟩
theorem wd165 : mv_Wd (Cond.selects "LazyPagesModel" ⟨"LazyPagesModel", "doRaise", "(IIJ)I"⟩ ⟨"LazyPagesModel", "doRaise", "(IIJ)I"⟩) := ⟨mv_wp (q := (⟨"LazyPagesModel", "doRaise", "(IIJ)I"⟩, 11)) (List.mem_append_left _ (List.mem_of_getElem? (i := 15) rfl)), Or.inl rfl⟩
theorem wd166 : mv_Wd (Cond.methodLink "LazyPagesModel" 57 ⟨"LazyPagesModel", "valueIn", "(II)J"⟩) := ⟨mv_w3 (List.mem_of_getElem? (i := 107) rfl), Or.inl rfl⟩
theorem wd167 : mv_Wd (Cond.code ⟨"LazyPagesModel", "valueIn", "(II)J"⟩ prog_5_method_5_code 3 (Option.some FieldType.long)) := ⟨mv_w3 (List.mem_of_getElem? (i := 110) rfl), Or.inl rfl⟩
theorem wd168 : mv_Wd (Cond.instanceMethod ⟨"LazyPagesModel", "valueIn", "(II)J"⟩) := ⟨mv_w3 (List.mem_of_getElem? (i := 109) rfl), Or.inl rfl⟩
theorem wd169 : mv_Wd (Cond.selects "LazyPagesModel" ⟨"LazyPagesModel", "valueIn", "(II)J"⟩ ⟨"LazyPagesModel", "valueIn", "(II)J"⟩) := ⟨mv_wp (q := (⟨"LazyPagesModel", "valueIn", "(II)J"⟩, 11)) (List.mem_append_right _ (List.mem_of_getElem? (i := 0) rfl)), Or.inl rfl⟩
theorem wd170 : mv_Wd (Cond.methodLink "LazyPagesModel" 61 ⟨"LazyPagesModel", "enter", "(IJ)V"⟩) := ⟨mv_w3 (List.mem_of_getElem? (i := 111) rfl), Or.inl rfl⟩
theorem wd171 : mv_Wd (Cond.code ⟨"LazyPagesModel", "enter", "(IJ)V"⟩ prog_5_method_6_code 6 (Option.none : Option FieldType)) := ⟨mv_w3 (List.mem_of_getElem? (i := 114) rfl), Or.inl rfl⟩
theorem wd172 : mv_Wd (Cond.instanceMethod ⟨"LazyPagesModel", "enter", "(IJ)V"⟩) := ⟨mv_w3 (List.mem_of_getElem? (i := 113) rfl), Or.inl rfl⟩
theorem wd173 : mv_Wd (Cond.selects "LazyPagesModel" ⟨"LazyPagesModel", "enter", "(IJ)V"⟩ ⟨"LazyPagesModel", "enter", "(IJ)V"⟩) := ⟨mv_wp (q := (⟨"LazyPagesModel", "enter", "(IJ)V"⟩, 11)) (List.mem_append_right _ (List.mem_of_getElem? (i := 1) rfl)), Or.inl rfl⟩
theorem wd174 : mv_Wd (Cond.fieldLink "LazyPagesModel" 65 "LazyPagesModel" "messages" "I") := ⟨mv_w3 (List.mem_of_getElem? (i := 46) rfl), Or.inl rfl⟩
theorem wd175 : mv_Wd (Cond.methodLink "LazyPagesModel" 68 ⟨"LazyPagesModel", "done", "(IIIJ)J"⟩) := ⟨mv_w3 (List.mem_of_getElem? (i := 95) rfl), Or.inl rfl⟩
theorem wd176 : mv_Wd (Cond.code ⟨"LazyPagesModel", "done", "(IIIJ)J"⟩ prog_5_method_9_code 10 (Option.some FieldType.long)) := ⟨mv_w3 (List.mem_of_getElem? (i := 98) rfl), Or.inl rfl⟩
theorem wd177 : mv_Wd (Cond.instanceMethod ⟨"LazyPagesModel", "done", "(IIIJ)J"⟩) := ⟨mv_w3 (List.mem_of_getElem? (i := 97) rfl), Or.inl rfl⟩
theorem wd178 : mv_Wd (Cond.selects "LazyPagesModel" ⟨"LazyPagesModel", "done", "(IIIJ)J"⟩ ⟨"LazyPagesModel", "done", "(IIIJ)J"⟩) := ⟨mv_wp (q := (⟨"LazyPagesModel", "done", "(IIIJ)J"⟩, 11)) (List.mem_append_left _ (List.mem_of_getElem? (i := 13) rfl)), Or.inl rfl⟩
theorem wd179 : mv_Wd (Cond.methodLink "LazyPagesModel" 72 ⟨"LazyPagesModel", "isRefused", "(I)Z"⟩) := ⟨mv_w3 (List.mem_of_getElem? (i := 79) rfl), Or.inl rfl⟩
theorem wd180 : mv_Wd (Cond.code ⟨"LazyPagesModel", "isRefused", "(I)Z"⟩ prog_5_method_11_code 2 (Option.some FieldType.boolean)) := ⟨mv_w3 (List.mem_of_getElem? (i := 82) rfl), Or.inl rfl⟩
theorem wd181 : mv_Wd (Cond.instanceMethod ⟨"LazyPagesModel", "isRefused", "(I)Z"⟩) := ⟨mv_w3 (List.mem_of_getElem? (i := 81) rfl), Or.inl rfl⟩
theorem wd182 : mv_Wd (Cond.selects "LazyPagesModel" ⟨"LazyPagesModel", "isRefused", "(I)Z"⟩ ⟨"LazyPagesModel", "isRefused", "(I)Z"⟩) := ⟨mv_wp (q := (⟨"LazyPagesModel", "isRefused", "(I)Z"⟩, 11)) (List.mem_append_left _ (List.mem_of_getElem? (i := 9) rfl)), Or.inl rfl⟩
theorem wd183 : mv_Wd (Cond.methodLink "LazyPagesModel" 76 ⟨"LazyPagesModel", "message", "(IIIJ)J"⟩) := ⟨mv_w3 (List.mem_of_getElem? (i := 91) rfl), Or.inl rfl⟩
theorem wd184 : mv_Wd (Cond.code ⟨"LazyPagesModel", "message", "(IIIJ)J"⟩ prog_5_method_10_code 6 (Option.some FieldType.long)) := ⟨mv_w3 (List.mem_of_getElem? (i := 94) rfl), Or.inl rfl⟩
theorem wd185 : mv_Wd (Cond.instanceMethod ⟨"LazyPagesModel", "message", "(IIIJ)J"⟩) := ⟨mv_w3 (List.mem_of_getElem? (i := 93) rfl), Or.inl rfl⟩
theorem wd186 : mv_Wd (Cond.selects "LazyPagesModel" ⟨"LazyPagesModel", "message", "(IIIJ)J"⟩ ⟨"LazyPagesModel", "message", "(IIIJ)J"⟩) := ⟨mv_wp (q := (⟨"LazyPagesModel", "message", "(IIIJ)J"⟩, 11)) (List.mem_append_left _ (List.mem_of_getElem? (i := 12) rfl)), Or.inl rfl⟩
theorem wd187 : mv_Wd (Cond.methodLink "LazyPagesModel" 79 ⟨"LazyPagesModel", "rowOf", "(I)I"⟩) := ⟨mv_w3 (List.mem_of_getElem? (i := 139) rfl), Or.inl rfl⟩
theorem wd188 : mv_Wd (Cond.code ⟨"LazyPagesModel", "rowOf", "(I)I"⟩ prog_5_method_18_code 2 (Option.some FieldType.int)) := ⟨mv_w3 (List.mem_of_getElem? (i := 142) rfl), Or.inl rfl⟩
theorem wd189 : mv_Wd (Cond.instanceMethod ⟨"LazyPagesModel", "rowOf", "(I)I"⟩) := ⟨mv_w3 (List.mem_of_getElem? (i := 141) rfl), Or.inl rfl⟩
theorem wd190 : mv_Wd (Cond.selects "LazyPagesModel" ⟨"LazyPagesModel", "rowOf", "(I)I"⟩ ⟨"LazyPagesModel", "rowOf", "(I)I"⟩) := ⟨mv_wp (q := (⟨"LazyPagesModel", "rowOf", "(I)I"⟩, 11)) (List.mem_append_right _ (List.mem_of_getElem? (i := 2) rfl)), Or.inl rfl⟩
theorem wd191 : mv_Wd (Cond.methodLink "LazyPagesModel" 83 ⟨"LazyPagesModel", "isView", "(I)Z"⟩) := ⟨mv_w3 (List.mem_of_getElem? (i := 163) rfl), Or.inl rfl⟩
theorem wd192 : mv_Wd (Cond.code ⟨"LazyPagesModel", "isView", "(I)Z"⟩ prog_5_method_24_code 1 (Option.some FieldType.boolean)) := ⟨mv_w3 (List.mem_of_getElem? (i := 165) rfl), Or.inl rfl⟩
theorem wd193 : mv_Wd (Cond.static ⟨"LazyPagesModel", "isView", "(I)Z"⟩) := ⟨mv_w3 (List.mem_of_getElem? (i := 164) rfl), Or.inl rfl⟩
theorem wd194 : mv_Wd (Cond.constant "LazyPagesModel" 86 (-2147483648)) := ⟨mv_w3 (List.mem_of_getElem? (i := 174) rfl), Or.inl rfl⟩
theorem wd195 : mv_Wd (Cond.constant "LazyPagesModel" 87 (2147483647)) := ⟨mv_w3 (List.mem_of_getElem? (i := 175) rfl), Or.inl rfl⟩
theorem wd196 : mv_Wd (Cond.fieldLink "LazyPagesModel" 88 "LazyPagesModel" "kept" "I") := ⟨mv_w3 (List.mem_of_getElem? (i := 47) rfl), Or.inl rfl⟩
theorem wd197 : mv_Wd (Cond.methodLink "LazyPagesModel" 91 ⟨"LazyPagesModel", "sync", "()I"⟩) := ⟨mv_w3 (List.mem_of_getElem? (i := 192) rfl), Or.inl rfl⟩
theorem wd198 : mv_Wd (Cond.code ⟨"LazyPagesModel", "sync", "()I"⟩ prog_5_method_30_code 2 (Option.some FieldType.int)) := ⟨mv_w3 (List.mem_of_getElem? (i := 187) rfl), Or.inl rfl⟩
theorem wd199 : mv_Wd (Cond.instanceMethod ⟨"LazyPagesModel", "sync", "()I"⟩) := ⟨mv_w3 (List.mem_of_getElem? (i := 185) rfl), Or.inl rfl⟩
theorem wd200 : mv_Wd (Cond.selects "LazyPagesModel" ⟨"LazyPagesModel", "sync", "()I"⟩ ⟨"LazyPagesModel", "sync", "()I"⟩) := ⟨mv_w3 (List.mem_of_getElem? (i := 186) rfl), Or.inl rfl⟩
theorem wd201 : mv_Wd (Cond.methodLink "LazyPages$Page" 3 ⟨"java/lang/Object", "<init>", "()V"⟩) := ⟨mv_w1 (List.mem_of_getElem? (i := 33) rfl), Or.inl rfl⟩
theorem wd202 : mv_Wd (Cond.fieldLink "LazyPages$Page" 9 "LazyPages$Page" "keys" "[I") := ⟨mv_w1 (List.mem_of_getElem? (i := 36) rfl), Or.inl rfl⟩
theorem wd203 : mv_Wd (Cond.fieldLink "LazyPages$Page" 15 "LazyPages$Page" "values" "[J") := ⟨mv_w1 (List.mem_of_getElem? (i := 38) rfl), Or.inl rfl⟩
theorem wd204 : mv_Wd (Cond.fieldLink "LazyPages$Page" 19 "LazyPages$Page" "used" "I") := ⟨mv_w1 (List.mem_of_getElem? (i := 39) rfl), Or.inl rfl⟩
theorem wd205 : mv_Wd (Cond.constant "LazyPages$Page" 25 (-2147483648)) := ⟨mv_w1 (List.mem_of_getElem? (i := 34) rfl), Or.inl rfl⟩
theorem wd206 : mv_Wd (Cond.fieldLink "LazyPages$Page" 26 "LazyPages$Page" "low" "I") := ⟨mv_w1 (List.mem_of_getElem? (i := 41) rfl), Or.inl rfl⟩
theorem wd207 : mv_Wd (Cond.constant "LazyPages$Page" 29 (2147483647)) := ⟨mv_w1 (List.mem_of_getElem? (i := 35) rfl), Or.inl rfl⟩
theorem wd208 : mv_Wd (Cond.fieldLink "LazyPages$Page" 30 "LazyPages$Page" "high" "I") := ⟨mv_w1 (List.mem_of_getElem? (i := 43) rfl), Or.inl rfl⟩
theorem wd209 : mv_Wd (Cond.fieldLink "LazyPages$Page" 33 "LazyPages$Page" "waiting" "J") := ⟨mv_w1 (List.mem_of_getElem? (i := 45) rfl), Or.inl rfl⟩
theorem wd210 : mv_Wd (Cond.methodLink "LazyPages$Page" 37 ⟨"LazyPages$Page", "below", "(I)I"⟩) := ⟨mv_w2 (List.mem_of_getElem? (i := 114) rfl), Or.inl rfl⟩
theorem wd211 : mv_Wd (Cond.initialized "LazyPages$Page") := ⟨mv_w1 (List.mem_of_getElem? (i := 3) rfl), Or.inl rfl⟩
theorem wd212 : mv_Wd (Cond.code ⟨"LazyPages$Page", "below", "(I)I"⟩ prog_2_method_2_code 3 (Option.some FieldType.int)) := ⟨mv_w1 (List.mem_of_getElem? (i := 178) rfl), Or.inl rfl⟩
theorem wd213 : mv_Wd (Cond.instanceMethod ⟨"LazyPages$Page", "below", "(I)I"⟩) := ⟨mv_w1 (List.mem_of_getElem? (i := 176) rfl), Or.inl rfl⟩
theorem wd214 : mv_Wd (Cond.selects "LazyPages$Page" ⟨"LazyPages$Page", "below", "(I)I"⟩ ⟨"LazyPages$Page", "below", "(I)I"⟩) := ⟨mv_w1 (List.mem_of_getElem? (i := 177) rfl), Or.inl rfl⟩
theorem wd215 : mv_Wd (Cond.methodLink "LazyPages$Page" 41 ⟨"LazyPages$Page", "holdsAt", "(II)Z"⟩) := ⟨mv_w2 (List.mem_of_getElem? (i := 115) rfl), Or.inl rfl⟩
theorem wd216 : mv_Wd (Cond.code ⟨"LazyPages$Page", "holdsAt", "(II)Z"⟩ prog_2_method_5_code 3 (Option.some FieldType.boolean)) := ⟨mv_w1 (List.mem_of_getElem? (i := 182) rfl), Or.inl rfl⟩
theorem wd217 : mv_Wd (Cond.instanceMethod ⟨"LazyPages$Page", "holdsAt", "(II)Z"⟩) := ⟨mv_w1 (List.mem_of_getElem? (i := 180) rfl), Or.inl rfl⟩
theorem wd218 : mv_Wd (Cond.selects "LazyPages$Page" ⟨"LazyPages$Page", "holdsAt", "(II)Z"⟩ ⟨"LazyPages$Page", "holdsAt", "(II)Z"⟩) := ⟨mv_w1 (List.mem_of_getElem? (i := 181) rfl), Or.inl rfl⟩
theorem wd219 : mv_Wd (Cond.methodLink "LazyPages$Page" 45 ⟨"LazyPages$Page", "notAbove", "(I)I"⟩) := ⟨mv_w2 (List.mem_of_getElem? (i := 110) rfl), Or.inl rfl⟩
theorem wd220 : mv_Wd (Cond.code ⟨"LazyPages$Page", "notAbove", "(I)I"⟩ prog_2_method_3_code 3 (Option.some FieldType.int)) := ⟨mv_w2 (List.mem_of_getElem? (i := 113) rfl), Or.inl rfl⟩
theorem wd221 : mv_Wd (Cond.instanceMethod ⟨"LazyPages$Page", "notAbove", "(I)I"⟩) := ⟨mv_w2 (List.mem_of_getElem? (i := 111) rfl), Or.inl rfl⟩
theorem wd222 : mv_Wd (Cond.selects "LazyPages$Page" ⟨"LazyPages$Page", "notAbove", "(I)I"⟩ ⟨"LazyPages$Page", "notAbove", "(I)I"⟩) := ⟨mv_w2 (List.mem_of_getElem? (i := 112) rfl), Or.inl rfl⟩
theorem wd223 : mv_Wd (Cond.methodLink "LazyPages$Page" 48 ⟨"java/lang/System", "arraycopy", "(Ljava/lang/Object;ILjava/lang/Object;II)V"⟩) := ⟨mv_w1 (List.mem_of_getElem? (i := 121) rfl), Or.inl rfl⟩
theorem wd224 : mv_Wd (Cond.native ⟨"java/lang/System", "arraycopy", "(Ljava/lang/Object;ILjava/lang/Object;II)V"⟩) := ⟨mv_w1 (List.mem_of_getElem? (i := 123) rfl), Or.inl rfl⟩
theorem wd225 : mv_Wd (Cond.static ⟨"java/lang/System", "arraycopy", "(Ljava/lang/Object;ILjava/lang/Object;II)V"⟩) := ⟨mv_w1 (List.mem_of_getElem? (i := 122) rfl), Or.inl rfl⟩
theorem wd226 : mv_Wd (Cond.initialized "java/lang/System") := ⟨mv_w1 (List.mem_of_getElem? (i := 9) rfl), Or.inl rfl⟩
theorem wd227 : mv_Wd (Cond.methodLink "LazyPages$Page" 54 ⟨"LazyPages$Page", "setValueAt", "(IJ)V"⟩) := ⟨mv_w2 (List.mem_of_getElem? (i := 39) rfl), Or.inl rfl⟩
theorem wd228 : mv_Wd (Cond.code ⟨"LazyPages$Page", "setValueAt", "(IJ)V"⟩ prog_2_method_7_code 4 (Option.none : Option FieldType)) := ⟨mv_w2 (List.mem_of_getElem? (i := 22) rfl), Or.inl rfl⟩
theorem wd229 : mv_Wd (Cond.instanceMethod ⟨"LazyPages$Page", "setValueAt", "(IJ)V"⟩) := ⟨mv_w2 (List.mem_of_getElem? (i := 20) rfl), Or.inl rfl⟩
theorem wd230 : mv_Wd (Cond.selects "LazyPages$Page" ⟨"LazyPages$Page", "setValueAt", "(IJ)V"⟩ ⟨"LazyPages$Page", "setValueAt", "(IJ)V"⟩) := ⟨mv_w2 (List.mem_of_getElem? (i := 21) rfl), Or.inl rfl⟩
theorem wd231 : mv_Wd (Cond.methodLink "LazyPages$Page" 58 ⟨"LazyPages$Page", "valueAt", "(I)J"⟩) := ⟨mv_w2 (List.mem_of_getElem? (i := 35) rfl), Or.inl rfl⟩
theorem wd232 : mv_Wd (Cond.code ⟨"LazyPages$Page", "valueAt", "(I)J"⟩ prog_2_method_6_code 2 (Option.some FieldType.long)) := ⟨mv_w2 (List.mem_of_getElem? (i := 38) rfl), Or.inl rfl⟩
theorem wd233 : mv_Wd (Cond.instanceMethod ⟨"LazyPages$Page", "valueAt", "(I)J"⟩) := ⟨mv_w2 (List.mem_of_getElem? (i := 36) rfl), Or.inl rfl⟩
theorem wd234 : mv_Wd (Cond.selects "LazyPages$Page" ⟨"LazyPages$Page", "valueAt", "(I)J"⟩ ⟨"LazyPages$Page", "valueAt", "(I)J"⟩) := ⟨mv_w2 (List.mem_of_getElem? (i := 37) rfl), Or.inl rfl⟩
theorem wd235 : mv_Wd (Cond.methodLink "LazyPages$Page" 62 ⟨"LazyPages$Page", "pushDown", "()V"⟩) := ⟨mv_w1 (List.mem_of_getElem? (i := 124) rfl), Or.inl rfl⟩
theorem wd236 : mv_Wd (Cond.code ⟨"LazyPages$Page", "pushDown", "()V"⟩ prog_2_method_12_code 2 (Option.none : Option FieldType)) := ⟨mv_w1 (List.mem_of_getElem? (i := 104) rfl), Or.inl rfl⟩
theorem wd237 : mv_Wd (Cond.instanceMethod ⟨"LazyPages$Page", "pushDown", "()V"⟩) := ⟨mv_w1 (List.mem_of_getElem? (i := 102) rfl), Or.inl rfl⟩
theorem wd238 : mv_Wd (Cond.selects "LazyPages$Page" ⟨"LazyPages$Page", "pushDown", "()V"⟩ ⟨"LazyPages$Page", "pushDown", "()V"⟩) := ⟨mv_w1 (List.mem_of_getElem? (i := 103) rfl), Or.inl rfl⟩
theorem wd239 : mv_Wd (Cond.methodLink "LazyPages$PageTable" 3 ⟨"java/lang/Object", "<init>", "()V"⟩) := ⟨mv_w1 (List.mem_of_getElem? (i := 26) rfl), Or.inl rfl⟩
theorem wd240 : mv_Wd (Cond.classLink "LazyPages$PageTable" 9 "LazyPages$Page") := ⟨mv_w1 (List.mem_of_getElem? (i := 27) rfl), Or.inl rfl⟩
theorem wd241 : mv_Wd (Cond.arrayOver (FieldType.object "LazyPages$Page")) := ⟨mv_w1 (List.mem_of_getElem? (i := 28) rfl), Or.inr (Or.inr (Or.inl ⟨_, rfl⟩))⟩
theorem wd242 : mv_Wd (Cond.fieldLink "LazyPages$PageTable" 11 "LazyPages$PageTable" "pages" "[LLazyPages$Page;") := ⟨mv_w1 (List.mem_of_getElem? (i := 61) rfl), Or.inl rfl⟩
theorem wd243 : mv_Wd (Cond.instantiable "LazyPages$Page" 6) := ⟨mv_w1 (List.mem_of_getElem? (i := 29) rfl), Or.inl rfl⟩
theorem wd244 : mv_Wd (Cond.methodLink "LazyPages$PageTable" 17 ⟨"LazyPages$Page", "<init>", "()V"⟩) := ⟨mv_w1 (List.mem_of_getElem? (i := 30) rfl), Or.inl rfl⟩
theorem wd245 : mv_Wd (Cond.code ⟨"LazyPages$Page", "<init>", "()V"⟩ prog_2_method_1_code 1 (Option.none : Option FieldType)) := ⟨mv_w1 (List.mem_of_getElem? (i := 32) rfl), Or.inl rfl⟩
theorem wd246 : mv_Wd (Cond.instanceMethod ⟨"LazyPages$Page", "<init>", "()V"⟩) := ⟨mv_w1 (List.mem_of_getElem? (i := 31) rfl), Or.inl rfl⟩
theorem wd247 : mv_Wd (Cond.fieldLink "LazyPages$PageTable" 18 "LazyPages$PageTable" "pageCount" "I") := ⟨mv_w1 (List.mem_of_getElem? (i := 62) rfl), Or.inl rfl⟩
theorem wd248 : mv_Wd (Cond.fieldLink "LazyPages$PageTable" 22 "LazyPages$PageTable" "size" "I") := ⟨mv_w1 (List.mem_of_getElem? (i := 63) rfl), Or.inl rfl⟩
theorem wd249 : mv_Wd (Cond.fieldLink "LazyPages$PageTable" 25 "LazyPages$Page" "high" "I") := ⟨mv_w1 (List.mem_of_getElem? (i := 44) rfl), Or.inl rfl⟩
theorem wd250 : mv_Wd (Cond.methodLink "LazyPages$PageTable" 28 ⟨"LazyPages$PageTable", "pageOf", "(I)I"⟩) := ⟨mv_w1 (List.mem_of_getElem? (i := 171) rfl), Or.inl rfl⟩
theorem wd251 : mv_Wd (Cond.code ⟨"LazyPages$PageTable", "pageOf", "(I)I"⟩ prog_3_method_2_code 3 (Option.some FieldType.int)) := ⟨mv_w1 (List.mem_of_getElem? (i := 174) rfl), Or.inl rfl⟩
theorem wd252 : mv_Wd (Cond.instanceMethod ⟨"LazyPages$PageTable", "pageOf", "(I)I"⟩) := ⟨mv_w1 (List.mem_of_getElem? (i := 172) rfl), Or.inl rfl⟩
theorem wd253 : mv_Wd (Cond.selects "LazyPages$PageTable" ⟨"LazyPages$PageTable", "pageOf", "(I)I"⟩ ⟨"LazyPages$PageTable", "pageOf", "(I)I"⟩) := ⟨mv_w1 (List.mem_of_getElem? (i := 173) rfl), Or.inl rfl⟩
theorem wd254 : mv_Wd (Cond.methodLink "LazyPages$PageTable" 32 ⟨"LazyPages$Page", "below", "(I)I"⟩) := ⟨mv_w1 (List.mem_of_getElem? (i := 175) rfl), Or.inl rfl⟩
theorem wd255 : mv_Wd (Cond.methodLink "LazyPages$PageTable" 35 ⟨"LazyPages$Page", "holdsAt", "(II)Z"⟩) := ⟨mv_w1 (List.mem_of_getElem? (i := 179) rfl), Or.inl rfl⟩
theorem wd256 : mv_Wd (Cond.methodLink "LazyPages$PageTable" 39 ⟨"LazyPages$Page", "valueAt", "(I)J"⟩) := ⟨mv_w2 (List.mem_of_getElem? (i := 59) rfl), Or.inl rfl⟩
theorem wd257 : mv_Wd (Cond.methodLink "LazyPages$PageTable" 43 ⟨"LazyPages$Page", "setValueAt", "(IJ)V"⟩) := ⟨mv_w2 (List.mem_of_getElem? (i := 19) rfl), Or.inl rfl⟩
theorem wd258 : mv_Wd (Cond.fieldLink "LazyPages$PageTable" 47 "LazyPages$Page" "used" "I") := ⟨mv_w1 (List.mem_of_getElem? (i := 40) rfl), Or.inl rfl⟩
theorem wd259 : mv_Wd (Cond.methodLink "LazyPages$PageTable" 50 ⟨"LazyPages$PageTable", "splitPageOf", "(I)V"⟩) := ⟨mv_w2 (List.mem_of_getElem? (i := 23) rfl), Or.inl rfl⟩
theorem wd260 : mv_Wd (Cond.code ⟨"LazyPages$PageTable", "splitPageOf", "(I)V"⟩ prog_3_method_6_code 5 (Option.none : Option FieldType)) := ⟨mv_w2 (List.mem_of_getElem? (i := 26) rfl), Or.inl rfl⟩
theorem wd261 : mv_Wd (Cond.instanceMethod ⟨"LazyPages$PageTable", "splitPageOf", "(I)V"⟩) := ⟨mv_w2 (List.mem_of_getElem? (i := 24) rfl), Or.inl rfl⟩
theorem wd262 : mv_Wd (Cond.selects "LazyPages$PageTable" ⟨"LazyPages$PageTable", "splitPageOf", "(I)V"⟩ ⟨"LazyPages$PageTable", "splitPageOf", "(I)V"⟩) := ⟨mv_w2 (List.mem_of_getElem? (i := 25) rfl), Or.inl rfl⟩
theorem wd263 : mv_Wd (Cond.methodLink "LazyPages$PageTable" 54 ⟨"LazyPages$Page", "insertAt", "(IIJ)V"⟩) := ⟨mv_w2 (List.mem_of_getElem? (i := 44) rfl), Or.inl rfl⟩
theorem wd264 : mv_Wd (Cond.code ⟨"LazyPages$Page", "insertAt", "(IIJ)V"⟩ prog_2_method_8_code 5 (Option.none : Option FieldType)) := ⟨mv_w2 (List.mem_of_getElem? (i := 47) rfl), Or.inl rfl⟩
theorem wd265 : mv_Wd (Cond.instanceMethod ⟨"LazyPages$Page", "insertAt", "(IIJ)V"⟩) := ⟨mv_w2 (List.mem_of_getElem? (i := 45) rfl), Or.inl rfl⟩
theorem wd266 : mv_Wd (Cond.selects "LazyPages$Page" ⟨"LazyPages$Page", "insertAt", "(IIJ)V"⟩ ⟨"LazyPages$Page", "insertAt", "(IIJ)V"⟩) := ⟨mv_w2 (List.mem_of_getElem? (i := 46) rfl), Or.inl rfl⟩
theorem wd267 : mv_Wd (Cond.methodLink "LazyPages$PageTable" 58 ⟨"LazyPages$PageTable", "joinPages", "()V"⟩) := ⟨mv_w2 (List.mem_of_getElem? (i := 27) rfl), Or.inl rfl⟩
theorem wd268 : mv_Wd (Cond.code ⟨"LazyPages$PageTable", "joinPages", "()V"⟩ prog_3_method_7_code 4 (Option.none : Option FieldType)) := ⟨mv_w2 (List.mem_of_getElem? (i := 30) rfl), Or.inl rfl⟩
theorem wd269 : mv_Wd (Cond.instanceMethod ⟨"LazyPages$PageTable", "joinPages", "()V"⟩) := ⟨mv_w2 (List.mem_of_getElem? (i := 28) rfl), Or.inl rfl⟩
theorem wd270 : mv_Wd (Cond.selects "LazyPages$PageTable" ⟨"LazyPages$PageTable", "joinPages", "()V"⟩ ⟨"LazyPages$PageTable", "joinPages", "()V"⟩) := ⟨mv_w2 (List.mem_of_getElem? (i := 29) rfl), Or.inl rfl⟩
theorem wd271 : mv_Wd (Cond.methodLink "LazyPages$PageTable" 61 ⟨"LazyPages$Page", "giveUpperHalfTo", "(LLazyPages$Page;)V"⟩) := ⟨mv_w2 (List.mem_of_getElem? (i := 40) rfl), Or.inl rfl⟩
theorem wd272 : mv_Wd (Cond.code ⟨"LazyPages$Page", "giveUpperHalfTo", "(LLazyPages$Page;)V"⟩ prog_2_method_13_code 3 (Option.none : Option FieldType)) := ⟨mv_w2 (List.mem_of_getElem? (i := 43) rfl), Or.inl rfl⟩
theorem wd273 : mv_Wd (Cond.instanceMethod ⟨"LazyPages$Page", "giveUpperHalfTo", "(LLazyPages$Page;)V"⟩) := ⟨mv_w2 (List.mem_of_getElem? (i := 41) rfl), Or.inl rfl⟩
theorem wd274 : mv_Wd (Cond.selects "LazyPages$Page" ⟨"LazyPages$Page", "giveUpperHalfTo", "(LLazyPages$Page;)V"⟩ ⟨"LazyPages$Page", "giveUpperHalfTo", "(LLazyPages$Page;)V"⟩) := ⟨mv_w2 (List.mem_of_getElem? (i := 42) rfl), Or.inl rfl⟩
theorem wd275 : mv_Wd (Cond.methodLink "LazyPages$PageTable" 65 ⟨"LazyPages$Page", "takeAllOf", "(LLazyPages$Page;)V"⟩) := ⟨mv_w2 (List.mem_of_getElem? (i := 31) rfl), Or.inl rfl⟩
theorem wd276 : mv_Wd (Cond.code ⟨"LazyPages$Page", "takeAllOf", "(LLazyPages$Page;)V"⟩ prog_2_method_14_code 3 (Option.none : Option FieldType)) := ⟨mv_w2 (List.mem_of_getElem? (i := 34) rfl), Or.inl rfl⟩
theorem wd277 : mv_Wd (Cond.instanceMethod ⟨"LazyPages$Page", "takeAllOf", "(LLazyPages$Page;)V"⟩) := ⟨mv_w2 (List.mem_of_getElem? (i := 32) rfl), Or.inl rfl⟩
theorem wd278 : mv_Wd (Cond.selects "LazyPages$Page" ⟨"LazyPages$Page", "takeAllOf", "(LLazyPages$Page;)V"⟩ ⟨"LazyPages$Page", "takeAllOf", "(LLazyPages$Page;)V"⟩) := ⟨mv_w2 (List.mem_of_getElem? (i := 33) rfl), Or.inl rfl⟩
theorem wd279 : mv_Wd (Cond.methodLink "LazyPages$PageTable" 68 ⟨"LazyPages$Page", "countIn", "(II)I"⟩) := ⟨mv_w2 (List.mem_of_getElem? (i := 106) rfl), Or.inl rfl⟩
theorem wd280 : mv_Wd (Cond.code ⟨"LazyPages$Page", "countIn", "(II)I"⟩ prog_2_method_4_code 3 (Option.some FieldType.int)) := ⟨mv_w2 (List.mem_of_getElem? (i := 109) rfl), Or.inl rfl⟩
theorem wd281 : mv_Wd (Cond.instanceMethod ⟨"LazyPages$Page", "countIn", "(II)I"⟩) := ⟨mv_w2 (List.mem_of_getElem? (i := 107) rfl), Or.inl rfl⟩
theorem wd282 : mv_Wd (Cond.selects "LazyPages$Page" ⟨"LazyPages$Page", "countIn", "(II)I"⟩ ⟨"LazyPages$Page", "countIn", "(II)I"⟩) := ⟨mv_w2 (List.mem_of_getElem? (i := 108) rfl), Or.inl rfl⟩
theorem wd283 : mv_Wd (Cond.methodLink "LazyPages$PageTable" 72 ⟨"LazyPages$Page", "removeIn", "(II)V"⟩) := ⟨mv_w2 (List.mem_of_getElem? (i := 116) rfl), Or.inl rfl⟩
theorem wd284 : mv_Wd (Cond.code ⟨"LazyPages$Page", "removeIn", "(II)V"⟩ prog_2_method_9_code 5 (Option.none : Option FieldType)) := ⟨mv_w2 (List.mem_of_getElem? (i := 119) rfl), Or.inl rfl⟩
theorem wd285 : mv_Wd (Cond.instanceMethod ⟨"LazyPages$Page", "removeIn", "(II)V"⟩) := ⟨mv_w2 (List.mem_of_getElem? (i := 117) rfl), Or.inl rfl⟩
theorem wd286 : mv_Wd (Cond.selects "LazyPages$Page" ⟨"LazyPages$Page", "removeIn", "(II)V"⟩ ⟨"LazyPages$Page", "removeIn", "(II)V"⟩) := ⟨mv_w2 (List.mem_of_getElem? (i := 118) rfl), Or.inl rfl⟩
theorem wd287 : mv_Wd (Cond.methodLink "LazyPages$PageTable" 76 ⟨"LazyPages$Page", "raiseIn", "(IIJ)V"⟩) := ⟨mv_w2 (List.mem_of_getElem? (i := 131) rfl), Or.inl rfl⟩
theorem wd288 : mv_Wd (Cond.code ⟨"LazyPages$Page", "raiseIn", "(IIJ)V"⟩ prog_2_method_10_code 8 (Option.none : Option FieldType)) := ⟨mv_w2 (List.mem_of_getElem? (i := 134) rfl), Or.inl rfl⟩
theorem wd289 : mv_Wd (Cond.instanceMethod ⟨"LazyPages$Page", "raiseIn", "(IIJ)V"⟩) := ⟨mv_w2 (List.mem_of_getElem? (i := 132) rfl), Or.inl rfl⟩
theorem wd290 : mv_Wd (Cond.selects "LazyPages$Page" ⟨"LazyPages$Page", "raiseIn", "(IIJ)V"⟩ ⟨"LazyPages$Page", "raiseIn", "(IIJ)V"⟩) := ⟨mv_w2 (List.mem_of_getElem? (i := 133) rfl), Or.inl rfl⟩
theorem wd291 : mv_Wd (Cond.methodLink "LazyPages$PageTable" 79 ⟨"LazyPages$Page", "sumIn", "(II)J"⟩) := ⟨mv_w2 (List.mem_of_getElem? (i := 208) rfl), Or.inl rfl⟩
theorem wd292 : mv_Wd (Cond.code ⟨"LazyPages$Page", "sumIn", "(II)J"⟩ prog_2_method_11_code 7 (Option.some FieldType.long)) := ⟨mv_w2 (List.mem_of_getElem? (i := 211) rfl), Or.inl rfl⟩
theorem wd293 : mv_Wd (Cond.instanceMethod ⟨"LazyPages$Page", "sumIn", "(II)J"⟩) := ⟨mv_w2 (List.mem_of_getElem? (i := 209) rfl), Or.inl rfl⟩
theorem wd294 : mv_Wd (Cond.selects "LazyPages$Page" ⟨"LazyPages$Page", "sumIn", "(II)J"⟩ ⟨"LazyPages$Page", "sumIn", "(II)J"⟩) := ⟨mv_w2 (List.mem_of_getElem? (i := 210) rfl), Or.inl rfl⟩
theorem wd295 : mv_Wd (Cond.fieldLink "LazyPages$PageTable" 83 "LazyPages$Page" "keys" "[I") := ⟨mv_w1 (List.mem_of_getElem? (i := 37) rfl), Or.inl rfl⟩
theorem wd296 : mv_Wd (Cond.methodLink "LazyPages$PageTable" 87 ⟨"LazyPages$PageTable", "holds", "(I)Z"⟩) := ⟨mv_w3 (List.mem_of_getElem? (i := 17) rfl), Or.inl rfl⟩
theorem wd297 : mv_Wd (Cond.methodLink "LazyPages$PageTable" 91 ⟨"LazyPages$PageTable", "valueOf", "(I)J"⟩) := ⟨mv_w3 (List.mem_of_getElem? (i := 18) rfl), Or.inl rfl⟩
theorem wd298 : mv_Wd (Cond.methodLink "LazyPages$PageTable" 94 ⟨"LazyPages$Page", "pushDown", "()V"⟩) := ⟨mv_w1 (List.mem_of_getElem? (i := 101) rfl), Or.inl rfl⟩
theorem wd299 : mv_Wd (Cond.methodLink "LazyPages$PageTable" 97 ⟨"LazyPages$Page", "copyFrom", "(LLazyPages$Page;)V"⟩) := ⟨mv_w1 (List.mem_of_getElem? (i := 117) rfl), Or.inl rfl⟩
theorem wd300 : mv_Wd (Cond.code ⟨"LazyPages$Page", "copyFrom", "(LLazyPages$Page;)V"⟩ prog_2_method_15_code 2 (Option.none : Option FieldType)) := ⟨mv_w1 (List.mem_of_getElem? (i := 120) rfl), Or.inl rfl⟩
theorem wd301 : mv_Wd (Cond.instanceMethod ⟨"LazyPages$Page", "copyFrom", "(LLazyPages$Page;)V"⟩) := ⟨mv_w1 (List.mem_of_getElem? (i := 118) rfl), Or.inl rfl⟩
theorem wd302 : mv_Wd (Cond.selects "LazyPages$Page" ⟨"LazyPages$Page", "copyFrom", "(LLazyPages$Page;)V"⟩ ⟨"LazyPages$Page", "copyFrom", "(LLazyPages$Page;)V"⟩) := ⟨mv_w1 (List.mem_of_getElem? (i := 119) rfl), Or.inl rfl⟩
theorem wd303 : mv_Wd (Cond.methodLink "LazyPages$PageTable" 100 ⟨"LazyPages$Page", "isInOrder", "()Z"⟩) := ⟨mv_w1 (List.mem_of_getElem? (i := 141) rfl), Or.inl rfl⟩
theorem wd304 : mv_Wd (Cond.code ⟨"LazyPages$Page", "isInOrder", "()Z"⟩ prog_2_method_16_code 2 (Option.some FieldType.boolean)) := ⟨mv_w1 (List.mem_of_getElem? (i := 144) rfl), Or.inl rfl⟩
theorem wd305 : mv_Wd (Cond.instanceMethod ⟨"LazyPages$Page", "isInOrder", "()Z"⟩) := ⟨mv_w1 (List.mem_of_getElem? (i := 142) rfl), Or.inl rfl⟩
theorem wd306 : mv_Wd (Cond.selects "LazyPages$Page" ⟨"LazyPages$Page", "isInOrder", "()Z"⟩ ⟨"LazyPages$Page", "isInOrder", "()Z"⟩) := ⟨mv_w1 (List.mem_of_getElem? (i := 143) rfl), Or.inl rfl⟩
theorem wd307 : mv_Wd (Cond.methodLink "LazyPages$PageTable" 104 ⟨"LazyPages$PageTable", "isNextTo", "(I)Z"⟩) := ⟨mv_w1 (List.mem_of_getElem? (i := 145) rfl), Or.inl rfl⟩
theorem wd308 : mv_Wd (Cond.code ⟨"LazyPages$PageTable", "isNextTo", "(I)Z"⟩ prog_3_method_17_code 3 (Option.some FieldType.boolean)) := ⟨mv_w1 (List.mem_of_getElem? (i := 148) rfl), Or.inl rfl⟩
theorem wd309 : mv_Wd (Cond.instanceMethod ⟨"LazyPages$PageTable", "isNextTo", "(I)Z"⟩) := ⟨mv_w1 (List.mem_of_getElem? (i := 146) rfl), Or.inl rfl⟩
theorem wd310 : mv_Wd (Cond.selects "LazyPages$PageTable" ⟨"LazyPages$PageTable", "isNextTo", "(I)Z"⟩ ⟨"LazyPages$PageTable", "isNextTo", "(I)Z"⟩) := ⟨mv_w1 (List.mem_of_getElem? (i := 147) rfl), Or.inl rfl⟩
theorem wd311 : mv_Wd (Cond.constant "LazyPages$PageTable" 109 (2147483647)) := ⟨mv_w1 (List.mem_of_getElem? (i := 150) rfl), Or.inl rfl⟩
theorem wd312 : mv_Wd (Cond.fieldLink "LazyPages$PageTable" 110 "LazyPages$Page" "low" "I") := ⟨mv_w1 (List.mem_of_getElem? (i := 42) rfl), Or.inl rfl⟩
theorem wd313 : mv_Wd (Cond.constant "LazyPages$PageTable" 113 (-2147483648)) := ⟨mv_w1 (List.mem_of_getElem? (i := 149) rfl), Or.inl rfl⟩
theorem wd314 : mv_Wd (Cond.methodLink "LazyPagesLaw" 7 ⟨"LazyPages", "put", "(IJ)I"⟩) := ⟨mv_w1 (List.mem_of_getElem? (i := 155) rfl), Or.inl rfl⟩
theorem wd315 : mv_Wd (Cond.code ⟨"LazyPages", "put", "(IJ)I"⟩ prog_1_method_2_code 4 (Option.some FieldType.int)) := ⟨mv_w1 (List.mem_of_getElem? (i := 158) rfl), Or.inl rfl⟩
theorem wd316 : mv_Wd (Cond.instanceMethod ⟨"LazyPages", "put", "(IJ)I"⟩) := ⟨mv_w1 (List.mem_of_getElem? (i := 156) rfl), Or.inl rfl⟩
theorem wd317 : mv_Wd (Cond.selects "LazyPages" ⟨"LazyPages", "put", "(IJ)I"⟩ ⟨"LazyPages", "put", "(IJ)I"⟩) := ⟨mv_w1 (List.mem_of_getElem? (i := 157) rfl), Or.inl rfl⟩
theorem wd318 : mv_Wd (Cond.methodLink "LazyPagesLaw" 15 ⟨"LazyPages", "add", "(IJ)J"⟩) := ⟨mv_w2 (List.mem_of_getElem? (i := 51) rfl), Or.inl rfl⟩
theorem wd319 : mv_Wd (Cond.code ⟨"LazyPages", "add", "(IJ)J"⟩ prog_1_method_3_code 6 (Option.some FieldType.long)) := ⟨mv_w2 (List.mem_of_getElem? (i := 54) rfl), Or.inl rfl⟩
theorem wd320 : mv_Wd (Cond.instanceMethod ⟨"LazyPages", "add", "(IJ)J"⟩) := ⟨mv_w2 (List.mem_of_getElem? (i := 52) rfl), Or.inl rfl⟩
theorem wd321 : mv_Wd (Cond.selects "LazyPages" ⟨"LazyPages", "add", "(IJ)J"⟩ ⟨"LazyPages", "add", "(IJ)J"⟩) := ⟨mv_w2 (List.mem_of_getElem? (i := 53) rfl), Or.inl rfl⟩
theorem wd322 : mv_Wd (Cond.methodLink "LazyPagesLaw" 19 ⟨"LazyPages", "most", "(IJ)J"⟩) := ⟨mv_w2 (List.mem_of_getElem? (i := 63) rfl), Or.inl rfl⟩
theorem wd323 : mv_Wd (Cond.code ⟨"LazyPages", "most", "(IJ)J"⟩ prog_1_method_4_code 6 (Option.some FieldType.long)) := ⟨mv_w2 (List.mem_of_getElem? (i := 66) rfl), Or.inl rfl⟩
theorem wd324 : mv_Wd (Cond.instanceMethod ⟨"LazyPages", "most", "(IJ)J"⟩) := ⟨mv_w2 (List.mem_of_getElem? (i := 64) rfl), Or.inl rfl⟩
theorem wd325 : mv_Wd (Cond.selects "LazyPages" ⟨"LazyPages", "most", "(IJ)J"⟩ ⟨"LazyPages", "most", "(IJ)J"⟩) := ⟨mv_w2 (List.mem_of_getElem? (i := 65) rfl), Or.inl rfl⟩
theorem wd326 : mv_Wd (Cond.methodLink "LazyPagesLaw" 22 ⟨"LazyPages", "delete", "(II)I"⟩) := ⟨mv_w2 (List.mem_of_getElem? (i := 74) rfl), Or.inl rfl⟩
theorem wd327 : mv_Wd (Cond.code ⟨"LazyPages", "delete", "(II)I"⟩ prog_1_method_5_code 4 (Option.some FieldType.int)) := ⟨mv_w2 (List.mem_of_getElem? (i := 77) rfl), Or.inl rfl⟩
theorem wd328 : mv_Wd (Cond.instanceMethod ⟨"LazyPages", "delete", "(II)I"⟩) := ⟨mv_w2 (List.mem_of_getElem? (i := 75) rfl), Or.inl rfl⟩
theorem wd329 : mv_Wd (Cond.selects "LazyPages" ⟨"LazyPages", "delete", "(II)I"⟩ ⟨"LazyPages", "delete", "(II)I"⟩) := ⟨mv_w2 (List.mem_of_getElem? (i := 76) rfl), Or.inl rfl⟩
theorem wd330 : mv_Wd (Cond.methodLink "LazyPagesLaw" 28 ⟨"LazyPages", "raise", "(IIJ)I"⟩) := ⟨mv_w2 (List.mem_of_getElem? (i := 123) rfl), Or.inl rfl⟩
theorem wd331 : mv_Wd (Cond.code ⟨"LazyPages", "raise", "(IIJ)I"⟩ prog_1_method_6_code 5 (Option.some FieldType.int)) := ⟨mv_w2 (List.mem_of_getElem? (i := 126) rfl), Or.inl rfl⟩
theorem wd332 : mv_Wd (Cond.instanceMethod ⟨"LazyPages", "raise", "(IIJ)I"⟩) := ⟨mv_w2 (List.mem_of_getElem? (i := 124) rfl), Or.inl rfl⟩
theorem wd333 : mv_Wd (Cond.selects "LazyPages" ⟨"LazyPages", "raise", "(IIJ)I"⟩ ⟨"LazyPages", "raise", "(IIJ)I"⟩) := ⟨mv_w2 (List.mem_of_getElem? (i := 125) rfl), Or.inl rfl⟩
theorem wd334 : mv_Wd (Cond.methodLink "LazyPagesLaw" 32 ⟨"LazyPages", "putAll", "(IIJJI)I"⟩) := ⟨mv_w2 (List.mem_of_getElem? (i := 142) rfl), Or.inl rfl⟩
theorem wd335 : mv_Wd (Cond.code ⟨"LazyPages", "putAll", "(IIJJI)I"⟩ prog_1_method_7_code 10 (Option.some FieldType.int)) := ⟨mv_w2 (List.mem_of_getElem? (i := 145) rfl), Or.inl rfl⟩
theorem wd336 : mv_Wd (Cond.instanceMethod ⟨"LazyPages", "putAll", "(IIJJI)I"⟩) := ⟨mv_w2 (List.mem_of_getElem? (i := 143) rfl), Or.inl rfl⟩
theorem wd337 : mv_Wd (Cond.selects "LazyPages" ⟨"LazyPages", "putAll", "(IIJJI)I"⟩ ⟨"LazyPages", "putAll", "(IIJJI)I"⟩) := ⟨mv_w2 (List.mem_of_getElem? (i := 144) rfl), Or.inl rfl⟩
theorem wd338 : mv_Wd (Cond.methodLink "LazyPagesLaw" 36 ⟨"LazyPages", "has", "(II)Z"⟩) := ⟨mv_w2 (List.mem_of_getElem? (i := 151) rfl), Or.inl rfl⟩
theorem wd339 : mv_Wd (Cond.code ⟨"LazyPages", "has", "(II)Z"⟩ prog_1_method_8_code 3 (Option.some FieldType.boolean)) := ⟨mv_w2 (List.mem_of_getElem? (i := 154) rfl), Or.inl rfl⟩
theorem wd340 : mv_Wd (Cond.instanceMethod ⟨"LazyPages", "has", "(II)Z"⟩) := ⟨mv_w2 (List.mem_of_getElem? (i := 152) rfl), Or.inl rfl⟩
theorem wd341 : mv_Wd (Cond.selects "LazyPages" ⟨"LazyPages", "has", "(II)Z"⟩ ⟨"LazyPages", "has", "(II)Z"⟩) := ⟨mv_w2 (List.mem_of_getElem? (i := 153) rfl), Or.inl rfl⟩
theorem wd342 : mv_Wd (Cond.methodLink "LazyPagesLaw" 42 ⟨"LazyPages", "get", "(II)J"⟩) := ⟨mv_w2 (List.mem_of_getElem? (i := 186) rfl), Or.inl rfl⟩
theorem wd343 : mv_Wd (Cond.code ⟨"LazyPages", "get", "(II)J"⟩ prog_1_method_9_code 3 (Option.some FieldType.long)) := ⟨mv_w2 (List.mem_of_getElem? (i := 189) rfl), Or.inl rfl⟩
theorem wd344 : mv_Wd (Cond.instanceMethod ⟨"LazyPages", "get", "(II)J"⟩) := ⟨mv_w2 (List.mem_of_getElem? (i := 187) rfl), Or.inl rfl⟩
theorem wd345 : mv_Wd (Cond.selects "LazyPages" ⟨"LazyPages", "get", "(II)J"⟩ ⟨"LazyPages", "get", "(II)J"⟩) := ⟨mv_w2 (List.mem_of_getElem? (i := 188) rfl), Or.inl rfl⟩
theorem wd346 : mv_Wd (Cond.methodLink "LazyPagesLaw" 46 ⟨"LazyPages", "count", "(III)I"⟩) := ⟨mv_w2 (List.mem_of_getElem? (i := 193) rfl), Or.inl rfl⟩
theorem wd347 : mv_Wd (Cond.code ⟨"LazyPages", "count", "(III)I"⟩ prog_1_method_10_code 5 (Option.some FieldType.int)) := ⟨mv_w2 (List.mem_of_getElem? (i := 196) rfl), Or.inl rfl⟩
theorem wd348 : mv_Wd (Cond.instanceMethod ⟨"LazyPages", "count", "(III)I"⟩) := ⟨mv_w2 (List.mem_of_getElem? (i := 194) rfl), Or.inl rfl⟩
theorem wd349 : mv_Wd (Cond.selects "LazyPages" ⟨"LazyPages", "count", "(III)I"⟩ ⟨"LazyPages", "count", "(III)I"⟩) := ⟨mv_w2 (List.mem_of_getElem? (i := 195) rfl), Or.inl rfl⟩
theorem wd350 : mv_Wd (Cond.methodLink "LazyPagesLaw" 50 ⟨"LazyPages", "sum", "(III)J"⟩) := ⟨mv_w2 (List.mem_of_getElem? (i := 200) rfl), Or.inl rfl⟩
theorem wd351 : mv_Wd (Cond.code ⟨"LazyPages", "sum", "(III)J"⟩ prog_1_method_11_code 5 (Option.some FieldType.long)) := ⟨mv_w2 (List.mem_of_getElem? (i := 203) rfl), Or.inl rfl⟩
theorem wd352 : mv_Wd (Cond.instanceMethod ⟨"LazyPages", "sum", "(III)J"⟩) := ⟨mv_w2 (List.mem_of_getElem? (i := 201) rfl), Or.inl rfl⟩
theorem wd353 : mv_Wd (Cond.selects "LazyPages" ⟨"LazyPages", "sum", "(III)J"⟩ ⟨"LazyPages", "sum", "(III)J"⟩) := ⟨mv_w2 (List.mem_of_getElem? (i := 202) rfl), Or.inl rfl⟩
theorem wd354 : mv_Wd (Cond.methodLink "LazyPagesLaw" 54 ⟨"LazyPages", "key", "(III)I"⟩) := ⟨mv_w2 (List.mem_of_getElem? (i := 215) rfl), Or.inl rfl⟩
theorem wd355 : mv_Wd (Cond.code ⟨"LazyPages", "key", "(III)I"⟩ prog_1_method_12_code 6 (Option.some FieldType.int)) := ⟨mv_w2 (List.mem_of_getElem? (i := 218) rfl), Or.inl rfl⟩
theorem wd356 : mv_Wd (Cond.instanceMethod ⟨"LazyPages", "key", "(III)I"⟩) := ⟨mv_w2 (List.mem_of_getElem? (i := 216) rfl), Or.inl rfl⟩
theorem wd357 : mv_Wd (Cond.selects "LazyPages" ⟨"LazyPages", "key", "(III)I"⟩ ⟨"LazyPages", "key", "(III)I"⟩) := ⟨mv_w2 (List.mem_of_getElem? (i := 217) rfl), Or.inl rfl⟩
theorem wd358 : mv_Wd (Cond.methodLink "LazyPagesLaw" 57 ⟨"LazyPages", "save", "(I)V"⟩) := ⟨mv_w2 (List.mem_of_getElem? (i := 228) rfl), Or.inl rfl⟩
theorem wd359 : mv_Wd (Cond.code ⟨"LazyPages", "save", "(I)V"⟩ prog_1_method_13_code 2 (Option.none : Option FieldType)) := ⟨mv_w2 (List.mem_of_getElem? (i := 231) rfl), Or.inl rfl⟩
theorem wd360 : mv_Wd (Cond.instanceMethod ⟨"LazyPages", "save", "(I)V"⟩) := ⟨mv_w2 (List.mem_of_getElem? (i := 229) rfl), Or.inl rfl⟩
theorem wd361 : mv_Wd (Cond.selects "LazyPages" ⟨"LazyPages", "save", "(I)V"⟩ ⟨"LazyPages", "save", "(I)V"⟩) := ⟨mv_w2 (List.mem_of_getElem? (i := 230) rfl), Or.inl rfl⟩
theorem wd362 : mv_Wd (Cond.methodLink "LazyPagesLaw" 61 ⟨"LazyPages", "drop", "(I)Z"⟩) := ⟨mv_w2 (List.mem_of_getElem? (i := 235) rfl), Or.inl rfl⟩
theorem wd363 : mv_Wd (Cond.code ⟨"LazyPages", "drop", "(I)Z"⟩ prog_1_method_14_code 3 (Option.some FieldType.boolean)) := ⟨mv_w2 (List.mem_of_getElem? (i := 238) rfl), Or.inl rfl⟩
theorem wd364 : mv_Wd (Cond.instanceMethod ⟨"LazyPages", "drop", "(I)Z"⟩) := ⟨mv_w2 (List.mem_of_getElem? (i := 236) rfl), Or.inl rfl⟩
theorem wd365 : mv_Wd (Cond.selects "LazyPages" ⟨"LazyPages", "drop", "(I)Z"⟩ ⟨"LazyPages", "drop", "(I)Z"⟩) := ⟨mv_w2 (List.mem_of_getElem? (i := 237) rfl), Or.inl rfl⟩
theorem wd366 : mv_Wd (Cond.methodLink "LazyPagesLaw" 65 ⟨"LazyPages", "restore", "(I)I"⟩) := ⟨mv_w3 (List.mem_of_getElem? (i := 2) rfl), Or.inl rfl⟩
theorem wd367 : mv_Wd (Cond.code ⟨"LazyPages", "restore", "(I)I"⟩ prog_1_method_15_code 4 (Option.some FieldType.int)) := ⟨mv_w3 (List.mem_of_getElem? (i := 5) rfl), Or.inl rfl⟩
theorem wd368 : mv_Wd (Cond.instanceMethod ⟨"LazyPages", "restore", "(I)I"⟩) := ⟨mv_w3 (List.mem_of_getElem? (i := 3) rfl), Or.inl rfl⟩
theorem wd369 : mv_Wd (Cond.selects "LazyPages" ⟨"LazyPages", "restore", "(I)I"⟩ ⟨"LazyPages", "restore", "(I)I"⟩) := ⟨mv_w3 (List.mem_of_getElem? (i := 4) rfl), Or.inl rfl⟩
theorem wd370 : mv_Wd (Cond.methodLink "LazyPagesLaw" 69 ⟨"LazyPages", "differ", "(II)I"⟩) := ⟨mv_w3 (List.mem_of_getElem? (i := 9) rfl), Or.inl rfl⟩
theorem wd371 : mv_Wd (Cond.code ⟨"LazyPages", "differ", "(II)I"⟩ prog_1_method_16_code 5 (Option.some FieldType.int)) := ⟨mv_w3 (List.mem_of_getElem? (i := 12) rfl), Or.inl rfl⟩
theorem wd372 : mv_Wd (Cond.instanceMethod ⟨"LazyPages", "differ", "(II)I"⟩) := ⟨mv_w3 (List.mem_of_getElem? (i := 10) rfl), Or.inl rfl⟩
theorem wd373 : mv_Wd (Cond.selects "LazyPages" ⟨"LazyPages", "differ", "(II)I"⟩ ⟨"LazyPages", "differ", "(II)I"⟩) := ⟨mv_w3 (List.mem_of_getElem? (i := 11) rfl), Or.inl rfl⟩
theorem wd374 : mv_Wd (Cond.methodLink "LazyPagesLaw" 72 ⟨"LazyPages", "total", "(I)I"⟩) := ⟨mv_w3 (List.mem_of_getElem? (i := 22) rfl), Or.inl rfl⟩
theorem wd375 : mv_Wd (Cond.code ⟨"LazyPages", "total", "(I)I"⟩ prog_1_method_21_code 2 (Option.some FieldType.int)) := ⟨mv_w3 (List.mem_of_getElem? (i := 25) rfl), Or.inl rfl⟩
theorem wd376 : mv_Wd (Cond.instanceMethod ⟨"LazyPages", "total", "(I)I"⟩) := ⟨mv_w3 (List.mem_of_getElem? (i := 23) rfl), Or.inl rfl⟩
theorem wd377 : mv_Wd (Cond.selects "LazyPages" ⟨"LazyPages", "total", "(I)I"⟩ ⟨"LazyPages", "total", "(I)I"⟩) := ⟨mv_w3 (List.mem_of_getElem? (i := 24) rfl), Or.inl rfl⟩
theorem wd378 : mv_Wd (Cond.classLink "LazyPagesLaw" 8 "LazyPages") := ⟨mv_w1 (List.mem_of_getElem? (i := 13) rfl), Or.inl rfl⟩
theorem wd379 : mv_Wd (Cond.instantiable "LazyPages" 6) := ⟨mv_w1 (List.mem_of_getElem? (i := 14) rfl), Or.inl rfl⟩
theorem wd380 : mv_Wd (Cond.methodLink "LazyPagesLaw" 75 ⟨"LazyPages", "<init>", "()V"⟩) := ⟨mv_w1 (List.mem_of_getElem? (i := 15) rfl), Or.inl rfl⟩
theorem wd381 : mv_Wd (Cond.code ⟨"LazyPages", "<init>", "()V"⟩ prog_1_method_1_code 2 (Option.none : Option FieldType)) := ⟨mv_w1 (List.mem_of_getElem? (i := 17) rfl), Or.inl rfl⟩
theorem wd382 : mv_Wd (Cond.instanceMethod ⟨"LazyPages", "<init>", "()V"⟩) := ⟨mv_w1 (List.mem_of_getElem? (i := 16) rfl), Or.inl rfl⟩
theorem wd383 : mv_Wd (Cond.classLink "LazyPagesLaw" 76 "LazyPagesModel") := ⟨mv_w3 (List.mem_of_getElem? (i := 31) rfl), Or.inl rfl⟩
theorem wd384 : mv_Wd (Cond.instantiable "LazyPagesModel" 11) := ⟨mv_w3 (List.mem_of_getElem? (i := 32) rfl), Or.inl rfl⟩
theorem wd385 : mv_Wd (Cond.methodLink "LazyPagesLaw" 78 ⟨"LazyPagesModel", "<init>", "()V"⟩) := ⟨mv_w3 (List.mem_of_getElem? (i := 33) rfl), Or.inl rfl⟩
theorem wd386 : mv_Wd (Cond.code ⟨"LazyPagesModel", "<init>", "()V"⟩ prog_5_method_1_code 1 (Option.none : Option FieldType)) := ⟨mv_w3 (List.mem_of_getElem? (i := 35) rfl), Or.inl rfl⟩
theorem wd387 : mv_Wd (Cond.instanceMethod ⟨"LazyPagesModel", "<init>", "()V"⟩) := ⟨mv_w3 (List.mem_of_getElem? (i := 34) rfl), Or.inl rfl⟩
theorem wd388 : mv_Wd (Cond.constantLong "LazyPagesLaw" 79 (4294967295)) := ⟨mv_w3 (List.mem_of_getElem? (i := 205) rfl), Or.inl rfl⟩
theorem wd389 : mv_Wd (Cond.methodLink "LazyPagesLaw" 81 ⟨"LazyPagesLaw", "put", "(LLazyPages;IJ[J)I"⟩) := ⟨mv_w1 (List.mem_of_getElem? (i := 151) rfl), Or.inl rfl⟩
theorem wd390 : mv_Wd (Cond.initialized "LazyPagesLaw") := ⟨mv_w1 (List.mem_of_getElem? (i := 0) rfl), Or.inl rfl⟩
theorem wd391 : mv_Wd (Cond.codeWith ⟨"LazyPagesLaw", "put", "(LLazyPages;IJ[J)I"⟩ method_3_code 6 (Option.some FieldType.int) [(0, 11, 14, 13)]) := ⟨mv_w1 (List.mem_of_getElem? (i := 153) rfl), Or.inl rfl⟩
theorem wd392 : mv_Wd (Cond.static ⟨"LazyPagesLaw", "put", "(LLazyPages;IJ[J)I"⟩) := ⟨mv_w1 (List.mem_of_getElem? (i := 152) rfl), Or.inl rfl⟩
theorem wd393 : mv_Wd (Cond.methodLink "LazyPagesLaw" 86 ⟨"LazyPagesModel", "put", "(IJ)I"⟩) := ⟨mv_w3 (List.mem_of_getElem? (i := 75) rfl), Or.inl rfl⟩
theorem wd394 : mv_Wd (Cond.code ⟨"LazyPagesModel", "put", "(IJ)I"⟩ prog_5_method_12_code 4 (Option.some FieldType.int)) := ⟨mv_w3 (List.mem_of_getElem? (i := 78) rfl), Or.inl rfl⟩
theorem wd395 : mv_Wd (Cond.instanceMethod ⟨"LazyPagesModel", "put", "(IJ)I"⟩) := ⟨mv_w3 (List.mem_of_getElem? (i := 76) rfl), Or.inl rfl⟩
theorem wd396 : mv_Wd (Cond.selects "LazyPagesModel" ⟨"LazyPagesModel", "put", "(IJ)I"⟩ ⟨"LazyPagesModel", "put", "(IJ)I"⟩) := ⟨mv_w3 (List.mem_of_getElem? (i := 77) rfl), Or.inl rfl⟩
theorem wd397 : mv_Wd (Cond.methodLink "LazyPagesLaw" 87 ⟨"LazyPagesModel", "thrown", "()I"⟩) := ⟨mv_w3 (List.mem_of_getElem? (i := 71) rfl), Or.inl rfl⟩
theorem wd398 : mv_Wd (Cond.code ⟨"LazyPagesModel", "thrown", "()I"⟩ prog_5_method_2_code 1 (Option.some FieldType.int)) := ⟨mv_w3 (List.mem_of_getElem? (i := 74) rfl), Or.inl rfl⟩
theorem wd399 : mv_Wd (Cond.instanceMethod ⟨"LazyPagesModel", "thrown", "()I"⟩) := ⟨mv_w3 (List.mem_of_getElem? (i := 72) rfl), Or.inl rfl⟩
theorem wd400 : mv_Wd (Cond.selects "LazyPagesModel" ⟨"LazyPagesModel", "thrown", "()I"⟩ ⟨"LazyPagesModel", "thrown", "()I"⟩) := ⟨mv_w3 (List.mem_of_getElem? (i := 73) rfl), Or.inl rfl⟩
theorem wd401 : mv_Wd (Cond.methodLink "LazyPagesLaw" 91 ⟨"LazyPagesLaw", "add", "(LLazyPages;IJ[J)I"⟩) := ⟨mv_w2 (List.mem_of_getElem? (i := 48) rfl), Or.inl rfl⟩
theorem wd402 : mv_Wd (Cond.codeWith ⟨"LazyPagesLaw", "add", "(LLazyPages;IJ[J)I"⟩ method_4_code 6 (Option.some FieldType.int) [(0, 10, 13, 13)]) := ⟨mv_w2 (List.mem_of_getElem? (i := 50) rfl), Or.inl rfl⟩
theorem wd403 : mv_Wd (Cond.static ⟨"LazyPagesLaw", "add", "(LLazyPages;IJ[J)I"⟩) := ⟨mv_w2 (List.mem_of_getElem? (i := 49) rfl), Or.inl rfl⟩
theorem wd404 : mv_Wd (Cond.methodLink "LazyPagesLaw" 93 ⟨"LazyPagesModel", "add", "(IJ)J"⟩) := ⟨mv_w3 (List.mem_of_getElem? (i := 115) rfl), Or.inl rfl⟩
theorem wd405 : mv_Wd (Cond.code ⟨"LazyPagesModel", "add", "(IJ)J"⟩ prog_5_method_13_code 4 (Option.some FieldType.long)) := ⟨mv_w3 (List.mem_of_getElem? (i := 118) rfl), Or.inl rfl⟩
theorem wd406 : mv_Wd (Cond.instanceMethod ⟨"LazyPagesModel", "add", "(IJ)J"⟩) := ⟨mv_w3 (List.mem_of_getElem? (i := 116) rfl), Or.inl rfl⟩
theorem wd407 : mv_Wd (Cond.selects "LazyPagesModel" ⟨"LazyPagesModel", "add", "(IJ)J"⟩ ⟨"LazyPagesModel", "add", "(IJ)J"⟩) := ⟨mv_w3 (List.mem_of_getElem? (i := 117) rfl), Or.inl rfl⟩
theorem wd408 : mv_Wd (Cond.methodLink "LazyPagesLaw" 94 ⟨"LazyPagesLaw", "most", "(LLazyPages;IJ[J)I"⟩) := ⟨mv_w2 (List.mem_of_getElem? (i := 60) rfl), Or.inl rfl⟩
theorem wd409 : mv_Wd (Cond.codeWith ⟨"LazyPagesLaw", "most", "(LLazyPages;IJ[J)I"⟩ method_5_code 6 (Option.some FieldType.int) [(0, 10, 13, 13)]) := ⟨mv_w2 (List.mem_of_getElem? (i := 62) rfl), Or.inl rfl⟩
theorem wd410 : mv_Wd (Cond.static ⟨"LazyPagesLaw", "most", "(LLazyPages;IJ[J)I"⟩) := ⟨mv_w2 (List.mem_of_getElem? (i := 61) rfl), Or.inl rfl⟩
theorem wd411 : mv_Wd (Cond.methodLink "LazyPagesLaw" 96 ⟨"LazyPagesModel", "most", "(IJ)J"⟩) := ⟨mv_w3 (List.mem_of_getElem? (i := 119) rfl), Or.inl rfl⟩
theorem wd412 : mv_Wd (Cond.code ⟨"LazyPagesModel", "most", "(IJ)J"⟩ prog_5_method_14_code 4 (Option.some FieldType.long)) := ⟨mv_w3 (List.mem_of_getElem? (i := 122) rfl), Or.inl rfl⟩
theorem wd413 : mv_Wd (Cond.instanceMethod ⟨"LazyPagesModel", "most", "(IJ)J"⟩) := ⟨mv_w3 (List.mem_of_getElem? (i := 120) rfl), Or.inl rfl⟩
theorem wd414 : mv_Wd (Cond.selects "LazyPagesModel" ⟨"LazyPagesModel", "most", "(IJ)J"⟩ ⟨"LazyPagesModel", "most", "(IJ)J"⟩) := ⟨mv_w3 (List.mem_of_getElem? (i := 121) rfl), Or.inl rfl⟩
theorem wd415 : mv_Wd (Cond.methodLink "LazyPagesLaw" 97 ⟨"LazyPagesLaw", "delete", "(LLazyPages;II[J)I"⟩) := ⟨mv_w2 (List.mem_of_getElem? (i := 70) rfl), Or.inl rfl⟩
theorem wd416 : mv_Wd (Cond.codeWith ⟨"LazyPagesLaw", "delete", "(LLazyPages;II[J)I"⟩ method_6_code 5 (Option.some FieldType.int) [(0, 10, 13, 26), (0, 10, 17, 13)]) := ⟨mv_w2 (List.mem_of_getElem? (i := 72) rfl), Or.inl rfl⟩
theorem wd417 : mv_Wd (Cond.static ⟨"LazyPagesLaw", "delete", "(LLazyPages;II[J)I"⟩) := ⟨mv_w2 (List.mem_of_getElem? (i := 71) rfl), Or.inl rfl⟩
theorem wd418 : mv_Wd (Cond.methodLink "LazyPagesLaw" 100 ⟨"LazyPagesModel", "delete", "(II)I"⟩) := ⟨mv_w3 (List.mem_of_getElem? (i := 123) rfl), Or.inl rfl⟩
theorem wd419 : mv_Wd (Cond.code ⟨"LazyPagesModel", "delete", "(II)I"⟩ prog_5_method_15_code 3 (Option.some FieldType.int)) := ⟨mv_w3 (List.mem_of_getElem? (i := 126) rfl), Or.inl rfl⟩
theorem wd420 : mv_Wd (Cond.instanceMethod ⟨"LazyPagesModel", "delete", "(II)I"⟩) := ⟨mv_w3 (List.mem_of_getElem? (i := 124) rfl), Or.inl rfl⟩
theorem wd421 : mv_Wd (Cond.selects "LazyPagesModel" ⟨"LazyPagesModel", "delete", "(II)I"⟩ ⟨"LazyPagesModel", "delete", "(II)I"⟩) := ⟨mv_w3 (List.mem_of_getElem? (i := 125) rfl), Or.inl rfl⟩
theorem wd422 : mv_Wd (Cond.methodLink "LazyPagesLaw" 101 ⟨"LazyPagesLaw", "raise", "(LLazyPages;IIJ[J)I"⟩) := ⟨mv_w2 (List.mem_of_getElem? (i := 120) rfl), Or.inl rfl⟩
theorem wd423 : mv_Wd (Cond.codeWith ⟨"LazyPagesLaw", "raise", "(LLazyPages;IIJ[J)I"⟩ method_7_code 7 (Option.some FieldType.int) [(0, 12, 15, 26), (0, 12, 19, 13)]) := ⟨mv_w2 (List.mem_of_getElem? (i := 122) rfl), Or.inl rfl⟩
theorem wd424 : mv_Wd (Cond.static ⟨"LazyPagesLaw", "raise", "(LLazyPages;IIJ[J)I"⟩) := ⟨mv_w2 (List.mem_of_getElem? (i := 121) rfl), Or.inl rfl⟩
theorem wd425 : mv_Wd (Cond.methodLink "LazyPagesLaw" 104 ⟨"LazyPagesModel", "raise", "(IIJ)I"⟩) := ⟨mv_w3 (List.mem_of_getElem? (i := 127) rfl), Or.inl rfl⟩
theorem wd426 : mv_Wd (Cond.code ⟨"LazyPagesModel", "raise", "(IIJ)I"⟩ prog_5_method_16_code 5 (Option.some FieldType.int)) := ⟨mv_w3 (List.mem_of_getElem? (i := 130) rfl), Or.inl rfl⟩
theorem wd427 : mv_Wd (Cond.instanceMethod ⟨"LazyPagesModel", "raise", "(IIJ)I"⟩) := ⟨mv_w3 (List.mem_of_getElem? (i := 128) rfl), Or.inl rfl⟩
theorem wd428 : mv_Wd (Cond.selects "LazyPagesModel" ⟨"LazyPagesModel", "raise", "(IIJ)I"⟩ ⟨"LazyPagesModel", "raise", "(IIJ)I"⟩) := ⟨mv_w3 (List.mem_of_getElem? (i := 129) rfl), Or.inl rfl⟩
theorem wd429 : mv_Wd (Cond.methodLink "LazyPagesLaw" 105 ⟨"LazyPagesLaw", "putAll", "(LLazyPages;IIJJI[J)I"⟩) := ⟨mv_w2 (List.mem_of_getElem? (i := 139) rfl), Or.inl rfl⟩
theorem wd430 : mv_Wd (Cond.codeWith ⟨"LazyPagesLaw", "putAll", "(LLazyPages;IIJJI[J)I"⟩ method_8_code 10 (Option.some FieldType.int) [(0, 16, 19, 26)]) := ⟨mv_w2 (List.mem_of_getElem? (i := 141) rfl), Or.inl rfl⟩
theorem wd431 : mv_Wd (Cond.static ⟨"LazyPagesLaw", "putAll", "(LLazyPages;IIJJI[J)I"⟩) := ⟨mv_w2 (List.mem_of_getElem? (i := 140) rfl), Or.inl rfl⟩
theorem wd432 : mv_Wd (Cond.methodLink "LazyPagesLaw" 108 ⟨"LazyPagesModel", "putAll", "(IIJJI)I"⟩) := ⟨mv_w3 (List.mem_of_getElem? (i := 131) rfl), Or.inl rfl⟩
theorem wd433 : mv_Wd (Cond.code ⟨"LazyPagesModel", "putAll", "(IIJJI)I"⟩ prog_5_method_17_code 12 (Option.some FieldType.int)) := ⟨mv_w3 (List.mem_of_getElem? (i := 134) rfl), Or.inl rfl⟩
theorem wd434 : mv_Wd (Cond.instanceMethod ⟨"LazyPagesModel", "putAll", "(IIJJI)I"⟩) := ⟨mv_w3 (List.mem_of_getElem? (i := 132) rfl), Or.inl rfl⟩
theorem wd435 : mv_Wd (Cond.selects "LazyPagesModel" ⟨"LazyPagesModel", "putAll", "(IIJJI)I"⟩ ⟨"LazyPagesModel", "putAll", "(IIJJI)I"⟩) := ⟨mv_w3 (List.mem_of_getElem? (i := 133) rfl), Or.inl rfl⟩
theorem wd436 : mv_Wd (Cond.methodLink "LazyPagesLaw" 109 ⟨"LazyPagesLaw", "has", "(LLazyPages;II[J)I"⟩) := ⟨mv_w2 (List.mem_of_getElem? (i := 147) rfl), Or.inl rfl⟩
theorem wd437 : mv_Wd (Cond.codeWith ⟨"LazyPagesLaw", "has", "(LLazyPages;II[J)I"⟩ method_9_code 5 (Option.some FieldType.int) [(0, 17, 20, 40)]) := ⟨mv_w2 (List.mem_of_getElem? (i := 149) rfl), Or.inl rfl⟩
theorem wd438 : mv_Wd (Cond.static ⟨"LazyPagesLaw", "has", "(LLazyPages;II[J)I"⟩) := ⟨mv_w2 (List.mem_of_getElem? (i := 148) rfl), Or.inl rfl⟩
theorem wd439 : mv_Wd (Cond.methodLink "LazyPagesLaw" 111 ⟨"LazyPagesModel", "has", "(II)Z"⟩) := ⟨mv_w3 (List.mem_of_getElem? (i := 135) rfl), Or.inl rfl⟩
theorem wd440 : mv_Wd (Cond.code ⟨"LazyPagesModel", "has", "(II)Z"⟩ prog_5_method_19_code 4 (Option.some FieldType.boolean)) := ⟨mv_w3 (List.mem_of_getElem? (i := 138) rfl), Or.inl rfl⟩
theorem wd441 : mv_Wd (Cond.instanceMethod ⟨"LazyPagesModel", "has", "(II)Z"⟩) := ⟨mv_w3 (List.mem_of_getElem? (i := 136) rfl), Or.inl rfl⟩
theorem wd442 : mv_Wd (Cond.selects "LazyPagesModel" ⟨"LazyPagesModel", "has", "(II)Z"⟩ ⟨"LazyPagesModel", "has", "(II)Z"⟩) := ⟨mv_w3 (List.mem_of_getElem? (i := 137) rfl), Or.inl rfl⟩
theorem wd443 : mv_Wd (Cond.methodLink "LazyPagesLaw" 112 ⟨"LazyPagesLaw", "get", "(LLazyPages;II[J)I"⟩) := ⟨mv_w2 (List.mem_of_getElem? (i := 183) rfl), Or.inl rfl⟩
theorem wd444 : mv_Wd (Cond.codeWith ⟨"LazyPagesLaw", "get", "(LLazyPages;II[J)I"⟩ method_10_code 5 (Option.some FieldType.int) [(0, 9, 12, 40)]) := ⟨mv_w2 (List.mem_of_getElem? (i := 185) rfl), Or.inl rfl⟩
theorem wd445 : mv_Wd (Cond.static ⟨"LazyPagesLaw", "get", "(LLazyPages;II[J)I"⟩) := ⟨mv_w2 (List.mem_of_getElem? (i := 184) rfl), Or.inl rfl⟩
theorem wd446 : mv_Wd (Cond.methodLink "LazyPagesLaw" 114 ⟨"LazyPagesModel", "get", "(II)J"⟩) := ⟨mv_w3 (List.mem_of_getElem? (i := 143) rfl), Or.inl rfl⟩
theorem wd447 : mv_Wd (Cond.code ⟨"LazyPagesModel", "get", "(II)J"⟩ prog_5_method_20_code 4 (Option.some FieldType.long)) := ⟨mv_w3 (List.mem_of_getElem? (i := 146) rfl), Or.inl rfl⟩
theorem wd448 : mv_Wd (Cond.instanceMethod ⟨"LazyPagesModel", "get", "(II)J"⟩) := ⟨mv_w3 (List.mem_of_getElem? (i := 144) rfl), Or.inl rfl⟩
theorem wd449 : mv_Wd (Cond.selects "LazyPagesModel" ⟨"LazyPagesModel", "get", "(II)J"⟩ ⟨"LazyPagesModel", "get", "(II)J"⟩) := ⟨mv_w3 (List.mem_of_getElem? (i := 145) rfl), Or.inl rfl⟩
theorem wd450 : mv_Wd (Cond.methodLink "LazyPagesLaw" 115 ⟨"LazyPagesLaw", "count", "(LLazyPages;III[J)I"⟩) := ⟨mv_w2 (List.mem_of_getElem? (i := 190) rfl), Or.inl rfl⟩
theorem wd451 : mv_Wd (Cond.codeWith ⟨"LazyPagesLaw", "count", "(LLazyPages;III[J)I"⟩ method_11_code 6 (Option.some FieldType.int) [(0, 12, 15, 40), (0, 12, 19, 26)]) := ⟨mv_w2 (List.mem_of_getElem? (i := 192) rfl), Or.inl rfl⟩
theorem wd452 : mv_Wd (Cond.static ⟨"LazyPagesLaw", "count", "(LLazyPages;III[J)I"⟩) := ⟨mv_w2 (List.mem_of_getElem? (i := 191) rfl), Or.inl rfl⟩
theorem wd453 : mv_Wd (Cond.methodLink "LazyPagesLaw" 118 ⟨"LazyPagesModel", "count", "(III)I"⟩) := ⟨mv_w3 (List.mem_of_getElem? (i := 147) rfl), Or.inl rfl⟩
theorem wd454 : mv_Wd (Cond.code ⟨"LazyPagesModel", "count", "(III)I"⟩ prog_5_method_21_code 5 (Option.some FieldType.int)) := ⟨mv_w3 (List.mem_of_getElem? (i := 150) rfl), Or.inl rfl⟩
theorem wd455 : mv_Wd (Cond.instanceMethod ⟨"LazyPagesModel", "count", "(III)I"⟩) := ⟨mv_w3 (List.mem_of_getElem? (i := 148) rfl), Or.inl rfl⟩
theorem wd456 : mv_Wd (Cond.selects "LazyPagesModel" ⟨"LazyPagesModel", "count", "(III)I"⟩ ⟨"LazyPagesModel", "count", "(III)I"⟩) := ⟨mv_w3 (List.mem_of_getElem? (i := 149) rfl), Or.inl rfl⟩
theorem wd457 : mv_Wd (Cond.methodLink "LazyPagesLaw" 119 ⟨"LazyPagesLaw", "sum", "(LLazyPages;III[J)I"⟩) := ⟨mv_w2 (List.mem_of_getElem? (i := 197) rfl), Or.inl rfl⟩
theorem wd458 : mv_Wd (Cond.codeWith ⟨"LazyPagesLaw", "sum", "(LLazyPages;III[J)I"⟩ method_12_code 6 (Option.some FieldType.int) [(0, 11, 14, 40), (0, 11, 18, 26)]) := ⟨mv_w2 (List.mem_of_getElem? (i := 199) rfl), Or.inl rfl⟩
theorem wd459 : mv_Wd (Cond.static ⟨"LazyPagesLaw", "sum", "(LLazyPages;III[J)I"⟩) := ⟨mv_w2 (List.mem_of_getElem? (i := 198) rfl), Or.inl rfl⟩
theorem wd460 : mv_Wd (Cond.methodLink "LazyPagesLaw" 121 ⟨"LazyPagesModel", "sum", "(III)J"⟩) := ⟨mv_w3 (List.mem_of_getElem? (i := 151) rfl), Or.inl rfl⟩
theorem wd461 : mv_Wd (Cond.code ⟨"LazyPagesModel", "sum", "(III)J"⟩ prog_5_method_22_code 9 (Option.some FieldType.long)) := ⟨mv_w3 (List.mem_of_getElem? (i := 154) rfl), Or.inl rfl⟩
theorem wd462 : mv_Wd (Cond.instanceMethod ⟨"LazyPagesModel", "sum", "(III)J"⟩) := ⟨mv_w3 (List.mem_of_getElem? (i := 152) rfl), Or.inl rfl⟩
theorem wd463 : mv_Wd (Cond.selects "LazyPagesModel" ⟨"LazyPagesModel", "sum", "(III)J"⟩ ⟨"LazyPagesModel", "sum", "(III)J"⟩) := ⟨mv_w3 (List.mem_of_getElem? (i := 153) rfl), Or.inl rfl⟩
theorem wd464 : mv_Wd (Cond.methodLink "LazyPagesLaw" 122 ⟨"LazyPagesLaw", "key", "(LLazyPages;III[J)I"⟩) := ⟨mv_w2 (List.mem_of_getElem? (i := 212) rfl), Or.inl rfl⟩
theorem wd465 : mv_Wd (Cond.codeWith ⟨"LazyPagesLaw", "key", "(LLazyPages;III[J)I"⟩ method_13_code 6 (Option.some FieldType.int) [(0, 12, 15, 40), (0, 12, 19, 26)]) := ⟨mv_w2 (List.mem_of_getElem? (i := 214) rfl), Or.inl rfl⟩
theorem wd466 : mv_Wd (Cond.static ⟨"LazyPagesLaw", "key", "(LLazyPages;III[J)I"⟩) := ⟨mv_w2 (List.mem_of_getElem? (i := 213) rfl), Or.inl rfl⟩
theorem wd467 : mv_Wd (Cond.methodLink "LazyPagesLaw" 124 ⟨"LazyPagesModel", "key", "(III)I"⟩) := ⟨mv_w3 (List.mem_of_getElem? (i := 155) rfl), Or.inl rfl⟩
theorem wd468 : mv_Wd (Cond.code ⟨"LazyPagesModel", "key", "(III)I"⟩ prog_5_method_23_code 5 (Option.some FieldType.int)) := ⟨mv_w3 (List.mem_of_getElem? (i := 158) rfl), Or.inl rfl⟩
theorem wd469 : mv_Wd (Cond.instanceMethod ⟨"LazyPagesModel", "key", "(III)I"⟩) := ⟨mv_w3 (List.mem_of_getElem? (i := 156) rfl), Or.inl rfl⟩
theorem wd470 : mv_Wd (Cond.selects "LazyPagesModel" ⟨"LazyPagesModel", "key", "(III)I"⟩ ⟨"LazyPagesModel", "key", "(III)I"⟩) := ⟨mv_w3 (List.mem_of_getElem? (i := 157) rfl), Or.inl rfl⟩
theorem wd471 : mv_Wd (Cond.methodLink "LazyPagesLaw" 125 ⟨"LazyPagesLaw", "save", "(LLazyPages;I)I"⟩) := ⟨mv_w2 (List.mem_of_getElem? (i := 225) rfl), Or.inl rfl⟩
theorem wd472 : mv_Wd (Cond.codeWith ⟨"LazyPagesLaw", "save", "(LLazyPages;I)I"⟩ method_14_code 3 (Option.some FieldType.int) [(0, 5, 8, 40)]) := ⟨mv_w2 (List.mem_of_getElem? (i := 227) rfl), Or.inl rfl⟩
theorem wd473 : mv_Wd (Cond.static ⟨"LazyPagesLaw", "save", "(LLazyPages;I)I"⟩) := ⟨mv_w2 (List.mem_of_getElem? (i := 226) rfl), Or.inl rfl⟩
theorem wd474 : mv_Wd (Cond.methodLink "LazyPagesLaw" 128 ⟨"LazyPagesModel", "save", "(I)V"⟩) := ⟨mv_w3 (List.mem_of_getElem? (i := 159) rfl), Or.inl rfl⟩
theorem wd475 : mv_Wd (Cond.code ⟨"LazyPagesModel", "save", "(I)V"⟩ prog_5_method_25_code 3 (Option.none : Option FieldType)) := ⟨mv_w3 (List.mem_of_getElem? (i := 162) rfl), Or.inl rfl⟩
theorem wd476 : mv_Wd (Cond.instanceMethod ⟨"LazyPagesModel", "save", "(I)V"⟩) := ⟨mv_w3 (List.mem_of_getElem? (i := 160) rfl), Or.inl rfl⟩
theorem wd477 : mv_Wd (Cond.selects "LazyPagesModel" ⟨"LazyPagesModel", "save", "(I)V"⟩ ⟨"LazyPagesModel", "save", "(I)V"⟩) := ⟨mv_w3 (List.mem_of_getElem? (i := 161) rfl), Or.inl rfl⟩
theorem wd478 : mv_Wd (Cond.methodLink "LazyPagesLaw" 129 ⟨"LazyPagesLaw", "drop", "(LLazyPages;I[J)I"⟩) := ⟨mv_w2 (List.mem_of_getElem? (i := 232) rfl), Or.inl rfl⟩
theorem wd479 : mv_Wd (Cond.codeWith ⟨"LazyPagesLaw", "drop", "(LLazyPages;I[J)I"⟩ method_15_code 4 (Option.some FieldType.int) [(0, 16, 19, 40)]) := ⟨mv_w2 (List.mem_of_getElem? (i := 234) rfl), Or.inl rfl⟩
theorem wd480 : mv_Wd (Cond.static ⟨"LazyPagesLaw", "drop", "(LLazyPages;I[J)I"⟩) := ⟨mv_w2 (List.mem_of_getElem? (i := 233) rfl), Or.inl rfl⟩
theorem wd481 : mv_Wd (Cond.methodLink "LazyPagesLaw" 132 ⟨"LazyPagesModel", "drop", "(I)Z"⟩) := ⟨mv_w3 (List.mem_of_getElem? (i := 166) rfl), Or.inl rfl⟩
theorem wd482 : mv_Wd (Cond.code ⟨"LazyPagesModel", "drop", "(I)Z"⟩ prog_5_method_26_code 3 (Option.some FieldType.boolean)) := ⟨mv_w3 (List.mem_of_getElem? (i := 169) rfl), Or.inl rfl⟩
theorem wd483 : mv_Wd (Cond.instanceMethod ⟨"LazyPagesModel", "drop", "(I)Z"⟩) := ⟨mv_w3 (List.mem_of_getElem? (i := 167) rfl), Or.inl rfl⟩
theorem wd484 : mv_Wd (Cond.selects "LazyPagesModel" ⟨"LazyPagesModel", "drop", "(I)Z"⟩ ⟨"LazyPagesModel", "drop", "(I)Z"⟩) := ⟨mv_w3 (List.mem_of_getElem? (i := 168) rfl), Or.inl rfl⟩
theorem wd485 : mv_Wd (Cond.methodLink "LazyPagesLaw" 133 ⟨"LazyPagesLaw", "restore", "(LLazyPages;I[J)I"⟩) := ⟨mv_w2 (List.mem_of_getElem? (i := 239) rfl), Or.inl rfl⟩
theorem wd486 : mv_Wd (Cond.codeWith ⟨"LazyPagesLaw", "restore", "(LLazyPages;I[J)I"⟩ method_16_code 4 (Option.some FieldType.int) [(0, 9, 12, 40), (0, 9, 15, 13)]) := ⟨mv_w3 (List.mem_of_getElem? (i := 1) rfl), Or.inl rfl⟩
theorem wd487 : mv_Wd (Cond.static ⟨"LazyPagesLaw", "restore", "(LLazyPages;I[J)I"⟩) := ⟨mv_w3 (List.mem_of_getElem? (i := 0) rfl), Or.inl rfl⟩
theorem wd488 : mv_Wd (Cond.methodLink "LazyPagesLaw" 135 ⟨"LazyPagesModel", "restore", "(I)I"⟩) := ⟨mv_w3 (List.mem_of_getElem? (i := 170) rfl), Or.inl rfl⟩
theorem wd489 : mv_Wd (Cond.code ⟨"LazyPagesModel", "restore", "(I)I"⟩ prog_5_method_27_code 4 (Option.some FieldType.int)) := ⟨mv_w3 (List.mem_of_getElem? (i := 173) rfl), Or.inl rfl⟩
theorem wd490 : mv_Wd (Cond.instanceMethod ⟨"LazyPagesModel", "restore", "(I)I"⟩) := ⟨mv_w3 (List.mem_of_getElem? (i := 171) rfl), Or.inl rfl⟩
theorem wd491 : mv_Wd (Cond.selects "LazyPagesModel" ⟨"LazyPagesModel", "restore", "(I)I"⟩ ⟨"LazyPagesModel", "restore", "(I)I"⟩) := ⟨mv_w3 (List.mem_of_getElem? (i := 172) rfl), Or.inl rfl⟩
theorem wd492 : mv_Wd (Cond.methodLink "LazyPagesLaw" 136 ⟨"LazyPagesLaw", "differ", "(LLazyPages;II[J)I"⟩) := ⟨mv_w3 (List.mem_of_getElem? (i := 6) rfl), Or.inl rfl⟩
theorem wd493 : mv_Wd (Cond.codeWith ⟨"LazyPagesLaw", "differ", "(LLazyPages;II[J)I"⟩ method_17_code 5 (Option.some FieldType.int) [(0, 10, 13, 40)]) := ⟨mv_w3 (List.mem_of_getElem? (i := 8) rfl), Or.inl rfl⟩
theorem wd494 : mv_Wd (Cond.static ⟨"LazyPagesLaw", "differ", "(LLazyPages;II[J)I"⟩) := ⟨mv_w3 (List.mem_of_getElem? (i := 7) rfl), Or.inl rfl⟩
theorem wd495 : mv_Wd (Cond.methodLink "LazyPagesLaw" 138 ⟨"LazyPagesModel", "differ", "(II)I"⟩) := ⟨mv_w3 (List.mem_of_getElem? (i := 176) rfl), Or.inl rfl⟩
theorem wd496 : mv_Wd (Cond.code ⟨"LazyPagesModel", "differ", "(II)I"⟩ prog_5_method_28_code 8 (Option.some FieldType.int)) := ⟨mv_w3 (List.mem_of_getElem? (i := 179) rfl), Or.inl rfl⟩
theorem wd497 : mv_Wd (Cond.instanceMethod ⟨"LazyPagesModel", "differ", "(II)I"⟩) := ⟨mv_w3 (List.mem_of_getElem? (i := 177) rfl), Or.inl rfl⟩
theorem wd498 : mv_Wd (Cond.selects "LazyPagesModel" ⟨"LazyPagesModel", "differ", "(II)I"⟩ ⟨"LazyPagesModel", "differ", "(II)I"⟩) := ⟨mv_w3 (List.mem_of_getElem? (i := 178) rfl), Or.inl rfl⟩
theorem wd499 : mv_Wd (Cond.methodLink "LazyPagesLaw" 139 ⟨"LazyPages", "settle", "()V"⟩) := ⟨mv_w1 (List.mem_of_getElem? (i := 93) rfl), Or.inl rfl⟩
theorem wd500 : mv_Wd (Cond.code ⟨"LazyPages", "settle", "()V"⟩ prog_1_method_17_code 1 (Option.none : Option FieldType)) := ⟨mv_w1 (List.mem_of_getElem? (i := 96) rfl), Or.inl rfl⟩
theorem wd501 : mv_Wd (Cond.instanceMethod ⟨"LazyPages", "settle", "()V"⟩) := ⟨mv_w1 (List.mem_of_getElem? (i := 94) rfl), Or.inl rfl⟩
theorem wd502 : mv_Wd (Cond.selects "LazyPages" ⟨"LazyPages", "settle", "()V"⟩ ⟨"LazyPages", "settle", "()V"⟩) := ⟨mv_w1 (List.mem_of_getElem? (i := 95) rfl), Or.inl rfl⟩
theorem wd503 : mv_Wd (Cond.methodLink "LazyPagesLaw" 142 ⟨"LazyPagesModel", "settle", "()V"⟩) := ⟨mv_w3 (List.mem_of_getElem? (i := 180) rfl), Or.inl rfl⟩
theorem wd504 : mv_Wd (Cond.code ⟨"LazyPagesModel", "settle", "()V"⟩ prog_5_method_29_code 1 (Option.none : Option FieldType)) := ⟨mv_w3 (List.mem_of_getElem? (i := 183) rfl), Or.inl rfl⟩
theorem wd505 : mv_Wd (Cond.instanceMethod ⟨"LazyPagesModel", "settle", "()V"⟩) := ⟨mv_w3 (List.mem_of_getElem? (i := 181) rfl), Or.inl rfl⟩
theorem wd506 : mv_Wd (Cond.selects "LazyPagesModel" ⟨"LazyPagesModel", "settle", "()V"⟩ ⟨"LazyPagesModel", "settle", "()V"⟩) := ⟨mv_w3 (List.mem_of_getElem? (i := 182) rfl), Or.inl rfl⟩
theorem wd507 : mv_Wd (Cond.methodLink "LazyPagesLaw" 143 ⟨"LazyPages", "sync", "()I"⟩) := ⟨mv_w1 (List.mem_of_getElem? (i := 105) rfl), Or.inl rfl⟩
theorem wd508 : mv_Wd (Cond.code ⟨"LazyPages", "sync", "()I"⟩ prog_1_method_18_code 1 (Option.some FieldType.int)) := ⟨mv_w1 (List.mem_of_getElem? (i := 108) rfl), Or.inl rfl⟩
theorem wd509 : mv_Wd (Cond.instanceMethod ⟨"LazyPages", "sync", "()I"⟩) := ⟨mv_w1 (List.mem_of_getElem? (i := 106) rfl), Or.inl rfl⟩
theorem wd510 : mv_Wd (Cond.selects "LazyPages" ⟨"LazyPages", "sync", "()I"⟩ ⟨"LazyPages", "sync", "()I"⟩) := ⟨mv_w1 (List.mem_of_getElem? (i := 107) rfl), Or.inl rfl⟩
theorem wd511 : mv_Wd (Cond.methodLink "LazyPagesLaw" 146 ⟨"LazyPagesModel", "sync", "()I"⟩) := ⟨mv_w3 (List.mem_of_getElem? (i := 184) rfl), Or.inl rfl⟩
theorem wd512 : mv_Wd (Cond.methodLink "LazyPagesLaw" 147 ⟨"LazyPages", "checkpoint", "()I"⟩) := ⟨mv_w1 (List.mem_of_getElem? (i := 125) rfl), Or.inl rfl⟩
theorem wd513 : mv_Wd (Cond.code ⟨"LazyPages", "checkpoint", "()I"⟩ prog_1_method_19_code 1 (Option.some FieldType.int)) := ⟨mv_w1 (List.mem_of_getElem? (i := 128) rfl), Or.inl rfl⟩
theorem wd514 : mv_Wd (Cond.instanceMethod ⟨"LazyPages", "checkpoint", "()I"⟩) := ⟨mv_w1 (List.mem_of_getElem? (i := 126) rfl), Or.inl rfl⟩
theorem wd515 : mv_Wd (Cond.selects "LazyPages" ⟨"LazyPages", "checkpoint", "()I"⟩ ⟨"LazyPages", "checkpoint", "()I"⟩) := ⟨mv_w1 (List.mem_of_getElem? (i := 127) rfl), Or.inl rfl⟩
theorem wd516 : mv_Wd (Cond.methodLink "LazyPagesLaw" 150 ⟨"LazyPagesModel", "checkpoint", "()I"⟩) := ⟨mv_w3 (List.mem_of_getElem? (i := 188) rfl), Or.inl rfl⟩
theorem wd517 : mv_Wd (Cond.code ⟨"LazyPagesModel", "checkpoint", "()I"⟩ prog_5_method_31_code 1 (Option.some FieldType.int)) := ⟨mv_w3 (List.mem_of_getElem? (i := 191) rfl), Or.inl rfl⟩
theorem wd518 : mv_Wd (Cond.instanceMethod ⟨"LazyPagesModel", "checkpoint", "()I"⟩) := ⟨mv_w3 (List.mem_of_getElem? (i := 189) rfl), Or.inl rfl⟩
theorem wd519 : mv_Wd (Cond.selects "LazyPagesModel" ⟨"LazyPagesModel", "checkpoint", "()I"⟩ ⟨"LazyPagesModel", "checkpoint", "()I"⟩) := ⟨mv_w3 (List.mem_of_getElem? (i := 190) rfl), Or.inl rfl⟩
theorem wd520 : mv_Wd (Cond.methodLink "LazyPagesLaw" 151 ⟨"LazyPages", "crash", "()I"⟩) := ⟨mv_w1 (List.mem_of_getElem? (i := 129) rfl), Or.inl rfl⟩
theorem wd521 : mv_Wd (Cond.code ⟨"LazyPages", "crash", "()I"⟩ prog_1_method_20_code 3 (Option.some FieldType.int)) := ⟨mv_w1 (List.mem_of_getElem? (i := 132) rfl), Or.inl rfl⟩
theorem wd522 : mv_Wd (Cond.instanceMethod ⟨"LazyPages", "crash", "()I"⟩) := ⟨mv_w1 (List.mem_of_getElem? (i := 130) rfl), Or.inl rfl⟩
theorem wd523 : mv_Wd (Cond.selects "LazyPages" ⟨"LazyPages", "crash", "()I"⟩ ⟨"LazyPages", "crash", "()I"⟩) := ⟨mv_w1 (List.mem_of_getElem? (i := 131) rfl), Or.inl rfl⟩
theorem wd524 : mv_Wd (Cond.methodLink "LazyPagesLaw" 154 ⟨"LazyPagesModel", "crash", "()I"⟩) := ⟨mv_w3 (List.mem_of_getElem? (i := 193) rfl), Or.inl rfl⟩
theorem wd525 : mv_Wd (Cond.code ⟨"LazyPagesModel", "crash", "()I"⟩ prog_5_method_32_code 3 (Option.some FieldType.int)) := ⟨mv_w3 (List.mem_of_getElem? (i := 196) rfl), Or.inl rfl⟩
theorem wd526 : mv_Wd (Cond.instanceMethod ⟨"LazyPagesModel", "crash", "()I"⟩) := ⟨mv_w3 (List.mem_of_getElem? (i := 194) rfl), Or.inl rfl⟩
theorem wd527 : mv_Wd (Cond.selects "LazyPagesModel" ⟨"LazyPagesModel", "crash", "()I"⟩ ⟨"LazyPagesModel", "crash", "()I"⟩) := ⟨mv_w3 (List.mem_of_getElem? (i := 195) rfl), Or.inl rfl⟩
theorem wd528 : mv_Wd (Cond.methodLink "LazyPagesLaw" 155 ⟨"LazyPagesLaw", "total", "(LLazyPages;I[J)I"⟩) := ⟨mv_w3 (List.mem_of_getElem? (i := 19) rfl), Or.inl rfl⟩
theorem wd529 : mv_Wd (Cond.codeWith ⟨"LazyPagesLaw", "total", "(LLazyPages;I[J)I"⟩ method_18_code 4 (Option.some FieldType.int) [(0, 9, 12, 26)]) := ⟨mv_w3 (List.mem_of_getElem? (i := 21) rfl), Or.inl rfl⟩
theorem wd530 : mv_Wd (Cond.static ⟨"LazyPagesLaw", "total", "(LLazyPages;I[J)I"⟩) := ⟨mv_w3 (List.mem_of_getElem? (i := 20) rfl), Or.inl rfl⟩
theorem wd531 : mv_Wd (Cond.methodLink "LazyPagesLaw" 157 ⟨"LazyPagesModel", "total", "(I)I"⟩) := ⟨mv_w3 (List.mem_of_getElem? (i := 197) rfl), Or.inl rfl⟩
theorem wd532 : mv_Wd (Cond.code ⟨"LazyPagesModel", "total", "(I)I"⟩ prog_5_method_33_code 4 (Option.some FieldType.int)) := ⟨mv_w3 (List.mem_of_getElem? (i := 200) rfl), Or.inl rfl⟩
theorem wd533 : mv_Wd (Cond.instanceMethod ⟨"LazyPagesModel", "total", "(I)I"⟩) := ⟨mv_w3 (List.mem_of_getElem? (i := 198) rfl), Or.inl rfl⟩
theorem wd534 : mv_Wd (Cond.selects "LazyPagesModel" ⟨"LazyPagesModel", "total", "(I)I"⟩ ⟨"LazyPagesModel", "total", "(I)I"⟩) := ⟨mv_w3 (List.mem_of_getElem? (i := 199) rfl), Or.inl rfl⟩
theorem wd535 : mv_Wd (Cond.methodLink "LazyPagesLaw" 158 ⟨"LazyPages", "isSound", "()Z"⟩) := ⟨mv_w1 (List.mem_of_getElem? (i := 133) rfl), Or.inl rfl⟩
theorem wd536 : mv_Wd (Cond.code ⟨"LazyPages", "isSound", "()Z"⟩ prog_1_method_22_code 3 (Option.some FieldType.boolean)) := ⟨mv_w1 (List.mem_of_getElem? (i := 136) rfl), Or.inl rfl⟩
theorem wd537 : mv_Wd (Cond.instanceMethod ⟨"LazyPages", "isSound", "()Z"⟩) := ⟨mv_w1 (List.mem_of_getElem? (i := 134) rfl), Or.inl rfl⟩
theorem wd538 : mv_Wd (Cond.selects "LazyPages" ⟨"LazyPages", "isSound", "()Z"⟩ ⟨"LazyPages", "isSound", "()Z"⟩) := ⟨mv_w1 (List.mem_of_getElem? (i := 135) rfl), Or.inl rfl⟩
theorem wd539 : mv_Wd (Cond.methodLink "LazyPagesLaw" 162 ⟨"LazyPagesModel", "isSound", "()Z"⟩) := ⟨mv_w3 (List.mem_of_getElem? (i := 201) rfl), Or.inl rfl⟩
theorem wd540 : mv_Wd (Cond.code ⟨"LazyPagesModel", "isSound", "()Z"⟩ prog_5_method_34_code 1 (Option.some FieldType.boolean)) := ⟨mv_w3 (List.mem_of_getElem? (i := 204) rfl), Or.inl rfl⟩
theorem wd541 : mv_Wd (Cond.instanceMethod ⟨"LazyPagesModel", "isSound", "()Z"⟩) := ⟨mv_w3 (List.mem_of_getElem? (i := 202) rfl), Or.inl rfl⟩
theorem wd542 : mv_Wd (Cond.selects "LazyPagesModel" ⟨"LazyPagesModel", "isSound", "()Z"⟩ ⟨"LazyPagesModel", "isSound", "()Z"⟩) := ⟨mv_w3 (List.mem_of_getElem? (i := 203) rfl), Or.inl rfl⟩
