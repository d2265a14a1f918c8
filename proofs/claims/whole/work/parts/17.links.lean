/-! What each pool entry links to. Laid by wip/whole/gen/names.py. -/
theorem kX2_1 : mv_Wd (.methodLink "LazyPages" 1 objectInit) ∧ mv_Wd (.instanceMethod objectInit) ∧ mv_Wd (.code objectInit ⟨#[0xb1]⟩ 1 none) := ⟨wd26, wd27, wd28⟩
theorem nX2_7 : mv_Nw "LazyPages" 7 1 3 := ⟨RX1, TX1, rfl, by decide, wsX1_wd, wd29, wd30, wd31, rfl, tyX1, tyX1_ok, by
  intro j t hj
  match j, hj with
  | 0, h => cases h; rfl
  | 1, h => cases h; rfl
  | 2, h => cases h; rfl
  | m + 3, h => cases h⟩
theorem kX2_9 : mv_LI "LazyPages" 9 jX1_init 0 := ⟨⟨wd32, wd31, wd33, by decide, by decide +kernel, by decide, by decide⟩, wd34, rfl, rfl, rfl⟩
theorem fX2_10 : mv_Fd "LazyPages" 10 2 0 2 true := ⟨RX2, TX2, 6, rfl, by decide, wsX2_wd, by decide, rfl, wd35, rfl, rfl, ⟨tyX2 0, tyX2_ok 0 (by decide), fun _ => ⟨rfl, rfl⟩⟩, tyX2, tyX2_ok, nmX2⟩
theorem fX2_16 : mv_Fd "LazyPages" 16 2 1 2 true := ⟨RX2, TX2, 6, rfl, by decide, wsX2_wd, by decide, rfl, wd36, rfl, rfl, ⟨tyX2 1, tyX2_ok 1 (by decide), fun _ => ⟨rfl, rfl⟩⟩, tyX2, tyX2_ok, nmX2⟩
theorem aX2_7 : mv_Wd (.classLink "LazyPages" 7 "LazyPages$PageTable") ∧ mv_Wd (.arrayOver (.object "LazyPages$PageTable")) := ⟨wd29, wd37⟩
theorem fX2_19 : mv_Fd "LazyPages" 19 2 2 2 true := ⟨RX2, TX2, 6, rfl, by decide, wsX2_wd, by decide, rfl, wd38, rfl, rfl, ⟨tyX2 2, tyX2_ok 2 (by decide), fun _ => ⟨rfl, rfl⟩⟩, tyX2, tyX2_ok, nmX2⟩
theorem na_boolean : mv_Wd (.arrayClass (newarray.typeOf .boolean)) := wd39
theorem fX2_23 : mv_Fd "LazyPages" 23 2 3 2 true := ⟨RX2, TX2, 6, rfl, by decide, wsX2_wd, by decide, rfl, wd40, rfl, rfl, ⟨tyX2 3, tyX2_ok 3 (by decide), fun _ => ⟨rfl, rfl⟩⟩, tyX2, tyX2_ok, nmX2⟩
theorem fX2_27 : mv_Fd "LazyPages" 27 2 4 0 false := ⟨RX2, TX2, 6, rfl, by decide, wsX2_wd, by decide, rfl, wd41, rfl, rfl, ⟨tyX2 4, tyX2_ok 4 (by decide), rfl⟩, tyX2, tyX2_ok, nmX2⟩
theorem fX2_31 : mv_Fd "LazyPages" 31 2 5 0 false := ⟨RX2, TX2, 6, rfl, by decide, wsX2_wd, by decide, rfl, wd42, rfl, rfl, ⟨tyX2 5, tyX2_ok 5 (by decide), rfl⟩, tyX2, tyX2_ok, nmX2⟩
theorem kX2_34 : mv_LV "LazyPages" 34 jX2_requireAccepted 1 2 := ⟨⟨wd43, wd44, wd45, by decide, by decide +kernel, by decide, by decide⟩, wd46, wd47, rfl, by decide⟩
theorem kX2_38 : mv_LV "LazyPages" 38 jX2_acceptValue 2 2 := ⟨⟨wd48, wd44, wd49, by decide, by decide +kernel, by decide, by decide⟩, wd50, wd51, rfl, by decide⟩
theorem kX2_42 : mv_LV "LazyPages" 42 jX1_valueOf 1 1 := ⟨⟨wd52, wd31, wd53, by decide, by decide +kernel, by decide, by decide⟩, wd54, wd55, rfl, by decide⟩
theorem kX2_46 : mv_LV "LazyPages" 46 jX1_holds 1 1 := ⟨⟨wd56, wd31, wd57, by decide, by decide +kernel, by decide, by decide⟩, wd58, wd59, rfl, by decide⟩
theorem kX2_50 : mv_Wd (.methodLink "LazyPages" 50 Lib.MathLoose.max_long.x) ∧ mv_Wd (.static Lib.MathLoose.max_long.x) ∧ mv_Wd (.initialized "java/lang/Math") ∧ mv_Wd (.code Lib.MathLoose.max_long.x Lib.MathLoose.max_long.code 4 (some .long)) := ⟨wd60, wd61, wd62, wd63⟩
theorem kX2_56 : mv_LS "LazyPages" 56 jX2_requireRange 2 := ⟨⟨wd64, wd44, wd65, by decide, by decide +kernel, by decide, by decide⟩, wd66⟩
theorem kX2_60 : mv_LV "LazyPages" 60 jX2_requireRoomFor 1 2 := ⟨⟨wd67, wd44, wd68, by decide, by decide +kernel, by decide, by decide⟩, wd69, wd70, rfl, by decide⟩
theorem fX2_63 : mv_Fd "LazyPages" 63 1 2 0 false := ⟨RX1, TX1, 3, rfl, by decide, wsX1_wd, by decide, rfl, wd71, rfl, rfl, ⟨tyX1 2, tyX1_ok 2 (by decide), rfl⟩, tyX1, tyX1_ok, nmX1⟩
theorem kX2_66 : mv_LV "LazyPages" 66 jX1_removeIn 2 1 := ⟨⟨wd72, wd31, wd73, by decide, by decide +kernel, by decide, by decide⟩, wd74, wd75, rfl, by decide⟩
theorem kX2_69 : mv_LV "LazyPages" 69 jX1_raiseIn 3 1 := ⟨⟨wd76, wd31, wd77, by decide, by decide +kernel, by decide, by decide⟩, wd78, wd79, rfl, by decide⟩
theorem kX2_73 : mv_LV "LazyPages" 73 jX1_countIn 2 1 := ⟨⟨wd80, wd31, wd81, by decide, by decide +kernel, by decide, by decide⟩, wd82, wd83, rfl, by decide⟩
theorem kX2_84 : mv_LV "LazyPages" 84 jX2_accepts 1 2 := ⟨⟨wd84, wd44, wd85, by decide, by decide +kernel, by decide, by decide⟩, wd86, wd87, rfl, by decide⟩
theorem kX2_87 : mv_LV "LazyPages" 87 jX2_tableOf 1 2 := ⟨⟨wd88, wd44, wd89, by decide, by decide +kernel, by decide, by decide⟩, wd90, wd91, rfl, by decide⟩
theorem kX2_91 : mv_LV "LazyPages" 91 jX1_sumIn 2 1 := ⟨⟨wd92, wd31, wd93, by decide, by decide +kernel, by decide, by decide⟩, wd94, wd95, rfl, by decide⟩
theorem cX2_97 : mv_Wd (.constant "LazyPages" 97 (2147483647)) := wd96
theorem kX2_100 : mv_LV "LazyPages" 100 jX1_keyAt 1 1 := ⟨⟨wd97, wd31, wd98, by decide, by decide +kernel, by decide, by decide⟩, wd99, wd100, rfl, by decide⟩
theorem kX2_104 : mv_LS "LazyPages" 104 jX2_requireViewNumber 1 := ⟨⟨wd101, wd44, wd102, by decide, by decide +kernel, by decide, by decide⟩, wd103⟩
theorem kX2_107 : mv_LV "LazyPages" 107 jX1_copyFrom 1 1 := ⟨⟨wd104, wd31, wd105, by decide, by decide +kernel, by decide, by decide⟩, wd106, wd107, rfl, by decide⟩
theorem kX2_111 : mv_LV "LazyPages" 111 jX2_savedView 1 2 := ⟨⟨wd108, wd44, wd109, by decide, by decide +kernel, by decide, by decide⟩, wd110, wd111, rfl, by decide⟩
theorem kX2_114 : mv_LV "LazyPages" 114 jX1_differencesFrom 1 1 := ⟨⟨wd112, wd31, wd113, by decide, by decide +kernel, by decide, by decide⟩, wd114, wd115, rfl, by decide⟩
theorem kX2_118 : mv_LV "LazyPages" 118 jX1_pushAllDown 0 1 := ⟨⟨wd116, wd31, wd117, by decide, by decide +kernel, by decide, by decide⟩, wd118, wd119, rfl, by decide⟩
theorem kX2_121 : mv_LV "LazyPages" 121 jX2_keepMessages 0 2 := ⟨⟨wd120, wd44, wd121, by decide, by decide +kernel, by decide, by decide⟩, wd122, wd123, rfl, by decide⟩
theorem kX2_125 : mv_LV "LazyPages" 125 jX2_savedViews 0 2 := ⟨⟨wd124, wd44, wd125, by decide, by decide +kernel, by decide, by decide⟩, wd126, wd127, rfl, by decide⟩
theorem kX2_130 : mv_LV "LazyPages" 130 jX1_isInOrder 0 1 := ⟨⟨wd128, wd31, wd129, by decide, by decide +kernel, by decide, by decide⟩, wd130, wd131, rfl, by decide⟩
theorem kX2_148 : mv_LV "LazyPages" 148 jX1_write 2 1 := ⟨⟨wd132, wd31, wd133, by decide, by decide +kernel, by decide, by decide⟩, wd134, wd135, rfl, by decide⟩
theorem kX3_1 : mv_Wd (.methodLink "LazyPagesModel" 1 objectInit) ∧ mv_Wd (.instanceMethod objectInit) ∧ mv_Wd (.code objectInit ⟨#[0xb1]⟩ 1 none) := ⟨wd136, wd27, wd28⟩
theorem na_int : mv_Wd (.arrayClass (newarray.typeOf .int)) := wd137
theorem fX3_7 : mv_Fd "LazyPagesModel" 7 3 1 2 true := ⟨RX3, TX3, 11, rfl, by decide, wsX3_wd, by decide, rfl, wd138, rfl, rfl, ⟨tyX3 1, tyX3_ok 1 (by decide), fun _ => ⟨rfl, rfl⟩⟩, tyX3, tyX3_ok, nmX3⟩
theorem na_long : mv_Wd (.arrayClass (newarray.typeOf .long)) := wd139
theorem fX3_13 : mv_Fd "LazyPagesModel" 13 3 2 2 true := ⟨RX3, TX3, 11, rfl, by decide, wsX3_wd, by decide, rfl, wd140, rfl, rfl, ⟨tyX3 2, tyX3_ok 2 (by decide), fun _ => ⟨rfl, rfl⟩⟩, tyX3, tyX3_ok, nmX3⟩
theorem fX3_17 : mv_Fd "LazyPagesModel" 17 3 3 2 true := ⟨RX3, TX3, 11, rfl, by decide, wsX3_wd, by decide, rfl, wd141, rfl, rfl, ⟨tyX3 3, tyX3_ok 3 (by decide), fun _ => ⟨rfl, rfl⟩⟩, tyX3, tyX3_ok, nmX3⟩
theorem fX3_20 : mv_Fd "LazyPagesModel" 20 3 4 2 true := ⟨RX3, TX3, 11, rfl, by decide, wsX3_wd, by decide, rfl, wd142, rfl, rfl, ⟨tyX3 4, tyX3_ok 4 (by decide), fun _ => ⟨rfl, rfl⟩⟩, tyX3, tyX3_ok, nmX3⟩
theorem na_byte : mv_Wd (.arrayClass (newarray.typeOf .byte)) := wd143
theorem fX3_24 : mv_Fd "LazyPagesModel" 24 3 5 2 true := ⟨RX3, TX3, 11, rfl, by decide, wsX3_wd, by decide, rfl, wd144, rfl, rfl, ⟨tyX3 5, tyX3_ok 5 (by decide), fun _ => ⟨rfl, rfl⟩⟩, tyX3, tyX3_ok, nmX3⟩
theorem fX3_28 : mv_Fd "LazyPagesModel" 28 3 6 2 true := ⟨RX3, TX3, 11, rfl, by decide, wsX3_wd, by decide, rfl, wd145, rfl, rfl, ⟨tyX3 6, tyX3_ok 6 (by decide), fun _ => ⟨rfl, rfl⟩⟩, tyX3, tyX3_ok, nmX3⟩
theorem fX3_31 : mv_Fd "LazyPagesModel" 31 3 7 2 true := ⟨RX3, TX3, 11, rfl, by decide, wsX3_wd, by decide, rfl, wd146, rfl, rfl, ⟨tyX3 7, tyX3_ok 7 (by decide), fun _ => ⟨rfl, rfl⟩⟩, tyX3, tyX3_ok, nmX3⟩
theorem fX3_34 : mv_Fd "LazyPagesModel" 34 3 8 2 true := ⟨RX3, TX3, 11, rfl, by decide, wsX3_wd, by decide, rfl, wd147, rfl, rfl, ⟨tyX3 8, tyX3_ok 8 (by decide), fun _ => ⟨rfl, rfl⟩⟩, tyX3, tyX3_ok, nmX3⟩
theorem fX3_37 : mv_Fd "LazyPagesModel" 37 3 0 0 false := ⟨RX3, TX3, 11, rfl, by decide, wsX3_wd, by decide, rfl, wd148, rfl, rfl, ⟨tyX3 0, tyX3_ok 0 (by decide), rfl⟩, tyX3, tyX3_ok, nmX3⟩
theorem kX3_41 : mv_LV "LazyPagesModel" 41 jX3_below 2 3 := ⟨⟨wd149, wd150, wd151, by decide, by decide +kernel, by decide, by decide⟩, wd152, wd153, rfl, by decide⟩
theorem kX3_45 : mv_LV "LazyPagesModel" 45 jX3_isIn 2 3 := ⟨⟨wd154, wd150, wd155, by decide, by decide +kernel, by decide, by decide⟩, wd156, wd157, rfl, by decide⟩
theorem kX3_49 : mv_LV "LazyPagesModel" 49 jX3_doDelete 2 3 := ⟨⟨wd158, wd150, wd159, by decide, by decide +kernel, by decide, by decide⟩, wd160, wd161, rfl, by decide⟩
theorem kX3_53 : mv_LV "LazyPagesModel" 53 jX3_doRaise 3 3 := ⟨⟨wd162, wd150, wd163, by decide, by decide +kernel, by decide, by decide⟩, wd164, wd165, rfl, by decide⟩
theorem kX3_57 : mv_LV "LazyPagesModel" 57 jX3_valueIn 2 3 := ⟨⟨wd166, wd150, wd167, by decide, by decide +kernel, by decide, by decide⟩, wd168, wd169, rfl, by decide⟩
theorem kX3_61 : mv_LV "LazyPagesModel" 61 jX3_enter 2 3 := ⟨⟨wd170, wd150, wd171, by decide, by decide +kernel, by decide, by decide⟩, wd172, wd173, rfl, by decide⟩
theorem fX3_65 : mv_Fd "LazyPagesModel" 65 3 9 0 false := ⟨RX3, TX3, 11, rfl, by decide, wsX3_wd, by decide, rfl, wd174, rfl, rfl, ⟨tyX3 9, tyX3_ok 9 (by decide), rfl⟩, tyX3, tyX3_ok, nmX3⟩
theorem kX3_68 : mv_LV "LazyPagesModel" 68 jX3_done 4 3 := ⟨⟨wd175, wd150, wd176, by decide, by decide +kernel, by decide, by decide⟩, wd177, wd178, rfl, by decide⟩
theorem kX3_72 : mv_LV "LazyPagesModel" 72 jX3_isRefused 1 3 := ⟨⟨wd179, wd150, wd180, by decide, by decide +kernel, by decide, by decide⟩, wd181, wd182, rfl, by decide⟩
theorem kX3_76 : mv_LV "LazyPagesModel" 76 jX3_message 4 3 := ⟨⟨wd183, wd150, wd184, by decide, by decide +kernel, by decide, by decide⟩, wd185, wd186, rfl, by decide⟩
theorem kX3_79 : mv_LV "LazyPagesModel" 79 jX3_rowOf 1 3 := ⟨⟨wd187, wd150, wd188, by decide, by decide +kernel, by decide, by decide⟩, wd189, wd190, rfl, by decide⟩
theorem kX3_83 : mv_LS "LazyPagesModel" 83 jX3_isView 1 := ⟨⟨wd191, wd150, wd192, by decide, by decide +kernel, by decide, by decide⟩, wd193⟩
theorem cX3_86 : mv_Wd (.constant "LazyPagesModel" 86 (-2147483648)) := wd194
theorem cX3_87 : mv_Wd (.constant "LazyPagesModel" 87 (2147483647)) := wd195
theorem fX3_88 : mv_Fd "LazyPagesModel" 88 3 10 0 false := ⟨RX3, TX3, 11, rfl, by decide, wsX3_wd, by decide, rfl, wd196, rfl, rfl, ⟨tyX3 10, tyX3_ok 10 (by decide), rfl⟩, tyX3, tyX3_ok, nmX3⟩
theorem kX3_91 : mv_LV "LazyPagesModel" 91 jX3_sync 0 3 := ⟨⟨wd197, wd150, wd198, by decide, by decide +kernel, by decide, by decide⟩, wd199, wd200, rfl, by decide⟩
theorem kX0_3 : mv_Wd (.methodLink "LazyPages$Page" 3 objectInit) ∧ mv_Wd (.instanceMethod objectInit) ∧ mv_Wd (.code objectInit ⟨#[0xb1]⟩ 1 none) := ⟨wd201, wd27, wd28⟩
theorem fX0_9 : mv_Fd "LazyPages$Page" 9 0 0 2 true := ⟨RX0, TX0, 6, rfl, by decide, wsX0_wd, by decide, rfl, wd202, rfl, rfl, ⟨tyX0 0, tyX0_ok 0 (by decide), fun _ => ⟨rfl, rfl⟩⟩, tyX0, tyX0_ok, nmX0⟩
theorem fX0_15 : mv_Fd "LazyPages$Page" 15 0 1 2 true := ⟨RX0, TX0, 6, rfl, by decide, wsX0_wd, by decide, rfl, wd203, rfl, rfl, ⟨tyX0 1, tyX0_ok 1 (by decide), fun _ => ⟨rfl, rfl⟩⟩, tyX0, tyX0_ok, nmX0⟩
theorem fX0_19 : mv_Fd "LazyPages$Page" 19 0 2 0 false := ⟨RX0, TX0, 6, rfl, by decide, wsX0_wd, by decide, rfl, wd204, rfl, rfl, ⟨tyX0 2, tyX0_ok 2 (by decide), rfl⟩, tyX0, tyX0_ok, nmX0⟩
theorem cX0_25 : mv_Wd (.constant "LazyPages$Page" 25 (-2147483648)) := wd205
theorem fX0_26 : mv_Fd "LazyPages$Page" 26 0 3 0 false := ⟨RX0, TX0, 6, rfl, by decide, wsX0_wd, by decide, rfl, wd206, rfl, rfl, ⟨tyX0 3, tyX0_ok 3 (by decide), rfl⟩, tyX0, tyX0_ok, nmX0⟩
theorem cX0_29 : mv_Wd (.constant "LazyPages$Page" 29 (2147483647)) := wd207
theorem fX0_30 : mv_Fd "LazyPages$Page" 30 0 4 0 false := ⟨RX0, TX0, 6, rfl, by decide, wsX0_wd, by decide, rfl, wd208, rfl, rfl, ⟨tyX0 4, tyX0_ok 4 (by decide), rfl⟩, tyX0, tyX0_ok, nmX0⟩
theorem fX0_33 : mv_Fd "LazyPages$Page" 33 0 5 1 false := ⟨RX0, TX0, 6, rfl, by decide, wsX0_wd, by decide, rfl, wd209, rfl, rfl, ⟨tyX0 5, tyX0_ok 5 (by decide), rfl⟩, tyX0, tyX0_ok, nmX0⟩
theorem kX0_37 : mv_LV "LazyPages$Page" 37 jX0_below 1 0 := ⟨⟨wd210, wd211, wd212, by decide, by decide +kernel, by decide, by decide⟩, wd213, wd214, rfl, by decide⟩
theorem kX0_41 : mv_LV "LazyPages$Page" 41 jX0_holdsAt 2 0 := ⟨⟨wd215, wd211, wd216, by decide, by decide +kernel, by decide, by decide⟩, wd217, wd218, rfl, by decide⟩
theorem kX0_45 : mv_LV "LazyPages$Page" 45 jX0_notAbove 1 0 := ⟨⟨wd219, wd211, wd220, by decide, by decide +kernel, by decide, by decide⟩, wd221, wd222, rfl, by decide⟩
theorem kX0_48 : mv_Wd (.methodLink "LazyPages$Page" 48 arraycopyName) ∧ mv_Wd (.native arraycopyName) ∧ mv_Wd (.static arraycopyName) ∧ mv_Wd (.initialized "java/lang/System") := ⟨wd223, wd224, wd225, wd226⟩
theorem kX0_54 : mv_LV "LazyPages$Page" 54 jX0_setValueAt 2 0 := ⟨⟨wd227, wd211, wd228, by decide, by decide +kernel, by decide, by decide⟩, wd229, wd230, rfl, by decide⟩
theorem kX0_58 : mv_LV "LazyPages$Page" 58 jX0_valueAt 1 0 := ⟨⟨wd231, wd211, wd232, by decide, by decide +kernel, by decide, by decide⟩, wd233, wd234, rfl, by decide⟩
theorem kX0_62 : mv_LV "LazyPages$Page" 62 jX0_pushDown 0 0 := ⟨⟨wd235, wd211, wd236, by decide, by decide +kernel, by decide, by decide⟩, wd237, wd238, rfl, by decide⟩
theorem kX1_3 : mv_Wd (.methodLink "LazyPages$PageTable" 3 objectInit) ∧ mv_Wd (.instanceMethod objectInit) ∧ mv_Wd (.code objectInit ⟨#[0xb1]⟩ 1 none) := ⟨wd239, wd27, wd28⟩
theorem aX1_9 : mv_Wd (.classLink "LazyPages$PageTable" 9 "LazyPages$Page") ∧ mv_Wd (.arrayOver (.object "LazyPages$Page")) := ⟨wd240, wd241⟩
theorem fX1_11 : mv_Fd "LazyPages$PageTable" 11 1 0 2 true := ⟨RX1, TX1, 3, rfl, by decide, wsX1_wd, by decide, rfl, wd242, rfl, rfl, ⟨tyX1 0, tyX1_ok 0 (by decide), fun _ => ⟨rfl, rfl⟩⟩, tyX1, tyX1_ok, nmX1⟩
theorem nX1_9 : mv_Nw "LazyPages$PageTable" 9 0 6 := ⟨RX0, TX0, rfl, by decide, wsX0_wd, wd240, wd243, wd211, rfl, tyX0, tyX0_ok, by
  intro j t hj
  match j, hj with
  | 0, h => cases h; rfl
  | 1, h => cases h; rfl
  | 2, h => cases h; rfl
  | 3, h => cases h; rfl
  | 4, h => cases h; rfl
  | 5, h => cases h; rfl
  | m + 6, h => cases h⟩
theorem kX1_17 : mv_LI "LazyPages$PageTable" 17 jX0_init 0 := ⟨⟨wd244, wd211, wd245, by decide, by decide +kernel, by decide, by decide⟩, wd246, rfl, rfl, rfl⟩
theorem fX1_18 : mv_Fd "LazyPages$PageTable" 18 1 1 0 false := ⟨RX1, TX1, 3, rfl, by decide, wsX1_wd, by decide, rfl, wd247, rfl, rfl, ⟨tyX1 1, tyX1_ok 1 (by decide), rfl⟩, tyX1, tyX1_ok, nmX1⟩
theorem fX1_22 : mv_Fd "LazyPages$PageTable" 22 1 2 0 false := ⟨RX1, TX1, 3, rfl, by decide, wsX1_wd, by decide, rfl, wd248, rfl, rfl, ⟨tyX1 2, tyX1_ok 2 (by decide), rfl⟩, tyX1, tyX1_ok, nmX1⟩
theorem fX1_25 : mv_Fd "LazyPages$PageTable" 25 0 4 0 false := ⟨RX0, TX0, 6, rfl, by decide, wsX0_wd, by decide, rfl, wd249, rfl, rfl, ⟨tyX0 4, tyX0_ok 4 (by decide), rfl⟩, tyX0, tyX0_ok, nmX0⟩
theorem kX1_28 : mv_LV "LazyPages$PageTable" 28 jX1_pageOf 1 1 := ⟨⟨wd250, wd31, wd251, by decide, by decide +kernel, by decide, by decide⟩, wd252, wd253, rfl, by decide⟩
theorem kX1_32 : mv_LV "LazyPages$PageTable" 32 jX0_below 1 0 := ⟨⟨wd254, wd211, wd212, by decide, by decide +kernel, by decide, by decide⟩, wd213, wd214, rfl, by decide⟩
theorem kX1_35 : mv_LV "LazyPages$PageTable" 35 jX0_holdsAt 2 0 := ⟨⟨wd255, wd211, wd216, by decide, by decide +kernel, by decide, by decide⟩, wd217, wd218, rfl, by decide⟩
theorem kX1_39 : mv_LV "LazyPages$PageTable" 39 jX0_valueAt 1 0 := ⟨⟨wd256, wd211, wd232, by decide, by decide +kernel, by decide, by decide⟩, wd233, wd234, rfl, by decide⟩
theorem kX1_43 : mv_LV "LazyPages$PageTable" 43 jX0_setValueAt 2 0 := ⟨⟨wd257, wd211, wd228, by decide, by decide +kernel, by decide, by decide⟩, wd229, wd230, rfl, by decide⟩
theorem fX1_47 : mv_Fd "LazyPages$PageTable" 47 0 2 0 false := ⟨RX0, TX0, 6, rfl, by decide, wsX0_wd, by decide, rfl, wd258, rfl, rfl, ⟨tyX0 2, tyX0_ok 2 (by decide), rfl⟩, tyX0, tyX0_ok, nmX0⟩
theorem kX1_50 : mv_LV "LazyPages$PageTable" 50 jX1_splitPageOf 1 1 := ⟨⟨wd259, wd31, wd260, by decide, by decide +kernel, by decide, by decide⟩, wd261, wd262, rfl, by decide⟩
theorem kX1_54 : mv_LV "LazyPages$PageTable" 54 jX0_insertAt 3 0 := ⟨⟨wd263, wd211, wd264, by decide, by decide +kernel, by decide, by decide⟩, wd265, wd266, rfl, by decide⟩
theorem kX1_58 : mv_LV "LazyPages$PageTable" 58 jX1_joinPages 0 1 := ⟨⟨wd267, wd31, wd268, by decide, by decide +kernel, by decide, by decide⟩, wd269, wd270, rfl, by decide⟩
theorem kX1_61 : mv_LV "LazyPages$PageTable" 61 jX0_giveUpperHalfTo 1 0 := ⟨⟨wd271, wd211, wd272, by decide, by decide +kernel, by decide, by decide⟩, wd273, wd274, rfl, by decide⟩
theorem kX1_65 : mv_LV "LazyPages$PageTable" 65 jX0_takeAllOf 1 0 := ⟨⟨wd275, wd211, wd276, by decide, by decide +kernel, by decide, by decide⟩, wd277, wd278, rfl, by decide⟩
theorem kX1_68 : mv_LV "LazyPages$PageTable" 68 jX0_countIn 2 0 := ⟨⟨wd279, wd211, wd280, by decide, by decide +kernel, by decide, by decide⟩, wd281, wd282, rfl, by decide⟩
theorem kX1_72 : mv_LV "LazyPages$PageTable" 72 jX0_removeIn 2 0 := ⟨⟨wd283, wd211, wd284, by decide, by decide +kernel, by decide, by decide⟩, wd285, wd286, rfl, by decide⟩
theorem kX1_76 : mv_LV "LazyPages$PageTable" 76 jX0_raiseIn 3 0 := ⟨⟨wd287, wd211, wd288, by decide, by decide +kernel, by decide, by decide⟩, wd289, wd290, rfl, by decide⟩
theorem kX1_79 : mv_LV "LazyPages$PageTable" 79 jX0_sumIn 2 0 := ⟨⟨wd291, wd211, wd292, by decide, by decide +kernel, by decide, by decide⟩, wd293, wd294, rfl, by decide⟩
theorem fX1_83 : mv_Fd "LazyPages$PageTable" 83 0 0 2 true := ⟨RX0, TX0, 6, rfl, by decide, wsX0_wd, by decide, rfl, wd295, rfl, rfl, ⟨tyX0 0, tyX0_ok 0 (by decide), fun _ => ⟨rfl, rfl⟩⟩, tyX0, tyX0_ok, nmX0⟩
theorem kX1_87 : mv_LV "LazyPages$PageTable" 87 jX1_holds 1 1 := ⟨⟨wd296, wd31, wd57, by decide, by decide +kernel, by decide, by decide⟩, wd58, wd59, rfl, by decide⟩
theorem kX1_91 : mv_LV "LazyPages$PageTable" 91 jX1_valueOf 1 1 := ⟨⟨wd297, wd31, wd53, by decide, by decide +kernel, by decide, by decide⟩, wd54, wd55, rfl, by decide⟩
theorem kX1_94 : mv_LV "LazyPages$PageTable" 94 jX0_pushDown 0 0 := ⟨⟨wd298, wd211, wd236, by decide, by decide +kernel, by decide, by decide⟩, wd237, wd238, rfl, by decide⟩
theorem kX1_97 : mv_LV "LazyPages$PageTable" 97 jX0_copyFrom 1 0 := ⟨⟨wd299, wd211, wd300, by decide, by decide +kernel, by decide, by decide⟩, wd301, wd302, rfl, by decide⟩
theorem kX1_100 : mv_LV "LazyPages$PageTable" 100 jX0_isInOrder 0 0 := ⟨⟨wd303, wd211, wd304, by decide, by decide +kernel, by decide, by decide⟩, wd305, wd306, rfl, by decide⟩
theorem kX1_104 : mv_LV "LazyPages$PageTable" 104 jX1_isNextTo 1 1 := ⟨⟨wd307, wd31, wd308, by decide, by decide +kernel, by decide, by decide⟩, wd309, wd310, rfl, by decide⟩
theorem cX1_109 : mv_Wd (.constant "LazyPages$PageTable" 109 (2147483647)) := wd311
theorem fX1_110 : mv_Fd "LazyPages$PageTable" 110 0 3 0 false := ⟨RX0, TX0, 6, rfl, by decide, wsX0_wd, by decide, rfl, wd312, rfl, rfl, ⟨tyX0 3, tyX0_ok 3 (by decide), rfl⟩, tyX0, tyX0_ok, nmX0⟩
theorem cX1_113 : mv_Wd (.constant "LazyPages$PageTable" 113 (-2147483648)) := wd313
theorem kL_7 : mv_LV "LazyPagesLaw" 7 jX2_put 2 2 := ⟨⟨wd314, wd44, wd315, by decide, by decide +kernel, by decide, by decide⟩, wd316, wd317, rfl, by decide⟩
theorem kL_15 : mv_LV "LazyPagesLaw" 15 jX2_add 2 2 := ⟨⟨wd318, wd44, wd319, by decide, by decide +kernel, by decide, by decide⟩, wd320, wd321, rfl, by decide⟩
theorem kL_19 : mv_LV "LazyPagesLaw" 19 jX2_most 2 2 := ⟨⟨wd322, wd44, wd323, by decide, by decide +kernel, by decide, by decide⟩, wd324, wd325, rfl, by decide⟩
theorem kL_22 : mv_LV "LazyPagesLaw" 22 jX2_delete 2 2 := ⟨⟨wd326, wd44, wd327, by decide, by decide +kernel, by decide, by decide⟩, wd328, wd329, rfl, by decide⟩
theorem kL_28 : mv_LV "LazyPagesLaw" 28 jX2_raise 3 2 := ⟨⟨wd330, wd44, wd331, by decide, by decide +kernel, by decide, by decide⟩, wd332, wd333, rfl, by decide⟩
theorem kL_32 : mv_LV "LazyPagesLaw" 32 jX2_putAll 5 2 := ⟨⟨wd334, wd44, wd335, by decide, by decide +kernel, by decide, by decide⟩, wd336, wd337, rfl, by decide⟩
theorem kL_36 : mv_LV "LazyPagesLaw" 36 jX2_has 2 2 := ⟨⟨wd338, wd44, wd339, by decide, by decide +kernel, by decide, by decide⟩, wd340, wd341, rfl, by decide⟩
theorem kL_42 : mv_LV "LazyPagesLaw" 42 jX2_get 2 2 := ⟨⟨wd342, wd44, wd343, by decide, by decide +kernel, by decide, by decide⟩, wd344, wd345, rfl, by decide⟩
theorem kL_46 : mv_LV "LazyPagesLaw" 46 jX2_count 3 2 := ⟨⟨wd346, wd44, wd347, by decide, by decide +kernel, by decide, by decide⟩, wd348, wd349, rfl, by decide⟩
theorem kL_50 : mv_LV "LazyPagesLaw" 50 jX2_sum 3 2 := ⟨⟨wd350, wd44, wd351, by decide, by decide +kernel, by decide, by decide⟩, wd352, wd353, rfl, by decide⟩
theorem kL_54 : mv_LV "LazyPagesLaw" 54 jX2_key 3 2 := ⟨⟨wd354, wd44, wd355, by decide, by decide +kernel, by decide, by decide⟩, wd356, wd357, rfl, by decide⟩
theorem kL_57 : mv_LV "LazyPagesLaw" 57 jX2_save 1 2 := ⟨⟨wd358, wd44, wd359, by decide, by decide +kernel, by decide, by decide⟩, wd360, wd361, rfl, by decide⟩
theorem kL_61 : mv_LV "LazyPagesLaw" 61 jX2_drop 1 2 := ⟨⟨wd362, wd44, wd363, by decide, by decide +kernel, by decide, by decide⟩, wd364, wd365, rfl, by decide⟩
theorem kL_65 : mv_LV "LazyPagesLaw" 65 jX2_restore 1 2 := ⟨⟨wd366, wd44, wd367, by decide, by decide +kernel, by decide, by decide⟩, wd368, wd369, rfl, by decide⟩
theorem kL_69 : mv_LV "LazyPagesLaw" 69 jX2_differ 2 2 := ⟨⟨wd370, wd44, wd371, by decide, by decide +kernel, by decide, by decide⟩, wd372, wd373, rfl, by decide⟩
theorem kL_72 : mv_LV "LazyPagesLaw" 72 jX2_total 1 2 := ⟨⟨wd374, wd44, wd375, by decide, by decide +kernel, by decide, by decide⟩, wd376, wd377, rfl, by decide⟩
theorem nL_8 : mv_Nw "LazyPagesLaw" 8 2 6 := ⟨RX2, TX2, rfl, by decide, wsX2_wd, wd378, wd379, wd44, rfl, tyX2, tyX2_ok, by
  intro j t hj
  match j, hj with
  | 0, h => cases h; rfl
  | 1, h => cases h; rfl
  | 2, h => cases h; rfl
  | 3, h => cases h; rfl
  | 4, h => cases h; rfl
  | 5, h => cases h; rfl
  | m + 6, h => cases h⟩
theorem kL_75 : mv_LI "LazyPagesLaw" 75 jX2_init 0 := ⟨⟨wd380, wd44, wd381, by decide, by decide +kernel, by decide, by decide⟩, wd382, rfl, rfl, rfl⟩
theorem nL_76 : mv_Nw "LazyPagesLaw" 76 3 11 := ⟨RX3, TX3, rfl, by decide, wsX3_wd, wd383, wd384, wd150, rfl, tyX3, tyX3_ok, by
  intro j t hj
  match j, hj with
  | 0, h => cases h; rfl
  | 1, h => cases h; rfl
  | 2, h => cases h; rfl
  | 3, h => cases h; rfl
  | 4, h => cases h; rfl
  | 5, h => cases h; rfl
  | 6, h => cases h; rfl
  | 7, h => cases h; rfl
  | 8, h => cases h; rfl
  | 9, h => cases h; rfl
  | 10, h => cases h; rfl
  | m + 11, h => cases h⟩
theorem kL_78 : mv_LI "LazyPagesLaw" 78 jX3_init 0 := ⟨⟨wd385, wd150, wd386, by decide, by decide +kernel, by decide, by decide⟩, wd387, rfl, rfl, rfl⟩
theorem cL_79 : mv_Wd (.constantLong "LazyPagesLaw" 79 (4294967295)) := wd388
theorem kL_81 : mv_LS "LazyPagesLaw" 81 jL_put 4 := ⟨⟨wd389, wd390, wd391, by decide, by decide +kernel, by decide, by decide⟩, wd392⟩
theorem kL_86 : mv_LV "LazyPagesLaw" 86 jX3_put 2 3 := ⟨⟨wd393, wd150, wd394, by decide, by decide +kernel, by decide, by decide⟩, wd395, wd396, rfl, by decide⟩
theorem kL_87 : mv_LV "LazyPagesLaw" 87 jX3_thrown 0 3 := ⟨⟨wd397, wd150, wd398, by decide, by decide +kernel, by decide, by decide⟩, wd399, wd400, rfl, by decide⟩
theorem kL_91 : mv_LS "LazyPagesLaw" 91 jL_add 4 := ⟨⟨wd401, wd390, wd402, by decide, by decide +kernel, by decide, by decide⟩, wd403⟩
theorem kL_93 : mv_LV "LazyPagesLaw" 93 jX3_add 2 3 := ⟨⟨wd404, wd150, wd405, by decide, by decide +kernel, by decide, by decide⟩, wd406, wd407, rfl, by decide⟩
theorem kL_94 : mv_LS "LazyPagesLaw" 94 jL_most 4 := ⟨⟨wd408, wd390, wd409, by decide, by decide +kernel, by decide, by decide⟩, wd410⟩
theorem kL_96 : mv_LV "LazyPagesLaw" 96 jX3_most 2 3 := ⟨⟨wd411, wd150, wd412, by decide, by decide +kernel, by decide, by decide⟩, wd413, wd414, rfl, by decide⟩
theorem kL_97 : mv_LS "LazyPagesLaw" 97 jL_delete 4 := ⟨⟨wd415, wd390, wd416, by decide, by decide +kernel, by decide, by decide⟩, wd417⟩
theorem kL_100 : mv_LV "LazyPagesLaw" 100 jX3_delete 2 3 := ⟨⟨wd418, wd150, wd419, by decide, by decide +kernel, by decide, by decide⟩, wd420, wd421, rfl, by decide⟩
theorem kL_101 : mv_LS "LazyPagesLaw" 101 jL_raise 5 := ⟨⟨wd422, wd390, wd423, by decide, by decide +kernel, by decide, by decide⟩, wd424⟩
theorem kL_104 : mv_LV "LazyPagesLaw" 104 jX3_raise 3 3 := ⟨⟨wd425, wd150, wd426, by decide, by decide +kernel, by decide, by decide⟩, wd427, wd428, rfl, by decide⟩
theorem kL_105 : mv_LS "LazyPagesLaw" 105 jL_putAll 7 := ⟨⟨wd429, wd390, wd430, by decide, by decide +kernel, by decide, by decide⟩, wd431⟩
theorem kL_108 : mv_LV "LazyPagesLaw" 108 jX3_putAll 5 3 := ⟨⟨wd432, wd150, wd433, by decide, by decide +kernel, by decide, by decide⟩, wd434, wd435, rfl, by decide⟩
theorem kL_109 : mv_LS "LazyPagesLaw" 109 jL_has 4 := ⟨⟨wd436, wd390, wd437, by decide, by decide +kernel, by decide, by decide⟩, wd438⟩
theorem kL_111 : mv_LV "LazyPagesLaw" 111 jX3_has 2 3 := ⟨⟨wd439, wd150, wd440, by decide, by decide +kernel, by decide, by decide⟩, wd441, wd442, rfl, by decide⟩
theorem kL_112 : mv_LS "LazyPagesLaw" 112 jL_get 4 := ⟨⟨wd443, wd390, wd444, by decide, by decide +kernel, by decide, by decide⟩, wd445⟩
theorem kL_114 : mv_LV "LazyPagesLaw" 114 jX3_get 2 3 := ⟨⟨wd446, wd150, wd447, by decide, by decide +kernel, by decide, by decide⟩, wd448, wd449, rfl, by decide⟩
theorem kL_115 : mv_LS "LazyPagesLaw" 115 jL_count 5 := ⟨⟨wd450, wd390, wd451, by decide, by decide +kernel, by decide, by decide⟩, wd452⟩
theorem kL_118 : mv_LV "LazyPagesLaw" 118 jX3_count 3 3 := ⟨⟨wd453, wd150, wd454, by decide, by decide +kernel, by decide, by decide⟩, wd455, wd456, rfl, by decide⟩
theorem kL_119 : mv_LS "LazyPagesLaw" 119 jL_sum 5 := ⟨⟨wd457, wd390, wd458, by decide, by decide +kernel, by decide, by decide⟩, wd459⟩
theorem kL_121 : mv_LV "LazyPagesLaw" 121 jX3_sum 3 3 := ⟨⟨wd460, wd150, wd461, by decide, by decide +kernel, by decide, by decide⟩, wd462, wd463, rfl, by decide⟩
theorem kL_122 : mv_LS "LazyPagesLaw" 122 jL_key 5 := ⟨⟨wd464, wd390, wd465, by decide, by decide +kernel, by decide, by decide⟩, wd466⟩
theorem kL_124 : mv_LV "LazyPagesLaw" 124 jX3_key 3 3 := ⟨⟨wd467, wd150, wd468, by decide, by decide +kernel, by decide, by decide⟩, wd469, wd470, rfl, by decide⟩
theorem kL_125 : mv_LS "LazyPagesLaw" 125 jL_save 2 := ⟨⟨wd471, wd390, wd472, by decide, by decide +kernel, by decide, by decide⟩, wd473⟩
theorem kL_128 : mv_LV "LazyPagesLaw" 128 jX3_save 1 3 := ⟨⟨wd474, wd150, wd475, by decide, by decide +kernel, by decide, by decide⟩, wd476, wd477, rfl, by decide⟩
theorem kL_129 : mv_LS "LazyPagesLaw" 129 jL_drop 3 := ⟨⟨wd478, wd390, wd479, by decide, by decide +kernel, by decide, by decide⟩, wd480⟩
theorem kL_132 : mv_LV "LazyPagesLaw" 132 jX3_drop 1 3 := ⟨⟨wd481, wd150, wd482, by decide, by decide +kernel, by decide, by decide⟩, wd483, wd484, rfl, by decide⟩
theorem kL_133 : mv_LS "LazyPagesLaw" 133 jL_restore 3 := ⟨⟨wd485, wd390, wd486, by decide, by decide +kernel, by decide, by decide⟩, wd487⟩
theorem kL_135 : mv_LV "LazyPagesLaw" 135 jX3_restore 1 3 := ⟨⟨wd488, wd150, wd489, by decide, by decide +kernel, by decide, by decide⟩, wd490, wd491, rfl, by decide⟩
theorem kL_136 : mv_LS "LazyPagesLaw" 136 jL_differ 4 := ⟨⟨wd492, wd390, wd493, by decide, by decide +kernel, by decide, by decide⟩, wd494⟩
theorem kL_138 : mv_LV "LazyPagesLaw" 138 jX3_differ 2 3 := ⟨⟨wd495, wd150, wd496, by decide, by decide +kernel, by decide, by decide⟩, wd497, wd498, rfl, by decide⟩
theorem kL_139 : mv_LV "LazyPagesLaw" 139 jX2_settle 0 2 := ⟨⟨wd499, wd44, wd500, by decide, by decide +kernel, by decide, by decide⟩, wd501, wd502, rfl, by decide⟩
theorem kL_142 : mv_LV "LazyPagesLaw" 142 jX3_settle 0 3 := ⟨⟨wd503, wd150, wd504, by decide, by decide +kernel, by decide, by decide⟩, wd505, wd506, rfl, by decide⟩
theorem kL_143 : mv_LV "LazyPagesLaw" 143 jX2_sync 0 2 := ⟨⟨wd507, wd44, wd508, by decide, by decide +kernel, by decide, by decide⟩, wd509, wd510, rfl, by decide⟩
theorem kL_146 : mv_LV "LazyPagesLaw" 146 jX3_sync 0 3 := ⟨⟨wd511, wd150, wd198, by decide, by decide +kernel, by decide, by decide⟩, wd199, wd200, rfl, by decide⟩
theorem kL_147 : mv_LV "LazyPagesLaw" 147 jX2_checkpoint 0 2 := ⟨⟨wd512, wd44, wd513, by decide, by decide +kernel, by decide, by decide⟩, wd514, wd515, rfl, by decide⟩
theorem kL_150 : mv_LV "LazyPagesLaw" 150 jX3_checkpoint 0 3 := ⟨⟨wd516, wd150, wd517, by decide, by decide +kernel, by decide, by decide⟩, wd518, wd519, rfl, by decide⟩
theorem kL_151 : mv_LV "LazyPagesLaw" 151 jX2_crash 0 2 := ⟨⟨wd520, wd44, wd521, by decide, by decide +kernel, by decide, by decide⟩, wd522, wd523, rfl, by decide⟩
theorem kL_154 : mv_LV "LazyPagesLaw" 154 jX3_crash 0 3 := ⟨⟨wd524, wd150, wd525, by decide, by decide +kernel, by decide, by decide⟩, wd526, wd527, rfl, by decide⟩
theorem kL_155 : mv_LS "LazyPagesLaw" 155 jL_total 3 := ⟨⟨wd528, wd390, wd529, by decide, by decide +kernel, by decide, by decide⟩, wd530⟩
theorem kL_157 : mv_LV "LazyPagesLaw" 157 jX3_total 1 3 := ⟨⟨wd531, wd150, wd532, by decide, by decide +kernel, by decide, by decide⟩, wd533, wd534, rfl, by decide⟩
theorem kL_158 : mv_LV "LazyPagesLaw" 158 jX2_isSound 0 2 := ⟨⟨wd535, wd44, wd536, by decide, by decide +kernel, by decide, by decide⟩, wd537, wd538, rfl, by decide⟩
theorem kL_162 : mv_LV "LazyPagesLaw" 162 jX3_isSound 0 3 := ⟨⟨wd539, wd150, wd540, by decide, by decide +kernel, by decide, by decide⟩, wd541, wd542, rfl, by decide⟩
