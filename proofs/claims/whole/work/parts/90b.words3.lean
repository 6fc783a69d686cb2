/-! the words of the law's own beginning -/
theorem lz_w0 : Cond.instantiable RX0 7 ∈ lw_tbl := List.mem_of_getElem? (i := 211) (by decide +kernel)
theorem lz_w1 : Cond.instantiable RX1 3 ∈ lw_tbl := List.mem_of_getElem? (i := 118) (by decide +kernel)
theorem lz_w2 : Cond.instantiable RX2 4 ∈ lw_tbl := List.mem_of_getElem? (i := 363) (by decide +kernel)
theorem lz_w3 : Cond.instantiable RX3 3 ∈ lw_tbl := List.mem_of_getElem? (i := 191) (by decide +kernel)
theorem lz_w4 : Cond.instantiable RX4 4 ∈ lw_tbl := List.mem_of_getElem? (i := 134) (by decide +kernel)
theorem lz_w5 : Cond.instantiable RX5 8 ∈ lw_tbl := List.mem_of_getElem? (i := 112) (by decide +kernel)
theorem lz_w6 : Cond.instantiable RX6 8 ∈ lw_tbl := List.mem_of_getElem? (i := 265) (by decide +kernel)
theorem lz_w7 : Cond.instantiable RX7 8 ∈ lw_tbl := List.mem_of_getElem? (i := 159) (by decide +kernel)
theorem lz_w8 : Cond.instantiable RX8 5 ∈ lw_tbl := List.mem_of_getElem? (i := 300) (by decide +kernel)
theorem lz_w9 : Cond.instantiable RX9 8 ∈ lw_tbl := List.mem_of_getElem? (i := 382) (by decide +kernel)
theorem lz_w10 : Cond.instantiable RX10 4 ∈ lw_tbl := List.mem_of_getElem? (i := 243) (by decide +kernel)
theorem lz_w11 : Cond.instantiable RX11 6 ∈ lw_tbl := List.mem_of_getElem? (i := 104) (by decide +kernel)
theorem lz_w12 : Cond.instantiable RX12 16 ∈ lw_tbl := List.mem_of_getElem? (i := 1466) (by decide +kernel)
theorem lz_w13 : Cond.classLink RL 8 RX11 ∈ lw_tbl := List.mem_of_getElem? (i := 103) (by decide +kernel)
theorem lz_w14 : Cond.classLink RL 161 RX12 ∈ lw_tbl := List.mem_of_getElem? (i := 1465) (by decide +kernel)
theorem lz_w15 : Cond.initialized RX11 ∈ lw_tbl := List.mem_of_getElem? (i := 80) (by decide +kernel)
theorem lz_w16 : Cond.initialized RX12 ∈ lw_tbl := List.mem_of_getElem? (i := 92) (by decide +kernel)
theorem lz_w17 : Cond.methodLink RL 160 yX11_init ∈ lw_tbl := List.mem_of_getElem? (i := 105) (by decide +kernel)
theorem lz_w18 : Cond.methodLink RL 163 yX12_init ∈ lw_tbl := List.mem_of_getElem? (i := 1467) (by decide +kernel)
theorem lz_w19 : Cond.instanceMethod yX11_init ∈ lw_tbl := List.mem_of_getElem? (i := 106) (by decide +kernel)
theorem lz_w20 : Cond.instanceMethod yX12_init ∈ lw_tbl := List.mem_of_getElem? (i := 1468) (by decide +kernel)
theorem lz_w21 : Cond.arrayClass .int ∈ lw_tbl := List.mem_of_getElem? (i := 157) (by decide +kernel)
theorem lz_w22 : Cond.arrayClass .boolean ∈ lw_tbl := List.mem_of_getElem? (i := 156) (by decide +kernel)
theorem lz_w23 : Cond.arrayClass .long ∈ lw_tbl := List.mem_of_getElem? (i := 327) (by decide +kernel)
theorem lz_w24 : Cond.arrayClass .double ∈ lw_tbl := List.mem_of_getElem? (i := 1996) (by decide +kernel)
theorem lz_w25 : Cond.arrayOver (.object RX5) ∈ lw_tbl := List.mem_of_getElem? (i := 361) (by decide +kernel)
theorem lz_w26 : Cond.arrayOver (.array .int) ∈ lw_tbl := List.mem_of_getElem? (i := 1472) (by decide +kernel)
theorem lz_w30 : Cond.methodLinkNest RX11 11 yX5_init "Festivalgrounds" ∈ lw_tbl := List.mem_of_getElem? (i := 113) (by decide +kernel)
theorem lz_w31 : Cond.methodLinkNest RX5 9 yX1_init "Festivalgrounds" ∈ lw_tbl := List.mem_of_getElem? (i := 119) (by decide +kernel)
theorem lz_w32 : Cond.methodLinkNest RX4 25 yX11_fillRow "Festivalgrounds" ∈ lw_tbl := List.mem_of_getElem? (i := 139) (by decide +kernel)
theorem lz_w33 : Cond.methodLinkNest RX5 25 yX7_init "Festivalgrounds" ∈ lw_tbl := List.mem_of_getElem? (i := 160) (by decide +kernel)
theorem lz_w34 : Cond.methodLinkNest RX3 21 yX11_fillRow "Festivalgrounds" ∈ lw_tbl := List.mem_of_getElem? (i := 196) (by decide +kernel)
theorem lz_w35 : Cond.methodLinkNest RX0 34 yX11_fillRow "Festivalgrounds" ∈ lw_tbl := List.mem_of_getElem? (i := 216) (by decide +kernel)
theorem lz_w36 : Cond.methodLinkNest RX5 46 yX10_init "Festivalgrounds" ∈ lw_tbl := List.mem_of_getElem? (i := 244) (by decide +kernel)
theorem lz_w37 : Cond.methodLinkNest RX5 53 yX6_init "Festivalgrounds" ∈ lw_tbl := List.mem_of_getElem? (i := 266) (by decide +kernel)
theorem lz_w38 : Cond.methodLinkNest RX8 29 yX11_fillRow "Festivalgrounds" ∈ lw_tbl := List.mem_of_getElem? (i := 305) (by decide +kernel)
theorem lz_w39 : Cond.methodLinkNest RX4 29 yX11_copyRow "Festivalgrounds" ∈ lw_tbl := List.mem_of_getElem? (i := 461) (by decide +kernel)
theorem lz_w40 : Cond.methodLinkNest RX7 36 yX11_copyRow "Festivalgrounds" ∈ lw_tbl := List.mem_of_getElem? (i := 474) (by decide +kernel)
theorem lz_w41 : Cond.methodLinkNest RX3 25 yX11_copyRow "Festivalgrounds" ∈ lw_tbl := List.mem_of_getElem? (i := 479) (by decide +kernel)
theorem lz_w42 : Cond.methodLinkNest RX0 38 yX11_copyRow "Festivalgrounds" ∈ lw_tbl := List.mem_of_getElem? (i := 484) (by decide +kernel)
theorem lz_w43 : Cond.methodLinkNest RX10 25 yX11_copyRow "Festivalgrounds" ∈ lw_tbl := List.mem_of_getElem? (i := 489) (by decide +kernel)
theorem lz_w44 : Cond.methodLinkNest RX6 36 yX11_copyRow "Festivalgrounds" ∈ lw_tbl := List.mem_of_getElem? (i := 494) (by decide +kernel)
theorem lz_w45 : Cond.methodLinkNest RX8 33 yX11_copyRow "Festivalgrounds" ∈ lw_tbl := List.mem_of_getElem? (i := 499) (by decide +kernel)
theorem lz_w46 : Cond.methodLinkNest RX8 37 yX11_copyRow_ "Festivalgrounds" ∈ lw_tbl := List.mem_of_getElem? (i := 500) (by decide +kernel)
theorem lz_w47 : Cond.methodLinkNest RX3 29 yX11_sumOf "Festivalgrounds" ∈ lw_tbl := List.mem_of_getElem? (i := 607) (by decide +kernel)
theorem lz_w48 : Cond.methodLinkNest RX10 29 yX11_fillRow "Festivalgrounds" ∈ lw_tbl := List.mem_of_getElem? (i := 675) (by decide +kernel)
theorem lz_w49 : Cond.methodLinkNest RX6 43 yX11_fillRow "Festivalgrounds" ∈ lw_tbl := List.mem_of_getElem? (i := 692) (by decide +kernel)
theorem lz_w50 : Cond.methodLinkNest RX2 27 yX11_fillRow "Festivalgrounds" ∈ lw_tbl := List.mem_of_getElem? (i := 746) (by decide +kernel)
theorem lz_w51 : Cond.methodLinkNest RX2 44 yX11_replace "Festivalgrounds" ∈ lw_tbl := List.mem_of_getElem? (i := 775) (by decide +kernel)
theorem lz_w52 : Cond.methodLinkNest RX10 46 yX11_sumOf "Festivalgrounds" ∈ lw_tbl := List.mem_of_getElem? (i := 821) (by decide +kernel)
theorem lz_w53 : Cond.methodLinkNest RX4 37 yX11_replace "Festivalgrounds" ∈ lw_tbl := List.mem_of_getElem? (i := 975) (by decide +kernel)
theorem lz_w54 : Cond.methodLinkNest RX7 44 yX11_replace "Festivalgrounds" ∈ lw_tbl := List.mem_of_getElem? (i := 1014) (by decide +kernel)
theorem lz_w55 : Cond.methodLinkNest RX0 49 yX11_replace "Festivalgrounds" ∈ lw_tbl := List.mem_of_getElem? (i := 1082) (by decide +kernel)
theorem lz_w56 : Cond.methodLinkNest RX9 59 yX11_fillRow "Festivalgrounds" ∈ lw_tbl := List.mem_of_getElem? (i := 1422) (by decide +kernel)
theorem lz_w57 : Cond.methodLinkNest RX9 75 yX11_replace "Festivalgrounds" ∈ lw_tbl := List.mem_of_getElem? (i := 1430) (by decide +kernel)
theorem lz_w58 : Cond.stringRef RX11 59 "there is no such date" ∈ lw_tbl := List.mem_of_getElem? (i := 889) (by decide +kernel)
theorem lz_w59 : Cond.stringRef RX11 438 "there is no such number" ∈ lw_tbl := List.mem_of_getElem? (i := 941) (by decide +kernel)
theorem lz_w60 : Cond.stringRef RX11 443 "both are the same" ∈ lw_tbl := List.mem_of_getElem? (i := 966) (by decide +kernel)
theorem lz_w61 : Cond.stringRef RX11 441 "a number is out of range" ∈ lw_tbl := List.mem_of_getElem? (i := 970) (by decide +kernel)
theorem lz_w62 : Cond.stringRef RX11 110 "there are 16 acts" ∈ lw_tbl := List.mem_of_getElem? (i := 1003) (by decide +kernel)
theorem lz_w63 : Cond.stringRef RX11 449 "there is no such act" ∈ lw_tbl := List.mem_of_getElem? (i := 1027) (by decide +kernel)
theorem lz_w64 : Cond.stringRef RX11 162 "the visitor is in a line" ∈ lw_tbl := List.mem_of_getElem? (i := 1077) (by decide +kernel)
theorem lz_w65 : Cond.stringRef RX11 170 "the visitor is in no line" ∈ lw_tbl := List.mem_of_getElem? (i := 1092) (by decide +kernel)
theorem lz_w66 : Cond.stringRef RX11 215 "no rain plan is kept" ∈ lw_tbl := List.mem_of_getElem? (i := 1144) (by decide +kernel)
theorem lz_w67 : Cond.stringRef RX11 456 "the visitor has a ticket for this day" ∈ lw_tbl := List.mem_of_getElem? (i := 1179) (by decide +kernel)
theorem lz_w68 : Cond.stringRef RX11 454 "the visitor has no ticket for this day" ∈ lw_tbl := List.mem_of_getElem? (i := 1209) (by decide +kernel)
theorem lz_w69 : Cond.stringRef RX11 269 "no such thing is lost" ∈ lw_tbl := List.mem_of_getElem? (i := 1249) (by decide +kernel)
theorem lz_w70 : Cond.stringRef RX11 272 "no change can be undone" ∈ lw_tbl := List.mem_of_getElem? (i := 1257) (by decide +kernel)
theorem lz_w71 : Cond.stringRef RX11 295 "from is greater than to" ∈ lw_tbl := List.mem_of_getElem? (i := 1298) (by decide +kernel)
theorem lz_w72 : Cond.stringRef RX11 322 "the evening has no such place" ∈ lw_tbl := List.mem_of_getElem? (i := 1329) (by decide +kernel)
theorem lz_w73 : Cond.stringRef RX11 342 "the line is empty" ∈ lw_tbl := List.mem_of_getElem? (i := 1372) (by decide +kernel)
theorem lz_w74 : Cond.stringRef RX11 369 "there is no plan of power" ∈ lw_tbl := List.mem_of_getElem? (i := 1394) (by decide +kernel)
theorem lz_w75 : Cond.stringRef RX11 377 "the rain meets more than 6 acts" ∈ lw_tbl := List.mem_of_getElem? (i := 1417) (by decide +kernel)
theorem lz_w76 : Cond.castable "java/lang/IllegalArgumentException" "java/lang/IllegalArgumentException" ∈ lw_tbl := List.mem_of_getElem? (i := 849) (by decide +kernel)
theorem lz_w77 : Cond.castable "java/lang/IndexOutOfBoundsException" "java/lang/IndexOutOfBoundsException" ∈ lw_tbl := List.mem_of_getElem? (i := 934) (by decide +kernel)
theorem lz_w78 : Cond.castable "java/lang/IllegalStateException" "java/lang/IllegalStateException" ∈ lw_tbl := List.mem_of_getElem? (i := 996) (by decide +kernel)
theorem lz_w79 : Cond.castable "java/util/NoSuchElementException" "java/util/NoSuchElementException" ∈ lw_tbl := List.mem_of_getElem? (i := 1202) (by decide +kernel)
theorem lz_w83 : Cond.laysStatic Bundle.tN "UNASSIGNED_STACK" Bundle.steD ∈ lw_tbl := List.mem_of_getElem? (i := 874) (by decide +kernel)
theorem lz_w84 : Cond.laysStatic Bundle.tN "SUPPRESSED_SENTINEL" Bundle.listD ∈ lw_tbl := List.mem_of_getElem? (i := 876) (by decide +kernel)
theorem lz_w85 : Cond.initialized Bundle.tN ∈ lw_tbl := List.mem_of_getElem? (i := 93) (by decide +kernel)
theorem lz_w86 : Cond.declares (Bundle.initS "java/lang/RuntimeException") ∈ lw_tbl := List.mem_of_getElem? (i := 851) (by decide +kernel)
theorem lz_w87 : Cond.declares (Bundle.initS "java/lang/Exception") ∈ lw_tbl := List.mem_of_getElem? (i := 853) (by decide +kernel)
theorem lz_w88 : Cond.declares (Bundle.initS Bundle.tN) ∈ lw_tbl := List.mem_of_getElem? (i := 855) (by decide +kernel)
abbrev lz_insRX0 := lz_w0
abbrev lz_insRX1 := lz_w1
abbrev lz_insRX2 := lz_w2
abbrev lz_insRX3 := lz_w3
abbrev lz_insRX4 := lz_w4
abbrev lz_insRX5 := lz_w5
abbrev lz_insRX6 := lz_w6
abbrev lz_insRX7 := lz_w7
abbrev lz_insRX8 := lz_w8
abbrev lz_insRX9 := lz_w9
abbrev lz_insRX10 := lz_w10
abbrev lz_insRX11 := lz_w11
abbrev lz_insRX12 := lz_w12
abbrev lz_cl11 := lz_w13
abbrev lz_cl12 := lz_w14
abbrev lz_ini11 := lz_w15
abbrev lz_ini12 := lz_w16
abbrev lz_ml11 := lz_w17
abbrev lz_ml12 := lz_w18
abbrev lz_im11 := lz_w19
abbrev lz_im12 := lz_w20
abbrev lz_ac_int := lz_w21
abbrev lz_ac_boolean := lz_w22
abbrev lz_ac_long := lz_w23
abbrev lz_ac_double := lz_w24
abbrev lz_ao5 := lz_w25
abbrev lz_aoi := lz_w26
abbrev lz_lsU := lz_w83
abbrev lz_lsS := lz_w84
abbrev lz_iniT := lz_w85
theorem lz_nw : ∀ q ∈ rj_nw, Cond.methodLinkNest q.1 q.2.1 q.2.2.1 q.2.2.2 ∈ lw_tbl := by
  unfold rj_nw
  exact List.forall_mem_cons.mpr ⟨lz_w30, List.forall_mem_cons.mpr ⟨lz_w31, List.forall_mem_cons.mpr ⟨lz_w32, List.forall_mem_cons.mpr ⟨lz_w33, List.forall_mem_cons.mpr ⟨lz_w34, List.forall_mem_cons.mpr ⟨lz_w35, List.forall_mem_cons.mpr ⟨lz_w36, List.forall_mem_cons.mpr ⟨lz_w37, List.forall_mem_cons.mpr ⟨lz_w38, List.forall_mem_cons.mpr ⟨lz_w39, List.forall_mem_cons.mpr ⟨lz_w40, List.forall_mem_cons.mpr ⟨lz_w41, List.forall_mem_cons.mpr ⟨lz_w42, List.forall_mem_cons.mpr ⟨lz_w43, List.forall_mem_cons.mpr ⟨lz_w44, List.forall_mem_cons.mpr ⟨lz_w45, List.forall_mem_cons.mpr ⟨lz_w46, List.forall_mem_cons.mpr ⟨lz_w47, List.forall_mem_cons.mpr ⟨lz_w48, List.forall_mem_cons.mpr ⟨lz_w49, List.forall_mem_cons.mpr ⟨lz_w50, List.forall_mem_cons.mpr ⟨lz_w51, List.forall_mem_cons.mpr ⟨lz_w52, List.forall_mem_cons.mpr ⟨lz_w53, List.forall_mem_cons.mpr ⟨lz_w54, List.forall_mem_cons.mpr ⟨lz_w55, List.forall_mem_cons.mpr ⟨lz_w56, List.forall_mem_cons.mpr ⟨lz_w57, fun _ h => nomatch h⟩⟩⟩⟩⟩⟩⟩⟩⟩⟩⟩⟩⟩⟩⟩⟩⟩⟩⟩⟩⟩⟩⟩⟩⟩⟩⟩⟩
theorem lz_tx : ∀ q ∈ rj_tx, Cond.stringRef q.1 q.2.1 q.2.2 ∈ lw_tbl := by
  unfold rj_tx
  exact List.forall_mem_cons.mpr ⟨lz_w58, List.forall_mem_cons.mpr ⟨lz_w59, List.forall_mem_cons.mpr ⟨lz_w60, List.forall_mem_cons.mpr ⟨lz_w61, List.forall_mem_cons.mpr ⟨lz_w62, List.forall_mem_cons.mpr ⟨lz_w63, List.forall_mem_cons.mpr ⟨lz_w64, List.forall_mem_cons.mpr ⟨lz_w65, List.forall_mem_cons.mpr ⟨lz_w66, List.forall_mem_cons.mpr ⟨lz_w67, List.forall_mem_cons.mpr ⟨lz_w68, List.forall_mem_cons.mpr ⟨lz_w69, List.forall_mem_cons.mpr ⟨lz_w70, List.forall_mem_cons.mpr ⟨lz_w71, List.forall_mem_cons.mpr ⟨lz_w72, List.forall_mem_cons.mpr ⟨lz_w73, List.forall_mem_cons.mpr ⟨lz_w74, List.forall_mem_cons.mpr ⟨lz_w75, fun _ h => nomatch h⟩⟩⟩⟩⟩⟩⟩⟩⟩⟩⟩⟩⟩⟩⟩⟩⟩⟩
theorem lz_ca : ∀ q ∈ rj_ca, Cond.castable q.1 q.2 ∈ lw_tbl := by
  unfold rj_ca
  exact List.forall_mem_cons.mpr ⟨lz_w76, List.forall_mem_cons.mpr ⟨lz_w77, List.forall_mem_cons.mpr ⟨lz_w78, List.forall_mem_cons.mpr ⟨lz_w79, fun _ h => nomatch h⟩⟩⟩⟩
theorem lz_dc : ∀ q ∈ rj_dc, Cond.declares q ∈ lw_tbl := by
  unfold rj_dc
  exact List.forall_mem_cons.mpr ⟨lz_w86, List.forall_mem_cons.mpr ⟨lz_w87, List.forall_mem_cons.mpr ⟨lz_w88, fun _ h => nomatch h⟩⟩⟩
set_option maxRecDepth 20000 in
theorem lz_nc : ∀ q ∈ rj_nc, Cond.not (.castable q.1 q.2) ∈ flatC (Jvm.Cond.and given_1 narrow_1) := by decide +kernel
set_option maxRecDepth 20000 in
theorem lz_st : ∀ q ∈ rj_tx, Cond.exactly (.string q.1 q.2.1) "java/lang/String" ∈ flatC (Jvm.Cond.and given_1 narrow_1) := by decide +kernel
set_option maxRecDepth 20000 in
theorem lz_rU : Cond.isRef (.static Bundle.tN "UNASSIGNED_STACK" Bundle.steD) ∈ flatC (Jvm.Cond.and given_1 narrow_1) := by decide +kernel
set_option maxRecDepth 20000 in
theorem lz_rS : Cond.isRef (.static Bundle.tN "SUPPRESSED_SENTINEL" Bundle.listD) ∈ flatC (Jvm.Cond.and given_1 narrow_1) := by decide +kernel
