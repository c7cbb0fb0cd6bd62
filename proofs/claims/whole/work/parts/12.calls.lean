/-! words of methods and of calls, by their places -/
theorem wc_X0_beAs : Cond.code yX0_beAs cX0_beAs 2 (some .boolean) ∈ mj_gT := mj_gT_of (List.mem_of_getElem? (i := 529) (by decide +kernel)) rfl
theorem wn_X0_beAs : Cond.instanceMethod yX0_beAs ∈ mj_gT := mj_gT_of (List.mem_of_getElem? (i := 528) (by decide +kernel)) rfl
theorem ws_X0_beAs : Cond.selects yX0_beAs.cls yX0_beAs yX0_beAs ∈ mj_gT := mj_gT_of (List.mem_of_getElem? (i := 19) (by decide +kernel)) rfl
theorem wc_X0_copyFrom : Cond.code yX0_copyFrom cX0_copyFrom 2 none ∈ mj_gT := mj_gT_of (List.mem_of_getElem? (i := 341) (by decide +kernel)) rfl
theorem wn_X0_copyFrom : Cond.instanceMethod yX0_copyFrom ∈ mj_gT := mj_gT_of (List.mem_of_getElem? (i := 340) (by decide +kernel)) rfl
theorem ws_X0_copyFrom : Cond.selects yX0_copyFrom.cls yX0_copyFrom yX0_copyFrom ∈ mj_gT := mj_gT_of (List.mem_of_getElem? (i := 5) (by decide +kernel)) rfl
theorem wc_X0_gap : Cond.code yX0_gap cX0_gap 2 (some .int) ∈ mj_gT := mj_gT_of (List.mem_of_getElem? (i := 682) (by decide +kernel)) rfl
theorem wn_X0_gap : Cond.instanceMethod yX0_gap ∈ mj_gT := mj_gT_of (List.mem_of_getElem? (i := 681) (by decide +kernel)) rfl
theorem ws_X0_gap : Cond.selects yX0_gap.cls yX0_gap yX0_gap ∈ mj_gT := mj_gT_of (List.mem_of_getElem? (i := 41) (by decide +kernel)) rfl
theorem wc_X0_mayPress : Cond.code yX0_mayPress cX0_mayPress 2 (some .boolean) ∈ mj_gT := mj_gT_of (List.mem_of_getElem? (i := 678) (by decide +kernel)) rfl
theorem wn_X0_mayPress : Cond.instanceMethod yX0_mayPress ∈ mj_gT := mj_gT_of (List.mem_of_getElem? (i := 677) (by decide +kernel)) rfl
theorem ws_X0_mayPress : Cond.selects yX0_mayPress.cls yX0_mayPress yX0_mayPress ∈ mj_gT := mj_gT_of (List.mem_of_getElem? (i := 40) (by decide +kernel)) rfl
theorem wc_X0_partOf : Cond.code yX0_partOf cX0_partOf 2 (some .int) ∈ mj_gT := mj_gT_of (List.mem_of_getElem? (i := 599) (by decide +kernel)) rfl
theorem wn_X0_partOf : Cond.instanceMethod yX0_partOf ∈ mj_gT := mj_gT_of (List.mem_of_getElem? (i := 598) (by decide +kernel)) rfl
theorem ws_X0_partOf : Cond.selects yX0_partOf.cls yX0_partOf yX0_partOf ∈ mj_gT := mj_gT_of (List.mem_of_getElem? (i := 28) (by decide +kernel)) rfl
theorem wc_X0_put : Cond.code yX0_put cX0_put 4 (some .int) ∈ mj_gT := mj_gT_of (List.mem_of_getElem? (i := 619) (by decide +kernel)) rfl
theorem wn_X0_put : Cond.instanceMethod yX0_put ∈ mj_gT := mj_gT_of (List.mem_of_getElem? (i := 618) (by decide +kernel)) rfl
theorem ws_X0_put : Cond.selects yX0_put.cls yX0_put yX0_put ∈ mj_gT := mj_gT_of (List.mem_of_getElem? (i := 31) (by decide +kernel)) rfl
theorem wc_X0_wakes : Cond.code yX0_wakes cX0_wakes 3 (some .boolean) ∈ mj_gT := mj_gT_of (List.mem_of_getElem? (i := 670) (by decide +kernel)) rfl
theorem wn_X0_wakes : Cond.instanceMethod yX0_wakes ∈ mj_gT := mj_gT_of (List.mem_of_getElem? (i := 669) (by decide +kernel)) rfl
theorem ws_X0_wakes : Cond.selects yX0_wakes.cls yX0_wakes yX0_wakes ∈ mj_gT := mj_gT_of (List.mem_of_getElem? (i := 38) (by decide +kernel)) rfl
theorem wc_X1_fallAsleep : Cond.code yX1_fallAsleep cX1_fallAsleep 5 none ∈ mj_gT := mj_gT_of (List.mem_of_getElem? (i := 648) (by decide +kernel)) rfl
theorem wn_X1_fallAsleep : Cond.instanceMethod yX1_fallAsleep ∈ mj_gT := mj_gT_of (List.mem_of_getElem? (i := 647) (by decide +kernel)) rfl
theorem ws_X1_fallAsleep : Cond.selects yX1_fallAsleep.cls yX1_fallAsleep yX1_fallAsleep ∈ mj_gT := mj_gT_of (List.mem_of_getElem? (i := 33) (by decide +kernel)) rfl
theorem wc_X1_firstToRing : Cond.code yX1_firstToRing cX1_firstToRing 4 (some .int) ∈ mj_gT := mj_gT_of (List.mem_of_getElem? (i := 657) (by decide +kernel)) rfl
theorem wn_X1_firstToRing : Cond.instanceMethod yX1_firstToRing ∈ mj_gT := mj_gT_of (List.mem_of_getElem? (i := 656) (by decide +kernel)) rfl
theorem ws_X1_firstToRing : Cond.selects yX1_firstToRing.cls yX1_firstToRing yX1_firstToRing ∈ mj_gT := mj_gT_of (List.mem_of_getElem? (i := 35) (by decide +kernel)) rfl
theorem wc_X1_live : Cond.code yX1_live cX1_live 9 none ∈ mj_gT := mj_gT_of (List.mem_of_getElem? (i := 644) (by decide +kernel)) rfl
theorem wn_X1_live : Cond.instanceMethod yX1_live ∈ mj_gT := mj_gT_of (List.mem_of_getElem? (i := 643) (by decide +kernel)) rfl
theorem ws_X1_live : Cond.selects yX1_live.cls yX1_live yX1_live ∈ mj_gT := mj_gT_of (List.mem_of_getElem? (i := 32) (by decide +kernel)) rfl
theorem wc_X1_ring : Cond.code yX1_ring cX1_ring 5 (some .boolean) ∈ mj_gT := mj_gT_of (List.mem_of_getElem? (i := 674) (by decide +kernel)) rfl
theorem wn_X1_ring : Cond.instanceMethod yX1_ring ∈ mj_gT := mj_gT_of (List.mem_of_getElem? (i := 673) (by decide +kernel)) rfl
theorem ws_X1_ring : Cond.selects yX1_ring.cls yX1_ring yX1_ring ∈ mj_gT := mj_gT_of (List.mem_of_getElem? (i := 39) (by decide +kernel)) rfl
theorem wc_X2_copyFrom : Cond.code yX2_copyFrom cX2_copyFrom 3 none ∈ mj_gT := mj_gT_of (List.mem_of_getElem? (i := 333) (by decide +kernel)) rfl
theorem wn_X2_copyFrom : Cond.instanceMethod yX2_copyFrom ∈ mj_gT := mj_gT_of (List.mem_of_getElem? (i := 332) (by decide +kernel)) rfl
theorem ws_X2_copyFrom : Cond.selects yX2_copyFrom.cls yX2_copyFrom yX2_copyFrom ∈ mj_gT := mj_gT_of (List.mem_of_getElem? (i := 3) (by decide +kernel)) rfl
theorem wc_X2_depthOf : Cond.code yX2_depthOf cX2_depthOf 3 (some .int) ∈ mj_gT := mj_gT_of (List.mem_of_getElem? (i := 661) (by decide +kernel)) rfl
theorem wn_X2_depthOf : Cond.instanceMethod yX2_depthOf ∈ mj_gT := mj_gT_of (List.mem_of_getElem? (i := 660) (by decide +kernel)) rfl
theorem ws_X2_depthOf : Cond.selects yX2_depthOf.cls yX2_depthOf yX2_depthOf ∈ mj_gT := mj_gT_of (List.mem_of_getElem? (i := 36) (by decide +kernel)) rfl
theorem wc_X2_doneBits : Cond.code yX2_doneBits cX2_doneBits 7 (some .int) ∈ mj_gT := mj_gT_of (List.mem_of_getElem? (i := 714) (by decide +kernel)) rfl
theorem wn_X2_doneBits : Cond.instanceMethod yX2_doneBits ∈ mj_gT := mj_gT_of (List.mem_of_getElem? (i := 713) (by decide +kernel)) rfl
theorem ws_X2_doneBits : Cond.selects yX2_doneBits.cls yX2_doneBits yX2_doneBits ∈ mj_gT := mj_gT_of (List.mem_of_getElem? (i := 43) (by decide +kernel)) rfl
theorem wc_X2_passDay : Cond.code yX2_passDay cX2_passDay 2 none ∈ mj_gT := mj_gT_of (List.mem_of_getElem? (i := 687) (by decide +kernel)) rfl
theorem wn_X2_passDay : Cond.instanceMethod yX2_passDay ∈ mj_gT := mj_gT_of (List.mem_of_getElem? (i := 686) (by decide +kernel)) rfl
theorem ws_X2_passDay : Cond.selects yX2_passDay.cls yX2_passDay yX2_passDay ∈ mj_gT := mj_gT_of (List.mem_of_getElem? (i := 42) (by decide +kernel)) rfl
theorem wc_X2_sumOf : Cond.code yX2_sumOf cX2_sumOf 5 (some .int) ∈ mj_gT := mj_gT_of (List.mem_of_getElem? (i := 652) (by decide +kernel)) rfl
theorem wn_X2_sumOf : Cond.instanceMethod yX2_sumOf ∈ mj_gT := mj_gT_of (List.mem_of_getElem? (i := 651) (by decide +kernel)) rfl
theorem ws_X2_sumOf : Cond.selects yX2_sumOf.cls yX2_sumOf yX2_sumOf ∈ mj_gT := mj_gT_of (List.mem_of_getElem? (i := 34) (by decide +kernel)) rfl
theorem wc_X2_take : Cond.code yX2_take cX2_take 3 (some .boolean) ∈ mj_gT := mj_gT_of (List.mem_of_getElem? (i := 506) (by decide +kernel)) rfl
theorem wn_X2_take : Cond.instanceMethod yX2_take ∈ mj_gT := mj_gT_of (List.mem_of_getElem? (i := 505) (by decide +kernel)) rfl
theorem ws_X2_take : Cond.selects yX2_take.cls yX2_take yX2_take ∈ mj_gT := mj_gT_of (List.mem_of_getElem? (i := 15) (by decide +kernel)) rfl
theorem wc_X2_takeBus : Cond.code yX2_takeBus cX2_takeBus 2 (some .boolean) ∈ mj_gT := mj_gT_of (List.mem_of_getElem? (i := 551) (by decide +kernel)) rfl
theorem wn_X2_takeBus : Cond.instanceMethod yX2_takeBus ∈ mj_gT := mj_gT_of (List.mem_of_getElem? (i := 550) (by decide +kernel)) rfl
theorem ws_X2_takeBus : Cond.selects yX2_takeBus.cls yX2_takeBus yX2_takeBus ∈ mj_gT := mj_gT_of (List.mem_of_getElem? (i := 22) (by decide +kernel)) rfl
theorem wc_X2_takeClock : Cond.code yX2_takeClock cX2_takeClock 2 (some .boolean) ∈ mj_gT := mj_gT_of (List.mem_of_getElem? (i := 525) (by decide +kernel)) rfl
theorem wn_X2_takeClock : Cond.instanceMethod yX2_takeClock ∈ mj_gT := mj_gT_of (List.mem_of_getElem? (i := 524) (by decide +kernel)) rfl
theorem ws_X2_takeClock : Cond.selects yX2_takeClock.cls yX2_takeClock yX2_takeClock ∈ mj_gT := mj_gT_of (List.mem_of_getElem? (i := 18) (by decide +kernel)) rfl
theorem wc_X2_takeFirm : Cond.code yX2_takeFirm cX2_takeFirm 2 (some .boolean) ∈ mj_gT := mj_gT_of (List.mem_of_getElem? (i := 560) (by decide +kernel)) rfl
theorem wn_X2_takeFirm : Cond.instanceMethod yX2_takeFirm ∈ mj_gT := mj_gT_of (List.mem_of_getElem? (i := 559) (by decide +kernel)) rfl
theorem ws_X2_takeFirm : Cond.selects yX2_takeFirm.cls yX2_takeFirm yX2_takeFirm ∈ mj_gT := mj_gT_of (List.mem_of_getElem? (i := 23) (by decide +kernel)) rfl
theorem wc_X2_takeSleeper : Cond.code yX2_takeSleeper cX2_takeSleeper 2 (some .boolean) ∈ mj_gT := mj_gT_of (List.mem_of_getElem? (i := 510) (by decide +kernel)) rfl
theorem wn_X2_takeSleeper : Cond.instanceMethod yX2_takeSleeper ∈ mj_gT := mj_gT_of (List.mem_of_getElem? (i := 509) (by decide +kernel)) rfl
theorem ws_X2_takeSleeper : Cond.selects yX2_takeSleeper.cls yX2_takeSleeper yX2_takeSleeper ∈ mj_gT := mj_gT_of (List.mem_of_getElem? (i := 16) (by decide +kernel)) rfl
theorem wc_X2_takeTask : Cond.code yX2_takeTask cX2_takeTask 2 (some .boolean) ∈ mj_gT := mj_gT_of (List.mem_of_getElem? (i := 538) (by decide +kernel)) rfl
theorem wn_X2_takeTask : Cond.instanceMethod yX2_takeTask ∈ mj_gT := mj_gT_of (List.mem_of_getElem? (i := 537) (by decide +kernel)) rfl
theorem ws_X2_takeTask : Cond.selects yX2_takeTask.cls yX2_takeTask yX2_takeTask ∈ mj_gT := mj_gT_of (List.mem_of_getElem? (i := 20) (by decide +kernel)) rfl
theorem wc_X2_worthDone : Cond.code yX2_worthDone cX2_worthDone 2 (some .int) ∈ mj_gT := mj_gT_of (List.mem_of_getElem? (i := 733) (by decide +kernel)) rfl
theorem wn_X2_worthDone : Cond.instanceMethod yX2_worthDone ∈ mj_gT := mj_gT_of (List.mem_of_getElem? (i := 732) (by decide +kernel)) rfl
theorem ws_X2_worthDone : Cond.selects yX2_worthDone.cls yX2_worthDone yX2_worthDone ∈ mj_gT := mj_gT_of (List.mem_of_getElem? (i := 46) (by decide +kernel)) rfl
theorem wc_X3_beAs : Cond.code yX3_beAs cX3_beAs 2 (some .boolean) ∈ mj_gT := mj_gT_of (List.mem_of_getElem? (i := 514) (by decide +kernel)) rfl
theorem wn_X3_beAs : Cond.instanceMethod yX3_beAs ∈ mj_gT := mj_gT_of (List.mem_of_getElem? (i := 513) (by decide +kernel)) rfl
theorem ws_X3_beAs : Cond.selects yX3_beAs.cls yX3_beAs yX3_beAs ∈ mj_gT := mj_gT_of (List.mem_of_getElem? (i := 17) (by decide +kernel)) rfl
theorem wc_X3_copyFrom : Cond.code yX3_copyFrom cX3_copyFrom 2 none ∈ mj_gT := mj_gT_of (List.mem_of_getElem? (i := 337) (by decide +kernel)) rfl
theorem wn_X3_copyFrom : Cond.instanceMethod yX3_copyFrom ∈ mj_gT := mj_gT_of (List.mem_of_getElem? (i := 336) (by decide +kernel)) rfl
theorem ws_X3_copyFrom : Cond.selects yX3_copyFrom.cls yX3_copyFrom yX3_copyFrom ∈ mj_gT := mj_gT_of (List.mem_of_getElem? (i := 4) (by decide +kernel)) rfl
theorem wc_X3_depthAt : Cond.code yX3_depthAt cX3_depthAt 6 (some .int) ∈ mj_gT := mj_gT_of (List.mem_of_getElem? (i := 665) (by decide +kernel)) rfl
theorem wn_X3_depthAt : Cond.instanceMethod yX3_depthAt ∈ mj_gT := mj_gT_of (List.mem_of_getElem? (i := 664) (by decide +kernel)) rfl
theorem ws_X3_depthAt : Cond.selects yX3_depthAt.cls yX3_depthAt yX3_depthAt ∈ mj_gT := mj_gT_of (List.mem_of_getElem? (i := 37) (by decide +kernel)) rfl
theorem wc_X3_partOf : Cond.code yX3_partOf cX3_partOf 2 (some .int) ∈ mj_gT := mj_gT_of (List.mem_of_getElem? (i := 587) (by decide +kernel)) rfl
theorem wn_X3_partOf : Cond.instanceMethod yX3_partOf ∈ mj_gT := mj_gT_of (List.mem_of_getElem? (i := 586) (by decide +kernel)) rfl
theorem ws_X3_partOf : Cond.selects yX3_partOf.cls yX3_partOf yX3_partOf ∈ mj_gT := mj_gT_of (List.mem_of_getElem? (i := 26) (by decide +kernel)) rfl
theorem wc_X4_beAs : Cond.code yX4_beAs cX4_beAs 2 (some .boolean) ∈ mj_gT := mj_gT_of (List.mem_of_getElem? (i := 542) (by decide +kernel)) rfl
theorem wn_X4_beAs : Cond.instanceMethod yX4_beAs ∈ mj_gT := mj_gT_of (List.mem_of_getElem? (i := 541) (by decide +kernel)) rfl
theorem ws_X4_beAs : Cond.selects yX4_beAs.cls yX4_beAs yX4_beAs ∈ mj_gT := mj_gT_of (List.mem_of_getElem? (i := 21) (by decide +kernel)) rfl
theorem wc_X4_copyFrom : Cond.code yX4_copyFrom cX4_copyFrom 2 none ∈ mj_gT := mj_gT_of (List.mem_of_getElem? (i := 345) (by decide +kernel)) rfl
theorem wn_X4_copyFrom : Cond.instanceMethod yX4_copyFrom ∈ mj_gT := mj_gT_of (List.mem_of_getElem? (i := 344) (by decide +kernel)) rfl
theorem ws_X4_copyFrom : Cond.selects yX4_copyFrom.cls yX4_copyFrom yX4_copyFrom ∈ mj_gT := mj_gT_of (List.mem_of_getElem? (i := 6) (by decide +kernel)) rfl
theorem wc_X4_partOf : Cond.code yX4_partOf cX4_partOf 2 (some .int) ∈ mj_gT := mj_gT_of (List.mem_of_getElem? (i := 611) (by decide +kernel)) rfl
theorem wn_X4_partOf : Cond.instanceMethod yX4_partOf ∈ mj_gT := mj_gT_of (List.mem_of_getElem? (i := 610) (by decide +kernel)) rfl
theorem ws_X4_partOf : Cond.selects yX4_partOf.cls yX4_partOf yX4_partOf ∈ mj_gT := mj_gT_of (List.mem_of_getElem? (i := 30) (by decide +kernel)) rfl
theorem wc_X5_add : Cond.code yX5_add cX5_add 2 (some .int) ∈ mj_gT := mj_gT_of (List.mem_of_getElem? (i := 324) (by decide +kernel)) rfl
theorem wn_X5_add : Cond.instanceMethod yX5_add ∈ mj_gT := mj_gT_of (List.mem_of_getElem? (i := 323) (by decide +kernel)) rfl
theorem ws_X5_add : Cond.selects yX5_add.cls yX5_add yX5_add ∈ mj_gT := mj_gT_of (List.mem_of_getElem? (i := 2) (by decide +kernel)) rfl
theorem wc_X5_forget : Cond.code yX5_forget cX5_forget 1 none ∈ mj_gT := mj_gT_of (List.mem_of_getElem? (i := 568) (by decide +kernel)) rfl
theorem wn_X5_forget : Cond.instanceMethod yX5_forget ∈ mj_gT := mj_gT_of (List.mem_of_getElem? (i := 567) (by decide +kernel)) rfl
theorem ws_X5_forget : Cond.selects yX5_forget.cls yX5_forget yX5_forget ∈ mj_gT := mj_gT_of (List.mem_of_getElem? (i := 24) (by decide +kernel)) rfl
theorem wc_X5_formOf : Cond.code yX5_formOf cX5_formOf 1 (some (.object "java/lang/String")) ∈ mj_gT := mj_gT_of (List.mem_of_getElem? (i := 360) (by decide +kernel)) rfl
theorem wn_X5_formOf : Cond.static yX5_formOf ∈ mj_gT := mj_gT_of (List.mem_of_getElem? (i := 359) (by decide +kernel)) rfl
theorem wc_X5_isDigit : Cond.code yX5_isDigit cX5_isDigit 1 (some .boolean) ∈ mj_gT := mj_gT_of (List.mem_of_getElem? (i := 498) (by decide +kernel)) rfl
theorem wn_X5_isDigit : Cond.static yX5_isDigit ∈ mj_gT := mj_gT_of (List.mem_of_getElem? (i := 497) (by decide +kernel)) rfl
theorem wc_X5_isFull : Cond.code yX5_isFull cX5_isFull 1 (some .boolean) ∈ mj_gT := mj_gT_of (List.mem_of_getElem? (i := 316) (by decide +kernel)) rfl
theorem wn_X5_isFull : Cond.instanceMethod yX5_isFull ∈ mj_gT := mj_gT_of (List.mem_of_getElem? (i := 315) (by decide +kernel)) rfl
theorem ws_X5_isFull : Cond.selects yX5_isFull.cls yX5_isFull yX5_isFull ∈ mj_gT := mj_gT_of (List.mem_of_getElem? (i := 0) (by decide +kernel)) rfl
theorem wc_X5_keep : Cond.code yX5_keep cX5_keep 2 none ∈ mj_gT := mj_gT_of (List.mem_of_getElem? (i := 490) (by decide +kernel)) rfl
theorem wn_X5_keep : Cond.instanceMethod yX5_keep ∈ mj_gT := mj_gT_of (List.mem_of_getElem? (i := 489) (by decide +kernel)) rfl
theorem ws_X5_keep : Cond.selects yX5_keep.cls yX5_keep yX5_keep ∈ mj_gT := mj_gT_of (List.mem_of_getElem? (i := 12) (by decide +kernel)) rfl
theorem wc_X5_letterAt : Cond.code yX5_letterAt cX5_letterAt 2 (some .int) ∈ mj_gT := mj_gT_of (List.mem_of_getElem? (i := 357) (by decide +kernel)) rfl
theorem wn_X5_letterAt : Cond.instanceMethod yX5_letterAt ∈ mj_gT := mj_gT_of (List.mem_of_getElem? (i := 356) (by decide +kernel)) rfl
theorem ws_X5_letterAt : Cond.selects yX5_letterAt.cls yX5_letterAt yX5_letterAt ∈ mj_gT := mj_gT_of (List.mem_of_getElem? (i := 9) (by decide +kernel)) rfl
theorem wc_X5_readKind : Cond.code yX5_readKind cX5_readKind 4 (some .boolean) ∈ mj_gT := mj_gT_of (List.mem_of_getElem? (i := 427) (by decide +kernel)) rfl
theorem wn_X5_readKind : Cond.instanceMethod yX5_readKind ∈ mj_gT := mj_gT_of (List.mem_of_getElem? (i := 426) (by decide +kernel)) rfl
theorem ws_X5_readKind : Cond.selects yX5_readKind.cls yX5_readKind yX5_readKind ∈ mj_gT := mj_gT_of (List.mem_of_getElem? (i := 11) (by decide +kernel)) rfl
theorem wc_X5_readNumber : Cond.code yX5_readNumber cX5_readNumber 5 (some .boolean) ∈ mj_gT := mj_gT_of (List.mem_of_getElem? (i := 495) (by decide +kernel)) rfl
theorem wn_X5_readNumber : Cond.instanceMethod yX5_readNumber ∈ mj_gT := mj_gT_of (List.mem_of_getElem? (i := 494) (by decide +kernel)) rfl
theorem ws_X5_readNumber : Cond.selects yX5_readNumber.cls yX5_readNumber yX5_readNumber ∈ mj_gT := mj_gT_of (List.mem_of_getElem? (i := 13) (by decide +kernel)) rfl
theorem wc_X5_readPart : Cond.code yX5_readPart cX5_readPart 2 (some .boolean) ∈ mj_gT := mj_gT_of (List.mem_of_getElem? (i := 422) (by decide +kernel)) rfl
theorem wn_X5_readPart : Cond.instanceMethod yX5_readPart ∈ mj_gT := mj_gT_of (List.mem_of_getElem? (i := 421) (by decide +kernel)) rfl
theorem ws_X5_readPart : Cond.selects yX5_readPart.cls yX5_readPart yX5_readPart ∈ mj_gT := mj_gT_of (List.mem_of_getElem? (i := 10) (by decide +kernel)) rfl
theorem wc_X5_readSign : Cond.code yX5_readSign cX5_readSign 2 (some .boolean) ∈ mj_gT := mj_gT_of (List.mem_of_getElem? (i := 502) (by decide +kernel)) rfl
theorem wn_X5_readSign : Cond.instanceMethod yX5_readSign ∈ mj_gT := mj_gT_of (List.mem_of_getElem? (i := 501) (by decide +kernel)) rfl
theorem ws_X5_readSign : Cond.selects yX5_readSign.cls yX5_readSign yX5_readSign ∈ mj_gT := mj_gT_of (List.mem_of_getElem? (i := 14) (by decide +kernel)) rfl
theorem wc_X5_readStatement : Cond.code yX5_readStatement cX5_readStatement 3 (some .boolean) ∈ mj_gT := mj_gT_of (List.mem_of_getElem? (i := 353) (by decide +kernel)) rfl
theorem wn_X5_readStatement : Cond.instanceMethod yX5_readStatement ∈ mj_gT := mj_gT_of (List.mem_of_getElem? (i := 352) (by decide +kernel)) rfl
theorem ws_X5_readStatement : Cond.selects yX5_readStatement.cls yX5_readStatement yX5_readStatement ∈ mj_gT := mj_gT_of (List.mem_of_getElem? (i := 8) (by decide +kernel)) rfl
theorem wc_X5_tellInto : Cond.code yX5_tellInto cX5_tellInto 5 (some .int) ∈ mj_gT := mj_gT_of (List.mem_of_getElem? (i := 349) (by decide +kernel)) rfl
theorem wn_X5_tellInto : Cond.instanceMethod yX5_tellInto ∈ mj_gT := mj_gT_of (List.mem_of_getElem? (i := 348) (by decide +kernel)) rfl
theorem ws_X5_tellInto : Cond.selects yX5_tellInto.cls yX5_tellInto yX5_tellInto ∈ mj_gT := mj_gT_of (List.mem_of_getElem? (i := 7) (by decide +kernel)) rfl
theorem wc_X6_areWithin : Cond.code yX6_areWithin cX6_areWithin 4 (some .boolean) ∈ mj_gT := mj_gT_of (List.mem_of_getElem? (i := 521) (by decide +kernel)) rfl
theorem wn_X6_areWithin : Cond.static yX6_areWithin ∈ mj_gT := mj_gT_of (List.mem_of_getElem? (i := 520) (by decide +kernel)) rfl
theorem wc_X6_back : Cond.code yX6_back cX6_back 7 (some .int) ∈ mj_gT := mj_gT_of (List.mem_of_getElem? (i := 774) (by decide +kernel)) rfl
theorem wn_X6_back : Cond.instanceMethod yX6_back ∈ mj_gT := mj_gT_of (List.mem_of_getElem? (i := 772) (by decide +kernel)) rfl
theorem ws_X6_back : Cond.selects yX6_back.cls yX6_back yX6_back ∈ mj_gT := mj_gT_of (List.mem_of_getElem? (i := 773) (by decide +kernel)) rfl
theorem wc_X6_bestOf : Cond.code yX6_bestOf cX6_bestOf 11 (some .int) ∈ mj_gT := mj_gT_of (List.mem_of_getElem? (i := 746) (by decide +kernel)) rfl
theorem wn_X6_bestOf : Cond.instanceMethod yX6_bestOf ∈ mj_gT := mj_gT_of (List.mem_of_getElem? (i := 745) (by decide +kernel)) rfl
theorem ws_X6_bestOf : Cond.selects yX6_bestOf.cls yX6_bestOf yX6_bestOf ∈ mj_gT := mj_gT_of (List.mem_of_getElem? (i := 47) (by decide +kernel)) rfl
theorem wc_X6_bet : Cond.code yX6_bet cX6_bet 4 (some .int) ∈ mj_gT := mj_gT_of (List.mem_of_getElem? (i := 766) (by decide +kernel)) rfl
theorem wn_X6_bet : Cond.instanceMethod yX6_bet ∈ mj_gT := mj_gT_of (List.mem_of_getElem? (i := 764) (by decide +kernel)) rfl
theorem ws_X6_bet : Cond.selects yX6_bet.cls yX6_bet yX6_bet ∈ mj_gT := mj_gT_of (List.mem_of_getElem? (i := 765) (by decide +kernel)) rfl
theorem wc_X6_bus : Cond.code yX6_bus cX6_bus 4 (some .int) ∈ mj_gT := mj_gT_of (List.mem_of_getElem? (i := 632) (by decide +kernel)) rfl
theorem wn_X6_bus : Cond.instanceMethod yX6_bus ∈ mj_gT := mj_gT_of (List.mem_of_getElem? (i := 630) (by decide +kernel)) rfl
theorem ws_X6_bus : Cond.selects yX6_bus.cls yX6_bus yX6_bus ∈ mj_gT := mj_gT_of (List.mem_of_getElem? (i := 631) (by decide +kernel)) rfl
theorem wc_X6_clear : Cond.code yX6_clear cX6_clear 2 (some .int) ∈ mj_gT := mj_gT_of (List.mem_of_getElem? (i := 802) (by decide +kernel)) rfl
theorem wn_X6_clear : Cond.instanceMethod yX6_clear ∈ mj_gT := mj_gT_of (List.mem_of_getElem? (i := 800) (by decide +kernel)) rfl
theorem ws_X6_clear : Cond.selects yX6_clear.cls yX6_clear yX6_clear ∈ mj_gT := mj_gT_of (List.mem_of_getElem? (i := 801) (by decide +kernel)) rfl
theorem wc_X6_clock : Cond.code yX6_clock cX6_clock 4 (some .int) ∈ mj_gT := mj_gT_of (List.mem_of_getElem? (i := 591) (by decide +kernel)) rfl
theorem wn_X6_clock : Cond.instanceMethod yX6_clock ∈ mj_gT := mj_gT_of (List.mem_of_getElem? (i := 589) (by decide +kernel)) rfl
theorem ws_X6_clock : Cond.selects yX6_clock.cls yX6_clock yX6_clock ∈ mj_gT := mj_gT_of (List.mem_of_getElem? (i := 590) (by decide +kernel)) rfl
theorem wc_X6_cost : Cond.code yX6_cost cX6_cost 3 (some .int) ∈ mj_gT := mj_gT_of (List.mem_of_getElem? (i := 738) (by decide +kernel)) rfl
theorem wn_X6_cost : Cond.instanceMethod yX6_cost ∈ mj_gT := mj_gT_of (List.mem_of_getElem? (i := 736) (by decide +kernel)) rfl
theorem ws_X6_cost : Cond.selects yX6_cost.cls yX6_cost yX6_cost ∈ mj_gT := mj_gT_of (List.mem_of_getElem? (i := 737) (by decide +kernel)) rfl
theorem wc_X6_count : Cond.code yX6_count cX6_count 2 (some .int) ∈ mj_gT := mj_gT_of (List.mem_of_getElem? (i := 825) (by decide +kernel)) rfl
theorem wn_X6_count : Cond.instanceMethod yX6_count ∈ mj_gT := mj_gT_of (List.mem_of_getElem? (i := 823) (by decide +kernel)) rfl
theorem ws_X6_count : Cond.selects yX6_count.cls yX6_count yX6_count ∈ mj_gT := mj_gT_of (List.mem_of_getElem? (i := 824) (by decide +kernel)) rfl
theorem wc_X6_depth : Cond.code yX6_depth cX6_depth 4 (some .int) ∈ mj_gT := mj_gT_of (List.mem_of_getElem? (i := 693) (by decide +kernel)) rfl
theorem wn_X6_depth : Cond.instanceMethod yX6_depth ∈ mj_gT := mj_gT_of (List.mem_of_getElem? (i := 691) (by decide +kernel)) rfl
theorem ws_X6_depth : Cond.selects yX6_depth.cls yX6_depth yX6_depth ∈ mj_gT := mj_gT_of (List.mem_of_getElem? (i := 692) (by decide +kernel)) rfl
theorem wc_X6_done : Cond.code yX6_done cX6_done 5 (some .int) ∈ mj_gT := mj_gT_of (List.mem_of_getElem? (i := 710) (by decide +kernel)) rfl
theorem wn_X6_done : Cond.instanceMethod yX6_done ∈ mj_gT := mj_gT_of (List.mem_of_getElem? (i := 708) (by decide +kernel)) rfl
theorem ws_X6_done : Cond.selects yX6_done.cls yX6_done yX6_done ∈ mj_gT := mj_gT_of (List.mem_of_getElem? (i := 709) (by decide +kernel)) rfl
theorem wc_X6_drawSets : Cond.code yX6_drawSets cX6_drawSets 5 (some .int) ∈ mj_gT := mj_gT_of (List.mem_of_getElem? (i := 810) (by decide +kernel)) rfl
theorem wn_X6_drawSets : Cond.instanceMethod yX6_drawSets ∈ mj_gT := mj_gT_of (List.mem_of_getElem? (i := 809) (by decide +kernel)) rfl
theorem ws_X6_drawSets : Cond.selects yX6_drawSets.cls yX6_drawSets yX6_drawSets ∈ mj_gT := mj_gT_of (List.mem_of_getElem? (i := 50) (by decide +kernel)) rfl
theorem wc_X6_evening : Cond.code yX6_evening cX6_evening 5 (some .int) ∈ mj_gT := mj_gT_of (List.mem_of_getElem? (i := 742) (by decide +kernel)) rfl
theorem wn_X6_evening : Cond.instanceMethod yX6_evening ∈ mj_gT := mj_gT_of (List.mem_of_getElem? (i := 740) (by decide +kernel)) rfl
theorem ws_X6_evening : Cond.selects yX6_evening.cls yX6_evening yX6_evening ∈ mj_gT := mj_gT_of (List.mem_of_getElem? (i := 741) (by decide +kernel)) rfl
theorem wc_X6_every : Cond.code yX6_every cX6_every 4 (some .int) ∈ mj_gT := mj_gT_of (List.mem_of_getElem? (i := 624) (by decide +kernel)) rfl
theorem wn_X6_every : Cond.instanceMethod yX6_every ∈ mj_gT := mj_gT_of (List.mem_of_getElem? (i := 622) (by decide +kernel)) rfl
theorem ws_X6_every : Cond.selects yX6_every.cls yX6_every yX6_every ∈ mj_gT := mj_gT_of (List.mem_of_getElem? (i := 623) (by decide +kernel)) rfl
theorem wc_X6_firm : Cond.code yX6_firm cX6_firm 4 (some .int) ∈ mj_gT := mj_gT_of (List.mem_of_getElem? (i := 628) (by decide +kernel)) rfl
theorem wn_X6_firm : Cond.instanceMethod yX6_firm ∈ mj_gT := mj_gT_of (List.mem_of_getElem? (i := 626) (by decide +kernel)) rfl
theorem ws_X6_firm : Cond.selects yX6_firm.cls yX6_firm yX6_firm ∈ mj_gT := mj_gT_of (List.mem_of_getElem? (i := 627) (by decide +kernel)) rfl
theorem wc_X6_firms : Cond.code yX6_firms cX6_firms 7 (some .int) ∈ mj_gT := mj_gT_of (List.mem_of_getElem? (i := 798) (by decide +kernel)) rfl
theorem wn_X6_firms : Cond.instanceMethod yX6_firms ∈ mj_gT := mj_gT_of (List.mem_of_getElem? (i := 796) (by decide +kernel)) rfl
theorem ws_X6_firms : Cond.selects yX6_firms.cls yX6_firms yX6_firms ∈ mj_gT := mj_gT_of (List.mem_of_getElem? (i := 797) (by decide +kernel)) rfl
theorem wc_X6_first : Cond.code yX6_first cX6_first 2 (some .int) ∈ mj_gT := mj_gT_of (List.mem_of_getElem? (i := 583) (by decide +kernel)) rfl
theorem wn_X6_first : Cond.static yX6_first ∈ mj_gT := mj_gT_of (List.mem_of_getElem? (i := 582) (by decide +kernel)) rfl
theorem wc_X6_firstWrong : Cond.code yX6_firstWrong cX6_firstWrong 3 (some .int) ∈ mj_gT := mj_gT_of (List.mem_of_getElem? (i := 794) (by decide +kernel)) rfl
theorem wn_X6_firstWrong : Cond.instanceMethod yX6_firstWrong ∈ mj_gT := mj_gT_of (List.mem_of_getElem? (i := 793) (by decide +kernel)) rfl
theorem ws_X6_firstWrong : Cond.selects yX6_firstWrong.cls yX6_firstWrong yX6_firstWrong ∈ mj_gT := mj_gT_of (List.mem_of_getElem? (i := 49) (by decide +kernel)) rfl
theorem wc_X6_heardBy : Cond.code yX6_heardBy cX6_heardBy 5 (some .int) ∈ mj_gT := mj_gT_of (List.mem_of_getElem? (i := 758) (by decide +kernel)) rfl
theorem wn_X6_heardBy : Cond.instanceMethod yX6_heardBy ∈ mj_gT := mj_gT_of (List.mem_of_getElem? (i := 757) (by decide +kernel)) rfl
theorem ws_X6_heardBy : Cond.selects yX6_heardBy.cls yX6_heardBy yX6_heardBy ∈ mj_gT := mj_gT_of (List.mem_of_getElem? (i := 48) (by decide +kernel)) rfl
theorem wc_X6_hears : Cond.code yX6_hears cX6_hears 3 (some .int) ∈ mj_gT := mj_gT_of (List.mem_of_getElem? (i := 754) (by decide +kernel)) rfl
theorem wn_X6_hears : Cond.instanceMethod yX6_hears ∈ mj_gT := mj_gT_of (List.mem_of_getElem? (i := 752) (by decide +kernel)) rfl
theorem ws_X6_hears : Cond.selects yX6_hears.cls yX6_hears yX6_hears ∈ mj_gT := mj_gT_of (List.mem_of_getElem? (i := 753) (by decide +kernel)) rfl
theorem wc_X6_image : Cond.code yX6_image cX6_image 1 (some .int) ∈ mj_gT := mj_gT_of (List.mem_of_getElem? (i := 817) (by decide +kernel)) rfl
theorem wn_X6_image : Cond.instanceMethod yX6_image ∈ mj_gT := mj_gT_of (List.mem_of_getElem? (i := 815) (by decide +kernel)) rfl
theorem ws_X6_image : Cond.selects yX6_image.cls yX6_image yX6_image ∈ mj_gT := mj_gT_of (List.mem_of_getElem? (i := 816) (by decide +kernel)) rfl
theorem wc_X6_judge : Cond.code yX6_judge cX6_judge 3 (some .int) ∈ mj_gT := mj_gT_of (List.mem_of_getElem? (i := 790) (by decide +kernel)) rfl
theorem wn_X6_judge : Cond.instanceMethod yX6_judge ∈ mj_gT := mj_gT_of (List.mem_of_getElem? (i := 788) (by decide +kernel)) rfl
theorem ws_X6_judge : Cond.selects yX6_judge.cls yX6_judge yX6_judge ∈ mj_gT := mj_gT_of (List.mem_of_getElem? (i := 789) (by decide +kernel)) rfl
theorem wc_X6_leans : Cond.code yX6_leans cX6_leans 6 (some .int) ∈ mj_gT := mj_gT_of (List.mem_of_getElem? (i := 770) (by decide +kernel)) rfl
theorem wn_X6_leans : Cond.instanceMethod yX6_leans ∈ mj_gT := mj_gT_of (List.mem_of_getElem? (i := 768) (by decide +kernel)) rfl
theorem ws_X6_leans : Cond.selects yX6_leans.cls yX6_leans yX6_leans ∈ mj_gT := mj_gT_of (List.mem_of_getElem? (i := 769) (by decide +kernel)) rfl
theorem wc_X6_letter : Cond.code yX6_letter cX6_letter 3 (some .int) ∈ mj_gT := mj_gT_of (List.mem_of_getElem? (i := 309) (by decide +kernel)) rfl
theorem wn_X6_letter : Cond.instanceMethod yX6_letter ∈ mj_gT := mj_gT_of (List.mem_of_getElem? (i := 307) (by decide +kernel)) rfl
theorem ws_X6_letter : Cond.selects yX6_letter.cls yX6_letter yX6_letter ∈ mj_gT := mj_gT_of (List.mem_of_getElem? (i := 308) (by decide +kernel)) rfl
theorem wc_X6_lots : Cond.code yX6_lots cX6_lots 8 (some .int) ∈ mj_gT := mj_gT_of (List.mem_of_getElem? (i := 806) (by decide +kernel)) rfl
theorem wn_X6_lots : Cond.instanceMethod yX6_lots ∈ mj_gT := mj_gT_of (List.mem_of_getElem? (i := 804) (by decide +kernel)) rfl
theorem ws_X6_lots : Cond.selects yX6_lots.cls yX6_lots yX6_lots ∈ mj_gT := mj_gT_of (List.mem_of_getElem? (i := 805) (by decide +kernel)) rfl
theorem wc_X6_moment : Cond.code yX6_moment cX6_moment 7 (some .int) ∈ mj_gT := mj_gT_of (List.mem_of_getElem? (i := 778) (by decide +kernel)) rfl
theorem wn_X6_moment : Cond.instanceMethod yX6_moment ∈ mj_gT := mj_gT_of (List.mem_of_getElem? (i := 776) (by decide +kernel)) rfl
theorem ws_X6_moment : Cond.selects yX6_moment.cls yX6_moment yX6_moment ∈ mj_gT := mj_gT_of (List.mem_of_getElem? (i := 777) (by decide +kernel)) rfl
theorem wc_X6_night : Cond.code yX6_night cX6_night 1 (some .int) ∈ mj_gT := mj_gT_of (List.mem_of_getElem? (i := 640) (by decide +kernel)) rfl
theorem wn_X6_night : Cond.instanceMethod yX6_night ∈ mj_gT := mj_gT_of (List.mem_of_getElem? (i := 638) (by decide +kernel)) rfl
theorem ws_X6_night : Cond.selects yX6_night.cls yX6_night yX6_night ∈ mj_gT := mj_gT_of (List.mem_of_getElem? (i := 639) (by decide +kernel)) rfl
theorem wc_X6_noClock : Cond.code yX6_noClock cX6_noClock 2 (some .int) ∈ mj_gT := mj_gT_of (List.mem_of_getElem? (i := 595) (by decide +kernel)) rfl
theorem wn_X6_noClock : Cond.instanceMethod yX6_noClock ∈ mj_gT := mj_gT_of (List.mem_of_getElem? (i := 594) (by decide +kernel)) rfl
theorem ws_X6_noClock : Cond.selects yX6_noClock.cls yX6_noClock yX6_noClock ∈ mj_gT := mj_gT_of (List.mem_of_getElem? (i := 27) (by decide +kernel)) rfl
theorem wc_X6_noSleeper : Cond.code yX6_noSleeper cX6_noSleeper 2 (some .int) ∈ mj_gT := mj_gT_of (List.mem_of_getElem? (i := 577) (by decide +kernel)) rfl
theorem wn_X6_noSleeper : Cond.instanceMethod yX6_noSleeper ∈ mj_gT := mj_gT_of (List.mem_of_getElem? (i := 576) (by decide +kernel)) rfl
theorem ws_X6_noSleeper : Cond.selects yX6_noSleeper.cls yX6_noSleeper yX6_noSleeper ∈ mj_gT := mj_gT_of (List.mem_of_getElem? (i := 25) (by decide +kernel)) rfl
theorem wc_X6_noTask : Cond.code yX6_noTask cX6_noTask 2 (some .int) ∈ mj_gT := mj_gT_of (List.mem_of_getElem? (i := 607) (by decide +kernel)) rfl
theorem wn_X6_noTask : Cond.instanceMethod yX6_noTask ∈ mj_gT := mj_gT_of (List.mem_of_getElem? (i := 606) (by decide +kernel)) rfl
theorem ws_X6_noTask : Cond.selects yX6_noTask.cls yX6_noTask yX6_noTask ∈ mj_gT := mj_gT_of (List.mem_of_getElem? (i := 29) (by decide +kernel)) rfl
theorem wc_X6_often : Cond.code yX6_often cX6_often 7 (some .int) ∈ mj_gT := mj_gT_of (List.mem_of_getElem? (i := 750) (by decide +kernel)) rfl
theorem wn_X6_often : Cond.instanceMethod yX6_often ∈ mj_gT := mj_gT_of (List.mem_of_getElem? (i := 748) (by decide +kernel)) rfl
theorem ws_X6_often : Cond.selects yX6_often.cls yX6_often yX6_often ∈ mj_gT := mj_gT_of (List.mem_of_getElem? (i := 749) (by decide +kernel)) rfl
theorem wc_X6_on : Cond.code yX6_on cX6_on 1 (some .int) ∈ mj_gT := mj_gT_of (List.mem_of_getElem? (i := 821) (by decide +kernel)) rfl
theorem wn_X6_on : Cond.instanceMethod yX6_on ∈ mj_gT := mj_gT_of (List.mem_of_getElem? (i := 819) (by decide +kernel)) rfl
theorem ws_X6_on : Cond.selects yX6_on.cls yX6_on yX6_on ∈ mj_gT := mj_gT_of (List.mem_of_getElem? (i := 820) (by decide +kernel)) rfl
theorem wc_X6_otherThan : Cond.code yX6_otherThan cX6_otherThan 2 (some .int) ∈ mj_gT := mj_gT_of (List.mem_of_getElem? (i := 580) (by decide +kernel)) rfl
theorem wn_X6_otherThan : Cond.static yX6_otherThan ∈ mj_gT := mj_gT_of (List.mem_of_getElem? (i := 579) (by decide +kernel)) rfl
theorem wc_X6_outside : Cond.code yX6_outside cX6_outside 3 (some .int) ∈ mj_gT := mj_gT_of (List.mem_of_getElem? (i := 312) (by decide +kernel)) rfl
theorem wn_X6_outside : Cond.static yX6_outside ∈ mj_gT := mj_gT_of (List.mem_of_getElem? (i := 311) (by decide +kernel)) rfl
theorem wc_X6_presses : Cond.code yX6_presses cX6_presses 3 (some .int) ∈ mj_gT := mj_gT_of (List.mem_of_getElem? (i := 702) (by decide +kernel)) rfl
theorem wn_X6_presses : Cond.instanceMethod yX6_presses ∈ mj_gT := mj_gT_of (List.mem_of_getElem? (i := 700) (by decide +kernel)) rfl
theorem ws_X6_presses : Cond.selects yX6_presses.cls yX6_presses yX6_presses ∈ mj_gT := mj_gT_of (List.mem_of_getElem? (i := 701) (by decide +kernel)) rfl
theorem wc_X6_refusalsOf : Cond.code yX6_refusalsOf cX6_refusalsOf 2 (some .int) ∈ mj_gT := mj_gT_of (List.mem_of_getElem? (i := 829) (by decide +kernel)) rfl
theorem wn_X6_refusalsOf : Cond.instanceMethod yX6_refusalsOf ∈ mj_gT := mj_gT_of (List.mem_of_getElem? (i := 828) (by decide +kernel)) rfl
theorem ws_X6_refusalsOf : Cond.selects yX6_refusalsOf.cls yX6_refusalsOf yX6_refusalsOf ∈ mj_gT := mj_gT_of (List.mem_of_getElem? (i := 51) (by decide +kernel)) rfl
theorem wc_X6_refuse : Cond.code yX6_refuse cX6_refuse 2 (some .int) ∈ mj_gT := mj_gT_of (List.mem_of_getElem? (i := 320) (by decide +kernel)) rfl
theorem wn_X6_refuse : Cond.instanceMethod yX6_refuse ∈ mj_gT := mj_gT_of (List.mem_of_getElem? (i := 319) (by decide +kernel)) rfl
theorem ws_X6_refuse : Cond.selects yX6_refuse.cls yX6_refuse yX6_refuse ∈ mj_gT := mj_gT_of (List.mem_of_getElem? (i := 1) (by decide +kernel)) rfl
theorem wc_X6_refuseValue : Cond.code yX6_refuseValue cX6_refuseValue 2 (some .int) ∈ mj_gT := mj_gT_of (List.mem_of_getElem? (i := 724) (by decide +kernel)) rfl
theorem wn_X6_refuseValue : Cond.instanceMethod yX6_refuseValue ∈ mj_gT := mj_gT_of (List.mem_of_getElem? (i := 723) (by decide +kernel)) rfl
theorem ws_X6_refuseValue : Cond.selects yX6_refuseValue.cls yX6_refuseValue yX6_refuseValue ∈ mj_gT := mj_gT_of (List.mem_of_getElem? (i := 44) (by decide +kernel)) rfl
theorem wc_X6_room : Cond.code yX6_room cX6_room 2 (some .int) ∈ mj_gT := mj_gT_of (List.mem_of_getElem? (i := 329) (by decide +kernel)) rfl
theorem wn_X6_room : Cond.instanceMethod yX6_room ∈ mj_gT := mj_gT_of (List.mem_of_getElem? (i := 327) (by decide +kernel)) rfl
theorem ws_X6_room : Cond.selects yX6_room.cls yX6_room yX6_room ∈ mj_gT := mj_gT_of (List.mem_of_getElem? (i := 328) (by decide +kernel)) rfl
theorem wc_X6_row : Cond.code yX6_row cX6_row 3 (some .int) ∈ mj_gT := mj_gT_of (List.mem_of_getElem? (i := 786) (by decide +kernel)) rfl
theorem wn_X6_row : Cond.instanceMethod yX6_row ∈ mj_gT := mj_gT_of (List.mem_of_getElem? (i := 784) (by decide +kernel)) rfl
theorem ws_X6_row : Cond.selects yX6_row.cls yX6_row yX6_row ∈ mj_gT := mj_gT_of (List.mem_of_getElem? (i := 785) (by decide +kernel)) rfl
theorem wc_X6_set : Cond.code yX6_set cX6_set 4 (some .int) ∈ mj_gT := mj_gT_of (List.mem_of_getElem? (i := 615) (by decide +kernel)) rfl
theorem wn_X6_set : Cond.instanceMethod yX6_set ∈ mj_gT := mj_gT_of (List.mem_of_getElem? (i := 613) (by decide +kernel)) rfl
theorem ws_X6_set : Cond.selects yX6_set.cls yX6_set yX6_set ∈ mj_gT := mj_gT_of (List.mem_of_getElem? (i := 614) (by decide +kernel)) rfl
theorem wc_X6_silent : Cond.code yX6_silent cX6_silent 8 (some .int) ∈ mj_gT := mj_gT_of (List.mem_of_getElem? (i := 762) (by decide +kernel)) rfl
theorem wn_X6_silent : Cond.instanceMethod yX6_silent ∈ mj_gT := mj_gT_of (List.mem_of_getElem? (i := 760) (by decide +kernel)) rfl
theorem ws_X6_silent : Cond.selects yX6_silent.cls yX6_silent yX6_silent ∈ mj_gT := mj_gT_of (List.mem_of_getElem? (i := 761) (by decide +kernel)) rfl
theorem wc_X6_sleeper : Cond.code yX6_sleeper cX6_sleeper 4 (some .int) ∈ mj_gT := mj_gT_of (List.mem_of_getElem? (i := 573) (by decide +kernel)) rfl
theorem wn_X6_sleeper : Cond.instanceMethod yX6_sleeper ∈ mj_gT := mj_gT_of (List.mem_of_getElem? (i := 571) (by decide +kernel)) rfl
theorem ws_X6_sleeper : Cond.selects yX6_sleeper.cls yX6_sleeper yX6_sleeper ∈ mj_gT := mj_gT_of (List.mem_of_getElem? (i := 572) (by decide +kernel)) rfl
theorem wc_X6_slept : Cond.code yX6_slept cX6_slept 3 (some .int) ∈ mj_gT := mj_gT_of (List.mem_of_getElem? (i := 706) (by decide +kernel)) rfl
theorem wn_X6_slept : Cond.instanceMethod yX6_slept ∈ mj_gT := mj_gT_of (List.mem_of_getElem? (i := 704) (by decide +kernel)) rfl
theorem ws_X6_slept : Cond.selects yX6_slept.cls yX6_slept yX6_slept ∈ mj_gT := mj_gT_of (List.mem_of_getElem? (i := 705) (by decide +kernel)) rfl
theorem wc_X6_task : Cond.code yX6_task cX6_task 4 (some .int) ∈ mj_gT := mj_gT_of (List.mem_of_getElem? (i := 603) (by decide +kernel)) rfl
theorem wn_X6_task : Cond.instanceMethod yX6_task ∈ mj_gT := mj_gT_of (List.mem_of_getElem? (i := 601) (by decide +kernel)) rfl
theorem ws_X6_task : Cond.selects yX6_task.cls yX6_task yX6_task ∈ mj_gT := mj_gT_of (List.mem_of_getElem? (i := 602) (by decide +kernel)) rfl
theorem wc_X6_tired : Cond.code yX6_tired cX6_tired 4 (some .int) ∈ mj_gT := mj_gT_of (List.mem_of_getElem? (i := 636) (by decide +kernel)) rfl
theorem wn_X6_tired : Cond.instanceMethod yX6_tired ∈ mj_gT := mj_gT_of (List.mem_of_getElem? (i := 634) (by decide +kernel)) rfl
theorem ws_X6_tired : Cond.selects yX6_tired.cls yX6_tired yX6_tired ∈ mj_gT := mj_gT_of (List.mem_of_getElem? (i := 635) (by decide +kernel)) rfl
theorem wc_X6_up : Cond.code yX6_up cX6_up 3 (some .int) ∈ mj_gT := mj_gT_of (List.mem_of_getElem? (i := 698) (by decide +kernel)) rfl
theorem wn_X6_up : Cond.instanceMethod yX6_up ∈ mj_gT := mj_gT_of (List.mem_of_getElem? (i := 696) (by decide +kernel)) rfl
theorem ws_X6_up : Cond.selects yX6_up.cls yX6_up yX6_up ∈ mj_gT := mj_gT_of (List.mem_of_getElem? (i := 697) (by decide +kernel)) rfl
theorem wc_X6_value : Cond.code yX6_value cX6_value 3 (some .int) ∈ mj_gT := mj_gT_of (List.mem_of_getElem? (i := 720) (by decide +kernel)) rfl
theorem wn_X6_value : Cond.instanceMethod yX6_value ∈ mj_gT := mj_gT_of (List.mem_of_getElem? (i := 718) (by decide +kernel)) rfl
theorem ws_X6_value : Cond.selects yX6_value.cls yX6_value yX6_value ∈ mj_gT := mj_gT_of (List.mem_of_getElem? (i := 719) (by decide +kernel)) rfl
theorem wc_X6_valueOf : Cond.code yX6_valueOf cX6_valueOf 5 (some .int) ∈ mj_gT := mj_gT_of (List.mem_of_getElem? (i := 729) (by decide +kernel)) rfl
theorem wn_X6_valueOf : Cond.instanceMethod yX6_valueOf ∈ mj_gT := mj_gT_of (List.mem_of_getElem? (i := 728) (by decide +kernel)) rfl
theorem ws_X6_valueOf : Cond.selects yX6_valueOf.cls yX6_valueOf yX6_valueOf ∈ mj_gT := mj_gT_of (List.mem_of_getElem? (i := 45) (by decide +kernel)) rfl
theorem wc_X6_week : Cond.code yX6_week cX6_week 7 (some .int) ∈ mj_gT := mj_gT_of (List.mem_of_getElem? (i := 782) (by decide +kernel)) rfl
theorem wn_X6_week : Cond.instanceMethod yX6_week ∈ mj_gT := mj_gT_of (List.mem_of_getElem? (i := 780) (by decide +kernel)) rfl
theorem ws_X6_week : Cond.selects yX6_week.cls yX6_week yX6_week ∈ mj_gT := mj_gT_of (List.mem_of_getElem? (i := 781) (by decide +kernel)) rfl
theorem wc_X7_at : Cond.code yX7_at cX7_at 3 (some .int) ∈ mj_gT := mj_gT_of (List.mem_of_getElem? (i := 972) (by decide +kernel)) rfl
theorem wn_X7_at : Cond.instanceMethod yX7_at ∈ mj_gT := mj_gT_of (List.mem_of_getElem? (i := 971) (by decide +kernel)) rfl
theorem ws_X7_at : Cond.selects yX7_at.cls yX7_at yX7_at ∈ mj_gT := mj_gT_of (List.mem_of_getElem? (i := 63) (by decide +kernel)) rfl
theorem wc_X7_back : Cond.code yX7_back cX7_back 7 (some .int) ∈ mj_gT := mj_gT_of (List.mem_of_getElem? (i := 1113) (by decide +kernel)) rfl
theorem wn_X7_back : Cond.instanceMethod yX7_back ∈ mj_gT := mj_gT_of (List.mem_of_getElem? (i := 1111) (by decide +kernel)) rfl
theorem ws_X7_back : Cond.selects yX7_back.cls yX7_back yX7_back ∈ mj_gT := mj_gT_of (List.mem_of_getElem? (i := 1112) (by decide +kernel)) rfl
theorem wc_X7_begins : Cond.code yX7_begins cX7_begins 1 none ∈ mj_gT := mj_gT_of (List.mem_of_getElem? (i := 1081) (by decide +kernel)) rfl
theorem wn_X7_begins : Cond.instanceMethod yX7_begins ∈ mj_gT := mj_gT_of (List.mem_of_getElem? (i := 1080) (by decide +kernel)) rfl
theorem ws_X7_begins : Cond.selects yX7_begins.cls yX7_begins yX7_begins ∈ mj_gT := mj_gT_of (List.mem_of_getElem? (i := 76) (by decide +kernel)) rfl
theorem wc_X7_bet : Cond.code yX7_bet cX7_bet 4 (some .int) ∈ mj_gT := mj_gT_of (List.mem_of_getElem? (i := 1105) (by decide +kernel)) rfl
theorem wn_X7_bet : Cond.instanceMethod yX7_bet ∈ mj_gT := mj_gT_of (List.mem_of_getElem? (i := 1103) (by decide +kernel)) rfl
theorem ws_X7_bet : Cond.selects yX7_bet.cls yX7_bet yX7_bet ∈ mj_gT := mj_gT_of (List.mem_of_getElem? (i := 1104) (by decide +kernel)) rfl
theorem wc_X7_bus : Cond.code yX7_bus cX7_bus 2 (some .int) ∈ mj_gT := mj_gT_of (List.mem_of_getElem? (i := 1000) (by decide +kernel)) rfl
theorem wn_X7_bus : Cond.instanceMethod yX7_bus ∈ mj_gT := mj_gT_of (List.mem_of_getElem? (i := 998) (by decide +kernel)) rfl
theorem ws_X7_bus : Cond.selects yX7_bus.cls yX7_bus yX7_bus ∈ mj_gT := mj_gT_of (List.mem_of_getElem? (i := 999) (by decide +kernel)) rfl
theorem wc_X7_changes : Cond.code yX7_changes cX7_changes 5 (some .int) ∈ mj_gT := mj_gT_of (List.mem_of_getElem? (i := 988) (by decide +kernel)) rfl
theorem wn_X7_changes : Cond.instanceMethod yX7_changes ∈ mj_gT := mj_gT_of (List.mem_of_getElem? (i := 987) (by decide +kernel)) rfl
theorem ws_X7_changes : Cond.selects yX7_changes.cls yX7_changes yX7_changes ∈ mj_gT := mj_gT_of (List.mem_of_getElem? (i := 65) (by decide +kernel)) rfl
theorem wc_X7_clear : Cond.code yX7_clear cX7_clear 2 (some .int) ∈ mj_gT := mj_gT_of (List.mem_of_getElem? (i := 1149) (by decide +kernel)) rfl
theorem wn_X7_clear : Cond.instanceMethod yX7_clear ∈ mj_gT := mj_gT_of (List.mem_of_getElem? (i := 1147) (by decide +kernel)) rfl
theorem ws_X7_clear : Cond.selects yX7_clear.cls yX7_clear yX7_clear ∈ mj_gT := mj_gT_of (List.mem_of_getElem? (i := 1148) (by decide +kernel)) rfl
theorem wc_X7_clock : Cond.code yX7_clock cX7_clock 3 (some .int) ∈ mj_gT := mj_gT_of (List.mem_of_getElem? (i := 964) (by decide +kernel)) rfl
theorem wn_X7_clock : Cond.instanceMethod yX7_clock ∈ mj_gT := mj_gT_of (List.mem_of_getElem? (i := 962) (by decide +kernel)) rfl
theorem ws_X7_clock : Cond.selects yX7_clock.cls yX7_clock yX7_clock ∈ mj_gT := mj_gT_of (List.mem_of_getElem? (i := 963) (by decide +kernel)) rfl
theorem wc_X7_clockOf : Cond.code yX7_clockOf cX7_clockOf 1 (some .int) ∈ mj_gT := mj_gT_of (List.mem_of_getElem? (i := 941) (by decide +kernel)) rfl
theorem wn_X7_clockOf : Cond.static yX7_clockOf ∈ mj_gT := mj_gT_of (List.mem_of_getElem? (i := 940) (by decide +kernel)) rfl
theorem wc_X7_comes : Cond.code yX7_comes cX7_comes 3 (some .boolean) ∈ mj_gT := mj_gT_of (List.mem_of_getElem? (i := 948) (by decide +kernel)) rfl
theorem wn_X7_comes : Cond.instanceMethod yX7_comes ∈ mj_gT := mj_gT_of (List.mem_of_getElem? (i := 947) (by decide +kernel)) rfl
theorem ws_X7_comes : Cond.selects yX7_comes.cls yX7_comes yX7_comes ∈ mj_gT := mj_gT_of (List.mem_of_getElem? (i := 59) (by decide +kernel)) rfl
theorem wc_X7_cost : Cond.code yX7_cost cX7_cost 3 (some .int) ∈ mj_gT := mj_gT_of (List.mem_of_getElem? (i := 1073) (by decide +kernel)) rfl
theorem wn_X7_cost : Cond.instanceMethod yX7_cost ∈ mj_gT := mj_gT_of (List.mem_of_getElem? (i := 1071) (by decide +kernel)) rfl
theorem ws_X7_cost : Cond.selects yX7_cost.cls yX7_cost yX7_cost ∈ mj_gT := mj_gT_of (List.mem_of_getElem? (i := 1072) (by decide +kernel)) rfl
theorem wc_X7_count : Cond.code yX7_count cX7_count 4 (some .int) ∈ mj_gT := mj_gT_of (List.mem_of_getElem? (i := 1168) (by decide +kernel)) rfl
theorem wn_X7_count : Cond.instanceMethod yX7_count ∈ mj_gT := mj_gT_of (List.mem_of_getElem? (i := 1166) (by decide +kernel)) rfl
theorem ws_X7_count : Cond.selects yX7_count.cls yX7_count yX7_count ∈ mj_gT := mj_gT_of (List.mem_of_getElem? (i := 1167) (by decide +kernel)) rfl
theorem wc_X7_depth : Cond.code yX7_depth cX7_depth 4 (some .int) ∈ mj_gT := mj_gT_of (List.mem_of_getElem? (i := 1008) (by decide +kernel)) rfl
theorem wn_X7_depth : Cond.instanceMethod yX7_depth ∈ mj_gT := mj_gT_of (List.mem_of_getElem? (i := 1006) (by decide +kernel)) rfl
theorem ws_X7_depth : Cond.selects yX7_depth.cls yX7_depth yX7_depth ∈ mj_gT := mj_gT_of (List.mem_of_getElem? (i := 1007) (by decide +kernel)) rfl
theorem wc_X7_depthOf : Cond.code yX7_depthOf cX7_depthOf 7 (some .int) ∈ mj_gT := mj_gT_of (List.mem_of_getElem? (i := 1012) (by decide +kernel)) rfl
theorem wn_X7_depthOf : Cond.instanceMethod yX7_depthOf ∈ mj_gT := mj_gT_of (List.mem_of_getElem? (i := 1011) (by decide +kernel)) rfl
theorem ws_X7_depthOf : Cond.selects yX7_depthOf.cls yX7_depthOf yX7_depthOf ∈ mj_gT := mj_gT_of (List.mem_of_getElem? (i := 66) (by decide +kernel)) rfl
theorem wc_X7_done : Cond.code yX7_done cX7_done 5 (some .int) ∈ mj_gT := mj_gT_of (List.mem_of_getElem? (i := 1052) (by decide +kernel)) rfl
theorem wn_X7_done : Cond.instanceMethod yX7_done ∈ mj_gT := mj_gT_of (List.mem_of_getElem? (i := 1050) (by decide +kernel)) rfl
theorem ws_X7_done : Cond.selects yX7_done.cls yX7_done yX7_done ∈ mj_gT := mj_gT_of (List.mem_of_getElem? (i := 1051) (by decide +kernel)) rfl
theorem wc_X7_doneAt : Cond.code yX7_doneAt cX7_doneAt 7 (some .int) ∈ mj_gT := mj_gT_of (List.mem_of_getElem? (i := 1056) (by decide +kernel)) rfl
theorem wn_X7_doneAt : Cond.instanceMethod yX7_doneAt ∈ mj_gT := mj_gT_of (List.mem_of_getElem? (i := 1055) (by decide +kernel)) rfl
theorem ws_X7_doneAt : Cond.selects yX7_doneAt.cls yX7_doneAt yX7_doneAt ∈ mj_gT := mj_gT_of (List.mem_of_getElem? (i := 73) (by decide +kernel)) rfl
theorem wc_X7_ends : Cond.code yX7_ends cX7_ends 1 none ∈ mj_gT := mj_gT_of (List.mem_of_getElem? (i := 1085) (by decide +kernel)) rfl
theorem wn_X7_ends : Cond.instanceMethod yX7_ends ∈ mj_gT := mj_gT_of (List.mem_of_getElem? (i := 1084) (by decide +kernel)) rfl
theorem ws_X7_ends : Cond.selects yX7_ends.cls yX7_ends yX7_ends ∈ mj_gT := mj_gT_of (List.mem_of_getElem? (i := 77) (by decide +kernel)) rfl
theorem wc_X7_evening : Cond.code yX7_evening cX7_evening 9 (some .int) ∈ mj_gT := mj_gT_of (List.mem_of_getElem? (i := 1077) (by decide +kernel)) rfl
theorem wn_X7_evening : Cond.instanceMethod yX7_evening ∈ mj_gT := mj_gT_of (List.mem_of_getElem? (i := 1075) (by decide +kernel)) rfl
theorem ws_X7_evening : Cond.selects yX7_evening.cls yX7_evening yX7_evening ∈ mj_gT := mj_gT_of (List.mem_of_getElem? (i := 1076) (by decide +kernel)) rfl
theorem wc_X7_every : Cond.code yX7_every cX7_every 3 (some .int) ∈ mj_gT := mj_gT_of (List.mem_of_getElem? (i := 992) (by decide +kernel)) rfl
theorem wn_X7_every : Cond.instanceMethod yX7_every ∈ mj_gT := mj_gT_of (List.mem_of_getElem? (i := 990) (by decide +kernel)) rfl
theorem ws_X7_every : Cond.selects yX7_every.cls yX7_every yX7_every ∈ mj_gT := mj_gT_of (List.mem_of_getElem? (i := 991) (by decide +kernel)) rfl
theorem wc_X7_firm : Cond.code yX7_firm cX7_firm 2 (some .int) ∈ mj_gT := mj_gT_of (List.mem_of_getElem? (i := 996) (by decide +kernel)) rfl
theorem wn_X7_firm : Cond.instanceMethod yX7_firm ∈ mj_gT := mj_gT_of (List.mem_of_getElem? (i := 994) (by decide +kernel)) rfl
theorem ws_X7_firm : Cond.selects yX7_firm.cls yX7_firm yX7_firm ∈ mj_gT := mj_gT_of (List.mem_of_getElem? (i := 995) (by decide +kernel)) rfl
theorem wc_X7_firms : Cond.code yX7_firms cX7_firms 7 (some .int) ∈ mj_gT := mj_gT_of (List.mem_of_getElem? (i := 1145) (by decide +kernel)) rfl
theorem wn_X7_firms : Cond.instanceMethod yX7_firms ∈ mj_gT := mj_gT_of (List.mem_of_getElem? (i := 1143) (by decide +kernel)) rfl
theorem ws_X7_firms : Cond.selects yX7_firms.cls yX7_firms yX7_firms ∈ mj_gT := mj_gT_of (List.mem_of_getElem? (i := 1144) (by decide +kernel)) rfl
theorem wc_X7_get : Cond.code yX7_get cX7_get 3 (some .int) ∈ mj_gT := mj_gT_of (List.mem_of_getElem? (i := 960) (by decide +kernel)) rfl
theorem wn_X7_get : Cond.instanceMethod yX7_get ∈ mj_gT := mj_gT_of (List.mem_of_getElem? (i := 959) (by decide +kernel)) rfl
theorem ws_X7_get : Cond.selects yX7_get.cls yX7_get yX7_get ∈ mj_gT := mj_gT_of (List.mem_of_getElem? (i := 61) (by decide +kernel)) rfl
theorem wc_X7_hears : Cond.code yX7_hears cX7_hears 2 (some .int) ∈ mj_gT := mj_gT_of (List.mem_of_getElem? (i := 1093) (by decide +kernel)) rfl
theorem wn_X7_hears : Cond.instanceMethod yX7_hears ∈ mj_gT := mj_gT_of (List.mem_of_getElem? (i := 1091) (by decide +kernel)) rfl
theorem ws_X7_hears : Cond.selects yX7_hears.cls yX7_hears yX7_hears ∈ mj_gT := mj_gT_of (List.mem_of_getElem? (i := 1092) (by decide +kernel)) rfl
theorem wc_X7_hearsBut : Cond.code yX7_hearsBut cX7_hearsBut 4 (some .int) ∈ mj_gT := mj_gT_of (List.mem_of_getElem? (i := 1097) (by decide +kernel)) rfl
theorem wn_X7_hearsBut : Cond.instanceMethod yX7_hearsBut ∈ mj_gT := mj_gT_of (List.mem_of_getElem? (i := 1096) (by decide +kernel)) rfl
theorem ws_X7_hearsBut : Cond.selects yX7_hearsBut.cls yX7_hearsBut yX7_hearsBut ∈ mj_gT := mj_gT_of (List.mem_of_getElem? (i := 78) (by decide +kernel)) rfl
theorem wc_X7_image : Cond.code yX7_image cX7_image 1 (some .int) ∈ mj_gT := mj_gT_of (List.mem_of_getElem? (i := 1160) (by decide +kernel)) rfl
theorem wn_X7_image : Cond.instanceMethod yX7_image ∈ mj_gT := mj_gT_of (List.mem_of_getElem? (i := 1158) (by decide +kernel)) rfl
theorem ws_X7_image : Cond.selects yX7_image.cls yX7_image yX7_image ∈ mj_gT := mj_gT_of (List.mem_of_getElem? (i := 1159) (by decide +kernel)) rfl
theorem wc_X7_isClock : Cond.code yX7_isClock cX7_isClock 2 (some .boolean) ∈ mj_gT := mj_gT_of (List.mem_of_getElem? (i := 968) (by decide +kernel)) rfl
theorem wn_X7_isClock : Cond.instanceMethod yX7_isClock ∈ mj_gT := mj_gT_of (List.mem_of_getElem? (i := 967) (by decide +kernel)) rfl
theorem ws_X7_isClock : Cond.selects yX7_isClock.cls yX7_isClock yX7_isClock ∈ mj_gT := mj_gT_of (List.mem_of_getElem? (i := 62) (by decide +kernel)) rfl
theorem wc_X7_isIn : Cond.code yX7_isIn cX7_isIn 2 (some .boolean) ∈ mj_gT := mj_gT_of (List.mem_of_getElem? (i := 934) (by decide +kernel)) rfl
theorem wn_X7_isIn : Cond.static yX7_isIn ∈ mj_gT := mj_gT_of (List.mem_of_getElem? (i := 933) (by decide +kernel)) rfl
theorem wc_X7_isSleeper : Cond.code yX7_isSleeper cX7_isSleeper 2 (some .boolean) ∈ mj_gT := mj_gT_of (List.mem_of_getElem? (i := 952) (by decide +kernel)) rfl
theorem wn_X7_isSleeper : Cond.instanceMethod yX7_isSleeper ∈ mj_gT := mj_gT_of (List.mem_of_getElem? (i := 951) (by decide +kernel)) rfl
theorem ws_X7_isSleeper : Cond.selects yX7_isSleeper.cls yX7_isSleeper yX7_isSleeper ∈ mj_gT := mj_gT_of (List.mem_of_getElem? (i := 60) (by decide +kernel)) rfl
theorem wc_X7_judge : Cond.code yX7_judge cX7_judge 2 (some .int) ∈ mj_gT := mj_gT_of (List.mem_of_getElem? (i := 1137) (by decide +kernel)) rfl
theorem wn_X7_judge : Cond.instanceMethod yX7_judge ∈ mj_gT := mj_gT_of (List.mem_of_getElem? (i := 1135) (by decide +kernel)) rfl
theorem ws_X7_judge : Cond.selects yX7_judge.cls yX7_judge yX7_judge ∈ mj_gT := mj_gT_of (List.mem_of_getElem? (i := 1136) (by decide +kernel)) rfl
theorem wc_X7_later : Cond.code yX7_later cX7_later 5 (some .int) ∈ mj_gT := mj_gT_of (List.mem_of_getElem? (i := 1032) (by decide +kernel)) rfl
theorem wn_X7_later : Cond.instanceMethod yX7_later ∈ mj_gT := mj_gT_of (List.mem_of_getElem? (i := 1031) (by decide +kernel)) rfl
theorem ws_X7_later : Cond.selects yX7_later.cls yX7_later yX7_later ∈ mj_gT := mj_gT_of (List.mem_of_getElem? (i := 70) (by decide +kernel)) rfl
theorem wc_X7_lays : Cond.code yX7_lays cX7_lays 3 none ∈ mj_gT := mj_gT_of (List.mem_of_getElem? (i := 944) (by decide +kernel)) rfl
theorem wn_X7_lays : Cond.static yX7_lays ∈ mj_gT := mj_gT_of (List.mem_of_getElem? (i := 943) (by decide +kernel)) rfl
theorem wc_X7_leans : Cond.code yX7_leans cX7_leans 6 (some .int) ∈ mj_gT := mj_gT_of (List.mem_of_getElem? (i := 1109) (by decide +kernel)) rfl
theorem wn_X7_leans : Cond.instanceMethod yX7_leans ∈ mj_gT := mj_gT_of (List.mem_of_getElem? (i := 1107) (by decide +kernel)) rfl
theorem ws_X7_leans : Cond.selects yX7_leans.cls yX7_leans yX7_leans ∈ mj_gT := mj_gT_of (List.mem_of_getElem? (i := 1108) (by decide +kernel)) rfl
theorem wc_X7_letter : Cond.code yX7_letter cX7_letter 3 (some .int) ∈ mj_gT := mj_gT_of (List.mem_of_getElem? (i := 897) (by decide +kernel)) rfl
theorem wn_X7_letter : Cond.instanceMethod yX7_letter ∈ mj_gT := mj_gT_of (List.mem_of_getElem? (i := 895) (by decide +kernel)) rfl
theorem ws_X7_letter : Cond.selects yX7_letter.cls yX7_letter yX7_letter ∈ mj_gT := mj_gT_of (List.mem_of_getElem? (i := 896) (by decide +kernel)) rfl
theorem wc_X7_lots : Cond.code yX7_lots cX7_lots 9 (some .int) ∈ mj_gT := mj_gT_of (List.mem_of_getElem? (i := 1153) (by decide +kernel)) rfl
theorem wn_X7_lots : Cond.instanceMethod yX7_lots ∈ mj_gT := mj_gT_of (List.mem_of_getElem? (i := 1151) (by decide +kernel)) rfl
theorem ws_X7_lots : Cond.selects yX7_lots.cls yX7_lots yX7_lots ∈ mj_gT := mj_gT_of (List.mem_of_getElem? (i := 1152) (by decide +kernel)) rfl
theorem wc_X7_mayPress : Cond.code yX7_mayPress cX7_mayPress 4 (some .boolean) ∈ mj_gT := mj_gT_of (List.mem_of_getElem? (i := 1036) (by decide +kernel)) rfl
theorem wn_X7_mayPress : Cond.instanceMethod yX7_mayPress ∈ mj_gT := mj_gT_of (List.mem_of_getElem? (i := 1035) (by decide +kernel)) rfl
theorem ws_X7_mayPress : Cond.selects yX7_mayPress.cls yX7_mayPress yX7_mayPress ∈ mj_gT := mj_gT_of (List.mem_of_getElem? (i := 71) (by decide +kernel)) rfl
theorem wc_X7_moment : Cond.code yX7_moment cX7_moment 7 (some .int) ∈ mj_gT := mj_gT_of (List.mem_of_getElem? (i := 1117) (by decide +kernel)) rfl
theorem wn_X7_moment : Cond.instanceMethod yX7_moment ∈ mj_gT := mj_gT_of (List.mem_of_getElem? (i := 1115) (by decide +kernel)) rfl
theorem ws_X7_moment : Cond.selects yX7_moment.cls yX7_moment yX7_moment ∈ mj_gT := mj_gT_of (List.mem_of_getElem? (i := 1116) (by decide +kernel)) rfl
theorem wc_X7_morning : Cond.code yX7_morning cX7_morning 2 none ∈ mj_gT := mj_gT_of (List.mem_of_getElem? (i := 1020) (by decide +kernel)) rfl
theorem wn_X7_morning : Cond.instanceMethod yX7_morning ∈ mj_gT := mj_gT_of (List.mem_of_getElem? (i := 1019) (by decide +kernel)) rfl
theorem ws_X7_morning : Cond.selects yX7_morning.cls yX7_morning yX7_morning ∈ mj_gT := mj_gT_of (List.mem_of_getElem? (i := 67) (by decide +kernel)) rfl
theorem wc_X7_morningOf : Cond.code yX7_morningOf cX7_morningOf 6 none ∈ mj_gT := mj_gT_of (List.mem_of_getElem? (i := 1024) (by decide +kernel)) rfl
theorem wn_X7_morningOf : Cond.instanceMethod yX7_morningOf ∈ mj_gT := mj_gT_of (List.mem_of_getElem? (i := 1023) (by decide +kernel)) rfl
theorem ws_X7_morningOf : Cond.selects yX7_morningOf.cls yX7_morningOf yX7_morningOf ∈ mj_gT := mj_gT_of (List.mem_of_getElem? (i := 68) (by decide +kernel)) rfl
theorem wc_X7_night : Cond.code yX7_night cX7_night 1 (some .int) ∈ mj_gT := mj_gT_of (List.mem_of_getElem? (i := 1121) (by decide +kernel)) rfl
theorem wn_X7_night : Cond.instanceMethod yX7_night ∈ mj_gT := mj_gT_of (List.mem_of_getElem? (i := 1119) (by decide +kernel)) rfl
theorem ws_X7_night : Cond.selects yX7_night.cls yX7_night yX7_night ∈ mj_gT := mj_gT_of (List.mem_of_getElem? (i := 1120) (by decide +kernel)) rfl
theorem wc_X7_of : Cond.code yX7_of cX7_of 3 (some .int) ∈ mj_gT := mj_gT_of (List.mem_of_getElem? (i := 980) (by decide +kernel)) rfl
theorem wn_X7_of : Cond.instanceMethod yX7_of ∈ mj_gT := mj_gT_of (List.mem_of_getElem? (i := 979) (by decide +kernel)) rfl
theorem ws_X7_of : Cond.selects yX7_of.cls yX7_of yX7_of ∈ mj_gT := mj_gT_of (List.mem_of_getElem? (i := 64) (by decide +kernel)) rfl
theorem wc_X7_often : Cond.code yX7_often cX7_often 6 (some .int) ∈ mj_gT := mj_gT_of (List.mem_of_getElem? (i := 1089) (by decide +kernel)) rfl
theorem wn_X7_often : Cond.instanceMethod yX7_often ∈ mj_gT := mj_gT_of (List.mem_of_getElem? (i := 1087) (by decide +kernel)) rfl
theorem ws_X7_often : Cond.selects yX7_often.cls yX7_often yX7_often ∈ mj_gT := mj_gT_of (List.mem_of_getElem? (i := 1088) (by decide +kernel)) rfl
theorem wc_X7_on : Cond.code yX7_on cX7_on 1 (some .int) ∈ mj_gT := mj_gT_of (List.mem_of_getElem? (i := 1164) (by decide +kernel)) rfl
theorem wn_X7_on : Cond.instanceMethod yX7_on ∈ mj_gT := mj_gT_of (List.mem_of_getElem? (i := 1162) (by decide +kernel)) rfl
theorem ws_X7_on : Cond.selects yX7_on.cls yX7_on yX7_on ∈ mj_gT := mj_gT_of (List.mem_of_getElem? (i := 1163) (by decide +kernel)) rfl
theorem wc_X7_presses : Cond.code yX7_presses cX7_presses 2 (some .int) ∈ mj_gT := mj_gT_of (List.mem_of_getElem? (i := 1044) (by decide +kernel)) rfl
theorem wn_X7_presses : Cond.instanceMethod yX7_presses ∈ mj_gT := mj_gT_of (List.mem_of_getElem? (i := 1042) (by decide +kernel)) rfl
theorem ws_X7_presses : Cond.selects yX7_presses.cls yX7_presses yX7_presses ∈ mj_gT := mj_gT_of (List.mem_of_getElem? (i := 1043) (by decide +kernel)) rfl
theorem wc_X7_reads : Cond.code yX7_reads cX7_reads 5 (some .int) ∈ mj_gT := mj_gT_of (List.mem_of_getElem? (i := 912) (by decide +kernel)) rfl
theorem wn_X7_reads : Cond.instanceMethod yX7_reads ∈ mj_gT := mj_gT_of (List.mem_of_getElem? (i := 911) (by decide +kernel)) rfl
theorem ws_X7_reads : Cond.selects yX7_reads.cls yX7_reads yX7_reads ∈ mj_gT := mj_gT_of (List.mem_of_getElem? (i := 53) (by decide +kernel)) rfl
theorem wc_X7_readsKind : Cond.code yX7_readsKind cX7_readsKind 2 (some .boolean) ∈ mj_gT := mj_gT_of (List.mem_of_getElem? (i := 927) (by decide +kernel)) rfl
theorem wn_X7_readsKind : Cond.instanceMethod yX7_readsKind ∈ mj_gT := mj_gT_of (List.mem_of_getElem? (i := 926) (by decide +kernel)) rfl
theorem ws_X7_readsKind : Cond.selects yX7_readsKind.cls yX7_readsKind yX7_readsKind ∈ mj_gT := mj_gT_of (List.mem_of_getElem? (i := 56) (by decide +kernel)) rfl
theorem wc_X7_readsNumber : Cond.code yX7_readsNumber cX7_readsNumber 5 (some .boolean) ∈ mj_gT := mj_gT_of (List.mem_of_getElem? (i := 931) (by decide +kernel)) rfl
theorem wn_X7_readsNumber : Cond.instanceMethod yX7_readsNumber ∈ mj_gT := mj_gT_of (List.mem_of_getElem? (i := 930) (by decide +kernel)) rfl
theorem ws_X7_readsNumber : Cond.selects yX7_readsNumber.cls yX7_readsNumber yX7_readsNumber ∈ mj_gT := mj_gT_of (List.mem_of_getElem? (i := 57) (by decide +kernel)) rfl
theorem wc_X7_readsStatement : Cond.code yX7_readsStatement cX7_readsStatement 3 (some .boolean) ∈ mj_gT := mj_gT_of (List.mem_of_getElem? (i := 916) (by decide +kernel)) rfl
theorem wn_X7_readsStatement : Cond.instanceMethod yX7_readsStatement ∈ mj_gT := mj_gT_of (List.mem_of_getElem? (i := 915) (by decide +kernel)) rfl
theorem ws_X7_readsStatement : Cond.selects yX7_readsStatement.cls yX7_readsStatement yX7_readsStatement ∈ mj_gT := mj_gT_of (List.mem_of_getElem? (i := 54) (by decide +kernel)) rfl
theorem wc_X7_refuse : Cond.code yX7_refuse cX7_refuse 2 (some .int) ∈ mj_gT := mj_gT_of (List.mem_of_getElem? (i := 904) (by decide +kernel)) rfl
theorem wn_X7_refuse : Cond.instanceMethod yX7_refuse ∈ mj_gT := mj_gT_of (List.mem_of_getElem? (i := 903) (by decide +kernel)) rfl
theorem ws_X7_refuse : Cond.selects yX7_refuse.cls yX7_refuse yX7_refuse ∈ mj_gT := mj_gT_of (List.mem_of_getElem? (i := 52) (by decide +kernel)) rfl
theorem wc_X7_refuseFar : Cond.code yX7_refuseFar cX7_refuseFar 2 (some .int) ∈ mj_gT := mj_gT_of (List.mem_of_getElem? (i := 1068) (by decide +kernel)) rfl
theorem wn_X7_refuseFar : Cond.instanceMethod yX7_refuseFar ∈ mj_gT := mj_gT_of (List.mem_of_getElem? (i := 1067) (by decide +kernel)) rfl
theorem ws_X7_refuseFar : Cond.selects yX7_refuseFar.cls yX7_refuseFar yX7_refuseFar ∈ mj_gT := mj_gT_of (List.mem_of_getElem? (i := 75) (by decide +kernel)) rfl
theorem wc_X7_room : Cond.code yX7_room cX7_room 2 (some .int) ∈ mj_gT := mj_gT_of (List.mem_of_getElem? (i := 908) (by decide +kernel)) rfl
theorem wn_X7_room : Cond.instanceMethod yX7_room ∈ mj_gT := mj_gT_of (List.mem_of_getElem? (i := 906) (by decide +kernel)) rfl
theorem ws_X7_room : Cond.selects yX7_room.cls yX7_room yX7_room ∈ mj_gT := mj_gT_of (List.mem_of_getElem? (i := 907) (by decide +kernel)) rfl
theorem wc_X7_row : Cond.code yX7_row cX7_row 3 (some .int) ∈ mj_gT := mj_gT_of (List.mem_of_getElem? (i := 1133) (by decide +kernel)) rfl
theorem wn_X7_row : Cond.instanceMethod yX7_row ∈ mj_gT := mj_gT_of (List.mem_of_getElem? (i := 1131) (by decide +kernel)) rfl
theorem ws_X7_row : Cond.selects yX7_row.cls yX7_row yX7_row ∈ mj_gT := mj_gT_of (List.mem_of_getElem? (i := 1132) (by decide +kernel)) rfl
theorem wc_X7_set : Cond.code yX7_set cX7_set 3 (some .int) ∈ mj_gT := mj_gT_of (List.mem_of_getElem? (i := 984) (by decide +kernel)) rfl
theorem wn_X7_set : Cond.instanceMethod yX7_set ∈ mj_gT := mj_gT_of (List.mem_of_getElem? (i := 982) (by decide +kernel)) rfl
theorem ws_X7_set : Cond.selects yX7_set.cls yX7_set yX7_set ∈ mj_gT := mj_gT_of (List.mem_of_getElem? (i := 983) (by decide +kernel)) rfl
theorem wc_X7_sign : Cond.code yX7_sign cX7_sign 1 (some .int) ∈ mj_gT := mj_gT_of (List.mem_of_getElem? (i := 920) (by decide +kernel)) rfl
theorem wn_X7_sign : Cond.instanceMethod yX7_sign ∈ mj_gT := mj_gT_of (List.mem_of_getElem? (i := 919) (by decide +kernel)) rfl
theorem ws_X7_sign : Cond.selects yX7_sign.cls yX7_sign yX7_sign ∈ mj_gT := mj_gT_of (List.mem_of_getElem? (i := 55) (by decide +kernel)) rfl
theorem wc_X7_silent : Cond.code yX7_silent cX7_silent 5 (some .int) ∈ mj_gT := mj_gT_of (List.mem_of_getElem? (i := 1101) (by decide +kernel)) rfl
theorem wn_X7_silent : Cond.instanceMethod yX7_silent ∈ mj_gT := mj_gT_of (List.mem_of_getElem? (i := 1099) (by decide +kernel)) rfl
theorem ws_X7_silent : Cond.selects yX7_silent.cls yX7_silent yX7_silent ∈ mj_gT := mj_gT_of (List.mem_of_getElem? (i := 1100) (by decide +kernel)) rfl
theorem wc_X7_sleeper : Cond.code yX7_sleeper cX7_sleeper 3 (some .int) ∈ mj_gT := mj_gT_of (List.mem_of_getElem? (i := 956) (by decide +kernel)) rfl
theorem wn_X7_sleeper : Cond.instanceMethod yX7_sleeper ∈ mj_gT := mj_gT_of (List.mem_of_getElem? (i := 954) (by decide +kernel)) rfl
theorem ws_X7_sleeper : Cond.selects yX7_sleeper.cls yX7_sleeper yX7_sleeper ∈ mj_gT := mj_gT_of (List.mem_of_getElem? (i := 955) (by decide +kernel)) rfl
theorem wc_X7_sleeperOf : Cond.code yX7_sleeperOf cX7_sleeperOf 1 (some .int) ∈ mj_gT := mj_gT_of (List.mem_of_getElem? (i := 923) (by decide +kernel)) rfl
theorem wn_X7_sleeperOf : Cond.static yX7_sleeperOf ∈ mj_gT := mj_gT_of (List.mem_of_getElem? (i := 922) (by decide +kernel)) rfl
theorem wc_X7_slept : Cond.code yX7_slept cX7_slept 2 (some .int) ∈ mj_gT := mj_gT_of (List.mem_of_getElem? (i := 1048) (by decide +kernel)) rfl
theorem wn_X7_slept : Cond.instanceMethod yX7_slept ∈ mj_gT := mj_gT_of (List.mem_of_getElem? (i := 1046) (by decide +kernel)) rfl
theorem ws_X7_slept : Cond.selects yX7_slept.cls yX7_slept yX7_slept ∈ mj_gT := mj_gT_of (List.mem_of_getElem? (i := 1047) (by decide +kernel)) rfl
theorem wc_X7_spareAt : Cond.code yX7_spareAt cX7_spareAt 4 (some .int) ∈ mj_gT := mj_gT_of (List.mem_of_getElem? (i := 1040) (by decide +kernel)) rfl
theorem wn_X7_spareAt : Cond.instanceMethod yX7_spareAt ∈ mj_gT := mj_gT_of (List.mem_of_getElem? (i := 1039) (by decide +kernel)) rfl
theorem ws_X7_spareAt : Cond.selects yX7_spareAt.cls yX7_spareAt yX7_spareAt ∈ mj_gT := mj_gT_of (List.mem_of_getElem? (i := 72) (by decide +kernel)) rfl
theorem wc_X7_takes : Cond.code yX7_takes cX7_takes 2 (some .boolean) ∈ mj_gT := mj_gT_of (List.mem_of_getElem? (i := 938) (by decide +kernel)) rfl
theorem wn_X7_takes : Cond.instanceMethod yX7_takes ∈ mj_gT := mj_gT_of (List.mem_of_getElem? (i := 937) (by decide +kernel)) rfl
theorem ws_X7_takes : Cond.selects yX7_takes.cls yX7_takes yX7_takes ∈ mj_gT := mj_gT_of (List.mem_of_getElem? (i := 58) (by decide +kernel)) rfl
theorem wc_X7_task : Cond.code yX7_task cX7_task 3 (some .int) ∈ mj_gT := mj_gT_of (List.mem_of_getElem? (i := 976) (by decide +kernel)) rfl
theorem wn_X7_task : Cond.instanceMethod yX7_task ∈ mj_gT := mj_gT_of (List.mem_of_getElem? (i := 974) (by decide +kernel)) rfl
theorem ws_X7_task : Cond.selects yX7_task.cls yX7_task yX7_task ∈ mj_gT := mj_gT_of (List.mem_of_getElem? (i := 975) (by decide +kernel)) rfl
theorem wc_X7_tired : Cond.code yX7_tired cX7_tired 2 (some .int) ∈ mj_gT := mj_gT_of (List.mem_of_getElem? (i := 1004) (by decide +kernel)) rfl
theorem wn_X7_tired : Cond.instanceMethod yX7_tired ∈ mj_gT := mj_gT_of (List.mem_of_getElem? (i := 1002) (by decide +kernel)) rfl
theorem ws_X7_tired : Cond.selects yX7_tired.cls yX7_tired yX7_tired ∈ mj_gT := mj_gT_of (List.mem_of_getElem? (i := 1003) (by decide +kernel)) rfl
theorem wc_X7_tires : Cond.code yX7_tires cX7_tires 2 none ∈ mj_gT := mj_gT_of (List.mem_of_getElem? (i := 1125) (by decide +kernel)) rfl
theorem wn_X7_tires : Cond.instanceMethod yX7_tires ∈ mj_gT := mj_gT_of (List.mem_of_getElem? (i := 1124) (by decide +kernel)) rfl
theorem ws_X7_tires : Cond.selects yX7_tires.cls yX7_tires yX7_tires ∈ mj_gT := mj_gT_of (List.mem_of_getElem? (i := 79) (by decide +kernel)) rfl
theorem wc_X7_up : Cond.code yX7_up cX7_up 2 (some .int) ∈ mj_gT := mj_gT_of (List.mem_of_getElem? (i := 1016) (by decide +kernel)) rfl
theorem wn_X7_up : Cond.instanceMethod yX7_up ∈ mj_gT := mj_gT_of (List.mem_of_getElem? (i := 1014) (by decide +kernel)) rfl
theorem ws_X7_up : Cond.selects yX7_up.cls yX7_up yX7_up ∈ mj_gT := mj_gT_of (List.mem_of_getElem? (i := 1015) (by decide +kernel)) rfl
theorem wc_X7_value : Cond.code yX7_value cX7_value 2 (some .int) ∈ mj_gT := mj_gT_of (List.mem_of_getElem? (i := 1060) (by decide +kernel)) rfl
theorem wn_X7_value : Cond.instanceMethod yX7_value ∈ mj_gT := mj_gT_of (List.mem_of_getElem? (i := 1058) (by decide +kernel)) rfl
theorem ws_X7_value : Cond.selects yX7_value.cls yX7_value yX7_value ∈ mj_gT := mj_gT_of (List.mem_of_getElem? (i := 1059) (by decide +kernel)) rfl
theorem wc_X7_valueOf : Cond.code yX7_valueOf cX7_valueOf 3 (some .int) ∈ mj_gT := mj_gT_of (List.mem_of_getElem? (i := 1064) (by decide +kernel)) rfl
theorem wn_X7_valueOf : Cond.instanceMethod yX7_valueOf ∈ mj_gT := mj_gT_of (List.mem_of_getElem? (i := 1063) (by decide +kernel)) rfl
theorem ws_X7_valueOf : Cond.selects yX7_valueOf.cls yX7_valueOf yX7_valueOf ∈ mj_gT := mj_gT_of (List.mem_of_getElem? (i := 74) (by decide +kernel)) rfl
theorem wc_X7_wakes : Cond.code yX7_wakes cX7_wakes 5 (some .boolean) ∈ mj_gT := mj_gT_of (List.mem_of_getElem? (i := 1028) (by decide +kernel)) rfl
theorem wn_X7_wakes : Cond.instanceMethod yX7_wakes ∈ mj_gT := mj_gT_of (List.mem_of_getElem? (i := 1027) (by decide +kernel)) rfl
theorem ws_X7_wakes : Cond.selects yX7_wakes.cls yX7_wakes yX7_wakes ∈ mj_gT := mj_gT_of (List.mem_of_getElem? (i := 69) (by decide +kernel)) rfl
theorem wc_X7_week : Cond.code yX7_week cX7_week 8 (some .int) ∈ mj_gT := mj_gT_of (List.mem_of_getElem? (i := 1129) (by decide +kernel)) rfl
theorem wn_X7_week : Cond.instanceMethod yX7_week ∈ mj_gT := mj_gT_of (List.mem_of_getElem? (i := 1127) (by decide +kernel)) rfl
theorem ws_X7_week : Cond.selects yX7_week.cls yX7_week yX7_week ∈ mj_gT := mj_gT_of (List.mem_of_getElem? (i := 1128) (by decide +kernel)) rfl
theorem wc_X7_within : Cond.code yX7_within cX7_within 3 (some .int) ∈ mj_gT := mj_gT_of (List.mem_of_getElem? (i := 900) (by decide +kernel)) rfl
theorem wn_X7_within : Cond.static yX7_within ∈ mj_gT := mj_gT_of (List.mem_of_getElem? (i := 899) (by decide +kernel)) rfl
theorem wc_X7_wrongDay : Cond.code yX7_wrongDay cX7_wrongDay 6 (some .int) ∈ mj_gT := mj_gT_of (List.mem_of_getElem? (i := 1141) (by decide +kernel)) rfl
theorem wn_X7_wrongDay : Cond.instanceMethod yX7_wrongDay ∈ mj_gT := mj_gT_of (List.mem_of_getElem? (i := 1140) (by decide +kernel)) rfl
theorem ws_X7_wrongDay : Cond.selects yX7_wrongDay.cls yX7_wrongDay yX7_wrongDay ∈ mj_gT := mj_gT_of (List.mem_of_getElem? (i := 80) (by decide +kernel)) rfl
theorem wi_X0 : Cond.initialized RX0 ∈ mj_gT := mj_gT_of (List.mem_of_getElem? (i := 85) (by decide +kernel)) rfl
theorem wi_X1 : Cond.initialized RX1 ∈ mj_gT := mj_gT_of (List.mem_of_getElem? (i := 87) (by decide +kernel)) rfl
theorem wi_X2 : Cond.initialized RX2 ∈ mj_gT := mj_gT_of (List.mem_of_getElem? (i := 83) (by decide +kernel)) rfl
theorem wi_X3 : Cond.initialized RX3 ∈ mj_gT := mj_gT_of (List.mem_of_getElem? (i := 84) (by decide +kernel)) rfl
theorem wi_X4 : Cond.initialized RX4 ∈ mj_gT := mj_gT_of (List.mem_of_getElem? (i := 86) (by decide +kernel)) rfl
theorem wi_X5 : Cond.initialized RX5 ∈ mj_gT := mj_gT_of (List.mem_of_getElem? (i := 88) (by decide +kernel)) rfl
theorem wi_X6 : Cond.initialized RX6 ∈ mj_gT := mj_gT_of (List.mem_of_getElem? (i := 82) (by decide +kernel)) rfl
theorem wi_X7 : Cond.initialized RX7 ∈ mj_gT := mj_gT_of (List.mem_of_getElem? (i := 89) (by decide +kernel)) rfl
theorem wl_6_51 : Cond.methodLink (mj_on 6) 51 yX6_outside ∈ mj_gT := mj_gT_of (List.mem_of_getElem? (i := 310) (by decide +kernel)) rfl
theorem wl_6_55 : Cond.methodLinkNest (mj_on 6) 55 yX5_isFull RX6 ∈ mj_nw := mj_nw_of (List.mem_of_getElem? (i := 313) (by decide +kernel)) rfl
theorem wl_6_59 : Cond.methodLink (mj_on 6) 59 yX6_refuse ∈ mj_gT := mj_gT_of (List.mem_of_getElem? (i := 317) (by decide +kernel)) rfl
theorem wl_6_63 : Cond.methodLinkNest (mj_on 6) 63 yX5_add RX6 ∈ mj_nw := mj_nw_of (List.mem_of_getElem? (i := 321) (by decide +kernel)) rfl
theorem wl_6_67 : Cond.methodLinkNest (mj_on 6) 67 yX2_copyFrom RX6 ∈ mj_nw := mj_nw_of (List.mem_of_getElem? (i := 330) (by decide +kernel)) rfl
theorem wl_6_71 : Cond.methodLinkNest (mj_on 6) 71 yX5_tellInto RX6 ∈ mj_nw := mj_nw_of (List.mem_of_getElem? (i := 346) (by decide +kernel)) rfl
theorem wl_6_75 : Cond.methodLinkNest (mj_on 6) 75 yX5_forget RX6 ∈ mj_nw := mj_nw_of (List.mem_of_getElem? (i := 565) (by decide +kernel)) rfl
theorem wl_6_78 : Cond.methodLink (mj_on 6) 78 yX6_noSleeper ∈ mj_gT := mj_gT_of (List.mem_of_getElem? (i := 574) (by decide +kernel)) rfl
theorem wl_6_81 : Cond.methodLink (mj_on 6) 81 yX6_otherThan ∈ mj_gT := mj_gT_of (List.mem_of_getElem? (i := 578) (by decide +kernel)) rfl
theorem wl_6_85 : Cond.methodLink (mj_on 6) 85 yX6_first ∈ mj_gT := mj_gT_of (List.mem_of_getElem? (i := 581) (by decide +kernel)) rfl
theorem wl_6_92 : Cond.methodLinkNest (mj_on 6) 92 yX3_partOf RX6 ∈ mj_nw := mj_nw_of (List.mem_of_getElem? (i := 584) (by decide +kernel)) rfl
theorem wl_6_97 : Cond.methodLink (mj_on 6) 97 yX6_noClock ∈ mj_gT := mj_gT_of (List.mem_of_getElem? (i := 592) (by decide +kernel)) rfl
theorem wl_6_104 : Cond.methodLinkNest (mj_on 6) 104 yX0_partOf RX6 ∈ mj_nw := mj_nw_of (List.mem_of_getElem? (i := 596) (by decide +kernel)) rfl
theorem wl_6_107 : Cond.methodLink (mj_on 6) 107 yX6_noTask ∈ mj_gT := mj_gT_of (List.mem_of_getElem? (i := 604) (by decide +kernel)) rfl
theorem wl_6_114 : Cond.methodLinkNest (mj_on 6) 114 yX4_partOf RX6 ∈ mj_nw := mj_nw_of (List.mem_of_getElem? (i := 608) (by decide +kernel)) rfl
theorem wl_6_117 : Cond.methodLinkNest (mj_on 6) 117 yX0_put RX6 ∈ mj_nw := mj_nw_of (List.mem_of_getElem? (i := 616) (by decide +kernel)) rfl
theorem wl_6_132 : Cond.methodLinkNest (mj_on 6) 132 yX1_live RX6 ∈ mj_nw := mj_nw_of (List.mem_of_getElem? (i := 641) (by decide +kernel)) rfl
theorem wl_6_139 : Cond.methodLinkNest (mj_on 6) 139 yX2_passDay RX6 ∈ mj_nw := mj_nw_of (List.mem_of_getElem? (i := 684) (by decide +kernel)) rfl
theorem wl_6_146 : Cond.methodLinkNest (mj_on 6) 146 yX2_depthOf RX6 ∈ mj_nw := mj_nw_of (List.mem_of_getElem? (i := 694) (by decide +kernel)) rfl
theorem wl_6_155 : Cond.methodLinkNest (mj_on 6) 155 yX2_doneBits RX6 ∈ mj_nw := mj_nw_of (List.mem_of_getElem? (i := 711) (by decide +kernel)) rfl
theorem wl_6_158 : Cond.methodLinkNest (mj_on 6) 158 yX2_sumOf RX6 ∈ mj_nw := mj_nw_of (List.mem_of_getElem? (i := 716) (by decide +kernel)) rfl
theorem wl_6_161 : Cond.methodLink (mj_on 6) 161 yX6_refuseValue ∈ mj_gT := mj_gT_of (List.mem_of_getElem? (i := 721) (by decide +kernel)) rfl
theorem wl_6_164 : Cond.methodLink (mj_on 6) 164 yX6_valueOf ∈ mj_gT := mj_gT_of (List.mem_of_getElem? (i := 726) (by decide +kernel)) rfl
theorem wl_6_168 : Cond.methodLinkNest (mj_on 6) 168 yX2_worthDone RX6 ∈ mj_nw := mj_nw_of (List.mem_of_getElem? (i := 730) (by decide +kernel)) rfl
theorem wl_6_171 : Cond.methodLink (mj_on 6) 171 yX6_bestOf ∈ mj_gT := mj_gT_of (List.mem_of_getElem? (i := 743) (by decide +kernel)) rfl
theorem wl_6_181 : Cond.methodLink (mj_on 6) 181 yX6_heardBy ∈ mj_gT := mj_gT_of (List.mem_of_getElem? (i := 755) (by decide +kernel)) rfl
theorem wl_6_190 : Cond.methodLink (mj_on 6) 190 yX6_firstWrong ∈ mj_gT := mj_gT_of (List.mem_of_getElem? (i := 791) (by decide +kernel)) rfl
theorem wl_6_193 : Cond.methodLink (mj_on 6) 193 yX6_drawSets ∈ mj_gT := mj_gT_of (List.mem_of_getElem? (i := 807) (by decide +kernel)) rfl
theorem wl_6_202 : Cond.methodLink (mj_on 6) 202 yX6_refusalsOf ∈ mj_gT := mj_gT_of (List.mem_of_getElem? (i := 826) (by decide +kernel)) rfl
theorem wl_0_34 : Cond.methodLinkNest (mj_on 0) 34 yX6_areWithin RX6 ∈ mj_nw := mj_nw_of (List.mem_of_getElem? (i := 534) (by decide +kernel)) rfl
theorem wl_0_38 : Cond.methodLink (mj_on 0) 38 yX0_partOf ∈ mj_gT := mj_gT_of (List.mem_of_getElem? (i := 620) (by decide +kernel)) rfl
theorem wl_1_39 : Cond.methodLink (mj_on 1) 39 yX1_fallAsleep ∈ mj_gT := mj_gT_of (List.mem_of_getElem? (i := 645) (by decide +kernel)) rfl
theorem wl_1_43 : Cond.methodLink (mj_on 1) 43 yX1_firstToRing ∈ mj_gT := mj_gT_of (List.mem_of_getElem? (i := 654) (by decide +kernel)) rfl
theorem wl_1_51 : Cond.methodLinkNest (mj_on 1) 51 yX2_depthOf RX6 ∈ mj_nw := mj_nw_of (List.mem_of_getElem? (i := 658) (by decide +kernel)) rfl
theorem wl_1_55 : Cond.methodLinkNest (mj_on 1) 55 yX0_wakes RX6 ∈ mj_nw := mj_nw_of (List.mem_of_getElem? (i := 667) (by decide +kernel)) rfl
theorem wl_1_61 : Cond.methodLink (mj_on 1) 61 yX1_ring ∈ mj_gT := mj_gT_of (List.mem_of_getElem? (i := 671) (by decide +kernel)) rfl
theorem wl_1_65 : Cond.methodLinkNest (mj_on 1) 65 yX0_gap RX6 ∈ mj_nw := mj_nw_of (List.mem_of_getElem? (i := 679) (by decide +kernel)) rfl
theorem wl_1_81 : Cond.methodLinkNest (mj_on 1) 81 yX2_sumOf RX6 ∈ mj_nw := mj_nw_of (List.mem_of_getElem? (i := 649) (by decide +kernel)) rfl
theorem wl_1_96 : Cond.methodLinkNest (mj_on 1) 96 yX0_mayPress RX6 ∈ mj_nw := mj_nw_of (List.mem_of_getElem? (i := 675) (by decide +kernel)) rfl
theorem wl_2_54 : Cond.methodLinkNest (mj_on 2) 54 yX3_copyFrom RX6 ∈ mj_nw := mj_nw_of (List.mem_of_getElem? (i := 334) (by decide +kernel)) rfl
theorem wl_2_58 : Cond.methodLinkNest (mj_on 2) 58 yX0_copyFrom RX6 ∈ mj_nw := mj_nw_of (List.mem_of_getElem? (i := 338) (by decide +kernel)) rfl
theorem wl_2_61 : Cond.methodLinkNest (mj_on 2) 61 yX4_copyFrom RX6 ∈ mj_nw := mj_nw_of (List.mem_of_getElem? (i := 342) (by decide +kernel)) rfl
theorem wl_2_64 : Cond.methodLink (mj_on 2) 64 yX2_takeSleeper ∈ mj_gT := mj_gT_of (List.mem_of_getElem? (i := 507) (by decide +kernel)) rfl
theorem wl_2_68 : Cond.methodLink (mj_on 2) 68 yX2_takeClock ∈ mj_gT := mj_gT_of (List.mem_of_getElem? (i := 522) (by decide +kernel)) rfl
theorem wl_2_71 : Cond.methodLink (mj_on 2) 71 yX2_takeTask ∈ mj_gT := mj_gT_of (List.mem_of_getElem? (i := 535) (by decide +kernel)) rfl
theorem wl_2_74 : Cond.methodLink (mj_on 2) 74 yX2_takeBus ∈ mj_gT := mj_gT_of (List.mem_of_getElem? (i := 548) (by decide +kernel)) rfl
theorem wl_2_77 : Cond.methodLink (mj_on 2) 77 yX2_takeFirm ∈ mj_gT := mj_gT_of (List.mem_of_getElem? (i := 557) (by decide +kernel)) rfl
theorem wl_2_80 : Cond.methodLinkNest (mj_on 2) 80 yX3_beAs RX6 ∈ mj_nw := mj_nw_of (List.mem_of_getElem? (i := 511) (by decide +kernel)) rfl
theorem wl_2_83 : Cond.methodLinkNest (mj_on 2) 83 yX0_beAs RX6 ∈ mj_nw := mj_nw_of (List.mem_of_getElem? (i := 526) (by decide +kernel)) rfl
theorem wl_2_87 : Cond.methodLinkNest (mj_on 2) 87 yX4_beAs RX6 ∈ mj_nw := mj_nw_of (List.mem_of_getElem? (i := 539) (by decide +kernel)) rfl
theorem wl_2_95 : Cond.methodLinkNest (mj_on 2) 95 yX6_areWithin RX6 ∈ mj_nw := mj_nw_of (List.mem_of_getElem? (i := 556) (by decide +kernel)) rfl
theorem wl_2_105 : Cond.methodLinkNest (mj_on 2) 105 yX3_depthAt RX6 ∈ mj_nw := mj_nw_of (List.mem_of_getElem? (i := 662) (by decide +kernel)) rfl
theorem wl_2_109 : Cond.methodLinkNest (mj_on 2) 109 yX4_partOf RX6 ∈ mj_nw := mj_nw_of (List.mem_of_getElem? (i := 653) (by decide +kernel)) rfl
theorem wl_2_113 : Cond.methodLink (mj_on 2) 113 yX2_sumOf ∈ mj_gT := mj_gT_of (List.mem_of_getElem? (i := 715) (by decide +kernel)) rfl
theorem wl_2_117 : Cond.methodLink (mj_on 2) 117 yX2_doneBits ∈ mj_gT := mj_gT_of (List.mem_of_getElem? (i := 734) (by decide +kernel)) rfl
theorem wl_3_31 : Cond.methodLinkNest (mj_on 3) 31 yX6_areWithin RX6 ∈ mj_nw := mj_nw_of (List.mem_of_getElem? (i := 519) (by decide +kernel)) rfl
theorem wl_4_25 : Cond.methodLinkNest (mj_on 4) 25 yX6_areWithin RX6 ∈ mj_nw := mj_nw_of (List.mem_of_getElem? (i := 547) (by decide +kernel)) rfl
theorem wl_5_29 : Cond.methodLink (mj_on 5) 29 yX5_isFull ∈ mj_gT := mj_gT_of (List.mem_of_getElem? (i := 325) (by decide +kernel)) rfl
theorem wl_5_33 : Cond.methodLink (mj_on 5) 33 yX5_readStatement ∈ mj_gT := mj_gT_of (List.mem_of_getElem? (i := 350) (by decide +kernel)) rfl
theorem wl_5_36 : Cond.methodLink (mj_on 5) 36 yX5_letterAt ∈ mj_gT := mj_gT_of (List.mem_of_getElem? (i := 354) (by decide +kernel)) rfl
theorem wl_5_40 : Cond.methodLinkNest (mj_on 5) 40 yX2_take RX6 ∈ mj_nw := mj_nw_of (List.mem_of_getElem? (i := 503) (by decide +kernel)) rfl
theorem wl_5_46 : Cond.methodLink (mj_on 5) 46 yX5_formOf ∈ mj_gT := mj_gT_of (List.mem_of_getElem? (i := 358) (by decide +kernel)) rfl
theorem wl_5_62 : Cond.methodLink (mj_on 5) 62 yX5_readPart ∈ mj_gT := mj_gT_of (List.mem_of_getElem? (i := 419) (by decide +kernel)) rfl
theorem wl_5_80 : Cond.methodLink (mj_on 5) 80 yX5_readKind ∈ mj_gT := mj_gT_of (List.mem_of_getElem? (i := 424) (by decide +kernel)) rfl
theorem wl_5_86 : Cond.methodLink (mj_on 5) 86 yX5_readNumber ∈ mj_gT := mj_gT_of (List.mem_of_getElem? (i := 492) (by decide +kernel)) rfl
theorem wl_5_90 : Cond.methodLink (mj_on 5) 90 yX5_readSign ∈ mj_gT := mj_gT_of (List.mem_of_getElem? (i := 499) (by decide +kernel)) rfl
theorem wl_5_96 : Cond.methodLink (mj_on 5) 96 yX5_keep ∈ mj_gT := mj_gT_of (List.mem_of_getElem? (i := 487) (by decide +kernel)) rfl
theorem wl_5_100 : Cond.methodLink (mj_on 5) 100 yX5_isDigit ∈ mj_gT := mj_gT_of (List.mem_of_getElem? (i := 496) (by decide +kernel)) rfl
theorem wl_8_13 : Cond.methodLink (mj_on 8) 13 yX6_letter ∈ mj_gT := mj_gT_of (List.mem_of_getElem? (i := 306) (by decide +kernel)) rfl
theorem wl_8_17 : Cond.methodLink (mj_on 8) 17 yX7_letter ∈ mj_gT := mj_gT_of (List.mem_of_getElem? (i := 894) (by decide +kernel)) rfl
theorem wl_8_18 : Cond.methodLink (mj_on 8) 18 yX6_room ∈ mj_gT := mj_gT_of (List.mem_of_getElem? (i := 326) (by decide +kernel)) rfl
theorem wl_8_22 : Cond.methodLink (mj_on 8) 22 yX7_room ∈ mj_gT := mj_gT_of (List.mem_of_getElem? (i := 905) (by decide +kernel)) rfl
theorem wl_8_23 : Cond.methodLink (mj_on 8) 23 yX6_sleeper ∈ mj_gT := mj_gT_of (List.mem_of_getElem? (i := 570) (by decide +kernel)) rfl
theorem wl_8_27 : Cond.methodLink (mj_on 8) 27 yX7_sleeper ∈ mj_gT := mj_gT_of (List.mem_of_getElem? (i := 953) (by decide +kernel)) rfl
theorem wl_8_28 : Cond.methodLink (mj_on 8) 28 yX6_clock ∈ mj_gT := mj_gT_of (List.mem_of_getElem? (i := 588) (by decide +kernel)) rfl
theorem wl_8_31 : Cond.methodLink (mj_on 8) 31 yX7_clock ∈ mj_gT := mj_gT_of (List.mem_of_getElem? (i := 961) (by decide +kernel)) rfl
theorem wl_8_32 : Cond.methodLink (mj_on 8) 32 yX6_task ∈ mj_gT := mj_gT_of (List.mem_of_getElem? (i := 600) (by decide +kernel)) rfl
theorem wl_8_35 : Cond.methodLink (mj_on 8) 35 yX7_task ∈ mj_gT := mj_gT_of (List.mem_of_getElem? (i := 973) (by decide +kernel)) rfl
theorem wl_8_36 : Cond.methodLink (mj_on 8) 36 yX6_set ∈ mj_gT := mj_gT_of (List.mem_of_getElem? (i := 612) (by decide +kernel)) rfl
theorem wl_8_39 : Cond.methodLink (mj_on 8) 39 yX7_set ∈ mj_gT := mj_gT_of (List.mem_of_getElem? (i := 981) (by decide +kernel)) rfl
theorem wl_8_40 : Cond.methodLink (mj_on 8) 40 yX6_every ∈ mj_gT := mj_gT_of (List.mem_of_getElem? (i := 621) (by decide +kernel)) rfl
theorem wl_8_43 : Cond.methodLink (mj_on 8) 43 yX7_every ∈ mj_gT := mj_gT_of (List.mem_of_getElem? (i := 989) (by decide +kernel)) rfl
theorem wl_8_44 : Cond.methodLink (mj_on 8) 44 yX6_firm ∈ mj_gT := mj_gT_of (List.mem_of_getElem? (i := 625) (by decide +kernel)) rfl
theorem wl_8_47 : Cond.methodLink (mj_on 8) 47 yX7_firm ∈ mj_gT := mj_gT_of (List.mem_of_getElem? (i := 993) (by decide +kernel)) rfl
theorem wl_8_48 : Cond.methodLink (mj_on 8) 48 yX6_bus ∈ mj_gT := mj_gT_of (List.mem_of_getElem? (i := 629) (by decide +kernel)) rfl
theorem wl_8_51 : Cond.methodLink (mj_on 8) 51 yX7_bus ∈ mj_gT := mj_gT_of (List.mem_of_getElem? (i := 997) (by decide +kernel)) rfl
theorem wl_8_52 : Cond.methodLink (mj_on 8) 52 yX6_tired ∈ mj_gT := mj_gT_of (List.mem_of_getElem? (i := 633) (by decide +kernel)) rfl
theorem wl_8_55 : Cond.methodLink (mj_on 8) 55 yX7_tired ∈ mj_gT := mj_gT_of (List.mem_of_getElem? (i := 1001) (by decide +kernel)) rfl
theorem wl_8_56 : Cond.methodLink (mj_on 8) 56 yX6_night ∈ mj_gT := mj_gT_of (List.mem_of_getElem? (i := 637) (by decide +kernel)) rfl
theorem wl_8_59 : Cond.methodLink (mj_on 8) 59 yX7_night ∈ mj_gT := mj_gT_of (List.mem_of_getElem? (i := 1118) (by decide +kernel)) rfl
theorem wl_8_60 : Cond.methodLink (mj_on 8) 60 yX6_depth ∈ mj_gT := mj_gT_of (List.mem_of_getElem? (i := 690) (by decide +kernel)) rfl
theorem wl_8_63 : Cond.methodLink (mj_on 8) 63 yX7_depth ∈ mj_gT := mj_gT_of (List.mem_of_getElem? (i := 1005) (by decide +kernel)) rfl
theorem wl_8_64 : Cond.methodLink (mj_on 8) 64 yX6_up ∈ mj_gT := mj_gT_of (List.mem_of_getElem? (i := 695) (by decide +kernel)) rfl
theorem wl_8_67 : Cond.methodLink (mj_on 8) 67 yX7_up ∈ mj_gT := mj_gT_of (List.mem_of_getElem? (i := 1013) (by decide +kernel)) rfl
theorem wl_8_68 : Cond.methodLink (mj_on 8) 68 yX6_presses ∈ mj_gT := mj_gT_of (List.mem_of_getElem? (i := 699) (by decide +kernel)) rfl
theorem wl_8_71 : Cond.methodLink (mj_on 8) 71 yX7_presses ∈ mj_gT := mj_gT_of (List.mem_of_getElem? (i := 1041) (by decide +kernel)) rfl
theorem wl_8_72 : Cond.methodLink (mj_on 8) 72 yX6_slept ∈ mj_gT := mj_gT_of (List.mem_of_getElem? (i := 703) (by decide +kernel)) rfl
theorem wl_8_75 : Cond.methodLink (mj_on 8) 75 yX7_slept ∈ mj_gT := mj_gT_of (List.mem_of_getElem? (i := 1045) (by decide +kernel)) rfl
theorem wl_8_76 : Cond.methodLink (mj_on 8) 76 yX6_done ∈ mj_gT := mj_gT_of (List.mem_of_getElem? (i := 707) (by decide +kernel)) rfl
theorem wl_8_79 : Cond.methodLink (mj_on 8) 79 yX7_done ∈ mj_gT := mj_gT_of (List.mem_of_getElem? (i := 1049) (by decide +kernel)) rfl
theorem wl_8_80 : Cond.methodLink (mj_on 8) 80 yX6_value ∈ mj_gT := mj_gT_of (List.mem_of_getElem? (i := 717) (by decide +kernel)) rfl
theorem wl_8_83 : Cond.methodLink (mj_on 8) 83 yX7_value ∈ mj_gT := mj_gT_of (List.mem_of_getElem? (i := 1057) (by decide +kernel)) rfl
theorem wl_8_84 : Cond.methodLink (mj_on 8) 84 yX6_cost ∈ mj_gT := mj_gT_of (List.mem_of_getElem? (i := 735) (by decide +kernel)) rfl
theorem wl_8_87 : Cond.methodLink (mj_on 8) 87 yX7_cost ∈ mj_gT := mj_gT_of (List.mem_of_getElem? (i := 1070) (by decide +kernel)) rfl
theorem wl_8_88 : Cond.methodLink (mj_on 8) 88 yX6_evening ∈ mj_gT := mj_gT_of (List.mem_of_getElem? (i := 739) (by decide +kernel)) rfl
theorem wl_8_91 : Cond.methodLink (mj_on 8) 91 yX7_evening ∈ mj_gT := mj_gT_of (List.mem_of_getElem? (i := 1074) (by decide +kernel)) rfl
theorem wl_8_92 : Cond.methodLink (mj_on 8) 92 yX6_often ∈ mj_gT := mj_gT_of (List.mem_of_getElem? (i := 747) (by decide +kernel)) rfl
theorem wl_8_95 : Cond.methodLink (mj_on 8) 95 yX7_often ∈ mj_gT := mj_gT_of (List.mem_of_getElem? (i := 1086) (by decide +kernel)) rfl
theorem wl_8_96 : Cond.methodLink (mj_on 8) 96 yX6_hears ∈ mj_gT := mj_gT_of (List.mem_of_getElem? (i := 751) (by decide +kernel)) rfl
theorem wl_8_99 : Cond.methodLink (mj_on 8) 99 yX7_hears ∈ mj_gT := mj_gT_of (List.mem_of_getElem? (i := 1090) (by decide +kernel)) rfl
theorem wl_8_100 : Cond.methodLink (mj_on 8) 100 yX6_silent ∈ mj_gT := mj_gT_of (List.mem_of_getElem? (i := 759) (by decide +kernel)) rfl
theorem wl_8_103 : Cond.methodLink (mj_on 8) 103 yX7_silent ∈ mj_gT := mj_gT_of (List.mem_of_getElem? (i := 1098) (by decide +kernel)) rfl
theorem wl_8_104 : Cond.methodLink (mj_on 8) 104 yX6_bet ∈ mj_gT := mj_gT_of (List.mem_of_getElem? (i := 763) (by decide +kernel)) rfl
theorem wl_8_107 : Cond.methodLink (mj_on 8) 107 yX7_bet ∈ mj_gT := mj_gT_of (List.mem_of_getElem? (i := 1102) (by decide +kernel)) rfl
theorem wl_8_108 : Cond.methodLink (mj_on 8) 108 yX6_leans ∈ mj_gT := mj_gT_of (List.mem_of_getElem? (i := 767) (by decide +kernel)) rfl
theorem wl_8_111 : Cond.methodLink (mj_on 8) 111 yX7_leans ∈ mj_gT := mj_gT_of (List.mem_of_getElem? (i := 1106) (by decide +kernel)) rfl
theorem wl_8_112 : Cond.methodLink (mj_on 8) 112 yX6_back ∈ mj_gT := mj_gT_of (List.mem_of_getElem? (i := 771) (by decide +kernel)) rfl
theorem wl_8_115 : Cond.methodLink (mj_on 8) 115 yX7_back ∈ mj_gT := mj_gT_of (List.mem_of_getElem? (i := 1110) (by decide +kernel)) rfl
theorem wl_8_116 : Cond.methodLink (mj_on 8) 116 yX6_moment ∈ mj_gT := mj_gT_of (List.mem_of_getElem? (i := 775) (by decide +kernel)) rfl
theorem wl_8_120 : Cond.methodLink (mj_on 8) 120 yX7_moment ∈ mj_gT := mj_gT_of (List.mem_of_getElem? (i := 1114) (by decide +kernel)) rfl
theorem wl_8_121 : Cond.methodLink (mj_on 8) 121 yX6_week ∈ mj_gT := mj_gT_of (List.mem_of_getElem? (i := 779) (by decide +kernel)) rfl
theorem wl_8_124 : Cond.methodLink (mj_on 8) 124 yX7_week ∈ mj_gT := mj_gT_of (List.mem_of_getElem? (i := 1126) (by decide +kernel)) rfl
theorem wl_8_125 : Cond.methodLink (mj_on 8) 125 yX6_row ∈ mj_gT := mj_gT_of (List.mem_of_getElem? (i := 783) (by decide +kernel)) rfl
theorem wl_8_128 : Cond.methodLink (mj_on 8) 128 yX7_row ∈ mj_gT := mj_gT_of (List.mem_of_getElem? (i := 1130) (by decide +kernel)) rfl
theorem wl_8_129 : Cond.methodLink (mj_on 8) 129 yX6_judge ∈ mj_gT := mj_gT_of (List.mem_of_getElem? (i := 787) (by decide +kernel)) rfl
theorem wl_8_132 : Cond.methodLink (mj_on 8) 132 yX7_judge ∈ mj_gT := mj_gT_of (List.mem_of_getElem? (i := 1134) (by decide +kernel)) rfl
theorem wl_8_133 : Cond.methodLink (mj_on 8) 133 yX6_firms ∈ mj_gT := mj_gT_of (List.mem_of_getElem? (i := 795) (by decide +kernel)) rfl
theorem wl_8_136 : Cond.methodLink (mj_on 8) 136 yX7_firms ∈ mj_gT := mj_gT_of (List.mem_of_getElem? (i := 1142) (by decide +kernel)) rfl
theorem wl_8_137 : Cond.methodLink (mj_on 8) 137 yX6_clear ∈ mj_gT := mj_gT_of (List.mem_of_getElem? (i := 799) (by decide +kernel)) rfl
theorem wl_8_140 : Cond.methodLink (mj_on 8) 140 yX7_clear ∈ mj_gT := mj_gT_of (List.mem_of_getElem? (i := 1146) (by decide +kernel)) rfl
theorem wl_8_141 : Cond.methodLink (mj_on 8) 141 yX6_lots ∈ mj_gT := mj_gT_of (List.mem_of_getElem? (i := 803) (by decide +kernel)) rfl
theorem wl_8_144 : Cond.methodLink (mj_on 8) 144 yX7_lots ∈ mj_gT := mj_gT_of (List.mem_of_getElem? (i := 1150) (by decide +kernel)) rfl
theorem wl_8_145 : Cond.methodLink (mj_on 8) 145 yX6_image ∈ mj_gT := mj_gT_of (List.mem_of_getElem? (i := 814) (by decide +kernel)) rfl
theorem wl_8_148 : Cond.methodLink (mj_on 8) 148 yX7_image ∈ mj_gT := mj_gT_of (List.mem_of_getElem? (i := 1157) (by decide +kernel)) rfl
theorem wl_8_149 : Cond.methodLink (mj_on 8) 149 yX6_on ∈ mj_gT := mj_gT_of (List.mem_of_getElem? (i := 818) (by decide +kernel)) rfl
theorem wl_8_152 : Cond.methodLink (mj_on 8) 152 yX7_on ∈ mj_gT := mj_gT_of (List.mem_of_getElem? (i := 1161) (by decide +kernel)) rfl
theorem wl_8_153 : Cond.methodLink (mj_on 8) 153 yX6_count ∈ mj_gT := mj_gT_of (List.mem_of_getElem? (i := 822) (by decide +kernel)) rfl
theorem wl_8_156 : Cond.methodLink (mj_on 8) 156 yX7_count ∈ mj_gT := mj_gT_of (List.mem_of_getElem? (i := 1165) (by decide +kernel)) rfl
theorem wl_7_41 : Cond.methodLink (mj_on 7) 41 yX7_refuse ∈ mj_gT := mj_gT_of (List.mem_of_getElem? (i := 901) (by decide +kernel)) rfl
theorem wl_7_45 : Cond.methodLink (mj_on 7) 45 yX7_lays ∈ mj_gT := mj_gT_of (List.mem_of_getElem? (i := 942) (by decide +kernel)) rfl
theorem wl_7_49 : Cond.methodLink (mj_on 7) 49 yX7_isIn ∈ mj_gT := mj_gT_of (List.mem_of_getElem? (i := 932) (by decide +kernel)) rfl
theorem wl_7_53 : Cond.methodLink (mj_on 7) 53 yX7_within ∈ mj_gT := mj_gT_of (List.mem_of_getElem? (i := 898) (by decide +kernel)) rfl
theorem wl_7_64 : Cond.methodLink (mj_on 7) 64 yX7_sign ∈ mj_gT := mj_gT_of (List.mem_of_getElem? (i := 917) (by decide +kernel)) rfl
theorem wl_7_68 : Cond.methodLink (mj_on 7) 68 yX7_sleeperOf ∈ mj_gT := mj_gT_of (List.mem_of_getElem? (i := 921) (by decide +kernel)) rfl
theorem wl_7_71 : Cond.methodLink (mj_on 7) 71 yX7_readsKind ∈ mj_gT := mj_gT_of (List.mem_of_getElem? (i := 924) (by decide +kernel)) rfl
theorem wl_7_75 : Cond.methodLink (mj_on 7) 75 yX7_readsNumber ∈ mj_gT := mj_gT_of (List.mem_of_getElem? (i := 928) (by decide +kernel)) rfl
theorem wl_7_79 : Cond.methodLink (mj_on 7) 79 yX7_takes ∈ mj_gT := mj_gT_of (List.mem_of_getElem? (i := 935) (by decide +kernel)) rfl
theorem wl_7_82 : Cond.methodLink (mj_on 7) 82 yX7_clockOf ∈ mj_gT := mj_gT_of (List.mem_of_getElem? (i := 939) (by decide +kernel)) rfl
theorem wl_7_85 : Cond.methodLink (mj_on 7) 85 yX7_isSleeper ∈ mj_gT := mj_gT_of (List.mem_of_getElem? (i := 949) (by decide +kernel)) rfl
theorem wl_7_88 : Cond.methodLink (mj_on 7) 88 yX7_readsStatement ∈ mj_gT := mj_gT_of (List.mem_of_getElem? (i := 913) (by decide +kernel)) rfl
theorem wl_7_92 : Cond.methodLink (mj_on 7) 92 yX7_comes ∈ mj_gT := mj_gT_of (List.mem_of_getElem? (i := 945) (by decide +kernel)) rfl
theorem wl_7_95 : Cond.methodLink (mj_on 7) 95 yX7_reads ∈ mj_gT := mj_gT_of (List.mem_of_getElem? (i := 909) (by decide +kernel)) rfl
theorem wl_7_98 : Cond.methodLink (mj_on 7) 98 yX7_get ∈ mj_gT := mj_gT_of (List.mem_of_getElem? (i := 957) (by decide +kernel)) rfl
theorem wl_7_102 : Cond.methodLink (mj_on 7) 102 yX7_isClock ∈ mj_gT := mj_gT_of (List.mem_of_getElem? (i := 965) (by decide +kernel)) rfl
theorem wl_7_105 : Cond.methodLink (mj_on 7) 105 yX7_at ∈ mj_gT := mj_gT_of (List.mem_of_getElem? (i := 969) (by decide +kernel)) rfl
theorem wl_7_108 : Cond.methodLink (mj_on 7) 108 yX7_of ∈ mj_gT := mj_gT_of (List.mem_of_getElem? (i := 977) (by decide +kernel)) rfl
theorem wl_7_111 : Cond.methodLink (mj_on 7) 111 yX7_changes ∈ mj_gT := mj_gT_of (List.mem_of_getElem? (i := 985) (by decide +kernel)) rfl
theorem wl_7_114 : Cond.methodLink (mj_on 7) 114 yX7_depthOf ∈ mj_gT := mj_gT_of (List.mem_of_getElem? (i := 1009) (by decide +kernel)) rfl
theorem wl_7_129 : Cond.methodLink (mj_on 7) 129 yX7_wakes ∈ mj_gT := mj_gT_of (List.mem_of_getElem? (i := 1025) (by decide +kernel)) rfl
theorem wl_7_132 : Cond.methodLink (mj_on 7) 132 yX7_later ∈ mj_gT := mj_gT_of (List.mem_of_getElem? (i := 1029) (by decide +kernel)) rfl
theorem wl_7_135 : Cond.methodLink (mj_on 7) 135 yX7_mayPress ∈ mj_gT := mj_gT_of (List.mem_of_getElem? (i := 1033) (by decide +kernel)) rfl
theorem wl_7_138 : Cond.methodLink (mj_on 7) 138 yX7_spareAt ∈ mj_gT := mj_gT_of (List.mem_of_getElem? (i := 1037) (by decide +kernel)) rfl
theorem wl_7_141 : Cond.methodLink (mj_on 7) 141 yX7_morningOf ∈ mj_gT := mj_gT_of (List.mem_of_getElem? (i := 1021) (by decide +kernel)) rfl
theorem wl_7_145 : Cond.methodLink (mj_on 7) 145 yX7_morning ∈ mj_gT := mj_gT_of (List.mem_of_getElem? (i := 1017) (by decide +kernel)) rfl
theorem wl_7_152 : Cond.methodLink (mj_on 7) 152 yX7_doneAt ∈ mj_gT := mj_gT_of (List.mem_of_getElem? (i := 1053) (by decide +kernel)) rfl
theorem wl_7_155 : Cond.methodLink (mj_on 7) 155 yX7_valueOf ∈ mj_gT := mj_gT_of (List.mem_of_getElem? (i := 1061) (by decide +kernel)) rfl
theorem wl_7_158 : Cond.methodLink (mj_on 7) 158 yX7_refuseFar ∈ mj_gT := mj_gT_of (List.mem_of_getElem? (i := 1065) (by decide +kernel)) rfl
theorem wl_7_161 : Cond.methodLink (mj_on 7) 161 yX7_begins ∈ mj_gT := mj_gT_of (List.mem_of_getElem? (i := 1078) (by decide +kernel)) rfl
theorem wl_7_164 : Cond.methodLink (mj_on 7) 164 yX7_ends ∈ mj_gT := mj_gT_of (List.mem_of_getElem? (i := 1082) (by decide +kernel)) rfl
theorem wl_7_167 : Cond.methodLink (mj_on 7) 167 yX7_hearsBut ∈ mj_gT := mj_gT_of (List.mem_of_getElem? (i := 1094) (by decide +kernel)) rfl
theorem wl_7_170 : Cond.methodLink (mj_on 7) 170 yX7_tires ∈ mj_gT := mj_gT_of (List.mem_of_getElem? (i := 1122) (by decide +kernel)) rfl
theorem wl_7_176 : Cond.methodLink (mj_on 7) 176 yX7_wrongDay ∈ mj_gT := mj_gT_of (List.mem_of_getElem? (i := 1138) (by decide +kernel)) rfl
