section
-- ===== PART A: goes FIRST, ahead of the names: the tables' words, and 'selects' of the private methods out of them =====
/-- a private method of a class that the tables say can be made, by its rows of tables_1 -/
def lw_okq (q : MethodName × Nat) : Prop := (q.1.cls ≠ "java/lang/invoke/MethodHandle" ∧ q.1.cls ≠ "java/lang/invoke/VarHandle") ∧ Cond.instantiable q.1.cls q.2 ∈ tables_1 ∧ Cond.privateMethod q.1 ∈ tables_1 ∧ Cond.instanceMethod q.1 ∈ tables_1
theorem lw_p0 : lw_okq (⟨"NineMinutesMore$Text", "isFull", "()Z"⟩, 5) := ⟨⟨by decide +kernel, by decide +kernel⟩, List.mem_of_getElem? (i := 174) (by decide +kernel), List.mem_of_getElem? (i := 233) (by decide +kernel), List.mem_of_getElem? (i := 234) (by decide +kernel)⟩
theorem lw_p1 : lw_okq (⟨"NineMinutesMore", "refuse", "(I)I"⟩, 9) := ⟨⟨by decide +kernel, by decide +kernel⟩, List.mem_of_getElem? (i := 16) (by decide +kernel), List.mem_of_getElem? (i := 237) (by decide +kernel), List.mem_of_getElem? (i := 238) (by decide +kernel)⟩
theorem lw_p2 : lw_okq (⟨"NineMinutesMore$Text", "add", "(C)I"⟩, 5) := ⟨⟨by decide +kernel, by decide +kernel⟩, List.mem_of_getElem? (i := 174) (by decide +kernel), List.mem_of_getElem? (i := 241) (by decide +kernel), List.mem_of_getElem? (i := 242) (by decide +kernel)⟩
theorem lw_p3 : lw_okq (⟨"NineMinutesMore$Room", "copyFrom", "(LNineMinutesMore$Room;)V"⟩, 10) := ⟨⟨by decide +kernel, by decide +kernel⟩, List.mem_of_getElem? (i := 24) (by decide +kernel), List.mem_of_getElem? (i := 250) (by decide +kernel), List.mem_of_getElem? (i := 251) (by decide +kernel)⟩
theorem lw_p4 : lw_okq (⟨"NineMinutesMore$Sleeper", "copyFrom", "(LNineMinutesMore$Sleeper;)V"⟩, 4) := ⟨⟨by decide +kernel, by decide +kernel⟩, List.mem_of_getElem? (i := 35) (by decide +kernel), List.mem_of_getElem? (i := 254) (by decide +kernel), List.mem_of_getElem? (i := 255) (by decide +kernel)⟩
theorem lw_p5 : lw_okq (⟨"NineMinutesMore$Clock", "copyFrom", "(LNineMinutesMore$Clock;)V"⟩, 5) := ⟨⟨by decide +kernel, by decide +kernel⟩, List.mem_of_getElem? (i := 55) (by decide +kernel), List.mem_of_getElem? (i := 258) (by decide +kernel), List.mem_of_getElem? (i := 259) (by decide +kernel)⟩
theorem lw_p6 : lw_okq (⟨"NineMinutesMore$Task", "copyFrom", "(LNineMinutesMore$Task;)V"⟩, 2) := ⟨⟨by decide +kernel, by decide +kernel⟩, List.mem_of_getElem? (i := 81) (by decide +kernel), List.mem_of_getElem? (i := 262) (by decide +kernel), List.mem_of_getElem? (i := 263) (by decide +kernel)⟩
theorem lw_p7 : lw_okq (⟨"NineMinutesMore$Text", "tellInto", "(LNineMinutesMore$Room;)I"⟩, 5) := ⟨⟨by decide +kernel, by decide +kernel⟩, List.mem_of_getElem? (i := 174) (by decide +kernel), List.mem_of_getElem? (i := 266) (by decide +kernel), List.mem_of_getElem? (i := 267) (by decide +kernel)⟩
theorem lw_p8 : lw_okq (⟨"NineMinutesMore$Text", "readStatement", "()Z"⟩, 5) := ⟨⟨by decide +kernel, by decide +kernel⟩, List.mem_of_getElem? (i := 174) (by decide +kernel), List.mem_of_getElem? (i := 270) (by decide +kernel), List.mem_of_getElem? (i := 271) (by decide +kernel)⟩
theorem lw_p9 : lw_okq (⟨"NineMinutesMore$Text", "letterAt", "(I)I"⟩, 5) := ⟨⟨by decide +kernel, by decide +kernel⟩, List.mem_of_getElem? (i := 174) (by decide +kernel), List.mem_of_getElem? (i := 274) (by decide +kernel), List.mem_of_getElem? (i := 275) (by decide +kernel)⟩
theorem lw_p10 : lw_okq (⟨"NineMinutesMore$Text", "readPart", "(C)Z"⟩, 5) := ⟨⟨by decide +kernel, by decide +kernel⟩, List.mem_of_getElem? (i := 174) (by decide +kernel), List.mem_of_getElem? (i := 339) (by decide +kernel), List.mem_of_getElem? (i := 340) (by decide +kernel)⟩
theorem lw_p11 : lw_okq (⟨"NineMinutesMore$Text", "readKind", "(Ljava/lang/String;)Z"⟩, 5) := ⟨⟨by decide +kernel, by decide +kernel⟩, List.mem_of_getElem? (i := 174) (by decide +kernel), List.mem_of_getElem? (i := 344) (by decide +kernel), List.mem_of_getElem? (i := 345) (by decide +kernel)⟩
theorem lw_p12 : lw_okq (⟨"NineMinutesMore$Text", "keep", "(I)V"⟩, 5) := ⟨⟨by decide +kernel, by decide +kernel⟩, List.mem_of_getElem? (i := 174) (by decide +kernel), List.mem_of_getElem? (i := 407) (by decide +kernel), List.mem_of_getElem? (i := 408) (by decide +kernel)⟩
theorem lw_p13 : lw_okq (⟨"NineMinutesMore$Text", "readNumber", "(II)Z"⟩, 5) := ⟨⟨by decide +kernel, by decide +kernel⟩, List.mem_of_getElem? (i := 174) (by decide +kernel), List.mem_of_getElem? (i := 412) (by decide +kernel), List.mem_of_getElem? (i := 413) (by decide +kernel)⟩
theorem lw_p14 : lw_okq (⟨"NineMinutesMore$Text", "readSign", "(C)Z"⟩, 5) := ⟨⟨by decide +kernel, by decide +kernel⟩, List.mem_of_getElem? (i := 174) (by decide +kernel), List.mem_of_getElem? (i := 419) (by decide +kernel), List.mem_of_getElem? (i := 420) (by decide +kernel)⟩
theorem lw_p15 : lw_okq (⟨"NineMinutesMore$Room", "take", "(I[I)Z"⟩, 10) := ⟨⟨by decide +kernel, by decide +kernel⟩, List.mem_of_getElem? (i := 24) (by decide +kernel), List.mem_of_getElem? (i := 423) (by decide +kernel), List.mem_of_getElem? (i := 424) (by decide +kernel)⟩
def lw_privs_1 : List (MethodName × Nat) := [(⟨"NineMinutesMore$Text", "isFull", "()Z"⟩, 5), (⟨"NineMinutesMore", "refuse", "(I)I"⟩, 9), (⟨"NineMinutesMore$Text", "add", "(C)I"⟩, 5), (⟨"NineMinutesMore$Room", "copyFrom", "(LNineMinutesMore$Room;)V"⟩, 10), (⟨"NineMinutesMore$Sleeper", "copyFrom", "(LNineMinutesMore$Sleeper;)V"⟩, 4), (⟨"NineMinutesMore$Clock", "copyFrom", "(LNineMinutesMore$Clock;)V"⟩, 5), (⟨"NineMinutesMore$Task", "copyFrom", "(LNineMinutesMore$Task;)V"⟩, 2), (⟨"NineMinutesMore$Text", "tellInto", "(LNineMinutesMore$Room;)I"⟩, 5), (⟨"NineMinutesMore$Text", "readStatement", "()Z"⟩, 5), (⟨"NineMinutesMore$Text", "letterAt", "(I)I"⟩, 5), (⟨"NineMinutesMore$Text", "readPart", "(C)Z"⟩, 5), (⟨"NineMinutesMore$Text", "readKind", "(Ljava/lang/String;)Z"⟩, 5), (⟨"NineMinutesMore$Text", "keep", "(I)V"⟩, 5), (⟨"NineMinutesMore$Text", "readNumber", "(II)Z"⟩, 5), (⟨"NineMinutesMore$Text", "readSign", "(C)Z"⟩, 5), (⟨"NineMinutesMore$Room", "take", "(I[I)Z"⟩, 10)]
theorem lw_r1 : ∀ q ∈ lw_privs_1, lw_okq q := List.forall_mem_cons.mpr ⟨lw_p0, List.forall_mem_cons.mpr ⟨lw_p1, List.forall_mem_cons.mpr ⟨lw_p2, List.forall_mem_cons.mpr ⟨lw_p3, List.forall_mem_cons.mpr ⟨lw_p4, List.forall_mem_cons.mpr ⟨lw_p5, List.forall_mem_cons.mpr ⟨lw_p6, List.forall_mem_cons.mpr ⟨lw_p7, List.forall_mem_cons.mpr ⟨lw_p8, List.forall_mem_cons.mpr ⟨lw_p9, List.forall_mem_cons.mpr ⟨lw_p10, List.forall_mem_cons.mpr ⟨lw_p11, List.forall_mem_cons.mpr ⟨lw_p12, List.forall_mem_cons.mpr ⟨lw_p13, List.forall_mem_cons.mpr ⟨lw_p14, List.forall_mem_cons.mpr ⟨lw_p15, fun _ h => absurd h List.not_mem_nil⟩⟩⟩⟩⟩⟩⟩⟩⟩⟩⟩⟩⟩⟩⟩⟩
theorem lw_p16 : lw_okq (⟨"NineMinutesMore$Room", "takeSleeper", "([I)Z"⟩, 10) := ⟨⟨by decide +kernel, by decide +kernel⟩, List.mem_of_getElem? (i := 24) (by decide +kernel), List.mem_of_getElem? (i := 427) (by decide +kernel), List.mem_of_getElem? (i := 428) (by decide +kernel)⟩
theorem lw_p17 : lw_okq (⟨"NineMinutesMore$Sleeper", "beAs", "([I)Z"⟩, 4) := ⟨⟨by decide +kernel, by decide +kernel⟩, List.mem_of_getElem? (i := 35) (by decide +kernel), List.mem_of_getElem? (i := 431) (by decide +kernel), List.mem_of_getElem? (i := 432) (by decide +kernel)⟩
theorem lw_p18 : lw_okq (⟨"NineMinutesMore$Room", "takeClock", "([I)Z"⟩, 10) := ⟨⟨by decide +kernel, by decide +kernel⟩, List.mem_of_getElem? (i := 24) (by decide +kernel), List.mem_of_getElem? (i := 442) (by decide +kernel), List.mem_of_getElem? (i := 443) (by decide +kernel)⟩
theorem lw_p19 : lw_okq (⟨"NineMinutesMore$Clock", "beAs", "([I)Z"⟩, 5) := ⟨⟨by decide +kernel, by decide +kernel⟩, List.mem_of_getElem? (i := 55) (by decide +kernel), List.mem_of_getElem? (i := 446) (by decide +kernel), List.mem_of_getElem? (i := 447) (by decide +kernel)⟩
theorem lw_p20 : lw_okq (⟨"NineMinutesMore$Room", "takeTask", "([I)Z"⟩, 10) := ⟨⟨by decide +kernel, by decide +kernel⟩, List.mem_of_getElem? (i := 24) (by decide +kernel), List.mem_of_getElem? (i := 455) (by decide +kernel), List.mem_of_getElem? (i := 456) (by decide +kernel)⟩
theorem lw_p21 : lw_okq (⟨"NineMinutesMore$Task", "beAs", "([I)Z"⟩, 2) := ⟨⟨by decide +kernel, by decide +kernel⟩, List.mem_of_getElem? (i := 81) (by decide +kernel), List.mem_of_getElem? (i := 459) (by decide +kernel), List.mem_of_getElem? (i := 460) (by decide +kernel)⟩
theorem lw_p22 : lw_okq (⟨"NineMinutesMore$Room", "takeBus", "([I)Z"⟩, 10) := ⟨⟨by decide +kernel, by decide +kernel⟩, List.mem_of_getElem? (i := 24) (by decide +kernel), List.mem_of_getElem? (i := 468) (by decide +kernel), List.mem_of_getElem? (i := 469) (by decide +kernel)⟩
theorem lw_p23 : lw_okq (⟨"NineMinutesMore$Room", "takeFirm", "([I)Z"⟩, 10) := ⟨⟨by decide +kernel, by decide +kernel⟩, List.mem_of_getElem? (i := 24) (by decide +kernel), List.mem_of_getElem? (i := 477) (by decide +kernel), List.mem_of_getElem? (i := 478) (by decide +kernel)⟩
theorem lw_p24 : lw_okq (⟨"NineMinutesMore$Text", "forget", "()V"⟩, 5) := ⟨⟨by decide +kernel, by decide +kernel⟩, List.mem_of_getElem? (i := 174) (by decide +kernel), List.mem_of_getElem? (i := 485) (by decide +kernel), List.mem_of_getElem? (i := 486) (by decide +kernel)⟩
theorem lw_p25 : lw_okq (⟨"NineMinutesMore", "noSleeper", "(I)I"⟩, 9) := ⟨⟨by decide +kernel, by decide +kernel⟩, List.mem_of_getElem? (i := 16) (by decide +kernel), List.mem_of_getElem? (i := 494) (by decide +kernel), List.mem_of_getElem? (i := 495) (by decide +kernel)⟩
theorem lw_p26 : lw_okq (⟨"NineMinutesMore$Sleeper", "partOf", "(I)I"⟩, 4) := ⟨⟨by decide +kernel, by decide +kernel⟩, List.mem_of_getElem? (i := 35) (by decide +kernel), List.mem_of_getElem? (i := 504) (by decide +kernel), List.mem_of_getElem? (i := 505) (by decide +kernel)⟩
theorem lw_p27 : lw_okq (⟨"NineMinutesMore", "noClock", "(I)I"⟩, 9) := ⟨⟨by decide +kernel, by decide +kernel⟩, List.mem_of_getElem? (i := 16) (by decide +kernel), List.mem_of_getElem? (i := 512) (by decide +kernel), List.mem_of_getElem? (i := 513) (by decide +kernel)⟩
theorem lw_p28 : lw_okq (⟨"NineMinutesMore$Clock", "partOf", "(I)I"⟩, 5) := ⟨⟨by decide +kernel, by decide +kernel⟩, List.mem_of_getElem? (i := 55) (by decide +kernel), List.mem_of_getElem? (i := 516) (by decide +kernel), List.mem_of_getElem? (i := 517) (by decide +kernel)⟩
theorem lw_p29 : lw_okq (⟨"NineMinutesMore", "noTask", "(I)I"⟩, 9) := ⟨⟨by decide +kernel, by decide +kernel⟩, List.mem_of_getElem? (i := 16) (by decide +kernel), List.mem_of_getElem? (i := 524) (by decide +kernel), List.mem_of_getElem? (i := 525) (by decide +kernel)⟩
theorem lw_p30 : lw_okq (⟨"NineMinutesMore$Task", "partOf", "(I)I"⟩, 2) := ⟨⟨by decide +kernel, by decide +kernel⟩, List.mem_of_getElem? (i := 81) (by decide +kernel), List.mem_of_getElem? (i := 528) (by decide +kernel), List.mem_of_getElem? (i := 529) (by decide +kernel)⟩
theorem lw_p31 : lw_okq (⟨"NineMinutesMore$Clock", "put", "(II)I"⟩, 5) := ⟨⟨by decide +kernel, by decide +kernel⟩, List.mem_of_getElem? (i := 55) (by decide +kernel), List.mem_of_getElem? (i := 536) (by decide +kernel), List.mem_of_getElem? (i := 537) (by decide +kernel)⟩
def lw_privs_2 : List (MethodName × Nat) := [(⟨"NineMinutesMore$Room", "takeSleeper", "([I)Z"⟩, 10), (⟨"NineMinutesMore$Sleeper", "beAs", "([I)Z"⟩, 4), (⟨"NineMinutesMore$Room", "takeClock", "([I)Z"⟩, 10), (⟨"NineMinutesMore$Clock", "beAs", "([I)Z"⟩, 5), (⟨"NineMinutesMore$Room", "takeTask", "([I)Z"⟩, 10), (⟨"NineMinutesMore$Task", "beAs", "([I)Z"⟩, 2), (⟨"NineMinutesMore$Room", "takeBus", "([I)Z"⟩, 10), (⟨"NineMinutesMore$Room", "takeFirm", "([I)Z"⟩, 10), (⟨"NineMinutesMore$Text", "forget", "()V"⟩, 5), (⟨"NineMinutesMore", "noSleeper", "(I)I"⟩, 9), (⟨"NineMinutesMore$Sleeper", "partOf", "(I)I"⟩, 4), (⟨"NineMinutesMore", "noClock", "(I)I"⟩, 9), (⟨"NineMinutesMore$Clock", "partOf", "(I)I"⟩, 5), (⟨"NineMinutesMore", "noTask", "(I)I"⟩, 9), (⟨"NineMinutesMore$Task", "partOf", "(I)I"⟩, 2), (⟨"NineMinutesMore$Clock", "put", "(II)I"⟩, 5)]
theorem lw_r2 : ∀ q ∈ lw_privs_2, lw_okq q := List.forall_mem_cons.mpr ⟨lw_p16, List.forall_mem_cons.mpr ⟨lw_p17, List.forall_mem_cons.mpr ⟨lw_p18, List.forall_mem_cons.mpr ⟨lw_p19, List.forall_mem_cons.mpr ⟨lw_p20, List.forall_mem_cons.mpr ⟨lw_p21, List.forall_mem_cons.mpr ⟨lw_p22, List.forall_mem_cons.mpr ⟨lw_p23, List.forall_mem_cons.mpr ⟨lw_p24, List.forall_mem_cons.mpr ⟨lw_p25, List.forall_mem_cons.mpr ⟨lw_p26, List.forall_mem_cons.mpr ⟨lw_p27, List.forall_mem_cons.mpr ⟨lw_p28, List.forall_mem_cons.mpr ⟨lw_p29, List.forall_mem_cons.mpr ⟨lw_p30, List.forall_mem_cons.mpr ⟨lw_p31, fun _ h => absurd h List.not_mem_nil⟩⟩⟩⟩⟩⟩⟩⟩⟩⟩⟩⟩⟩⟩⟩⟩
theorem lw_p32 : lw_okq (⟨"NineMinutesMore$Morning", "live", "(LNineMinutesMore$Room;II)V"⟩, 7) := ⟨⟨by decide +kernel, by decide +kernel⟩, List.mem_of_getElem? (i := 141) (by decide +kernel), List.mem_of_getElem? (i := 561) (by decide +kernel), List.mem_of_getElem? (i := 562) (by decide +kernel)⟩
theorem lw_p33 : lw_okq (⟨"NineMinutesMore$Morning", "fallAsleep", "(LNineMinutesMore$Room;I)V"⟩, 7) := ⟨⟨by decide +kernel, by decide +kernel⟩, List.mem_of_getElem? (i := 141) (by decide +kernel), List.mem_of_getElem? (i := 565) (by decide +kernel), List.mem_of_getElem? (i := 566) (by decide +kernel)⟩
theorem lw_p34 : lw_okq (⟨"NineMinutesMore$Room", "sumOf", "(II)I"⟩, 10) := ⟨⟨by decide +kernel, by decide +kernel⟩, List.mem_of_getElem? (i := 24) (by decide +kernel), List.mem_of_getElem? (i := 569) (by decide +kernel), List.mem_of_getElem? (i := 570) (by decide +kernel)⟩
theorem lw_p35 : lw_okq (⟨"NineMinutesMore$Morning", "firstToRing", "()I"⟩, 7) := ⟨⟨by decide +kernel, by decide +kernel⟩, List.mem_of_getElem? (i := 141) (by decide +kernel), List.mem_of_getElem? (i := 574) (by decide +kernel), List.mem_of_getElem? (i := 575) (by decide +kernel)⟩
theorem lw_p36 : lw_okq (⟨"NineMinutesMore$Room", "depthOf", "(II)I"⟩, 10) := ⟨⟨by decide +kernel, by decide +kernel⟩, List.mem_of_getElem? (i := 24) (by decide +kernel), List.mem_of_getElem? (i := 578) (by decide +kernel), List.mem_of_getElem? (i := 579) (by decide +kernel)⟩
theorem lw_p37 : lw_okq (⟨"NineMinutesMore$Sleeper", "depthAt", "(III)I"⟩, 4) := ⟨⟨by decide +kernel, by decide +kernel⟩, List.mem_of_getElem? (i := 35) (by decide +kernel), List.mem_of_getElem? (i := 582) (by decide +kernel), List.mem_of_getElem? (i := 583) (by decide +kernel)⟩
theorem lw_p38 : lw_okq (⟨"NineMinutesMore$Clock", "wakes", "(II)Z"⟩, 5) := ⟨⟨by decide +kernel, by decide +kernel⟩, List.mem_of_getElem? (i := 55) (by decide +kernel), List.mem_of_getElem? (i := 587) (by decide +kernel), List.mem_of_getElem? (i := 588) (by decide +kernel)⟩
theorem lw_p39 : lw_okq (⟨"NineMinutesMore$Morning", "ring", "(LNineMinutesMore$Clock;III)Z"⟩, 7) := ⟨⟨by decide +kernel, by decide +kernel⟩, List.mem_of_getElem? (i := 141) (by decide +kernel), List.mem_of_getElem? (i := 591) (by decide +kernel), List.mem_of_getElem? (i := 592) (by decide +kernel)⟩
theorem lw_p40 : lw_okq (⟨"NineMinutesMore$Clock", "mayPress", "(I)Z"⟩, 5) := ⟨⟨by decide +kernel, by decide +kernel⟩, List.mem_of_getElem? (i := 55) (by decide +kernel), List.mem_of_getElem? (i := 595) (by decide +kernel), List.mem_of_getElem? (i := 596) (by decide +kernel)⟩
theorem lw_p41 : lw_okq (⟨"NineMinutesMore$Clock", "gap", "(I)I"⟩, 5) := ⟨⟨by decide +kernel, by decide +kernel⟩, List.mem_of_getElem? (i := 55) (by decide +kernel), List.mem_of_getElem? (i := 599) (by decide +kernel), List.mem_of_getElem? (i := 600) (by decide +kernel)⟩
theorem lw_p42 : lw_okq (⟨"NineMinutesMore$Room", "passDay", "(I)V"⟩, 10) := ⟨⟨by decide +kernel, by decide +kernel⟩, List.mem_of_getElem? (i := 24) (by decide +kernel), List.mem_of_getElem? (i := 604) (by decide +kernel), List.mem_of_getElem? (i := 605) (by decide +kernel)⟩
theorem lw_p43 : lw_okq (⟨"NineMinutesMore$Room", "doneBits", "(I)I"⟩, 10) := ⟨⟨by decide +kernel, by decide +kernel⟩, List.mem_of_getElem? (i := 24) (by decide +kernel), List.mem_of_getElem? (i := 631) (by decide +kernel), List.mem_of_getElem? (i := 632) (by decide +kernel)⟩
theorem lw_p44 : lw_okq (⟨"NineMinutesMore", "refuseValue", "(I)I"⟩, 9) := ⟨⟨by decide +kernel, by decide +kernel⟩, List.mem_of_getElem? (i := 16) (by decide +kernel), List.mem_of_getElem? (i := 641) (by decide +kernel), List.mem_of_getElem? (i := 642) (by decide +kernel)⟩
theorem lw_p45 : lw_okq (⟨"NineMinutesMore", "valueOf", "(LNineMinutesMore$Room;I)I"⟩, 9) := ⟨⟨by decide +kernel, by decide +kernel⟩, List.mem_of_getElem? (i := 16) (by decide +kernel), List.mem_of_getElem? (i := 646) (by decide +kernel), List.mem_of_getElem? (i := 647) (by decide +kernel)⟩
theorem lw_p46 : lw_okq (⟨"NineMinutesMore$Room", "worthDone", "(I)I"⟩, 10) := ⟨⟨by decide +kernel, by decide +kernel⟩, List.mem_of_getElem? (i := 24) (by decide +kernel), List.mem_of_getElem? (i := 650) (by decide +kernel), List.mem_of_getElem? (i := 651) (by decide +kernel)⟩
theorem lw_p47 : lw_okq (⟨"NineMinutesMore", "bestOf", "(IIIIZ)I"⟩, 9) := ⟨⟨by decide +kernel, by decide +kernel⟩, List.mem_of_getElem? (i := 16) (by decide +kernel), List.mem_of_getElem? (i := 663) (by decide +kernel), List.mem_of_getElem? (i := 664) (by decide +kernel)⟩
def lw_privs_3 : List (MethodName × Nat) := [(⟨"NineMinutesMore$Morning", "live", "(LNineMinutesMore$Room;II)V"⟩, 7), (⟨"NineMinutesMore$Morning", "fallAsleep", "(LNineMinutesMore$Room;I)V"⟩, 7), (⟨"NineMinutesMore$Room", "sumOf", "(II)I"⟩, 10), (⟨"NineMinutesMore$Morning", "firstToRing", "()I"⟩, 7), (⟨"NineMinutesMore$Room", "depthOf", "(II)I"⟩, 10), (⟨"NineMinutesMore$Sleeper", "depthAt", "(III)I"⟩, 4), (⟨"NineMinutesMore$Clock", "wakes", "(II)Z"⟩, 5), (⟨"NineMinutesMore$Morning", "ring", "(LNineMinutesMore$Clock;III)Z"⟩, 7), (⟨"NineMinutesMore$Clock", "mayPress", "(I)Z"⟩, 5), (⟨"NineMinutesMore$Clock", "gap", "(I)I"⟩, 5), (⟨"NineMinutesMore$Room", "passDay", "(I)V"⟩, 10), (⟨"NineMinutesMore$Room", "doneBits", "(I)I"⟩, 10), (⟨"NineMinutesMore", "refuseValue", "(I)I"⟩, 9), (⟨"NineMinutesMore", "valueOf", "(LNineMinutesMore$Room;I)I"⟩, 9), (⟨"NineMinutesMore$Room", "worthDone", "(I)I"⟩, 10), (⟨"NineMinutesMore", "bestOf", "(IIIIZ)I"⟩, 9)]
theorem lw_r3 : ∀ q ∈ lw_privs_3, lw_okq q := List.forall_mem_cons.mpr ⟨lw_p32, List.forall_mem_cons.mpr ⟨lw_p33, List.forall_mem_cons.mpr ⟨lw_p34, List.forall_mem_cons.mpr ⟨lw_p35, List.forall_mem_cons.mpr ⟨lw_p36, List.forall_mem_cons.mpr ⟨lw_p37, List.forall_mem_cons.mpr ⟨lw_p38, List.forall_mem_cons.mpr ⟨lw_p39, List.forall_mem_cons.mpr ⟨lw_p40, List.forall_mem_cons.mpr ⟨lw_p41, List.forall_mem_cons.mpr ⟨lw_p42, List.forall_mem_cons.mpr ⟨lw_p43, List.forall_mem_cons.mpr ⟨lw_p44, List.forall_mem_cons.mpr ⟨lw_p45, List.forall_mem_cons.mpr ⟨lw_p46, List.forall_mem_cons.mpr ⟨lw_p47, fun _ h => absurd h List.not_mem_nil⟩⟩⟩⟩⟩⟩⟩⟩⟩⟩⟩⟩⟩⟩⟩⟩
theorem lw_p48 : lw_okq (⟨"NineMinutesMore", "heardBy", "(LNineMinutesMore$Room;I)I"⟩, 9) := ⟨⟨by decide +kernel, by decide +kernel⟩, List.mem_of_getElem? (i := 16) (by decide +kernel), List.mem_of_getElem? (i := 675) (by decide +kernel), List.mem_of_getElem? (i := 676) (by decide +kernel)⟩
theorem lw_p49 : lw_okq (⟨"NineMinutesMore", "firstWrong", "(I)I"⟩, 9) := ⟨⟨by decide +kernel, by decide +kernel⟩, List.mem_of_getElem? (i := 16) (by decide +kernel), List.mem_of_getElem? (i := 711) (by decide +kernel), List.mem_of_getElem? (i := 712) (by decide +kernel)⟩
theorem lw_p50 : lw_okq (⟨"NineMinutesMore", "drawSets", "(II)I"⟩, 9) := ⟨⟨by decide +kernel, by decide +kernel⟩, List.mem_of_getElem? (i := 16) (by decide +kernel), List.mem_of_getElem? (i := 727) (by decide +kernel), List.mem_of_getElem? (i := 728) (by decide +kernel)⟩
theorem lw_p51 : lw_okq (⟨"NineMinutesMore", "refusalsOf", "(I)I"⟩, 9) := ⟨⟨by decide +kernel, by decide +kernel⟩, List.mem_of_getElem? (i := 16) (by decide +kernel), List.mem_of_getElem? (i := 746) (by decide +kernel), List.mem_of_getElem? (i := 747) (by decide +kernel)⟩
theorem lw_p52 : lw_okq (⟨"NineMinutesMoreModel", "refuse", "(I)I"⟩, 19) := ⟨⟨by decide +kernel, by decide +kernel⟩, List.mem_of_getElem? (i := 750) (by decide +kernel), List.mem_of_getElem? (i := 821) (by decide +kernel), List.mem_of_getElem? (i := 822) (by decide +kernel)⟩
theorem lw_p53 : lw_okq (⟨"NineMinutesMoreModel", "reads", "()I"⟩, 19) := ⟨⟨by decide +kernel, by decide +kernel⟩, List.mem_of_getElem? (i := 750) (by decide +kernel), List.mem_of_getElem? (i := 829) (by decide +kernel), List.mem_of_getElem? (i := 830) (by decide +kernel)⟩
theorem lw_p54 : lw_okq (⟨"NineMinutesMoreModel", "readsStatement", "()Z"⟩, 19) := ⟨⟨by decide +kernel, by decide +kernel⟩, List.mem_of_getElem? (i := 750) (by decide +kernel), List.mem_of_getElem? (i := 833) (by decide +kernel), List.mem_of_getElem? (i := 834) (by decide +kernel)⟩
theorem lw_p55 : lw_okq (⟨"NineMinutesMoreModel", "sign", "()I"⟩, 19) := ⟨⟨by decide +kernel, by decide +kernel⟩, List.mem_of_getElem? (i := 750) (by decide +kernel), List.mem_of_getElem? (i := 837) (by decide +kernel), List.mem_of_getElem? (i := 838) (by decide +kernel)⟩
theorem lw_p56 : lw_okq (⟨"NineMinutesMoreModel", "readsKind", "(I)Z"⟩, 19) := ⟨⟨by decide +kernel, by decide +kernel⟩, List.mem_of_getElem? (i := 750) (by decide +kernel), List.mem_of_getElem? (i := 844) (by decide +kernel), List.mem_of_getElem? (i := 845) (by decide +kernel)⟩
theorem lw_p57 : lw_okq (⟨"NineMinutesMoreModel", "readsNumber", "(III)Z"⟩, 19) := ⟨⟨by decide +kernel, by decide +kernel⟩, List.mem_of_getElem? (i := 750) (by decide +kernel), List.mem_of_getElem? (i := 848) (by decide +kernel), List.mem_of_getElem? (i := 849) (by decide +kernel)⟩
theorem lw_p58 : lw_okq (⟨"NineMinutesMoreModel", "takes", "(I)Z"⟩, 19) := ⟨⟨by decide +kernel, by decide +kernel⟩, List.mem_of_getElem? (i := 750) (by decide +kernel), List.mem_of_getElem? (i := 855) (by decide +kernel), List.mem_of_getElem? (i := 856) (by decide +kernel)⟩
theorem lw_p59 : lw_okq (⟨"NineMinutesMoreModel", "comes", "(I)Z"⟩, 19) := ⟨⟨by decide +kernel, by decide +kernel⟩, List.mem_of_getElem? (i := 750) (by decide +kernel), List.mem_of_getElem? (i := 865) (by decide +kernel), List.mem_of_getElem? (i := 866) (by decide +kernel)⟩
theorem lw_p60 : lw_okq (⟨"NineMinutesMoreModel", "isSleeper", "(I)Z"⟩, 19) := ⟨⟨by decide +kernel, by decide +kernel⟩, List.mem_of_getElem? (i := 750) (by decide +kernel), List.mem_of_getElem? (i := 869) (by decide +kernel), List.mem_of_getElem? (i := 870) (by decide +kernel)⟩
theorem lw_p61 : lw_okq (⟨"NineMinutesMoreModel", "get", "(II)I"⟩, 19) := ⟨⟨by decide +kernel, by decide +kernel⟩, List.mem_of_getElem? (i := 750) (by decide +kernel), List.mem_of_getElem? (i := 877) (by decide +kernel), List.mem_of_getElem? (i := 878) (by decide +kernel)⟩
theorem lw_p62 : lw_okq (⟨"NineMinutesMoreModel", "isClock", "(I)Z"⟩, 19) := ⟨⟨by decide +kernel, by decide +kernel⟩, List.mem_of_getElem? (i := 750) (by decide +kernel), List.mem_of_getElem? (i := 885) (by decide +kernel), List.mem_of_getElem? (i := 886) (by decide +kernel)⟩
theorem lw_p63 : lw_okq (⟨"NineMinutesMoreModel", "at", "(II)I"⟩, 19) := ⟨⟨by decide +kernel, by decide +kernel⟩, List.mem_of_getElem? (i := 750) (by decide +kernel), List.mem_of_getElem? (i := 889) (by decide +kernel), List.mem_of_getElem? (i := 890) (by decide +kernel)⟩
def lw_privs_4 : List (MethodName × Nat) := [(⟨"NineMinutesMore", "heardBy", "(LNineMinutesMore$Room;I)I"⟩, 9), (⟨"NineMinutesMore", "firstWrong", "(I)I"⟩, 9), (⟨"NineMinutesMore", "drawSets", "(II)I"⟩, 9), (⟨"NineMinutesMore", "refusalsOf", "(I)I"⟩, 9), (⟨"NineMinutesMoreModel", "refuse", "(I)I"⟩, 19), (⟨"NineMinutesMoreModel", "reads", "()I"⟩, 19), (⟨"NineMinutesMoreModel", "readsStatement", "()Z"⟩, 19), (⟨"NineMinutesMoreModel", "sign", "()I"⟩, 19), (⟨"NineMinutesMoreModel", "readsKind", "(I)Z"⟩, 19), (⟨"NineMinutesMoreModel", "readsNumber", "(III)Z"⟩, 19), (⟨"NineMinutesMoreModel", "takes", "(I)Z"⟩, 19), (⟨"NineMinutesMoreModel", "comes", "(I)Z"⟩, 19), (⟨"NineMinutesMoreModel", "isSleeper", "(I)Z"⟩, 19), (⟨"NineMinutesMoreModel", "get", "(II)I"⟩, 19), (⟨"NineMinutesMoreModel", "isClock", "(I)Z"⟩, 19), (⟨"NineMinutesMoreModel", "at", "(II)I"⟩, 19)]
theorem lw_r4 : ∀ q ∈ lw_privs_4, lw_okq q := List.forall_mem_cons.mpr ⟨lw_p48, List.forall_mem_cons.mpr ⟨lw_p49, List.forall_mem_cons.mpr ⟨lw_p50, List.forall_mem_cons.mpr ⟨lw_p51, List.forall_mem_cons.mpr ⟨lw_p52, List.forall_mem_cons.mpr ⟨lw_p53, List.forall_mem_cons.mpr ⟨lw_p54, List.forall_mem_cons.mpr ⟨lw_p55, List.forall_mem_cons.mpr ⟨lw_p56, List.forall_mem_cons.mpr ⟨lw_p57, List.forall_mem_cons.mpr ⟨lw_p58, List.forall_mem_cons.mpr ⟨lw_p59, List.forall_mem_cons.mpr ⟨lw_p60, List.forall_mem_cons.mpr ⟨lw_p61, List.forall_mem_cons.mpr ⟨lw_p62, List.forall_mem_cons.mpr ⟨lw_p63, fun _ h => absurd h List.not_mem_nil⟩⟩⟩⟩⟩⟩⟩⟩⟩⟩⟩⟩⟩⟩⟩⟩
theorem lw_p64 : lw_okq (⟨"NineMinutesMoreModel", "of", "(II)I"⟩, 19) := ⟨⟨by decide +kernel, by decide +kernel⟩, List.mem_of_getElem? (i := 750) (by decide +kernel), List.mem_of_getElem? (i := 897) (by decide +kernel), List.mem_of_getElem? (i := 898) (by decide +kernel)⟩
theorem lw_p65 : lw_okq (⟨"NineMinutesMoreModel", "changes", "(III)I"⟩, 19) := ⟨⟨by decide +kernel, by decide +kernel⟩, List.mem_of_getElem? (i := 750) (by decide +kernel), List.mem_of_getElem? (i := 905) (by decide +kernel), List.mem_of_getElem? (i := 906) (by decide +kernel)⟩
theorem lw_p66 : lw_okq (⟨"NineMinutesMoreModel", "depthOf", "(II)I"⟩, 19) := ⟨⟨by decide +kernel, by decide +kernel⟩, List.mem_of_getElem? (i := 750) (by decide +kernel), List.mem_of_getElem? (i := 929) (by decide +kernel), List.mem_of_getElem? (i := 930) (by decide +kernel)⟩
theorem lw_p67 : lw_okq (⟨"NineMinutesMoreModel", "morning", "(I)V"⟩, 19) := ⟨⟨by decide +kernel, by decide +kernel⟩, List.mem_of_getElem? (i := 750) (by decide +kernel), List.mem_of_getElem? (i := 937) (by decide +kernel), List.mem_of_getElem? (i := 938) (by decide +kernel)⟩
theorem lw_p68 : lw_okq (⟨"NineMinutesMoreModel", "morningOf", "(III)V"⟩, 19) := ⟨⟨by decide +kernel, by decide +kernel⟩, List.mem_of_getElem? (i := 750) (by decide +kernel), List.mem_of_getElem? (i := 941) (by decide +kernel), List.mem_of_getElem? (i := 942) (by decide +kernel)⟩
theorem lw_p69 : lw_okq (⟨"NineMinutesMoreModel", "wakes", "(III)Z"⟩, 19) := ⟨⟨by decide +kernel, by decide +kernel⟩, List.mem_of_getElem? (i := 750) (by decide +kernel), List.mem_of_getElem? (i := 945) (by decide +kernel), List.mem_of_getElem? (i := 946) (by decide +kernel)⟩
theorem lw_p70 : lw_okq (⟨"NineMinutesMoreModel", "later", "(II)I"⟩, 19) := ⟨⟨by decide +kernel, by decide +kernel⟩, List.mem_of_getElem? (i := 750) (by decide +kernel), List.mem_of_getElem? (i := 949) (by decide +kernel), List.mem_of_getElem? (i := 950) (by decide +kernel)⟩
theorem lw_p71 : lw_okq (⟨"NineMinutesMoreModel", "mayPress", "(II)Z"⟩, 19) := ⟨⟨by decide +kernel, by decide +kernel⟩, List.mem_of_getElem? (i := 750) (by decide +kernel), List.mem_of_getElem? (i := 953) (by decide +kernel), List.mem_of_getElem? (i := 954) (by decide +kernel)⟩
theorem lw_p72 : lw_okq (⟨"NineMinutesMoreModel", "spareAt", "(I)I"⟩, 19) := ⟨⟨by decide +kernel, by decide +kernel⟩, List.mem_of_getElem? (i := 750) (by decide +kernel), List.mem_of_getElem? (i := 957) (by decide +kernel), List.mem_of_getElem? (i := 958) (by decide +kernel)⟩
theorem lw_p73 : lw_okq (⟨"NineMinutesMoreModel", "doneAt", "(I)I"⟩, 19) := ⟨⟨by decide +kernel, by decide +kernel⟩, List.mem_of_getElem? (i := 750) (by decide +kernel), List.mem_of_getElem? (i := 973) (by decide +kernel), List.mem_of_getElem? (i := 974) (by decide +kernel)⟩
theorem lw_p74 : lw_okq (⟨"NineMinutesMoreModel", "valueOf", "(I)I"⟩, 19) := ⟨⟨by decide +kernel, by decide +kernel⟩, List.mem_of_getElem? (i := 750) (by decide +kernel), List.mem_of_getElem? (i := 981) (by decide +kernel), List.mem_of_getElem? (i := 982) (by decide +kernel)⟩
theorem lw_p75 : lw_okq (⟨"NineMinutesMoreModel", "refuseFar", "(I)I"⟩, 19) := ⟨⟨by decide +kernel, by decide +kernel⟩, List.mem_of_getElem? (i := 750) (by decide +kernel), List.mem_of_getElem? (i := 985) (by decide +kernel), List.mem_of_getElem? (i := 986) (by decide +kernel)⟩
theorem lw_p76 : lw_okq (⟨"NineMinutesMoreModel", "begins", "()V"⟩, 19) := ⟨⟨by decide +kernel, by decide +kernel⟩, List.mem_of_getElem? (i := 750) (by decide +kernel), List.mem_of_getElem? (i := 998) (by decide +kernel), List.mem_of_getElem? (i := 999) (by decide +kernel)⟩
theorem lw_p77 : lw_okq (⟨"NineMinutesMoreModel", "ends", "()V"⟩, 19) := ⟨⟨by decide +kernel, by decide +kernel⟩, List.mem_of_getElem? (i := 750) (by decide +kernel), List.mem_of_getElem? (i := 1002) (by decide +kernel), List.mem_of_getElem? (i := 1003) (by decide +kernel)⟩
theorem lw_p78 : lw_okq (⟨"NineMinutesMoreModel", "hearsBut", "(II)I"⟩, 19) := ⟨⟨by decide +kernel, by decide +kernel⟩, List.mem_of_getElem? (i := 750) (by decide +kernel), List.mem_of_getElem? (i := 1014) (by decide +kernel), List.mem_of_getElem? (i := 1015) (by decide +kernel)⟩
theorem lw_p79 : lw_okq (⟨"NineMinutesMoreModel", "tires", "()V"⟩, 19) := ⟨⟨by decide +kernel, by decide +kernel⟩, List.mem_of_getElem? (i := 750) (by decide +kernel), List.mem_of_getElem? (i := 1042) (by decide +kernel), List.mem_of_getElem? (i := 1043) (by decide +kernel)⟩
def lw_privs_5 : List (MethodName × Nat) := [(⟨"NineMinutesMoreModel", "of", "(II)I"⟩, 19), (⟨"NineMinutesMoreModel", "changes", "(III)I"⟩, 19), (⟨"NineMinutesMoreModel", "depthOf", "(II)I"⟩, 19), (⟨"NineMinutesMoreModel", "morning", "(I)V"⟩, 19), (⟨"NineMinutesMoreModel", "morningOf", "(III)V"⟩, 19), (⟨"NineMinutesMoreModel", "wakes", "(III)Z"⟩, 19), (⟨"NineMinutesMoreModel", "later", "(II)I"⟩, 19), (⟨"NineMinutesMoreModel", "mayPress", "(II)Z"⟩, 19), (⟨"NineMinutesMoreModel", "spareAt", "(I)I"⟩, 19), (⟨"NineMinutesMoreModel", "doneAt", "(I)I"⟩, 19), (⟨"NineMinutesMoreModel", "valueOf", "(I)I"⟩, 19), (⟨"NineMinutesMoreModel", "refuseFar", "(I)I"⟩, 19), (⟨"NineMinutesMoreModel", "begins", "()V"⟩, 19), (⟨"NineMinutesMoreModel", "ends", "()V"⟩, 19), (⟨"NineMinutesMoreModel", "hearsBut", "(II)I"⟩, 19), (⟨"NineMinutesMoreModel", "tires", "()V"⟩, 19)]
theorem lw_r5 : ∀ q ∈ lw_privs_5, lw_okq q := List.forall_mem_cons.mpr ⟨lw_p64, List.forall_mem_cons.mpr ⟨lw_p65, List.forall_mem_cons.mpr ⟨lw_p66, List.forall_mem_cons.mpr ⟨lw_p67, List.forall_mem_cons.mpr ⟨lw_p68, List.forall_mem_cons.mpr ⟨lw_p69, List.forall_mem_cons.mpr ⟨lw_p70, List.forall_mem_cons.mpr ⟨lw_p71, List.forall_mem_cons.mpr ⟨lw_p72, List.forall_mem_cons.mpr ⟨lw_p73, List.forall_mem_cons.mpr ⟨lw_p74, List.forall_mem_cons.mpr ⟨lw_p75, List.forall_mem_cons.mpr ⟨lw_p76, List.forall_mem_cons.mpr ⟨lw_p77, List.forall_mem_cons.mpr ⟨lw_p78, List.forall_mem_cons.mpr ⟨lw_p79, fun _ h => absurd h List.not_mem_nil⟩⟩⟩⟩⟩⟩⟩⟩⟩⟩⟩⟩⟩⟩⟩⟩
theorem lw_p80 : lw_okq (⟨"NineMinutesMoreModel", "wrongDay", "(I)I"⟩, 19) := ⟨⟨by decide +kernel, by decide +kernel⟩, List.mem_of_getElem? (i := 750) (by decide +kernel), List.mem_of_getElem? (i := 1058) (by decide +kernel), List.mem_of_getElem? (i := 1059) (by decide +kernel)⟩
def lw_privs_6 : List (MethodName × Nat) := [(⟨"NineMinutesMoreModel", "wrongDay", "(I)I"⟩, 19)]
theorem lw_r6 : ∀ q ∈ lw_privs_6, lw_okq q := List.forall_mem_cons.mpr ⟨lw_p80, fun _ h => absurd h List.not_mem_nil⟩
def lw_privs : List (MethodName × Nat) := lw_privs_1 ++ (lw_privs_2 ++ (lw_privs_3 ++ (lw_privs_4 ++ (lw_privs_5 ++ (lw_privs_6)))))
def lw_tbl : List Cond := k2_sels lw_privs ++ tables_1
theorem lw_privs_ok : ∀ q ∈ lw_privs, lw_okq q := by
  show ∀ q ∈ lw_privs_1 ++ (lw_privs_2 ++ (lw_privs_3 ++ (lw_privs_4 ++ (lw_privs_5 ++ (lw_privs_6))))), lw_okq q
  exact List.forall_mem_append.mpr ⟨lw_r1, List.forall_mem_append.mpr ⟨lw_r2, List.forall_mem_append.mpr ⟨lw_r3, List.forall_mem_append.mpr ⟨lw_r4, List.forall_mem_append.mpr ⟨lw_r5, lw_r6⟩⟩⟩⟩⟩
-- ===== end of PART A; then your names; then what follows =====
end
section
def RX0 : String := "NineMinutesMore$Clock"
def TX0 : u_T := fun k => match k with
  | 0 => ("NineMinutesMore$Clock", "kind", "I", false)
  | 1 => ("NineMinutesMore$Clock", "owner", "I", false)
  | 2 => ("NineMinutesMore$Clock", "set", "I", false)
  | 3 => ("NineMinutesMore$Clock", "every", "I", false)
  | _ => ("NineMinutesMore$Clock", "loud", "I", false)
def tyX0 : Nat → FieldType := fun k => match k with
  | 0 => .int
  | 1 => .int
  | 2 => .int
  | 3 => .int
  | _ => .int
abbrev wsX00 : List Cond := u_ws RX0 TX0 5
theorem nmX0 : ∀ a, a < 5 → ∀ b, b < 5 → a ≠ b → (TX0 a).2.1 ≠ (TX0 b).2.1 := by decide +kernel
theorem tyX0_ok : ∀ k, k < 5 → parseFieldDescriptor (TX0 k).2.2.1 = some (tyX0 k) := by decide +kernel
abbrev cX0_init : ByteArray := prog_2_method_1_code
def yX0_init : MethodName := ⟨RX0, "<init>", "()V"⟩
abbrev cX0_copyFrom : ByteArray := prog_2_method_2_code
def yX0_copyFrom : MethodName := ⟨RX0, "copyFrom", "(LNineMinutesMore$Clock;)V"⟩
abbrev cX0_beAs : ByteArray := prog_2_method_3_code
def yX0_beAs : MethodName := ⟨RX0, "beAs", "([I)Z"⟩
abbrev cX0_partOf : ByteArray := prog_2_method_4_code
def yX0_partOf : MethodName := ⟨RX0, "partOf", "(I)I"⟩
abbrev cX0_put : ByteArray := prog_2_method_5_code
def yX0_put : MethodName := ⟨RX0, "put", "(II)I"⟩
abbrev cX0_wakes : ByteArray := prog_2_method_6_code
def yX0_wakes : MethodName := ⟨RX0, "wakes", "(II)Z"⟩
abbrev cX0_mayPress : ByteArray := prog_2_method_7_code
def yX0_mayPress : MethodName := ⟨RX0, "mayPress", "(I)Z"⟩
abbrev cX0_gap : ByteArray := prog_2_method_8_code
def yX0_gap : MethodName := ⟨RX0, "gap", "(I)I"⟩
def RX1 : String := "NineMinutesMore$Morning"
def TX1 : u_T := fun k => match k with
  | 0 => ("NineMinutesMore$Morning", "next", "[I", true)
  | 1 => ("NineMinutesMore$Morning", "pressedOf", "[I", true)
  | 2 => ("NineMinutesMore$Morning", "ease", "I", false)
  | 3 => ("NineMinutesMore$Morning", "upAt", "I", false)
  | 4 => ("NineMinutesMore$Morning", "pressed", "I", false)
  | 5 => ("NineMinutesMore$Morning", "sleptThrough", "I", false)
  | _ => ("NineMinutesMore$Morning", "heard", "I", false)
def tyX1 : Nat → FieldType := fun k => match k with
  | 0 => .array .int
  | 1 => .array .int
  | 2 => .int
  | 3 => .int
  | 4 => .int
  | 5 => .int
  | _ => .int
abbrev wsX10 : List Cond := u_ws RX1 TX1 7
theorem nmX1 : ∀ a, a < 7 → ∀ b, b < 7 → a ≠ b → (TX1 a).2.1 ≠ (TX1 b).2.1 := by decide +kernel
theorem tyX1_ok : ∀ k, k < 7 → parseFieldDescriptor (TX1 k).2.2.1 = some (tyX1 k) := by decide +kernel
abbrev cX1_init : ByteArray := prog_3_method_1_code
def yX1_init : MethodName := ⟨RX1, "<init>", "()V"⟩
abbrev cX1_live : ByteArray := prog_3_method_2_code
def yX1_live : MethodName := ⟨RX1, "live", "(LNineMinutesMore$Room;II)V"⟩
abbrev cX1_fallAsleep : ByteArray := prog_3_method_3_code
def yX1_fallAsleep : MethodName := ⟨RX1, "fallAsleep", "(LNineMinutesMore$Room;I)V"⟩
abbrev cX1_firstToRing : ByteArray := prog_3_method_4_code
def yX1_firstToRing : MethodName := ⟨RX1, "firstToRing", "()I"⟩
abbrev cX1_ring : ByteArray := prog_3_method_5_code
def yX1_ring : MethodName := ⟨RX1, "ring", "(LNineMinutesMore$Clock;III)Z"⟩
def RX2 : String := "NineMinutesMore$Room"
def TX2 : u_T := fun k => match k with
  | 0 => ("NineMinutesMore$Room", "sleepers", "[LNineMinutesMore$Sleeper;", true)
  | 1 => ("NineMinutesMore$Room", "clocks", "[LNineMinutesMore$Clock;", true)
  | 2 => ("NineMinutesMore$Room", "tasks", "[LNineMinutesMore$Task;", true)
  | 3 => ("NineMinutesMore$Room", "sleeperCount", "I", false)
  | 4 => ("NineMinutesMore$Room", "clockCount", "I", false)
  | 5 => ("NineMinutesMore$Room", "taskCount", "I", false)
  | 6 => ("NineMinutesMore$Room", "bus", "I", false)
  | 7 => ("NineMinutesMore$Room", "firm", "I", false)
  | 8 => ("NineMinutesMore$Room", "tired", "I", false)
  | _ => ("NineMinutesMore$Room", "day", "I", false)
def tyX2 : Nat → FieldType := fun k => match k with
  | 0 => .array (.object "NineMinutesMore$Sleeper")
  | 1 => .array (.object "NineMinutesMore$Clock")
  | 2 => .array (.object "NineMinutesMore$Task")
  | 3 => .int
  | 4 => .int
  | 5 => .int
  | 6 => .int
  | 7 => .int
  | 8 => .int
  | _ => .int
abbrev wsX20 : List Cond := u_ws RX2 TX2 10
theorem nmX2 : ∀ a, a < 10 → ∀ b, b < 10 → a ≠ b → (TX2 a).2.1 ≠ (TX2 b).2.1 := by decide +kernel
theorem tyX2_ok : ∀ k, k < 10 → parseFieldDescriptor (TX2 k).2.2.1 = some (tyX2 k) := by decide +kernel
abbrev cX2_init : ByteArray := prog_4_method_1_code
def yX2_init : MethodName := ⟨RX2, "<init>", "()V"⟩
abbrev cX2_copyFrom : ByteArray := prog_4_method_2_code
def yX2_copyFrom : MethodName := ⟨RX2, "copyFrom", "(LNineMinutesMore$Room;)V"⟩
abbrev cX2_take : ByteArray := prog_4_method_3_code
def yX2_take : MethodName := ⟨RX2, "take", "(I[I)Z"⟩
abbrev cX2_takeSleeper : ByteArray := prog_4_method_4_code
def yX2_takeSleeper : MethodName := ⟨RX2, "takeSleeper", "([I)Z"⟩
abbrev cX2_takeClock : ByteArray := prog_4_method_5_code
def yX2_takeClock : MethodName := ⟨RX2, "takeClock", "([I)Z"⟩
abbrev cX2_takeTask : ByteArray := prog_4_method_6_code
def yX2_takeTask : MethodName := ⟨RX2, "takeTask", "([I)Z"⟩
abbrev cX2_takeBus : ByteArray := prog_4_method_7_code
def yX2_takeBus : MethodName := ⟨RX2, "takeBus", "([I)Z"⟩
abbrev cX2_takeFirm : ByteArray := prog_4_method_8_code
def yX2_takeFirm : MethodName := ⟨RX2, "takeFirm", "([I)Z"⟩
abbrev cX2_depthOf : ByteArray := prog_4_method_9_code
def yX2_depthOf : MethodName := ⟨RX2, "depthOf", "(II)I"⟩
abbrev cX2_sumOf : ByteArray := prog_4_method_10_code
def yX2_sumOf : MethodName := ⟨RX2, "sumOf", "(II)I"⟩
abbrev cX2_doneBits : ByteArray := prog_4_method_11_code
def yX2_doneBits : MethodName := ⟨RX2, "doneBits", "(I)I"⟩
abbrev cX2_worthDone : ByteArray := prog_4_method_12_code
def yX2_worthDone : MethodName := ⟨RX2, "worthDone", "(I)I"⟩
abbrev cX2_passDay : ByteArray := prog_4_method_13_code
def yX2_passDay : MethodName := ⟨RX2, "passDay", "(I)V"⟩
def RX3 : String := "NineMinutesMore$Sleeper"
def TX3 : u_T := fun k => match k with
  | 0 => ("NineMinutesMore$Sleeper", "kind", "I", false)
  | 1 => ("NineMinutesMore$Sleeper", "round", "I", false)
  | 2 => ("NineMinutesMore$Sleeper", "deep", "I", false)
  | _ => ("NineMinutesMore$Sleeper", "lean", "I", false)
def tyX3 : Nat → FieldType := fun k => match k with
  | 0 => .int
  | 1 => .int
  | 2 => .int
  | _ => .int
abbrev wsX30 : List Cond := u_ws RX3 TX3 4
theorem nmX3 : ∀ a, a < 4 → ∀ b, b < 4 → a ≠ b → (TX3 a).2.1 ≠ (TX3 b).2.1 := by decide +kernel
theorem tyX3_ok : ∀ k, k < 4 → parseFieldDescriptor (TX3 k).2.2.1 = some (tyX3 k) := by decide +kernel
abbrev cX3_init : ByteArray := prog_5_method_1_code
def yX3_init : MethodName := ⟨RX3, "<init>", "()V"⟩
abbrev cX3_copyFrom : ByteArray := prog_5_method_2_code
def yX3_copyFrom : MethodName := ⟨RX3, "copyFrom", "(LNineMinutesMore$Sleeper;)V"⟩
abbrev cX3_beAs : ByteArray := prog_5_method_3_code
def yX3_beAs : MethodName := ⟨RX3, "beAs", "([I)Z"⟩
abbrev cX3_partOf : ByteArray := prog_5_method_4_code
def yX3_partOf : MethodName := ⟨RX3, "partOf", "(I)I"⟩
abbrev cX3_depthAt : ByteArray := prog_5_method_5_code
def yX3_depthAt : MethodName := ⟨RX3, "depthAt", "(III)I"⟩
def RX4 : String := "NineMinutesMore$Task"
def TX4 : u_T := fun k => match k with
  | 0 => ("NineMinutesMore$Task", "minutes", "I", false)
  | _ => ("NineMinutesMore$Task", "worth", "I", false)
def tyX4 : Nat → FieldType := fun k => match k with
  | 0 => .int
  | _ => .int
abbrev wsX40 : List Cond := u_ws RX4 TX4 2
theorem nmX4 : ∀ a, a < 2 → ∀ b, b < 2 → a ≠ b → (TX4 a).2.1 ≠ (TX4 b).2.1 := by decide +kernel
theorem tyX4_ok : ∀ k, k < 2 → parseFieldDescriptor (TX4 k).2.2.1 = some (tyX4 k) := by decide +kernel
abbrev cX4_init : ByteArray := prog_6_method_1_code
def yX4_init : MethodName := ⟨RX4, "<init>", "()V"⟩
abbrev cX4_copyFrom : ByteArray := prog_6_method_2_code
def yX4_copyFrom : MethodName := ⟨RX4, "copyFrom", "(LNineMinutesMore$Task;)V"⟩
abbrev cX4_beAs : ByteArray := prog_6_method_3_code
def yX4_beAs : MethodName := ⟨RX4, "beAs", "([I)Z"⟩
abbrev cX4_partOf : ByteArray := prog_6_method_4_code
def yX4_partOf : MethodName := ⟨RX4, "partOf", "(I)I"⟩
def RX5 : String := "NineMinutesMore$Text"
def TX5 : u_T := fun k => match k with
  | 0 => ("NineMinutesMore$Text", "letters", "[C", true)
  | 1 => ("NineMinutesMore$Text", "length", "I", false)
  | 2 => ("NineMinutesMore$Text", "at", "I", false)
  | 3 => ("NineMinutesMore$Text", "numbers", "[I", true)
  | _ => ("NineMinutesMore$Text", "numberCount", "I", false)
def tyX5 : Nat → FieldType := fun k => match k with
  | 0 => .array .char
  | 1 => .int
  | 2 => .int
  | 3 => .array .int
  | _ => .int
abbrev wsX50 : List Cond := u_ws RX5 TX5 5
theorem nmX5 : ∀ a, a < 5 → ∀ b, b < 5 → a ≠ b → (TX5 a).2.1 ≠ (TX5 b).2.1 := by decide +kernel
theorem tyX5_ok : ∀ k, k < 5 → parseFieldDescriptor (TX5 k).2.2.1 = some (tyX5 k) := by decide +kernel
abbrev cX5_init : ByteArray := prog_7_method_1_code
def yX5_init : MethodName := ⟨RX5, "<init>", "()V"⟩
abbrev cX5_isFull : ByteArray := prog_7_method_2_code
def yX5_isFull : MethodName := ⟨RX5, "isFull", "()Z"⟩
abbrev cX5_add : ByteArray := prog_7_method_3_code
def yX5_add : MethodName := ⟨RX5, "add", "(C)I"⟩
abbrev cX5_forget : ByteArray := prog_7_method_4_code
def yX5_forget : MethodName := ⟨RX5, "forget", "()V"⟩
abbrev cX5_tellInto : ByteArray := prog_7_method_5_code
def yX5_tellInto : MethodName := ⟨RX5, "tellInto", "(LNineMinutesMore$Room;)I"⟩
abbrev cX5_readStatement : ByteArray := prog_7_method_6_code
def yX5_readStatement : MethodName := ⟨RX5, "readStatement", "()Z"⟩
abbrev cX5_formOf : ByteArray := prog_7_method_7_code
def yX5_formOf : MethodName := ⟨RX5, "formOf", "(I)Ljava/lang/String;"⟩
abbrev cX5_readPart : ByteArray := prog_7_method_8_code
def yX5_readPart : MethodName := ⟨RX5, "readPart", "(C)Z"⟩
abbrev cX5_readKind : ByteArray := prog_7_method_9_code
def yX5_readKind : MethodName := ⟨RX5, "readKind", "(Ljava/lang/String;)Z"⟩
abbrev cX5_readNumber : ByteArray := prog_7_method_10_code
def yX5_readNumber : MethodName := ⟨RX5, "readNumber", "(II)Z"⟩
abbrev cX5_readSign : ByteArray := prog_7_method_11_code
def yX5_readSign : MethodName := ⟨RX5, "readSign", "(C)Z"⟩
abbrev cX5_keep : ByteArray := prog_7_method_12_code
def yX5_keep : MethodName := ⟨RX5, "keep", "(I)V"⟩
abbrev cX5_letterAt : ByteArray := prog_7_method_13_code
def yX5_letterAt : MethodName := ⟨RX5, "letterAt", "(I)I"⟩
abbrev cX5_isDigit : ByteArray := prog_7_method_14_code
def yX5_isDigit : MethodName := ⟨RX5, "isDigit", "(I)Z"⟩
def RX6 : String := "NineMinutesMore"
def TX6 : u_T := fun k => match k with
  | 0 => ("NineMinutesMore", "now", "LNineMinutesMore$Room;", true)
  | 1 => ("NineMinutesMore", "mind", "LNineMinutesMore$Room;", true)
  | 2 => ("NineMinutesMore", "kept", "LNineMinutesMore$Room;", true)
  | 3 => ("NineMinutesMore", "hasKept", "Z", false)
  | 4 => ("NineMinutesMore", "morning", "LNineMinutesMore$Morning;", true)
  | 5 => ("NineMinutesMore", "text", "LNineMinutesMore$Text;", true)
  | 6 => ("NineMinutesMore", "told", "[I", true)
  | 7 => ("NineMinutesMore", "toldLength", "I", false)
  | _ => ("NineMinutesMore", "refusals", "[I", true)
def tyX6 : Nat → FieldType := fun k => match k with
  | 0 => .object "NineMinutesMore$Room"
  | 1 => .object "NineMinutesMore$Room"
  | 2 => .object "NineMinutesMore$Room"
  | 3 => .boolean
  | 4 => .object "NineMinutesMore$Morning"
  | 5 => .object "NineMinutesMore$Text"
  | 6 => .array .int
  | 7 => .int
  | _ => .array .int
abbrev wsX60 : List Cond := u_ws RX6 TX6 9
theorem nmX6 : ∀ a, a < 9 → ∀ b, b < 9 → a ≠ b → (TX6 a).2.1 ≠ (TX6 b).2.1 := by decide +kernel
theorem tyX6_ok : ∀ k, k < 9 → parseFieldDescriptor (TX6 k).2.2.1 = some (tyX6 k) := by decide +kernel
abbrev cX6_init : ByteArray := prog_1_method_1_code
def yX6_init : MethodName := ⟨RX6, "<init>", "()V"⟩
abbrev cX6_letter : ByteArray := prog_1_method_2_code
def yX6_letter : MethodName := ⟨RX6, "letter", "(I)I"⟩
abbrev cX6_room : ByteArray := prog_1_method_3_code
def yX6_room : MethodName := ⟨RX6, "room", "()I"⟩
abbrev cX6_sleeper : ByteArray := prog_1_method_4_code
def yX6_sleeper : MethodName := ⟨RX6, "sleeper", "(II)I"⟩
abbrev cX6_clock : ByteArray := prog_1_method_5_code
def yX6_clock : MethodName := ⟨RX6, "clock", "(II)I"⟩
abbrev cX6_task : ByteArray := prog_1_method_6_code
def yX6_task : MethodName := ⟨RX6, "task", "(II)I"⟩
abbrev cX6_set : ByteArray := prog_1_method_7_code
def yX6_set : MethodName := ⟨RX6, "set", "(II)I"⟩
abbrev cX6_every : ByteArray := prog_1_method_8_code
def yX6_every : MethodName := ⟨RX6, "every", "(II)I"⟩
abbrev cX6_firm : ByteArray := prog_1_method_9_code
def yX6_firm : MethodName := ⟨RX6, "firm", "(I)I"⟩
abbrev cX6_bus : ByteArray := prog_1_method_10_code
def yX6_bus : MethodName := ⟨RX6, "bus", "(I)I"⟩
abbrev cX6_tired : ByteArray := prog_1_method_11_code
def yX6_tired : MethodName := ⟨RX6, "tired", "(I)I"⟩
abbrev cX6_night : ByteArray := prog_1_method_12_code
def yX6_night : MethodName := ⟨RX6, "night", "()I"⟩
abbrev cX6_depth : ByteArray := prog_1_method_13_code
def yX6_depth : MethodName := ⟨RX6, "depth", "(II)I"⟩
abbrev cX6_up : ByteArray := prog_1_method_14_code
def yX6_up : MethodName := ⟨RX6, "up", "(I)I"⟩
abbrev cX6_presses : ByteArray := prog_1_method_15_code
def yX6_presses : MethodName := ⟨RX6, "presses", "(I)I"⟩
abbrev cX6_slept : ByteArray := prog_1_method_16_code
def yX6_slept : MethodName := ⟨RX6, "slept", "(I)I"⟩
abbrev cX6_done : ByteArray := prog_1_method_17_code
def yX6_done : MethodName := ⟨RX6, "done", "(II)I"⟩
abbrev cX6_value : ByteArray := prog_1_method_18_code
def yX6_value : MethodName := ⟨RX6, "value", "(I)I"⟩
abbrev cX6_cost : ByteArray := prog_1_method_19_code
def yX6_cost : MethodName := ⟨RX6, "cost", "(I)I"⟩
abbrev cX6_evening : ByteArray := prog_1_method_20_code
def yX6_evening : MethodName := ⟨RX6, "evening", "(II)I"⟩
abbrev cX6_often : ByteArray := prog_1_method_21_code
def yX6_often : MethodName := ⟨RX6, "often", "(II)I"⟩
abbrev cX6_hears : ByteArray := prog_1_method_22_code
def yX6_hears : MethodName := ⟨RX6, "hears", "(I)I"⟩
abbrev cX6_silent : ByteArray := prog_1_method_23_code
def yX6_silent : MethodName := ⟨RX6, "silent", "(I)I"⟩
abbrev cX6_bet : ByteArray := prog_1_method_24_code
def yX6_bet : MethodName := ⟨RX6, "bet", "(I)I"⟩
abbrev cX6_leans : ByteArray := prog_1_method_25_code
def yX6_leans : MethodName := ⟨RX6, "leans", "(II)I"⟩
abbrev cX6_back : ByteArray := prog_1_method_26_code
def yX6_back : MethodName := ⟨RX6, "back", "(II)I"⟩
abbrev cX6_moment : ByteArray := prog_1_method_27_code
def yX6_moment : MethodName := ⟨RX6, "moment", "(III)I"⟩
abbrev cX6_week : ByteArray := prog_1_method_28_code
def yX6_week : MethodName := ⟨RX6, "week", "(III)I"⟩
abbrev cX6_row : ByteArray := prog_1_method_29_code
def yX6_row : MethodName := ⟨RX6, "row", "(I)I"⟩
abbrev cX6_judge : ByteArray := prog_1_method_30_code
def yX6_judge : MethodName := ⟨RX6, "judge", "(I)I"⟩
abbrev cX6_firms : ByteArray := prog_1_method_31_code
def yX6_firms : MethodName := ⟨RX6, "firms", "(II)I"⟩
abbrev cX6_clear : ByteArray := prog_1_method_32_code
def yX6_clear : MethodName := ⟨RX6, "clear", "()I"⟩
abbrev cX6_lots : ByteArray := prog_1_method_33_code
def yX6_lots : MethodName := ⟨RX6, "lots", "(III)I"⟩
abbrev cX6_image : ByteArray := prog_1_method_34_code
def yX6_image : MethodName := ⟨RX6, "image", "()I"⟩
abbrev cX6_on : ByteArray := prog_1_method_35_code
def yX6_on : MethodName := ⟨RX6, "on", "()I"⟩
abbrev cX6_count : ByteArray := prog_1_method_36_code
def yX6_count : MethodName := ⟨RX6, "count", "(I)I"⟩
abbrev cX6_refusalsOf : ByteArray := prog_1_method_37_code
def yX6_refusalsOf : MethodName := ⟨RX6, "refusalsOf", "(I)I"⟩
abbrev cX6_refuse : ByteArray := prog_1_method_38_code
def yX6_refuse : MethodName := ⟨RX6, "refuse", "(I)I"⟩
abbrev cX6_refuseValue : ByteArray := prog_1_method_39_code
def yX6_refuseValue : MethodName := ⟨RX6, "refuseValue", "(I)I"⟩
abbrev cX6_first : ByteArray := prog_1_method_40_code
def yX6_first : MethodName := ⟨RX6, "first", "(II)I"⟩
abbrev cX6_outside : ByteArray := prog_1_method_41_code
def yX6_outside : MethodName := ⟨RX6, "outside", "(III)I"⟩
abbrev cX6_otherThan : ByteArray := prog_1_method_42_code
def yX6_otherThan : MethodName := ⟨RX6, "otherThan", "(II)I"⟩
abbrev cX6_noSleeper : ByteArray := prog_1_method_43_code
def yX6_noSleeper : MethodName := ⟨RX6, "noSleeper", "(I)I"⟩
abbrev cX6_noClock : ByteArray := prog_1_method_44_code
def yX6_noClock : MethodName := ⟨RX6, "noClock", "(I)I"⟩
abbrev cX6_noTask : ByteArray := prog_1_method_45_code
def yX6_noTask : MethodName := ⟨RX6, "noTask", "(I)I"⟩
abbrev cX6_valueOf : ByteArray := prog_1_method_46_code
def yX6_valueOf : MethodName := ⟨RX6, "valueOf", "(LNineMinutesMore$Room;I)I"⟩
abbrev cX6_bestOf : ByteArray := prog_1_method_47_code
def yX6_bestOf : MethodName := ⟨RX6, "bestOf", "(IIIIZ)I"⟩
abbrev cX6_heardBy : ByteArray := prog_1_method_48_code
def yX6_heardBy : MethodName := ⟨RX6, "heardBy", "(LNineMinutesMore$Room;I)I"⟩
abbrev cX6_firstWrong : ByteArray := prog_1_method_49_code
def yX6_firstWrong : MethodName := ⟨RX6, "firstWrong", "(I)I"⟩
abbrev cX6_drawSets : ByteArray := prog_1_method_50_code
def yX6_drawSets : MethodName := ⟨RX6, "drawSets", "(II)I"⟩
abbrev cX6_areWithin : ByteArray := prog_1_method_51_code
def yX6_areWithin : MethodName := ⟨RX6, "areWithin", "([I[I[I)Z"⟩
def RX7 : String := "NineMinutesMoreModel"
def TX7 : u_T := fun k => match k with
  | 0 => ("NineMinutesMoreModel", "refusals", "[I", true)
  | 1 => ("NineMinutesMoreModel", "s", "[I", true)
  | 2 => ("NineMinutesMoreModel", "image", "[I", true)
  | 3 => ("NineMinutesMoreModel", "read", "[I", true)
  | 4 => ("NineMinutesMoreModel", "mind", "[I", true)
  | 5 => ("NineMinutesMoreModel", "isImage", "Z", false)
  | 6 => ("NineMinutesMoreModel", "tape", "[I", true)
  | 7 => ("NineMinutesMoreModel", "told", "[I", true)
  | 8 => ("NineMinutesMoreModel", "taped", "I", false)
  | 9 => ("NineMinutesMoreModel", "place", "I", false)
  | 10 => ("NineMinutesMoreModel", "rings", "[I", true)
  | 11 => ("NineMinutesMoreModel", "pressed", "[I", true)
  | 12 => ("NineMinutesMoreModel", "up", "I", false)
  | 13 => ("NineMinutesMoreModel", "presses", "I", false)
  | 14 => ("NineMinutesMoreModel", "slept", "I", false)
  | 15 => ("NineMinutesMoreModel", "heard", "I", false)
  | 16 => ("NineMinutesMoreModel", "doneBits", "I", false)
  | 17 => ("NineMinutesMoreModel", "row", "[I", true)
  | _ => ("NineMinutesMoreModel", "rowed", "I", false)
def tyX7 : Nat → FieldType := fun k => match k with
  | 0 => .array .int
  | 1 => .array .int
  | 2 => .array .int
  | 3 => .array .int
  | 4 => .array .int
  | 5 => .boolean
  | 6 => .array .int
  | 7 => .array .int
  | 8 => .int
  | 9 => .int
  | 10 => .array .int
  | 11 => .array .int
  | 12 => .int
  | 13 => .int
  | 14 => .int
  | 15 => .int
  | 16 => .int
  | 17 => .array .int
  | _ => .int
abbrev wsX70 : List Cond := u_ws RX7 TX7 19
theorem nmX7 : ∀ a, a < 19 → ∀ b, b < 19 → a ≠ b → (TX7 a).2.1 ≠ (TX7 b).2.1 := by decide +kernel
theorem tyX7_ok : ∀ k, k < 19 → parseFieldDescriptor (TX7 k).2.2.1 = some (tyX7 k) := by decide +kernel
abbrev cX7_init : ByteArray := prog_9_method_1_code
def yX7_init : MethodName := ⟨RX7, "<init>", "()V"⟩
abbrev cX7_refuse : ByteArray := prog_9_method_2_code
def yX7_refuse : MethodName := ⟨RX7, "refuse", "(I)I"⟩
abbrev cX7_refuseFar : ByteArray := prog_9_method_3_code
def yX7_refuseFar : MethodName := ⟨RX7, "refuseFar", "(I)I"⟩
abbrev cX7_isIn : ByteArray := prog_9_method_4_code
def yX7_isIn : MethodName := ⟨RX7, "isIn", "(II)Z"⟩
abbrev cX7_within : ByteArray := prog_9_method_5_code
def yX7_within : MethodName := ⟨RX7, "within", "(III)I"⟩
abbrev cX7_lays : ByteArray := prog_9_method_6_code
def yX7_lays : MethodName := ⟨RX7, "lays", "([I[I)V"⟩
abbrev cX7_begins : ByteArray := prog_9_method_7_code
def yX7_begins : MethodName := ⟨RX7, "begins", "()V"⟩
abbrev cX7_ends : ByteArray := prog_9_method_8_code
def yX7_ends : MethodName := ⟨RX7, "ends", "()V"⟩
abbrev cX7_isSleeper : ByteArray := prog_9_method_9_code
def yX7_isSleeper : MethodName := ⟨RX7, "isSleeper", "(I)Z"⟩
abbrev cX7_isClock : ByteArray := prog_9_method_10_code
def yX7_isClock : MethodName := ⟨RX7, "isClock", "(I)Z"⟩
abbrev cX7_get : ByteArray := prog_9_method_11_code
def yX7_get : MethodName := ⟨RX7, "get", "(II)I"⟩
abbrev cX7_at : ByteArray := prog_9_method_12_code
def yX7_at : MethodName := ⟨RX7, "at", "(II)I"⟩
abbrev cX7_of : ByteArray := prog_9_method_13_code
def yX7_of : MethodName := ⟨RX7, "of", "(II)I"⟩
abbrev cX7_letter : ByteArray := prog_9_method_14_code
def yX7_letter : MethodName := ⟨RX7, "letter", "(I)I"⟩
abbrev cX7_sign : ByteArray := prog_9_method_15_code
def yX7_sign : MethodName := ⟨RX7, "sign", "()I"⟩
abbrev cX7_takes : ByteArray := prog_9_method_16_code
def yX7_takes : MethodName := ⟨RX7, "takes", "(I)Z"⟩
abbrev cX7_readsNumber : ByteArray := prog_9_method_17_code
def yX7_readsNumber : MethodName := ⟨RX7, "readsNumber", "(III)Z"⟩
abbrev cX7_sleeperOf : ByteArray := prog_9_method_18_code
def yX7_sleeperOf : MethodName := ⟨RX7, "sleeperOf", "(I)I"⟩
abbrev cX7_clockOf : ByteArray := prog_9_method_19_code
def yX7_clockOf : MethodName := ⟨RX7, "clockOf", "(I)I"⟩
abbrev cX7_readsKind : ByteArray := prog_9_method_20_code
def yX7_readsKind : MethodName := ⟨RX7, "readsKind", "(I)Z"⟩
abbrev cX7_readsStatement : ByteArray := prog_9_method_21_code
def yX7_readsStatement : MethodName := ⟨RX7, "readsStatement", "()Z"⟩
abbrev cX7_comes : ByteArray := prog_9_method_22_code
def yX7_comes : MethodName := ⟨RX7, "comes", "(I)Z"⟩
abbrev cX7_reads : ByteArray := prog_9_method_23_code
def yX7_reads : MethodName := ⟨RX7, "reads", "()I"⟩
abbrev cX7_room : ByteArray := prog_9_method_24_code
def yX7_room : MethodName := ⟨RX7, "room", "()I"⟩
abbrev cX7_sleeper : ByteArray := prog_9_method_25_code
def yX7_sleeper : MethodName := ⟨RX7, "sleeper", "(II)I"⟩
abbrev cX7_clock : ByteArray := prog_9_method_26_code
def yX7_clock : MethodName := ⟨RX7, "clock", "(II)I"⟩
abbrev cX7_task : ByteArray := prog_9_method_27_code
def yX7_task : MethodName := ⟨RX7, "task", "(II)I"⟩
abbrev cX7_changes : ByteArray := prog_9_method_28_code
def yX7_changes : MethodName := ⟨RX7, "changes", "(III)I"⟩
abbrev cX7_set : ByteArray := prog_9_method_29_code
def yX7_set : MethodName := ⟨RX7, "set", "(II)I"⟩
abbrev cX7_every : ByteArray := prog_9_method_30_code
def yX7_every : MethodName := ⟨RX7, "every", "(II)I"⟩
abbrev cX7_firm : ByteArray := prog_9_method_31_code
def yX7_firm : MethodName := ⟨RX7, "firm", "(I)I"⟩
abbrev cX7_bus : ByteArray := prog_9_method_32_code
def yX7_bus : MethodName := ⟨RX7, "bus", "(I)I"⟩
abbrev cX7_tired : ByteArray := prog_9_method_33_code
def yX7_tired : MethodName := ⟨RX7, "tired", "(I)I"⟩
abbrev cX7_depthOf : ByteArray := prog_9_method_34_code
def yX7_depthOf : MethodName := ⟨RX7, "depthOf", "(II)I"⟩
abbrev cX7_depth : ByteArray := prog_9_method_35_code
def yX7_depth : MethodName := ⟨RX7, "depth", "(II)I"⟩
abbrev cX7_wakes : ByteArray := prog_9_method_36_code
def yX7_wakes : MethodName := ⟨RX7, "wakes", "(III)Z"⟩
abbrev cX7_mayPress : ByteArray := prog_9_method_37_code
def yX7_mayPress : MethodName := ⟨RX7, "mayPress", "(II)Z"⟩
abbrev cX7_later : ByteArray := prog_9_method_38_code
def yX7_later : MethodName := ⟨RX7, "later", "(II)I"⟩
abbrev cX7_spareAt : ByteArray := prog_9_method_39_code
def yX7_spareAt : MethodName := ⟨RX7, "spareAt", "(I)I"⟩
abbrev cX7_morningOf : ByteArray := prog_9_method_40_code
def yX7_morningOf : MethodName := ⟨RX7, "morningOf", "(III)V"⟩
abbrev cX7_morning : ByteArray := prog_9_method_41_code
def yX7_morning : MethodName := ⟨RX7, "morning", "(I)V"⟩
abbrev cX7_up : ByteArray := prog_9_method_42_code
def yX7_up : MethodName := ⟨RX7, "up", "(I)I"⟩
abbrev cX7_presses : ByteArray := prog_9_method_43_code
def yX7_presses : MethodName := ⟨RX7, "presses", "(I)I"⟩
abbrev cX7_slept : ByteArray := prog_9_method_44_code
def yX7_slept : MethodName := ⟨RX7, "slept", "(I)I"⟩
abbrev cX7_doneAt : ByteArray := prog_9_method_45_code
def yX7_doneAt : MethodName := ⟨RX7, "doneAt", "(I)I"⟩
abbrev cX7_done : ByteArray := prog_9_method_46_code
def yX7_done : MethodName := ⟨RX7, "done", "(II)I"⟩
abbrev cX7_valueOf : ByteArray := prog_9_method_47_code
def yX7_valueOf : MethodName := ⟨RX7, "valueOf", "(I)I"⟩
abbrev cX7_value : ByteArray := prog_9_method_48_code
def yX7_value : MethodName := ⟨RX7, "value", "(I)I"⟩
abbrev cX7_cost : ByteArray := prog_9_method_49_code
def yX7_cost : MethodName := ⟨RX7, "cost", "(I)I"⟩
abbrev cX7_evening : ByteArray := prog_9_method_50_code
def yX7_evening : MethodName := ⟨RX7, "evening", "(II)I"⟩
abbrev cX7_often : ByteArray := prog_9_method_51_code
def yX7_often : MethodName := ⟨RX7, "often", "(II)I"⟩
abbrev cX7_hearsBut : ByteArray := prog_9_method_52_code
def yX7_hearsBut : MethodName := ⟨RX7, "hearsBut", "(II)I"⟩
abbrev cX7_hears : ByteArray := prog_9_method_53_code
def yX7_hears : MethodName := ⟨RX7, "hears", "(I)I"⟩
abbrev cX7_silent : ByteArray := prog_9_method_54_code
def yX7_silent : MethodName := ⟨RX7, "silent", "(I)I"⟩
abbrev cX7_bet : ByteArray := prog_9_method_55_code
def yX7_bet : MethodName := ⟨RX7, "bet", "(I)I"⟩
abbrev cX7_leans : ByteArray := prog_9_method_56_code
def yX7_leans : MethodName := ⟨RX7, "leans", "(II)I"⟩
abbrev cX7_back : ByteArray := prog_9_method_57_code
def yX7_back : MethodName := ⟨RX7, "back", "(II)I"⟩
abbrev cX7_moment : ByteArray := prog_9_method_58_code
def yX7_moment : MethodName := ⟨RX7, "moment", "(III)I"⟩
abbrev cX7_tires : ByteArray := prog_9_method_59_code
def yX7_tires : MethodName := ⟨RX7, "tires", "()V"⟩
abbrev cX7_night : ByteArray := prog_9_method_60_code
def yX7_night : MethodName := ⟨RX7, "night", "()I"⟩
abbrev cX7_week : ByteArray := prog_9_method_61_code
def yX7_week : MethodName := ⟨RX7, "week", "(III)I"⟩
abbrev cX7_row : ByteArray := prog_9_method_62_code
def yX7_row : MethodName := ⟨RX7, "row", "(I)I"⟩
abbrev cX7_wrongDay : ByteArray := prog_9_method_63_code
def yX7_wrongDay : MethodName := ⟨RX7, "wrongDay", "(I)I"⟩
abbrev cX7_judge : ByteArray := prog_9_method_64_code
def yX7_judge : MethodName := ⟨RX7, "judge", "(I)I"⟩
abbrev cX7_firms : ByteArray := prog_9_method_65_code
def yX7_firms : MethodName := ⟨RX7, "firms", "(II)I"⟩
abbrev cX7_clear : ByteArray := prog_9_method_66_code
def yX7_clear : MethodName := ⟨RX7, "clear", "()I"⟩
abbrev cX7_lots : ByteArray := prog_9_method_67_code
def yX7_lots : MethodName := ⟨RX7, "lots", "(III)I"⟩
abbrev cX7_image : ByteArray := prog_9_method_68_code
def yX7_image : MethodName := ⟨RX7, "image", "()I"⟩
abbrev cX7_on : ByteArray := prog_9_method_69_code
def yX7_on : MethodName := ⟨RX7, "on", "()I"⟩
abbrev cX7_count : ByteArray := prog_9_method_70_code
def yX7_count : MethodName := ⟨RX7, "count", "(I)I"⟩
def RJ11 : String := "java/lang/Character"
def TJ11 : u_T := fun k => match k with
  | _ => ("", "", "", false)
def tyJ11 : Nat → FieldType := fun k => match k with
  | _ => .int
abbrev wsJ110 : List Cond := u_ws RJ11 TJ11 0
theorem nmJ11 : ∀ a, a < 0 → ∀ b, b < 0 → a ≠ b → (TJ11 a).2.1 ≠ (TJ11 b).2.1 := by decide +kernel
theorem tyJ11_ok : ∀ k, k < 0 → parseFieldDescriptor (TJ11 k).2.2.1 = some (tyJ11 k) := by decide +kernel
abbrev cJ11_isValidCodePoint_9a6ad : ByteArray := prog_10_method_11_code
def yJ11_isValidCodePoint_9a6ad : MethodName := ⟨RJ11, "isValidCodePoint", "(I)Z"⟩
abbrev cJ11_highSurrogate_5068e : ByteArray := prog_10_method_28_code
def yJ11_highSurrogate_5068e : MethodName := ⟨RJ11, "highSurrogate", "(I)C"⟩
abbrev cJ11_lowSurrogate_5068e : ByteArray := prog_10_method_29_code
def yJ11_lowSurrogate_5068e : MethodName := ⟨RJ11, "lowSurrogate", "(I)C"⟩
def RJ9 : String := "java/lang/Math"
def TJ9 : u_T := fun k => match k with
  | _ => ("", "", "", false)
def tyJ9 : Nat → FieldType := fun k => match k with
  | _ => .int
abbrev wsJ90 : List Cond := u_ws RJ9 TJ9 0
theorem nmJ9 : ∀ a, a < 0 → ∀ b, b < 0 → a ≠ b → (TJ9 a).2.1 ≠ (TJ9 b).2.1 := by decide +kernel
theorem tyJ9_ok : ∀ k, k < 0 → parseFieldDescriptor (TJ9 k).2.2.1 = some (tyJ9 k) := by decide +kernel
abbrev cJ9_max_7cf53 : ByteArray := prog_11_method_65_code
def yJ9_max_7cf53 : MethodName := ⟨RJ9, "max", "(II)I"⟩
abbrev cJ9_min_7cf53 : ByteArray := prog_11_method_69_code
def yJ9_min_7cf53 : MethodName := ⟨RJ9, "min", "(II)I"⟩
def RJ0 : String := "java/lang/String"
def TJ0 : u_T := fun k => match k with
  | _ => ("", "", "", false)
def tyJ0 : Nat → FieldType := fun k => match k with
  | _ => .int
abbrev wsJ00 : List Cond := u_ws RJ0 TJ0 0
theorem nmJ0 : ∀ a, a < 0 → ∀ b, b < 0 → a ≠ b → (TJ0 a).2.1 ≠ (TJ0 b).2.1 := by decide +kernel
theorem tyJ0_ok : ∀ k, k < 0 → parseFieldDescriptor (TJ0 k).2.2.1 = some (tyJ0 k) := by decide +kernel
abbrev cJ0_length_8abf5 : ByteArray := prog_12_method_54_code
def yJ0_length_8abf5 : MethodName := ⟨RJ0, "length", "()I"⟩
abbrev cJ0_isEmpty_aae02 : ByteArray := prog_12_method_55_code
def yJ0_isEmpty_aae02 : MethodName := ⟨RJ0, "isEmpty", "()Z"⟩
abbrev cJ0_charAt_5068e : ByteArray := prog_12_method_56_code
def yJ0_charAt_5068e : MethodName := ⟨RJ0, "charAt", "(I)C"⟩
abbrev cJ0_indexOf_0f7a4 : ByteArray := prog_12_method_79_code
def yJ0_indexOf_0f7a4 : MethodName := ⟨RJ0, "indexOf", "(I)I"⟩
abbrev cJ0_indexOf_7cf53 : ByteArray := prog_12_method_80_code
def yJ0_indexOf_7cf53 : MethodName := ⟨RJ0, "indexOf", "(II)I"⟩
abbrev cJ0_coder_7d493 : ByteArray := prog_12_method_152_code
def yJ0_coder_7d493 : MethodName := ⟨RJ0, "coder", "()B"⟩
abbrev cJ0_isLatin1_aae02 : ByteArray := prog_12_method_154_code
def yJ0_isLatin1_aae02 : MethodName := ⟨RJ0, "isLatin1", "()Z"⟩
abbrev cJ0_checkIndex_df160 : ByteArray := prog_12_method_155_code
def yJ0_checkIndex_df160 : MethodName := ⟨RJ0, "checkIndex", "(II)V"⟩
abbrev cJ0_checkBoundsBeginEnd_23922 : ByteArray := prog_12_method_158_code
def yJ0_checkBoundsBeginEnd_23922 : MethodName := ⟨RJ0, "checkBoundsBeginEnd", "(III)V"⟩
def RJ1 : String := "java/lang/StringLatin1"
def TJ1 : u_T := fun k => match k with
  | _ => ("", "", "", false)
def tyJ1 : Nat → FieldType := fun k => match k with
  | _ => .int
abbrev wsJ10 : List Cond := u_ws RJ1 TJ1 0
theorem nmJ1 : ∀ a, a < 0 → ∀ b, b < 0 → a ≠ b → (TJ1 a).2.1 ≠ (TJ1 b).2.1 := by decide +kernel
theorem tyJ1_ok : ∀ k, k < 0 → parseFieldDescriptor (TJ1 k).2.2.1 = some (tyJ1 k) := by decide +kernel
abbrev cJ1_charAt_3b067 : ByteArray := prog_13_method_2_code
def yJ1_charAt_3b067 : MethodName := ⟨RJ1, "charAt", "([BI)C"⟩
abbrev cJ1_canEncode_9a6ad : ByteArray := prog_13_method_4_code
def yJ1_canEncode_9a6ad : MethodName := ⟨RJ1, "canEncode", "(I)Z"⟩
abbrev cJ1_indexOf_4cfef : ByteArray := prog_13_method_22_code
def yJ1_indexOf_4cfef : MethodName := ⟨RJ1, "indexOf", "([BIII)I"⟩
abbrev cJ1_indexOfChar_4cfef : ByteArray := prog_13_method_23_code
def yJ1_indexOfChar_4cfef : MethodName := ⟨RJ1, "indexOfChar", "([BIII)I"⟩
def RJ2 : String := "java/lang/StringUTF16"
def TJ2 : u_T := fun k => match k with
  | _ => ("", "", "", false)
def tyJ2 : Nat → FieldType := fun k => match k with
  | _ => .int
abbrev wsJ20 : List Cond := u_ws RJ2 TJ2 0
theorem nmJ2 : ∀ a, a < 0 → ∀ b, b < 0 → a ≠ b → (TJ2 a).2.1 ≠ (TJ2 b).2.1 := by decide +kernel
theorem tyJ2_ok : ∀ k, k < 0 → parseFieldDescriptor (TJ2 k).2.2.1 = some (tyJ2 k) := by decide +kernel
abbrev cJ2_getChar_3b067 : ByteArray := prog_14_method_5_code
def yJ2_getChar_3b067 : MethodName := ⟨RJ2, "getChar", "([BI)C"⟩
abbrev cJ2_length_9d52b : ByteArray := prog_14_method_6_code
def yJ2_length_9d52b : MethodName := ⟨RJ2, "length", "([B)I"⟩
abbrev cJ2_indexOf_4cfef : ByteArray := prog_14_method_40_code
def yJ2_indexOf_4cfef : MethodName := ⟨RJ2, "indexOf", "([BIII)I"⟩
abbrev cJ2_indexOfChar_4cfef : ByteArray := prog_14_method_47_code
def yJ2_indexOfChar_4cfef : MethodName := ⟨RJ2, "indexOfChar", "([BIII)I"⟩
abbrev cJ2_indexOfCharUnsafe_4cfef : ByteArray := prog_14_method_48_code
def yJ2_indexOfCharUnsafe_4cfef : MethodName := ⟨RJ2, "indexOfCharUnsafe", "([BIII)I"⟩
abbrev cJ2_indexOfSupplementary_4cfef : ByteArray := prog_14_method_49_code
def yJ2_indexOfSupplementary_4cfef : MethodName := ⟨RJ2, "indexOfSupplementary", "([BIII)I"⟩
abbrev cJ2_charAt_3b067 : ByteArray := prog_14_method_83_code
def yJ2_charAt_3b067 : MethodName := ⟨RJ2, "charAt", "([BI)C"⟩
abbrev cJ2_checkIndex_2214a : ByteArray := prog_14_method_91_code
def yJ2_checkIndex_2214a : MethodName := ⟨RJ2, "checkIndex", "(I[B)V"⟩
abbrev cJ2_checkBoundsBeginEnd_d044e : ByteArray := prog_14_method_93_code
def yJ2_checkBoundsBeginEnd_d044e : MethodName := ⟨RJ2, "checkBoundsBeginEnd", "(II[B)V"⟩
def RJ3 : String := "jdk/internal/util/Preconditions"
def TJ3 : u_T := fun k => match k with
  | _ => ("", "", "", false)
def tyJ3 : Nat → FieldType := fun k => match k with
  | _ => .int
abbrev wsJ30 : List Cond := u_ws RJ3 TJ3 0
theorem nmJ3 : ∀ a, a < 0 → ∀ b, b < 0 → a ≠ b → (TJ3 a).2.1 ≠ (TJ3 b).2.1 := by decide +kernel
theorem tyJ3_ok : ∀ k, k < 0 → parseFieldDescriptor (TJ3 k).2.2.1 = some (tyJ3 k) := by decide +kernel
abbrev cJ3_checkIndex_8e157 : ByteArray := prog_15_method_11_code
def yJ3_checkIndex_8e157 : MethodName := ⟨RJ3, "checkIndex", "(IILjava/util/function/BiFunction;)I"⟩
abbrev cJ3_checkFromToIndex_8c36e : ByteArray := prog_15_method_12_code
def yJ3_checkFromToIndex_8c36e : MethodName := ⟨RJ3, "checkFromToIndex", "(IIILjava/util/function/BiFunction;)I"⟩
def RL : String := "NineMinutesMoreLaw"
abbrev cL_law : ByteArray := code
def yL_law : MethodName := ⟨RL, "law", "([I)Z"⟩
end
section
/-! THE MINI MACHINE: a frame is a place, a list of locals, a stack; the world is one fixed set of cells with ints in it; a block of instructions is read as a formula -/
abbrev mj_V : Type := Int32 ⊕ Nat
abbrev mj_M : Type := Nat → Nat → Int32
abbrev mj_L : Type := List (Option mj_V)
abbrev mj_S : Type := List mj_V
abbrev mj_I : Type := Nat × Nat × Int32 × List (Int32 × Nat)
abbrev mj_C : Type := Nat × Nat × (List mj_V → mj_M → Prop) × (List mj_V → mj_M → mj_V → mj_M → Prop)
def mj_cv (ad : Nat → Nat) : mj_V → Value
  | .inl x => .int x
  | .inr k => .ref (ad k)
def mj_up (M : mj_M) (a j : Nat) (x : Int32) : mj_M := fun b i => if b = a ∧ i = j then x else M b i
/-- a room's 18 cells: itself, three rows, sleepers, clocks, tasks -/
def mj_rsh : Nat → Nat × Nat × Nat
  | 0 => (0, 2, 10)
  | 1 => (2, 2, 4)
  | 2 => (2, 3, 4)
  | 3 => (2, 4, 6)
  | 4 => (0, 3, 4)
  | 5 => (0, 3, 4)
  | 6 => (0, 3, 4)
  | 7 => (0, 3, 4)
  | 8 => (0, 0, 5)
  | 9 => (0, 0, 5)
  | 10 => (0, 0, 5)
  | 11 => (0, 0, 5)
  | _ => (0, 4, 2)
/-- the shape of a cell: (0, class, fields), (1, type of ints, length), (2, type of references, length), (3, .., length): a row that nobody writes -/
def mj_sh (k : Nat) : Nat × Nat × Nat :=
  if k < 54 then mj_rsh (k % 18) else
  match k with
  | 54 => (0, 1, 7)
  | 55 => (1, 0, 4)
  | 56 => (1, 0, 4)
  | 57 => (0, 5, 5)
  | 58 => (1, 1, 96)
  | 59 => (1, 0, 5)
  | 60 => (0, 6, 9)
  | 61 => (1, 0, 8)
  | 62 => (1, 0, 7)
  | 63 => (0, 7, 19)
  | 64 => (1, 0, 7)
  | 65 => (1, 0, 55)
  | 66 => (1, 0, 55)
  | 67 => (1, 0, 55)
  | 68 => (1, 0, 55)
  | 69 => (1, 0, 96)
  | 70 => (1, 0, 5)
  | 71 => (1, 0, 4)
  | 72 => (1, 0, 4)
  | 73 => (1, 0, 8)
  | 100 => (3, 0, 4)
  | 101 => (3, 0, 4)
  | 102 => (3, 0, 5)
  | 103 => (3, 0, 5)
  | 104 => (3, 0, 2)
  | 105 => (3, 0, 2)
  | 106 => (3, 0, 1)
  | 107 => (3, 0, 1)
  | 108 => (3, 0, 1)
  | 109 => (3, 0, 1)
  | _ => (9, 0, 0)
/-- what a cell's slot points to -/
def mj_pt (k j : Nat) : Nat :=
  if k < 54 then (match k % 18 with
    | 0 => k + 1 + j
    | 1 => k + 3 + j
    | 2 => k + 6 + j
    | _ => k + 9 + j) else
  match k with
  | 54 => 55 + j
  | 57 => if j = 0 then 58 else 59
  | 60 => (match j with
    | 0 => 0
    | 1 => 18
    | 2 => 36
    | 4 => 54
    | 5 => 57
    | 6 => 61
    | _ => 62)
  | _ => (match j with
    | 0 => 64
    | 1 => 65
    | 2 => 66
    | 3 => 67
    | 4 => 68
    | 6 => 69
    | 7 => 70
    | 10 => 71
    | 11 => 72
    | _ => 73)
/-- which slots of a class are references -/
def mj_rf (c j : Nat) : Bool := match c with
  | 1 => j == 0 || j == 1
  | 2 => j == 0 || j == 1 || j == 2
  | 5 => j == 0 || j == 3
  | 6 => j == 0 || j == 1 || j == 2 || j == 4 || j == 5 || j == 6 || j == 8
  | 7 => j == 0 || j == 1 || j == 2 || j == 3 || j == 4 || j == 6 || j == 7 || j == 10 || j == 11 || j == 17
  | _ => false
/-- which slots are booleans -/
def mj_bf (c j : Nat) : Bool := (c == 6 && j == 3) || (c == 7 && j == 5)
/-- the rows that nobody writes -/
def mj_sc (t j : Nat) : Int32 := match t with
  | 100 => [0, 20, 0, 0].getD j 0
  | 101 => [5, 99, 20, 30].getD j 0
  | 102 => [0, 0, 0, 1, 0].getD j 0
  | 103 => [5, 3, 299, 20, 30].getD j 0
  | 104 => [1, 0].getD j 0
  | 105 => [60, 99].getD j 0
  | 106 => 0
  | 107 => 299
  | 108 => 0
  | _ => 99
def mj_fv (ad : Nat → Nat) (M : mj_M) (k c j : Nat) : Value := if mj_rf c j = true then .ref (ad (mj_pt k j)) else .int (M k j)
def mj_ce (ad : Nat → Nat) (tA : Nat → ClassId) (M : mj_M) (k : Nat) : va_E := match mj_sh k with
  | (0, c, n) => .inr (c, (List.range n).map (mj_fv ad M k c))
  | (1, t, n) => .inl (tA t, n, .inl (M k))
  | (_, t, n) => .inl (tA t, n, .inr (.inr (.inr (.inr (fun j => some (ad (mj_pt k j)))))))
def mj_w (ad : Nat → Nat) (tA : Nat → ClassId) (M : mj_M) : va_W := (List.range 74).map (fun k => (ad k, mj_ce ad tA M k))
def mj_A (ad : Nat → Nat) : Nat → Prop := fun q => ∃ k, k < 74 ∧ ad k = q
abbrev mj_cl : List vw_C := [(RX0, TX0, 5), (RX1, TX1, 7), (RX2, TX2, 10), (RX3, TX3, 4), (RX4, TX4, 2), (RX5, TX5, 5), (RX6, TX6, 9), (RX7, TX7, 19)]
def mj_ty (tA : Nat → ClassId) : List (ClassId × FieldType) := [(tA 0, .int), (tA 1, .char), (tA 2, .object RX3), (tA 3, .object RX0), (tA 4, .object RX4)]
/-- the words that stay, and the words on private members of nest mates -/
def mj_nest : Cond → Bool
  | .fieldLinkNest .. => true
  | .methodLinkNest .. => true
  | _ => false
def mj_gT : List Cond := lw_tbl.filter goodWord
def mj_nw : List Cond := lw_tbl.filter mj_nest
/-- names of the static rows, String constants -/
def mj_sn : List String := ["SLEEPER_LEAST", "SLEEPER_MOST", "CLOCK_LEAST", "CLOCK_MOST", "TASK_LEAST", "TASK_MOST", "BUS_LEAST", "BUS_MOST", "FIRM_LEAST", "FIRM_MOST"]
def mj_st : List (Nat × String) := [(66, "S=,2,2;"), (68, "C1,3,3,3;"), (70, "2,2;"), (72, "3;"), (74, "2;"), (76, ""), (78, "sldobn"), (84, "cfprqw")]
def mj_sb : List (List Int32) := [[83, 61, 44, 50, 44, 50, 59], [67, 49, 44, 51, 44, 51, 44, 51, 59], [50, 44, 50, 59], [51, 59], [50, 59], [], [115, 108, 100, 111, 98, 110], [99, 102, 112, 114, 113, 119]]
def mj_sN : List Nat := [7, 9, 4, 2, 2, 0, 6, 6]
/-- what nobody writes: static rows and String constants -/
def mj_RO (ad : Nat → Nat) (A : Nat → Prop) (U : State) (H : Heap) : Prop :=
  (∀ t : Nat, t < 10 → va_Z RX6 (mj_sn.getD t "") "[I" (.ref (ad (100 + t))) A U H ∧ va_T .int (ad (100 + t)) (mj_sh (100 + t)).2.2 (fun j => .int (mj_sc (100 + t) j)) A U H) ∧
  vk_S 8 mj_sN mj_sb (fun i => ad (200 + i)) (fun i => ad (300 + i)) A U H ∧ ∀ i : Nat, i < 8 → vk_R RX5 (mj_st.getD i (0, "")).1 (mj_st.getD i (0, "")).2 (ad (200 + i)) U
def mj_E (D : va_G) (ad : Nat → Nat) (tA : Nat → ClassId) (A : Nat → Prop) (U : State) (H : Heap) : Prop :=
  va_K D mj_cl (mj_ty tA) U ∧ (∀ w ∈ mj_nw, va_Nw w U) ∧ mj_RO ad A U H
def mj_in (ad : Nat → Nat) : Prop := ∀ i j : Nat, i < 74 → j < 74 → ad i = ad j → i = j
/-- a row of the script, for the law -/
abbrev mj_Sx : Type := Bool × Nat × (Nat → Int32)
def mj_ob (a : Nat) : Nat := if a < 74 ∧ (mj_sh a).1 = 0 then (mj_sh a).2.1 else 99
def mj_ln (sx : mj_Sx) (a : Nat) : Nat := if a = 400 then sx.2.1 else (mj_sh a).2.2
def mj_cq (sx : mj_Sx) (M : mj_M) (a j : Nat) : Int32 := if a = 400 then sx.2.2 j else if 100 ≤ a then mj_sc a j else M a j
/-- kinds of rows: 0 ints, 1 chars, 2 references, 3 ints that nobody writes, 4 the script, 9 none -/
def mj_ak (a : Nat) : Nat := if a < 74 then (if (mj_sh a).1 = 1 then (mj_sh a).2.1 else if (mj_sh a).1 = 2 then 2 else 9) else if a < 100 then 9 else if a < 110 then 3 else if a = 400 then 4 else 9
def mj_g : mj_L → Nat → Option mj_V
  | [], _ => none
  | v :: _, 0 => v
  | _ :: t, n + 1 => mj_g t n
def mj_li (o : Option mj_V) (f : Int32 → Prop) : Prop := match o with
  | some (.inl x) => f x
  | _ => False
def mj_lr (o : Option mj_V) (f : Nat → Prop) : Prop := match o with
  | some (.inr a) => f a
  | _ => False
def mj_so : mj_L → Nat → mj_V → (mj_L → Prop) → Prop
  | [], _, _, _ => False
  | _ :: t, 0, v, f => f (some v :: t)
  | a :: t, n + 1, v, f => mj_so t n v (fun t' => f (a :: t'))
def mj_pi (st : mj_S) (f : Int32 → mj_S → Prop) : Prop := match st with
  | .inl x :: r => f x r
  | _ => False
def mj_pr (st : mj_S) (f : Nat → mj_S → Prop) : Prop := match st with
  | .inr a :: r => f a r
  | _ => False
def mj_pv (st : mj_S) (f : mj_V → mj_S → Prop) : Prop := match st with
  | v :: r => f v r
  | _ => False
def mj_sw : List (Int32 × Nat) → Nat → Int32 → (Nat → Prop) → Prop
  | [], d, _, f => f d
  | q :: t, d, x, f => (x = q.1 → f q.2) ∧ (¬ x = q.1 → mj_sw t d x f)
def mj_ta : Nat → mj_S → List mj_V → (List mj_V → mj_S → Prop) → Prop
  | 0, st, acc, f => f acc st
  | _ + 1, [], _, _ => False
  | n + 1, v :: st, acc, f => mj_ta n st (v :: acc) f
def mj_rt (kind : Nat) (post : mj_V → mj_M → Prop) (r : mj_S) (k : mj_S → mj_M → Prop) : Prop := match kind with
  | 0 => ∀ M' : mj_M, post (.inl 0) M' → k r M'
  | 1 => ∀ (x : Int32) (M' : mj_M), post (.inl x) M' → k (.inl x :: r) M'
  | _ => ∀ (a : Nat) (M' : mj_M), post (.inr a) M' → k (.inr a :: r) M'
abbrev mj_O : Type := Nat × Nat × Nat × Int32 × List (Int32 × Nat)
/-- one instruction, read as a formula -/
def mj_X (it : List (Nat × mj_C)) (rk : Nat) (sx : mj_Sx) (J : Nat → mj_L → mj_S → mj_M → Prop) (Rt : mj_V → mj_M → Prop) (o : mj_O) (k : mj_L → mj_S → mj_M → Prop) (L : mj_L) (st : mj_S) (M : mj_M) : Prop :=
  match o with
  | (1, _, _, z, _) => k L (.inl z :: st) M
  | (2, a, _, _, _) => k L (.inr a :: st) M
  | (3, n, _, _, _) => mj_li (mj_g L n) fun x => k L (.inl x :: st) M
  | (4, n, _, _, _) => mj_lr (mj_g L n) fun a => k L (.inr a :: st) M
  | (5, n, _, _, _) => mj_pi st fun x r => mj_so L n (.inl x) fun L' => k L' r M
  | (6, n, _, _, _) => mj_pr st fun a r => mj_so L n (.inr a) fun L' => k L' r M
  | (7, n, _, z, _) => mj_li (mj_g L n) fun x => mj_so L n (.inl (x + z)) fun L' => k L' st M
  | (10, _, _, _, _) => mj_pi st fun y r => mj_pi r fun x r => k L (.inl (x + y) :: r) M
  | (11, _, _, _, _) => mj_pi st fun y r => mj_pi r fun x r => k L (.inl (x - y) :: r) M
  | (12, _, _, _, _) => mj_pi st fun y r => mj_pi r fun x r => k L (.inl (x * y) :: r) M
  | (13, _, _, _, _) => mj_pi st fun y r => mj_pi r fun x r => ¬ y = 0 ∧ k L (.inl (x / y) :: r) M
  | (14, _, _, _, _) => mj_pi st fun y r => mj_pi r fun x r => ¬ y = 0 ∧ k L (.inl (x - x / y * y) :: r) M
  | (15, _, _, _, _) => mj_pi st fun x r => k L (.inl (-x) :: r) M
  | (16, _, _, _, _) => mj_pi st fun y r => mj_pi r fun x r => k L (.inl (x <<< (y &&& 31)) :: r) M
  | (17, _, _, _, _) => mj_pi st fun y r => mj_pi r fun x r => k L (.inl (x >>> (y &&& 31)) :: r) M
  | (18, _, _, _, _) => mj_pi st fun y r => mj_pi r fun x r => k L (.inl (x &&& y) :: r) M
  | (19, _, _, _, _) => mj_pi st fun y r => mj_pi r fun x r => k L (.inl (x ||| y) :: r) M
  | (20, _, _, _, _) => mj_pi st fun x r => k L (.inl (x.toUInt32 % 65536).toInt32 :: r) M
  | (21, _, _, _, _) => mj_pv st fun v r => k L (v :: v :: r) M
  | (22, _, _, _, _) => mj_pv st fun v r => mj_pv r fun w r => k L (v :: w :: v :: w :: r) M
  | (23, _, _, _, _) => mj_pv st fun _ r => k L r M
  | (30, t, _, _, _) => mj_pi st fun x r => (x = 0 → J t L r M) ∧ (¬ x = 0 → k L r M)
  | (31, t, _, _, _) => mj_pi st fun x r => (¬ x = 0 → J t L r M) ∧ (x = 0 → k L r M)
  | (32, t, _, _, _) => mj_pi st fun x r => (x < 0 → J t L r M) ∧ (¬ x < 0 → k L r M)
  | (33, t, _, _, _) => mj_pi st fun x r => (¬ x < 0 → J t L r M) ∧ (x < 0 → k L r M)
  | (34, t, _, _, _) => mj_pi st fun x r => (0 < x → J t L r M) ∧ (¬ 0 < x → k L r M)
  | (35, t, _, _, _) => mj_pi st fun x r => (¬ 0 < x → J t L r M) ∧ (0 < x → k L r M)
  | (36, t, _, _, _) => mj_pi st fun y r => mj_pi r fun x r => (x = y → J t L r M) ∧ (¬ x = y → k L r M)
  | (37, t, _, _, _) => mj_pi st fun y r => mj_pi r fun x r => (¬ x = y → J t L r M) ∧ (x = y → k L r M)
  | (38, t, _, _, _) => mj_pi st fun y r => mj_pi r fun x r => (x < y → J t L r M) ∧ (¬ x < y → k L r M)
  | (39, t, _, _, _) => mj_pi st fun y r => mj_pi r fun x r => (¬ x < y → J t L r M) ∧ (x < y → k L r M)
  | (40, t, _, _, _) => mj_pi st fun y r => mj_pi r fun x r => (y < x → J t L r M) ∧ (¬ y < x → k L r M)
  | (41, t, _, _, _) => mj_pi st fun y r => mj_pi r fun x r => (¬ y < x → J t L r M) ∧ (y < x → k L r M)
  | (42, t, _, _, _) => J t L st M
  | (43, d, _, _, ps) => mj_pi st fun x r => mj_sw ps d x fun t => J t L r M
  | (50, c, j, _, _) => mj_pr st fun a r => mj_ob a = c ∧ k L (.inl (M a j) :: r) M
  | (51, c, j, _, _) => mj_pr st fun a r => mj_ob a = c ∧ k L (.inr (mj_pt a j) :: r) M
  | (52, c, j, _, _) => mj_pi st fun x r => mj_pr r fun a r => mj_ob a = c ∧ k L r (mj_up M a j x)
  | (53, c, j, _, _) => mj_pi st fun x r => mj_pr r fun a r => mj_ob a = c ∧ (x = 0 ∨ x = 1) ∧ k L r (mj_up M a j x)
  | (60, _, _, _, _) => mj_pi st fun i r => mj_pr r fun a r => (mj_ak a = 0 ∨ mj_ak a = 3 ∨ (mj_ak a = 4 ∧ sx.1 = true)) ∧ vp_in i (mj_ln sx a) ∧ k L (.inl (mj_cq sx M a i.toNatClampNeg) :: r) M
  | (61, _, _, _, _) => mj_pi st fun x r => mj_pi r fun i r => mj_pr r fun a r => mj_ak a = 0 ∧ vp_in i (mj_ln sx a) ∧ k L r (mj_up M a i.toNatClampNeg x)
  | (62, _, _, _, _) => mj_pi st fun i r => mj_pr r fun a r => mj_ak a = 1 ∧ vp_in i (mj_ln sx a) ∧ k L (.inl (M a i.toNatClampNeg) :: r) M
  | (63, _, _, _, _) => mj_pi st fun x r => mj_pi r fun i r => mj_pr r fun a r => mj_ak a = 1 ∧ vp_in i (mj_ln sx a) ∧ k L r (mj_up M a i.toNatClampNeg (vp_nar .char x))
  | (64, _, _, _, _) => mj_pi st fun i r => mj_pr r fun a r => mj_ak a = 2 ∧ vp_in i (mj_ln sx a) ∧ k L (.inr (mj_pt a i.toNatClampNeg) :: r) M
  | (65, _, _, _, _) => mj_pr st fun a r => mj_ak a ≠ 9 ∧ (mj_ak a = 4 → sx.1 = true) ∧ k L (.inl (nI (mj_ln sx a)) :: r) M
  | (70, i, _, _, _) => match it.lookup i with
    | some cl => mj_ta cl.1 st [] fun avs r => r.length ≤ 8 ∧ cl.2.2.1 avs M ∧ mj_rt cl.2.1 (cl.2.2.2 avs M) r fun r' M' => k L r' M'
    | none => False
  | (80, _, _, _, _) => mj_pi st fun x r => r = [] ∧ (rk = 1 ∨ rk = 3) ∧ (rk = 3 → x = 0 ∨ x = 1) ∧ Rt (.inl x) M
  | (81, _, _, _, _) => mj_pr st fun a r => r = [] ∧ rk = 2 ∧ Rt (.inr a) M
  | (82, _, _, _, _) => st = [] ∧ rk = 0 ∧ Rt (.inl 0) M
  | _ => False
def mj_W (it : List (Nat × mj_C)) (rk : Nat) (sx : mj_Sx) (J : Nat → mj_L → mj_S → mj_M → Prop) (Rt : mj_V → mj_M → Prop) : List mj_O → Nat → mj_L → mj_S → mj_M → Prop
  | [], e, L, st, M => J e L st M
  | o :: t, e, L, st, M => mj_X it rk sx J Rt o (mj_W it rk sx J Rt t e) L st M
end
section
/-- field links: class whose code it is, index, class of the field, its slot, by nest -/
def mj_fl : List (Nat × Nat × Nat × Nat × Bool) := [(3, 9, 3, 0, false), (3, 15, 3, 1, false), (3, 18, 3, 2, false), (3, 21, 3, 3, false), (1, 88, 3, 3, true), (6, 187, 3, 3, true), (0, 9, 0, 0, false), (0, 15, 0, 1, false), (1, 72, 0, 1, true), (2, 84, 0, 1, true), (6, 175, 0, 1, true), (0, 18, 0, 2, false), (1, 75, 0, 2, true), (6, 178, 0, 2, true), (0, 21, 0, 3, false), (0, 24, 0, 4, false), (4, 9, 4, 0, false), (4, 15, 4, 1, false), (2, 11, 2, 0, false), (1, 84, 2, 0, true), (6, 88, 2, 0, true), (2, 19, 2, 1, false), (1, 47, 2, 1, true), (6, 100, 2, 1, true), (2, 25, 2, 2, false), (6, 110, 2, 2, true), (2, 29, 2, 3, false), (1, 34, 2, 3, true), (6, 129, 2, 3, true), (2, 33, 2, 4, false), (1, 69, 2, 4, true), (6, 184, 2, 4, true), (2, 36, 2, 5, false), (6, 196, 2, 5, true), (2, 39, 2, 6, false), (1, 78, 2, 6, true), (6, 123, 2, 6, true), (2, 42, 2, 7, false), (1, 93, 2, 7, true), (6, 120, 2, 7, true), (2, 45, 2, 8, false), (6, 126, 2, 8, true), (2, 48, 2, 9, false), (6, 143, 2, 9, true), (1, 9, 1, 0, false), (1, 15, 1, 1, false), (1, 18, 1, 2, false), (1, 22, 1, 3, false), (6, 149, 1, 3, true), (1, 25, 1, 4, false), (6, 136, 1, 4, true), (1, 28, 1, 5, false), (6, 152, 1, 5, true), (1, 31, 1, 6, false), (6, 206, 1, 6, true), (5, 9, 5, 0, false), (5, 15, 5, 1, false), (6, 199, 5, 1, true), (5, 19, 5, 2, false), (5, 22, 5, 3, false), (5, 26, 5, 4, false), (6, 12, 6, 0, false), (6, 16, 6, 1, false), (6, 19, 6, 2, false), (6, 22, 6, 3, false), (6, 29, 6, 4, false), (6, 36, 6, 5, false), (6, 40, 6, 6, false), (6, 44, 6, 7, false), (6, 48, 6, 8, false), (7, 7, 7, 0, false), (7, 13, 7, 1, false), (7, 16, 7, 2, false), (7, 19, 7, 3, false), (7, 22, 7, 4, false), (7, 182, 7, 5, false), (7, 25, 7, 6, false), (7, 28, 7, 7, false), (7, 57, 7, 8, false), (7, 61, 7, 9, false), (7, 31, 7, 10, false), (7, 34, 7, 11, false), (7, 117, 7, 12, false), (7, 120, 7, 13, false), (7, 123, 7, 14, false), (7, 126, 7, 15, false), (7, 149, 7, 16, false), (7, 37, 7, 17, false), (7, 173, 7, 18, false)]
def mj_flp : List Nat := [121, 122, 123, 124, 125, 126, 141, 142, 143, 144, 145, 146, 147, 148, 149, 150, 167, 168, 174, 175, 176, 177, 178, 179, 180, 181, 182, 183, 184, 185, 186, 187, 188, 189, 190, 191, 192, 193, 194, 195, 196, 197, 198, 199, 227, 228, 229, 230, 231, 232, 233, 234, 235, 236, 237, 260, 261, 262, 263, 264, 265, 278, 279, 280, 281, 282, 283, 284, 285, 286, 836, 837, 838, 839, 840, 841, 842, 843, 844, 845, 846, 847, 848, 849, 850, 851, 852, 853, 854]
/-- links of static rows -/
def mj_gl : List (Nat × Nat × Nat × Bool) := [(3, 24, 0, true), (3, 28, 1, true), (0, 27, 2, true), (0, 31, 3, true), (4, 18, 4, true), (4, 22, 5, true), (2, 88, 6, true), (2, 92, 7, true), (2, 99, 8, true), (2, 102, 9, true)]
def mj_glp : List Nat := [515, 517, 530, 532, 543, 545, 552, 554, 561, 563]
/-- int constants -/
def mj_kl : List (Nat × Nat × Int32) := [(6, 205, 1000000000), (6, 209, 1664525), (6, 210, 1013904223), (6, 211, 2147483647), (7, 40, 1000000000), (7, 179, 1664525), (7, 180, 1013904223), (7, 181, 2147483647)]
def mj_klp : List Nat := [725, 811, 812, 813, 1069, 1154, 1155, 1156]
/-- places of the words on the layout, class by class -/
def mj_lyp : List (List Nat) := [[151, 153, 155, 157, 159], [238, 240, 242, 244, 246, 248, 250], [200, 202, 204, 206, 208, 210, 212, 214, 216, 218], [127, 129, 131, 133], [169, 171], [266, 268, 270, 272, 274], [287, 289, 291, 293, 295, 297, 299, 301, 303], [855, 857, 859, 861, 863, 865, 867, 869, 871, 873, 875, 877, 879, 881, 883, 885, 887, 889, 891]]

def mj_cC (c : Nat) : vw_C := mj_cl.getD c (RX0, TX0, 5)
def mj_on (c : Nat) : String := if c = 8 then RL else (mj_cC c).1
theorem mj_on_lt {c : Nat} (h : c < 8) : mj_on c = (mj_cC c).1 := if_neg (by omega)
def mj_fW (q : Nat × Nat × Nat × Nat × Bool) : Cond := if q.2.2.2.2 = true then .fieldLinkNest (mj_on q.1) q.2.1 (mj_on q.2.2.1) ((mj_cC q.2.2.1).2.1 q.2.2.2.1).2.1 ((mj_cC q.2.2.1).2.1 q.2.2.2.1).2.2.1 RX6 else .fieldLink (mj_on q.1) q.2.1 (mj_on q.2.2.1) ((mj_cC q.2.2.1).2.1 q.2.2.2.1).2.1 ((mj_cC q.2.2.1).2.1 q.2.2.2.1).2.2.1
def mj_gW (q : Nat × Nat × Nat × Bool) : Cond := if q.2.2.2 = true then .fieldLinkNest (mj_on q.1) q.2.1 RX6 (mj_sn.getD q.2.2.1 "") "[I" RX6 else .fieldLink (mj_on q.1) q.2.1 RX6 (mj_sn.getD q.2.2.1 "") "[I"
def mj_kW (q : Nat × Nat × Int32) : Cond := .constant (mj_on q.1) q.2.1 q.2.2
theorem mj_at {ws : List Cond} (ps : List Nat) (h : ws = ps.filterMap (fun i => lw_tbl[i]?)) : ∀ w ∈ ws, w ∈ lw_tbl := by
  intro w hw
  rw [h] at hw
  obtain ⟨i, -, hi⟩ := List.mem_filterMap.mp hw
  exact List.mem_of_getElem? hi
set_option maxRecDepth 100000 in
theorem mj_fl_at : mj_fl.map mj_fW = mj_flp.filterMap (fun i => lw_tbl[i]?) := by decide +kernel
set_option maxRecDepth 100000 in
theorem mj_gl_at : mj_gl.map mj_gW = mj_glp.filterMap (fun i => lw_tbl[i]?) := by decide +kernel
set_option maxRecDepth 100000 in
theorem mj_kl_at : mj_kl.map mj_kW = mj_klp.filterMap (fun i => lw_tbl[i]?) := by decide +kernel
theorem mj_gT_of {w : Cond} (h : w ∈ lw_tbl) (hg : goodWord w = true) : w ∈ mj_gT := List.mem_filter.mpr ⟨h, hg⟩
theorem mj_nw_of {w : Cond} (h : w ∈ lw_tbl) (hg : mj_nest w = true) : w ∈ mj_nw := List.mem_filter.mpr ⟨h, hg⟩
theorem mj_fl_in {own idx c j : Nat} (h : (own, idx, c, j, false) ∈ mj_fl) : Cond.fieldLink (mj_on own) idx (mj_on c) ((mj_cC c).2.1 j).2.1 ((mj_cC c).2.1 j).2.2.1 ∈ mj_gT :=
  mj_gT_of (mj_at _ mj_fl_at _ (List.mem_map.mpr ⟨_, h, rfl⟩)) rfl
theorem mj_fl_nw {own idx c j : Nat} (h : (own, idx, c, j, true) ∈ mj_fl) : Cond.fieldLinkNest (mj_on own) idx (mj_on c) ((mj_cC c).2.1 j).2.1 ((mj_cC c).2.1 j).2.2.1 RX6 ∈ mj_nw :=
  mj_nw_of (mj_at _ mj_fl_at _ (List.mem_map.mpr ⟨_, h, rfl⟩)) rfl
theorem mj_gl_in {own idx t : Nat} (h : (own, idx, t, false) ∈ mj_gl) : Cond.fieldLink (mj_on own) idx RX6 (mj_sn.getD t "") "[I" ∈ mj_gT :=
  mj_gT_of (mj_at _ mj_gl_at _ (List.mem_map.mpr ⟨_, h, rfl⟩)) rfl
theorem mj_gl_nw {own idx t : Nat} (h : (own, idx, t, true) ∈ mj_gl) : Cond.fieldLinkNest (mj_on own) idx RX6 (mj_sn.getD t "") "[I" RX6 ∈ mj_nw :=
  mj_nw_of (mj_at _ mj_gl_at _ (List.mem_map.mpr ⟨_, h, rfl⟩)) rfl
theorem mj_kl_in {own idx : Nat} {z : Int32} (h : (own, idx, z) ∈ mj_kl) : Cond.constant (mj_on own) idx z ∈ mj_gT :=
  mj_gT_of (mj_at _ mj_kl_at _ (List.mem_map.mpr ⟨_, h, rfl⟩)) rfl
set_option maxRecDepth 100000 in
theorem mj_ly_at : ∀ c, c < 8 → u_ws (mj_cC c).1 (mj_cC c).2.1 (mj_cC c).2.2 = (mj_lyp.getD c []).filterMap (fun i => lw_tbl[i]?) := by decide +kernel
set_option maxRecDepth 100000 in
theorem mj_ly_good : ∀ c, c < 8 → (u_ws (mj_cC c).1 (mj_cC c).2.1 (mj_cC c).2.2).all goodWord = true := by decide +kernel
theorem mj_ly {c : Nat} (hc : c < 8) : ∀ w ∈ u_ws (mj_cC c).1 (mj_cC c).2.1 (mj_cC c).2.2, w ∈ mj_gT :=
  fun w hw => mj_gT_of (mj_at _ (mj_ly_at c hc) w hw) (List.all_eq_true.mp (mj_ly_good c hc) w hw)
theorem mj_cl_at {c : Nat} (hc : c < 8) : mj_cl[c]? = some ((mj_cC c).1, (mj_cC c).2.1, (mj_cC c).2.2) := by
  unfold mj_cC
  rw [List.getD_eq_getElem?_getD]
  have : ∃ q, mj_cl[c]? = some q := ⟨_, List.getElem?_eq_getElem hc⟩
  obtain ⟨q, hq⟩ := this
  rw [hq]
  rfl
set_option maxRecDepth 100000 in
theorem mj_sh_ob : ∀ a, a < 74 → (mj_sh a).1 = 0 → (mj_sh a).2.1 < 8 ∧ (mj_sh a).2.2 = (mj_cC (mj_sh a).2.1).2.2 := by decide +kernel
set_option maxRecDepth 100000 in
theorem mj_sh_ar : ∀ a, a < 74 → (mj_sh a).1 = 1 → (mj_sh a).2.1 < 2 ∧ (mj_sh a).2.2 ≤ 96 := by decide +kernel
set_option maxRecDepth 100000 in
theorem mj_sh_ra : ∀ a, a < 74 → (mj_sh a).1 = 2 → (mj_sh a).2.1 = 2 ∨ (mj_sh a).2.1 = 3 ∨ (mj_sh a).2.1 = 4 := by decide +kernel
set_option maxRecDepth 100000 in
theorem mj_sh_tg : ∀ a, a < 74 → (mj_sh a).1 = 0 ∨ (mj_sh a).1 = 1 ∨ (mj_sh a).1 = 2 := by decide +kernel
set_option maxRecDepth 100000 in
theorem mj_fl_ok : ∀ q ∈ mj_fl, q.1 < 8 ∧ q.2.2.1 < 8 ∧ q.2.2.2.1 < (mj_cC q.2.2.1).2.2 := by decide +kernel
set_option maxRecDepth 100000 in
theorem mj_fl_ty : ∀ q ∈ mj_fl, mj_rf q.2.2.1 q.2.2.2.1 = true ∨ (((mj_cC q.2.2.1).2.1 q.2.2.2.1).2.2.2 = false ∧ ((mj_cC q.2.2.1).2.1 q.2.2.2.1).2.2.1 = if mj_bf q.2.2.1 q.2.2.2.1 = true then "Z" else "I") := by decide +kernel
theorem mj_ob_of {a c : Nat} (h : mj_ob a = c) (hc : c < 8) : a < 74 ∧ mj_sh a = (0, c, (mj_cC c).2.2) := by
  unfold mj_ob at h
  split at h
  · rename_i h1
    obtain ⟨h1, h2⟩ := h1
    obtain ⟨-, h4⟩ := mj_sh_ob a h1 h2
    subst h
    exact ⟨h1, Prod.ext h2 (Prod.ext rfl h4)⟩
  · omega
theorem mj_ak_i {a : Nat} (h : mj_ak a = 0) : a < 74 ∧ (mj_sh a).1 = 1 ∧ (mj_sh a).2.1 = 0 ∧ a ≠ 400 := by
  unfold mj_ak at h
  split at h
  · rename_i h1
    split at h
    · exact ⟨h1, by assumption, h, by omega⟩
    · split at h <;> omega
  · split at h
    · omega
    · split at h
      · omega
      · split at h <;> omega
theorem mj_ak_c {a : Nat} (h : mj_ak a = 1) : a < 74 ∧ (mj_sh a).1 = 1 ∧ (mj_sh a).2.1 = 1 ∧ a ≠ 400 := by
  unfold mj_ak at h
  split at h
  · rename_i h1
    split at h
    · exact ⟨h1, by assumption, h, by omega⟩
    · split at h <;> omega
  · split at h
    · omega
    · split at h
      · omega
      · split at h <;> omega
theorem mj_ak_r {a : Nat} (h : mj_ak a = 2) : a < 74 ∧ (mj_sh a).1 = 2 ∧ a ≠ 400 := by
  unfold mj_ak at h
  split at h
  · rename_i h1
    split at h
    · rename_i h2
      have := mj_sh_ar a h1 h2
      omega
    · split at h
      · exact ⟨h1, by assumption, by omega⟩
      · omega
  · split at h
    · omega
    · split at h
      · omega
      · split at h <;> omega
theorem mj_ak_s {a : Nat} (h : mj_ak a = 3) : 100 ≤ a ∧ a < 110 := by
  unfold mj_ak at h
  split at h
  · rename_i h1
    split at h
    · rename_i h2
      have := mj_sh_ar a h1 h2
      omega
    · split at h <;> omega
  · split at h
    · omega
    · split at h
      · omega
      · split at h <;> omega
theorem mj_ak_l {a : Nat} (h : mj_ak a = 4) : a = 400 := by
  unfold mj_ak at h
  split at h
  · rename_i h1
    split at h
    · rename_i h2
      have := mj_sh_ar a h1 h2
      omega
    · split at h <;> omega
  · split at h
    · omega
    · split at h
      · omega
      · split at h
        · assumption
        · omega
/-! the world's cells, one by one -/
theorem mj_wk {ad : Nat → Nat} {tA : Nat → ClassId} {M : mj_M} {k : Nat} (hk : k < 74) : (mj_w ad tA M)[k]? = some (ad k, mj_ce ad tA M k) := by
  simp [mj_w, List.getElem?_map, List.getElem?_range hk]
theorem mj_wl {ad : Nat → Nat} {tA : Nat → ClassId} {M : mj_M} : (mj_w ad tA M).length = 74 := by simp [mj_w]
theorem mj_ws {ad : Nat → Nat} {tA : Nat → ClassId} {M M' : mj_M} {k : Nat} {e : va_E} (h : mj_ce ad tA M' k = e) (ho : ∀ i, i ≠ k → mj_ce ad tA M' i = mj_ce ad tA M i) : (mj_w ad tA M).set k (ad k, e) = mj_w ad tA M' := by
  apply List.ext_getElem?
  intro i
  rw [List.getElem?_set]
  by_cases hi : k = i
  · subst hi
    by_cases hk : k < 74
    · rw [if_pos rfl, if_pos (by rw [mj_wl]; exact hk), mj_wk hk, h]
    · rw [if_pos rfl, if_neg (by rw [mj_wl]; exact hk), List.getElem?_eq_none (by rw [mj_wl]; omega)]
  · rw [if_neg hi]
    by_cases hk : i < 74
    · rw [mj_wk hk, mj_wk hk, ho i (fun q => hi q.symm)]
    · rw [List.getElem?_eq_none (by rw [mj_wl]; omega), List.getElem?_eq_none (by rw [mj_wl]; omega)]
theorem mj_up_o {M : mj_M} {a j b : Nat} {x : Int32} (h : b ≠ a) : mj_up M a j x b = M b := by
  funext i
  simp [mj_up, h]
theorem mj_up_s {M : mj_M} {a j : Nat} {x : Int32} : mj_up M a j x a = upd (M a) j x := by
  funext i
  simp [mj_up, upd]
theorem mj_ce_o {ad : Nat → Nat} {tA : Nat → ClassId} {M M' : mj_M} {i : Nat} (h : M' i = M i) : mj_ce ad tA M' i = mj_ce ad tA M i := by
  unfold mj_ce mj_fv
  rw [h]
theorem mj_wD {ad : Nat → Nat} {tA : Nat → ClassId} {M : mj_M} {A : Nat → Prop} (hI : mj_in ad) (hA : ∀ k, k < 74 → A (ad k)) : va_D A (mj_w ad tA M) := by
  have hlt : ∀ {i : Nat} {q}, (mj_w ad tA M)[i]? = some q → i < 74 := fun {i q} h => by
    have := (List.getElem?_eq_some_iff.mp h).1
    rwa [mj_wl] at this
  refine ⟨fun i j p q hp hq e => ?_, fun k q hk => ?_⟩
  · have hi := hlt hp
    have hj := hlt hq
    rw [mj_wk hi] at hp
    rw [mj_wk hj] at hq
    cases hp; cases hq
    exact hI i j hi hj e
  · have h := hlt hk
    rw [mj_wk h] at hk
    cases hk
    exact hA k h
theorem mj_ce_ob {ad : Nat → Nat} {tA : Nat → ClassId} {M : mj_M} {a c n : Nat} (h : mj_sh a = (0, c, n)) : mj_ce ad tA M a = .inr (c, (List.range n).map (mj_fv ad M a c)) := by
  unfold mj_ce
  rw [h]
  rfl
theorem mj_ce_ar {ad : Nat → Nat} {tA : Nat → ClassId} {M : mj_M} {a t n : Nat} (h : mj_sh a = (1, t, n)) : mj_ce ad tA M a = .inl (tA t, n, .inl (M a)) := by
  unfold mj_ce
  rw [h]
  rfl
theorem mj_ce_ra {ad : Nat → Nat} {tA : Nat → ClassId} {M : mj_M} {a t n : Nat} (h : mj_sh a = (2, t, n)) : mj_ce ad tA M a = .inl (tA t, n, .inr (.inr (.inr (.inr (fun j => some (ad (mj_pt a j))))))) := by
  unfold mj_ce
  rw [h]
  rfl
theorem mj_fs_set {ad : Nat → Nat} {M : mj_M} {a c n j : Nat} {x : Int32} (hr : mj_rf c j = false) : ((List.range n).map (mj_fv ad M a c)).set j (.int x) = (List.range n).map (mj_fv ad (mj_up M a j x) a c) := by
  apply List.ext_getElem?
  intro i
  rw [List.getElem?_set]
  by_cases hi : j = i
  · subst hi
    by_cases hk : j < n
    · rw [if_pos rfl, if_pos (by simpa using hk)]
      simp [List.getElem?_map, List.getElem?_range hk, mj_fv, hr, mj_up]
    · rw [if_pos rfl, if_neg (by simpa using hk), List.getElem?_eq_none (by simpa using hk)]
  · rw [if_neg hi]
    by_cases hk : i < n
    · have hi' : ¬ i = j := fun q => hi q.symm
      simp [List.getElem?_map, List.getElem?_range hk, mj_fv, mj_up, hi']
    · rw [List.getElem?_eq_none (by simpa using hk), List.getElem?_eq_none (by simpa using hk)]
end
section
/-! an instruction of the machine as one of the mini machine, and that the formula is enough -/
def mj_fq (own idx : Nat) : Option (Nat × Nat × Nat × Nat × Bool) := mj_fl.find? (fun q => q.1 == own && q.2.1 == idx)
def mj_gq (own idx : Nat) : Option (Nat × Nat × Nat × Bool) := mj_gl.find? (fun q => q.1 == own && q.2.1 == idx)
def mj_kq (own idx : Nat) : Option (Nat × Nat × Int32) := mj_kl.find? (fun q => q.1 == own && q.2.1 == idx)
def mj_tq (idx : Nat) : Option Nat := (mj_st.map (·.1)).findIdx? (fun i => i == idx)
def mj_no : mj_O := (0, 0, 0, 0, [])
def mj_tg (pc : Nat) (off : Int) (c : Nat) : mj_O := if 0 ≤ (pc : Int) + off then (c, ((pc : Int) + off).toNat, 0, 0, []) else mj_no
def mj_okI (z : Int) : Bool := decide (-2147483648 ≤ z) && decide (z < 2147483648)
def mj_tsw (pc : Nat) (d lo hi : Int) (offs : Array Int) : mj_O :=
  if (decide (0 ≤ (pc : Int) + d) && (offs.toList.all (fun o => decide (0 ≤ (pc : Int) + o)) && (mj_okI lo && (mj_okI hi && decide ((offs.size : Int) = hi - lo + 1))))) = true then
    (43, ((pc : Int) + d).toNat, 0, 0, (List.range offs.size).map (fun i : Nat => (Int32.ofInt (lo + (i : Int)), ((pc : Int) + offs.toList.getD i 0).toNat)))
  else mj_no
def mj_lsw (pc : Nat) (d : Int) (ps : Array (Int × Int)) : mj_O :=
  if (decide (0 ≤ (pc : Int) + d) && (ps.toList.all (fun q => decide (0 ≤ (pc : Int) + q.2) && mj_okI q.1) && (ps.toList.zip (ps.toList.drop 1)).all (fun (a, next) => a.1 < next.1))) = true then
    (43, ((pc : Int) + d).toNat, 0, 0, ps.toList.map (fun q => (Int32.ofInt q.1, ((pc : Int) + q.2).toNat)))
  else mj_no
def mj_gf (own idx : Nat) : mj_O := match mj_fq own idx with
  | some q => if mj_rf q.2.2.1 q.2.2.2.1 = true then (51, q.2.2.1, q.2.2.2.1, 0, []) else (50, q.2.2.1, q.2.2.2.1, 0, [])
  | none => mj_no
def mj_pf (own idx : Nat) : mj_O := match mj_fq own idx with
  | some q => if mj_rf q.2.2.1 q.2.2.2.1 = true then mj_no else if mj_bf q.2.2.1 q.2.2.2.1 = true then (53, q.2.2.1, q.2.2.2.1, 0, []) else (52, q.2.2.1, q.2.2.2.1, 0, [])
  | none => mj_no
def mj_gs (own idx : Nat) : mj_O := match mj_gq own idx with
  | some q => (2, 100 + q.2.2.1, 0, 0, [])
  | none => mj_no
def mj_lc (own idx : Nat) : mj_O := match mj_kq own idx with
  | some q => (1, 0, 0, q.2.2, [])
  | none => if own = 5 then (match mj_tq idx with
    | some i => (2, 200 + i, 0, 0, [])
    | none => mj_no) else mj_no
def mj_tr (own pc : Nat) (q : Instr × Nat) : mj_O := match q with
  | (.iconst z, 1) => (1, 0, 0, Int32.ofInt z, [])
  | (.bipush z, 2) => (1, 0, 0, (Int8.ofInt z).toInt32, [])
  | (.sipush z, 3) => (1, 0, 0, (Int16.ofInt z).toInt32, [])
  | (.ldc i, 2) => mj_lc own i
  | (.iload_n n, 1) => (3, n.val, 0, 0, [])
  | (.iload n, 2) => (3, n, 0, 0, [])
  | (.aload_n n, 1) => (4, n.val, 0, 0, [])
  | (.aload n, 2) => (4, n, 0, 0, [])
  | (.istore_n n, 1) => (5, n.val, 0, 0, [])
  | (.istore n, 2) => (5, n, 0, 0, [])
  | (.astore_n n, 1) => (6, n.val, 0, 0, [])
  | (.astore n, 2) => (6, n, 0, 0, [])
  | (.iinc n z, 3) => (7, n, 0, Int32.ofInt z, [])
  | (.iadd, 1) => (10, 0, 0, 0, [])
  | (.isub, 1) => (11, 0, 0, 0, [])
  | (.imul, 1) => (12, 0, 0, 0, [])
  | (.idiv, 1) => (13, 0, 0, 0, [])
  | (.irem, 1) => (14, 0, 0, 0, [])
  | (.ineg, 1) => (15, 0, 0, 0, [])
  | (.ishl, 1) => (16, 0, 0, 0, [])
  | (.ishr, 1) => (17, 0, 0, 0, [])
  | (.iand, 1) => (18, 0, 0, 0, [])
  | (.ior, 1) => (19, 0, 0, 0, [])
  | (.i2c, 1) => (20, 0, 0, 0, [])
  | (.dup, 1) => (21, 0, 0, 0, [])
  | (.dup2, 1) => (22, 0, 0, 0, [])
  | (.pop, 1) => (23, 0, 0, 0, [])
  | (.ifCond .eq o, 3) => mj_tg pc o 30
  | (.ifCond .ne o, 3) => mj_tg pc o 31
  | (.ifCond .lt o, 3) => mj_tg pc o 32
  | (.ifCond .ge o, 3) => mj_tg pc o 33
  | (.ifCond .gt o, 3) => mj_tg pc o 34
  | (.ifCond .le o, 3) => mj_tg pc o 35
  | (.if_icmp .eq o, 3) => mj_tg pc o 36
  | (.if_icmp .ne o, 3) => mj_tg pc o 37
  | (.if_icmp .lt o, 3) => mj_tg pc o 38
  | (.if_icmp .ge o, 3) => mj_tg pc o 39
  | (.if_icmp .gt o, 3) => mj_tg pc o 40
  | (.if_icmp .le o, 3) => mj_tg pc o 41
  | (.goto o, 3) => mj_tg pc o 42
  | (.tableswitch d lo hi offs, _) => mj_tsw pc d lo hi offs
  | (.lookupswitch d ps, _) => mj_lsw pc d ps
  | (.getfield i, 3) => mj_gf own i
  | (.putfield i, 3) => mj_pf own i
  | (.getstatic i, 3) => mj_gs own i
  | (.iaload, 1) => (60, 0, 0, 0, [])
  | (.iastore, 1) => (61, 0, 0, 0, [])
  | (.caload, 1) => (62, 0, 0, 0, [])
  | (.castore, 1) => (63, 0, 0, 0, [])
  | (.aaload, 1) => (64, 0, 0, 0, [])
  | (.arraylength, 1) => (65, 0, 0, 0, [])
  | (.invokevirtual i, 3) => (70, 3 * i, 0, 0, [])
  | (.invokespecial i, 3) => (70, 3 * i + 1, 0, 0, [])
  | (.invokestatic i, 3) => (70, 3 * i + 2, 0, 0, [])
  | (.ireturn, 1) => (80, 0, 0, 0, [])
  | (.areturn, 1) => (81, 0, 0, 0, [])
  | (.return_, 1) => (82, 0, 0, 0, [])
  | _ => mj_no
def mj_ch (own : Nat) (cc : ByteArray) : Nat → List mj_O → Nat → Bool
  | pc, [], e => pc == e
  | pc, o :: t, e => match decode cc pc with
    | .ok q => decide (mj_tr own pc q = o) && mj_ch own cc (pc + q.2) t e
    | _ => false
/-- locals as the machine has them -/
def mj_cL (ad : Nat → Nat) : Nat → mj_L → List (Nat × Value)
  | _, [] => []
  | i, none :: t => mj_cL ad (i + 1) t
  | i, some v :: t => (i, mj_cv ad v) :: mj_cL ad (i + 1) t
theorem mj_cL_g {ad : Nat → Nat} {v : mj_V} : ∀ {L : mj_L} {n i : Nat}, mj_g L n = some v → (i + n, mj_cv ad v) ∈ mj_cL ad i L := by
  intro L
  induction L with
  | nil => intro n i h; simp [mj_g] at h
  | cons a t ih =>
    intro n i h
    cases n with
    | zero =>
      simp only [mj_g] at h
      subst h
      exact List.mem_cons_self
    | succ n =>
      simp only [mj_g] at h
      have h1 := ih (i := i + 1) h
      rw [show i + 1 + n = i + (n + 1) by omega] at h1
      cases a with
      | none => exact h1
      | some w => exact List.mem_cons_of_mem _ h1
theorem mj_cL_ge {ad : Nat → Nat} : ∀ {L : mj_L} {i : Nat} {q : Nat × Value}, q ∈ mj_cL ad i L → i ≤ q.1 := by
  intro L
  induction L with
  | nil => intro i q h; simp [mj_cL] at h
  | cons a t ih =>
    intro i q h
    cases a with
    | none => have := ih (i := i + 1) h; omega
    | some w =>
      rcases List.mem_cons.mp h with h | h
      · rw [h]; exact Nat.le_refl _
      · have := ih (i := i + 1) h; omega
theorem mj_cv_cat {ad : Nat → Nat} (v : mj_V) : (mj_cv ad v).category = 1 := by cases v <;> rfl
theorem mj_cL_cat {ad : Nat → Nat} : ∀ {L : mj_L} {i : Nat} {q : Nat × Value}, q ∈ mj_cL ad i L → q.2.category = 1 := by
  intro L
  induction L with
  | nil => intro i q h; simp [mj_cL] at h
  | cons a t ih =>
    intro i q h
    cases a with
    | none => exact ih (i := i + 1) h
    | some w =>
      rcases List.mem_cons.mp h with h | h
      · rw [h]; exact mj_cv_cat w
      · exact ih (i := i + 1) h
/-- a store: the new list's entries are the stored one, or were there at another place -/
theorem mj_so_of {ad : Nat → Nat} {v : mj_V} : ∀ {L : mj_L} {n i : Nat} {f : mj_L → Prop}, mj_so L n v f → ∃ L' : mj_L, f L' ∧ L'.length = L.length ∧ n < L.length ∧ ∀ q ∈ mj_cL ad i L', q = (i + n, mj_cv ad v) ∨ (q ∈ mj_cL ad i L ∧ q.1 ≠ i + n) := by
  intro L
  induction L with
  | nil => intro n i f h; exact False.elim h
  | cons a t ih =>
    intro n i f h
    cases n with
    | zero =>
      refine ⟨some v :: t, h, rfl, Nat.zero_lt_succ _, fun q hq => ?_⟩
      rcases List.mem_cons.mp hq with hq | hq
      · exact Or.inl hq
      · refine Or.inr ⟨?_, ?_⟩
        · cases a with
          | none => exact hq
          | some w => exact List.mem_cons_of_mem _ hq
        · have := mj_cL_ge hq; omega
    | succ n =>
      obtain ⟨t', h1, h2, h3, h4⟩ := ih (i := i + 1) (show mj_so t n v (fun t' => f (a :: t')) from h)
      refine ⟨a :: t', h1, by simp [h2], by simp only [List.length_cons]; omega, fun q hq => ?_⟩
      cases a with
      | none =>
        rcases h4 q hq with h5 | ⟨h5, h6⟩
        · exact Or.inl (by rw [h5, show i + 1 + n = i + (n + 1) by omega])
        · exact Or.inr ⟨h5, by omega⟩
      | some w =>
        rcases List.mem_cons.mp hq with hq | hq
        · exact Or.inr ⟨by rw [hq]; exact List.mem_cons_self, by rw [hq]; simp only []; omega⟩
        · rcases h4 q hq with h5 | ⟨h5, h6⟩
          · exact Or.inl (by rw [h5, show i + 1 + n = i + (n + 1) by omega])
          · exact Or.inr ⟨List.mem_cons_of_mem _ h5, by omega⟩
theorem mj_has_so {ad : Nat → Nat} {ls : Array Slot} {nL n : Nat} {L L' : mj_L} {v : mj_V} (h4 : ∀ q ∈ mj_cL ad 0 L', q = (0 + n, mj_cv ad v) ∨ (q ∈ mj_cL ad 0 L ∧ q.1 ≠ 0 + n)) (h : lv_has ls nL ((n, mj_cv ad v) :: (mj_cL ad 0 L).filter (fun q => !(q.1 == n) && !(q.1 + 1 == n && q.2.category == 2)))) : lv_has ls nL (mj_cL ad 0 L') := by
  refine ⟨h.1, h.2.1, fun q hq => h.2.2 q ?_⟩
  rcases h4 q hq with h5 | ⟨h5, h6⟩
  · rw [h5, Nat.zero_add]; exact List.mem_cons_self
  · refine List.mem_cons_of_mem _ (List.mem_filter.mpr ⟨h5, ?_⟩)
    rw [mj_cL_cat h5]
    simp only [Nat.zero_add] at h6
    simp [h6]
theorem mj_li_of {o : Option mj_V} {f : Int32 → Prop} (h : mj_li o f) : ∃ x, o = some (.inl x) ∧ f x := by
  match o, h with
  | some (.inl x), h => exact ⟨x, rfl, h⟩
theorem mj_lr_of {o : Option mj_V} {f : Nat → Prop} (h : mj_lr o f) : ∃ x, o = some (.inr x) ∧ f x := by
  match o, h with
  | some (.inr x), h => exact ⟨x, rfl, h⟩
theorem mj_pi_of {st : mj_S} {f : Int32 → mj_S → Prop} (h : mj_pi st f) : ∃ x r, st = .inl x :: r ∧ f x r := by
  match st, h with
  | .inl x :: r, h => exact ⟨x, r, rfl, h⟩
theorem mj_pr_of {st : mj_S} {f : Nat → mj_S → Prop} (h : mj_pr st f) : ∃ x r, st = .inr x :: r ∧ f x r := by
  match st, h with
  | .inr x :: r, h => exact ⟨x, r, rfl, h⟩
theorem mj_pv_of {st : mj_S} {f : mj_V → mj_S → Prop} (h : mj_pv st f) : ∃ x r, st = x :: r ∧ f x r := by
  match st, h with
  | x :: r, h => exact ⟨x, r, rfl, h⟩
theorem mj_sw_of {d : Nat} {x : Int32} {f : Nat → Prop} : ∀ {ps : List (Int32 × Nat)}, mj_sw ps d x f → (∃ q ∈ ps, x = q.1 ∧ f q.2) ∨ ((∀ q ∈ ps, ¬ x = q.1) ∧ f d) := by
  intro ps
  induction ps with
  | nil => intro h; exact Or.inr ⟨fun q hq => (List.not_mem_nil hq).elim, h⟩
  | cons q t ih =>
    intro h
    by_cases e : x = q.1
    · exact Or.inl ⟨q, List.mem_cons_self, e, h.1 e⟩
    · rcases ih (h.2 e) with ⟨r, h1, h2⟩ | ⟨h1, h2⟩
      · exact Or.inl ⟨r, List.mem_cons_of_mem _ h1, h2⟩
      · refine Or.inr ⟨fun r hr => ?_, h2⟩
        rcases List.mem_cons.mp hr with hr | hr
        · rw [hr]; exact e
        · exact h1 r hr
theorem mj_ta_of : ∀ {n : Nat} {st : mj_S} {acc : List mj_V} {f : List mj_V → mj_S → Prop}, mj_ta n st acc f → ∃ as r, st = as.reverse ++ r ∧ as.length = n ∧ f (as ++ acc) r := by
  intro n
  induction n with
  | zero => intro st acc f h; exact ⟨[], st, rfl, rfl, h⟩
  | succ n ih =>
    intro st acc f h
    cases st with
    | nil => exact False.elim h
    | cons v st =>
      obtain ⟨as, r, h1, h2, h3⟩ := ih (show mj_ta n st (v :: acc) f from h)
      refine ⟨as ++ [v], r, by rw [h1]; simp, by simp [h2], by simpa using h3⟩
theorem mj_okI_of {z : Int} (h : mj_okI z = true) : (Int32.ofInt z).toInt = z := by
  unfold mj_okI at h
  simp only [Bool.and_eq_true, decide_eq_true_eq] at h
  rw [Int32.toInt_ofInt_of_le]
  · omega
  · omega
theorem mj_fq_of {own idx : Nat} {q} (h : mj_fq own idx = some q) : q ∈ mj_fl ∧ q.1 = own ∧ q.2.1 = idx := by
  have h1 := List.find?_some h
  simp only [Bool.and_eq_true, beq_iff_eq] at h1
  exact ⟨List.mem_of_find?_eq_some h, h1.1, h1.2⟩
theorem mj_gq_of {own idx : Nat} {q} (h : mj_gq own idx = some q) : q ∈ mj_gl ∧ q.1 = own ∧ q.2.1 = idx := by
  have h1 := List.find?_some h
  simp only [Bool.and_eq_true, beq_iff_eq] at h1
  exact ⟨List.mem_of_find?_eq_some h, h1.1, h1.2⟩
theorem mj_kq_of {own idx : Nat} {q} (h : mj_kq own idx = some q) : q ∈ mj_kl ∧ q.1 = own ∧ q.2.1 = idx := by
  have h1 := List.find?_some h
  simp only [Bool.and_eq_true, beq_iff_eq] at h1
  exact ⟨List.mem_of_find?_eq_some h, h1.1, h1.2⟩
end
section
/-! blocks of instructions, and that they are the code -/
def k_X0_init_0 : List mj_O := [(4, 0, 0, 0, []), (70, 10, 0, 0, []), (4, 0, 0, 0, []), (1, 0, 0, 0, []), (52, 0, 0, 0, []), (4, 0, 0, 0, []), (1, 0, 0, 0, []), (52, 0, 1, 0, []), (4, 0, 0, 0, []), (1, 0, 0, 0, []), (52, 0, 2, 0, []), (4, 0, 0, 0, []), (1, 0, 0, 1, []), (52, 0, 3, 0, []), (4, 0, 0, 0, []), (1, 0, 0, 0, []), (52, 0, 4, 0, []), (82, 0, 0, 0, [])]
theorem h_X0_init_0 : mj_ch 0 cX0_init 0 k_X0_init_0 30 = true := by decide +kernel
def k_X0_copyFrom_0 : List mj_O := [(4, 0, 0, 0, []), (4, 1, 0, 0, []), (50, 0, 0, 0, []), (52, 0, 0, 0, []), (4, 0, 0, 0, []), (4, 1, 0, 0, []), (50, 0, 1, 0, []), (52, 0, 1, 0, []), (4, 0, 0, 0, []), (4, 1, 0, 0, []), (50, 0, 2, 0, []), (52, 0, 2, 0, []), (4, 0, 0, 0, []), (4, 1, 0, 0, []), (50, 0, 3, 0, []), (52, 0, 3, 0, []), (4, 0, 0, 0, []), (4, 1, 0, 0, []), (50, 0, 4, 0, []), (52, 0, 4, 0, []), (82, 0, 0, 0, [])]
theorem h_X0_copyFrom_0 : mj_ch 0 cX0_copyFrom 0 k_X0_copyFrom_0 41 = true := by decide +kernel
def k_X0_beAs_0 : List mj_O := [(4, 1, 0, 0, []), (2, 102, 0, 0, []), (2, 103, 0, 0, []), (70, 104, 0, 0, []), (30, 19, 0, 0, []), (4, 1, 0, 0, []), (65, 0, 0, 0, []), (1, 0, 0, 5, []), (39, 21, 0, 0, [])]
theorem h_X0_beAs_0 : mj_ch 0 cX0_beAs 0 k_X0_beAs_0 19 = true := by decide +kernel
def k_X0_beAs_19 : List mj_O := [(1, 0, 0, 0, []), (80, 0, 0, 0, [])]
theorem h_X0_beAs_19 : mj_ch 0 cX0_beAs 19 k_X0_beAs_19 21 = true := by decide +kernel
def k_X0_beAs_21 : List mj_O := [(4, 0, 0, 0, []), (4, 1, 0, 0, []), (1, 0, 0, 0, []), (60, 0, 0, 0, []), (52, 0, 0, 0, []), (4, 0, 0, 0, []), (4, 1, 0, 0, []), (1, 0, 0, 1, []), (60, 0, 0, 0, []), (52, 0, 1, 0, []), (4, 0, 0, 0, []), (4, 1, 0, 0, []), (1, 0, 0, 2, []), (60, 0, 0, 0, []), (52, 0, 2, 0, []), (4, 0, 0, 0, []), (4, 1, 0, 0, []), (1, 0, 0, 3, []), (60, 0, 0, 0, []), (52, 0, 3, 0, []), (4, 0, 0, 0, []), (4, 1, 0, 0, []), (1, 0, 0, 4, []), (60, 0, 0, 0, []), (52, 0, 4, 0, []), (1, 0, 0, 1, []), (80, 0, 0, 0, [])]
theorem h_X0_beAs_21 : mj_ch 0 cX0_beAs 21 k_X0_beAs_21 58 = true := by decide +kernel
def k_X0_partOf_0 : List mj_O := [(3, 1, 0, 0, []), (43, 52, 0, 0, [(0, 32), (1, 37), (2, 42), (3, 47)])]
theorem h_X0_partOf_0 : mj_ch 0 cX0_partOf 0 k_X0_partOf_0 32 = true := by decide +kernel
def k_X0_partOf_32 : List mj_O := [(4, 0, 0, 0, []), (50, 0, 0, 0, []), (80, 0, 0, 0, [])]
theorem h_X0_partOf_32 : mj_ch 0 cX0_partOf 32 k_X0_partOf_32 37 = true := by decide +kernel
def k_X0_partOf_37 : List mj_O := [(4, 0, 0, 0, []), (50, 0, 1, 0, []), (80, 0, 0, 0, [])]
theorem h_X0_partOf_37 : mj_ch 0 cX0_partOf 37 k_X0_partOf_37 42 = true := by decide +kernel
def k_X0_partOf_42 : List mj_O := [(4, 0, 0, 0, []), (50, 0, 2, 0, []), (80, 0, 0, 0, [])]
theorem h_X0_partOf_42 : mj_ch 0 cX0_partOf 42 k_X0_partOf_42 47 = true := by decide +kernel
def k_X0_partOf_47 : List mj_O := [(4, 0, 0, 0, []), (50, 0, 3, 0, []), (80, 0, 0, 0, [])]
theorem h_X0_partOf_47 : mj_ch 0 cX0_partOf 47 k_X0_partOf_47 52 = true := by decide +kernel
def k_X0_partOf_52 : List mj_O := [(4, 0, 0, 0, []), (50, 0, 4, 0, []), (80, 0, 0, 0, [])]
theorem h_X0_partOf_52 : mj_ch 0 cX0_partOf 52 k_X0_partOf_52 57 = true := by decide +kernel
def k_X0_put_0 : List mj_O := [(4, 0, 0, 0, []), (3, 1, 0, 0, []), (70, 114, 0, 0, []), (5, 3, 0, 0, []), (3, 1, 0, 0, []), (1, 0, 0, 2, []), (37, 19, 0, 0, []), (4, 0, 0, 0, []), (3, 2, 0, 0, []), (52, 0, 2, 0, []), (42, 29, 0, 0, [])]
theorem h_X0_put_0 : mj_ch 0 cX0_put 0 k_X0_put_0 19 = true := by decide +kernel
def k_X0_put_19 : List mj_O := [(3, 1, 0, 0, []), (1, 0, 0, 3, []), (37, 29, 0, 0, []), (4, 0, 0, 0, []), (3, 2, 0, 0, []), (52, 0, 3, 0, [])]
theorem h_X0_put_19 : mj_ch 0 cX0_put 19 k_X0_put_19 29 = true := by decide +kernel
def k_X0_put_29 : List mj_O := [(3, 3, 0, 0, []), (80, 0, 0, 0, [])]
theorem h_X0_put_29 : mj_ch 0 cX0_put 29 k_X0_put_29 31 = true := by decide +kernel
def k_X0_wakes_0 : List mj_O := [(4, 0, 0, 0, []), (50, 0, 0, 0, []), (43, 68, 0, 0, [(2, 32), (3, 49)])]
theorem h_X0_wakes_0 : mj_ch 0 cX0_wakes 0 k_X0_wakes_0 32 = true := by decide +kernel
def k_X0_wakes_32 : List mj_O := [(4, 0, 0, 0, []), (50, 0, 4, 0, []), (1, 0, 0, 8, []), (10, 0, 0, 0, []), (3, 2, 0, 0, []), (38, 47, 0, 0, []), (1, 0, 0, 1, []), (42, 48, 0, 0, [])]
theorem h_X0_wakes_32 : mj_ch 0 cX0_wakes 32 k_X0_wakes_32 47 = true := by decide +kernel
def k_X0_wakes_47 : List mj_O := [(1, 0, 0, 0, [])]
theorem h_X0_wakes_47 : mj_ch 0 cX0_wakes 47 k_X0_wakes_47 48 = true := by decide +kernel
def k_X0_wakes_48 : List mj_O := [(80, 0, 0, 0, [])]
theorem h_X0_wakes_48 : mj_ch 0 cX0_wakes 48 k_X0_wakes_48 49 = true := by decide +kernel
def k_X0_wakes_49 : List mj_O := [(4, 0, 0, 0, []), (50, 0, 4, 0, []), (3, 1, 0, 0, []), (1, 0, 0, 10, []), (13, 0, 0, 0, []), (10, 0, 0, 0, []), (3, 2, 0, 0, []), (38, 66, 0, 0, []), (1, 0, 0, 1, []), (42, 67, 0, 0, [])]
theorem h_X0_wakes_49 : mj_ch 0 cX0_wakes 49 k_X0_wakes_49 66 = true := by decide +kernel
def k_X0_wakes_66 : List mj_O := [(1, 0, 0, 0, [])]
theorem h_X0_wakes_66 : mj_ch 0 cX0_wakes 66 k_X0_wakes_66 67 = true := by decide +kernel
def k_X0_wakes_67 : List mj_O := [(80, 0, 0, 0, [])]
theorem h_X0_wakes_67 : mj_ch 0 cX0_wakes 67 k_X0_wakes_67 68 = true := by decide +kernel
def k_X0_wakes_68 : List mj_O := [(4, 0, 0, 0, []), (50, 0, 4, 0, []), (3, 2, 0, 0, []), (38, 80, 0, 0, []), (1, 0, 0, 1, []), (42, 81, 0, 0, [])]
theorem h_X0_wakes_68 : mj_ch 0 cX0_wakes 68 k_X0_wakes_68 80 = true := by decide +kernel
def k_X0_wakes_80 : List mj_O := [(1, 0, 0, 0, [])]
theorem h_X0_wakes_80 : mj_ch 0 cX0_wakes 80 k_X0_wakes_80 81 = true := by decide +kernel
def k_X0_wakes_81 : List mj_O := [(80, 0, 0, 0, [])]
theorem h_X0_wakes_81 : mj_ch 0 cX0_wakes 81 k_X0_wakes_81 82 = true := by decide +kernel
def k_X0_mayPress_0 : List mj_O := [(4, 0, 0, 0, []), (50, 0, 0, 0, []), (43, 52, 0, 0, [(1, 40), (2, 40), (3, 52), (4, 52), (5, 50)])]
theorem h_X0_mayPress_0 : mj_ch 0 cX0_mayPress 0 k_X0_mayPress_0 40 = true := by decide +kernel
def k_X0_mayPress_40 : List mj_O := [(3, 1, 0, 0, []), (31, 48, 0, 0, []), (1, 0, 0, 1, []), (42, 49, 0, 0, [])]
theorem h_X0_mayPress_40 : mj_ch 0 cX0_mayPress 40 k_X0_mayPress_40 48 = true := by decide +kernel
def k_X0_mayPress_48 : List mj_O := [(1, 0, 0, 0, [])]
theorem h_X0_mayPress_48 : mj_ch 0 cX0_mayPress 48 k_X0_mayPress_48 49 = true := by decide +kernel
def k_X0_mayPress_49 : List mj_O := [(80, 0, 0, 0, [])]
theorem h_X0_mayPress_49 : mj_ch 0 cX0_mayPress 49 k_X0_mayPress_49 50 = true := by decide +kernel
def k_X0_mayPress_50 : List mj_O := [(1, 0, 0, 0, []), (80, 0, 0, 0, [])]
theorem h_X0_mayPress_50 : mj_ch 0 cX0_mayPress 50 k_X0_mayPress_50 52 = true := by decide +kernel
def k_X0_mayPress_52 : List mj_O := [(1, 0, 0, 1, []), (80, 0, 0, 0, [])]
theorem h_X0_mayPress_52 : mj_ch 0 cX0_mayPress 52 k_X0_mayPress_52 54 = true := by decide +kernel
def k_X0_gap_0 : List mj_O := [(4, 0, 0, 0, []), (50, 0, 0, 0, []), (43, 45, 0, 0, [(3, 32), (4, 34)])]
theorem h_X0_gap_0 : mj_ch 0 cX0_gap 0 k_X0_gap_0 32 = true := by decide +kernel
def k_X0_gap_32 : List mj_O := [(1, 0, 0, 1, []), (80, 0, 0, 0, [])]
theorem h_X0_gap_32 : mj_ch 0 cX0_gap 32 k_X0_gap_32 34 = true := by decide +kernel
def k_X0_gap_34 : List mj_O := [(1, 0, 0, 1, []), (4, 0, 0, 0, []), (50, 0, 3, 0, []), (3, 1, 0, 0, []), (11, 0, 0, 0, []), (70, 128, 0, 0, []), (80, 0, 0, 0, [])]
theorem h_X0_gap_34 : mj_ch 0 cX0_gap 34 k_X0_gap_34 45 = true := by decide +kernel
def k_X0_gap_45 : List mj_O := [(4, 0, 0, 0, []), (50, 0, 3, 0, []), (80, 0, 0, 0, [])]
theorem h_X0_gap_45 : mj_ch 0 cX0_gap 45 k_X0_gap_45 50 = true := by decide +kernel
def k_X1_live_0 : List mj_O := [(3, 2, 0, 0, []), (32, 12, 0, 0, []), (3, 2, 0, 0, []), (4, 1, 0, 0, []), (50, 2, 3, 0, []), (38, 13, 0, 0, [])]
theorem h_X1_live_0 : mj_ch 1 cX1_live 0 k_X1_live_0 12 = true := by decide +kernel
def k_X1_live_12 : List mj_O := [(82, 0, 0, 0, [])]
theorem h_X1_live_12 : mj_ch 1 cX1_live 12 k_X1_live_12 13 = true := by decide +kernel
def k_X1_live_13 : List mj_O := [(4, 0, 0, 0, []), (4, 1, 0, 0, []), (3, 2, 0, 0, []), (70, 117, 0, 0, []), (1, 0, 0, 0, []), (5, 4, 0, 0, [])]
theorem h_X1_live_13 : mj_ch 1 cX1_live 13 k_X1_live_13 22 = true := by decide +kernel
def k_X1_live_22 : List mj_O := [(3, 4, 0, 0, []), (1, 0, 0, 1200, []), (39, 171, 0, 0, []), (4, 0, 0, 0, []), (50, 1, 3, 0, []), (1, 0, 0, 300, []), (37, 171, 0, 0, []), (4, 0, 0, 0, []), (70, 129, 0, 0, []), (5, 5, 0, 0, []), (3, 5, 0, 0, []), (32, 57, 0, 0, []), (3, 5, 0, 0, []), (1, 0, 0, 4, []), (38, 58, 0, 0, [])]
theorem h_X1_live_22 : mj_ch 1 cX1_live 22 k_X1_live_22 57 = true := by decide +kernel
def k_X1_live_57 : List mj_O := [(82, 0, 0, 0, [])]
theorem h_X1_live_57 : mj_ch 1 cX1_live 57 k_X1_live_57 58 = true := by decide +kernel
def k_X1_live_58 : List mj_O := [(4, 0, 0, 0, []), (51, 1, 0, 0, []), (3, 5, 0, 0, []), (60, 0, 0, 0, []), (5, 6, 0, 0, []), (4, 1, 0, 0, []), (51, 2, 1, 0, []), (3, 5, 0, 0, []), (64, 0, 0, 0, []), (6, 7, 0, 0, []), (3, 3, 0, 0, []), (1, 0, 0, (-1), []), (36, 108, 0, 0, []), (4, 7, 0, 0, []), (3, 6, 0, 0, []), (4, 1, 0, 0, []), (3, 3, 0, 0, []), (3, 6, 0, 0, []), (70, 153, 0, 0, []), (70, 165, 0, 0, []), (30, 108, 0, 0, []), (4, 0, 0, 0, []), (21, 0, 0, 0, []), (50, 1, 6, 0, []), (1, 0, 0, 1, []), (10, 0, 0, 0, []), (52, 1, 6, 0, [])]
theorem h_X1_live_58 : mj_ch 1 cX1_live 58 k_X1_live_58 108 = true := by decide +kernel
def k_X1_live_108 : List mj_O := [(4, 0, 0, 0, []), (51, 1, 1, 0, []), (3, 5, 0, 0, []), (60, 0, 0, 0, []), (5, 8, 0, 0, []), (4, 0, 0, 0, []), (4, 7, 0, 0, []), (3, 6, 0, 0, []), (4, 1, 0, 0, []), (3, 2, 0, 0, []), (3, 6, 0, 0, []), (70, 153, 0, 0, []), (3, 8, 0, 0, []), (70, 183, 0, 0, []), (30, 148, 0, 0, []), (4, 0, 0, 0, []), (51, 1, 1, 0, []), (3, 5, 0, 0, []), (22, 0, 0, 0, []), (60, 0, 0, 0, []), (1, 0, 0, 1, []), (10, 0, 0, 0, []), (61, 0, 0, 0, [])]
theorem h_X1_live_108 : mj_ch 1 cX1_live 108 k_X1_live_108 148 = true := by decide +kernel
def k_X1_live_148 : List mj_O := [(4, 0, 0, 0, []), (51, 1, 0, 0, []), (3, 5, 0, 0, []), (3, 6, 0, 0, []), (4, 7, 0, 0, []), (3, 8, 0, 0, []), (70, 195, 0, 0, []), (10, 0, 0, 0, []), (61, 0, 0, 0, []), (7, 4, 0, 1, []), (42, 22, 0, 0, [])]
theorem h_X1_live_148 : mj_ch 1 cX1_live 148 k_X1_live_148 171 = true := by decide +kernel
def k_X1_live_171 : List mj_O := [(82, 0, 0, 0, [])]
theorem h_X1_live_171 : mj_ch 1 cX1_live 171 k_X1_live_171 172 = true := by decide +kernel
def k_X1_fallAsleep_0 : List mj_O := [(1, 0, 0, 0, []), (5, 3, 0, 0, [])]
theorem h_X1_fallAsleep_0 : mj_ch 1 cX1_fallAsleep 0 k_X1_fallAsleep_0 2 = true := by decide +kernel
def k_X1_fallAsleep_2 : List mj_O := [(3, 3, 0, 0, []), (1, 0, 0, 4, []), (39, 74, 0, 0, []), (3, 3, 0, 0, []), (4, 1, 0, 0, []), (50, 2, 4, 0, []), (39, 32, 0, 0, []), (4, 1, 0, 0, []), (51, 2, 1, 0, []), (3, 3, 0, 0, []), (64, 0, 0, 0, []), (50, 0, 1, 0, []), (3, 2, 0, 0, []), (37, 32, 0, 0, []), (1, 0, 0, 1, []), (42, 33, 0, 0, [])]
theorem h_X1_fallAsleep_2 : mj_ch 1 cX1_fallAsleep 2 k_X1_fallAsleep_2 32 = true := by decide +kernel
def k_X1_fallAsleep_32 : List mj_O := [(1, 0, 0, 0, [])]
theorem h_X1_fallAsleep_32 : mj_ch 1 cX1_fallAsleep 32 k_X1_fallAsleep_32 33 = true := by decide +kernel
def k_X1_fallAsleep_33 : List mj_O := [(5, 4, 0, 0, []), (4, 0, 0, 0, []), (51, 1, 0, 0, []), (3, 3, 0, 0, []), (3, 4, 0, 0, []), (30, 57, 0, 0, []), (4, 1, 0, 0, []), (51, 2, 1, 0, []), (3, 3, 0, 0, []), (64, 0, 0, 0, []), (50, 0, 2, 0, []), (42, 60, 0, 0, [])]
theorem h_X1_fallAsleep_33 : mj_ch 1 cX1_fallAsleep 33 k_X1_fallAsleep_33 57 = true := by decide +kernel
def k_X1_fallAsleep_57 : List mj_O := [(1, 0, 0, 300, [])]
theorem h_X1_fallAsleep_57 : mj_ch 1 cX1_fallAsleep 57 k_X1_fallAsleep_57 60 = true := by decide +kernel
def k_X1_fallAsleep_60 : List mj_O := [(61, 0, 0, 0, []), (4, 0, 0, 0, []), (51, 1, 1, 0, []), (3, 3, 0, 0, []), (1, 0, 0, 0, []), (61, 0, 0, 0, []), (7, 3, 0, 1, []), (42, 2, 0, 0, [])]
theorem h_X1_fallAsleep_60 : mj_ch 1 cX1_fallAsleep 60 k_X1_fallAsleep_60 74 = true := by decide +kernel
def k_X1_fallAsleep_74 : List mj_O := [(4, 0, 0, 0, []), (4, 1, 0, 0, []), (50, 2, 6, 0, []), (4, 1, 0, 0, []), (1, 0, 0, 63, []), (1, 0, 0, 0, []), (70, 243, 0, 0, []), (11, 0, 0, 0, []), (4, 1, 0, 0, []), (51, 2, 0, 0, []), (3, 2, 0, 0, []), (64, 0, 0, 0, []), (50, 3, 3, 0, []), (10, 0, 0, 0, []), (4, 1, 0, 0, []), (50, 2, 7, 0, []), (11, 0, 0, 0, []), (52, 1, 2, 0, []), (4, 0, 0, 0, []), (1, 0, 0, 300, []), (52, 1, 3, 0, []), (4, 0, 0, 0, []), (1, 0, 0, 0, []), (52, 1, 4, 0, []), (4, 0, 0, 0, []), (1, 0, 0, 0, []), (52, 1, 5, 0, []), (4, 0, 0, 0, []), (1, 0, 0, 0, []), (52, 1, 6, 0, []), (82, 0, 0, 0, [])]
theorem h_X1_fallAsleep_74 : mj_ch 1 cX1_fallAsleep 74 k_X1_fallAsleep_74 128 = true := by decide +kernel
def k_X1_firstToRing_0 : List mj_O := [(1, 0, 0, (-1), []), (5, 1, 0, 0, []), (1, 0, 0, 300, []), (5, 2, 0, 0, []), (1, 0, 0, 0, []), (5, 3, 0, 0, [])]
theorem h_X1_firstToRing_0 : mj_ch 1 cX1_firstToRing 0 k_X1_firstToRing_0 8 = true := by decide +kernel
def k_X1_firstToRing_8 : List mj_O := [(3, 3, 0, 0, []), (1, 0, 0, 4, []), (39, 38, 0, 0, []), (4, 0, 0, 0, []), (51, 1, 0, 0, []), (3, 3, 0, 0, []), (60, 0, 0, 0, []), (3, 2, 0, 0, []), (39, 32, 0, 0, []), (4, 0, 0, 0, []), (51, 1, 0, 0, []), (3, 3, 0, 0, []), (60, 0, 0, 0, []), (5, 2, 0, 0, []), (3, 3, 0, 0, []), (5, 1, 0, 0, [])]
theorem h_X1_firstToRing_8 : mj_ch 1 cX1_firstToRing 8 k_X1_firstToRing_8 32 = true := by decide +kernel
def k_X1_firstToRing_32 : List mj_O := [(7, 3, 0, 1, []), (42, 8, 0, 0, [])]
theorem h_X1_firstToRing_32 : mj_ch 1 cX1_firstToRing 32 k_X1_firstToRing_32 38 = true := by decide +kernel
def k_X1_firstToRing_38 : List mj_O := [(3, 1, 0, 0, []), (80, 0, 0, 0, [])]
theorem h_X1_firstToRing_38 : mj_ch 1 cX1_firstToRing 38 k_X1_firstToRing_38 40 = true := by decide +kernel
def k_X1_ring_0 : List mj_O := [(4, 1, 0, 0, []), (3, 2, 0, 0, []), (3, 3, 0, 0, []), (70, 165, 0, 0, []), (31, 21, 0, 0, []), (4, 0, 0, 0, []), (21, 0, 0, 0, []), (50, 1, 5, 0, []), (1, 0, 0, 1, []), (10, 0, 0, 0, []), (52, 1, 5, 0, []), (1, 0, 0, 0, []), (80, 0, 0, 0, [])]
theorem h_X1_ring_0 : mj_ch 1 cX1_ring 0 k_X1_ring_0 21 = true := by decide +kernel
def k_X1_ring_21 : List mj_O := [(4, 1, 0, 0, []), (3, 4, 0, 0, []), (70, 288, 0, 0, []), (30, 53, 0, 0, []), (4, 0, 0, 0, []), (50, 1, 2, 0, []), (3, 2, 0, 0, []), (11, 0, 0, 0, []), (3, 3, 0, 0, []), (10, 0, 0, 0, []), (35, 53, 0, 0, []), (4, 0, 0, 0, []), (21, 0, 0, 0, []), (50, 1, 4, 0, []), (1, 0, 0, 1, []), (10, 0, 0, 0, []), (52, 1, 4, 0, []), (1, 0, 0, 1, []), (80, 0, 0, 0, [])]
theorem h_X1_ring_21 : mj_ch 1 cX1_ring 21 k_X1_ring_21 53 = true := by decide +kernel
def k_X1_ring_53 : List mj_O := [(4, 0, 0, 0, []), (3, 2, 0, 0, []), (52, 1, 3, 0, []), (1, 0, 0, 0, []), (80, 0, 0, 0, [])]
theorem h_X1_ring_53 : mj_ch 1 cX1_ring 53 k_X1_ring_53 60 = true := by decide +kernel
def k_X2_copyFrom_0 : List mj_O := [(1, 0, 0, 0, []), (5, 2, 0, 0, [])]
theorem h_X2_copyFrom_0 : mj_ch 2 cX2_copyFrom 0 k_X2_copyFrom_0 2 = true := by decide +kernel
def k_X2_copyFrom_2 : List mj_O := [(3, 2, 0, 0, []), (1, 0, 0, 4, []), (39, 28, 0, 0, []), (4, 0, 0, 0, []), (51, 2, 0, 0, []), (3, 2, 0, 0, []), (64, 0, 0, 0, []), (4, 1, 0, 0, []), (51, 2, 0, 0, []), (3, 2, 0, 0, []), (64, 0, 0, 0, []), (70, 162, 0, 0, []), (7, 2, 0, 1, []), (42, 2, 0, 0, [])]
theorem h_X2_copyFrom_2 : mj_ch 2 cX2_copyFrom 2 k_X2_copyFrom_2 28 = true := by decide +kernel
def k_X2_copyFrom_28 : List mj_O := [(1, 0, 0, 0, []), (5, 2, 0, 0, [])]
theorem h_X2_copyFrom_28 : mj_ch 2 cX2_copyFrom 28 k_X2_copyFrom_28 30 = true := by decide +kernel
def k_X2_copyFrom_30 : List mj_O := [(3, 2, 0, 0, []), (1, 0, 0, 4, []), (39, 56, 0, 0, []), (4, 0, 0, 0, []), (51, 2, 1, 0, []), (3, 2, 0, 0, []), (64, 0, 0, 0, []), (4, 1, 0, 0, []), (51, 2, 1, 0, []), (3, 2, 0, 0, []), (64, 0, 0, 0, []), (70, 174, 0, 0, []), (7, 2, 0, 1, []), (42, 30, 0, 0, [])]
theorem h_X2_copyFrom_30 : mj_ch 2 cX2_copyFrom 30 k_X2_copyFrom_30 56 = true := by decide +kernel
def k_X2_copyFrom_56 : List mj_O := [(1, 0, 0, 0, []), (5, 2, 0, 0, [])]
theorem h_X2_copyFrom_56 : mj_ch 2 cX2_copyFrom 56 k_X2_copyFrom_56 58 = true := by decide +kernel
def k_X2_copyFrom_58 : List mj_O := [(3, 2, 0, 0, []), (1, 0, 0, 6, []), (39, 85, 0, 0, []), (4, 0, 0, 0, []), (51, 2, 2, 0, []), (3, 2, 0, 0, []), (64, 0, 0, 0, []), (4, 1, 0, 0, []), (51, 2, 2, 0, []), (3, 2, 0, 0, []), (64, 0, 0, 0, []), (70, 183, 0, 0, []), (7, 2, 0, 1, []), (42, 58, 0, 0, [])]
theorem h_X2_copyFrom_58 : mj_ch 2 cX2_copyFrom 58 k_X2_copyFrom_58 85 = true := by decide +kernel
def k_X2_copyFrom_85 : List mj_O := [(4, 0, 0, 0, []), (4, 1, 0, 0, []), (50, 2, 3, 0, []), (52, 2, 3, 0, []), (4, 0, 0, 0, []), (4, 1, 0, 0, []), (50, 2, 4, 0, []), (52, 2, 4, 0, []), (4, 0, 0, 0, []), (4, 1, 0, 0, []), (50, 2, 5, 0, []), (52, 2, 5, 0, []), (4, 0, 0, 0, []), (4, 1, 0, 0, []), (50, 2, 6, 0, []), (52, 2, 6, 0, []), (4, 0, 0, 0, []), (4, 1, 0, 0, []), (50, 2, 7, 0, []), (52, 2, 7, 0, []), (4, 0, 0, 0, []), (4, 1, 0, 0, []), (50, 2, 8, 0, []), (52, 2, 8, 0, []), (4, 0, 0, 0, []), (4, 1, 0, 0, []), (50, 2, 9, 0, []), (52, 2, 9, 0, []), (82, 0, 0, 0, [])]
theorem h_X2_copyFrom_85 : mj_ch 2 cX2_copyFrom 85 k_X2_copyFrom_85 142 = true := by decide +kernel
def k_X2_take_0 : List mj_O := [(3, 1, 0, 0, []), (43, 82, 0, 0, [(98, 70), (99, 58), (102, 76), (115, 52), (116, 64)])]
theorem h_X2_take_0 : mj_ch 2 cX2_take 0 k_X2_take_0 52 = true := by decide +kernel
def k_X2_take_52 : List mj_O := [(4, 0, 0, 0, []), (4, 2, 0, 0, []), (70, 192, 0, 0, []), (80, 0, 0, 0, [])]
theorem h_X2_take_52 : mj_ch 2 cX2_take 52 k_X2_take_52 58 = true := by decide +kernel
def k_X2_take_58 : List mj_O := [(4, 0, 0, 0, []), (4, 2, 0, 0, []), (70, 204, 0, 0, []), (80, 0, 0, 0, [])]
theorem h_X2_take_58 : mj_ch 2 cX2_take 58 k_X2_take_58 64 = true := by decide +kernel
def k_X2_take_64 : List mj_O := [(4, 0, 0, 0, []), (4, 2, 0, 0, []), (70, 213, 0, 0, []), (80, 0, 0, 0, [])]
theorem h_X2_take_64 : mj_ch 2 cX2_take 64 k_X2_take_64 70 = true := by decide +kernel
def k_X2_take_70 : List mj_O := [(4, 0, 0, 0, []), (4, 2, 0, 0, []), (70, 222, 0, 0, []), (80, 0, 0, 0, [])]
theorem h_X2_take_70 : mj_ch 2 cX2_take 70 k_X2_take_70 76 = true := by decide +kernel
def k_X2_take_76 : List mj_O := [(4, 0, 0, 0, []), (4, 2, 0, 0, []), (70, 231, 0, 0, []), (80, 0, 0, 0, [])]
theorem h_X2_take_76 : mj_ch 2 cX2_take 76 k_X2_take_76 82 = true := by decide +kernel
def k_X2_take_82 : List mj_O := [(1, 0, 0, 0, []), (80, 0, 0, 0, [])]
theorem h_X2_take_82 : mj_ch 2 cX2_take 82 k_X2_take_82 84 = true := by decide +kernel
def k_X2_takeSleeper_0 : List mj_O := [(4, 0, 0, 0, []), (50, 2, 3, 0, []), (1, 0, 0, 4, []), (39, 24, 0, 0, []), (4, 0, 0, 0, []), (51, 2, 0, 0, []), (4, 0, 0, 0, []), (50, 2, 3, 0, []), (64, 0, 0, 0, []), (4, 1, 0, 0, []), (70, 240, 0, 0, []), (31, 26, 0, 0, [])]
theorem h_X2_takeSleeper_0 : mj_ch 2 cX2_takeSleeper 0 k_X2_takeSleeper_0 24 = true := by decide +kernel
def k_X2_takeSleeper_24 : List mj_O := [(1, 0, 0, 0, []), (80, 0, 0, 0, [])]
theorem h_X2_takeSleeper_24 : mj_ch 2 cX2_takeSleeper 24 k_X2_takeSleeper_24 26 = true := by decide +kernel
def k_X2_takeSleeper_26 : List mj_O := [(4, 0, 0, 0, []), (21, 0, 0, 0, []), (50, 2, 3, 0, []), (1, 0, 0, 1, []), (10, 0, 0, 0, []), (52, 2, 3, 0, []), (1, 0, 0, 1, []), (80, 0, 0, 0, [])]
theorem h_X2_takeSleeper_26 : mj_ch 2 cX2_takeSleeper 26 k_X2_takeSleeper_26 38 = true := by decide +kernel
def k_X2_takeClock_0 : List mj_O := [(4, 0, 0, 0, []), (50, 2, 4, 0, []), (1, 0, 0, 4, []), (39, 24, 0, 0, []), (4, 0, 0, 0, []), (51, 2, 1, 0, []), (4, 0, 0, 0, []), (50, 2, 4, 0, []), (64, 0, 0, 0, []), (4, 1, 0, 0, []), (70, 249, 0, 0, []), (31, 26, 0, 0, [])]
theorem h_X2_takeClock_0 : mj_ch 2 cX2_takeClock 0 k_X2_takeClock_0 24 = true := by decide +kernel
def k_X2_takeClock_24 : List mj_O := [(1, 0, 0, 0, []), (80, 0, 0, 0, [])]
theorem h_X2_takeClock_24 : mj_ch 2 cX2_takeClock 24 k_X2_takeClock_24 26 = true := by decide +kernel
def k_X2_takeClock_26 : List mj_O := [(4, 0, 0, 0, []), (51, 2, 1, 0, []), (4, 0, 0, 0, []), (50, 2, 4, 0, []), (64, 0, 0, 0, []), (50, 0, 1, 0, []), (4, 0, 0, 0, []), (50, 2, 3, 0, []), (38, 47, 0, 0, []), (1, 0, 0, 0, []), (80, 0, 0, 0, [])]
theorem h_X2_takeClock_26 : mj_ch 2 cX2_takeClock 26 k_X2_takeClock_26 47 = true := by decide +kernel
def k_X2_takeClock_47 : List mj_O := [(4, 0, 0, 0, []), (21, 0, 0, 0, []), (50, 2, 4, 0, []), (1, 0, 0, 1, []), (10, 0, 0, 0, []), (52, 2, 4, 0, []), (1, 0, 0, 1, []), (80, 0, 0, 0, [])]
theorem h_X2_takeClock_47 : mj_ch 2 cX2_takeClock 47 k_X2_takeClock_47 59 = true := by decide +kernel
def k_X2_takeTask_0 : List mj_O := [(4, 0, 0, 0, []), (50, 2, 5, 0, []), (1, 0, 0, 6, []), (39, 25, 0, 0, []), (4, 0, 0, 0, []), (51, 2, 2, 0, []), (4, 0, 0, 0, []), (50, 2, 5, 0, []), (64, 0, 0, 0, []), (4, 1, 0, 0, []), (70, 261, 0, 0, []), (31, 27, 0, 0, [])]
theorem h_X2_takeTask_0 : mj_ch 2 cX2_takeTask 0 k_X2_takeTask_0 25 = true := by decide +kernel
def k_X2_takeTask_25 : List mj_O := [(1, 0, 0, 0, []), (80, 0, 0, 0, [])]
theorem h_X2_takeTask_25 : mj_ch 2 cX2_takeTask 25 k_X2_takeTask_25 27 = true := by decide +kernel
def k_X2_takeTask_27 : List mj_O := [(4, 0, 0, 0, []), (21, 0, 0, 0, []), (50, 2, 5, 0, []), (1, 0, 0, 1, []), (10, 0, 0, 0, []), (52, 2, 5, 0, []), (1, 0, 0, 1, []), (80, 0, 0, 0, [])]
theorem h_X2_takeTask_27 : mj_ch 2 cX2_takeTask 27 k_X2_takeTask_27 39 = true := by decide +kernel
def k_X2_takeBus_0 : List mj_O := [(4, 1, 0, 0, []), (2, 106, 0, 0, []), (2, 107, 0, 0, []), (70, 287, 0, 0, []), (31, 15, 0, 0, []), (1, 0, 0, 0, []), (80, 0, 0, 0, [])]
theorem h_X2_takeBus_0 : mj_ch 2 cX2_takeBus 0 k_X2_takeBus_0 15 = true := by decide +kernel
def k_X2_takeBus_15 : List mj_O := [(4, 0, 0, 0, []), (4, 1, 0, 0, []), (1, 0, 0, 0, []), (60, 0, 0, 0, []), (52, 2, 6, 0, []), (1, 0, 0, 1, []), (80, 0, 0, 0, [])]
theorem h_X2_takeBus_15 : mj_ch 2 cX2_takeBus 15 k_X2_takeBus_15 24 = true := by decide +kernel
def k_X2_takeFirm_0 : List mj_O := [(4, 1, 0, 0, []), (2, 108, 0, 0, []), (2, 109, 0, 0, []), (70, 287, 0, 0, []), (31, 15, 0, 0, []), (1, 0, 0, 0, []), (80, 0, 0, 0, [])]
theorem h_X2_takeFirm_0 : mj_ch 2 cX2_takeFirm 0 k_X2_takeFirm_0 15 = true := by decide +kernel
def k_X2_takeFirm_15 : List mj_O := [(4, 0, 0, 0, []), (4, 1, 0, 0, []), (1, 0, 0, 0, []), (60, 0, 0, 0, []), (52, 2, 7, 0, []), (1, 0, 0, 1, []), (80, 0, 0, 0, [])]
theorem h_X2_takeFirm_15 : mj_ch 2 cX2_takeFirm 15 k_X2_takeFirm_15 24 = true := by decide +kernel
def k_X2_depthOf_0 : List mj_O := [(3, 1, 0, 0, []), (32, 9, 0, 0, []), (3, 1, 0, 0, []), (1, 0, 0, 4, []), (38, 11, 0, 0, [])]
theorem h_X2_depthOf_0 : mj_ch 2 cX2_depthOf 0 k_X2_depthOf_0 9 = true := by decide +kernel
def k_X2_depthOf_9 : List mj_O := [(1, 0, 0, 0, []), (80, 0, 0, 0, [])]
theorem h_X2_depthOf_9 : mj_ch 2 cX2_depthOf 9 k_X2_depthOf_9 11 = true := by decide +kernel
def k_X2_depthOf_11 : List mj_O := [(4, 0, 0, 0, []), (51, 2, 0, 0, []), (3, 1, 0, 0, []), (64, 0, 0, 0, []), (3, 2, 0, 0, []), (4, 0, 0, 0, []), (50, 2, 8, 0, []), (4, 0, 0, 0, []), (50, 2, 9, 0, []), (70, 315, 0, 0, []), (80, 0, 0, 0, [])]
theorem h_X2_depthOf_11 : mj_ch 2 cX2_depthOf 11 k_X2_depthOf_11 30 = true := by decide +kernel
def k_X2_sumOf_0 : List mj_O := [(1, 0, 0, 0, []), (5, 3, 0, 0, []), (1, 0, 0, 0, []), (5, 4, 0, 0, [])]
theorem h_X2_sumOf_0 : mj_ch 2 cX2_sumOf 0 k_X2_sumOf_0 5 = true := by decide +kernel
def k_X2_sumOf_5 : List mj_O := [(3, 4, 0, 0, []), (4, 0, 0, 0, []), (50, 2, 5, 0, []), (39, 51, 0, 0, []), (3, 4, 0, 0, []), (1, 0, 0, 6, []), (39, 51, 0, 0, []), (3, 1, 0, 0, []), (3, 4, 0, 0, []), (17, 0, 0, 0, []), (1, 0, 0, 1, []), (18, 0, 0, 0, []), (1, 0, 0, 1, []), (37, 45, 0, 0, []), (3, 3, 0, 0, []), (4, 0, 0, 0, []), (51, 2, 2, 0, []), (3, 4, 0, 0, []), (64, 0, 0, 0, []), (3, 2, 0, 0, []), (70, 327, 0, 0, []), (10, 0, 0, 0, []), (5, 3, 0, 0, [])]
theorem h_X2_sumOf_5 : mj_ch 2 cX2_sumOf 5 k_X2_sumOf_5 45 = true := by decide +kernel
def k_X2_sumOf_45 : List mj_O := [(7, 4, 0, 1, []), (42, 5, 0, 0, [])]
theorem h_X2_sumOf_45 : mj_ch 2 cX2_sumOf 45 k_X2_sumOf_45 51 = true := by decide +kernel
def k_X2_sumOf_51 : List mj_O := [(3, 3, 0, 0, []), (80, 0, 0, 0, [])]
theorem h_X2_sumOf_51 : mj_ch 2 cX2_sumOf 51 k_X2_sumOf_51 53 = true := by decide +kernel
def k_X2_doneBits_0 : List mj_O := [(4, 0, 0, 0, []), (50, 2, 6, 0, []), (3, 1, 0, 0, []), (11, 0, 0, 0, []), (5, 2, 0, 0, []), (1, 0, 0, 0, []), (5, 3, 0, 0, []), (1, 0, 0, 0, []), (5, 4, 0, 0, []), (1, 0, 0, 1, []), (5, 5, 0, 0, [])]
theorem h_X2_doneBits_0 : mj_ch 2 cX2_doneBits 0 k_X2_doneBits_0 15 = true := by decide +kernel
def k_X2_doneBits_15 : List mj_O := [(3, 5, 0, 0, []), (1, 0, 0, 1, []), (4, 0, 0, 0, []), (50, 2, 5, 0, []), (16, 0, 0, 0, []), (39, 66, 0, 0, []), (4, 0, 0, 0, []), (3, 5, 0, 0, []), (1, 0, 0, 0, []), (70, 339, 0, 0, []), (3, 2, 0, 0, []), (40, 60, 0, 0, []), (4, 0, 0, 0, []), (3, 5, 0, 0, []), (1, 0, 0, 1, []), (70, 339, 0, 0, []), (5, 6, 0, 0, []), (3, 6, 0, 0, []), (3, 4, 0, 0, []), (41, 60, 0, 0, []), (3, 5, 0, 0, []), (5, 3, 0, 0, []), (3, 6, 0, 0, []), (5, 4, 0, 0, [])]
theorem h_X2_doneBits_15 : mj_ch 2 cX2_doneBits 15 k_X2_doneBits_15 60 = true := by decide +kernel
def k_X2_doneBits_60 : List mj_O := [(7, 5, 0, 1, []), (42, 15, 0, 0, [])]
theorem h_X2_doneBits_60 : mj_ch 2 cX2_doneBits 60 k_X2_doneBits_60 66 = true := by decide +kernel
def k_X2_doneBits_66 : List mj_O := [(3, 3, 0, 0, []), (80, 0, 0, 0, [])]
theorem h_X2_doneBits_66 : mj_ch 2 cX2_doneBits 66 k_X2_doneBits_66 68 = true := by decide +kernel
def k_X2_worthDone_0 : List mj_O := [(4, 0, 0, 0, []), (4, 0, 0, 0, []), (3, 1, 0, 0, []), (70, 351, 0, 0, []), (1, 0, 0, 1, []), (70, 339, 0, 0, []), (80, 0, 0, 0, [])]
theorem h_X2_worthDone_0 : mj_ch 2 cX2_worthDone 0 k_X2_worthDone_0 11 = true := by decide +kernel
def k_X2_passDay_0 : List mj_O := [(3, 1, 0, 0, []), (1, 0, 0, 2, []), (38, 23, 0, 0, []), (4, 0, 0, 0, []), (4, 0, 0, 0, []), (50, 2, 8, 0, []), (1, 0, 0, 1, []), (10, 0, 0, 0, []), (1, 0, 0, 9, []), (70, 362, 0, 0, []), (52, 2, 8, 0, []), (42, 41, 0, 0, [])]
theorem h_X2_passDay_0 : mj_ch 2 cX2_passDay 0 k_X2_passDay_0 23 = true := by decide +kernel
def k_X2_passDay_23 : List mj_O := [(3, 1, 0, 0, []), (31, 41, 0, 0, []), (4, 0, 0, 0, []), (4, 0, 0, 0, []), (50, 2, 8, 0, []), (1, 0, 0, 1, []), (11, 0, 0, 0, []), (1, 0, 0, 0, []), (70, 377, 0, 0, []), (52, 2, 8, 0, [])]
theorem h_X2_passDay_23 : mj_ch 2 cX2_passDay 23 k_X2_passDay_23 41 = true := by decide +kernel
def k_X2_passDay_41 : List mj_O := [(4, 0, 0, 0, []), (4, 0, 0, 0, []), (50, 2, 9, 0, []), (1, 0, 0, 6, []), (38, 55, 0, 0, []), (1, 0, 0, 0, []), (42, 61, 0, 0, [])]
theorem h_X2_passDay_41 : mj_ch 2 cX2_passDay 41 k_X2_passDay_41 55 = true := by decide +kernel
def k_X2_passDay_55 : List mj_O := [(4, 0, 0, 0, []), (50, 2, 9, 0, []), (1, 0, 0, 1, []), (10, 0, 0, 0, [])]
theorem h_X2_passDay_55 : mj_ch 2 cX2_passDay 55 k_X2_passDay_55 61 = true := by decide +kernel
def k_X2_passDay_61 : List mj_O := [(52, 2, 9, 0, []), (82, 0, 0, 0, [])]
theorem h_X2_passDay_61 : mj_ch 2 cX2_passDay 61 k_X2_passDay_61 65 = true := by decide +kernel
def k_X3_init_0 : List mj_O := [(4, 0, 0, 0, []), (70, 10, 0, 0, []), (4, 0, 0, 0, []), (1, 0, 0, 0, []), (52, 3, 0, 0, []), (4, 0, 0, 0, []), (1, 0, 0, 0, []), (52, 3, 1, 0, []), (4, 0, 0, 0, []), (1, 0, 0, 0, []), (52, 3, 2, 0, []), (4, 0, 0, 0, []), (1, 0, 0, 0, []), (52, 3, 3, 0, []), (82, 0, 0, 0, [])]
theorem h_X3_init_0 : mj_ch 3 cX3_init 0 k_X3_init_0 25 = true := by decide +kernel
def k_X3_copyFrom_0 : List mj_O := [(4, 0, 0, 0, []), (4, 1, 0, 0, []), (50, 3, 0, 0, []), (52, 3, 0, 0, []), (4, 0, 0, 0, []), (4, 1, 0, 0, []), (50, 3, 1, 0, []), (52, 3, 1, 0, []), (4, 0, 0, 0, []), (4, 1, 0, 0, []), (50, 3, 2, 0, []), (52, 3, 2, 0, []), (4, 0, 0, 0, []), (4, 1, 0, 0, []), (50, 3, 3, 0, []), (52, 3, 3, 0, []), (82, 0, 0, 0, [])]
theorem h_X3_copyFrom_0 : mj_ch 3 cX3_copyFrom 0 k_X3_copyFrom_0 33 = true := by decide +kernel
def k_X3_beAs_0 : List mj_O := [(4, 1, 0, 0, []), (2, 100, 0, 0, []), (2, 101, 0, 0, []), (70, 95, 0, 0, []), (30, 19, 0, 0, []), (4, 1, 0, 0, []), (65, 0, 0, 0, []), (1, 0, 0, 4, []), (39, 21, 0, 0, [])]
theorem h_X3_beAs_0 : mj_ch 3 cX3_beAs 0 k_X3_beAs_0 19 = true := by decide +kernel
def k_X3_beAs_19 : List mj_O := [(1, 0, 0, 0, []), (80, 0, 0, 0, [])]
theorem h_X3_beAs_19 : mj_ch 3 cX3_beAs 19 k_X3_beAs_19 21 = true := by decide +kernel
def k_X3_beAs_21 : List mj_O := [(4, 0, 0, 0, []), (4, 1, 0, 0, []), (1, 0, 0, 0, []), (60, 0, 0, 0, []), (52, 3, 0, 0, []), (4, 0, 0, 0, []), (4, 1, 0, 0, []), (1, 0, 0, 1, []), (60, 0, 0, 0, []), (52, 3, 1, 0, []), (4, 0, 0, 0, []), (4, 1, 0, 0, []), (1, 0, 0, 2, []), (60, 0, 0, 0, []), (52, 3, 2, 0, []), (4, 0, 0, 0, []), (4, 1, 0, 0, []), (1, 0, 0, 3, []), (60, 0, 0, 0, []), (52, 3, 3, 0, []), (1, 0, 0, 1, []), (80, 0, 0, 0, [])]
theorem h_X3_beAs_21 : mj_ch 3 cX3_beAs 21 k_X3_beAs_21 51 = true := by decide +kernel
def k_X3_partOf_0 : List mj_O := [(3, 1, 0, 0, []), (43, 43, 0, 0, [(0, 28), (1, 33), (2, 38)])]
theorem h_X3_partOf_0 : mj_ch 3 cX3_partOf 0 k_X3_partOf_0 28 = true := by decide +kernel
def k_X3_partOf_28 : List mj_O := [(4, 0, 0, 0, []), (50, 3, 0, 0, []), (80, 0, 0, 0, [])]
theorem h_X3_partOf_28 : mj_ch 3 cX3_partOf 28 k_X3_partOf_28 33 = true := by decide +kernel
def k_X3_partOf_33 : List mj_O := [(4, 0, 0, 0, []), (50, 3, 1, 0, []), (80, 0, 0, 0, [])]
theorem h_X3_partOf_33 : mj_ch 3 cX3_partOf 33 k_X3_partOf_33 38 = true := by decide +kernel
def k_X3_partOf_38 : List mj_O := [(4, 0, 0, 0, []), (50, 3, 2, 0, []), (80, 0, 0, 0, [])]
theorem h_X3_partOf_38 : mj_ch 3 cX3_partOf 38 k_X3_partOf_38 43 = true := by decide +kernel
def k_X3_partOf_43 : List mj_O := [(4, 0, 0, 0, []), (50, 3, 3, 0, []), (80, 0, 0, 0, [])]
theorem h_X3_partOf_43 : mj_ch 3 cX3_partOf 43 k_X3_partOf_43 48 = true := by decide +kernel
def k_X3_depthAt_0 : List mj_O := [(3, 2, 0, 0, []), (5, 4, 0, 0, []), (4, 0, 0, 0, []), (50, 3, 1, 0, []), (35, 47, 0, 0, []), (3, 1, 0, 0, []), (4, 0, 0, 0, []), (50, 3, 1, 0, []), (14, 0, 0, 0, []), (5, 5, 0, 0, []), (3, 4, 0, 0, []), (3, 5, 0, 0, []), (4, 0, 0, 0, []), (50, 3, 1, 0, []), (3, 5, 0, 0, []), (11, 0, 0, 0, []), (70, 107, 0, 0, []), (4, 0, 0, 0, []), (50, 3, 2, 0, []), (12, 0, 0, 0, []), (1, 0, 0, 2, []), (12, 0, 0, 0, []), (4, 0, 0, 0, []), (50, 3, 1, 0, []), (13, 0, 0, 0, []), (10, 0, 0, 0, []), (5, 4, 0, 0, [])]
theorem h_X3_depthAt_0 : mj_ch 3 cX3_depthAt 0 k_X3_depthAt_0 47 = true := by decide +kernel
def k_X3_depthAt_47 : List mj_O := [(4, 0, 0, 0, []), (50, 3, 0, 0, []), (43, 139, 0, 0, [(1, 84), (2, 89), (3, 94), (4, 108), (5, 124)])]
theorem h_X3_depthAt_47 : mj_ch 3 cX3_depthAt 47 k_X3_depthAt_47 84 = true := by decide +kernel
def k_X3_depthAt_84 : List mj_O := [(3, 4, 0, 0, []), (1, 0, 0, 2, []), (13, 0, 0, 0, []), (80, 0, 0, 0, [])]
theorem h_X3_depthAt_84 : mj_ch 3 cX3_depthAt 84 k_X3_depthAt_84 89 = true := by decide +kernel
def k_X3_depthAt_89 : List mj_O := [(3, 4, 0, 0, []), (1, 0, 0, 4, []), (10, 0, 0, 0, []), (80, 0, 0, 0, [])]
theorem h_X3_depthAt_89 : mj_ch 3 cX3_depthAt 89 k_X3_depthAt_89 94 = true := by decide +kernel
def k_X3_depthAt_94 : List mj_O := [(3, 4, 0, 0, []), (1, 0, 0, 4, []), (10, 0, 0, 0, []), (1, 0, 0, 300, []), (3, 1, 0, 0, []), (11, 0, 0, 0, []), (1, 0, 0, 30, []), (13, 0, 0, 0, []), (10, 0, 0, 0, []), (80, 0, 0, 0, [])]
theorem h_X3_depthAt_94 : mj_ch 3 cX3_depthAt 94 k_X3_depthAt_94 108 = true := by decide +kernel
def k_X3_depthAt_108 : List mj_O := [(3, 1, 0, 0, []), (1, 0, 0, 10, []), (14, 0, 0, 0, []), (31, 119, 0, 0, []), (1, 0, 0, 0, []), (42, 123, 0, 0, [])]
theorem h_X3_depthAt_108 : mj_ch 3 cX3_depthAt 108 k_X3_depthAt_108 119 = true := by decide +kernel
def k_X3_depthAt_119 : List mj_O := [(3, 4, 0, 0, []), (1, 0, 0, 2, []), (13, 0, 0, 0, [])]
theorem h_X3_depthAt_119 : mj_ch 3 cX3_depthAt 119 k_X3_depthAt_119 123 = true := by decide +kernel
def k_X3_depthAt_123 : List mj_O := [(80, 0, 0, 0, [])]
theorem h_X3_depthAt_123 : mj_ch 3 cX3_depthAt 123 k_X3_depthAt_123 124 = true := by decide +kernel
def k_X3_depthAt_124 : List mj_O := [(3, 3, 0, 0, []), (1, 0, 0, 5, []), (38, 134, 0, 0, []), (3, 4, 0, 0, []), (42, 138, 0, 0, [])]
theorem h_X3_depthAt_124 : mj_ch 3 cX3_depthAt 124 k_X3_depthAt_124 134 = true := by decide +kernel
def k_X3_depthAt_134 : List mj_O := [(3, 4, 0, 0, []), (1, 0, 0, 2, []), (13, 0, 0, 0, [])]
theorem h_X3_depthAt_134 : mj_ch 3 cX3_depthAt 134 k_X3_depthAt_134 138 = true := by decide +kernel
def k_X3_depthAt_138 : List mj_O := [(80, 0, 0, 0, [])]
theorem h_X3_depthAt_138 : mj_ch 3 cX3_depthAt 138 k_X3_depthAt_138 139 = true := by decide +kernel
def k_X3_depthAt_139 : List mj_O := [(3, 4, 0, 0, []), (80, 0, 0, 0, [])]
theorem h_X3_depthAt_139 : mj_ch 3 cX3_depthAt 139 k_X3_depthAt_139 142 = true := by decide +kernel
def k_X4_init_0 : List mj_O := [(4, 0, 0, 0, []), (70, 10, 0, 0, []), (4, 0, 0, 0, []), (1, 0, 0, 0, []), (52, 4, 0, 0, []), (4, 0, 0, 0, []), (1, 0, 0, 0, []), (52, 4, 1, 0, []), (82, 0, 0, 0, [])]
theorem h_X4_init_0 : mj_ch 4 cX4_init 0 k_X4_init_0 15 = true := by decide +kernel
def k_X4_copyFrom_0 : List mj_O := [(4, 0, 0, 0, []), (4, 1, 0, 0, []), (50, 4, 0, 0, []), (52, 4, 0, 0, []), (4, 0, 0, 0, []), (4, 1, 0, 0, []), (50, 4, 1, 0, []), (52, 4, 1, 0, []), (82, 0, 0, 0, [])]
theorem h_X4_copyFrom_0 : mj_ch 4 cX4_copyFrom 0 k_X4_copyFrom_0 17 = true := by decide +kernel
def k_X4_beAs_0 : List mj_O := [(4, 1, 0, 0, []), (2, 104, 0, 0, []), (2, 105, 0, 0, []), (70, 77, 0, 0, []), (30, 19, 0, 0, []), (4, 1, 0, 0, []), (65, 0, 0, 0, []), (1, 0, 0, 2, []), (39, 21, 0, 0, [])]
theorem h_X4_beAs_0 : mj_ch 4 cX4_beAs 0 k_X4_beAs_0 19 = true := by decide +kernel
def k_X4_beAs_19 : List mj_O := [(1, 0, 0, 0, []), (80, 0, 0, 0, [])]
theorem h_X4_beAs_19 : mj_ch 4 cX4_beAs 19 k_X4_beAs_19 21 = true := by decide +kernel
def k_X4_beAs_21 : List mj_O := [(4, 0, 0, 0, []), (4, 1, 0, 0, []), (1, 0, 0, 0, []), (60, 0, 0, 0, []), (52, 4, 0, 0, []), (4, 0, 0, 0, []), (4, 1, 0, 0, []), (1, 0, 0, 1, []), (60, 0, 0, 0, []), (52, 4, 1, 0, []), (1, 0, 0, 1, []), (80, 0, 0, 0, [])]
theorem h_X4_beAs_21 : mj_ch 4 cX4_beAs 21 k_X4_beAs_21 37 = true := by decide +kernel
def k_X4_partOf_0 : List mj_O := [(3, 1, 0, 0, []), (31, 11, 0, 0, []), (4, 0, 0, 0, []), (50, 4, 0, 0, []), (42, 15, 0, 0, [])]
theorem h_X4_partOf_0 : mj_ch 4 cX4_partOf 0 k_X4_partOf_0 11 = true := by decide +kernel
def k_X4_partOf_11 : List mj_O := [(4, 0, 0, 0, []), (50, 4, 1, 0, [])]
theorem h_X4_partOf_11 : mj_ch 4 cX4_partOf 11 k_X4_partOf_11 15 = true := by decide +kernel
def k_X4_partOf_15 : List mj_O := [(80, 0, 0, 0, [])]
theorem h_X4_partOf_15 : mj_ch 4 cX4_partOf 15 k_X4_partOf_15 16 = true := by decide +kernel
def k_X5_isFull_0 : List mj_O := [(4, 0, 0, 0, []), (50, 5, 1, 0, []), (4, 0, 0, 0, []), (51, 5, 0, 0, []), (65, 0, 0, 0, []), (38, 16, 0, 0, []), (1, 0, 0, 1, []), (42, 17, 0, 0, [])]
theorem h_X5_isFull_0 : mj_ch 5 cX5_isFull 0 k_X5_isFull_0 16 = true := by decide +kernel
def k_X5_isFull_16 : List mj_O := [(1, 0, 0, 0, [])]
theorem h_X5_isFull_16 : mj_ch 5 cX5_isFull 16 k_X5_isFull_16 17 = true := by decide +kernel
def k_X5_isFull_17 : List mj_O := [(80, 0, 0, 0, [])]
theorem h_X5_isFull_17 : mj_ch 5 cX5_isFull 17 k_X5_isFull_17 18 = true := by decide +kernel
def k_X5_add_0 : List mj_O := [(4, 0, 0, 0, []), (70, 87, 0, 0, []), (31, 27, 0, 0, []), (4, 0, 0, 0, []), (51, 5, 0, 0, []), (4, 0, 0, 0, []), (50, 5, 1, 0, []), (3, 1, 0, 0, []), (63, 0, 0, 0, []), (4, 0, 0, 0, []), (21, 0, 0, 0, []), (50, 5, 1, 0, []), (1, 0, 0, 1, []), (10, 0, 0, 0, []), (52, 5, 1, 0, [])]
theorem h_X5_add_0 : mj_ch 5 cX5_add 0 k_X5_add_0 27 = true := by decide +kernel
def k_X5_add_27 : List mj_O := [(4, 0, 0, 0, []), (50, 5, 1, 0, []), (80, 0, 0, 0, [])]
theorem h_X5_add_27 : mj_ch 5 cX5_add 27 k_X5_add_27 32 = true := by decide +kernel
def k_X5_forget_0 : List mj_O := [(4, 0, 0, 0, []), (1, 0, 0, 0, []), (52, 5, 1, 0, []), (82, 0, 0, 0, [])]
theorem h_X5_forget_0 : mj_ch 5 cX5_forget 0 k_X5_forget_0 6 = true := by decide +kernel
def k_X5_tellInto_0 : List mj_O := [(1, 0, 0, (-9), []), (5, 2, 0, 0, []), (4, 0, 0, 0, []), (1, 0, 0, 0, []), (52, 5, 2, 0, []), (1, 0, 0, 1, []), (5, 3, 0, 0, [])]
theorem h_X5_tellInto_0 : mj_ch 5 cX5_tellInto 0 k_X5_tellInto_0 10 = true := by decide +kernel
def k_X5_tellInto_10 : List mj_O := [(3, 3, 0, 0, []), (1, 0, 0, 96, []), (40, 97, 0, 0, []), (4, 0, 0, 0, []), (50, 5, 2, 0, []), (5, 4, 0, 0, []), (4, 0, 0, 0, []), (70, 99, 0, 0, []), (31, 38, 0, 0, []), (1, 0, 0, (-1000), []), (4, 0, 0, 0, []), (50, 5, 2, 0, []), (11, 0, 0, 0, []), (80, 0, 0, 0, [])]
theorem h_X5_tellInto_10 : mj_ch 5 cX5_tellInto 10 k_X5_tellInto_10 38 = true := by decide +kernel
def k_X5_tellInto_38 : List mj_O := [(3, 2, 0, 0, []), (1, 0, 0, (-9), []), (37, 64, 0, 0, []), (4, 1, 0, 0, []), (4, 0, 0, 0, []), (3, 4, 0, 0, []), (70, 108, 0, 0, []), (4, 0, 0, 0, []), (51, 5, 3, 0, []), (70, 120, 0, 0, []), (31, 64, 0, 0, []), (3, 4, 0, 0, []), (5, 2, 0, 0, [])]
theorem h_X5_tellInto_38 : mj_ch 5 cX5_tellInto 38 k_X5_tellInto_38 64 = true := by decide +kernel
def k_X5_tellInto_64 : List mj_O := [(4, 0, 0, 0, []), (50, 5, 2, 0, []), (4, 0, 0, 0, []), (50, 5, 1, 0, []), (38, 91, 0, 0, []), (3, 2, 0, 0, []), (1, 0, 0, (-9), []), (37, 85, 0, 0, []), (3, 3, 0, 0, []), (42, 90, 0, 0, [])]
theorem h_X5_tellInto_64 : mj_ch 5 cX5_tellInto 64 k_X5_tellInto_64 85 = true := by decide +kernel
def k_X5_tellInto_85 : List mj_O := [(1, 0, 0, (-2000), []), (3, 2, 0, 0, []), (11, 0, 0, 0, [])]
theorem h_X5_tellInto_85 : mj_ch 5 cX5_tellInto 85 k_X5_tellInto_85 90 = true := by decide +kernel
def k_X5_tellInto_90 : List mj_O := [(80, 0, 0, 0, [])]
theorem h_X5_tellInto_90 : mj_ch 5 cX5_tellInto 90 k_X5_tellInto_90 91 = true := by decide +kernel
def k_X5_tellInto_91 : List mj_O := [(7, 3, 0, 1, []), (42, 10, 0, 0, [])]
theorem h_X5_tellInto_91 : mj_ch 5 cX5_tellInto 91 k_X5_tellInto_91 97 = true := by decide +kernel
def k_X5_tellInto_97 : List mj_O := [(1, 0, 0, (-1000), []), (4, 0, 0, 0, []), (50, 5, 2, 0, []), (11, 0, 0, 0, []), (80, 0, 0, 0, [])]
theorem h_X5_tellInto_97 : mj_ch 5 cX5_tellInto 97 k_X5_tellInto_97 106 = true := by decide +kernel
def k_X5_readStatement_0 : List mj_O := [(4, 0, 0, 0, []), (4, 0, 0, 0, []), (50, 5, 2, 0, []), (70, 108, 0, 0, []), (70, 140, 0, 0, []), (6, 1, 0, 0, []), (4, 1, 0, 0, []), (70, 150, 0, 0, []), (30, 21, 0, 0, []), (1, 0, 0, 0, []), (80, 0, 0, 0, [])]
theorem h_X5_readStatement_0 : mj_ch 5 cX5_readStatement 0 k_X5_readStatement_0 21 = true := by decide +kernel
def k_X5_readStatement_21 : List mj_O := [(4, 0, 0, 0, []), (21, 0, 0, 0, []), (50, 5, 2, 0, []), (1, 0, 0, 1, []), (10, 0, 0, 0, []), (52, 5, 2, 0, []), (4, 0, 0, 0, []), (1, 0, 0, 0, []), (52, 5, 4, 0, []), (1, 0, 0, 0, []), (5, 2, 0, 0, [])]
theorem h_X5_readStatement_21 : mj_ch 5 cX5_readStatement 21 k_X5_readStatement_21 38 = true := by decide +kernel
def k_X5_readStatement_38 : List mj_O := [(3, 2, 0, 0, []), (4, 1, 0, 0, []), (70, 165, 0, 0, []), (39, 66, 0, 0, []), (4, 0, 0, 0, []), (4, 1, 0, 0, []), (3, 2, 0, 0, []), (70, 174, 0, 0, []), (70, 186, 0, 0, []), (31, 60, 0, 0, []), (1, 0, 0, 0, []), (80, 0, 0, 0, [])]
theorem h_X5_readStatement_38 : mj_ch 5 cX5_readStatement 38 k_X5_readStatement_38 60 = true := by decide +kernel
def k_X5_readStatement_60 : List mj_O := [(7, 2, 0, 1, []), (42, 38, 0, 0, [])]
theorem h_X5_readStatement_60 : mj_ch 5 cX5_readStatement 60 k_X5_readStatement_60 66 = true := by decide +kernel
def k_X5_readStatement_66 : List mj_O := [(1, 0, 0, 1, []), (80, 0, 0, 0, [])]
theorem h_X5_readStatement_66 : mj_ch 5 cX5_readStatement 66 k_X5_readStatement_66 68 = true := by decide +kernel
def k_X5_formOf_0 : List mj_O := [(3, 0, 0, 0, []), (43, 67, 0, 0, [(98, 61), (99, 55), (102, 64), (115, 52), (116, 58)])]
theorem h_X5_formOf_0 : mj_ch 5 cX5_formOf 0 k_X5_formOf_0 52 = true := by decide +kernel
def k_X5_formOf_52 : List mj_O := [(2, 200, 0, 0, []), (81, 0, 0, 0, [])]
theorem h_X5_formOf_52 : mj_ch 5 cX5_formOf 52 k_X5_formOf_52 55 = true := by decide +kernel
def k_X5_formOf_55 : List mj_O := [(2, 201, 0, 0, []), (81, 0, 0, 0, [])]
theorem h_X5_formOf_55 : mj_ch 5 cX5_formOf 55 k_X5_formOf_55 58 = true := by decide +kernel
def k_X5_formOf_58 : List mj_O := [(2, 202, 0, 0, []), (81, 0, 0, 0, [])]
theorem h_X5_formOf_58 : mj_ch 5 cX5_formOf 58 k_X5_formOf_58 61 = true := by decide +kernel
def k_X5_formOf_61 : List mj_O := [(2, 203, 0, 0, []), (81, 0, 0, 0, [])]
theorem h_X5_formOf_61 : mj_ch 5 cX5_formOf 61 k_X5_formOf_61 64 = true := by decide +kernel
def k_X5_formOf_64 : List mj_O := [(2, 204, 0, 0, []), (81, 0, 0, 0, [])]
theorem h_X5_formOf_64 : mj_ch 5 cX5_formOf 64 k_X5_formOf_64 67 = true := by decide +kernel
def k_X5_formOf_67 : List mj_O := [(2, 205, 0, 0, []), (81, 0, 0, 0, [])]
theorem h_X5_formOf_67 : mj_ch 5 cX5_formOf 67 k_X5_formOf_67 70 = true := by decide +kernel
def k_X5_readPart_0 : List mj_O := [(3, 1, 0, 0, []), (43, 102, 0, 0, [(49, 81), (50, 88), (51, 95), (61, 74), (67, 67), (83, 60)])]
theorem h_X5_readPart_0 : mj_ch 5 cX5_readPart 0 k_X5_readPart_0 60 = true := by decide +kernel
def k_X5_readPart_60 : List mj_O := [(4, 0, 0, 0, []), (2, 206, 0, 0, []), (70, 240, 0, 0, []), (80, 0, 0, 0, [])]
theorem h_X5_readPart_60 : mj_ch 5 cX5_readPart 60 k_X5_readPart_60 67 = true := by decide +kernel
def k_X5_readPart_67 : List mj_O := [(4, 0, 0, 0, []), (2, 207, 0, 0, []), (70, 240, 0, 0, []), (80, 0, 0, 0, [])]
theorem h_X5_readPart_67 : mj_ch 5 cX5_readPart 67 k_X5_readPart_67 74 = true := by decide +kernel
def k_X5_readPart_74 : List mj_O := [(4, 0, 0, 0, []), (1, 0, 0, 2, []), (1, 0, 0, 2, []), (70, 258, 0, 0, []), (80, 0, 0, 0, [])]
theorem h_X5_readPart_74 : mj_ch 5 cX5_readPart 74 k_X5_readPart_74 81 = true := by decide +kernel
def k_X5_readPart_81 : List mj_O := [(4, 0, 0, 0, []), (1, 0, 0, 1, []), (1, 0, 0, 1, []), (70, 258, 0, 0, []), (80, 0, 0, 0, [])]
theorem h_X5_readPart_81 : mj_ch 5 cX5_readPart 81 k_X5_readPart_81 88 = true := by decide +kernel
def k_X5_readPart_88 : List mj_O := [(4, 0, 0, 0, []), (1, 0, 0, 1, []), (1, 0, 0, 2, []), (70, 258, 0, 0, []), (80, 0, 0, 0, [])]
theorem h_X5_readPart_88 : mj_ch 5 cX5_readPart 88 k_X5_readPart_88 95 = true := by decide +kernel
def k_X5_readPart_95 : List mj_O := [(4, 0, 0, 0, []), (1, 0, 0, 1, []), (1, 0, 0, 3, []), (70, 258, 0, 0, []), (80, 0, 0, 0, [])]
theorem h_X5_readPart_95 : mj_ch 5 cX5_readPart 95 k_X5_readPart_95 102 = true := by decide +kernel
def k_X5_readPart_102 : List mj_O := [(4, 0, 0, 0, []), (3, 1, 0, 0, []), (70, 270, 0, 0, []), (80, 0, 0, 0, [])]
theorem h_X5_readPart_102 : mj_ch 5 cX5_readPart 102 k_X5_readPart_102 108 = true := by decide +kernel
def k_X5_readKind_0 : List mj_O := [(4, 0, 0, 0, []), (4, 0, 0, 0, []), (50, 5, 2, 0, []), (70, 108, 0, 0, []), (5, 2, 0, 0, []), (3, 2, 0, 0, []), (1, 0, 0, (-1), []), (37, 18, 0, 0, []), (1, 0, 0, (-1), []), (42, 24, 0, 0, [])]
theorem h_X5_readKind_0 : mj_ch 5 cX5_readKind 0 k_X5_readKind_0 18 = true := by decide +kernel
def k_X5_readKind_18 : List mj_O := [(4, 1, 0, 0, []), (3, 2, 0, 0, []), (20, 0, 0, 0, []), (70, 279, 0, 0, [])]
theorem h_X5_readKind_18 : mj_ch 5 cX5_readKind 18 k_X5_readKind_18 24 = true := by decide +kernel
def k_X5_readKind_24 : List mj_O := [(5, 3, 0, 0, []), (3, 3, 0, 0, []), (33, 31, 0, 0, []), (1, 0, 0, 0, []), (80, 0, 0, 0, [])]
theorem h_X5_readKind_24 : mj_ch 5 cX5_readKind 24 k_X5_readKind_24 31 = true := by decide +kernel
def k_X5_readKind_31 : List mj_O := [(4, 0, 0, 0, []), (3, 3, 0, 0, []), (70, 288, 0, 0, []), (4, 0, 0, 0, []), (21, 0, 0, 0, []), (50, 5, 2, 0, []), (1, 0, 0, 1, []), (10, 0, 0, 0, []), (52, 5, 2, 0, []), (1, 0, 0, 1, []), (80, 0, 0, 0, [])]
theorem h_X5_readKind_31 : mj_ch 5 cX5_readKind 31 k_X5_readKind_31 48 = true := by decide +kernel
def k_X5_readNumber_0 : List mj_O := [(1, 0, 0, 0, []), (5, 3, 0, 0, []), (1, 0, 0, 0, []), (5, 4, 0, 0, [])]
theorem h_X5_readNumber_0 : mj_ch 5 cX5_readNumber 0 k_X5_readNumber_0 5 = true := by decide +kernel
def k_X5_readNumber_5 : List mj_O := [(3, 4, 0, 0, []), (3, 2, 0, 0, []), (39, 58, 0, 0, []), (4, 0, 0, 0, []), (4, 0, 0, 0, []), (50, 5, 2, 0, []), (70, 108, 0, 0, []), (70, 302, 0, 0, []), (30, 58, 0, 0, []), (3, 3, 0, 0, []), (1, 0, 0, 10, []), (12, 0, 0, 0, []), (4, 0, 0, 0, []), (4, 0, 0, 0, []), (50, 5, 2, 0, []), (70, 108, 0, 0, []), (10, 0, 0, 0, []), (1, 0, 0, 48, []), (11, 0, 0, 0, []), (5, 3, 0, 0, []), (7, 4, 0, 1, []), (4, 0, 0, 0, []), (21, 0, 0, 0, []), (50, 5, 2, 0, []), (1, 0, 0, 1, []), (10, 0, 0, 0, []), (52, 5, 2, 0, []), (42, 5, 0, 0, [])]
theorem h_X5_readNumber_5 : mj_ch 5 cX5_readNumber 5 k_X5_readNumber_5 58 = true := by decide +kernel
def k_X5_readNumber_58 : List mj_O := [(4, 0, 0, 0, []), (3, 3, 0, 0, []), (70, 288, 0, 0, []), (3, 4, 0, 0, []), (3, 1, 0, 0, []), (38, 73, 0, 0, []), (1, 0, 0, 1, []), (42, 74, 0, 0, [])]
theorem h_X5_readNumber_58 : mj_ch 5 cX5_readNumber 58 k_X5_readNumber_58 73 = true := by decide +kernel
def k_X5_readNumber_73 : List mj_O := [(1, 0, 0, 0, [])]
theorem h_X5_readNumber_73 : mj_ch 5 cX5_readNumber 73 k_X5_readNumber_73 74 = true := by decide +kernel
def k_X5_readNumber_74 : List mj_O := [(80, 0, 0, 0, [])]
theorem h_X5_readNumber_74 : mj_ch 5 cX5_readNumber 74 k_X5_readNumber_74 75 = true := by decide +kernel
def k_X5_readSign_0 : List mj_O := [(4, 0, 0, 0, []), (4, 0, 0, 0, []), (50, 5, 2, 0, []), (70, 108, 0, 0, []), (3, 1, 0, 0, []), (36, 14, 0, 0, []), (1, 0, 0, 0, []), (80, 0, 0, 0, [])]
theorem h_X5_readSign_0 : mj_ch 5 cX5_readSign 0 k_X5_readSign_0 14 = true := by decide +kernel
def k_X5_readSign_14 : List mj_O := [(4, 0, 0, 0, []), (21, 0, 0, 0, []), (50, 5, 2, 0, []), (1, 0, 0, 1, []), (10, 0, 0, 0, []), (52, 5, 2, 0, []), (1, 0, 0, 1, []), (80, 0, 0, 0, [])]
theorem h_X5_readSign_14 : mj_ch 5 cX5_readSign 14 k_X5_readSign_14 26 = true := by decide +kernel
def k_X5_keep_0 : List mj_O := [(4, 0, 0, 0, []), (50, 5, 4, 0, []), (4, 0, 0, 0, []), (51, 5, 3, 0, []), (65, 0, 0, 0, []), (39, 32, 0, 0, []), (4, 0, 0, 0, []), (51, 5, 3, 0, []), (4, 0, 0, 0, []), (50, 5, 4, 0, []), (3, 1, 0, 0, []), (61, 0, 0, 0, []), (4, 0, 0, 0, []), (21, 0, 0, 0, []), (50, 5, 4, 0, []), (1, 0, 0, 1, []), (10, 0, 0, 0, []), (52, 5, 4, 0, [])]
theorem h_X5_keep_0 : mj_ch 5 cX5_keep 0 k_X5_keep_0 32 = true := by decide +kernel
def k_X5_keep_32 : List mj_O := [(82, 0, 0, 0, [])]
theorem h_X5_keep_32 : mj_ch 5 cX5_keep 32 k_X5_keep_32 33 = true := by decide +kernel
def k_X5_letterAt_0 : List mj_O := [(3, 1, 0, 0, []), (32, 30, 0, 0, []), (3, 1, 0, 0, []), (4, 0, 0, 0, []), (50, 5, 1, 0, []), (39, 30, 0, 0, []), (3, 1, 0, 0, []), (4, 0, 0, 0, []), (51, 5, 0, 0, []), (65, 0, 0, 0, []), (39, 30, 0, 0, []), (4, 0, 0, 0, []), (51, 5, 0, 0, []), (3, 1, 0, 0, []), (62, 0, 0, 0, []), (42, 31, 0, 0, [])]
theorem h_X5_letterAt_0 : mj_ch 5 cX5_letterAt 0 k_X5_letterAt_0 30 = true := by decide +kernel
def k_X5_letterAt_30 : List mj_O := [(1, 0, 0, (-1), [])]
theorem h_X5_letterAt_30 : mj_ch 5 cX5_letterAt 30 k_X5_letterAt_30 31 = true := by decide +kernel
def k_X5_letterAt_31 : List mj_O := [(80, 0, 0, 0, [])]
theorem h_X5_letterAt_31 : mj_ch 5 cX5_letterAt 31 k_X5_letterAt_31 32 = true := by decide +kernel
def k_X5_isDigit_0 : List mj_O := [(3, 0, 0, 0, []), (1, 0, 0, 48, []), (38, 16, 0, 0, []), (3, 0, 0, 0, []), (1, 0, 0, 57, []), (40, 16, 0, 0, []), (1, 0, 0, 1, []), (42, 17, 0, 0, [])]
theorem h_X5_isDigit_0 : mj_ch 5 cX5_isDigit 0 k_X5_isDigit_0 16 = true := by decide +kernel
def k_X5_isDigit_16 : List mj_O := [(1, 0, 0, 0, [])]
theorem h_X5_isDigit_16 : mj_ch 5 cX5_isDigit 16 k_X5_isDigit_16 17 = true := by decide +kernel
def k_X5_isDigit_17 : List mj_O := [(80, 0, 0, 0, [])]
theorem h_X5_isDigit_17 : mj_ch 5 cX5_isDigit 17 k_X5_isDigit_17 18 = true := by decide +kernel
end
section
/-! blocks of instructions, and that they are the code -/
def k_X6_letter_0 : List mj_O := [(3, 1, 0, 0, []), (1, 0, 0, 0, []), (1, 0, 0, 255, []), (70, 155, 0, 0, []), (5, 2, 0, 0, []), (3, 2, 0, 0, []), (31, 26, 0, 0, []), (4, 0, 0, 0, []), (51, 6, 5, 0, []), (70, 165, 0, 0, []), (30, 26, 0, 0, []), (1, 0, 0, (-6), []), (5, 2, 0, 0, [])]
theorem h_X6_letter_0 : mj_ch 6 cX6_letter 0 k_X6_letter_0 26 = true := by decide +kernel
def k_X6_letter_26 : List mj_O := [(3, 2, 0, 0, []), (30, 38, 0, 0, []), (4, 0, 0, 0, []), (3, 2, 0, 0, []), (70, 177, 0, 0, []), (42, 47, 0, 0, [])]
theorem h_X6_letter_26 : mj_ch 6 cX6_letter 26 k_X6_letter_26 38 = true := by decide +kernel
def k_X6_letter_38 : List mj_O := [(4, 0, 0, 0, []), (51, 6, 5, 0, []), (3, 1, 0, 0, []), (20, 0, 0, 0, []), (70, 189, 0, 0, [])]
theorem h_X6_letter_38 : mj_ch 6 cX6_letter 38 k_X6_letter_38 47 = true := by decide +kernel
def k_X6_letter_47 : List mj_O := [(80, 0, 0, 0, [])]
theorem h_X6_letter_47 : mj_ch 6 cX6_letter 47 k_X6_letter_47 48 = true := by decide +kernel
def k_X6_room_0 : List mj_O := [(4, 0, 0, 0, []), (51, 6, 1, 0, []), (4, 0, 0, 0, []), (51, 6, 0, 0, []), (70, 201, 0, 0, []), (4, 0, 0, 0, []), (51, 6, 5, 0, []), (4, 0, 0, 0, []), (51, 6, 1, 0, []), (70, 213, 0, 0, []), (5, 1, 0, 0, []), (3, 1, 0, 0, []), (35, 38, 0, 0, []), (4, 0, 0, 0, []), (51, 6, 0, 0, []), (4, 0, 0, 0, []), (51, 6, 1, 0, []), (70, 201, 0, 0, [])]
theorem h_X6_room_0 : mj_ch 6 cX6_room 0 k_X6_room_0 38 = true := by decide +kernel
def k_X6_room_38 : List mj_O := [(4, 0, 0, 0, []), (51, 6, 5, 0, []), (70, 225, 0, 0, []), (3, 1, 0, 0, []), (80, 0, 0, 0, [])]
theorem h_X6_room_38 : mj_ch 6 cX6_room 38 k_X6_room_38 47 = true := by decide +kernel
def k_X6_sleeper_0 : List mj_O := [(4, 0, 0, 0, []), (3, 1, 0, 0, []), (70, 234, 0, 0, []), (3, 2, 0, 0, []), (1, 0, 0, 4, []), (70, 245, 0, 0, []), (70, 257, 0, 0, []), (5, 3, 0, 0, []), (3, 3, 0, 0, []), (30, 26, 0, 0, []), (4, 0, 0, 0, []), (3, 3, 0, 0, []), (70, 177, 0, 0, []), (42, 39, 0, 0, [])]
theorem h_X6_sleeper_0 : mj_ch 6 cX6_sleeper 0 k_X6_sleeper_0 26 = true := by decide +kernel
def k_X6_sleeper_26 : List mj_O := [(4, 0, 0, 0, []), (51, 6, 0, 0, []), (51, 2, 0, 0, []), (3, 1, 0, 0, []), (64, 0, 0, 0, []), (3, 2, 0, 0, []), (70, 276, 0, 0, [])]
theorem h_X6_sleeper_26 : mj_ch 6 cX6_sleeper 26 k_X6_sleeper_26 39 = true := by decide +kernel
def k_X6_sleeper_39 : List mj_O := [(80, 0, 0, 0, [])]
theorem h_X6_sleeper_39 : mj_ch 6 cX6_sleeper 39 k_X6_sleeper_39 40 = true := by decide +kernel
def k_X6_clock_0 : List mj_O := [(4, 0, 0, 0, []), (3, 1, 0, 0, []), (70, 291, 0, 0, []), (3, 2, 0, 0, []), (1, 0, 0, 5, []), (70, 245, 0, 0, []), (70, 257, 0, 0, []), (5, 3, 0, 0, []), (3, 3, 0, 0, []), (30, 26, 0, 0, []), (4, 0, 0, 0, []), (3, 3, 0, 0, []), (70, 177, 0, 0, []), (42, 39, 0, 0, [])]
theorem h_X6_clock_0 : mj_ch 6 cX6_clock 0 k_X6_clock_0 26 = true := by decide +kernel
def k_X6_clock_26 : List mj_O := [(4, 0, 0, 0, []), (51, 6, 0, 0, []), (51, 2, 1, 0, []), (3, 1, 0, 0, []), (64, 0, 0, 0, []), (3, 2, 0, 0, []), (70, 312, 0, 0, [])]
theorem h_X6_clock_26 : mj_ch 6 cX6_clock 26 k_X6_clock_26 39 = true := by decide +kernel
def k_X6_clock_39 : List mj_O := [(80, 0, 0, 0, [])]
theorem h_X6_clock_39 : mj_ch 6 cX6_clock 39 k_X6_clock_39 40 = true := by decide +kernel
def k_X6_task_0 : List mj_O := [(4, 0, 0, 0, []), (3, 1, 0, 0, []), (70, 321, 0, 0, []), (3, 2, 0, 0, []), (1, 0, 0, 2, []), (70, 245, 0, 0, []), (70, 257, 0, 0, []), (5, 3, 0, 0, []), (3, 3, 0, 0, []), (30, 26, 0, 0, []), (4, 0, 0, 0, []), (3, 3, 0, 0, []), (70, 177, 0, 0, []), (42, 39, 0, 0, [])]
theorem h_X6_task_0 : mj_ch 6 cX6_task 0 k_X6_task_0 26 = true := by decide +kernel
def k_X6_task_26 : List mj_O := [(4, 0, 0, 0, []), (51, 6, 0, 0, []), (51, 2, 2, 0, []), (3, 1, 0, 0, []), (64, 0, 0, 0, []), (3, 2, 0, 0, []), (70, 342, 0, 0, [])]
theorem h_X6_task_26 : mj_ch 6 cX6_task 26 k_X6_task_26 39 = true := by decide +kernel
def k_X6_task_39 : List mj_O := [(80, 0, 0, 0, [])]
theorem h_X6_task_39 : mj_ch 6 cX6_task 39 k_X6_task_39 40 = true := by decide +kernel
def k_X6_set_0 : List mj_O := [(4, 0, 0, 0, []), (3, 1, 0, 0, []), (70, 291, 0, 0, []), (3, 2, 0, 0, []), (1, 0, 0, 0, []), (1, 0, 0, 299, []), (70, 155, 0, 0, []), (70, 257, 0, 0, []), (5, 3, 0, 0, []), (3, 3, 0, 0, []), (30, 29, 0, 0, []), (4, 0, 0, 0, []), (3, 3, 0, 0, []), (70, 177, 0, 0, []), (42, 43, 0, 0, [])]
theorem h_X6_set_0 : mj_ch 6 cX6_set 0 k_X6_set_0 29 = true := by decide +kernel
def k_X6_set_29 : List mj_O := [(4, 0, 0, 0, []), (51, 6, 0, 0, []), (51, 2, 1, 0, []), (3, 1, 0, 0, []), (64, 0, 0, 0, []), (1, 0, 0, 2, []), (3, 2, 0, 0, []), (70, 351, 0, 0, [])]
theorem h_X6_set_29 : mj_ch 6 cX6_set 29 k_X6_set_29 43 = true := by decide +kernel
def k_X6_set_43 : List mj_O := [(80, 0, 0, 0, [])]
theorem h_X6_set_43 : mj_ch 6 cX6_set 43 k_X6_set_43 44 = true := by decide +kernel
def k_X6_every_0 : List mj_O := [(4, 0, 0, 0, []), (3, 1, 0, 0, []), (70, 291, 0, 0, []), (3, 2, 0, 0, []), (1, 0, 0, 1, []), (1, 0, 0, 20, []), (70, 155, 0, 0, []), (70, 257, 0, 0, []), (5, 3, 0, 0, []), (3, 3, 0, 0, []), (30, 28, 0, 0, []), (4, 0, 0, 0, []), (3, 3, 0, 0, []), (70, 177, 0, 0, []), (42, 42, 0, 0, [])]
theorem h_X6_every_0 : mj_ch 6 cX6_every 0 k_X6_every_0 28 = true := by decide +kernel
def k_X6_every_28 : List mj_O := [(4, 0, 0, 0, []), (51, 6, 0, 0, []), (51, 2, 1, 0, []), (3, 1, 0, 0, []), (64, 0, 0, 0, []), (1, 0, 0, 3, []), (3, 2, 0, 0, []), (70, 351, 0, 0, [])]
theorem h_X6_every_28 : mj_ch 6 cX6_every 28 k_X6_every_28 42 = true := by decide +kernel
def k_X6_every_42 : List mj_O := [(80, 0, 0, 0, [])]
theorem h_X6_every_42 : mj_ch 6 cX6_every 42 k_X6_every_42 43 = true := by decide +kernel
def k_X6_firm_0 : List mj_O := [(3, 1, 0, 0, []), (1, 0, 0, 0, []), (1, 0, 0, 99, []), (70, 155, 0, 0, []), (5, 2, 0, 0, []), (3, 2, 0, 0, []), (30, 18, 0, 0, []), (4, 0, 0, 0, []), (3, 2, 0, 0, []), (70, 177, 0, 0, []), (80, 0, 0, 0, [])]
theorem h_X6_firm_0 : mj_ch 6 cX6_firm 0 k_X6_firm_0 18 = true := by decide +kernel
def k_X6_firm_18 : List mj_O := [(4, 0, 0, 0, []), (51, 6, 0, 0, []), (50, 2, 7, 0, []), (5, 3, 0, 0, []), (4, 0, 0, 0, []), (51, 6, 0, 0, []), (3, 1, 0, 0, []), (52, 2, 7, 0, []), (3, 3, 0, 0, []), (80, 0, 0, 0, [])]
theorem h_X6_firm_18 : mj_ch 6 cX6_firm 18 k_X6_firm_18 36 = true := by decide +kernel
def k_X6_bus_0 : List mj_O := [(3, 1, 0, 0, []), (1, 0, 0, 0, []), (1, 0, 0, 299, []), (70, 155, 0, 0, []), (5, 2, 0, 0, []), (3, 2, 0, 0, []), (30, 19, 0, 0, []), (4, 0, 0, 0, []), (3, 2, 0, 0, []), (70, 177, 0, 0, []), (80, 0, 0, 0, [])]
theorem h_X6_bus_0 : mj_ch 6 cX6_bus 0 k_X6_bus_0 19 = true := by decide +kernel
def k_X6_bus_19 : List mj_O := [(4, 0, 0, 0, []), (51, 6, 0, 0, []), (50, 2, 6, 0, []), (5, 3, 0, 0, []), (4, 0, 0, 0, []), (51, 6, 0, 0, []), (3, 1, 0, 0, []), (52, 2, 6, 0, []), (3, 3, 0, 0, []), (80, 0, 0, 0, [])]
theorem h_X6_bus_19 : mj_ch 6 cX6_bus 19 k_X6_bus_19 37 = true := by decide +kernel
def k_X6_tired_0 : List mj_O := [(3, 1, 0, 0, []), (1, 0, 0, 0, []), (1, 0, 0, 9, []), (70, 155, 0, 0, []), (5, 2, 0, 0, []), (3, 2, 0, 0, []), (30, 18, 0, 0, []), (4, 0, 0, 0, []), (3, 2, 0, 0, []), (70, 177, 0, 0, []), (80, 0, 0, 0, [])]
theorem h_X6_tired_0 : mj_ch 6 cX6_tired 0 k_X6_tired_0 18 = true := by decide +kernel
def k_X6_tired_18 : List mj_O := [(4, 0, 0, 0, []), (51, 6, 0, 0, []), (50, 2, 8, 0, []), (5, 3, 0, 0, []), (4, 0, 0, 0, []), (51, 6, 0, 0, []), (3, 1, 0, 0, []), (52, 2, 8, 0, []), (3, 3, 0, 0, []), (80, 0, 0, 0, [])]
theorem h_X6_tired_18 : mj_ch 6 cX6_tired 18 k_X6_tired_18 36 = true := by decide +kernel
def k_X6_night_0 : List mj_O := [(4, 0, 0, 0, []), (51, 6, 0, 0, []), (50, 2, 3, 0, []), (31, 17, 0, 0, []), (4, 0, 0, 0, []), (1, 0, 0, (-3), []), (70, 177, 0, 0, []), (80, 0, 0, 0, [])]
theorem h_X6_night_0 : mj_ch 6 cX6_night 0 k_X6_night_0 17 = true := by decide +kernel
def k_X6_night_17 : List mj_O := [(4, 0, 0, 0, []), (51, 6, 4, 0, []), (4, 0, 0, 0, []), (51, 6, 0, 0, []), (1, 0, 0, 0, []), (1, 0, 0, (-1), []), (70, 396, 0, 0, []), (4, 0, 0, 0, []), (51, 6, 0, 0, []), (4, 0, 0, 0, []), (51, 6, 4, 0, []), (50, 1, 4, 0, []), (70, 417, 0, 0, []), (4, 0, 0, 0, []), (51, 6, 0, 0, []), (50, 2, 9, 0, []), (80, 0, 0, 0, [])]
theorem h_X6_night_17 : mj_ch 6 cX6_night 17 k_X6_night_17 52 = true := by decide +kernel
def k_X6_depth_0 : List mj_O := [(4, 0, 0, 0, []), (3, 1, 0, 0, []), (70, 234, 0, 0, []), (3, 2, 0, 0, []), (1, 0, 0, 0, []), (1, 0, 0, 299, []), (70, 155, 0, 0, []), (70, 257, 0, 0, []), (5, 3, 0, 0, []), (3, 3, 0, 0, []), (30, 29, 0, 0, []), (4, 0, 0, 0, []), (3, 3, 0, 0, []), (70, 177, 0, 0, []), (42, 38, 0, 0, [])]
theorem h_X6_depth_0 : mj_ch 6 cX6_depth 0 k_X6_depth_0 29 = true := by decide +kernel
def k_X6_depth_29 : List mj_O := [(4, 0, 0, 0, []), (51, 6, 0, 0, []), (3, 1, 0, 0, []), (3, 2, 0, 0, []), (70, 438, 0, 0, [])]
theorem h_X6_depth_29 : mj_ch 6 cX6_depth 29 k_X6_depth_29 38 = true := by decide +kernel
def k_X6_depth_38 : List mj_O := [(80, 0, 0, 0, [])]
theorem h_X6_depth_38 : mj_ch 6 cX6_depth 38 k_X6_depth_38 39 = true := by decide +kernel
def k_X6_up_0 : List mj_O := [(4, 0, 0, 0, []), (3, 1, 0, 0, []), (70, 234, 0, 0, []), (5, 2, 0, 0, []), (3, 2, 0, 0, []), (31, 23, 0, 0, []), (4, 0, 0, 0, []), (51, 6, 4, 0, []), (4, 0, 0, 0, []), (51, 6, 0, 0, []), (3, 1, 0, 0, []), (1, 0, 0, (-1), []), (70, 396, 0, 0, [])]
theorem h_X6_up_0 : mj_ch 6 cX6_up 0 k_X6_up_0 23 = true := by decide +kernel
def k_X6_up_23 : List mj_O := [(3, 2, 0, 0, []), (30, 35, 0, 0, []), (4, 0, 0, 0, []), (3, 2, 0, 0, []), (70, 177, 0, 0, []), (42, 42, 0, 0, [])]
theorem h_X6_up_23 : mj_ch 6 cX6_up 23 k_X6_up_23 35 = true := by decide +kernel
def k_X6_up_35 : List mj_O := [(4, 0, 0, 0, []), (51, 6, 4, 0, []), (50, 1, 3, 0, [])]
theorem h_X6_up_35 : mj_ch 6 cX6_up 35 k_X6_up_35 42 = true := by decide +kernel
def k_X6_up_42 : List mj_O := [(80, 0, 0, 0, [])]
theorem h_X6_up_42 : mj_ch 6 cX6_up 42 k_X6_up_42 43 = true := by decide +kernel
def k_X6_presses_0 : List mj_O := [(4, 0, 0, 0, []), (3, 1, 0, 0, []), (70, 234, 0, 0, []), (5, 2, 0, 0, []), (3, 2, 0, 0, []), (31, 23, 0, 0, []), (4, 0, 0, 0, []), (51, 6, 4, 0, []), (4, 0, 0, 0, []), (51, 6, 0, 0, []), (3, 1, 0, 0, []), (1, 0, 0, (-1), []), (70, 396, 0, 0, [])]
theorem h_X6_presses_0 : mj_ch 6 cX6_presses 0 k_X6_presses_0 23 = true := by decide +kernel
def k_X6_presses_23 : List mj_O := [(3, 2, 0, 0, []), (30, 35, 0, 0, []), (4, 0, 0, 0, []), (3, 2, 0, 0, []), (70, 177, 0, 0, []), (42, 42, 0, 0, [])]
theorem h_X6_presses_23 : mj_ch 6 cX6_presses 23 k_X6_presses_23 35 = true := by decide +kernel
def k_X6_presses_35 : List mj_O := [(4, 0, 0, 0, []), (51, 6, 4, 0, []), (50, 1, 4, 0, [])]
theorem h_X6_presses_35 : mj_ch 6 cX6_presses 35 k_X6_presses_35 42 = true := by decide +kernel
def k_X6_presses_42 : List mj_O := [(80, 0, 0, 0, [])]
theorem h_X6_presses_42 : mj_ch 6 cX6_presses 42 k_X6_presses_42 43 = true := by decide +kernel
def k_X6_slept_0 : List mj_O := [(4, 0, 0, 0, []), (3, 1, 0, 0, []), (70, 234, 0, 0, []), (5, 2, 0, 0, []), (3, 2, 0, 0, []), (31, 23, 0, 0, []), (4, 0, 0, 0, []), (51, 6, 4, 0, []), (4, 0, 0, 0, []), (51, 6, 0, 0, []), (3, 1, 0, 0, []), (1, 0, 0, (-1), []), (70, 396, 0, 0, [])]
theorem h_X6_slept_0 : mj_ch 6 cX6_slept 0 k_X6_slept_0 23 = true := by decide +kernel
def k_X6_slept_23 : List mj_O := [(3, 2, 0, 0, []), (30, 35, 0, 0, []), (4, 0, 0, 0, []), (3, 2, 0, 0, []), (70, 177, 0, 0, []), (42, 42, 0, 0, [])]
theorem h_X6_slept_23 : mj_ch 6 cX6_slept 23 k_X6_slept_23 35 = true := by decide +kernel
def k_X6_slept_35 : List mj_O := [(4, 0, 0, 0, []), (51, 6, 4, 0, []), (50, 1, 5, 0, [])]
theorem h_X6_slept_35 : mj_ch 6 cX6_slept 35 k_X6_slept_35 42 = true := by decide +kernel
def k_X6_slept_42 : List mj_O := [(80, 0, 0, 0, [])]
theorem h_X6_slept_42 : mj_ch 6 cX6_slept 42 k_X6_slept_42 43 = true := by decide +kernel
def k_X6_done_0 : List mj_O := [(3, 1, 0, 0, []), (1, 0, 0, 0, []), (1, 0, 0, 300, []), (70, 155, 0, 0, []), (3, 2, 0, 0, []), (1, 0, 0, 2, []), (70, 245, 0, 0, []), (70, 257, 0, 0, []), (5, 3, 0, 0, []), (3, 3, 0, 0, []), (30, 27, 0, 0, []), (4, 0, 0, 0, []), (3, 3, 0, 0, []), (70, 177, 0, 0, []), (80, 0, 0, 0, [])]
theorem h_X6_done_0 : mj_ch 6 cX6_done 0 k_X6_done_0 27 = true := by decide +kernel
def k_X6_done_27 : List mj_O := [(4, 0, 0, 0, []), (51, 6, 0, 0, []), (3, 1, 0, 0, []), (70, 465, 0, 0, []), (5, 4, 0, 0, []), (3, 2, 0, 0, []), (31, 46, 0, 0, []), (3, 4, 0, 0, []), (42, 56, 0, 0, [])]
theorem h_X6_done_27 : mj_ch 6 cX6_done 27 k_X6_done_27 46 = true := by decide +kernel
def k_X6_done_46 : List mj_O := [(4, 0, 0, 0, []), (51, 6, 0, 0, []), (3, 4, 0, 0, []), (1, 0, 0, 1, []), (70, 474, 0, 0, [])]
theorem h_X6_done_46 : mj_ch 6 cX6_done 46 k_X6_done_46 56 = true := by decide +kernel
def k_X6_done_56 : List mj_O := [(80, 0, 0, 0, [])]
theorem h_X6_done_56 : mj_ch 6 cX6_done 56 k_X6_done_56 57 = true := by decide +kernel
def k_X6_value_0 : List mj_O := [(4, 0, 0, 0, []), (3, 1, 0, 0, []), (70, 234, 0, 0, []), (5, 2, 0, 0, []), (3, 2, 0, 0, []), (30, 18, 0, 0, []), (4, 0, 0, 0, []), (3, 2, 0, 0, []), (70, 483, 0, 0, []), (42, 27, 0, 0, [])]
theorem h_X6_value_0 : mj_ch 6 cX6_value 0 k_X6_value_0 18 = true := by decide +kernel
def k_X6_value_18 : List mj_O := [(4, 0, 0, 0, []), (4, 0, 0, 0, []), (51, 6, 0, 0, []), (3, 1, 0, 0, []), (70, 492, 0, 0, [])]
theorem h_X6_value_18 : mj_ch 6 cX6_value 18 k_X6_value_18 27 = true := by decide +kernel
def k_X6_value_27 : List mj_O := [(80, 0, 0, 0, [])]
theorem h_X6_value_27 : mj_ch 6 cX6_value 27 k_X6_value_27 28 = true := by decide +kernel
def k_X6_cost_0 : List mj_O := [(3, 1, 0, 0, []), (1, 0, 0, 0, []), (1, 0, 0, 299, []), (70, 155, 0, 0, []), (5, 2, 0, 0, []), (3, 2, 0, 0, []), (30, 21, 0, 0, []), (4, 0, 0, 0, []), (3, 2, 0, 0, []), (70, 483, 0, 0, []), (42, 40, 0, 0, [])]
theorem h_X6_cost_0 : mj_ch 6 cX6_cost 0 k_X6_cost_0 21 = true := by decide +kernel
def k_X6_cost_21 : List mj_O := [(4, 0, 0, 0, []), (51, 6, 0, 0, []), (3, 1, 0, 0, []), (70, 504, 0, 0, []), (4, 0, 0, 0, []), (51, 6, 0, 0, []), (3, 1, 0, 0, []), (1, 0, 0, 1, []), (10, 0, 0, 0, []), (70, 504, 0, 0, []), (11, 0, 0, 0, [])]
theorem h_X6_cost_21 : mj_ch 6 cX6_cost 21 k_X6_cost_21 40 = true := by decide +kernel
def k_X6_cost_40 : List mj_O := [(80, 0, 0, 0, [])]
theorem h_X6_cost_40 : mj_ch 6 cX6_cost 40 k_X6_cost_40 41 = true := by decide +kernel
def k_X6_evening_0 : List mj_O := [(4, 0, 0, 0, []), (3, 1, 0, 0, []), (70, 291, 0, 0, []), (3, 2, 0, 0, []), (1, 0, 0, 4, []), (70, 245, 0, 0, []), (70, 257, 0, 0, []), (5, 3, 0, 0, []), (3, 3, 0, 0, []), (30, 24, 0, 0, []), (4, 0, 0, 0, []), (3, 3, 0, 0, []), (70, 483, 0, 0, []), (80, 0, 0, 0, [])]
theorem h_X6_evening_0 : mj_ch 6 cX6_evening 0 k_X6_evening_0 24 = true := by decide +kernel
def k_X6_evening_24 : List mj_O := [(3, 2, 0, 0, []), (1, 0, 0, 2, []), (14, 0, 0, 0, []), (1, 0, 0, 1, []), (37, 35, 0, 0, []), (1, 0, 0, 1, []), (42, 36, 0, 0, [])]
theorem h_X6_evening_24 : mj_ch 6 cX6_evening 24 k_X6_evening_24 35 = true := by decide +kernel
def k_X6_evening_35 : List mj_O := [(1, 0, 0, 0, [])]
theorem h_X6_evening_35 : mj_ch 6 cX6_evening 35 k_X6_evening_35 36 = true := by decide +kernel
def k_X6_evening_36 : List mj_O := [(5, 4, 0, 0, []), (3, 2, 0, 0, []), (1, 0, 0, 2, []), (39, 58, 0, 0, []), (4, 0, 0, 0, []), (3, 1, 0, 0, []), (1, 0, 0, 2, []), (1, 0, 0, 0, []), (1, 0, 0, 299, []), (3, 4, 0, 0, []), (70, 513, 0, 0, []), (42, 69, 0, 0, [])]
theorem h_X6_evening_36 : mj_ch 6 cX6_evening 36 k_X6_evening_36 58 = true := by decide +kernel
def k_X6_evening_58 : List mj_O := [(4, 0, 0, 0, []), (3, 1, 0, 0, []), (1, 0, 0, 3, []), (1, 0, 0, 1, []), (1, 0, 0, 20, []), (3, 4, 0, 0, []), (70, 513, 0, 0, [])]
theorem h_X6_evening_58 : mj_ch 6 cX6_evening 58 k_X6_evening_58 69 = true := by decide +kernel
def k_X6_evening_69 : List mj_O := [(80, 0, 0, 0, [])]
theorem h_X6_evening_69 : mj_ch 6 cX6_evening 69 k_X6_evening_69 70 = true := by decide +kernel
def k_X6_often_0 : List mj_O := [(4, 0, 0, 0, []), (3, 1, 0, 0, []), (70, 291, 0, 0, []), (3, 2, 0, 0, []), (1, 0, 0, 0, []), (1, 0, 0, 9, []), (70, 155, 0, 0, []), (70, 257, 0, 0, []), (5, 3, 0, 0, []), (3, 3, 0, 0, []), (30, 26, 0, 0, []), (4, 0, 0, 0, []), (3, 3, 0, 0, []), (70, 177, 0, 0, []), (80, 0, 0, 0, [])]
theorem h_X6_often_0 : mj_ch 6 cX6_often 0 k_X6_often_0 26 = true := by decide +kernel
def k_X6_often_26 : List mj_O := [(4, 0, 0, 0, []), (51, 6, 0, 0, []), (51, 2, 1, 0, []), (3, 1, 0, 0, []), (64, 0, 0, 0, []), (50, 0, 1, 0, []), (5, 4, 0, 0, []), (1, 0, 0, 0, []), (5, 5, 0, 0, []), (4, 0, 0, 0, []), (51, 6, 1, 0, []), (4, 0, 0, 0, []), (51, 6, 0, 0, []), (70, 201, 0, 0, []), (1, 0, 0, 0, []), (5, 6, 0, 0, [])]
theorem h_X6_often_26 : mj_ch 6 cX6_often 26 k_X6_often_26 57 = true := by decide +kernel
def k_X6_often_57 : List mj_O := [(3, 6, 0, 0, []), (1, 0, 0, 300, []), (39, 113, 0, 0, []), (4, 0, 0, 0, []), (51, 6, 1, 0, []), (51, 2, 1, 0, []), (3, 1, 0, 0, []), (64, 0, 0, 0, []), (3, 6, 0, 0, []), (52, 0, 2, 0, []), (4, 0, 0, 0, []), (51, 6, 4, 0, []), (4, 0, 0, 0, []), (51, 6, 1, 0, []), (3, 4, 0, 0, []), (1, 0, 0, (-1), []), (70, 396, 0, 0, []), (4, 0, 0, 0, []), (51, 6, 4, 0, []), (50, 1, 4, 0, []), (3, 2, 0, 0, []), (38, 107, 0, 0, []), (7, 5, 0, 1, [])]
theorem h_X6_often_57 : mj_ch 6 cX6_often 57 k_X6_often_57 107 = true := by decide +kernel
def k_X6_often_107 : List mj_O := [(7, 6, 0, 1, []), (42, 57, 0, 0, [])]
theorem h_X6_often_107 : mj_ch 6 cX6_often 107 k_X6_often_107 113 = true := by decide +kernel
def k_X6_often_113 : List mj_O := [(3, 5, 0, 0, []), (80, 0, 0, 0, [])]
theorem h_X6_often_113 : mj_ch 6 cX6_often 113 k_X6_often_113 116 = true := by decide +kernel
def k_X6_hears_0 : List mj_O := [(4, 0, 0, 0, []), (3, 1, 0, 0, []), (70, 234, 0, 0, []), (5, 2, 0, 0, []), (3, 2, 0, 0, []), (30, 18, 0, 0, []), (4, 0, 0, 0, []), (3, 2, 0, 0, []), (70, 177, 0, 0, []), (42, 27, 0, 0, [])]
theorem h_X6_hears_0 : mj_ch 6 cX6_hears 0 k_X6_hears_0 18 = true := by decide +kernel
def k_X6_hears_18 : List mj_O := [(4, 0, 0, 0, []), (4, 0, 0, 0, []), (51, 6, 0, 0, []), (3, 1, 0, 0, []), (70, 543, 0, 0, [])]
theorem h_X6_hears_18 : mj_ch 6 cX6_hears 18 k_X6_hears_18 27 = true := by decide +kernel
def k_X6_hears_27 : List mj_O := [(80, 0, 0, 0, [])]
theorem h_X6_hears_27 : mj_ch 6 cX6_hears 27 k_X6_hears_27 28 = true := by decide +kernel
def k_X6_silent_0 : List mj_O := [(4, 0, 0, 0, []), (3, 1, 0, 0, []), (70, 234, 0, 0, []), (5, 2, 0, 0, []), (3, 2, 0, 0, []), (30, 16, 0, 0, []), (4, 0, 0, 0, []), (3, 2, 0, 0, []), (70, 177, 0, 0, []), (80, 0, 0, 0, [])]
theorem h_X6_silent_0 : mj_ch 6 cX6_silent 0 k_X6_silent_0 16 = true := by decide +kernel
def k_X6_silent_16 : List mj_O := [(4, 0, 0, 0, []), (4, 0, 0, 0, []), (51, 6, 0, 0, []), (3, 1, 0, 0, []), (70, 543, 0, 0, []), (5, 3, 0, 0, []), (1, 0, 0, (-9), []), (5, 4, 0, 0, []), (1, 0, 0, 0, []), (5, 5, 0, 0, []), (4, 0, 0, 0, []), (51, 6, 1, 0, []), (4, 0, 0, 0, []), (51, 6, 0, 0, []), (70, 201, 0, 0, []), (1, 0, 0, 0, []), (5, 6, 0, 0, [])]
theorem h_X6_silent_16 : mj_ch 6 cX6_silent 16 k_X6_silent_16 47 = true := by decide +kernel
def k_X6_silent_47 : List mj_O := [(3, 6, 0, 0, []), (4, 0, 0, 0, []), (51, 6, 0, 0, []), (50, 2, 4, 0, []), (39, 152, 0, 0, []), (4, 0, 0, 0, []), (51, 6, 0, 0, []), (51, 2, 1, 0, []), (3, 6, 0, 0, []), (64, 0, 0, 0, []), (50, 0, 1, 0, []), (3, 1, 0, 0, []), (36, 146, 0, 0, []), (4, 0, 0, 0, []), (51, 6, 1, 0, []), (51, 2, 1, 0, []), (3, 6, 0, 0, []), (64, 0, 0, 0, []), (1, 0, 0, 300, []), (52, 0, 2, 0, []), (3, 3, 0, 0, []), (4, 0, 0, 0, []), (4, 0, 0, 0, []), (51, 6, 1, 0, []), (3, 1, 0, 0, []), (70, 543, 0, 0, []), (11, 0, 0, 0, []), (5, 7, 0, 0, []), (4, 0, 0, 0, []), (51, 6, 1, 0, []), (51, 2, 1, 0, []), (3, 6, 0, 0, []), (64, 0, 0, 0, []), (4, 0, 0, 0, []), (51, 6, 0, 0, []), (51, 2, 1, 0, []), (3, 6, 0, 0, []), (64, 0, 0, 0, []), (50, 0, 2, 0, []), (52, 0, 2, 0, []), (3, 7, 0, 0, []), (3, 5, 0, 0, []), (41, 146, 0, 0, []), (3, 7, 0, 0, []), (5, 5, 0, 0, []), (3, 6, 0, 0, []), (5, 4, 0, 0, [])]
theorem h_X6_silent_47 : mj_ch 6 cX6_silent 47 k_X6_silent_47 146 = true := by decide +kernel
def k_X6_silent_146 : List mj_O := [(7, 6, 0, 1, []), (42, 47, 0, 0, [])]
theorem h_X6_silent_146 : mj_ch 6 cX6_silent 146 k_X6_silent_146 152 = true := by decide +kernel
def k_X6_silent_152 : List mj_O := [(3, 4, 0, 0, []), (80, 0, 0, 0, [])]
theorem h_X6_silent_152 : mj_ch 6 cX6_silent 152 k_X6_silent_152 155 = true := by decide +kernel
def k_X6_bet_0 : List mj_O := [(4, 0, 0, 0, []), (3, 1, 0, 0, []), (70, 234, 0, 0, []), (5, 2, 0, 0, []), (3, 2, 0, 0, []), (30, 16, 0, 0, []), (4, 0, 0, 0, []), (3, 2, 0, 0, []), (70, 177, 0, 0, []), (80, 0, 0, 0, [])]
theorem h_X6_bet_0 : mj_ch 6 cX6_bet 0 k_X6_bet_0 16 = true := by decide +kernel
def k_X6_bet_16 : List mj_O := [(4, 0, 0, 0, []), (51, 6, 1, 0, []), (4, 0, 0, 0, []), (51, 6, 0, 0, []), (70, 201, 0, 0, []), (1, 0, 0, 0, []), (5, 3, 0, 0, [])]
theorem h_X6_bet_16 : mj_ch 6 cX6_bet 16 k_X6_bet_16 29 = true := by decide +kernel
def k_X6_bet_29 : List mj_O := [(3, 3, 0, 0, []), (1, 0, 0, 99, []), (40, 74, 0, 0, []), (4, 0, 0, 0, []), (51, 6, 1, 0, []), (3, 3, 0, 0, []), (52, 2, 7, 0, []), (4, 0, 0, 0, []), (51, 6, 4, 0, []), (4, 0, 0, 0, []), (51, 6, 1, 0, []), (3, 1, 0, 0, []), (1, 0, 0, (-1), []), (70, 396, 0, 0, []), (4, 0, 0, 0, []), (51, 6, 4, 0, []), (50, 1, 4, 0, []), (31, 68, 0, 0, []), (3, 3, 0, 0, []), (80, 0, 0, 0, [])]
theorem h_X6_bet_29 : mj_ch 6 cX6_bet 29 k_X6_bet_29 68 = true := by decide +kernel
def k_X6_bet_68 : List mj_O := [(7, 3, 0, 1, []), (42, 29, 0, 0, [])]
theorem h_X6_bet_68 : mj_ch 6 cX6_bet 68 k_X6_bet_68 74 = true := by decide +kernel
def k_X6_bet_74 : List mj_O := [(1, 0, 0, (-9), []), (80, 0, 0, 0, [])]
theorem h_X6_bet_74 : mj_ch 6 cX6_bet 74 k_X6_bet_74 77 = true := by decide +kernel
def k_X6_leans_0 : List mj_O := [(4, 0, 0, 0, []), (3, 1, 0, 0, []), (70, 234, 0, 0, []), (3, 2, 0, 0, []), (1, 0, 0, 0, []), (1, 0, 0, 300, []), (70, 155, 0, 0, []), (70, 257, 0, 0, []), (5, 3, 0, 0, []), (3, 3, 0, 0, []), (30, 27, 0, 0, []), (4, 0, 0, 0, []), (3, 3, 0, 0, []), (70, 177, 0, 0, []), (80, 0, 0, 0, [])]
theorem h_X6_leans_0 : mj_ch 6 cX6_leans 0 k_X6_leans_0 27 = true := by decide +kernel
def k_X6_leans_27 : List mj_O := [(1, 0, 0, 0, []), (5, 4, 0, 0, []), (4, 0, 0, 0, []), (51, 6, 1, 0, []), (4, 0, 0, 0, []), (51, 6, 0, 0, []), (70, 201, 0, 0, []), (1, 0, 0, 0, []), (5, 5, 0, 0, [])]
theorem h_X6_leans_27 : mj_ch 6 cX6_leans 27 k_X6_leans_27 44 = true := by decide +kernel
def k_X6_leans_44 : List mj_O := [(3, 5, 0, 0, []), (1, 0, 0, 30, []), (40, 104, 0, 0, []), (4, 0, 0, 0, []), (51, 6, 1, 0, []), (51, 2, 0, 0, []), (3, 1, 0, 0, []), (64, 0, 0, 0, []), (3, 5, 0, 0, []), (52, 3, 3, 0, []), (4, 0, 0, 0, []), (51, 6, 4, 0, []), (4, 0, 0, 0, []), (51, 6, 1, 0, []), (3, 1, 0, 0, []), (1, 0, 0, (-1), []), (70, 396, 0, 0, []), (4, 0, 0, 0, []), (51, 6, 4, 0, []), (50, 1, 3, 0, []), (3, 2, 0, 0, []), (37, 98, 0, 0, []), (3, 4, 0, 0, []), (1, 0, 0, 1, []), (3, 5, 0, 0, []), (16, 0, 0, 0, []), (19, 0, 0, 0, []), (5, 4, 0, 0, [])]
theorem h_X6_leans_44 : mj_ch 6 cX6_leans 44 k_X6_leans_44 98 = true := by decide +kernel
def k_X6_leans_98 : List mj_O := [(7, 5, 0, 1, []), (42, 44, 0, 0, [])]
theorem h_X6_leans_98 : mj_ch 6 cX6_leans 98 k_X6_leans_98 104 = true := by decide +kernel
def k_X6_leans_104 : List mj_O := [(3, 4, 0, 0, []), (80, 0, 0, 0, [])]
theorem h_X6_leans_104 : mj_ch 6 cX6_leans 104 k_X6_leans_104 107 = true := by decide +kernel
def k_X6_back_0 : List mj_O := [(4, 0, 0, 0, []), (3, 1, 0, 0, []), (70, 291, 0, 0, []), (3, 2, 0, 0, []), (1, 0, 0, 0, []), (1, 0, 0, 300, []), (70, 155, 0, 0, []), (70, 257, 0, 0, []), (5, 3, 0, 0, []), (3, 3, 0, 0, []), (30, 27, 0, 0, []), (4, 0, 0, 0, []), (3, 3, 0, 0, []), (70, 177, 0, 0, []), (80, 0, 0, 0, [])]
theorem h_X6_back_0 : mj_ch 6 cX6_back 0 k_X6_back_0 27 = true := by decide +kernel
def k_X6_back_27 : List mj_O := [(4, 0, 0, 0, []), (51, 6, 0, 0, []), (51, 2, 1, 0, []), (3, 1, 0, 0, []), (64, 0, 0, 0, []), (50, 0, 1, 0, []), (5, 4, 0, 0, []), (4, 0, 0, 0, []), (51, 6, 0, 0, []), (51, 2, 1, 0, []), (3, 1, 0, 0, []), (64, 0, 0, 0, []), (50, 0, 2, 0, []), (5, 5, 0, 0, []), (4, 0, 0, 0, []), (51, 6, 1, 0, []), (4, 0, 0, 0, []), (51, 6, 0, 0, []), (70, 201, 0, 0, []), (1, 0, 0, 0, []), (5, 6, 0, 0, [])]
theorem h_X6_back_27 : mj_ch 6 cX6_back 27 k_X6_back_27 69 = true := by decide +kernel
def k_X6_back_69 : List mj_O := [(3, 6, 0, 0, []), (1, 0, 0, 60, []), (40, 134, 0, 0, []), (3, 6, 0, 0, []), (3, 5, 0, 0, []), (40, 134, 0, 0, []), (4, 0, 0, 0, []), (51, 6, 1, 0, []), (51, 2, 1, 0, []), (3, 1, 0, 0, []), (64, 0, 0, 0, []), (3, 5, 0, 0, []), (3, 6, 0, 0, []), (11, 0, 0, 0, []), (52, 0, 2, 0, []), (4, 0, 0, 0, []), (51, 6, 4, 0, []), (4, 0, 0, 0, []), (51, 6, 1, 0, []), (3, 4, 0, 0, []), (1, 0, 0, (-1), []), (70, 396, 0, 0, []), (4, 0, 0, 0, []), (51, 6, 4, 0, []), (50, 1, 3, 0, []), (3, 2, 0, 0, []), (37, 128, 0, 0, []), (3, 6, 0, 0, []), (80, 0, 0, 0, [])]
theorem h_X6_back_69 : mj_ch 6 cX6_back 69 k_X6_back_69 128 = true := by decide +kernel
def k_X6_back_128 : List mj_O := [(7, 6, 0, 1, []), (42, 69, 0, 0, [])]
theorem h_X6_back_128 : mj_ch 6 cX6_back 128 k_X6_back_128 134 = true := by decide +kernel
def k_X6_back_134 : List mj_O := [(1, 0, 0, (-9), []), (80, 0, 0, 0, [])]
theorem h_X6_back_134 : mj_ch 6 cX6_back 134 k_X6_back_134 137 = true := by decide +kernel
def k_X6_moment_0 : List mj_O := [(4, 0, 0, 0, []), (3, 1, 0, 0, []), (70, 234, 0, 0, []), (5, 4, 0, 0, []), (3, 4, 0, 0, []), (31, 25, 0, 0, []), (3, 2, 0, 0, []), (32, 21, 0, 0, []), (3, 3, 0, 0, []), (1, 0, 0, 1, []), (39, 25, 0, 0, [])]
theorem h_X6_moment_0 : mj_ch 6 cX6_moment 0 k_X6_moment_0 21 = true := by decide +kernel
def k_X6_moment_21 : List mj_O := [(1, 0, 0, (-4), []), (5, 4, 0, 0, [])]
theorem h_X6_moment_21 : mj_ch 6 cX6_moment 21 k_X6_moment_21 25 = true := by decide +kernel
def k_X6_moment_25 : List mj_O := [(3, 4, 0, 0, []), (31, 49, 0, 0, []), (3, 3, 0, 0, []), (1, 0, 0, 30, []), (40, 45, 0, 0, []), (3, 2, 0, 0, []), (1, 0, 0, 300, []), (3, 3, 0, 0, []), (11, 0, 0, 0, []), (41, 49, 0, 0, [])]
theorem h_X6_moment_25 : mj_ch 6 cX6_moment 25 k_X6_moment_25 45 = true := by decide +kernel
def k_X6_moment_45 : List mj_O := [(1, 0, 0, (-6), []), (5, 4, 0, 0, [])]
theorem h_X6_moment_45 : mj_ch 6 cX6_moment 45 k_X6_moment_45 49 = true := by decide +kernel
def k_X6_moment_49 : List mj_O := [(3, 4, 0, 0, []), (30, 61, 0, 0, []), (4, 0, 0, 0, []), (3, 4, 0, 0, []), (70, 177, 0, 0, []), (80, 0, 0, 0, [])]
theorem h_X6_moment_49 : mj_ch 6 cX6_moment 49 k_X6_moment_49 61 = true := by decide +kernel
def k_X6_moment_61 : List mj_O := [(3, 2, 0, 0, []), (5, 5, 0, 0, []), (1, 0, 0, 1, []), (5, 6, 0, 0, [])]
theorem h_X6_moment_61 : mj_ch 6 cX6_moment 61 k_X6_moment_61 67 = true := by decide +kernel
def k_X6_moment_67 : List mj_O := [(3, 6, 0, 0, []), (3, 3, 0, 0, []), (39, 110, 0, 0, []), (4, 0, 0, 0, []), (51, 6, 0, 0, []), (3, 1, 0, 0, []), (3, 2, 0, 0, []), (3, 6, 0, 0, []), (10, 0, 0, 0, []), (70, 438, 0, 0, []), (4, 0, 0, 0, []), (51, 6, 0, 0, []), (3, 1, 0, 0, []), (3, 5, 0, 0, []), (70, 438, 0, 0, []), (39, 104, 0, 0, []), (3, 2, 0, 0, []), (3, 6, 0, 0, []), (10, 0, 0, 0, []), (5, 5, 0, 0, [])]
theorem h_X6_moment_67 : mj_ch 6 cX6_moment 67 k_X6_moment_67 104 = true := by decide +kernel
def k_X6_moment_104 : List mj_O := [(7, 6, 0, 1, []), (42, 67, 0, 0, [])]
theorem h_X6_moment_104 : mj_ch 6 cX6_moment 104 k_X6_moment_104 110 = true := by decide +kernel
def k_X6_moment_110 : List mj_O := [(3, 5, 0, 0, []), (80, 0, 0, 0, [])]
theorem h_X6_moment_110 : mj_ch 6 cX6_moment 110 k_X6_moment_110 113 = true := by decide +kernel
def k_X6_week_0 : List mj_O := [(4, 0, 0, 0, []), (3, 1, 0, 0, []), (70, 234, 0, 0, []), (5, 4, 0, 0, []), (3, 2, 0, 0, []), (4, 0, 0, 0, []), (51, 6, 0, 0, []), (50, 2, 9, 0, []), (38, 24, 0, 0, []), (3, 2, 0, 0, []), (1, 0, 0, 6, []), (41, 27, 0, 0, [])]
theorem h_X6_week_0 : mj_ch 6 cX6_week 0 k_X6_week_0 24 = true := by decide +kernel
def k_X6_week_24 : List mj_O := [(1, 0, 0, (-1), []), (5, 4, 0, 0, [])]
theorem h_X6_week_24 : mj_ch 6 cX6_week 24 k_X6_week_24 27 = true := by decide +kernel
def k_X6_week_27 : List mj_O := [(3, 4, 0, 0, []), (3, 3, 0, 0, []), (1, 0, 0, 3, []), (70, 245, 0, 0, []), (70, 257, 0, 0, []), (5, 4, 0, 0, []), (3, 4, 0, 0, []), (30, 51, 0, 0, []), (4, 0, 0, 0, []), (3, 4, 0, 0, []), (70, 177, 0, 0, []), (80, 0, 0, 0, [])]
theorem h_X6_week_27 : mj_ch 6 cX6_week 27 k_X6_week_27 51 = true := by decide +kernel
def k_X6_week_51 : List mj_O := [(1, 0, 0, 0, []), (5, 5, 0, 0, []), (4, 0, 0, 0, []), (51, 6, 1, 0, []), (4, 0, 0, 0, []), (51, 6, 0, 0, []), (70, 201, 0, 0, []), (4, 0, 0, 0, []), (51, 6, 0, 0, []), (50, 2, 9, 0, []), (5, 6, 0, 0, [])]
theorem h_X6_week_51 : mj_ch 6 cX6_week 51 k_X6_week_51 74 = true := by decide +kernel
def k_X6_week_74 : List mj_O := [(3, 6, 0, 0, []), (3, 2, 0, 0, []), (40, 125, 0, 0, []), (4, 0, 0, 0, []), (51, 6, 4, 0, []), (4, 0, 0, 0, []), (51, 6, 1, 0, []), (3, 1, 0, 0, []), (1, 0, 0, (-1), []), (70, 396, 0, 0, []), (4, 0, 0, 0, []), (51, 6, 1, 0, []), (4, 0, 0, 0, []), (51, 6, 4, 0, []), (50, 1, 4, 0, []), (70, 417, 0, 0, []), (3, 5, 0, 0, []), (4, 0, 0, 0, []), (51, 6, 4, 0, []), (50, 1, 4, 0, []), (10, 0, 0, 0, []), (5, 5, 0, 0, []), (7, 6, 0, 1, []), (42, 74, 0, 0, [])]
theorem h_X6_week_74 : mj_ch 6 cX6_week 74 k_X6_week_74 125 = true := by decide +kernel
def k_X6_week_125 : List mj_O := [(3, 3, 0, 0, []), (31, 137, 0, 0, []), (4, 0, 0, 0, []), (51, 6, 4, 0, []), (50, 1, 4, 0, []), (80, 0, 0, 0, [])]
theorem h_X6_week_125 : mj_ch 6 cX6_week 125 k_X6_week_125 137 = true := by decide +kernel
def k_X6_week_137 : List mj_O := [(3, 3, 0, 0, []), (1, 0, 0, 1, []), (37, 147, 0, 0, []), (3, 5, 0, 0, []), (42, 154, 0, 0, [])]
theorem h_X6_week_137 : mj_ch 6 cX6_week 137 k_X6_week_137 147 = true := by decide +kernel
def k_X6_week_147 : List mj_O := [(4, 0, 0, 0, []), (51, 6, 1, 0, []), (50, 2, 8, 0, [])]
theorem h_X6_week_147 : mj_ch 6 cX6_week 147 k_X6_week_147 154 = true := by decide +kernel
def k_X6_week_154 : List mj_O := [(80, 0, 0, 0, [])]
theorem h_X6_week_154 : mj_ch 6 cX6_week 154 k_X6_week_154 155 = true := by decide +kernel
def k_X6_row_0 : List mj_O := [(3, 1, 0, 0, []), (1, 0, 0, 0, []), (1, 0, 0, 300, []), (70, 155, 0, 0, []), (5, 2, 0, 0, []), (3, 2, 0, 0, []), (31, 28, 0, 0, []), (4, 0, 0, 0, []), (50, 6, 7, 0, []), (4, 0, 0, 0, []), (51, 6, 6, 0, []), (65, 0, 0, 0, []), (38, 28, 0, 0, []), (1, 0, 0, (-6), []), (5, 2, 0, 0, [])]
theorem h_X6_row_0 : mj_ch 6 cX6_row 0 k_X6_row_0 28 = true := by decide +kernel
def k_X6_row_28 : List mj_O := [(3, 2, 0, 0, []), (30, 38, 0, 0, []), (4, 0, 0, 0, []), (3, 2, 0, 0, []), (70, 177, 0, 0, []), (80, 0, 0, 0, [])]
theorem h_X6_row_28 : mj_ch 6 cX6_row 28 k_X6_row_28 38 = true := by decide +kernel
def k_X6_row_38 : List mj_O := [(4, 0, 0, 0, []), (51, 6, 6, 0, []), (4, 0, 0, 0, []), (50, 6, 7, 0, []), (3, 1, 0, 0, []), (61, 0, 0, 0, []), (4, 0, 0, 0, []), (21, 0, 0, 0, []), (50, 6, 7, 0, []), (1, 0, 0, 1, []), (10, 0, 0, 0, []), (52, 6, 7, 0, []), (4, 0, 0, 0, []), (50, 6, 7, 0, []), (80, 0, 0, 0, [])]
theorem h_X6_row_38 : mj_ch 6 cX6_row 38 k_X6_row_38 63 = true := by decide +kernel
def k_X6_judge_0 : List mj_O := [(4, 0, 0, 0, []), (3, 1, 0, 0, []), (70, 234, 0, 0, []), (5, 2, 0, 0, []), (3, 2, 0, 0, []), (30, 16, 0, 0, []), (4, 0, 0, 0, []), (3, 2, 0, 0, []), (70, 177, 0, 0, []), (80, 0, 0, 0, [])]
theorem h_X6_judge_0 : mj_ch 6 cX6_judge 0 k_X6_judge_0 16 = true := by decide +kernel
def k_X6_judge_16 : List mj_O := [(4, 0, 0, 0, []), (51, 6, 1, 0, []), (4, 0, 0, 0, []), (51, 6, 0, 0, []), (70, 201, 0, 0, []), (4, 0, 0, 0, []), (3, 1, 0, 0, []), (70, 570, 0, 0, []), (80, 0, 0, 0, [])]
theorem h_X6_judge_16 : mj_ch 6 cX6_judge 16 k_X6_judge_16 33 = true := by decide +kernel
def k_X6_firms_0 : List mj_O := [(4, 0, 0, 0, []), (3, 1, 0, 0, []), (70, 234, 0, 0, []), (3, 2, 0, 0, []), (1, 0, 0, 2, []), (70, 245, 0, 0, []), (70, 257, 0, 0, []), (5, 3, 0, 0, []), (3, 3, 0, 0, []), (30, 24, 0, 0, []), (4, 0, 0, 0, []), (3, 3, 0, 0, []), (70, 177, 0, 0, []), (80, 0, 0, 0, [])]
theorem h_X6_firms_0 : mj_ch 6 cX6_firms 0 k_X6_firms_0 24 = true := by decide +kernel
def k_X6_firms_24 : List mj_O := [(1, 0, 0, 0, []), (5, 4, 0, 0, []), (1, 0, 0, (-9), []), (5, 5, 0, 0, []), (4, 0, 0, 0, []), (51, 6, 1, 0, []), (4, 0, 0, 0, []), (51, 6, 0, 0, []), (70, 201, 0, 0, []), (1, 0, 0, 99, []), (5, 6, 0, 0, [])]
theorem h_X6_firms_24 : mj_ch 6 cX6_firms 24 k_X6_firms_24 46 = true := by decide +kernel
def k_X6_firms_46 : List mj_O := [(3, 6, 0, 0, []), (32, 83, 0, 0, []), (4, 0, 0, 0, []), (51, 6, 1, 0, []), (3, 6, 0, 0, []), (52, 2, 7, 0, []), (4, 0, 0, 0, []), (3, 1, 0, 0, []), (70, 570, 0, 0, []), (1, 0, 0, (-9), []), (37, 77, 0, 0, []), (7, 4, 0, 1, []), (3, 6, 0, 0, []), (5, 5, 0, 0, [])]
theorem h_X6_firms_46 : mj_ch 6 cX6_firms 46 k_X6_firms_46 77 = true := by decide +kernel
def k_X6_firms_77 : List mj_O := [(7, 6, 0, (-1), []), (42, 46, 0, 0, [])]
theorem h_X6_firms_77 : mj_ch 6 cX6_firms 77 k_X6_firms_77 83 = true := by decide +kernel
def k_X6_firms_83 : List mj_O := [(3, 2, 0, 0, []), (31, 92, 0, 0, []), (3, 4, 0, 0, []), (42, 94, 0, 0, [])]
theorem h_X6_firms_83 : mj_ch 6 cX6_firms 83 k_X6_firms_83 92 = true := by decide +kernel
def k_X6_firms_92 : List mj_O := [(3, 5, 0, 0, [])]
theorem h_X6_firms_92 : mj_ch 6 cX6_firms 92 k_X6_firms_92 94 = true := by decide +kernel
def k_X6_firms_94 : List mj_O := [(80, 0, 0, 0, [])]
theorem h_X6_firms_94 : mj_ch 6 cX6_firms 94 k_X6_firms_94 95 = true := by decide +kernel
def k_X6_clear_0 : List mj_O := [(4, 0, 0, 0, []), (50, 6, 7, 0, []), (5, 1, 0, 0, []), (4, 0, 0, 0, []), (1, 0, 0, 0, []), (52, 6, 7, 0, []), (3, 1, 0, 0, []), (80, 0, 0, 0, [])]
theorem h_X6_clear_0 : mj_ch 6 cX6_clear 0 k_X6_clear_0 12 = true := by decide +kernel
def k_X6_lots_0 : List mj_O := [(4, 0, 0, 0, []), (3, 1, 0, 0, []), (70, 234, 0, 0, []), (3, 2, 0, 0, []), (1, 0, 0, 1, []), (1, 0, 0, 30, []), (70, 155, 0, 0, []), (70, 257, 0, 0, []), (5, 4, 0, 0, []), (3, 4, 0, 0, []), (30, 29, 0, 0, []), (4, 0, 0, 0, []), (3, 4, 0, 0, []), (70, 177, 0, 0, []), (80, 0, 0, 0, [])]
theorem h_X6_lots_0 : mj_ch 6 cX6_lots 0 k_X6_lots_0 29 = true := by decide +kernel
def k_X6_lots_29 : List mj_O := [(3, 3, 0, 0, []), (5, 5, 0, 0, []), (1, 0, 0, 0, []), (5, 6, 0, 0, []), (4, 0, 0, 0, []), (51, 6, 1, 0, []), (4, 0, 0, 0, []), (51, 6, 0, 0, []), (70, 201, 0, 0, []), (1, 0, 0, 0, []), (5, 7, 0, 0, [])]
theorem h_X6_lots_29 : mj_ch 6 cX6_lots 29 k_X6_lots_29 49 = true := by decide +kernel
def k_X6_lots_49 : List mj_O := [(3, 7, 0, 0, []), (3, 2, 0, 0, []), (39, 95, 0, 0, []), (4, 0, 0, 0, []), (3, 1, 0, 0, []), (3, 5, 0, 0, []), (70, 579, 0, 0, []), (5, 5, 0, 0, []), (4, 0, 0, 0, []), (51, 6, 4, 0, []), (4, 0, 0, 0, []), (51, 6, 1, 0, []), (3, 1, 0, 0, []), (1, 0, 0, (-1), []), (70, 396, 0, 0, []), (3, 6, 0, 0, []), (4, 0, 0, 0, []), (51, 6, 4, 0, []), (50, 1, 4, 0, []), (10, 0, 0, 0, []), (5, 6, 0, 0, []), (7, 7, 0, 1, []), (42, 49, 0, 0, [])]
theorem h_X6_lots_49 : mj_ch 6 cX6_lots 49 k_X6_lots_49 95 = true := by decide +kernel
def k_X6_lots_95 : List mj_O := [(3, 6, 0, 0, []), (80, 0, 0, 0, [])]
theorem h_X6_lots_95 : mj_ch 6 cX6_lots 95 k_X6_lots_95 98 = true := by decide +kernel
def k_X6_image_0 : List mj_O := [(4, 0, 0, 0, []), (51, 6, 2, 0, []), (4, 0, 0, 0, []), (51, 6, 0, 0, []), (70, 201, 0, 0, []), (4, 0, 0, 0, []), (1, 0, 0, 1, []), (53, 6, 3, 0, []), (4, 0, 0, 0, []), (51, 6, 0, 0, []), (50, 2, 9, 0, []), (80, 0, 0, 0, [])]
theorem h_X6_image_0 : mj_ch 6 cX6_image 0 k_X6_image_0 24 = true := by decide +kernel
def k_X6_on_0 : List mj_O := [(4, 0, 0, 0, []), (50, 6, 3, 0, []), (31, 14, 0, 0, []), (4, 0, 0, 0, []), (1, 0, 0, (-3), []), (70, 177, 0, 0, []), (80, 0, 0, 0, [])]
theorem h_X6_on_0 : mj_ch 6 cX6_on 0 k_X6_on_0 14 = true := by decide +kernel
def k_X6_on_14 : List mj_O := [(4, 0, 0, 0, []), (51, 6, 0, 0, []), (4, 0, 0, 0, []), (51, 6, 2, 0, []), (70, 201, 0, 0, []), (4, 0, 0, 0, []), (51, 6, 0, 0, []), (50, 2, 9, 0, []), (80, 0, 0, 0, [])]
theorem h_X6_on_14 : mj_ch 6 cX6_on 14 k_X6_on_14 33 = true := by decide +kernel
def k_X6_count_0 : List mj_O := [(3, 1, 0, 0, []), (43, 136, 0, 0, [(0, 56), (1, 64), (2, 72), (3, 80), (4, 91), (5, 99), (6, 107), (7, 115), (8, 123), (9, 128)])]
theorem h_X6_count_0 : mj_ch 6 cX6_count 0 k_X6_count_0 56 = true := by decide +kernel
def k_X6_count_56 : List mj_O := [(4, 0, 0, 0, []), (51, 6, 0, 0, []), (50, 2, 3, 0, []), (80, 0, 0, 0, [])]
theorem h_X6_count_56 : mj_ch 6 cX6_count 56 k_X6_count_56 64 = true := by decide +kernel
def k_X6_count_64 : List mj_O := [(4, 0, 0, 0, []), (51, 6, 0, 0, []), (50, 2, 4, 0, []), (80, 0, 0, 0, [])]
theorem h_X6_count_64 : mj_ch 6 cX6_count 64 k_X6_count_64 72 = true := by decide +kernel
def k_X6_count_72 : List mj_O := [(4, 0, 0, 0, []), (51, 6, 0, 0, []), (50, 2, 5, 0, []), (80, 0, 0, 0, [])]
theorem h_X6_count_72 : mj_ch 6 cX6_count 72 k_X6_count_72 80 = true := by decide +kernel
def k_X6_count_80 : List mj_O := [(4, 0, 0, 0, []), (51, 6, 0, 0, []), (1, 0, 0, 63, []), (1, 0, 0, 0, []), (70, 474, 0, 0, []), (80, 0, 0, 0, [])]
theorem h_X6_count_80 : mj_ch 6 cX6_count 80 k_X6_count_80 91 = true := by decide +kernel
def k_X6_count_91 : List mj_O := [(4, 0, 0, 0, []), (51, 6, 0, 0, []), (50, 2, 6, 0, []), (80, 0, 0, 0, [])]
theorem h_X6_count_91 : mj_ch 6 cX6_count 91 k_X6_count_91 99 = true := by decide +kernel
def k_X6_count_99 : List mj_O := [(4, 0, 0, 0, []), (51, 6, 0, 0, []), (50, 2, 7, 0, []), (80, 0, 0, 0, [])]
theorem h_X6_count_99 : mj_ch 6 cX6_count 99 k_X6_count_99 107 = true := by decide +kernel
def k_X6_count_107 : List mj_O := [(4, 0, 0, 0, []), (51, 6, 0, 0, []), (50, 2, 8, 0, []), (80, 0, 0, 0, [])]
theorem h_X6_count_107 : mj_ch 6 cX6_count 107 k_X6_count_107 115 = true := by decide +kernel
def k_X6_count_115 : List mj_O := [(4, 0, 0, 0, []), (51, 6, 0, 0, []), (50, 2, 9, 0, []), (80, 0, 0, 0, [])]
theorem h_X6_count_115 : mj_ch 6 cX6_count 115 k_X6_count_115 123 = true := by decide +kernel
def k_X6_count_123 : List mj_O := [(4, 0, 0, 0, []), (50, 6, 7, 0, []), (80, 0, 0, 0, [])]
theorem h_X6_count_123 : mj_ch 6 cX6_count 123 k_X6_count_123 128 = true := by decide +kernel
def k_X6_count_128 : List mj_O := [(4, 0, 0, 0, []), (51, 6, 5, 0, []), (50, 5, 1, 0, []), (80, 0, 0, 0, [])]
theorem h_X6_count_128 : mj_ch 6 cX6_count 128 k_X6_count_128 136 = true := by decide +kernel
def k_X6_count_136 : List mj_O := [(4, 0, 0, 0, []), (3, 1, 0, 0, []), (70, 606, 0, 0, []), (80, 0, 0, 0, [])]
theorem h_X6_count_136 : mj_ch 6 cX6_count 136 k_X6_count_136 142 = true := by decide +kernel
def k_X6_refusalsOf_0 : List mj_O := [(3, 1, 0, 0, []), (1, 0, 0, 10, []), (41, 12, 0, 0, []), (3, 1, 0, 0, []), (1, 0, 0, 16, []), (41, 15, 0, 0, [])]
theorem h_X6_refusalsOf_0 : mj_ch 6 cX6_refusalsOf 0 k_X6_refusalsOf_0 12 = true := by decide +kernel
def k_X6_refusalsOf_12 : List mj_O := [(1, 0, 0, (-9), []), (80, 0, 0, 0, [])]
theorem h_X6_refusalsOf_12 : mj_ch 6 cX6_refusalsOf 12 k_X6_refusalsOf_12 15 = true := by decide +kernel
def k_X6_refusalsOf_15 : List mj_O := [(4, 0, 0, 0, []), (51, 6, 8, 0, []), (3, 1, 0, 0, []), (1, 0, 0, 10, []), (11, 0, 0, 0, []), (60, 0, 0, 0, []), (80, 0, 0, 0, [])]
theorem h_X6_refusalsOf_15 : mj_ch 6 cX6_refusalsOf 15 k_X6_refusalsOf_15 25 = true := by decide +kernel
def k_X6_refuse_0 : List mj_O := [(3, 1, 0, 0, []), (33, 21, 0, 0, []), (3, 1, 0, 0, []), (1, 0, 0, (-6), []), (38, 21, 0, 0, []), (4, 0, 0, 0, []), (51, 6, 8, 0, []), (3, 1, 0, 0, []), (15, 0, 0, 0, []), (22, 0, 0, 0, []), (60, 0, 0, 0, []), (1, 0, 0, 1, []), (10, 0, 0, 0, []), (61, 0, 0, 0, [])]
theorem h_X6_refuse_0 : mj_ch 6 cX6_refuse 0 k_X6_refuse_0 21 = true := by decide +kernel
def k_X6_refuse_21 : List mj_O := [(3, 1, 0, 0, []), (80, 0, 0, 0, [])]
theorem h_X6_refuse_21 : mj_ch 6 cX6_refuse 21 k_X6_refuse_21 23 = true := by decide +kernel
def k_X6_refuseValue_0 : List mj_O := [(1, 0, 0, 1000000000, []), (4, 0, 0, 0, []), (3, 1, 0, 0, []), (70, 177, 0, 0, []), (11, 0, 0, 0, []), (80, 0, 0, 0, [])]
theorem h_X6_refuseValue_0 : mj_ch 6 cX6_refuseValue 0 k_X6_refuseValue_0 9 = true := by decide +kernel
def k_X6_first_0 : List mj_O := [(3, 0, 0, 0, []), (30, 8, 0, 0, []), (3, 0, 0, 0, []), (42, 9, 0, 0, [])]
theorem h_X6_first_0 : mj_ch 6 cX6_first 0 k_X6_first_0 8 = true := by decide +kernel
def k_X6_first_8 : List mj_O := [(3, 1, 0, 0, [])]
theorem h_X6_first_8 : mj_ch 6 cX6_first 8 k_X6_first_8 9 = true := by decide +kernel
def k_X6_first_9 : List mj_O := [(80, 0, 0, 0, [])]
theorem h_X6_first_9 : mj_ch 6 cX6_first 9 k_X6_first_9 10 = true := by decide +kernel
def k_X6_outside_0 : List mj_O := [(3, 0, 0, 0, []), (3, 1, 0, 0, []), (39, 8, 0, 0, []), (1, 0, 0, (-4), []), (80, 0, 0, 0, [])]
theorem h_X6_outside_0 : mj_ch 6 cX6_outside 0 k_X6_outside_0 8 = true := by decide +kernel
def k_X6_outside_8 : List mj_O := [(3, 0, 0, 0, []), (3, 2, 0, 0, []), (41, 18, 0, 0, []), (1, 0, 0, (-6), []), (42, 19, 0, 0, [])]
theorem h_X6_outside_8 : mj_ch 6 cX6_outside 8 k_X6_outside_8 18 = true := by decide +kernel
def k_X6_outside_18 : List mj_O := [(1, 0, 0, 0, [])]
theorem h_X6_outside_18 : mj_ch 6 cX6_outside 18 k_X6_outside_18 19 = true := by decide +kernel
def k_X6_outside_19 : List mj_O := [(80, 0, 0, 0, [])]
theorem h_X6_outside_19 : mj_ch 6 cX6_outside 19 k_X6_outside_19 20 = true := by decide +kernel
def k_X6_otherThan_0 : List mj_O := [(3, 0, 0, 0, []), (32, 9, 0, 0, []), (3, 0, 0, 0, []), (3, 1, 0, 0, []), (38, 14, 0, 0, [])]
theorem h_X6_otherThan_0 : mj_ch 6 cX6_otherThan 0 k_X6_otherThan_0 9 = true := by decide +kernel
def k_X6_otherThan_9 : List mj_O := [(1, 0, 0, (-2), []), (42, 15, 0, 0, [])]
theorem h_X6_otherThan_9 : mj_ch 6 cX6_otherThan 9 k_X6_otherThan_9 14 = true := by decide +kernel
def k_X6_otherThan_14 : List mj_O := [(1, 0, 0, 0, [])]
theorem h_X6_otherThan_14 : mj_ch 6 cX6_otherThan 14 k_X6_otherThan_14 15 = true := by decide +kernel
def k_X6_otherThan_15 : List mj_O := [(80, 0, 0, 0, [])]
theorem h_X6_otherThan_15 : mj_ch 6 cX6_otherThan 15 k_X6_otherThan_15 16 = true := by decide +kernel
def k_X6_noSleeper_0 : List mj_O := [(3, 1, 0, 0, []), (32, 15, 0, 0, []), (3, 1, 0, 0, []), (4, 0, 0, 0, []), (51, 6, 0, 0, []), (50, 2, 3, 0, []), (38, 19, 0, 0, [])]
theorem h_X6_noSleeper_0 : mj_ch 6 cX6_noSleeper 0 k_X6_noSleeper_0 15 = true := by decide +kernel
def k_X6_noSleeper_15 : List mj_O := [(1, 0, 0, (-1), []), (42, 20, 0, 0, [])]
theorem h_X6_noSleeper_15 : mj_ch 6 cX6_noSleeper 15 k_X6_noSleeper_15 19 = true := by decide +kernel
def k_X6_noSleeper_19 : List mj_O := [(1, 0, 0, 0, [])]
theorem h_X6_noSleeper_19 : mj_ch 6 cX6_noSleeper 19 k_X6_noSleeper_19 20 = true := by decide +kernel
def k_X6_noSleeper_20 : List mj_O := [(80, 0, 0, 0, [])]
theorem h_X6_noSleeper_20 : mj_ch 6 cX6_noSleeper 20 k_X6_noSleeper_20 21 = true := by decide +kernel
def k_X6_noClock_0 : List mj_O := [(3, 1, 0, 0, []), (32, 15, 0, 0, []), (3, 1, 0, 0, []), (4, 0, 0, 0, []), (51, 6, 0, 0, []), (50, 2, 4, 0, []), (38, 19, 0, 0, [])]
theorem h_X6_noClock_0 : mj_ch 6 cX6_noClock 0 k_X6_noClock_0 15 = true := by decide +kernel
def k_X6_noClock_15 : List mj_O := [(1, 0, 0, (-1), []), (42, 20, 0, 0, [])]
theorem h_X6_noClock_15 : mj_ch 6 cX6_noClock 15 k_X6_noClock_15 19 = true := by decide +kernel
def k_X6_noClock_19 : List mj_O := [(1, 0, 0, 0, [])]
theorem h_X6_noClock_19 : mj_ch 6 cX6_noClock 19 k_X6_noClock_19 20 = true := by decide +kernel
def k_X6_noClock_20 : List mj_O := [(80, 0, 0, 0, [])]
theorem h_X6_noClock_20 : mj_ch 6 cX6_noClock 20 k_X6_noClock_20 21 = true := by decide +kernel
def k_X6_noTask_0 : List mj_O := [(3, 1, 0, 0, []), (32, 15, 0, 0, []), (3, 1, 0, 0, []), (4, 0, 0, 0, []), (51, 6, 0, 0, []), (50, 2, 5, 0, []), (38, 19, 0, 0, [])]
theorem h_X6_noTask_0 : mj_ch 6 cX6_noTask 0 k_X6_noTask_0 15 = true := by decide +kernel
def k_X6_noTask_15 : List mj_O := [(1, 0, 0, (-1), []), (42, 20, 0, 0, [])]
theorem h_X6_noTask_15 : mj_ch 6 cX6_noTask 15 k_X6_noTask_15 19 = true := by decide +kernel
def k_X6_noTask_19 : List mj_O := [(1, 0, 0, 0, [])]
theorem h_X6_noTask_19 : mj_ch 6 cX6_noTask 19 k_X6_noTask_19 20 = true := by decide +kernel
def k_X6_noTask_20 : List mj_O := [(80, 0, 0, 0, [])]
theorem h_X6_noTask_20 : mj_ch 6 cX6_noTask 20 k_X6_noTask_20 21 = true := by decide +kernel
def k_X6_valueOf_0 : List mj_O := [(4, 0, 0, 0, []), (51, 6, 4, 0, []), (4, 1, 0, 0, []), (3, 2, 0, 0, []), (1, 0, 0, (-1), []), (70, 396, 0, 0, []), (4, 0, 0, 0, []), (51, 6, 4, 0, []), (50, 1, 3, 0, []), (5, 3, 0, 0, []), (4, 1, 0, 0, []), (3, 3, 0, 0, []), (70, 504, 0, 0, []), (3, 3, 0, 0, []), (1, 0, 0, 10, []), (13, 0, 0, 0, []), (10, 0, 0, 0, []), (1, 0, 0, 5, []), (4, 0, 0, 0, []), (51, 6, 4, 0, []), (50, 1, 4, 0, []), (12, 0, 0, 0, []), (11, 0, 0, 0, []), (5, 4, 0, 0, []), (3, 3, 0, 0, []), (1, 0, 0, 300, []), (36, 58, 0, 0, []), (3, 4, 0, 0, []), (4, 1, 0, 0, []), (3, 2, 0, 0, []), (3, 3, 0, 0, []), (70, 438, 0, 0, []), (11, 0, 0, 0, []), (5, 4, 0, 0, [])]
theorem h_X6_valueOf_0 : mj_ch 6 cX6_valueOf 0 k_X6_valueOf_0 58 = true := by decide +kernel
def k_X6_valueOf_58 : List mj_O := [(3, 3, 0, 0, []), (4, 1, 0, 0, []), (50, 2, 6, 0, []), (41, 69, 0, 0, []), (7, 4, 0, (-50), [])]
theorem h_X6_valueOf_58 : mj_ch 6 cX6_valueOf 58 k_X6_valueOf_58 69 = true := by decide +kernel
def k_X6_valueOf_69 : List mj_O := [(3, 4, 0, 0, []), (80, 0, 0, 0, [])]
theorem h_X6_valueOf_69 : mj_ch 6 cX6_valueOf 69 k_X6_valueOf_69 72 = true := by decide +kernel
def k_X6_bestOf_0 : List mj_O := [(4, 0, 0, 0, []), (51, 6, 0, 0, []), (51, 2, 1, 0, []), (3, 1, 0, 0, []), (64, 0, 0, 0, []), (50, 0, 1, 0, []), (5, 6, 0, 0, []), (3, 3, 0, 0, []), (5, 7, 0, 0, []), (1, 0, 0, 0, []), (5, 8, 0, 0, []), (4, 0, 0, 0, []), (51, 6, 1, 0, []), (4, 0, 0, 0, []), (51, 6, 0, 0, []), (70, 201, 0, 0, []), (3, 3, 0, 0, []), (5, 9, 0, 0, [])]
theorem h_X6_bestOf_0 : mj_ch 6 cX6_bestOf 0 k_X6_bestOf_0 34 = true := by decide +kernel
def k_X6_bestOf_34 : List mj_O := [(3, 9, 0, 0, []), (3, 4, 0, 0, []), (40, 96, 0, 0, []), (4, 0, 0, 0, []), (51, 6, 1, 0, []), (51, 2, 1, 0, []), (3, 1, 0, 0, []), (64, 0, 0, 0, []), (3, 2, 0, 0, []), (3, 9, 0, 0, []), (70, 351, 0, 0, []), (23, 0, 0, 0, []), (4, 0, 0, 0, []), (4, 0, 0, 0, []), (51, 6, 1, 0, []), (3, 6, 0, 0, []), (70, 492, 0, 0, []), (5, 10, 0, 0, []), (3, 9, 0, 0, []), (3, 3, 0, 0, []), (36, 82, 0, 0, []), (3, 10, 0, 0, []), (3, 8, 0, 0, []), (41, 90, 0, 0, [])]
theorem h_X6_bestOf_34 : mj_ch 6 cX6_bestOf 34 k_X6_bestOf_34 82 = true := by decide +kernel
def k_X6_bestOf_82 : List mj_O := [(3, 9, 0, 0, []), (5, 7, 0, 0, []), (3, 10, 0, 0, []), (5, 8, 0, 0, [])]
theorem h_X6_bestOf_82 : mj_ch 6 cX6_bestOf 82 k_X6_bestOf_82 90 = true := by decide +kernel
def k_X6_bestOf_90 : List mj_O := [(7, 9, 0, 1, []), (42, 34, 0, 0, [])]
theorem h_X6_bestOf_90 : mj_ch 6 cX6_bestOf 90 k_X6_bestOf_90 96 = true := by decide +kernel
def k_X6_bestOf_96 : List mj_O := [(3, 5, 0, 0, []), (30, 106, 0, 0, []), (3, 8, 0, 0, []), (42, 108, 0, 0, [])]
theorem h_X6_bestOf_96 : mj_ch 6 cX6_bestOf 96 k_X6_bestOf_96 106 = true := by decide +kernel
def k_X6_bestOf_106 : List mj_O := [(3, 7, 0, 0, [])]
theorem h_X6_bestOf_106 : mj_ch 6 cX6_bestOf 106 k_X6_bestOf_106 108 = true := by decide +kernel
def k_X6_bestOf_108 : List mj_O := [(80, 0, 0, 0, [])]
theorem h_X6_bestOf_108 : mj_ch 6 cX6_bestOf 108 k_X6_bestOf_108 109 = true := by decide +kernel
def k_X6_heardBy_0 : List mj_O := [(1, 0, 0, 0, []), (5, 3, 0, 0, []), (1, 0, 0, 0, []), (5, 4, 0, 0, [])]
theorem h_X6_heardBy_0 : mj_ch 6 cX6_heardBy 0 k_X6_heardBy_0 5 = true := by decide +kernel
def k_X6_heardBy_5 : List mj_O := [(3, 4, 0, 0, []), (4, 1, 0, 0, []), (50, 2, 3, 0, []), (39, 47, 0, 0, []), (3, 4, 0, 0, []), (3, 2, 0, 0, []), (36, 41, 0, 0, []), (4, 0, 0, 0, []), (51, 6, 4, 0, []), (4, 1, 0, 0, []), (3, 4, 0, 0, []), (3, 2, 0, 0, []), (70, 396, 0, 0, []), (3, 3, 0, 0, []), (4, 0, 0, 0, []), (51, 6, 4, 0, []), (50, 1, 6, 0, []), (10, 0, 0, 0, []), (5, 3, 0, 0, [])]
theorem h_X6_heardBy_5 : mj_ch 6 cX6_heardBy 5 k_X6_heardBy_5 41 = true := by decide +kernel
def k_X6_heardBy_41 : List mj_O := [(7, 4, 0, 1, []), (42, 5, 0, 0, [])]
theorem h_X6_heardBy_41 : mj_ch 6 cX6_heardBy 41 k_X6_heardBy_41 47 = true := by decide +kernel
def k_X6_heardBy_47 : List mj_O := [(3, 3, 0, 0, []), (80, 0, 0, 0, [])]
theorem h_X6_heardBy_47 : mj_ch 6 cX6_heardBy 47 k_X6_heardBy_47 49 = true := by decide +kernel
def k_X6_firstWrong_0 : List mj_O := [(4, 0, 0, 0, []), (51, 6, 1, 0, []), (4, 0, 0, 0, []), (51, 6, 0, 0, []), (50, 2, 8, 0, []), (52, 2, 8, 0, []), (4, 0, 0, 0, []), (51, 6, 1, 0, []), (4, 0, 0, 0, []), (51, 6, 0, 0, []), (50, 2, 9, 0, []), (52, 2, 9, 0, []), (1, 0, 0, 0, []), (5, 2, 0, 0, [])]
theorem h_X6_firstWrong_0 : mj_ch 6 cX6_firstWrong 0 k_X6_firstWrong_0 30 = true := by decide +kernel
def k_X6_firstWrong_30 : List mj_O := [(3, 2, 0, 0, []), (4, 0, 0, 0, []), (50, 6, 7, 0, []), (39, 98, 0, 0, []), (3, 2, 0, 0, []), (4, 0, 0, 0, []), (51, 6, 6, 0, []), (65, 0, 0, 0, []), (39, 98, 0, 0, []), (4, 0, 0, 0, []), (51, 6, 4, 0, []), (4, 0, 0, 0, []), (51, 6, 1, 0, []), (3, 1, 0, 0, []), (1, 0, 0, (-1), []), (70, 396, 0, 0, []), (4, 0, 0, 0, []), (51, 6, 4, 0, []), (50, 1, 3, 0, []), (4, 0, 0, 0, []), (51, 6, 6, 0, []), (3, 2, 0, 0, []), (60, 0, 0, 0, []), (36, 78, 0, 0, []), (3, 2, 0, 0, []), (80, 0, 0, 0, [])]
theorem h_X6_firstWrong_30 : mj_ch 6 cX6_firstWrong 30 k_X6_firstWrong_30 78 = true := by decide +kernel
def k_X6_firstWrong_78 : List mj_O := [(4, 0, 0, 0, []), (51, 6, 1, 0, []), (4, 0, 0, 0, []), (51, 6, 4, 0, []), (50, 1, 4, 0, []), (70, 417, 0, 0, []), (7, 2, 0, 1, []), (42, 30, 0, 0, [])]
theorem h_X6_firstWrong_78 : mj_ch 6 cX6_firstWrong 78 k_X6_firstWrong_78 98 = true := by decide +kernel
def k_X6_firstWrong_98 : List mj_O := [(1, 0, 0, (-9), []), (80, 0, 0, 0, [])]
theorem h_X6_firstWrong_98 : mj_ch 6 cX6_firstWrong 98 k_X6_firstWrong_98 101 = true := by decide +kernel
def k_X6_drawSets_0 : List mj_O := [(3, 2, 0, 0, []), (5, 3, 0, 0, []), (1, 0, 0, 0, []), (5, 4, 0, 0, [])]
theorem h_X6_drawSets_0 : mj_ch 6 cX6_drawSets 0 k_X6_drawSets_0 5 = true := by decide +kernel
def k_X6_drawSets_5 : List mj_O := [(3, 4, 0, 0, []), (4, 0, 0, 0, []), (51, 6, 1, 0, []), (50, 2, 4, 0, []), (39, 73, 0, 0, []), (4, 0, 0, 0, []), (51, 6, 1, 0, []), (51, 2, 1, 0, []), (3, 4, 0, 0, []), (64, 0, 0, 0, []), (50, 0, 1, 0, []), (3, 1, 0, 0, []), (37, 67, 0, 0, []), (3, 3, 0, 0, []), (1, 0, 0, 1664525, []), (12, 0, 0, 0, []), (1, 0, 0, 1013904223, []), (10, 0, 0, 0, []), (5, 3, 0, 0, []), (4, 0, 0, 0, []), (51, 6, 1, 0, []), (51, 2, 1, 0, []), (3, 4, 0, 0, []), (64, 0, 0, 0, []), (3, 3, 0, 0, []), (1, 0, 0, 2147483647, []), (18, 0, 0, 0, []), (1, 0, 0, 256, []), (13, 0, 0, 0, []), (1, 0, 0, 300, []), (14, 0, 0, 0, []), (52, 0, 2, 0, [])]
theorem h_X6_drawSets_5 : mj_ch 6 cX6_drawSets 5 k_X6_drawSets_5 67 = true := by decide +kernel
def k_X6_drawSets_67 : List mj_O := [(7, 4, 0, 1, []), (42, 5, 0, 0, [])]
theorem h_X6_drawSets_67 : mj_ch 6 cX6_drawSets 67 k_X6_drawSets_67 73 = true := by decide +kernel
def k_X6_drawSets_73 : List mj_O := [(3, 3, 0, 0, []), (80, 0, 0, 0, [])]
theorem h_X6_drawSets_73 : mj_ch 6 cX6_drawSets 73 k_X6_drawSets_73 75 = true := by decide +kernel
def k_X6_areWithin_0 : List mj_O := [(4, 0, 0, 0, []), (65, 0, 0, 0, []), (4, 1, 0, 0, []), (65, 0, 0, 0, []), (39, 9, 0, 0, []), (1, 0, 0, 0, []), (80, 0, 0, 0, [])]
theorem h_X6_areWithin_0 : mj_ch 6 cX6_areWithin 0 k_X6_areWithin_0 9 = true := by decide +kernel
def k_X6_areWithin_9 : List mj_O := [(1, 0, 0, 0, []), (5, 3, 0, 0, [])]
theorem h_X6_areWithin_9 : mj_ch 6 cX6_areWithin 9 k_X6_areWithin_9 11 = true := by decide +kernel
def k_X6_areWithin_11 : List mj_O := [(3, 3, 0, 0, []), (4, 1, 0, 0, []), (65, 0, 0, 0, []), (39, 49, 0, 0, []), (3, 3, 0, 0, []), (4, 2, 0, 0, []), (65, 0, 0, 0, []), (39, 49, 0, 0, []), (4, 0, 0, 0, []), (3, 3, 0, 0, []), (60, 0, 0, 0, []), (4, 1, 0, 0, []), (3, 3, 0, 0, []), (60, 0, 0, 0, []), (38, 41, 0, 0, []), (4, 0, 0, 0, []), (3, 3, 0, 0, []), (60, 0, 0, 0, []), (4, 2, 0, 0, []), (3, 3, 0, 0, []), (60, 0, 0, 0, []), (41, 43, 0, 0, [])]
theorem h_X6_areWithin_11 : mj_ch 6 cX6_areWithin 11 k_X6_areWithin_11 41 = true := by decide +kernel
def k_X6_areWithin_41 : List mj_O := [(1, 0, 0, 0, []), (80, 0, 0, 0, [])]
theorem h_X6_areWithin_41 : mj_ch 6 cX6_areWithin 41 k_X6_areWithin_41 43 = true := by decide +kernel
def k_X6_areWithin_43 : List mj_O := [(7, 3, 0, 1, []), (42, 11, 0, 0, [])]
theorem h_X6_areWithin_43 : mj_ch 6 cX6_areWithin 43 k_X6_areWithin_43 49 = true := by decide +kernel
def k_X6_areWithin_49 : List mj_O := [(1, 0, 0, 1, []), (80, 0, 0, 0, [])]
theorem h_X6_areWithin_49 : mj_ch 6 cX6_areWithin 49 k_X6_areWithin_49 51 = true := by decide +kernel
end
section
/-! blocks of instructions, and that they are the code -/
def k_X7_refuse_0 : List mj_O := [(4, 0, 0, 0, []), (51, 7, 0, 0, []), (3, 1, 0, 0, []), (15, 0, 0, 0, []), (22, 0, 0, 0, []), (60, 0, 0, 0, []), (1, 0, 0, 1, []), (10, 0, 0, 0, []), (61, 0, 0, 0, []), (3, 1, 0, 0, []), (80, 0, 0, 0, [])]
theorem h_X7_refuse_0 : mj_ch 7 cX7_refuse 0 k_X7_refuse_0 13 = true := by decide +kernel
def k_X7_refuseFar_0 : List mj_O := [(1, 0, 0, 1000000000, []), (4, 0, 0, 0, []), (3, 1, 0, 0, []), (70, 123, 0, 0, []), (11, 0, 0, 0, []), (80, 0, 0, 0, [])]
theorem h_X7_refuseFar_0 : mj_ch 7 cX7_refuseFar 0 k_X7_refuseFar_0 9 = true := by decide +kernel
def k_X7_isIn_0 : List mj_O := [(3, 0, 0, 0, []), (32, 13, 0, 0, []), (3, 0, 0, 0, []), (3, 1, 0, 0, []), (39, 13, 0, 0, []), (1, 0, 0, 1, []), (42, 14, 0, 0, [])]
theorem h_X7_isIn_0 : mj_ch 7 cX7_isIn 0 k_X7_isIn_0 13 = true := by decide +kernel
def k_X7_isIn_13 : List mj_O := [(1, 0, 0, 0, [])]
theorem h_X7_isIn_13 : mj_ch 7 cX7_isIn 13 k_X7_isIn_13 14 = true := by decide +kernel
def k_X7_isIn_14 : List mj_O := [(80, 0, 0, 0, [])]
theorem h_X7_isIn_14 : mj_ch 7 cX7_isIn 14 k_X7_isIn_14 15 = true := by decide +kernel
def k_X7_within_0 : List mj_O := [(3, 0, 0, 0, []), (3, 1, 0, 0, []), (39, 10, 0, 0, []), (1, 0, 0, (-4), []), (42, 21, 0, 0, [])]
theorem h_X7_within_0 : mj_ch 7 cX7_within 0 k_X7_within_0 10 = true := by decide +kernel
def k_X7_within_10 : List mj_O := [(3, 0, 0, 0, []), (3, 2, 0, 0, []), (41, 20, 0, 0, []), (1, 0, 0, (-6), []), (42, 21, 0, 0, [])]
theorem h_X7_within_10 : mj_ch 7 cX7_within 10 k_X7_within_10 20 = true := by decide +kernel
def k_X7_within_20 : List mj_O := [(1, 0, 0, 0, [])]
theorem h_X7_within_20 : mj_ch 7 cX7_within 20 k_X7_within_20 21 = true := by decide +kernel
def k_X7_within_21 : List mj_O := [(80, 0, 0, 0, [])]
theorem h_X7_within_21 : mj_ch 7 cX7_within 21 k_X7_within_21 22 = true := by decide +kernel
def k_X7_lays_0 : List mj_O := [(1, 0, 0, 0, []), (5, 2, 0, 0, [])]
theorem h_X7_lays_0 : mj_ch 7 cX7_lays 0 k_X7_lays_0 2 = true := by decide +kernel
def k_X7_lays_2 : List mj_O := [(3, 2, 0, 0, []), (1, 0, 0, 55, []), (39, 20, 0, 0, []), (4, 1, 0, 0, []), (3, 2, 0, 0, []), (4, 0, 0, 0, []), (3, 2, 0, 0, []), (60, 0, 0, 0, []), (61, 0, 0, 0, []), (7, 2, 0, 1, []), (42, 2, 0, 0, [])]
theorem h_X7_lays_2 : mj_ch 7 cX7_lays 2 k_X7_lays_2 20 = true := by decide +kernel
def k_X7_lays_20 : List mj_O := [(82, 0, 0, 0, [])]
theorem h_X7_lays_20 : mj_ch 7 cX7_lays 20 k_X7_lays_20 21 = true := by decide +kernel
def k_X7_begins_0 : List mj_O := [(4, 0, 0, 0, []), (51, 7, 1, 0, []), (4, 0, 0, 0, []), (51, 7, 4, 0, []), (70, 137, 0, 0, []), (82, 0, 0, 0, [])]
theorem h_X7_begins_0 : mj_ch 7 cX7_begins 0 k_X7_begins_0 12 = true := by decide +kernel
def k_X7_ends_0 : List mj_O := [(4, 0, 0, 0, []), (51, 7, 4, 0, []), (4, 0, 0, 0, []), (51, 7, 1, 0, []), (70, 137, 0, 0, []), (82, 0, 0, 0, [])]
theorem h_X7_ends_0 : mj_ch 7 cX7_ends 0 k_X7_ends_0 12 = true := by decide +kernel
def k_X7_isSleeper_0 : List mj_O := [(3, 1, 0, 0, []), (4, 0, 0, 0, []), (51, 7, 1, 0, []), (1, 0, 0, 0, []), (60, 0, 0, 0, []), (70, 149, 0, 0, []), (80, 0, 0, 0, [])]
theorem h_X7_isSleeper_0 : mj_ch 7 cX7_isSleeper 0 k_X7_isSleeper_0 11 = true := by decide +kernel
def k_X7_isClock_0 : List mj_O := [(3, 1, 0, 0, []), (4, 0, 0, 0, []), (51, 7, 1, 0, []), (1, 0, 0, 1, []), (60, 0, 0, 0, []), (70, 149, 0, 0, []), (80, 0, 0, 0, [])]
theorem h_X7_isClock_0 : mj_ch 7 cX7_isClock 0 k_X7_isClock_0 11 = true := by decide +kernel
def k_X7_get_0 : List mj_O := [(4, 0, 0, 0, []), (51, 7, 1, 0, []), (1, 0, 0, 7, []), (1, 0, 0, 4, []), (3, 1, 0, 0, []), (12, 0, 0, 0, []), (10, 0, 0, 0, []), (3, 2, 0, 0, []), (10, 0, 0, 0, []), (60, 0, 0, 0, []), (80, 0, 0, 0, [])]
theorem h_X7_get_0 : mj_ch 7 cX7_get 0 k_X7_get_0 14 = true := by decide +kernel
def k_X7_at_0 : List mj_O := [(4, 0, 0, 0, []), (51, 7, 1, 0, []), (1, 0, 0, 23, []), (1, 0, 0, 5, []), (3, 1, 0, 0, []), (12, 0, 0, 0, []), (10, 0, 0, 0, []), (3, 2, 0, 0, []), (10, 0, 0, 0, []), (60, 0, 0, 0, []), (80, 0, 0, 0, [])]
theorem h_X7_at_0 : mj_ch 7 cX7_at 0 k_X7_at_0 14 = true := by decide +kernel
def k_X7_of_0 : List mj_O := [(4, 0, 0, 0, []), (51, 7, 1, 0, []), (1, 0, 0, 43, []), (1, 0, 0, 2, []), (3, 1, 0, 0, []), (12, 0, 0, 0, []), (10, 0, 0, 0, []), (3, 2, 0, 0, []), (10, 0, 0, 0, []), (60, 0, 0, 0, []), (80, 0, 0, 0, [])]
theorem h_X7_of_0 : mj_ch 7 cX7_of 0 k_X7_of_0 14 = true := by decide +kernel
def k_X7_letter_0 : List mj_O := [(3, 1, 0, 0, []), (1, 0, 0, 0, []), (1, 0, 0, 255, []), (70, 161, 0, 0, []), (5, 2, 0, 0, []), (3, 2, 0, 0, []), (31, 25, 0, 0, []), (4, 0, 0, 0, []), (50, 7, 8, 0, []), (1, 0, 0, 96, []), (37, 25, 0, 0, []), (1, 0, 0, (-6), []), (5, 2, 0, 0, [])]
theorem h_X7_letter_0 : mj_ch 7 cX7_letter 0 k_X7_letter_0 25 = true := by decide +kernel
def k_X7_letter_25 : List mj_O := [(3, 2, 0, 0, []), (30, 35, 0, 0, []), (4, 0, 0, 0, []), (3, 2, 0, 0, []), (70, 123, 0, 0, []), (80, 0, 0, 0, [])]
theorem h_X7_letter_25 : mj_ch 7 cX7_letter 25 k_X7_letter_25 35 = true := by decide +kernel
def k_X7_letter_35 : List mj_O := [(4, 0, 0, 0, []), (51, 7, 6, 0, []), (4, 0, 0, 0, []), (50, 7, 8, 0, []), (3, 1, 0, 0, []), (61, 0, 0, 0, []), (4, 0, 0, 0, []), (21, 0, 0, 0, []), (50, 7, 8, 0, []), (1, 0, 0, 1, []), (10, 0, 0, 0, []), (52, 7, 8, 0, []), (4, 0, 0, 0, []), (50, 7, 8, 0, []), (80, 0, 0, 0, [])]
theorem h_X7_letter_35 : mj_ch 7 cX7_letter 35 k_X7_letter_35 60 = true := by decide +kernel
def k_X7_sign_0 : List mj_O := [(4, 0, 0, 0, []), (50, 7, 9, 0, []), (4, 0, 0, 0, []), (50, 7, 8, 0, []), (39, 23, 0, 0, []), (4, 0, 0, 0, []), (51, 7, 6, 0, []), (4, 0, 0, 0, []), (50, 7, 9, 0, []), (60, 0, 0, 0, []), (42, 24, 0, 0, [])]
theorem h_X7_sign_0 : mj_ch 7 cX7_sign 0 k_X7_sign_0 23 = true := by decide +kernel
def k_X7_sign_23 : List mj_O := [(1, 0, 0, (-1), [])]
theorem h_X7_sign_23 : mj_ch 7 cX7_sign 23 k_X7_sign_23 24 = true := by decide +kernel
def k_X7_sign_24 : List mj_O := [(80, 0, 0, 0, [])]
theorem h_X7_sign_24 : mj_ch 7 cX7_sign 24 k_X7_sign_24 25 = true := by decide +kernel
def k_X7_takes_0 : List mj_O := [(4, 0, 0, 0, []), (70, 192, 0, 0, []), (3, 1, 0, 0, []), (36, 10, 0, 0, []), (1, 0, 0, 0, []), (80, 0, 0, 0, [])]
theorem h_X7_takes_0 : mj_ch 7 cX7_takes 0 k_X7_takes_0 10 = true := by decide +kernel
def k_X7_takes_10 : List mj_O := [(4, 0, 0, 0, []), (21, 0, 0, 0, []), (50, 7, 9, 0, []), (1, 0, 0, 1, []), (10, 0, 0, 0, []), (52, 7, 9, 0, []), (1, 0, 0, 1, []), (80, 0, 0, 0, [])]
theorem h_X7_takes_10 : mj_ch 7 cX7_takes 10 k_X7_takes_10 22 = true := by decide +kernel
def k_X7_readsNumber_0 : List mj_O := [(4, 0, 0, 0, []), (51, 7, 7, 0, []), (3, 1, 0, 0, []), (1, 0, 0, 0, []), (61, 0, 0, 0, []), (1, 0, 0, 0, []), (5, 4, 0, 0, [])]
theorem h_X7_readsNumber_0 : mj_ch 7 cX7_readsNumber 0 k_X7_readsNumber_0 10 = true := by decide +kernel
def k_X7_readsNumber_10 : List mj_O := [(3, 4, 0, 0, []), (3, 3, 0, 0, []), (39, 70, 0, 0, []), (4, 0, 0, 0, []), (70, 192, 0, 0, []), (1, 0, 0, 48, []), (11, 0, 0, 0, []), (1, 0, 0, 10, []), (70, 149, 0, 0, []), (30, 70, 0, 0, []), (4, 0, 0, 0, []), (51, 7, 7, 0, []), (3, 1, 0, 0, []), (1, 0, 0, 10, []), (4, 0, 0, 0, []), (51, 7, 7, 0, []), (3, 1, 0, 0, []), (60, 0, 0, 0, []), (12, 0, 0, 0, []), (4, 0, 0, 0, []), (70, 192, 0, 0, []), (10, 0, 0, 0, []), (1, 0, 0, 48, []), (11, 0, 0, 0, []), (61, 0, 0, 0, []), (4, 0, 0, 0, []), (21, 0, 0, 0, []), (50, 7, 9, 0, []), (1, 0, 0, 1, []), (10, 0, 0, 0, []), (52, 7, 9, 0, []), (7, 4, 0, 1, []), (42, 10, 0, 0, [])]
theorem h_X7_readsNumber_10 : mj_ch 7 cX7_readsNumber 10 k_X7_readsNumber_10 70 = true := by decide +kernel
def k_X7_readsNumber_70 : List mj_O := [(3, 4, 0, 0, []), (3, 2, 0, 0, []), (38, 80, 0, 0, []), (1, 0, 0, 1, []), (42, 81, 0, 0, [])]
theorem h_X7_readsNumber_70 : mj_ch 7 cX7_readsNumber 70 k_X7_readsNumber_70 80 = true := by decide +kernel
def k_X7_readsNumber_80 : List mj_O := [(1, 0, 0, 0, [])]
theorem h_X7_readsNumber_80 : mj_ch 7 cX7_readsNumber 80 k_X7_readsNumber_80 81 = true := by decide +kernel
def k_X7_readsNumber_81 : List mj_O := [(80, 0, 0, 0, [])]
theorem h_X7_readsNumber_81 : mj_ch 7 cX7_readsNumber 81 k_X7_readsNumber_81 82 = true := by decide +kernel
def k_X7_sleeperOf_0 : List mj_O := [(3, 0, 0, 0, []), (1, 0, 0, 115, []), (37, 10, 0, 0, []), (1, 0, 0, 0, []), (42, 62, 0, 0, [])]
theorem h_X7_sleeperOf_0 : mj_ch 7 cX7_sleeperOf 0 k_X7_sleeperOf_0 10 = true := by decide +kernel
def k_X7_sleeperOf_10 : List mj_O := [(3, 0, 0, 0, []), (1, 0, 0, 108, []), (37, 20, 0, 0, []), (1, 0, 0, 1, []), (42, 62, 0, 0, [])]
theorem h_X7_sleeperOf_10 : mj_ch 7 cX7_sleeperOf 10 k_X7_sleeperOf_10 20 = true := by decide +kernel
def k_X7_sleeperOf_20 : List mj_O := [(3, 0, 0, 0, []), (1, 0, 0, 100, []), (37, 30, 0, 0, []), (1, 0, 0, 2, []), (42, 62, 0, 0, [])]
theorem h_X7_sleeperOf_20 : mj_ch 7 cX7_sleeperOf 20 k_X7_sleeperOf_20 30 = true := by decide +kernel
def k_X7_sleeperOf_30 : List mj_O := [(3, 0, 0, 0, []), (1, 0, 0, 111, []), (37, 40, 0, 0, []), (1, 0, 0, 3, []), (42, 62, 0, 0, [])]
theorem h_X7_sleeperOf_30 : mj_ch 7 cX7_sleeperOf 30 k_X7_sleeperOf_30 40 = true := by decide +kernel
def k_X7_sleeperOf_40 : List mj_O := [(3, 0, 0, 0, []), (1, 0, 0, 98, []), (37, 50, 0, 0, []), (1, 0, 0, 4, []), (42, 62, 0, 0, [])]
theorem h_X7_sleeperOf_40 : mj_ch 7 cX7_sleeperOf 40 k_X7_sleeperOf_40 50 = true := by decide +kernel
def k_X7_sleeperOf_50 : List mj_O := [(3, 0, 0, 0, []), (1, 0, 0, 110, []), (37, 60, 0, 0, []), (1, 0, 0, 5, []), (42, 62, 0, 0, [])]
theorem h_X7_sleeperOf_50 : mj_ch 7 cX7_sleeperOf 50 k_X7_sleeperOf_50 60 = true := by decide +kernel
def k_X7_sleeperOf_60 : List mj_O := [(1, 0, 0, (-9), [])]
theorem h_X7_sleeperOf_60 : mj_ch 7 cX7_sleeperOf 60 k_X7_sleeperOf_60 62 = true := by decide +kernel
def k_X7_sleeperOf_62 : List mj_O := [(80, 0, 0, 0, [])]
theorem h_X7_sleeperOf_62 : mj_ch 7 cX7_sleeperOf 62 k_X7_sleeperOf_62 63 = true := by decide +kernel
def k_X7_clockOf_0 : List mj_O := [(3, 0, 0, 0, []), (1, 0, 0, 99, []), (37, 10, 0, 0, []), (1, 0, 0, 0, []), (42, 62, 0, 0, [])]
theorem h_X7_clockOf_0 : mj_ch 7 cX7_clockOf 0 k_X7_clockOf_0 10 = true := by decide +kernel
def k_X7_clockOf_10 : List mj_O := [(3, 0, 0, 0, []), (1, 0, 0, 102, []), (37, 20, 0, 0, []), (1, 0, 0, 1, []), (42, 62, 0, 0, [])]
theorem h_X7_clockOf_10 : mj_ch 7 cX7_clockOf 10 k_X7_clockOf_10 20 = true := by decide +kernel
def k_X7_clockOf_20 : List mj_O := [(3, 0, 0, 0, []), (1, 0, 0, 112, []), (37, 30, 0, 0, []), (1, 0, 0, 2, []), (42, 62, 0, 0, [])]
theorem h_X7_clockOf_20 : mj_ch 7 cX7_clockOf 20 k_X7_clockOf_20 30 = true := by decide +kernel
def k_X7_clockOf_30 : List mj_O := [(3, 0, 0, 0, []), (1, 0, 0, 114, []), (37, 40, 0, 0, []), (1, 0, 0, 3, []), (42, 62, 0, 0, [])]
theorem h_X7_clockOf_30 : mj_ch 7 cX7_clockOf 30 k_X7_clockOf_30 40 = true := by decide +kernel
def k_X7_clockOf_40 : List mj_O := [(3, 0, 0, 0, []), (1, 0, 0, 113, []), (37, 50, 0, 0, []), (1, 0, 0, 4, []), (42, 62, 0, 0, [])]
theorem h_X7_clockOf_40 : mj_ch 7 cX7_clockOf 40 k_X7_clockOf_40 50 = true := by decide +kernel
def k_X7_clockOf_50 : List mj_O := [(3, 0, 0, 0, []), (1, 0, 0, 119, []), (37, 60, 0, 0, []), (1, 0, 0, 5, []), (42, 62, 0, 0, [])]
theorem h_X7_clockOf_50 : mj_ch 7 cX7_clockOf 50 k_X7_clockOf_50 60 = true := by decide +kernel
def k_X7_clockOf_60 : List mj_O := [(1, 0, 0, (-9), [])]
theorem h_X7_clockOf_60 : mj_ch 7 cX7_clockOf 60 k_X7_clockOf_60 62 = true := by decide +kernel
def k_X7_clockOf_62 : List mj_O := [(80, 0, 0, 0, [])]
theorem h_X7_clockOf_62 : mj_ch 7 cX7_clockOf 62 k_X7_clockOf_62 63 = true := by decide +kernel
def k_X7_readsKind_0 : List mj_O := [(4, 0, 0, 0, []), (51, 7, 7, 0, []), (1, 0, 0, 0, []), (3, 1, 0, 0, []), (61, 0, 0, 0, []), (3, 1, 0, 0, []), (33, 13, 0, 0, []), (1, 0, 0, 0, []), (80, 0, 0, 0, [])]
theorem h_X7_readsKind_0 : mj_ch 7 cX7_readsKind 0 k_X7_readsKind_0 13 = true := by decide +kernel
def k_X7_readsKind_13 : List mj_O := [(4, 0, 0, 0, []), (21, 0, 0, 0, []), (50, 7, 9, 0, []), (1, 0, 0, 1, []), (10, 0, 0, 0, []), (52, 7, 9, 0, []), (1, 0, 0, 1, []), (80, 0, 0, 0, [])]
theorem h_X7_readsKind_13 : mj_ch 7 cX7_readsKind 13 k_X7_readsKind_13 25 = true := by decide +kernel
def k_X7_readsStatement_0 : List mj_O := [(4, 0, 0, 0, []), (70, 192, 0, 0, []), (5, 1, 0, 0, []), (1, 0, 0, 0, []), (5, 2, 0, 0, []), (4, 0, 0, 0, []), (21, 0, 0, 0, []), (50, 7, 9, 0, []), (1, 0, 0, 1, []), (10, 0, 0, 0, []), (52, 7, 9, 0, []), (3, 1, 0, 0, []), (43, 289, 0, 0, [(98, 267), (99, 139), (102, 278), (115, 68), (116, 229)])]
theorem h_X7_readsStatement_0 : mj_ch 7 cX7_readsStatement 0 k_X7_readsStatement_0 68 = true := by decide +kernel
def k_X7_readsStatement_68 : List mj_O := [(4, 0, 0, 0, []), (4, 0, 0, 0, []), (70, 192, 0, 0, []), (70, 206, 0, 0, []), (70, 213, 0, 0, []), (30, 134, 0, 0, []), (4, 0, 0, 0, []), (1, 0, 0, 1, []), (1, 0, 0, 2, []), (1, 0, 0, 2, []), (70, 225, 0, 0, []), (30, 134, 0, 0, []), (4, 0, 0, 0, []), (1, 0, 0, 44, []), (70, 237, 0, 0, []), (30, 134, 0, 0, []), (4, 0, 0, 0, []), (1, 0, 0, 2, []), (1, 0, 0, 1, []), (1, 0, 0, 2, []), (70, 225, 0, 0, []), (30, 134, 0, 0, []), (4, 0, 0, 0, []), (1, 0, 0, 44, []), (70, 237, 0, 0, []), (30, 134, 0, 0, []), (4, 0, 0, 0, []), (1, 0, 0, 3, []), (1, 0, 0, 1, []), (1, 0, 0, 2, []), (70, 225, 0, 0, []), (30, 134, 0, 0, []), (1, 0, 0, 1, []), (42, 135, 0, 0, [])]
theorem h_X7_readsStatement_68 : mj_ch 7 cX7_readsStatement 68 k_X7_readsStatement_68 134 = true := by decide +kernel
def k_X7_readsStatement_134 : List mj_O := [(1, 0, 0, 0, [])]
theorem h_X7_readsStatement_134 : mj_ch 7 cX7_readsStatement 134 k_X7_readsStatement_134 135 = true := by decide +kernel
def k_X7_readsStatement_135 : List mj_O := [(5, 2, 0, 0, []), (42, 301, 0, 0, [])]
theorem h_X7_readsStatement_135 : mj_ch 7 cX7_readsStatement 135 k_X7_readsStatement_135 139 = true := by decide +kernel
def k_X7_readsStatement_139 : List mj_O := [(4, 0, 0, 0, []), (4, 0, 0, 0, []), (70, 192, 0, 0, []), (70, 248, 0, 0, []), (70, 213, 0, 0, []), (30, 224, 0, 0, []), (4, 0, 0, 0, []), (1, 0, 0, 1, []), (1, 0, 0, 1, []), (1, 0, 0, 1, []), (70, 225, 0, 0, []), (30, 224, 0, 0, []), (4, 0, 0, 0, []), (1, 0, 0, 44, []), (70, 237, 0, 0, []), (30, 224, 0, 0, []), (4, 0, 0, 0, []), (1, 0, 0, 2, []), (1, 0, 0, 1, []), (1, 0, 0, 3, []), (70, 225, 0, 0, []), (30, 224, 0, 0, []), (4, 0, 0, 0, []), (1, 0, 0, 44, []), (70, 237, 0, 0, []), (30, 224, 0, 0, []), (4, 0, 0, 0, []), (1, 0, 0, 3, []), (1, 0, 0, 1, []), (1, 0, 0, 3, []), (70, 225, 0, 0, []), (30, 224, 0, 0, []), (4, 0, 0, 0, []), (1, 0, 0, 44, []), (70, 237, 0, 0, []), (30, 224, 0, 0, []), (4, 0, 0, 0, []), (1, 0, 0, 4, []), (1, 0, 0, 1, []), (1, 0, 0, 3, []), (70, 225, 0, 0, []), (30, 224, 0, 0, []), (1, 0, 0, 1, []), (42, 225, 0, 0, [])]
theorem h_X7_readsStatement_139 : mj_ch 7 cX7_readsStatement 139 k_X7_readsStatement_139 224 = true := by decide +kernel
def k_X7_readsStatement_224 : List mj_O := [(1, 0, 0, 0, [])]
theorem h_X7_readsStatement_224 : mj_ch 7 cX7_readsStatement 224 k_X7_readsStatement_224 225 = true := by decide +kernel
def k_X7_readsStatement_225 : List mj_O := [(5, 2, 0, 0, []), (42, 301, 0, 0, [])]
theorem h_X7_readsStatement_225 : mj_ch 7 cX7_readsStatement 225 k_X7_readsStatement_225 229 = true := by decide +kernel
def k_X7_readsStatement_229 : List mj_O := [(4, 0, 0, 0, []), (1, 0, 0, 0, []), (1, 0, 0, 1, []), (1, 0, 0, 2, []), (70, 225, 0, 0, []), (30, 262, 0, 0, []), (4, 0, 0, 0, []), (1, 0, 0, 44, []), (70, 237, 0, 0, []), (30, 262, 0, 0, []), (4, 0, 0, 0, []), (1, 0, 0, 1, []), (1, 0, 0, 1, []), (1, 0, 0, 2, []), (70, 225, 0, 0, []), (30, 262, 0, 0, []), (1, 0, 0, 1, []), (42, 263, 0, 0, [])]
theorem h_X7_readsStatement_229 : mj_ch 7 cX7_readsStatement 229 k_X7_readsStatement_229 262 = true := by decide +kernel
def k_X7_readsStatement_262 : List mj_O := [(1, 0, 0, 0, [])]
theorem h_X7_readsStatement_262 : mj_ch 7 cX7_readsStatement 262 k_X7_readsStatement_262 263 = true := by decide +kernel
def k_X7_readsStatement_263 : List mj_O := [(5, 2, 0, 0, []), (42, 301, 0, 0, [])]
theorem h_X7_readsStatement_263 : mj_ch 7 cX7_readsStatement 263 k_X7_readsStatement_263 267 = true := by decide +kernel
def k_X7_readsStatement_267 : List mj_O := [(4, 0, 0, 0, []), (1, 0, 0, 0, []), (1, 0, 0, 1, []), (1, 0, 0, 3, []), (70, 225, 0, 0, []), (5, 2, 0, 0, []), (42, 301, 0, 0, [])]
theorem h_X7_readsStatement_267 : mj_ch 7 cX7_readsStatement 267 k_X7_readsStatement_267 278 = true := by decide +kernel
def k_X7_readsStatement_278 : List mj_O := [(4, 0, 0, 0, []), (1, 0, 0, 0, []), (1, 0, 0, 1, []), (1, 0, 0, 2, []), (70, 225, 0, 0, []), (5, 2, 0, 0, []), (42, 301, 0, 0, [])]
theorem h_X7_readsStatement_278 : mj_ch 7 cX7_readsStatement 278 k_X7_readsStatement_278 289 = true := by decide +kernel
def k_X7_readsStatement_289 : List mj_O := [(4, 0, 0, 0, []), (21, 0, 0, 0, []), (50, 7, 9, 0, []), (1, 0, 0, 1, []), (11, 0, 0, 0, []), (52, 7, 9, 0, []), (1, 0, 0, 0, []), (80, 0, 0, 0, [])]
theorem h_X7_readsStatement_289 : mj_ch 7 cX7_readsStatement 289 k_X7_readsStatement_289 301 = true := by decide +kernel
def k_X7_readsStatement_301 : List mj_O := [(3, 2, 0, 0, []), (30, 318, 0, 0, []), (4, 0, 0, 0, []), (1, 0, 0, 59, []), (70, 237, 0, 0, []), (30, 318, 0, 0, []), (1, 0, 0, 1, []), (42, 319, 0, 0, [])]
theorem h_X7_readsStatement_301 : mj_ch 7 cX7_readsStatement 301 k_X7_readsStatement_301 318 = true := by decide +kernel
def k_X7_readsStatement_318 : List mj_O := [(1, 0, 0, 0, [])]
theorem h_X7_readsStatement_318 : mj_ch 7 cX7_readsStatement 318 k_X7_readsStatement_318 319 = true := by decide +kernel
def k_X7_readsStatement_319 : List mj_O := [(80, 0, 0, 0, [])]
theorem h_X7_readsStatement_319 : mj_ch 7 cX7_readsStatement 319 k_X7_readsStatement_319 320 = true := by decide +kernel
def k_X7_comes_0 : List mj_O := [(3, 1, 0, 0, []), (43, 369, 0, 0, [(98, 339), (99, 138), (115, 44), (116, 256)])]
theorem h_X7_comes_0 : mj_ch 7 cX7_comes 0 k_X7_comes_0 44 = true := by decide +kernel
def k_X7_comes_44 : List mj_O := [(4, 0, 0, 0, []), (51, 7, 7, 0, []), (1, 0, 0, 1, []), (60, 0, 0, 0, []), (1, 0, 0, 20, []), (38, 87, 0, 0, []), (4, 0, 0, 0, []), (51, 7, 7, 0, []), (1, 0, 0, 2, []), (60, 0, 0, 0, []), (1, 0, 0, 20, []), (40, 87, 0, 0, []), (4, 0, 0, 0, []), (51, 7, 7, 0, []), (1, 0, 0, 3, []), (60, 0, 0, 0, []), (1, 0, 0, 30, []), (40, 87, 0, 0, []), (4, 0, 0, 0, []), (51, 7, 1, 0, []), (1, 0, 0, 0, []), (60, 0, 0, 0, []), (1, 0, 0, 4, []), (37, 89, 0, 0, [])]
theorem h_X7_comes_44 : mj_ch 7 cX7_comes 44 k_X7_comes_44 87 = true := by decide +kernel
def k_X7_comes_87 : List mj_O := [(1, 0, 0, 0, []), (80, 0, 0, 0, [])]
theorem h_X7_comes_87 : mj_ch 7 cX7_comes 87 k_X7_comes_87 89 = true := by decide +kernel
def k_X7_comes_89 : List mj_O := [(1, 0, 0, 0, []), (5, 2, 0, 0, [])]
theorem h_X7_comes_89 : mj_ch 7 cX7_comes 89 k_X7_comes_89 91 = true := by decide +kernel
def k_X7_comes_91 : List mj_O := [(3, 2, 0, 0, []), (1, 0, 0, 4, []), (39, 126, 0, 0, []), (4, 0, 0, 0, []), (51, 7, 1, 0, []), (1, 0, 0, 7, []), (1, 0, 0, 4, []), (4, 0, 0, 0, []), (51, 7, 1, 0, []), (1, 0, 0, 0, []), (60, 0, 0, 0, []), (12, 0, 0, 0, []), (10, 0, 0, 0, []), (3, 2, 0, 0, []), (10, 0, 0, 0, []), (4, 0, 0, 0, []), (51, 7, 7, 0, []), (3, 2, 0, 0, []), (60, 0, 0, 0, []), (61, 0, 0, 0, []), (7, 2, 0, 1, []), (42, 91, 0, 0, [])]
theorem h_X7_comes_91 : mj_ch 7 cX7_comes 91 k_X7_comes_91 126 = true := by decide +kernel
def k_X7_comes_126 : List mj_O := [(4, 0, 0, 0, []), (51, 7, 1, 0, []), (1, 0, 0, 0, []), (22, 0, 0, 0, []), (60, 0, 0, 0, []), (1, 0, 0, 1, []), (10, 0, 0, 0, []), (61, 0, 0, 0, []), (1, 0, 0, 1, []), (80, 0, 0, 0, [])]
theorem h_X7_comes_126 : mj_ch 7 cX7_comes 126 k_X7_comes_126 138 = true := by decide +kernel
def k_X7_comes_138 : List mj_O := [(4, 0, 0, 0, []), (4, 0, 0, 0, []), (51, 7, 7, 0, []), (1, 0, 0, 1, []), (60, 0, 0, 0, []), (70, 255, 0, 0, []), (30, 205, 0, 0, []), (4, 0, 0, 0, []), (51, 7, 7, 0, []), (1, 0, 0, 2, []), (60, 0, 0, 0, []), (1, 0, 0, 300, []), (39, 205, 0, 0, []), (4, 0, 0, 0, []), (51, 7, 7, 0, []), (1, 0, 0, 3, []), (60, 0, 0, 0, []), (1, 0, 0, 1, []), (38, 205, 0, 0, []), (4, 0, 0, 0, []), (51, 7, 7, 0, []), (1, 0, 0, 3, []), (60, 0, 0, 0, []), (1, 0, 0, 20, []), (40, 205, 0, 0, []), (4, 0, 0, 0, []), (51, 7, 7, 0, []), (1, 0, 0, 4, []), (60, 0, 0, 0, []), (1, 0, 0, 30, []), (40, 205, 0, 0, []), (4, 0, 0, 0, []), (51, 7, 1, 0, []), (1, 0, 0, 1, []), (60, 0, 0, 0, []), (1, 0, 0, 4, []), (37, 207, 0, 0, [])]
theorem h_X7_comes_138 : mj_ch 7 cX7_comes 138 k_X7_comes_138 205 = true := by decide +kernel
def k_X7_comes_205 : List mj_O := [(1, 0, 0, 0, []), (80, 0, 0, 0, [])]
theorem h_X7_comes_205 : mj_ch 7 cX7_comes 205 k_X7_comes_205 207 = true := by decide +kernel
def k_X7_comes_207 : List mj_O := [(1, 0, 0, 0, []), (5, 2, 0, 0, [])]
theorem h_X7_comes_207 : mj_ch 7 cX7_comes 207 k_X7_comes_207 209 = true := by decide +kernel
def k_X7_comes_209 : List mj_O := [(3, 2, 0, 0, []), (1, 0, 0, 5, []), (39, 244, 0, 0, []), (4, 0, 0, 0, []), (51, 7, 1, 0, []), (1, 0, 0, 23, []), (1, 0, 0, 5, []), (4, 0, 0, 0, []), (51, 7, 1, 0, []), (1, 0, 0, 1, []), (60, 0, 0, 0, []), (12, 0, 0, 0, []), (10, 0, 0, 0, []), (3, 2, 0, 0, []), (10, 0, 0, 0, []), (4, 0, 0, 0, []), (51, 7, 7, 0, []), (3, 2, 0, 0, []), (60, 0, 0, 0, []), (61, 0, 0, 0, []), (7, 2, 0, 1, []), (42, 209, 0, 0, [])]
theorem h_X7_comes_209 : mj_ch 7 cX7_comes 209 k_X7_comes_209 244 = true := by decide +kernel
def k_X7_comes_244 : List mj_O := [(4, 0, 0, 0, []), (51, 7, 1, 0, []), (1, 0, 0, 1, []), (22, 0, 0, 0, []), (60, 0, 0, 0, []), (1, 0, 0, 1, []), (10, 0, 0, 0, []), (61, 0, 0, 0, []), (1, 0, 0, 1, []), (80, 0, 0, 0, [])]
theorem h_X7_comes_244 : mj_ch 7 cX7_comes 244 k_X7_comes_244 256 = true := by decide +kernel
def k_X7_comes_256 : List mj_O := [(4, 0, 0, 0, []), (51, 7, 7, 0, []), (1, 0, 0, 0, []), (60, 0, 0, 0, []), (1, 0, 0, 1, []), (38, 288, 0, 0, []), (4, 0, 0, 0, []), (51, 7, 7, 0, []), (1, 0, 0, 0, []), (60, 0, 0, 0, []), (1, 0, 0, 60, []), (40, 288, 0, 0, []), (4, 0, 0, 0, []), (51, 7, 1, 0, []), (1, 0, 0, 2, []), (60, 0, 0, 0, []), (1, 0, 0, 6, []), (37, 290, 0, 0, [])]
theorem h_X7_comes_256 : mj_ch 7 cX7_comes 256 k_X7_comes_256 288 = true := by decide +kernel
def k_X7_comes_288 : List mj_O := [(1, 0, 0, 0, []), (80, 0, 0, 0, [])]
theorem h_X7_comes_288 : mj_ch 7 cX7_comes 288 k_X7_comes_288 290 = true := by decide +kernel
def k_X7_comes_290 : List mj_O := [(1, 0, 0, 0, []), (5, 2, 0, 0, [])]
theorem h_X7_comes_290 : mj_ch 7 cX7_comes 290 k_X7_comes_290 292 = true := by decide +kernel
def k_X7_comes_292 : List mj_O := [(3, 2, 0, 0, []), (1, 0, 0, 2, []), (39, 327, 0, 0, []), (4, 0, 0, 0, []), (51, 7, 1, 0, []), (1, 0, 0, 43, []), (1, 0, 0, 2, []), (4, 0, 0, 0, []), (51, 7, 1, 0, []), (1, 0, 0, 2, []), (60, 0, 0, 0, []), (12, 0, 0, 0, []), (10, 0, 0, 0, []), (3, 2, 0, 0, []), (10, 0, 0, 0, []), (4, 0, 0, 0, []), (51, 7, 7, 0, []), (3, 2, 0, 0, []), (60, 0, 0, 0, []), (61, 0, 0, 0, []), (7, 2, 0, 1, []), (42, 292, 0, 0, [])]
theorem h_X7_comes_292 : mj_ch 7 cX7_comes 292 k_X7_comes_292 327 = true := by decide +kernel
def k_X7_comes_327 : List mj_O := [(4, 0, 0, 0, []), (51, 7, 1, 0, []), (1, 0, 0, 2, []), (22, 0, 0, 0, []), (60, 0, 0, 0, []), (1, 0, 0, 1, []), (10, 0, 0, 0, []), (61, 0, 0, 0, []), (1, 0, 0, 1, []), (80, 0, 0, 0, [])]
theorem h_X7_comes_327 : mj_ch 7 cX7_comes 327 k_X7_comes_327 339 = true := by decide +kernel
def k_X7_comes_339 : List mj_O := [(4, 0, 0, 0, []), (51, 7, 1, 0, []), (1, 0, 0, 3, []), (4, 0, 0, 0, []), (51, 7, 7, 0, []), (1, 0, 0, 0, []), (60, 0, 0, 0, []), (61, 0, 0, 0, []), (4, 0, 0, 0, []), (51, 7, 7, 0, []), (1, 0, 0, 0, []), (60, 0, 0, 0, []), (1, 0, 0, 300, []), (39, 367, 0, 0, []), (1, 0, 0, 1, []), (42, 368, 0, 0, [])]
theorem h_X7_comes_339 : mj_ch 7 cX7_comes 339 k_X7_comes_339 367 = true := by decide +kernel
def k_X7_comes_367 : List mj_O := [(1, 0, 0, 0, [])]
theorem h_X7_comes_367 : mj_ch 7 cX7_comes 367 k_X7_comes_367 368 = true := by decide +kernel
def k_X7_comes_368 : List mj_O := [(80, 0, 0, 0, [])]
theorem h_X7_comes_368 : mj_ch 7 cX7_comes 368 k_X7_comes_368 369 = true := by decide +kernel
def k_X7_comes_369 : List mj_O := [(4, 0, 0, 0, []), (51, 7, 1, 0, []), (1, 0, 0, 4, []), (4, 0, 0, 0, []), (51, 7, 7, 0, []), (1, 0, 0, 0, []), (60, 0, 0, 0, []), (61, 0, 0, 0, []), (1, 0, 0, 1, []), (80, 0, 0, 0, [])]
theorem h_X7_comes_369 : mj_ch 7 cX7_comes 369 k_X7_comes_369 383 = true := by decide +kernel
def k_X7_reads_0 : List mj_O := [(4, 0, 0, 0, []), (1, 0, 0, 0, []), (52, 7, 9, 0, []), (1, 0, 0, 0, []), (5, 1, 0, 0, [])]
theorem h_X7_reads_0 : mj_ch 7 cX7_reads 0 k_X7_reads_0 7 = true := by decide +kernel
def k_X7_reads_7 : List mj_O := [(4, 0, 0, 0, []), (70, 264, 0, 0, []), (31, 23, 0, 0, []), (1, 0, 0, (-1000), []), (4, 0, 0, 0, []), (50, 7, 9, 0, []), (11, 0, 0, 0, []), (80, 0, 0, 0, [])]
theorem h_X7_reads_7 : mj_ch 7 cX7_reads 7 k_X7_reads_7 23 = true := by decide +kernel
def k_X7_reads_23 : List mj_O := [(7, 1, 0, 1, []), (4, 0, 0, 0, []), (50, 7, 9, 0, []), (4, 0, 0, 0, []), (50, 7, 8, 0, []), (38, 7, 0, 0, []), (4, 0, 0, 0, []), (51, 7, 1, 0, []), (4, 0, 0, 0, []), (51, 7, 3, 0, []), (70, 137, 0, 0, []), (4, 0, 0, 0, []), (1, 0, 0, 0, []), (52, 7, 9, 0, [])]
theorem h_X7_reads_23 : mj_ch 7 cX7_reads 23 k_X7_reads_23 53 = true := by decide +kernel
def k_X7_reads_53 : List mj_O := [(4, 0, 0, 0, []), (50, 7, 9, 0, []), (4, 0, 0, 0, []), (50, 7, 8, 0, []), (39, 108, 0, 0, []), (4, 0, 0, 0, []), (50, 7, 9, 0, []), (5, 2, 0, 0, []), (4, 0, 0, 0, []), (70, 192, 0, 0, []), (5, 3, 0, 0, []), (4, 0, 0, 0, []), (70, 264, 0, 0, []), (5, 4, 0, 0, []), (4, 0, 0, 0, []), (3, 3, 0, 0, []), (70, 276, 0, 0, []), (31, 105, 0, 0, []), (4, 0, 0, 0, []), (51, 7, 3, 0, []), (4, 0, 0, 0, []), (51, 7, 1, 0, []), (70, 137, 0, 0, []), (1, 0, 0, (-2000), []), (3, 2, 0, 0, []), (11, 0, 0, 0, []), (80, 0, 0, 0, [])]
theorem h_X7_reads_53 : mj_ch 7 cX7_reads 53 k_X7_reads_53 105 = true := by decide +kernel
def k_X7_reads_105 : List mj_O := [(42, 53, 0, 0, [])]
theorem h_X7_reads_105 : mj_ch 7 cX7_reads 105 k_X7_reads_105 108 = true := by decide +kernel
def k_X7_reads_108 : List mj_O := [(3, 1, 0, 0, []), (80, 0, 0, 0, [])]
theorem h_X7_reads_108 : mj_ch 7 cX7_reads 108 k_X7_reads_108 110 = true := by decide +kernel
def k_X7_room_0 : List mj_O := [(4, 0, 0, 0, []), (70, 285, 0, 0, []), (5, 1, 0, 0, []), (4, 0, 0, 0, []), (1, 0, 0, 0, []), (52, 7, 8, 0, []), (3, 1, 0, 0, []), (80, 0, 0, 0, [])]
theorem h_X7_room_0 : mj_ch 7 cX7_room 0 k_X7_room_0 12 = true := by decide +kernel
def k_X7_sleeper_0 : List mj_O := [(4, 0, 0, 0, []), (3, 1, 0, 0, []), (70, 255, 0, 0, []), (31, 14, 0, 0, []), (4, 0, 0, 0, []), (1, 0, 0, (-1), []), (70, 123, 0, 0, []), (80, 0, 0, 0, [])]
theorem h_X7_sleeper_0 : mj_ch 7 cX7_sleeper 0 k_X7_sleeper_0 14 = true := by decide +kernel
def k_X7_sleeper_14 : List mj_O := [(3, 2, 0, 0, []), (1, 0, 0, 4, []), (70, 149, 0, 0, []), (30, 31, 0, 0, []), (4, 0, 0, 0, []), (3, 1, 0, 0, []), (3, 2, 0, 0, []), (70, 294, 0, 0, []), (42, 37, 0, 0, [])]
theorem h_X7_sleeper_14 : mj_ch 7 cX7_sleeper 14 k_X7_sleeper_14 31 = true := by decide +kernel
def k_X7_sleeper_31 : List mj_O := [(4, 0, 0, 0, []), (1, 0, 0, (-2), []), (70, 123, 0, 0, [])]
theorem h_X7_sleeper_31 : mj_ch 7 cX7_sleeper 31 k_X7_sleeper_31 37 = true := by decide +kernel
def k_X7_sleeper_37 : List mj_O := [(80, 0, 0, 0, [])]
theorem h_X7_sleeper_37 : mj_ch 7 cX7_sleeper 37 k_X7_sleeper_37 38 = true := by decide +kernel
def k_X7_clock_0 : List mj_O := [(4, 0, 0, 0, []), (3, 1, 0, 0, []), (70, 306, 0, 0, []), (31, 14, 0, 0, []), (4, 0, 0, 0, []), (1, 0, 0, (-1), []), (70, 123, 0, 0, []), (80, 0, 0, 0, [])]
theorem h_X7_clock_0 : mj_ch 7 cX7_clock 0 k_X7_clock_0 14 = true := by decide +kernel
def k_X7_clock_14 : List mj_O := [(3, 2, 0, 0, []), (1, 0, 0, 5, []), (70, 149, 0, 0, []), (30, 31, 0, 0, []), (4, 0, 0, 0, []), (3, 1, 0, 0, []), (3, 2, 0, 0, []), (70, 315, 0, 0, []), (42, 37, 0, 0, [])]
theorem h_X7_clock_14 : mj_ch 7 cX7_clock 14 k_X7_clock_14 31 = true := by decide +kernel
def k_X7_clock_31 : List mj_O := [(4, 0, 0, 0, []), (1, 0, 0, (-2), []), (70, 123, 0, 0, [])]
theorem h_X7_clock_31 : mj_ch 7 cX7_clock 31 k_X7_clock_31 37 = true := by decide +kernel
def k_X7_clock_37 : List mj_O := [(80, 0, 0, 0, [])]
theorem h_X7_clock_37 : mj_ch 7 cX7_clock 37 k_X7_clock_37 38 = true := by decide +kernel
def k_X7_task_0 : List mj_O := [(3, 1, 0, 0, []), (4, 0, 0, 0, []), (51, 7, 1, 0, []), (1, 0, 0, 2, []), (60, 0, 0, 0, []), (70, 149, 0, 0, []), (31, 19, 0, 0, []), (4, 0, 0, 0, []), (1, 0, 0, (-1), []), (70, 123, 0, 0, []), (80, 0, 0, 0, [])]
theorem h_X7_task_0 : mj_ch 7 cX7_task 0 k_X7_task_0 19 = true := by decide +kernel
def k_X7_task_19 : List mj_O := [(3, 2, 0, 0, []), (1, 0, 0, 2, []), (70, 149, 0, 0, []), (30, 36, 0, 0, []), (4, 0, 0, 0, []), (3, 1, 0, 0, []), (3, 2, 0, 0, []), (70, 324, 0, 0, []), (42, 42, 0, 0, [])]
theorem h_X7_task_19 : mj_ch 7 cX7_task 19 k_X7_task_19 36 = true := by decide +kernel
def k_X7_task_36 : List mj_O := [(4, 0, 0, 0, []), (1, 0, 0, (-2), []), (70, 123, 0, 0, [])]
theorem h_X7_task_36 : mj_ch 7 cX7_task 36 k_X7_task_36 42 = true := by decide +kernel
def k_X7_task_42 : List mj_O := [(80, 0, 0, 0, [])]
theorem h_X7_task_42 : mj_ch 7 cX7_task 42 k_X7_task_42 43 = true := by decide +kernel
def k_X7_changes_0 : List mj_O := [(3, 3, 0, 0, []), (30, 10, 0, 0, []), (4, 0, 0, 0, []), (3, 3, 0, 0, []), (70, 123, 0, 0, []), (80, 0, 0, 0, [])]
theorem h_X7_changes_0 : mj_ch 7 cX7_changes 0 k_X7_changes_0 10 = true := by decide +kernel
def k_X7_changes_10 : List mj_O := [(4, 0, 0, 0, []), (51, 7, 1, 0, []), (3, 1, 0, 0, []), (60, 0, 0, 0, []), (5, 4, 0, 0, []), (4, 0, 0, 0, []), (51, 7, 1, 0, []), (3, 1, 0, 0, []), (3, 2, 0, 0, []), (61, 0, 0, 0, []), (3, 4, 0, 0, []), (80, 0, 0, 0, [])]
theorem h_X7_changes_10 : mj_ch 7 cX7_changes 10 k_X7_changes_10 28 = true := by decide +kernel
def k_X7_set_0 : List mj_O := [(4, 0, 0, 0, []), (1, 0, 0, 23, []), (1, 0, 0, 5, []), (3, 1, 0, 0, []), (12, 0, 0, 0, []), (10, 0, 0, 0, []), (1, 0, 0, 2, []), (10, 0, 0, 0, []), (3, 2, 0, 0, []), (4, 0, 0, 0, []), (3, 1, 0, 0, []), (70, 306, 0, 0, []), (30, 29, 0, 0, []), (3, 2, 0, 0, []), (1, 0, 0, 0, []), (1, 0, 0, 299, []), (70, 161, 0, 0, []), (42, 30, 0, 0, [])]
theorem h_X7_set_0 : mj_ch 7 cX7_set 0 k_X7_set_0 29 = true := by decide +kernel
def k_X7_set_29 : List mj_O := [(1, 0, 0, (-1), [])]
theorem h_X7_set_29 : mj_ch 7 cX7_set 29 k_X7_set_29 30 = true := by decide +kernel
def k_X7_set_30 : List mj_O := [(70, 333, 0, 0, []), (80, 0, 0, 0, [])]
theorem h_X7_set_30 : mj_ch 7 cX7_set 30 k_X7_set_30 34 = true := by decide +kernel
def k_X7_every_0 : List mj_O := [(4, 0, 0, 0, []), (1, 0, 0, 23, []), (1, 0, 0, 5, []), (3, 1, 0, 0, []), (12, 0, 0, 0, []), (10, 0, 0, 0, []), (1, 0, 0, 3, []), (10, 0, 0, 0, []), (3, 2, 0, 0, []), (4, 0, 0, 0, []), (3, 1, 0, 0, []), (70, 306, 0, 0, []), (30, 28, 0, 0, []), (3, 2, 0, 0, []), (1, 0, 0, 1, []), (1, 0, 0, 20, []), (70, 161, 0, 0, []), (42, 29, 0, 0, [])]
theorem h_X7_every_0 : mj_ch 7 cX7_every 0 k_X7_every_0 28 = true := by decide +kernel
def k_X7_every_28 : List mj_O := [(1, 0, 0, (-1), [])]
theorem h_X7_every_28 : mj_ch 7 cX7_every 28 k_X7_every_28 29 = true := by decide +kernel
def k_X7_every_29 : List mj_O := [(70, 333, 0, 0, []), (80, 0, 0, 0, [])]
theorem h_X7_every_29 : mj_ch 7 cX7_every 29 k_X7_every_29 33 = true := by decide +kernel
def k_X7_firm_0 : List mj_O := [(4, 0, 0, 0, []), (1, 0, 0, 4, []), (3, 1, 0, 0, []), (3, 1, 0, 0, []), (1, 0, 0, 0, []), (1, 0, 0, 99, []), (70, 161, 0, 0, []), (70, 333, 0, 0, []), (80, 0, 0, 0, [])]
theorem h_X7_firm_0 : mj_ch 7 cX7_firm 0 k_X7_firm_0 14 = true := by decide +kernel
def k_X7_bus_0 : List mj_O := [(4, 0, 0, 0, []), (1, 0, 0, 3, []), (3, 1, 0, 0, []), (3, 1, 0, 0, []), (1, 0, 0, 0, []), (1, 0, 0, 299, []), (70, 161, 0, 0, []), (70, 333, 0, 0, []), (80, 0, 0, 0, [])]
theorem h_X7_bus_0 : mj_ch 7 cX7_bus 0 k_X7_bus_0 15 = true := by decide +kernel
def k_X7_tired_0 : List mj_O := [(4, 0, 0, 0, []), (1, 0, 0, 5, []), (3, 1, 0, 0, []), (3, 1, 0, 0, []), (1, 0, 0, 0, []), (1, 0, 0, 9, []), (70, 161, 0, 0, []), (70, 333, 0, 0, []), (80, 0, 0, 0, [])]
theorem h_X7_tired_0 : mj_ch 7 cX7_tired 0 k_X7_tired_0 14 = true := by decide +kernel
def k_X7_depthOf_0 : List mj_O := [(4, 0, 0, 0, []), (3, 1, 0, 0, []), (1, 0, 0, 1, []), (70, 294, 0, 0, []), (5, 3, 0, 0, []), (3, 2, 0, 0, []), (3, 3, 0, 0, []), (14, 0, 0, 0, []), (5, 4, 0, 0, []), (3, 4, 0, 0, []), (3, 3, 0, 0, []), (3, 4, 0, 0, []), (11, 0, 0, 0, []), (39, 26, 0, 0, []), (3, 4, 0, 0, []), (42, 30, 0, 0, [])]
theorem h_X7_depthOf_0 : mj_ch 7 cX7_depthOf 0 k_X7_depthOf_0 26 = true := by decide +kernel
def k_X7_depthOf_26 : List mj_O := [(3, 3, 0, 0, []), (3, 4, 0, 0, []), (11, 0, 0, 0, [])]
theorem h_X7_depthOf_26 : mj_ch 7 cX7_depthOf 26 k_X7_depthOf_26 30 = true := by decide +kernel
def k_X7_depthOf_30 : List mj_O := [(5, 5, 0, 0, []), (3, 5, 0, 0, []), (4, 0, 0, 0, []), (3, 1, 0, 0, []), (1, 0, 0, 2, []), (70, 294, 0, 0, []), (12, 0, 0, 0, []), (1, 0, 0, 2, []), (12, 0, 0, 0, []), (3, 3, 0, 0, []), (13, 0, 0, 0, []), (4, 0, 0, 0, []), (51, 7, 1, 0, []), (1, 0, 0, 5, []), (60, 0, 0, 0, []), (10, 0, 0, 0, []), (5, 6, 0, 0, []), (4, 0, 0, 0, []), (3, 1, 0, 0, []), (1, 0, 0, 0, []), (70, 294, 0, 0, []), (43, 157, 0, 0, [(1, 96), (2, 101), (3, 106), (4, 120), (5, 136)])]
theorem h_X7_depthOf_30 : mj_ch 7 cX7_depthOf 30 k_X7_depthOf_30 96 = true := by decide +kernel
def k_X7_depthOf_96 : List mj_O := [(3, 6, 0, 0, []), (1, 0, 0, 2, []), (13, 0, 0, 0, []), (80, 0, 0, 0, [])]
theorem h_X7_depthOf_96 : mj_ch 7 cX7_depthOf 96 k_X7_depthOf_96 101 = true := by decide +kernel
def k_X7_depthOf_101 : List mj_O := [(3, 6, 0, 0, []), (1, 0, 0, 4, []), (10, 0, 0, 0, []), (80, 0, 0, 0, [])]
theorem h_X7_depthOf_101 : mj_ch 7 cX7_depthOf 101 k_X7_depthOf_101 106 = true := by decide +kernel
def k_X7_depthOf_106 : List mj_O := [(3, 6, 0, 0, []), (1, 0, 0, 4, []), (10, 0, 0, 0, []), (1, 0, 0, 300, []), (3, 2, 0, 0, []), (11, 0, 0, 0, []), (1, 0, 0, 30, []), (13, 0, 0, 0, []), (10, 0, 0, 0, []), (80, 0, 0, 0, [])]
theorem h_X7_depthOf_106 : mj_ch 7 cX7_depthOf 106 k_X7_depthOf_106 120 = true := by decide +kernel
def k_X7_depthOf_120 : List mj_O := [(3, 2, 0, 0, []), (1, 0, 0, 10, []), (14, 0, 0, 0, []), (31, 131, 0, 0, []), (1, 0, 0, 0, []), (42, 135, 0, 0, [])]
theorem h_X7_depthOf_120 : mj_ch 7 cX7_depthOf 120 k_X7_depthOf_120 131 = true := by decide +kernel
def k_X7_depthOf_131 : List mj_O := [(3, 6, 0, 0, []), (1, 0, 0, 2, []), (13, 0, 0, 0, [])]
theorem h_X7_depthOf_131 : mj_ch 7 cX7_depthOf 131 k_X7_depthOf_131 135 = true := by decide +kernel
def k_X7_depthOf_135 : List mj_O := [(80, 0, 0, 0, [])]
theorem h_X7_depthOf_135 : mj_ch 7 cX7_depthOf 135 k_X7_depthOf_135 136 = true := by decide +kernel
def k_X7_depthOf_136 : List mj_O := [(4, 0, 0, 0, []), (51, 7, 1, 0, []), (1, 0, 0, 6, []), (60, 0, 0, 0, []), (1, 0, 0, 4, []), (41, 152, 0, 0, []), (3, 6, 0, 0, []), (42, 156, 0, 0, [])]
theorem h_X7_depthOf_136 : mj_ch 7 cX7_depthOf 136 k_X7_depthOf_136 152 = true := by decide +kernel
def k_X7_depthOf_152 : List mj_O := [(3, 6, 0, 0, []), (1, 0, 0, 2, []), (13, 0, 0, 0, [])]
theorem h_X7_depthOf_152 : mj_ch 7 cX7_depthOf 152 k_X7_depthOf_152 156 = true := by decide +kernel
def k_X7_depthOf_156 : List mj_O := [(80, 0, 0, 0, [])]
theorem h_X7_depthOf_156 : mj_ch 7 cX7_depthOf 156 k_X7_depthOf_156 157 = true := by decide +kernel
def k_X7_depthOf_157 : List mj_O := [(3, 6, 0, 0, []), (80, 0, 0, 0, [])]
theorem h_X7_depthOf_157 : mj_ch 7 cX7_depthOf 157 k_X7_depthOf_157 160 = true := by decide +kernel
def k_X7_depth_0 : List mj_O := [(4, 0, 0, 0, []), (3, 1, 0, 0, []), (70, 255, 0, 0, []), (30, 19, 0, 0, []), (3, 2, 0, 0, []), (1, 0, 0, 0, []), (1, 0, 0, 299, []), (70, 161, 0, 0, []), (42, 20, 0, 0, [])]
theorem h_X7_depth_0 : mj_ch 7 cX7_depth 0 k_X7_depth_0 19 = true := by decide +kernel
def k_X7_depth_19 : List mj_O := [(1, 0, 0, (-1), [])]
theorem h_X7_depth_19 : mj_ch 7 cX7_depth 19 k_X7_depth_19 20 = true := by decide +kernel
def k_X7_depth_20 : List mj_O := [(5, 3, 0, 0, []), (3, 3, 0, 0, []), (30, 33, 0, 0, []), (4, 0, 0, 0, []), (3, 3, 0, 0, []), (70, 123, 0, 0, []), (42, 39, 0, 0, [])]
theorem h_X7_depth_20 : mj_ch 7 cX7_depth 20 k_X7_depth_20 33 = true := by decide +kernel
def k_X7_depth_33 : List mj_O := [(4, 0, 0, 0, []), (3, 1, 0, 0, []), (3, 2, 0, 0, []), (70, 342, 0, 0, [])]
theorem h_X7_depth_33 : mj_ch 7 cX7_depth 33 k_X7_depth_33 39 = true := by decide +kernel
def k_X7_depth_39 : List mj_O := [(80, 0, 0, 0, [])]
theorem h_X7_depth_39 : mj_ch 7 cX7_depth 39 k_X7_depth_39 40 = true := by decide +kernel
def k_X7_wakes_0 : List mj_O := [(4, 0, 0, 0, []), (3, 1, 0, 0, []), (1, 0, 0, 4, []), (70, 315, 0, 0, []), (4, 0, 0, 0, []), (3, 1, 0, 0, []), (1, 0, 0, 0, []), (70, 315, 0, 0, []), (1, 0, 0, 2, []), (37, 21, 0, 0, []), (1, 0, 0, 8, []), (42, 39, 0, 0, [])]
theorem h_X7_wakes_0 : mj_ch 7 cX7_wakes 0 k_X7_wakes_0 21 = true := by decide +kernel
def k_X7_wakes_21 : List mj_O := [(4, 0, 0, 0, []), (3, 1, 0, 0, []), (1, 0, 0, 0, []), (70, 315, 0, 0, []), (1, 0, 0, 3, []), (37, 38, 0, 0, []), (3, 3, 0, 0, []), (1, 0, 0, 10, []), (13, 0, 0, 0, []), (42, 39, 0, 0, [])]
theorem h_X7_wakes_21 : mj_ch 7 cX7_wakes 21 k_X7_wakes_21 38 = true := by decide +kernel
def k_X7_wakes_38 : List mj_O := [(1, 0, 0, 0, [])]
theorem h_X7_wakes_38 : mj_ch 7 cX7_wakes 38 k_X7_wakes_38 39 = true := by decide +kernel
def k_X7_wakes_39 : List mj_O := [(10, 0, 0, 0, []), (5, 4, 0, 0, []), (3, 4, 0, 0, []), (4, 0, 0, 0, []), (3, 2, 0, 0, []), (3, 3, 0, 0, []), (70, 342, 0, 0, []), (38, 57, 0, 0, []), (1, 0, 0, 1, []), (42, 58, 0, 0, [])]
theorem h_X7_wakes_39 : mj_ch 7 cX7_wakes 39 k_X7_wakes_39 57 = true := by decide +kernel
def k_X7_wakes_57 : List mj_O := [(1, 0, 0, 0, [])]
theorem h_X7_wakes_57 : mj_ch 7 cX7_wakes 57 k_X7_wakes_57 58 = true := by decide +kernel
def k_X7_wakes_58 : List mj_O := [(80, 0, 0, 0, [])]
theorem h_X7_wakes_58 : mj_ch 7 cX7_wakes 58 k_X7_wakes_58 59 = true := by decide +kernel
def k_X7_mayPress_0 : List mj_O := [(4, 0, 0, 0, []), (3, 1, 0, 0, []), (1, 0, 0, 0, []), (70, 315, 0, 0, []), (5, 3, 0, 0, []), (3, 3, 0, 0, []), (1, 0, 0, 1, []), (36, 17, 0, 0, []), (3, 3, 0, 0, []), (1, 0, 0, 2, []), (37, 29, 0, 0, [])]
theorem h_X7_mayPress_0 : mj_ch 7 cX7_mayPress 0 k_X7_mayPress_0 17 = true := by decide +kernel
def k_X7_mayPress_17 : List mj_O := [(3, 2, 0, 0, []), (31, 25, 0, 0, []), (1, 0, 0, 1, []), (42, 39, 0, 0, [])]
theorem h_X7_mayPress_17 : mj_ch 7 cX7_mayPress 17 k_X7_mayPress_17 25 = true := by decide +kernel
def k_X7_mayPress_25 : List mj_O := [(1, 0, 0, 0, []), (42, 39, 0, 0, [])]
theorem h_X7_mayPress_25 : mj_ch 7 cX7_mayPress 25 k_X7_mayPress_25 29 = true := by decide +kernel
def k_X7_mayPress_29 : List mj_O := [(3, 3, 0, 0, []), (1, 0, 0, 5, []), (36, 38, 0, 0, []), (1, 0, 0, 1, []), (42, 39, 0, 0, [])]
theorem h_X7_mayPress_29 : mj_ch 7 cX7_mayPress 29 k_X7_mayPress_29 38 = true := by decide +kernel
def k_X7_mayPress_38 : List mj_O := [(1, 0, 0, 0, [])]
theorem h_X7_mayPress_38 : mj_ch 7 cX7_mayPress 38 k_X7_mayPress_38 39 = true := by decide +kernel
def k_X7_mayPress_39 : List mj_O := [(80, 0, 0, 0, [])]
theorem h_X7_mayPress_39 : mj_ch 7 cX7_mayPress 39 k_X7_mayPress_39 40 = true := by decide +kernel
def k_X7_later_0 : List mj_O := [(4, 0, 0, 0, []), (3, 1, 0, 0, []), (1, 0, 0, 0, []), (70, 315, 0, 0, []), (5, 3, 0, 0, []), (4, 0, 0, 0, []), (3, 1, 0, 0, []), (1, 0, 0, 3, []), (70, 315, 0, 0, []), (5, 4, 0, 0, []), (3, 3, 0, 0, []), (1, 0, 0, 3, []), (37, 24, 0, 0, []), (1, 0, 0, 1, []), (42, 50, 0, 0, [])]
theorem h_X7_later_0 : mj_ch 7 cX7_later 0 k_X7_later_0 24 = true := by decide +kernel
def k_X7_later_24 : List mj_O := [(3, 3, 0, 0, []), (1, 0, 0, 4, []), (36, 34, 0, 0, []), (3, 4, 0, 0, []), (42, 50, 0, 0, [])]
theorem h_X7_later_24 : mj_ch 7 cX7_later 24 k_X7_later_24 34 = true := by decide +kernel
def k_X7_later_34 : List mj_O := [(3, 4, 0, 0, []), (3, 2, 0, 0, []), (1, 0, 0, 1, []), (10, 0, 0, 0, []), (41, 49, 0, 0, []), (3, 4, 0, 0, []), (3, 2, 0, 0, []), (11, 0, 0, 0, []), (42, 50, 0, 0, [])]
theorem h_X7_later_34 : mj_ch 7 cX7_later 34 k_X7_later_34 49 = true := by decide +kernel
def k_X7_later_49 : List mj_O := [(1, 0, 0, 1, [])]
theorem h_X7_later_49 : mj_ch 7 cX7_later 49 k_X7_later_49 50 = true := by decide +kernel
def k_X7_later_50 : List mj_O := [(80, 0, 0, 0, [])]
theorem h_X7_later_50 : mj_ch 7 cX7_later 50 k_X7_later_50 51 = true := by decide +kernel
def k_X7_spareAt_0 : List mj_O := [(4, 0, 0, 0, []), (51, 7, 1, 0, []), (1, 0, 0, 3, []), (60, 0, 0, 0, []), (3, 1, 0, 0, []), (11, 0, 0, 0, []), (5, 2, 0, 0, []), (1, 0, 0, 0, []), (5, 3, 0, 0, [])]
theorem h_X7_spareAt_0 : mj_ch 7 cX7_spareAt 0 k_X7_spareAt_0 11 = true := by decide +kernel
def k_X7_spareAt_11 : List mj_O := [(3, 3, 0, 0, []), (4, 0, 0, 0, []), (51, 7, 1, 0, []), (1, 0, 0, 2, []), (60, 0, 0, 0, []), (39, 36, 0, 0, []), (3, 2, 0, 0, []), (4, 0, 0, 0, []), (3, 3, 0, 0, []), (1, 0, 0, 0, []), (70, 324, 0, 0, []), (11, 0, 0, 0, []), (5, 2, 0, 0, []), (7, 3, 0, 1, []), (42, 11, 0, 0, [])]
theorem h_X7_spareAt_11 : mj_ch 7 cX7_spareAt 11 k_X7_spareAt_11 36 = true := by decide +kernel
def k_X7_spareAt_36 : List mj_O := [(3, 2, 0, 0, []), (80, 0, 0, 0, [])]
theorem h_X7_spareAt_36 : mj_ch 7 cX7_spareAt 36 k_X7_spareAt_36 38 = true := by decide +kernel
def k_X7_morningOf_0 : List mj_O := [(4, 0, 0, 0, []), (1, 0, 0, (-9), []), (52, 7, 12, 0, []), (4, 0, 0, 0, []), (1, 0, 0, 0, []), (52, 7, 13, 0, []), (4, 0, 0, 0, []), (1, 0, 0, 0, []), (52, 7, 14, 0, []), (1, 0, 0, 0, []), (5, 4, 0, 0, [])]
theorem h_X7_morningOf_0 : mj_ch 7 cX7_morningOf 0 k_X7_morningOf_0 19 = true := by decide +kernel
def k_X7_morningOf_19 : List mj_O := [(3, 4, 0, 0, []), (1, 0, 0, 4, []), (39, 85, 0, 0, []), (4, 0, 0, 0, []), (51, 7, 11, 0, []), (3, 4, 0, 0, []), (1, 0, 0, 0, []), (61, 0, 0, 0, []), (4, 0, 0, 0, []), (51, 7, 10, 0, []), (3, 4, 0, 0, []), (4, 0, 0, 0, []), (3, 4, 0, 0, []), (70, 306, 0, 0, []), (30, 75, 0, 0, []), (4, 0, 0, 0, []), (3, 4, 0, 0, []), (1, 0, 0, 1, []), (70, 315, 0, 0, []), (3, 1, 0, 0, []), (37, 75, 0, 0, []), (3, 4, 0, 0, []), (3, 2, 0, 0, []), (36, 75, 0, 0, []), (4, 0, 0, 0, []), (3, 4, 0, 0, []), (1, 0, 0, 2, []), (70, 315, 0, 0, []), (42, 78, 0, 0, [])]
theorem h_X7_morningOf_19 : mj_ch 7 cX7_morningOf 19 k_X7_morningOf_19 75 = true := by decide +kernel
def k_X7_morningOf_75 : List mj_O := [(1, 0, 0, 300, [])]
theorem h_X7_morningOf_75 : mj_ch 7 cX7_morningOf 75 k_X7_morningOf_75 78 = true := by decide +kernel
def k_X7_morningOf_78 : List mj_O := [(61, 0, 0, 0, []), (7, 4, 0, 1, []), (42, 19, 0, 0, [])]
theorem h_X7_morningOf_78 : mj_ch 7 cX7_morningOf 78 k_X7_morningOf_78 85 = true := by decide +kernel
def k_X7_morningOf_85 : List mj_O := [(4, 0, 0, 0, []), (50, 7, 12, 0, []), (33, 313, 0, 0, []), (1, 0, 0, 0, []), (5, 4, 0, 0, []), (1, 0, 0, 1, []), (5, 5, 0, 0, [])]
theorem h_X7_morningOf_85 : mj_ch 7 cX7_morningOf 85 k_X7_morningOf_85 98 = true := by decide +kernel
def k_X7_morningOf_98 : List mj_O := [(3, 5, 0, 0, []), (1, 0, 0, 4, []), (39, 131, 0, 0, []), (4, 0, 0, 0, []), (51, 7, 10, 0, []), (3, 5, 0, 0, []), (60, 0, 0, 0, []), (4, 0, 0, 0, []), (51, 7, 10, 0, []), (3, 4, 0, 0, []), (60, 0, 0, 0, []), (39, 125, 0, 0, []), (3, 5, 0, 0, []), (5, 4, 0, 0, [])]
theorem h_X7_morningOf_98 : mj_ch 7 cX7_morningOf 98 k_X7_morningOf_98 125 = true := by decide +kernel
def k_X7_morningOf_125 : List mj_O := [(7, 5, 0, 1, []), (42, 98, 0, 0, [])]
theorem h_X7_morningOf_125 : mj_ch 7 cX7_morningOf 125 k_X7_morningOf_125 131 = true := by decide +kernel
def k_X7_morningOf_131 : List mj_O := [(4, 0, 0, 0, []), (51, 7, 10, 0, []), (3, 4, 0, 0, []), (60, 0, 0, 0, []), (5, 5, 0, 0, []), (3, 5, 0, 0, []), (1, 0, 0, 300, []), (38, 156, 0, 0, []), (4, 0, 0, 0, []), (1, 0, 0, 300, []), (52, 7, 12, 0, []), (82, 0, 0, 0, [])]
theorem h_X7_morningOf_131 : mj_ch 7 cX7_morningOf 131 k_X7_morningOf_131 156 = true := by decide +kernel
def k_X7_morningOf_156 : List mj_O := [(4, 0, 0, 0, []), (21, 0, 0, 0, []), (50, 7, 15, 0, []), (3, 3, 0, 0, []), (32, 181, 0, 0, []), (4, 0, 0, 0, []), (3, 4, 0, 0, []), (3, 3, 0, 0, []), (3, 5, 0, 0, []), (70, 387, 0, 0, []), (30, 181, 0, 0, []), (1, 0, 0, 1, []), (42, 182, 0, 0, [])]
theorem h_X7_morningOf_156 : mj_ch 7 cX7_morningOf 156 k_X7_morningOf_156 181 = true := by decide +kernel
def k_X7_morningOf_181 : List mj_O := [(1, 0, 0, 0, [])]
theorem h_X7_morningOf_181 : mj_ch 7 cX7_morningOf 181 k_X7_morningOf_181 182 = true := by decide +kernel
def k_X7_morningOf_182 : List mj_O := [(10, 0, 0, 0, []), (52, 7, 15, 0, []), (4, 0, 0, 0, []), (51, 7, 10, 0, []), (3, 4, 0, 0, []), (3, 5, 0, 0, []), (4, 0, 0, 0, []), (3, 4, 0, 0, []), (4, 0, 0, 0, []), (51, 7, 11, 0, []), (3, 4, 0, 0, []), (60, 0, 0, 0, []), (70, 396, 0, 0, []), (10, 0, 0, 0, []), (61, 0, 0, 0, []), (4, 0, 0, 0, []), (3, 4, 0, 0, []), (3, 1, 0, 0, []), (3, 5, 0, 0, []), (70, 387, 0, 0, []), (31, 234, 0, 0, []), (4, 0, 0, 0, []), (21, 0, 0, 0, []), (50, 7, 14, 0, []), (1, 0, 0, 1, []), (10, 0, 0, 0, []), (52, 7, 14, 0, []), (42, 310, 0, 0, [])]
theorem h_X7_morningOf_182 : mj_ch 7 cX7_morningOf 182 k_X7_morningOf_182 234 = true := by decide +kernel
def k_X7_morningOf_234 : List mj_O := [(4, 0, 0, 0, []), (3, 4, 0, 0, []), (4, 0, 0, 0, []), (51, 7, 11, 0, []), (3, 4, 0, 0, []), (60, 0, 0, 0, []), (70, 405, 0, 0, []), (30, 304, 0, 0, []), (4, 0, 0, 0, []), (3, 5, 0, 0, []), (70, 414, 0, 0, []), (4, 0, 0, 0, []), (3, 1, 0, 0, []), (3, 5, 0, 0, []), (70, 342, 0, 0, []), (10, 0, 0, 0, []), (4, 0, 0, 0, []), (3, 1, 0, 0, []), (1, 0, 0, 3, []), (70, 294, 0, 0, []), (10, 0, 0, 0, []), (4, 0, 0, 0, []), (51, 7, 1, 0, []), (1, 0, 0, 4, []), (60, 0, 0, 0, []), (41, 304, 0, 0, []), (4, 0, 0, 0, []), (51, 7, 11, 0, []), (3, 4, 0, 0, []), (22, 0, 0, 0, []), (60, 0, 0, 0, []), (1, 0, 0, 1, []), (10, 0, 0, 0, []), (61, 0, 0, 0, []), (4, 0, 0, 0, []), (21, 0, 0, 0, []), (50, 7, 13, 0, []), (1, 0, 0, 1, []), (10, 0, 0, 0, []), (52, 7, 13, 0, []), (42, 310, 0, 0, [])]
theorem h_X7_morningOf_234 : mj_ch 7 cX7_morningOf 234 k_X7_morningOf_234 304 = true := by decide +kernel
def k_X7_morningOf_304 : List mj_O := [(4, 0, 0, 0, []), (3, 5, 0, 0, []), (52, 7, 12, 0, [])]
theorem h_X7_morningOf_304 : mj_ch 7 cX7_morningOf 304 k_X7_morningOf_304 310 = true := by decide +kernel
def k_X7_morningOf_310 : List mj_O := [(42, 85, 0, 0, [])]
theorem h_X7_morningOf_310 : mj_ch 7 cX7_morningOf 310 k_X7_morningOf_310 313 = true := by decide +kernel
def k_X7_morningOf_313 : List mj_O := [(82, 0, 0, 0, [])]
theorem h_X7_morningOf_313 : mj_ch 7 cX7_morningOf 313 k_X7_morningOf_313 314 = true := by decide +kernel
def k_X7_morning_0 : List mj_O := [(4, 0, 0, 0, []), (3, 1, 0, 0, []), (1, 0, 0, (-9), []), (1, 0, 0, (-9), []), (70, 423, 0, 0, []), (82, 0, 0, 0, [])]
theorem h_X7_morning_0 : mj_ch 7 cX7_morning 0 k_X7_morning_0 10 = true := by decide +kernel
def k_X7_up_0 : List mj_O := [(4, 0, 0, 0, []), (3, 1, 0, 0, []), (70, 255, 0, 0, []), (31, 14, 0, 0, []), (4, 0, 0, 0, []), (1, 0, 0, (-1), []), (70, 123, 0, 0, []), (80, 0, 0, 0, [])]
theorem h_X7_up_0 : mj_ch 7 cX7_up 0 k_X7_up_0 14 = true := by decide +kernel
def k_X7_up_14 : List mj_O := [(4, 0, 0, 0, []), (3, 1, 0, 0, []), (70, 435, 0, 0, []), (4, 0, 0, 0, []), (50, 7, 12, 0, []), (80, 0, 0, 0, [])]
theorem h_X7_up_14 : mj_ch 7 cX7_up 14 k_X7_up_14 24 = true := by decide +kernel
def k_X7_presses_0 : List mj_O := [(4, 0, 0, 0, []), (3, 1, 0, 0, []), (70, 255, 0, 0, []), (31, 14, 0, 0, []), (4, 0, 0, 0, []), (1, 0, 0, (-1), []), (70, 123, 0, 0, []), (80, 0, 0, 0, [])]
theorem h_X7_presses_0 : mj_ch 7 cX7_presses 0 k_X7_presses_0 14 = true := by decide +kernel
def k_X7_presses_14 : List mj_O := [(4, 0, 0, 0, []), (3, 1, 0, 0, []), (70, 435, 0, 0, []), (4, 0, 0, 0, []), (50, 7, 13, 0, []), (80, 0, 0, 0, [])]
theorem h_X7_presses_14 : mj_ch 7 cX7_presses 14 k_X7_presses_14 24 = true := by decide +kernel
def k_X7_slept_0 : List mj_O := [(4, 0, 0, 0, []), (3, 1, 0, 0, []), (70, 255, 0, 0, []), (31, 14, 0, 0, []), (4, 0, 0, 0, []), (1, 0, 0, (-1), []), (70, 123, 0, 0, []), (80, 0, 0, 0, [])]
theorem h_X7_slept_0 : mj_ch 7 cX7_slept 0 k_X7_slept_0 14 = true := by decide +kernel
def k_X7_slept_14 : List mj_O := [(4, 0, 0, 0, []), (3, 1, 0, 0, []), (70, 435, 0, 0, []), (4, 0, 0, 0, []), (50, 7, 14, 0, []), (80, 0, 0, 0, [])]
theorem h_X7_slept_14 : mj_ch 7 cX7_slept 14 k_X7_slept_14 24 = true := by decide +kernel
def k_X7_doneAt_0 : List mj_O := [(1, 0, 0, 0, []), (5, 2, 0, 0, []), (4, 0, 0, 0, []), (1, 0, 0, 0, []), (52, 7, 16, 0, []), (1, 0, 0, 1, []), (5, 3, 0, 0, [])]
theorem h_X7_doneAt_0 : mj_ch 7 cX7_doneAt 0 k_X7_doneAt_0 9 = true := by decide +kernel
def k_X7_doneAt_9 : List mj_O := [(3, 3, 0, 0, []), (1, 0, 0, 1, []), (4, 0, 0, 0, []), (51, 7, 1, 0, []), (1, 0, 0, 2, []), (60, 0, 0, 0, []), (16, 0, 0, 0, []), (39, 118, 0, 0, []), (4, 0, 0, 0, []), (51, 7, 1, 0, []), (1, 0, 0, 3, []), (60, 0, 0, 0, []), (3, 1, 0, 0, []), (11, 0, 0, 0, []), (5, 4, 0, 0, []), (1, 0, 0, 0, []), (5, 5, 0, 0, []), (1, 0, 0, 0, []), (5, 6, 0, 0, [])]
theorem h_X7_doneAt_9 : mj_ch 7 cX7_doneAt 9 k_X7_doneAt_9 37 = true := by decide +kernel
def k_X7_doneAt_37 : List mj_O := [(3, 6, 0, 0, []), (4, 0, 0, 0, []), (51, 7, 1, 0, []), (1, 0, 0, 2, []), (60, 0, 0, 0, []), (39, 90, 0, 0, []), (3, 3, 0, 0, []), (3, 6, 0, 0, []), (17, 0, 0, 0, []), (1, 0, 0, 1, []), (18, 0, 0, 0, []), (31, 60, 0, 0, []), (42, 84, 0, 0, [])]
theorem h_X7_doneAt_37 : mj_ch 7 cX7_doneAt 37 k_X7_doneAt_37 60 = true := by decide +kernel
def k_X7_doneAt_60 : List mj_O := [(3, 4, 0, 0, []), (4, 0, 0, 0, []), (3, 6, 0, 0, []), (1, 0, 0, 0, []), (70, 324, 0, 0, []), (11, 0, 0, 0, []), (5, 4, 0, 0, []), (3, 5, 0, 0, []), (4, 0, 0, 0, []), (3, 6, 0, 0, []), (1, 0, 0, 1, []), (70, 324, 0, 0, []), (10, 0, 0, 0, []), (5, 5, 0, 0, [])]
theorem h_X7_doneAt_60 : mj_ch 7 cX7_doneAt 60 k_X7_doneAt_60 84 = true := by decide +kernel
def k_X7_doneAt_84 : List mj_O := [(7, 6, 0, 1, []), (42, 37, 0, 0, [])]
theorem h_X7_doneAt_84 : mj_ch 7 cX7_doneAt 84 k_X7_doneAt_84 90 = true := by decide +kernel
def k_X7_doneAt_90 : List mj_O := [(3, 4, 0, 0, []), (32, 112, 0, 0, []), (3, 5, 0, 0, []), (3, 2, 0, 0, []), (40, 104, 0, 0, []), (42, 112, 0, 0, [])]
theorem h_X7_doneAt_90 : mj_ch 7 cX7_doneAt 90 k_X7_doneAt_90 104 = true := by decide +kernel
def k_X7_doneAt_104 : List mj_O := [(3, 5, 0, 0, []), (5, 2, 0, 0, []), (4, 0, 0, 0, []), (3, 3, 0, 0, []), (52, 7, 16, 0, [])]
theorem h_X7_doneAt_104 : mj_ch 7 cX7_doneAt 104 k_X7_doneAt_104 112 = true := by decide +kernel
def k_X7_doneAt_112 : List mj_O := [(7, 3, 0, 1, []), (42, 9, 0, 0, [])]
theorem h_X7_doneAt_112 : mj_ch 7 cX7_doneAt 112 k_X7_doneAt_112 118 = true := by decide +kernel
def k_X7_doneAt_118 : List mj_O := [(3, 2, 0, 0, []), (80, 0, 0, 0, [])]
theorem h_X7_doneAt_118 : mj_ch 7 cX7_doneAt 118 k_X7_doneAt_118 120 = true := by decide +kernel
def k_X7_done_0 : List mj_O := [(3, 1, 0, 0, []), (1, 0, 0, 0, []), (1, 0, 0, 300, []), (70, 161, 0, 0, []), (5, 3, 0, 0, []), (3, 3, 0, 0, []), (31, 24, 0, 0, []), (3, 2, 0, 0, []), (1, 0, 0, 2, []), (70, 149, 0, 0, []), (31, 24, 0, 0, []), (1, 0, 0, (-2), []), (5, 3, 0, 0, [])]
theorem h_X7_done_0 : mj_ch 7 cX7_done 0 k_X7_done_0 24 = true := by decide +kernel
def k_X7_done_24 : List mj_O := [(3, 3, 0, 0, []), (30, 34, 0, 0, []), (4, 0, 0, 0, []), (3, 3, 0, 0, []), (70, 123, 0, 0, []), (80, 0, 0, 0, [])]
theorem h_X7_done_24 : mj_ch 7 cX7_done 24 k_X7_done_24 34 = true := by decide +kernel
def k_X7_done_34 : List mj_O := [(4, 0, 0, 0, []), (3, 1, 0, 0, []), (70, 456, 0, 0, []), (5, 4, 0, 0, []), (3, 2, 0, 0, []), (31, 52, 0, 0, []), (4, 0, 0, 0, []), (50, 7, 16, 0, []), (42, 54, 0, 0, [])]
theorem h_X7_done_34 : mj_ch 7 cX7_done 34 k_X7_done_34 52 = true := by decide +kernel
def k_X7_done_52 : List mj_O := [(3, 4, 0, 0, [])]
theorem h_X7_done_52 : mj_ch 7 cX7_done 52 k_X7_done_52 54 = true := by decide +kernel
def k_X7_done_54 : List mj_O := [(80, 0, 0, 0, [])]
theorem h_X7_done_54 : mj_ch 7 cX7_done 54 k_X7_done_54 55 = true := by decide +kernel
def k_X7_valueOf_0 : List mj_O := [(4, 0, 0, 0, []), (3, 1, 0, 0, []), (70, 435, 0, 0, []), (4, 0, 0, 0, []), (4, 0, 0, 0, []), (50, 7, 12, 0, []), (70, 456, 0, 0, []), (4, 0, 0, 0, []), (50, 7, 12, 0, []), (1, 0, 0, 10, []), (13, 0, 0, 0, []), (10, 0, 0, 0, []), (1, 0, 0, 5, []), (4, 0, 0, 0, []), (50, 7, 13, 0, []), (12, 0, 0, 0, []), (11, 0, 0, 0, []), (4, 0, 0, 0, []), (50, 7, 12, 0, []), (4, 0, 0, 0, []), (51, 7, 1, 0, []), (1, 0, 0, 3, []), (60, 0, 0, 0, []), (41, 46, 0, 0, []), (1, 0, 0, 50, []), (42, 47, 0, 0, [])]
theorem h_X7_valueOf_0 : mj_ch 7 cX7_valueOf 0 k_X7_valueOf_0 46 = true := by decide +kernel
def k_X7_valueOf_46 : List mj_O := [(1, 0, 0, 0, [])]
theorem h_X7_valueOf_46 : mj_ch 7 cX7_valueOf 46 k_X7_valueOf_46 47 = true := by decide +kernel
def k_X7_valueOf_47 : List mj_O := [(11, 0, 0, 0, []), (5, 2, 0, 0, []), (4, 0, 0, 0, []), (50, 7, 12, 0, []), (1, 0, 0, 300, []), (37, 63, 0, 0, []), (3, 2, 0, 0, []), (42, 74, 0, 0, [])]
theorem h_X7_valueOf_47 : mj_ch 7 cX7_valueOf 47 k_X7_valueOf_47 63 = true := by decide +kernel
def k_X7_valueOf_63 : List mj_O := [(3, 2, 0, 0, []), (4, 0, 0, 0, []), (3, 1, 0, 0, []), (4, 0, 0, 0, []), (50, 7, 12, 0, []), (70, 342, 0, 0, []), (11, 0, 0, 0, [])]
theorem h_X7_valueOf_63 : mj_ch 7 cX7_valueOf 63 k_X7_valueOf_63 74 = true := by decide +kernel
def k_X7_valueOf_74 : List mj_O := [(80, 0, 0, 0, [])]
theorem h_X7_valueOf_74 : mj_ch 7 cX7_valueOf 74 k_X7_valueOf_74 75 = true := by decide +kernel
def k_X7_value_0 : List mj_O := [(4, 0, 0, 0, []), (3, 1, 0, 0, []), (70, 255, 0, 0, []), (30, 16, 0, 0, []), (4, 0, 0, 0, []), (3, 1, 0, 0, []), (70, 465, 0, 0, []), (42, 21, 0, 0, [])]
theorem h_X7_value_0 : mj_ch 7 cX7_value 0 k_X7_value_0 16 = true := by decide +kernel
def k_X7_value_16 : List mj_O := [(4, 0, 0, 0, []), (1, 0, 0, (-1), []), (70, 474, 0, 0, [])]
theorem h_X7_value_16 : mj_ch 7 cX7_value 16 k_X7_value_16 21 = true := by decide +kernel
def k_X7_value_21 : List mj_O := [(80, 0, 0, 0, [])]
theorem h_X7_value_21 : mj_ch 7 cX7_value 21 k_X7_value_21 22 = true := by decide +kernel
def k_X7_cost_0 : List mj_O := [(3, 1, 0, 0, []), (1, 0, 0, 0, []), (1, 0, 0, 299, []), (70, 161, 0, 0, []), (5, 2, 0, 0, []), (3, 2, 0, 0, []), (30, 21, 0, 0, []), (4, 0, 0, 0, []), (3, 2, 0, 0, []), (70, 474, 0, 0, []), (42, 34, 0, 0, [])]
theorem h_X7_cost_0 : mj_ch 7 cX7_cost 0 k_X7_cost_0 21 = true := by decide +kernel
def k_X7_cost_21 : List mj_O := [(4, 0, 0, 0, []), (3, 1, 0, 0, []), (70, 456, 0, 0, []), (4, 0, 0, 0, []), (3, 1, 0, 0, []), (1, 0, 0, 1, []), (10, 0, 0, 0, []), (70, 456, 0, 0, []), (11, 0, 0, 0, [])]
theorem h_X7_cost_21 : mj_ch 7 cX7_cost 21 k_X7_cost_21 34 = true := by decide +kernel
def k_X7_cost_34 : List mj_O := [(80, 0, 0, 0, [])]
theorem h_X7_cost_34 : mj_ch 7 cX7_cost 34 k_X7_cost_34 35 = true := by decide +kernel
def k_X7_evening_0 : List mj_O := [(4, 0, 0, 0, []), (3, 1, 0, 0, []), (70, 306, 0, 0, []), (31, 14, 0, 0, []), (4, 0, 0, 0, []), (1, 0, 0, (-1), []), (70, 474, 0, 0, []), (80, 0, 0, 0, [])]
theorem h_X7_evening_0 : mj_ch 7 cX7_evening 0 k_X7_evening_0 14 = true := by decide +kernel
def k_X7_evening_14 : List mj_O := [(3, 2, 0, 0, []), (1, 0, 0, 4, []), (70, 149, 0, 0, []), (31, 29, 0, 0, []), (4, 0, 0, 0, []), (1, 0, 0, (-2), []), (70, 474, 0, 0, []), (80, 0, 0, 0, [])]
theorem h_X7_evening_14 : mj_ch 7 cX7_evening 14 k_X7_evening_14 29 = true := by decide +kernel
def k_X7_evening_29 : List mj_O := [(4, 0, 0, 0, []), (70, 483, 0, 0, []), (1, 0, 0, 23, []), (1, 0, 0, 5, []), (3, 1, 0, 0, []), (12, 0, 0, 0, []), (10, 0, 0, 0, []), (3, 2, 0, 0, []), (1, 0, 0, 2, []), (39, 48, 0, 0, []), (1, 0, 0, 2, []), (42, 49, 0, 0, [])]
theorem h_X7_evening_29 : mj_ch 7 cX7_evening 29 k_X7_evening_29 48 = true := by decide +kernel
def k_X7_evening_48 : List mj_O := [(1, 0, 0, 3, [])]
theorem h_X7_evening_48 : mj_ch 7 cX7_evening 48 k_X7_evening_48 49 = true := by decide +kernel
def k_X7_evening_49 : List mj_O := [(10, 0, 0, 0, []), (5, 3, 0, 0, []), (3, 2, 0, 0, []), (1, 0, 0, 2, []), (39, 60, 0, 0, []), (1, 0, 0, 0, []), (42, 61, 0, 0, [])]
theorem h_X7_evening_49 : mj_ch 7 cX7_evening 49 k_X7_evening_49 60 = true := by decide +kernel
def k_X7_evening_60 : List mj_O := [(1, 0, 0, 1, [])]
theorem h_X7_evening_60 : mj_ch 7 cX7_evening 60 k_X7_evening_60 61 = true := by decide +kernel
def k_X7_evening_61 : List mj_O := [(5, 4, 0, 0, []), (3, 4, 0, 0, []), (5, 5, 0, 0, []), (1, 0, 0, 0, []), (5, 6, 0, 0, []), (3, 4, 0, 0, []), (5, 7, 0, 0, [])]
theorem h_X7_evening_61 : mj_ch 7 cX7_evening 61 k_X7_evening_61 74 = true := by decide +kernel
def k_X7_evening_74 : List mj_O := [(3, 7, 0, 0, []), (3, 2, 0, 0, []), (1, 0, 0, 2, []), (39, 87, 0, 0, []), (1, 0, 0, 299, []), (42, 89, 0, 0, [])]
theorem h_X7_evening_74 : mj_ch 7 cX7_evening 74 k_X7_evening_74 87 = true := by decide +kernel
def k_X7_evening_87 : List mj_O := [(1, 0, 0, 20, [])]
theorem h_X7_evening_87 : mj_ch 7 cX7_evening 87 k_X7_evening_87 89 = true := by decide +kernel
def k_X7_evening_89 : List mj_O := [(40, 143, 0, 0, []), (4, 0, 0, 0, []), (51, 7, 1, 0, []), (3, 3, 0, 0, []), (3, 7, 0, 0, []), (61, 0, 0, 0, []), (4, 0, 0, 0, []), (4, 0, 0, 0, []), (3, 1, 0, 0, []), (1, 0, 0, 1, []), (70, 315, 0, 0, []), (70, 465, 0, 0, []), (5, 8, 0, 0, []), (3, 7, 0, 0, []), (3, 4, 0, 0, []), (41, 129, 0, 0, []), (3, 8, 0, 0, []), (3, 6, 0, 0, []), (40, 129, 0, 0, []), (42, 137, 0, 0, [])]
theorem h_X7_evening_89 : mj_ch 7 cX7_evening 89 k_X7_evening_89 129 = true := by decide +kernel
def k_X7_evening_129 : List mj_O := [(3, 7, 0, 0, []), (5, 5, 0, 0, []), (3, 8, 0, 0, []), (5, 6, 0, 0, [])]
theorem h_X7_evening_129 : mj_ch 7 cX7_evening 129 k_X7_evening_129 137 = true := by decide +kernel
def k_X7_evening_137 : List mj_O := [(7, 7, 0, 1, []), (42, 74, 0, 0, [])]
theorem h_X7_evening_137 : mj_ch 7 cX7_evening 137 k_X7_evening_137 143 = true := by decide +kernel
def k_X7_evening_143 : List mj_O := [(4, 0, 0, 0, []), (70, 492, 0, 0, []), (3, 2, 0, 0, []), (1, 0, 0, 2, []), (14, 0, 0, 0, []), (31, 158, 0, 0, []), (3, 5, 0, 0, []), (42, 160, 0, 0, [])]
theorem h_X7_evening_143 : mj_ch 7 cX7_evening 143 k_X7_evening_143 158 = true := by decide +kernel
def k_X7_evening_158 : List mj_O := [(3, 6, 0, 0, [])]
theorem h_X7_evening_158 : mj_ch 7 cX7_evening 158 k_X7_evening_158 160 = true := by decide +kernel
def k_X7_evening_160 : List mj_O := [(80, 0, 0, 0, [])]
theorem h_X7_evening_160 : mj_ch 7 cX7_evening 160 k_X7_evening_160 161 = true := by decide +kernel
def k_X7_often_0 : List mj_O := [(4, 0, 0, 0, []), (3, 1, 0, 0, []), (70, 306, 0, 0, []), (30, 18, 0, 0, []), (3, 2, 0, 0, []), (1, 0, 0, 0, []), (1, 0, 0, 9, []), (70, 161, 0, 0, []), (42, 19, 0, 0, [])]
theorem h_X7_often_0 : mj_ch 7 cX7_often 0 k_X7_often_0 18 = true := by decide +kernel
def k_X7_often_18 : List mj_O := [(1, 0, 0, (-1), [])]
theorem h_X7_often_18 : mj_ch 7 cX7_often 18 k_X7_often_18 19 = true := by decide +kernel
def k_X7_often_19 : List mj_O := [(5, 3, 0, 0, []), (3, 3, 0, 0, []), (30, 30, 0, 0, []), (4, 0, 0, 0, []), (3, 3, 0, 0, []), (70, 123, 0, 0, []), (80, 0, 0, 0, [])]
theorem h_X7_often_19 : mj_ch 7 cX7_often 19 k_X7_often_19 30 = true := by decide +kernel
def k_X7_often_30 : List mj_O := [(4, 0, 0, 0, []), (70, 483, 0, 0, []), (1, 0, 0, 0, []), (5, 4, 0, 0, []), (1, 0, 0, 0, []), (5, 5, 0, 0, [])]
theorem h_X7_often_30 : mj_ch 7 cX7_often 30 k_X7_often_30 40 = true := by decide +kernel
def k_X7_often_40 : List mj_O := [(3, 5, 0, 0, []), (1, 0, 0, 300, []), (39, 97, 0, 0, []), (4, 0, 0, 0, []), (51, 7, 1, 0, []), (1, 0, 0, 23, []), (1, 0, 0, 5, []), (3, 1, 0, 0, []), (12, 0, 0, 0, []), (10, 0, 0, 0, []), (1, 0, 0, 2, []), (10, 0, 0, 0, []), (3, 5, 0, 0, []), (61, 0, 0, 0, []), (4, 0, 0, 0, []), (4, 0, 0, 0, []), (3, 1, 0, 0, []), (1, 0, 0, 1, []), (70, 315, 0, 0, []), (70, 435, 0, 0, []), (3, 4, 0, 0, []), (4, 0, 0, 0, []), (50, 7, 13, 0, []), (3, 2, 0, 0, []), (38, 87, 0, 0, []), (1, 0, 0, 1, []), (42, 88, 0, 0, [])]
theorem h_X7_often_40 : mj_ch 7 cX7_often 40 k_X7_often_40 87 = true := by decide +kernel
def k_X7_often_87 : List mj_O := [(1, 0, 0, 0, [])]
theorem h_X7_often_87 : mj_ch 7 cX7_often 87 k_X7_often_87 88 = true := by decide +kernel
def k_X7_often_88 : List mj_O := [(10, 0, 0, 0, []), (5, 4, 0, 0, []), (7, 5, 0, 1, []), (42, 40, 0, 0, [])]
theorem h_X7_often_88 : mj_ch 7 cX7_often 88 k_X7_often_88 97 = true := by decide +kernel
def k_X7_often_97 : List mj_O := [(4, 0, 0, 0, []), (70, 492, 0, 0, []), (3, 4, 0, 0, []), (80, 0, 0, 0, [])]
theorem h_X7_often_97 : mj_ch 7 cX7_often 97 k_X7_often_97 104 = true := by decide +kernel
def k_X7_hearsBut_0 : List mj_O := [(4, 0, 0, 0, []), (1, 0, 0, 0, []), (52, 7, 15, 0, []), (1, 0, 0, 0, []), (5, 3, 0, 0, [])]
theorem h_X7_hearsBut_0 : mj_ch 7 cX7_hearsBut 0 k_X7_hearsBut_0 7 = true := by decide +kernel
def k_X7_hearsBut_7 : List mj_O := [(3, 3, 0, 0, []), (4, 0, 0, 0, []), (51, 7, 1, 0, []), (1, 0, 0, 0, []), (60, 0, 0, 0, []), (39, 35, 0, 0, []), (3, 3, 0, 0, []), (3, 1, 0, 0, []), (36, 29, 0, 0, []), (4, 0, 0, 0, []), (3, 3, 0, 0, []), (3, 2, 0, 0, []), (3, 1, 0, 0, []), (70, 423, 0, 0, [])]
theorem h_X7_hearsBut_7 : mj_ch 7 cX7_hearsBut 7 k_X7_hearsBut_7 29 = true := by decide +kernel
def k_X7_hearsBut_29 : List mj_O := [(7, 3, 0, 1, []), (42, 7, 0, 0, [])]
theorem h_X7_hearsBut_29 : mj_ch 7 cX7_hearsBut 29 k_X7_hearsBut_29 35 = true := by decide +kernel
def k_X7_hearsBut_35 : List mj_O := [(4, 0, 0, 0, []), (50, 7, 15, 0, []), (80, 0, 0, 0, [])]
theorem h_X7_hearsBut_35 : mj_ch 7 cX7_hearsBut 35 k_X7_hearsBut_35 40 = true := by decide +kernel
def k_X7_hears_0 : List mj_O := [(4, 0, 0, 0, []), (3, 1, 0, 0, []), (70, 255, 0, 0, []), (30, 18, 0, 0, []), (4, 0, 0, 0, []), (3, 1, 0, 0, []), (1, 0, 0, (-9), []), (70, 501, 0, 0, []), (42, 23, 0, 0, [])]
theorem h_X7_hears_0 : mj_ch 7 cX7_hears 0 k_X7_hears_0 18 = true := by decide +kernel
def k_X7_hears_18 : List mj_O := [(4, 0, 0, 0, []), (1, 0, 0, (-1), []), (70, 123, 0, 0, [])]
theorem h_X7_hears_18 : mj_ch 7 cX7_hears 18 k_X7_hears_18 23 = true := by decide +kernel
def k_X7_hears_23 : List mj_O := [(80, 0, 0, 0, [])]
theorem h_X7_hears_23 : mj_ch 7 cX7_hears 23 k_X7_hears_23 24 = true := by decide +kernel
def k_X7_silent_0 : List mj_O := [(4, 0, 0, 0, []), (3, 1, 0, 0, []), (70, 255, 0, 0, []), (31, 14, 0, 0, []), (4, 0, 0, 0, []), (1, 0, 0, (-1), []), (70, 123, 0, 0, []), (80, 0, 0, 0, [])]
theorem h_X7_silent_0 : mj_ch 7 cX7_silent 0 k_X7_silent_0 14 = true := by decide +kernel
def k_X7_silent_14 : List mj_O := [(4, 0, 0, 0, []), (3, 1, 0, 0, []), (1, 0, 0, (-9), []), (70, 501, 0, 0, []), (5, 2, 0, 0, []), (1, 0, 0, (-9), []), (5, 3, 0, 0, []), (1, 0, 0, 0, []), (5, 4, 0, 0, [])]
theorem h_X7_silent_14 : mj_ch 7 cX7_silent 14 k_X7_silent_14 28 = true := by decide +kernel
def k_X7_silent_28 : List mj_O := [(3, 4, 0, 0, []), (4, 0, 0, 0, []), (51, 7, 1, 0, []), (1, 0, 0, 1, []), (60, 0, 0, 0, []), (39, 81, 0, 0, []), (4, 0, 0, 0, []), (3, 4, 0, 0, []), (1, 0, 0, 1, []), (70, 315, 0, 0, []), (3, 1, 0, 0, []), (36, 75, 0, 0, []), (4, 0, 0, 0, []), (3, 1, 0, 0, []), (3, 4, 0, 0, []), (70, 501, 0, 0, []), (3, 2, 0, 0, []), (38, 64, 0, 0, []), (42, 75, 0, 0, [])]
theorem h_X7_silent_28 : mj_ch 7 cX7_silent 28 k_X7_silent_28 64 = true := by decide +kernel
def k_X7_silent_64 : List mj_O := [(3, 4, 0, 0, []), (5, 3, 0, 0, []), (4, 0, 0, 0, []), (3, 1, 0, 0, []), (3, 4, 0, 0, []), (70, 501, 0, 0, []), (5, 2, 0, 0, [])]
theorem h_X7_silent_64 : mj_ch 7 cX7_silent 64 k_X7_silent_64 75 = true := by decide +kernel
def k_X7_silent_75 : List mj_O := [(7, 4, 0, 1, []), (42, 28, 0, 0, [])]
theorem h_X7_silent_75 : mj_ch 7 cX7_silent 75 k_X7_silent_75 81 = true := by decide +kernel
def k_X7_silent_81 : List mj_O := [(3, 3, 0, 0, []), (80, 0, 0, 0, [])]
theorem h_X7_silent_81 : mj_ch 7 cX7_silent 81 k_X7_silent_81 83 = true := by decide +kernel
def k_X7_bet_0 : List mj_O := [(4, 0, 0, 0, []), (3, 1, 0, 0, []), (70, 255, 0, 0, []), (31, 14, 0, 0, []), (4, 0, 0, 0, []), (1, 0, 0, (-1), []), (70, 123, 0, 0, []), (80, 0, 0, 0, [])]
theorem h_X7_bet_0 : mj_ch 7 cX7_bet 0 k_X7_bet_0 14 = true := by decide +kernel
def k_X7_bet_14 : List mj_O := [(4, 0, 0, 0, []), (70, 483, 0, 0, []), (1, 0, 0, (-9), []), (5, 2, 0, 0, []), (1, 0, 0, 0, []), (5, 3, 0, 0, [])]
theorem h_X7_bet_14 : mj_ch 7 cX7_bet 14 k_X7_bet_14 23 = true := by decide +kernel
def k_X7_bet_23 : List mj_O := [(3, 3, 0, 0, []), (1, 0, 0, 100, []), (39, 65, 0, 0, []), (3, 2, 0, 0, []), (33, 65, 0, 0, []), (4, 0, 0, 0, []), (51, 7, 1, 0, []), (1, 0, 0, 4, []), (3, 3, 0, 0, []), (61, 0, 0, 0, []), (4, 0, 0, 0, []), (3, 1, 0, 0, []), (70, 435, 0, 0, []), (4, 0, 0, 0, []), (50, 7, 13, 0, []), (31, 56, 0, 0, []), (3, 3, 0, 0, []), (42, 58, 0, 0, [])]
theorem h_X7_bet_23 : mj_ch 7 cX7_bet 23 k_X7_bet_23 56 = true := by decide +kernel
def k_X7_bet_56 : List mj_O := [(1, 0, 0, (-9), [])]
theorem h_X7_bet_56 : mj_ch 7 cX7_bet 56 k_X7_bet_56 58 = true := by decide +kernel
def k_X7_bet_58 : List mj_O := [(5, 2, 0, 0, []), (7, 3, 0, 1, []), (42, 23, 0, 0, [])]
theorem h_X7_bet_58 : mj_ch 7 cX7_bet 58 k_X7_bet_58 65 = true := by decide +kernel
def k_X7_bet_65 : List mj_O := [(4, 0, 0, 0, []), (70, 492, 0, 0, []), (3, 2, 0, 0, []), (80, 0, 0, 0, [])]
theorem h_X7_bet_65 : mj_ch 7 cX7_bet 65 k_X7_bet_65 71 = true := by decide +kernel
def k_X7_leans_0 : List mj_O := [(4, 0, 0, 0, []), (3, 1, 0, 0, []), (70, 255, 0, 0, []), (30, 19, 0, 0, []), (3, 2, 0, 0, []), (1, 0, 0, 0, []), (1, 0, 0, 300, []), (70, 161, 0, 0, []), (42, 20, 0, 0, [])]
theorem h_X7_leans_0 : mj_ch 7 cX7_leans 0 k_X7_leans_0 19 = true := by decide +kernel
def k_X7_leans_19 : List mj_O := [(1, 0, 0, (-1), [])]
theorem h_X7_leans_19 : mj_ch 7 cX7_leans 19 k_X7_leans_19 20 = true := by decide +kernel
def k_X7_leans_20 : List mj_O := [(5, 3, 0, 0, []), (3, 3, 0, 0, []), (30, 31, 0, 0, []), (4, 0, 0, 0, []), (3, 3, 0, 0, []), (70, 123, 0, 0, []), (80, 0, 0, 0, [])]
theorem h_X7_leans_20 : mj_ch 7 cX7_leans 20 k_X7_leans_20 31 = true := by decide +kernel
def k_X7_leans_31 : List mj_O := [(4, 0, 0, 0, []), (70, 483, 0, 0, []), (1, 0, 0, 0, []), (5, 4, 0, 0, []), (1, 0, 0, 0, []), (5, 5, 0, 0, [])]
theorem h_X7_leans_31 : mj_ch 7 cX7_leans 31 k_X7_leans_31 41 = true := by decide +kernel
def k_X7_leans_41 : List mj_O := [(3, 5, 0, 0, []), (1, 0, 0, 30, []), (40, 95, 0, 0, []), (4, 0, 0, 0, []), (51, 7, 1, 0, []), (1, 0, 0, 7, []), (1, 0, 0, 4, []), (3, 1, 0, 0, []), (12, 0, 0, 0, []), (10, 0, 0, 0, []), (1, 0, 0, 3, []), (10, 0, 0, 0, []), (3, 5, 0, 0, []), (61, 0, 0, 0, []), (4, 0, 0, 0, []), (3, 1, 0, 0, []), (70, 435, 0, 0, []), (3, 4, 0, 0, []), (4, 0, 0, 0, []), (50, 7, 12, 0, []), (3, 2, 0, 0, []), (37, 85, 0, 0, []), (1, 0, 0, 1, []), (3, 5, 0, 0, []), (16, 0, 0, 0, []), (42, 86, 0, 0, [])]
theorem h_X7_leans_41 : mj_ch 7 cX7_leans 41 k_X7_leans_41 85 = true := by decide +kernel
def k_X7_leans_85 : List mj_O := [(1, 0, 0, 0, [])]
theorem h_X7_leans_85 : mj_ch 7 cX7_leans 85 k_X7_leans_85 86 = true := by decide +kernel
def k_X7_leans_86 : List mj_O := [(19, 0, 0, 0, []), (5, 4, 0, 0, []), (7, 5, 0, 1, []), (42, 41, 0, 0, [])]
theorem h_X7_leans_86 : mj_ch 7 cX7_leans 86 k_X7_leans_86 95 = true := by decide +kernel
def k_X7_leans_95 : List mj_O := [(4, 0, 0, 0, []), (70, 492, 0, 0, []), (3, 4, 0, 0, []), (80, 0, 0, 0, [])]
theorem h_X7_leans_95 : mj_ch 7 cX7_leans 95 k_X7_leans_95 102 = true := by decide +kernel
def k_X7_back_0 : List mj_O := [(4, 0, 0, 0, []), (3, 1, 0, 0, []), (70, 306, 0, 0, []), (30, 19, 0, 0, []), (3, 2, 0, 0, []), (1, 0, 0, 0, []), (1, 0, 0, 300, []), (70, 161, 0, 0, []), (42, 20, 0, 0, [])]
theorem h_X7_back_0 : mj_ch 7 cX7_back 0 k_X7_back_0 19 = true := by decide +kernel
def k_X7_back_19 : List mj_O := [(1, 0, 0, (-1), [])]
theorem h_X7_back_19 : mj_ch 7 cX7_back 19 k_X7_back_19 20 = true := by decide +kernel
def k_X7_back_20 : List mj_O := [(5, 3, 0, 0, []), (3, 3, 0, 0, []), (30, 31, 0, 0, []), (4, 0, 0, 0, []), (3, 3, 0, 0, []), (70, 123, 0, 0, []), (80, 0, 0, 0, [])]
theorem h_X7_back_20 : mj_ch 7 cX7_back 20 k_X7_back_20 31 = true := by decide +kernel
def k_X7_back_31 : List mj_O := [(4, 0, 0, 0, []), (70, 483, 0, 0, []), (1, 0, 0, (-9), []), (5, 4, 0, 0, []), (4, 0, 0, 0, []), (3, 1, 0, 0, []), (1, 0, 0, 2, []), (70, 315, 0, 0, []), (5, 5, 0, 0, []), (1, 0, 0, 0, []), (5, 6, 0, 0, [])]
theorem h_X7_back_31 : mj_ch 7 cX7_back 31 k_X7_back_31 50 = true := by decide +kernel
def k_X7_back_50 : List mj_O := [(3, 6, 0, 0, []), (1, 0, 0, 60, []), (40, 120, 0, 0, []), (3, 6, 0, 0, []), (3, 5, 0, 0, []), (40, 120, 0, 0, []), (3, 4, 0, 0, []), (33, 120, 0, 0, []), (4, 0, 0, 0, []), (51, 7, 1, 0, []), (1, 0, 0, 23, []), (1, 0, 0, 5, []), (3, 1, 0, 0, []), (12, 0, 0, 0, []), (10, 0, 0, 0, []), (1, 0, 0, 2, []), (10, 0, 0, 0, []), (3, 5, 0, 0, []), (3, 6, 0, 0, []), (11, 0, 0, 0, []), (61, 0, 0, 0, []), (4, 0, 0, 0, []), (4, 0, 0, 0, []), (3, 1, 0, 0, []), (1, 0, 0, 1, []), (70, 315, 0, 0, []), (70, 435, 0, 0, []), (4, 0, 0, 0, []), (50, 7, 12, 0, []), (3, 2, 0, 0, []), (37, 110, 0, 0, []), (3, 6, 0, 0, []), (42, 112, 0, 0, [])]
theorem h_X7_back_50 : mj_ch 7 cX7_back 50 k_X7_back_50 110 = true := by decide +kernel
def k_X7_back_110 : List mj_O := [(1, 0, 0, (-9), [])]
theorem h_X7_back_110 : mj_ch 7 cX7_back 110 k_X7_back_110 112 = true := by decide +kernel
def k_X7_back_112 : List mj_O := [(5, 4, 0, 0, []), (7, 6, 0, 1, []), (42, 50, 0, 0, [])]
theorem h_X7_back_112 : mj_ch 7 cX7_back 112 k_X7_back_112 120 = true := by decide +kernel
def k_X7_back_120 : List mj_O := [(4, 0, 0, 0, []), (70, 492, 0, 0, []), (3, 4, 0, 0, []), (80, 0, 0, 0, [])]
theorem h_X7_back_120 : mj_ch 7 cX7_back 120 k_X7_back_120 127 = true := by decide +kernel
def k_X7_moment_0 : List mj_O := [(4, 0, 0, 0, []), (3, 1, 0, 0, []), (70, 255, 0, 0, []), (31, 12, 0, 0, []), (1, 0, 0, (-1), []), (42, 47, 0, 0, [])]
theorem h_X7_moment_0 : mj_ch 7 cX7_moment 0 k_X7_moment_0 12 = true := by decide +kernel
def k_X7_moment_12 : List mj_O := [(3, 2, 0, 0, []), (32, 21, 0, 0, []), (3, 3, 0, 0, []), (1, 0, 0, 1, []), (39, 26, 0, 0, [])]
theorem h_X7_moment_12 : mj_ch 7 cX7_moment 12 k_X7_moment_12 21 = true := by decide +kernel
def k_X7_moment_21 : List mj_O := [(1, 0, 0, (-4), []), (42, 47, 0, 0, [])]
theorem h_X7_moment_21 : mj_ch 7 cX7_moment 21 k_X7_moment_21 26 = true := by decide +kernel
def k_X7_moment_26 : List mj_O := [(3, 3, 0, 0, []), (1, 0, 0, 30, []), (40, 41, 0, 0, []), (3, 2, 0, 0, []), (1, 0, 0, 300, []), (3, 3, 0, 0, []), (11, 0, 0, 0, []), (41, 46, 0, 0, [])]
theorem h_X7_moment_26 : mj_ch 7 cX7_moment 26 k_X7_moment_26 41 = true := by decide +kernel
def k_X7_moment_41 : List mj_O := [(1, 0, 0, (-6), []), (42, 47, 0, 0, [])]
theorem h_X7_moment_41 : mj_ch 7 cX7_moment 41 k_X7_moment_41 46 = true := by decide +kernel
def k_X7_moment_46 : List mj_O := [(1, 0, 0, 0, [])]
theorem h_X7_moment_46 : mj_ch 7 cX7_moment 46 k_X7_moment_46 47 = true := by decide +kernel
def k_X7_moment_47 : List mj_O := [(5, 4, 0, 0, []), (3, 4, 0, 0, []), (30, 61, 0, 0, []), (4, 0, 0, 0, []), (3, 4, 0, 0, []), (70, 123, 0, 0, []), (80, 0, 0, 0, [])]
theorem h_X7_moment_47 : mj_ch 7 cX7_moment 47 k_X7_moment_47 61 = true := by decide +kernel
def k_X7_moment_61 : List mj_O := [(3, 2, 0, 0, []), (5, 5, 0, 0, []), (3, 2, 0, 0, []), (1, 0, 0, 1, []), (10, 0, 0, 0, []), (5, 6, 0, 0, [])]
theorem h_X7_moment_61 : mj_ch 7 cX7_moment 61 k_X7_moment_61 69 = true := by decide +kernel
def k_X7_moment_69 : List mj_O := [(3, 6, 0, 0, []), (3, 2, 0, 0, []), (3, 3, 0, 0, []), (10, 0, 0, 0, []), (39, 104, 0, 0, []), (4, 0, 0, 0, []), (3, 1, 0, 0, []), (3, 6, 0, 0, []), (70, 342, 0, 0, []), (4, 0, 0, 0, []), (3, 1, 0, 0, []), (3, 5, 0, 0, []), (70, 342, 0, 0, []), (39, 98, 0, 0, []), (3, 6, 0, 0, []), (5, 5, 0, 0, [])]
theorem h_X7_moment_69 : mj_ch 7 cX7_moment 69 k_X7_moment_69 98 = true := by decide +kernel
def k_X7_moment_98 : List mj_O := [(7, 6, 0, 1, []), (42, 69, 0, 0, [])]
theorem h_X7_moment_98 : mj_ch 7 cX7_moment 98 k_X7_moment_98 104 = true := by decide +kernel
def k_X7_moment_104 : List mj_O := [(3, 5, 0, 0, []), (80, 0, 0, 0, [])]
theorem h_X7_moment_104 : mj_ch 7 cX7_moment 104 k_X7_moment_104 107 = true := by decide +kernel
def k_X7_tires_0 : List mj_O := [(4, 0, 0, 0, []), (51, 7, 1, 0, []), (1, 0, 0, 5, []), (60, 0, 0, 0, []), (4, 0, 0, 0, []), (50, 7, 13, 0, []), (1, 0, 0, 1, []), (41, 18, 0, 0, []), (1, 0, 0, 1, []), (42, 30, 0, 0, [])]
theorem h_X7_tires_0 : mj_ch 7 cX7_tires 0 k_X7_tires_0 18 = true := by decide +kernel
def k_X7_tires_18 : List mj_O := [(4, 0, 0, 0, []), (50, 7, 13, 0, []), (31, 29, 0, 0, []), (1, 0, 0, (-1), []), (42, 30, 0, 0, [])]
theorem h_X7_tires_18 : mj_ch 7 cX7_tires 18 k_X7_tires_18 29 = true := by decide +kernel
def k_X7_tires_29 : List mj_O := [(1, 0, 0, 0, [])]
theorem h_X7_tires_29 : mj_ch 7 cX7_tires 29 k_X7_tires_29 30 = true := by decide +kernel
def k_X7_tires_30 : List mj_O := [(10, 0, 0, 0, []), (5, 1, 0, 0, []), (4, 0, 0, 0, []), (51, 7, 1, 0, []), (1, 0, 0, 5, []), (3, 1, 0, 0, []), (33, 45, 0, 0, []), (1, 0, 0, 0, []), (42, 57, 0, 0, [])]
theorem h_X7_tires_30 : mj_ch 7 cX7_tires 30 k_X7_tires_30 45 = true := by decide +kernel
def k_X7_tires_45 : List mj_O := [(3, 1, 0, 0, []), (1, 0, 0, 9, []), (41, 56, 0, 0, []), (1, 0, 0, 9, []), (42, 57, 0, 0, [])]
theorem h_X7_tires_45 : mj_ch 7 cX7_tires 45 k_X7_tires_45 56 = true := by decide +kernel
def k_X7_tires_56 : List mj_O := [(3, 1, 0, 0, [])]
theorem h_X7_tires_56 : mj_ch 7 cX7_tires 56 k_X7_tires_56 57 = true := by decide +kernel
def k_X7_tires_57 : List mj_O := [(61, 0, 0, 0, []), (82, 0, 0, 0, [])]
theorem h_X7_tires_57 : mj_ch 7 cX7_tires 57 k_X7_tires_57 59 = true := by decide +kernel
def k_X7_night_0 : List mj_O := [(4, 0, 0, 0, []), (51, 7, 1, 0, []), (1, 0, 0, 0, []), (60, 0, 0, 0, []), (31, 16, 0, 0, []), (4, 0, 0, 0, []), (1, 0, 0, (-3), []), (70, 123, 0, 0, []), (80, 0, 0, 0, [])]
theorem h_X7_night_0 : mj_ch 7 cX7_night 0 k_X7_night_0 16 = true := by decide +kernel
def k_X7_night_16 : List mj_O := [(4, 0, 0, 0, []), (1, 0, 0, 0, []), (70, 435, 0, 0, []), (4, 0, 0, 0, []), (70, 510, 0, 0, []), (4, 0, 0, 0, []), (51, 7, 1, 0, []), (1, 0, 0, 6, []), (4, 0, 0, 0, []), (51, 7, 1, 0, []), (1, 0, 0, 6, []), (60, 0, 0, 0, []), (1, 0, 0, 1, []), (10, 0, 0, 0, []), (1, 0, 0, 7, []), (14, 0, 0, 0, []), (61, 0, 0, 0, []), (4, 0, 0, 0, []), (51, 7, 1, 0, []), (1, 0, 0, 6, []), (60, 0, 0, 0, []), (80, 0, 0, 0, [])]
theorem h_X7_night_16 : mj_ch 7 cX7_night 16 k_X7_night_16 52 = true := by decide +kernel
def k_X7_week_0 : List mj_O := [(4, 0, 0, 0, []), (3, 1, 0, 0, []), (70, 255, 0, 0, []), (30, 25, 0, 0, []), (3, 2, 0, 0, []), (4, 0, 0, 0, []), (51, 7, 1, 0, []), (1, 0, 0, 6, []), (60, 0, 0, 0, []), (38, 25, 0, 0, []), (3, 2, 0, 0, []), (1, 0, 0, 7, []), (38, 29, 0, 0, [])]
theorem h_X7_week_0 : mj_ch 7 cX7_week 0 k_X7_week_0 25 = true := by decide +kernel
def k_X7_week_25 : List mj_O := [(1, 0, 0, (-1), []), (42, 43, 0, 0, [])]
theorem h_X7_week_25 : mj_ch 7 cX7_week 25 k_X7_week_25 29 = true := by decide +kernel
def k_X7_week_29 : List mj_O := [(3, 3, 0, 0, []), (1, 0, 0, 3, []), (70, 149, 0, 0, []), (30, 41, 0, 0, []), (1, 0, 0, 0, []), (42, 43, 0, 0, [])]
theorem h_X7_week_29 : mj_ch 7 cX7_week 29 k_X7_week_29 41 = true := by decide +kernel
def k_X7_week_41 : List mj_O := [(1, 0, 0, (-2), [])]
theorem h_X7_week_41 : mj_ch 7 cX7_week 41 k_X7_week_41 43 = true := by decide +kernel
def k_X7_week_43 : List mj_O := [(5, 4, 0, 0, []), (3, 4, 0, 0, []), (30, 57, 0, 0, []), (4, 0, 0, 0, []), (3, 4, 0, 0, []), (70, 123, 0, 0, []), (80, 0, 0, 0, [])]
theorem h_X7_week_43 : mj_ch 7 cX7_week 43 k_X7_week_43 57 = true := by decide +kernel
def k_X7_week_57 : List mj_O := [(4, 0, 0, 0, []), (70, 483, 0, 0, []), (1, 0, 0, 0, []), (5, 5, 0, 0, []), (1, 0, 0, 0, []), (5, 6, 0, 0, []), (4, 0, 0, 0, []), (51, 7, 1, 0, []), (1, 0, 0, 6, []), (60, 0, 0, 0, []), (5, 7, 0, 0, [])]
theorem h_X7_week_57 : mj_ch 7 cX7_week 57 k_X7_week_57 76 = true := by decide +kernel
def k_X7_week_76 : List mj_O := [(3, 7, 0, 0, []), (3, 2, 0, 0, []), (40, 121, 0, 0, []), (4, 0, 0, 0, []), (51, 7, 1, 0, []), (1, 0, 0, 6, []), (3, 7, 0, 0, []), (61, 0, 0, 0, []), (4, 0, 0, 0, []), (3, 1, 0, 0, []), (70, 435, 0, 0, []), (4, 0, 0, 0, []), (50, 7, 13, 0, []), (5, 6, 0, 0, []), (3, 5, 0, 0, []), (4, 0, 0, 0, []), (50, 7, 13, 0, []), (10, 0, 0, 0, []), (5, 5, 0, 0, []), (4, 0, 0, 0, []), (70, 510, 0, 0, []), (7, 7, 0, 1, []), (42, 76, 0, 0, [])]
theorem h_X7_week_76 : mj_ch 7 cX7_week 76 k_X7_week_76 121 = true := by decide +kernel
def k_X7_week_121 : List mj_O := [(4, 0, 0, 0, []), (51, 7, 1, 0, []), (1, 0, 0, 5, []), (60, 0, 0, 0, []), (5, 7, 0, 0, []), (4, 0, 0, 0, []), (70, 492, 0, 0, []), (3, 3, 0, 0, []), (31, 142, 0, 0, []), (3, 6, 0, 0, []), (42, 154, 0, 0, [])]
theorem h_X7_week_121 : mj_ch 7 cX7_week 121 k_X7_week_121 142 = true := by decide +kernel
def k_X7_week_142 : List mj_O := [(3, 3, 0, 0, []), (1, 0, 0, 1, []), (37, 152, 0, 0, []), (3, 5, 0, 0, []), (42, 154, 0, 0, [])]
theorem h_X7_week_142 : mj_ch 7 cX7_week 142 k_X7_week_142 152 = true := by decide +kernel
def k_X7_week_152 : List mj_O := [(3, 7, 0, 0, [])]
theorem h_X7_week_152 : mj_ch 7 cX7_week 152 k_X7_week_152 154 = true := by decide +kernel
def k_X7_week_154 : List mj_O := [(80, 0, 0, 0, [])]
theorem h_X7_week_154 : mj_ch 7 cX7_week 154 k_X7_week_154 155 = true := by decide +kernel
def k_X7_row_0 : List mj_O := [(3, 1, 0, 0, []), (1, 0, 0, 0, []), (1, 0, 0, 300, []), (70, 161, 0, 0, []), (5, 2, 0, 0, []), (3, 2, 0, 0, []), (31, 25, 0, 0, []), (4, 0, 0, 0, []), (50, 7, 18, 0, []), (1, 0, 0, 8, []), (37, 25, 0, 0, []), (1, 0, 0, (-6), []), (5, 2, 0, 0, [])]
theorem h_X7_row_0 : mj_ch 7 cX7_row 0 k_X7_row_0 25 = true := by decide +kernel
def k_X7_row_25 : List mj_O := [(3, 2, 0, 0, []), (30, 35, 0, 0, []), (4, 0, 0, 0, []), (3, 2, 0, 0, []), (70, 123, 0, 0, []), (80, 0, 0, 0, [])]
theorem h_X7_row_25 : mj_ch 7 cX7_row 25 k_X7_row_25 35 = true := by decide +kernel
def k_X7_row_35 : List mj_O := [(4, 0, 0, 0, []), (51, 7, 17, 0, []), (4, 0, 0, 0, []), (50, 7, 18, 0, []), (3, 1, 0, 0, []), (61, 0, 0, 0, []), (4, 0, 0, 0, []), (21, 0, 0, 0, []), (50, 7, 18, 0, []), (1, 0, 0, 1, []), (10, 0, 0, 0, []), (52, 7, 18, 0, []), (4, 0, 0, 0, []), (50, 7, 18, 0, []), (80, 0, 0, 0, [])]
theorem h_X7_row_35 : mj_ch 7 cX7_row 35 k_X7_row_35 60 = true := by decide +kernel
def k_X7_wrongDay_0 : List mj_O := [(4, 0, 0, 0, []), (51, 7, 1, 0, []), (1, 0, 0, 5, []), (60, 0, 0, 0, []), (5, 2, 0, 0, []), (4, 0, 0, 0, []), (51, 7, 1, 0, []), (1, 0, 0, 6, []), (60, 0, 0, 0, []), (5, 3, 0, 0, []), (1, 0, 0, (-9), []), (5, 4, 0, 0, []), (1, 0, 0, 0, []), (5, 5, 0, 0, [])]
theorem h_X7_wrongDay_0 : mj_ch 7 cX7_wrongDay 0 k_X7_wrongDay_0 22 = true := by decide +kernel
def k_X7_wrongDay_22 : List mj_O := [(3, 5, 0, 0, []), (4, 0, 0, 0, []), (50, 7, 18, 0, []), (39, 93, 0, 0, []), (3, 4, 0, 0, []), (33, 93, 0, 0, []), (4, 0, 0, 0, []), (3, 1, 0, 0, []), (70, 435, 0, 0, []), (4, 0, 0, 0, []), (50, 7, 12, 0, []), (4, 0, 0, 0, []), (51, 7, 17, 0, []), (3, 5, 0, 0, []), (60, 0, 0, 0, []), (37, 60, 0, 0, []), (1, 0, 0, (-9), []), (42, 62, 0, 0, [])]
theorem h_X7_wrongDay_22 : mj_ch 7 cX7_wrongDay 22 k_X7_wrongDay_22 60 = true := by decide +kernel
def k_X7_wrongDay_60 : List mj_O := [(3, 5, 0, 0, [])]
theorem h_X7_wrongDay_60 : mj_ch 7 cX7_wrongDay 60 k_X7_wrongDay_60 62 = true := by decide +kernel
def k_X7_wrongDay_62 : List mj_O := [(5, 4, 0, 0, []), (4, 0, 0, 0, []), (70, 510, 0, 0, []), (4, 0, 0, 0, []), (51, 7, 1, 0, []), (1, 0, 0, 6, []), (4, 0, 0, 0, []), (51, 7, 1, 0, []), (1, 0, 0, 6, []), (60, 0, 0, 0, []), (1, 0, 0, 1, []), (10, 0, 0, 0, []), (1, 0, 0, 7, []), (14, 0, 0, 0, []), (61, 0, 0, 0, []), (7, 5, 0, 1, []), (42, 22, 0, 0, [])]
theorem h_X7_wrongDay_62 : mj_ch 7 cX7_wrongDay 62 k_X7_wrongDay_62 93 = true := by decide +kernel
def k_X7_wrongDay_93 : List mj_O := [(4, 0, 0, 0, []), (51, 7, 1, 0, []), (1, 0, 0, 5, []), (3, 2, 0, 0, []), (61, 0, 0, 0, []), (4, 0, 0, 0, []), (51, 7, 1, 0, []), (1, 0, 0, 6, []), (3, 3, 0, 0, []), (61, 0, 0, 0, []), (3, 4, 0, 0, []), (80, 0, 0, 0, [])]
theorem h_X7_wrongDay_93 : mj_ch 7 cX7_wrongDay 93 k_X7_wrongDay_93 111 = true := by decide +kernel
def k_X7_judge_0 : List mj_O := [(4, 0, 0, 0, []), (3, 1, 0, 0, []), (70, 255, 0, 0, []), (30, 16, 0, 0, []), (4, 0, 0, 0, []), (3, 1, 0, 0, []), (70, 528, 0, 0, []), (42, 21, 0, 0, [])]
theorem h_X7_judge_0 : mj_ch 7 cX7_judge 0 k_X7_judge_0 16 = true := by decide +kernel
def k_X7_judge_16 : List mj_O := [(4, 0, 0, 0, []), (1, 0, 0, (-1), []), (70, 123, 0, 0, [])]
theorem h_X7_judge_16 : mj_ch 7 cX7_judge 16 k_X7_judge_16 21 = true := by decide +kernel
def k_X7_judge_21 : List mj_O := [(80, 0, 0, 0, [])]
theorem h_X7_judge_21 : mj_ch 7 cX7_judge 21 k_X7_judge_21 22 = true := by decide +kernel
def k_X7_firms_0 : List mj_O := [(4, 0, 0, 0, []), (3, 1, 0, 0, []), (70, 255, 0, 0, []), (31, 12, 0, 0, []), (1, 0, 0, (-1), []), (42, 26, 0, 0, [])]
theorem h_X7_firms_0 : mj_ch 7 cX7_firms 0 k_X7_firms_0 12 = true := by decide +kernel
def k_X7_firms_12 : List mj_O := [(3, 2, 0, 0, []), (1, 0, 0, 2, []), (70, 149, 0, 0, []), (30, 24, 0, 0, []), (1, 0, 0, 0, []), (42, 26, 0, 0, [])]
theorem h_X7_firms_12 : mj_ch 7 cX7_firms 12 k_X7_firms_12 24 = true := by decide +kernel
def k_X7_firms_24 : List mj_O := [(1, 0, 0, (-2), [])]
theorem h_X7_firms_24 : mj_ch 7 cX7_firms 24 k_X7_firms_24 26 = true := by decide +kernel
def k_X7_firms_26 : List mj_O := [(5, 3, 0, 0, []), (3, 3, 0, 0, []), (30, 37, 0, 0, []), (4, 0, 0, 0, []), (3, 3, 0, 0, []), (70, 123, 0, 0, []), (80, 0, 0, 0, [])]
theorem h_X7_firms_26 : mj_ch 7 cX7_firms 26 k_X7_firms_26 37 = true := by decide +kernel
def k_X7_firms_37 : List mj_O := [(4, 0, 0, 0, []), (70, 483, 0, 0, []), (1, 0, 0, 0, []), (5, 4, 0, 0, []), (1, 0, 0, (-9), []), (5, 5, 0, 0, []), (1, 0, 0, 99, []), (5, 6, 0, 0, [])]
theorem h_X7_firms_37 : mj_ch 7 cX7_firms 37 k_X7_firms_37 52 = true := by decide +kernel
def k_X7_firms_52 : List mj_O := [(3, 6, 0, 0, []), (32, 89, 0, 0, []), (4, 0, 0, 0, []), (51, 7, 1, 0, []), (1, 0, 0, 4, []), (3, 6, 0, 0, []), (61, 0, 0, 0, []), (4, 0, 0, 0, []), (3, 1, 0, 0, []), (70, 528, 0, 0, []), (32, 76, 0, 0, []), (42, 83, 0, 0, [])]
theorem h_X7_firms_52 : mj_ch 7 cX7_firms 52 k_X7_firms_52 76 = true := by decide +kernel
def k_X7_firms_76 : List mj_O := [(7, 4, 0, 1, []), (3, 6, 0, 0, []), (5, 5, 0, 0, [])]
theorem h_X7_firms_76 : mj_ch 7 cX7_firms 76 k_X7_firms_76 83 = true := by decide +kernel
def k_X7_firms_83 : List mj_O := [(7, 6, 0, (-1), []), (42, 52, 0, 0, [])]
theorem h_X7_firms_83 : mj_ch 7 cX7_firms 83 k_X7_firms_83 89 = true := by decide +kernel
def k_X7_firms_89 : List mj_O := [(4, 0, 0, 0, []), (70, 492, 0, 0, []), (3, 2, 0, 0, []), (31, 102, 0, 0, []), (3, 4, 0, 0, []), (42, 104, 0, 0, [])]
theorem h_X7_firms_89 : mj_ch 7 cX7_firms 89 k_X7_firms_89 102 = true := by decide +kernel
def k_X7_firms_102 : List mj_O := [(3, 5, 0, 0, [])]
theorem h_X7_firms_102 : mj_ch 7 cX7_firms 102 k_X7_firms_102 104 = true := by decide +kernel
def k_X7_firms_104 : List mj_O := [(80, 0, 0, 0, [])]
theorem h_X7_firms_104 : mj_ch 7 cX7_firms 104 k_X7_firms_104 105 = true := by decide +kernel
def k_X7_clear_0 : List mj_O := [(4, 0, 0, 0, []), (50, 7, 18, 0, []), (5, 1, 0, 0, []), (4, 0, 0, 0, []), (1, 0, 0, 0, []), (52, 7, 18, 0, []), (3, 1, 0, 0, []), (80, 0, 0, 0, [])]
theorem h_X7_clear_0 : mj_ch 7 cX7_clear 0 k_X7_clear_0 12 = true := by decide +kernel
def k_X7_lots_0 : List mj_O := [(4, 0, 0, 0, []), (3, 1, 0, 0, []), (70, 255, 0, 0, []), (30, 18, 0, 0, []), (3, 2, 0, 0, []), (1, 0, 0, 1, []), (1, 0, 0, 30, []), (70, 161, 0, 0, []), (42, 19, 0, 0, [])]
theorem h_X7_lots_0 : mj_ch 7 cX7_lots 0 k_X7_lots_0 18 = true := by decide +kernel
def k_X7_lots_18 : List mj_O := [(1, 0, 0, (-1), [])]
theorem h_X7_lots_18 : mj_ch 7 cX7_lots 18 k_X7_lots_18 19 = true := by decide +kernel
def k_X7_lots_19 : List mj_O := [(5, 4, 0, 0, []), (3, 4, 0, 0, []), (30, 33, 0, 0, []), (4, 0, 0, 0, []), (3, 4, 0, 0, []), (70, 123, 0, 0, []), (80, 0, 0, 0, [])]
theorem h_X7_lots_19 : mj_ch 7 cX7_lots 19 k_X7_lots_19 33 = true := by decide +kernel
def k_X7_lots_33 : List mj_O := [(4, 0, 0, 0, []), (70, 483, 0, 0, []), (3, 3, 0, 0, []), (5, 5, 0, 0, []), (1, 0, 0, 0, []), (5, 6, 0, 0, []), (1, 0, 0, 0, []), (5, 7, 0, 0, [])]
theorem h_X7_lots_33 : mj_ch 7 cX7_lots 33 k_X7_lots_33 46 = true := by decide +kernel
def k_X7_lots_46 : List mj_O := [(3, 7, 0, 0, []), (3, 2, 0, 0, []), (39, 143, 0, 0, []), (1, 0, 0, 0, []), (5, 8, 0, 0, [])]
theorem h_X7_lots_46 : mj_ch 7 cX7_lots 46 k_X7_lots_46 55 = true := by decide +kernel
def k_X7_lots_55 : List mj_O := [(3, 8, 0, 0, []), (4, 0, 0, 0, []), (51, 7, 1, 0, []), (1, 0, 0, 1, []), (60, 0, 0, 0, []), (39, 123, 0, 0, []), (4, 0, 0, 0, []), (3, 8, 0, 0, []), (1, 0, 0, 1, []), (70, 315, 0, 0, []), (3, 1, 0, 0, []), (36, 80, 0, 0, []), (42, 117, 0, 0, [])]
theorem h_X7_lots_55 : mj_ch 7 cX7_lots 55 k_X7_lots_55 80 = true := by decide +kernel
def k_X7_lots_80 : List mj_O := [(3, 5, 0, 0, []), (1, 0, 0, 1664525, []), (12, 0, 0, 0, []), (1, 0, 0, 1013904223, []), (10, 0, 0, 0, []), (5, 5, 0, 0, []), (4, 0, 0, 0, []), (51, 7, 1, 0, []), (1, 0, 0, 23, []), (1, 0, 0, 5, []), (3, 8, 0, 0, []), (12, 0, 0, 0, []), (10, 0, 0, 0, []), (1, 0, 0, 2, []), (10, 0, 0, 0, []), (3, 5, 0, 0, []), (1, 0, 0, 2147483647, []), (18, 0, 0, 0, []), (1, 0, 0, 256, []), (13, 0, 0, 0, []), (1, 0, 0, 300, []), (14, 0, 0, 0, []), (61, 0, 0, 0, [])]
theorem h_X7_lots_80 : mj_ch 7 cX7_lots 80 k_X7_lots_80 117 = true := by decide +kernel
def k_X7_lots_117 : List mj_O := [(7, 8, 0, 1, []), (42, 55, 0, 0, [])]
theorem h_X7_lots_117 : mj_ch 7 cX7_lots 117 k_X7_lots_117 123 = true := by decide +kernel
def k_X7_lots_123 : List mj_O := [(4, 0, 0, 0, []), (3, 1, 0, 0, []), (70, 435, 0, 0, []), (3, 6, 0, 0, []), (4, 0, 0, 0, []), (50, 7, 13, 0, []), (10, 0, 0, 0, []), (5, 6, 0, 0, []), (7, 7, 0, 1, []), (42, 46, 0, 0, [])]
theorem h_X7_lots_123 : mj_ch 7 cX7_lots 123 k_X7_lots_123 143 = true := by decide +kernel
def k_X7_lots_143 : List mj_O := [(4, 0, 0, 0, []), (70, 492, 0, 0, []), (3, 6, 0, 0, []), (80, 0, 0, 0, [])]
theorem h_X7_lots_143 : mj_ch 7 cX7_lots 143 k_X7_lots_143 150 = true := by decide +kernel
def k_X7_image_0 : List mj_O := [(4, 0, 0, 0, []), (51, 7, 1, 0, []), (4, 0, 0, 0, []), (51, 7, 2, 0, []), (70, 137, 0, 0, []), (4, 0, 0, 0, []), (1, 0, 0, 1, []), (53, 7, 5, 0, []), (4, 0, 0, 0, []), (51, 7, 1, 0, []), (1, 0, 0, 6, []), (60, 0, 0, 0, []), (80, 0, 0, 0, [])]
theorem h_X7_image_0 : mj_ch 7 cX7_image 0 k_X7_image_0 24 = true := by decide +kernel
def k_X7_on_0 : List mj_O := [(4, 0, 0, 0, []), (50, 7, 5, 0, []), (31, 14, 0, 0, []), (4, 0, 0, 0, []), (1, 0, 0, (-3), []), (70, 123, 0, 0, []), (80, 0, 0, 0, [])]
theorem h_X7_on_0 : mj_ch 7 cX7_on 0 k_X7_on_0 14 = true := by decide +kernel
def k_X7_on_14 : List mj_O := [(4, 0, 0, 0, []), (51, 7, 2, 0, []), (4, 0, 0, 0, []), (51, 7, 1, 0, []), (70, 137, 0, 0, []), (4, 0, 0, 0, []), (51, 7, 1, 0, []), (1, 0, 0, 6, []), (60, 0, 0, 0, []), (80, 0, 0, 0, [])]
theorem h_X7_on_14 : mj_ch 7 cX7_on 14 k_X7_on_14 33 = true := by decide +kernel
def k_X7_count_0 : List mj_O := [(3, 1, 0, 0, []), (1, 0, 0, 10, []), (41, 22, 0, 0, []), (3, 1, 0, 0, []), (1, 0, 0, 17, []), (39, 22, 0, 0, []), (4, 0, 0, 0, []), (51, 7, 0, 0, []), (3, 1, 0, 0, []), (1, 0, 0, 10, []), (11, 0, 0, 0, []), (60, 0, 0, 0, []), (80, 0, 0, 0, [])]
theorem h_X7_count_0 : mj_ch 7 cX7_count 0 k_X7_count_0 22 = true := by decide +kernel
def k_X7_count_22 : List mj_O := [(1, 0, 0, 0, []), (5, 2, 0, 0, []), (3, 1, 0, 0, []), (43, 135, 0, 0, [(0, 80), (1, 80), (2, 80), (3, 87), (4, 116), (5, 116), (6, 116), (7, 116), (8, 125), (9, 130)])]
theorem h_X7_count_22 : mj_ch 7 cX7_count 22 k_X7_count_22 80 = true := by decide +kernel
def k_X7_count_80 : List mj_O := [(4, 0, 0, 0, []), (51, 7, 1, 0, []), (3, 1, 0, 0, []), (60, 0, 0, 0, []), (80, 0, 0, 0, [])]
theorem h_X7_count_80 : mj_ch 7 cX7_count 80 k_X7_count_80 87 = true := by decide +kernel
def k_X7_count_87 : List mj_O := [(1, 0, 0, 0, []), (5, 3, 0, 0, [])]
theorem h_X7_count_87 : mj_ch 7 cX7_count 87 k_X7_count_87 89 = true := by decide +kernel
def k_X7_count_89 : List mj_O := [(3, 3, 0, 0, []), (4, 0, 0, 0, []), (51, 7, 1, 0, []), (1, 0, 0, 2, []), (60, 0, 0, 0, []), (39, 114, 0, 0, []), (3, 2, 0, 0, []), (4, 0, 0, 0, []), (3, 3, 0, 0, []), (1, 0, 0, 0, []), (70, 324, 0, 0, []), (10, 0, 0, 0, []), (5, 2, 0, 0, []), (7, 3, 0, 1, []), (42, 89, 0, 0, [])]
theorem h_X7_count_89 : mj_ch 7 cX7_count 89 k_X7_count_89 114 = true := by decide +kernel
def k_X7_count_114 : List mj_O := [(3, 2, 0, 0, []), (80, 0, 0, 0, [])]
theorem h_X7_count_114 : mj_ch 7 cX7_count 114 k_X7_count_114 116 = true := by decide +kernel
def k_X7_count_116 : List mj_O := [(4, 0, 0, 0, []), (51, 7, 1, 0, []), (3, 1, 0, 0, []), (1, 0, 0, 1, []), (11, 0, 0, 0, []), (60, 0, 0, 0, []), (80, 0, 0, 0, [])]
theorem h_X7_count_116 : mj_ch 7 cX7_count 116 k_X7_count_116 125 = true := by decide +kernel
def k_X7_count_125 : List mj_O := [(4, 0, 0, 0, []), (50, 7, 18, 0, []), (80, 0, 0, 0, [])]
theorem h_X7_count_125 : mj_ch 7 cX7_count 125 k_X7_count_125 130 = true := by decide +kernel
def k_X7_count_130 : List mj_O := [(4, 0, 0, 0, []), (50, 7, 8, 0, []), (80, 0, 0, 0, [])]
theorem h_X7_count_130 : mj_ch 7 cX7_count 130 k_X7_count_130 135 = true := by decide +kernel
def k_X7_count_135 : List mj_O := [(1, 0, 0, (-9), []), (80, 0, 0, 0, [])]
theorem h_X7_count_135 : mj_ch 7 cX7_count 135 k_X7_count_135 138 = true := by decide +kernel
end
section
theorem mj_K_of {tA : Nat → ClassId} {t : Nat} (ht : t < 5) : ∃ q, (mj_ty tA)[t]? = some q := ⟨_, List.getElem?_eq_getElem ht⟩
def mj_tyC (c : Nat) : Nat → FieldType := [tyX0, tyX1, tyX2, tyX3, tyX4, tyX5, tyX6, tyX7].getD c tyX0
theorem mj_tyC_ok : ∀ {c : Nat}, c < 8 → ∀ k, k < (mj_cC c).2.2 → parseFieldDescriptor ((mj_cC c).2.1 k).2.2.1 = some (mj_tyC c k) := by
  intro c hc
  rcases (show c = 0 ∨ c = 1 ∨ c = 2 ∨ c = 3 ∨ c = 4 ∨ c = 5 ∨ c = 6 ∨ c = 7 by omega) with rfl | rfl | rfl | rfl | rfl | rfl | rfl | rfl
  · exact tyX0_ok
  · exact tyX1_ok
  · exact tyX2_ok
  · exact tyX3_ok
  · exact tyX4_ok
  · exact tyX5_ok
  · exact tyX6_ok
  · exact tyX7_ok
theorem mj_nmC : ∀ {c : Nat}, c < 8 → ∀ a, a < (mj_cC c).2.2 → ∀ b, b < (mj_cC c).2.2 → a ≠ b → ((mj_cC c).2.1 a).2.1 ≠ ((mj_cC c).2.1 b).2.1 := by
  intro c hc
  rcases (show c = 0 ∨ c = 1 ∨ c = 2 ∨ c = 3 ∨ c = 4 ∨ c = 5 ∨ c = 6 ∨ c = 7 by omega) with rfl | rfl | rfl | rfl | rfl | rfl | rfl | rfl
  · exact nmX0
  · exact nmX1
  · exact nmX2
  · exact nmX3
  · exact nmX4
  · exact nmX5
  · exact nmX6
  · exact nmX7
set_option maxRecDepth 100000 in
theorem mj_fdecl : ∀ c, c < 8 → ∀ j, j < (mj_cC c).2.2 → ((mj_cC c).2.1 j).1 = mj_on c := by decide +kernel
theorem mj_fsame {c j : Nat} (hc : c < 8) (hj : j < (mj_cC c).2.2) {s : State} {z} (h : s.fieldFound? ((mj_cC c).2.1 j).1 ((mj_cC c).2.1 j).2.1 ((mj_cC c).2.1 j).2.2.1 = some z) : s.fieldFound? (mj_on c) ((mj_cC c).2.1 j).2.1 ((mj_cC c).2.1 j).2.2.1 = some z := by
  rw [mj_fdecl c hc j hj] at h
  exact h
theorem mj_gl_ok : ∀ q ∈ mj_gl, q.2.2.1 < 10 := by decide +kernel
theorem mj_tq_of {i j : Nat} (h : (mj_st.map (·.1)).findIdx? (fun k => k == i) = some j) : j < 8 ∧ (mj_st.getD j (0, "")).1 = i := by
  obtain ⟨hj, h2, -⟩ := List.findIdx?_eq_some_iff_getElem.mp h
  have hj8 : j < 8 := hj
  refine ⟨hj8, ?_⟩
  have h3 := eq_of_beq h2
  rw [List.getElem_map] at h3
  rw [List.getD_eq_getElem?_getD, List.getElem?_eq_getElem hj8]
  exact h3
theorem mj_ak_all {a : Nat} (h : mj_ak a ≠ 9) : mj_ak a = 0 ∨ mj_ak a = 1 ∨ mj_ak a = 2 ∨ mj_ak a = 3 ∨ mj_ak a = 4 := by
  unfold mj_ak at h ⊢
  split
  · rename_i h1
    split
    · rename_i h2
      have := mj_sh_ar a h1 h2
      omega
    · rename_i h2
      split
      · omega
      · rename_i h3
        rw [if_pos h1, if_neg h2, if_neg h3] at h
        exact absurd rfl h
  · rename_i h1
    split
    · rename_i h2
      rw [if_neg h1, if_pos h2] at h
      exact absurd rfl h
    · rename_i h2
      split
      · omega
      · rename_i h3
        split
        · omega
        · rename_i h4
          rw [if_neg h1, if_neg h2, if_neg h3, if_neg h4] at h
          exact absurd rfl h
theorem mj_rt_mono {kind : Nat} {post : mj_V → mj_M → Prop} {r : mj_S} {k k' : mj_S → mj_M → Prop} (h : mj_rt kind post r k) (hk : ∀ r M, k r M → k' r M) : mj_rt kind post r k' := by
  unfold mj_rt at h ⊢
  split
  · exact fun M' z => hk _ _ (h M' z)
  · exact fun x M' z => hk _ _ (h x M' z)
  · rename_i h0 h1
    split at h
    · exact absurd rfl h0
    · exact absurd rfl h1
    · exact fun x M' z => hk _ _ (h x M' z)
theorem mj_inv_of {it : List (Nat × mj_C)} {i : Nat} {f : mj_C → Prop} (h : match it.lookup i with | some cl => f cl | none => False) : ∃ cl, it.lookup i = some cl ∧ f cl := by
  cases e : it.lookup i with
  | none => rw [e] at h; exact False.elim h
  | some cl => rw [e] at h; exact ⟨cl, rfl, h⟩
theorem mj_ls_of {pc : Nat} {f : Nat → Prop} {d : Int} {x : Int32} : ∀ {ps : List (Int × Int)}, (∀ q ∈ ps, 0 ≤ (pc : Int) + q.2 ∧ mj_okI q.1 = true) → 0 ≤ (pc : Int) + d → mj_sw (ps.map (fun q => (Int32.ofInt q.1, ((pc : Int) + q.2).toNat))) ((pc : Int) + d).toNat x f → ∃ t : Nat, (pc : Int) + Op.lookupswitch.offset ps d x.toInt = (t : Int) ∧ f t := by
  intro ps
  induction ps with
  | nil =>
    intro _ h1 h
    exact ⟨_, (Int.toNat_of_nonneg h1).symm, h⟩
  | cons q t ih =>
    intro h0 h1 h
    obtain ⟨a, o⟩ := q
    have hq := h0 _ List.mem_cons_self
    have ea := mj_okI_of hq.2
    by_cases ex : x = Int32.ofInt a
    · refine ⟨_, ?_, h.1 ex⟩
      rw [Op.lookupswitch.offset_cons, if_pos (by rw [ex, ea])]
      exact (Int.toNat_of_nonneg hq.1).symm
    · obtain ⟨u, h2, h3⟩ := ih (fun q hq => h0 q (List.mem_cons_of_mem _ hq)) h1 (h.2 ex)
      exact ⟨u, by rw [lv_osw ex ea]; exact h2, h3⟩
/-! the judgement of the mini machine, and its steps -/
section MJ
variable {p : Program} {l : Launch} {e : Env} {R : Room} {s : State} {m : MethodId} {args : Array Value} {below : List Frame} {meth : Method} {c : Code} {cells slots : Nat} {Q : State → Prop} {A : Nat → Prop} {D : va_G} {ad : Nat → Nat} {tA : Nat → ClassId} {nL : Nat} {cc : ByteArray} {own : Nat} {ret : Option FieldType}
def mj_P (p : Program) (l : Launch) (e : Env) (R : Room) (s : State) (m : MethodId) (args : Array Value) (below : List Frame) (meth : Method) (c : Code) (cells slots : Nat) (Q : State → Prop) (A : Nat → Prop) (D : va_G) (ad : Nat → Nat) (tA : Nat → ClassId) (nL : Nat) (pc : Nat) (L : mj_L) (st : mj_S) (M : mj_M) : Prop :=
  ∀ (H : Heap) (locs : List Loc) (ls : Array Slot), va_P D mj_cl (mj_w ad tA M) H → va_S A s.heap H locs → lv_has ls nL (mj_cL ad 0 L) → L.length = nL → W p l e R s m args below meth c H locs cells slots Q (F0 m pc ls (st.map (mj_cv ad)))
/-- what holds of a frame all along -/
def mj_cx (p : Program) (s : State) (m : MethodId) (args : Array Value) (meth : Method) (c : Code) (A : Nat → Prop) (D : va_G) (ad : Nat → Nat) (tA : Nat → ClassId) (nL : Nat) (cc : ByteArray) (ow : String) (ret : Option FieldType) (sx : mj_Sx) : Prop :=
  p.tables.exec = Jvm.exec ∧ c.code = cc ∧ c.maxLocals = nL ∧ s.vm.findClass ow = some m.cls ∧ (∀ w ∈ mj_gT, w.before args s = true) ∧ mj_E D ad tA A s s.heap ∧ mj_in ad ∧ (∀ k, k < 74 → A (ad k)) ∧ meth.sig.returnType = ret ∧ meth.locks = false ∧ (sx.1 = true → va_X (ad 400) sx.2.1 sx.2.2 s s.heap ∧ ad 400 < s.heap.size ∧ ¬ A (ad 400))
/-- a call can be made -/
def mj_Kb (p : Program) (l : Launch) (e : Env) (R : Room) (s : State) (m : MethodId) (args : Array Value) (below : List Frame) (meth : Method) (c : Code) (cells slots : Nat) (Q : State → Prop) (A : Nat → Prop) (D : va_G) (ad : Nat → Nat) (tA : Nat → ClassId) (nL : Nat) (cc : ByteArray) (key : Nat) (cl : mj_C) : Prop :=
  ∀ (i pc : Nat) (L : mj_L) (avs : List mj_V) (r : mj_S) (M : mj_M), ((key = 3 * i ∧ decode cc pc = .ok (.invokevirtual i, 3)) ∨ (key = 3 * i + 1 ∧ decode cc pc = .ok (.invokespecial i, 3)) ∨ (key = 3 * i + 2 ∧ decode cc pc = .ok (.invokestatic i, 3))) → avs.length = cl.1 → r.length ≤ 8 → cl.2.2.1 avs M → mj_rt cl.2.1 (cl.2.2.2 avs M) r (fun r' M' => mj_P p l e R s m args below meth c cells slots Q A D ad tA nL (pc + 3) L r' M') → mj_P p l e R s m args below meth c cells slots Q A D ad tA nL pc L (avs.reverse ++ r) M
/-- how it ends -/
def mj_Rb (p : Program) (l : Launch) (e : Env) (R : Room) (s : State) (m : MethodId) (args : Array Value) (below : List Frame) (meth : Method) (c : Code) (cells slots : Nat) (Q : State → Prop) (A : Nat → Prop) (D : va_G) (ad : Nat → Nat) (tA : Nat → ClassId) (cc : ByteArray) (rk : Nat) (Rt : mj_V → mj_M → Prop) : Prop :=
  (∀ (pc : Nat) (ls : Array Slot) (x : Int32) (M : mj_M) (H : Heap) (locs : List Loc), decode cc pc = .ok (.ireturn, 1) → (rk = 1 ∨ rk = 3) → (rk = 3 → x = 0 ∨ x = 1) → Rt (.inl x) M → va_P D mj_cl (mj_w ad tA M) H → va_S A s.heap H locs → W p l e R s m args below meth c H locs cells slots Q (F0 m pc ls [.int x])) ∧
  (∀ (pc : Nat) (ls : Array Slot) (x : Nat) (M : mj_M) (H : Heap) (locs : List Loc), decode cc pc = .ok (.areturn, 1) → rk = 2 → Rt (.inr x) M → va_P D mj_cl (mj_w ad tA M) H → va_S A s.heap H locs → W p l e R s m args below meth c H locs cells slots Q (F0 m pc ls [.ref (ad x)])) ∧
  (∀ (pc : Nat) (ls : Array Slot) (M : mj_M) (H : Heap) (locs : List Loc), decode cc pc = .ok (.return_, 1) → rk = 0 → Rt (.inl 0) M → va_P D mj_cl (mj_w ad tA M) H → va_S A s.heap H locs → W p l e R s m args below meth c H locs cells slots Q (F0 m pc ls []))

section Steps
variable {sx : mj_Sx} {pc : Nat} {L : mj_L} {st : mj_S} {M : mj_M}
theorem mj_tg_of {off : Int} {k : Nat} {X : mj_O → Prop} (hX : ¬ X mj_no) (h : X (mj_tg pc off k)) : ∃ t : Nat, (pc : Int) + off = (t : Int) ∧ X (k, t, 0, 0, []) := by
  unfold mj_tg at h
  split at h
  · exact ⟨_, (Int.toNat_of_nonneg (by assumption)).symm, h⟩
  · exact absurd h hX
theorem mj_okv {x : Int32} (h : x = 0 ∨ x = 1) : narrow .boolean (.int x) = .int x ∧ fits .boolean (.int x) = true := by
  rcases h with rfl | rfl <;> decide

set_option maxHeartbeats 4000000 in
set_option maxRecDepth 20000 in
theorem mj_step {it : List (Nat × mj_C)} {rk : Nat} {Rt : mj_V → mj_M → Prop} (cx : mj_cx p s m args meth c A D ad tA nL cc (mj_on own) ret sx) (hC : ∀ i cl, it.lookup i = some cl → mj_Kb p l e R s m args below meth c cells slots Q A D ad tA nL cc i cl) (hR : mj_Rb p l e R s m args below meth c cells slots Q A D ad tA cc rk Rt) {q : Instr × Nat} (hd : decode cc pc = .ok q) {k : mj_L → mj_S → mj_M → Prop} (hk : ∀ L' st' M', k L' st' M' → mj_P p l e R s m args below meth c cells slots Q A D ad tA nL (pc + q.2) L' st' M') (h : mj_X it rk sx (mj_P p l e R s m args below meth c cells slots Q A D ad tA nL) Rt (mj_tr own pc q) k L st M) : mj_P p l e R s m args below meth c cells slots Q A D ad tA nL pc L st M := by
  have no : ∀ (o : mj_O), o = mj_no → ¬ mj_X it rk sx (mj_P p l e R s m args below meth c cells slots Q A D ad tA nL) Rt o k L st M := fun o e z => by
    rw [e] at z
    exact z
  intro H locs ls hP hS hl hL
  obtain ⟨hx, hb, hml, hown, hts, hE, hI, hA, -, -, hX⟩ := cx
  obtain ⟨hK, hN, hRO⟩ := hE
  have hD : va_D A (mj_w ad tA M) := mj_wD hI hA
  unfold mj_tr at h
  split at h
  · rename_i z
    exact lv_iconst hx hb hd rfl (hk _ _ _ h _ _ _ hP hS hl hL)
  · rename_i z
    exact lv_bipush hx hb hd rfl (hk _ _ _ h _ _ _ hP hS hl hL)
  · rename_i z
    exact lv_sipush hx hb hd rfl (hk _ _ _ h _ _ _ hP hS hl hL)
  · rename_i i
    unfold mj_lc at h
    split at h
    · rename_i q hq
      obtain ⟨h1, h2, h3⟩ := mj_kq_of hq
      obtain ⟨q1, q2, q3⟩ := q
      dsimp only at h1 h2 h3 h
      subst h2; subst h3
      exact lv_ldc hx hb hown (hts _ (mj_kl_in h1)) hd (hk _ _ _ h _ _ _ hP hS hl hL)
    · split at h
      · rename_i ho
        split at h
        · rename_i j hj
          subst ho
          unfold mj_tq at hj
          have hj2 : j < 8 ∧ (mj_st.getD j (0, "")).1 = i := mj_tq_of hj
          have hz := hRO.2.2 j hj2.1
          rw [hj2.2] at hz
          exact va_ldcS hx hb hown hz hd (hk _ _ _ h _ _ _ hP hS hl hL)
        · exact absurd h (no _ rfl)
      · exact absurd h (no _ rfl)
  · rename_i n
    obtain ⟨x, hg, h⟩ := mj_li_of h
    have hm := hl.2.2 _ (mj_cL_g (i := 0) hg)
    rw [Nat.zero_add] at hm
    exact lv_iload_n hx hb hd rfl hm (hk _ _ _ h _ _ _ hP hS hl hL)
  · rename_i n
    obtain ⟨x, hg, h⟩ := mj_li_of h
    have hm := hl.2.2 _ (mj_cL_g (i := 0) hg)
    rw [Nat.zero_add] at hm
    exact lv_iload hx hb hd hm (hk _ _ _ h _ _ _ hP hS hl hL)
  · rename_i n
    obtain ⟨x, hg, h⟩ := mj_lr_of h
    have hm := hl.2.2 _ (mj_cL_g (i := 0) hg)
    rw [Nat.zero_add] at hm
    exact lv_aload_n hx hb hd rfl hm (hk _ _ _ h _ _ _ hP hS hl hL)
  · rename_i n
    obtain ⟨x, hg, h⟩ := mj_lr_of h
    have hm := hl.2.2 _ (mj_cL_g (i := 0) hg)
    rw [Nat.zero_add] at hm
    exact lv_aload hx hb hd hm (hk _ _ _ h _ _ _ hP hS hl hL)
  · rename_i n
    obtain ⟨x, r, rfl, h⟩ := mj_pi_of h
    obtain ⟨L1, h, h2, h3, h4⟩ := mj_so_of (ad := ad) (i := 0) h
    exact lv_istore_n hx hb hd rfl hl (by omega) rfl (fun ls1 hl1 => hk _ _ _ h _ _ _ hP hS (mj_has_so h4 hl1) (h2.trans hL))
  · rename_i n
    obtain ⟨x, r, rfl, h⟩ := mj_pi_of h
    obtain ⟨L1, h, h2, h3, h4⟩ := mj_so_of (ad := ad) (i := 0) h
    exact lv_istore hx hb hd hl (by omega) rfl (fun ls1 hl1 => hk _ _ _ h _ _ _ hP hS (mj_has_so h4 hl1) (h2.trans hL))
  · rename_i n
    obtain ⟨x, r, rfl, h⟩ := mj_pr_of h
    obtain ⟨L1, h, h2, h3, h4⟩ := mj_so_of (ad := ad) (i := 0) h
    exact lv_astore_n hx hb hd rfl hl (by omega) rfl (fun ls1 hl1 => hk _ _ _ h _ _ _ hP hS (mj_has_so h4 hl1) (h2.trans hL))
  · rename_i n
    obtain ⟨x, r, rfl, h⟩ := mj_pr_of h
    obtain ⟨L1, h, h2, h3, h4⟩ := mj_so_of (ad := ad) (i := 0) h
    exact lv_astore hx hb hd hl (by omega) rfl (fun ls1 hl1 => hk _ _ _ h _ _ _ hP hS (mj_has_so h4 hl1) (h2.trans hL))
  · rename_i n z
    obtain ⟨x, hg, h⟩ := mj_li_of h
    obtain ⟨L1, h, h2, h3, h4⟩ := mj_so_of (ad := ad) (i := 0) h
    have hm := mj_cL_g (ad := ad) (i := 0) hg
    rw [Nat.zero_add] at hm
    obtain ⟨kk, hkk⟩ := List.getElem?_of_mem hm
    exact lv_iinc hx hb hd hl hkk rfl (by omega) rfl (fun ls1 hl1 => hk _ _ _ h _ _ _ hP hS (mj_has_so h4 hl1) (h2.trans hL))
  · obtain ⟨y, r, rfl, h⟩ := mj_pi_of h
    obtain ⟨x, r, rfl, h⟩ := mj_pi_of h
    exact lv_iadd hx hb hd (hk _ _ _ h _ _ _ hP hS hl hL)
  · obtain ⟨y, r, rfl, h⟩ := mj_pi_of h
    obtain ⟨x, r, rfl, h⟩ := mj_pi_of h
    exact lv_isub hx hb hd (hk _ _ _ h _ _ _ hP hS hl hL)
  · obtain ⟨y, r, rfl, h⟩ := mj_pi_of h
    obtain ⟨x, r, rfl, h⟩ := mj_pi_of h
    exact lv_imul hx hb hd (hk _ _ _ h _ _ _ hP hS hl hL)
  · obtain ⟨y, r, rfl, h⟩ := mj_pi_of h
    obtain ⟨x, r, rfl, hy, h⟩ := mj_pi_of h
    exact lv_idiv hx hb hd hy (hk _ _ _ h _ _ _ hP hS hl hL)
  · obtain ⟨y, r, rfl, h⟩ := mj_pi_of h
    obtain ⟨x, r, rfl, hy, h⟩ := mj_pi_of h
    exact lv_irem hx hb hd hy (hk _ _ _ h _ _ _ hP hS hl hL)
  · obtain ⟨y, r, rfl, h⟩ := mj_pi_of h
    exact lv_ineg hx hb hd (hk _ _ _ h _ _ _ hP hS hl hL)
  · obtain ⟨y, r, rfl, h⟩ := mj_pi_of h
    obtain ⟨x, r, rfl, h⟩ := mj_pi_of h
    exact lv_ishl hx hb hd (hk _ _ _ h _ _ _ hP hS hl hL)
  · obtain ⟨y, r, rfl, h⟩ := mj_pi_of h
    obtain ⟨x, r, rfl, h⟩ := mj_pi_of h
    exact lv_ishr hx hb hd (hk _ _ _ h _ _ _ hP hS hl hL)
  · obtain ⟨y, r, rfl, h⟩ := mj_pi_of h
    obtain ⟨x, r, rfl, h⟩ := mj_pi_of h
    exact lv_iand hx hb hd (hk _ _ _ h _ _ _ hP hS hl hL)
  · obtain ⟨y, r, rfl, h⟩ := mj_pi_of h
    obtain ⟨x, r, rfl, h⟩ := mj_pi_of h
    exact lv_ior hx hb hd (hk _ _ _ h _ _ _ hP hS hl hL)
  · obtain ⟨y, r, rfl, h⟩ := mj_pi_of h
    exact lv_i2c hx hb hd rfl (hk _ _ _ h _ _ _ hP hS hl hL)
  · obtain ⟨y, r, rfl, h⟩ := mj_pv_of h
    exact lv_dup hx hb hd (mj_cv_cat y) (hk _ _ _ h _ _ _ hP hS hl hL)
  · obtain ⟨y, r, rfl, h⟩ := mj_pv_of h
    obtain ⟨x, r, rfl, h⟩ := mj_pv_of h
    exact lv_dup2_11 hx hb hd (mj_cv_cat y) (mj_cv_cat x) (hk _ _ _ h _ _ _ hP hS hl hL)
  · obtain ⟨y, r, rfl, h⟩ := mj_pv_of h
    exact lv_pop hx hb hd (mj_cv_cat y) (hk _ _ _ h _ _ _ hP hS hl hL)
  · rename_i o
    obtain ⟨t, ht, h⟩ := mj_tg_of (X := fun o => mj_X it rk sx (mj_P p l e R s m args below meth c cells slots Q A D ad tA nL) Rt o k L st M) (no _ rfl) h
    obtain ⟨x, r, rfl, h⟩ := mj_pi_of h
    exact lv_if_eq hx hb hd ht (fun z => h.1 z _ _ _ hP hS hl hL) (fun z => hk _ _ _ (h.2 z) _ _ _ hP hS hl hL)
  · rename_i o
    obtain ⟨t, ht, h⟩ := mj_tg_of (X := fun o => mj_X it rk sx (mj_P p l e R s m args below meth c cells slots Q A D ad tA nL) Rt o k L st M) (no _ rfl) h
    obtain ⟨x, r, rfl, h⟩ := mj_pi_of h
    exact lv_if_ne hx hb hd ht (fun z => h.1 z _ _ _ hP hS hl hL) (fun z => hk _ _ _ (h.2 z) _ _ _ hP hS hl hL)
  · rename_i o
    obtain ⟨t, ht, h⟩ := mj_tg_of (X := fun o => mj_X it rk sx (mj_P p l e R s m args below meth c cells slots Q A D ad tA nL) Rt o k L st M) (no _ rfl) h
    obtain ⟨x, r, rfl, h⟩ := mj_pi_of h
    exact lv_if_lt hx hb hd ht (fun z => h.1 z _ _ _ hP hS hl hL) (fun z => hk _ _ _ (h.2 z) _ _ _ hP hS hl hL)
  · rename_i o
    obtain ⟨t, ht, h⟩ := mj_tg_of (X := fun o => mj_X it rk sx (mj_P p l e R s m args below meth c cells slots Q A D ad tA nL) Rt o k L st M) (no _ rfl) h
    obtain ⟨x, r, rfl, h⟩ := mj_pi_of h
    exact lv_if_ge hx hb hd ht (fun z => h.1 (Int32.not_lt.mpr z) _ _ _ hP hS hl hL) (fun z => hk _ _ _ (h.2 (Int32.not_le.mp z)) _ _ _ hP hS hl hL)
  · rename_i o
    obtain ⟨t, ht, h⟩ := mj_tg_of (X := fun o => mj_X it rk sx (mj_P p l e R s m args below meth c cells slots Q A D ad tA nL) Rt o k L st M) (no _ rfl) h
    obtain ⟨x, r, rfl, h⟩ := mj_pi_of h
    exact lv_if_gt hx hb hd ht (fun z => h.1 z _ _ _ hP hS hl hL) (fun z => hk _ _ _ (h.2 z) _ _ _ hP hS hl hL)
  · rename_i o
    obtain ⟨t, ht, h⟩ := mj_tg_of (X := fun o => mj_X it rk sx (mj_P p l e R s m args below meth c cells slots Q A D ad tA nL) Rt o k L st M) (no _ rfl) h
    obtain ⟨x, r, rfl, h⟩ := mj_pi_of h
    exact lv_if_le hx hb hd ht (fun z => h.1 (Int32.not_lt.mpr z) _ _ _ hP hS hl hL) (fun z => hk _ _ _ (h.2 (Int32.not_le.mp z)) _ _ _ hP hS hl hL)
  · rename_i o
    obtain ⟨t, ht, h⟩ := mj_tg_of (X := fun o => mj_X it rk sx (mj_P p l e R s m args below meth c cells slots Q A D ad tA nL) Rt o k L st M) (no _ rfl) h
    obtain ⟨y, r, rfl, h⟩ := mj_pi_of h
    obtain ⟨x, r, rfl, h⟩ := mj_pi_of h
    exact lv_icmp_eq hx hb hd ht (fun z => h.1 z _ _ _ hP hS hl hL) (fun z => hk _ _ _ (h.2 z) _ _ _ hP hS hl hL)
  · rename_i o
    obtain ⟨t, ht, h⟩ := mj_tg_of (X := fun o => mj_X it rk sx (mj_P p l e R s m args below meth c cells slots Q A D ad tA nL) Rt o k L st M) (no _ rfl) h
    obtain ⟨y, r, rfl, h⟩ := mj_pi_of h
    obtain ⟨x, r, rfl, h⟩ := mj_pi_of h
    exact lv_icmp_ne hx hb hd ht (fun z => h.1 z _ _ _ hP hS hl hL) (fun z => hk _ _ _ (h.2 z) _ _ _ hP hS hl hL)
  · rename_i o
    obtain ⟨t, ht, h⟩ := mj_tg_of (X := fun o => mj_X it rk sx (mj_P p l e R s m args below meth c cells slots Q A D ad tA nL) Rt o k L st M) (no _ rfl) h
    obtain ⟨y, r, rfl, h⟩ := mj_pi_of h
    obtain ⟨x, r, rfl, h⟩ := mj_pi_of h
    exact lv_icmp_lt hx hb hd ht (fun z => h.1 z _ _ _ hP hS hl hL) (fun z => hk _ _ _ (h.2 z) _ _ _ hP hS hl hL)
  · rename_i o
    obtain ⟨t, ht, h⟩ := mj_tg_of (X := fun o => mj_X it rk sx (mj_P p l e R s m args below meth c cells slots Q A D ad tA nL) Rt o k L st M) (no _ rfl) h
    obtain ⟨y, r, rfl, h⟩ := mj_pi_of h
    obtain ⟨x, r, rfl, h⟩ := mj_pi_of h
    exact lv_icmp_ge hx hb hd ht (fun z => h.1 (Int32.not_lt.mpr z) _ _ _ hP hS hl hL) (fun z => hk _ _ _ (h.2 (Int32.not_le.mp z)) _ _ _ hP hS hl hL)
  · rename_i o
    obtain ⟨t, ht, h⟩ := mj_tg_of (X := fun o => mj_X it rk sx (mj_P p l e R s m args below meth c cells slots Q A D ad tA nL) Rt o k L st M) (no _ rfl) h
    obtain ⟨y, r, rfl, h⟩ := mj_pi_of h
    obtain ⟨x, r, rfl, h⟩ := mj_pi_of h
    exact lv_icmp_gt hx hb hd ht (fun z => h.1 z _ _ _ hP hS hl hL) (fun z => hk _ _ _ (h.2 z) _ _ _ hP hS hl hL)
  · rename_i o
    obtain ⟨t, ht, h⟩ := mj_tg_of (X := fun o => mj_X it rk sx (mj_P p l e R s m args below meth c cells slots Q A D ad tA nL) Rt o k L st M) (no _ rfl) h
    obtain ⟨y, r, rfl, h⟩ := mj_pi_of h
    obtain ⟨x, r, rfl, h⟩ := mj_pi_of h
    exact lv_icmp_le hx hb hd ht (fun z => h.1 (Int32.not_lt.mpr z) _ _ _ hP hS hl hL) (fun z => hk _ _ _ (h.2 (Int32.not_le.mp z)) _ _ _ hP hS hl hL)
  · rename_i o
    obtain ⟨t, ht, h⟩ := mj_tg_of (X := fun o => mj_X it rk sx (mj_P p l e R s m args below meth c cells slots Q A D ad tA nL) Rt o k L st M) (no _ rfl) h
    exact lv_goto hx hb hd ht (h _ _ _ hP hS hl hL)
  · rename_i d lo hi offs len
    unfold mj_tsw at h
    split at h
    · rename_i hg
      simp only [Bool.and_eq_true, decide_eq_true_eq, List.all_eq_true] at hg
      obtain ⟨g1, g2, g3, g4, g5⟩ := hg
      obtain ⟨x, r, rfl, h⟩ := mj_pi_of h
      have elo := mj_okI_of g3
      have ehi := mj_okI_of g4
      unfold mj_okI at g3 g4
      simp only [Bool.and_eq_true, decide_eq_true_eq] at g3 g4
      have ez : ∀ z : Int, lo ≤ z → z ≤ hi → (Int32.ofInt z).toInt = z := fun z h1 h2 => mj_okI_of (by unfold mj_okI; simp only [Bool.and_eq_true, decide_eq_true_eq]; omega)
      rcases mj_sw_of h with ⟨q, hq, ex, h⟩ | ⟨hq, h⟩
      · obtain ⟨i, hi2, rfl⟩ := List.mem_map.mp hq
        have hi3 := List.mem_range.mp hi2
        have hxi : x.toInt = lo + (i : Int) := by rw [ex]; exact ez _ (by omega) (by omega)
        have hat : offs[i]? = some (offs.toList.getD i 0) := by
          rw [List.getD_eq_getElem?_getD, Array.getElem?_toList]
          rw [Array.getElem?_eq_getElem hi3]
          rfl
        have hge := g2 (offs.toList.getD i 0) (by rw [List.getD_eq_getElem?_getD, Array.getElem?_toList, Array.getElem?_eq_getElem hi3]; exact Array.getElem_mem_toList hi3)
        exact lv_tableIn hx hb hd (by omega) (by omega) (off := offs.toList.getD i 0) (by rw [hxi, show (lo + (i : Int) - lo).toNat = i by omega]; exact hat) (Int.toNat_of_nonneg hge).symm (h _ _ _ hP hS hl hL)
      · refine lv_tableOut hx hb hd ?_ (Int.toNat_of_nonneg g1).symm (h _ _ _ hP hS hl hL)
        rcases Int.lt_or_le x.toInt lo with h1 | h1
        · exact Or.inl h1
        · rcases Int.lt_or_le hi x.toInt with h2 | h2
          · exact Or.inr h2
          · refine absurd ?_ (hq _ (List.mem_map.mpr ⟨(x.toInt - lo).toNat, List.mem_range.mpr (by omega), rfl⟩))
            show x = Int32.ofInt (lo + ((x.toInt - lo).toNat : Int))
            rw [show lo + ((x.toInt - lo).toNat : Int) = x.toInt by omega]
            exact (Int32.ofInt_toInt x).symm
    · exact absurd h (no _ rfl)
  · rename_i d ps len
    unfold mj_lsw at h
    split at h
    · rename_i hg
      simp only [Bool.and_eq_true, decide_eq_true_eq] at hg
      obtain ⟨g1, g2, g3⟩ := hg
      obtain ⟨x, r, rfl, h⟩ := mj_pi_of h
      have h2 := mj_ls_of (d := d) (x := x) (fun q hq => by have := List.all_eq_true.mp g2 q hq; simp only [Bool.and_eq_true, decide_eq_true_eq] at this; exact this) g1 h
      obtain ⟨t, h3, h4⟩ := h2
      exact lv_lookup hx hb hd g3 rfl h3 (h4 _ _ _ hP hS hl hL)
    · exact absurd h (no _ rfl)
  · rename_i i
    unfold mj_gf at h
    split at h
    · rename_i q hq
      obtain ⟨h1, h2, h3⟩ := mj_fq_of hq
      have hok := mj_fl_ok q h1
      obtain ⟨q1, q2, q3, q4, q5⟩ := q
      dsimp only at h1 h2 h3 h hok
      subst h2; subst h3
      obtain ⟨ok1, ok2, ok3⟩ := hok
      split at h
      · rename_i hrf
        obtain ⟨a, r, rfl, ho, h⟩ := mj_pr_of h
        obtain ⟨ha, hsh⟩ := mj_ob_of ho ok2
        have he := mj_wk (ad := ad) (tA := tA) (M := M) ha
        rw [mj_ce_ob hsh] at he
        have hv : ((List.range (mj_cC q3).2.2).map (mj_fv ad M a q3))[q4]? = some (.ref (ad (mj_pt a q4))) := by simp [List.getElem?_map, List.getElem?_range ok3, mj_fv, hrf]
        cases q5 with
        | false => exact va_get hx hb hts (mj_ly ok2) hown hK hP a he (mj_cl_at ok2) q4 ok3 (hts _ (mj_fl_in h1)) (fun z hz => mj_fsame ok2 ok3 hz) hv hd (hk _ _ _ h _ _ _ hP hS hl hL)
        | true => exact va_getN hx hb hts (mj_ly ok2) hown hK hP a he (mj_cl_at ok2) q4 ok3 (va_Nw.use rfl (hN _ (mj_fl_nw h1))) (fun z hz => mj_fsame ok2 ok3 hz) hv hd (hk _ _ _ h _ _ _ hP hS hl hL)
      · rename_i hrf
        obtain ⟨a, r, rfl, ho, h⟩ := mj_pr_of h
        obtain ⟨ha, hsh⟩ := mj_ob_of ho ok2
        have he := mj_wk (ad := ad) (tA := tA) (M := M) ha
        rw [mj_ce_ob hsh] at he
        have hv : ((List.range (mj_cC q3).2.2).map (mj_fv ad M a q3))[q4]? = some (.int (M a q4)) := by simp [List.getElem?_map, List.getElem?_range ok3, mj_fv, hrf]
        cases q5 with
        | false => exact va_get hx hb hts (mj_ly ok2) hown hK hP a he (mj_cl_at ok2) q4 ok3 (hts _ (mj_fl_in h1)) (fun z hz => mj_fsame ok2 ok3 hz) hv hd (hk _ _ _ h _ _ _ hP hS hl hL)
        | true => exact va_getN hx hb hts (mj_ly ok2) hown hK hP a he (mj_cl_at ok2) q4 ok3 (va_Nw.use rfl (hN _ (mj_fl_nw h1))) (fun z hz => mj_fsame ok2 ok3 hz) hv hd (hk _ _ _ h _ _ _ hP hS hl hL)
    · exact absurd h (no _ rfl)
  · rename_i i
    unfold mj_pf at h
    split at h
    · rename_i q hq
      obtain ⟨h1, h2, h3⟩ := mj_fq_of hq
      have hok := mj_fl_ok q h1
      have hty := mj_fl_ty q h1
      obtain ⟨q1, q2, q3, q4, q5⟩ := q
      dsimp only at h1 h2 h3 h hok hty
      subst h2; subst h3
      obtain ⟨ok1, ok2, ok3⟩ := hok
      split at h
      · exact absurd h (no _ rfl)
      · rename_i hrf
        have hrf2 : mj_rf q3 q4 = false := by simpa using hrf
        have hty2 := hty.resolve_left hrf
        split at h
        · rename_i hbf
          rw [if_pos hbf] at hty2
          obtain ⟨x, r, rfl, h⟩ := mj_pi_of h
          obtain ⟨a, r, rfl, ho, hx01, h⟩ := mj_pr_of h
          obtain ⟨ha, hsh⟩ := mj_ob_of ho ok2
          have he := mj_wk (ad := ad) (tA := tA) (M := M) ha
          rw [mj_ce_ob hsh] at he
          have hnar := mj_okv hx01
          have hpd : parseFieldDescriptor ((mj_cC q3).2.1 q4).2.2.1 = some .boolean := by rw [hty2.2]; decide +kernel
          cases q5 with
          | false => exact va_put hx hb hts (mj_ly ok2) (mj_tyC q3) (mj_tyC_ok ok2) (mj_nmC ok2) hown hK hP hD hS a he (mj_cl_at ok2) q4 ok3 (hts _ (mj_fl_in h1)) (fun z hz => mj_fsame ok2 ok3 hz) hty2.1 (v := .int x) hpd hnar.1 hnar.2 (by simpa using ok3) hd (fun H1 locs1 hP1 hD1 hS1 => hk _ _ _ h _ _ _ (by rw [mj_fs_set hrf2, mj_ws (M' := mj_up M a q4 x) (mj_ce_ob hsh) (fun i hi => mj_ce_o (mj_up_o hi))] at hP1; exact hP1) hS1 hl hL)
          | true => exact va_putN hx hb hts (mj_ly ok2) (mj_tyC q3) (mj_tyC_ok ok2) (mj_nmC ok2) hown hK hP hD hS a he (mj_cl_at ok2) q4 ok3 (va_Nw.use rfl (hN _ (mj_fl_nw h1))) (fun z hz => mj_fsame ok2 ok3 hz) hty2.1 (v := .int x) hpd hnar.1 hnar.2 (by simpa using ok3) hd (fun H1 locs1 hP1 hD1 hS1 => hk _ _ _ h _ _ _ (by rw [mj_fs_set hrf2, mj_ws (M' := mj_up M a q4 x) (mj_ce_ob hsh) (fun i hi => mj_ce_o (mj_up_o hi))] at hP1; exact hP1) hS1 hl hL)
        · rename_i hbf
          rw [if_neg hbf] at hty2
          obtain ⟨x, r, rfl, h⟩ := mj_pi_of h
          obtain ⟨a, r, rfl, ho, h⟩ := mj_pr_of h
          obtain ⟨ha, hsh⟩ := mj_ob_of ho ok2
          have he := mj_wk (ad := ad) (tA := tA) (M := M) ha
          rw [mj_ce_ob hsh] at he
          have hnar : narrow .int (.int x) = .int x ∧ fits .int (.int x) = true := ⟨rfl, rfl⟩
          have hpd : parseFieldDescriptor ((mj_cC q3).2.1 q4).2.2.1 = some .int := by rw [hty2.2]; decide +kernel
          cases q5 with
          | false => exact va_put hx hb hts (mj_ly ok2) (mj_tyC q3) (mj_tyC_ok ok2) (mj_nmC ok2) hown hK hP hD hS a he (mj_cl_at ok2) q4 ok3 (hts _ (mj_fl_in h1)) (fun z hz => mj_fsame ok2 ok3 hz) hty2.1 (v := .int x) hpd hnar.1 hnar.2 (by simpa using ok3) hd (fun H1 locs1 hP1 hD1 hS1 => hk _ _ _ h _ _ _ (by rw [mj_fs_set hrf2, mj_ws (M' := mj_up M a q4 x) (mj_ce_ob hsh) (fun i hi => mj_ce_o (mj_up_o hi))] at hP1; exact hP1) hS1 hl hL)
          | true => exact va_putN hx hb hts (mj_ly ok2) (mj_tyC q3) (mj_tyC_ok ok2) (mj_nmC ok2) hown hK hP hD hS a he (mj_cl_at ok2) q4 ok3 (va_Nw.use rfl (hN _ (mj_fl_nw h1))) (fun z hz => mj_fsame ok2 ok3 hz) hty2.1 (v := .int x) hpd hnar.1 hnar.2 (by simpa using ok3) hd (fun H1 locs1 hP1 hD1 hS1 => hk _ _ _ h _ _ _ (by rw [mj_fs_set hrf2, mj_ws (M' := mj_up M a q4 x) (mj_ce_ob hsh) (fun i hi => mj_ce_o (mj_up_o hi))] at hP1; exact hP1) hS1 hl hL)
    · exact absurd h (no _ rfl)
  · rename_i i
    unfold mj_gs at h
    split at h
    · rename_i q hq
      obtain ⟨h1, h2, h3⟩ := mj_gq_of hq
      have hok := mj_gl_ok q h1
      obtain ⟨q1, q2, q3, q4⟩ := q
      dsimp only at h1 h2 h3 h hok
      subst h2; subst h3
      have hz := (hRO.1 q3 hok).1
      cases q4 with
      | false => exact va_gets hx hb hz hS hown (hts _ (mj_gl_in h1)) (fun z hz => hz) hd (hk _ _ _ h _ _ _ hP hS hl hL)
      | true => exact va_getsN hx hb hz hS hown (va_Nw.use rfl (hN _ (mj_gl_nw h1))) (fun z hz => hz) hd (hk _ _ _ h _ _ _ hP hS hl hL)
    · exact absurd h (no _ rfl)
  · obtain ⟨i, r, rfl, h⟩ := mj_pi_of h
    obtain ⟨a, r, rfl, hak, hin, h⟩ := mj_pr_of h
    rcases hak with hak | hak | ⟨hak, hsx⟩
    · obtain ⟨ha, s1, s2, s3⟩ := mj_ak_i hak
      have he := mj_wk (ad := ad) (tA := tA) (M := M) ha
      rw [mj_ce_ar (t := 0) (n := (mj_sh a).2.2) (Prod.ext s1 (Prod.ext s2 rfl))] at he
      unfold mj_ln at hin
      rw [if_neg s3] at hin
      unfold mj_cq at h
      rw [if_neg s3, if_neg (by omega : ¬ 100 ≤ a)] at h
      exact va_iald hx hb hK hP a 0 he rfl hin hd (hk _ _ _ h _ _ _ hP hS hl hL)
    · have hak2 := mj_ak_s hak
      unfold mj_ln at hin
      rw [if_neg (by omega)] at hin
      unfold mj_cq at h
      rw [if_neg (by omega), if_pos hak2.1] at h
      have hz := (hRO.1 (a - 100) (by omega)).2
      rw [show 100 + (a - 100) = a by omega] at hz
      exact va_ti hx hb hz hS hin rfl hd (hk _ _ _ h _ _ _ hP hS hl hL)
    · have hak2 := mj_ak_l hak
      subst hak2
      unfold mj_ln at hin
      rw [if_pos rfl] at hin
      unfold mj_cq at h
      rw [if_pos rfl] at h
      obtain ⟨hX1, hX2, hX3⟩ := hX hsx
      exact va_sld hx hb hX1 hX2 hX3 hS hin hd (hk _ _ _ h _ _ _ hP hS hl hL)
  · obtain ⟨x, r, rfl, h⟩ := mj_pi_of h
    obtain ⟨i, r, rfl, h⟩ := mj_pi_of h
    obtain ⟨a, r, rfl, hak, hin, h⟩ := mj_pr_of h
    obtain ⟨ha, s1, s2, s3⟩ := mj_ak_i hak
    have he := mj_wk (ad := ad) (tA := tA) (M := M) ha
    have hsh : mj_sh a = (1, 0, (mj_sh a).2.2) := Prod.ext s1 (Prod.ext s2 rfl)
    rw [mj_ce_ar hsh] at he
    unfold mj_ln at hin
    rw [if_neg s3] at hin
    exact va_iast hx hb hK hP hD hS a 0 he rfl hin hd (fun H1 locs1 hP1 hD1 hS1 => hk _ _ _ h _ _ _ (by rw [mj_ws (M' := mj_up M a i.toNatClampNeg x) (by rw [mj_ce_ar hsh, mj_up_s]) (fun i hi => mj_ce_o (mj_up_o hi))] at hP1; exact hP1) hS1 hl hL)
  · obtain ⟨i, r, rfl, h⟩ := mj_pi_of h
    obtain ⟨a, r, rfl, hak, hin, h⟩ := mj_pr_of h
    obtain ⟨ha, s1, s2, s3⟩ := mj_ak_c hak
    have he := mj_wk (ad := ad) (tA := tA) (M := M) ha
    rw [mj_ce_ar (t := 1) (n := (mj_sh a).2.2) (Prod.ext s1 (Prod.ext s2 rfl))] at he
    unfold mj_ln at hin
    rw [if_neg s3] at hin
    exact va_cald hx hb hK hP a 1 he rfl hin hd (hk _ _ _ h _ _ _ hP hS hl hL)
  · obtain ⟨x, r, rfl, h⟩ := mj_pi_of h
    obtain ⟨i, r, rfl, h⟩ := mj_pi_of h
    obtain ⟨a, r, rfl, hak, hin, h⟩ := mj_pr_of h
    obtain ⟨ha, s1, s2, s3⟩ := mj_ak_c hak
    have he := mj_wk (ad := ad) (tA := tA) (M := M) ha
    have hsh : mj_sh a = (1, 1, (mj_sh a).2.2) := Prod.ext s1 (Prod.ext s2 rfl)
    rw [mj_ce_ar hsh] at he
    unfold mj_ln at hin
    rw [if_neg s3] at hin
    exact va_cast hx hb hK hP hD hS a 1 he rfl hin hd (fun H1 locs1 hP1 hD1 hS1 => hk _ _ _ h _ _ _ (by rw [mj_ws (M' := mj_up M a i.toNatClampNeg (vp_nar .char x)) (by rw [mj_ce_ar hsh, mj_up_s]) (fun i hi => mj_ce_o (mj_up_o hi))] at hP1; exact hP1) hS1 hl hL)
  · obtain ⟨i, r, rfl, h⟩ := mj_pi_of h
    obtain ⟨a, r, rfl, hak, hin, h⟩ := mj_pr_of h
    obtain ⟨ha, s1, s3⟩ := mj_ak_r hak
    have he := mj_wk (ad := ad) (tA := tA) (M := M) ha
    have s2 := mj_sh_ra a ha s1
    unfold mj_ln at hin
    rw [if_neg s3] at hin
    rcases s2 with s2 | s2 | s2
    · rw [mj_ce_ra (t := 2) (n := (mj_sh a).2.2) (Prod.ext s1 (Prod.ext s2 rfl))] at he
      exact va_aldq hx hb hK hP a 2 he rfl hin hd (hk _ _ _ h _ _ _ hP hS hl hL)
    · rw [mj_ce_ra (t := 3) (n := (mj_sh a).2.2) (Prod.ext s1 (Prod.ext s2 rfl))] at he
      exact va_aldq hx hb hK hP a 3 he rfl hin hd (hk _ _ _ h _ _ _ hP hS hl hL)
    · rw [mj_ce_ra (t := 4) (n := (mj_sh a).2.2) (Prod.ext s1 (Prod.ext s2 rfl))] at he
      exact va_aldq hx hb hK hP a 4 he rfl hin hd (hk _ _ _ h _ _ _ hP hS hl hL)
  · obtain ⟨a, r, rfl, hak, hsx, h⟩ := mj_pr_of h
    have h9 : mj_ak a = 0 ∨ mj_ak a = 1 ∨ mj_ak a = 2 ∨ mj_ak a = 3 ∨ mj_ak a = 4 := mj_ak_all hak
    rcases h9 with h9 | h9 | h9 | h9 | h9
    · obtain ⟨ha, s1, s2, s3⟩ := mj_ak_i h9
      have he := mj_wk (ad := ad) (tA := tA) (M := M) ha
      rw [mj_ce_ar (t := 0) (n := (mj_sh a).2.2) (Prod.ext s1 (Prod.ext s2 rfl))] at he
      unfold mj_ln at h
      rw [if_neg s3] at h
      exact va_alen hx hb hK hP a 0 he (ty := .int) rfl rfl hd (hk _ _ _ h _ _ _ hP hS hl hL)
    · obtain ⟨ha, s1, s2, s3⟩ := mj_ak_c h9
      have he := mj_wk (ad := ad) (tA := tA) (M := M) ha
      rw [mj_ce_ar (t := 1) (n := (mj_sh a).2.2) (Prod.ext s1 (Prod.ext s2 rfl))] at he
      unfold mj_ln at h
      rw [if_neg s3] at h
      exact va_alen hx hb hK hP a 1 he (ty := .char) rfl rfl hd (hk _ _ _ h _ _ _ hP hS hl hL)
    · obtain ⟨ha, s1, s3⟩ := mj_ak_r h9
      have he := mj_wk (ad := ad) (tA := tA) (M := M) ha
      have s2 := mj_sh_ra a ha s1
      unfold mj_ln at h
      rw [if_neg s3] at h
      obtain ⟨⟨z1, z2⟩, hz⟩ := mj_K_of (tA := tA) (t := (mj_sh a).2.1) (by omega)
      have hz1 : z1 = tA (mj_sh a).2.1 := by rcases s2 with s2 | s2 | s2 <;> (rw [s2] at hz ⊢; cases hz; rfl)
      subst hz1
      rw [mj_ce_ra (t := (mj_sh a).2.1) (n := (mj_sh a).2.2) (Prod.ext s1 rfl)] at he
      exact va_alen hx hb hK hP a (mj_sh a).2.1 he hz rfl hd (hk _ _ _ h _ _ _ hP hS hl hL)
    · have hak2 := mj_ak_s h9
      unfold mj_ln at h
      rw [if_neg (by omega)] at h
      have hz := (hRO.1 (a - 100) (by omega)).2
      rw [show 100 + (a - 100) = a by omega] at hz
      exact va_tlen hx hb hz hS rfl hd (hk _ _ _ h _ _ _ hP hS hl hL)
    · have hak2 := mj_ak_l h9
      subst hak2
      unfold mj_ln at h
      rw [if_pos rfl] at h
      obtain ⟨hX1, hX2, hX3⟩ := hX (hsx h9)
      exact va_slen hx hb hX1 hX2 hX3 hS hd (hk _ _ _ h _ _ _ hP hS hl hL)
  · rename_i i
    have h0 := h
    obtain ⟨cl, hcl, h⟩ := mj_inv_of h
    obtain ⟨as, r, rfl, h1, h2, h3, h4⟩ := mj_ta_of h
    rw [List.append_nil] at h3 h4
    exact hC _ cl hcl i pc L as r M (Or.inl ⟨rfl, hd⟩) h1 h2 h3 (mj_rt_mono h4 (fun r1 M1 z => hk _ _ _ z)) H locs ls hP hS hl hL
  · rename_i i
    have h0 := h
    obtain ⟨cl, hcl, h⟩ := mj_inv_of h
    obtain ⟨as, r, rfl, h1, h2, h3, h4⟩ := mj_ta_of h
    rw [List.append_nil] at h3 h4
    exact hC _ cl hcl i pc L as r M (Or.inr (Or.inl ⟨rfl, hd⟩)) h1 h2 h3 (mj_rt_mono h4 (fun r1 M1 z => hk _ _ _ z)) H locs ls hP hS hl hL
  · rename_i i
    have h0 := h
    obtain ⟨cl, hcl, h⟩ := mj_inv_of h
    obtain ⟨as, r, rfl, h1, h2, h3, h4⟩ := mj_ta_of h
    rw [List.append_nil] at h3 h4
    exact hC _ cl hcl i pc L as r M (Or.inr (Or.inr ⟨rfl, hd⟩)) h1 h2 h3 (mj_rt_mono h4 (fun r1 M1 z => hk _ _ _ z)) H locs ls hP hS hl hL
  · obtain ⟨x, r, rfl, rfl, h0, h1, h2⟩ := mj_pi_of h
    exact hR.1 pc ls x M H locs hd h0 h1 h2 hP hS
  · obtain ⟨x, r, rfl, rfl, h1, h2⟩ := mj_pr_of h
    exact hR.2.1 pc ls x M H locs hd h1 h2 hP hS
  · obtain ⟨rfl, h1, h2⟩ := h
    exact hR.2.2 pc ls M H locs hd h1 h2 hP hS
  · exact absurd h (no _ rfl)
end Steps
end MJ
end
section
/-! contracts over the mini machine -/
def mj_rm (n : Nat) : Room := { frames := n, cells := 0, slots := 0, locals := 40 * n }
def mj_ov (ad : Nat → Nat) (kind : Nat) (v : mj_V) : Option Value := if kind = 0 then none else some (mj_cv ad v)
def mj_vk (kind : Nat) (v : mj_V) : Prop := match kind with
  | 0 => v = .inl 0
  | 1 => ∃ x : Int32, v = .inl x
  | _ => ∃ a : Nat, v = .inr a
def mj_Q (D : va_G) (ad : Nat → Nat) (tA : Nat → ClassId) (kind : Nat) (post : mj_V → mj_M → Prop) : Array Value → State → Outcome → State → Prop := fun _ st o t =>
  ∃ (v : mj_V) (M' : mj_M), o = .returned (mj_ov ad kind v) ∧ mj_vk kind v ∧ post v M' ∧ va_P D mj_cl (mj_w ad tA M') t.heap ∧ va_F (mj_A ad) st t
def mj_Pc (D : va_G) (ad : Nat → Nat) (tA : Nat → ClassId) (avs : List mj_V) (M : mj_M) : Array Value → State → Prop := fun v U =>
  v = (avs.map (mj_cv ad)).toArray ∧ va_P D mj_cl (mj_w ad tA M) U.heap ∧ mj_E D ad tA (mj_A ad) U U.heap
/-- the contract of a method: its code, locals, answer, level, and what it does -/
def mj_T (y : MethodName) (cc : ByteArray) (nL : Nat) (ret : Option FieldType) (n : Nat) (cl : mj_C) : Prop :=
  ∀ (l : Launch) (D : va_G) (ad : Nat → Nat) (tA : Nat → ClassId), mj_in ad → ∀ (avs : List mj_V) (M : mj_M), avs.length = cl.1 → cl.2.2.1 avs M →
    Met l y (Cond.code y cc nL ret :: mj_gT) (mj_rm n) (mj_Pc D ad tA avs M) (mj_Q D ad tA cl.2.1 (cl.2.2.2 avs M)) 0 0 (mj_A ad)
theorem mj_RO_moved {ad : Nat → Nat} {A : Nat → Prop} {u U : State} {H : Heap} (hvm : u.vm.Alike U.vm) (hk : ∀ i : Nat, i < 8 → vk_R RX5 (mj_st.getD i (0, "")).1 (mj_st.getD i (0, "")).2 (ad (200 + i)) u → vk_R RX5 (mj_st.getD i (0, "")).1 (mj_st.getD i (0, "")).2 (ad (200 + i)) U) (h : mj_RO ad A u H) : mj_RO ad A U H :=
  ⟨fun t ht => ⟨(h.1 t ht).1.moved hvm, (h.1 t ht).2.moved hvm⟩, h.2.1.moved hvm, fun i hi => hk i hi (h.2.2 i hi)⟩
theorem mj_E_to {D : va_G} {ad : Nat → Nat} {tA : Nat → ClassId} {A : Nat → Prop} {s U : State} {H : Heap} {locs : List Loc} (h : mj_E D ad tA A s s.heap) (hS : va_S A s.heap H locs) (hA : ∀ k, k < 74 → A (ad k)) (hU : U.heap = H) (hW : s.WarmedH U.vm) : mj_E D ad tA (mj_A ad) U U.heap := by
  have hAA : ∀ q, mj_A ad q → A q := fun q ⟨k, hk, e⟩ => e ▸ hA k hk
  refine ⟨va_K.moved hW.alike h.1, fun w hw => ?_, mj_RO_moved hW.alike (fun i _ z => vk_R.warm hW z) ?_⟩
  · have h1 := h.2.1 w hw
    have h2 := (List.mem_filter.mp hw).2
    cases w with
    | fieldLinkNest a i b n d g => exact va_Nw.warmF hW h1
    | methodLinkNest a i x g => exact va_Nw.warmM hW h1
    | _ => exact absurd h2 Bool.false_ne_true
  · rw [hU]
    obtain ⟨r1, r2, r3⟩ := h.2.2
    exact ⟨fun t ht => ⟨((r1 t ht).1.kept hS.2.1).narrow hAA, ((r1 t ht).2.kept hS.2.1).narrow hAA⟩, (r2.kept hS.2.1).narrow hAA, r3⟩
theorem mj_blind {D : va_G} {ad : Nat → Nat} {tA : Nat → ClassId} {avs : List mj_V} {M : mj_M} : FrameBlind (mj_Pc D ad tA avs M) := by
  intro a U g mk h
  obtain ⟨h1, h2, h3, h4, h5⟩ := h
  exact ⟨h1, h2, va_K.moved (u := U) (U := U.calling g mk a) (Vm.Alike.refl U.vm) h3, fun w hw => by
      have h6 := h4 w hw
      have h7 := (List.mem_filter.mp hw).2
      cases w with
      | fieldLinkNest a i b n d g => exact va_Nw.same rfl rfl h6
      | methodLinkNest a i x g => exact va_Nw.same rfl rfl h6
      | _ => exact absurd h7 Bool.false_ne_true, mj_RO_moved (u := U) (U := U.calling g mk a) (Vm.Alike.refl U.vm) (fun i _ z => vk_R.same rfl z) h5⟩
theorem mj_catsum {ad : Nat → Nat} (r : mj_S) : ((r.map (mj_cv ad)).map fun v => v.category).sum = r.length := by
  induction r with
  | nil => rfl
  | cons v r ih =>
    simp only [List.map_cons, List.sum_cons, List.length_cons, mj_cv_cat]
    rw [ih]
    omega
section MJ2
variable {p : Program} {l : Launch} {e : Env} {R : Room} {s : State} {m : MethodId} {args : Array Value} {below : List Frame} {meth : Method} {c : Code} {cells slots : Nat} {Q : State → Prop} {A : Nat → Prop} {D : va_G} {ad : Nat → Nat} {tA : Nat → ClassId} {nL : Nat} {cc : ByteArray} {own : Nat} {ret : Option FieldType}
theorem mj_blk {sx : mj_Sx} {it : List (Nat × mj_C)} {rk : Nat} {Rt : mj_V → mj_M → Prop} (cx : mj_cx p s m args meth c A D ad tA nL cc (mj_on own) ret sx) (hC : ∀ i cl, it.lookup i = some cl → mj_Kb p l e R s m args below meth c cells slots Q A D ad tA nL cc i cl) (hR : mj_Rb p l e R s m args below meth c cells slots Q A D ad tA cc rk Rt) : ∀ (lst : List mj_O) (pc ed : Nat) (L : mj_L) (st : mj_S) (M : mj_M), mj_ch own cc pc lst ed = true → mj_W it rk sx (mj_P p l e R s m args below meth c cells slots Q A D ad tA nL) Rt lst ed L st M → mj_P p l e R s m args below meth c cells slots Q A D ad tA nL pc L st M := by
  intro lst
  induction lst with
  | nil =>
    intro pc ed L st M h h2
    have e1 : pc = ed := eq_of_beq h
    rw [e1]
    exact h2
  | cons o t ih =>
    intro pc ed L st M h h2
    unfold mj_ch at h
    split at h
    · rename_i q hq
      simp only [Bool.and_eq_true, decide_eq_true_eq] at h
      refine mj_step (k := mj_W it rk sx (mj_P p l e R s m args below meth c cells slots Q A D ad tA nL) Rt t ed) cx hC hR hq (fun L1 st1 M1 z => ih _ _ _ _ _ h.2 z) ?_
      rw [h.1]
      exact h2
    · cases h
theorem mj_call {kind mc ms : Nat} {post : mj_V → mj_M → Prop} {H : Heap} {locs : List Loc} {pc : Nat} {ls : Array Slot} {st0 rest : List Value} {a : Array Value} (hm : mc = 0) (hms : ms = 0)
    (hr : va_Run p l e R s m args below meth c H locs cells slots mc ms (F0 m pc ls st0) rest (mj_Q D ad tA kind post a) (mj_A ad)) (hS : va_S A s.heap H locs) (hA : ∀ k, k < 74 → A (ad k))
    (kk : ∀ (v : mj_V) (M' : mj_M) (H1 : Heap) (locs1 : List Loc), mj_vk kind v → post v M' → va_P D mj_cl (mj_w ad tA M') H1 → va_S A s.heap H1 locs1 → W p l e R s m args below meth c H1 locs1 cells slots Q (F0 m (pc + 3) ls ((mj_ov ad kind v).toList ++ rest))) : W p l e R s m args below meth c H locs cells slots Q (F0 m pc ls st0) := by
  subst hm; subst hms
  have hAA : ∀ q, mj_A ad q → A q := fun q ⟨k, hk, e⟩ => e ▸ hA k hk
  intro T hT X
  obtain ⟨v, st₀, t, T', L, h0, X', hL, e1, e2, ⟨w, M', hv, hw, hp, hP, hz, hk⟩, st⟩ := hr T hT X
  cases hv
  rw [h0] at hz hk
  obtain ⟨t2, a1, b1⟩ := kk w M' T'.heap (locs ++ L) hw hp (by rw [e1]; exact hP)
    ⟨Nat.le_trans hS.1 (by rw [e1]; exact hz), fun q h1 h2 => by rw [e1, hk q (Nat.lt_of_lt_of_le h1 hS.1) (fun z => h2 (hAA q z))]; exact hS.2.1 q h1 h2, fun q hq => by
      rcases List.mem_append.mp hq with h | h
      · exact hS.2.2 q h
      · exact hAA _ (hL q h)⟩ T' rfl X'
  exact ⟨t2, st t2 a1, b1⟩
theorem mj_rt_use {kind : Nat} {post : mj_V → mj_M → Prop} {r : mj_S} {k : mj_S → mj_M → Prop} (h : mj_rt kind post r k) {v : mj_V} {M : mj_M} (hv : mj_vk kind v) (hp : post v M) : ∃ r' : mj_S, k r' M ∧ r'.map (mj_cv ad) = (mj_ov ad kind v).toList ++ r.map (mj_cv ad) := by
  unfold mj_rt at h
  unfold mj_vk at hv
  split at h
  · subst hv
    exact ⟨r, h M hp, rfl⟩
  · obtain ⟨x, rfl⟩ := hv
    exact ⟨_, h x M hp, rfl⟩
  · rename_i h0 h1
    split at hv
    · exact absurd rfl h0
    · exact absurd rfl h1
    · obtain ⟨x, rfl⟩ := hv
      refine ⟨_, h x M hp, ?_⟩
      unfold mj_ov
      rw [if_neg h0]
      rfl
end MJ2
/-- callable from every frame of a class, in a room -/
def mj_Ka (own : Nat) (R : Room) (cells slots key : Nat) (cl : mj_C) : Prop := ∀ (p : Program) (l : Launch) (e : Env) (s : State) (m : MethodId) (args : Array Value) (below : List Frame) (meth : Method) (c : Code) (Q : State → Prop) (A : Nat → Prop) (D : va_G) (ad : Nat → Nat) (tA : Nat → ClassId) (nL : Nat) (cc : ByteArray) (ret : Option FieldType) (sx : mj_Sx), mj_cx p s m args meth c A D ad tA nL cc (mj_on own) ret sx → mj_Kb p l e R s m args below meth c cells slots Q A D ad tA nL cc key cl
theorem mj_good_code {y : MethodName} {cc : ByteArray} {nL : Nat} {ret : Option FieldType} {Ts : List Cond} (hc : Cond.code y cc nL ret ∈ mj_gT) (hT : Ts = mj_gT) : GoodIn Ts (Cond.code y cc nL ret :: mj_gT) := by
  subst hT
  intro w hw
  rcases List.mem_cons.mp hw with h | h
  · rw [h]
    exact ⟨hc, good_of_word (List.mem_filter.mp hc).2⟩
  · exact ⟨h, good_of_word (List.mem_filter.mp h).2⟩
/-- what a call's words are: 0 virtual in the class, 1 virtual on a nest mate, 2 static in the class or public, 3 static on a nest mate -/
def mj_cw (own i : Nat) (y : MethodName) (cc : ByteArray) (nL : Nat) (ret : Option FieldType) (nest : Bool) : Prop :=
  Cond.code y cc nL ret ∈ mj_gT ∧ Cond.initialized y.cls ∈ mj_gT ∧ (y.cls ≠ "java/lang/invoke/MethodHandle" ∧ y.cls ≠ "java/lang/invoke/VarHandle") ∧ (if nest = true then Cond.methodLinkNest (mj_on own) i y RX6 ∈ mj_nw else Cond.methodLink (mj_on own) i y ∈ mj_gT)
theorem mj_KV {own i : Nat} {R : Room} {cells slots : Nat} {y : MethodName} {cy : ByteArray} {ny : Nat} {ry : Option FieldType} {n c0 : Nat} {cl : mj_C} {nest : Bool} (hM : mj_T y cy ny ry n cl) (hw : mj_cw own i y cy ny ry nest) (hi : Cond.instanceMethod y ∈ mj_gT) (hs : Cond.selects y.cls y y ∈ mj_gT) (hc0 : c0 < 8) (hcls : y.cls = mj_on c0)
    (hn : (parseMethodDescriptor y.desc).map (fun d => d.parameters.length + 1) = some cl.1) (hrc : ∀ avs M, cl.2.2.1 avs M → ∃ a r, avs = .inr a :: r ∧ mj_ob a = c0) (hR : n + 1 ≤ R.frames ∧ 8 + (ny + 11) + 40 * n ≤ R.locals ∧ cells ≤ R.cells ∧ slots ≤ R.slots) : mj_Ka own R cells slots (3 * i) cl := by
  intro p l e s m args below meth c Q A D ad tA nL cc ret sx cx i2 pc L avs r M hd hav hr hpre hk H locs ls hP hS hl hL
  have hd : decode cc pc = .ok (.invokevirtual i, 3) := by
    rcases hd with ⟨h1, h2⟩ | ⟨h1, h2⟩ | ⟨h1, h2⟩
    · rw [show i = i2 by omega]; exact h2
    · omega
    · omega
  obtain ⟨hx, hb, hml, hown, hts, hE, hI, hA, -, -, hX⟩ := cx
  obtain ⟨a, t, rfl, hob⟩ := hrc _ _ hpre
  obtain ⟨ha, hsh⟩ := mj_ob_of hob hc0
  have he := mj_wk (ad := ad) (tA := tA) (M := M) ha
  rw [mj_ce_ob hsh] at he
  have hrec := va_recv hE.1 hP (mj_cl_at hc0) he
  rw [show ((mj_cC c0).1, (mj_cC c0).2.1, (mj_cC c0).2.2).1 = y.cls from ((mj_on_lt hc0).symm.trans hcls.symm)] at hrec
  obtain ⟨w1, w2, w3, w4⟩ := hw
  have hlen : t.length + 1 = cl.1 := by simpa using hav
  have hdesc : (parseMethodDescriptor y.desc).map (fun d => d.parameters.length) = some t.length := by
    cases hpd : parseMethodDescriptor y.desc with
    | none => rw [hpd] at hn; cases hn
    | some d =>
      rw [hpd] at hn
      simp only [Option.map_some, Option.some.injEq] at hn ⊢
      omega
  have hpv : PreV s H y.cls (ad a) (mj_Pc D ad tA (.inr a :: t) M) (t.map (mj_cv ad)) := ⟨mj_blind, hrec, fun U hU hW => ⟨rfl, by rw [hU]; exact hP, mj_E_to hE hS hA hU hW⟩⟩
  have hst : ((Sum.inr a :: t).reverse ++ r).map (mj_cv ad) = (t.map (mj_cv ad)).reverse ++ Value.ref (ad a) :: r.map (mj_cv ad) := by simp [mj_cv]
  have hsum : ((r.map (mj_cv ad)).map fun v => v.category).sum ≤ 8 := by rw [mj_catsum]; exact hr
  have fin : ∀ (v : mj_V) (M' : mj_M) (H1 : Heap) (locs1 : List Loc), mj_vk cl.2.1 v → cl.2.2.2 (.inr a :: t) M v M' → va_P D mj_cl (mj_w ad tA M') H1 → va_S A s.heap H1 locs1 → W p l e R s m args below meth c H1 locs1 cells slots Q (F0 m (pc + 3) ls ((mj_ov ad cl.2.1 v).toList ++ r.map (mj_cv ad))) := by
    intro v M' H1 locs1 hv hp hP1 hS1
    obtain ⟨r1, h1, h2⟩ := mj_rt_use (ad := ad) hk hv hp
    rw [← h2]
    exact h1 H1 locs1 ls hP1 hS1 hl hL
  rw [hst]
  cases nest with
  | false =>
    refine mj_call rfl rfl (va_runV (C := y.cls) (n := t.length) (As := t.map (mj_cv ad)) (rest := r.map (mj_cv ad)) ⟨hx, hb, hml, hown, hts⟩ (hM l D ad tA hI (.inr a :: t) M hav hpre) ⟨callB_of t.length hts (mj_good_code w1 rfl) rfl rfl rfl (hts _ w2) (hts _ w4) ⟨w3.1, w3.2, hdesc⟩ ⟨hR.1, hR.2.1⟩, hts _ hi, hts _ hs⟩ hpv rfl (by simp) hl.1 rfl (lv_room hsum) hd ⟨hR.2.2.1, hR.2.2.2⟩) hS hA fin
  | true =>
    refine mj_call rfl rfl (va_runVN (C := y.cls) (host := RX6) (n := t.length) (As := t.map (mj_cv ad)) (rest := r.map (mj_cv ad)) ⟨hx, hb, hml, hown, hts⟩ (hM l D ad tA hI (.inr a :: t) M hav hpre) ⟨va_cnB t.length hts (mj_good_code w1 rfl) rfl rfl rfl (hE.2.1 _ w4) (hts _ w2) ⟨w3.1, w3.2, hdesc⟩ ⟨hR.1, hR.2.1⟩, hts _ hi, hts _ hs⟩ hpv rfl (by simp) hl.1 rfl (lv_room hsum) hd ⟨hR.2.2.1, hR.2.2.2⟩) hS hA fin
theorem mj_KS {own i : Nat} {R : Room} {cells slots : Nat} {y : MethodName} {cy : ByteArray} {ny : Nat} {ry : Option FieldType} {n : Nat} {cl : mj_C} {nest : Bool} (hM : mj_T y cy ny ry n cl) (hw : mj_cw own i y cy ny ry nest) (hi : Cond.static y ∈ mj_gT)
    (hn : (parseMethodDescriptor y.desc).map (fun d => d.parameters.length) = some cl.1) (hR : n + 1 ≤ R.frames ∧ 8 + (ny + 11) + 40 * n ≤ R.locals ∧ cells ≤ R.cells ∧ slots ≤ R.slots) : mj_Ka own R cells slots (3 * i + 2) cl := by
  intro p l e s m args below meth c Q A D ad tA nL cc ret sx cx i2 pc L avs r M hd hav hr hpre hk H locs ls hP hS hl hL
  have hd : decode cc pc = .ok (.invokestatic i, 3) := by
    rcases hd with ⟨h1, h2⟩ | ⟨h1, h2⟩ | ⟨h1, h2⟩
    · omega
    · omega
    · rw [show i = i2 by omega]; exact h2
  obtain ⟨hx, hb, hml, hown, hts, hE, hI, hA, -, -, hX⟩ := cx
  obtain ⟨w1, w2, w3, w4⟩ := hw
  have hdesc : (parseMethodDescriptor y.desc).map (fun d => d.parameters.length) = some avs.length := by rw [hav]; exact hn
  have hpv : PreS s H (mj_Pc D ad tA avs M) (avs.map (mj_cv ad)) := ⟨mj_blind, fun U hU hW => ⟨rfl, by rw [hU]; exact hP, mj_E_to hE hS hA hU hW⟩⟩
  have hst : (avs.reverse ++ r).map (mj_cv ad) = (avs.map (mj_cv ad)).reverse ++ r.map (mj_cv ad) := by simp
  have hsum : ((r.map (mj_cv ad)).map fun v => v.category).sum ≤ 8 := by rw [mj_catsum]; exact hr
  have fin : ∀ (v : mj_V) (M' : mj_M) (H1 : Heap) (locs1 : List Loc), mj_vk cl.2.1 v → cl.2.2.2 avs M v M' → va_P D mj_cl (mj_w ad tA M') H1 → va_S A s.heap H1 locs1 → W p l e R s m args below meth c H1 locs1 cells slots Q (F0 m (pc + 3) ls ((mj_ov ad cl.2.1 v).toList ++ r.map (mj_cv ad))) := by
    intro v M' H1 locs1 hv hp hP1 hS1
    obtain ⟨r1, h1, h2⟩ := mj_rt_use (ad := ad) hk hv hp
    rw [← h2]
    exact h1 H1 locs1 ls hP1 hS1 hl hL
  rw [hst]
  cases nest with
  | false =>
    refine mj_call rfl rfl (va_runS (n := avs.length) (As := avs.map (mj_cv ad)) (rest := r.map (mj_cv ad)) ⟨hx, hb, hml, hown, hts⟩ (hM l D ad tA hI avs M hav hpre) ⟨callB_of avs.length hts (mj_good_code w1 rfl) rfl rfl rfl (hts _ w2) (hts _ w4) ⟨w3.1, w3.2, hdesc⟩ ⟨hR.1, hR.2.1⟩, hts _ hi⟩ hpv rfl (by simp) hl.1 rfl (lv_room hsum) hd ⟨hR.2.2.1, hR.2.2.2⟩) hS hA fin
  | true =>
    refine mj_call rfl rfl (va_runSN (host := RX6) (n := avs.length) (As := avs.map (mj_cv ad)) (rest := r.map (mj_cv ad)) ⟨hx, hb, hml, hown, hts⟩ (hM l D ad tA hI avs M hav hpre) ⟨va_cnB avs.length hts (mj_good_code w1 rfl) rfl rfl rfl (hE.2.1 _ w4) (hts _ w2) ⟨w3.1, w3.2, hdesc⟩ ⟨hR.1, hR.2.1⟩, hts _ hi, trivial⟩ hpv rfl (by simp) hl.1 rfl (lv_room hsum) hd ⟨hR.2.2.1, hR.2.2.2⟩) hS hA fin
def mj_s0 : mj_Sx := (false, 0, fun _ => 0)
/-- kinds of answers: 0 none, 1 an int, 2 a reference, 3 a boolean -/
def mj_rk (ret : Option FieldType) (kind rk : Nat) : Prop := match rk with
  | 0 => ret = none ∧ kind = 0
  | 1 => ret = some .int ∧ kind = 1
  | 2 => (∃ n, ret = some (.object n)) ∧ kind = 2
  | _ => ret = some .boolean ∧ kind = 1 ∧ rk = 3
theorem mj_ent {ad : Nat → Nat} (k : Nat) : ∀ (avs : List mj_V) (i : Nat), mj_cL ad i (avs.map some ++ List.replicate k none) = lv_args i (avs.map (mj_cv ad)) := by
  intro avs
  induction avs with
  | nil =>
    intro i
    show mj_cL ad i (List.replicate k none) = []
    induction k generalizing i with
    | zero => rfl
    | succ k ih => exact ih (i + 1)
  | cons v t ih =>
    intro i
    show (i, mj_cv ad v) :: mj_cL ad (i + 1) (t.map some ++ List.replicate k none) = (i, mj_cv ad v) :: lv_args (if (mj_cv ad v).category = 2 then i + 2 else i + 1) (t.map (mj_cv ad))
    rw [ih, mj_cv_cat, if_neg (by decide)]
theorem mj_sl {ad : Nat → Nat} : ∀ (avs : List mj_V), (lg_sl (avs.map (mj_cv ad))).length = avs.length := by
  intro avs
  induction avs with
  | nil => rfl
  | cons v t ih =>
    have h : lg_sl ((v :: t).map (mj_cv ad)) = (if (mj_cv ad v).category = 2 then [.val (mj_cv ad v), .second] else [.val (mj_cv ad v)]) ++ lg_sl (t.map (mj_cv ad)) := by simp [lg_sl]
    rw [h, mj_cv_cat, if_neg (by decide), List.length_append, ih]
    simp only [List.length_cons, List.length_nil]
    omega
theorem mj_lookup_mem {it : List (Nat × mj_C)} {i : Nat} {k : mj_C} (h : it.lookup i = some k) : (i, k) ∈ it := by
  induction it with
  | nil => cases h
  | cons q t ih =>
    obtain ⟨a, b⟩ := q
    rw [List.lookup_cons] at h
    split at h
    · rename_i e
      have e2 : i = a := eq_of_beq e
      cases h
      rw [e2]
      exact List.mem_cons_self
    · exact List.mem_cons_of_mem _ (ih h)
/-- a contract, out of its formulas -/
theorem mj_T_of {y : MethodName} {cc : ByteArray} {nL : Nat} {ret : Option FieldType} {n : Nat} {cl : mj_C} {own : Nat} {rk : Nat} (it : List (Nat × mj_C)) (hy : plainName y.cls = true) (hyc : y.cls = mj_on own) (hnL : cl.1 ≤ nL) (hret : mj_rk ret cl.2.1 rk) (hit : ∀ q ∈ it, mj_Ka own (mj_rm n) 0 0 q.1 q.2)
    (h : ∀ (avs : List mj_V) (M : mj_M), avs.length = cl.1 → cl.2.2.1 avs M → ∀ V : Nat → mj_L → mj_S → mj_M → Prop, (∀ {lst : List mj_O} {pc ed : Nat}, mj_ch own cc pc lst ed = true → ∀ (L : mj_L) (st : mj_S) (M' : mj_M), mj_W it rk mj_s0 V (cl.2.2.2 avs M) lst ed L st M' → V pc L st M') → V 0 (avs.map some ++ List.replicate (nL - avs.length) none) [] M) : mj_T y cc nL ret n cl := by
  intro l D ad tA hI avs M hav hpre
  refine Met.ofW (cc := cc) (maxL := nL) (ret := ret) hy rfl ?_
  intro p e s m args below meth c s₁ B hml hv
  obtain ⟨rfl, hP, hE⟩ := hv
  have hts := atoms_spec (ws := Cond.code y cc nL ret :: mj_gT) B.pre
  have hown : s.vm.findClass y.cls = some m.cls := findClass_of_methodNamed B.named
  rw [hyc] at hown
  have hlocks := B.notSynchronized
  have cx : mj_cx p s m (avs.map (mj_cv ad)).toArray meth c (mj_A ad) D ad tA nL cc (mj_on own) ret mj_s0 := ⟨B.exec, B.bytes, hml, hown, fun w hw => hts w (List.mem_cons_of_mem _ hw), hE, hI, fun k hk => ⟨k, hk, rfl⟩, B.returns, hlocks, fun h => by cases h⟩
  have hR : mj_Rb p l e (mj_rm n) s m (avs.map (mj_cv ad)).toArray below meth c 0 0 (MQ below (mj_Q D ad tA cl.2.1 (cl.2.2.2 avs M)) (avs.map (mj_cv ad)).toArray s 0 0 (mj_A ad)) (mj_A ad) D ad tA cc rk (cl.2.2.2 avs M) := by
    refine ⟨fun pc ls x M1 H locs hd h0 h1 h2 hP1 hS1 => ?_, fun pc ls x M1 H locs hd h1 h2 hP1 hS1 => ?_, fun pc ls M1 H locs hd h1 h2 hP1 hS1 => ?_⟩
    · rcases h0 with rfl | rfl
      · obtain ⟨r1, r2⟩ := hret
        refine W.iret (v := x) B.exec B.bytes (B.returns.trans r1) (fun t ht hW => ⟨.inl x, M1, ?_, ?_, h2, by rw [ht]; exact hP1, hS1.F ht⟩) hS1.2.2 hd
        · rw [r2]; rfl
        · rw [r2]; exact ⟨x, rfl⟩
      · obtain ⟨r1, r2, -⟩ := hret
        refine W.zret (v := x) B.exec B.bytes (B.returns.trans r1) (mj_okv (h1 rfl)).1 (fun t ht hW => ⟨.inl x, M1, ?_, ?_, h2, by rw [ht]; exact hP1, hS1.F ht⟩) hS1.2.2 hd
        · rw [r2]; rfl
        · rw [r2]; exact ⟨x, rfl⟩
    · subst h1
      obtain ⟨⟨nm, r1⟩, r2⟩ := hret
      refine W.aret (v := .ref (ad x)) B.exec B.bytes (B.returns.trans r1) (Or.inl ⟨nm, rfl⟩) (Or.inr ⟨_, rfl⟩) (fun t ht hW => ⟨.inr x, M1, ?_, ?_, h2, by rw [ht]; exact hP1, hS1.F ht⟩) hS1.2.2 hd
      · rw [r2]; rfl
      · rw [r2]; exact ⟨x, rfl⟩
    · subst h1
      obtain ⟨r1, r2⟩ := hret
      refine W.vret B.exec B.bytes (B.returns.trans r1) (fun t ht hW => ⟨.inl 0, M1, ?_, ?_, h2, by rw [ht]; exact hP1, hS1.F ht⟩) hS1.2.2 hd
      · rw [r2]; rfl
      · rw [r2]; exact rfl
  have hC : ∀ i k, it.lookup i = some k → mj_Kb p l e (mj_rm n) s m (avs.map (mj_cv ad)).toArray below meth c 0 0 (MQ below (mj_Q D ad tA cl.2.1 (cl.2.2.2 avs M)) (avs.map (mj_cv ad)).toArray s 0 0 (mj_A ad)) (mj_A ad) D ad tA nL cc i k := fun i k hk =>
    hit (i, k) (mj_lookup_mem hk) p l e s m _ below meth c _ (mj_A ad) D ad tA nL cc ret mj_s0 cx
  have hV := h avs M hav hpre (mj_P p l e (mj_rm n) s m (avs.map (mj_cv ad)).toArray below meth c 0 0 (MQ below (mj_Q D ad tA cl.2.1 (cl.2.2.2 avs M)) (avs.map (mj_cv ad)).toArray s 0 0 (mj_A ad)) (mj_A ad) D ad tA nL) (fun {lst pc ed} hch L st M' hw => mj_blk cx hC hR lst pc ed L st M' hch hw)
  have hl := lv_entry (avs.map (mj_cv ad)) (n := nL) (by rw [mj_sl]; omega)
  rw [lg_entry_eq]
  refine hV s.heap [] _ hP va_S.rf ?_ ?_
  · rw [mj_ent]
    exact hl
  · simp only [List.length_append, List.length_map, List.length_replicate]
    omega
end
section
/-! the formulas, evaluated -/
section VC
variable {it : List (Nat × mj_C)} {rk : Nat} {sx : mj_Sx} {J : Nat → mj_L → mj_S → mj_M → Prop} {Rt : mj_V → mj_M → Prop} {k : mj_L → mj_S → mj_M → Prop} {L : mj_L} {st : mj_S} {M : mj_M} {n0 n1 : Nat} {z0 : Int32} {ps0 : List (Int32 × Nat)}
theorem xp_1 : mj_X it rk sx J Rt (1, n0, n1, z0, ps0) k L st M = (k L (.inl z0 :: st) M) := rfl
theorem xp_2 : mj_X it rk sx J Rt (2, n0, n1, z0, ps0) k L st M = (k L (.inr n0 :: st) M) := rfl
theorem xp_3 : mj_X it rk sx J Rt (3, n0, n1, z0, ps0) k L st M = (mj_li (mj_g L n0) fun x => k L (.inl x :: st) M) := rfl
theorem xp_4 : mj_X it rk sx J Rt (4, n0, n1, z0, ps0) k L st M = (mj_lr (mj_g L n0) fun a => k L (.inr a :: st) M) := rfl
theorem xp_5 : mj_X it rk sx J Rt (5, n0, n1, z0, ps0) k L st M = (mj_pi st fun x r => mj_so L n0 (.inl x) fun L' => k L' r M) := rfl
theorem xp_6 : mj_X it rk sx J Rt (6, n0, n1, z0, ps0) k L st M = (mj_pr st fun a r => mj_so L n0 (.inr a) fun L' => k L' r M) := rfl
theorem xp_7 : mj_X it rk sx J Rt (7, n0, n1, z0, ps0) k L st M = (mj_li (mj_g L n0) fun x => mj_so L n0 (.inl (x + z0)) fun L' => k L' st M) := rfl
theorem xp_10 : mj_X it rk sx J Rt (10, n0, n1, z0, ps0) k L st M = (mj_pi st fun y r => mj_pi r fun x r => k L (.inl (x + y) :: r) M) := rfl
theorem xp_11 : mj_X it rk sx J Rt (11, n0, n1, z0, ps0) k L st M = (mj_pi st fun y r => mj_pi r fun x r => k L (.inl (x - y) :: r) M) := rfl
theorem xp_12 : mj_X it rk sx J Rt (12, n0, n1, z0, ps0) k L st M = (mj_pi st fun y r => mj_pi r fun x r => k L (.inl (x * y) :: r) M) := rfl
theorem xp_13 : mj_X it rk sx J Rt (13, n0, n1, z0, ps0) k L st M = (mj_pi st fun y r => mj_pi r fun x r => ¬ y = 0 ∧ k L (.inl (x / y) :: r) M) := rfl
theorem xp_14 : mj_X it rk sx J Rt (14, n0, n1, z0, ps0) k L st M = (mj_pi st fun y r => mj_pi r fun x r => ¬ y = 0 ∧ k L (.inl (x - x / y * y) :: r) M) := rfl
theorem xp_15 : mj_X it rk sx J Rt (15, n0, n1, z0, ps0) k L st M = (mj_pi st fun x r => k L (.inl (-x) :: r) M) := rfl
theorem xp_16 : mj_X it rk sx J Rt (16, n0, n1, z0, ps0) k L st M = (mj_pi st fun y r => mj_pi r fun x r => k L (.inl (x <<< (y &&& 31)) :: r) M) := rfl
theorem xp_17 : mj_X it rk sx J Rt (17, n0, n1, z0, ps0) k L st M = (mj_pi st fun y r => mj_pi r fun x r => k L (.inl (x >>> (y &&& 31)) :: r) M) := rfl
theorem xp_18 : mj_X it rk sx J Rt (18, n0, n1, z0, ps0) k L st M = (mj_pi st fun y r => mj_pi r fun x r => k L (.inl (x &&& y) :: r) M) := rfl
theorem xp_19 : mj_X it rk sx J Rt (19, n0, n1, z0, ps0) k L st M = (mj_pi st fun y r => mj_pi r fun x r => k L (.inl (x ||| y) :: r) M) := rfl
theorem xp_20 : mj_X it rk sx J Rt (20, n0, n1, z0, ps0) k L st M = (mj_pi st fun x r => k L (.inl (x.toUInt32 % 65536).toInt32 :: r) M) := rfl
theorem xp_21 : mj_X it rk sx J Rt (21, n0, n1, z0, ps0) k L st M = (mj_pv st fun v r => k L (v :: v :: r) M) := rfl
theorem xp_22 : mj_X it rk sx J Rt (22, n0, n1, z0, ps0) k L st M = (mj_pv st fun v r => mj_pv r fun w r => k L (v :: w :: v :: w :: r) M) := rfl
theorem xp_23 : mj_X it rk sx J Rt (23, n0, n1, z0, ps0) k L st M = (mj_pv st fun _ r => k L r M) := rfl
theorem xp_30 : mj_X it rk sx J Rt (30, n0, n1, z0, ps0) k L st M = (mj_pi st fun x r => (x = 0 → J n0 L r M) ∧ (¬ x = 0 → k L r M)) := rfl
theorem xp_31 : mj_X it rk sx J Rt (31, n0, n1, z0, ps0) k L st M = (mj_pi st fun x r => (¬ x = 0 → J n0 L r M) ∧ (x = 0 → k L r M)) := rfl
theorem xp_32 : mj_X it rk sx J Rt (32, n0, n1, z0, ps0) k L st M = (mj_pi st fun x r => (x < 0 → J n0 L r M) ∧ (¬ x < 0 → k L r M)) := rfl
theorem xp_33 : mj_X it rk sx J Rt (33, n0, n1, z0, ps0) k L st M = (mj_pi st fun x r => (¬ x < 0 → J n0 L r M) ∧ (x < 0 → k L r M)) := rfl
theorem xp_34 : mj_X it rk sx J Rt (34, n0, n1, z0, ps0) k L st M = (mj_pi st fun x r => (0 < x → J n0 L r M) ∧ (¬ 0 < x → k L r M)) := rfl
theorem xp_35 : mj_X it rk sx J Rt (35, n0, n1, z0, ps0) k L st M = (mj_pi st fun x r => (¬ 0 < x → J n0 L r M) ∧ (0 < x → k L r M)) := rfl
theorem xp_36 : mj_X it rk sx J Rt (36, n0, n1, z0, ps0) k L st M = (mj_pi st fun y r => mj_pi r fun x r => (x = y → J n0 L r M) ∧ (¬ x = y → k L r M)) := rfl
theorem xp_37 : mj_X it rk sx J Rt (37, n0, n1, z0, ps0) k L st M = (mj_pi st fun y r => mj_pi r fun x r => (¬ x = y → J n0 L r M) ∧ (x = y → k L r M)) := rfl
theorem xp_38 : mj_X it rk sx J Rt (38, n0, n1, z0, ps0) k L st M = (mj_pi st fun y r => mj_pi r fun x r => (x < y → J n0 L r M) ∧ (¬ x < y → k L r M)) := rfl
theorem xp_39 : mj_X it rk sx J Rt (39, n0, n1, z0, ps0) k L st M = (mj_pi st fun y r => mj_pi r fun x r => (¬ x < y → J n0 L r M) ∧ (x < y → k L r M)) := rfl
theorem xp_40 : mj_X it rk sx J Rt (40, n0, n1, z0, ps0) k L st M = (mj_pi st fun y r => mj_pi r fun x r => (y < x → J n0 L r M) ∧ (¬ y < x → k L r M)) := rfl
theorem xp_41 : mj_X it rk sx J Rt (41, n0, n1, z0, ps0) k L st M = (mj_pi st fun y r => mj_pi r fun x r => (¬ y < x → J n0 L r M) ∧ (y < x → k L r M)) := rfl
theorem xp_42 : mj_X it rk sx J Rt (42, n0, n1, z0, ps0) k L st M = (J n0 L st M) := rfl
theorem xp_43 : mj_X it rk sx J Rt (43, n0, n1, z0, ps0) k L st M = (mj_pi st fun x r => mj_sw ps0 n0 x fun t => J t L r M) := rfl
theorem xp_50 : mj_X it rk sx J Rt (50, n0, n1, z0, ps0) k L st M = (mj_pr st fun a r => mj_ob a = n0 ∧ k L (.inl (M a n1) :: r) M) := rfl
theorem xp_51 : mj_X it rk sx J Rt (51, n0, n1, z0, ps0) k L st M = (mj_pr st fun a r => mj_ob a = n0 ∧ k L (.inr (mj_pt a n1) :: r) M) := rfl
theorem xp_52 : mj_X it rk sx J Rt (52, n0, n1, z0, ps0) k L st M = (mj_pi st fun x r => mj_pr r fun a r => mj_ob a = n0 ∧ k L r (mj_up M a n1 x)) := rfl
theorem xp_53 : mj_X it rk sx J Rt (53, n0, n1, z0, ps0) k L st M = (mj_pi st fun x r => mj_pr r fun a r => mj_ob a = n0 ∧ (x = 0 ∨ x = 1) ∧ k L r (mj_up M a n1 x)) := rfl
theorem xp_60 : mj_X it rk sx J Rt (60, n0, n1, z0, ps0) k L st M = (mj_pi st fun i r => mj_pr r fun a r => (mj_ak a = 0 ∨ mj_ak a = 3 ∨ (mj_ak a = 4 ∧ sx.1 = true)) ∧ vp_in i (mj_ln sx a) ∧ k L (.inl (mj_cq sx M a i.toNatClampNeg) :: r) M) := rfl
theorem xp_61 : mj_X it rk sx J Rt (61, n0, n1, z0, ps0) k L st M = (mj_pi st fun x r => mj_pi r fun i r => mj_pr r fun a r => mj_ak a = 0 ∧ vp_in i (mj_ln sx a) ∧ k L r (mj_up M a i.toNatClampNeg x)) := rfl
theorem xp_62 : mj_X it rk sx J Rt (62, n0, n1, z0, ps0) k L st M = (mj_pi st fun i r => mj_pr r fun a r => mj_ak a = 1 ∧ vp_in i (mj_ln sx a) ∧ k L (.inl (M a i.toNatClampNeg) :: r) M) := rfl
theorem xp_63 : mj_X it rk sx J Rt (63, n0, n1, z0, ps0) k L st M = (mj_pi st fun x r => mj_pi r fun i r => mj_pr r fun a r => mj_ak a = 1 ∧ vp_in i (mj_ln sx a) ∧ k L r (mj_up M a i.toNatClampNeg (vp_nar .char x))) := rfl
theorem xp_64 : mj_X it rk sx J Rt (64, n0, n1, z0, ps0) k L st M = (mj_pi st fun i r => mj_pr r fun a r => mj_ak a = 2 ∧ vp_in i (mj_ln sx a) ∧ k L (.inr (mj_pt a i.toNatClampNeg) :: r) M) := rfl
theorem xp_65 : mj_X it rk sx J Rt (65, n0, n1, z0, ps0) k L st M = (mj_pr st fun a r => mj_ak a ≠ 9 ∧ (mj_ak a = 4 → sx.1 = true) ∧ k L (.inl (nI (mj_ln sx a)) :: r) M) := rfl
theorem xp_70 : mj_X it rk sx J Rt (70, n0, n1, z0, ps0) k L st M = ((match it.lookup n0 with
    | some cl => mj_ta cl.1 st [] fun avs r => r.length ≤ 8 ∧ cl.2.2.1 avs M ∧ mj_rt cl.2.1 (cl.2.2.2 avs M) r fun r' M' => k L r' M'
    | none => False)) := rfl
theorem xp_80 : mj_X it rk sx J Rt (80, n0, n1, z0, ps0) k L st M = (mj_pi st fun x r => r = [] ∧ (rk = 1 ∨ rk = 3) ∧ (rk = 3 → x = 0 ∨ x = 1) ∧ Rt (.inl x) M) := rfl
theorem xp_81 : mj_X it rk sx J Rt (81, n0, n1, z0, ps0) k L st M = (mj_pr st fun a r => r = [] ∧ rk = 2 ∧ Rt (.inr a) M) := rfl
theorem xp_82 : mj_X it rk sx J Rt (82, n0, n1, z0, ps0) k L st M = (st = [] ∧ rk = 0 ∧ Rt (.inl 0) M) := rfl
theorem xw_0 {e : Nat} : mj_W it rk sx J Rt [] e L st M = J e L st M := rfl
theorem xw_1 {e : Nat} {q : mj_O} {t : List mj_O} : mj_W it rk sx J Rt (q :: t) e L st M = mj_X it rk sx J Rt q (mj_W it rk sx J Rt t e) L st M := rfl
theorem xg_0 {v : Option mj_V} {t : mj_L} : mj_g (v :: t) 0 = v := rfl
theorem xg_1 {v : Option mj_V} {t : mj_L} {n : Nat} : mj_g (v :: t) (n + 1) = mj_g t n := rfl
theorem xl_i {x : Int32} {f : Int32 → Prop} : mj_li (some (.inl x)) f = f x := rfl
theorem xl_r {x : Nat} {f : Nat → Prop} : mj_lr (some (.inr x)) f = f x := rfl
theorem xs_0 {a : Option mj_V} {t : mj_L} {v : mj_V} {f : mj_L → Prop} : mj_so (a :: t) 0 v f = f (some v :: t) := rfl
theorem xs_1 {a : Option mj_V} {t : mj_L} {n : Nat} {v : mj_V} {f : mj_L → Prop} : mj_so (a :: t) (n + 1) v f = mj_so t n v (fun t' => f (a :: t')) := rfl
theorem xq_i {x : Int32} {r : mj_S} {f : Int32 → mj_S → Prop} : mj_pi (.inl x :: r) f = f x r := rfl
theorem xq_r {x : Nat} {r : mj_S} {f : Nat → mj_S → Prop} : mj_pr (.inr x :: r) f = f x r := rfl
theorem xq_v {x : mj_V} {r : mj_S} {f : mj_V → mj_S → Prop} : mj_pv (x :: r) f = f x r := rfl
theorem xc_0 {d : Nat} {x : Int32} {f : Nat → Prop} : mj_sw [] d x f = f d := rfl
theorem xc_1 {q : Int32 × Nat} {t : List (Int32 × Nat)} {d : Nat} {x : Int32} {f : Nat → Prop} : mj_sw (q :: t) d x f = ((x = q.1 → f q.2) ∧ (¬ x = q.1 → mj_sw t d x f)) := rfl
theorem xt_0 {st : mj_S} {acc : List mj_V} {f : List mj_V → mj_S → Prop} : mj_ta 0 st acc f = f acc st := rfl
theorem xt_1 {n : Nat} {v : mj_V} {st : mj_S} {acc : List mj_V} {f : List mj_V → mj_S → Prop} : mj_ta (n + 1) (v :: st) acc f = mj_ta n st (v :: acc) f := rfl
def rk0 : Nat := 0
def rk1 : Nat := 1
def rk2 : Nat := 2
theorem xr_0 {post : mj_V → mj_M → Prop} {r : mj_S} {k : mj_S → mj_M → Prop} : mj_rt rk0 post r k = (∀ M' : mj_M, post (.inl 0) M' → k r M') := rfl
theorem xr_1 {post : mj_V → mj_M → Prop} {r : mj_S} {k : mj_S → mj_M → Prop} : mj_rt rk1 post r k = (∀ (x : Int32) (M' : mj_M), post (.inl x) M' → k (.inl x :: r) M') := rfl
theorem xr_2 {post : mj_V → mj_M → Prop} {r : mj_S} {k : mj_S → mj_M → Prop} : mj_rt rk2 post r k = (∀ (a : Nat) (M' : mj_M), post (.inr a) M' → k (.inr a :: r) M') := rfl
theorem xe_0 {i : Nat} {c : mj_C} {t : List (Nat × mj_C)} : List.lookup i ((i, c) :: t) = some c := by simp [List.lookup_cons]
theorem xe_1 {i j : Nat} {c : mj_C} {t : List (Nat × mj_C)} (h : i ≠ j) : List.lookup i ((j, c) :: t) = List.lookup i t := by
  rw [List.lookup_cons]
  have : (i == j) = false := by simpa using h
  rw [this]
theorem up_ne {M : mj_M} {a j b : Nat} {x : Int32} (h : b ≠ a) : mj_up M a j x b = M b := mj_up_o h
theorem up_s {M : mj_M} {a j : Nat} {x : Int32} : mj_up M a j x a = upd (M a) j x := mj_up_s
theorem ud_s {f : Nat → Int32} {k : Nat} {x : Int32} : upd f k x k = x := by simp [upd]
theorem ud_o {f : Nat → Int32} {k j : Nat} {x : Int32} (h : j ≠ k) : upd f k x j = f j := by simp [upd, h]
end VC
theorem ob_0 : mj_ob 0 = 2 := rfl
theorem ob_18 : mj_ob 18 = 2 := rfl
theorem ob_36 : mj_ob 36 = 2 := rfl
theorem ob_54 : mj_ob 54 = 1 := rfl
theorem ak_55 : mj_ak 55 = 0 := rfl
theorem ln_55 {sx : mj_Sx} : mj_ln sx 55 = 4 := rfl
theorem cq_55 {sx : mj_Sx} {M : mj_M} {j : Nat} : mj_cq sx M 55 j = M 55 j := rfl
theorem ak_56 : mj_ak 56 = 0 := rfl
theorem ln_56 {sx : mj_Sx} : mj_ln sx 56 = 4 := rfl
theorem cq_56 {sx : mj_Sx} {M : mj_M} {j : Nat} : mj_cq sx M 56 j = M 56 j := rfl
theorem ob_57 : mj_ob 57 = 5 := rfl
theorem ak_58 : mj_ak 58 = 1 := rfl
theorem ln_58 {sx : mj_Sx} : mj_ln sx 58 = 96 := rfl
theorem cq_58 {sx : mj_Sx} {M : mj_M} {j : Nat} : mj_cq sx M 58 j = M 58 j := rfl
theorem ak_59 : mj_ak 59 = 0 := rfl
theorem ln_59 {sx : mj_Sx} : mj_ln sx 59 = 5 := rfl
theorem cq_59 {sx : mj_Sx} {M : mj_M} {j : Nat} : mj_cq sx M 59 j = M 59 j := rfl
theorem ob_60 : mj_ob 60 = 6 := rfl
theorem ak_61 : mj_ak 61 = 0 := rfl
theorem ln_61 {sx : mj_Sx} : mj_ln sx 61 = 8 := rfl
theorem cq_61 {sx : mj_Sx} {M : mj_M} {j : Nat} : mj_cq sx M 61 j = M 61 j := rfl
theorem ak_62 : mj_ak 62 = 0 := rfl
theorem ln_62 {sx : mj_Sx} : mj_ln sx 62 = 7 := rfl
theorem cq_62 {sx : mj_Sx} {M : mj_M} {j : Nat} : mj_cq sx M 62 j = M 62 j := rfl
theorem ob_63 : mj_ob 63 = 7 := rfl
theorem ak_64 : mj_ak 64 = 0 := rfl
theorem ln_64 {sx : mj_Sx} : mj_ln sx 64 = 7 := rfl
theorem cq_64 {sx : mj_Sx} {M : mj_M} {j : Nat} : mj_cq sx M 64 j = M 64 j := rfl
theorem ak_65 : mj_ak 65 = 0 := rfl
theorem ln_65 {sx : mj_Sx} : mj_ln sx 65 = 55 := rfl
theorem cq_65 {sx : mj_Sx} {M : mj_M} {j : Nat} : mj_cq sx M 65 j = M 65 j := rfl
theorem ak_66 : mj_ak 66 = 0 := rfl
theorem ln_66 {sx : mj_Sx} : mj_ln sx 66 = 55 := rfl
theorem cq_66 {sx : mj_Sx} {M : mj_M} {j : Nat} : mj_cq sx M 66 j = M 66 j := rfl
theorem ak_67 : mj_ak 67 = 0 := rfl
theorem ln_67 {sx : mj_Sx} : mj_ln sx 67 = 55 := rfl
theorem cq_67 {sx : mj_Sx} {M : mj_M} {j : Nat} : mj_cq sx M 67 j = M 67 j := rfl
theorem ak_68 : mj_ak 68 = 0 := rfl
theorem ln_68 {sx : mj_Sx} : mj_ln sx 68 = 55 := rfl
theorem cq_68 {sx : mj_Sx} {M : mj_M} {j : Nat} : mj_cq sx M 68 j = M 68 j := rfl
theorem ak_69 : mj_ak 69 = 0 := rfl
theorem ln_69 {sx : mj_Sx} : mj_ln sx 69 = 96 := rfl
theorem cq_69 {sx : mj_Sx} {M : mj_M} {j : Nat} : mj_cq sx M 69 j = M 69 j := rfl
theorem ak_70 : mj_ak 70 = 0 := rfl
theorem ln_70 {sx : mj_Sx} : mj_ln sx 70 = 5 := rfl
theorem cq_70 {sx : mj_Sx} {M : mj_M} {j : Nat} : mj_cq sx M 70 j = M 70 j := rfl
theorem ak_71 : mj_ak 71 = 0 := rfl
theorem ln_71 {sx : mj_Sx} : mj_ln sx 71 = 4 := rfl
theorem cq_71 {sx : mj_Sx} {M : mj_M} {j : Nat} : mj_cq sx M 71 j = M 71 j := rfl
theorem ak_72 : mj_ak 72 = 0 := rfl
theorem ln_72 {sx : mj_Sx} : mj_ln sx 72 = 4 := rfl
theorem cq_72 {sx : mj_Sx} {M : mj_M} {j : Nat} : mj_cq sx M 72 j = M 72 j := rfl
theorem ak_73 : mj_ak 73 = 0 := rfl
theorem ln_73 {sx : mj_Sx} : mj_ln sx 73 = 8 := rfl
theorem cq_73 {sx : mj_Sx} {M : mj_M} {j : Nat} : mj_cq sx M 73 j = M 73 j := rfl
theorem pt_54_0 : mj_pt 54 0 = 55 := rfl
theorem pt_54_1 : mj_pt 54 1 = 56 := rfl
theorem pt_57_0 : mj_pt 57 0 = 58 := rfl
theorem pt_57_3 : mj_pt 57 3 = 59 := rfl
theorem pt_60_0 : mj_pt 60 0 = 0 := rfl
theorem pt_60_1 : mj_pt 60 1 = 18 := rfl
theorem pt_60_2 : mj_pt 60 2 = 36 := rfl
theorem pt_60_4 : mj_pt 60 4 = 54 := rfl
theorem pt_60_5 : mj_pt 60 5 = 57 := rfl
theorem pt_60_6 : mj_pt 60 6 = 61 := rfl
theorem pt_60_8 : mj_pt 60 8 = 62 := rfl
theorem pt_63_0 : mj_pt 63 0 = 64 := rfl
theorem pt_63_1 : mj_pt 63 1 = 65 := rfl
theorem pt_63_2 : mj_pt 63 2 = 66 := rfl
theorem pt_63_3 : mj_pt 63 3 = 67 := rfl
theorem pt_63_4 : mj_pt 63 4 = 68 := rfl
theorem pt_63_6 : mj_pt 63 6 = 69 := rfl
theorem pt_63_7 : mj_pt 63 7 = 70 := rfl
theorem pt_63_10 : mj_pt 63 10 = 71 := rfl
theorem pt_63_11 : mj_pt 63 11 = 72 := rfl
theorem pt_63_17 : mj_pt 63 17 = 73 := rfl
/-! argument patterns -/
def ma_i (avs : List mj_V) (f : Int32 → Prop) : Prop := match avs with
  | [.inl x0] => f x0
  | _ => False
theorem mb_i {x0 : Int32} {f : Int32 → Prop} : ma_i [.inl x0] f = f x0 := rfl
theorem mc_i {avs : List mj_V} {f : Int32 → Prop} (h : ma_i avs f) : ∃ x0, avs = [.inl x0] ∧ f x0 := by
  unfold ma_i at h
  split at h
  · exact ⟨_, rfl, h⟩
  · exact False.elim h
def ma_ii (avs : List mj_V) (f : Int32 → Int32 → Prop) : Prop := match avs with
  | [.inl x0, .inl x1] => f x0 x1
  | _ => False
theorem mb_ii {x0 : Int32} {x1 : Int32} {f : Int32 → Int32 → Prop} : ma_ii [.inl x0, .inl x1] f = f x0 x1 := rfl
theorem mc_ii {avs : List mj_V} {f : Int32 → Int32 → Prop} (h : ma_ii avs f) : ∃ x0 x1, avs = [.inl x0, .inl x1] ∧ f x0 x1 := by
  unfold ma_ii at h
  split at h
  · exact ⟨_, _, rfl, h⟩
  · exact False.elim h
def ma_iii (avs : List mj_V) (f : Int32 → Int32 → Int32 → Prop) : Prop := match avs with
  | [.inl x0, .inl x1, .inl x2] => f x0 x1 x2
  | _ => False
theorem mb_iii {x0 : Int32} {x1 : Int32} {x2 : Int32} {f : Int32 → Int32 → Int32 → Prop} : ma_iii [.inl x0, .inl x1, .inl x2] f = f x0 x1 x2 := rfl
theorem mc_iii {avs : List mj_V} {f : Int32 → Int32 → Int32 → Prop} (h : ma_iii avs f) : ∃ x0 x1 x2, avs = [.inl x0, .inl x1, .inl x2] ∧ f x0 x1 x2 := by
  unfold ma_iii at h
  split at h
  · exact ⟨_, _, _, rfl, h⟩
  · exact False.elim h
def ma_r (avs : List mj_V) (f : Nat → Prop) : Prop := match avs with
  | [.inr x0] => f x0
  | _ => False
theorem mb_r {x0 : Nat} {f : Nat → Prop} : ma_r [.inr x0] f = f x0 := rfl
theorem mc_r {avs : List mj_V} {f : Nat → Prop} (h : ma_r avs f) : ∃ x0, avs = [.inr x0] ∧ f x0 := by
  unfold ma_r at h
  split at h
  · exact ⟨_, rfl, h⟩
  · exact False.elim h
def ma_ri (avs : List mj_V) (f : Nat → Int32 → Prop) : Prop := match avs with
  | [.inr x0, .inl x1] => f x0 x1
  | _ => False
theorem mb_ri {x0 : Nat} {x1 : Int32} {f : Nat → Int32 → Prop} : ma_ri [.inr x0, .inl x1] f = f x0 x1 := rfl
theorem mc_ri {avs : List mj_V} {f : Nat → Int32 → Prop} (h : ma_ri avs f) : ∃ x0 x1, avs = [.inr x0, .inl x1] ∧ f x0 x1 := by
  unfold ma_ri at h
  split at h
  · exact ⟨_, _, rfl, h⟩
  · exact False.elim h
def ma_rii (avs : List mj_V) (f : Nat → Int32 → Int32 → Prop) : Prop := match avs with
  | [.inr x0, .inl x1, .inl x2] => f x0 x1 x2
  | _ => False
theorem mb_rii {x0 : Nat} {x1 : Int32} {x2 : Int32} {f : Nat → Int32 → Int32 → Prop} : ma_rii [.inr x0, .inl x1, .inl x2] f = f x0 x1 x2 := rfl
theorem mc_rii {avs : List mj_V} {f : Nat → Int32 → Int32 → Prop} (h : ma_rii avs f) : ∃ x0 x1 x2, avs = [.inr x0, .inl x1, .inl x2] ∧ f x0 x1 x2 := by
  unfold ma_rii at h
  split at h
  · exact ⟨_, _, _, rfl, h⟩
  · exact False.elim h
def ma_riii (avs : List mj_V) (f : Nat → Int32 → Int32 → Int32 → Prop) : Prop := match avs with
  | [.inr x0, .inl x1, .inl x2, .inl x3] => f x0 x1 x2 x3
  | _ => False
theorem mb_riii {x0 : Nat} {x1 : Int32} {x2 : Int32} {x3 : Int32} {f : Nat → Int32 → Int32 → Int32 → Prop} : ma_riii [.inr x0, .inl x1, .inl x2, .inl x3] f = f x0 x1 x2 x3 := rfl
theorem mc_riii {avs : List mj_V} {f : Nat → Int32 → Int32 → Int32 → Prop} (h : ma_riii avs f) : ∃ x0 x1 x2 x3, avs = [.inr x0, .inl x1, .inl x2, .inl x3] ∧ f x0 x1 x2 x3 := by
  unfold ma_riii at h
  split at h
  · exact ⟨_, _, _, _, rfl, h⟩
  · exact False.elim h
def ma_rr (avs : List mj_V) (f : Nat → Nat → Prop) : Prop := match avs with
  | [.inr x0, .inr x1] => f x0 x1
  | _ => False
theorem mb_rr {x0 : Nat} {x1 : Nat} {f : Nat → Nat → Prop} : ma_rr [.inr x0, .inr x1] f = f x0 x1 := rfl
theorem mc_rr {avs : List mj_V} {f : Nat → Nat → Prop} (h : ma_rr avs f) : ∃ x0 x1, avs = [.inr x0, .inr x1] ∧ f x0 x1 := by
  unfold ma_rr at h
  split at h
  · exact ⟨_, _, rfl, h⟩
  · exact False.elim h
def ma_rri (avs : List mj_V) (f : Nat → Nat → Int32 → Prop) : Prop := match avs with
  | [.inr x0, .inr x1, .inl x2] => f x0 x1 x2
  | _ => False
theorem mb_rri {x0 : Nat} {x1 : Nat} {x2 : Int32} {f : Nat → Nat → Int32 → Prop} : ma_rri [.inr x0, .inr x1, .inl x2] f = f x0 x1 x2 := rfl
theorem mc_rri {avs : List mj_V} {f : Nat → Nat → Int32 → Prop} (h : ma_rri avs f) : ∃ x0 x1 x2, avs = [.inr x0, .inr x1, .inl x2] ∧ f x0 x1 x2 := by
  unfold ma_rri at h
  split at h
  · exact ⟨_, _, _, rfl, h⟩
  · exact False.elim h
def ma_rrii (avs : List mj_V) (f : Nat → Nat → Int32 → Int32 → Prop) : Prop := match avs with
  | [.inr x0, .inr x1, .inl x2, .inl x3] => f x0 x1 x2 x3
  | _ => False
theorem mb_rrii {x0 : Nat} {x1 : Nat} {x2 : Int32} {x3 : Int32} {f : Nat → Nat → Int32 → Int32 → Prop} : ma_rrii [.inr x0, .inr x1, .inl x2, .inl x3] f = f x0 x1 x2 x3 := rfl
theorem mc_rrii {avs : List mj_V} {f : Nat → Nat → Int32 → Int32 → Prop} (h : ma_rrii avs f) : ∃ x0 x1 x2 x3, avs = [.inr x0, .inr x1, .inl x2, .inl x3] ∧ f x0 x1 x2 x3 := by
  unfold ma_rrii at h
  split at h
  · exact ⟨_, _, _, _, rfl, h⟩
  · exact False.elim h
def ma_rriii (avs : List mj_V) (f : Nat → Nat → Int32 → Int32 → Int32 → Prop) : Prop := match avs with
  | [.inr x0, .inr x1, .inl x2, .inl x3, .inl x4] => f x0 x1 x2 x3 x4
  | _ => False
theorem mb_rriii {x0 : Nat} {x1 : Nat} {x2 : Int32} {x3 : Int32} {x4 : Int32} {f : Nat → Nat → Int32 → Int32 → Int32 → Prop} : ma_rriii [.inr x0, .inr x1, .inl x2, .inl x3, .inl x4] f = f x0 x1 x2 x3 x4 := rfl
theorem mc_rriii {avs : List mj_V} {f : Nat → Nat → Int32 → Int32 → Int32 → Prop} (h : ma_rriii avs f) : ∃ x0 x1 x2 x3 x4, avs = [.inr x0, .inr x1, .inl x2, .inl x3, .inl x4] ∧ f x0 x1 x2 x3 x4 := by
  unfold ma_rriii at h
  split at h
  · exact ⟨_, _, _, _, _, rfl, h⟩
  · exact False.elim h
def ma_riiiii (avs : List mj_V) (f : Nat → Int32 → Int32 → Int32 → Int32 → Int32 → Prop) : Prop := match avs with
  | [.inr x0, .inl x1, .inl x2, .inl x3, .inl x4, .inl x5] => f x0 x1 x2 x3 x4 x5
  | _ => False
theorem mb_riiiii {x0 : Nat} {x1 : Int32} {x2 : Int32} {x3 : Int32} {x4 : Int32} {x5 : Int32} {f : Nat → Int32 → Int32 → Int32 → Int32 → Int32 → Prop} : ma_riiiii [.inr x0, .inl x1, .inl x2, .inl x3, .inl x4, .inl x5] f = f x0 x1 x2 x3 x4 x5 := rfl
theorem mc_riiiii {avs : List mj_V} {f : Nat → Int32 → Int32 → Int32 → Int32 → Int32 → Prop} (h : ma_riiiii avs f) : ∃ x0 x1 x2 x3 x4 x5, avs = [.inr x0, .inl x1, .inl x2, .inl x3, .inl x4, .inl x5] ∧ f x0 x1 x2 x3 x4 x5 := by
  unfold ma_riiiii at h
  split at h
  · exact ⟨_, _, _, _, _, _, rfl, h⟩
  · exact False.elim h
def ma_rrr (avs : List mj_V) (f : Nat → Nat → Nat → Prop) : Prop := match avs with
  | [.inr x0, .inr x1, .inr x2] => f x0 x1 x2
  | _ => False
theorem mb_rrr {x0 : Nat} {x1 : Nat} {x2 : Nat} {f : Nat → Nat → Nat → Prop} : ma_rrr [.inr x0, .inr x1, .inr x2] f = f x0 x1 x2 := rfl
theorem mc_rrr {avs : List mj_V} {f : Nat → Nat → Nat → Prop} (h : ma_rrr avs f) : ∃ x0 x1 x2, avs = [.inr x0, .inr x1, .inr x2] ∧ f x0 x1 x2 := by
  unfold ma_rrr at h
  split at h
  · exact ⟨_, _, _, rfl, h⟩
  · exact False.elim h
def ma_rir (avs : List mj_V) (f : Nat → Int32 → Nat → Prop) : Prop := match avs with
  | [.inr x0, .inl x1, .inr x2] => f x0 x1 x2
  | _ => False
theorem mb_rir {x0 : Nat} {x1 : Int32} {x2 : Nat} {f : Nat → Int32 → Nat → Prop} : ma_rir [.inr x0, .inl x1, .inr x2] f = f x0 x1 x2 := rfl
theorem mc_rir {avs : List mj_V} {f : Nat → Int32 → Nat → Prop} (h : ma_rir avs f) : ∃ x0 x1 x2, avs = [.inr x0, .inl x1, .inr x2] ∧ f x0 x1 x2 := by
  unfold ma_rir at h
  split at h
  · exact ⟨_, _, _, rfl, h⟩
  · exact False.elim h
def ma_iiii (avs : List mj_V) (f : Int32 → Int32 → Int32 → Int32 → Prop) : Prop := match avs with
  | [.inl x0, .inl x1, .inl x2, .inl x3] => f x0 x1 x2 x3
  | _ => False
theorem mb_iiii {x0 : Int32} {x1 : Int32} {x2 : Int32} {x3 : Int32} {f : Int32 → Int32 → Int32 → Int32 → Prop} : ma_iiii [.inl x0, .inl x1, .inl x2, .inl x3] f = f x0 x1 x2 x3 := rfl
theorem mc_iiii {avs : List mj_V} {f : Int32 → Int32 → Int32 → Int32 → Prop} (h : ma_iiii avs f) : ∃ x0 x1 x2 x3, avs = [.inl x0, .inl x1, .inl x2, .inl x3] ∧ f x0 x1 x2 x3 := by
  unfold ma_iiii at h
  split at h
  · exact ⟨_, _, _, _, rfl, h⟩
  · exact False.elim h
def ma_riiii (avs : List mj_V) (f : Nat → Int32 → Int32 → Int32 → Int32 → Prop) : Prop := match avs with
  | [.inr x0, .inl x1, .inl x2, .inl x3, .inl x4] => f x0 x1 x2 x3 x4
  | _ => False
theorem mb_riiii {x0 : Nat} {x1 : Int32} {x2 : Int32} {x3 : Int32} {x4 : Int32} {f : Nat → Int32 → Int32 → Int32 → Int32 → Prop} : ma_riiii [.inr x0, .inl x1, .inl x2, .inl x3, .inl x4] f = f x0 x1 x2 x3 x4 := rfl
theorem mc_riiii {avs : List mj_V} {f : Nat → Int32 → Int32 → Int32 → Int32 → Prop} (h : ma_riiii avs f) : ∃ x0 x1 x2 x3 x4, avs = [.inr x0, .inl x1, .inl x2, .inl x3, .inl x4] ∧ f x0 x1 x2 x3 x4 := by
  unfold ma_riiii at h
  split at h
  · exact ⟨_, _, _, _, _, rfl, h⟩
  · exact False.elim h
theorem xf_0 {M0 : mj_M} {r : mj_S} {k : mj_S → mj_M → Prop} : mj_rt 0 (fun _ M' => M' = M0) r k = k r M0 := propext ⟨fun h => h _ rfl, fun h M' e => by rw [e]; exact h⟩
theorem xf_1 {M0 : mj_M} {x : Int32} {r : mj_S} {k : mj_S → mj_M → Prop} : mj_rt 1 (fun v M' => v = .inl x ∧ M' = M0) r k = k (.inl x :: r) M0 := propext ⟨fun h => h x _ ⟨rfl, rfl⟩, fun h y M' e => by
  obtain ⟨e1, e2⟩ := e
  cases e1
  rw [e2]
  exact h⟩
theorem xf_2 {M0 : mj_M} {x : Nat} {r : mj_S} {k : mj_S → mj_M → Prop} : mj_rt 2 (fun v M' => v = .inr x ∧ M' = M0) r k = k (.inr x :: r) M0 := propext ⟨fun h => h x _ ⟨rfl, rfl⟩, fun h y M' e => by
  obtain ⟨e1, e2⟩ := e
  cases e1
  rw [e2]
  exact h⟩
end
section
/-! words of methods and of calls, by their places -/
theorem wc_X0_beAs : Cond.code yX0_beAs cX0_beAs 2 (some .boolean) ∈ mj_gT := mj_gT_of (List.mem_of_getElem? (i := 529) (by decide +kernel)) rfl
theorem wn_X0_beAs : Cond.instanceMethod yX0_beAs ∈ mj_gT := mj_gT_of (List.mem_of_getElem? (i := 528) (by decide +kernel)) rfl
theorem ws_X0_beAs : Cond.selects yX0_beAs.cls yX0_beAs yX0_beAs ∈ mj_gT := mj_gT_of (List.mem_of_getElem? (i := 19) (by decide +kernel)) rfl
theorem wc_X0_copyFrom : Cond.code yX0_copyFrom cX0_copyFrom 2 none ∈ mj_gT := mj_gT_of (List.mem_of_getElem? (i := 341) (by decide +kernel)) rfl
theorem wn_X0_copyFrom : Cond.instanceMethod yX0_copyFrom ∈ mj_gT := mj_gT_of (List.mem_of_getElem? (i := 340) (by decide +kernel)) rfl
theorem ws_X0_copyFrom : Cond.selects yX0_copyFrom.cls yX0_copyFrom yX0_copyFrom ∈ mj_gT := mj_gT_of (List.mem_of_getElem? (i := 5) (by decide +kernel)) rfl
theorem wc_X0_gap : Cond.code yX0_gap cX0_gap 2 (some .int) ∈ mj_gT := mj_gT_of (List.mem_of_getElem? (i := 682) (by decide +kernel)) rfl
theorem wn_X0_gap : Cond.instanceMethod yX0_gap ∈ mj_gT := mj_gT_of (List.mem_of_getElem? (i := 681) (by decide +kernel)) rfl
theorem ws_X0_gap : Cond.selects yX0_gap.cls yX0_gap yX0_gap ∈ mj_gT := mj_gT_of (List.mem_of_getElem? (i := 41) (by decide +kernel)) rfl
theorem wc_X0_mayPress : Cond.code yX0_mayPress cX0_mayPress 2 (some .boolean) ∈ mj_gT := mj_gT_of (List.mem_of_getElem? (i := 678) (by decide +kernel)) rfl
theorem wn_X0_mayPress : Cond.instanceMethod yX0_mayPress ∈ mj_gT := mj_gT_of (List.mem_of_getElem? (i := 677) (by decide +kernel)) rfl
theorem ws_X0_mayPress : Cond.selects yX0_mayPress.cls yX0_mayPress yX0_mayPress ∈ mj_gT := mj_gT_of (List.mem_of_getElem? (i := 40) (by decide +kernel)) rfl
theorem wc_X0_partOf : Cond.code yX0_partOf cX0_partOf 2 (some .int) ∈ mj_gT := mj_gT_of (List.mem_of_getElem? (i := 599) (by decide +kernel)) rfl
theorem wn_X0_partOf : Cond.instanceMethod yX0_partOf ∈ mj_gT := mj_gT_of (List.mem_of_getElem? (i := 598) (by decide +kernel)) rfl
theorem ws_X0_partOf : Cond.selects yX0_partOf.cls yX0_partOf yX0_partOf ∈ mj_gT := mj_gT_of (List.mem_of_getElem? (i := 28) (by decide +kernel)) rfl
theorem wc_X0_put : Cond.code yX0_put cX0_put 4 (some .int) ∈ mj_gT := mj_gT_of (List.mem_of_getElem? (i := 619) (by decide +kernel)) rfl
theorem wn_X0_put : Cond.instanceMethod yX0_put ∈ mj_gT := mj_gT_of (List.mem_of_getElem? (i := 618) (by decide +kernel)) rfl
theorem ws_X0_put : Cond.selects yX0_put.cls yX0_put yX0_put ∈ mj_gT := mj_gT_of (List.mem_of_getElem? (i := 31) (by decide +kernel)) rfl
theorem wc_X0_wakes : Cond.code yX0_wakes cX0_wakes 3 (some .boolean) ∈ mj_gT := mj_gT_of (List.mem_of_getElem? (i := 670) (by decide +kernel)) rfl
theorem wn_X0_wakes : Cond.instanceMethod yX0_wakes ∈ mj_gT := mj_gT_of (List.mem_of_getElem? (i := 669) (by decide +kernel)) rfl
theorem ws_X0_wakes : Cond.selects yX0_wakes.cls yX0_wakes yX0_wakes ∈ mj_gT := mj_gT_of (List.mem_of_getElem? (i := 38) (by decide +kernel)) rfl
theorem wc_X1_fallAsleep : Cond.code yX1_fallAsleep cX1_fallAsleep 5 none ∈ mj_gT := mj_gT_of (List.mem_of_getElem? (i := 648) (by decide +kernel)) rfl
theorem wn_X1_fallAsleep : Cond.instanceMethod yX1_fallAsleep ∈ mj_gT := mj_gT_of (List.mem_of_getElem? (i := 647) (by decide +kernel)) rfl
theorem ws_X1_fallAsleep : Cond.selects yX1_fallAsleep.cls yX1_fallAsleep yX1_fallAsleep ∈ mj_gT := mj_gT_of (List.mem_of_getElem? (i := 33) (by decide +kernel)) rfl
theorem wc_X1_firstToRing : Cond.code yX1_firstToRing cX1_firstToRing 4 (some .int) ∈ mj_gT := mj_gT_of (List.mem_of_getElem? (i := 657) (by decide +kernel)) rfl
theorem wn_X1_firstToRing : Cond.instanceMethod yX1_firstToRing ∈ mj_gT := mj_gT_of (List.mem_of_getElem? (i := 656) (by decide +kernel)) rfl
theorem ws_X1_firstToRing : Cond.selects yX1_firstToRing.cls yX1_firstToRing yX1_firstToRing ∈ mj_gT := mj_gT_of (List.mem_of_getElem? (i := 35) (by decide +kernel)) rfl
theorem wc_X1_live : Cond.code yX1_live cX1_live 9 none ∈ mj_gT := mj_gT_of (List.mem_of_getElem? (i := 644) (by decide +kernel)) rfl
theorem wn_X1_live : Cond.instanceMethod yX1_live ∈ mj_gT := mj_gT_of (List.mem_of_getElem? (i := 643) (by decide +kernel)) rfl
theorem ws_X1_live : Cond.selects yX1_live.cls yX1_live yX1_live ∈ mj_gT := mj_gT_of (List.mem_of_getElem? (i := 32) (by decide +kernel)) rfl
theorem wc_X1_ring : Cond.code yX1_ring cX1_ring 5 (some .boolean) ∈ mj_gT := mj_gT_of (List.mem_of_getElem? (i := 674) (by decide +kernel)) rfl
theorem wn_X1_ring : Cond.instanceMethod yX1_ring ∈ mj_gT := mj_gT_of (List.mem_of_getElem? (i := 673) (by decide +kernel)) rfl
theorem ws_X1_ring : Cond.selects yX1_ring.cls yX1_ring yX1_ring ∈ mj_gT := mj_gT_of (List.mem_of_getElem? (i := 39) (by decide +kernel)) rfl
theorem wc_X2_copyFrom : Cond.code yX2_copyFrom cX2_copyFrom 3 none ∈ mj_gT := mj_gT_of (List.mem_of_getElem? (i := 333) (by decide +kernel)) rfl
theorem wn_X2_copyFrom : Cond.instanceMethod yX2_copyFrom ∈ mj_gT := mj_gT_of (List.mem_of_getElem? (i := 332) (by decide +kernel)) rfl
theorem ws_X2_copyFrom : Cond.selects yX2_copyFrom.cls yX2_copyFrom yX2_copyFrom ∈ mj_gT := mj_gT_of (List.mem_of_getElem? (i := 3) (by decide +kernel)) rfl
theorem wc_X2_depthOf : Cond.code yX2_depthOf cX2_depthOf 3 (some .int) ∈ mj_gT := mj_gT_of (List.mem_of_getElem? (i := 661) (by decide +kernel)) rfl
theorem wn_X2_depthOf : Cond.instanceMethod yX2_depthOf ∈ mj_gT := mj_gT_of (List.mem_of_getElem? (i := 660) (by decide +kernel)) rfl
theorem ws_X2_depthOf : Cond.selects yX2_depthOf.cls yX2_depthOf yX2_depthOf ∈ mj_gT := mj_gT_of (List.mem_of_getElem? (i := 36) (by decide +kernel)) rfl
theorem wc_X2_doneBits : Cond.code yX2_doneBits cX2_doneBits 7 (some .int) ∈ mj_gT := mj_gT_of (List.mem_of_getElem? (i := 714) (by decide +kernel)) rfl
theorem wn_X2_doneBits : Cond.instanceMethod yX2_doneBits ∈ mj_gT := mj_gT_of (List.mem_of_getElem? (i := 713) (by decide +kernel)) rfl
theorem ws_X2_doneBits : Cond.selects yX2_doneBits.cls yX2_doneBits yX2_doneBits ∈ mj_gT := mj_gT_of (List.mem_of_getElem? (i := 43) (by decide +kernel)) rfl
theorem wc_X2_passDay : Cond.code yX2_passDay cX2_passDay 2 none ∈ mj_gT := mj_gT_of (List.mem_of_getElem? (i := 687) (by decide +kernel)) rfl
theorem wn_X2_passDay : Cond.instanceMethod yX2_passDay ∈ mj_gT := mj_gT_of (List.mem_of_getElem? (i := 686) (by decide +kernel)) rfl
theorem ws_X2_passDay : Cond.selects yX2_passDay.cls yX2_passDay yX2_passDay ∈ mj_gT := mj_gT_of (List.mem_of_getElem? (i := 42) (by decide +kernel)) rfl
theorem wc_X2_sumOf : Cond.code yX2_sumOf cX2_sumOf 5 (some .int) ∈ mj_gT := mj_gT_of (List.mem_of_getElem? (i := 652) (by decide +kernel)) rfl
theorem wn_X2_sumOf : Cond.instanceMethod yX2_sumOf ∈ mj_gT := mj_gT_of (List.mem_of_getElem? (i := 651) (by decide +kernel)) rfl
theorem ws_X2_sumOf : Cond.selects yX2_sumOf.cls yX2_sumOf yX2_sumOf ∈ mj_gT := mj_gT_of (List.mem_of_getElem? (i := 34) (by decide +kernel)) rfl
theorem wc_X2_take : Cond.code yX2_take cX2_take 3 (some .boolean) ∈ mj_gT := mj_gT_of (List.mem_of_getElem? (i := 506) (by decide +kernel)) rfl
theorem wn_X2_take : Cond.instanceMethod yX2_take ∈ mj_gT := mj_gT_of (List.mem_of_getElem? (i := 505) (by decide +kernel)) rfl
theorem ws_X2_take : Cond.selects yX2_take.cls yX2_take yX2_take ∈ mj_gT := mj_gT_of (List.mem_of_getElem? (i := 15) (by decide +kernel)) rfl
theorem wc_X2_takeBus : Cond.code yX2_takeBus cX2_takeBus 2 (some .boolean) ∈ mj_gT := mj_gT_of (List.mem_of_getElem? (i := 551) (by decide +kernel)) rfl
theorem wn_X2_takeBus : Cond.instanceMethod yX2_takeBus ∈ mj_gT := mj_gT_of (List.mem_of_getElem? (i := 550) (by decide +kernel)) rfl
theorem ws_X2_takeBus : Cond.selects yX2_takeBus.cls yX2_takeBus yX2_takeBus ∈ mj_gT := mj_gT_of (List.mem_of_getElem? (i := 22) (by decide +kernel)) rfl
theorem wc_X2_takeClock : Cond.code yX2_takeClock cX2_takeClock 2 (some .boolean) ∈ mj_gT := mj_gT_of (List.mem_of_getElem? (i := 525) (by decide +kernel)) rfl
theorem wn_X2_takeClock : Cond.instanceMethod yX2_takeClock ∈ mj_gT := mj_gT_of (List.mem_of_getElem? (i := 524) (by decide +kernel)) rfl
theorem ws_X2_takeClock : Cond.selects yX2_takeClock.cls yX2_takeClock yX2_takeClock ∈ mj_gT := mj_gT_of (List.mem_of_getElem? (i := 18) (by decide +kernel)) rfl
theorem wc_X2_takeFirm : Cond.code yX2_takeFirm cX2_takeFirm 2 (some .boolean) ∈ mj_gT := mj_gT_of (List.mem_of_getElem? (i := 560) (by decide +kernel)) rfl
theorem wn_X2_takeFirm : Cond.instanceMethod yX2_takeFirm ∈ mj_gT := mj_gT_of (List.mem_of_getElem? (i := 559) (by decide +kernel)) rfl
theorem ws_X2_takeFirm : Cond.selects yX2_takeFirm.cls yX2_takeFirm yX2_takeFirm ∈ mj_gT := mj_gT_of (List.mem_of_getElem? (i := 23) (by decide +kernel)) rfl
theorem wc_X2_takeSleeper : Cond.code yX2_takeSleeper cX2_takeSleeper 2 (some .boolean) ∈ mj_gT := mj_gT_of (List.mem_of_getElem? (i := 510) (by decide +kernel)) rfl
theorem wn_X2_takeSleeper : Cond.instanceMethod yX2_takeSleeper ∈ mj_gT := mj_gT_of (List.mem_of_getElem? (i := 509) (by decide +kernel)) rfl
theorem ws_X2_takeSleeper : Cond.selects yX2_takeSleeper.cls yX2_takeSleeper yX2_takeSleeper ∈ mj_gT := mj_gT_of (List.mem_of_getElem? (i := 16) (by decide +kernel)) rfl
theorem wc_X2_takeTask : Cond.code yX2_takeTask cX2_takeTask 2 (some .boolean) ∈ mj_gT := mj_gT_of (List.mem_of_getElem? (i := 538) (by decide +kernel)) rfl
theorem wn_X2_takeTask : Cond.instanceMethod yX2_takeTask ∈ mj_gT := mj_gT_of (List.mem_of_getElem? (i := 537) (by decide +kernel)) rfl
theorem ws_X2_takeTask : Cond.selects yX2_takeTask.cls yX2_takeTask yX2_takeTask ∈ mj_gT := mj_gT_of (List.mem_of_getElem? (i := 20) (by decide +kernel)) rfl
theorem wc_X2_worthDone : Cond.code yX2_worthDone cX2_worthDone 2 (some .int) ∈ mj_gT := mj_gT_of (List.mem_of_getElem? (i := 733) (by decide +kernel)) rfl
theorem wn_X2_worthDone : Cond.instanceMethod yX2_worthDone ∈ mj_gT := mj_gT_of (List.mem_of_getElem? (i := 732) (by decide +kernel)) rfl
theorem ws_X2_worthDone : Cond.selects yX2_worthDone.cls yX2_worthDone yX2_worthDone ∈ mj_gT := mj_gT_of (List.mem_of_getElem? (i := 46) (by decide +kernel)) rfl
theorem wc_X3_beAs : Cond.code yX3_beAs cX3_beAs 2 (some .boolean) ∈ mj_gT := mj_gT_of (List.mem_of_getElem? (i := 514) (by decide +kernel)) rfl
theorem wn_X3_beAs : Cond.instanceMethod yX3_beAs ∈ mj_gT := mj_gT_of (List.mem_of_getElem? (i := 513) (by decide +kernel)) rfl
theorem ws_X3_beAs : Cond.selects yX3_beAs.cls yX3_beAs yX3_beAs ∈ mj_gT := mj_gT_of (List.mem_of_getElem? (i := 17) (by decide +kernel)) rfl
theorem wc_X3_copyFrom : Cond.code yX3_copyFrom cX3_copyFrom 2 none ∈ mj_gT := mj_gT_of (List.mem_of_getElem? (i := 337) (by decide +kernel)) rfl
theorem wn_X3_copyFrom : Cond.instanceMethod yX3_copyFrom ∈ mj_gT := mj_gT_of (List.mem_of_getElem? (i := 336) (by decide +kernel)) rfl
theorem ws_X3_copyFrom : Cond.selects yX3_copyFrom.cls yX3_copyFrom yX3_copyFrom ∈ mj_gT := mj_gT_of (List.mem_of_getElem? (i := 4) (by decide +kernel)) rfl
theorem wc_X3_depthAt : Cond.code yX3_depthAt cX3_depthAt 6 (some .int) ∈ mj_gT := mj_gT_of (List.mem_of_getElem? (i := 665) (by decide +kernel)) rfl
theorem wn_X3_depthAt : Cond.instanceMethod yX3_depthAt ∈ mj_gT := mj_gT_of (List.mem_of_getElem? (i := 664) (by decide +kernel)) rfl
theorem ws_X3_depthAt : Cond.selects yX3_depthAt.cls yX3_depthAt yX3_depthAt ∈ mj_gT := mj_gT_of (List.mem_of_getElem? (i := 37) (by decide +kernel)) rfl
theorem wc_X3_partOf : Cond.code yX3_partOf cX3_partOf 2 (some .int) ∈ mj_gT := mj_gT_of (List.mem_of_getElem? (i := 587) (by decide +kernel)) rfl
theorem wn_X3_partOf : Cond.instanceMethod yX3_partOf ∈ mj_gT := mj_gT_of (List.mem_of_getElem? (i := 586) (by decide +kernel)) rfl
theorem ws_X3_partOf : Cond.selects yX3_partOf.cls yX3_partOf yX3_partOf ∈ mj_gT := mj_gT_of (List.mem_of_getElem? (i := 26) (by decide +kernel)) rfl
theorem wc_X4_beAs : Cond.code yX4_beAs cX4_beAs 2 (some .boolean) ∈ mj_gT := mj_gT_of (List.mem_of_getElem? (i := 542) (by decide +kernel)) rfl
theorem wn_X4_beAs : Cond.instanceMethod yX4_beAs ∈ mj_gT := mj_gT_of (List.mem_of_getElem? (i := 541) (by decide +kernel)) rfl
theorem ws_X4_beAs : Cond.selects yX4_beAs.cls yX4_beAs yX4_beAs ∈ mj_gT := mj_gT_of (List.mem_of_getElem? (i := 21) (by decide +kernel)) rfl
theorem wc_X4_copyFrom : Cond.code yX4_copyFrom cX4_copyFrom 2 none ∈ mj_gT := mj_gT_of (List.mem_of_getElem? (i := 345) (by decide +kernel)) rfl
theorem wn_X4_copyFrom : Cond.instanceMethod yX4_copyFrom ∈ mj_gT := mj_gT_of (List.mem_of_getElem? (i := 344) (by decide +kernel)) rfl
theorem ws_X4_copyFrom : Cond.selects yX4_copyFrom.cls yX4_copyFrom yX4_copyFrom ∈ mj_gT := mj_gT_of (List.mem_of_getElem? (i := 6) (by decide +kernel)) rfl
theorem wc_X4_partOf : Cond.code yX4_partOf cX4_partOf 2 (some .int) ∈ mj_gT := mj_gT_of (List.mem_of_getElem? (i := 611) (by decide +kernel)) rfl
theorem wn_X4_partOf : Cond.instanceMethod yX4_partOf ∈ mj_gT := mj_gT_of (List.mem_of_getElem? (i := 610) (by decide +kernel)) rfl
theorem ws_X4_partOf : Cond.selects yX4_partOf.cls yX4_partOf yX4_partOf ∈ mj_gT := mj_gT_of (List.mem_of_getElem? (i := 30) (by decide +kernel)) rfl
theorem wc_X5_add : Cond.code yX5_add cX5_add 2 (some .int) ∈ mj_gT := mj_gT_of (List.mem_of_getElem? (i := 324) (by decide +kernel)) rfl
theorem wn_X5_add : Cond.instanceMethod yX5_add ∈ mj_gT := mj_gT_of (List.mem_of_getElem? (i := 323) (by decide +kernel)) rfl
theorem ws_X5_add : Cond.selects yX5_add.cls yX5_add yX5_add ∈ mj_gT := mj_gT_of (List.mem_of_getElem? (i := 2) (by decide +kernel)) rfl
theorem wc_X5_forget : Cond.code yX5_forget cX5_forget 1 none ∈ mj_gT := mj_gT_of (List.mem_of_getElem? (i := 568) (by decide +kernel)) rfl
theorem wn_X5_forget : Cond.instanceMethod yX5_forget ∈ mj_gT := mj_gT_of (List.mem_of_getElem? (i := 567) (by decide +kernel)) rfl
theorem ws_X5_forget : Cond.selects yX5_forget.cls yX5_forget yX5_forget ∈ mj_gT := mj_gT_of (List.mem_of_getElem? (i := 24) (by decide +kernel)) rfl
theorem wc_X5_formOf : Cond.code yX5_formOf cX5_formOf 1 (some (.object "java/lang/String")) ∈ mj_gT := mj_gT_of (List.mem_of_getElem? (i := 360) (by decide +kernel)) rfl
theorem wn_X5_formOf : Cond.static yX5_formOf ∈ mj_gT := mj_gT_of (List.mem_of_getElem? (i := 359) (by decide +kernel)) rfl
theorem wc_X5_isDigit : Cond.code yX5_isDigit cX5_isDigit 1 (some .boolean) ∈ mj_gT := mj_gT_of (List.mem_of_getElem? (i := 498) (by decide +kernel)) rfl
theorem wn_X5_isDigit : Cond.static yX5_isDigit ∈ mj_gT := mj_gT_of (List.mem_of_getElem? (i := 497) (by decide +kernel)) rfl
theorem wc_X5_isFull : Cond.code yX5_isFull cX5_isFull 1 (some .boolean) ∈ mj_gT := mj_gT_of (List.mem_of_getElem? (i := 316) (by decide +kernel)) rfl
theorem wn_X5_isFull : Cond.instanceMethod yX5_isFull ∈ mj_gT := mj_gT_of (List.mem_of_getElem? (i := 315) (by decide +kernel)) rfl
theorem ws_X5_isFull : Cond.selects yX5_isFull.cls yX5_isFull yX5_isFull ∈ mj_gT := mj_gT_of (List.mem_of_getElem? (i := 0) (by decide +kernel)) rfl
theorem wc_X5_keep : Cond.code yX5_keep cX5_keep 2 none ∈ mj_gT := mj_gT_of (List.mem_of_getElem? (i := 490) (by decide +kernel)) rfl
theorem wn_X5_keep : Cond.instanceMethod yX5_keep ∈ mj_gT := mj_gT_of (List.mem_of_getElem? (i := 489) (by decide +kernel)) rfl
theorem ws_X5_keep : Cond.selects yX5_keep.cls yX5_keep yX5_keep ∈ mj_gT := mj_gT_of (List.mem_of_getElem? (i := 12) (by decide +kernel)) rfl
theorem wc_X5_letterAt : Cond.code yX5_letterAt cX5_letterAt 2 (some .int) ∈ mj_gT := mj_gT_of (List.mem_of_getElem? (i := 357) (by decide +kernel)) rfl
theorem wn_X5_letterAt : Cond.instanceMethod yX5_letterAt ∈ mj_gT := mj_gT_of (List.mem_of_getElem? (i := 356) (by decide +kernel)) rfl
theorem ws_X5_letterAt : Cond.selects yX5_letterAt.cls yX5_letterAt yX5_letterAt ∈ mj_gT := mj_gT_of (List.mem_of_getElem? (i := 9) (by decide +kernel)) rfl
theorem wc_X5_readKind : Cond.code yX5_readKind cX5_readKind 4 (some .boolean) ∈ mj_gT := mj_gT_of (List.mem_of_getElem? (i := 427) (by decide +kernel)) rfl
theorem wn_X5_readKind : Cond.instanceMethod yX5_readKind ∈ mj_gT := mj_gT_of (List.mem_of_getElem? (i := 426) (by decide +kernel)) rfl
theorem ws_X5_readKind : Cond.selects yX5_readKind.cls yX5_readKind yX5_readKind ∈ mj_gT := mj_gT_of (List.mem_of_getElem? (i := 11) (by decide +kernel)) rfl
theorem wc_X5_readNumber : Cond.code yX5_readNumber cX5_readNumber 5 (some .boolean) ∈ mj_gT := mj_gT_of (List.mem_of_getElem? (i := 495) (by decide +kernel)) rfl
theorem wn_X5_readNumber : Cond.instanceMethod yX5_readNumber ∈ mj_gT := mj_gT_of (List.mem_of_getElem? (i := 494) (by decide +kernel)) rfl
theorem ws_X5_readNumber : Cond.selects yX5_readNumber.cls yX5_readNumber yX5_readNumber ∈ mj_gT := mj_gT_of (List.mem_of_getElem? (i := 13) (by decide +kernel)) rfl
theorem wc_X5_readPart : Cond.code yX5_readPart cX5_readPart 2 (some .boolean) ∈ mj_gT := mj_gT_of (List.mem_of_getElem? (i := 422) (by decide +kernel)) rfl
theorem wn_X5_readPart : Cond.instanceMethod yX5_readPart ∈ mj_gT := mj_gT_of (List.mem_of_getElem? (i := 421) (by decide +kernel)) rfl
theorem ws_X5_readPart : Cond.selects yX5_readPart.cls yX5_readPart yX5_readPart ∈ mj_gT := mj_gT_of (List.mem_of_getElem? (i := 10) (by decide +kernel)) rfl
theorem wc_X5_readSign : Cond.code yX5_readSign cX5_readSign 2 (some .boolean) ∈ mj_gT := mj_gT_of (List.mem_of_getElem? (i := 502) (by decide +kernel)) rfl
theorem wn_X5_readSign : Cond.instanceMethod yX5_readSign ∈ mj_gT := mj_gT_of (List.mem_of_getElem? (i := 501) (by decide +kernel)) rfl
theorem ws_X5_readSign : Cond.selects yX5_readSign.cls yX5_readSign yX5_readSign ∈ mj_gT := mj_gT_of (List.mem_of_getElem? (i := 14) (by decide +kernel)) rfl
theorem wc_X5_readStatement : Cond.code yX5_readStatement cX5_readStatement 3 (some .boolean) ∈ mj_gT := mj_gT_of (List.mem_of_getElem? (i := 353) (by decide +kernel)) rfl
theorem wn_X5_readStatement : Cond.instanceMethod yX5_readStatement ∈ mj_gT := mj_gT_of (List.mem_of_getElem? (i := 352) (by decide +kernel)) rfl
theorem ws_X5_readStatement : Cond.selects yX5_readStatement.cls yX5_readStatement yX5_readStatement ∈ mj_gT := mj_gT_of (List.mem_of_getElem? (i := 8) (by decide +kernel)) rfl
theorem wc_X5_tellInto : Cond.code yX5_tellInto cX5_tellInto 5 (some .int) ∈ mj_gT := mj_gT_of (List.mem_of_getElem? (i := 349) (by decide +kernel)) rfl
theorem wn_X5_tellInto : Cond.instanceMethod yX5_tellInto ∈ mj_gT := mj_gT_of (List.mem_of_getElem? (i := 348) (by decide +kernel)) rfl
theorem ws_X5_tellInto : Cond.selects yX5_tellInto.cls yX5_tellInto yX5_tellInto ∈ mj_gT := mj_gT_of (List.mem_of_getElem? (i := 7) (by decide +kernel)) rfl
theorem wc_X6_areWithin : Cond.code yX6_areWithin cX6_areWithin 4 (some .boolean) ∈ mj_gT := mj_gT_of (List.mem_of_getElem? (i := 521) (by decide +kernel)) rfl
theorem wn_X6_areWithin : Cond.static yX6_areWithin ∈ mj_gT := mj_gT_of (List.mem_of_getElem? (i := 520) (by decide +kernel)) rfl
theorem wc_X6_back : Cond.code yX6_back cX6_back 7 (some .int) ∈ mj_gT := mj_gT_of (List.mem_of_getElem? (i := 774) (by decide +kernel)) rfl
theorem wn_X6_back : Cond.instanceMethod yX6_back ∈ mj_gT := mj_gT_of (List.mem_of_getElem? (i := 772) (by decide +kernel)) rfl
theorem ws_X6_back : Cond.selects yX6_back.cls yX6_back yX6_back ∈ mj_gT := mj_gT_of (List.mem_of_getElem? (i := 773) (by decide +kernel)) rfl
theorem wc_X6_bestOf : Cond.code yX6_bestOf cX6_bestOf 11 (some .int) ∈ mj_gT := mj_gT_of (List.mem_of_getElem? (i := 746) (by decide +kernel)) rfl
theorem wn_X6_bestOf : Cond.instanceMethod yX6_bestOf ∈ mj_gT := mj_gT_of (List.mem_of_getElem? (i := 745) (by decide +kernel)) rfl
theorem ws_X6_bestOf : Cond.selects yX6_bestOf.cls yX6_bestOf yX6_bestOf ∈ mj_gT := mj_gT_of (List.mem_of_getElem? (i := 47) (by decide +kernel)) rfl
theorem wc_X6_bet : Cond.code yX6_bet cX6_bet 4 (some .int) ∈ mj_gT := mj_gT_of (List.mem_of_getElem? (i := 766) (by decide +kernel)) rfl
theorem wn_X6_bet : Cond.instanceMethod yX6_bet ∈ mj_gT := mj_gT_of (List.mem_of_getElem? (i := 764) (by decide +kernel)) rfl
theorem ws_X6_bet : Cond.selects yX6_bet.cls yX6_bet yX6_bet ∈ mj_gT := mj_gT_of (List.mem_of_getElem? (i := 765) (by decide +kernel)) rfl
theorem wc_X6_bus : Cond.code yX6_bus cX6_bus 4 (some .int) ∈ mj_gT := mj_gT_of (List.mem_of_getElem? (i := 632) (by decide +kernel)) rfl
theorem wn_X6_bus : Cond.instanceMethod yX6_bus ∈ mj_gT := mj_gT_of (List.mem_of_getElem? (i := 630) (by decide +kernel)) rfl
theorem ws_X6_bus : Cond.selects yX6_bus.cls yX6_bus yX6_bus ∈ mj_gT := mj_gT_of (List.mem_of_getElem? (i := 631) (by decide +kernel)) rfl
theorem wc_X6_clear : Cond.code yX6_clear cX6_clear 2 (some .int) ∈ mj_gT := mj_gT_of (List.mem_of_getElem? (i := 802) (by decide +kernel)) rfl
theorem wn_X6_clear : Cond.instanceMethod yX6_clear ∈ mj_gT := mj_gT_of (List.mem_of_getElem? (i := 800) (by decide +kernel)) rfl
theorem ws_X6_clear : Cond.selects yX6_clear.cls yX6_clear yX6_clear ∈ mj_gT := mj_gT_of (List.mem_of_getElem? (i := 801) (by decide +kernel)) rfl
theorem wc_X6_clock : Cond.code yX6_clock cX6_clock 4 (some .int) ∈ mj_gT := mj_gT_of (List.mem_of_getElem? (i := 591) (by decide +kernel)) rfl
theorem wn_X6_clock : Cond.instanceMethod yX6_clock ∈ mj_gT := mj_gT_of (List.mem_of_getElem? (i := 589) (by decide +kernel)) rfl
theorem ws_X6_clock : Cond.selects yX6_clock.cls yX6_clock yX6_clock ∈ mj_gT := mj_gT_of (List.mem_of_getElem? (i := 590) (by decide +kernel)) rfl
theorem wc_X6_cost : Cond.code yX6_cost cX6_cost 3 (some .int) ∈ mj_gT := mj_gT_of (List.mem_of_getElem? (i := 738) (by decide +kernel)) rfl
theorem wn_X6_cost : Cond.instanceMethod yX6_cost ∈ mj_gT := mj_gT_of (List.mem_of_getElem? (i := 736) (by decide +kernel)) rfl
theorem ws_X6_cost : Cond.selects yX6_cost.cls yX6_cost yX6_cost ∈ mj_gT := mj_gT_of (List.mem_of_getElem? (i := 737) (by decide +kernel)) rfl
theorem wc_X6_count : Cond.code yX6_count cX6_count 2 (some .int) ∈ mj_gT := mj_gT_of (List.mem_of_getElem? (i := 825) (by decide +kernel)) rfl
theorem wn_X6_count : Cond.instanceMethod yX6_count ∈ mj_gT := mj_gT_of (List.mem_of_getElem? (i := 823) (by decide +kernel)) rfl
theorem ws_X6_count : Cond.selects yX6_count.cls yX6_count yX6_count ∈ mj_gT := mj_gT_of (List.mem_of_getElem? (i := 824) (by decide +kernel)) rfl
theorem wc_X6_depth : Cond.code yX6_depth cX6_depth 4 (some .int) ∈ mj_gT := mj_gT_of (List.mem_of_getElem? (i := 693) (by decide +kernel)) rfl
theorem wn_X6_depth : Cond.instanceMethod yX6_depth ∈ mj_gT := mj_gT_of (List.mem_of_getElem? (i := 691) (by decide +kernel)) rfl
theorem ws_X6_depth : Cond.selects yX6_depth.cls yX6_depth yX6_depth ∈ mj_gT := mj_gT_of (List.mem_of_getElem? (i := 692) (by decide +kernel)) rfl
theorem wc_X6_done : Cond.code yX6_done cX6_done 5 (some .int) ∈ mj_gT := mj_gT_of (List.mem_of_getElem? (i := 710) (by decide +kernel)) rfl
theorem wn_X6_done : Cond.instanceMethod yX6_done ∈ mj_gT := mj_gT_of (List.mem_of_getElem? (i := 708) (by decide +kernel)) rfl
theorem ws_X6_done : Cond.selects yX6_done.cls yX6_done yX6_done ∈ mj_gT := mj_gT_of (List.mem_of_getElem? (i := 709) (by decide +kernel)) rfl
theorem wc_X6_drawSets : Cond.code yX6_drawSets cX6_drawSets 5 (some .int) ∈ mj_gT := mj_gT_of (List.mem_of_getElem? (i := 810) (by decide +kernel)) rfl
theorem wn_X6_drawSets : Cond.instanceMethod yX6_drawSets ∈ mj_gT := mj_gT_of (List.mem_of_getElem? (i := 809) (by decide +kernel)) rfl
theorem ws_X6_drawSets : Cond.selects yX6_drawSets.cls yX6_drawSets yX6_drawSets ∈ mj_gT := mj_gT_of (List.mem_of_getElem? (i := 50) (by decide +kernel)) rfl
theorem wc_X6_evening : Cond.code yX6_evening cX6_evening 5 (some .int) ∈ mj_gT := mj_gT_of (List.mem_of_getElem? (i := 742) (by decide +kernel)) rfl
theorem wn_X6_evening : Cond.instanceMethod yX6_evening ∈ mj_gT := mj_gT_of (List.mem_of_getElem? (i := 740) (by decide +kernel)) rfl
theorem ws_X6_evening : Cond.selects yX6_evening.cls yX6_evening yX6_evening ∈ mj_gT := mj_gT_of (List.mem_of_getElem? (i := 741) (by decide +kernel)) rfl
theorem wc_X6_every : Cond.code yX6_every cX6_every 4 (some .int) ∈ mj_gT := mj_gT_of (List.mem_of_getElem? (i := 624) (by decide +kernel)) rfl
theorem wn_X6_every : Cond.instanceMethod yX6_every ∈ mj_gT := mj_gT_of (List.mem_of_getElem? (i := 622) (by decide +kernel)) rfl
theorem ws_X6_every : Cond.selects yX6_every.cls yX6_every yX6_every ∈ mj_gT := mj_gT_of (List.mem_of_getElem? (i := 623) (by decide +kernel)) rfl
theorem wc_X6_firm : Cond.code yX6_firm cX6_firm 4 (some .int) ∈ mj_gT := mj_gT_of (List.mem_of_getElem? (i := 628) (by decide +kernel)) rfl
theorem wn_X6_firm : Cond.instanceMethod yX6_firm ∈ mj_gT := mj_gT_of (List.mem_of_getElem? (i := 626) (by decide +kernel)) rfl
theorem ws_X6_firm : Cond.selects yX6_firm.cls yX6_firm yX6_firm ∈ mj_gT := mj_gT_of (List.mem_of_getElem? (i := 627) (by decide +kernel)) rfl
theorem wc_X6_firms : Cond.code yX6_firms cX6_firms 7 (some .int) ∈ mj_gT := mj_gT_of (List.mem_of_getElem? (i := 798) (by decide +kernel)) rfl
theorem wn_X6_firms : Cond.instanceMethod yX6_firms ∈ mj_gT := mj_gT_of (List.mem_of_getElem? (i := 796) (by decide +kernel)) rfl
theorem ws_X6_firms : Cond.selects yX6_firms.cls yX6_firms yX6_firms ∈ mj_gT := mj_gT_of (List.mem_of_getElem? (i := 797) (by decide +kernel)) rfl
theorem wc_X6_first : Cond.code yX6_first cX6_first 2 (some .int) ∈ mj_gT := mj_gT_of (List.mem_of_getElem? (i := 583) (by decide +kernel)) rfl
theorem wn_X6_first : Cond.static yX6_first ∈ mj_gT := mj_gT_of (List.mem_of_getElem? (i := 582) (by decide +kernel)) rfl
theorem wc_X6_firstWrong : Cond.code yX6_firstWrong cX6_firstWrong 3 (some .int) ∈ mj_gT := mj_gT_of (List.mem_of_getElem? (i := 794) (by decide +kernel)) rfl
theorem wn_X6_firstWrong : Cond.instanceMethod yX6_firstWrong ∈ mj_gT := mj_gT_of (List.mem_of_getElem? (i := 793) (by decide +kernel)) rfl
theorem ws_X6_firstWrong : Cond.selects yX6_firstWrong.cls yX6_firstWrong yX6_firstWrong ∈ mj_gT := mj_gT_of (List.mem_of_getElem? (i := 49) (by decide +kernel)) rfl
theorem wc_X6_heardBy : Cond.code yX6_heardBy cX6_heardBy 5 (some .int) ∈ mj_gT := mj_gT_of (List.mem_of_getElem? (i := 758) (by decide +kernel)) rfl
theorem wn_X6_heardBy : Cond.instanceMethod yX6_heardBy ∈ mj_gT := mj_gT_of (List.mem_of_getElem? (i := 757) (by decide +kernel)) rfl
theorem ws_X6_heardBy : Cond.selects yX6_heardBy.cls yX6_heardBy yX6_heardBy ∈ mj_gT := mj_gT_of (List.mem_of_getElem? (i := 48) (by decide +kernel)) rfl
theorem wc_X6_hears : Cond.code yX6_hears cX6_hears 3 (some .int) ∈ mj_gT := mj_gT_of (List.mem_of_getElem? (i := 754) (by decide +kernel)) rfl
theorem wn_X6_hears : Cond.instanceMethod yX6_hears ∈ mj_gT := mj_gT_of (List.mem_of_getElem? (i := 752) (by decide +kernel)) rfl
theorem ws_X6_hears : Cond.selects yX6_hears.cls yX6_hears yX6_hears ∈ mj_gT := mj_gT_of (List.mem_of_getElem? (i := 753) (by decide +kernel)) rfl
theorem wc_X6_image : Cond.code yX6_image cX6_image 1 (some .int) ∈ mj_gT := mj_gT_of (List.mem_of_getElem? (i := 817) (by decide +kernel)) rfl
theorem wn_X6_image : Cond.instanceMethod yX6_image ∈ mj_gT := mj_gT_of (List.mem_of_getElem? (i := 815) (by decide +kernel)) rfl
theorem ws_X6_image : Cond.selects yX6_image.cls yX6_image yX6_image ∈ mj_gT := mj_gT_of (List.mem_of_getElem? (i := 816) (by decide +kernel)) rfl
theorem wc_X6_judge : Cond.code yX6_judge cX6_judge 3 (some .int) ∈ mj_gT := mj_gT_of (List.mem_of_getElem? (i := 790) (by decide +kernel)) rfl
theorem wn_X6_judge : Cond.instanceMethod yX6_judge ∈ mj_gT := mj_gT_of (List.mem_of_getElem? (i := 788) (by decide +kernel)) rfl
theorem ws_X6_judge : Cond.selects yX6_judge.cls yX6_judge yX6_judge ∈ mj_gT := mj_gT_of (List.mem_of_getElem? (i := 789) (by decide +kernel)) rfl
theorem wc_X6_leans : Cond.code yX6_leans cX6_leans 6 (some .int) ∈ mj_gT := mj_gT_of (List.mem_of_getElem? (i := 770) (by decide +kernel)) rfl
theorem wn_X6_leans : Cond.instanceMethod yX6_leans ∈ mj_gT := mj_gT_of (List.mem_of_getElem? (i := 768) (by decide +kernel)) rfl
theorem ws_X6_leans : Cond.selects yX6_leans.cls yX6_leans yX6_leans ∈ mj_gT := mj_gT_of (List.mem_of_getElem? (i := 769) (by decide +kernel)) rfl
theorem wc_X6_letter : Cond.code yX6_letter cX6_letter 3 (some .int) ∈ mj_gT := mj_gT_of (List.mem_of_getElem? (i := 309) (by decide +kernel)) rfl
theorem wn_X6_letter : Cond.instanceMethod yX6_letter ∈ mj_gT := mj_gT_of (List.mem_of_getElem? (i := 307) (by decide +kernel)) rfl
theorem ws_X6_letter : Cond.selects yX6_letter.cls yX6_letter yX6_letter ∈ mj_gT := mj_gT_of (List.mem_of_getElem? (i := 308) (by decide +kernel)) rfl
theorem wc_X6_lots : Cond.code yX6_lots cX6_lots 8 (some .int) ∈ mj_gT := mj_gT_of (List.mem_of_getElem? (i := 806) (by decide +kernel)) rfl
theorem wn_X6_lots : Cond.instanceMethod yX6_lots ∈ mj_gT := mj_gT_of (List.mem_of_getElem? (i := 804) (by decide +kernel)) rfl
theorem ws_X6_lots : Cond.selects yX6_lots.cls yX6_lots yX6_lots ∈ mj_gT := mj_gT_of (List.mem_of_getElem? (i := 805) (by decide +kernel)) rfl
theorem wc_X6_moment : Cond.code yX6_moment cX6_moment 7 (some .int) ∈ mj_gT := mj_gT_of (List.mem_of_getElem? (i := 778) (by decide +kernel)) rfl
theorem wn_X6_moment : Cond.instanceMethod yX6_moment ∈ mj_gT := mj_gT_of (List.mem_of_getElem? (i := 776) (by decide +kernel)) rfl
theorem ws_X6_moment : Cond.selects yX6_moment.cls yX6_moment yX6_moment ∈ mj_gT := mj_gT_of (List.mem_of_getElem? (i := 777) (by decide +kernel)) rfl
theorem wc_X6_night : Cond.code yX6_night cX6_night 1 (some .int) ∈ mj_gT := mj_gT_of (List.mem_of_getElem? (i := 640) (by decide +kernel)) rfl
theorem wn_X6_night : Cond.instanceMethod yX6_night ∈ mj_gT := mj_gT_of (List.mem_of_getElem? (i := 638) (by decide +kernel)) rfl
theorem ws_X6_night : Cond.selects yX6_night.cls yX6_night yX6_night ∈ mj_gT := mj_gT_of (List.mem_of_getElem? (i := 639) (by decide +kernel)) rfl
theorem wc_X6_noClock : Cond.code yX6_noClock cX6_noClock 2 (some .int) ∈ mj_gT := mj_gT_of (List.mem_of_getElem? (i := 595) (by decide +kernel)) rfl
theorem wn_X6_noClock : Cond.instanceMethod yX6_noClock ∈ mj_gT := mj_gT_of (List.mem_of_getElem? (i := 594) (by decide +kernel)) rfl
theorem ws_X6_noClock : Cond.selects yX6_noClock.cls yX6_noClock yX6_noClock ∈ mj_gT := mj_gT_of (List.mem_of_getElem? (i := 27) (by decide +kernel)) rfl
theorem wc_X6_noSleeper : Cond.code yX6_noSleeper cX6_noSleeper 2 (some .int) ∈ mj_gT := mj_gT_of (List.mem_of_getElem? (i := 577) (by decide +kernel)) rfl
theorem wn_X6_noSleeper : Cond.instanceMethod yX6_noSleeper ∈ mj_gT := mj_gT_of (List.mem_of_getElem? (i := 576) (by decide +kernel)) rfl
theorem ws_X6_noSleeper : Cond.selects yX6_noSleeper.cls yX6_noSleeper yX6_noSleeper ∈ mj_gT := mj_gT_of (List.mem_of_getElem? (i := 25) (by decide +kernel)) rfl
theorem wc_X6_noTask : Cond.code yX6_noTask cX6_noTask 2 (some .int) ∈ mj_gT := mj_gT_of (List.mem_of_getElem? (i := 607) (by decide +kernel)) rfl
theorem wn_X6_noTask : Cond.instanceMethod yX6_noTask ∈ mj_gT := mj_gT_of (List.mem_of_getElem? (i := 606) (by decide +kernel)) rfl
theorem ws_X6_noTask : Cond.selects yX6_noTask.cls yX6_noTask yX6_noTask ∈ mj_gT := mj_gT_of (List.mem_of_getElem? (i := 29) (by decide +kernel)) rfl
theorem wc_X6_often : Cond.code yX6_often cX6_often 7 (some .int) ∈ mj_gT := mj_gT_of (List.mem_of_getElem? (i := 750) (by decide +kernel)) rfl
theorem wn_X6_often : Cond.instanceMethod yX6_often ∈ mj_gT := mj_gT_of (List.mem_of_getElem? (i := 748) (by decide +kernel)) rfl
theorem ws_X6_often : Cond.selects yX6_often.cls yX6_often yX6_often ∈ mj_gT := mj_gT_of (List.mem_of_getElem? (i := 749) (by decide +kernel)) rfl
theorem wc_X6_on : Cond.code yX6_on cX6_on 1 (some .int) ∈ mj_gT := mj_gT_of (List.mem_of_getElem? (i := 821) (by decide +kernel)) rfl
theorem wn_X6_on : Cond.instanceMethod yX6_on ∈ mj_gT := mj_gT_of (List.mem_of_getElem? (i := 819) (by decide +kernel)) rfl
theorem ws_X6_on : Cond.selects yX6_on.cls yX6_on yX6_on ∈ mj_gT := mj_gT_of (List.mem_of_getElem? (i := 820) (by decide +kernel)) rfl
theorem wc_X6_otherThan : Cond.code yX6_otherThan cX6_otherThan 2 (some .int) ∈ mj_gT := mj_gT_of (List.mem_of_getElem? (i := 580) (by decide +kernel)) rfl
theorem wn_X6_otherThan : Cond.static yX6_otherThan ∈ mj_gT := mj_gT_of (List.mem_of_getElem? (i := 579) (by decide +kernel)) rfl
theorem wc_X6_outside : Cond.code yX6_outside cX6_outside 3 (some .int) ∈ mj_gT := mj_gT_of (List.mem_of_getElem? (i := 312) (by decide +kernel)) rfl
theorem wn_X6_outside : Cond.static yX6_outside ∈ mj_gT := mj_gT_of (List.mem_of_getElem? (i := 311) (by decide +kernel)) rfl
theorem wc_X6_presses : Cond.code yX6_presses cX6_presses 3 (some .int) ∈ mj_gT := mj_gT_of (List.mem_of_getElem? (i := 702) (by decide +kernel)) rfl
theorem wn_X6_presses : Cond.instanceMethod yX6_presses ∈ mj_gT := mj_gT_of (List.mem_of_getElem? (i := 700) (by decide +kernel)) rfl
theorem ws_X6_presses : Cond.selects yX6_presses.cls yX6_presses yX6_presses ∈ mj_gT := mj_gT_of (List.mem_of_getElem? (i := 701) (by decide +kernel)) rfl
theorem wc_X6_refusalsOf : Cond.code yX6_refusalsOf cX6_refusalsOf 2 (some .int) ∈ mj_gT := mj_gT_of (List.mem_of_getElem? (i := 829) (by decide +kernel)) rfl
theorem wn_X6_refusalsOf : Cond.instanceMethod yX6_refusalsOf ∈ mj_gT := mj_gT_of (List.mem_of_getElem? (i := 828) (by decide +kernel)) rfl
theorem ws_X6_refusalsOf : Cond.selects yX6_refusalsOf.cls yX6_refusalsOf yX6_refusalsOf ∈ mj_gT := mj_gT_of (List.mem_of_getElem? (i := 51) (by decide +kernel)) rfl
theorem wc_X6_refuse : Cond.code yX6_refuse cX6_refuse 2 (some .int) ∈ mj_gT := mj_gT_of (List.mem_of_getElem? (i := 320) (by decide +kernel)) rfl
theorem wn_X6_refuse : Cond.instanceMethod yX6_refuse ∈ mj_gT := mj_gT_of (List.mem_of_getElem? (i := 319) (by decide +kernel)) rfl
theorem ws_X6_refuse : Cond.selects yX6_refuse.cls yX6_refuse yX6_refuse ∈ mj_gT := mj_gT_of (List.mem_of_getElem? (i := 1) (by decide +kernel)) rfl
theorem wc_X6_refuseValue : Cond.code yX6_refuseValue cX6_refuseValue 2 (some .int) ∈ mj_gT := mj_gT_of (List.mem_of_getElem? (i := 724) (by decide +kernel)) rfl
theorem wn_X6_refuseValue : Cond.instanceMethod yX6_refuseValue ∈ mj_gT := mj_gT_of (List.mem_of_getElem? (i := 723) (by decide +kernel)) rfl
theorem ws_X6_refuseValue : Cond.selects yX6_refuseValue.cls yX6_refuseValue yX6_refuseValue ∈ mj_gT := mj_gT_of (List.mem_of_getElem? (i := 44) (by decide +kernel)) rfl
theorem wc_X6_room : Cond.code yX6_room cX6_room 2 (some .int) ∈ mj_gT := mj_gT_of (List.mem_of_getElem? (i := 329) (by decide +kernel)) rfl
theorem wn_X6_room : Cond.instanceMethod yX6_room ∈ mj_gT := mj_gT_of (List.mem_of_getElem? (i := 327) (by decide +kernel)) rfl
theorem ws_X6_room : Cond.selects yX6_room.cls yX6_room yX6_room ∈ mj_gT := mj_gT_of (List.mem_of_getElem? (i := 328) (by decide +kernel)) rfl
theorem wc_X6_row : Cond.code yX6_row cX6_row 3 (some .int) ∈ mj_gT := mj_gT_of (List.mem_of_getElem? (i := 786) (by decide +kernel)) rfl
theorem wn_X6_row : Cond.instanceMethod yX6_row ∈ mj_gT := mj_gT_of (List.mem_of_getElem? (i := 784) (by decide +kernel)) rfl
theorem ws_X6_row : Cond.selects yX6_row.cls yX6_row yX6_row ∈ mj_gT := mj_gT_of (List.mem_of_getElem? (i := 785) (by decide +kernel)) rfl
theorem wc_X6_set : Cond.code yX6_set cX6_set 4 (some .int) ∈ mj_gT := mj_gT_of (List.mem_of_getElem? (i := 615) (by decide +kernel)) rfl
theorem wn_X6_set : Cond.instanceMethod yX6_set ∈ mj_gT := mj_gT_of (List.mem_of_getElem? (i := 613) (by decide +kernel)) rfl
theorem ws_X6_set : Cond.selects yX6_set.cls yX6_set yX6_set ∈ mj_gT := mj_gT_of (List.mem_of_getElem? (i := 614) (by decide +kernel)) rfl
theorem wc_X6_silent : Cond.code yX6_silent cX6_silent 8 (some .int) ∈ mj_gT := mj_gT_of (List.mem_of_getElem? (i := 762) (by decide +kernel)) rfl
theorem wn_X6_silent : Cond.instanceMethod yX6_silent ∈ mj_gT := mj_gT_of (List.mem_of_getElem? (i := 760) (by decide +kernel)) rfl
theorem ws_X6_silent : Cond.selects yX6_silent.cls yX6_silent yX6_silent ∈ mj_gT := mj_gT_of (List.mem_of_getElem? (i := 761) (by decide +kernel)) rfl
theorem wc_X6_sleeper : Cond.code yX6_sleeper cX6_sleeper 4 (some .int) ∈ mj_gT := mj_gT_of (List.mem_of_getElem? (i := 573) (by decide +kernel)) rfl
theorem wn_X6_sleeper : Cond.instanceMethod yX6_sleeper ∈ mj_gT := mj_gT_of (List.mem_of_getElem? (i := 571) (by decide +kernel)) rfl
theorem ws_X6_sleeper : Cond.selects yX6_sleeper.cls yX6_sleeper yX6_sleeper ∈ mj_gT := mj_gT_of (List.mem_of_getElem? (i := 572) (by decide +kernel)) rfl
theorem wc_X6_slept : Cond.code yX6_slept cX6_slept 3 (some .int) ∈ mj_gT := mj_gT_of (List.mem_of_getElem? (i := 706) (by decide +kernel)) rfl
theorem wn_X6_slept : Cond.instanceMethod yX6_slept ∈ mj_gT := mj_gT_of (List.mem_of_getElem? (i := 704) (by decide +kernel)) rfl
theorem ws_X6_slept : Cond.selects yX6_slept.cls yX6_slept yX6_slept ∈ mj_gT := mj_gT_of (List.mem_of_getElem? (i := 705) (by decide +kernel)) rfl
theorem wc_X6_task : Cond.code yX6_task cX6_task 4 (some .int) ∈ mj_gT := mj_gT_of (List.mem_of_getElem? (i := 603) (by decide +kernel)) rfl
theorem wn_X6_task : Cond.instanceMethod yX6_task ∈ mj_gT := mj_gT_of (List.mem_of_getElem? (i := 601) (by decide +kernel)) rfl
theorem ws_X6_task : Cond.selects yX6_task.cls yX6_task yX6_task ∈ mj_gT := mj_gT_of (List.mem_of_getElem? (i := 602) (by decide +kernel)) rfl
theorem wc_X6_tired : Cond.code yX6_tired cX6_tired 4 (some .int) ∈ mj_gT := mj_gT_of (List.mem_of_getElem? (i := 636) (by decide +kernel)) rfl
theorem wn_X6_tired : Cond.instanceMethod yX6_tired ∈ mj_gT := mj_gT_of (List.mem_of_getElem? (i := 634) (by decide +kernel)) rfl
theorem ws_X6_tired : Cond.selects yX6_tired.cls yX6_tired yX6_tired ∈ mj_gT := mj_gT_of (List.mem_of_getElem? (i := 635) (by decide +kernel)) rfl
theorem wc_X6_up : Cond.code yX6_up cX6_up 3 (some .int) ∈ mj_gT := mj_gT_of (List.mem_of_getElem? (i := 698) (by decide +kernel)) rfl
theorem wn_X6_up : Cond.instanceMethod yX6_up ∈ mj_gT := mj_gT_of (List.mem_of_getElem? (i := 696) (by decide +kernel)) rfl
theorem ws_X6_up : Cond.selects yX6_up.cls yX6_up yX6_up ∈ mj_gT := mj_gT_of (List.mem_of_getElem? (i := 697) (by decide +kernel)) rfl
theorem wc_X6_value : Cond.code yX6_value cX6_value 3 (some .int) ∈ mj_gT := mj_gT_of (List.mem_of_getElem? (i := 720) (by decide +kernel)) rfl
theorem wn_X6_value : Cond.instanceMethod yX6_value ∈ mj_gT := mj_gT_of (List.mem_of_getElem? (i := 718) (by decide +kernel)) rfl
theorem ws_X6_value : Cond.selects yX6_value.cls yX6_value yX6_value ∈ mj_gT := mj_gT_of (List.mem_of_getElem? (i := 719) (by decide +kernel)) rfl
theorem wc_X6_valueOf : Cond.code yX6_valueOf cX6_valueOf 5 (some .int) ∈ mj_gT := mj_gT_of (List.mem_of_getElem? (i := 729) (by decide +kernel)) rfl
theorem wn_X6_valueOf : Cond.instanceMethod yX6_valueOf ∈ mj_gT := mj_gT_of (List.mem_of_getElem? (i := 728) (by decide +kernel)) rfl
theorem ws_X6_valueOf : Cond.selects yX6_valueOf.cls yX6_valueOf yX6_valueOf ∈ mj_gT := mj_gT_of (List.mem_of_getElem? (i := 45) (by decide +kernel)) rfl
theorem wc_X6_week : Cond.code yX6_week cX6_week 7 (some .int) ∈ mj_gT := mj_gT_of (List.mem_of_getElem? (i := 782) (by decide +kernel)) rfl
theorem wn_X6_week : Cond.instanceMethod yX6_week ∈ mj_gT := mj_gT_of (List.mem_of_getElem? (i := 780) (by decide +kernel)) rfl
theorem ws_X6_week : Cond.selects yX6_week.cls yX6_week yX6_week ∈ mj_gT := mj_gT_of (List.mem_of_getElem? (i := 781) (by decide +kernel)) rfl
theorem wc_X7_at : Cond.code yX7_at cX7_at 3 (some .int) ∈ mj_gT := mj_gT_of (List.mem_of_getElem? (i := 972) (by decide +kernel)) rfl
theorem wn_X7_at : Cond.instanceMethod yX7_at ∈ mj_gT := mj_gT_of (List.mem_of_getElem? (i := 971) (by decide +kernel)) rfl
theorem ws_X7_at : Cond.selects yX7_at.cls yX7_at yX7_at ∈ mj_gT := mj_gT_of (List.mem_of_getElem? (i := 63) (by decide +kernel)) rfl
theorem wc_X7_back : Cond.code yX7_back cX7_back 7 (some .int) ∈ mj_gT := mj_gT_of (List.mem_of_getElem? (i := 1113) (by decide +kernel)) rfl
theorem wn_X7_back : Cond.instanceMethod yX7_back ∈ mj_gT := mj_gT_of (List.mem_of_getElem? (i := 1111) (by decide +kernel)) rfl
theorem ws_X7_back : Cond.selects yX7_back.cls yX7_back yX7_back ∈ mj_gT := mj_gT_of (List.mem_of_getElem? (i := 1112) (by decide +kernel)) rfl
theorem wc_X7_begins : Cond.code yX7_begins cX7_begins 1 none ∈ mj_gT := mj_gT_of (List.mem_of_getElem? (i := 1081) (by decide +kernel)) rfl
theorem wn_X7_begins : Cond.instanceMethod yX7_begins ∈ mj_gT := mj_gT_of (List.mem_of_getElem? (i := 1080) (by decide +kernel)) rfl
theorem ws_X7_begins : Cond.selects yX7_begins.cls yX7_begins yX7_begins ∈ mj_gT := mj_gT_of (List.mem_of_getElem? (i := 76) (by decide +kernel)) rfl
theorem wc_X7_bet : Cond.code yX7_bet cX7_bet 4 (some .int) ∈ mj_gT := mj_gT_of (List.mem_of_getElem? (i := 1105) (by decide +kernel)) rfl
theorem wn_X7_bet : Cond.instanceMethod yX7_bet ∈ mj_gT := mj_gT_of (List.mem_of_getElem? (i := 1103) (by decide +kernel)) rfl
theorem ws_X7_bet : Cond.selects yX7_bet.cls yX7_bet yX7_bet ∈ mj_gT := mj_gT_of (List.mem_of_getElem? (i := 1104) (by decide +kernel)) rfl
theorem wc_X7_bus : Cond.code yX7_bus cX7_bus 2 (some .int) ∈ mj_gT := mj_gT_of (List.mem_of_getElem? (i := 1000) (by decide +kernel)) rfl
theorem wn_X7_bus : Cond.instanceMethod yX7_bus ∈ mj_gT := mj_gT_of (List.mem_of_getElem? (i := 998) (by decide +kernel)) rfl
theorem ws_X7_bus : Cond.selects yX7_bus.cls yX7_bus yX7_bus ∈ mj_gT := mj_gT_of (List.mem_of_getElem? (i := 999) (by decide +kernel)) rfl
theorem wc_X7_changes : Cond.code yX7_changes cX7_changes 5 (some .int) ∈ mj_gT := mj_gT_of (List.mem_of_getElem? (i := 988) (by decide +kernel)) rfl
theorem wn_X7_changes : Cond.instanceMethod yX7_changes ∈ mj_gT := mj_gT_of (List.mem_of_getElem? (i := 987) (by decide +kernel)) rfl
theorem ws_X7_changes : Cond.selects yX7_changes.cls yX7_changes yX7_changes ∈ mj_gT := mj_gT_of (List.mem_of_getElem? (i := 65) (by decide +kernel)) rfl
theorem wc_X7_clear : Cond.code yX7_clear cX7_clear 2 (some .int) ∈ mj_gT := mj_gT_of (List.mem_of_getElem? (i := 1149) (by decide +kernel)) rfl
theorem wn_X7_clear : Cond.instanceMethod yX7_clear ∈ mj_gT := mj_gT_of (List.mem_of_getElem? (i := 1147) (by decide +kernel)) rfl
theorem ws_X7_clear : Cond.selects yX7_clear.cls yX7_clear yX7_clear ∈ mj_gT := mj_gT_of (List.mem_of_getElem? (i := 1148) (by decide +kernel)) rfl
theorem wc_X7_clock : Cond.code yX7_clock cX7_clock 3 (some .int) ∈ mj_gT := mj_gT_of (List.mem_of_getElem? (i := 964) (by decide +kernel)) rfl
theorem wn_X7_clock : Cond.instanceMethod yX7_clock ∈ mj_gT := mj_gT_of (List.mem_of_getElem? (i := 962) (by decide +kernel)) rfl
theorem ws_X7_clock : Cond.selects yX7_clock.cls yX7_clock yX7_clock ∈ mj_gT := mj_gT_of (List.mem_of_getElem? (i := 963) (by decide +kernel)) rfl
theorem wc_X7_clockOf : Cond.code yX7_clockOf cX7_clockOf 1 (some .int) ∈ mj_gT := mj_gT_of (List.mem_of_getElem? (i := 941) (by decide +kernel)) rfl
theorem wn_X7_clockOf : Cond.static yX7_clockOf ∈ mj_gT := mj_gT_of (List.mem_of_getElem? (i := 940) (by decide +kernel)) rfl
theorem wc_X7_comes : Cond.code yX7_comes cX7_comes 3 (some .boolean) ∈ mj_gT := mj_gT_of (List.mem_of_getElem? (i := 948) (by decide +kernel)) rfl
theorem wn_X7_comes : Cond.instanceMethod yX7_comes ∈ mj_gT := mj_gT_of (List.mem_of_getElem? (i := 947) (by decide +kernel)) rfl
theorem ws_X7_comes : Cond.selects yX7_comes.cls yX7_comes yX7_comes ∈ mj_gT := mj_gT_of (List.mem_of_getElem? (i := 59) (by decide +kernel)) rfl
theorem wc_X7_cost : Cond.code yX7_cost cX7_cost 3 (some .int) ∈ mj_gT := mj_gT_of (List.mem_of_getElem? (i := 1073) (by decide +kernel)) rfl
theorem wn_X7_cost : Cond.instanceMethod yX7_cost ∈ mj_gT := mj_gT_of (List.mem_of_getElem? (i := 1071) (by decide +kernel)) rfl
theorem ws_X7_cost : Cond.selects yX7_cost.cls yX7_cost yX7_cost ∈ mj_gT := mj_gT_of (List.mem_of_getElem? (i := 1072) (by decide +kernel)) rfl
theorem wc_X7_count : Cond.code yX7_count cX7_count 4 (some .int) ∈ mj_gT := mj_gT_of (List.mem_of_getElem? (i := 1168) (by decide +kernel)) rfl
theorem wn_X7_count : Cond.instanceMethod yX7_count ∈ mj_gT := mj_gT_of (List.mem_of_getElem? (i := 1166) (by decide +kernel)) rfl
theorem ws_X7_count : Cond.selects yX7_count.cls yX7_count yX7_count ∈ mj_gT := mj_gT_of (List.mem_of_getElem? (i := 1167) (by decide +kernel)) rfl
theorem wc_X7_depth : Cond.code yX7_depth cX7_depth 4 (some .int) ∈ mj_gT := mj_gT_of (List.mem_of_getElem? (i := 1008) (by decide +kernel)) rfl
theorem wn_X7_depth : Cond.instanceMethod yX7_depth ∈ mj_gT := mj_gT_of (List.mem_of_getElem? (i := 1006) (by decide +kernel)) rfl
theorem ws_X7_depth : Cond.selects yX7_depth.cls yX7_depth yX7_depth ∈ mj_gT := mj_gT_of (List.mem_of_getElem? (i := 1007) (by decide +kernel)) rfl
theorem wc_X7_depthOf : Cond.code yX7_depthOf cX7_depthOf 7 (some .int) ∈ mj_gT := mj_gT_of (List.mem_of_getElem? (i := 1012) (by decide +kernel)) rfl
theorem wn_X7_depthOf : Cond.instanceMethod yX7_depthOf ∈ mj_gT := mj_gT_of (List.mem_of_getElem? (i := 1011) (by decide +kernel)) rfl
theorem ws_X7_depthOf : Cond.selects yX7_depthOf.cls yX7_depthOf yX7_depthOf ∈ mj_gT := mj_gT_of (List.mem_of_getElem? (i := 66) (by decide +kernel)) rfl
theorem wc_X7_done : Cond.code yX7_done cX7_done 5 (some .int) ∈ mj_gT := mj_gT_of (List.mem_of_getElem? (i := 1052) (by decide +kernel)) rfl
theorem wn_X7_done : Cond.instanceMethod yX7_done ∈ mj_gT := mj_gT_of (List.mem_of_getElem? (i := 1050) (by decide +kernel)) rfl
theorem ws_X7_done : Cond.selects yX7_done.cls yX7_done yX7_done ∈ mj_gT := mj_gT_of (List.mem_of_getElem? (i := 1051) (by decide +kernel)) rfl
theorem wc_X7_doneAt : Cond.code yX7_doneAt cX7_doneAt 7 (some .int) ∈ mj_gT := mj_gT_of (List.mem_of_getElem? (i := 1056) (by decide +kernel)) rfl
theorem wn_X7_doneAt : Cond.instanceMethod yX7_doneAt ∈ mj_gT := mj_gT_of (List.mem_of_getElem? (i := 1055) (by decide +kernel)) rfl
theorem ws_X7_doneAt : Cond.selects yX7_doneAt.cls yX7_doneAt yX7_doneAt ∈ mj_gT := mj_gT_of (List.mem_of_getElem? (i := 73) (by decide +kernel)) rfl
theorem wc_X7_ends : Cond.code yX7_ends cX7_ends 1 none ∈ mj_gT := mj_gT_of (List.mem_of_getElem? (i := 1085) (by decide +kernel)) rfl
theorem wn_X7_ends : Cond.instanceMethod yX7_ends ∈ mj_gT := mj_gT_of (List.mem_of_getElem? (i := 1084) (by decide +kernel)) rfl
theorem ws_X7_ends : Cond.selects yX7_ends.cls yX7_ends yX7_ends ∈ mj_gT := mj_gT_of (List.mem_of_getElem? (i := 77) (by decide +kernel)) rfl
theorem wc_X7_evening : Cond.code yX7_evening cX7_evening 9 (some .int) ∈ mj_gT := mj_gT_of (List.mem_of_getElem? (i := 1077) (by decide +kernel)) rfl
theorem wn_X7_evening : Cond.instanceMethod yX7_evening ∈ mj_gT := mj_gT_of (List.mem_of_getElem? (i := 1075) (by decide +kernel)) rfl
theorem ws_X7_evening : Cond.selects yX7_evening.cls yX7_evening yX7_evening ∈ mj_gT := mj_gT_of (List.mem_of_getElem? (i := 1076) (by decide +kernel)) rfl
theorem wc_X7_every : Cond.code yX7_every cX7_every 3 (some .int) ∈ mj_gT := mj_gT_of (List.mem_of_getElem? (i := 992) (by decide +kernel)) rfl
theorem wn_X7_every : Cond.instanceMethod yX7_every ∈ mj_gT := mj_gT_of (List.mem_of_getElem? (i := 990) (by decide +kernel)) rfl
theorem ws_X7_every : Cond.selects yX7_every.cls yX7_every yX7_every ∈ mj_gT := mj_gT_of (List.mem_of_getElem? (i := 991) (by decide +kernel)) rfl
theorem wc_X7_firm : Cond.code yX7_firm cX7_firm 2 (some .int) ∈ mj_gT := mj_gT_of (List.mem_of_getElem? (i := 996) (by decide +kernel)) rfl
theorem wn_X7_firm : Cond.instanceMethod yX7_firm ∈ mj_gT := mj_gT_of (List.mem_of_getElem? (i := 994) (by decide +kernel)) rfl
theorem ws_X7_firm : Cond.selects yX7_firm.cls yX7_firm yX7_firm ∈ mj_gT := mj_gT_of (List.mem_of_getElem? (i := 995) (by decide +kernel)) rfl
theorem wc_X7_firms : Cond.code yX7_firms cX7_firms 7 (some .int) ∈ mj_gT := mj_gT_of (List.mem_of_getElem? (i := 1145) (by decide +kernel)) rfl
theorem wn_X7_firms : Cond.instanceMethod yX7_firms ∈ mj_gT := mj_gT_of (List.mem_of_getElem? (i := 1143) (by decide +kernel)) rfl
theorem ws_X7_firms : Cond.selects yX7_firms.cls yX7_firms yX7_firms ∈ mj_gT := mj_gT_of (List.mem_of_getElem? (i := 1144) (by decide +kernel)) rfl
theorem wc_X7_get : Cond.code yX7_get cX7_get 3 (some .int) ∈ mj_gT := mj_gT_of (List.mem_of_getElem? (i := 960) (by decide +kernel)) rfl
theorem wn_X7_get : Cond.instanceMethod yX7_get ∈ mj_gT := mj_gT_of (List.mem_of_getElem? (i := 959) (by decide +kernel)) rfl
theorem ws_X7_get : Cond.selects yX7_get.cls yX7_get yX7_get ∈ mj_gT := mj_gT_of (List.mem_of_getElem? (i := 61) (by decide +kernel)) rfl
theorem wc_X7_hears : Cond.code yX7_hears cX7_hears 2 (some .int) ∈ mj_gT := mj_gT_of (List.mem_of_getElem? (i := 1093) (by decide +kernel)) rfl
theorem wn_X7_hears : Cond.instanceMethod yX7_hears ∈ mj_gT := mj_gT_of (List.mem_of_getElem? (i := 1091) (by decide +kernel)) rfl
theorem ws_X7_hears : Cond.selects yX7_hears.cls yX7_hears yX7_hears ∈ mj_gT := mj_gT_of (List.mem_of_getElem? (i := 1092) (by decide +kernel)) rfl
theorem wc_X7_hearsBut : Cond.code yX7_hearsBut cX7_hearsBut 4 (some .int) ∈ mj_gT := mj_gT_of (List.mem_of_getElem? (i := 1097) (by decide +kernel)) rfl
theorem wn_X7_hearsBut : Cond.instanceMethod yX7_hearsBut ∈ mj_gT := mj_gT_of (List.mem_of_getElem? (i := 1096) (by decide +kernel)) rfl
theorem ws_X7_hearsBut : Cond.selects yX7_hearsBut.cls yX7_hearsBut yX7_hearsBut ∈ mj_gT := mj_gT_of (List.mem_of_getElem? (i := 78) (by decide +kernel)) rfl
theorem wc_X7_image : Cond.code yX7_image cX7_image 1 (some .int) ∈ mj_gT := mj_gT_of (List.mem_of_getElem? (i := 1160) (by decide +kernel)) rfl
theorem wn_X7_image : Cond.instanceMethod yX7_image ∈ mj_gT := mj_gT_of (List.mem_of_getElem? (i := 1158) (by decide +kernel)) rfl
theorem ws_X7_image : Cond.selects yX7_image.cls yX7_image yX7_image ∈ mj_gT := mj_gT_of (List.mem_of_getElem? (i := 1159) (by decide +kernel)) rfl
theorem wc_X7_isClock : Cond.code yX7_isClock cX7_isClock 2 (some .boolean) ∈ mj_gT := mj_gT_of (List.mem_of_getElem? (i := 968) (by decide +kernel)) rfl
theorem wn_X7_isClock : Cond.instanceMethod yX7_isClock ∈ mj_gT := mj_gT_of (List.mem_of_getElem? (i := 967) (by decide +kernel)) rfl
theorem ws_X7_isClock : Cond.selects yX7_isClock.cls yX7_isClock yX7_isClock ∈ mj_gT := mj_gT_of (List.mem_of_getElem? (i := 62) (by decide +kernel)) rfl
theorem wc_X7_isIn : Cond.code yX7_isIn cX7_isIn 2 (some .boolean) ∈ mj_gT := mj_gT_of (List.mem_of_getElem? (i := 934) (by decide +kernel)) rfl
theorem wn_X7_isIn : Cond.static yX7_isIn ∈ mj_gT := mj_gT_of (List.mem_of_getElem? (i := 933) (by decide +kernel)) rfl
theorem wc_X7_isSleeper : Cond.code yX7_isSleeper cX7_isSleeper 2 (some .boolean) ∈ mj_gT := mj_gT_of (List.mem_of_getElem? (i := 952) (by decide +kernel)) rfl
theorem wn_X7_isSleeper : Cond.instanceMethod yX7_isSleeper ∈ mj_gT := mj_gT_of (List.mem_of_getElem? (i := 951) (by decide +kernel)) rfl
theorem ws_X7_isSleeper : Cond.selects yX7_isSleeper.cls yX7_isSleeper yX7_isSleeper ∈ mj_gT := mj_gT_of (List.mem_of_getElem? (i := 60) (by decide +kernel)) rfl
theorem wc_X7_judge : Cond.code yX7_judge cX7_judge 2 (some .int) ∈ mj_gT := mj_gT_of (List.mem_of_getElem? (i := 1137) (by decide +kernel)) rfl
theorem wn_X7_judge : Cond.instanceMethod yX7_judge ∈ mj_gT := mj_gT_of (List.mem_of_getElem? (i := 1135) (by decide +kernel)) rfl
theorem ws_X7_judge : Cond.selects yX7_judge.cls yX7_judge yX7_judge ∈ mj_gT := mj_gT_of (List.mem_of_getElem? (i := 1136) (by decide +kernel)) rfl
theorem wc_X7_later : Cond.code yX7_later cX7_later 5 (some .int) ∈ mj_gT := mj_gT_of (List.mem_of_getElem? (i := 1032) (by decide +kernel)) rfl
theorem wn_X7_later : Cond.instanceMethod yX7_later ∈ mj_gT := mj_gT_of (List.mem_of_getElem? (i := 1031) (by decide +kernel)) rfl
theorem ws_X7_later : Cond.selects yX7_later.cls yX7_later yX7_later ∈ mj_gT := mj_gT_of (List.mem_of_getElem? (i := 70) (by decide +kernel)) rfl
theorem wc_X7_lays : Cond.code yX7_lays cX7_lays 3 none ∈ mj_gT := mj_gT_of (List.mem_of_getElem? (i := 944) (by decide +kernel)) rfl
theorem wn_X7_lays : Cond.static yX7_lays ∈ mj_gT := mj_gT_of (List.mem_of_getElem? (i := 943) (by decide +kernel)) rfl
theorem wc_X7_leans : Cond.code yX7_leans cX7_leans 6 (some .int) ∈ mj_gT := mj_gT_of (List.mem_of_getElem? (i := 1109) (by decide +kernel)) rfl
theorem wn_X7_leans : Cond.instanceMethod yX7_leans ∈ mj_gT := mj_gT_of (List.mem_of_getElem? (i := 1107) (by decide +kernel)) rfl
theorem ws_X7_leans : Cond.selects yX7_leans.cls yX7_leans yX7_leans ∈ mj_gT := mj_gT_of (List.mem_of_getElem? (i := 1108) (by decide +kernel)) rfl
theorem wc_X7_letter : Cond.code yX7_letter cX7_letter 3 (some .int) ∈ mj_gT := mj_gT_of (List.mem_of_getElem? (i := 897) (by decide +kernel)) rfl
theorem wn_X7_letter : Cond.instanceMethod yX7_letter ∈ mj_gT := mj_gT_of (List.mem_of_getElem? (i := 895) (by decide +kernel)) rfl
theorem ws_X7_letter : Cond.selects yX7_letter.cls yX7_letter yX7_letter ∈ mj_gT := mj_gT_of (List.mem_of_getElem? (i := 896) (by decide +kernel)) rfl
theorem wc_X7_lots : Cond.code yX7_lots cX7_lots 9 (some .int) ∈ mj_gT := mj_gT_of (List.mem_of_getElem? (i := 1153) (by decide +kernel)) rfl
theorem wn_X7_lots : Cond.instanceMethod yX7_lots ∈ mj_gT := mj_gT_of (List.mem_of_getElem? (i := 1151) (by decide +kernel)) rfl
theorem ws_X7_lots : Cond.selects yX7_lots.cls yX7_lots yX7_lots ∈ mj_gT := mj_gT_of (List.mem_of_getElem? (i := 1152) (by decide +kernel)) rfl
theorem wc_X7_mayPress : Cond.code yX7_mayPress cX7_mayPress 4 (some .boolean) ∈ mj_gT := mj_gT_of (List.mem_of_getElem? (i := 1036) (by decide +kernel)) rfl
theorem wn_X7_mayPress : Cond.instanceMethod yX7_mayPress ∈ mj_gT := mj_gT_of (List.mem_of_getElem? (i := 1035) (by decide +kernel)) rfl
theorem ws_X7_mayPress : Cond.selects yX7_mayPress.cls yX7_mayPress yX7_mayPress ∈ mj_gT := mj_gT_of (List.mem_of_getElem? (i := 71) (by decide +kernel)) rfl
theorem wc_X7_moment : Cond.code yX7_moment cX7_moment 7 (some .int) ∈ mj_gT := mj_gT_of (List.mem_of_getElem? (i := 1117) (by decide +kernel)) rfl
theorem wn_X7_moment : Cond.instanceMethod yX7_moment ∈ mj_gT := mj_gT_of (List.mem_of_getElem? (i := 1115) (by decide +kernel)) rfl
theorem ws_X7_moment : Cond.selects yX7_moment.cls yX7_moment yX7_moment ∈ mj_gT := mj_gT_of (List.mem_of_getElem? (i := 1116) (by decide +kernel)) rfl
theorem wc_X7_morning : Cond.code yX7_morning cX7_morning 2 none ∈ mj_gT := mj_gT_of (List.mem_of_getElem? (i := 1020) (by decide +kernel)) rfl
theorem wn_X7_morning : Cond.instanceMethod yX7_morning ∈ mj_gT := mj_gT_of (List.mem_of_getElem? (i := 1019) (by decide +kernel)) rfl
theorem ws_X7_morning : Cond.selects yX7_morning.cls yX7_morning yX7_morning ∈ mj_gT := mj_gT_of (List.mem_of_getElem? (i := 67) (by decide +kernel)) rfl
theorem wc_X7_morningOf : Cond.code yX7_morningOf cX7_morningOf 6 none ∈ mj_gT := mj_gT_of (List.mem_of_getElem? (i := 1024) (by decide +kernel)) rfl
theorem wn_X7_morningOf : Cond.instanceMethod yX7_morningOf ∈ mj_gT := mj_gT_of (List.mem_of_getElem? (i := 1023) (by decide +kernel)) rfl
theorem ws_X7_morningOf : Cond.selects yX7_morningOf.cls yX7_morningOf yX7_morningOf ∈ mj_gT := mj_gT_of (List.mem_of_getElem? (i := 68) (by decide +kernel)) rfl
theorem wc_X7_night : Cond.code yX7_night cX7_night 1 (some .int) ∈ mj_gT := mj_gT_of (List.mem_of_getElem? (i := 1121) (by decide +kernel)) rfl
theorem wn_X7_night : Cond.instanceMethod yX7_night ∈ mj_gT := mj_gT_of (List.mem_of_getElem? (i := 1119) (by decide +kernel)) rfl
theorem ws_X7_night : Cond.selects yX7_night.cls yX7_night yX7_night ∈ mj_gT := mj_gT_of (List.mem_of_getElem? (i := 1120) (by decide +kernel)) rfl
theorem wc_X7_of : Cond.code yX7_of cX7_of 3 (some .int) ∈ mj_gT := mj_gT_of (List.mem_of_getElem? (i := 980) (by decide +kernel)) rfl
theorem wn_X7_of : Cond.instanceMethod yX7_of ∈ mj_gT := mj_gT_of (List.mem_of_getElem? (i := 979) (by decide +kernel)) rfl
theorem ws_X7_of : Cond.selects yX7_of.cls yX7_of yX7_of ∈ mj_gT := mj_gT_of (List.mem_of_getElem? (i := 64) (by decide +kernel)) rfl
theorem wc_X7_often : Cond.code yX7_often cX7_often 6 (some .int) ∈ mj_gT := mj_gT_of (List.mem_of_getElem? (i := 1089) (by decide +kernel)) rfl
theorem wn_X7_often : Cond.instanceMethod yX7_often ∈ mj_gT := mj_gT_of (List.mem_of_getElem? (i := 1087) (by decide +kernel)) rfl
theorem ws_X7_often : Cond.selects yX7_often.cls yX7_often yX7_often ∈ mj_gT := mj_gT_of (List.mem_of_getElem? (i := 1088) (by decide +kernel)) rfl
theorem wc_X7_on : Cond.code yX7_on cX7_on 1 (some .int) ∈ mj_gT := mj_gT_of (List.mem_of_getElem? (i := 1164) (by decide +kernel)) rfl
theorem wn_X7_on : Cond.instanceMethod yX7_on ∈ mj_gT := mj_gT_of (List.mem_of_getElem? (i := 1162) (by decide +kernel)) rfl
theorem ws_X7_on : Cond.selects yX7_on.cls yX7_on yX7_on ∈ mj_gT := mj_gT_of (List.mem_of_getElem? (i := 1163) (by decide +kernel)) rfl
theorem wc_X7_presses : Cond.code yX7_presses cX7_presses 2 (some .int) ∈ mj_gT := mj_gT_of (List.mem_of_getElem? (i := 1044) (by decide +kernel)) rfl
theorem wn_X7_presses : Cond.instanceMethod yX7_presses ∈ mj_gT := mj_gT_of (List.mem_of_getElem? (i := 1042) (by decide +kernel)) rfl
theorem ws_X7_presses : Cond.selects yX7_presses.cls yX7_presses yX7_presses ∈ mj_gT := mj_gT_of (List.mem_of_getElem? (i := 1043) (by decide +kernel)) rfl
theorem wc_X7_reads : Cond.code yX7_reads cX7_reads 5 (some .int) ∈ mj_gT := mj_gT_of (List.mem_of_getElem? (i := 912) (by decide +kernel)) rfl
theorem wn_X7_reads : Cond.instanceMethod yX7_reads ∈ mj_gT := mj_gT_of (List.mem_of_getElem? (i := 911) (by decide +kernel)) rfl
theorem ws_X7_reads : Cond.selects yX7_reads.cls yX7_reads yX7_reads ∈ mj_gT := mj_gT_of (List.mem_of_getElem? (i := 53) (by decide +kernel)) rfl
theorem wc_X7_readsKind : Cond.code yX7_readsKind cX7_readsKind 2 (some .boolean) ∈ mj_gT := mj_gT_of (List.mem_of_getElem? (i := 927) (by decide +kernel)) rfl
theorem wn_X7_readsKind : Cond.instanceMethod yX7_readsKind ∈ mj_gT := mj_gT_of (List.mem_of_getElem? (i := 926) (by decide +kernel)) rfl
theorem ws_X7_readsKind : Cond.selects yX7_readsKind.cls yX7_readsKind yX7_readsKind ∈ mj_gT := mj_gT_of (List.mem_of_getElem? (i := 56) (by decide +kernel)) rfl
theorem wc_X7_readsNumber : Cond.code yX7_readsNumber cX7_readsNumber 5 (some .boolean) ∈ mj_gT := mj_gT_of (List.mem_of_getElem? (i := 931) (by decide +kernel)) rfl
theorem wn_X7_readsNumber : Cond.instanceMethod yX7_readsNumber ∈ mj_gT := mj_gT_of (List.mem_of_getElem? (i := 930) (by decide +kernel)) rfl
theorem ws_X7_readsNumber : Cond.selects yX7_readsNumber.cls yX7_readsNumber yX7_readsNumber ∈ mj_gT := mj_gT_of (List.mem_of_getElem? (i := 57) (by decide +kernel)) rfl
theorem wc_X7_readsStatement : Cond.code yX7_readsStatement cX7_readsStatement 3 (some .boolean) ∈ mj_gT := mj_gT_of (List.mem_of_getElem? (i := 916) (by decide +kernel)) rfl
theorem wn_X7_readsStatement : Cond.instanceMethod yX7_readsStatement ∈ mj_gT := mj_gT_of (List.mem_of_getElem? (i := 915) (by decide +kernel)) rfl
theorem ws_X7_readsStatement : Cond.selects yX7_readsStatement.cls yX7_readsStatement yX7_readsStatement ∈ mj_gT := mj_gT_of (List.mem_of_getElem? (i := 54) (by decide +kernel)) rfl
theorem wc_X7_refuse : Cond.code yX7_refuse cX7_refuse 2 (some .int) ∈ mj_gT := mj_gT_of (List.mem_of_getElem? (i := 904) (by decide +kernel)) rfl
theorem wn_X7_refuse : Cond.instanceMethod yX7_refuse ∈ mj_gT := mj_gT_of (List.mem_of_getElem? (i := 903) (by decide +kernel)) rfl
theorem ws_X7_refuse : Cond.selects yX7_refuse.cls yX7_refuse yX7_refuse ∈ mj_gT := mj_gT_of (List.mem_of_getElem? (i := 52) (by decide +kernel)) rfl
theorem wc_X7_refuseFar : Cond.code yX7_refuseFar cX7_refuseFar 2 (some .int) ∈ mj_gT := mj_gT_of (List.mem_of_getElem? (i := 1068) (by decide +kernel)) rfl
theorem wn_X7_refuseFar : Cond.instanceMethod yX7_refuseFar ∈ mj_gT := mj_gT_of (List.mem_of_getElem? (i := 1067) (by decide +kernel)) rfl
theorem ws_X7_refuseFar : Cond.selects yX7_refuseFar.cls yX7_refuseFar yX7_refuseFar ∈ mj_gT := mj_gT_of (List.mem_of_getElem? (i := 75) (by decide +kernel)) rfl
theorem wc_X7_room : Cond.code yX7_room cX7_room 2 (some .int) ∈ mj_gT := mj_gT_of (List.mem_of_getElem? (i := 908) (by decide +kernel)) rfl
theorem wn_X7_room : Cond.instanceMethod yX7_room ∈ mj_gT := mj_gT_of (List.mem_of_getElem? (i := 906) (by decide +kernel)) rfl
theorem ws_X7_room : Cond.selects yX7_room.cls yX7_room yX7_room ∈ mj_gT := mj_gT_of (List.mem_of_getElem? (i := 907) (by decide +kernel)) rfl
theorem wc_X7_row : Cond.code yX7_row cX7_row 3 (some .int) ∈ mj_gT := mj_gT_of (List.mem_of_getElem? (i := 1133) (by decide +kernel)) rfl
theorem wn_X7_row : Cond.instanceMethod yX7_row ∈ mj_gT := mj_gT_of (List.mem_of_getElem? (i := 1131) (by decide +kernel)) rfl
theorem ws_X7_row : Cond.selects yX7_row.cls yX7_row yX7_row ∈ mj_gT := mj_gT_of (List.mem_of_getElem? (i := 1132) (by decide +kernel)) rfl
theorem wc_X7_set : Cond.code yX7_set cX7_set 3 (some .int) ∈ mj_gT := mj_gT_of (List.mem_of_getElem? (i := 984) (by decide +kernel)) rfl
theorem wn_X7_set : Cond.instanceMethod yX7_set ∈ mj_gT := mj_gT_of (List.mem_of_getElem? (i := 982) (by decide +kernel)) rfl
theorem ws_X7_set : Cond.selects yX7_set.cls yX7_set yX7_set ∈ mj_gT := mj_gT_of (List.mem_of_getElem? (i := 983) (by decide +kernel)) rfl
theorem wc_X7_sign : Cond.code yX7_sign cX7_sign 1 (some .int) ∈ mj_gT := mj_gT_of (List.mem_of_getElem? (i := 920) (by decide +kernel)) rfl
theorem wn_X7_sign : Cond.instanceMethod yX7_sign ∈ mj_gT := mj_gT_of (List.mem_of_getElem? (i := 919) (by decide +kernel)) rfl
theorem ws_X7_sign : Cond.selects yX7_sign.cls yX7_sign yX7_sign ∈ mj_gT := mj_gT_of (List.mem_of_getElem? (i := 55) (by decide +kernel)) rfl
theorem wc_X7_silent : Cond.code yX7_silent cX7_silent 5 (some .int) ∈ mj_gT := mj_gT_of (List.mem_of_getElem? (i := 1101) (by decide +kernel)) rfl
theorem wn_X7_silent : Cond.instanceMethod yX7_silent ∈ mj_gT := mj_gT_of (List.mem_of_getElem? (i := 1099) (by decide +kernel)) rfl
theorem ws_X7_silent : Cond.selects yX7_silent.cls yX7_silent yX7_silent ∈ mj_gT := mj_gT_of (List.mem_of_getElem? (i := 1100) (by decide +kernel)) rfl
theorem wc_X7_sleeper : Cond.code yX7_sleeper cX7_sleeper 3 (some .int) ∈ mj_gT := mj_gT_of (List.mem_of_getElem? (i := 956) (by decide +kernel)) rfl
theorem wn_X7_sleeper : Cond.instanceMethod yX7_sleeper ∈ mj_gT := mj_gT_of (List.mem_of_getElem? (i := 954) (by decide +kernel)) rfl
theorem ws_X7_sleeper : Cond.selects yX7_sleeper.cls yX7_sleeper yX7_sleeper ∈ mj_gT := mj_gT_of (List.mem_of_getElem? (i := 955) (by decide +kernel)) rfl
theorem wc_X7_sleeperOf : Cond.code yX7_sleeperOf cX7_sleeperOf 1 (some .int) ∈ mj_gT := mj_gT_of (List.mem_of_getElem? (i := 923) (by decide +kernel)) rfl
theorem wn_X7_sleeperOf : Cond.static yX7_sleeperOf ∈ mj_gT := mj_gT_of (List.mem_of_getElem? (i := 922) (by decide +kernel)) rfl
theorem wc_X7_slept : Cond.code yX7_slept cX7_slept 2 (some .int) ∈ mj_gT := mj_gT_of (List.mem_of_getElem? (i := 1048) (by decide +kernel)) rfl
theorem wn_X7_slept : Cond.instanceMethod yX7_slept ∈ mj_gT := mj_gT_of (List.mem_of_getElem? (i := 1046) (by decide +kernel)) rfl
theorem ws_X7_slept : Cond.selects yX7_slept.cls yX7_slept yX7_slept ∈ mj_gT := mj_gT_of (List.mem_of_getElem? (i := 1047) (by decide +kernel)) rfl
theorem wc_X7_spareAt : Cond.code yX7_spareAt cX7_spareAt 4 (some .int) ∈ mj_gT := mj_gT_of (List.mem_of_getElem? (i := 1040) (by decide +kernel)) rfl
theorem wn_X7_spareAt : Cond.instanceMethod yX7_spareAt ∈ mj_gT := mj_gT_of (List.mem_of_getElem? (i := 1039) (by decide +kernel)) rfl
theorem ws_X7_spareAt : Cond.selects yX7_spareAt.cls yX7_spareAt yX7_spareAt ∈ mj_gT := mj_gT_of (List.mem_of_getElem? (i := 72) (by decide +kernel)) rfl
theorem wc_X7_takes : Cond.code yX7_takes cX7_takes 2 (some .boolean) ∈ mj_gT := mj_gT_of (List.mem_of_getElem? (i := 938) (by decide +kernel)) rfl
theorem wn_X7_takes : Cond.instanceMethod yX7_takes ∈ mj_gT := mj_gT_of (List.mem_of_getElem? (i := 937) (by decide +kernel)) rfl
theorem ws_X7_takes : Cond.selects yX7_takes.cls yX7_takes yX7_takes ∈ mj_gT := mj_gT_of (List.mem_of_getElem? (i := 58) (by decide +kernel)) rfl
theorem wc_X7_task : Cond.code yX7_task cX7_task 3 (some .int) ∈ mj_gT := mj_gT_of (List.mem_of_getElem? (i := 976) (by decide +kernel)) rfl
theorem wn_X7_task : Cond.instanceMethod yX7_task ∈ mj_gT := mj_gT_of (List.mem_of_getElem? (i := 974) (by decide +kernel)) rfl
theorem ws_X7_task : Cond.selects yX7_task.cls yX7_task yX7_task ∈ mj_gT := mj_gT_of (List.mem_of_getElem? (i := 975) (by decide +kernel)) rfl
theorem wc_X7_tired : Cond.code yX7_tired cX7_tired 2 (some .int) ∈ mj_gT := mj_gT_of (List.mem_of_getElem? (i := 1004) (by decide +kernel)) rfl
theorem wn_X7_tired : Cond.instanceMethod yX7_tired ∈ mj_gT := mj_gT_of (List.mem_of_getElem? (i := 1002) (by decide +kernel)) rfl
theorem ws_X7_tired : Cond.selects yX7_tired.cls yX7_tired yX7_tired ∈ mj_gT := mj_gT_of (List.mem_of_getElem? (i := 1003) (by decide +kernel)) rfl
theorem wc_X7_tires : Cond.code yX7_tires cX7_tires 2 none ∈ mj_gT := mj_gT_of (List.mem_of_getElem? (i := 1125) (by decide +kernel)) rfl
theorem wn_X7_tires : Cond.instanceMethod yX7_tires ∈ mj_gT := mj_gT_of (List.mem_of_getElem? (i := 1124) (by decide +kernel)) rfl
theorem ws_X7_tires : Cond.selects yX7_tires.cls yX7_tires yX7_tires ∈ mj_gT := mj_gT_of (List.mem_of_getElem? (i := 79) (by decide +kernel)) rfl
theorem wc_X7_up : Cond.code yX7_up cX7_up 2 (some .int) ∈ mj_gT := mj_gT_of (List.mem_of_getElem? (i := 1016) (by decide +kernel)) rfl
theorem wn_X7_up : Cond.instanceMethod yX7_up ∈ mj_gT := mj_gT_of (List.mem_of_getElem? (i := 1014) (by decide +kernel)) rfl
theorem ws_X7_up : Cond.selects yX7_up.cls yX7_up yX7_up ∈ mj_gT := mj_gT_of (List.mem_of_getElem? (i := 1015) (by decide +kernel)) rfl
theorem wc_X7_value : Cond.code yX7_value cX7_value 2 (some .int) ∈ mj_gT := mj_gT_of (List.mem_of_getElem? (i := 1060) (by decide +kernel)) rfl
theorem wn_X7_value : Cond.instanceMethod yX7_value ∈ mj_gT := mj_gT_of (List.mem_of_getElem? (i := 1058) (by decide +kernel)) rfl
theorem ws_X7_value : Cond.selects yX7_value.cls yX7_value yX7_value ∈ mj_gT := mj_gT_of (List.mem_of_getElem? (i := 1059) (by decide +kernel)) rfl
theorem wc_X7_valueOf : Cond.code yX7_valueOf cX7_valueOf 3 (some .int) ∈ mj_gT := mj_gT_of (List.mem_of_getElem? (i := 1064) (by decide +kernel)) rfl
theorem wn_X7_valueOf : Cond.instanceMethod yX7_valueOf ∈ mj_gT := mj_gT_of (List.mem_of_getElem? (i := 1063) (by decide +kernel)) rfl
theorem ws_X7_valueOf : Cond.selects yX7_valueOf.cls yX7_valueOf yX7_valueOf ∈ mj_gT := mj_gT_of (List.mem_of_getElem? (i := 74) (by decide +kernel)) rfl
theorem wc_X7_wakes : Cond.code yX7_wakes cX7_wakes 5 (some .boolean) ∈ mj_gT := mj_gT_of (List.mem_of_getElem? (i := 1028) (by decide +kernel)) rfl
theorem wn_X7_wakes : Cond.instanceMethod yX7_wakes ∈ mj_gT := mj_gT_of (List.mem_of_getElem? (i := 1027) (by decide +kernel)) rfl
theorem ws_X7_wakes : Cond.selects yX7_wakes.cls yX7_wakes yX7_wakes ∈ mj_gT := mj_gT_of (List.mem_of_getElem? (i := 69) (by decide +kernel)) rfl
theorem wc_X7_week : Cond.code yX7_week cX7_week 8 (some .int) ∈ mj_gT := mj_gT_of (List.mem_of_getElem? (i := 1129) (by decide +kernel)) rfl
theorem wn_X7_week : Cond.instanceMethod yX7_week ∈ mj_gT := mj_gT_of (List.mem_of_getElem? (i := 1127) (by decide +kernel)) rfl
theorem ws_X7_week : Cond.selects yX7_week.cls yX7_week yX7_week ∈ mj_gT := mj_gT_of (List.mem_of_getElem? (i := 1128) (by decide +kernel)) rfl
theorem wc_X7_within : Cond.code yX7_within cX7_within 3 (some .int) ∈ mj_gT := mj_gT_of (List.mem_of_getElem? (i := 900) (by decide +kernel)) rfl
theorem wn_X7_within : Cond.static yX7_within ∈ mj_gT := mj_gT_of (List.mem_of_getElem? (i := 899) (by decide +kernel)) rfl
theorem wc_X7_wrongDay : Cond.code yX7_wrongDay cX7_wrongDay 6 (some .int) ∈ mj_gT := mj_gT_of (List.mem_of_getElem? (i := 1141) (by decide +kernel)) rfl
theorem wn_X7_wrongDay : Cond.instanceMethod yX7_wrongDay ∈ mj_gT := mj_gT_of (List.mem_of_getElem? (i := 1140) (by decide +kernel)) rfl
theorem ws_X7_wrongDay : Cond.selects yX7_wrongDay.cls yX7_wrongDay yX7_wrongDay ∈ mj_gT := mj_gT_of (List.mem_of_getElem? (i := 80) (by decide +kernel)) rfl
theorem wi_X0 : Cond.initialized RX0 ∈ mj_gT := mj_gT_of (List.mem_of_getElem? (i := 85) (by decide +kernel)) rfl
theorem wi_X1 : Cond.initialized RX1 ∈ mj_gT := mj_gT_of (List.mem_of_getElem? (i := 87) (by decide +kernel)) rfl
theorem wi_X2 : Cond.initialized RX2 ∈ mj_gT := mj_gT_of (List.mem_of_getElem? (i := 83) (by decide +kernel)) rfl
theorem wi_X3 : Cond.initialized RX3 ∈ mj_gT := mj_gT_of (List.mem_of_getElem? (i := 84) (by decide +kernel)) rfl
theorem wi_X4 : Cond.initialized RX4 ∈ mj_gT := mj_gT_of (List.mem_of_getElem? (i := 86) (by decide +kernel)) rfl
theorem wi_X5 : Cond.initialized RX5 ∈ mj_gT := mj_gT_of (List.mem_of_getElem? (i := 88) (by decide +kernel)) rfl
theorem wi_X6 : Cond.initialized RX6 ∈ mj_gT := mj_gT_of (List.mem_of_getElem? (i := 82) (by decide +kernel)) rfl
theorem wi_X7 : Cond.initialized RX7 ∈ mj_gT := mj_gT_of (List.mem_of_getElem? (i := 89) (by decide +kernel)) rfl
theorem wl_6_51 : Cond.methodLink (mj_on 6) 51 yX6_outside ∈ mj_gT := mj_gT_of (List.mem_of_getElem? (i := 310) (by decide +kernel)) rfl
theorem wl_6_55 : Cond.methodLinkNest (mj_on 6) 55 yX5_isFull RX6 ∈ mj_nw := mj_nw_of (List.mem_of_getElem? (i := 313) (by decide +kernel)) rfl
theorem wl_6_59 : Cond.methodLink (mj_on 6) 59 yX6_refuse ∈ mj_gT := mj_gT_of (List.mem_of_getElem? (i := 317) (by decide +kernel)) rfl
theorem wl_6_63 : Cond.methodLinkNest (mj_on 6) 63 yX5_add RX6 ∈ mj_nw := mj_nw_of (List.mem_of_getElem? (i := 321) (by decide +kernel)) rfl
theorem wl_6_67 : Cond.methodLinkNest (mj_on 6) 67 yX2_copyFrom RX6 ∈ mj_nw := mj_nw_of (List.mem_of_getElem? (i := 330) (by decide +kernel)) rfl
theorem wl_6_71 : Cond.methodLinkNest (mj_on 6) 71 yX5_tellInto RX6 ∈ mj_nw := mj_nw_of (List.mem_of_getElem? (i := 346) (by decide +kernel)) rfl
theorem wl_6_75 : Cond.methodLinkNest (mj_on 6) 75 yX5_forget RX6 ∈ mj_nw := mj_nw_of (List.mem_of_getElem? (i := 565) (by decide +kernel)) rfl
theorem wl_6_78 : Cond.methodLink (mj_on 6) 78 yX6_noSleeper ∈ mj_gT := mj_gT_of (List.mem_of_getElem? (i := 574) (by decide +kernel)) rfl
theorem wl_6_81 : Cond.methodLink (mj_on 6) 81 yX6_otherThan ∈ mj_gT := mj_gT_of (List.mem_of_getElem? (i := 578) (by decide +kernel)) rfl
theorem wl_6_85 : Cond.methodLink (mj_on 6) 85 yX6_first ∈ mj_gT := mj_gT_of (List.mem_of_getElem? (i := 581) (by decide +kernel)) rfl
theorem wl_6_92 : Cond.methodLinkNest (mj_on 6) 92 yX3_partOf RX6 ∈ mj_nw := mj_nw_of (List.mem_of_getElem? (i := 584) (by decide +kernel)) rfl
theorem wl_6_97 : Cond.methodLink (mj_on 6) 97 yX6_noClock ∈ mj_gT := mj_gT_of (List.mem_of_getElem? (i := 592) (by decide +kernel)) rfl
theorem wl_6_104 : Cond.methodLinkNest (mj_on 6) 104 yX0_partOf RX6 ∈ mj_nw := mj_nw_of (List.mem_of_getElem? (i := 596) (by decide +kernel)) rfl
theorem wl_6_107 : Cond.methodLink (mj_on 6) 107 yX6_noTask ∈ mj_gT := mj_gT_of (List.mem_of_getElem? (i := 604) (by decide +kernel)) rfl
theorem wl_6_114 : Cond.methodLinkNest (mj_on 6) 114 yX4_partOf RX6 ∈ mj_nw := mj_nw_of (List.mem_of_getElem? (i := 608) (by decide +kernel)) rfl
theorem wl_6_117 : Cond.methodLinkNest (mj_on 6) 117 yX0_put RX6 ∈ mj_nw := mj_nw_of (List.mem_of_getElem? (i := 616) (by decide +kernel)) rfl
theorem wl_6_132 : Cond.methodLinkNest (mj_on 6) 132 yX1_live RX6 ∈ mj_nw := mj_nw_of (List.mem_of_getElem? (i := 641) (by decide +kernel)) rfl
theorem wl_6_139 : Cond.methodLinkNest (mj_on 6) 139 yX2_passDay RX6 ∈ mj_nw := mj_nw_of (List.mem_of_getElem? (i := 684) (by decide +kernel)) rfl
theorem wl_6_146 : Cond.methodLinkNest (mj_on 6) 146 yX2_depthOf RX6 ∈ mj_nw := mj_nw_of (List.mem_of_getElem? (i := 694) (by decide +kernel)) rfl
theorem wl_6_155 : Cond.methodLinkNest (mj_on 6) 155 yX2_doneBits RX6 ∈ mj_nw := mj_nw_of (List.mem_of_getElem? (i := 711) (by decide +kernel)) rfl
theorem wl_6_158 : Cond.methodLinkNest (mj_on 6) 158 yX2_sumOf RX6 ∈ mj_nw := mj_nw_of (List.mem_of_getElem? (i := 716) (by decide +kernel)) rfl
theorem wl_6_161 : Cond.methodLink (mj_on 6) 161 yX6_refuseValue ∈ mj_gT := mj_gT_of (List.mem_of_getElem? (i := 721) (by decide +kernel)) rfl
theorem wl_6_164 : Cond.methodLink (mj_on 6) 164 yX6_valueOf ∈ mj_gT := mj_gT_of (List.mem_of_getElem? (i := 726) (by decide +kernel)) rfl
theorem wl_6_168 : Cond.methodLinkNest (mj_on 6) 168 yX2_worthDone RX6 ∈ mj_nw := mj_nw_of (List.mem_of_getElem? (i := 730) (by decide +kernel)) rfl
theorem wl_6_171 : Cond.methodLink (mj_on 6) 171 yX6_bestOf ∈ mj_gT := mj_gT_of (List.mem_of_getElem? (i := 743) (by decide +kernel)) rfl
theorem wl_6_181 : Cond.methodLink (mj_on 6) 181 yX6_heardBy ∈ mj_gT := mj_gT_of (List.mem_of_getElem? (i := 755) (by decide +kernel)) rfl
theorem wl_6_190 : Cond.methodLink (mj_on 6) 190 yX6_firstWrong ∈ mj_gT := mj_gT_of (List.mem_of_getElem? (i := 791) (by decide +kernel)) rfl
theorem wl_6_193 : Cond.methodLink (mj_on 6) 193 yX6_drawSets ∈ mj_gT := mj_gT_of (List.mem_of_getElem? (i := 807) (by decide +kernel)) rfl
theorem wl_6_202 : Cond.methodLink (mj_on 6) 202 yX6_refusalsOf ∈ mj_gT := mj_gT_of (List.mem_of_getElem? (i := 826) (by decide +kernel)) rfl
theorem wl_0_34 : Cond.methodLinkNest (mj_on 0) 34 yX6_areWithin RX6 ∈ mj_nw := mj_nw_of (List.mem_of_getElem? (i := 534) (by decide +kernel)) rfl
theorem wl_0_38 : Cond.methodLink (mj_on 0) 38 yX0_partOf ∈ mj_gT := mj_gT_of (List.mem_of_getElem? (i := 620) (by decide +kernel)) rfl
theorem wl_1_39 : Cond.methodLink (mj_on 1) 39 yX1_fallAsleep ∈ mj_gT := mj_gT_of (List.mem_of_getElem? (i := 645) (by decide +kernel)) rfl
theorem wl_1_43 : Cond.methodLink (mj_on 1) 43 yX1_firstToRing ∈ mj_gT := mj_gT_of (List.mem_of_getElem? (i := 654) (by decide +kernel)) rfl
theorem wl_1_51 : Cond.methodLinkNest (mj_on 1) 51 yX2_depthOf RX6 ∈ mj_nw := mj_nw_of (List.mem_of_getElem? (i := 658) (by decide +kernel)) rfl
theorem wl_1_55 : Cond.methodLinkNest (mj_on 1) 55 yX0_wakes RX6 ∈ mj_nw := mj_nw_of (List.mem_of_getElem? (i := 667) (by decide +kernel)) rfl
theorem wl_1_61 : Cond.methodLink (mj_on 1) 61 yX1_ring ∈ mj_gT := mj_gT_of (List.mem_of_getElem? (i := 671) (by decide +kernel)) rfl
theorem wl_1_65 : Cond.methodLinkNest (mj_on 1) 65 yX0_gap RX6 ∈ mj_nw := mj_nw_of (List.mem_of_getElem? (i := 679) (by decide +kernel)) rfl
theorem wl_1_81 : Cond.methodLinkNest (mj_on 1) 81 yX2_sumOf RX6 ∈ mj_nw := mj_nw_of (List.mem_of_getElem? (i := 649) (by decide +kernel)) rfl
theorem wl_1_96 : Cond.methodLinkNest (mj_on 1) 96 yX0_mayPress RX6 ∈ mj_nw := mj_nw_of (List.mem_of_getElem? (i := 675) (by decide +kernel)) rfl
theorem wl_2_54 : Cond.methodLinkNest (mj_on 2) 54 yX3_copyFrom RX6 ∈ mj_nw := mj_nw_of (List.mem_of_getElem? (i := 334) (by decide +kernel)) rfl
theorem wl_2_58 : Cond.methodLinkNest (mj_on 2) 58 yX0_copyFrom RX6 ∈ mj_nw := mj_nw_of (List.mem_of_getElem? (i := 338) (by decide +kernel)) rfl
theorem wl_2_61 : Cond.methodLinkNest (mj_on 2) 61 yX4_copyFrom RX6 ∈ mj_nw := mj_nw_of (List.mem_of_getElem? (i := 342) (by decide +kernel)) rfl
theorem wl_2_64 : Cond.methodLink (mj_on 2) 64 yX2_takeSleeper ∈ mj_gT := mj_gT_of (List.mem_of_getElem? (i := 507) (by decide +kernel)) rfl
theorem wl_2_68 : Cond.methodLink (mj_on 2) 68 yX2_takeClock ∈ mj_gT := mj_gT_of (List.mem_of_getElem? (i := 522) (by decide +kernel)) rfl
theorem wl_2_71 : Cond.methodLink (mj_on 2) 71 yX2_takeTask ∈ mj_gT := mj_gT_of (List.mem_of_getElem? (i := 535) (by decide +kernel)) rfl
theorem wl_2_74 : Cond.methodLink (mj_on 2) 74 yX2_takeBus ∈ mj_gT := mj_gT_of (List.mem_of_getElem? (i := 548) (by decide +kernel)) rfl
theorem wl_2_77 : Cond.methodLink (mj_on 2) 77 yX2_takeFirm ∈ mj_gT := mj_gT_of (List.mem_of_getElem? (i := 557) (by decide +kernel)) rfl
theorem wl_2_80 : Cond.methodLinkNest (mj_on 2) 80 yX3_beAs RX6 ∈ mj_nw := mj_nw_of (List.mem_of_getElem? (i := 511) (by decide +kernel)) rfl
theorem wl_2_83 : Cond.methodLinkNest (mj_on 2) 83 yX0_beAs RX6 ∈ mj_nw := mj_nw_of (List.mem_of_getElem? (i := 526) (by decide +kernel)) rfl
theorem wl_2_87 : Cond.methodLinkNest (mj_on 2) 87 yX4_beAs RX6 ∈ mj_nw := mj_nw_of (List.mem_of_getElem? (i := 539) (by decide +kernel)) rfl
theorem wl_2_95 : Cond.methodLinkNest (mj_on 2) 95 yX6_areWithin RX6 ∈ mj_nw := mj_nw_of (List.mem_of_getElem? (i := 556) (by decide +kernel)) rfl
theorem wl_2_105 : Cond.methodLinkNest (mj_on 2) 105 yX3_depthAt RX6 ∈ mj_nw := mj_nw_of (List.mem_of_getElem? (i := 662) (by decide +kernel)) rfl
theorem wl_2_109 : Cond.methodLinkNest (mj_on 2) 109 yX4_partOf RX6 ∈ mj_nw := mj_nw_of (List.mem_of_getElem? (i := 653) (by decide +kernel)) rfl
theorem wl_2_113 : Cond.methodLink (mj_on 2) 113 yX2_sumOf ∈ mj_gT := mj_gT_of (List.mem_of_getElem? (i := 715) (by decide +kernel)) rfl
theorem wl_2_117 : Cond.methodLink (mj_on 2) 117 yX2_doneBits ∈ mj_gT := mj_gT_of (List.mem_of_getElem? (i := 734) (by decide +kernel)) rfl
theorem wl_3_31 : Cond.methodLinkNest (mj_on 3) 31 yX6_areWithin RX6 ∈ mj_nw := mj_nw_of (List.mem_of_getElem? (i := 519) (by decide +kernel)) rfl
theorem wl_4_25 : Cond.methodLinkNest (mj_on 4) 25 yX6_areWithin RX6 ∈ mj_nw := mj_nw_of (List.mem_of_getElem? (i := 547) (by decide +kernel)) rfl
theorem wl_5_29 : Cond.methodLink (mj_on 5) 29 yX5_isFull ∈ mj_gT := mj_gT_of (List.mem_of_getElem? (i := 325) (by decide +kernel)) rfl
theorem wl_5_33 : Cond.methodLink (mj_on 5) 33 yX5_readStatement ∈ mj_gT := mj_gT_of (List.mem_of_getElem? (i := 350) (by decide +kernel)) rfl
theorem wl_5_36 : Cond.methodLink (mj_on 5) 36 yX5_letterAt ∈ mj_gT := mj_gT_of (List.mem_of_getElem? (i := 354) (by decide +kernel)) rfl
theorem wl_5_40 : Cond.methodLinkNest (mj_on 5) 40 yX2_take RX6 ∈ mj_nw := mj_nw_of (List.mem_of_getElem? (i := 503) (by decide +kernel)) rfl
theorem wl_5_46 : Cond.methodLink (mj_on 5) 46 yX5_formOf ∈ mj_gT := mj_gT_of (List.mem_of_getElem? (i := 358) (by decide +kernel)) rfl
theorem wl_5_62 : Cond.methodLink (mj_on 5) 62 yX5_readPart ∈ mj_gT := mj_gT_of (List.mem_of_getElem? (i := 419) (by decide +kernel)) rfl
theorem wl_5_80 : Cond.methodLink (mj_on 5) 80 yX5_readKind ∈ mj_gT := mj_gT_of (List.mem_of_getElem? (i := 424) (by decide +kernel)) rfl
theorem wl_5_86 : Cond.methodLink (mj_on 5) 86 yX5_readNumber ∈ mj_gT := mj_gT_of (List.mem_of_getElem? (i := 492) (by decide +kernel)) rfl
theorem wl_5_90 : Cond.methodLink (mj_on 5) 90 yX5_readSign ∈ mj_gT := mj_gT_of (List.mem_of_getElem? (i := 499) (by decide +kernel)) rfl
theorem wl_5_96 : Cond.methodLink (mj_on 5) 96 yX5_keep ∈ mj_gT := mj_gT_of (List.mem_of_getElem? (i := 487) (by decide +kernel)) rfl
theorem wl_5_100 : Cond.methodLink (mj_on 5) 100 yX5_isDigit ∈ mj_gT := mj_gT_of (List.mem_of_getElem? (i := 496) (by decide +kernel)) rfl
theorem wl_8_13 : Cond.methodLink (mj_on 8) 13 yX6_letter ∈ mj_gT := mj_gT_of (List.mem_of_getElem? (i := 306) (by decide +kernel)) rfl
theorem wl_8_17 : Cond.methodLink (mj_on 8) 17 yX7_letter ∈ mj_gT := mj_gT_of (List.mem_of_getElem? (i := 894) (by decide +kernel)) rfl
theorem wl_8_18 : Cond.methodLink (mj_on 8) 18 yX6_room ∈ mj_gT := mj_gT_of (List.mem_of_getElem? (i := 326) (by decide +kernel)) rfl
theorem wl_8_22 : Cond.methodLink (mj_on 8) 22 yX7_room ∈ mj_gT := mj_gT_of (List.mem_of_getElem? (i := 905) (by decide +kernel)) rfl
theorem wl_8_23 : Cond.methodLink (mj_on 8) 23 yX6_sleeper ∈ mj_gT := mj_gT_of (List.mem_of_getElem? (i := 570) (by decide +kernel)) rfl
theorem wl_8_27 : Cond.methodLink (mj_on 8) 27 yX7_sleeper ∈ mj_gT := mj_gT_of (List.mem_of_getElem? (i := 953) (by decide +kernel)) rfl
theorem wl_8_28 : Cond.methodLink (mj_on 8) 28 yX6_clock ∈ mj_gT := mj_gT_of (List.mem_of_getElem? (i := 588) (by decide +kernel)) rfl
theorem wl_8_31 : Cond.methodLink (mj_on 8) 31 yX7_clock ∈ mj_gT := mj_gT_of (List.mem_of_getElem? (i := 961) (by decide +kernel)) rfl
theorem wl_8_32 : Cond.methodLink (mj_on 8) 32 yX6_task ∈ mj_gT := mj_gT_of (List.mem_of_getElem? (i := 600) (by decide +kernel)) rfl
theorem wl_8_35 : Cond.methodLink (mj_on 8) 35 yX7_task ∈ mj_gT := mj_gT_of (List.mem_of_getElem? (i := 973) (by decide +kernel)) rfl
theorem wl_8_36 : Cond.methodLink (mj_on 8) 36 yX6_set ∈ mj_gT := mj_gT_of (List.mem_of_getElem? (i := 612) (by decide +kernel)) rfl
theorem wl_8_39 : Cond.methodLink (mj_on 8) 39 yX7_set ∈ mj_gT := mj_gT_of (List.mem_of_getElem? (i := 981) (by decide +kernel)) rfl
theorem wl_8_40 : Cond.methodLink (mj_on 8) 40 yX6_every ∈ mj_gT := mj_gT_of (List.mem_of_getElem? (i := 621) (by decide +kernel)) rfl
theorem wl_8_43 : Cond.methodLink (mj_on 8) 43 yX7_every ∈ mj_gT := mj_gT_of (List.mem_of_getElem? (i := 989) (by decide +kernel)) rfl
theorem wl_8_44 : Cond.methodLink (mj_on 8) 44 yX6_firm ∈ mj_gT := mj_gT_of (List.mem_of_getElem? (i := 625) (by decide +kernel)) rfl
theorem wl_8_47 : Cond.methodLink (mj_on 8) 47 yX7_firm ∈ mj_gT := mj_gT_of (List.mem_of_getElem? (i := 993) (by decide +kernel)) rfl
theorem wl_8_48 : Cond.methodLink (mj_on 8) 48 yX6_bus ∈ mj_gT := mj_gT_of (List.mem_of_getElem? (i := 629) (by decide +kernel)) rfl
theorem wl_8_51 : Cond.methodLink (mj_on 8) 51 yX7_bus ∈ mj_gT := mj_gT_of (List.mem_of_getElem? (i := 997) (by decide +kernel)) rfl
theorem wl_8_52 : Cond.methodLink (mj_on 8) 52 yX6_tired ∈ mj_gT := mj_gT_of (List.mem_of_getElem? (i := 633) (by decide +kernel)) rfl
theorem wl_8_55 : Cond.methodLink (mj_on 8) 55 yX7_tired ∈ mj_gT := mj_gT_of (List.mem_of_getElem? (i := 1001) (by decide +kernel)) rfl
theorem wl_8_56 : Cond.methodLink (mj_on 8) 56 yX6_night ∈ mj_gT := mj_gT_of (List.mem_of_getElem? (i := 637) (by decide +kernel)) rfl
theorem wl_8_59 : Cond.methodLink (mj_on 8) 59 yX7_night ∈ mj_gT := mj_gT_of (List.mem_of_getElem? (i := 1118) (by decide +kernel)) rfl
theorem wl_8_60 : Cond.methodLink (mj_on 8) 60 yX6_depth ∈ mj_gT := mj_gT_of (List.mem_of_getElem? (i := 690) (by decide +kernel)) rfl
theorem wl_8_63 : Cond.methodLink (mj_on 8) 63 yX7_depth ∈ mj_gT := mj_gT_of (List.mem_of_getElem? (i := 1005) (by decide +kernel)) rfl
theorem wl_8_64 : Cond.methodLink (mj_on 8) 64 yX6_up ∈ mj_gT := mj_gT_of (List.mem_of_getElem? (i := 695) (by decide +kernel)) rfl
theorem wl_8_67 : Cond.methodLink (mj_on 8) 67 yX7_up ∈ mj_gT := mj_gT_of (List.mem_of_getElem? (i := 1013) (by decide +kernel)) rfl
theorem wl_8_68 : Cond.methodLink (mj_on 8) 68 yX6_presses ∈ mj_gT := mj_gT_of (List.mem_of_getElem? (i := 699) (by decide +kernel)) rfl
theorem wl_8_71 : Cond.methodLink (mj_on 8) 71 yX7_presses ∈ mj_gT := mj_gT_of (List.mem_of_getElem? (i := 1041) (by decide +kernel)) rfl
theorem wl_8_72 : Cond.methodLink (mj_on 8) 72 yX6_slept ∈ mj_gT := mj_gT_of (List.mem_of_getElem? (i := 703) (by decide +kernel)) rfl
theorem wl_8_75 : Cond.methodLink (mj_on 8) 75 yX7_slept ∈ mj_gT := mj_gT_of (List.mem_of_getElem? (i := 1045) (by decide +kernel)) rfl
theorem wl_8_76 : Cond.methodLink (mj_on 8) 76 yX6_done ∈ mj_gT := mj_gT_of (List.mem_of_getElem? (i := 707) (by decide +kernel)) rfl
theorem wl_8_79 : Cond.methodLink (mj_on 8) 79 yX7_done ∈ mj_gT := mj_gT_of (List.mem_of_getElem? (i := 1049) (by decide +kernel)) rfl
theorem wl_8_80 : Cond.methodLink (mj_on 8) 80 yX6_value ∈ mj_gT := mj_gT_of (List.mem_of_getElem? (i := 717) (by decide +kernel)) rfl
theorem wl_8_83 : Cond.methodLink (mj_on 8) 83 yX7_value ∈ mj_gT := mj_gT_of (List.mem_of_getElem? (i := 1057) (by decide +kernel)) rfl
theorem wl_8_84 : Cond.methodLink (mj_on 8) 84 yX6_cost ∈ mj_gT := mj_gT_of (List.mem_of_getElem? (i := 735) (by decide +kernel)) rfl
theorem wl_8_87 : Cond.methodLink (mj_on 8) 87 yX7_cost ∈ mj_gT := mj_gT_of (List.mem_of_getElem? (i := 1070) (by decide +kernel)) rfl
theorem wl_8_88 : Cond.methodLink (mj_on 8) 88 yX6_evening ∈ mj_gT := mj_gT_of (List.mem_of_getElem? (i := 739) (by decide +kernel)) rfl
theorem wl_8_91 : Cond.methodLink (mj_on 8) 91 yX7_evening ∈ mj_gT := mj_gT_of (List.mem_of_getElem? (i := 1074) (by decide +kernel)) rfl
theorem wl_8_92 : Cond.methodLink (mj_on 8) 92 yX6_often ∈ mj_gT := mj_gT_of (List.mem_of_getElem? (i := 747) (by decide +kernel)) rfl
theorem wl_8_95 : Cond.methodLink (mj_on 8) 95 yX7_often ∈ mj_gT := mj_gT_of (List.mem_of_getElem? (i := 1086) (by decide +kernel)) rfl
theorem wl_8_96 : Cond.methodLink (mj_on 8) 96 yX6_hears ∈ mj_gT := mj_gT_of (List.mem_of_getElem? (i := 751) (by decide +kernel)) rfl
theorem wl_8_99 : Cond.methodLink (mj_on 8) 99 yX7_hears ∈ mj_gT := mj_gT_of (List.mem_of_getElem? (i := 1090) (by decide +kernel)) rfl
theorem wl_8_100 : Cond.methodLink (mj_on 8) 100 yX6_silent ∈ mj_gT := mj_gT_of (List.mem_of_getElem? (i := 759) (by decide +kernel)) rfl
theorem wl_8_103 : Cond.methodLink (mj_on 8) 103 yX7_silent ∈ mj_gT := mj_gT_of (List.mem_of_getElem? (i := 1098) (by decide +kernel)) rfl
theorem wl_8_104 : Cond.methodLink (mj_on 8) 104 yX6_bet ∈ mj_gT := mj_gT_of (List.mem_of_getElem? (i := 763) (by decide +kernel)) rfl
theorem wl_8_107 : Cond.methodLink (mj_on 8) 107 yX7_bet ∈ mj_gT := mj_gT_of (List.mem_of_getElem? (i := 1102) (by decide +kernel)) rfl
theorem wl_8_108 : Cond.methodLink (mj_on 8) 108 yX6_leans ∈ mj_gT := mj_gT_of (List.mem_of_getElem? (i := 767) (by decide +kernel)) rfl
theorem wl_8_111 : Cond.methodLink (mj_on 8) 111 yX7_leans ∈ mj_gT := mj_gT_of (List.mem_of_getElem? (i := 1106) (by decide +kernel)) rfl
theorem wl_8_112 : Cond.methodLink (mj_on 8) 112 yX6_back ∈ mj_gT := mj_gT_of (List.mem_of_getElem? (i := 771) (by decide +kernel)) rfl
theorem wl_8_115 : Cond.methodLink (mj_on 8) 115 yX7_back ∈ mj_gT := mj_gT_of (List.mem_of_getElem? (i := 1110) (by decide +kernel)) rfl
theorem wl_8_116 : Cond.methodLink (mj_on 8) 116 yX6_moment ∈ mj_gT := mj_gT_of (List.mem_of_getElem? (i := 775) (by decide +kernel)) rfl
theorem wl_8_120 : Cond.methodLink (mj_on 8) 120 yX7_moment ∈ mj_gT := mj_gT_of (List.mem_of_getElem? (i := 1114) (by decide +kernel)) rfl
theorem wl_8_121 : Cond.methodLink (mj_on 8) 121 yX6_week ∈ mj_gT := mj_gT_of (List.mem_of_getElem? (i := 779) (by decide +kernel)) rfl
theorem wl_8_124 : Cond.methodLink (mj_on 8) 124 yX7_week ∈ mj_gT := mj_gT_of (List.mem_of_getElem? (i := 1126) (by decide +kernel)) rfl
theorem wl_8_125 : Cond.methodLink (mj_on 8) 125 yX6_row ∈ mj_gT := mj_gT_of (List.mem_of_getElem? (i := 783) (by decide +kernel)) rfl
theorem wl_8_128 : Cond.methodLink (mj_on 8) 128 yX7_row ∈ mj_gT := mj_gT_of (List.mem_of_getElem? (i := 1130) (by decide +kernel)) rfl
theorem wl_8_129 : Cond.methodLink (mj_on 8) 129 yX6_judge ∈ mj_gT := mj_gT_of (List.mem_of_getElem? (i := 787) (by decide +kernel)) rfl
theorem wl_8_132 : Cond.methodLink (mj_on 8) 132 yX7_judge ∈ mj_gT := mj_gT_of (List.mem_of_getElem? (i := 1134) (by decide +kernel)) rfl
theorem wl_8_133 : Cond.methodLink (mj_on 8) 133 yX6_firms ∈ mj_gT := mj_gT_of (List.mem_of_getElem? (i := 795) (by decide +kernel)) rfl
theorem wl_8_136 : Cond.methodLink (mj_on 8) 136 yX7_firms ∈ mj_gT := mj_gT_of (List.mem_of_getElem? (i := 1142) (by decide +kernel)) rfl
theorem wl_8_137 : Cond.methodLink (mj_on 8) 137 yX6_clear ∈ mj_gT := mj_gT_of (List.mem_of_getElem? (i := 799) (by decide +kernel)) rfl
theorem wl_8_140 : Cond.methodLink (mj_on 8) 140 yX7_clear ∈ mj_gT := mj_gT_of (List.mem_of_getElem? (i := 1146) (by decide +kernel)) rfl
theorem wl_8_141 : Cond.methodLink (mj_on 8) 141 yX6_lots ∈ mj_gT := mj_gT_of (List.mem_of_getElem? (i := 803) (by decide +kernel)) rfl
theorem wl_8_144 : Cond.methodLink (mj_on 8) 144 yX7_lots ∈ mj_gT := mj_gT_of (List.mem_of_getElem? (i := 1150) (by decide +kernel)) rfl
theorem wl_8_145 : Cond.methodLink (mj_on 8) 145 yX6_image ∈ mj_gT := mj_gT_of (List.mem_of_getElem? (i := 814) (by decide +kernel)) rfl
theorem wl_8_148 : Cond.methodLink (mj_on 8) 148 yX7_image ∈ mj_gT := mj_gT_of (List.mem_of_getElem? (i := 1157) (by decide +kernel)) rfl
theorem wl_8_149 : Cond.methodLink (mj_on 8) 149 yX6_on ∈ mj_gT := mj_gT_of (List.mem_of_getElem? (i := 818) (by decide +kernel)) rfl
theorem wl_8_152 : Cond.methodLink (mj_on 8) 152 yX7_on ∈ mj_gT := mj_gT_of (List.mem_of_getElem? (i := 1161) (by decide +kernel)) rfl
theorem wl_8_153 : Cond.methodLink (mj_on 8) 153 yX6_count ∈ mj_gT := mj_gT_of (List.mem_of_getElem? (i := 822) (by decide +kernel)) rfl
theorem wl_8_156 : Cond.methodLink (mj_on 8) 156 yX7_count ∈ mj_gT := mj_gT_of (List.mem_of_getElem? (i := 1165) (by decide +kernel)) rfl
theorem wl_7_41 : Cond.methodLink (mj_on 7) 41 yX7_refuse ∈ mj_gT := mj_gT_of (List.mem_of_getElem? (i := 901) (by decide +kernel)) rfl
theorem wl_7_45 : Cond.methodLink (mj_on 7) 45 yX7_lays ∈ mj_gT := mj_gT_of (List.mem_of_getElem? (i := 942) (by decide +kernel)) rfl
theorem wl_7_49 : Cond.methodLink (mj_on 7) 49 yX7_isIn ∈ mj_gT := mj_gT_of (List.mem_of_getElem? (i := 932) (by decide +kernel)) rfl
theorem wl_7_53 : Cond.methodLink (mj_on 7) 53 yX7_within ∈ mj_gT := mj_gT_of (List.mem_of_getElem? (i := 898) (by decide +kernel)) rfl
theorem wl_7_64 : Cond.methodLink (mj_on 7) 64 yX7_sign ∈ mj_gT := mj_gT_of (List.mem_of_getElem? (i := 917) (by decide +kernel)) rfl
theorem wl_7_68 : Cond.methodLink (mj_on 7) 68 yX7_sleeperOf ∈ mj_gT := mj_gT_of (List.mem_of_getElem? (i := 921) (by decide +kernel)) rfl
theorem wl_7_71 : Cond.methodLink (mj_on 7) 71 yX7_readsKind ∈ mj_gT := mj_gT_of (List.mem_of_getElem? (i := 924) (by decide +kernel)) rfl
theorem wl_7_75 : Cond.methodLink (mj_on 7) 75 yX7_readsNumber ∈ mj_gT := mj_gT_of (List.mem_of_getElem? (i := 928) (by decide +kernel)) rfl
theorem wl_7_79 : Cond.methodLink (mj_on 7) 79 yX7_takes ∈ mj_gT := mj_gT_of (List.mem_of_getElem? (i := 935) (by decide +kernel)) rfl
theorem wl_7_82 : Cond.methodLink (mj_on 7) 82 yX7_clockOf ∈ mj_gT := mj_gT_of (List.mem_of_getElem? (i := 939) (by decide +kernel)) rfl
theorem wl_7_85 : Cond.methodLink (mj_on 7) 85 yX7_isSleeper ∈ mj_gT := mj_gT_of (List.mem_of_getElem? (i := 949) (by decide +kernel)) rfl
theorem wl_7_88 : Cond.methodLink (mj_on 7) 88 yX7_readsStatement ∈ mj_gT := mj_gT_of (List.mem_of_getElem? (i := 913) (by decide +kernel)) rfl
theorem wl_7_92 : Cond.methodLink (mj_on 7) 92 yX7_comes ∈ mj_gT := mj_gT_of (List.mem_of_getElem? (i := 945) (by decide +kernel)) rfl
theorem wl_7_95 : Cond.methodLink (mj_on 7) 95 yX7_reads ∈ mj_gT := mj_gT_of (List.mem_of_getElem? (i := 909) (by decide +kernel)) rfl
theorem wl_7_98 : Cond.methodLink (mj_on 7) 98 yX7_get ∈ mj_gT := mj_gT_of (List.mem_of_getElem? (i := 957) (by decide +kernel)) rfl
theorem wl_7_102 : Cond.methodLink (mj_on 7) 102 yX7_isClock ∈ mj_gT := mj_gT_of (List.mem_of_getElem? (i := 965) (by decide +kernel)) rfl
theorem wl_7_105 : Cond.methodLink (mj_on 7) 105 yX7_at ∈ mj_gT := mj_gT_of (List.mem_of_getElem? (i := 969) (by decide +kernel)) rfl
theorem wl_7_108 : Cond.methodLink (mj_on 7) 108 yX7_of ∈ mj_gT := mj_gT_of (List.mem_of_getElem? (i := 977) (by decide +kernel)) rfl
theorem wl_7_111 : Cond.methodLink (mj_on 7) 111 yX7_changes ∈ mj_gT := mj_gT_of (List.mem_of_getElem? (i := 985) (by decide +kernel)) rfl
theorem wl_7_114 : Cond.methodLink (mj_on 7) 114 yX7_depthOf ∈ mj_gT := mj_gT_of (List.mem_of_getElem? (i := 1009) (by decide +kernel)) rfl
theorem wl_7_129 : Cond.methodLink (mj_on 7) 129 yX7_wakes ∈ mj_gT := mj_gT_of (List.mem_of_getElem? (i := 1025) (by decide +kernel)) rfl
theorem wl_7_132 : Cond.methodLink (mj_on 7) 132 yX7_later ∈ mj_gT := mj_gT_of (List.mem_of_getElem? (i := 1029) (by decide +kernel)) rfl
theorem wl_7_135 : Cond.methodLink (mj_on 7) 135 yX7_mayPress ∈ mj_gT := mj_gT_of (List.mem_of_getElem? (i := 1033) (by decide +kernel)) rfl
theorem wl_7_138 : Cond.methodLink (mj_on 7) 138 yX7_spareAt ∈ mj_gT := mj_gT_of (List.mem_of_getElem? (i := 1037) (by decide +kernel)) rfl
theorem wl_7_141 : Cond.methodLink (mj_on 7) 141 yX7_morningOf ∈ mj_gT := mj_gT_of (List.mem_of_getElem? (i := 1021) (by decide +kernel)) rfl
theorem wl_7_145 : Cond.methodLink (mj_on 7) 145 yX7_morning ∈ mj_gT := mj_gT_of (List.mem_of_getElem? (i := 1017) (by decide +kernel)) rfl
theorem wl_7_152 : Cond.methodLink (mj_on 7) 152 yX7_doneAt ∈ mj_gT := mj_gT_of (List.mem_of_getElem? (i := 1053) (by decide +kernel)) rfl
theorem wl_7_155 : Cond.methodLink (mj_on 7) 155 yX7_valueOf ∈ mj_gT := mj_gT_of (List.mem_of_getElem? (i := 1061) (by decide +kernel)) rfl
theorem wl_7_158 : Cond.methodLink (mj_on 7) 158 yX7_refuseFar ∈ mj_gT := mj_gT_of (List.mem_of_getElem? (i := 1065) (by decide +kernel)) rfl
theorem wl_7_161 : Cond.methodLink (mj_on 7) 161 yX7_begins ∈ mj_gT := mj_gT_of (List.mem_of_getElem? (i := 1078) (by decide +kernel)) rfl
theorem wl_7_164 : Cond.methodLink (mj_on 7) 164 yX7_ends ∈ mj_gT := mj_gT_of (List.mem_of_getElem? (i := 1082) (by decide +kernel)) rfl
theorem wl_7_167 : Cond.methodLink (mj_on 7) 167 yX7_hearsBut ∈ mj_gT := mj_gT_of (List.mem_of_getElem? (i := 1094) (by decide +kernel)) rfl
theorem wl_7_170 : Cond.methodLink (mj_on 7) 170 yX7_tires ∈ mj_gT := mj_gT_of (List.mem_of_getElem? (i := 1122) (by decide +kernel)) rfl
theorem wl_7_176 : Cond.methodLink (mj_on 7) 176 yX7_wrongDay ∈ mj_gT := mj_gT_of (List.mem_of_getElem? (i := 1138) (by decide +kernel)) rfl
end
section
/-! WHAT IS SAID, over rows of numbers: a room is a row r of 55 numbers as the reference lays it; all in the machine's ints -/
abbrev tn (x : Int32) : Nat := x.toNatClampNeg
def s_in (v n : Int32) : Int32 := if v < 0 then 0 else if v < n then 1 else 0
def s_wi (v least most : Int32) : Int32 := if v < least then -4 else if most < v then -6 else 0
def s_rm (m round : Int32) : Int32 := m - m / round * round
def s_nr (m round : Int32) : Int32 := if s_rm m round < round - s_rm m round then s_rm m round else round - s_rm m round
def s_pl (round deep m tired : Int32) : Int32 := s_nr m round * deep * 2 / round + tired
/-- how deep, from kind, round, deep, at a minute, tired, on a day -/
def s_dep (kind round deep m tired day : Int32) : Int32 :=
  if kind = 1 then s_pl round deep m tired / 2
  else if kind = 2 then s_pl round deep m tired + 4
  else if kind = 3 then s_pl round deep m tired + 4 + (300 - m) / 30
  else if kind = 4 then (if s_rm m 10 = 0 then 0 else s_pl round deep m tired / 2)
  else if kind = 5 then (if 4 < day then s_pl round deep m tired else s_pl round deep m tired / 2)
  else s_pl round deep m tired
def s_D (r : Nat → Int32) (i m : Int32) : Int32 := s_dep (r (7 + 4 * tn i)) (r (7 + 4 * tn i + 1)) (r (7 + 4 * tn i + 2)) m (r 5) (r 6)
/-- whether a clock of a kind, so loud, wakes at a minute him whose sleep is so deep -/
def s_wk (kind loud m d : Int32) : Int32 := if loud + (if kind = 2 then 8 else if kind = 3 then m / 10 else 0) < d then 0 else 1
def s_W (r : Nat → Int32) (c i m : Int32) : Int32 := s_wk (r (23 + 5 * tn c)) (r (23 + 5 * tn c + 4)) m (s_D r i m)
def s_mp (kind k : Int32) : Int32 := if kind = 1 then (if k = 0 then 1 else 0) else if kind = 2 then (if k = 0 then 1 else 0) else if kind = 5 then 0 else 1
def s_lt (kind every k : Int32) : Int32 := if kind = 3 then 1 else if kind = 4 then (if k + 1 < every then every - k else 1) else every
/-- LONG of the first n tasks -/
def s_tl (r : Nat → Int32) : Nat → Int32
  | 0 => 0
  | n + 1 => s_tl r n + r (43 + 2 * n)
def s_sp (r : Nat → Int32) (m : Int32) : Int32 := r 3 - m - s_tl r (tn (r 2))
def s_sb (r : Nat → Int32) (k : Nat) (bits : Int32) : Nat → Int32
  | 0 => 0
  | t + 1 => s_sb r k bits t + (if (bits >>> (nI t &&& 31)) &&& 1 = 0 then 0 else r (43 + 2 * t + k))
/-- of the sets 1 .. k that which is worth most within the time: its worth, its bits -/
def s_dl (r : Nat → Int32) (tm : Int32) : Nat → Int32 × Int32
  | 0 => (0, 0)
  | k + 1 => if tm - s_sb r 0 (nI (k + 1)) (tn (r 2)) < 0 then s_dl r tm k else if (s_dl r tm k).1 < s_sb r 1 (nI (k + 1)) (tn (r 2)) then (s_sb r 1 (nI (k + 1)) (tn (r 2)), nI (k + 1)) else s_dl r tm k
def s_do (r : Nat → Int32) (m : Int32) : Int32 × Int32 := s_dl r (r 3 - m) (2 ^ tn (r 2) - 1)
/-- which clock rings next -/
def s_f1 (g : Nat → Int32) : Nat := if g 1 < g 0 then 1 else 0
def s_f2 (g : Nat → Int32) : Nat := if g 2 < g (s_f1 g) then 2 else s_f1 g
def s_f3 (g : Nat → Int32) : Nat := if g 3 < g (s_f2 g) then 3 else s_f2 g
/-- a morning: fuel, when each rings next, presses of each, presses, slept through, heard; the answer: up, presses, slept through, heard -/
def s_mo (r : Nat → Int32) (i by_ : Int32) : Nat → (Nat → Int32) → (Nat → Int32) → Int32 → Int32 → Int32 → Int32 × Int32 × Int32 × Int32
  | 0, _, _, pr, sl, he => (300, pr, sl, he)
  | n + 1, g, p, pr, sl, he =>
    if g (s_f3 g) < 300 then
      (if s_W r (nI (s_f3 g)) i (g (s_f3 g)) = 0 then
        s_mo r i by_ n (upd g (s_f3 g) (g (s_f3 g) + s_lt (r (23 + 5 * s_f3 g)) (r (23 + 5 * s_f3 g + 3)) (p (s_f3 g)))) p pr (sl + 1) (he + (if by_ < 0 then 0 else s_W r (nI (s_f3 g)) by_ (g (s_f3 g))))
      else if s_mp (r (23 + 5 * s_f3 g)) (p (s_f3 g)) = 0 then (g (s_f3 g), pr, sl, he + (if by_ < 0 then 0 else s_W r (nI (s_f3 g)) by_ (g (s_f3 g))))
      else if r 4 < s_sp r (g (s_f3 g)) + s_D r i (g (s_f3 g)) + r (7 + 4 * tn i + 3) then
        s_mo r i by_ n (upd g (s_f3 g) (g (s_f3 g) + s_lt (r (23 + 5 * s_f3 g)) (r (23 + 5 * s_f3 g + 3)) (p (s_f3 g)))) (upd p (s_f3 g) (p (s_f3 g) + 1)) (pr + 1) sl (he + (if by_ < 0 then 0 else s_W r (nI (s_f3 g)) by_ (g (s_f3 g))))
      else (g (s_f3 g), pr, sl, he + (if by_ < 0 then 0 else s_W r (nI (s_f3 g)) by_ (g (s_f3 g)))))
    else (300, pr, sl, he)
/-- when each of his clocks rings first, one aside -/
def s_g0 (r : Nat → Int32) (i but : Int32) (c : Nat) : Int32 := if nI c < r 1 then (if r (23 + 5 * c + 1) = i then (if nI c = but then 300 else r (23 + 5 * c + 2)) else 300) else 300
def s_M (r : Nat → Int32) (i but by_ he : Int32) : Int32 × Int32 × Int32 × Int32 := s_mo r i by_ 1201 (s_g0 r i but) (fun _ => 0) 0 0 he
def s_m (r : Nat → Int32) (i : Int32) : Int32 × Int32 × Int32 × Int32 := s_M r i (-9) (-9) 0
/-- VALUE -/
def s_V (r : Nat → Int32) (i : Int32) : Int32 :=
  if (s_m r i).1 = 300 then (s_do r (s_m r i).1).1 + (s_m r i).1 / 10 - 5 * (s_m r i).2.1 - (if r 3 < (s_m r i).1 then 50 else 0)
  else (s_do r (s_m r i).1).1 + (s_m r i).1 / 10 - 5 * (s_m r i).2.1 - (if r 3 < (s_m r i).1 then 50 else 0) - s_D r i (s_m r i).1
/-- of the numbers least .. least + n at a place the best by VALUE of him: it, its VALUE -/
def s_ev (r : Nat → Int32) (k : Nat) (i least : Int32) : Nat → Int32 × Int32
  | 0 => (least, s_V (upd r k least) i)
  | n + 1 => if (s_ev r k i least n).2 < s_V (upd r k (least + nI (n + 1))) i then (least + nI (n + 1), s_V (upd r k (least + nI (n + 1))) i) else s_ev r k i least n
/-- OFTEN: among the first v sets -/
def s_of (r : Nat → Int32) (k : Nat) (i n : Int32) : Nat → Int32
  | 0 => 0
  | v + 1 => s_of r k i n v + (if (s_m (upd r k (nI v)) i).2.1 < n then 0 else 1)
/-- HEARS, one clock aside: the first o sleepers -/
def s_he (r : Nat → Int32) (i but : Int32) : Nat → Int32
  | 0 => 0
  | o + 1 => if nI o = i then s_he r i but o else (s_M r (nI o) but i (s_he r i but o)).2.2.2
def s_H (r : Nat → Int32) (i but : Int32) : Int32 := s_he r i but (tn (r 0))
/-- SILENT: among the first c clocks: it, what is heard then -/
def s_si (r : Nat → Int32) (i : Int32) : Nat → Int32 × Int32
  | 0 => (-9, s_H r i (-9))
  | c + 1 => if r (23 + 5 * c + 1) = i then s_si r i c else if s_H r i (nI c) < (s_si r i c).2 then (nI c, s_H r i (nI c)) else s_si r i c
/-- BET: from firm f on, n of them -/
def s_be (r : Nat → Int32) (i : Int32) : Nat → Nat → Int32
  | 0, _ => -9
  | n + 1, f => if (s_m (upd r 4 (nI f)) i).2.1 = 0 then nI f else s_be r i n (f + 1)
/-- LEANS below n -/
def s_le (r : Nat → Int32) (i m : Int32) : Nat → Int32
  | 0 => 0
  | k + 1 => s_le r i m k ||| (if (s_m (upd r (7 + 4 * tn i + 3) (nI k)) i).1 = m then (1 : Int32) <<< (nI k &&& 31) else 0)
/-- BACK: from k on, n of them -/
def s_ba (r : Nat → Int32) (c i was m : Int32) : Nat → Nat → Int32
  | 0, _ => -9
  | n + 1, k => if was < nI k then -9 else if (s_m (upd r (23 + 5 * tn c + 2) (was - nI k)) i).1 = m then nI k else s_ba r c i was m n (k + 1)
/-- BEST MOMENT among n + 1 -/
def s_mt (r : Nat → Int32) (i from_ : Int32) : Nat → Int32
  | 0 => from_
  | n + 1 => if s_D r i (from_ + nI (n + 1)) < s_D r i (s_mt r i from_ n) then from_ + nI (n + 1) else s_mt r i from_ n
/-- TIRED behind a morning with so many presses -/
def s_ti (t pr : Int32) : Int32 :=
  if t + (if 1 < pr then 1 else if pr = 0 then -1 else 0) < 0 then 0 else if 9 < t + (if 1 < pr then 1 else if pr = 0 then -1 else 0) then 9 else t + (if 1 < pr then 1 else if pr = 0 then -1 else 0)
def s_dy (d : Int32) : Int32 := if d < 6 then d + 1 else 0
/-- a day goes by, in mind -/
def s_go (r : Nat → Int32) (i : Int32) : Nat → Int32 := upd (upd r 5 (s_ti (r 5) (s_m r i).2.1)) 6 (s_dy (r 6))
/-- the row n days on -/
def s_gn (r : Nat → Int32) (i : Int32) : Nat → (Nat → Int32)
  | 0 => r
  | n + 1 => s_go (s_gn r i n) i
/-- all presses of n days -/
def s_wa (r : Nat → Int32) (i : Int32) : Nat → Int32
  | 0 => 0
  | n + 1 => s_wa r i n + (s_m (s_gn r i n) i).2.1
/-- the first of the told that is not so: from the kth day on, n of them -/
def s_ju (r : Nat → Int32) (i : Int32) (q : Nat → Int32) : Nat → Nat → Int32
  | 0, _ => -9
  | n + 1, k => if (s_m (s_gn r i k) i).1 = q k then s_ju r i q n (k + 1) else nI k
/-- FIRMS from f down, n of them: how many, the least -/
def s_fi (r : Nat → Int32) (i : Int32) (q : Nat → Int32) (w : Nat) : Nat → Int32 × Int32
  | 0 => (0, -9)
  | n + 1 => if s_ju (upd r 4 (nI (99 - n))) i q w 0 < 0 then ((s_fi r i q w n).1 + 1, nI (99 - n)) else s_fi r i q w n
/-- draws for the first c clocks: the row, the seed -/
def s_dr (r : Nat → Int32) (i : Int32) (z : Int32) : Nat → (Nat → Int32) × Int32
  | 0 => (r, z)
  | c + 1 => if r (23 + 5 * c + 1) = i then (upd (s_dr r i z c).1 (23 + 5 * c + 2) ((((s_dr r i z c).2 * 1664525 + 1013904223) &&& 2147483647) / 256 - (((s_dr r i z c).2 * 1664525 + 1013904223) &&& 2147483647) / 256 / 300 * 300), (s_dr r i z c).2 * 1664525 + 1013904223) else s_dr r i z c
/-- LOTS: behind n mornings: the row, the seed, all presses -/
def s_lo (r : Nat → Int32) (i z : Int32) : Nat → (Nat → Int32) × Int32 × Int32
  | 0 => (r, z, 0)
  | n + 1 => ((s_dr (s_lo r i z n).1 i (s_lo r i z n).2.1 (tn (r 1))).1, (s_dr (s_lo r i z n).1 i (s_lo r i z n).2.1 (tn (r 1))).2, (s_lo r i z n).2.2 + (s_m (s_dr (s_lo r i z n).1 i (s_lo r i z n).2.1 (tn (r 1))).1 i).2.1)
end
section
/-! ints and their values -/
theorem ti_add {a b : Int32} (h1 : -2147483648 ≤ a.toInt + b.toInt) (h2 : a.toInt + b.toInt < 2147483648) : (a + b).toInt = a.toInt + b.toInt := by
  rw [Int32.toInt_add]
  exact Int.bmod_eq_of_le (by simpa using h1) (by simpa using h2)
theorem ti_sub {a b : Int32} (h1 : -2147483648 ≤ a.toInt - b.toInt) (h2 : a.toInt - b.toInt < 2147483648) : (a - b).toInt = a.toInt - b.toInt := by
  rw [Int32.toInt_sub]
  exact Int.bmod_eq_of_le (by simpa using h1) (by simpa using h2)
theorem ti_mul {a b : Int32} (h1 : -2147483648 ≤ a.toInt * b.toInt) (h2 : a.toInt * b.toInt < 2147483648) : (a * b).toInt = a.toInt * b.toInt := by
  rw [Int32.toInt_mul]
  exact Int.bmod_eq_of_le (by simpa using h1) (by simpa using h2)
theorem ti_lt {a b : Int32} : a < b ↔ a.toInt < b.toInt := Int32.lt_iff_toInt_lt
theorem ti_le {a b : Int32} : a ≤ b ↔ a.toInt ≤ b.toInt := Int32.le_iff_toInt_le
theorem ti_eq {a b : Int32} : a = b ↔ a.toInt = b.toInt := Int32.toInt_inj.symm
theorem ti_ge {a : Int32} : -2147483648 ≤ a.toInt := Int32.le_toInt a
theorem ti_le2 {a : Int32} : a.toInt < 2147483648 := Int32.toInt_lt a
theorem tn_of {x : Int32} (h : 0 ≤ x.toInt) : (tn x : Int) = x.toInt := Int.toNat_of_nonneg h
theorem tn_i {x : Int32} : tn x = x.toInt.toNat := rfl
theorem ti_nI {n : Nat} (h : n < 2147483648) : (nI n).toInt = (n : Int) := nI_toInt h
theorem tn_nI {n : Nat} (h : n < 2147483648) : tn (nI n) = n := nI_clamp h
def bd (x : Int32) (lo hi : Int) : Prop := lo ≤ x.toInt ∧ x.toInt ≤ hi
theorem bd_nI {x : Int32} {hi : Int} (h : bd x 0 hi) : x = nI (tn x) := by
  rw [ti_eq, ti_nI]
  · exact (tn_of h.1).symm
  · have := tn_of h.1
    have := ti_le2 (a := x)
    omega
theorem tn_0 : tn 0 = 0 := rfl
theorem tn_1 : tn 1 = 1 := rfl
theorem tn_2 : tn 2 = 2 := rfl
theorem tn_3 : tn 3 = 3 := rfl
theorem tn_4 : tn 4 = 4 := rfl
theorem tn_5 : tn 5 = 5 := rfl
theorem tn_6 : tn 6 = 6 := rfl
theorem tc_0 : (0 : Int32).toNatClampNeg = 0 := rfl
theorem tc_1 : (1 : Int32).toNatClampNeg = 1 := rfl
theorem tc_2 : (2 : Int32).toNatClampNeg = 2 := rfl
theorem tc_3 : (3 : Int32).toNatClampNeg = 3 := rfl
theorem tc_4 : (4 : Int32).toNatClampNeg = 4 := rfl
theorem tc_5 : (5 : Int32).toNatClampNeg = 5 := rfl
theorem tc_6 : (6 : Int32).toNatClampNeg = 6 := rfl
theorem vi_l {n k : Nat} (h : k < n) (h2 : k < 2147483648) : vp_in (nI k) n := by
  rw [vp_in_iff, ti_nI h2]
  omega
theorem vi_0 {n : Nat} : vp_in 0 (n + 1) := vi_l (k := 0) (by omega) (by omega)
theorem vi_1 {n : Nat} : vp_in 1 (n + 2) := vi_l (k := 1) (by omega) (by omega)
theorem vi_2 {n : Nat} : vp_in 2 (n + 3) := vi_l (k := 2) (by omega) (by omega)
theorem vi_3 {n : Nat} : vp_in 3 (n + 4) := vi_l (k := 3) (by omega) (by omega)
theorem vi_4 {n : Nat} : vp_in 4 (n + 5) := vi_l (k := 4) (by omega) (by omega)
theorem vi_5 {n : Nat} : vp_in 5 (n + 6) := vi_l (k := 5) (by omega) (by omega)
theorem vi_6 {n : Nat} : vp_in 6 (n + 7) := vi_l (k := 6) (by omega) (by omega)
theorem vi_x {x : Int32} {n : Nat} (h1 : 0 ≤ x.toInt) (h2 : x.toInt < n) : vp_in x n := vp_in_iff.mpr ⟨h1, h2⟩
/-- a place in the row: base + step * i + k -/
theorem ix_t {b s i k : Int32} (hb : bd b 0 100) (hs : bd s 0 5) (hi : bd i 0 5) (hk : bd k 0 5) : (b + s * i + k).toInt = b.toInt + s.toInt * i.toInt + k.toInt := by
  obtain ⟨hb1, hb2⟩ := hb
  obtain ⟨hs1, hs2⟩ := hs
  obtain ⟨hi1, hi2⟩ := hi
  obtain ⟨hk1, hk2⟩ := hk
  have h0 : 0 ≤ s.toInt * i.toInt := Int.mul_nonneg hs1 hi1
  have h1 : s.toInt * i.toInt ≤ 5 * 5 := Int.mul_le_mul hs2 hi2 hi1 (by omega)
  rw [ti_add (by rw [ti_add (by rw [ti_mul] <;> omega) (by rw [ti_mul] <;> omega), ti_mul] <;> omega) (by rw [ti_add (by rw [ti_mul] <;> omega) (by rw [ti_mul] <;> omega), ti_mul] <;> omega), ti_add (by rw [ti_mul] <;> omega) (by rw [ti_mul] <;> omega), ti_mul (by omega) (by omega)]
theorem ix_g {i k : Int32} (hi : bd i 0 3) (hk : bd k 0 3) : vp_in (7 + 4 * i + k) 55 ∧ (7 + 4 * i + k).toNatClampNeg = 7 + 4 * tn i + tn k := by
  have h := ix_t (b := 7) (s := 4) (i := i) (k := k) ⟨by decide, by decide⟩ ⟨by decide, by decide⟩ ⟨hi.1, by have := hi.2; omega⟩ ⟨hk.1, by have := hk.2; omega⟩
  have e1 : (7 : Int32).toInt = 7 := rfl
  have e2 : (4 : Int32).toInt = 4 := rfl
  rw [e1, e2] at h
  obtain ⟨hi1, hi2⟩ := hi
  obtain ⟨hk1, hk2⟩ := hk
  refine ⟨vi_x (by omega) (by omega), ?_⟩
  show (7 + 4 * i + k).toInt.toNat = 7 + 4 * i.toInt.toNat + k.toInt.toNat
  omega
theorem ix_a {i k : Int32} (hi : bd i 0 3) (hk : bd k 0 4) : vp_in (23 + 5 * i + k) 55 ∧ (23 + 5 * i + k).toNatClampNeg = 23 + 5 * tn i + tn k := by
  have h := ix_t (b := 23) (s := 5) (i := i) (k := k) ⟨by decide, by decide⟩ ⟨by decide, by decide⟩ ⟨hi.1, by have := hi.2; omega⟩ ⟨hk.1, by have := hk.2; omega⟩
  have e1 : (23 : Int32).toInt = 23 := rfl
  have e2 : (5 : Int32).toInt = 5 := rfl
  rw [e1, e2] at h
  obtain ⟨hi1, hi2⟩ := hi
  obtain ⟨hk1, hk2⟩ := hk
  refine ⟨vi_x (by omega) (by omega), ?_⟩
  show (23 + 5 * i + k).toInt.toNat = 23 + 5 * i.toInt.toNat + k.toInt.toNat
  omega
theorem ix_o {i k : Int32} (hi : bd i 0 5) (hk : bd k 0 1) : vp_in (43 + 2 * i + k) 55 ∧ (43 + 2 * i + k).toNatClampNeg = 43 + 2 * tn i + tn k := by
  have h := ix_t (b := 43) (s := 2) (i := i) (k := k) ⟨by decide, by decide⟩ ⟨by decide, by decide⟩ hi ⟨hk.1, by have := hk.2; omega⟩
  have e1 : (43 : Int32).toInt = 43 := rfl
  have e2 : (2 : Int32).toInt = 2 := rfl
  rw [e1, e2] at h
  obtain ⟨hi1, hi2⟩ := hi
  obtain ⟨hk1, hk2⟩ := hk
  refine ⟨vi_x (by omega) (by omega), ?_⟩
  show (43 + 2 * i + k).toInt.toNat = 43 + 2 * i.toInt.toNat + k.toInt.toNat
  omega
/-- the numbers of a room are as they must be -/
def dR (r : Nat → Int32) : Prop :=
  bd (r 0) 0 4 ∧ bd (r 1) 0 4 ∧ bd (r 2) 0 6 ∧ bd (r 3) 0 299 ∧ bd (r 4) 0 99 ∧ bd (r 5) 0 9 ∧ bd (r 6) 0 6 ∧
  (∀ i : Nat, i < tn (r 0) → bd (r (7 + 4 * i)) 0 5 ∧ bd (r (7 + 4 * i + 1)) 20 99 ∧ bd (r (7 + 4 * i + 2)) 0 20 ∧ bd (r (7 + 4 * i + 3)) 0 30) ∧
  (∀ c : Nat, c < tn (r 1) → bd (r (23 + 5 * c)) 0 5 ∧ bd (r (23 + 5 * c + 1)) 0 3 ∧ (r (23 + 5 * c + 1)).toInt < (r 0).toInt ∧ bd (r (23 + 5 * c + 2)) 0 300 ∧ bd (r (23 + 5 * c + 3)) 1 20 ∧ bd (r (23 + 5 * c + 4)) 0 30) ∧
  (∀ t : Nat, t < tn (r 2) → bd (r (43 + 2 * t)) 1 60 ∧ bd (r (43 + 2 * t + 1)) 0 99) ∧
  (∀ j : Nat, (7 + 4 * tn (r 0) ≤ j ∧ j < 23) ∨ (23 + 5 * tn (r 1) ≤ j ∧ j < 43) ∨ 43 + 2 * tn (r 2) ≤ j → r j = 0)

/-! a morning comes to its end -/
def s_mu (g : Nat → Int32) : Nat := (300 - (g 0).toInt).toNat + (300 - (g 1).toInt).toNat + (300 - (g 2).toInt).toNat + (300 - (g 3).toInt).toNat
def s_J (r : Nat → Int32) (n : Nat) (g p : Nat → Int32) : Prop := s_mu g < n ∧ n ≤ 1201 ∧ ∀ c : Nat, c < 4 → bd (g c) 0 320 ∧ bd (p c) 0 (1201 - n) ∧ ((g c).toInt < 300 → c < tn (r 1))
theorem s_mu_up {g : Nat → Int32} {c : Nat} {v : Int32} (hc : c < 4) (h : (g c).toInt < 300) (hv : (g c).toInt < v.toInt) : s_mu (upd g c v) < s_mu g := by
  unfold s_mu
  rcases (show c = 0 ∨ c = 1 ∨ c = 2 ∨ c = 3 by omega) with rfl | rfl | rfl | rfl
  · rw [ud_s, ud_o (by decide), ud_o (by decide), ud_o (by decide)]; omega
  · rw [ud_s, ud_o (by decide), ud_o (by decide), ud_o (by decide)]; omega
  · rw [ud_s, ud_o (by decide), ud_o (by decide), ud_o (by decide)]; omega
  · rw [ud_s, ud_o (by decide), ud_o (by decide), ud_o (by decide)]; omega
theorem s_f3_lt (g : Nat → Int32) : s_f3 g < 4 := by
  unfold s_f3 s_f2 s_f1
  repeat' split
  all_goals omega
theorem s_f3_le (g : Nat → Int32) : ∀ c, c < 4 → (g (s_f3 g)).toInt ≤ (g c).toInt := by
  have key : (g (s_f3 g)).toInt ≤ (g 0).toInt ∧ (g (s_f3 g)).toInt ≤ (g 1).toInt ∧ (g (s_f3 g)).toInt ≤ (g 2).toInt ∧ (g (s_f3 g)).toInt ≤ (g 3).toInt := by
    have h1 : (g (s_f1 g)).toInt ≤ (g 0).toInt ∧ (g (s_f1 g)).toInt ≤ (g 1).toInt := by
      unfold s_f1
      split
      · rename_i h; rw [ti_lt] at h; omega
      · rename_i h; rw [ti_lt] at h; omega
    have h2 : (g (s_f2 g)).toInt ≤ (g (s_f1 g)).toInt ∧ (g (s_f2 g)).toInt ≤ (g 2).toInt := by
      unfold s_f2
      split
      · rename_i h; rw [ti_lt] at h; omega
      · rename_i h; rw [ti_lt] at h; omega
    have h3 : (g (s_f3 g)).toInt ≤ (g (s_f2 g)).toInt ∧ (g (s_f3 g)).toInt ≤ (g 3).toInt := by
      unfold s_f3
      split
      · rename_i h; rw [ti_lt] at h; omega
      · rename_i h; rw [ti_lt] at h; omega
    omega
  intro c hc
  rcases (show c = 0 ∨ c = 1 ∨ c = 2 ∨ c = 3 by omega) with rfl | rfl | rfl | rfl
  · exact key.1
  · exact key.2.1
  · exact key.2.2.1
  · exact key.2.2.2
theorem s_lt_bd {kind every k : Int32} (he : bd every 1 20) (hk : bd k 0 1201) : bd (s_lt kind every k) 1 20 := by
  obtain ⟨he1, he2⟩ := he
  obtain ⟨hk1, hk2⟩ := hk
  unfold s_lt
  split
  · exact ⟨by decide, by decide⟩
  · split
    · split
      · rename_i h
        have e1 : (1 : Int32).toInt = 1 := rfl
        rw [ti_lt, ti_add (by omega) (by omega), e1] at h
        exact ⟨by rw [ti_sub (by omega) (by omega)]; omega, by rw [ti_sub (by omega) (by omega)]; omega⟩
      · exact ⟨by decide, by decide⟩
    · exact ⟨he1, he2⟩
theorem s_J_step {r : Nat → Int32} {n : Nat} {g p p' : Nat → Int32} (hr : dR r) (h : s_J r (n + 1) g p) (hm : g (s_f3 g) < 300) (hp : ∀ c, c < 4 → p' c = p c ∨ p' c = p c + 1) :
    s_J r n (upd g (s_f3 g) (g (s_f3 g) + s_lt (r (23 + 5 * s_f3 g)) (r (23 + 5 * s_f3 g + 3)) (p (s_f3 g)))) p' ∧ s_f3 g < tn (r 1) := by
  obtain ⟨h1, h2, h3⟩ := h
  have hc := s_f3_lt g
  obtain ⟨a1, a2, a3⟩ := h3 _ hc
  have e300 : (300 : Int32).toInt = 300 := rfl
  have e1 : (1 : Int32).toInt = 1 := rfl
  rw [ti_lt, e300] at hm
  have hcl := a3 hm
  obtain ⟨-, -, -, -, -, -, -, -, hcc, -, -⟩ := hr
  obtain ⟨-, -, -, -, hev, -⟩ := hcc _ hcl
  have hl := s_lt_bd (kind := r (23 + 5 * s_f3 g)) hev ⟨a2.1, by have := a2.2; omega⟩
  obtain ⟨l1, l2⟩ := hl
  obtain ⟨a11, a12⟩ := a1
  have hadd : (g (s_f3 g) + s_lt (r (23 + 5 * s_f3 g)) (r (23 + 5 * s_f3 g + 3)) (p (s_f3 g))).toInt = (g (s_f3 g)).toInt + (s_lt (r (23 + 5 * s_f3 g)) (r (23 + 5 * s_f3 g + 3)) (p (s_f3 g))).toInt := ti_add (by omega) (by omega)
  refine ⟨⟨?_, by omega, fun c hc4 => ⟨?_, ?_, ?_⟩⟩, hcl⟩
  · have := s_mu_up hc hm (v := g (s_f3 g) + s_lt (r (23 + 5 * s_f3 g)) (r (23 + 5 * s_f3 g + 3)) (p (s_f3 g))) (by omega)
    omega
  · by_cases e : c = s_f3 g
    · rw [e, ud_s]
      exact ⟨by omega, by omega⟩
    · rw [ud_o e]
      exact (h3 c hc4).1
  · obtain ⟨b1, b2⟩ := (h3 c hc4).2.1
    rcases hp c hc4 with e | e
    · rw [e]; exact ⟨b1, by omega⟩
    · rw [e]; exact ⟨by rw [ti_add (by omega) (by omega)]; omega, by rw [ti_add (by omega) (by omega)]; omega⟩
  · intro hlt
    by_cases e : c = s_f3 g
    · rw [e]; exact hcl
    · rw [ud_o e] at hlt
      exact (h3 c hc4).2.2 hlt
theorem s_f3_cg {g g' : Nat → Int32} (hg : ∀ c, c < 4 → g c = g' c) : s_f3 g = s_f3 g' := by
  have h1 : s_f1 g = s_f1 g' := by unfold s_f1; rw [hg 0 (by omega), hg 1 (by omega)]
  have k1 : s_f1 g' < 4 := by unfold s_f1; split <;> omega
  have h2 : s_f2 g = s_f2 g' := by unfold s_f2; rw [h1, hg 2 (by omega), hg _ k1]
  have k2 : s_f2 g' < 4 := by unfold s_f2; split <;> omega
  unfold s_f3; rw [h2, hg 3 (by omega), hg _ k2]
theorem s_up_cg {g g' : Nat → Int32} (hg : ∀ c, c < 4 → g c = g' c) (k : Nat) (v : Int32) : ∀ c, c < 4 → upd g k v c = upd g' k v c := by
  intro c hc
  by_cases e : c = k
  · rw [e, ud_s, ud_s]
  · rw [ud_o e, ud_o e, hg c hc]
theorem s_mo_cg {r : Nat → Int32} {i b : Int32} : ∀ (n : Nat) {g g' p p' : Nat → Int32} {pr sl he : Int32}, (∀ c, c < 4 → g c = g' c) → (∀ c, c < 4 → p c = p' c) → s_mo r i b n g p pr sl he = s_mo r i b n g' p' pr sl he := by
  intro n
  induction n with
  | zero => intros; rfl
  | succ n ih =>
    intro g g' p p' pr sl he hg hp
    have e := s_f3_cg hg
    have hc := s_f3_lt g'
    unfold s_mo
    rw [e, hg _ hc, hp _ hc]
    rw [ih (s_up_cg hg _ _) hp, ih (s_up_cg hg _ _) (s_up_cg hp _ _)]
theorem s_g0_bd {r : Nat → Int32} (hr : dR r) {i but : Int32} {k : Nat} (hk : k < 4) : bd (s_g0 r i but k) 0 300 ∧ ((s_g0 r i but k).toInt < 300 → k < tn (r 1)) := by
  obtain ⟨-, r1, -, -, -, -, -, -, rc, -, -⟩ := hr
  have h3 : (300 : Int32).toInt = 300 := rfl
  unfold s_g0
  split
  · rename_i h
    rw [ti_lt, ti_nI (by omega)] at h
    have hk2 : k < tn (r 1) := by have := tn_of r1.1; omega
    refine ⟨?_, fun _ => hk2⟩
    split
    · split
      · exact ⟨by decide, by decide⟩
      · exact (rc k hk2).2.2.2.1
    · exact ⟨by decide, by decide⟩
  · exact ⟨⟨by decide, by decide⟩, fun h => by omega⟩
theorem s_J_0 {r : Nat → Int32} (hr : dR r) {i but : Int32} {g p : Nat → Int32} (hg : ∀ k, k < 4 → g k = s_g0 r i but k) (hp : ∀ k, k < 4 → p k = 0) : s_J r 1201 g p := by
  refine ⟨?_, by omega, fun c hc => ⟨?_, ?_, ?_⟩⟩
  · unfold s_mu
    have h0 := (s_g0_bd hr (i := i) (but := but) (k := 0) (by omega)).1.1
    have h1 := (s_g0_bd hr (i := i) (but := but) (k := 1) (by omega)).1.1
    have h2 := (s_g0_bd hr (i := i) (but := but) (k := 2) (by omega)).1.1
    have h3 := (s_g0_bd hr (i := i) (but := but) (k := 3) (by omega)).1.1
    rw [hg 0 (by omega), hg 1 (by omega), hg 2 (by omega), hg 3 (by omega)]
    omega
  · rw [hg c hc]
    have := (s_g0_bd hr (i := i) (but := but) hc).1
    exact ⟨this.1, by have := this.2; omega⟩
  · rw [hp c hc]
    exact ⟨by decide, by decide⟩
  · rw [hg c hc]
    exact (s_g0_bd hr (i := i) (but := but) hc).2
theorem s_mo_he {r : Nat → Int32} {i b : Int32} : ∀ (n : Nat) {g p : Nat → Int32} {pr sl he : Int32}, (s_mo r i b n g p pr sl he).1 = (s_mo r i b n g p pr sl 0).1 ∧ (s_mo r i b n g p pr sl he).2.1 = (s_mo r i b n g p pr sl 0).2.1 ∧ (s_mo r i b n g p pr sl he).2.2.1 = (s_mo r i b n g p pr sl 0).2.2.1 ∧ (s_mo r i b n g p pr sl he).2.2.2 = he + (s_mo r i b n g p pr sl 0).2.2.2 := by
  intro n
  induction n with
  | zero => intro g p pr sl he; exact ⟨rfl, rfl, rfl, (Int32.add_zero he).symm⟩
  | succ n ih =>
    intro g p pr sl he
    unfold s_mo
    rw [Int32.zero_add]
    generalize (if b < 0 then (0 : Int32) else s_W r (nI (s_f3 g)) b (g (s_f3 g))) = z
    split
    · split
      · obtain ⟨h1, h2, h3, h4⟩ := ih (g := upd g (s_f3 g) (g (s_f3 g) + s_lt (r (23 + 5 * s_f3 g)) (r (23 + 5 * s_f3 g + 3)) (p (s_f3 g)))) (p := p) (pr := pr) (sl := sl + 1) (he := he + z)
        obtain ⟨k1, k2, k3, k4⟩ := ih (g := upd g (s_f3 g) (g (s_f3 g) + s_lt (r (23 + 5 * s_f3 g)) (r (23 + 5 * s_f3 g + 3)) (p (s_f3 g)))) (p := p) (pr := pr) (sl := sl + 1) (he := z)
        exact ⟨h1.trans k1.symm, h2.trans k2.symm, h3.trans k3.symm, by rw [h4, k4, Int32.add_assoc]⟩
      · split
        · exact ⟨rfl, rfl, rfl, rfl⟩
        · split
          · obtain ⟨h1, h2, h3, h4⟩ := ih (g := upd g (s_f3 g) (g (s_f3 g) + s_lt (r (23 + 5 * s_f3 g)) (r (23 + 5 * s_f3 g + 3)) (p (s_f3 g)))) (p := upd p (s_f3 g) (p (s_f3 g) + 1)) (pr := pr + 1) (sl := sl) (he := he + z)
            obtain ⟨k1, k2, k3, k4⟩ := ih (g := upd g (s_f3 g) (g (s_f3 g) + s_lt (r (23 + 5 * s_f3 g)) (r (23 + 5 * s_f3 g + 3)) (p (s_f3 g)))) (p := upd p (s_f3 g) (p (s_f3 g) + 1)) (pr := pr + 1) (sl := sl) (he := z)
            exact ⟨h1.trans k1.symm, h2.trans k2.symm, h3.trans k3.symm, by rw [h4, k4, Int32.add_assoc]⟩
          · exact ⟨rfl, rfl, rfl, rfl⟩
    · exact ⟨rfl, rfl, rfl, (Int32.add_zero he).symm⟩
end
section
/-! the reference's small methods -/
def mj_cp (M : mj_M) (f t : Nat) : mj_M := fun b j => if b = t then (if j < 55 then M f j else M b j) else M b j
def s_bp (M : mj_M) (k : Nat) (code : Int32) : mj_M := mj_up M k (tn (-code)) (M k (tn (-code)) + 1)
def s_rc (code : Int32) : Prop := code = -1 ∨ code = -2 ∨ code = -3 ∨ code = -4 ∨ code = -6
theorem s_rc_in {code : Int32} (h : s_rc code) : vp_in (-code) 7 := by
  rcases h with rfl | rfl | rfl | rfl | rfl
  · exact vi_l (k := 1) (by omega) (by omega)
  · exact vi_l (k := 2) (by omega) (by omega)
  · exact vi_l (k := 3) (by omega) (by omega)
  · exact vi_l (k := 4) (by omega) (by omega)
  · exact vi_l (k := 6) (by omega) (by omega)
theorem s_in_01 (v n : Int32) : s_in v n = 0 ∨ s_in v n = 1 := by
  unfold s_in
  split
  · exact Or.inl rfl
  · split
    · exact Or.inr rfl
    · exact Or.inl rfl
theorem mv_eq {V : Nat → mj_L → mj_S → mj_M → Prop} {pc : Nat} {L L' : mj_L} {st st' : mj_S} {M M' : mj_M} (h : V pc L' st' M') (hL : L = L') (hs : st = st') (hM : M = M') : V pc L st M := by
  rw [hL, hs, hM]
  exact h
def C_M_isIn : mj_C := (2, 1, fun avs M => ma_ii avs fun v n => (True), fun avs M r M' => ma_ii avs fun v n => (r = .inl (s_in v n) ∧ M' = M))
set_option maxRecDepth 20000 in
set_option maxHeartbeats 2000000 in
theorem t_M_isIn : mj_T yX7_isIn cX7_isIn 2 (some .boolean) 0 C_M_isIn := by
  refine mj_T_of (own := 7) (rk := 3) [] (by decide) rfl (by decide) ⟨rfl, rfl, rfl⟩ (fun _ h => absurd h List.not_mem_nil) ?_
  intro avs M hlen hpre V hV
  obtain ⟨v, n, rfl, hp⟩ := mc_ii hpre
  show V 0 [some (.inl v), some (.inl n)] [] M
  have b_0 := hV h_X7_isIn_0; have b_13 := hV h_X7_isIn_13; have b_14 := hV h_X7_isIn_14
  clear hlen hpre hV
  repeat' (first | (with_reducible refine And.intro ?_ ?_) | (with_reducible intro _) | ((first | refine b_0 _ _ _ ?_ | refine b_13 _ _ _ ?_ | refine b_14 _ _ _ ?_); simp only [k_X7_isIn_0, k_X7_isIn_13, k_X7_isIn_14, xp_1, xp_2, xp_3, xp_4, xp_5, xp_6, xp_7, xp_10, xp_11, xp_12, xp_13, xp_14, xp_15, xp_16, xp_17, xp_18, xp_19, xp_20, xp_21, xp_22, xp_23, xp_30, xp_31, xp_32, xp_33, xp_34, xp_35, xp_36, xp_37, xp_38, xp_39, xp_40, xp_41, xp_42, xp_43, xp_50, xp_51, xp_52, xp_53, xp_60, xp_61, xp_62, xp_63, xp_64, xp_65, xp_70, xp_80, xp_81, xp_82, up_ne, up_s, ud_s, ud_o, xw_0, xw_1, xg_0, xg_1, xl_i, xl_r, xs_0, xs_1, xq_i, xq_r, xq_v, xc_0, xc_1, xt_0, xt_1, xr_0, xr_1, xr_2, xe_0, xe_1, ob_0, ob_18, ob_36, ob_54, ak_55, ln_55, cq_55, ak_56, ln_56, cq_56, ob_57, ak_58, ln_58, cq_58, ak_59, ln_59, cq_59, ob_60, ak_61, ln_61, cq_61, ak_62, ln_62, cq_62, ob_63, ak_64, ln_64, cq_64, ak_65, ln_65, cq_65, ak_66, ln_66, cq_66, ak_67, ln_67, cq_67, ak_68, ln_68, cq_68, ak_69, ln_69, cq_69, ak_70, ln_70, cq_70, ak_71, ln_71, cq_71, ak_72, ln_72, cq_72, ak_73, ln_73, cq_73, pt_54_0, pt_54_1, pt_57_0, pt_57_3, pt_60_0, pt_60_1, pt_60_2, pt_60_4, pt_60_5, pt_60_6, pt_60_8, pt_63_0, pt_63_1, pt_63_2, pt_63_3, pt_63_4, pt_63_6, pt_63_7, pt_63_10, pt_63_11, pt_63_17, true_and, and_true, List.length_cons, List.length_nil, Nat.reduceAdd, Nat.reduceLeDiff, forall_eq, ne_eq, Nat.reduceEqDiff, not_false_eq_true, or_false, false_or, or_true, true_or, reduceCtorEq, Nat.zero_le, Nat.reduceMul, Nat.add_zero, false_and, and_false, false_implies, true_implies, forall_const, implies_true, List.append_nil, List.nil_append, List.cons_append, mb_i, mb_ii, mb_iii, mb_r, mb_ri, mb_rii, mb_riii, mb_rr, mb_rri, mb_rrii, mb_rriii, mb_riiiii, mb_rrr, mb_rir, mb_iiii, mb_riiii, tn_0, tn_1, tn_2, tn_3, tn_4, tn_5, tn_6, tc_0, tc_1, tc_2, tc_3, tc_4, tc_5, tc_6, xf_0, xf_1, xf_2, Sum.inl.injEq, Sum.inr.injEq, C_M_isIn]))
  all_goals clear b_0 b_13 b_14
  all_goals simp [s_in, *]

def C_M_within : mj_C := (3, 1, fun avs M => ma_iii avs fun v least most => (True), fun avs M r M' => ma_iii avs fun v least most => (r = .inl (s_wi v least most) ∧ M' = M))
set_option maxRecDepth 20000 in
set_option maxHeartbeats 2000000 in
theorem t_M_within : mj_T yX7_within cX7_within 3 (some .int) 0 C_M_within := by
  refine mj_T_of (own := 7) (rk := 1) [] (by decide) rfl (by decide) ⟨rfl, rfl⟩ (fun _ h => absurd h List.not_mem_nil) ?_
  intro avs M hlen hpre V hV
  obtain ⟨v, least, most, rfl, hp⟩ := mc_iii hpre
  show V 0 [some (.inl v), some (.inl least), some (.inl most)] [] M
  have b_0 := hV h_X7_within_0; have b_10 := hV h_X7_within_10; have b_20 := hV h_X7_within_20; have b_21 := hV h_X7_within_21
  clear hlen hpre hV
  repeat' (first | (with_reducible refine And.intro ?_ ?_) | (with_reducible intro _) | ((first | refine b_0 _ _ _ ?_ | refine b_10 _ _ _ ?_ | refine b_20 _ _ _ ?_ | refine b_21 _ _ _ ?_); simp only [k_X7_within_0, k_X7_within_10, k_X7_within_20, k_X7_within_21, xp_1, xp_2, xp_3, xp_4, xp_5, xp_6, xp_7, xp_10, xp_11, xp_12, xp_13, xp_14, xp_15, xp_16, xp_17, xp_18, xp_19, xp_20, xp_21, xp_22, xp_23, xp_30, xp_31, xp_32, xp_33, xp_34, xp_35, xp_36, xp_37, xp_38, xp_39, xp_40, xp_41, xp_42, xp_43, xp_50, xp_51, xp_52, xp_53, xp_60, xp_61, xp_62, xp_63, xp_64, xp_65, xp_70, xp_80, xp_81, xp_82, up_ne, up_s, ud_s, ud_o, xw_0, xw_1, xg_0, xg_1, xl_i, xl_r, xs_0, xs_1, xq_i, xq_r, xq_v, xc_0, xc_1, xt_0, xt_1, xr_0, xr_1, xr_2, xe_0, xe_1, ob_0, ob_18, ob_36, ob_54, ak_55, ln_55, cq_55, ak_56, ln_56, cq_56, ob_57, ak_58, ln_58, cq_58, ak_59, ln_59, cq_59, ob_60, ak_61, ln_61, cq_61, ak_62, ln_62, cq_62, ob_63, ak_64, ln_64, cq_64, ak_65, ln_65, cq_65, ak_66, ln_66, cq_66, ak_67, ln_67, cq_67, ak_68, ln_68, cq_68, ak_69, ln_69, cq_69, ak_70, ln_70, cq_70, ak_71, ln_71, cq_71, ak_72, ln_72, cq_72, ak_73, ln_73, cq_73, pt_54_0, pt_54_1, pt_57_0, pt_57_3, pt_60_0, pt_60_1, pt_60_2, pt_60_4, pt_60_5, pt_60_6, pt_60_8, pt_63_0, pt_63_1, pt_63_2, pt_63_3, pt_63_4, pt_63_6, pt_63_7, pt_63_10, pt_63_11, pt_63_17, true_and, and_true, List.length_cons, List.length_nil, Nat.reduceAdd, Nat.reduceLeDiff, forall_eq, ne_eq, Nat.reduceEqDiff, not_false_eq_true, or_false, false_or, or_true, true_or, reduceCtorEq, Nat.zero_le, Nat.reduceMul, Nat.add_zero, false_and, and_false, false_implies, true_implies, forall_const, implies_true, List.append_nil, List.nil_append, List.cons_append, mb_i, mb_ii, mb_iii, mb_r, mb_ri, mb_rii, mb_riii, mb_rr, mb_rri, mb_rrii, mb_rriii, mb_riiiii, mb_rrr, mb_rir, mb_iiii, mb_riiii, tn_0, tn_1, tn_2, tn_3, tn_4, tn_5, tn_6, tc_0, tc_1, tc_2, tc_3, tc_4, tc_5, tc_6, xf_0, xf_1, xf_2, Sum.inl.injEq, Sum.inr.injEq, C_M_within]))
  all_goals clear b_0 b_10 b_20 b_21
  all_goals simp [s_wi, *]

def C_M_refuse : mj_C := (2, 1, fun avs M => ma_ri avs fun a code => (a = 63 ∧ s_rc code), fun avs M r M' => ma_ri avs fun a code => (r = .inl code ∧ M' = s_bp M 64 code))
theorem rc_M_refuse : ∀ avs M, C_M_refuse.2.2.1 avs M → ∃ a r, avs = .inr a :: r ∧ mj_ob a = 7 := by
  intro avs M h
  obtain ⟨a, code, rfl, h⟩ := mc_ri h
  exact ⟨_, _, rfl, by rw [h.1]; rfl⟩
set_option maxRecDepth 20000 in
set_option maxHeartbeats 2000000 in
theorem t_M_refuse : mj_T yX7_refuse cX7_refuse 2 (some .int) 0 C_M_refuse := by
  refine mj_T_of (own := 7) (rk := 1) [] (by decide) rfl (by decide) ⟨rfl, rfl⟩ (fun _ h => absurd h List.not_mem_nil) ?_
  intro avs M hlen hpre V hV
  obtain ⟨a, code, rfl, hp⟩ := mc_ri hpre
  show V 0 [some (.inr a), some (.inl code)] [] M
  have b_0 := hV h_X7_refuse_0
  clear hlen hpre hV
  obtain ⟨rfl, hp⟩ := hp
  have h1 := s_rc_in hp
  repeat' (first | (with_reducible refine And.intro ?_ ?_) | (with_reducible intro _) | ((first | refine b_0 _ _ _ ?_); simp only [k_X7_refuse_0, xp_1, xp_2, xp_3, xp_4, xp_5, xp_6, xp_7, xp_10, xp_11, xp_12, xp_13, xp_14, xp_15, xp_16, xp_17, xp_18, xp_19, xp_20, xp_21, xp_22, xp_23, xp_30, xp_31, xp_32, xp_33, xp_34, xp_35, xp_36, xp_37, xp_38, xp_39, xp_40, xp_41, xp_42, xp_43, xp_50, xp_51, xp_52, xp_53, xp_60, xp_61, xp_62, xp_63, xp_64, xp_65, xp_70, xp_80, xp_81, xp_82, up_ne, up_s, ud_s, ud_o, xw_0, xw_1, xg_0, xg_1, xl_i, xl_r, xs_0, xs_1, xq_i, xq_r, xq_v, xc_0, xc_1, xt_0, xt_1, xr_0, xr_1, xr_2, xe_0, xe_1, ob_0, ob_18, ob_36, ob_54, ak_55, ln_55, cq_55, ak_56, ln_56, cq_56, ob_57, ak_58, ln_58, cq_58, ak_59, ln_59, cq_59, ob_60, ak_61, ln_61, cq_61, ak_62, ln_62, cq_62, ob_63, ak_64, ln_64, cq_64, ak_65, ln_65, cq_65, ak_66, ln_66, cq_66, ak_67, ln_67, cq_67, ak_68, ln_68, cq_68, ak_69, ln_69, cq_69, ak_70, ln_70, cq_70, ak_71, ln_71, cq_71, ak_72, ln_72, cq_72, ak_73, ln_73, cq_73, pt_54_0, pt_54_1, pt_57_0, pt_57_3, pt_60_0, pt_60_1, pt_60_2, pt_60_4, pt_60_5, pt_60_6, pt_60_8, pt_63_0, pt_63_1, pt_63_2, pt_63_3, pt_63_4, pt_63_6, pt_63_7, pt_63_10, pt_63_11, pt_63_17, true_and, and_true, List.length_cons, List.length_nil, Nat.reduceAdd, Nat.reduceLeDiff, forall_eq, ne_eq, Nat.reduceEqDiff, not_false_eq_true, or_false, false_or, or_true, true_or, reduceCtorEq, Nat.zero_le, Nat.reduceMul, Nat.add_zero, false_and, and_false, false_implies, true_implies, forall_const, implies_true, List.append_nil, List.nil_append, List.cons_append, mb_i, mb_ii, mb_iii, mb_r, mb_ri, mb_rii, mb_riii, mb_rr, mb_rri, mb_rrii, mb_rriii, mb_riiiii, mb_rrr, mb_rir, mb_iiii, mb_riiii, tn_0, tn_1, tn_2, tn_3, tn_4, tn_5, tn_6, tc_0, tc_1, tc_2, tc_3, tc_4, tc_5, tc_6, xf_0, xf_1, xf_2, Sum.inl.injEq, Sum.inr.injEq, C_M_refuse]))
  all_goals clear b_0
  all_goals first | exact h1 | rfl

def C_M_refuseFar : mj_C := (2, 1, fun avs M => ma_ri avs fun a code => (a = 63 ∧ s_rc code), fun avs M r M' => ma_ri avs fun a code => (r = .inl (1000000000 - code) ∧ M' = s_bp M 64 code))
theorem rc_M_refuseFar : ∀ avs M, C_M_refuseFar.2.2.1 avs M → ∃ a r, avs = .inr a :: r ∧ mj_ob a = 7 := by
  intro avs M h
  obtain ⟨a, code, rfl, h⟩ := mc_ri h
  exact ⟨_, _, rfl, by rw [h.1]; rfl⟩
set_option maxRecDepth 20000 in
set_option maxHeartbeats 2000000 in
theorem t_M_refuseFar : mj_T yX7_refuseFar cX7_refuseFar 2 (some .int) 1 C_M_refuseFar := by
  refine mj_T_of (own := 7) (rk := 1) [(123, C_M_refuse)] (by decide) rfl (by decide) ⟨rfl, rfl⟩ (List.forall_mem_cons.mpr ⟨mj_KV (own := 7) (nest := false) t_M_refuse ⟨wc_X7_refuse, wi_X7, by decide, wl_7_41⟩ wn_X7_refuse ws_X7_refuse (c0 := 7) (by decide) rfl (by decide +kernel) rc_M_refuse (by decide), (fun _ h => absurd h List.not_mem_nil)⟩) ?_
  intro avs M hlen hpre V hV
  obtain ⟨a, code, rfl, hp⟩ := mc_ri hpre
  show V 0 [some (.inr a), some (.inl code)] [] M
  have b_0 := hV h_X7_refuseFar_0
  clear hlen hpre hV
  obtain ⟨rfl, hp⟩ := hp
  repeat' (first | (with_reducible refine And.intro ?_ ?_) | (with_reducible intro _) | ((first | refine b_0 _ _ _ ?_); simp only [k_X7_refuseFar_0, xp_1, xp_2, xp_3, xp_4, xp_5, xp_6, xp_7, xp_10, xp_11, xp_12, xp_13, xp_14, xp_15, xp_16, xp_17, xp_18, xp_19, xp_20, xp_21, xp_22, xp_23, xp_30, xp_31, xp_32, xp_33, xp_34, xp_35, xp_36, xp_37, xp_38, xp_39, xp_40, xp_41, xp_42, xp_43, xp_50, xp_51, xp_52, xp_53, xp_60, xp_61, xp_62, xp_63, xp_64, xp_65, xp_70, xp_80, xp_81, xp_82, up_ne, up_s, ud_s, ud_o, xw_0, xw_1, xg_0, xg_1, xl_i, xl_r, xs_0, xs_1, xq_i, xq_r, xq_v, xc_0, xc_1, xt_0, xt_1, xr_0, xr_1, xr_2, xe_0, xe_1, ob_0, ob_18, ob_36, ob_54, ak_55, ln_55, cq_55, ak_56, ln_56, cq_56, ob_57, ak_58, ln_58, cq_58, ak_59, ln_59, cq_59, ob_60, ak_61, ln_61, cq_61, ak_62, ln_62, cq_62, ob_63, ak_64, ln_64, cq_64, ak_65, ln_65, cq_65, ak_66, ln_66, cq_66, ak_67, ln_67, cq_67, ak_68, ln_68, cq_68, ak_69, ln_69, cq_69, ak_70, ln_70, cq_70, ak_71, ln_71, cq_71, ak_72, ln_72, cq_72, ak_73, ln_73, cq_73, pt_54_0, pt_54_1, pt_57_0, pt_57_3, pt_60_0, pt_60_1, pt_60_2, pt_60_4, pt_60_5, pt_60_6, pt_60_8, pt_63_0, pt_63_1, pt_63_2, pt_63_3, pt_63_4, pt_63_6, pt_63_7, pt_63_10, pt_63_11, pt_63_17, true_and, and_true, List.length_cons, List.length_nil, Nat.reduceAdd, Nat.reduceLeDiff, forall_eq, ne_eq, Nat.reduceEqDiff, not_false_eq_true, or_false, false_or, or_true, true_or, reduceCtorEq, Nat.zero_le, Nat.reduceMul, Nat.add_zero, false_and, and_false, false_implies, true_implies, forall_const, implies_true, List.append_nil, List.nil_append, List.cons_append, mb_i, mb_ii, mb_iii, mb_r, mb_ri, mb_rii, mb_riii, mb_rr, mb_rri, mb_rrii, mb_rriii, mb_riiiii, mb_rrr, mb_rir, mb_iiii, mb_riiii, tn_0, tn_1, tn_2, tn_3, tn_4, tn_5, tn_6, tc_0, tc_1, tc_2, tc_3, tc_4, tc_5, tc_6, xf_0, xf_1, xf_2, Sum.inl.injEq, Sum.inr.injEq, C_M_refuse, C_M_refuseFar]))
  all_goals clear b_0
  all_goals assumption

def C_M_isSleeper : mj_C := (2, 1, fun avs M => ma_ri avs fun a i => (a = 63), fun avs M r M' => ma_ri avs fun a i => (r = .inl (s_in i (M 65 0)) ∧ M' = M))
theorem rc_M_isSleeper : ∀ avs M, C_M_isSleeper.2.2.1 avs M → ∃ a r, avs = .inr a :: r ∧ mj_ob a = 7 := by
  intro avs M h
  obtain ⟨a, i, rfl, h⟩ := mc_ri h
  exact ⟨_, _, rfl, by rw [h]; rfl⟩
set_option maxRecDepth 20000 in
set_option maxHeartbeats 2000000 in
theorem t_M_isSleeper : mj_T yX7_isSleeper cX7_isSleeper 2 (some .boolean) 1 C_M_isSleeper := by
  refine mj_T_of (own := 7) (rk := 3) [(149, C_M_isIn)] (by decide) rfl (by decide) ⟨rfl, rfl, rfl⟩ (List.forall_mem_cons.mpr ⟨mj_KS (own := 7) (nest := false) t_M_isIn ⟨wc_X7_isIn, wi_X7, by decide, wl_7_49⟩ wn_X7_isIn (by decide +kernel) (by decide), (fun _ h => absurd h List.not_mem_nil)⟩) ?_
  intro avs M hlen hpre V hV
  obtain ⟨a, i, rfl, hp⟩ := mc_ri hpre
  show V 0 [some (.inr a), some (.inl i)] [] M
  have b_0 := hV h_X7_isSleeper_0
  clear hlen hpre hV
  subst hp
  repeat' (first | (with_reducible refine And.intro ?_ ?_) | (with_reducible intro _) | ((first | refine b_0 _ _ _ ?_); simp only [k_X7_isSleeper_0, xp_1, xp_2, xp_3, xp_4, xp_5, xp_6, xp_7, xp_10, xp_11, xp_12, xp_13, xp_14, xp_15, xp_16, xp_17, xp_18, xp_19, xp_20, xp_21, xp_22, xp_23, xp_30, xp_31, xp_32, xp_33, xp_34, xp_35, xp_36, xp_37, xp_38, xp_39, xp_40, xp_41, xp_42, xp_43, xp_50, xp_51, xp_52, xp_53, xp_60, xp_61, xp_62, xp_63, xp_64, xp_65, xp_70, xp_80, xp_81, xp_82, up_ne, up_s, ud_s, ud_o, xw_0, xw_1, xg_0, xg_1, xl_i, xl_r, xs_0, xs_1, xq_i, xq_r, xq_v, xc_0, xc_1, xt_0, xt_1, xr_0, xr_1, xr_2, xe_0, xe_1, ob_0, ob_18, ob_36, ob_54, ak_55, ln_55, cq_55, ak_56, ln_56, cq_56, ob_57, ak_58, ln_58, cq_58, ak_59, ln_59, cq_59, ob_60, ak_61, ln_61, cq_61, ak_62, ln_62, cq_62, ob_63, ak_64, ln_64, cq_64, ak_65, ln_65, cq_65, ak_66, ln_66, cq_66, ak_67, ln_67, cq_67, ak_68, ln_68, cq_68, ak_69, ln_69, cq_69, ak_70, ln_70, cq_70, ak_71, ln_71, cq_71, ak_72, ln_72, cq_72, ak_73, ln_73, cq_73, pt_54_0, pt_54_1, pt_57_0, pt_57_3, pt_60_0, pt_60_1, pt_60_2, pt_60_4, pt_60_5, pt_60_6, pt_60_8, pt_63_0, pt_63_1, pt_63_2, pt_63_3, pt_63_4, pt_63_6, pt_63_7, pt_63_10, pt_63_11, pt_63_17, true_and, and_true, List.length_cons, List.length_nil, Nat.reduceAdd, Nat.reduceLeDiff, forall_eq, ne_eq, Nat.reduceEqDiff, not_false_eq_true, or_false, false_or, or_true, true_or, reduceCtorEq, Nat.zero_le, Nat.reduceMul, Nat.add_zero, false_and, and_false, false_implies, true_implies, forall_const, implies_true, List.append_nil, List.nil_append, List.cons_append, mb_i, mb_ii, mb_iii, mb_r, mb_ri, mb_rii, mb_riii, mb_rr, mb_rri, mb_rrii, mb_rriii, mb_riiiii, mb_rrr, mb_rir, mb_iiii, mb_riiii, tn_0, tn_1, tn_2, tn_3, tn_4, tn_5, tn_6, tc_0, tc_1, tc_2, tc_3, tc_4, tc_5, tc_6, xf_0, xf_1, xf_2, Sum.inl.injEq, Sum.inr.injEq, C_M_isIn, C_M_isSleeper]))
  all_goals clear b_0
  all_goals first | exact vi_0 | exact s_in_01 _ _

def C_M_isClock : mj_C := (2, 1, fun avs M => ma_ri avs fun a i => (a = 63), fun avs M r M' => ma_ri avs fun a i => (r = .inl (s_in i (M 65 1)) ∧ M' = M))
theorem rc_M_isClock : ∀ avs M, C_M_isClock.2.2.1 avs M → ∃ a r, avs = .inr a :: r ∧ mj_ob a = 7 := by
  intro avs M h
  obtain ⟨a, i, rfl, h⟩ := mc_ri h
  exact ⟨_, _, rfl, by rw [h]; rfl⟩
set_option maxRecDepth 20000 in
set_option maxHeartbeats 2000000 in
theorem t_M_isClock : mj_T yX7_isClock cX7_isClock 2 (some .boolean) 1 C_M_isClock := by
  refine mj_T_of (own := 7) (rk := 3) [(149, C_M_isIn)] (by decide) rfl (by decide) ⟨rfl, rfl, rfl⟩ (List.forall_mem_cons.mpr ⟨mj_KS (own := 7) (nest := false) t_M_isIn ⟨wc_X7_isIn, wi_X7, by decide, wl_7_49⟩ wn_X7_isIn (by decide +kernel) (by decide), (fun _ h => absurd h List.not_mem_nil)⟩) ?_
  intro avs M hlen hpre V hV
  obtain ⟨a, i, rfl, hp⟩ := mc_ri hpre
  show V 0 [some (.inr a), some (.inl i)] [] M
  have b_0 := hV h_X7_isClock_0
  clear hlen hpre hV
  subst hp
  repeat' (first | (with_reducible refine And.intro ?_ ?_) | (with_reducible intro _) | ((first | refine b_0 _ _ _ ?_); simp only [k_X7_isClock_0, xp_1, xp_2, xp_3, xp_4, xp_5, xp_6, xp_7, xp_10, xp_11, xp_12, xp_13, xp_14, xp_15, xp_16, xp_17, xp_18, xp_19, xp_20, xp_21, xp_22, xp_23, xp_30, xp_31, xp_32, xp_33, xp_34, xp_35, xp_36, xp_37, xp_38, xp_39, xp_40, xp_41, xp_42, xp_43, xp_50, xp_51, xp_52, xp_53, xp_60, xp_61, xp_62, xp_63, xp_64, xp_65, xp_70, xp_80, xp_81, xp_82, up_ne, up_s, ud_s, ud_o, xw_0, xw_1, xg_0, xg_1, xl_i, xl_r, xs_0, xs_1, xq_i, xq_r, xq_v, xc_0, xc_1, xt_0, xt_1, xr_0, xr_1, xr_2, xe_0, xe_1, ob_0, ob_18, ob_36, ob_54, ak_55, ln_55, cq_55, ak_56, ln_56, cq_56, ob_57, ak_58, ln_58, cq_58, ak_59, ln_59, cq_59, ob_60, ak_61, ln_61, cq_61, ak_62, ln_62, cq_62, ob_63, ak_64, ln_64, cq_64, ak_65, ln_65, cq_65, ak_66, ln_66, cq_66, ak_67, ln_67, cq_67, ak_68, ln_68, cq_68, ak_69, ln_69, cq_69, ak_70, ln_70, cq_70, ak_71, ln_71, cq_71, ak_72, ln_72, cq_72, ak_73, ln_73, cq_73, pt_54_0, pt_54_1, pt_57_0, pt_57_3, pt_60_0, pt_60_1, pt_60_2, pt_60_4, pt_60_5, pt_60_6, pt_60_8, pt_63_0, pt_63_1, pt_63_2, pt_63_3, pt_63_4, pt_63_6, pt_63_7, pt_63_10, pt_63_11, pt_63_17, true_and, and_true, List.length_cons, List.length_nil, Nat.reduceAdd, Nat.reduceLeDiff, forall_eq, ne_eq, Nat.reduceEqDiff, not_false_eq_true, or_false, false_or, or_true, true_or, reduceCtorEq, Nat.zero_le, Nat.reduceMul, Nat.add_zero, false_and, and_false, false_implies, true_implies, forall_const, implies_true, List.append_nil, List.nil_append, List.cons_append, mb_i, mb_ii, mb_iii, mb_r, mb_ri, mb_rii, mb_riii, mb_rr, mb_rri, mb_rrii, mb_rriii, mb_riiiii, mb_rrr, mb_rir, mb_iiii, mb_riiii, tn_0, tn_1, tn_2, tn_3, tn_4, tn_5, tn_6, tc_0, tc_1, tc_2, tc_3, tc_4, tc_5, tc_6, xf_0, xf_1, xf_2, Sum.inl.injEq, Sum.inr.injEq, C_M_isClock, C_M_isIn]))
  all_goals clear b_0
  all_goals first | exact vi_1 | exact s_in_01 _ _

def C_M_get : mj_C := (3, 1, fun avs M => ma_rii avs fun a i k => (a = 63 ∧ bd i 0 3 ∧ bd k 0 3), fun avs M r M' => ma_rii avs fun a i k => (r = .inl (M 65 (7 + 4 * tn i + tn k)) ∧ M' = M))
theorem rc_M_get : ∀ avs M, C_M_get.2.2.1 avs M → ∃ a r, avs = .inr a :: r ∧ mj_ob a = 7 := by
  intro avs M h
  obtain ⟨a, i, k, rfl, h⟩ := mc_rii h
  exact ⟨_, _, rfl, by rw [h.1]; rfl⟩
set_option maxRecDepth 20000 in
set_option maxHeartbeats 2000000 in
theorem t_M_get : mj_T yX7_get cX7_get 3 (some .int) 0 C_M_get := by
  refine mj_T_of (own := 7) (rk := 1) [] (by decide) rfl (by decide) ⟨rfl, rfl⟩ (fun _ h => absurd h List.not_mem_nil) ?_
  intro avs M hlen hpre V hV
  obtain ⟨a, i, k, rfl, hp⟩ := mc_rii hpre
  show V 0 [some (.inr a), some (.inl i), some (.inl k)] [] M
  have b_0 := hV h_X7_get_0
  clear hlen hpre hV
  obtain ⟨rfl, h1, h2⟩ := hp
  have h := ix_g h1 h2
  repeat' (first | (with_reducible refine And.intro ?_ ?_) | (with_reducible intro _) | ((first | refine b_0 _ _ _ ?_); simp only [k_X7_get_0, xp_1, xp_2, xp_3, xp_4, xp_5, xp_6, xp_7, xp_10, xp_11, xp_12, xp_13, xp_14, xp_15, xp_16, xp_17, xp_18, xp_19, xp_20, xp_21, xp_22, xp_23, xp_30, xp_31, xp_32, xp_33, xp_34, xp_35, xp_36, xp_37, xp_38, xp_39, xp_40, xp_41, xp_42, xp_43, xp_50, xp_51, xp_52, xp_53, xp_60, xp_61, xp_62, xp_63, xp_64, xp_65, xp_70, xp_80, xp_81, xp_82, up_ne, up_s, ud_s, ud_o, xw_0, xw_1, xg_0, xg_1, xl_i, xl_r, xs_0, xs_1, xq_i, xq_r, xq_v, xc_0, xc_1, xt_0, xt_1, xr_0, xr_1, xr_2, xe_0, xe_1, ob_0, ob_18, ob_36, ob_54, ak_55, ln_55, cq_55, ak_56, ln_56, cq_56, ob_57, ak_58, ln_58, cq_58, ak_59, ln_59, cq_59, ob_60, ak_61, ln_61, cq_61, ak_62, ln_62, cq_62, ob_63, ak_64, ln_64, cq_64, ak_65, ln_65, cq_65, ak_66, ln_66, cq_66, ak_67, ln_67, cq_67, ak_68, ln_68, cq_68, ak_69, ln_69, cq_69, ak_70, ln_70, cq_70, ak_71, ln_71, cq_71, ak_72, ln_72, cq_72, ak_73, ln_73, cq_73, pt_54_0, pt_54_1, pt_57_0, pt_57_3, pt_60_0, pt_60_1, pt_60_2, pt_60_4, pt_60_5, pt_60_6, pt_60_8, pt_63_0, pt_63_1, pt_63_2, pt_63_3, pt_63_4, pt_63_6, pt_63_7, pt_63_10, pt_63_11, pt_63_17, true_and, and_true, List.length_cons, List.length_nil, Nat.reduceAdd, Nat.reduceLeDiff, forall_eq, ne_eq, Nat.reduceEqDiff, not_false_eq_true, or_false, false_or, or_true, true_or, reduceCtorEq, Nat.zero_le, Nat.reduceMul, Nat.add_zero, false_and, and_false, false_implies, true_implies, forall_const, implies_true, List.append_nil, List.nil_append, List.cons_append, mb_i, mb_ii, mb_iii, mb_r, mb_ri, mb_rii, mb_riii, mb_rr, mb_rri, mb_rrii, mb_rriii, mb_riiiii, mb_rrr, mb_rir, mb_iiii, mb_riiii, tn_0, tn_1, tn_2, tn_3, tn_4, tn_5, tn_6, tc_0, tc_1, tc_2, tc_3, tc_4, tc_5, tc_6, xf_0, xf_1, xf_2, Sum.inl.injEq, Sum.inr.injEq, C_M_get]))
  all_goals clear b_0
  · exact h.1
  · rw [h.2]

def C_M_at : mj_C := (3, 1, fun avs M => ma_rii avs fun a i k => (a = 63 ∧ bd i 0 3 ∧ bd k 0 4), fun avs M r M' => ma_rii avs fun a i k => (r = .inl (M 65 (23 + 5 * tn i + tn k)) ∧ M' = M))
theorem rc_M_at : ∀ avs M, C_M_at.2.2.1 avs M → ∃ a r, avs = .inr a :: r ∧ mj_ob a = 7 := by
  intro avs M h
  obtain ⟨a, i, k, rfl, h⟩ := mc_rii h
  exact ⟨_, _, rfl, by rw [h.1]; rfl⟩
set_option maxRecDepth 20000 in
set_option maxHeartbeats 2000000 in
theorem t_M_at : mj_T yX7_at cX7_at 3 (some .int) 0 C_M_at := by
  refine mj_T_of (own := 7) (rk := 1) [] (by decide) rfl (by decide) ⟨rfl, rfl⟩ (fun _ h => absurd h List.not_mem_nil) ?_
  intro avs M hlen hpre V hV
  obtain ⟨a, i, k, rfl, hp⟩ := mc_rii hpre
  show V 0 [some (.inr a), some (.inl i), some (.inl k)] [] M
  have b_0 := hV h_X7_at_0
  clear hlen hpre hV
  obtain ⟨rfl, h1, h2⟩ := hp
  have h := ix_a h1 h2
  repeat' (first | (with_reducible refine And.intro ?_ ?_) | (with_reducible intro _) | ((first | refine b_0 _ _ _ ?_); simp only [k_X7_at_0, xp_1, xp_2, xp_3, xp_4, xp_5, xp_6, xp_7, xp_10, xp_11, xp_12, xp_13, xp_14, xp_15, xp_16, xp_17, xp_18, xp_19, xp_20, xp_21, xp_22, xp_23, xp_30, xp_31, xp_32, xp_33, xp_34, xp_35, xp_36, xp_37, xp_38, xp_39, xp_40, xp_41, xp_42, xp_43, xp_50, xp_51, xp_52, xp_53, xp_60, xp_61, xp_62, xp_63, xp_64, xp_65, xp_70, xp_80, xp_81, xp_82, up_ne, up_s, ud_s, ud_o, xw_0, xw_1, xg_0, xg_1, xl_i, xl_r, xs_0, xs_1, xq_i, xq_r, xq_v, xc_0, xc_1, xt_0, xt_1, xr_0, xr_1, xr_2, xe_0, xe_1, ob_0, ob_18, ob_36, ob_54, ak_55, ln_55, cq_55, ak_56, ln_56, cq_56, ob_57, ak_58, ln_58, cq_58, ak_59, ln_59, cq_59, ob_60, ak_61, ln_61, cq_61, ak_62, ln_62, cq_62, ob_63, ak_64, ln_64, cq_64, ak_65, ln_65, cq_65, ak_66, ln_66, cq_66, ak_67, ln_67, cq_67, ak_68, ln_68, cq_68, ak_69, ln_69, cq_69, ak_70, ln_70, cq_70, ak_71, ln_71, cq_71, ak_72, ln_72, cq_72, ak_73, ln_73, cq_73, pt_54_0, pt_54_1, pt_57_0, pt_57_3, pt_60_0, pt_60_1, pt_60_2, pt_60_4, pt_60_5, pt_60_6, pt_60_8, pt_63_0, pt_63_1, pt_63_2, pt_63_3, pt_63_4, pt_63_6, pt_63_7, pt_63_10, pt_63_11, pt_63_17, true_and, and_true, List.length_cons, List.length_nil, Nat.reduceAdd, Nat.reduceLeDiff, forall_eq, ne_eq, Nat.reduceEqDiff, not_false_eq_true, or_false, false_or, or_true, true_or, reduceCtorEq, Nat.zero_le, Nat.reduceMul, Nat.add_zero, false_and, and_false, false_implies, true_implies, forall_const, implies_true, List.append_nil, List.nil_append, List.cons_append, mb_i, mb_ii, mb_iii, mb_r, mb_ri, mb_rii, mb_riii, mb_rr, mb_rri, mb_rrii, mb_rriii, mb_riiiii, mb_rrr, mb_rir, mb_iiii, mb_riiii, tn_0, tn_1, tn_2, tn_3, tn_4, tn_5, tn_6, tc_0, tc_1, tc_2, tc_3, tc_4, tc_5, tc_6, xf_0, xf_1, xf_2, Sum.inl.injEq, Sum.inr.injEq, C_M_at]))
  all_goals clear b_0
  · exact h.1
  · rw [h.2]

def C_M_of : mj_C := (3, 1, fun avs M => ma_rii avs fun a i k => (a = 63 ∧ bd i 0 5 ∧ bd k 0 1), fun avs M r M' => ma_rii avs fun a i k => (r = .inl (M 65 (43 + 2 * tn i + tn k)) ∧ M' = M))
theorem rc_M_of : ∀ avs M, C_M_of.2.2.1 avs M → ∃ a r, avs = .inr a :: r ∧ mj_ob a = 7 := by
  intro avs M h
  obtain ⟨a, i, k, rfl, h⟩ := mc_rii h
  exact ⟨_, _, rfl, by rw [h.1]; rfl⟩
set_option maxRecDepth 20000 in
set_option maxHeartbeats 2000000 in
theorem t_M_of : mj_T yX7_of cX7_of 3 (some .int) 0 C_M_of := by
  refine mj_T_of (own := 7) (rk := 1) [] (by decide) rfl (by decide) ⟨rfl, rfl⟩ (fun _ h => absurd h List.not_mem_nil) ?_
  intro avs M hlen hpre V hV
  obtain ⟨a, i, k, rfl, hp⟩ := mc_rii hpre
  show V 0 [some (.inr a), some (.inl i), some (.inl k)] [] M
  have b_0 := hV h_X7_of_0
  clear hlen hpre hV
  obtain ⟨rfl, h1, h2⟩ := hp
  have h := ix_o h1 h2
  repeat' (first | (with_reducible refine And.intro ?_ ?_) | (with_reducible intro _) | ((first | refine b_0 _ _ _ ?_); simp only [k_X7_of_0, xp_1, xp_2, xp_3, xp_4, xp_5, xp_6, xp_7, xp_10, xp_11, xp_12, xp_13, xp_14, xp_15, xp_16, xp_17, xp_18, xp_19, xp_20, xp_21, xp_22, xp_23, xp_30, xp_31, xp_32, xp_33, xp_34, xp_35, xp_36, xp_37, xp_38, xp_39, xp_40, xp_41, xp_42, xp_43, xp_50, xp_51, xp_52, xp_53, xp_60, xp_61, xp_62, xp_63, xp_64, xp_65, xp_70, xp_80, xp_81, xp_82, up_ne, up_s, ud_s, ud_o, xw_0, xw_1, xg_0, xg_1, xl_i, xl_r, xs_0, xs_1, xq_i, xq_r, xq_v, xc_0, xc_1, xt_0, xt_1, xr_0, xr_1, xr_2, xe_0, xe_1, ob_0, ob_18, ob_36, ob_54, ak_55, ln_55, cq_55, ak_56, ln_56, cq_56, ob_57, ak_58, ln_58, cq_58, ak_59, ln_59, cq_59, ob_60, ak_61, ln_61, cq_61, ak_62, ln_62, cq_62, ob_63, ak_64, ln_64, cq_64, ak_65, ln_65, cq_65, ak_66, ln_66, cq_66, ak_67, ln_67, cq_67, ak_68, ln_68, cq_68, ak_69, ln_69, cq_69, ak_70, ln_70, cq_70, ak_71, ln_71, cq_71, ak_72, ln_72, cq_72, ak_73, ln_73, cq_73, pt_54_0, pt_54_1, pt_57_0, pt_57_3, pt_60_0, pt_60_1, pt_60_2, pt_60_4, pt_60_5, pt_60_6, pt_60_8, pt_63_0, pt_63_1, pt_63_2, pt_63_3, pt_63_4, pt_63_6, pt_63_7, pt_63_10, pt_63_11, pt_63_17, true_and, and_true, List.length_cons, List.length_nil, Nat.reduceAdd, Nat.reduceLeDiff, forall_eq, ne_eq, Nat.reduceEqDiff, not_false_eq_true, or_false, false_or, or_true, true_or, reduceCtorEq, Nat.zero_le, Nat.reduceMul, Nat.add_zero, false_and, and_false, false_implies, true_implies, forall_const, implies_true, List.append_nil, List.nil_append, List.cons_append, mb_i, mb_ii, mb_iii, mb_r, mb_ri, mb_rii, mb_riii, mb_rr, mb_rri, mb_rrii, mb_rriii, mb_riiiii, mb_rrr, mb_rir, mb_iiii, mb_riiii, tn_0, tn_1, tn_2, tn_3, tn_4, tn_5, tn_6, tc_0, tc_1, tc_2, tc_3, tc_4, tc_5, tc_6, xf_0, xf_1, xf_2, Sum.inl.injEq, Sum.inr.injEq, C_M_of]))
  all_goals clear b_0
  · exact h.1
  · rw [h.2]

def C_M_changes : mj_C := (4, 1, fun avs M => ma_riii avs fun a p v no => (a = 63 ∧ (no = 0 → vp_in p 55) ∧ (¬ no = 0 → s_rc no)), fun avs M r M' => ma_riii avs fun a p v no => (r = .inl (if no = 0 then M 65 (tn p) else no) ∧ M' = if no = 0 then mj_up M 65 (tn p) v else s_bp M 64 no))
theorem rc_M_changes : ∀ avs M, C_M_changes.2.2.1 avs M → ∃ a r, avs = .inr a :: r ∧ mj_ob a = 7 := by
  intro avs M h
  obtain ⟨a, p, v, no, rfl, h⟩ := mc_riii h
  exact ⟨_, _, rfl, by rw [h.1]; rfl⟩
set_option maxRecDepth 20000 in
set_option maxHeartbeats 2000000 in
theorem t_M_changes : mj_T yX7_changes cX7_changes 5 (some .int) 1 C_M_changes := by
  refine mj_T_of (own := 7) (rk := 1) [(123, C_M_refuse)] (by decide) rfl (by decide) ⟨rfl, rfl⟩ (List.forall_mem_cons.mpr ⟨mj_KV (own := 7) (nest := false) t_M_refuse ⟨wc_X7_refuse, wi_X7, by decide, wl_7_41⟩ wn_X7_refuse ws_X7_refuse (c0 := 7) (by decide) rfl (by decide +kernel) rc_M_refuse (by decide), (fun _ h => absurd h List.not_mem_nil)⟩) ?_
  intro avs M hlen hpre V hV
  obtain ⟨a, p, v, no, rfl, hp⟩ := mc_riii hpre
  show V 0 [some (.inr a), some (.inl p), some (.inl v), some (.inl no), none] [] M
  have b_0 := hV h_X7_changes_0; have b_10 := hV h_X7_changes_10
  clear hlen hpre hV
  obtain ⟨rfl, h1, h2⟩ := hp
  repeat' (first | (with_reducible refine And.intro ?_ ?_) | (with_reducible intro _) | ((first | refine b_0 _ _ _ ?_ | refine b_10 _ _ _ ?_); simp only [k_X7_changes_0, k_X7_changes_10, xp_1, xp_2, xp_3, xp_4, xp_5, xp_6, xp_7, xp_10, xp_11, xp_12, xp_13, xp_14, xp_15, xp_16, xp_17, xp_18, xp_19, xp_20, xp_21, xp_22, xp_23, xp_30, xp_31, xp_32, xp_33, xp_34, xp_35, xp_36, xp_37, xp_38, xp_39, xp_40, xp_41, xp_42, xp_43, xp_50, xp_51, xp_52, xp_53, xp_60, xp_61, xp_62, xp_63, xp_64, xp_65, xp_70, xp_80, xp_81, xp_82, up_ne, up_s, ud_s, ud_o, xw_0, xw_1, xg_0, xg_1, xl_i, xl_r, xs_0, xs_1, xq_i, xq_r, xq_v, xc_0, xc_1, xt_0, xt_1, xr_0, xr_1, xr_2, xe_0, xe_1, ob_0, ob_18, ob_36, ob_54, ak_55, ln_55, cq_55, ak_56, ln_56, cq_56, ob_57, ak_58, ln_58, cq_58, ak_59, ln_59, cq_59, ob_60, ak_61, ln_61, cq_61, ak_62, ln_62, cq_62, ob_63, ak_64, ln_64, cq_64, ak_65, ln_65, cq_65, ak_66, ln_66, cq_66, ak_67, ln_67, cq_67, ak_68, ln_68, cq_68, ak_69, ln_69, cq_69, ak_70, ln_70, cq_70, ak_71, ln_71, cq_71, ak_72, ln_72, cq_72, ak_73, ln_73, cq_73, pt_54_0, pt_54_1, pt_57_0, pt_57_3, pt_60_0, pt_60_1, pt_60_2, pt_60_4, pt_60_5, pt_60_6, pt_60_8, pt_63_0, pt_63_1, pt_63_2, pt_63_3, pt_63_4, pt_63_6, pt_63_7, pt_63_10, pt_63_11, pt_63_17, true_and, and_true, List.length_cons, List.length_nil, Nat.reduceAdd, Nat.reduceLeDiff, forall_eq, ne_eq, Nat.reduceEqDiff, not_false_eq_true, or_false, false_or, or_true, true_or, reduceCtorEq, Nat.zero_le, Nat.reduceMul, Nat.add_zero, false_and, and_false, false_implies, true_implies, forall_const, implies_true, List.append_nil, List.nil_append, List.cons_append, mb_i, mb_ii, mb_iii, mb_r, mb_ri, mb_rii, mb_riii, mb_rr, mb_rri, mb_rrii, mb_rriii, mb_riiiii, mb_rrr, mb_rir, mb_iiii, mb_riiii, tn_0, tn_1, tn_2, tn_3, tn_4, tn_5, tn_6, tc_0, tc_1, tc_2, tc_3, tc_4, tc_5, tc_6, xf_0, xf_1, xf_2, Sum.inl.injEq, Sum.inr.injEq, C_M_changes, C_M_refuse]))
  all_goals clear b_0 b_10
  all_goals simp [*]
end
section
/-! the reference's morning -/
theorem i_ss (a b c : Int32) : a - b - c = a - (b + c) := by grind
/-- rounds are not 0 -/
def s_nz (r : Nat → Int32) (i : Int32) : Prop := bd i 0 3 ∧ ¬ r (7 + 4 * tn i + 1) = 0
def C_M_depthOf : mj_C := (3, 1, fun avs M => ma_rii avs fun a i m => (a = 63 ∧ s_nz (M 65) i), fun avs M r M' => ma_rii avs fun a i m => (r = .inl (s_D (M 65) i m) ∧ M' = M))
theorem rc_M_depthOf : ∀ avs M, C_M_depthOf.2.2.1 avs M → ∃ a r, avs = .inr a :: r ∧ mj_ob a = 7 := by
  intro avs M h
  obtain ⟨a, i, m, rfl, h⟩ := mc_rii h
  exact ⟨_, _, rfl, by rw [h.1]; rfl⟩
set_option maxRecDepth 20000 in
set_option maxHeartbeats 2000000 in
theorem t_M_depthOf : mj_T yX7_depthOf cX7_depthOf 7 (some .int) 1 C_M_depthOf := by
  refine mj_T_of (own := 7) (rk := 1) [(294, C_M_get)] (by decide) rfl (by decide) ⟨rfl, rfl⟩ (List.forall_mem_cons.mpr ⟨mj_KV (own := 7) (nest := false) t_M_get ⟨wc_X7_get, wi_X7, by decide, wl_7_98⟩ wn_X7_get ws_X7_get (c0 := 7) (by decide) rfl (by decide +kernel) rc_M_get (by decide), (fun _ h => absurd h List.not_mem_nil)⟩) ?_
  intro avs M hlen hpre V hV
  obtain ⟨a, i, m, rfl, hp⟩ := mc_rii hpre
  show V 0 [some (.inr a), some (.inl i), some (.inl m), none, none, none, none] [] M
  have b_0 := hV h_X7_depthOf_0; have b_26 := hV h_X7_depthOf_26; have b_30 := hV h_X7_depthOf_30; have b_96 := hV h_X7_depthOf_96; have b_101 := hV h_X7_depthOf_101; have b_106 := hV h_X7_depthOf_106; have b_120 := hV h_X7_depthOf_120; have b_131 := hV h_X7_depthOf_131; have b_135 := hV h_X7_depthOf_135; have b_136 := hV h_X7_depthOf_136; have b_152 := hV h_X7_depthOf_152; have b_156 := hV h_X7_depthOf_156; have b_157 := hV h_X7_depthOf_157
  clear hlen hpre hV
  obtain ⟨rfl, hi, h0⟩ := hp
  repeat' (first | (with_reducible refine And.intro ?_ ?_) | (with_reducible intro _) | ((first | refine b_0 _ _ _ ?_ | refine b_26 _ _ _ ?_ | refine b_30 _ _ _ ?_ | refine b_96 _ _ _ ?_ | refine b_101 _ _ _ ?_ | refine b_106 _ _ _ ?_ | refine b_120 _ _ _ ?_ | refine b_131 _ _ _ ?_ | refine b_135 _ _ _ ?_ | refine b_136 _ _ _ ?_ | refine b_152 _ _ _ ?_ | refine b_156 _ _ _ ?_ | refine b_157 _ _ _ ?_); simp only [k_X7_depthOf_0, k_X7_depthOf_26, k_X7_depthOf_30, k_X7_depthOf_96, k_X7_depthOf_101, k_X7_depthOf_106, k_X7_depthOf_120, k_X7_depthOf_131, k_X7_depthOf_135, k_X7_depthOf_136, k_X7_depthOf_152, k_X7_depthOf_156, k_X7_depthOf_157, xp_1, xp_2, xp_3, xp_4, xp_5, xp_6, xp_7, xp_10, xp_11, xp_12, xp_13, xp_14, xp_15, xp_16, xp_17, xp_18, xp_19, xp_20, xp_21, xp_22, xp_23, xp_30, xp_31, xp_32, xp_33, xp_34, xp_35, xp_36, xp_37, xp_38, xp_39, xp_40, xp_41, xp_42, xp_43, xp_50, xp_51, xp_52, xp_53, xp_60, xp_61, xp_62, xp_63, xp_64, xp_65, xp_70, xp_80, xp_81, xp_82, up_ne, up_s, ud_s, ud_o, xw_0, xw_1, xg_0, xg_1, xl_i, xl_r, xs_0, xs_1, xq_i, xq_r, xq_v, xc_0, xc_1, xt_0, xt_1, xr_0, xr_1, xr_2, xe_0, xe_1, ob_0, ob_18, ob_36, ob_54, ak_55, ln_55, cq_55, ak_56, ln_56, cq_56, ob_57, ak_58, ln_58, cq_58, ak_59, ln_59, cq_59, ob_60, ak_61, ln_61, cq_61, ak_62, ln_62, cq_62, ob_63, ak_64, ln_64, cq_64, ak_65, ln_65, cq_65, ak_66, ln_66, cq_66, ak_67, ln_67, cq_67, ak_68, ln_68, cq_68, ak_69, ln_69, cq_69, ak_70, ln_70, cq_70, ak_71, ln_71, cq_71, ak_72, ln_72, cq_72, ak_73, ln_73, cq_73, pt_54_0, pt_54_1, pt_57_0, pt_57_3, pt_60_0, pt_60_1, pt_60_2, pt_60_4, pt_60_5, pt_60_6, pt_60_8, pt_63_0, pt_63_1, pt_63_2, pt_63_3, pt_63_4, pt_63_6, pt_63_7, pt_63_10, pt_63_11, pt_63_17, true_and, and_true, List.length_cons, List.length_nil, Nat.reduceAdd, Nat.reduceLeDiff, forall_eq, ne_eq, Nat.reduceEqDiff, not_false_eq_true, or_false, false_or, or_true, true_or, reduceCtorEq, Nat.zero_le, Nat.reduceMul, Nat.add_zero, false_and, and_false, false_implies, true_implies, forall_const, implies_true, List.append_nil, List.nil_append, List.cons_append, mb_i, mb_ii, mb_iii, mb_r, mb_ri, mb_rii, mb_riii, mb_rr, mb_rri, mb_rrii, mb_rriii, mb_riiiii, mb_rrr, mb_rir, mb_iiii, mb_riiii, tn_0, tn_1, tn_2, tn_3, tn_4, tn_5, tn_6, tc_0, tc_1, tc_2, tc_3, tc_4, tc_5, tc_6, xf_0, xf_1, xf_2, Sum.inl.injEq, Sum.inr.injEq, C_M_depthOf, C_M_get]))
  all_goals clear b_0 b_26 b_30 b_96 b_101 b_106 b_120 b_131 b_135 b_136 b_152 b_156 b_157
  all_goals first | assumption | exact vi_5 | exact vi_6 | (exact ⟨by decide, by decide⟩) | decide | (simp [s_D, s_dep, s_pl, s_nr, s_rm, *]; done)

def C_M_wakes : mj_C := (4, 1, fun avs M => ma_riii avs fun a c i m => (a = 63 ∧ bd c 0 3 ∧ s_nz (M 65) i), fun avs M r M' => ma_riii avs fun a c i m => (r = .inl (s_W (M 65) c i m) ∧ M' = M))
theorem rc_M_wakes : ∀ avs M, C_M_wakes.2.2.1 avs M → ∃ a r, avs = .inr a :: r ∧ mj_ob a = 7 := by
  intro avs M h
  obtain ⟨a, c, i, m, rfl, h⟩ := mc_riii h
  exact ⟨_, _, rfl, by rw [h.1]; rfl⟩
set_option maxRecDepth 20000 in
set_option maxHeartbeats 2000000 in
theorem t_M_wakes : mj_T yX7_wakes cX7_wakes 5 (some .boolean) 2 C_M_wakes := by
  refine mj_T_of (own := 7) (rk := 3) [(315, C_M_at), (342, C_M_depthOf)] (by decide) rfl (by decide) ⟨rfl, rfl, rfl⟩ (List.forall_mem_cons.mpr ⟨mj_KV (own := 7) (nest := false) t_M_at ⟨wc_X7_at, wi_X7, by decide, wl_7_105⟩ wn_X7_at ws_X7_at (c0 := 7) (by decide) rfl (by decide +kernel) rc_M_at (by decide), (List.forall_mem_cons.mpr ⟨mj_KV (own := 7) (nest := false) t_M_depthOf ⟨wc_X7_depthOf, wi_X7, by decide, wl_7_114⟩ wn_X7_depthOf ws_X7_depthOf (c0 := 7) (by decide) rfl (by decide +kernel) rc_M_depthOf (by decide), (fun _ h => absurd h List.not_mem_nil)⟩)⟩) ?_
  intro avs M hlen hpre V hV
  obtain ⟨a, c, i, m, rfl, hp⟩ := mc_riii hpre
  show V 0 [some (.inr a), some (.inl c), some (.inl i), some (.inl m), none] [] M
  have b_0 := hV h_X7_wakes_0; have b_21 := hV h_X7_wakes_21; have b_38 := hV h_X7_wakes_38; have b_39 := hV h_X7_wakes_39; have b_57 := hV h_X7_wakes_57; have b_58 := hV h_X7_wakes_58
  clear hlen hpre hV
  obtain ⟨rfl, hc, hi⟩ := hp
  repeat' (first | (with_reducible refine And.intro ?_ ?_) | (with_reducible intro _) | ((first | refine b_0 _ _ _ ?_ | refine b_21 _ _ _ ?_ | refine b_38 _ _ _ ?_ | refine b_39 _ _ _ ?_ | refine b_57 _ _ _ ?_ | refine b_58 _ _ _ ?_); simp only [k_X7_wakes_0, k_X7_wakes_21, k_X7_wakes_38, k_X7_wakes_39, k_X7_wakes_57, k_X7_wakes_58, xp_1, xp_2, xp_3, xp_4, xp_5, xp_6, xp_7, xp_10, xp_11, xp_12, xp_13, xp_14, xp_15, xp_16, xp_17, xp_18, xp_19, xp_20, xp_21, xp_22, xp_23, xp_30, xp_31, xp_32, xp_33, xp_34, xp_35, xp_36, xp_37, xp_38, xp_39, xp_40, xp_41, xp_42, xp_43, xp_50, xp_51, xp_52, xp_53, xp_60, xp_61, xp_62, xp_63, xp_64, xp_65, xp_70, xp_80, xp_81, xp_82, up_ne, up_s, ud_s, ud_o, xw_0, xw_1, xg_0, xg_1, xl_i, xl_r, xs_0, xs_1, xq_i, xq_r, xq_v, xc_0, xc_1, xt_0, xt_1, xr_0, xr_1, xr_2, xe_0, xe_1, ob_0, ob_18, ob_36, ob_54, ak_55, ln_55, cq_55, ak_56, ln_56, cq_56, ob_57, ak_58, ln_58, cq_58, ak_59, ln_59, cq_59, ob_60, ak_61, ln_61, cq_61, ak_62, ln_62, cq_62, ob_63, ak_64, ln_64, cq_64, ak_65, ln_65, cq_65, ak_66, ln_66, cq_66, ak_67, ln_67, cq_67, ak_68, ln_68, cq_68, ak_69, ln_69, cq_69, ak_70, ln_70, cq_70, ak_71, ln_71, cq_71, ak_72, ln_72, cq_72, ak_73, ln_73, cq_73, pt_54_0, pt_54_1, pt_57_0, pt_57_3, pt_60_0, pt_60_1, pt_60_2, pt_60_4, pt_60_5, pt_60_6, pt_60_8, pt_63_0, pt_63_1, pt_63_2, pt_63_3, pt_63_4, pt_63_6, pt_63_7, pt_63_10, pt_63_11, pt_63_17, true_and, and_true, List.length_cons, List.length_nil, Nat.reduceAdd, Nat.reduceLeDiff, forall_eq, ne_eq, Nat.reduceEqDiff, not_false_eq_true, or_false, false_or, or_true, true_or, reduceCtorEq, Nat.zero_le, Nat.reduceMul, Nat.add_zero, false_and, and_false, false_implies, true_implies, forall_const, implies_true, List.append_nil, List.nil_append, List.cons_append, mb_i, mb_ii, mb_iii, mb_r, mb_ri, mb_rii, mb_riii, mb_rr, mb_rri, mb_rrii, mb_rriii, mb_riiiii, mb_rrr, mb_rir, mb_iiii, mb_riiii, tn_0, tn_1, tn_2, tn_3, tn_4, tn_5, tn_6, tc_0, tc_1, tc_2, tc_3, tc_4, tc_5, tc_6, xf_0, xf_1, xf_2, Sum.inl.injEq, Sum.inr.injEq, C_M_at, C_M_depthOf, C_M_wakes]))
  all_goals clear b_0 b_21 b_38 b_39 b_57 b_58
  all_goals first | assumption | (exact ⟨by decide, by decide⟩) | decide | (simp_all [s_W, s_wk]; done)

def C_M_mayPress : mj_C := (3, 1, fun avs M => ma_rii avs fun a c k => (a = 63 ∧ bd c 0 3), fun avs M r M' => ma_rii avs fun a c k => (r = .inl (s_mp (M 65 (23 + 5 * tn c)) k) ∧ M' = M))
theorem rc_M_mayPress : ∀ avs M, C_M_mayPress.2.2.1 avs M → ∃ a r, avs = .inr a :: r ∧ mj_ob a = 7 := by
  intro avs M h
  obtain ⟨a, c, k, rfl, h⟩ := mc_rii h
  exact ⟨_, _, rfl, by rw [h.1]; rfl⟩
set_option maxRecDepth 20000 in
set_option maxHeartbeats 2000000 in
theorem t_M_mayPress : mj_T yX7_mayPress cX7_mayPress 4 (some .boolean) 1 C_M_mayPress := by
  refine mj_T_of (own := 7) (rk := 3) [(315, C_M_at)] (by decide) rfl (by decide) ⟨rfl, rfl, rfl⟩ (List.forall_mem_cons.mpr ⟨mj_KV (own := 7) (nest := false) t_M_at ⟨wc_X7_at, wi_X7, by decide, wl_7_105⟩ wn_X7_at ws_X7_at (c0 := 7) (by decide) rfl (by decide +kernel) rc_M_at (by decide), (fun _ h => absurd h List.not_mem_nil)⟩) ?_
  intro avs M hlen hpre V hV
  obtain ⟨a, c, k, rfl, hp⟩ := mc_rii hpre
  show V 0 [some (.inr a), some (.inl c), some (.inl k), none] [] M
  have b_0 := hV h_X7_mayPress_0; have b_17 := hV h_X7_mayPress_17; have b_25 := hV h_X7_mayPress_25; have b_29 := hV h_X7_mayPress_29; have b_38 := hV h_X7_mayPress_38; have b_39 := hV h_X7_mayPress_39
  clear hlen hpre hV
  obtain ⟨rfl, hc⟩ := hp
  repeat' (first | (with_reducible refine And.intro ?_ ?_) | (with_reducible intro _) | ((first | refine b_0 _ _ _ ?_ | refine b_17 _ _ _ ?_ | refine b_25 _ _ _ ?_ | refine b_29 _ _ _ ?_ | refine b_38 _ _ _ ?_ | refine b_39 _ _ _ ?_); simp only [k_X7_mayPress_0, k_X7_mayPress_17, k_X7_mayPress_25, k_X7_mayPress_29, k_X7_mayPress_38, k_X7_mayPress_39, xp_1, xp_2, xp_3, xp_4, xp_5, xp_6, xp_7, xp_10, xp_11, xp_12, xp_13, xp_14, xp_15, xp_16, xp_17, xp_18, xp_19, xp_20, xp_21, xp_22, xp_23, xp_30, xp_31, xp_32, xp_33, xp_34, xp_35, xp_36, xp_37, xp_38, xp_39, xp_40, xp_41, xp_42, xp_43, xp_50, xp_51, xp_52, xp_53, xp_60, xp_61, xp_62, xp_63, xp_64, xp_65, xp_70, xp_80, xp_81, xp_82, up_ne, up_s, ud_s, ud_o, xw_0, xw_1, xg_0, xg_1, xl_i, xl_r, xs_0, xs_1, xq_i, xq_r, xq_v, xc_0, xc_1, xt_0, xt_1, xr_0, xr_1, xr_2, xe_0, xe_1, ob_0, ob_18, ob_36, ob_54, ak_55, ln_55, cq_55, ak_56, ln_56, cq_56, ob_57, ak_58, ln_58, cq_58, ak_59, ln_59, cq_59, ob_60, ak_61, ln_61, cq_61, ak_62, ln_62, cq_62, ob_63, ak_64, ln_64, cq_64, ak_65, ln_65, cq_65, ak_66, ln_66, cq_66, ak_67, ln_67, cq_67, ak_68, ln_68, cq_68, ak_69, ln_69, cq_69, ak_70, ln_70, cq_70, ak_71, ln_71, cq_71, ak_72, ln_72, cq_72, ak_73, ln_73, cq_73, pt_54_0, pt_54_1, pt_57_0, pt_57_3, pt_60_0, pt_60_1, pt_60_2, pt_60_4, pt_60_5, pt_60_6, pt_60_8, pt_63_0, pt_63_1, pt_63_2, pt_63_3, pt_63_4, pt_63_6, pt_63_7, pt_63_10, pt_63_11, pt_63_17, true_and, and_true, List.length_cons, List.length_nil, Nat.reduceAdd, Nat.reduceLeDiff, forall_eq, ne_eq, Nat.reduceEqDiff, not_false_eq_true, or_false, false_or, or_true, true_or, reduceCtorEq, Nat.zero_le, Nat.reduceMul, Nat.add_zero, false_and, and_false, false_implies, true_implies, forall_const, implies_true, List.append_nil, List.nil_append, List.cons_append, mb_i, mb_ii, mb_iii, mb_r, mb_ri, mb_rii, mb_riii, mb_rr, mb_rri, mb_rrii, mb_rriii, mb_riiiii, mb_rrr, mb_rir, mb_iiii, mb_riiii, tn_0, tn_1, tn_2, tn_3, tn_4, tn_5, tn_6, tc_0, tc_1, tc_2, tc_3, tc_4, tc_5, tc_6, xf_0, xf_1, xf_2, Sum.inl.injEq, Sum.inr.injEq, C_M_at, C_M_mayPress]))
  all_goals clear b_0 b_17 b_25 b_29 b_38 b_39
  all_goals first | assumption | (exact ⟨by decide, by decide⟩) | (simp [s_mp, *]; done)

def C_M_later : mj_C := (3, 1, fun avs M => ma_rii avs fun a c k => (a = 63 ∧ bd c 0 3), fun avs M r M' => ma_rii avs fun a c k => (r = .inl (s_lt (M 65 (23 + 5 * tn c)) (M 65 (23 + 5 * tn c + 3)) k) ∧ M' = M))
theorem rc_M_later : ∀ avs M, C_M_later.2.2.1 avs M → ∃ a r, avs = .inr a :: r ∧ mj_ob a = 7 := by
  intro avs M h
  obtain ⟨a, c, k, rfl, h⟩ := mc_rii h
  exact ⟨_, _, rfl, by rw [h.1]; rfl⟩
set_option maxRecDepth 20000 in
set_option maxHeartbeats 2000000 in
theorem t_M_later : mj_T yX7_later cX7_later 5 (some .int) 1 C_M_later := by
  refine mj_T_of (own := 7) (rk := 1) [(315, C_M_at)] (by decide) rfl (by decide) ⟨rfl, rfl⟩ (List.forall_mem_cons.mpr ⟨mj_KV (own := 7) (nest := false) t_M_at ⟨wc_X7_at, wi_X7, by decide, wl_7_105⟩ wn_X7_at ws_X7_at (c0 := 7) (by decide) rfl (by decide +kernel) rc_M_at (by decide), (fun _ h => absurd h List.not_mem_nil)⟩) ?_
  intro avs M hlen hpre V hV
  obtain ⟨a, c, k, rfl, hp⟩ := mc_rii hpre
  show V 0 [some (.inr a), some (.inl c), some (.inl k), none, none] [] M
  have b_0 := hV h_X7_later_0; have b_24 := hV h_X7_later_24; have b_34 := hV h_X7_later_34; have b_49 := hV h_X7_later_49; have b_50 := hV h_X7_later_50
  clear hlen hpre hV
  obtain ⟨rfl, hc⟩ := hp
  repeat' (first | (with_reducible refine And.intro ?_ ?_) | (with_reducible intro _) | ((first | refine b_0 _ _ _ ?_ | refine b_24 _ _ _ ?_ | refine b_34 _ _ _ ?_ | refine b_49 _ _ _ ?_ | refine b_50 _ _ _ ?_); simp only [k_X7_later_0, k_X7_later_24, k_X7_later_34, k_X7_later_49, k_X7_later_50, xp_1, xp_2, xp_3, xp_4, xp_5, xp_6, xp_7, xp_10, xp_11, xp_12, xp_13, xp_14, xp_15, xp_16, xp_17, xp_18, xp_19, xp_20, xp_21, xp_22, xp_23, xp_30, xp_31, xp_32, xp_33, xp_34, xp_35, xp_36, xp_37, xp_38, xp_39, xp_40, xp_41, xp_42, xp_43, xp_50, xp_51, xp_52, xp_53, xp_60, xp_61, xp_62, xp_63, xp_64, xp_65, xp_70, xp_80, xp_81, xp_82, up_ne, up_s, ud_s, ud_o, xw_0, xw_1, xg_0, xg_1, xl_i, xl_r, xs_0, xs_1, xq_i, xq_r, xq_v, xc_0, xc_1, xt_0, xt_1, xr_0, xr_1, xr_2, xe_0, xe_1, ob_0, ob_18, ob_36, ob_54, ak_55, ln_55, cq_55, ak_56, ln_56, cq_56, ob_57, ak_58, ln_58, cq_58, ak_59, ln_59, cq_59, ob_60, ak_61, ln_61, cq_61, ak_62, ln_62, cq_62, ob_63, ak_64, ln_64, cq_64, ak_65, ln_65, cq_65, ak_66, ln_66, cq_66, ak_67, ln_67, cq_67, ak_68, ln_68, cq_68, ak_69, ln_69, cq_69, ak_70, ln_70, cq_70, ak_71, ln_71, cq_71, ak_72, ln_72, cq_72, ak_73, ln_73, cq_73, pt_54_0, pt_54_1, pt_57_0, pt_57_3, pt_60_0, pt_60_1, pt_60_2, pt_60_4, pt_60_5, pt_60_6, pt_60_8, pt_63_0, pt_63_1, pt_63_2, pt_63_3, pt_63_4, pt_63_6, pt_63_7, pt_63_10, pt_63_11, pt_63_17, true_and, and_true, List.length_cons, List.length_nil, Nat.reduceAdd, Nat.reduceLeDiff, forall_eq, ne_eq, Nat.reduceEqDiff, not_false_eq_true, or_false, false_or, or_true, true_or, reduceCtorEq, Nat.zero_le, Nat.reduceMul, Nat.add_zero, false_and, and_false, false_implies, true_implies, forall_const, implies_true, List.append_nil, List.nil_append, List.cons_append, mb_i, mb_ii, mb_iii, mb_r, mb_ri, mb_rii, mb_riii, mb_rr, mb_rri, mb_rrii, mb_rriii, mb_riiiii, mb_rrr, mb_rir, mb_iiii, mb_riiii, tn_0, tn_1, tn_2, tn_3, tn_4, tn_5, tn_6, tc_0, tc_1, tc_2, tc_3, tc_4, tc_5, tc_6, xf_0, xf_1, xf_2, Sum.inl.injEq, Sum.inr.injEq, C_M_at, C_M_later]))
  all_goals clear b_0 b_24 b_34 b_49 b_50
  all_goals first | assumption | (exact ⟨by decide, by decide⟩) | (simp [s_lt, *]; done)

def C_M_spareAt : mj_C := (2, 1, fun avs M => ma_ri avs fun a m => (a = 63 ∧ bd (M 65 2) 0 6), fun avs M r M' => ma_ri avs fun a m => (r = .inl (s_sp (M 65) m) ∧ M' = M))
theorem rc_M_spareAt : ∀ avs M, C_M_spareAt.2.2.1 avs M → ∃ a r, avs = .inr a :: r ∧ mj_ob a = 7 := by
  intro avs M h
  obtain ⟨a, m, rfl, h⟩ := mc_ri h
  exact ⟨_, _, rfl, by rw [h.1]; rfl⟩
set_option maxRecDepth 20000 in
set_option maxHeartbeats 2000000 in
theorem t_M_spareAt : mj_T yX7_spareAt cX7_spareAt 4 (some .int) 1 C_M_spareAt := by
  refine mj_T_of (own := 7) (rk := 1) [(324, C_M_of)] (by decide) rfl (by decide) ⟨rfl, rfl⟩ (List.forall_mem_cons.mpr ⟨mj_KV (own := 7) (nest := false) t_M_of ⟨wc_X7_of, wi_X7, by decide, wl_7_108⟩ wn_X7_of ws_X7_of (c0 := 7) (by decide) rfl (by decide +kernel) rc_M_of (by decide), (fun _ h => absurd h List.not_mem_nil)⟩) ?_
  intro avs M hlen hpre V hV
  obtain ⟨a, m, rfl, hp⟩ := mc_ri hpre
  show V 0 [some (.inr a), some (.inl m), none, none] [] M
  have b_0 := hV h_X7_spareAt_0; have b_11 := hV h_X7_spareAt_11; have b_36 := hV h_X7_spareAt_36
  clear hlen hpre hV
  obtain ⟨rfl, hn⟩ := hp
  have loop : ∀ (f j : Nat), j + f = tn (M 65 2) → V 11 [some (.inr 63), some (.inl m), some (.inl (M 65 3 - m - s_tl (M 65) j)), some (.inl (nI j))] [] M := by
    intro f
    have hn2 := tn_of hn.1
    have hn3 := hn.2
    induction f with
    | zero =>
      intro j hj
      have h1 : ¬ nI j < M 65 2 := by rw [ti_lt, ti_nI (by omega)]; omega
      (refine b_11 _ _ _ ?_; simp only [k_X7_spareAt_0, k_X7_spareAt_11, k_X7_spareAt_36, xp_1, xp_2, xp_3, xp_4, xp_5, xp_6, xp_7, xp_10, xp_11, xp_12, xp_13, xp_14, xp_15, xp_16, xp_17, xp_18, xp_19, xp_20, xp_21, xp_22, xp_23, xp_30, xp_31, xp_32, xp_33, xp_34, xp_35, xp_36, xp_37, xp_38, xp_39, xp_40, xp_41, xp_42, xp_43, xp_50, xp_51, xp_52, xp_53, xp_60, xp_61, xp_62, xp_63, xp_64, xp_65, xp_70, xp_80, xp_81, xp_82, up_ne, up_s, ud_s, ud_o, xw_0, xw_1, xg_0, xg_1, xl_i, xl_r, xs_0, xs_1, xq_i, xq_r, xq_v, xc_0, xc_1, xt_0, xt_1, xr_0, xr_1, xr_2, xe_0, xe_1, ob_0, ob_18, ob_36, ob_54, ak_55, ln_55, cq_55, ak_56, ln_56, cq_56, ob_57, ak_58, ln_58, cq_58, ak_59, ln_59, cq_59, ob_60, ak_61, ln_61, cq_61, ak_62, ln_62, cq_62, ob_63, ak_64, ln_64, cq_64, ak_65, ln_65, cq_65, ak_66, ln_66, cq_66, ak_67, ln_67, cq_67, ak_68, ln_68, cq_68, ak_69, ln_69, cq_69, ak_70, ln_70, cq_70, ak_71, ln_71, cq_71, ak_72, ln_72, cq_72, ak_73, ln_73, cq_73, pt_54_0, pt_54_1, pt_57_0, pt_57_3, pt_60_0, pt_60_1, pt_60_2, pt_60_4, pt_60_5, pt_60_6, pt_60_8, pt_63_0, pt_63_1, pt_63_2, pt_63_3, pt_63_4, pt_63_6, pt_63_7, pt_63_10, pt_63_11, pt_63_17, true_and, and_true, List.length_cons, List.length_nil, Nat.reduceAdd, Nat.reduceLeDiff, forall_eq, ne_eq, Nat.reduceEqDiff, not_false_eq_true, or_false, false_or, or_true, true_or, reduceCtorEq, Nat.zero_le, Nat.reduceMul, Nat.add_zero, false_and, and_false, false_implies, true_implies, forall_const, implies_true, List.append_nil, List.nil_append, List.cons_append, mb_i, mb_ii, mb_iii, mb_r, mb_ri, mb_rii, mb_riii, mb_rr, mb_rri, mb_rrii, mb_rriii, mb_riiiii, mb_rrr, mb_rir, mb_iiii, mb_riiii, tn_0, tn_1, tn_2, tn_3, tn_4, tn_5, tn_6, tc_0, tc_1, tc_2, tc_3, tc_4, tc_5, tc_6, xf_0, xf_1, xf_2, Sum.inl.injEq, Sum.inr.injEq, C_M_of, C_M_spareAt, nI_1])
      repeat' (first | (with_reducible refine And.intro ?_ ?_) | (with_reducible intro _) | ((first | refine b_0 _ _ _ ?_ | refine b_36 _ _ _ ?_); simp only [k_X7_spareAt_0, k_X7_spareAt_11, k_X7_spareAt_36, xp_1, xp_2, xp_3, xp_4, xp_5, xp_6, xp_7, xp_10, xp_11, xp_12, xp_13, xp_14, xp_15, xp_16, xp_17, xp_18, xp_19, xp_20, xp_21, xp_22, xp_23, xp_30, xp_31, xp_32, xp_33, xp_34, xp_35, xp_36, xp_37, xp_38, xp_39, xp_40, xp_41, xp_42, xp_43, xp_50, xp_51, xp_52, xp_53, xp_60, xp_61, xp_62, xp_63, xp_64, xp_65, xp_70, xp_80, xp_81, xp_82, up_ne, up_s, ud_s, ud_o, xw_0, xw_1, xg_0, xg_1, xl_i, xl_r, xs_0, xs_1, xq_i, xq_r, xq_v, xc_0, xc_1, xt_0, xt_1, xr_0, xr_1, xr_2, xe_0, xe_1, ob_0, ob_18, ob_36, ob_54, ak_55, ln_55, cq_55, ak_56, ln_56, cq_56, ob_57, ak_58, ln_58, cq_58, ak_59, ln_59, cq_59, ob_60, ak_61, ln_61, cq_61, ak_62, ln_62, cq_62, ob_63, ak_64, ln_64, cq_64, ak_65, ln_65, cq_65, ak_66, ln_66, cq_66, ak_67, ln_67, cq_67, ak_68, ln_68, cq_68, ak_69, ln_69, cq_69, ak_70, ln_70, cq_70, ak_71, ln_71, cq_71, ak_72, ln_72, cq_72, ak_73, ln_73, cq_73, pt_54_0, pt_54_1, pt_57_0, pt_57_3, pt_60_0, pt_60_1, pt_60_2, pt_60_4, pt_60_5, pt_60_6, pt_60_8, pt_63_0, pt_63_1, pt_63_2, pt_63_3, pt_63_4, pt_63_6, pt_63_7, pt_63_10, pt_63_11, pt_63_17, true_and, and_true, List.length_cons, List.length_nil, Nat.reduceAdd, Nat.reduceLeDiff, forall_eq, ne_eq, Nat.reduceEqDiff, not_false_eq_true, or_false, false_or, or_true, true_or, reduceCtorEq, Nat.zero_le, Nat.reduceMul, Nat.add_zero, false_and, and_false, false_implies, true_implies, forall_const, implies_true, List.append_nil, List.nil_append, List.cons_append, mb_i, mb_ii, mb_iii, mb_r, mb_ri, mb_rii, mb_riii, mb_rr, mb_rri, mb_rrii, mb_rriii, mb_riiiii, mb_rrr, mb_rir, mb_iiii, mb_riiii, tn_0, tn_1, tn_2, tn_3, tn_4, tn_5, tn_6, tc_0, tc_1, tc_2, tc_3, tc_4, tc_5, tc_6, xf_0, xf_1, xf_2, Sum.inl.injEq, Sum.inr.injEq, C_M_of, C_M_spareAt, nI_1]))
      all_goals clear b_0 b_11 b_36
      · exact vi_2
      · rw [s_sp, ← hj]; rfl
      all_goals exact absurd (by assumption) h1
    | succ f ih =>
      intro j hj
      have h1 : nI j < M 65 2 := by rw [ti_lt, ti_nI (by omega)]; omega
      (refine b_11 _ _ _ ?_; simp only [k_X7_spareAt_0, k_X7_spareAt_11, k_X7_spareAt_36, xp_1, xp_2, xp_3, xp_4, xp_5, xp_6, xp_7, xp_10, xp_11, xp_12, xp_13, xp_14, xp_15, xp_16, xp_17, xp_18, xp_19, xp_20, xp_21, xp_22, xp_23, xp_30, xp_31, xp_32, xp_33, xp_34, xp_35, xp_36, xp_37, xp_38, xp_39, xp_40, xp_41, xp_42, xp_43, xp_50, xp_51, xp_52, xp_53, xp_60, xp_61, xp_62, xp_63, xp_64, xp_65, xp_70, xp_80, xp_81, xp_82, up_ne, up_s, ud_s, ud_o, xw_0, xw_1, xg_0, xg_1, xl_i, xl_r, xs_0, xs_1, xq_i, xq_r, xq_v, xc_0, xc_1, xt_0, xt_1, xr_0, xr_1, xr_2, xe_0, xe_1, ob_0, ob_18, ob_36, ob_54, ak_55, ln_55, cq_55, ak_56, ln_56, cq_56, ob_57, ak_58, ln_58, cq_58, ak_59, ln_59, cq_59, ob_60, ak_61, ln_61, cq_61, ak_62, ln_62, cq_62, ob_63, ak_64, ln_64, cq_64, ak_65, ln_65, cq_65, ak_66, ln_66, cq_66, ak_67, ln_67, cq_67, ak_68, ln_68, cq_68, ak_69, ln_69, cq_69, ak_70, ln_70, cq_70, ak_71, ln_71, cq_71, ak_72, ln_72, cq_72, ak_73, ln_73, cq_73, pt_54_0, pt_54_1, pt_57_0, pt_57_3, pt_60_0, pt_60_1, pt_60_2, pt_60_4, pt_60_5, pt_60_6, pt_60_8, pt_63_0, pt_63_1, pt_63_2, pt_63_3, pt_63_4, pt_63_6, pt_63_7, pt_63_10, pt_63_11, pt_63_17, true_and, and_true, List.length_cons, List.length_nil, Nat.reduceAdd, Nat.reduceLeDiff, forall_eq, ne_eq, Nat.reduceEqDiff, not_false_eq_true, or_false, false_or, or_true, true_or, reduceCtorEq, Nat.zero_le, Nat.reduceMul, Nat.add_zero, false_and, and_false, false_implies, true_implies, forall_const, implies_true, List.append_nil, List.nil_append, List.cons_append, mb_i, mb_ii, mb_iii, mb_r, mb_ri, mb_rii, mb_riii, mb_rr, mb_rri, mb_rrii, mb_rriii, mb_riiiii, mb_rrr, mb_rir, mb_iiii, mb_riiii, tn_0, tn_1, tn_2, tn_3, tn_4, tn_5, tn_6, tc_0, tc_1, tc_2, tc_3, tc_4, tc_5, tc_6, xf_0, xf_1, xf_2, Sum.inl.injEq, Sum.inr.injEq, C_M_of, C_M_spareAt, nI_1])
      repeat' (first | (with_reducible refine And.intro ?_ ?_) | (with_reducible intro _) | ((first | refine b_0 _ _ _ ?_ | refine b_36 _ _ _ ?_); simp only [k_X7_spareAt_0, k_X7_spareAt_11, k_X7_spareAt_36, xp_1, xp_2, xp_3, xp_4, xp_5, xp_6, xp_7, xp_10, xp_11, xp_12, xp_13, xp_14, xp_15, xp_16, xp_17, xp_18, xp_19, xp_20, xp_21, xp_22, xp_23, xp_30, xp_31, xp_32, xp_33, xp_34, xp_35, xp_36, xp_37, xp_38, xp_39, xp_40, xp_41, xp_42, xp_43, xp_50, xp_51, xp_52, xp_53, xp_60, xp_61, xp_62, xp_63, xp_64, xp_65, xp_70, xp_80, xp_81, xp_82, up_ne, up_s, ud_s, ud_o, xw_0, xw_1, xg_0, xg_1, xl_i, xl_r, xs_0, xs_1, xq_i, xq_r, xq_v, xc_0, xc_1, xt_0, xt_1, xr_0, xr_1, xr_2, xe_0, xe_1, ob_0, ob_18, ob_36, ob_54, ak_55, ln_55, cq_55, ak_56, ln_56, cq_56, ob_57, ak_58, ln_58, cq_58, ak_59, ln_59, cq_59, ob_60, ak_61, ln_61, cq_61, ak_62, ln_62, cq_62, ob_63, ak_64, ln_64, cq_64, ak_65, ln_65, cq_65, ak_66, ln_66, cq_66, ak_67, ln_67, cq_67, ak_68, ln_68, cq_68, ak_69, ln_69, cq_69, ak_70, ln_70, cq_70, ak_71, ln_71, cq_71, ak_72, ln_72, cq_72, ak_73, ln_73, cq_73, pt_54_0, pt_54_1, pt_57_0, pt_57_3, pt_60_0, pt_60_1, pt_60_2, pt_60_4, pt_60_5, pt_60_6, pt_60_8, pt_63_0, pt_63_1, pt_63_2, pt_63_3, pt_63_4, pt_63_6, pt_63_7, pt_63_10, pt_63_11, pt_63_17, true_and, and_true, List.length_cons, List.length_nil, Nat.reduceAdd, Nat.reduceLeDiff, forall_eq, ne_eq, Nat.reduceEqDiff, not_false_eq_true, or_false, false_or, or_true, true_or, reduceCtorEq, Nat.zero_le, Nat.reduceMul, Nat.add_zero, false_and, and_false, false_implies, true_implies, forall_const, implies_true, List.append_nil, List.nil_append, List.cons_append, mb_i, mb_ii, mb_iii, mb_r, mb_ri, mb_rii, mb_riii, mb_rr, mb_rri, mb_rrii, mb_rriii, mb_riiiii, mb_rrr, mb_rir, mb_iiii, mb_riiii, tn_0, tn_1, tn_2, tn_3, tn_4, tn_5, tn_6, tc_0, tc_1, tc_2, tc_3, tc_4, tc_5, tc_6, xf_0, xf_1, xf_2, Sum.inl.injEq, Sum.inr.injEq, C_M_of, C_M_spareAt, nI_1]))
      all_goals clear b_0 b_11 b_36
      · exact vi_2
      · exact absurd h1 (by assumption)
      · exact ⟨by rw [ti_nI (by omega)]; omega, by rw [ti_nI (by omega)]; omega⟩
      · exact ⟨by decide, by decide⟩
      · refine mv_eq (ih (j + 1) (by omega)) ?_ rfl rfl
        rw [s_tl, i_ss, tn_nI (by omega)]
  (refine b_0 _ _ _ ?_; simp only [k_X7_spareAt_0, k_X7_spareAt_11, k_X7_spareAt_36, xp_1, xp_2, xp_3, xp_4, xp_5, xp_6, xp_7, xp_10, xp_11, xp_12, xp_13, xp_14, xp_15, xp_16, xp_17, xp_18, xp_19, xp_20, xp_21, xp_22, xp_23, xp_30, xp_31, xp_32, xp_33, xp_34, xp_35, xp_36, xp_37, xp_38, xp_39, xp_40, xp_41, xp_42, xp_43, xp_50, xp_51, xp_52, xp_53, xp_60, xp_61, xp_62, xp_63, xp_64, xp_65, xp_70, xp_80, xp_81, xp_82, up_ne, up_s, ud_s, ud_o, xw_0, xw_1, xg_0, xg_1, xl_i, xl_r, xs_0, xs_1, xq_i, xq_r, xq_v, xc_0, xc_1, xt_0, xt_1, xr_0, xr_1, xr_2, xe_0, xe_1, ob_0, ob_18, ob_36, ob_54, ak_55, ln_55, cq_55, ak_56, ln_56, cq_56, ob_57, ak_58, ln_58, cq_58, ak_59, ln_59, cq_59, ob_60, ak_61, ln_61, cq_61, ak_62, ln_62, cq_62, ob_63, ak_64, ln_64, cq_64, ak_65, ln_65, cq_65, ak_66, ln_66, cq_66, ak_67, ln_67, cq_67, ak_68, ln_68, cq_68, ak_69, ln_69, cq_69, ak_70, ln_70, cq_70, ak_71, ln_71, cq_71, ak_72, ln_72, cq_72, ak_73, ln_73, cq_73, pt_54_0, pt_54_1, pt_57_0, pt_57_3, pt_60_0, pt_60_1, pt_60_2, pt_60_4, pt_60_5, pt_60_6, pt_60_8, pt_63_0, pt_63_1, pt_63_2, pt_63_3, pt_63_4, pt_63_6, pt_63_7, pt_63_10, pt_63_11, pt_63_17, true_and, and_true, List.length_cons, List.length_nil, Nat.reduceAdd, Nat.reduceLeDiff, forall_eq, ne_eq, Nat.reduceEqDiff, not_false_eq_true, or_false, false_or, or_true, true_or, reduceCtorEq, Nat.zero_le, Nat.reduceMul, Nat.add_zero, false_and, and_false, false_implies, true_implies, forall_const, implies_true, List.append_nil, List.nil_append, List.cons_append, mb_i, mb_ii, mb_iii, mb_r, mb_ri, mb_rii, mb_riii, mb_rr, mb_rri, mb_rrii, mb_rriii, mb_riiiii, mb_rrr, mb_rir, mb_iiii, mb_riiii, tn_0, tn_1, tn_2, tn_3, tn_4, tn_5, tn_6, tc_0, tc_1, tc_2, tc_3, tc_4, tc_5, tc_6, xf_0, xf_1, xf_2, Sum.inl.injEq, Sum.inr.injEq, C_M_of, C_M_spareAt, nI_1])
  refine ⟨vi_3, ?_⟩
  refine mv_eq (loop (tn (M 65 2)) 0 (by omega)) ?_ rfl rfl
  simp [s_tl]
  rfl

theorem sh_1 {n : Int32} (h : bd n 0 6) : (1 : Int32) <<< (n &&& 31) = nI (2 ^ tn n) := by
  obtain ⟨h1, h2⟩ := h
  have h3 := tn_of h1
  rw [bd_nI (x := n) (hi := 6) ⟨h1, h2⟩]
  have h4 : tn n ≤ 6 := by omega
  rw [tn_nI (by omega)]
  generalize tn n = j at h4
  rcases (show j = 0 ∨ j = 1 ∨ j = 2 ∨ j = 3 ∨ j = 4 ∨ j = 5 ∨ j = 6 by omega) with rfl | rfl | rfl | rfl | rfl | rfl | rfl <;> decide
theorem up_up (M : mj_M) (a j : Nat) (x y : Int32) : mj_up (mj_up M a j x) a j y = mj_up M a j y := by
  funext b i
  unfold mj_up
  split <;> rfl
theorem pw_6 {n : Nat} (h : n ≤ 6) : 1 ≤ 2 ^ n ∧ 2 ^ n ≤ 64 := by
  rcases (show n = 0 ∨ n = 1 ∨ n = 2 ∨ n = 3 ∨ n = 4 ∨ n = 5 ∨ n = 6 by omega) with rfl | rfl | rfl | rfl | rfl | rfl | rfl <;> decide
def C_M_doneAt : mj_C := (2, 1, fun avs M => ma_ri avs fun a m => (a = 63 ∧ bd (M 65 2) 0 6), fun avs M r M' => ma_ri avs fun a m => (r = .inl (s_do (M 65) m).1 ∧ M' = mj_up M 63 16 (s_do (M 65) m).2))
theorem rc_M_doneAt : ∀ avs M, C_M_doneAt.2.2.1 avs M → ∃ a r, avs = .inr a :: r ∧ mj_ob a = 7 := by
  intro avs M h
  obtain ⟨a, m, rfl, h⟩ := mc_ri h
  exact ⟨_, _, rfl, by rw [h.1]; rfl⟩
set_option maxRecDepth 20000 in
set_option maxHeartbeats 2000000 in
theorem t_M_doneAt : mj_T yX7_doneAt cX7_doneAt 7 (some .int) 1 C_M_doneAt := by
  refine mj_T_of (own := 7) (rk := 1) [(324, C_M_of)] (by decide) rfl (by decide) ⟨rfl, rfl⟩ (List.forall_mem_cons.mpr ⟨mj_KV (own := 7) (nest := false) t_M_of ⟨wc_X7_of, wi_X7, by decide, wl_7_108⟩ wn_X7_of ws_X7_of (c0 := 7) (by decide) rfl (by decide +kernel) rc_M_of (by decide), (fun _ h => absurd h List.not_mem_nil)⟩) ?_
  intro avs M hlen hpre V hV
  obtain ⟨a, m, rfl, hp⟩ := mc_ri hpre
  show V 0 [some (.inr a), some (.inl m), none, none, none, none, none] [] M
  have b_0 := hV h_X7_doneAt_0; have b_9 := hV h_X7_doneAt_9; have b_37 := hV h_X7_doneAt_37; have b_60 := hV h_X7_doneAt_60; have b_84 := hV h_X7_doneAt_84; have b_90 := hV h_X7_doneAt_90; have b_104 := hV h_X7_doneAt_104; have b_112 := hV h_X7_doneAt_112; have b_118 := hV h_X7_doneAt_118
  clear hlen hpre hV
  obtain ⟨rfl, hn⟩ := hp
  have hn2 := tn_of hn.1
  have hn3 := hn.2
  have hsh := sh_1 hn
  have hpw := pw_6 (n := tn (M 65 2)) (by omega)
  have inner : ∀ (best set tm : Int32) (M1 : mj_M), M1 65 = M 65 → V 90 [some (.inr 63), some (.inl m), some (.inl best), some (.inl set), some (.inl (tm - s_sb (M 65) 0 set (tn (M 65 2)))), some (.inl (s_sb (M 65) 1 set (tn (M 65 2)))), some (.inl (nI (tn (M 65 2))))] [] M1 → ∀ (f j : Nat), j + f = tn (M 65 2) → V 37 [some (.inr 63), some (.inl m), some (.inl best), some (.inl set), some (.inl (tm - s_sb (M 65) 0 set j)), some (.inl (s_sb (M 65) 1 set j)), some (.inl (nI j))] [] M1 := by
    intro best set tm M1 hM1 hend f
    induction f with
    | zero =>
      intro j hj
      have h1 : ¬ nI j < M 65 2 := by rw [ti_lt, ti_nI (by omega)]; omega
      (refine b_37 _ _ _ ?_; simp only [k_X7_doneAt_0, k_X7_doneAt_9, k_X7_doneAt_37, k_X7_doneAt_60, k_X7_doneAt_84, k_X7_doneAt_90, k_X7_doneAt_104, k_X7_doneAt_112, k_X7_doneAt_118, xp_1, xp_2, xp_3, xp_4, xp_5, xp_6, xp_7, xp_10, xp_11, xp_12, xp_13, xp_14, xp_15, xp_16, xp_17, xp_18, xp_19, xp_20, xp_21, xp_22, xp_23, xp_30, xp_31, xp_32, xp_33, xp_34, xp_35, xp_36, xp_37, xp_38, xp_39, xp_40, xp_41, xp_42, xp_43, xp_50, xp_51, xp_52, xp_53, xp_60, xp_61, xp_62, xp_63, xp_64, xp_65, xp_70, xp_80, xp_81, xp_82, up_ne, up_s, ud_s, ud_o, xw_0, xw_1, xg_0, xg_1, xl_i, xl_r, xs_0, xs_1, xq_i, xq_r, xq_v, xc_0, xc_1, xt_0, xt_1, xr_0, xr_1, xr_2, xe_0, xe_1, ob_0, ob_18, ob_36, ob_54, ak_55, ln_55, cq_55, ak_56, ln_56, cq_56, ob_57, ak_58, ln_58, cq_58, ak_59, ln_59, cq_59, ob_60, ak_61, ln_61, cq_61, ak_62, ln_62, cq_62, ob_63, ak_64, ln_64, cq_64, ak_65, ln_65, cq_65, ak_66, ln_66, cq_66, ak_67, ln_67, cq_67, ak_68, ln_68, cq_68, ak_69, ln_69, cq_69, ak_70, ln_70, cq_70, ak_71, ln_71, cq_71, ak_72, ln_72, cq_72, ak_73, ln_73, cq_73, pt_54_0, pt_54_1, pt_57_0, pt_57_3, pt_60_0, pt_60_1, pt_60_2, pt_60_4, pt_60_5, pt_60_6, pt_60_8, pt_63_0, pt_63_1, pt_63_2, pt_63_3, pt_63_4, pt_63_6, pt_63_7, pt_63_10, pt_63_11, pt_63_17, true_and, and_true, List.length_cons, List.length_nil, Nat.reduceAdd, Nat.reduceLeDiff, forall_eq, ne_eq, Nat.reduceEqDiff, not_false_eq_true, or_false, false_or, or_true, true_or, reduceCtorEq, Nat.zero_le, Nat.reduceMul, Nat.add_zero, false_and, and_false, false_implies, true_implies, forall_const, implies_true, List.append_nil, List.nil_append, List.cons_append, mb_i, mb_ii, mb_iii, mb_r, mb_ri, mb_rii, mb_riii, mb_rr, mb_rri, mb_rrii, mb_rriii, mb_riiiii, mb_rrr, mb_rir, mb_iiii, mb_riiii, tn_0, tn_1, tn_2, tn_3, tn_4, tn_5, tn_6, tc_0, tc_1, tc_2, tc_3, tc_4, tc_5, tc_6, xf_0, xf_1, xf_2, Sum.inl.injEq, Sum.inr.injEq, C_M_doneAt, C_M_of, nI_1])
      rw [hM1]
      refine ⟨vi_2, fun _ => ?_, fun h => absurd h h1⟩
      rw [← hj] at hend
      exact hend
    | succ f ih =>
      intro j hj
      have h1 : nI j < M 65 2 := by rw [ti_lt, ti_nI (by omega)]; omega
      have hb : bd (nI j) 0 5 := ⟨by rw [ti_nI (by omega)]; omega, by rw [ti_nI (by omega)]; omega⟩
      have h84 : V 84 [some (.inr 63), some (.inl m), some (.inl best), some (.inl set), some (.inl (tm - s_sb (M 65) 0 set (j + 1))), some (.inl (s_sb (M 65) 1 set (j + 1))), some (.inl (nI j))] [] M1 := by
        (refine b_84 _ _ _ ?_; simp only [k_X7_doneAt_0, k_X7_doneAt_9, k_X7_doneAt_37, k_X7_doneAt_60, k_X7_doneAt_84, k_X7_doneAt_90, k_X7_doneAt_104, k_X7_doneAt_112, k_X7_doneAt_118, xp_1, xp_2, xp_3, xp_4, xp_5, xp_6, xp_7, xp_10, xp_11, xp_12, xp_13, xp_14, xp_15, xp_16, xp_17, xp_18, xp_19, xp_20, xp_21, xp_22, xp_23, xp_30, xp_31, xp_32, xp_33, xp_34, xp_35, xp_36, xp_37, xp_38, xp_39, xp_40, xp_41, xp_42, xp_43, xp_50, xp_51, xp_52, xp_53, xp_60, xp_61, xp_62, xp_63, xp_64, xp_65, xp_70, xp_80, xp_81, xp_82, up_ne, up_s, ud_s, ud_o, xw_0, xw_1, xg_0, xg_1, xl_i, xl_r, xs_0, xs_1, xq_i, xq_r, xq_v, xc_0, xc_1, xt_0, xt_1, xr_0, xr_1, xr_2, xe_0, xe_1, ob_0, ob_18, ob_36, ob_54, ak_55, ln_55, cq_55, ak_56, ln_56, cq_56, ob_57, ak_58, ln_58, cq_58, ak_59, ln_59, cq_59, ob_60, ak_61, ln_61, cq_61, ak_62, ln_62, cq_62, ob_63, ak_64, ln_64, cq_64, ak_65, ln_65, cq_65, ak_66, ln_66, cq_66, ak_67, ln_67, cq_67, ak_68, ln_68, cq_68, ak_69, ln_69, cq_69, ak_70, ln_70, cq_70, ak_71, ln_71, cq_71, ak_72, ln_72, cq_72, ak_73, ln_73, cq_73, pt_54_0, pt_54_1, pt_57_0, pt_57_3, pt_60_0, pt_60_1, pt_60_2, pt_60_4, pt_60_5, pt_60_6, pt_60_8, pt_63_0, pt_63_1, pt_63_2, pt_63_3, pt_63_4, pt_63_6, pt_63_7, pt_63_10, pt_63_11, pt_63_17, true_and, and_true, List.length_cons, List.length_nil, Nat.reduceAdd, Nat.reduceLeDiff, forall_eq, ne_eq, Nat.reduceEqDiff, not_false_eq_true, or_false, false_or, or_true, true_or, reduceCtorEq, Nat.zero_le, Nat.reduceMul, Nat.add_zero, false_and, and_false, false_implies, true_implies, forall_const, implies_true, List.append_nil, List.nil_append, List.cons_append, mb_i, mb_ii, mb_iii, mb_r, mb_ri, mb_rii, mb_riii, mb_rr, mb_rri, mb_rrii, mb_rriii, mb_riiiii, mb_rrr, mb_rir, mb_iiii, mb_riiii, tn_0, tn_1, tn_2, tn_3, tn_4, tn_5, tn_6, tc_0, tc_1, tc_2, tc_3, tc_4, tc_5, tc_6, xf_0, xf_1, xf_2, Sum.inl.injEq, Sum.inr.injEq, C_M_doneAt, C_M_of, nI_1])
        exact ih (j + 1) (by omega)
      (refine b_37 _ _ _ ?_; simp only [k_X7_doneAt_0, k_X7_doneAt_9, k_X7_doneAt_37, k_X7_doneAt_60, k_X7_doneAt_84, k_X7_doneAt_90, k_X7_doneAt_104, k_X7_doneAt_112, k_X7_doneAt_118, xp_1, xp_2, xp_3, xp_4, xp_5, xp_6, xp_7, xp_10, xp_11, xp_12, xp_13, xp_14, xp_15, xp_16, xp_17, xp_18, xp_19, xp_20, xp_21, xp_22, xp_23, xp_30, xp_31, xp_32, xp_33, xp_34, xp_35, xp_36, xp_37, xp_38, xp_39, xp_40, xp_41, xp_42, xp_43, xp_50, xp_51, xp_52, xp_53, xp_60, xp_61, xp_62, xp_63, xp_64, xp_65, xp_70, xp_80, xp_81, xp_82, up_ne, up_s, ud_s, ud_o, xw_0, xw_1, xg_0, xg_1, xl_i, xl_r, xs_0, xs_1, xq_i, xq_r, xq_v, xc_0, xc_1, xt_0, xt_1, xr_0, xr_1, xr_2, xe_0, xe_1, ob_0, ob_18, ob_36, ob_54, ak_55, ln_55, cq_55, ak_56, ln_56, cq_56, ob_57, ak_58, ln_58, cq_58, ak_59, ln_59, cq_59, ob_60, ak_61, ln_61, cq_61, ak_62, ln_62, cq_62, ob_63, ak_64, ln_64, cq_64, ak_65, ln_65, cq_65, ak_66, ln_66, cq_66, ak_67, ln_67, cq_67, ak_68, ln_68, cq_68, ak_69, ln_69, cq_69, ak_70, ln_70, cq_70, ak_71, ln_71, cq_71, ak_72, ln_72, cq_72, ak_73, ln_73, cq_73, pt_54_0, pt_54_1, pt_57_0, pt_57_3, pt_60_0, pt_60_1, pt_60_2, pt_60_4, pt_60_5, pt_60_6, pt_60_8, pt_63_0, pt_63_1, pt_63_2, pt_63_3, pt_63_4, pt_63_6, pt_63_7, pt_63_10, pt_63_11, pt_63_17, true_and, and_true, List.length_cons, List.length_nil, Nat.reduceAdd, Nat.reduceLeDiff, forall_eq, ne_eq, Nat.reduceEqDiff, not_false_eq_true, or_false, false_or, or_true, true_or, reduceCtorEq, Nat.zero_le, Nat.reduceMul, Nat.add_zero, false_and, and_false, false_implies, true_implies, forall_const, implies_true, List.append_nil, List.nil_append, List.cons_append, mb_i, mb_ii, mb_iii, mb_r, mb_ri, mb_rii, mb_riii, mb_rr, mb_rri, mb_rrii, mb_rriii, mb_riiiii, mb_rrr, mb_rir, mb_iiii, mb_riiii, tn_0, tn_1, tn_2, tn_3, tn_4, tn_5, tn_6, tc_0, tc_1, tc_2, tc_3, tc_4, tc_5, tc_6, xf_0, xf_1, xf_2, Sum.inl.injEq, Sum.inr.injEq, C_M_doneAt, C_M_of, nI_1])
      rw [hM1]
      refine ⟨vi_2, fun h => absurd h1 h, fun _ => ⟨fun hz => ?_, fun hz => ?_⟩⟩
      · (refine b_60 _ _ _ ?_; simp only [k_X7_doneAt_0, k_X7_doneAt_9, k_X7_doneAt_37, k_X7_doneAt_60, k_X7_doneAt_84, k_X7_doneAt_90, k_X7_doneAt_104, k_X7_doneAt_112, k_X7_doneAt_118, xp_1, xp_2, xp_3, xp_4, xp_5, xp_6, xp_7, xp_10, xp_11, xp_12, xp_13, xp_14, xp_15, xp_16, xp_17, xp_18, xp_19, xp_20, xp_21, xp_22, xp_23, xp_30, xp_31, xp_32, xp_33, xp_34, xp_35, xp_36, xp_37, xp_38, xp_39, xp_40, xp_41, xp_42, xp_43, xp_50, xp_51, xp_52, xp_53, xp_60, xp_61, xp_62, xp_63, xp_64, xp_65, xp_70, xp_80, xp_81, xp_82, up_ne, up_s, ud_s, ud_o, xw_0, xw_1, xg_0, xg_1, xl_i, xl_r, xs_0, xs_1, xq_i, xq_r, xq_v, xc_0, xc_1, xt_0, xt_1, xr_0, xr_1, xr_2, xe_0, xe_1, ob_0, ob_18, ob_36, ob_54, ak_55, ln_55, cq_55, ak_56, ln_56, cq_56, ob_57, ak_58, ln_58, cq_58, ak_59, ln_59, cq_59, ob_60, ak_61, ln_61, cq_61, ak_62, ln_62, cq_62, ob_63, ak_64, ln_64, cq_64, ak_65, ln_65, cq_65, ak_66, ln_66, cq_66, ak_67, ln_67, cq_67, ak_68, ln_68, cq_68, ak_69, ln_69, cq_69, ak_70, ln_70, cq_70, ak_71, ln_71, cq_71, ak_72, ln_72, cq_72, ak_73, ln_73, cq_73, pt_54_0, pt_54_1, pt_57_0, pt_57_3, pt_60_0, pt_60_1, pt_60_2, pt_60_4, pt_60_5, pt_60_6, pt_60_8, pt_63_0, pt_63_1, pt_63_2, pt_63_3, pt_63_4, pt_63_6, pt_63_7, pt_63_10, pt_63_11, pt_63_17, true_and, and_true, List.length_cons, List.length_nil, Nat.reduceAdd, Nat.reduceLeDiff, forall_eq, ne_eq, Nat.reduceEqDiff, not_false_eq_true, or_false, false_or, or_true, true_or, reduceCtorEq, Nat.zero_le, Nat.reduceMul, Nat.add_zero, false_and, and_false, false_implies, true_implies, forall_const, implies_true, List.append_nil, List.nil_append, List.cons_append, mb_i, mb_ii, mb_iii, mb_r, mb_ri, mb_rii, mb_riii, mb_rr, mb_rri, mb_rrii, mb_rriii, mb_riiiii, mb_rrr, mb_rir, mb_iiii, mb_riiii, tn_0, tn_1, tn_2, tn_3, tn_4, tn_5, tn_6, tc_0, tc_1, tc_2, tc_3, tc_4, tc_5, tc_6, xf_0, xf_1, xf_2, Sum.inl.injEq, Sum.inr.injEq, C_M_doneAt, C_M_of, nI_1])
        rw [hM1, tn_nI (by omega)]
        refine ⟨⟨hb, ⟨by decide, by decide⟩⟩, ⟨hb, ⟨by decide, by decide⟩⟩, mv_eq h84 ?_ rfl rfl⟩
        simp only [s_sb, if_neg hz, i_ss, Nat.add_zero]
      · refine mv_eq h84 ?_ rfl rfl
        simp only [s_sb, if_pos hz, Int32.add_zero]
  have outer : ∀ (f k : Nat), k + f + 1 = 2 ^ tn (M 65 2) → ∀ (L4 L5 L6 : Option mj_V), V 9 [some (.inr 63), some (.inl m), some (.inl (s_dl (M 65) (M 65 3 - m) k).1), some (.inl (nI (k + 1))), L4, L5, L6] [] (mj_up M 63 16 (s_dl (M 65) (M 65 3 - m) k).2) := by
    intro f
    induction f with
    | zero =>
      intro k hk L4 L5 L6
      (refine b_9 _ _ _ ?_; simp only [k_X7_doneAt_0, k_X7_doneAt_9, k_X7_doneAt_37, k_X7_doneAt_60, k_X7_doneAt_84, k_X7_doneAt_90, k_X7_doneAt_104, k_X7_doneAt_112, k_X7_doneAt_118, xp_1, xp_2, xp_3, xp_4, xp_5, xp_6, xp_7, xp_10, xp_11, xp_12, xp_13, xp_14, xp_15, xp_16, xp_17, xp_18, xp_19, xp_20, xp_21, xp_22, xp_23, xp_30, xp_31, xp_32, xp_33, xp_34, xp_35, xp_36, xp_37, xp_38, xp_39, xp_40, xp_41, xp_42, xp_43, xp_50, xp_51, xp_52, xp_53, xp_60, xp_61, xp_62, xp_63, xp_64, xp_65, xp_70, xp_80, xp_81, xp_82, up_ne, up_s, ud_s, ud_o, xw_0, xw_1, xg_0, xg_1, xl_i, xl_r, xs_0, xs_1, xq_i, xq_r, xq_v, xc_0, xc_1, xt_0, xt_1, xr_0, xr_1, xr_2, xe_0, xe_1, ob_0, ob_18, ob_36, ob_54, ak_55, ln_55, cq_55, ak_56, ln_56, cq_56, ob_57, ak_58, ln_58, cq_58, ak_59, ln_59, cq_59, ob_60, ak_61, ln_61, cq_61, ak_62, ln_62, cq_62, ob_63, ak_64, ln_64, cq_64, ak_65, ln_65, cq_65, ak_66, ln_66, cq_66, ak_67, ln_67, cq_67, ak_68, ln_68, cq_68, ak_69, ln_69, cq_69, ak_70, ln_70, cq_70, ak_71, ln_71, cq_71, ak_72, ln_72, cq_72, ak_73, ln_73, cq_73, pt_54_0, pt_54_1, pt_57_0, pt_57_3, pt_60_0, pt_60_1, pt_60_2, pt_60_4, pt_60_5, pt_60_6, pt_60_8, pt_63_0, pt_63_1, pt_63_2, pt_63_3, pt_63_4, pt_63_6, pt_63_7, pt_63_10, pt_63_11, pt_63_17, true_and, and_true, List.length_cons, List.length_nil, Nat.reduceAdd, Nat.reduceLeDiff, forall_eq, ne_eq, Nat.reduceEqDiff, not_false_eq_true, or_false, false_or, or_true, true_or, reduceCtorEq, Nat.zero_le, Nat.reduceMul, Nat.add_zero, false_and, and_false, false_implies, true_implies, forall_const, implies_true, List.append_nil, List.nil_append, List.cons_append, mb_i, mb_ii, mb_iii, mb_r, mb_ri, mb_rii, mb_riii, mb_rr, mb_rri, mb_rrii, mb_rriii, mb_riiiii, mb_rrr, mb_rir, mb_iiii, mb_riiii, tn_0, tn_1, tn_2, tn_3, tn_4, tn_5, tn_6, tc_0, tc_1, tc_2, tc_3, tc_4, tc_5, tc_6, xf_0, xf_1, xf_2, Sum.inl.injEq, Sum.inr.injEq, C_M_doneAt, C_M_of, nI_1])
      rw [hsh]
      refine ⟨vi_2, fun _ => ?_, fun h => ?_⟩
      · (refine b_118 _ _ _ ?_; simp only [k_X7_doneAt_0, k_X7_doneAt_9, k_X7_doneAt_37, k_X7_doneAt_60, k_X7_doneAt_84, k_X7_doneAt_90, k_X7_doneAt_104, k_X7_doneAt_112, k_X7_doneAt_118, xp_1, xp_2, xp_3, xp_4, xp_5, xp_6, xp_7, xp_10, xp_11, xp_12, xp_13, xp_14, xp_15, xp_16, xp_17, xp_18, xp_19, xp_20, xp_21, xp_22, xp_23, xp_30, xp_31, xp_32, xp_33, xp_34, xp_35, xp_36, xp_37, xp_38, xp_39, xp_40, xp_41, xp_42, xp_43, xp_50, xp_51, xp_52, xp_53, xp_60, xp_61, xp_62, xp_63, xp_64, xp_65, xp_70, xp_80, xp_81, xp_82, up_ne, up_s, ud_s, ud_o, xw_0, xw_1, xg_0, xg_1, xl_i, xl_r, xs_0, xs_1, xq_i, xq_r, xq_v, xc_0, xc_1, xt_0, xt_1, xr_0, xr_1, xr_2, xe_0, xe_1, ob_0, ob_18, ob_36, ob_54, ak_55, ln_55, cq_55, ak_56, ln_56, cq_56, ob_57, ak_58, ln_58, cq_58, ak_59, ln_59, cq_59, ob_60, ak_61, ln_61, cq_61, ak_62, ln_62, cq_62, ob_63, ak_64, ln_64, cq_64, ak_65, ln_65, cq_65, ak_66, ln_66, cq_66, ak_67, ln_67, cq_67, ak_68, ln_68, cq_68, ak_69, ln_69, cq_69, ak_70, ln_70, cq_70, ak_71, ln_71, cq_71, ak_72, ln_72, cq_72, ak_73, ln_73, cq_73, pt_54_0, pt_54_1, pt_57_0, pt_57_3, pt_60_0, pt_60_1, pt_60_2, pt_60_4, pt_60_5, pt_60_6, pt_60_8, pt_63_0, pt_63_1, pt_63_2, pt_63_3, pt_63_4, pt_63_6, pt_63_7, pt_63_10, pt_63_11, pt_63_17, true_and, and_true, List.length_cons, List.length_nil, Nat.reduceAdd, Nat.reduceLeDiff, forall_eq, ne_eq, Nat.reduceEqDiff, not_false_eq_true, or_false, false_or, or_true, true_or, reduceCtorEq, Nat.zero_le, Nat.reduceMul, Nat.add_zero, false_and, and_false, false_implies, true_implies, forall_const, implies_true, List.append_nil, List.nil_append, List.cons_append, mb_i, mb_ii, mb_iii, mb_r, mb_ri, mb_rii, mb_riii, mb_rr, mb_rri, mb_rrii, mb_rriii, mb_riiiii, mb_rrr, mb_rir, mb_iiii, mb_riiii, tn_0, tn_1, tn_2, tn_3, tn_4, tn_5, tn_6, tc_0, tc_1, tc_2, tc_3, tc_4, tc_5, tc_6, xf_0, xf_1, xf_2, Sum.inl.injEq, Sum.inr.injEq, C_M_doneAt, C_M_of, nI_1])
        unfold s_do
        rw [show 2 ^ tn (M 65 2) - 1 = k by omega]
        exact ⟨rfl, rfl⟩
      · rw [ti_lt, ti_nI (by omega), ti_nI (by omega)] at h
        omega
    | succ f ih =>
      intro k hk L4 L5 L6
      have h112 : ∀ (L4 L5 L6 : Option mj_V), V 112 [some (.inr 63), some (.inl m), some (.inl (s_dl (M 65) (M 65 3 - m) (k + 1)).1), some (.inl (nI (k + 1))), L4, L5, L6] [] (mj_up M 63 16 (s_dl (M 65) (M 65 3 - m) (k + 1)).2) := by
        intro L4 L5 L6
        (refine b_112 _ _ _ ?_; simp only [k_X7_doneAt_0, k_X7_doneAt_9, k_X7_doneAt_37, k_X7_doneAt_60, k_X7_doneAt_84, k_X7_doneAt_90, k_X7_doneAt_104, k_X7_doneAt_112, k_X7_doneAt_118, xp_1, xp_2, xp_3, xp_4, xp_5, xp_6, xp_7, xp_10, xp_11, xp_12, xp_13, xp_14, xp_15, xp_16, xp_17, xp_18, xp_19, xp_20, xp_21, xp_22, xp_23, xp_30, xp_31, xp_32, xp_33, xp_34, xp_35, xp_36, xp_37, xp_38, xp_39, xp_40, xp_41, xp_42, xp_43, xp_50, xp_51, xp_52, xp_53, xp_60, xp_61, xp_62, xp_63, xp_64, xp_65, xp_70, xp_80, xp_81, xp_82, up_ne, up_s, ud_s, ud_o, xw_0, xw_1, xg_0, xg_1, xl_i, xl_r, xs_0, xs_1, xq_i, xq_r, xq_v, xc_0, xc_1, xt_0, xt_1, xr_0, xr_1, xr_2, xe_0, xe_1, ob_0, ob_18, ob_36, ob_54, ak_55, ln_55, cq_55, ak_56, ln_56, cq_56, ob_57, ak_58, ln_58, cq_58, ak_59, ln_59, cq_59, ob_60, ak_61, ln_61, cq_61, ak_62, ln_62, cq_62, ob_63, ak_64, ln_64, cq_64, ak_65, ln_65, cq_65, ak_66, ln_66, cq_66, ak_67, ln_67, cq_67, ak_68, ln_68, cq_68, ak_69, ln_69, cq_69, ak_70, ln_70, cq_70, ak_71, ln_71, cq_71, ak_72, ln_72, cq_72, ak_73, ln_73, cq_73, pt_54_0, pt_54_1, pt_57_0, pt_57_3, pt_60_0, pt_60_1, pt_60_2, pt_60_4, pt_60_5, pt_60_6, pt_60_8, pt_63_0, pt_63_1, pt_63_2, pt_63_3, pt_63_4, pt_63_6, pt_63_7, pt_63_10, pt_63_11, pt_63_17, true_and, and_true, List.length_cons, List.length_nil, Nat.reduceAdd, Nat.reduceLeDiff, forall_eq, ne_eq, Nat.reduceEqDiff, not_false_eq_true, or_false, false_or, or_true, true_or, reduceCtorEq, Nat.zero_le, Nat.reduceMul, Nat.add_zero, false_and, and_false, false_implies, true_implies, forall_const, implies_true, List.append_nil, List.nil_append, List.cons_append, mb_i, mb_ii, mb_iii, mb_r, mb_ri, mb_rii, mb_riii, mb_rr, mb_rri, mb_rrii, mb_rriii, mb_riiiii, mb_rrr, mb_rir, mb_iiii, mb_riiii, tn_0, tn_1, tn_2, tn_3, tn_4, tn_5, tn_6, tc_0, tc_1, tc_2, tc_3, tc_4, tc_5, tc_6, xf_0, xf_1, xf_2, Sum.inl.injEq, Sum.inr.injEq, C_M_doneAt, C_M_of, nI_1])
        exact ih (k + 1) (by omega) L4 L5 L6
      (refine b_9 _ _ _ ?_; simp only [k_X7_doneAt_0, k_X7_doneAt_9, k_X7_doneAt_37, k_X7_doneAt_60, k_X7_doneAt_84, k_X7_doneAt_90, k_X7_doneAt_104, k_X7_doneAt_112, k_X7_doneAt_118, xp_1, xp_2, xp_3, xp_4, xp_5, xp_6, xp_7, xp_10, xp_11, xp_12, xp_13, xp_14, xp_15, xp_16, xp_17, xp_18, xp_19, xp_20, xp_21, xp_22, xp_23, xp_30, xp_31, xp_32, xp_33, xp_34, xp_35, xp_36, xp_37, xp_38, xp_39, xp_40, xp_41, xp_42, xp_43, xp_50, xp_51, xp_52, xp_53, xp_60, xp_61, xp_62, xp_63, xp_64, xp_65, xp_70, xp_80, xp_81, xp_82, up_ne, up_s, ud_s, ud_o, xw_0, xw_1, xg_0, xg_1, xl_i, xl_r, xs_0, xs_1, xq_i, xq_r, xq_v, xc_0, xc_1, xt_0, xt_1, xr_0, xr_1, xr_2, xe_0, xe_1, ob_0, ob_18, ob_36, ob_54, ak_55, ln_55, cq_55, ak_56, ln_56, cq_56, ob_57, ak_58, ln_58, cq_58, ak_59, ln_59, cq_59, ob_60, ak_61, ln_61, cq_61, ak_62, ln_62, cq_62, ob_63, ak_64, ln_64, cq_64, ak_65, ln_65, cq_65, ak_66, ln_66, cq_66, ak_67, ln_67, cq_67, ak_68, ln_68, cq_68, ak_69, ln_69, cq_69, ak_70, ln_70, cq_70, ak_71, ln_71, cq_71, ak_72, ln_72, cq_72, ak_73, ln_73, cq_73, pt_54_0, pt_54_1, pt_57_0, pt_57_3, pt_60_0, pt_60_1, pt_60_2, pt_60_4, pt_60_5, pt_60_6, pt_60_8, pt_63_0, pt_63_1, pt_63_2, pt_63_3, pt_63_4, pt_63_6, pt_63_7, pt_63_10, pt_63_11, pt_63_17, true_and, and_true, List.length_cons, List.length_nil, Nat.reduceAdd, Nat.reduceLeDiff, forall_eq, ne_eq, Nat.reduceEqDiff, not_false_eq_true, or_false, false_or, or_true, true_or, reduceCtorEq, Nat.zero_le, Nat.reduceMul, Nat.add_zero, false_and, and_false, false_implies, true_implies, forall_const, implies_true, List.append_nil, List.nil_append, List.cons_append, mb_i, mb_ii, mb_iii, mb_r, mb_ri, mb_rii, mb_riii, mb_rr, mb_rri, mb_rrii, mb_rriii, mb_riiiii, mb_rrr, mb_rir, mb_iiii, mb_riiii, tn_0, tn_1, tn_2, tn_3, tn_4, tn_5, tn_6, tc_0, tc_1, tc_2, tc_3, tc_4, tc_5, tc_6, xf_0, xf_1, xf_2, Sum.inl.injEq, Sum.inr.injEq, C_M_doneAt, C_M_of, nI_1])
      rw [hsh]
      refine ⟨vi_2, fun h => ?_, fun _ => ⟨vi_3, ?_⟩⟩
      · rw [ti_lt, ti_nI (by omega), ti_nI (by omega)] at h
        omega
      · refine mv_eq (inner (s_dl (M 65) (M 65 3 - m) k).1 (nI (k + 1)) (M 65 3 - m) _ (up_ne (by decide)) ?_ (tn (M 65 2)) 0 (by omega)) ?_ rfl rfl
        · (refine b_90 _ _ _ ?_; simp only [k_X7_doneAt_0, k_X7_doneAt_9, k_X7_doneAt_37, k_X7_doneAt_60, k_X7_doneAt_84, k_X7_doneAt_90, k_X7_doneAt_104, k_X7_doneAt_112, k_X7_doneAt_118, xp_1, xp_2, xp_3, xp_4, xp_5, xp_6, xp_7, xp_10, xp_11, xp_12, xp_13, xp_14, xp_15, xp_16, xp_17, xp_18, xp_19, xp_20, xp_21, xp_22, xp_23, xp_30, xp_31, xp_32, xp_33, xp_34, xp_35, xp_36, xp_37, xp_38, xp_39, xp_40, xp_41, xp_42, xp_43, xp_50, xp_51, xp_52, xp_53, xp_60, xp_61, xp_62, xp_63, xp_64, xp_65, xp_70, xp_80, xp_81, xp_82, up_ne, up_s, ud_s, ud_o, xw_0, xw_1, xg_0, xg_1, xl_i, xl_r, xs_0, xs_1, xq_i, xq_r, xq_v, xc_0, xc_1, xt_0, xt_1, xr_0, xr_1, xr_2, xe_0, xe_1, ob_0, ob_18, ob_36, ob_54, ak_55, ln_55, cq_55, ak_56, ln_56, cq_56, ob_57, ak_58, ln_58, cq_58, ak_59, ln_59, cq_59, ob_60, ak_61, ln_61, cq_61, ak_62, ln_62, cq_62, ob_63, ak_64, ln_64, cq_64, ak_65, ln_65, cq_65, ak_66, ln_66, cq_66, ak_67, ln_67, cq_67, ak_68, ln_68, cq_68, ak_69, ln_69, cq_69, ak_70, ln_70, cq_70, ak_71, ln_71, cq_71, ak_72, ln_72, cq_72, ak_73, ln_73, cq_73, pt_54_0, pt_54_1, pt_57_0, pt_57_3, pt_60_0, pt_60_1, pt_60_2, pt_60_4, pt_60_5, pt_60_6, pt_60_8, pt_63_0, pt_63_1, pt_63_2, pt_63_3, pt_63_4, pt_63_6, pt_63_7, pt_63_10, pt_63_11, pt_63_17, true_and, and_true, List.length_cons, List.length_nil, Nat.reduceAdd, Nat.reduceLeDiff, forall_eq, ne_eq, Nat.reduceEqDiff, not_false_eq_true, or_false, false_or, or_true, true_or, reduceCtorEq, Nat.zero_le, Nat.reduceMul, Nat.add_zero, false_and, and_false, false_implies, true_implies, forall_const, implies_true, List.append_nil, List.nil_append, List.cons_append, mb_i, mb_ii, mb_iii, mb_r, mb_ri, mb_rii, mb_riii, mb_rr, mb_rri, mb_rrii, mb_rriii, mb_riiiii, mb_rrr, mb_rir, mb_iiii, mb_riiii, tn_0, tn_1, tn_2, tn_3, tn_4, tn_5, tn_6, tc_0, tc_1, tc_2, tc_3, tc_4, tc_5, tc_6, xf_0, xf_1, xf_2, Sum.inl.injEq, Sum.inr.injEq, C_M_doneAt, C_M_of, nI_1])
          refine ⟨fun h => ?_, fun h => ⟨fun h2 => ?_, fun h2 => ?_⟩⟩
          · simp only [s_dl, if_pos h] at h112
            exact h112 _ _ _
          · (refine b_104 _ _ _ ?_; simp only [k_X7_doneAt_0, k_X7_doneAt_9, k_X7_doneAt_37, k_X7_doneAt_60, k_X7_doneAt_84, k_X7_doneAt_90, k_X7_doneAt_104, k_X7_doneAt_112, k_X7_doneAt_118, xp_1, xp_2, xp_3, xp_4, xp_5, xp_6, xp_7, xp_10, xp_11, xp_12, xp_13, xp_14, xp_15, xp_16, xp_17, xp_18, xp_19, xp_20, xp_21, xp_22, xp_23, xp_30, xp_31, xp_32, xp_33, xp_34, xp_35, xp_36, xp_37, xp_38, xp_39, xp_40, xp_41, xp_42, xp_43, xp_50, xp_51, xp_52, xp_53, xp_60, xp_61, xp_62, xp_63, xp_64, xp_65, xp_70, xp_80, xp_81, xp_82, up_ne, up_s, ud_s, ud_o, xw_0, xw_1, xg_0, xg_1, xl_i, xl_r, xs_0, xs_1, xq_i, xq_r, xq_v, xc_0, xc_1, xt_0, xt_1, xr_0, xr_1, xr_2, xe_0, xe_1, ob_0, ob_18, ob_36, ob_54, ak_55, ln_55, cq_55, ak_56, ln_56, cq_56, ob_57, ak_58, ln_58, cq_58, ak_59, ln_59, cq_59, ob_60, ak_61, ln_61, cq_61, ak_62, ln_62, cq_62, ob_63, ak_64, ln_64, cq_64, ak_65, ln_65, cq_65, ak_66, ln_66, cq_66, ak_67, ln_67, cq_67, ak_68, ln_68, cq_68, ak_69, ln_69, cq_69, ak_70, ln_70, cq_70, ak_71, ln_71, cq_71, ak_72, ln_72, cq_72, ak_73, ln_73, cq_73, pt_54_0, pt_54_1, pt_57_0, pt_57_3, pt_60_0, pt_60_1, pt_60_2, pt_60_4, pt_60_5, pt_60_6, pt_60_8, pt_63_0, pt_63_1, pt_63_2, pt_63_3, pt_63_4, pt_63_6, pt_63_7, pt_63_10, pt_63_11, pt_63_17, true_and, and_true, List.length_cons, List.length_nil, Nat.reduceAdd, Nat.reduceLeDiff, forall_eq, ne_eq, Nat.reduceEqDiff, not_false_eq_true, or_false, false_or, or_true, true_or, reduceCtorEq, Nat.zero_le, Nat.reduceMul, Nat.add_zero, false_and, and_false, false_implies, true_implies, forall_const, implies_true, List.append_nil, List.nil_append, List.cons_append, mb_i, mb_ii, mb_iii, mb_r, mb_ri, mb_rii, mb_riii, mb_rr, mb_rri, mb_rrii, mb_rriii, mb_riiiii, mb_rrr, mb_rir, mb_iiii, mb_riiii, tn_0, tn_1, tn_2, tn_3, tn_4, tn_5, tn_6, tc_0, tc_1, tc_2, tc_3, tc_4, tc_5, tc_6, xf_0, xf_1, xf_2, Sum.inl.injEq, Sum.inr.injEq, C_M_doneAt, C_M_of, nI_1])
            simp only [s_dl, if_neg h, if_pos h2] at h112
            rw [up_up]
            exact h112 _ _ _
          · simp only [s_dl, if_neg h, if_neg h2] at h112
            exact h112 _ _ _
        · simp [s_sb]
          rfl
  (refine b_0 _ _ _ ?_; simp only [k_X7_doneAt_0, k_X7_doneAt_9, k_X7_doneAt_37, k_X7_doneAt_60, k_X7_doneAt_84, k_X7_doneAt_90, k_X7_doneAt_104, k_X7_doneAt_112, k_X7_doneAt_118, xp_1, xp_2, xp_3, xp_4, xp_5, xp_6, xp_7, xp_10, xp_11, xp_12, xp_13, xp_14, xp_15, xp_16, xp_17, xp_18, xp_19, xp_20, xp_21, xp_22, xp_23, xp_30, xp_31, xp_32, xp_33, xp_34, xp_35, xp_36, xp_37, xp_38, xp_39, xp_40, xp_41, xp_42, xp_43, xp_50, xp_51, xp_52, xp_53, xp_60, xp_61, xp_62, xp_63, xp_64, xp_65, xp_70, xp_80, xp_81, xp_82, up_ne, up_s, ud_s, ud_o, xw_0, xw_1, xg_0, xg_1, xl_i, xl_r, xs_0, xs_1, xq_i, xq_r, xq_v, xc_0, xc_1, xt_0, xt_1, xr_0, xr_1, xr_2, xe_0, xe_1, ob_0, ob_18, ob_36, ob_54, ak_55, ln_55, cq_55, ak_56, ln_56, cq_56, ob_57, ak_58, ln_58, cq_58, ak_59, ln_59, cq_59, ob_60, ak_61, ln_61, cq_61, ak_62, ln_62, cq_62, ob_63, ak_64, ln_64, cq_64, ak_65, ln_65, cq_65, ak_66, ln_66, cq_66, ak_67, ln_67, cq_67, ak_68, ln_68, cq_68, ak_69, ln_69, cq_69, ak_70, ln_70, cq_70, ak_71, ln_71, cq_71, ak_72, ln_72, cq_72, ak_73, ln_73, cq_73, pt_54_0, pt_54_1, pt_57_0, pt_57_3, pt_60_0, pt_60_1, pt_60_2, pt_60_4, pt_60_5, pt_60_6, pt_60_8, pt_63_0, pt_63_1, pt_63_2, pt_63_3, pt_63_4, pt_63_6, pt_63_7, pt_63_10, pt_63_11, pt_63_17, true_and, and_true, List.length_cons, List.length_nil, Nat.reduceAdd, Nat.reduceLeDiff, forall_eq, ne_eq, Nat.reduceEqDiff, not_false_eq_true, or_false, false_or, or_true, true_or, reduceCtorEq, Nat.zero_le, Nat.reduceMul, Nat.add_zero, false_and, and_false, false_implies, true_implies, forall_const, implies_true, List.append_nil, List.nil_append, List.cons_append, mb_i, mb_ii, mb_iii, mb_r, mb_ri, mb_rii, mb_riii, mb_rr, mb_rri, mb_rrii, mb_rriii, mb_riiiii, mb_rrr, mb_rir, mb_iiii, mb_riiii, tn_0, tn_1, tn_2, tn_3, tn_4, tn_5, tn_6, tc_0, tc_1, tc_2, tc_3, tc_4, tc_5, tc_6, xf_0, xf_1, xf_2, Sum.inl.injEq, Sum.inr.injEq, C_M_doneAt, C_M_of, nI_1])
  exact outer (2 ^ tn (M 65 2) - 1) 0 (by omega) _ _ _


/-- what a morning leaves as it was -/
def fM (M M' : mj_M) : Prop := (∀ k, k ≠ 63 → k ≠ 71 → k ≠ 72 → M' k = M k) ∧ ∀ j, j ≠ 12 → j ≠ 13 → j ≠ 14 → j ≠ 15 → M' 63 j = M 63 j
theorem fM_r (M : mj_M) : fM M M := ⟨fun _ _ _ _ => rfl, fun _ _ _ _ _ => rfl⟩
theorem fM_a {M M' : mj_M} (h : fM M M') (k j : Nat) (x : Int32) (hk : k = 71 ∨ k = 72) : fM M (mj_up M' k j x) := by
  refine ⟨fun b h1 h2 h3 => ?_, fun i h1 h2 h3 h4 => ?_⟩
  · rw [up_ne (by omega)]
    exact h.1 b h1 h2 h3
  · rw [up_ne (by omega)]
    exact h.2 i h1 h2 h3 h4
theorem fM_f {M M' : mj_M} (h : fM M M') (j : Nat) (x : Int32) (hj : 12 ≤ j ∧ j ≤ 15) : fM M (mj_up M' 63 j x) := by
  refine ⟨fun b h1 h2 h3 => ?_, fun i h1 h2 h3 h4 => ?_⟩
  · rw [up_ne h1]
    exact h.1 b h1 h2 h3
  · rw [up_s, ud_o (by omega)]
    exact h.2 i h1 h2 h3 h4
/-- a sleeper that there is -/
def s_sl (r : Nat → Int32) (i : Int32) : Prop := 0 ≤ i.toInt ∧ i.toInt < (r 0).toInt
theorem s_sl_nz {r : Nat → Int32} {i : Int32} (hr : dR r) (h : s_sl r i) : s_nz r i := by
  obtain ⟨r0, -, -, -, -, -, -, rs, -, -, -⟩ := hr
  obtain ⟨h1, h2⟩ := h
  obtain ⟨r1, r2⟩ := r0
  refine ⟨⟨h1, by omega⟩, fun e => ?_⟩
  have q := (rs (tn i) (by have := tn_of h1; have := tn_of r1; omega)).2.1.1
  rw [e] at q
  exact absurd q (by decide)
theorem bd_c {j : Nat} (h : j < 4) : bd (nI j) 0 3 := ⟨by rw [ti_nI (by omega)]; omega, by rw [ti_nI (by omega)]; omega⟩
theorem nl_0 {j : Nat} (h : j < 2147483648) : ¬ nI j < 0 := by
  rw [ti_lt, ti_nI h]
  have : (0 : Int32).toInt = 0 := rfl
  omega
theorem s_W_01 (r : Nat → Int32) (c i m : Int32) : s_W r c i m = 0 ∨ s_W r c i m = 1 := by
  unfold s_W s_wk
  generalize (r (23 + 5 * tn c + 4) + if r (23 + 5 * tn c) = 2 then (8 : Int32) else if r (23 + 5 * tn c) = 3 then m / 10 else 0) = q
  split
  · exact Or.inl rfl
  · exact Or.inr rfl
def C_M_morningOf : mj_C := (4, rk0, fun avs M => ma_riii avs fun a i but by_ => (a = 63 ∧ dR (M 65) ∧ s_sl (M 65) i ∧ (¬ by_ < 0 → s_sl (M 65) by_)), fun avs M r M' => ma_riii avs fun a i but by_ => (M' 63 12 = (s_M (M 65) i but by_ (M 63 15)).1 ∧ M' 63 13 = (s_M (M 65) i but by_ (M 63 15)).2.1 ∧ M' 63 14 = (s_M (M 65) i but by_ (M 63 15)).2.2.1 ∧ M' 63 15 = (s_M (M 65) i but by_ (M 63 15)).2.2.2 ∧ fM M M'))
theorem rc_M_morningOf : ∀ avs M, C_M_morningOf.2.2.1 avs M → ∃ a r, avs = .inr a :: r ∧ mj_ob a = 7 := by
  intro avs M h
  obtain ⟨a, i, but, by_, rfl, h⟩ := mc_riii h
  exact ⟨_, _, rfl, by rw [h.1]; rfl⟩
set_option maxRecDepth 20000 in
set_option maxHeartbeats 2000000 in
theorem t_M_morningOf : mj_T yX7_morningOf cX7_morningOf 6 none 3 C_M_morningOf := by
  refine mj_T_of (own := 7) (rk := 0) [(294, C_M_get), (306, C_M_isClock), (315, C_M_at), (342, C_M_depthOf), (387, C_M_wakes), (396, C_M_later), (405, C_M_mayPress), (414, C_M_spareAt)] (by decide) rfl (by decide) ⟨rfl, rfl⟩ (List.forall_mem_cons.mpr ⟨mj_KV (own := 7) (nest := false) t_M_get ⟨wc_X7_get, wi_X7, by decide, wl_7_98⟩ wn_X7_get ws_X7_get (c0 := 7) (by decide) rfl (by decide +kernel) rc_M_get (by decide), (List.forall_mem_cons.mpr ⟨mj_KV (own := 7) (nest := false) t_M_isClock ⟨wc_X7_isClock, wi_X7, by decide, wl_7_102⟩ wn_X7_isClock ws_X7_isClock (c0 := 7) (by decide) rfl (by decide +kernel) rc_M_isClock (by decide), (List.forall_mem_cons.mpr ⟨mj_KV (own := 7) (nest := false) t_M_at ⟨wc_X7_at, wi_X7, by decide, wl_7_105⟩ wn_X7_at ws_X7_at (c0 := 7) (by decide) rfl (by decide +kernel) rc_M_at (by decide), (List.forall_mem_cons.mpr ⟨mj_KV (own := 7) (nest := false) t_M_depthOf ⟨wc_X7_depthOf, wi_X7, by decide, wl_7_114⟩ wn_X7_depthOf ws_X7_depthOf (c0 := 7) (by decide) rfl (by decide +kernel) rc_M_depthOf (by decide), (List.forall_mem_cons.mpr ⟨mj_KV (own := 7) (nest := false) t_M_wakes ⟨wc_X7_wakes, wi_X7, by decide, wl_7_129⟩ wn_X7_wakes ws_X7_wakes (c0 := 7) (by decide) rfl (by decide +kernel) rc_M_wakes (by decide), (List.forall_mem_cons.mpr ⟨mj_KV (own := 7) (nest := false) t_M_later ⟨wc_X7_later, wi_X7, by decide, wl_7_132⟩ wn_X7_later ws_X7_later (c0 := 7) (by decide) rfl (by decide +kernel) rc_M_later (by decide), (List.forall_mem_cons.mpr ⟨mj_KV (own := 7) (nest := false) t_M_mayPress ⟨wc_X7_mayPress, wi_X7, by decide, wl_7_135⟩ wn_X7_mayPress ws_X7_mayPress (c0 := 7) (by decide) rfl (by decide +kernel) rc_M_mayPress (by decide), (List.forall_mem_cons.mpr ⟨mj_KV (own := 7) (nest := false) t_M_spareAt ⟨wc_X7_spareAt, wi_X7, by decide, wl_7_138⟩ wn_X7_spareAt ws_X7_spareAt (c0 := 7) (by decide) rfl (by decide +kernel) rc_M_spareAt (by decide), (fun _ h => absurd h List.not_mem_nil)⟩)⟩)⟩)⟩)⟩)⟩)⟩)⟩) ?_
  intro avs M hlen hpre V hV
  obtain ⟨a, i, but, by_, rfl, hp⟩ := mc_riii hpre
  show V 0 [some (.inr a), some (.inl i), some (.inl but), some (.inl by_), none, none] [] M
  have b_0 := hV h_X7_morningOf_0; have b_19 := hV h_X7_morningOf_19; have b_75 := hV h_X7_morningOf_75; have b_78 := hV h_X7_morningOf_78; have b_85 := hV h_X7_morningOf_85; have b_98 := hV h_X7_morningOf_98; have b_125 := hV h_X7_morningOf_125; have b_131 := hV h_X7_morningOf_131; have b_156 := hV h_X7_morningOf_156; have b_181 := hV h_X7_morningOf_181; have b_182 := hV h_X7_morningOf_182; have b_234 := hV h_X7_morningOf_234; have b_304 := hV h_X7_morningOf_304; have b_310 := hV h_X7_morningOf_310; have b_313 := hV h_X7_morningOf_313
  clear hlen hpre hV
  obtain ⟨rfl, hR, hi, hby⟩ := hp
  have hnz := s_sl_nz hR hi
  have hR2 := hR
  obtain ⟨r0, r1, r2, r3, r4, r5, r6, rs, rc, rt, rz⟩ := hR2
  -- a ring
  have body : ∀ (n : Nat) (M1 : mj_M) (L4 L5 : Option mj_V), fM M M1 → M1 63 12 = -9 → s_J (M 65) n (M1 71) (M1 72) → s_mo (M 65) i by_ n (M1 71) (M1 72) (M1 63 13) (M1 63 14) (M1 63 15) = s_M (M 65) i but by_ (M 63 15) → V 85 [some (.inr 63), some (.inl i), some (.inl but), some (.inl by_), L4, L5] [] M1 := by
    intro n
    induction n with
    | zero =>
      intro M1 L4 L5 _ _ hJ
      exact absurd hJ.1 (by omega)
    | succ n ih =>
      intro M1 L4 L5 hF h12 hJ hS
      have h65 : M1 65 = M 65 := hF.1 65 (by decide) (by decide) (by decide)
      have hf3 := s_f3_lt (M1 71)
      have h131 : V 131 [some (.inr 63), some (.inl i), some (.inl but), some (.inl by_), some (.inl (nI (s_f3 (M1 71)))), some (.inl 4)] [] M1 := by
        have hc3 := bd_c hf3
        have e1 : (nI (s_f3 (M1 71))).toNatClampNeg = s_f3 (M1 71) := tn_nI (by omega)
        have e2 : tn (nI (s_f3 (M1 71))) = s_f3 (M1 71) := tn_nI (by omega)
        have hJ2 := hJ.2.2 _ hf3
        (refine b_131 _ _ _ ?_; simp only [k_X7_morningOf_0, k_X7_morningOf_19, k_X7_morningOf_75, k_X7_morningOf_78, k_X7_morningOf_85, k_X7_morningOf_98, k_X7_morningOf_125, k_X7_morningOf_131, k_X7_morningOf_156, k_X7_morningOf_181, k_X7_morningOf_182, k_X7_morningOf_234, k_X7_morningOf_304, k_X7_morningOf_310, k_X7_morningOf_313, xp_1, xp_2, xp_3, xp_4, xp_5, xp_6, xp_7, xp_10, xp_11, xp_12, xp_13, xp_14, xp_15, xp_16, xp_17, xp_18, xp_19, xp_20, xp_21, xp_22, xp_23, xp_30, xp_31, xp_32, xp_33, xp_34, xp_35, xp_36, xp_37, xp_38, xp_39, xp_40, xp_41, xp_42, xp_43, xp_50, xp_51, xp_52, xp_53, xp_60, xp_61, xp_62, xp_63, xp_64, xp_65, xp_70, xp_80, xp_81, xp_82, up_ne, up_s, ud_s, ud_o, xw_0, xw_1, xg_0, xg_1, xl_i, xl_r, xs_0, xs_1, xq_i, xq_r, xq_v, xc_0, xc_1, xt_0, xt_1, xr_0, xr_1, xr_2, xe_0, xe_1, ob_0, ob_18, ob_36, ob_54, ak_55, ln_55, cq_55, ak_56, ln_56, cq_56, ob_57, ak_58, ln_58, cq_58, ak_59, ln_59, cq_59, ob_60, ak_61, ln_61, cq_61, ak_62, ln_62, cq_62, ob_63, ak_64, ln_64, cq_64, ak_65, ln_65, cq_65, ak_66, ln_66, cq_66, ak_67, ln_67, cq_67, ak_68, ln_68, cq_68, ak_69, ln_69, cq_69, ak_70, ln_70, cq_70, ak_71, ln_71, cq_71, ak_72, ln_72, cq_72, ak_73, ln_73, cq_73, pt_54_0, pt_54_1, pt_57_0, pt_57_3, pt_60_0, pt_60_1, pt_60_2, pt_60_4, pt_60_5, pt_60_6, pt_60_8, pt_63_0, pt_63_1, pt_63_2, pt_63_3, pt_63_4, pt_63_6, pt_63_7, pt_63_10, pt_63_11, pt_63_17, true_and, and_true, List.length_cons, List.length_nil, Nat.reduceAdd, Nat.reduceLeDiff, forall_eq, ne_eq, Nat.reduceEqDiff, not_false_eq_true, or_false, false_or, or_true, true_or, reduceCtorEq, Nat.zero_le, Nat.reduceMul, Nat.add_zero, false_and, and_false, false_implies, true_implies, forall_const, implies_true, List.append_nil, List.nil_append, List.cons_append, mb_i, mb_ii, mb_iii, mb_r, mb_ri, mb_rii, mb_riii, mb_rr, mb_rri, mb_rrii, mb_rriii, mb_riiiii, mb_rrr, mb_rir, mb_iiii, mb_riiii, tn_0, tn_1, tn_2, tn_3, tn_4, tn_5, tn_6, tc_0, tc_1, tc_2, tc_3, tc_4, tc_5, tc_6, xf_0, xf_1, xf_2, Sum.inl.injEq, Sum.inr.injEq, C_M_at, C_M_depthOf, C_M_get, C_M_isClock, C_M_later, C_M_mayPress, C_M_morningOf, C_M_spareAt, C_M_wakes, nI_1])
        rw [e1]
        refine ⟨vi_l (by omega) (by omega), fun hm => ?_, fun hm => ?_⟩
        · have hst := s_J_step hR hJ hm (p' := M1 72) (fun c _ => Or.inl rfl)
          have hst2 := s_J_step hR hJ hm (p' := upd (M1 72) (s_f3 (M1 71)) (M1 72 (s_f3 (M1 71)) + 1)) (fun c _ => by
            by_cases e : c = s_f3 (M1 71)
            · rw [e, ud_s]; exact Or.inr rfl
            · rw [ud_o e]; exact Or.inl rfl)
          have hmo := hS
          unfold s_mo at hmo
          rw [if_pos hm] at hmo
          have h182 : ∀ z : Int32, z = (if by_ < 0 then 0 else s_W (M 65) (nI (s_f3 (M1 71))) by_ (M1 71 (s_f3 (M1 71)))) → V 182 [some (.inr 63), some (.inl i), some (.inl but), some (.inl by_), some (.inl (nI (s_f3 (M1 71)))), some (.inl (M1 71 (s_f3 (M1 71))))] [.inl z, .inl (M1 63 15), .inr 63] M1 := by
            intro z hz
            rw [← hz] at hmo
            (refine b_182 _ _ _ ?_; simp only [k_X7_morningOf_0, k_X7_morningOf_19, k_X7_morningOf_75, k_X7_morningOf_78, k_X7_morningOf_85, k_X7_morningOf_98, k_X7_morningOf_125, k_X7_morningOf_131, k_X7_morningOf_156, k_X7_morningOf_181, k_X7_morningOf_182, k_X7_morningOf_234, k_X7_morningOf_304, k_X7_morningOf_310, k_X7_morningOf_313, xp_1, xp_2, xp_3, xp_4, xp_5, xp_6, xp_7, xp_10, xp_11, xp_12, xp_13, xp_14, xp_15, xp_16, xp_17, xp_18, xp_19, xp_20, xp_21, xp_22, xp_23, xp_30, xp_31, xp_32, xp_33, xp_34, xp_35, xp_36, xp_37, xp_38, xp_39, xp_40, xp_41, xp_42, xp_43, xp_50, xp_51, xp_52, xp_53, xp_60, xp_61, xp_62, xp_63, xp_64, xp_65, xp_70, xp_80, xp_81, xp_82, up_ne, up_s, ud_s, ud_o, xw_0, xw_1, xg_0, xg_1, xl_i, xl_r, xs_0, xs_1, xq_i, xq_r, xq_v, xc_0, xc_1, xt_0, xt_1, xr_0, xr_1, xr_2, xe_0, xe_1, ob_0, ob_18, ob_36, ob_54, ak_55, ln_55, cq_55, ak_56, ln_56, cq_56, ob_57, ak_58, ln_58, cq_58, ak_59, ln_59, cq_59, ob_60, ak_61, ln_61, cq_61, ak_62, ln_62, cq_62, ob_63, ak_64, ln_64, cq_64, ak_65, ln_65, cq_65, ak_66, ln_66, cq_66, ak_67, ln_67, cq_67, ak_68, ln_68, cq_68, ak_69, ln_69, cq_69, ak_70, ln_70, cq_70, ak_71, ln_71, cq_71, ak_72, ln_72, cq_72, ak_73, ln_73, cq_73, pt_54_0, pt_54_1, pt_57_0, pt_57_3, pt_60_0, pt_60_1, pt_60_2, pt_60_4, pt_60_5, pt_60_6, pt_60_8, pt_63_0, pt_63_1, pt_63_2, pt_63_3, pt_63_4, pt_63_6, pt_63_7, pt_63_10, pt_63_11, pt_63_17, true_and, and_true, List.length_cons, List.length_nil, Nat.reduceAdd, Nat.reduceLeDiff, forall_eq, ne_eq, Nat.reduceEqDiff, not_false_eq_true, or_false, false_or, or_true, true_or, reduceCtorEq, Nat.zero_le, Nat.reduceMul, Nat.add_zero, false_and, and_false, false_implies, true_implies, forall_const, implies_true, List.append_nil, List.nil_append, List.cons_append, mb_i, mb_ii, mb_iii, mb_r, mb_ri, mb_rii, mb_riii, mb_rr, mb_rri, mb_rrii, mb_rriii, mb_riiiii, mb_rrr, mb_rir, mb_iiii, mb_riiii, tn_0, tn_1, tn_2, tn_3, tn_4, tn_5, tn_6, tc_0, tc_1, tc_2, tc_3, tc_4, tc_5, tc_6, xf_0, xf_1, xf_2, Sum.inl.injEq, Sum.inr.injEq, C_M_at, C_M_depthOf, C_M_get, C_M_isClock, C_M_later, C_M_mayPress, C_M_morningOf, C_M_spareAt, C_M_wakes, nI_1, h65, e1, e2])
            refine ⟨vi_l (by omega) (by omega), hc3, vi_l (by omega) (by omega), ⟨hc3, hnz⟩, fun hw => ?_, fun hw => ?_⟩
            · rw [if_neg hw] at hmo
              have h304 : ∀ M2 : mj_M, fM M M2 → M2 63 13 = M1 63 13 → M2 63 14 = M1 63 14 → M2 63 15 = M1 63 15 + z → (M1 71 (s_f3 (M1 71)), M1 63 13, M1 63 14, M1 63 15 + z) = s_M (M 65) i but by_ (M 63 15) → V 304 [some (.inr 63), some (.inl i), some (.inl but), some (.inl by_), some (.inl (nI (s_f3 (M1 71)))), some (.inl (M1 71 (s_f3 (M1 71))))] [] M2 := by
                intro M2 hF2 q13 q14 q15 hq
                (refine b_304 _ _ _ ?_; simp only [k_X7_morningOf_0, k_X7_morningOf_19, k_X7_morningOf_75, k_X7_morningOf_78, k_X7_morningOf_85, k_X7_morningOf_98, k_X7_morningOf_125, k_X7_morningOf_131, k_X7_morningOf_156, k_X7_morningOf_181, k_X7_morningOf_182, k_X7_morningOf_234, k_X7_morningOf_304, k_X7_morningOf_310, k_X7_morningOf_313, xp_1, xp_2, xp_3, xp_4, xp_5, xp_6, xp_7, xp_10, xp_11, xp_12, xp_13, xp_14, xp_15, xp_16, xp_17, xp_18, xp_19, xp_20, xp_21, xp_22, xp_23, xp_30, xp_31, xp_32, xp_33, xp_34, xp_35, xp_36, xp_37, xp_38, xp_39, xp_40, xp_41, xp_42, xp_43, xp_50, xp_51, xp_52, xp_53, xp_60, xp_61, xp_62, xp_63, xp_64, xp_65, xp_70, xp_80, xp_81, xp_82, up_ne, up_s, ud_s, ud_o, xw_0, xw_1, xg_0, xg_1, xl_i, xl_r, xs_0, xs_1, xq_i, xq_r, xq_v, xc_0, xc_1, xt_0, xt_1, xr_0, xr_1, xr_2, xe_0, xe_1, ob_0, ob_18, ob_36, ob_54, ak_55, ln_55, cq_55, ak_56, ln_56, cq_56, ob_57, ak_58, ln_58, cq_58, ak_59, ln_59, cq_59, ob_60, ak_61, ln_61, cq_61, ak_62, ln_62, cq_62, ob_63, ak_64, ln_64, cq_64, ak_65, ln_65, cq_65, ak_66, ln_66, cq_66, ak_67, ln_67, cq_67, ak_68, ln_68, cq_68, ak_69, ln_69, cq_69, ak_70, ln_70, cq_70, ak_71, ln_71, cq_71, ak_72, ln_72, cq_72, ak_73, ln_73, cq_73, pt_54_0, pt_54_1, pt_57_0, pt_57_3, pt_60_0, pt_60_1, pt_60_2, pt_60_4, pt_60_5, pt_60_6, pt_60_8, pt_63_0, pt_63_1, pt_63_2, pt_63_3, pt_63_4, pt_63_6, pt_63_7, pt_63_10, pt_63_11, pt_63_17, true_and, and_true, List.length_cons, List.length_nil, Nat.reduceAdd, Nat.reduceLeDiff, forall_eq, ne_eq, Nat.reduceEqDiff, not_false_eq_true, or_false, false_or, or_true, true_or, reduceCtorEq, Nat.zero_le, Nat.reduceMul, Nat.add_zero, false_and, and_false, false_implies, true_implies, forall_const, implies_true, List.append_nil, List.nil_append, List.cons_append, mb_i, mb_ii, mb_iii, mb_r, mb_ri, mb_rii, mb_riii, mb_rr, mb_rri, mb_rrii, mb_rriii, mb_riiiii, mb_rrr, mb_rir, mb_iiii, mb_riiii, tn_0, tn_1, tn_2, tn_3, tn_4, tn_5, tn_6, tc_0, tc_1, tc_2, tc_3, tc_4, tc_5, tc_6, xf_0, xf_1, xf_2, Sum.inl.injEq, Sum.inr.injEq, C_M_at, C_M_depthOf, C_M_get, C_M_isClock, C_M_later, C_M_mayPress, C_M_morningOf, C_M_spareAt, C_M_wakes, nI_1])
                (refine b_310 _ _ _ ?_; simp only [k_X7_morningOf_0, k_X7_morningOf_19, k_X7_morningOf_75, k_X7_morningOf_78, k_X7_morningOf_85, k_X7_morningOf_98, k_X7_morningOf_125, k_X7_morningOf_131, k_X7_morningOf_156, k_X7_morningOf_181, k_X7_morningOf_182, k_X7_morningOf_234, k_X7_morningOf_304, k_X7_morningOf_310, k_X7_morningOf_313, xp_1, xp_2, xp_3, xp_4, xp_5, xp_6, xp_7, xp_10, xp_11, xp_12, xp_13, xp_14, xp_15, xp_16, xp_17, xp_18, xp_19, xp_20, xp_21, xp_22, xp_23, xp_30, xp_31, xp_32, xp_33, xp_34, xp_35, xp_36, xp_37, xp_38, xp_39, xp_40, xp_41, xp_42, xp_43, xp_50, xp_51, xp_52, xp_53, xp_60, xp_61, xp_62, xp_63, xp_64, xp_65, xp_70, xp_80, xp_81, xp_82, up_ne, up_s, ud_s, ud_o, xw_0, xw_1, xg_0, xg_1, xl_i, xl_r, xs_0, xs_1, xq_i, xq_r, xq_v, xc_0, xc_1, xt_0, xt_1, xr_0, xr_1, xr_2, xe_0, xe_1, ob_0, ob_18, ob_36, ob_54, ak_55, ln_55, cq_55, ak_56, ln_56, cq_56, ob_57, ak_58, ln_58, cq_58, ak_59, ln_59, cq_59, ob_60, ak_61, ln_61, cq_61, ak_62, ln_62, cq_62, ob_63, ak_64, ln_64, cq_64, ak_65, ln_65, cq_65, ak_66, ln_66, cq_66, ak_67, ln_67, cq_67, ak_68, ln_68, cq_68, ak_69, ln_69, cq_69, ak_70, ln_70, cq_70, ak_71, ln_71, cq_71, ak_72, ln_72, cq_72, ak_73, ln_73, cq_73, pt_54_0, pt_54_1, pt_57_0, pt_57_3, pt_60_0, pt_60_1, pt_60_2, pt_60_4, pt_60_5, pt_60_6, pt_60_8, pt_63_0, pt_63_1, pt_63_2, pt_63_3, pt_63_4, pt_63_6, pt_63_7, pt_63_10, pt_63_11, pt_63_17, true_and, and_true, List.length_cons, List.length_nil, Nat.reduceAdd, Nat.reduceLeDiff, forall_eq, ne_eq, Nat.reduceEqDiff, not_false_eq_true, or_false, false_or, or_true, true_or, reduceCtorEq, Nat.zero_le, Nat.reduceMul, Nat.add_zero, false_and, and_false, false_implies, true_implies, forall_const, implies_true, List.append_nil, List.nil_append, List.cons_append, mb_i, mb_ii, mb_iii, mb_r, mb_ri, mb_rii, mb_riii, mb_rr, mb_rri, mb_rrii, mb_rriii, mb_riiiii, mb_rrr, mb_rir, mb_iiii, mb_riiii, tn_0, tn_1, tn_2, tn_3, tn_4, tn_5, tn_6, tc_0, tc_1, tc_2, tc_3, tc_4, tc_5, tc_6, xf_0, xf_1, xf_2, Sum.inl.injEq, Sum.inr.injEq, C_M_at, C_M_depthOf, C_M_get, C_M_isClock, C_M_later, C_M_mayPress, C_M_morningOf, C_M_spareAt, C_M_wakes, nI_1])
                have hup : ¬ M1 71 (s_f3 (M1 71)) < 0 := by
                  have := hJ2.1.1
                  rw [ti_lt]
                  have : (0 : Int32).toInt = 0 := rfl
                  omega
                (refine b_85 _ _ _ ?_; simp only [k_X7_morningOf_0, k_X7_morningOf_19, k_X7_morningOf_75, k_X7_morningOf_78, k_X7_morningOf_85, k_X7_morningOf_98, k_X7_morningOf_125, k_X7_morningOf_131, k_X7_morningOf_156, k_X7_morningOf_181, k_X7_morningOf_182, k_X7_morningOf_234, k_X7_morningOf_304, k_X7_morningOf_310, k_X7_morningOf_313, xp_1, xp_2, xp_3, xp_4, xp_5, xp_6, xp_7, xp_10, xp_11, xp_12, xp_13, xp_14, xp_15, xp_16, xp_17, xp_18, xp_19, xp_20, xp_21, xp_22, xp_23, xp_30, xp_31, xp_32, xp_33, xp_34, xp_35, xp_36, xp_37, xp_38, xp_39, xp_40, xp_41, xp_42, xp_43, xp_50, xp_51, xp_52, xp_53, xp_60, xp_61, xp_62, xp_63, xp_64, xp_65, xp_70, xp_80, xp_81, xp_82, up_ne, up_s, ud_s, ud_o, xw_0, xw_1, xg_0, xg_1, xl_i, xl_r, xs_0, xs_1, xq_i, xq_r, xq_v, xc_0, xc_1, xt_0, xt_1, xr_0, xr_1, xr_2, xe_0, xe_1, ob_0, ob_18, ob_36, ob_54, ak_55, ln_55, cq_55, ak_56, ln_56, cq_56, ob_57, ak_58, ln_58, cq_58, ak_59, ln_59, cq_59, ob_60, ak_61, ln_61, cq_61, ak_62, ln_62, cq_62, ob_63, ak_64, ln_64, cq_64, ak_65, ln_65, cq_65, ak_66, ln_66, cq_66, ak_67, ln_67, cq_67, ak_68, ln_68, cq_68, ak_69, ln_69, cq_69, ak_70, ln_70, cq_70, ak_71, ln_71, cq_71, ak_72, ln_72, cq_72, ak_73, ln_73, cq_73, pt_54_0, pt_54_1, pt_57_0, pt_57_3, pt_60_0, pt_60_1, pt_60_2, pt_60_4, pt_60_5, pt_60_6, pt_60_8, pt_63_0, pt_63_1, pt_63_2, pt_63_3, pt_63_4, pt_63_6, pt_63_7, pt_63_10, pt_63_11, pt_63_17, true_and, and_true, List.length_cons, List.length_nil, Nat.reduceAdd, Nat.reduceLeDiff, forall_eq, ne_eq, Nat.reduceEqDiff, not_false_eq_true, or_false, false_or, or_true, true_or, reduceCtorEq, Nat.zero_le, Nat.reduceMul, Nat.add_zero, false_and, and_false, false_implies, true_implies, forall_const, implies_true, List.append_nil, List.nil_append, List.cons_append, mb_i, mb_ii, mb_iii, mb_r, mb_ri, mb_rii, mb_riii, mb_rr, mb_rri, mb_rrii, mb_rriii, mb_riiiii, mb_rrr, mb_rir, mb_iiii, mb_riiii, tn_0, tn_1, tn_2, tn_3, tn_4, tn_5, tn_6, tc_0, tc_1, tc_2, tc_3, tc_4, tc_5, tc_6, xf_0, xf_1, xf_2, Sum.inl.injEq, Sum.inr.injEq, C_M_at, C_M_depthOf, C_M_get, C_M_isClock, C_M_later, C_M_mayPress, C_M_morningOf, C_M_spareAt, C_M_wakes, nI_1])
                refine ⟨fun _ => ?_, fun h => absurd h hup⟩
                (refine b_313 _ _ _ ?_; simp only [k_X7_morningOf_0, k_X7_morningOf_19, k_X7_morningOf_75, k_X7_morningOf_78, k_X7_morningOf_85, k_X7_morningOf_98, k_X7_morningOf_125, k_X7_morningOf_131, k_X7_morningOf_156, k_X7_morningOf_181, k_X7_morningOf_182, k_X7_morningOf_234, k_X7_morningOf_304, k_X7_morningOf_310, k_X7_morningOf_313, xp_1, xp_2, xp_3, xp_4, xp_5, xp_6, xp_7, xp_10, xp_11, xp_12, xp_13, xp_14, xp_15, xp_16, xp_17, xp_18, xp_19, xp_20, xp_21, xp_22, xp_23, xp_30, xp_31, xp_32, xp_33, xp_34, xp_35, xp_36, xp_37, xp_38, xp_39, xp_40, xp_41, xp_42, xp_43, xp_50, xp_51, xp_52, xp_53, xp_60, xp_61, xp_62, xp_63, xp_64, xp_65, xp_70, xp_80, xp_81, xp_82, up_ne, up_s, ud_s, ud_o, xw_0, xw_1, xg_0, xg_1, xl_i, xl_r, xs_0, xs_1, xq_i, xq_r, xq_v, xc_0, xc_1, xt_0, xt_1, xr_0, xr_1, xr_2, xe_0, xe_1, ob_0, ob_18, ob_36, ob_54, ak_55, ln_55, cq_55, ak_56, ln_56, cq_56, ob_57, ak_58, ln_58, cq_58, ak_59, ln_59, cq_59, ob_60, ak_61, ln_61, cq_61, ak_62, ln_62, cq_62, ob_63, ak_64, ln_64, cq_64, ak_65, ln_65, cq_65, ak_66, ln_66, cq_66, ak_67, ln_67, cq_67, ak_68, ln_68, cq_68, ak_69, ln_69, cq_69, ak_70, ln_70, cq_70, ak_71, ln_71, cq_71, ak_72, ln_72, cq_72, ak_73, ln_73, cq_73, pt_54_0, pt_54_1, pt_57_0, pt_57_3, pt_60_0, pt_60_1, pt_60_2, pt_60_4, pt_60_5, pt_60_6, pt_60_8, pt_63_0, pt_63_1, pt_63_2, pt_63_3, pt_63_4, pt_63_6, pt_63_7, pt_63_10, pt_63_11, pt_63_17, true_and, and_true, List.length_cons, List.length_nil, Nat.reduceAdd, Nat.reduceLeDiff, forall_eq, ne_eq, Nat.reduceEqDiff, not_false_eq_true, or_false, false_or, or_true, true_or, reduceCtorEq, Nat.zero_le, Nat.reduceMul, Nat.add_zero, false_and, and_false, false_implies, true_implies, forall_const, implies_true, List.append_nil, List.nil_append, List.cons_append, mb_i, mb_ii, mb_iii, mb_r, mb_ri, mb_rii, mb_riii, mb_rr, mb_rri, mb_rrii, mb_rriii, mb_riiiii, mb_rrr, mb_rir, mb_iiii, mb_riiii, tn_0, tn_1, tn_2, tn_3, tn_4, tn_5, tn_6, tc_0, tc_1, tc_2, tc_3, tc_4, tc_5, tc_6, xf_0, xf_1, xf_2, Sum.inl.injEq, Sum.inr.injEq, C_M_at, C_M_depthOf, C_M_get, C_M_isClock, C_M_later, C_M_mayPress, C_M_morningOf, C_M_spareAt, C_M_wakes, nI_1])
                rw [← hq]
                exact ⟨rfl, q13, q14, q15, fM_f hF2 _ _ (by omega)⟩
              (refine b_234 _ _ _ ?_; simp only [k_X7_morningOf_0, k_X7_morningOf_19, k_X7_morningOf_75, k_X7_morningOf_78, k_X7_morningOf_85, k_X7_morningOf_98, k_X7_morningOf_125, k_X7_morningOf_131, k_X7_morningOf_156, k_X7_morningOf_181, k_X7_morningOf_182, k_X7_morningOf_234, k_X7_morningOf_304, k_X7_morningOf_310, k_X7_morningOf_313, xp_1, xp_2, xp_3, xp_4, xp_5, xp_6, xp_7, xp_10, xp_11, xp_12, xp_13, xp_14, xp_15, xp_16, xp_17, xp_18, xp_19, xp_20, xp_21, xp_22, xp_23, xp_30, xp_31, xp_32, xp_33, xp_34, xp_35, xp_36, xp_37, xp_38, xp_39, xp_40, xp_41, xp_42, xp_43, xp_50, xp_51, xp_52, xp_53, xp_60, xp_61, xp_62, xp_63, xp_64, xp_65, xp_70, xp_80, xp_81, xp_82, up_ne, up_s, ud_s, ud_o, xw_0, xw_1, xg_0, xg_1, xl_i, xl_r, xs_0, xs_1, xq_i, xq_r, xq_v, xc_0, xc_1, xt_0, xt_1, xr_0, xr_1, xr_2, xe_0, xe_1, ob_0, ob_18, ob_36, ob_54, ak_55, ln_55, cq_55, ak_56, ln_56, cq_56, ob_57, ak_58, ln_58, cq_58, ak_59, ln_59, cq_59, ob_60, ak_61, ln_61, cq_61, ak_62, ln_62, cq_62, ob_63, ak_64, ln_64, cq_64, ak_65, ln_65, cq_65, ak_66, ln_66, cq_66, ak_67, ln_67, cq_67, ak_68, ln_68, cq_68, ak_69, ln_69, cq_69, ak_70, ln_70, cq_70, ak_71, ln_71, cq_71, ak_72, ln_72, cq_72, ak_73, ln_73, cq_73, pt_54_0, pt_54_1, pt_57_0, pt_57_3, pt_60_0, pt_60_1, pt_60_2, pt_60_4, pt_60_5, pt_60_6, pt_60_8, pt_63_0, pt_63_1, pt_63_2, pt_63_3, pt_63_4, pt_63_6, pt_63_7, pt_63_10, pt_63_11, pt_63_17, true_and, and_true, List.length_cons, List.length_nil, Nat.reduceAdd, Nat.reduceLeDiff, forall_eq, ne_eq, Nat.reduceEqDiff, not_false_eq_true, or_false, false_or, or_true, true_or, reduceCtorEq, Nat.zero_le, Nat.reduceMul, Nat.add_zero, false_and, and_false, false_implies, true_implies, forall_const, implies_true, List.append_nil, List.nil_append, List.cons_append, mb_i, mb_ii, mb_iii, mb_r, mb_ri, mb_rii, mb_riii, mb_rr, mb_rri, mb_rrii, mb_rriii, mb_riiiii, mb_rrr, mb_rir, mb_iiii, mb_riiii, tn_0, tn_1, tn_2, tn_3, tn_4, tn_5, tn_6, tc_0, tc_1, tc_2, tc_3, tc_4, tc_5, tc_6, xf_0, xf_1, xf_2, Sum.inl.injEq, Sum.inr.injEq, C_M_at, C_M_depthOf, C_M_get, C_M_isClock, C_M_later, C_M_mayPress, C_M_morningOf, C_M_spareAt, C_M_wakes, nI_1, h65, e1, e2])
              refine ⟨vi_l (by omega) (by omega), hc3, fun hp0 => ?_, fun hp0 => ⟨r2, hnz, ⟨⟨hi.1, by have := hi.2; have := r0.2; omega⟩, ⟨by decide, by decide⟩⟩, vi_4, fun hsp => ?_, fun hsp => ⟨vi_l (by omega) (by omega), vi_l (by omega) (by omega), ?_⟩⟩⟩
              · rw [if_pos hp0] at hmo
                refine h304 _ (fM_a (fM_f hF 15 _ (by omega)) 71 _ _ (Or.inl rfl)) ?_ ?_ ?_ hmo
                · simp [up_ne, up_s, ud_o]
                · simp [up_ne, up_s, ud_o]
                · simp [up_ne, up_s, ud_s]
              · rw [if_neg hp0, if_neg hsp] at hmo
                refine h304 _ (fM_a (fM_f hF 15 _ (by omega)) 71 _ _ (Or.inl rfl)) ?_ ?_ ?_ hmo
                · simp [up_ne, up_s, ud_o]
                · simp [up_ne, up_s, ud_o]
                · simp [up_ne, up_s, ud_s]
              · rw [if_neg hp0, if_pos hsp] at hmo
                (refine b_310 _ _ _ ?_; simp only [k_X7_morningOf_0, k_X7_morningOf_19, k_X7_morningOf_75, k_X7_morningOf_78, k_X7_morningOf_85, k_X7_morningOf_98, k_X7_morningOf_125, k_X7_morningOf_131, k_X7_morningOf_156, k_X7_morningOf_181, k_X7_morningOf_182, k_X7_morningOf_234, k_X7_morningOf_304, k_X7_morningOf_310, k_X7_morningOf_313, xp_1, xp_2, xp_3, xp_4, xp_5, xp_6, xp_7, xp_10, xp_11, xp_12, xp_13, xp_14, xp_15, xp_16, xp_17, xp_18, xp_19, xp_20, xp_21, xp_22, xp_23, xp_30, xp_31, xp_32, xp_33, xp_34, xp_35, xp_36, xp_37, xp_38, xp_39, xp_40, xp_41, xp_42, xp_43, xp_50, xp_51, xp_52, xp_53, xp_60, xp_61, xp_62, xp_63, xp_64, xp_65, xp_70, xp_80, xp_81, xp_82, up_ne, up_s, ud_s, ud_o, xw_0, xw_1, xg_0, xg_1, xl_i, xl_r, xs_0, xs_1, xq_i, xq_r, xq_v, xc_0, xc_1, xt_0, xt_1, xr_0, xr_1, xr_2, xe_0, xe_1, ob_0, ob_18, ob_36, ob_54, ak_55, ln_55, cq_55, ak_56, ln_56, cq_56, ob_57, ak_58, ln_58, cq_58, ak_59, ln_59, cq_59, ob_60, ak_61, ln_61, cq_61, ak_62, ln_62, cq_62, ob_63, ak_64, ln_64, cq_64, ak_65, ln_65, cq_65, ak_66, ln_66, cq_66, ak_67, ln_67, cq_67, ak_68, ln_68, cq_68, ak_69, ln_69, cq_69, ak_70, ln_70, cq_70, ak_71, ln_71, cq_71, ak_72, ln_72, cq_72, ak_73, ln_73, cq_73, pt_54_0, pt_54_1, pt_57_0, pt_57_3, pt_60_0, pt_60_1, pt_60_2, pt_60_4, pt_60_5, pt_60_6, pt_60_8, pt_63_0, pt_63_1, pt_63_2, pt_63_3, pt_63_4, pt_63_6, pt_63_7, pt_63_10, pt_63_11, pt_63_17, true_and, and_true, List.length_cons, List.length_nil, Nat.reduceAdd, Nat.reduceLeDiff, forall_eq, ne_eq, Nat.reduceEqDiff, not_false_eq_true, or_false, false_or, or_true, true_or, reduceCtorEq, Nat.zero_le, Nat.reduceMul, Nat.add_zero, false_and, and_false, false_implies, true_implies, forall_const, implies_true, List.append_nil, List.nil_append, List.cons_append, mb_i, mb_ii, mb_iii, mb_r, mb_ri, mb_rii, mb_riii, mb_rr, mb_rri, mb_rrii, mb_rriii, mb_riiiii, mb_rrr, mb_rir, mb_iiii, mb_riiii, tn_0, tn_1, tn_2, tn_3, tn_4, tn_5, tn_6, tc_0, tc_1, tc_2, tc_3, tc_4, tc_5, tc_6, xf_0, xf_1, xf_2, Sum.inl.injEq, Sum.inr.injEq, C_M_at, C_M_depthOf, C_M_get, C_M_isClock, C_M_later, C_M_mayPress, C_M_morningOf, C_M_spareAt, C_M_wakes, nI_1])
                refine ih _ _ _ (fM_f (fM_a (fM_a (fM_f hF 15 _ (by omega)) 71 _ _ (Or.inl rfl)) 72 _ _ (Or.inr rfl)) 13 _ (by omega)) ?_ ?_ ?_
                · simp [up_ne, up_s, ud_o, h12]
                · have := hst2.1
                  simpa [up_ne, up_s, ud_o, ud_s] using this
                · simpa [up_ne, up_s, ud_o, ud_s] using hmo
            · rw [if_pos hw] at hmo
              (refine b_310 _ _ _ ?_; simp only [k_X7_morningOf_0, k_X7_morningOf_19, k_X7_morningOf_75, k_X7_morningOf_78, k_X7_morningOf_85, k_X7_morningOf_98, k_X7_morningOf_125, k_X7_morningOf_131, k_X7_morningOf_156, k_X7_morningOf_181, k_X7_morningOf_182, k_X7_morningOf_234, k_X7_morningOf_304, k_X7_morningOf_310, k_X7_morningOf_313, xp_1, xp_2, xp_3, xp_4, xp_5, xp_6, xp_7, xp_10, xp_11, xp_12, xp_13, xp_14, xp_15, xp_16, xp_17, xp_18, xp_19, xp_20, xp_21, xp_22, xp_23, xp_30, xp_31, xp_32, xp_33, xp_34, xp_35, xp_36, xp_37, xp_38, xp_39, xp_40, xp_41, xp_42, xp_43, xp_50, xp_51, xp_52, xp_53, xp_60, xp_61, xp_62, xp_63, xp_64, xp_65, xp_70, xp_80, xp_81, xp_82, up_ne, up_s, ud_s, ud_o, xw_0, xw_1, xg_0, xg_1, xl_i, xl_r, xs_0, xs_1, xq_i, xq_r, xq_v, xc_0, xc_1, xt_0, xt_1, xr_0, xr_1, xr_2, xe_0, xe_1, ob_0, ob_18, ob_36, ob_54, ak_55, ln_55, cq_55, ak_56, ln_56, cq_56, ob_57, ak_58, ln_58, cq_58, ak_59, ln_59, cq_59, ob_60, ak_61, ln_61, cq_61, ak_62, ln_62, cq_62, ob_63, ak_64, ln_64, cq_64, ak_65, ln_65, cq_65, ak_66, ln_66, cq_66, ak_67, ln_67, cq_67, ak_68, ln_68, cq_68, ak_69, ln_69, cq_69, ak_70, ln_70, cq_70, ak_71, ln_71, cq_71, ak_72, ln_72, cq_72, ak_73, ln_73, cq_73, pt_54_0, pt_54_1, pt_57_0, pt_57_3, pt_60_0, pt_60_1, pt_60_2, pt_60_4, pt_60_5, pt_60_6, pt_60_8, pt_63_0, pt_63_1, pt_63_2, pt_63_3, pt_63_4, pt_63_6, pt_63_7, pt_63_10, pt_63_11, pt_63_17, true_and, and_true, List.length_cons, List.length_nil, Nat.reduceAdd, Nat.reduceLeDiff, forall_eq, ne_eq, Nat.reduceEqDiff, not_false_eq_true, or_false, false_or, or_true, true_or, reduceCtorEq, Nat.zero_le, Nat.reduceMul, Nat.add_zero, false_and, and_false, false_implies, true_implies, forall_const, implies_true, List.append_nil, List.nil_append, List.cons_append, mb_i, mb_ii, mb_iii, mb_r, mb_ri, mb_rii, mb_riii, mb_rr, mb_rri, mb_rrii, mb_rriii, mb_riiiii, mb_rrr, mb_rir, mb_iiii, mb_riiii, tn_0, tn_1, tn_2, tn_3, tn_4, tn_5, tn_6, tc_0, tc_1, tc_2, tc_3, tc_4, tc_5, tc_6, xf_0, xf_1, xf_2, Sum.inl.injEq, Sum.inr.injEq, C_M_at, C_M_depthOf, C_M_get, C_M_isClock, C_M_later, C_M_mayPress, C_M_morningOf, C_M_spareAt, C_M_wakes, nI_1])
              refine ih _ _ _ (fM_f (fM_a (fM_f hF 15 _ (by omega)) 71 _ _ (Or.inl rfl)) 14 _ (by omega)) ?_ ?_ ?_
              · simp [up_ne, up_s, ud_o, h12]
              · have := hst.1
                simpa [up_ne, up_s, ud_o, ud_s] using this
              · simpa [up_ne, up_s, ud_o, ud_s] using hmo
          have h181 : (0 : Int32) = (if by_ < 0 then 0 else s_W (M 65) (nI (s_f3 (M1 71))) by_ (M1 71 (s_f3 (M1 71)))) → V 181 [some (.inr 63), some (.inl i), some (.inl but), some (.inl by_), some (.inl (nI (s_f3 (M1 71)))), some (.inl (M1 71 (s_f3 (M1 71))))] [.inl (M1 63 15), .inr 63] M1 := by
            intro h
            (refine b_181 _ _ _ ?_; simp only [k_X7_morningOf_0, k_X7_morningOf_19, k_X7_morningOf_75, k_X7_morningOf_78, k_X7_morningOf_85, k_X7_morningOf_98, k_X7_morningOf_125, k_X7_morningOf_131, k_X7_morningOf_156, k_X7_morningOf_181, k_X7_morningOf_182, k_X7_morningOf_234, k_X7_morningOf_304, k_X7_morningOf_310, k_X7_morningOf_313, xp_1, xp_2, xp_3, xp_4, xp_5, xp_6, xp_7, xp_10, xp_11, xp_12, xp_13, xp_14, xp_15, xp_16, xp_17, xp_18, xp_19, xp_20, xp_21, xp_22, xp_23, xp_30, xp_31, xp_32, xp_33, xp_34, xp_35, xp_36, xp_37, xp_38, xp_39, xp_40, xp_41, xp_42, xp_43, xp_50, xp_51, xp_52, xp_53, xp_60, xp_61, xp_62, xp_63, xp_64, xp_65, xp_70, xp_80, xp_81, xp_82, up_ne, up_s, ud_s, ud_o, xw_0, xw_1, xg_0, xg_1, xl_i, xl_r, xs_0, xs_1, xq_i, xq_r, xq_v, xc_0, xc_1, xt_0, xt_1, xr_0, xr_1, xr_2, xe_0, xe_1, ob_0, ob_18, ob_36, ob_54, ak_55, ln_55, cq_55, ak_56, ln_56, cq_56, ob_57, ak_58, ln_58, cq_58, ak_59, ln_59, cq_59, ob_60, ak_61, ln_61, cq_61, ak_62, ln_62, cq_62, ob_63, ak_64, ln_64, cq_64, ak_65, ln_65, cq_65, ak_66, ln_66, cq_66, ak_67, ln_67, cq_67, ak_68, ln_68, cq_68, ak_69, ln_69, cq_69, ak_70, ln_70, cq_70, ak_71, ln_71, cq_71, ak_72, ln_72, cq_72, ak_73, ln_73, cq_73, pt_54_0, pt_54_1, pt_57_0, pt_57_3, pt_60_0, pt_60_1, pt_60_2, pt_60_4, pt_60_5, pt_60_6, pt_60_8, pt_63_0, pt_63_1, pt_63_2, pt_63_3, pt_63_4, pt_63_6, pt_63_7, pt_63_10, pt_63_11, pt_63_17, true_and, and_true, List.length_cons, List.length_nil, Nat.reduceAdd, Nat.reduceLeDiff, forall_eq, ne_eq, Nat.reduceEqDiff, not_false_eq_true, or_false, false_or, or_true, true_or, reduceCtorEq, Nat.zero_le, Nat.reduceMul, Nat.add_zero, false_and, and_false, false_implies, true_implies, forall_const, implies_true, List.append_nil, List.nil_append, List.cons_append, mb_i, mb_ii, mb_iii, mb_r, mb_ri, mb_rii, mb_riii, mb_rr, mb_rri, mb_rrii, mb_rriii, mb_riiiii, mb_rrr, mb_rir, mb_iiii, mb_riiii, tn_0, tn_1, tn_2, tn_3, tn_4, tn_5, tn_6, tc_0, tc_1, tc_2, tc_3, tc_4, tc_5, tc_6, xf_0, xf_1, xf_2, Sum.inl.injEq, Sum.inr.injEq, C_M_at, C_M_depthOf, C_M_get, C_M_isClock, C_M_later, C_M_mayPress, C_M_morningOf, C_M_spareAt, C_M_wakes, nI_1])
            exact h182 0 h
          (refine b_156 _ _ _ ?_; simp only [k_X7_morningOf_0, k_X7_morningOf_19, k_X7_morningOf_75, k_X7_morningOf_78, k_X7_morningOf_85, k_X7_morningOf_98, k_X7_morningOf_125, k_X7_morningOf_131, k_X7_morningOf_156, k_X7_morningOf_181, k_X7_morningOf_182, k_X7_morningOf_234, k_X7_morningOf_304, k_X7_morningOf_310, k_X7_morningOf_313, xp_1, xp_2, xp_3, xp_4, xp_5, xp_6, xp_7, xp_10, xp_11, xp_12, xp_13, xp_14, xp_15, xp_16, xp_17, xp_18, xp_19, xp_20, xp_21, xp_22, xp_23, xp_30, xp_31, xp_32, xp_33, xp_34, xp_35, xp_36, xp_37, xp_38, xp_39, xp_40, xp_41, xp_42, xp_43, xp_50, xp_51, xp_52, xp_53, xp_60, xp_61, xp_62, xp_63, xp_64, xp_65, xp_70, xp_80, xp_81, xp_82, up_ne, up_s, ud_s, ud_o, xw_0, xw_1, xg_0, xg_1, xl_i, xl_r, xs_0, xs_1, xq_i, xq_r, xq_v, xc_0, xc_1, xt_0, xt_1, xr_0, xr_1, xr_2, xe_0, xe_1, ob_0, ob_18, ob_36, ob_54, ak_55, ln_55, cq_55, ak_56, ln_56, cq_56, ob_57, ak_58, ln_58, cq_58, ak_59, ln_59, cq_59, ob_60, ak_61, ln_61, cq_61, ak_62, ln_62, cq_62, ob_63, ak_64, ln_64, cq_64, ak_65, ln_65, cq_65, ak_66, ln_66, cq_66, ak_67, ln_67, cq_67, ak_68, ln_68, cq_68, ak_69, ln_69, cq_69, ak_70, ln_70, cq_70, ak_71, ln_71, cq_71, ak_72, ln_72, cq_72, ak_73, ln_73, cq_73, pt_54_0, pt_54_1, pt_57_0, pt_57_3, pt_60_0, pt_60_1, pt_60_2, pt_60_4, pt_60_5, pt_60_6, pt_60_8, pt_63_0, pt_63_1, pt_63_2, pt_63_3, pt_63_4, pt_63_6, pt_63_7, pt_63_10, pt_63_11, pt_63_17, true_and, and_true, List.length_cons, List.length_nil, Nat.reduceAdd, Nat.reduceLeDiff, forall_eq, ne_eq, Nat.reduceEqDiff, not_false_eq_true, or_false, false_or, or_true, true_or, reduceCtorEq, Nat.zero_le, Nat.reduceMul, Nat.add_zero, false_and, and_false, false_implies, true_implies, forall_const, implies_true, List.append_nil, List.nil_append, List.cons_append, mb_i, mb_ii, mb_iii, mb_r, mb_ri, mb_rii, mb_riii, mb_rr, mb_rri, mb_rrii, mb_rriii, mb_riiiii, mb_rrr, mb_rir, mb_iiii, mb_riiii, tn_0, tn_1, tn_2, tn_3, tn_4, tn_5, tn_6, tc_0, tc_1, tc_2, tc_3, tc_4, tc_5, tc_6, xf_0, xf_1, xf_2, Sum.inl.injEq, Sum.inr.injEq, C_M_at, C_M_depthOf, C_M_get, C_M_isClock, C_M_later, C_M_mayPress, C_M_morningOf, C_M_spareAt, C_M_wakes, nI_1, h65, e1, e2])
          refine ⟨fun hb => h181 (by rw [if_pos hb]), fun hb => ⟨⟨hc3, s_sl_nz hR (hby hb)⟩, fun hw => h181 (by rw [if_neg hb, hw]), fun hw => h182 1 (by rw [if_neg hb]; exact ((s_W_01 _ _ _ _).resolve_left hw).symm)⟩⟩
        · have hmo := hS
          unfold s_mo at hmo
          rw [if_neg hm] at hmo
          rw [← hmo]
          refine ⟨rfl, rfl, rfl, rfl, fM_f hF _ _ (by omega)⟩
      have h98 : ∀ (c o : Nat), c < 4 → o < 4 → V 98 [some (.inr 63), some (.inl i), some (.inl but), some (.inl by_), some (.inl (nI (if M1 71 o < M1 71 c then o else c))), some (.inl (nI (o + 1)))] [] M1 → V 98 [some (.inr 63), some (.inl i), some (.inl but), some (.inl by_), some (.inl (nI c)), some (.inl (nI o))] [] M1 := by
        intro c o hc ho hnext
        have h4 : nI o < 4 := by rw [ti_lt, ti_nI (by omega)]; have : (4 : Int32).toInt = 4 := rfl; omega
        have e1 : (nI o).toNatClampNeg = o := tn_nI (by omega)
        have e2 : (nI c).toNatClampNeg = c := tn_nI (by omega)
        (refine b_98 _ _ _ ?_; simp only [k_X7_morningOf_0, k_X7_morningOf_19, k_X7_morningOf_75, k_X7_morningOf_78, k_X7_morningOf_85, k_X7_morningOf_98, k_X7_morningOf_125, k_X7_morningOf_131, k_X7_morningOf_156, k_X7_morningOf_181, k_X7_morningOf_182, k_X7_morningOf_234, k_X7_morningOf_304, k_X7_morningOf_310, k_X7_morningOf_313, xp_1, xp_2, xp_3, xp_4, xp_5, xp_6, xp_7, xp_10, xp_11, xp_12, xp_13, xp_14, xp_15, xp_16, xp_17, xp_18, xp_19, xp_20, xp_21, xp_22, xp_23, xp_30, xp_31, xp_32, xp_33, xp_34, xp_35, xp_36, xp_37, xp_38, xp_39, xp_40, xp_41, xp_42, xp_43, xp_50, xp_51, xp_52, xp_53, xp_60, xp_61, xp_62, xp_63, xp_64, xp_65, xp_70, xp_80, xp_81, xp_82, up_ne, up_s, ud_s, ud_o, xw_0, xw_1, xg_0, xg_1, xl_i, xl_r, xs_0, xs_1, xq_i, xq_r, xq_v, xc_0, xc_1, xt_0, xt_1, xr_0, xr_1, xr_2, xe_0, xe_1, ob_0, ob_18, ob_36, ob_54, ak_55, ln_55, cq_55, ak_56, ln_56, cq_56, ob_57, ak_58, ln_58, cq_58, ak_59, ln_59, cq_59, ob_60, ak_61, ln_61, cq_61, ak_62, ln_62, cq_62, ob_63, ak_64, ln_64, cq_64, ak_65, ln_65, cq_65, ak_66, ln_66, cq_66, ak_67, ln_67, cq_67, ak_68, ln_68, cq_68, ak_69, ln_69, cq_69, ak_70, ln_70, cq_70, ak_71, ln_71, cq_71, ak_72, ln_72, cq_72, ak_73, ln_73, cq_73, pt_54_0, pt_54_1, pt_57_0, pt_57_3, pt_60_0, pt_60_1, pt_60_2, pt_60_4, pt_60_5, pt_60_6, pt_60_8, pt_63_0, pt_63_1, pt_63_2, pt_63_3, pt_63_4, pt_63_6, pt_63_7, pt_63_10, pt_63_11, pt_63_17, true_and, and_true, List.length_cons, List.length_nil, Nat.reduceAdd, Nat.reduceLeDiff, forall_eq, ne_eq, Nat.reduceEqDiff, not_false_eq_true, or_false, false_or, or_true, true_or, reduceCtorEq, Nat.zero_le, Nat.reduceMul, Nat.add_zero, false_and, and_false, false_implies, true_implies, forall_const, implies_true, List.append_nil, List.nil_append, List.cons_append, mb_i, mb_ii, mb_iii, mb_r, mb_ri, mb_rii, mb_riii, mb_rr, mb_rri, mb_rrii, mb_rriii, mb_riiiii, mb_rrr, mb_rir, mb_iiii, mb_riiii, tn_0, tn_1, tn_2, tn_3, tn_4, tn_5, tn_6, tc_0, tc_1, tc_2, tc_3, tc_4, tc_5, tc_6, xf_0, xf_1, xf_2, Sum.inl.injEq, Sum.inr.injEq, C_M_at, C_M_depthOf, C_M_get, C_M_isClock, C_M_later, C_M_mayPress, C_M_morningOf, C_M_spareAt, C_M_wakes, nI_1])
        rw [e1, e2]
        refine ⟨fun h => absurd h4 h, fun _ => ⟨vi_l (by omega) (by omega), vi_l (by omega) (by omega), fun h => ?_, fun h => ?_⟩⟩
        · (refine b_125 _ _ _ ?_; simp only [k_X7_morningOf_0, k_X7_morningOf_19, k_X7_morningOf_75, k_X7_morningOf_78, k_X7_morningOf_85, k_X7_morningOf_98, k_X7_morningOf_125, k_X7_morningOf_131, k_X7_morningOf_156, k_X7_morningOf_181, k_X7_morningOf_182, k_X7_morningOf_234, k_X7_morningOf_304, k_X7_morningOf_310, k_X7_morningOf_313, xp_1, xp_2, xp_3, xp_4, xp_5, xp_6, xp_7, xp_10, xp_11, xp_12, xp_13, xp_14, xp_15, xp_16, xp_17, xp_18, xp_19, xp_20, xp_21, xp_22, xp_23, xp_30, xp_31, xp_32, xp_33, xp_34, xp_35, xp_36, xp_37, xp_38, xp_39, xp_40, xp_41, xp_42, xp_43, xp_50, xp_51, xp_52, xp_53, xp_60, xp_61, xp_62, xp_63, xp_64, xp_65, xp_70, xp_80, xp_81, xp_82, up_ne, up_s, ud_s, ud_o, xw_0, xw_1, xg_0, xg_1, xl_i, xl_r, xs_0, xs_1, xq_i, xq_r, xq_v, xc_0, xc_1, xt_0, xt_1, xr_0, xr_1, xr_2, xe_0, xe_1, ob_0, ob_18, ob_36, ob_54, ak_55, ln_55, cq_55, ak_56, ln_56, cq_56, ob_57, ak_58, ln_58, cq_58, ak_59, ln_59, cq_59, ob_60, ak_61, ln_61, cq_61, ak_62, ln_62, cq_62, ob_63, ak_64, ln_64, cq_64, ak_65, ln_65, cq_65, ak_66, ln_66, cq_66, ak_67, ln_67, cq_67, ak_68, ln_68, cq_68, ak_69, ln_69, cq_69, ak_70, ln_70, cq_70, ak_71, ln_71, cq_71, ak_72, ln_72, cq_72, ak_73, ln_73, cq_73, pt_54_0, pt_54_1, pt_57_0, pt_57_3, pt_60_0, pt_60_1, pt_60_2, pt_60_4, pt_60_5, pt_60_6, pt_60_8, pt_63_0, pt_63_1, pt_63_2, pt_63_3, pt_63_4, pt_63_6, pt_63_7, pt_63_10, pt_63_11, pt_63_17, true_and, and_true, List.length_cons, List.length_nil, Nat.reduceAdd, Nat.reduceLeDiff, forall_eq, ne_eq, Nat.reduceEqDiff, not_false_eq_true, or_false, false_or, or_true, true_or, reduceCtorEq, Nat.zero_le, Nat.reduceMul, Nat.add_zero, false_and, and_false, false_implies, true_implies, forall_const, implies_true, List.append_nil, List.nil_append, List.cons_append, mb_i, mb_ii, mb_iii, mb_r, mb_ri, mb_rii, mb_riii, mb_rr, mb_rri, mb_rrii, mb_rriii, mb_riiiii, mb_rrr, mb_rir, mb_iiii, mb_riiii, tn_0, tn_1, tn_2, tn_3, tn_4, tn_5, tn_6, tc_0, tc_1, tc_2, tc_3, tc_4, tc_5, tc_6, xf_0, xf_1, xf_2, Sum.inl.injEq, Sum.inr.injEq, C_M_at, C_M_depthOf, C_M_get, C_M_isClock, C_M_later, C_M_mayPress, C_M_morningOf, C_M_spareAt, C_M_wakes, nI_1])
          rw [if_neg h] at hnext
          exact hnext
        · (refine b_125 _ _ _ ?_; simp only [k_X7_morningOf_0, k_X7_morningOf_19, k_X7_morningOf_75, k_X7_morningOf_78, k_X7_morningOf_85, k_X7_morningOf_98, k_X7_morningOf_125, k_X7_morningOf_131, k_X7_morningOf_156, k_X7_morningOf_181, k_X7_morningOf_182, k_X7_morningOf_234, k_X7_morningOf_304, k_X7_morningOf_310, k_X7_morningOf_313, xp_1, xp_2, xp_3, xp_4, xp_5, xp_6, xp_7, xp_10, xp_11, xp_12, xp_13, xp_14, xp_15, xp_16, xp_17, xp_18, xp_19, xp_20, xp_21, xp_22, xp_23, xp_30, xp_31, xp_32, xp_33, xp_34, xp_35, xp_36, xp_37, xp_38, xp_39, xp_40, xp_41, xp_42, xp_43, xp_50, xp_51, xp_52, xp_53, xp_60, xp_61, xp_62, xp_63, xp_64, xp_65, xp_70, xp_80, xp_81, xp_82, up_ne, up_s, ud_s, ud_o, xw_0, xw_1, xg_0, xg_1, xl_i, xl_r, xs_0, xs_1, xq_i, xq_r, xq_v, xc_0, xc_1, xt_0, xt_1, xr_0, xr_1, xr_2, xe_0, xe_1, ob_0, ob_18, ob_36, ob_54, ak_55, ln_55, cq_55, ak_56, ln_56, cq_56, ob_57, ak_58, ln_58, cq_58, ak_59, ln_59, cq_59, ob_60, ak_61, ln_61, cq_61, ak_62, ln_62, cq_62, ob_63, ak_64, ln_64, cq_64, ak_65, ln_65, cq_65, ak_66, ln_66, cq_66, ak_67, ln_67, cq_67, ak_68, ln_68, cq_68, ak_69, ln_69, cq_69, ak_70, ln_70, cq_70, ak_71, ln_71, cq_71, ak_72, ln_72, cq_72, ak_73, ln_73, cq_73, pt_54_0, pt_54_1, pt_57_0, pt_57_3, pt_60_0, pt_60_1, pt_60_2, pt_60_4, pt_60_5, pt_60_6, pt_60_8, pt_63_0, pt_63_1, pt_63_2, pt_63_3, pt_63_4, pt_63_6, pt_63_7, pt_63_10, pt_63_11, pt_63_17, true_and, and_true, List.length_cons, List.length_nil, Nat.reduceAdd, Nat.reduceLeDiff, forall_eq, ne_eq, Nat.reduceEqDiff, not_false_eq_true, or_false, false_or, or_true, true_or, reduceCtorEq, Nat.zero_le, Nat.reduceMul, Nat.add_zero, false_and, and_false, false_implies, true_implies, forall_const, implies_true, List.append_nil, List.nil_append, List.cons_append, mb_i, mb_ii, mb_iii, mb_r, mb_ri, mb_rii, mb_riii, mb_rr, mb_rri, mb_rrii, mb_rriii, mb_riiiii, mb_rrr, mb_rir, mb_iiii, mb_riiii, tn_0, tn_1, tn_2, tn_3, tn_4, tn_5, tn_6, tc_0, tc_1, tc_2, tc_3, tc_4, tc_5, tc_6, xf_0, xf_1, xf_2, Sum.inl.injEq, Sum.inr.injEq, C_M_at, C_M_depthOf, C_M_get, C_M_isClock, C_M_later, C_M_mayPress, C_M_morningOf, C_M_spareAt, C_M_wakes, nI_1])
          rw [if_pos h] at hnext
          exact hnext
      have h98_4 : V 98 [some (.inr 63), some (.inl i), some (.inl but), some (.inl by_), some (.inl (nI (s_f3 (M1 71)))), some (.inl (nI 4))] [] M1 := by
        (refine b_98 _ _ _ ?_; simp only [k_X7_morningOf_0, k_X7_morningOf_19, k_X7_morningOf_75, k_X7_morningOf_78, k_X7_morningOf_85, k_X7_morningOf_98, k_X7_morningOf_125, k_X7_morningOf_131, k_X7_morningOf_156, k_X7_morningOf_181, k_X7_morningOf_182, k_X7_morningOf_234, k_X7_morningOf_304, k_X7_morningOf_310, k_X7_morningOf_313, xp_1, xp_2, xp_3, xp_4, xp_5, xp_6, xp_7, xp_10, xp_11, xp_12, xp_13, xp_14, xp_15, xp_16, xp_17, xp_18, xp_19, xp_20, xp_21, xp_22, xp_23, xp_30, xp_31, xp_32, xp_33, xp_34, xp_35, xp_36, xp_37, xp_38, xp_39, xp_40, xp_41, xp_42, xp_43, xp_50, xp_51, xp_52, xp_53, xp_60, xp_61, xp_62, xp_63, xp_64, xp_65, xp_70, xp_80, xp_81, xp_82, up_ne, up_s, ud_s, ud_o, xw_0, xw_1, xg_0, xg_1, xl_i, xl_r, xs_0, xs_1, xq_i, xq_r, xq_v, xc_0, xc_1, xt_0, xt_1, xr_0, xr_1, xr_2, xe_0, xe_1, ob_0, ob_18, ob_36, ob_54, ak_55, ln_55, cq_55, ak_56, ln_56, cq_56, ob_57, ak_58, ln_58, cq_58, ak_59, ln_59, cq_59, ob_60, ak_61, ln_61, cq_61, ak_62, ln_62, cq_62, ob_63, ak_64, ln_64, cq_64, ak_65, ln_65, cq_65, ak_66, ln_66, cq_66, ak_67, ln_67, cq_67, ak_68, ln_68, cq_68, ak_69, ln_69, cq_69, ak_70, ln_70, cq_70, ak_71, ln_71, cq_71, ak_72, ln_72, cq_72, ak_73, ln_73, cq_73, pt_54_0, pt_54_1, pt_57_0, pt_57_3, pt_60_0, pt_60_1, pt_60_2, pt_60_4, pt_60_5, pt_60_6, pt_60_8, pt_63_0, pt_63_1, pt_63_2, pt_63_3, pt_63_4, pt_63_6, pt_63_7, pt_63_10, pt_63_11, pt_63_17, true_and, and_true, List.length_cons, List.length_nil, Nat.reduceAdd, Nat.reduceLeDiff, forall_eq, ne_eq, Nat.reduceEqDiff, not_false_eq_true, or_false, false_or, or_true, true_or, reduceCtorEq, Nat.zero_le, Nat.reduceMul, Nat.add_zero, false_and, and_false, false_implies, true_implies, forall_const, implies_true, List.append_nil, List.nil_append, List.cons_append, mb_i, mb_ii, mb_iii, mb_r, mb_ri, mb_rii, mb_riii, mb_rr, mb_rri, mb_rrii, mb_rriii, mb_riiiii, mb_rrr, mb_rir, mb_iiii, mb_riiii, tn_0, tn_1, tn_2, tn_3, tn_4, tn_5, tn_6, tc_0, tc_1, tc_2, tc_3, tc_4, tc_5, tc_6, xf_0, xf_1, xf_2, Sum.inl.injEq, Sum.inr.injEq, C_M_at, C_M_depthOf, C_M_get, C_M_isClock, C_M_later, C_M_mayPress, C_M_morningOf, C_M_spareAt, C_M_wakes, nI_1])
        refine ⟨fun _ => h131, fun h => absurd h (by decide)⟩
      (refine b_85 _ _ _ ?_; simp only [k_X7_morningOf_0, k_X7_morningOf_19, k_X7_morningOf_75, k_X7_morningOf_78, k_X7_morningOf_85, k_X7_morningOf_98, k_X7_morningOf_125, k_X7_morningOf_131, k_X7_morningOf_156, k_X7_morningOf_181, k_X7_morningOf_182, k_X7_morningOf_234, k_X7_morningOf_304, k_X7_morningOf_310, k_X7_morningOf_313, xp_1, xp_2, xp_3, xp_4, xp_5, xp_6, xp_7, xp_10, xp_11, xp_12, xp_13, xp_14, xp_15, xp_16, xp_17, xp_18, xp_19, xp_20, xp_21, xp_22, xp_23, xp_30, xp_31, xp_32, xp_33, xp_34, xp_35, xp_36, xp_37, xp_38, xp_39, xp_40, xp_41, xp_42, xp_43, xp_50, xp_51, xp_52, xp_53, xp_60, xp_61, xp_62, xp_63, xp_64, xp_65, xp_70, xp_80, xp_81, xp_82, up_ne, up_s, ud_s, ud_o, xw_0, xw_1, xg_0, xg_1, xl_i, xl_r, xs_0, xs_1, xq_i, xq_r, xq_v, xc_0, xc_1, xt_0, xt_1, xr_0, xr_1, xr_2, xe_0, xe_1, ob_0, ob_18, ob_36, ob_54, ak_55, ln_55, cq_55, ak_56, ln_56, cq_56, ob_57, ak_58, ln_58, cq_58, ak_59, ln_59, cq_59, ob_60, ak_61, ln_61, cq_61, ak_62, ln_62, cq_62, ob_63, ak_64, ln_64, cq_64, ak_65, ln_65, cq_65, ak_66, ln_66, cq_66, ak_67, ln_67, cq_67, ak_68, ln_68, cq_68, ak_69, ln_69, cq_69, ak_70, ln_70, cq_70, ak_71, ln_71, cq_71, ak_72, ln_72, cq_72, ak_73, ln_73, cq_73, pt_54_0, pt_54_1, pt_57_0, pt_57_3, pt_60_0, pt_60_1, pt_60_2, pt_60_4, pt_60_5, pt_60_6, pt_60_8, pt_63_0, pt_63_1, pt_63_2, pt_63_3, pt_63_4, pt_63_6, pt_63_7, pt_63_10, pt_63_11, pt_63_17, true_and, and_true, List.length_cons, List.length_nil, Nat.reduceAdd, Nat.reduceLeDiff, forall_eq, ne_eq, Nat.reduceEqDiff, not_false_eq_true, or_false, false_or, or_true, true_or, reduceCtorEq, Nat.zero_le, Nat.reduceMul, Nat.add_zero, false_and, and_false, false_implies, true_implies, forall_const, implies_true, List.append_nil, List.nil_append, List.cons_append, mb_i, mb_ii, mb_iii, mb_r, mb_ri, mb_rii, mb_riii, mb_rr, mb_rri, mb_rrii, mb_rriii, mb_riiiii, mb_rrr, mb_rir, mb_iiii, mb_riiii, tn_0, tn_1, tn_2, tn_3, tn_4, tn_5, tn_6, tc_0, tc_1, tc_2, tc_3, tc_4, tc_5, tc_6, xf_0, xf_1, xf_2, Sum.inl.injEq, Sum.inr.injEq, C_M_at, C_M_depthOf, C_M_get, C_M_isClock, C_M_later, C_M_mayPress, C_M_morningOf, C_M_spareAt, C_M_wakes, nI_1])
      rw [h12]
      refine ⟨fun h => absurd (by decide) h, fun _ => ?_⟩
      have k1 : s_f1 (M1 71) < 4 := by unfold s_f1; split <;> omega
      have k2 : s_f2 (M1 71) < 4 := by unfold s_f2; split <;> omega
      exact h98 0 1 (by omega) (by omega) (h98 _ 2 k1 (by omega) (h98 _ 3 k2 (by omega) h98_4))
  have init : ∀ (f c : Nat) (M1 : mj_M), c + f = 4 → fM M M1 → M1 63 12 = -9 → M1 63 13 = 0 → M1 63 14 = 0 → M1 63 15 = M 63 15 → (∀ k, k < c → M1 71 k = s_g0 (M 65) i but k ∧ M1 72 k = 0) → V 19 [some (.inr 63), some (.inl i), some (.inl but), some (.inl by_), some (.inl (nI c)), none] [] M1 := by
    intro f
    induction f with
    | zero =>
      intro c M1 hc hF h12 h13 h14 h15 hg
      (refine b_19 _ _ _ ?_; simp only [k_X7_morningOf_0, k_X7_morningOf_19, k_X7_morningOf_75, k_X7_morningOf_78, k_X7_morningOf_85, k_X7_morningOf_98, k_X7_morningOf_125, k_X7_morningOf_131, k_X7_morningOf_156, k_X7_morningOf_181, k_X7_morningOf_182, k_X7_morningOf_234, k_X7_morningOf_304, k_X7_morningOf_310, k_X7_morningOf_313, xp_1, xp_2, xp_3, xp_4, xp_5, xp_6, xp_7, xp_10, xp_11, xp_12, xp_13, xp_14, xp_15, xp_16, xp_17, xp_18, xp_19, xp_20, xp_21, xp_22, xp_23, xp_30, xp_31, xp_32, xp_33, xp_34, xp_35, xp_36, xp_37, xp_38, xp_39, xp_40, xp_41, xp_42, xp_43, xp_50, xp_51, xp_52, xp_53, xp_60, xp_61, xp_62, xp_63, xp_64, xp_65, xp_70, xp_80, xp_81, xp_82, up_ne, up_s, ud_s, ud_o, xw_0, xw_1, xg_0, xg_1, xl_i, xl_r, xs_0, xs_1, xq_i, xq_r, xq_v, xc_0, xc_1, xt_0, xt_1, xr_0, xr_1, xr_2, xe_0, xe_1, ob_0, ob_18, ob_36, ob_54, ak_55, ln_55, cq_55, ak_56, ln_56, cq_56, ob_57, ak_58, ln_58, cq_58, ak_59, ln_59, cq_59, ob_60, ak_61, ln_61, cq_61, ak_62, ln_62, cq_62, ob_63, ak_64, ln_64, cq_64, ak_65, ln_65, cq_65, ak_66, ln_66, cq_66, ak_67, ln_67, cq_67, ak_68, ln_68, cq_68, ak_69, ln_69, cq_69, ak_70, ln_70, cq_70, ak_71, ln_71, cq_71, ak_72, ln_72, cq_72, ak_73, ln_73, cq_73, pt_54_0, pt_54_1, pt_57_0, pt_57_3, pt_60_0, pt_60_1, pt_60_2, pt_60_4, pt_60_5, pt_60_6, pt_60_8, pt_63_0, pt_63_1, pt_63_2, pt_63_3, pt_63_4, pt_63_6, pt_63_7, pt_63_10, pt_63_11, pt_63_17, true_and, and_true, List.length_cons, List.length_nil, Nat.reduceAdd, Nat.reduceLeDiff, forall_eq, ne_eq, Nat.reduceEqDiff, not_false_eq_true, or_false, false_or, or_true, true_or, reduceCtorEq, Nat.zero_le, Nat.reduceMul, Nat.add_zero, false_and, and_false, false_implies, true_implies, forall_const, implies_true, List.append_nil, List.nil_append, List.cons_append, mb_i, mb_ii, mb_iii, mb_r, mb_ri, mb_rii, mb_riii, mb_rr, mb_rri, mb_rrii, mb_rriii, mb_riiiii, mb_rrr, mb_rir, mb_iiii, mb_riiii, tn_0, tn_1, tn_2, tn_3, tn_4, tn_5, tn_6, tc_0, tc_1, tc_2, tc_3, tc_4, tc_5, tc_6, xf_0, xf_1, xf_2, Sum.inl.injEq, Sum.inr.injEq, C_M_at, C_M_depthOf, C_M_get, C_M_isClock, C_M_later, C_M_mayPress, C_M_morningOf, C_M_spareAt, C_M_wakes, nI_1])
      refine ⟨fun _ => ?_, fun h => ?_⟩
      · refine body 1201 M1 _ _ hF h12 (s_J_0 hR (fun k hk => (hg k (by omega)).1) (fun k hk => (hg k (by omega)).2)) ?_
        · rw [h13, h14, h15]
          exact s_mo_cg 1201 (fun k hk => (hg k (by omega)).1) (fun k hk => (hg k (by omega)).2)
      · rw [ti_lt, ti_nI (by omega)] at h
        have : (4 : Int32).toInt = 4 := rfl
        omega
    | succ f ih =>
      intro c M1 hc hF h12 h13 h14 h15 hg
      have h65 : M1 65 = M 65 := hF.1 65 (by decide) (by decide) (by decide)
      have e1 : (nI c).toNatClampNeg = c := tn_nI (by omega)
      have e2 : tn (nI c) = c := tn_nI (by omega)
      have h78 : ∀ v : Int32, v = s_g0 (M 65) i but c → V 78 [some (.inr 63), some (.inl i), some (.inl but), some (.inl by_), some (.inl (nI c)), none] [.inl v, .inl (nI c), .inr 71] (mj_up M1 72 c 0) := by
        intro v hv
        (refine b_78 _ _ _ ?_; simp only [k_X7_morningOf_0, k_X7_morningOf_19, k_X7_morningOf_75, k_X7_morningOf_78, k_X7_morningOf_85, k_X7_morningOf_98, k_X7_morningOf_125, k_X7_morningOf_131, k_X7_morningOf_156, k_X7_morningOf_181, k_X7_morningOf_182, k_X7_morningOf_234, k_X7_morningOf_304, k_X7_morningOf_310, k_X7_morningOf_313, xp_1, xp_2, xp_3, xp_4, xp_5, xp_6, xp_7, xp_10, xp_11, xp_12, xp_13, xp_14, xp_15, xp_16, xp_17, xp_18, xp_19, xp_20, xp_21, xp_22, xp_23, xp_30, xp_31, xp_32, xp_33, xp_34, xp_35, xp_36, xp_37, xp_38, xp_39, xp_40, xp_41, xp_42, xp_43, xp_50, xp_51, xp_52, xp_53, xp_60, xp_61, xp_62, xp_63, xp_64, xp_65, xp_70, xp_80, xp_81, xp_82, up_ne, up_s, ud_s, ud_o, xw_0, xw_1, xg_0, xg_1, xl_i, xl_r, xs_0, xs_1, xq_i, xq_r, xq_v, xc_0, xc_1, xt_0, xt_1, xr_0, xr_1, xr_2, xe_0, xe_1, ob_0, ob_18, ob_36, ob_54, ak_55, ln_55, cq_55, ak_56, ln_56, cq_56, ob_57, ak_58, ln_58, cq_58, ak_59, ln_59, cq_59, ob_60, ak_61, ln_61, cq_61, ak_62, ln_62, cq_62, ob_63, ak_64, ln_64, cq_64, ak_65, ln_65, cq_65, ak_66, ln_66, cq_66, ak_67, ln_67, cq_67, ak_68, ln_68, cq_68, ak_69, ln_69, cq_69, ak_70, ln_70, cq_70, ak_71, ln_71, cq_71, ak_72, ln_72, cq_72, ak_73, ln_73, cq_73, pt_54_0, pt_54_1, pt_57_0, pt_57_3, pt_60_0, pt_60_1, pt_60_2, pt_60_4, pt_60_5, pt_60_6, pt_60_8, pt_63_0, pt_63_1, pt_63_2, pt_63_3, pt_63_4, pt_63_6, pt_63_7, pt_63_10, pt_63_11, pt_63_17, true_and, and_true, List.length_cons, List.length_nil, Nat.reduceAdd, Nat.reduceLeDiff, forall_eq, ne_eq, Nat.reduceEqDiff, not_false_eq_true, or_false, false_or, or_true, true_or, reduceCtorEq, Nat.zero_le, Nat.reduceMul, Nat.add_zero, false_and, and_false, false_implies, true_implies, forall_const, implies_true, List.append_nil, List.nil_append, List.cons_append, mb_i, mb_ii, mb_iii, mb_r, mb_ri, mb_rii, mb_riii, mb_rr, mb_rri, mb_rrii, mb_rriii, mb_riiiii, mb_rrr, mb_rir, mb_iiii, mb_riiii, tn_0, tn_1, tn_2, tn_3, tn_4, tn_5, tn_6, tc_0, tc_1, tc_2, tc_3, tc_4, tc_5, tc_6, xf_0, xf_1, xf_2, Sum.inl.injEq, Sum.inr.injEq, C_M_at, C_M_depthOf, C_M_get, C_M_isClock, C_M_later, C_M_mayPress, C_M_morningOf, C_M_spareAt, C_M_wakes, nI_1, e1])
        refine ⟨vi_l (by omega) (by omega), ih (c + 1) _ (by omega) (fM_a (fM_a hF 72 _ _ (Or.inr rfl)) 71 _ _ (Or.inl rfl)) (by simp [up_ne, h12]) (by simp [up_ne, h13]) (by simp [up_ne, h14]) (by simp [up_ne, h15]) (fun k hk => ?_)⟩
        by_cases e : k = c
        · rw [e]
          refine ⟨by simp [up_s, ud_s, hv], by simp [up_ne, up_s, ud_s]⟩
        · have := hg k (by omega)
          refine ⟨by simp [up_ne, up_s, ud_o e, this.1], by simp [up_ne, up_s, ud_o e, this.2]⟩
      have h75 : 300 = s_g0 (M 65) i but c → V 75 [some (.inr 63), some (.inl i), some (.inl but), some (.inl by_), some (.inl (nI c)), none] [.inl (nI c), .inr 71] (mj_up M1 72 c 0) := by
        intro h
        (refine b_75 _ _ _ ?_; simp only [k_X7_morningOf_0, k_X7_morningOf_19, k_X7_morningOf_75, k_X7_morningOf_78, k_X7_morningOf_85, k_X7_morningOf_98, k_X7_morningOf_125, k_X7_morningOf_131, k_X7_morningOf_156, k_X7_morningOf_181, k_X7_morningOf_182, k_X7_morningOf_234, k_X7_morningOf_304, k_X7_morningOf_310, k_X7_morningOf_313, xp_1, xp_2, xp_3, xp_4, xp_5, xp_6, xp_7, xp_10, xp_11, xp_12, xp_13, xp_14, xp_15, xp_16, xp_17, xp_18, xp_19, xp_20, xp_21, xp_22, xp_23, xp_30, xp_31, xp_32, xp_33, xp_34, xp_35, xp_36, xp_37, xp_38, xp_39, xp_40, xp_41, xp_42, xp_43, xp_50, xp_51, xp_52, xp_53, xp_60, xp_61, xp_62, xp_63, xp_64, xp_65, xp_70, xp_80, xp_81, xp_82, up_ne, up_s, ud_s, ud_o, xw_0, xw_1, xg_0, xg_1, xl_i, xl_r, xs_0, xs_1, xq_i, xq_r, xq_v, xc_0, xc_1, xt_0, xt_1, xr_0, xr_1, xr_2, xe_0, xe_1, ob_0, ob_18, ob_36, ob_54, ak_55, ln_55, cq_55, ak_56, ln_56, cq_56, ob_57, ak_58, ln_58, cq_58, ak_59, ln_59, cq_59, ob_60, ak_61, ln_61, cq_61, ak_62, ln_62, cq_62, ob_63, ak_64, ln_64, cq_64, ak_65, ln_65, cq_65, ak_66, ln_66, cq_66, ak_67, ln_67, cq_67, ak_68, ln_68, cq_68, ak_69, ln_69, cq_69, ak_70, ln_70, cq_70, ak_71, ln_71, cq_71, ak_72, ln_72, cq_72, ak_73, ln_73, cq_73, pt_54_0, pt_54_1, pt_57_0, pt_57_3, pt_60_0, pt_60_1, pt_60_2, pt_60_4, pt_60_5, pt_60_6, pt_60_8, pt_63_0, pt_63_1, pt_63_2, pt_63_3, pt_63_4, pt_63_6, pt_63_7, pt_63_10, pt_63_11, pt_63_17, true_and, and_true, List.length_cons, List.length_nil, Nat.reduceAdd, Nat.reduceLeDiff, forall_eq, ne_eq, Nat.reduceEqDiff, not_false_eq_true, or_false, false_or, or_true, true_or, reduceCtorEq, Nat.zero_le, Nat.reduceMul, Nat.add_zero, false_and, and_false, false_implies, true_implies, forall_const, implies_true, List.append_nil, List.nil_append, List.cons_append, mb_i, mb_ii, mb_iii, mb_r, mb_ri, mb_rii, mb_riii, mb_rr, mb_rri, mb_rrii, mb_rriii, mb_riiiii, mb_rrr, mb_rir, mb_iiii, mb_riiii, tn_0, tn_1, tn_2, tn_3, tn_4, tn_5, tn_6, tc_0, tc_1, tc_2, tc_3, tc_4, tc_5, tc_6, xf_0, xf_1, xf_2, Sum.inl.injEq, Sum.inr.injEq, C_M_at, C_M_depthOf, C_M_get, C_M_isClock, C_M_later, C_M_mayPress, C_M_morningOf, C_M_spareAt, C_M_wakes, nI_1])
        exact h78 _ h
      (refine b_19 _ _ _ ?_; simp only [k_X7_morningOf_0, k_X7_morningOf_19, k_X7_morningOf_75, k_X7_morningOf_78, k_X7_morningOf_85, k_X7_morningOf_98, k_X7_morningOf_125, k_X7_morningOf_131, k_X7_morningOf_156, k_X7_morningOf_181, k_X7_morningOf_182, k_X7_morningOf_234, k_X7_morningOf_304, k_X7_morningOf_310, k_X7_morningOf_313, xp_1, xp_2, xp_3, xp_4, xp_5, xp_6, xp_7, xp_10, xp_11, xp_12, xp_13, xp_14, xp_15, xp_16, xp_17, xp_18, xp_19, xp_20, xp_21, xp_22, xp_23, xp_30, xp_31, xp_32, xp_33, xp_34, xp_35, xp_36, xp_37, xp_38, xp_39, xp_40, xp_41, xp_42, xp_43, xp_50, xp_51, xp_52, xp_53, xp_60, xp_61, xp_62, xp_63, xp_64, xp_65, xp_70, xp_80, xp_81, xp_82, up_ne, up_s, ud_s, ud_o, xw_0, xw_1, xg_0, xg_1, xl_i, xl_r, xs_0, xs_1, xq_i, xq_r, xq_v, xc_0, xc_1, xt_0, xt_1, xr_0, xr_1, xr_2, xe_0, xe_1, ob_0, ob_18, ob_36, ob_54, ak_55, ln_55, cq_55, ak_56, ln_56, cq_56, ob_57, ak_58, ln_58, cq_58, ak_59, ln_59, cq_59, ob_60, ak_61, ln_61, cq_61, ak_62, ln_62, cq_62, ob_63, ak_64, ln_64, cq_64, ak_65, ln_65, cq_65, ak_66, ln_66, cq_66, ak_67, ln_67, cq_67, ak_68, ln_68, cq_68, ak_69, ln_69, cq_69, ak_70, ln_70, cq_70, ak_71, ln_71, cq_71, ak_72, ln_72, cq_72, ak_73, ln_73, cq_73, pt_54_0, pt_54_1, pt_57_0, pt_57_3, pt_60_0, pt_60_1, pt_60_2, pt_60_4, pt_60_5, pt_60_6, pt_60_8, pt_63_0, pt_63_1, pt_63_2, pt_63_3, pt_63_4, pt_63_6, pt_63_7, pt_63_10, pt_63_11, pt_63_17, true_and, and_true, List.length_cons, List.length_nil, Nat.reduceAdd, Nat.reduceLeDiff, forall_eq, ne_eq, Nat.reduceEqDiff, not_false_eq_true, or_false, false_or, or_true, true_or, reduceCtorEq, Nat.zero_le, Nat.reduceMul, Nat.add_zero, false_and, and_false, false_implies, true_implies, forall_const, implies_true, List.append_nil, List.nil_append, List.cons_append, mb_i, mb_ii, mb_iii, mb_r, mb_ri, mb_rii, mb_riii, mb_rr, mb_rri, mb_rrii, mb_rriii, mb_riiiii, mb_rrr, mb_rir, mb_iiii, mb_riiii, tn_0, tn_1, tn_2, tn_3, tn_4, tn_5, tn_6, tc_0, tc_1, tc_2, tc_3, tc_4, tc_5, tc_6, xf_0, xf_1, xf_2, Sum.inl.injEq, Sum.inr.injEq, C_M_at, C_M_depthOf, C_M_get, C_M_isClock, C_M_later, C_M_mayPress, C_M_morningOf, C_M_spareAt, C_M_wakes, nI_1, h65, e1, e2])
      refine ⟨fun h => ?_, fun _ => ⟨vi_l (by omega) (by omega), ?_⟩⟩
      · rw [ti_lt, ti_nI (by omega)] at h
        have : (4 : Int32).toInt = 4 := rfl
        omega
      · have hin : s_in (nI c) (M 65 1) = 0 ↔ ¬ nI c < M 65 1 := by
          unfold s_in
          rw [if_neg (nl_0 (by omega))]
          split
          · simp [*]
          · simp [*]
        refine ⟨fun h => h75 ?_, fun h => ⟨⟨bd_c (by omega), ⟨by decide, by decide⟩⟩, fun h2 => h75 ?_, fun h2 => ⟨fun h3 => h75 ?_, fun h3 => ⟨⟨bd_c (by omega), ⟨by decide, by decide⟩⟩, h78 _ ?_⟩⟩⟩⟩
        · unfold s_g0
          rw [if_neg (hin.mp h)]
        · unfold s_g0
          rw [if_neg h2]
          split <;> rfl
        · unfold s_g0
          rw [if_pos h3]
          split
          · first | rfl | (split <;> rfl)
          · rfl
        · unfold s_g0
          rw [if_pos (Classical.not_not.mp (fun z => h (hin.mpr z))), if_pos h2, if_neg h3]
  (refine b_0 _ _ _ ?_; simp only [k_X7_morningOf_0, k_X7_morningOf_19, k_X7_morningOf_75, k_X7_morningOf_78, k_X7_morningOf_85, k_X7_morningOf_98, k_X7_morningOf_125, k_X7_morningOf_131, k_X7_morningOf_156, k_X7_morningOf_181, k_X7_morningOf_182, k_X7_morningOf_234, k_X7_morningOf_304, k_X7_morningOf_310, k_X7_morningOf_313, xp_1, xp_2, xp_3, xp_4, xp_5, xp_6, xp_7, xp_10, xp_11, xp_12, xp_13, xp_14, xp_15, xp_16, xp_17, xp_18, xp_19, xp_20, xp_21, xp_22, xp_23, xp_30, xp_31, xp_32, xp_33, xp_34, xp_35, xp_36, xp_37, xp_38, xp_39, xp_40, xp_41, xp_42, xp_43, xp_50, xp_51, xp_52, xp_53, xp_60, xp_61, xp_62, xp_63, xp_64, xp_65, xp_70, xp_80, xp_81, xp_82, up_ne, up_s, ud_s, ud_o, xw_0, xw_1, xg_0, xg_1, xl_i, xl_r, xs_0, xs_1, xq_i, xq_r, xq_v, xc_0, xc_1, xt_0, xt_1, xr_0, xr_1, xr_2, xe_0, xe_1, ob_0, ob_18, ob_36, ob_54, ak_55, ln_55, cq_55, ak_56, ln_56, cq_56, ob_57, ak_58, ln_58, cq_58, ak_59, ln_59, cq_59, ob_60, ak_61, ln_61, cq_61, ak_62, ln_62, cq_62, ob_63, ak_64, ln_64, cq_64, ak_65, ln_65, cq_65, ak_66, ln_66, cq_66, ak_67, ln_67, cq_67, ak_68, ln_68, cq_68, ak_69, ln_69, cq_69, ak_70, ln_70, cq_70, ak_71, ln_71, cq_71, ak_72, ln_72, cq_72, ak_73, ln_73, cq_73, pt_54_0, pt_54_1, pt_57_0, pt_57_3, pt_60_0, pt_60_1, pt_60_2, pt_60_4, pt_60_5, pt_60_6, pt_60_8, pt_63_0, pt_63_1, pt_63_2, pt_63_3, pt_63_4, pt_63_6, pt_63_7, pt_63_10, pt_63_11, pt_63_17, true_and, and_true, List.length_cons, List.length_nil, Nat.reduceAdd, Nat.reduceLeDiff, forall_eq, ne_eq, Nat.reduceEqDiff, not_false_eq_true, or_false, false_or, or_true, true_or, reduceCtorEq, Nat.zero_le, Nat.reduceMul, Nat.add_zero, false_and, and_false, false_implies, true_implies, forall_const, implies_true, List.append_nil, List.nil_append, List.cons_append, mb_i, mb_ii, mb_iii, mb_r, mb_ri, mb_rii, mb_riii, mb_rr, mb_rri, mb_rrii, mb_rriii, mb_riiiii, mb_rrr, mb_rir, mb_iiii, mb_riiii, tn_0, tn_1, tn_2, tn_3, tn_4, tn_5, tn_6, tc_0, tc_1, tc_2, tc_3, tc_4, tc_5, tc_6, xf_0, xf_1, xf_2, Sum.inl.injEq, Sum.inr.injEq, C_M_at, C_M_depthOf, C_M_get, C_M_isClock, C_M_later, C_M_mayPress, C_M_morningOf, C_M_spareAt, C_M_wakes, nI_1])
  refine init 4 0 _ (by omega) (fM_f (fM_f (fM_f (fM_r M) 12 _ (by omega)) 13 _ (by omega)) 14 _ (by omega)) (by simp [up_s, ud_o, ud_s]) (by simp [up_s, ud_o, ud_s]) (by simp [up_s, ud_o, ud_s]) (by simp [up_s, ud_o, ud_s]) (fun k hk => absurd hk (by omega))
end
section
/-! what a whole object holds: 0 the room, 1 the image, 2 letters, 3 the ROW, 4 refusals, 5 numbers (an image is there, how many letters, how many in the ROW) -/
def mS (M : mj_M) : mj_M := fun c => match c with
  | 0 => M 65
  | 1 => M 66
  | 2 => M 69
  | 3 => M 73
  | 4 => M 64
  | 5 => fun j => match j with
    | 0 => M 63 5
    | 1 => M 63 8
    | 2 => M 63 18
    | _ => 0
  | _ => fun _ => 0
theorem mS_0 {M : mj_M} : mS M 0 = M 65 := rfl
theorem mS_1 {M : mj_M} : mS M 1 = M 66 := rfl
theorem mS_2 {M : mj_M} : mS M 2 = M 69 := rfl
theorem mS_3 {M : mj_M} : mS M 3 = M 73 := rfl
theorem mS_4 {M : mj_M} : mS M 4 = M 64 := rfl
theorem mS_50 {M : mj_M} : mS M 5 0 = M 63 5 := rfl
theorem mS_51 {M : mj_M} : mS M 5 1 = M 63 8 := rfl
theorem mS_52 {M : mj_M} : mS M 5 2 = M 63 18 := rfl
/-- two states are the same -/
theorem mS_eq {M M' : mj_M} (h0 : M' 65 = M 65) (h1 : M' 66 = M 66) (h2 : M' 69 = M 69) (h3 : M' 73 = M 73) (h4 : M' 64 = M 64) (h5 : M' 63 5 = M 63 5) (h6 : M' 63 8 = M 63 8) (h7 : M' 63 18 = M 63 18) : mS M' = mS M := by
  funext c j
  unfold mS
  rw [h0, h1, h2, h3, h4]
  rcases (show c = 0 ∨ c = 1 ∨ c = 2 ∨ c = 3 ∨ c = 4 ∨ c = 5 ∨ 6 ≤ c by omega) with rfl | rfl | rfl | rfl | rfl | rfl | hc
  · rfl
  · rfl
  · rfl
  · rfl
  · rfl
  · rcases (show j = 0 ∨ j = 1 ∨ j = 2 ∨ 3 ≤ j by omega) with rfl | rfl | rfl | hj
    · exact h5
    · exact h6
    · exact h7
    · obtain ⟨k, rfl⟩ : ∃ k, j = k + 3 := ⟨j - 3, by omega⟩
      rfl
  · obtain ⟨k, rfl⟩ : ∃ k, c = k + 6 := ⟨c - 6, by omega⟩
    rfl
theorem mS_fM {M M' : mj_M} (h : fM M M') : mS M' = mS M := mS_eq (h.1 _ (by decide) (by decide) (by decide)) (h.1 _ (by decide) (by decide) (by decide)) (h.1 _ (by decide) (by decide) (by decide)) (h.1 _ (by decide) (by decide) (by decide)) (h.1 _ (by decide) (by decide) (by decide)) (h.2 _ (by decide) (by decide) (by decide) (by decide)) (h.2 _ (by decide) (by decide) (by decide) (by decide)) (h.2 _ (by decide) (by decide) (by decide) (by decide))
/-- an update of a state, part by part -/
theorem mS_ext {M : mj_M} {σ : mj_M} (h0 : M 65 = σ 0) (h1 : M 66 = σ 1) (h2 : M 69 = σ 2) (h3 : M 73 = σ 3) (h4 : M 64 = σ 4) (h5 : M 63 5 = σ 5 0) (h6 : M 63 8 = σ 5 1) (h7 : M 63 18 = σ 5 2) (h8 : ∀ j, σ 5 (j + 3) = 0) (h9 : ∀ c j, σ (c + 6) j = 0) : mS M = σ := by
  funext c j
  rcases (show c = 0 ∨ c = 1 ∨ c = 2 ∨ c = 3 ∨ c = 4 ∨ c = 5 ∨ 6 ≤ c by omega) with rfl | rfl | rfl | rfl | rfl | rfl | hc
  · exact congrFun h0 j
  · exact congrFun h1 j
  · exact congrFun h2 j
  · exact congrFun h3 j
  · exact congrFun h4 j
  · rcases (show j = 0 ∨ j = 1 ∨ j = 2 ∨ 3 ≤ j by omega) with rfl | rfl | rfl | hj
    · exact h5
    · exact h6
    · exact h7
    · obtain ⟨k, rfl⟩ : ∃ k, j = k + 3 := ⟨j - 3, by omega⟩
      exact (h8 k).symm
  · obtain ⟨k, rfl⟩ : ∃ k, c = k + 6 := ⟨c - 6, by omega⟩
    exact (h9 k j).symm
theorem mS_z {M : mj_M} (j : Nat) : mS M 5 (j + 3) = 0 := rfl
theorem mS_y {M : mj_M} (c j : Nat) : mS M (c + 6) j = 0 := rfl
theorem mS_bp {M : mj_M} {code : Int32} : mS (s_bp M 64 code) = s_bp (mS M) 4 code := by
  refine mS_ext ?_ ?_ ?_ ?_ ?_ ?_ ?_ ?_ (fun j => ?_) (fun c j => ?_) <;> unfold s_bp <;> simp [up_ne, up_s, mS_0, mS_1, mS_2, mS_3, mS_4, mS_50, mS_51, mS_52, mS_z, mS_y]
theorem mS_u0 {M : mj_M} {j : Nat} {x : Int32} : mS (mj_up M 65 j x) = mj_up (mS M) 0 j x := by
  refine mS_ext ?_ ?_ ?_ ?_ ?_ ?_ ?_ ?_ (fun j => ?_) (fun c j => ?_) <;> simp [up_ne, up_s, mS_0, mS_1, mS_2, mS_3, mS_4, mS_50, mS_51, mS_52, mS_z, mS_y]
theorem mS_u2 {M : mj_M} {j : Nat} {x : Int32} : mS (mj_up M 69 j x) = mj_up (mS M) 2 j x := by
  refine mS_ext ?_ ?_ ?_ ?_ ?_ ?_ ?_ ?_ (fun j => ?_) (fun c j => ?_) <;> simp [up_ne, up_s, mS_0, mS_1, mS_2, mS_3, mS_4, mS_50, mS_51, mS_52, mS_z, mS_y]
theorem mS_u3 {M : mj_M} {j : Nat} {x : Int32} : mS (mj_up M 73 j x) = mj_up (mS M) 3 j x := by
  refine mS_ext ?_ ?_ ?_ ?_ ?_ ?_ ?_ ?_ (fun j => ?_) (fun c j => ?_) <;> simp [up_ne, up_s, mS_0, mS_1, mS_2, mS_3, mS_4, mS_50, mS_51, mS_52, mS_z, mS_y]
theorem mS_n0 {M : mj_M} {x : Int32} : mS (mj_up M 63 5 x) = mj_up (mS M) 5 0 x := by
  refine mS_ext ?_ ?_ ?_ ?_ ?_ ?_ ?_ ?_ (fun j => ?_) (fun c j => ?_) <;> simp [up_ne, up_s, ud_s, ud_o, mS_0, mS_1, mS_2, mS_3, mS_4, mS_50, mS_51, mS_52, mS_z, mS_y]
theorem mS_n1 {M : mj_M} {x : Int32} : mS (mj_up M 63 8 x) = mj_up (mS M) 5 1 x := by
  refine mS_ext ?_ ?_ ?_ ?_ ?_ ?_ ?_ ?_ (fun j => ?_) (fun c j => ?_) <;> simp [up_ne, up_s, ud_s, ud_o, mS_0, mS_1, mS_2, mS_3, mS_4, mS_50, mS_51, mS_52, mS_z, mS_y]
theorem mS_n2 {M : mj_M} {x : Int32} : mS (mj_up M 63 18 x) = mj_up (mS M) 5 2 x := by
  refine mS_ext ?_ ?_ ?_ ?_ ?_ ?_ ?_ ?_ (fun j => ?_) (fun c j => ?_) <;> simp [up_ne, up_s, ud_s, ud_o, mS_0, mS_1, mS_2, mS_3, mS_4, mS_50, mS_51, mS_52, mS_z, mS_y]
theorem mS_db {M : mj_M} {x : Int32} : mS (mj_up M 63 16 x) = mS M := by
  refine mS_eq ?_ ?_ ?_ ?_ ?_ ?_ ?_ ?_ <;> simp [up_ne, up_s, ud_s, ud_o]
/-- the numbers of a state are as they must be -/
def dS (σ : mj_M) : Prop := dR (σ 0) ∧ (σ 5 0 = 0 ∨ σ 5 0 = 1) ∧ (σ 5 0 = 1 → dR (σ 1)) ∧ bd (σ 5 1) 0 96 ∧ (∀ j, bd (σ 2 j) 0 255) ∧ bd (σ 5 2) 0 8
/-- the machine's other cells stay: the class's under the reference's hands -/
def fr1 (M M' : mj_M) : Prop := ∀ k, k < 63 → M' k = M k
theorem fr1_r (M : mj_M) : fr1 M M := fun _ _ => rfl
theorem fr1_u {M M' : mj_M} (h : fr1 M M') {k j : Nat} {x : Int32} (hk : 63 ≤ k) : fr1 M (mj_up M' k j x) := fun b hb => (up_ne (by omega)).trans (h b hb)
theorem fr1_b {M M' : mj_M} (h : fr1 M M') {k : Nat} {x : Int32} (hk : 63 ≤ k) : fr1 M (s_bp M' k x) := fr1_u h hk
theorem fr1_M {M M' : mj_M} (h : fM M M') : fr1 M M' := fun b hb => h.1 b (by omega) (by omega) (by omega)
theorem fr1_t {M M1 M2 : mj_M} (h : fr1 M M1) (h2 : fr1 M1 M2) : fr1 M M2 := fun b hb => (h2 b hb).trans (h b hb)
/-! what each call answers, and what is then -/
def qF (σ : mj_M) (no val : Int32) : Int32 × mj_M := if no = 0 then (val, σ) else (no, s_bp σ 4 no)
def qV (σ : mj_M) (no val : Int32) : Int32 × mj_M := if no = 0 then (val, σ) else (1000000000 - no, s_bp σ 4 no)
def s_ft (a b : Int32) : Int32 := if a = 0 then b else a
def s_ot (w n : Int32) : Int32 := if s_in w n = 0 then -2 else 0
def nB (i n : Int32) : Int32 := if s_in i n = 0 then -1 else 0
def cF (σ : mj_M) (no : Int32) (p : Nat) (v : Int32) : Int32 × mj_M := if no = 0 then (σ 0 p, mj_up σ 0 p v) else (no, s_bp σ 4 no)
def F_letter (σ : mj_M) (c : Int32) : Int32 × mj_M := if s_wi c 0 255 = 0 then (if σ 5 1 = 96 then (-6, s_bp σ 4 (-6)) else (σ 5 1 + 1, mj_up (mj_up σ 2 (tn (σ 5 1)) c) 5 1 (σ 5 1 + 1))) else (s_wi c 0 255, s_bp σ 4 (s_wi c 0 255))
def F_sleeper (σ : mj_M) (i w : Int32) : Int32 × mj_M := qF σ (s_ft (nB i (σ 0 0)) (s_ot w 4)) (σ 0 (7 + 4 * tn i + tn w))
def F_clock (σ : mj_M) (i w : Int32) : Int32 × mj_M := qF σ (s_ft (nB i (σ 0 1)) (s_ot w 5)) (σ 0 (23 + 5 * tn i + tn w))
def F_task (σ : mj_M) (i w : Int32) : Int32 × mj_M := qF σ (s_ft (nB i (σ 0 2)) (s_ot w 2)) (σ 0 (43 + 2 * tn i + tn w))
def F_set (σ : mj_M) (c v : Int32) : Int32 × mj_M := cF σ (s_ft (nB c (σ 0 1)) (s_wi v 0 299)) (23 + 5 * tn c + 2) v
def F_every (σ : mj_M) (c v : Int32) : Int32 × mj_M := cF σ (s_ft (nB c (σ 0 1)) (s_wi v 1 20)) (23 + 5 * tn c + 3) v
def F_firm (σ : mj_M) (v : Int32) : Int32 × mj_M := cF σ (s_wi v 0 99) 4 v
def F_bus (σ : mj_M) (v : Int32) : Int32 × mj_M := cF σ (s_wi v 0 299) 3 v
def F_tired (σ : mj_M) (v : Int32) : Int32 × mj_M := cF σ (s_wi v 0 9) 5 v
def F_night (σ : mj_M) : Int32 × mj_M := if σ 0 0 = 0 then (-3, s_bp σ 4 (-3)) else (s_dy (σ 0 6), mj_up (mj_up σ 0 5 (s_ti (σ 0 5) (s_m (σ 0) 0).2.1)) 0 6 (s_dy (σ 0 6)))
def F_depth (σ : mj_M) (i m : Int32) : Int32 × mj_M := qF σ (s_ft (nB i (σ 0 0)) (s_wi m 0 299)) (s_D (σ 0) i m)
def F_up (σ : mj_M) (i : Int32) : Int32 × mj_M := qF σ (nB i (σ 0 0)) (s_m (σ 0) i).1
def F_presses (σ : mj_M) (i : Int32) : Int32 × mj_M := qF σ (nB i (σ 0 0)) (s_m (σ 0) i).2.1
def F_slept (σ : mj_M) (i : Int32) : Int32 × mj_M := qF σ (nB i (σ 0 0)) (s_m (σ 0) i).2.2.1
def F_done (σ : mj_M) (m w : Int32) : Int32 × mj_M := qF σ (s_ft (s_wi m 0 300) (s_ot w 2)) (if w = 0 then (s_do (σ 0) m).2 else (s_do (σ 0) m).1)
def F_value (σ : mj_M) (i : Int32) : Int32 × mj_M := qV σ (nB i (σ 0 0)) (s_V (σ 0) i)
def F_cost (σ : mj_M) (m : Int32) : Int32 × mj_M := qV σ (s_wi m 0 299) ((s_do (σ 0) m).1 - (s_do (σ 0) (m + 1)).1)
def s_own (r : Nat → Int32) (c : Int32) : Int32 := r (23 + 5 * tn c + 1)
def s_even (r : Nat → Int32) (c w : Int32) : Int32 × Int32 := if w < 2 then s_ev r (23 + 5 * tn c + 2) (s_own r c) 0 299 else s_ev r (23 + 5 * tn c + 3) (s_own r c) 1 19
def F_evening (σ : mj_M) (c w : Int32) : Int32 × mj_M := qV σ (s_ft (nB c (σ 0 1)) (s_ot w 4)) (if s_rm w 2 = 0 then (s_even (σ 0) c w).1 else (s_even (σ 0) c w).2)
def F_often (σ : mj_M) (c n : Int32) : Int32 × mj_M := qF σ (s_ft (nB c (σ 0 1)) (s_wi n 0 9)) (s_of (σ 0) (23 + 5 * tn c + 2) (s_own (σ 0) c) n 300)
def F_hears (σ : mj_M) (i : Int32) : Int32 × mj_M := qF σ (nB i (σ 0 0)) (s_H (σ 0) i (-9))
def F_silent (σ : mj_M) (i : Int32) : Int32 × mj_M := qF σ (nB i (σ 0 0)) (s_si (σ 0) i (tn (σ 0 1))).1
def F_bet (σ : mj_M) (i : Int32) : Int32 × mj_M := qF σ (nB i (σ 0 0)) (s_be (σ 0) i 100 0)
def F_leans (σ : mj_M) (i m : Int32) : Int32 × mj_M := qF σ (s_ft (nB i (σ 0 0)) (s_wi m 0 300)) (s_le (σ 0) i m 31)
def F_back (σ : mj_M) (c m : Int32) : Int32 × mj_M := qF σ (s_ft (nB c (σ 0 1)) (s_wi m 0 300)) (s_ba (σ 0) c (s_own (σ 0) c) (σ 0 (23 + 5 * tn c + 2)) m 61 0)
def s_mn (from_ n : Int32) : Int32 := if from_ < 0 then -4 else if n < 1 then -4 else if 30 < n then -6 else if 300 - n < from_ then -6 else 0
def F_moment (σ : mj_M) (i from_ n : Int32) : Int32 × mj_M := qF σ (s_ft (nB i (σ 0 0)) (s_mn from_ n)) (s_mt (σ 0) i from_ (tn (n - 1)))
def s_wn (r : Nat → Int32) (i d w : Int32) : Int32 := if s_in i (r 0) = 0 then -1 else if d < r 6 then -1 else if d < 7 then s_ot w 3 else -1
def F_week (σ : mj_M) (i d w : Int32) : Int32 × mj_M := qF σ (s_wn (σ 0) i d w) (if w = 0 then (s_m (s_gn (σ 0) i (tn (d - σ 0 6))) i).2.1 else if w = 1 then s_wa (σ 0) i (tn (d - σ 0 6) + 1) else s_gn (σ 0) i (tn (d - σ 0 6) + 1) 5)
def F_row (σ : mj_M) (v : Int32) : Int32 × mj_M := if s_wi v 0 300 = 0 then (if σ 5 2 = 8 then (-6, s_bp σ 4 (-6)) else (σ 5 2 + 1, mj_up (mj_up σ 3 (tn (σ 5 2)) v) 5 2 (σ 5 2 + 1))) else (s_wi v 0 300, s_bp σ 4 (s_wi v 0 300))
def F_judge (σ : mj_M) (i : Int32) : Int32 × mj_M := qF σ (nB i (σ 0 0)) (s_ju (σ 0) i (σ 3) (tn (σ 5 2)) 0)
def F_firms (σ : mj_M) (i w : Int32) : Int32 × mj_M := qF σ (s_ft (nB i (σ 0 0)) (s_ot w 2)) (if w = 0 then (s_fi (σ 0) i (σ 3) (tn (σ 5 2)) 100).1 else (s_fi (σ 0) i (σ 3) (tn (σ 5 2)) 100).2)
def F_clear (σ : mj_M) : Int32 × mj_M := (σ 5 2, mj_up σ 5 2 0)
def F_lots (σ : mj_M) (i n z : Int32) : Int32 × mj_M := qF σ (s_ft (nB i (σ 0 0)) (s_wi n 1 30)) (s_lo (σ 0) i z (tn n)).2.2
def s_cy (σ : mj_M) (f t : Nat) : mj_M := fun c => if c = t then σ f else σ c
def F_image (σ : mj_M) : Int32 × mj_M := (σ 0 6, mj_up (s_cy σ 0 1) 5 0 1)
def F_on (σ : mj_M) : Int32 × mj_M := if σ 5 0 = 0 then (-3, s_bp σ 4 (-3)) else (σ 1 6, s_cy σ 1 0)
def s_ct (σ : mj_M) (w : Int32) : Int32 :=
  if 10 < w ∧ w < 17 then σ 4 (tn (w - 10)) else
  if w = 0 then σ 0 0 else if w = 1 then σ 0 1 else if w = 2 then σ 0 2 else if w = 3 then s_tl (σ 0) (tn (σ 0 2)) else
  if w = 4 then σ 0 3 else if w = 5 then σ 0 4 else if w = 6 then σ 0 5 else if w = 7 then σ 0 6 else
  if w = 8 then σ 5 2 else if w = 9 then σ 5 1 else -9
def F_count (σ : mj_M) (w : Int32) : Int32 × mj_M := (s_ct σ w, σ)
end
section
/-! the reference's calls, the small ones -/
theorem rc1 : s_rc (-1) := Or.inl rfl
theorem rc2 : s_rc (-2) := Or.inr (Or.inl rfl)
theorem rc3 : s_rc (-3) := Or.inr (Or.inr (Or.inl rfl))
theorem rc4 : s_rc (-4) := Or.inr (Or.inr (Or.inr (Or.inl rfl)))
theorem rc6 : s_rc (-6) := Or.inr (Or.inr (Or.inr (Or.inr rfl)))
theorem s_wi_rc {v a b : Int32} (h : ¬ s_wi v a b = 0) : s_rc (s_wi v a b) := by
  unfold s_wi at h ⊢
  split
  · exact rc4
  · rename_i h1
    rw [if_neg h1] at h
    split
    · exact rc6
    · rename_i h2
      rw [if_neg h2] at h
      exact absurd rfl h
theorem s_in_ge {i n : Int32} (h : ¬ s_in i n = 0) : 0 ≤ i.toInt ∧ i.toInt < n.toInt := by
  have e0 : (0 : Int32).toInt = 0 := rfl
  unfold s_in at h
  split at h
  · exact absurd rfl h
  · rename_i h1
    rw [ti_lt, e0] at h1
    split at h
    · rename_i h2
      rw [ti_lt] at h2
      exact ⟨by omega, h2⟩
    · exact absurd rfl h
theorem s_in_sl {r : Nat → Int32} {i : Int32} (h : ¬ s_in i (r 0) = 0) : s_sl r i := s_in_ge h
theorem s_in_eq {i n : Int32} : s_in i n = 0 ↔ ¬ (0 ≤ i.toInt ∧ i.toInt < n.toInt) := by
  refine ⟨fun h => ?_, fun h => Classical.not_not.mp (fun z => h (s_in_ge z))⟩
  have e0 : (0 : Int32).toInt = 0 := rfl
  unfold s_in at h
  split at h
  · rename_i h1
    rw [ti_lt, e0] at h1
    omega
  · split at h
    · cases h
    · rename_i h2
      rw [ti_lt] at h2
      omega
theorem s_wi_0 {v a b : Int32} (h : s_wi v a b = 0) : bd v a.toInt b.toInt := by
  unfold s_wi at h
  split at h
  · cases h
  · rename_i h1
    split at h
    · cases h
    · rename_i h2
      rw [ti_lt] at h1 h2
      exact ⟨by omega, by omega⟩
theorem bd_in {i n : Int32} {k : Int} (h : ¬ s_in i n = 0) (hn : n.toInt ≤ k + 1) : bd i 0 k := by
  have := s_in_ge h
  exact ⟨this.1, by omega⟩
def C_M_morning : mj_C := (2, rk0, fun avs M => ma_ri avs fun a i => (a = 63 ∧ dR (M 65) ∧ s_sl (M 65) i), fun avs M r M' => ma_ri avs fun a i => (M' 63 12 = (s_m (M 65) i).1 ∧ M' 63 13 = (s_m (M 65) i).2.1 ∧ M' 63 14 = (s_m (M 65) i).2.2.1 ∧ fM M M'))
theorem rc_M_morning : ∀ avs M, C_M_morning.2.2.1 avs M → ∃ a r, avs = .inr a :: r ∧ mj_ob a = 7 := by
  intro avs M h
  obtain ⟨a, i, rfl, h⟩ := mc_ri h
  exact ⟨_, _, rfl, by rw [h.1]; rfl⟩
set_option maxRecDepth 20000 in
set_option maxHeartbeats 2000000 in
theorem t_M_morning : mj_T yX7_morning cX7_morning 2 none 4 C_M_morning := by
  refine mj_T_of (own := 7) (rk := 0) [(423, C_M_morningOf)] (by decide) rfl (by decide) ⟨rfl, rfl⟩ (List.forall_mem_cons.mpr ⟨mj_KV (own := 7) (nest := false) t_M_morningOf ⟨wc_X7_morningOf, wi_X7, by decide, wl_7_141⟩ wn_X7_morningOf ws_X7_morningOf (c0 := 7) (by decide) rfl (by decide +kernel) rc_M_morningOf (by decide), (fun _ h => absurd h List.not_mem_nil)⟩) ?_
  intro avs M hlen hpre V hV
  obtain ⟨a, i, rfl, hp⟩ := mc_ri hpre
  show V 0 [some (.inr a), some (.inl i)] [] M
  have b_0 := hV h_X7_morning_0
  clear hlen hpre hV
  obtain ⟨rfl, hR, hi⟩ := hp
  (refine b_0 _ _ _ ?_; simp only [k_X7_morning_0, xp_1, xp_2, xp_3, xp_4, xp_5, xp_6, xp_7, xp_10, xp_11, xp_12, xp_13, xp_14, xp_15, xp_16, xp_17, xp_18, xp_19, xp_20, xp_21, xp_22, xp_23, xp_30, xp_31, xp_32, xp_33, xp_34, xp_35, xp_36, xp_37, xp_38, xp_39, xp_40, xp_41, xp_42, xp_43, xp_50, xp_51, xp_52, xp_53, xp_60, xp_61, xp_62, xp_63, xp_64, xp_65, xp_70, xp_80, xp_81, xp_82, up_ne, up_s, ud_s, ud_o, xw_0, xw_1, xg_0, xg_1, xl_i, xl_r, xs_0, xs_1, xq_i, xq_r, xq_v, xc_0, xc_1, xt_0, xt_1, xr_0, xr_1, xr_2, xe_0, xe_1, ob_0, ob_18, ob_36, ob_54, ak_55, ln_55, cq_55, ak_56, ln_56, cq_56, ob_57, ak_58, ln_58, cq_58, ak_59, ln_59, cq_59, ob_60, ak_61, ln_61, cq_61, ak_62, ln_62, cq_62, ob_63, ak_64, ln_64, cq_64, ak_65, ln_65, cq_65, ak_66, ln_66, cq_66, ak_67, ln_67, cq_67, ak_68, ln_68, cq_68, ak_69, ln_69, cq_69, ak_70, ln_70, cq_70, ak_71, ln_71, cq_71, ak_72, ln_72, cq_72, ak_73, ln_73, cq_73, pt_54_0, pt_54_1, pt_57_0, pt_57_3, pt_60_0, pt_60_1, pt_60_2, pt_60_4, pt_60_5, pt_60_6, pt_60_8, pt_63_0, pt_63_1, pt_63_2, pt_63_3, pt_63_4, pt_63_6, pt_63_7, pt_63_10, pt_63_11, pt_63_17, true_and, and_true, List.length_cons, List.length_nil, Nat.reduceAdd, Nat.reduceLeDiff, forall_eq, ne_eq, Nat.reduceEqDiff, not_false_eq_true, or_false, false_or, or_true, true_or, reduceCtorEq, Nat.zero_le, Nat.reduceMul, Nat.add_zero, false_and, and_false, false_implies, true_implies, forall_const, implies_true, List.append_nil, List.nil_append, List.cons_append, mb_i, mb_ii, mb_iii, mb_r, mb_ri, mb_rii, mb_riii, mb_rr, mb_rri, mb_rrii, mb_rriii, mb_riiiii, mb_rrr, mb_rir, mb_iiii, mb_riiii, tn_0, tn_1, tn_2, tn_3, tn_4, tn_5, tn_6, tc_0, tc_1, tc_2, tc_3, tc_4, tc_5, tc_6, xf_0, xf_1, xf_2, Sum.inl.injEq, Sum.inr.injEq, C_M_morning, C_M_morningOf])
  refine ⟨⟨hR, hi, fun h => absurd (by decide) h⟩, fun M1 h => ?_⟩
  obtain ⟨h1, h2, h3, h4, h5⟩ := h
  obtain ⟨e1, e2, e3, -⟩ := s_mo_he (r := M 65) (i := i) (b := -9) 1201 (g := s_g0 (M 65) i (-9)) (p := fun _ => 0) (pr := 0) (sl := 0) (he := M 63 15)
  exact ⟨h1.trans e1, h2.trans e2, h3.trans e3, h5⟩

def C_M_up : mj_C := (2, rk1, fun avs M => ma_ri avs fun a i => (a = 63 ∧ dS (mS M)), fun avs M r M' => ma_ri avs fun a i => (r = .inl (F_up (mS M) i).1 ∧ mS M' = (F_up (mS M) i).2 ∧ fr1 M M'))
theorem rc_M_up : ∀ avs M, C_M_up.2.2.1 avs M → ∃ a r, avs = .inr a :: r ∧ mj_ob a = 7 := by
  intro avs M h
  obtain ⟨a, i, rfl, h⟩ := mc_ri h
  exact ⟨_, _, rfl, by rw [h.1]; rfl⟩
set_option maxRecDepth 20000 in
set_option maxHeartbeats 2000000 in
theorem t_M_up : mj_T yX7_up cX7_up 2 (some .int) 5 C_M_up := by
  refine mj_T_of (own := 7) (rk := 1) [(123, C_M_refuse), (255, C_M_isSleeper), (435, C_M_morning)] (by decide) rfl (by decide) ⟨rfl, rfl⟩ (List.forall_mem_cons.mpr ⟨mj_KV (own := 7) (nest := false) t_M_refuse ⟨wc_X7_refuse, wi_X7, by decide, wl_7_41⟩ wn_X7_refuse ws_X7_refuse (c0 := 7) (by decide) rfl (by decide +kernel) rc_M_refuse (by decide), (List.forall_mem_cons.mpr ⟨mj_KV (own := 7) (nest := false) t_M_isSleeper ⟨wc_X7_isSleeper, wi_X7, by decide, wl_7_85⟩ wn_X7_isSleeper ws_X7_isSleeper (c0 := 7) (by decide) rfl (by decide +kernel) rc_M_isSleeper (by decide), (List.forall_mem_cons.mpr ⟨mj_KV (own := 7) (nest := false) t_M_morning ⟨wc_X7_morning, wi_X7, by decide, wl_7_145⟩ wn_X7_morning ws_X7_morning (c0 := 7) (by decide) rfl (by decide +kernel) rc_M_morning (by decide), (fun _ h => absurd h List.not_mem_nil)⟩)⟩)⟩) ?_
  intro avs M hlen hpre V hV
  obtain ⟨a, i, rfl, hp⟩ := mc_ri hpre
  show V 0 [some (.inr a), some (.inl i)] [] M
  have b_0 := hV h_X7_up_0; have b_14 := hV h_X7_up_14
  clear hlen hpre hV
  obtain ⟨rfl, hS⟩ := hp
  repeat' (first | (with_reducible refine And.intro ?_ ?_) | (with_reducible intro _) | ((first | refine b_0 _ _ _ ?_ | refine b_14 _ _ _ ?_); simp only [k_X7_up_0, k_X7_up_14, xp_1, xp_2, xp_3, xp_4, xp_5, xp_6, xp_7, xp_10, xp_11, xp_12, xp_13, xp_14, xp_15, xp_16, xp_17, xp_18, xp_19, xp_20, xp_21, xp_22, xp_23, xp_30, xp_31, xp_32, xp_33, xp_34, xp_35, xp_36, xp_37, xp_38, xp_39, xp_40, xp_41, xp_42, xp_43, xp_50, xp_51, xp_52, xp_53, xp_60, xp_61, xp_62, xp_63, xp_64, xp_65, xp_70, xp_80, xp_81, xp_82, up_ne, up_s, ud_s, ud_o, xw_0, xw_1, xg_0, xg_1, xl_i, xl_r, xs_0, xs_1, xq_i, xq_r, xq_v, xc_0, xc_1, xt_0, xt_1, xr_0, xr_1, xr_2, xe_0, xe_1, ob_0, ob_18, ob_36, ob_54, ak_55, ln_55, cq_55, ak_56, ln_56, cq_56, ob_57, ak_58, ln_58, cq_58, ak_59, ln_59, cq_59, ob_60, ak_61, ln_61, cq_61, ak_62, ln_62, cq_62, ob_63, ak_64, ln_64, cq_64, ak_65, ln_65, cq_65, ak_66, ln_66, cq_66, ak_67, ln_67, cq_67, ak_68, ln_68, cq_68, ak_69, ln_69, cq_69, ak_70, ln_70, cq_70, ak_71, ln_71, cq_71, ak_72, ln_72, cq_72, ak_73, ln_73, cq_73, pt_54_0, pt_54_1, pt_57_0, pt_57_3, pt_60_0, pt_60_1, pt_60_2, pt_60_4, pt_60_5, pt_60_6, pt_60_8, pt_63_0, pt_63_1, pt_63_2, pt_63_3, pt_63_4, pt_63_6, pt_63_7, pt_63_10, pt_63_11, pt_63_17, true_and, and_true, List.length_cons, List.length_nil, Nat.reduceAdd, Nat.reduceLeDiff, forall_eq, ne_eq, Nat.reduceEqDiff, not_false_eq_true, or_false, false_or, or_true, true_or, reduceCtorEq, Nat.zero_le, Nat.reduceMul, Nat.add_zero, false_and, and_false, false_implies, true_implies, forall_const, implies_true, List.append_nil, List.nil_append, List.cons_append, mb_i, mb_ii, mb_iii, mb_r, mb_ri, mb_rii, mb_riii, mb_rr, mb_rri, mb_rrii, mb_rriii, mb_riiiii, mb_rrr, mb_rir, mb_iiii, mb_riiii, tn_0, tn_1, tn_2, tn_3, tn_4, tn_5, tn_6, tc_0, tc_1, tc_2, tc_3, tc_4, tc_5, tc_6, xf_0, xf_1, xf_2, Sum.inl.injEq, Sum.inr.injEq, C_M_isSleeper, C_M_morning, C_M_refuse, C_M_up]))
  all_goals clear b_0 b_14
  all_goals first | first | assumption | contradiction | (exact absurd (by assumption) (by decide : ¬ (-1 : Int32) = 0)) | (exact absurd (by assumption) (by decide : ¬ (-6 : Int32) = 0)) | (exact absurd (by assumption) (by decide : ¬ (-4 : Int32) = 0)) | (exact absurd (by assumption) (by decide : ¬ (-2 : Int32) = 0)) | exact rc1 | exact rc2 | exact rc3 | exact rc4 | exact rc6 | exact s_wi_rc (by assumption) | exact hS.1 | exact s_in_sl (by assumption) | exact fr1_r M | exact fr1_b (fr1_r M) (by decide) | exact mS_bp | (exact fr1_u (fr1_r M) (by decide)) | (exact fr1_u (fr1_u (fr1_r M) (by decide)) (by decide)) | (exact bd_in (by assumption) (by decide)) | decide | (simp [F_up, qF, nB, mS_0, mS_bp, *]; done) | (rename_i h; simp [F_up, qF, nB, mS_0, mS_fM h.2.2.2, *]; done) | (rename_i h; exact fr1_M h.2.2.2)

def C_M_presses : mj_C := (2, rk1, fun avs M => ma_ri avs fun a i => (a = 63 ∧ dS (mS M)), fun avs M r M' => ma_ri avs fun a i => (r = .inl (F_presses (mS M) i).1 ∧ mS M' = (F_presses (mS M) i).2 ∧ fr1 M M'))
theorem rc_M_presses : ∀ avs M, C_M_presses.2.2.1 avs M → ∃ a r, avs = .inr a :: r ∧ mj_ob a = 7 := by
  intro avs M h
  obtain ⟨a, i, rfl, h⟩ := mc_ri h
  exact ⟨_, _, rfl, by rw [h.1]; rfl⟩
set_option maxRecDepth 20000 in
set_option maxHeartbeats 2000000 in
theorem t_M_presses : mj_T yX7_presses cX7_presses 2 (some .int) 5 C_M_presses := by
  refine mj_T_of (own := 7) (rk := 1) [(123, C_M_refuse), (255, C_M_isSleeper), (435, C_M_morning)] (by decide) rfl (by decide) ⟨rfl, rfl⟩ (List.forall_mem_cons.mpr ⟨mj_KV (own := 7) (nest := false) t_M_refuse ⟨wc_X7_refuse, wi_X7, by decide, wl_7_41⟩ wn_X7_refuse ws_X7_refuse (c0 := 7) (by decide) rfl (by decide +kernel) rc_M_refuse (by decide), (List.forall_mem_cons.mpr ⟨mj_KV (own := 7) (nest := false) t_M_isSleeper ⟨wc_X7_isSleeper, wi_X7, by decide, wl_7_85⟩ wn_X7_isSleeper ws_X7_isSleeper (c0 := 7) (by decide) rfl (by decide +kernel) rc_M_isSleeper (by decide), (List.forall_mem_cons.mpr ⟨mj_KV (own := 7) (nest := false) t_M_morning ⟨wc_X7_morning, wi_X7, by decide, wl_7_145⟩ wn_X7_morning ws_X7_morning (c0 := 7) (by decide) rfl (by decide +kernel) rc_M_morning (by decide), (fun _ h => absurd h List.not_mem_nil)⟩)⟩)⟩) ?_
  intro avs M hlen hpre V hV
  obtain ⟨a, i, rfl, hp⟩ := mc_ri hpre
  show V 0 [some (.inr a), some (.inl i)] [] M
  have b_0 := hV h_X7_presses_0; have b_14 := hV h_X7_presses_14
  clear hlen hpre hV
  obtain ⟨rfl, hS⟩ := hp
  repeat' (first | (with_reducible refine And.intro ?_ ?_) | (with_reducible intro _) | ((first | refine b_0 _ _ _ ?_ | refine b_14 _ _ _ ?_); simp only [k_X7_presses_0, k_X7_presses_14, xp_1, xp_2, xp_3, xp_4, xp_5, xp_6, xp_7, xp_10, xp_11, xp_12, xp_13, xp_14, xp_15, xp_16, xp_17, xp_18, xp_19, xp_20, xp_21, xp_22, xp_23, xp_30, xp_31, xp_32, xp_33, xp_34, xp_35, xp_36, xp_37, xp_38, xp_39, xp_40, xp_41, xp_42, xp_43, xp_50, xp_51, xp_52, xp_53, xp_60, xp_61, xp_62, xp_63, xp_64, xp_65, xp_70, xp_80, xp_81, xp_82, up_ne, up_s, ud_s, ud_o, xw_0, xw_1, xg_0, xg_1, xl_i, xl_r, xs_0, xs_1, xq_i, xq_r, xq_v, xc_0, xc_1, xt_0, xt_1, xr_0, xr_1, xr_2, xe_0, xe_1, ob_0, ob_18, ob_36, ob_54, ak_55, ln_55, cq_55, ak_56, ln_56, cq_56, ob_57, ak_58, ln_58, cq_58, ak_59, ln_59, cq_59, ob_60, ak_61, ln_61, cq_61, ak_62, ln_62, cq_62, ob_63, ak_64, ln_64, cq_64, ak_65, ln_65, cq_65, ak_66, ln_66, cq_66, ak_67, ln_67, cq_67, ak_68, ln_68, cq_68, ak_69, ln_69, cq_69, ak_70, ln_70, cq_70, ak_71, ln_71, cq_71, ak_72, ln_72, cq_72, ak_73, ln_73, cq_73, pt_54_0, pt_54_1, pt_57_0, pt_57_3, pt_60_0, pt_60_1, pt_60_2, pt_60_4, pt_60_5, pt_60_6, pt_60_8, pt_63_0, pt_63_1, pt_63_2, pt_63_3, pt_63_4, pt_63_6, pt_63_7, pt_63_10, pt_63_11, pt_63_17, true_and, and_true, List.length_cons, List.length_nil, Nat.reduceAdd, Nat.reduceLeDiff, forall_eq, ne_eq, Nat.reduceEqDiff, not_false_eq_true, or_false, false_or, or_true, true_or, reduceCtorEq, Nat.zero_le, Nat.reduceMul, Nat.add_zero, false_and, and_false, false_implies, true_implies, forall_const, implies_true, List.append_nil, List.nil_append, List.cons_append, mb_i, mb_ii, mb_iii, mb_r, mb_ri, mb_rii, mb_riii, mb_rr, mb_rri, mb_rrii, mb_rriii, mb_riiiii, mb_rrr, mb_rir, mb_iiii, mb_riiii, tn_0, tn_1, tn_2, tn_3, tn_4, tn_5, tn_6, tc_0, tc_1, tc_2, tc_3, tc_4, tc_5, tc_6, xf_0, xf_1, xf_2, Sum.inl.injEq, Sum.inr.injEq, C_M_isSleeper, C_M_morning, C_M_presses, C_M_refuse]))
  all_goals clear b_0 b_14
  all_goals first | first | assumption | contradiction | (exact absurd (by assumption) (by decide : ¬ (-1 : Int32) = 0)) | (exact absurd (by assumption) (by decide : ¬ (-6 : Int32) = 0)) | (exact absurd (by assumption) (by decide : ¬ (-4 : Int32) = 0)) | (exact absurd (by assumption) (by decide : ¬ (-2 : Int32) = 0)) | exact rc1 | exact rc2 | exact rc3 | exact rc4 | exact rc6 | exact s_wi_rc (by assumption) | exact hS.1 | exact s_in_sl (by assumption) | exact fr1_r M | exact fr1_b (fr1_r M) (by decide) | exact mS_bp | (exact fr1_u (fr1_r M) (by decide)) | (exact fr1_u (fr1_u (fr1_r M) (by decide)) (by decide)) | (exact bd_in (by assumption) (by decide)) | decide | (simp [F_presses, qF, nB, mS_0, mS_bp, *]; done) | (rename_i h; simp [F_presses, qF, nB, mS_0, mS_fM h.2.2.2, *]; done) | (rename_i h; exact fr1_M h.2.2.2)

def C_M_slept : mj_C := (2, rk1, fun avs M => ma_ri avs fun a i => (a = 63 ∧ dS (mS M)), fun avs M r M' => ma_ri avs fun a i => (r = .inl (F_slept (mS M) i).1 ∧ mS M' = (F_slept (mS M) i).2 ∧ fr1 M M'))
theorem rc_M_slept : ∀ avs M, C_M_slept.2.2.1 avs M → ∃ a r, avs = .inr a :: r ∧ mj_ob a = 7 := by
  intro avs M h
  obtain ⟨a, i, rfl, h⟩ := mc_ri h
  exact ⟨_, _, rfl, by rw [h.1]; rfl⟩
set_option maxRecDepth 20000 in
set_option maxHeartbeats 2000000 in
theorem t_M_slept : mj_T yX7_slept cX7_slept 2 (some .int) 5 C_M_slept := by
  refine mj_T_of (own := 7) (rk := 1) [(123, C_M_refuse), (255, C_M_isSleeper), (435, C_M_morning)] (by decide) rfl (by decide) ⟨rfl, rfl⟩ (List.forall_mem_cons.mpr ⟨mj_KV (own := 7) (nest := false) t_M_refuse ⟨wc_X7_refuse, wi_X7, by decide, wl_7_41⟩ wn_X7_refuse ws_X7_refuse (c0 := 7) (by decide) rfl (by decide +kernel) rc_M_refuse (by decide), (List.forall_mem_cons.mpr ⟨mj_KV (own := 7) (nest := false) t_M_isSleeper ⟨wc_X7_isSleeper, wi_X7, by decide, wl_7_85⟩ wn_X7_isSleeper ws_X7_isSleeper (c0 := 7) (by decide) rfl (by decide +kernel) rc_M_isSleeper (by decide), (List.forall_mem_cons.mpr ⟨mj_KV (own := 7) (nest := false) t_M_morning ⟨wc_X7_morning, wi_X7, by decide, wl_7_145⟩ wn_X7_morning ws_X7_morning (c0 := 7) (by decide) rfl (by decide +kernel) rc_M_morning (by decide), (fun _ h => absurd h List.not_mem_nil)⟩)⟩)⟩) ?_
  intro avs M hlen hpre V hV
  obtain ⟨a, i, rfl, hp⟩ := mc_ri hpre
  show V 0 [some (.inr a), some (.inl i)] [] M
  have b_0 := hV h_X7_slept_0; have b_14 := hV h_X7_slept_14
  clear hlen hpre hV
  obtain ⟨rfl, hS⟩ := hp
  repeat' (first | (with_reducible refine And.intro ?_ ?_) | (with_reducible intro _) | ((first | refine b_0 _ _ _ ?_ | refine b_14 _ _ _ ?_); simp only [k_X7_slept_0, k_X7_slept_14, xp_1, xp_2, xp_3, xp_4, xp_5, xp_6, xp_7, xp_10, xp_11, xp_12, xp_13, xp_14, xp_15, xp_16, xp_17, xp_18, xp_19, xp_20, xp_21, xp_22, xp_23, xp_30, xp_31, xp_32, xp_33, xp_34, xp_35, xp_36, xp_37, xp_38, xp_39, xp_40, xp_41, xp_42, xp_43, xp_50, xp_51, xp_52, xp_53, xp_60, xp_61, xp_62, xp_63, xp_64, xp_65, xp_70, xp_80, xp_81, xp_82, up_ne, up_s, ud_s, ud_o, xw_0, xw_1, xg_0, xg_1, xl_i, xl_r, xs_0, xs_1, xq_i, xq_r, xq_v, xc_0, xc_1, xt_0, xt_1, xr_0, xr_1, xr_2, xe_0, xe_1, ob_0, ob_18, ob_36, ob_54, ak_55, ln_55, cq_55, ak_56, ln_56, cq_56, ob_57, ak_58, ln_58, cq_58, ak_59, ln_59, cq_59, ob_60, ak_61, ln_61, cq_61, ak_62, ln_62, cq_62, ob_63, ak_64, ln_64, cq_64, ak_65, ln_65, cq_65, ak_66, ln_66, cq_66, ak_67, ln_67, cq_67, ak_68, ln_68, cq_68, ak_69, ln_69, cq_69, ak_70, ln_70, cq_70, ak_71, ln_71, cq_71, ak_72, ln_72, cq_72, ak_73, ln_73, cq_73, pt_54_0, pt_54_1, pt_57_0, pt_57_3, pt_60_0, pt_60_1, pt_60_2, pt_60_4, pt_60_5, pt_60_6, pt_60_8, pt_63_0, pt_63_1, pt_63_2, pt_63_3, pt_63_4, pt_63_6, pt_63_7, pt_63_10, pt_63_11, pt_63_17, true_and, and_true, List.length_cons, List.length_nil, Nat.reduceAdd, Nat.reduceLeDiff, forall_eq, ne_eq, Nat.reduceEqDiff, not_false_eq_true, or_false, false_or, or_true, true_or, reduceCtorEq, Nat.zero_le, Nat.reduceMul, Nat.add_zero, false_and, and_false, false_implies, true_implies, forall_const, implies_true, List.append_nil, List.nil_append, List.cons_append, mb_i, mb_ii, mb_iii, mb_r, mb_ri, mb_rii, mb_riii, mb_rr, mb_rri, mb_rrii, mb_rriii, mb_riiiii, mb_rrr, mb_rir, mb_iiii, mb_riiii, tn_0, tn_1, tn_2, tn_3, tn_4, tn_5, tn_6, tc_0, tc_1, tc_2, tc_3, tc_4, tc_5, tc_6, xf_0, xf_1, xf_2, Sum.inl.injEq, Sum.inr.injEq, C_M_isSleeper, C_M_morning, C_M_refuse, C_M_slept]))
  all_goals clear b_0 b_14
  all_goals first | first | assumption | contradiction | (exact absurd (by assumption) (by decide : ¬ (-1 : Int32) = 0)) | (exact absurd (by assumption) (by decide : ¬ (-6 : Int32) = 0)) | (exact absurd (by assumption) (by decide : ¬ (-4 : Int32) = 0)) | (exact absurd (by assumption) (by decide : ¬ (-2 : Int32) = 0)) | exact rc1 | exact rc2 | exact rc3 | exact rc4 | exact rc6 | exact s_wi_rc (by assumption) | exact hS.1 | exact s_in_sl (by assumption) | exact fr1_r M | exact fr1_b (fr1_r M) (by decide) | exact mS_bp | (exact fr1_u (fr1_r M) (by decide)) | (exact fr1_u (fr1_u (fr1_r M) (by decide)) (by decide)) | (exact bd_in (by assumption) (by decide)) | decide | (simp [F_slept, qF, nB, mS_0, mS_bp, *]; done) | (rename_i h; simp [F_slept, qF, nB, mS_0, mS_fM h.2.2.2, *]; done) | (rename_i h; exact fr1_M h.2.2.2)

theorem dS_rg {σ : mj_M} (h : dS σ) : (σ 0 0).toInt ≤ 4 ∧ (σ 0 1).toInt ≤ 4 ∧ (σ 0 2).toInt ≤ 6 := ⟨h.1.1.2, h.1.2.1.2, h.1.2.2.1.2⟩
def C_M_letter : mj_C := (2, rk1, fun avs M => ma_ri avs fun a c => (a = 63 ∧ dS (mS M)), fun avs M r M' => ma_ri avs fun a c => (r = .inl (F_letter (mS M) c).1 ∧ mS M' = (F_letter (mS M) c).2 ∧ fr1 M M'))
theorem rc_M_letter : ∀ avs M, C_M_letter.2.2.1 avs M → ∃ a r, avs = .inr a :: r ∧ mj_ob a = 7 := by
  intro avs M h
  obtain ⟨a, c, rfl, h⟩ := mc_ri h
  exact ⟨_, _, rfl, by rw [h.1]; rfl⟩
set_option maxRecDepth 20000 in
set_option maxHeartbeats 2000000 in
theorem t_M_letter : mj_T yX7_letter cX7_letter 3 (some .int) 5 C_M_letter := by
  refine mj_T_of (own := 7) (rk := 1) [(123, C_M_refuse), (161, C_M_within)] (by decide) rfl (by decide) ⟨rfl, rfl⟩ (List.forall_mem_cons.mpr ⟨mj_KV (own := 7) (nest := false) t_M_refuse ⟨wc_X7_refuse, wi_X7, by decide, wl_7_41⟩ wn_X7_refuse ws_X7_refuse (c0 := 7) (by decide) rfl (by decide +kernel) rc_M_refuse (by decide), (List.forall_mem_cons.mpr ⟨mj_KS (own := 7) (nest := false) t_M_within ⟨wc_X7_within, wi_X7, by decide, wl_7_53⟩ wn_X7_within (by decide +kernel) (by decide), (fun _ h => absurd h List.not_mem_nil)⟩)⟩) ?_
  intro avs M hlen hpre V hV
  obtain ⟨a, c, rfl, hp⟩ := mc_ri hpre
  show V 0 [some (.inr a), some (.inl c), none] [] M
  have b_0 := hV h_X7_letter_0; have b_25 := hV h_X7_letter_25; have b_35 := hV h_X7_letter_35
  clear hlen hpre hV
  obtain ⟨rfl, hS⟩ := hp
  have hv : ¬ M 63 8 = 96 → vp_in (M 63 8) 96 := fun h => by
    obtain ⟨h1, h2⟩ := hS.2.2.2.1
    have h3 : ¬ (M 63 8).toInt = (96 : Int32).toInt := fun z => h (ti_eq.mpr z)
    have e : (96 : Int32).toInt = 96 := rfl
    rw [mS_51] at h1 h2
    exact vi_x h1 (by omega)
  repeat' (first | (with_reducible refine And.intro ?_ ?_) | (with_reducible intro _) | ((first | refine b_0 _ _ _ ?_ | refine b_25 _ _ _ ?_ | refine b_35 _ _ _ ?_); simp only [k_X7_letter_0, k_X7_letter_25, k_X7_letter_35, xp_1, xp_2, xp_3, xp_4, xp_5, xp_6, xp_7, xp_10, xp_11, xp_12, xp_13, xp_14, xp_15, xp_16, xp_17, xp_18, xp_19, xp_20, xp_21, xp_22, xp_23, xp_30, xp_31, xp_32, xp_33, xp_34, xp_35, xp_36, xp_37, xp_38, xp_39, xp_40, xp_41, xp_42, xp_43, xp_50, xp_51, xp_52, xp_53, xp_60, xp_61, xp_62, xp_63, xp_64, xp_65, xp_70, xp_80, xp_81, xp_82, up_ne, up_s, ud_s, ud_o, xw_0, xw_1, xg_0, xg_1, xl_i, xl_r, xs_0, xs_1, xq_i, xq_r, xq_v, xc_0, xc_1, xt_0, xt_1, xr_0, xr_1, xr_2, xe_0, xe_1, ob_0, ob_18, ob_36, ob_54, ak_55, ln_55, cq_55, ak_56, ln_56, cq_56, ob_57, ak_58, ln_58, cq_58, ak_59, ln_59, cq_59, ob_60, ak_61, ln_61, cq_61, ak_62, ln_62, cq_62, ob_63, ak_64, ln_64, cq_64, ak_65, ln_65, cq_65, ak_66, ln_66, cq_66, ak_67, ln_67, cq_67, ak_68, ln_68, cq_68, ak_69, ln_69, cq_69, ak_70, ln_70, cq_70, ak_71, ln_71, cq_71, ak_72, ln_72, cq_72, ak_73, ln_73, cq_73, pt_54_0, pt_54_1, pt_57_0, pt_57_3, pt_60_0, pt_60_1, pt_60_2, pt_60_4, pt_60_5, pt_60_6, pt_60_8, pt_63_0, pt_63_1, pt_63_2, pt_63_3, pt_63_4, pt_63_6, pt_63_7, pt_63_10, pt_63_11, pt_63_17, true_and, and_true, List.length_cons, List.length_nil, Nat.reduceAdd, Nat.reduceLeDiff, forall_eq, ne_eq, Nat.reduceEqDiff, not_false_eq_true, or_false, false_or, or_true, true_or, reduceCtorEq, Nat.zero_le, Nat.reduceMul, Nat.add_zero, false_and, and_false, false_implies, true_implies, forall_const, implies_true, List.append_nil, List.nil_append, List.cons_append, mb_i, mb_ii, mb_iii, mb_r, mb_ri, mb_rii, mb_riii, mb_rr, mb_rri, mb_rrii, mb_rriii, mb_riiiii, mb_rrr, mb_rir, mb_iiii, mb_riiii, tn_0, tn_1, tn_2, tn_3, tn_4, tn_5, tn_6, tc_0, tc_1, tc_2, tc_3, tc_4, tc_5, tc_6, xf_0, xf_1, xf_2, Sum.inl.injEq, Sum.inr.injEq, C_M_letter, C_M_refuse, C_M_within]))
  all_goals clear b_0 b_25 b_35
  all_goals first | first | assumption | contradiction | (exact absurd (by assumption) (by decide : ¬ (-1 : Int32) = 0)) | (exact absurd (by assumption) (by decide : ¬ (-6 : Int32) = 0)) | (exact absurd (by assumption) (by decide : ¬ (-4 : Int32) = 0)) | (exact absurd (by assumption) (by decide : ¬ (-2 : Int32) = 0)) | exact rc1 | exact rc2 | exact rc3 | exact rc4 | exact rc6 | exact s_wi_rc (by assumption) | exact hS.1 | exact s_in_sl (by assumption) | exact fr1_r M | exact fr1_b (fr1_r M) (by decide) | exact mS_bp | (exact fr1_u (fr1_r M) (by decide)) | (exact fr1_u (fr1_u (fr1_r M) (by decide)) (by decide)) | (exact bd_in (by assumption) (by decide)) | decide | exact hv (by assumption) | (simp [F_letter, mS_0, mS_1, mS_2, mS_3, mS_4, mS_50, mS_51, mS_52, mS_bp, mS_u0, mS_u2, mS_u3, mS_n0, mS_n1, mS_n2, mS_db, *]; done)

def C_M_sleeper : mj_C := (3, rk1, fun avs M => ma_rii avs fun a i w => (a = 63 ∧ dS (mS M)), fun avs M r M' => ma_rii avs fun a i w => (r = .inl (F_sleeper (mS M) i w).1 ∧ mS M' = (F_sleeper (mS M) i w).2 ∧ fr1 M M'))
theorem rc_M_sleeper : ∀ avs M, C_M_sleeper.2.2.1 avs M → ∃ a r, avs = .inr a :: r ∧ mj_ob a = 7 := by
  intro avs M h
  obtain ⟨a, i, w, rfl, h⟩ := mc_rii h
  exact ⟨_, _, rfl, by rw [h.1]; rfl⟩
set_option maxRecDepth 20000 in
set_option maxHeartbeats 2000000 in
theorem t_M_sleeper : mj_T yX7_sleeper cX7_sleeper 3 (some .int) 5 C_M_sleeper := by
  refine mj_T_of (own := 7) (rk := 1) [(123, C_M_refuse), (149, C_M_isIn), (255, C_M_isSleeper), (294, C_M_get)] (by decide) rfl (by decide) ⟨rfl, rfl⟩ (List.forall_mem_cons.mpr ⟨mj_KV (own := 7) (nest := false) t_M_refuse ⟨wc_X7_refuse, wi_X7, by decide, wl_7_41⟩ wn_X7_refuse ws_X7_refuse (c0 := 7) (by decide) rfl (by decide +kernel) rc_M_refuse (by decide), (List.forall_mem_cons.mpr ⟨mj_KS (own := 7) (nest := false) t_M_isIn ⟨wc_X7_isIn, wi_X7, by decide, wl_7_49⟩ wn_X7_isIn (by decide +kernel) (by decide), (List.forall_mem_cons.mpr ⟨mj_KV (own := 7) (nest := false) t_M_isSleeper ⟨wc_X7_isSleeper, wi_X7, by decide, wl_7_85⟩ wn_X7_isSleeper ws_X7_isSleeper (c0 := 7) (by decide) rfl (by decide +kernel) rc_M_isSleeper (by decide), (List.forall_mem_cons.mpr ⟨mj_KV (own := 7) (nest := false) t_M_get ⟨wc_X7_get, wi_X7, by decide, wl_7_98⟩ wn_X7_get ws_X7_get (c0 := 7) (by decide) rfl (by decide +kernel) rc_M_get (by decide), (fun _ h => absurd h List.not_mem_nil)⟩)⟩)⟩)⟩) ?_
  intro avs M hlen hpre V hV
  obtain ⟨a, i, w, rfl, hp⟩ := mc_rii hpre
  show V 0 [some (.inr a), some (.inl i), some (.inl w)] [] M
  have b_0 := hV h_X7_sleeper_0; have b_14 := hV h_X7_sleeper_14; have b_31 := hV h_X7_sleeper_31; have b_37 := hV h_X7_sleeper_37
  clear hlen hpre hV
  obtain ⟨rfl, hS⟩ := hp
  have hg := dS_rg hS
  rw [mS_0] at hg
  repeat' (first | (with_reducible refine And.intro ?_ ?_) | (with_reducible intro _) | ((first | refine b_0 _ _ _ ?_ | refine b_14 _ _ _ ?_ | refine b_31 _ _ _ ?_ | refine b_37 _ _ _ ?_); simp only [k_X7_sleeper_0, k_X7_sleeper_14, k_X7_sleeper_31, k_X7_sleeper_37, xp_1, xp_2, xp_3, xp_4, xp_5, xp_6, xp_7, xp_10, xp_11, xp_12, xp_13, xp_14, xp_15, xp_16, xp_17, xp_18, xp_19, xp_20, xp_21, xp_22, xp_23, xp_30, xp_31, xp_32, xp_33, xp_34, xp_35, xp_36, xp_37, xp_38, xp_39, xp_40, xp_41, xp_42, xp_43, xp_50, xp_51, xp_52, xp_53, xp_60, xp_61, xp_62, xp_63, xp_64, xp_65, xp_70, xp_80, xp_81, xp_82, up_ne, up_s, ud_s, ud_o, xw_0, xw_1, xg_0, xg_1, xl_i, xl_r, xs_0, xs_1, xq_i, xq_r, xq_v, xc_0, xc_1, xt_0, xt_1, xr_0, xr_1, xr_2, xe_0, xe_1, ob_0, ob_18, ob_36, ob_54, ak_55, ln_55, cq_55, ak_56, ln_56, cq_56, ob_57, ak_58, ln_58, cq_58, ak_59, ln_59, cq_59, ob_60, ak_61, ln_61, cq_61, ak_62, ln_62, cq_62, ob_63, ak_64, ln_64, cq_64, ak_65, ln_65, cq_65, ak_66, ln_66, cq_66, ak_67, ln_67, cq_67, ak_68, ln_68, cq_68, ak_69, ln_69, cq_69, ak_70, ln_70, cq_70, ak_71, ln_71, cq_71, ak_72, ln_72, cq_72, ak_73, ln_73, cq_73, pt_54_0, pt_54_1, pt_57_0, pt_57_3, pt_60_0, pt_60_1, pt_60_2, pt_60_4, pt_60_5, pt_60_6, pt_60_8, pt_63_0, pt_63_1, pt_63_2, pt_63_3, pt_63_4, pt_63_6, pt_63_7, pt_63_10, pt_63_11, pt_63_17, true_and, and_true, List.length_cons, List.length_nil, Nat.reduceAdd, Nat.reduceLeDiff, forall_eq, ne_eq, Nat.reduceEqDiff, not_false_eq_true, or_false, false_or, or_true, true_or, reduceCtorEq, Nat.zero_le, Nat.reduceMul, Nat.add_zero, false_and, and_false, false_implies, true_implies, forall_const, implies_true, List.append_nil, List.nil_append, List.cons_append, mb_i, mb_ii, mb_iii, mb_r, mb_ri, mb_rii, mb_riii, mb_rr, mb_rri, mb_rrii, mb_rriii, mb_riiiii, mb_rrr, mb_rir, mb_iiii, mb_riiii, tn_0, tn_1, tn_2, tn_3, tn_4, tn_5, tn_6, tc_0, tc_1, tc_2, tc_3, tc_4, tc_5, tc_6, xf_0, xf_1, xf_2, Sum.inl.injEq, Sum.inr.injEq, C_M_get, C_M_isIn, C_M_isSleeper, C_M_refuse, C_M_sleeper]))
  all_goals clear b_0 b_14 b_31 b_37
  all_goals first | first | assumption | contradiction | (exact absurd (by assumption) (by decide : ¬ (-1 : Int32) = 0)) | (exact absurd (by assumption) (by decide : ¬ (-6 : Int32) = 0)) | (exact absurd (by assumption) (by decide : ¬ (-4 : Int32) = 0)) | (exact absurd (by assumption) (by decide : ¬ (-2 : Int32) = 0)) | exact rc1 | exact rc2 | exact rc3 | exact rc4 | exact rc6 | exact s_wi_rc (by assumption) | exact hS.1 | exact s_in_sl (by assumption) | exact fr1_r M | exact fr1_b (fr1_r M) (by decide) | exact mS_bp | (exact fr1_u (fr1_r M) (by decide)) | (exact fr1_u (fr1_u (fr1_r M) (by decide)) (by decide)) | (exact bd_in (by assumption) (by decide)) | decide | (simp [F_sleeper, qF, s_ft, s_ot, nB, mS_0, mS_1, mS_2, mS_3, mS_4, mS_50, mS_51, mS_52, mS_bp, mS_u0, mS_u2, mS_u3, mS_n0, mS_n1, mS_n2, mS_db, *]; done) | exact bd_in (by assumption) (by omega)

def C_M_clock : mj_C := (3, rk1, fun avs M => ma_rii avs fun a i w => (a = 63 ∧ dS (mS M)), fun avs M r M' => ma_rii avs fun a i w => (r = .inl (F_clock (mS M) i w).1 ∧ mS M' = (F_clock (mS M) i w).2 ∧ fr1 M M'))
theorem rc_M_clock : ∀ avs M, C_M_clock.2.2.1 avs M → ∃ a r, avs = .inr a :: r ∧ mj_ob a = 7 := by
  intro avs M h
  obtain ⟨a, i, w, rfl, h⟩ := mc_rii h
  exact ⟨_, _, rfl, by rw [h.1]; rfl⟩
set_option maxRecDepth 20000 in
set_option maxHeartbeats 2000000 in
theorem t_M_clock : mj_T yX7_clock cX7_clock 3 (some .int) 5 C_M_clock := by
  refine mj_T_of (own := 7) (rk := 1) [(123, C_M_refuse), (149, C_M_isIn), (306, C_M_isClock), (315, C_M_at)] (by decide) rfl (by decide) ⟨rfl, rfl⟩ (List.forall_mem_cons.mpr ⟨mj_KV (own := 7) (nest := false) t_M_refuse ⟨wc_X7_refuse, wi_X7, by decide, wl_7_41⟩ wn_X7_refuse ws_X7_refuse (c0 := 7) (by decide) rfl (by decide +kernel) rc_M_refuse (by decide), (List.forall_mem_cons.mpr ⟨mj_KS (own := 7) (nest := false) t_M_isIn ⟨wc_X7_isIn, wi_X7, by decide, wl_7_49⟩ wn_X7_isIn (by decide +kernel) (by decide), (List.forall_mem_cons.mpr ⟨mj_KV (own := 7) (nest := false) t_M_isClock ⟨wc_X7_isClock, wi_X7, by decide, wl_7_102⟩ wn_X7_isClock ws_X7_isClock (c0 := 7) (by decide) rfl (by decide +kernel) rc_M_isClock (by decide), (List.forall_mem_cons.mpr ⟨mj_KV (own := 7) (nest := false) t_M_at ⟨wc_X7_at, wi_X7, by decide, wl_7_105⟩ wn_X7_at ws_X7_at (c0 := 7) (by decide) rfl (by decide +kernel) rc_M_at (by decide), (fun _ h => absurd h List.not_mem_nil)⟩)⟩)⟩)⟩) ?_
  intro avs M hlen hpre V hV
  obtain ⟨a, i, w, rfl, hp⟩ := mc_rii hpre
  show V 0 [some (.inr a), some (.inl i), some (.inl w)] [] M
  have b_0 := hV h_X7_clock_0; have b_14 := hV h_X7_clock_14; have b_31 := hV h_X7_clock_31; have b_37 := hV h_X7_clock_37
  clear hlen hpre hV
  obtain ⟨rfl, hS⟩ := hp
  have hg := dS_rg hS
  rw [mS_0] at hg
  repeat' (first | (with_reducible refine And.intro ?_ ?_) | (with_reducible intro _) | ((first | refine b_0 _ _ _ ?_ | refine b_14 _ _ _ ?_ | refine b_31 _ _ _ ?_ | refine b_37 _ _ _ ?_); simp only [k_X7_clock_0, k_X7_clock_14, k_X7_clock_31, k_X7_clock_37, xp_1, xp_2, xp_3, xp_4, xp_5, xp_6, xp_7, xp_10, xp_11, xp_12, xp_13, xp_14, xp_15, xp_16, xp_17, xp_18, xp_19, xp_20, xp_21, xp_22, xp_23, xp_30, xp_31, xp_32, xp_33, xp_34, xp_35, xp_36, xp_37, xp_38, xp_39, xp_40, xp_41, xp_42, xp_43, xp_50, xp_51, xp_52, xp_53, xp_60, xp_61, xp_62, xp_63, xp_64, xp_65, xp_70, xp_80, xp_81, xp_82, up_ne, up_s, ud_s, ud_o, xw_0, xw_1, xg_0, xg_1, xl_i, xl_r, xs_0, xs_1, xq_i, xq_r, xq_v, xc_0, xc_1, xt_0, xt_1, xr_0, xr_1, xr_2, xe_0, xe_1, ob_0, ob_18, ob_36, ob_54, ak_55, ln_55, cq_55, ak_56, ln_56, cq_56, ob_57, ak_58, ln_58, cq_58, ak_59, ln_59, cq_59, ob_60, ak_61, ln_61, cq_61, ak_62, ln_62, cq_62, ob_63, ak_64, ln_64, cq_64, ak_65, ln_65, cq_65, ak_66, ln_66, cq_66, ak_67, ln_67, cq_67, ak_68, ln_68, cq_68, ak_69, ln_69, cq_69, ak_70, ln_70, cq_70, ak_71, ln_71, cq_71, ak_72, ln_72, cq_72, ak_73, ln_73, cq_73, pt_54_0, pt_54_1, pt_57_0, pt_57_3, pt_60_0, pt_60_1, pt_60_2, pt_60_4, pt_60_5, pt_60_6, pt_60_8, pt_63_0, pt_63_1, pt_63_2, pt_63_3, pt_63_4, pt_63_6, pt_63_7, pt_63_10, pt_63_11, pt_63_17, true_and, and_true, List.length_cons, List.length_nil, Nat.reduceAdd, Nat.reduceLeDiff, forall_eq, ne_eq, Nat.reduceEqDiff, not_false_eq_true, or_false, false_or, or_true, true_or, reduceCtorEq, Nat.zero_le, Nat.reduceMul, Nat.add_zero, false_and, and_false, false_implies, true_implies, forall_const, implies_true, List.append_nil, List.nil_append, List.cons_append, mb_i, mb_ii, mb_iii, mb_r, mb_ri, mb_rii, mb_riii, mb_rr, mb_rri, mb_rrii, mb_rriii, mb_riiiii, mb_rrr, mb_rir, mb_iiii, mb_riiii, tn_0, tn_1, tn_2, tn_3, tn_4, tn_5, tn_6, tc_0, tc_1, tc_2, tc_3, tc_4, tc_5, tc_6, xf_0, xf_1, xf_2, Sum.inl.injEq, Sum.inr.injEq, C_M_at, C_M_clock, C_M_isClock, C_M_isIn, C_M_refuse]))
  all_goals clear b_0 b_14 b_31 b_37
  all_goals first | first | assumption | contradiction | (exact absurd (by assumption) (by decide : ¬ (-1 : Int32) = 0)) | (exact absurd (by assumption) (by decide : ¬ (-6 : Int32) = 0)) | (exact absurd (by assumption) (by decide : ¬ (-4 : Int32) = 0)) | (exact absurd (by assumption) (by decide : ¬ (-2 : Int32) = 0)) | exact rc1 | exact rc2 | exact rc3 | exact rc4 | exact rc6 | exact s_wi_rc (by assumption) | exact hS.1 | exact s_in_sl (by assumption) | exact fr1_r M | exact fr1_b (fr1_r M) (by decide) | exact mS_bp | (exact fr1_u (fr1_r M) (by decide)) | (exact fr1_u (fr1_u (fr1_r M) (by decide)) (by decide)) | (exact bd_in (by assumption) (by decide)) | decide | (simp [F_clock, qF, s_ft, s_ot, nB, mS_0, mS_1, mS_2, mS_3, mS_4, mS_50, mS_51, mS_52, mS_bp, mS_u0, mS_u2, mS_u3, mS_n0, mS_n1, mS_n2, mS_db, *]; done) | exact bd_in (by assumption) (by omega)

def C_M_task : mj_C := (3, rk1, fun avs M => ma_rii avs fun a i w => (a = 63 ∧ dS (mS M)), fun avs M r M' => ma_rii avs fun a i w => (r = .inl (F_task (mS M) i w).1 ∧ mS M' = (F_task (mS M) i w).2 ∧ fr1 M M'))
theorem rc_M_task : ∀ avs M, C_M_task.2.2.1 avs M → ∃ a r, avs = .inr a :: r ∧ mj_ob a = 7 := by
  intro avs M h
  obtain ⟨a, i, w, rfl, h⟩ := mc_rii h
  exact ⟨_, _, rfl, by rw [h.1]; rfl⟩
set_option maxRecDepth 20000 in
set_option maxHeartbeats 2000000 in
theorem t_M_task : mj_T yX7_task cX7_task 3 (some .int) 5 C_M_task := by
  refine mj_T_of (own := 7) (rk := 1) [(123, C_M_refuse), (149, C_M_isIn), (324, C_M_of)] (by decide) rfl (by decide) ⟨rfl, rfl⟩ (List.forall_mem_cons.mpr ⟨mj_KV (own := 7) (nest := false) t_M_refuse ⟨wc_X7_refuse, wi_X7, by decide, wl_7_41⟩ wn_X7_refuse ws_X7_refuse (c0 := 7) (by decide) rfl (by decide +kernel) rc_M_refuse (by decide), (List.forall_mem_cons.mpr ⟨mj_KS (own := 7) (nest := false) t_M_isIn ⟨wc_X7_isIn, wi_X7, by decide, wl_7_49⟩ wn_X7_isIn (by decide +kernel) (by decide), (List.forall_mem_cons.mpr ⟨mj_KV (own := 7) (nest := false) t_M_of ⟨wc_X7_of, wi_X7, by decide, wl_7_108⟩ wn_X7_of ws_X7_of (c0 := 7) (by decide) rfl (by decide +kernel) rc_M_of (by decide), (fun _ h => absurd h List.not_mem_nil)⟩)⟩)⟩) ?_
  intro avs M hlen hpre V hV
  obtain ⟨a, i, w, rfl, hp⟩ := mc_rii hpre
  show V 0 [some (.inr a), some (.inl i), some (.inl w)] [] M
  have b_0 := hV h_X7_task_0; have b_19 := hV h_X7_task_19; have b_36 := hV h_X7_task_36; have b_42 := hV h_X7_task_42
  clear hlen hpre hV
  obtain ⟨rfl, hS⟩ := hp
  have hg := dS_rg hS
  rw [mS_0] at hg
  repeat' (first | (with_reducible refine And.intro ?_ ?_) | (with_reducible intro _) | ((first | refine b_0 _ _ _ ?_ | refine b_19 _ _ _ ?_ | refine b_36 _ _ _ ?_ | refine b_42 _ _ _ ?_); simp only [k_X7_task_0, k_X7_task_19, k_X7_task_36, k_X7_task_42, xp_1, xp_2, xp_3, xp_4, xp_5, xp_6, xp_7, xp_10, xp_11, xp_12, xp_13, xp_14, xp_15, xp_16, xp_17, xp_18, xp_19, xp_20, xp_21, xp_22, xp_23, xp_30, xp_31, xp_32, xp_33, xp_34, xp_35, xp_36, xp_37, xp_38, xp_39, xp_40, xp_41, xp_42, xp_43, xp_50, xp_51, xp_52, xp_53, xp_60, xp_61, xp_62, xp_63, xp_64, xp_65, xp_70, xp_80, xp_81, xp_82, up_ne, up_s, ud_s, ud_o, xw_0, xw_1, xg_0, xg_1, xl_i, xl_r, xs_0, xs_1, xq_i, xq_r, xq_v, xc_0, xc_1, xt_0, xt_1, xr_0, xr_1, xr_2, xe_0, xe_1, ob_0, ob_18, ob_36, ob_54, ak_55, ln_55, cq_55, ak_56, ln_56, cq_56, ob_57, ak_58, ln_58, cq_58, ak_59, ln_59, cq_59, ob_60, ak_61, ln_61, cq_61, ak_62, ln_62, cq_62, ob_63, ak_64, ln_64, cq_64, ak_65, ln_65, cq_65, ak_66, ln_66, cq_66, ak_67, ln_67, cq_67, ak_68, ln_68, cq_68, ak_69, ln_69, cq_69, ak_70, ln_70, cq_70, ak_71, ln_71, cq_71, ak_72, ln_72, cq_72, ak_73, ln_73, cq_73, pt_54_0, pt_54_1, pt_57_0, pt_57_3, pt_60_0, pt_60_1, pt_60_2, pt_60_4, pt_60_5, pt_60_6, pt_60_8, pt_63_0, pt_63_1, pt_63_2, pt_63_3, pt_63_4, pt_63_6, pt_63_7, pt_63_10, pt_63_11, pt_63_17, true_and, and_true, List.length_cons, List.length_nil, Nat.reduceAdd, Nat.reduceLeDiff, forall_eq, ne_eq, Nat.reduceEqDiff, not_false_eq_true, or_false, false_or, or_true, true_or, reduceCtorEq, Nat.zero_le, Nat.reduceMul, Nat.add_zero, false_and, and_false, false_implies, true_implies, forall_const, implies_true, List.append_nil, List.nil_append, List.cons_append, mb_i, mb_ii, mb_iii, mb_r, mb_ri, mb_rii, mb_riii, mb_rr, mb_rri, mb_rrii, mb_rriii, mb_riiiii, mb_rrr, mb_rir, mb_iiii, mb_riiii, tn_0, tn_1, tn_2, tn_3, tn_4, tn_5, tn_6, tc_0, tc_1, tc_2, tc_3, tc_4, tc_5, tc_6, xf_0, xf_1, xf_2, Sum.inl.injEq, Sum.inr.injEq, C_M_isIn, C_M_of, C_M_refuse, C_M_task]))
  all_goals clear b_0 b_19 b_36 b_42
  all_goals first | first | assumption | contradiction | (exact absurd (by assumption) (by decide : ¬ (-1 : Int32) = 0)) | (exact absurd (by assumption) (by decide : ¬ (-6 : Int32) = 0)) | (exact absurd (by assumption) (by decide : ¬ (-4 : Int32) = 0)) | (exact absurd (by assumption) (by decide : ¬ (-2 : Int32) = 0)) | exact rc1 | exact rc2 | exact rc3 | exact rc4 | exact rc6 | exact s_wi_rc (by assumption) | exact hS.1 | exact s_in_sl (by assumption) | exact fr1_r M | exact fr1_b (fr1_r M) (by decide) | exact mS_bp | (exact fr1_u (fr1_r M) (by decide)) | (exact fr1_u (fr1_u (fr1_r M) (by decide)) (by decide)) | (exact bd_in (by assumption) (by decide)) | decide | exact vi_2 | (simp [F_task, qF, s_ft, s_ot, nB, mS_0, mS_1, mS_2, mS_3, mS_4, mS_50, mS_51, mS_52, mS_bp, mS_u0, mS_u2, mS_u3, mS_n0, mS_n1, mS_n2, mS_db, *]; done) | exact bd_in (by assumption) (by omega)

theorem cF_ok {M : mj_M} {no v : Int32} {p : Nat} : (if no = 0 then M 65 p else no) = (cF (mS M) no p v).1 ∧ mS (if no = 0 then mj_up M 65 p v else s_bp M 64 no) = (cF (mS M) no p v).2 ∧ fr1 M (if no = 0 then mj_up M 65 p v else s_bp M 64 no) := by
  unfold cF
  split
  · exact ⟨rfl, mS_u0, fr1_u (fr1_r M) (by decide)⟩
  · exact ⟨rfl, mS_bp, fr1_b (fr1_r M) (by decide)⟩
theorem ft_0 {i n x : Int32} (h : s_in i n = 0) : s_ft (nB i n) x = -1 := by
  unfold s_ft nB
  rw [if_pos h]
  rfl
theorem ft_1 {i n x : Int32} (h : ¬ s_in i n = 0) : s_ft (nB i n) x = x := by
  unfold s_ft nB
  rw [if_neg h]
  rfl
theorem ft_rc {i n x : Int32} (hx : ¬ x = 0 → s_rc x) (h : ¬ s_ft (nB i n) x = 0) : s_rc (s_ft (nB i n) x) := by
  by_cases e : s_in i n = 0
  · rw [ft_0 e]; exact rc1
  · rw [ft_1 e] at h ⊢; exact hx h
theorem ft_ok {i n x : Int32} (h : s_ft (nB i n) x = 0) : ¬ s_in i n = 0 ∧ x = 0 := by
  by_cases e : s_in i n = 0
  · rw [ft_0 e] at h; exact absurd h (by decide)
  · rw [ft_1 e] at h; exact ⟨e, h⟩
theorem ot_rc {w n : Int32} (h : ¬ s_ot w n = 0) : s_rc (s_ot w n) := by
  unfold s_ot at h ⊢
  split
  · exact rc2
  · rename_i e
    rw [if_neg e] at h
    exact absurd rfl h
theorem ot_ok {w n : Int32} (h : s_ot w n = 0) : ¬ s_in w n = 0 := by
  unfold s_ot at h
  split at h
  · exact absurd h (by decide)
  · assumption
theorem ot_0 {w n : Int32} (h : s_in w n = 0) : s_ot w n = -2 := if_pos h
theorem ot_1 {w n : Int32} (h : ¬ s_in w n = 0) : s_ot w n = 0 := if_neg h
theorem nB_0 {w n : Int32} (h : s_in w n = 0) : nB w n = -1 := if_pos h
theorem nB_1 {w n : Int32} (h : ¬ s_in w n = 0) : nB w n = 0 := if_neg h
/-- a refused call -/
theorem qF_no {M : mj_M} {no val : Int32} (h : ¬ no = 0) : no = (qF (mS M) no val).1 ∧ mS (s_bp M 64 no) = (qF (mS M) no val).2 ∧ fr1 M (s_bp M 64 no) := by
  unfold qF
  rw [if_neg h]
  exact ⟨rfl, mS_bp, fr1_b (fr1_r M) (by decide)⟩
theorem qV_no {M : mj_M} {no val : Int32} (h : ¬ no = 0) : 1000000000 - no = (qV (mS M) no val).1 ∧ mS (s_bp M 64 no) = (qV (mS M) no val).2 ∧ fr1 M (s_bp M 64 no) := by
  unfold qV
  rw [if_neg h]
  exact ⟨rfl, mS_bp, fr1_b (fr1_r M) (by decide)⟩
theorem qF_ok {M M' : mj_M} {no val x : Int32} (h : no = 0) (hv : x = val) (hm : mS M' = mS M) (hf : fr1 M M') : x = (qF (mS M) no val).1 ∧ mS M' = (qF (mS M) no val).2 ∧ fr1 M M' := by
  unfold qF
  rw [if_pos h]
  exact ⟨hv, hm, hf⟩
theorem qV_ok {M M' : mj_M} {no val x : Int32} (h : no = 0) (hv : x = val) (hm : mS M' = mS M) (hf : fr1 M M') : x = (qV (mS M) no val).1 ∧ mS M' = (qV (mS M) no val).2 ∧ fr1 M M' := by
  unfold qV
  rw [if_pos h]
  exact ⟨hv, hm, hf⟩
def C_M_set : mj_C := (3, rk1, fun avs M => ma_rii avs fun a c v => (a = 63 ∧ dS (mS M)), fun avs M r M' => ma_rii avs fun a c v => (r = .inl (F_set (mS M) c v).1 ∧ mS M' = (F_set (mS M) c v).2 ∧ fr1 M M'))
theorem rc_M_set : ∀ avs M, C_M_set.2.2.1 avs M → ∃ a r, avs = .inr a :: r ∧ mj_ob a = 7 := by
  intro avs M h
  obtain ⟨a, c, v, rfl, h⟩ := mc_rii h
  exact ⟨_, _, rfl, by rw [h.1]; rfl⟩
set_option maxRecDepth 20000 in
set_option maxHeartbeats 2000000 in
theorem t_M_set : mj_T yX7_set cX7_set 3 (some .int) 5 C_M_set := by
  refine mj_T_of (own := 7) (rk := 1) [(161, C_M_within), (306, C_M_isClock), (333, C_M_changes)] (by decide) rfl (by decide) ⟨rfl, rfl⟩ (List.forall_mem_cons.mpr ⟨mj_KS (own := 7) (nest := false) t_M_within ⟨wc_X7_within, wi_X7, by decide, wl_7_53⟩ wn_X7_within (by decide +kernel) (by decide), (List.forall_mem_cons.mpr ⟨mj_KV (own := 7) (nest := false) t_M_isClock ⟨wc_X7_isClock, wi_X7, by decide, wl_7_102⟩ wn_X7_isClock ws_X7_isClock (c0 := 7) (by decide) rfl (by decide +kernel) rc_M_isClock (by decide), (List.forall_mem_cons.mpr ⟨mj_KV (own := 7) (nest := false) t_M_changes ⟨wc_X7_changes, wi_X7, by decide, wl_7_111⟩ wn_X7_changes ws_X7_changes (c0 := 7) (by decide) rfl (by decide +kernel) rc_M_changes (by decide), (fun _ h => absurd h List.not_mem_nil)⟩)⟩)⟩) ?_
  intro avs M hlen hpre V hV
  obtain ⟨a, c, v, rfl, hp⟩ := mc_rii hpre
  show V 0 [some (.inr a), some (.inl c), some (.inl v)] [] M
  have b_0 := hV h_X7_set_0; have b_29 := hV h_X7_set_29; have b_30 := hV h_X7_set_30
  clear hlen hpre hV
  obtain ⟨rfl, hS⟩ := hp
  have hg := dS_rg hS
  rw [mS_0] at hg
  have h30 : ∀ no : Int32, no = s_ft (nB c (M 65 1)) (s_wi v 0 299) → V 30 [some (.inr 63), some (.inl c), some (.inl v)] [.inl no, .inl v, .inl (23 + 5 * c + 2), .inr 63] M := by
    intro no hno
    (refine b_30 _ _ _ ?_; simp only [k_X7_set_0, k_X7_set_29, k_X7_set_30, xp_1, xp_2, xp_3, xp_4, xp_5, xp_6, xp_7, xp_10, xp_11, xp_12, xp_13, xp_14, xp_15, xp_16, xp_17, xp_18, xp_19, xp_20, xp_21, xp_22, xp_23, xp_30, xp_31, xp_32, xp_33, xp_34, xp_35, xp_36, xp_37, xp_38, xp_39, xp_40, xp_41, xp_42, xp_43, xp_50, xp_51, xp_52, xp_53, xp_60, xp_61, xp_62, xp_63, xp_64, xp_65, xp_70, xp_80, xp_81, xp_82, up_ne, up_s, ud_s, ud_o, xw_0, xw_1, xg_0, xg_1, xl_i, xl_r, xs_0, xs_1, xq_i, xq_r, xq_v, xc_0, xc_1, xt_0, xt_1, xr_0, xr_1, xr_2, xe_0, xe_1, ob_0, ob_18, ob_36, ob_54, ak_55, ln_55, cq_55, ak_56, ln_56, cq_56, ob_57, ak_58, ln_58, cq_58, ak_59, ln_59, cq_59, ob_60, ak_61, ln_61, cq_61, ak_62, ln_62, cq_62, ob_63, ak_64, ln_64, cq_64, ak_65, ln_65, cq_65, ak_66, ln_66, cq_66, ak_67, ln_67, cq_67, ak_68, ln_68, cq_68, ak_69, ln_69, cq_69, ak_70, ln_70, cq_70, ak_71, ln_71, cq_71, ak_72, ln_72, cq_72, ak_73, ln_73, cq_73, pt_54_0, pt_54_1, pt_57_0, pt_57_3, pt_60_0, pt_60_1, pt_60_2, pt_60_4, pt_60_5, pt_60_6, pt_60_8, pt_63_0, pt_63_1, pt_63_2, pt_63_3, pt_63_4, pt_63_6, pt_63_7, pt_63_10, pt_63_11, pt_63_17, true_and, and_true, List.length_cons, List.length_nil, Nat.reduceAdd, Nat.reduceLeDiff, forall_eq, ne_eq, Nat.reduceEqDiff, not_false_eq_true, or_false, false_or, or_true, true_or, reduceCtorEq, Nat.zero_le, Nat.reduceMul, Nat.add_zero, false_and, and_false, false_implies, true_implies, forall_const, implies_true, List.append_nil, List.nil_append, List.cons_append, mb_i, mb_ii, mb_iii, mb_r, mb_ri, mb_rii, mb_riii, mb_rr, mb_rri, mb_rrii, mb_rriii, mb_riiiii, mb_rrr, mb_rir, mb_iiii, mb_riiii, tn_0, tn_1, tn_2, tn_3, tn_4, tn_5, tn_6, tc_0, tc_1, tc_2, tc_3, tc_4, tc_5, tc_6, xf_0, xf_1, xf_2, Sum.inl.injEq, Sum.inr.injEq, C_M_changes, C_M_isClock, C_M_set, C_M_within])
    unfold F_set
    rw [mS_0, ← hno]
    refine ⟨⟨fun h => ?_, fun h => by rw [hno] at h ⊢; exact ft_rc s_wi_rc h⟩, ?_⟩
    · rw [hno] at h
      exact (ix_a (bd_in (ft_ok h).1 (by omega)) ⟨by decide, by decide⟩).1
    · by_cases hc : s_in c (M 65 1) = 0
      · rw [hno, ft_0 hc]
        exact ⟨rfl, mS_bp, fr1_b (fr1_r M) (by decide)⟩
      · have e2 : tn (23 + 5 * c + 2) = 23 + 5 * tn c + 2 := (ix_a (bd_in hc (k := 3) (by omega)) (k := 2) ⟨by decide, by decide⟩).2
        rw [e2]
        exact cF_ok
  (refine b_0 _ _ _ ?_; simp only [k_X7_set_0, k_X7_set_29, k_X7_set_30, xp_1, xp_2, xp_3, xp_4, xp_5, xp_6, xp_7, xp_10, xp_11, xp_12, xp_13, xp_14, xp_15, xp_16, xp_17, xp_18, xp_19, xp_20, xp_21, xp_22, xp_23, xp_30, xp_31, xp_32, xp_33, xp_34, xp_35, xp_36, xp_37, xp_38, xp_39, xp_40, xp_41, xp_42, xp_43, xp_50, xp_51, xp_52, xp_53, xp_60, xp_61, xp_62, xp_63, xp_64, xp_65, xp_70, xp_80, xp_81, xp_82, up_ne, up_s, ud_s, ud_o, xw_0, xw_1, xg_0, xg_1, xl_i, xl_r, xs_0, xs_1, xq_i, xq_r, xq_v, xc_0, xc_1, xt_0, xt_1, xr_0, xr_1, xr_2, xe_0, xe_1, ob_0, ob_18, ob_36, ob_54, ak_55, ln_55, cq_55, ak_56, ln_56, cq_56, ob_57, ak_58, ln_58, cq_58, ak_59, ln_59, cq_59, ob_60, ak_61, ln_61, cq_61, ak_62, ln_62, cq_62, ob_63, ak_64, ln_64, cq_64, ak_65, ln_65, cq_65, ak_66, ln_66, cq_66, ak_67, ln_67, cq_67, ak_68, ln_68, cq_68, ak_69, ln_69, cq_69, ak_70, ln_70, cq_70, ak_71, ln_71, cq_71, ak_72, ln_72, cq_72, ak_73, ln_73, cq_73, pt_54_0, pt_54_1, pt_57_0, pt_57_3, pt_60_0, pt_60_1, pt_60_2, pt_60_4, pt_60_5, pt_60_6, pt_60_8, pt_63_0, pt_63_1, pt_63_2, pt_63_3, pt_63_4, pt_63_6, pt_63_7, pt_63_10, pt_63_11, pt_63_17, true_and, and_true, List.length_cons, List.length_nil, Nat.reduceAdd, Nat.reduceLeDiff, forall_eq, ne_eq, Nat.reduceEqDiff, not_false_eq_true, or_false, false_or, or_true, true_or, reduceCtorEq, Nat.zero_le, Nat.reduceMul, Nat.add_zero, false_and, and_false, false_implies, true_implies, forall_const, implies_true, List.append_nil, List.nil_append, List.cons_append, mb_i, mb_ii, mb_iii, mb_r, mb_ri, mb_rii, mb_riii, mb_rr, mb_rri, mb_rrii, mb_rriii, mb_riiiii, mb_rrr, mb_rir, mb_iiii, mb_riiii, tn_0, tn_1, tn_2, tn_3, tn_4, tn_5, tn_6, tc_0, tc_1, tc_2, tc_3, tc_4, tc_5, tc_6, xf_0, xf_1, xf_2, Sum.inl.injEq, Sum.inr.injEq, C_M_changes, C_M_isClock, C_M_set, C_M_within])
  refine ⟨fun h => ?_, fun h => h30 _ (ft_1 h).symm⟩
  (refine b_29 _ _ _ ?_; simp only [k_X7_set_0, k_X7_set_29, k_X7_set_30, xp_1, xp_2, xp_3, xp_4, xp_5, xp_6, xp_7, xp_10, xp_11, xp_12, xp_13, xp_14, xp_15, xp_16, xp_17, xp_18, xp_19, xp_20, xp_21, xp_22, xp_23, xp_30, xp_31, xp_32, xp_33, xp_34, xp_35, xp_36, xp_37, xp_38, xp_39, xp_40, xp_41, xp_42, xp_43, xp_50, xp_51, xp_52, xp_53, xp_60, xp_61, xp_62, xp_63, xp_64, xp_65, xp_70, xp_80, xp_81, xp_82, up_ne, up_s, ud_s, ud_o, xw_0, xw_1, xg_0, xg_1, xl_i, xl_r, xs_0, xs_1, xq_i, xq_r, xq_v, xc_0, xc_1, xt_0, xt_1, xr_0, xr_1, xr_2, xe_0, xe_1, ob_0, ob_18, ob_36, ob_54, ak_55, ln_55, cq_55, ak_56, ln_56, cq_56, ob_57, ak_58, ln_58, cq_58, ak_59, ln_59, cq_59, ob_60, ak_61, ln_61, cq_61, ak_62, ln_62, cq_62, ob_63, ak_64, ln_64, cq_64, ak_65, ln_65, cq_65, ak_66, ln_66, cq_66, ak_67, ln_67, cq_67, ak_68, ln_68, cq_68, ak_69, ln_69, cq_69, ak_70, ln_70, cq_70, ak_71, ln_71, cq_71, ak_72, ln_72, cq_72, ak_73, ln_73, cq_73, pt_54_0, pt_54_1, pt_57_0, pt_57_3, pt_60_0, pt_60_1, pt_60_2, pt_60_4, pt_60_5, pt_60_6, pt_60_8, pt_63_0, pt_63_1, pt_63_2, pt_63_3, pt_63_4, pt_63_6, pt_63_7, pt_63_10, pt_63_11, pt_63_17, true_and, and_true, List.length_cons, List.length_nil, Nat.reduceAdd, Nat.reduceLeDiff, forall_eq, ne_eq, Nat.reduceEqDiff, not_false_eq_true, or_false, false_or, or_true, true_or, reduceCtorEq, Nat.zero_le, Nat.reduceMul, Nat.add_zero, false_and, and_false, false_implies, true_implies, forall_const, implies_true, List.append_nil, List.nil_append, List.cons_append, mb_i, mb_ii, mb_iii, mb_r, mb_ri, mb_rii, mb_riii, mb_rr, mb_rri, mb_rrii, mb_rriii, mb_riiiii, mb_rrr, mb_rir, mb_iiii, mb_riiii, tn_0, tn_1, tn_2, tn_3, tn_4, tn_5, tn_6, tc_0, tc_1, tc_2, tc_3, tc_4, tc_5, tc_6, xf_0, xf_1, xf_2, Sum.inl.injEq, Sum.inr.injEq, C_M_changes, C_M_isClock, C_M_set, C_M_within])
  exact h30 _ (ft_0 h).symm

def C_M_every : mj_C := (3, rk1, fun avs M => ma_rii avs fun a c v => (a = 63 ∧ dS (mS M)), fun avs M r M' => ma_rii avs fun a c v => (r = .inl (F_every (mS M) c v).1 ∧ mS M' = (F_every (mS M) c v).2 ∧ fr1 M M'))
theorem rc_M_every : ∀ avs M, C_M_every.2.2.1 avs M → ∃ a r, avs = .inr a :: r ∧ mj_ob a = 7 := by
  intro avs M h
  obtain ⟨a, c, v, rfl, h⟩ := mc_rii h
  exact ⟨_, _, rfl, by rw [h.1]; rfl⟩
set_option maxRecDepth 20000 in
set_option maxHeartbeats 2000000 in
theorem t_M_every : mj_T yX7_every cX7_every 3 (some .int) 5 C_M_every := by
  refine mj_T_of (own := 7) (rk := 1) [(161, C_M_within), (306, C_M_isClock), (333, C_M_changes)] (by decide) rfl (by decide) ⟨rfl, rfl⟩ (List.forall_mem_cons.mpr ⟨mj_KS (own := 7) (nest := false) t_M_within ⟨wc_X7_within, wi_X7, by decide, wl_7_53⟩ wn_X7_within (by decide +kernel) (by decide), (List.forall_mem_cons.mpr ⟨mj_KV (own := 7) (nest := false) t_M_isClock ⟨wc_X7_isClock, wi_X7, by decide, wl_7_102⟩ wn_X7_isClock ws_X7_isClock (c0 := 7) (by decide) rfl (by decide +kernel) rc_M_isClock (by decide), (List.forall_mem_cons.mpr ⟨mj_KV (own := 7) (nest := false) t_M_changes ⟨wc_X7_changes, wi_X7, by decide, wl_7_111⟩ wn_X7_changes ws_X7_changes (c0 := 7) (by decide) rfl (by decide +kernel) rc_M_changes (by decide), (fun _ h => absurd h List.not_mem_nil)⟩)⟩)⟩) ?_
  intro avs M hlen hpre V hV
  obtain ⟨a, c, v, rfl, hp⟩ := mc_rii hpre
  show V 0 [some (.inr a), some (.inl c), some (.inl v)] [] M
  have b_0 := hV h_X7_every_0; have b_28 := hV h_X7_every_28; have b_29 := hV h_X7_every_29
  clear hlen hpre hV
  obtain ⟨rfl, hS⟩ := hp
  have hg := dS_rg hS
  rw [mS_0] at hg
  have h29 : ∀ no : Int32, no = s_ft (nB c (M 65 1)) (s_wi v 1 20) → V 29 [some (.inr 63), some (.inl c), some (.inl v)] [.inl no, .inl v, .inl (23 + 5 * c + 3), .inr 63] M := by
    intro no hno
    (refine b_29 _ _ _ ?_; simp only [k_X7_every_0, k_X7_every_28, k_X7_every_29, xp_1, xp_2, xp_3, xp_4, xp_5, xp_6, xp_7, xp_10, xp_11, xp_12, xp_13, xp_14, xp_15, xp_16, xp_17, xp_18, xp_19, xp_20, xp_21, xp_22, xp_23, xp_30, xp_31, xp_32, xp_33, xp_34, xp_35, xp_36, xp_37, xp_38, xp_39, xp_40, xp_41, xp_42, xp_43, xp_50, xp_51, xp_52, xp_53, xp_60, xp_61, xp_62, xp_63, xp_64, xp_65, xp_70, xp_80, xp_81, xp_82, up_ne, up_s, ud_s, ud_o, xw_0, xw_1, xg_0, xg_1, xl_i, xl_r, xs_0, xs_1, xq_i, xq_r, xq_v, xc_0, xc_1, xt_0, xt_1, xr_0, xr_1, xr_2, xe_0, xe_1, ob_0, ob_18, ob_36, ob_54, ak_55, ln_55, cq_55, ak_56, ln_56, cq_56, ob_57, ak_58, ln_58, cq_58, ak_59, ln_59, cq_59, ob_60, ak_61, ln_61, cq_61, ak_62, ln_62, cq_62, ob_63, ak_64, ln_64, cq_64, ak_65, ln_65, cq_65, ak_66, ln_66, cq_66, ak_67, ln_67, cq_67, ak_68, ln_68, cq_68, ak_69, ln_69, cq_69, ak_70, ln_70, cq_70, ak_71, ln_71, cq_71, ak_72, ln_72, cq_72, ak_73, ln_73, cq_73, pt_54_0, pt_54_1, pt_57_0, pt_57_3, pt_60_0, pt_60_1, pt_60_2, pt_60_4, pt_60_5, pt_60_6, pt_60_8, pt_63_0, pt_63_1, pt_63_2, pt_63_3, pt_63_4, pt_63_6, pt_63_7, pt_63_10, pt_63_11, pt_63_17, true_and, and_true, List.length_cons, List.length_nil, Nat.reduceAdd, Nat.reduceLeDiff, forall_eq, ne_eq, Nat.reduceEqDiff, not_false_eq_true, or_false, false_or, or_true, true_or, reduceCtorEq, Nat.zero_le, Nat.reduceMul, Nat.add_zero, false_and, and_false, false_implies, true_implies, forall_const, implies_true, List.append_nil, List.nil_append, List.cons_append, mb_i, mb_ii, mb_iii, mb_r, mb_ri, mb_rii, mb_riii, mb_rr, mb_rri, mb_rrii, mb_rriii, mb_riiiii, mb_rrr, mb_rir, mb_iiii, mb_riiii, tn_0, tn_1, tn_2, tn_3, tn_4, tn_5, tn_6, tc_0, tc_1, tc_2, tc_3, tc_4, tc_5, tc_6, xf_0, xf_1, xf_2, Sum.inl.injEq, Sum.inr.injEq, C_M_changes, C_M_every, C_M_isClock, C_M_within])
    unfold F_every
    rw [mS_0, ← hno]
    refine ⟨⟨fun h => ?_, fun h => by rw [hno] at h ⊢; exact ft_rc s_wi_rc h⟩, ?_⟩
    · rw [hno] at h
      exact (ix_a (bd_in (ft_ok h).1 (by omega)) ⟨by decide, by decide⟩).1
    · by_cases hc : s_in c (M 65 1) = 0
      · rw [hno, ft_0 hc]
        exact ⟨rfl, mS_bp, fr1_b (fr1_r M) (by decide)⟩
      · have e2 : tn (23 + 5 * c + 3) = 23 + 5 * tn c + 3 := (ix_a (bd_in hc (k := 3) (by omega)) (k := 3) ⟨by decide, by decide⟩).2
        rw [e2]
        exact cF_ok
  (refine b_0 _ _ _ ?_; simp only [k_X7_every_0, k_X7_every_28, k_X7_every_29, xp_1, xp_2, xp_3, xp_4, xp_5, xp_6, xp_7, xp_10, xp_11, xp_12, xp_13, xp_14, xp_15, xp_16, xp_17, xp_18, xp_19, xp_20, xp_21, xp_22, xp_23, xp_30, xp_31, xp_32, xp_33, xp_34, xp_35, xp_36, xp_37, xp_38, xp_39, xp_40, xp_41, xp_42, xp_43, xp_50, xp_51, xp_52, xp_53, xp_60, xp_61, xp_62, xp_63, xp_64, xp_65, xp_70, xp_80, xp_81, xp_82, up_ne, up_s, ud_s, ud_o, xw_0, xw_1, xg_0, xg_1, xl_i, xl_r, xs_0, xs_1, xq_i, xq_r, xq_v, xc_0, xc_1, xt_0, xt_1, xr_0, xr_1, xr_2, xe_0, xe_1, ob_0, ob_18, ob_36, ob_54, ak_55, ln_55, cq_55, ak_56, ln_56, cq_56, ob_57, ak_58, ln_58, cq_58, ak_59, ln_59, cq_59, ob_60, ak_61, ln_61, cq_61, ak_62, ln_62, cq_62, ob_63, ak_64, ln_64, cq_64, ak_65, ln_65, cq_65, ak_66, ln_66, cq_66, ak_67, ln_67, cq_67, ak_68, ln_68, cq_68, ak_69, ln_69, cq_69, ak_70, ln_70, cq_70, ak_71, ln_71, cq_71, ak_72, ln_72, cq_72, ak_73, ln_73, cq_73, pt_54_0, pt_54_1, pt_57_0, pt_57_3, pt_60_0, pt_60_1, pt_60_2, pt_60_4, pt_60_5, pt_60_6, pt_60_8, pt_63_0, pt_63_1, pt_63_2, pt_63_3, pt_63_4, pt_63_6, pt_63_7, pt_63_10, pt_63_11, pt_63_17, true_and, and_true, List.length_cons, List.length_nil, Nat.reduceAdd, Nat.reduceLeDiff, forall_eq, ne_eq, Nat.reduceEqDiff, not_false_eq_true, or_false, false_or, or_true, true_or, reduceCtorEq, Nat.zero_le, Nat.reduceMul, Nat.add_zero, false_and, and_false, false_implies, true_implies, forall_const, implies_true, List.append_nil, List.nil_append, List.cons_append, mb_i, mb_ii, mb_iii, mb_r, mb_ri, mb_rii, mb_riii, mb_rr, mb_rri, mb_rrii, mb_rriii, mb_riiiii, mb_rrr, mb_rir, mb_iiii, mb_riiii, tn_0, tn_1, tn_2, tn_3, tn_4, tn_5, tn_6, tc_0, tc_1, tc_2, tc_3, tc_4, tc_5, tc_6, xf_0, xf_1, xf_2, Sum.inl.injEq, Sum.inr.injEq, C_M_changes, C_M_every, C_M_isClock, C_M_within])
  refine ⟨fun h => ?_, fun h => h29 _ (ft_1 h).symm⟩
  (refine b_28 _ _ _ ?_; simp only [k_X7_every_0, k_X7_every_28, k_X7_every_29, xp_1, xp_2, xp_3, xp_4, xp_5, xp_6, xp_7, xp_10, xp_11, xp_12, xp_13, xp_14, xp_15, xp_16, xp_17, xp_18, xp_19, xp_20, xp_21, xp_22, xp_23, xp_30, xp_31, xp_32, xp_33, xp_34, xp_35, xp_36, xp_37, xp_38, xp_39, xp_40, xp_41, xp_42, xp_43, xp_50, xp_51, xp_52, xp_53, xp_60, xp_61, xp_62, xp_63, xp_64, xp_65, xp_70, xp_80, xp_81, xp_82, up_ne, up_s, ud_s, ud_o, xw_0, xw_1, xg_0, xg_1, xl_i, xl_r, xs_0, xs_1, xq_i, xq_r, xq_v, xc_0, xc_1, xt_0, xt_1, xr_0, xr_1, xr_2, xe_0, xe_1, ob_0, ob_18, ob_36, ob_54, ak_55, ln_55, cq_55, ak_56, ln_56, cq_56, ob_57, ak_58, ln_58, cq_58, ak_59, ln_59, cq_59, ob_60, ak_61, ln_61, cq_61, ak_62, ln_62, cq_62, ob_63, ak_64, ln_64, cq_64, ak_65, ln_65, cq_65, ak_66, ln_66, cq_66, ak_67, ln_67, cq_67, ak_68, ln_68, cq_68, ak_69, ln_69, cq_69, ak_70, ln_70, cq_70, ak_71, ln_71, cq_71, ak_72, ln_72, cq_72, ak_73, ln_73, cq_73, pt_54_0, pt_54_1, pt_57_0, pt_57_3, pt_60_0, pt_60_1, pt_60_2, pt_60_4, pt_60_5, pt_60_6, pt_60_8, pt_63_0, pt_63_1, pt_63_2, pt_63_3, pt_63_4, pt_63_6, pt_63_7, pt_63_10, pt_63_11, pt_63_17, true_and, and_true, List.length_cons, List.length_nil, Nat.reduceAdd, Nat.reduceLeDiff, forall_eq, ne_eq, Nat.reduceEqDiff, not_false_eq_true, or_false, false_or, or_true, true_or, reduceCtorEq, Nat.zero_le, Nat.reduceMul, Nat.add_zero, false_and, and_false, false_implies, true_implies, forall_const, implies_true, List.append_nil, List.nil_append, List.cons_append, mb_i, mb_ii, mb_iii, mb_r, mb_ri, mb_rii, mb_riii, mb_rr, mb_rri, mb_rrii, mb_rriii, mb_riiiii, mb_rrr, mb_rir, mb_iiii, mb_riiii, tn_0, tn_1, tn_2, tn_3, tn_4, tn_5, tn_6, tc_0, tc_1, tc_2, tc_3, tc_4, tc_5, tc_6, xf_0, xf_1, xf_2, Sum.inl.injEq, Sum.inr.injEq, C_M_changes, C_M_every, C_M_isClock, C_M_within])
  exact h29 _ (ft_0 h).symm

def C_M_firm : mj_C := (2, rk1, fun avs M => ma_ri avs fun a v => (a = 63 ∧ dS (mS M)), fun avs M r M' => ma_ri avs fun a v => (r = .inl (F_firm (mS M) v).1 ∧ mS M' = (F_firm (mS M) v).2 ∧ fr1 M M'))
theorem rc_M_firm : ∀ avs M, C_M_firm.2.2.1 avs M → ∃ a r, avs = .inr a :: r ∧ mj_ob a = 7 := by
  intro avs M h
  obtain ⟨a, v, rfl, h⟩ := mc_ri h
  exact ⟨_, _, rfl, by rw [h.1]; rfl⟩
set_option maxRecDepth 20000 in
set_option maxHeartbeats 2000000 in
theorem t_M_firm : mj_T yX7_firm cX7_firm 2 (some .int) 5 C_M_firm := by
  refine mj_T_of (own := 7) (rk := 1) [(161, C_M_within), (333, C_M_changes)] (by decide) rfl (by decide) ⟨rfl, rfl⟩ (List.forall_mem_cons.mpr ⟨mj_KS (own := 7) (nest := false) t_M_within ⟨wc_X7_within, wi_X7, by decide, wl_7_53⟩ wn_X7_within (by decide +kernel) (by decide), (List.forall_mem_cons.mpr ⟨mj_KV (own := 7) (nest := false) t_M_changes ⟨wc_X7_changes, wi_X7, by decide, wl_7_111⟩ wn_X7_changes ws_X7_changes (c0 := 7) (by decide) rfl (by decide +kernel) rc_M_changes (by decide), (fun _ h => absurd h List.not_mem_nil)⟩)⟩) ?_
  intro avs M hlen hpre V hV
  obtain ⟨a, v, rfl, hp⟩ := mc_ri hpre
  show V 0 [some (.inr a), some (.inl v)] [] M
  have b_0 := hV h_X7_firm_0
  clear hlen hpre hV
  obtain ⟨rfl, hS⟩ := hp
  (refine b_0 _ _ _ ?_; simp only [k_X7_firm_0, xp_1, xp_2, xp_3, xp_4, xp_5, xp_6, xp_7, xp_10, xp_11, xp_12, xp_13, xp_14, xp_15, xp_16, xp_17, xp_18, xp_19, xp_20, xp_21, xp_22, xp_23, xp_30, xp_31, xp_32, xp_33, xp_34, xp_35, xp_36, xp_37, xp_38, xp_39, xp_40, xp_41, xp_42, xp_43, xp_50, xp_51, xp_52, xp_53, xp_60, xp_61, xp_62, xp_63, xp_64, xp_65, xp_70, xp_80, xp_81, xp_82, up_ne, up_s, ud_s, ud_o, xw_0, xw_1, xg_0, xg_1, xl_i, xl_r, xs_0, xs_1, xq_i, xq_r, xq_v, xc_0, xc_1, xt_0, xt_1, xr_0, xr_1, xr_2, xe_0, xe_1, ob_0, ob_18, ob_36, ob_54, ak_55, ln_55, cq_55, ak_56, ln_56, cq_56, ob_57, ak_58, ln_58, cq_58, ak_59, ln_59, cq_59, ob_60, ak_61, ln_61, cq_61, ak_62, ln_62, cq_62, ob_63, ak_64, ln_64, cq_64, ak_65, ln_65, cq_65, ak_66, ln_66, cq_66, ak_67, ln_67, cq_67, ak_68, ln_68, cq_68, ak_69, ln_69, cq_69, ak_70, ln_70, cq_70, ak_71, ln_71, cq_71, ak_72, ln_72, cq_72, ak_73, ln_73, cq_73, pt_54_0, pt_54_1, pt_57_0, pt_57_3, pt_60_0, pt_60_1, pt_60_2, pt_60_4, pt_60_5, pt_60_6, pt_60_8, pt_63_0, pt_63_1, pt_63_2, pt_63_3, pt_63_4, pt_63_6, pt_63_7, pt_63_10, pt_63_11, pt_63_17, true_and, and_true, List.length_cons, List.length_nil, Nat.reduceAdd, Nat.reduceLeDiff, forall_eq, ne_eq, Nat.reduceEqDiff, not_false_eq_true, or_false, false_or, or_true, true_or, reduceCtorEq, Nat.zero_le, Nat.reduceMul, Nat.add_zero, false_and, and_false, false_implies, true_implies, forall_const, implies_true, List.append_nil, List.nil_append, List.cons_append, mb_i, mb_ii, mb_iii, mb_r, mb_ri, mb_rii, mb_riii, mb_rr, mb_rri, mb_rrii, mb_rriii, mb_riiiii, mb_rrr, mb_rir, mb_iiii, mb_riiii, tn_0, tn_1, tn_2, tn_3, tn_4, tn_5, tn_6, tc_0, tc_1, tc_2, tc_3, tc_4, tc_5, tc_6, xf_0, xf_1, xf_2, Sum.inl.injEq, Sum.inr.injEq, C_M_changes, C_M_firm, C_M_within])
  exact ⟨⟨fun _ => vi_4, s_wi_rc⟩, cF_ok⟩

def C_M_bus : mj_C := (2, rk1, fun avs M => ma_ri avs fun a v => (a = 63 ∧ dS (mS M)), fun avs M r M' => ma_ri avs fun a v => (r = .inl (F_bus (mS M) v).1 ∧ mS M' = (F_bus (mS M) v).2 ∧ fr1 M M'))
theorem rc_M_bus : ∀ avs M, C_M_bus.2.2.1 avs M → ∃ a r, avs = .inr a :: r ∧ mj_ob a = 7 := by
  intro avs M h
  obtain ⟨a, v, rfl, h⟩ := mc_ri h
  exact ⟨_, _, rfl, by rw [h.1]; rfl⟩
set_option maxRecDepth 20000 in
set_option maxHeartbeats 2000000 in
theorem t_M_bus : mj_T yX7_bus cX7_bus 2 (some .int) 5 C_M_bus := by
  refine mj_T_of (own := 7) (rk := 1) [(161, C_M_within), (333, C_M_changes)] (by decide) rfl (by decide) ⟨rfl, rfl⟩ (List.forall_mem_cons.mpr ⟨mj_KS (own := 7) (nest := false) t_M_within ⟨wc_X7_within, wi_X7, by decide, wl_7_53⟩ wn_X7_within (by decide +kernel) (by decide), (List.forall_mem_cons.mpr ⟨mj_KV (own := 7) (nest := false) t_M_changes ⟨wc_X7_changes, wi_X7, by decide, wl_7_111⟩ wn_X7_changes ws_X7_changes (c0 := 7) (by decide) rfl (by decide +kernel) rc_M_changes (by decide), (fun _ h => absurd h List.not_mem_nil)⟩)⟩) ?_
  intro avs M hlen hpre V hV
  obtain ⟨a, v, rfl, hp⟩ := mc_ri hpre
  show V 0 [some (.inr a), some (.inl v)] [] M
  have b_0 := hV h_X7_bus_0
  clear hlen hpre hV
  obtain ⟨rfl, hS⟩ := hp
  (refine b_0 _ _ _ ?_; simp only [k_X7_bus_0, xp_1, xp_2, xp_3, xp_4, xp_5, xp_6, xp_7, xp_10, xp_11, xp_12, xp_13, xp_14, xp_15, xp_16, xp_17, xp_18, xp_19, xp_20, xp_21, xp_22, xp_23, xp_30, xp_31, xp_32, xp_33, xp_34, xp_35, xp_36, xp_37, xp_38, xp_39, xp_40, xp_41, xp_42, xp_43, xp_50, xp_51, xp_52, xp_53, xp_60, xp_61, xp_62, xp_63, xp_64, xp_65, xp_70, xp_80, xp_81, xp_82, up_ne, up_s, ud_s, ud_o, xw_0, xw_1, xg_0, xg_1, xl_i, xl_r, xs_0, xs_1, xq_i, xq_r, xq_v, xc_0, xc_1, xt_0, xt_1, xr_0, xr_1, xr_2, xe_0, xe_1, ob_0, ob_18, ob_36, ob_54, ak_55, ln_55, cq_55, ak_56, ln_56, cq_56, ob_57, ak_58, ln_58, cq_58, ak_59, ln_59, cq_59, ob_60, ak_61, ln_61, cq_61, ak_62, ln_62, cq_62, ob_63, ak_64, ln_64, cq_64, ak_65, ln_65, cq_65, ak_66, ln_66, cq_66, ak_67, ln_67, cq_67, ak_68, ln_68, cq_68, ak_69, ln_69, cq_69, ak_70, ln_70, cq_70, ak_71, ln_71, cq_71, ak_72, ln_72, cq_72, ak_73, ln_73, cq_73, pt_54_0, pt_54_1, pt_57_0, pt_57_3, pt_60_0, pt_60_1, pt_60_2, pt_60_4, pt_60_5, pt_60_6, pt_60_8, pt_63_0, pt_63_1, pt_63_2, pt_63_3, pt_63_4, pt_63_6, pt_63_7, pt_63_10, pt_63_11, pt_63_17, true_and, and_true, List.length_cons, List.length_nil, Nat.reduceAdd, Nat.reduceLeDiff, forall_eq, ne_eq, Nat.reduceEqDiff, not_false_eq_true, or_false, false_or, or_true, true_or, reduceCtorEq, Nat.zero_le, Nat.reduceMul, Nat.add_zero, false_and, and_false, false_implies, true_implies, forall_const, implies_true, List.append_nil, List.nil_append, List.cons_append, mb_i, mb_ii, mb_iii, mb_r, mb_ri, mb_rii, mb_riii, mb_rr, mb_rri, mb_rrii, mb_rriii, mb_riiiii, mb_rrr, mb_rir, mb_iiii, mb_riiii, tn_0, tn_1, tn_2, tn_3, tn_4, tn_5, tn_6, tc_0, tc_1, tc_2, tc_3, tc_4, tc_5, tc_6, xf_0, xf_1, xf_2, Sum.inl.injEq, Sum.inr.injEq, C_M_bus, C_M_changes, C_M_within])
  exact ⟨⟨fun _ => vi_3, s_wi_rc⟩, cF_ok⟩

def C_M_tired : mj_C := (2, rk1, fun avs M => ma_ri avs fun a v => (a = 63 ∧ dS (mS M)), fun avs M r M' => ma_ri avs fun a v => (r = .inl (F_tired (mS M) v).1 ∧ mS M' = (F_tired (mS M) v).2 ∧ fr1 M M'))
theorem rc_M_tired : ∀ avs M, C_M_tired.2.2.1 avs M → ∃ a r, avs = .inr a :: r ∧ mj_ob a = 7 := by
  intro avs M h
  obtain ⟨a, v, rfl, h⟩ := mc_ri h
  exact ⟨_, _, rfl, by rw [h.1]; rfl⟩
set_option maxRecDepth 20000 in
set_option maxHeartbeats 2000000 in
theorem t_M_tired : mj_T yX7_tired cX7_tired 2 (some .int) 5 C_M_tired := by
  refine mj_T_of (own := 7) (rk := 1) [(161, C_M_within), (333, C_M_changes)] (by decide) rfl (by decide) ⟨rfl, rfl⟩ (List.forall_mem_cons.mpr ⟨mj_KS (own := 7) (nest := false) t_M_within ⟨wc_X7_within, wi_X7, by decide, wl_7_53⟩ wn_X7_within (by decide +kernel) (by decide), (List.forall_mem_cons.mpr ⟨mj_KV (own := 7) (nest := false) t_M_changes ⟨wc_X7_changes, wi_X7, by decide, wl_7_111⟩ wn_X7_changes ws_X7_changes (c0 := 7) (by decide) rfl (by decide +kernel) rc_M_changes (by decide), (fun _ h => absurd h List.not_mem_nil)⟩)⟩) ?_
  intro avs M hlen hpre V hV
  obtain ⟨a, v, rfl, hp⟩ := mc_ri hpre
  show V 0 [some (.inr a), some (.inl v)] [] M
  have b_0 := hV h_X7_tired_0
  clear hlen hpre hV
  obtain ⟨rfl, hS⟩ := hp
  (refine b_0 _ _ _ ?_; simp only [k_X7_tired_0, xp_1, xp_2, xp_3, xp_4, xp_5, xp_6, xp_7, xp_10, xp_11, xp_12, xp_13, xp_14, xp_15, xp_16, xp_17, xp_18, xp_19, xp_20, xp_21, xp_22, xp_23, xp_30, xp_31, xp_32, xp_33, xp_34, xp_35, xp_36, xp_37, xp_38, xp_39, xp_40, xp_41, xp_42, xp_43, xp_50, xp_51, xp_52, xp_53, xp_60, xp_61, xp_62, xp_63, xp_64, xp_65, xp_70, xp_80, xp_81, xp_82, up_ne, up_s, ud_s, ud_o, xw_0, xw_1, xg_0, xg_1, xl_i, xl_r, xs_0, xs_1, xq_i, xq_r, xq_v, xc_0, xc_1, xt_0, xt_1, xr_0, xr_1, xr_2, xe_0, xe_1, ob_0, ob_18, ob_36, ob_54, ak_55, ln_55, cq_55, ak_56, ln_56, cq_56, ob_57, ak_58, ln_58, cq_58, ak_59, ln_59, cq_59, ob_60, ak_61, ln_61, cq_61, ak_62, ln_62, cq_62, ob_63, ak_64, ln_64, cq_64, ak_65, ln_65, cq_65, ak_66, ln_66, cq_66, ak_67, ln_67, cq_67, ak_68, ln_68, cq_68, ak_69, ln_69, cq_69, ak_70, ln_70, cq_70, ak_71, ln_71, cq_71, ak_72, ln_72, cq_72, ak_73, ln_73, cq_73, pt_54_0, pt_54_1, pt_57_0, pt_57_3, pt_60_0, pt_60_1, pt_60_2, pt_60_4, pt_60_5, pt_60_6, pt_60_8, pt_63_0, pt_63_1, pt_63_2, pt_63_3, pt_63_4, pt_63_6, pt_63_7, pt_63_10, pt_63_11, pt_63_17, true_and, and_true, List.length_cons, List.length_nil, Nat.reduceAdd, Nat.reduceLeDiff, forall_eq, ne_eq, Nat.reduceEqDiff, not_false_eq_true, or_false, false_or, or_true, true_or, reduceCtorEq, Nat.zero_le, Nat.reduceMul, Nat.add_zero, false_and, and_false, false_implies, true_implies, forall_const, implies_true, List.append_nil, List.nil_append, List.cons_append, mb_i, mb_ii, mb_iii, mb_r, mb_ri, mb_rii, mb_riii, mb_rr, mb_rri, mb_rrii, mb_rriii, mb_riiiii, mb_rrr, mb_rir, mb_iiii, mb_riiii, tn_0, tn_1, tn_2, tn_3, tn_4, tn_5, tn_6, tc_0, tc_1, tc_2, tc_3, tc_4, tc_5, tc_6, xf_0, xf_1, xf_2, Sum.inl.injEq, Sum.inr.injEq, C_M_changes, C_M_tired, C_M_within])
  exact ⟨⟨fun _ => vi_5, s_wi_rc⟩, cF_ok⟩

def C_M_depth : mj_C := (3, rk1, fun avs M => ma_rii avs fun a i m => (a = 63 ∧ dS (mS M)), fun avs M r M' => ma_rii avs fun a i m => (r = .inl (F_depth (mS M) i m).1 ∧ mS M' = (F_depth (mS M) i m).2 ∧ fr1 M M'))
theorem rc_M_depth : ∀ avs M, C_M_depth.2.2.1 avs M → ∃ a r, avs = .inr a :: r ∧ mj_ob a = 7 := by
  intro avs M h
  obtain ⟨a, i, m, rfl, h⟩ := mc_rii h
  exact ⟨_, _, rfl, by rw [h.1]; rfl⟩
set_option maxRecDepth 20000 in
set_option maxHeartbeats 2000000 in
theorem t_M_depth : mj_T yX7_depth cX7_depth 4 (some .int) 5 C_M_depth := by
  refine mj_T_of (own := 7) (rk := 1) [(123, C_M_refuse), (161, C_M_within), (255, C_M_isSleeper), (342, C_M_depthOf)] (by decide) rfl (by decide) ⟨rfl, rfl⟩ (List.forall_mem_cons.mpr ⟨mj_KV (own := 7) (nest := false) t_M_refuse ⟨wc_X7_refuse, wi_X7, by decide, wl_7_41⟩ wn_X7_refuse ws_X7_refuse (c0 := 7) (by decide) rfl (by decide +kernel) rc_M_refuse (by decide), (List.forall_mem_cons.mpr ⟨mj_KS (own := 7) (nest := false) t_M_within ⟨wc_X7_within, wi_X7, by decide, wl_7_53⟩ wn_X7_within (by decide +kernel) (by decide), (List.forall_mem_cons.mpr ⟨mj_KV (own := 7) (nest := false) t_M_isSleeper ⟨wc_X7_isSleeper, wi_X7, by decide, wl_7_85⟩ wn_X7_isSleeper ws_X7_isSleeper (c0 := 7) (by decide) rfl (by decide +kernel) rc_M_isSleeper (by decide), (List.forall_mem_cons.mpr ⟨mj_KV (own := 7) (nest := false) t_M_depthOf ⟨wc_X7_depthOf, wi_X7, by decide, wl_7_114⟩ wn_X7_depthOf ws_X7_depthOf (c0 := 7) (by decide) rfl (by decide +kernel) rc_M_depthOf (by decide), (fun _ h => absurd h List.not_mem_nil)⟩)⟩)⟩)⟩) ?_
  intro avs M hlen hpre V hV
  obtain ⟨a, i, m, rfl, hp⟩ := mc_rii hpre
  show V 0 [some (.inr a), some (.inl i), some (.inl m), none] [] M
  have b_0 := hV h_X7_depth_0; have b_19 := hV h_X7_depth_19; have b_20 := hV h_X7_depth_20; have b_33 := hV h_X7_depth_33; have b_39 := hV h_X7_depth_39
  clear hlen hpre hV
  obtain ⟨rfl, hS⟩ := hp
  have h20 : ∀ no : Int32, no = s_ft (nB i (M 65 0)) (s_wi m 0 299) → V 20 [some (.inr 63), some (.inl i), some (.inl m), none] [.inl no] M := by
    intro no hno
    (refine b_20 _ _ _ ?_; simp only [k_X7_depth_0, k_X7_depth_19, k_X7_depth_20, k_X7_depth_33, k_X7_depth_39, xp_1, xp_2, xp_3, xp_4, xp_5, xp_6, xp_7, xp_10, xp_11, xp_12, xp_13, xp_14, xp_15, xp_16, xp_17, xp_18, xp_19, xp_20, xp_21, xp_22, xp_23, xp_30, xp_31, xp_32, xp_33, xp_34, xp_35, xp_36, xp_37, xp_38, xp_39, xp_40, xp_41, xp_42, xp_43, xp_50, xp_51, xp_52, xp_53, xp_60, xp_61, xp_62, xp_63, xp_64, xp_65, xp_70, xp_80, xp_81, xp_82, up_ne, up_s, ud_s, ud_o, xw_0, xw_1, xg_0, xg_1, xl_i, xl_r, xs_0, xs_1, xq_i, xq_r, xq_v, xc_0, xc_1, xt_0, xt_1, xr_0, xr_1, xr_2, xe_0, xe_1, ob_0, ob_18, ob_36, ob_54, ak_55, ln_55, cq_55, ak_56, ln_56, cq_56, ob_57, ak_58, ln_58, cq_58, ak_59, ln_59, cq_59, ob_60, ak_61, ln_61, cq_61, ak_62, ln_62, cq_62, ob_63, ak_64, ln_64, cq_64, ak_65, ln_65, cq_65, ak_66, ln_66, cq_66, ak_67, ln_67, cq_67, ak_68, ln_68, cq_68, ak_69, ln_69, cq_69, ak_70, ln_70, cq_70, ak_71, ln_71, cq_71, ak_72, ln_72, cq_72, ak_73, ln_73, cq_73, pt_54_0, pt_54_1, pt_57_0, pt_57_3, pt_60_0, pt_60_1, pt_60_2, pt_60_4, pt_60_5, pt_60_6, pt_60_8, pt_63_0, pt_63_1, pt_63_2, pt_63_3, pt_63_4, pt_63_6, pt_63_7, pt_63_10, pt_63_11, pt_63_17, true_and, and_true, List.length_cons, List.length_nil, Nat.reduceAdd, Nat.reduceLeDiff, forall_eq, ne_eq, Nat.reduceEqDiff, not_false_eq_true, or_false, false_or, or_true, true_or, reduceCtorEq, Nat.zero_le, Nat.reduceMul, Nat.add_zero, false_and, and_false, false_implies, true_implies, forall_const, implies_true, List.append_nil, List.nil_append, List.cons_append, mb_i, mb_ii, mb_iii, mb_r, mb_ri, mb_rii, mb_riii, mb_rr, mb_rri, mb_rrii, mb_rriii, mb_riiiii, mb_rrr, mb_rir, mb_iiii, mb_riiii, tn_0, tn_1, tn_2, tn_3, tn_4, tn_5, tn_6, tc_0, tc_1, tc_2, tc_3, tc_4, tc_5, tc_6, xf_0, xf_1, xf_2, Sum.inl.injEq, Sum.inr.injEq, C_M_depth, C_M_depthOf, C_M_isSleeper, C_M_refuse, C_M_within])
    refine ⟨fun h => ?_, fun h => ⟨by rw [hno] at h ⊢; exact ft_rc s_wi_rc h, ?_⟩⟩
    · (refine b_33 _ _ _ ?_; simp only [k_X7_depth_0, k_X7_depth_19, k_X7_depth_20, k_X7_depth_33, k_X7_depth_39, xp_1, xp_2, xp_3, xp_4, xp_5, xp_6, xp_7, xp_10, xp_11, xp_12, xp_13, xp_14, xp_15, xp_16, xp_17, xp_18, xp_19, xp_20, xp_21, xp_22, xp_23, xp_30, xp_31, xp_32, xp_33, xp_34, xp_35, xp_36, xp_37, xp_38, xp_39, xp_40, xp_41, xp_42, xp_43, xp_50, xp_51, xp_52, xp_53, xp_60, xp_61, xp_62, xp_63, xp_64, xp_65, xp_70, xp_80, xp_81, xp_82, up_ne, up_s, ud_s, ud_o, xw_0, xw_1, xg_0, xg_1, xl_i, xl_r, xs_0, xs_1, xq_i, xq_r, xq_v, xc_0, xc_1, xt_0, xt_1, xr_0, xr_1, xr_2, xe_0, xe_1, ob_0, ob_18, ob_36, ob_54, ak_55, ln_55, cq_55, ak_56, ln_56, cq_56, ob_57, ak_58, ln_58, cq_58, ak_59, ln_59, cq_59, ob_60, ak_61, ln_61, cq_61, ak_62, ln_62, cq_62, ob_63, ak_64, ln_64, cq_64, ak_65, ln_65, cq_65, ak_66, ln_66, cq_66, ak_67, ln_67, cq_67, ak_68, ln_68, cq_68, ak_69, ln_69, cq_69, ak_70, ln_70, cq_70, ak_71, ln_71, cq_71, ak_72, ln_72, cq_72, ak_73, ln_73, cq_73, pt_54_0, pt_54_1, pt_57_0, pt_57_3, pt_60_0, pt_60_1, pt_60_2, pt_60_4, pt_60_5, pt_60_6, pt_60_8, pt_63_0, pt_63_1, pt_63_2, pt_63_3, pt_63_4, pt_63_6, pt_63_7, pt_63_10, pt_63_11, pt_63_17, true_and, and_true, List.length_cons, List.length_nil, Nat.reduceAdd, Nat.reduceLeDiff, forall_eq, ne_eq, Nat.reduceEqDiff, not_false_eq_true, or_false, false_or, or_true, true_or, reduceCtorEq, Nat.zero_le, Nat.reduceMul, Nat.add_zero, false_and, and_false, false_implies, true_implies, forall_const, implies_true, List.append_nil, List.nil_append, List.cons_append, mb_i, mb_ii, mb_iii, mb_r, mb_ri, mb_rii, mb_riii, mb_rr, mb_rri, mb_rrii, mb_rriii, mb_riiiii, mb_rrr, mb_rir, mb_iiii, mb_riiii, tn_0, tn_1, tn_2, tn_3, tn_4, tn_5, tn_6, tc_0, tc_1, tc_2, tc_3, tc_4, tc_5, tc_6, xf_0, xf_1, xf_2, Sum.inl.injEq, Sum.inr.injEq, C_M_depth, C_M_depthOf, C_M_isSleeper, C_M_refuse, C_M_within])
      refine ⟨s_sl_nz hS.1 (s_in_sl (by rw [hno] at h; exact (ft_ok h).1)), ?_⟩
      (refine b_39 _ _ _ ?_; simp only [k_X7_depth_0, k_X7_depth_19, k_X7_depth_20, k_X7_depth_33, k_X7_depth_39, xp_1, xp_2, xp_3, xp_4, xp_5, xp_6, xp_7, xp_10, xp_11, xp_12, xp_13, xp_14, xp_15, xp_16, xp_17, xp_18, xp_19, xp_20, xp_21, xp_22, xp_23, xp_30, xp_31, xp_32, xp_33, xp_34, xp_35, xp_36, xp_37, xp_38, xp_39, xp_40, xp_41, xp_42, xp_43, xp_50, xp_51, xp_52, xp_53, xp_60, xp_61, xp_62, xp_63, xp_64, xp_65, xp_70, xp_80, xp_81, xp_82, up_ne, up_s, ud_s, ud_o, xw_0, xw_1, xg_0, xg_1, xl_i, xl_r, xs_0, xs_1, xq_i, xq_r, xq_v, xc_0, xc_1, xt_0, xt_1, xr_0, xr_1, xr_2, xe_0, xe_1, ob_0, ob_18, ob_36, ob_54, ak_55, ln_55, cq_55, ak_56, ln_56, cq_56, ob_57, ak_58, ln_58, cq_58, ak_59, ln_59, cq_59, ob_60, ak_61, ln_61, cq_61, ak_62, ln_62, cq_62, ob_63, ak_64, ln_64, cq_64, ak_65, ln_65, cq_65, ak_66, ln_66, cq_66, ak_67, ln_67, cq_67, ak_68, ln_68, cq_68, ak_69, ln_69, cq_69, ak_70, ln_70, cq_70, ak_71, ln_71, cq_71, ak_72, ln_72, cq_72, ak_73, ln_73, cq_73, pt_54_0, pt_54_1, pt_57_0, pt_57_3, pt_60_0, pt_60_1, pt_60_2, pt_60_4, pt_60_5, pt_60_6, pt_60_8, pt_63_0, pt_63_1, pt_63_2, pt_63_3, pt_63_4, pt_63_6, pt_63_7, pt_63_10, pt_63_11, pt_63_17, true_and, and_true, List.length_cons, List.length_nil, Nat.reduceAdd, Nat.reduceLeDiff, forall_eq, ne_eq, Nat.reduceEqDiff, not_false_eq_true, or_false, false_or, or_true, true_or, reduceCtorEq, Nat.zero_le, Nat.reduceMul, Nat.add_zero, false_and, and_false, false_implies, true_implies, forall_const, implies_true, List.append_nil, List.nil_append, List.cons_append, mb_i, mb_ii, mb_iii, mb_r, mb_ri, mb_rii, mb_riii, mb_rr, mb_rri, mb_rrii, mb_rriii, mb_riiiii, mb_rrr, mb_rir, mb_iiii, mb_riiii, tn_0, tn_1, tn_2, tn_3, tn_4, tn_5, tn_6, tc_0, tc_1, tc_2, tc_3, tc_4, tc_5, tc_6, xf_0, xf_1, xf_2, Sum.inl.injEq, Sum.inr.injEq, C_M_depth, C_M_depthOf, C_M_isSleeper, C_M_refuse, C_M_within])
      unfold F_depth
      rw [mS_0, ← hno]
      exact qF_ok h rfl rfl (fr1_r M)
    · (refine b_39 _ _ _ ?_; simp only [k_X7_depth_0, k_X7_depth_19, k_X7_depth_20, k_X7_depth_33, k_X7_depth_39, xp_1, xp_2, xp_3, xp_4, xp_5, xp_6, xp_7, xp_10, xp_11, xp_12, xp_13, xp_14, xp_15, xp_16, xp_17, xp_18, xp_19, xp_20, xp_21, xp_22, xp_23, xp_30, xp_31, xp_32, xp_33, xp_34, xp_35, xp_36, xp_37, xp_38, xp_39, xp_40, xp_41, xp_42, xp_43, xp_50, xp_51, xp_52, xp_53, xp_60, xp_61, xp_62, xp_63, xp_64, xp_65, xp_70, xp_80, xp_81, xp_82, up_ne, up_s, ud_s, ud_o, xw_0, xw_1, xg_0, xg_1, xl_i, xl_r, xs_0, xs_1, xq_i, xq_r, xq_v, xc_0, xc_1, xt_0, xt_1, xr_0, xr_1, xr_2, xe_0, xe_1, ob_0, ob_18, ob_36, ob_54, ak_55, ln_55, cq_55, ak_56, ln_56, cq_56, ob_57, ak_58, ln_58, cq_58, ak_59, ln_59, cq_59, ob_60, ak_61, ln_61, cq_61, ak_62, ln_62, cq_62, ob_63, ak_64, ln_64, cq_64, ak_65, ln_65, cq_65, ak_66, ln_66, cq_66, ak_67, ln_67, cq_67, ak_68, ln_68, cq_68, ak_69, ln_69, cq_69, ak_70, ln_70, cq_70, ak_71, ln_71, cq_71, ak_72, ln_72, cq_72, ak_73, ln_73, cq_73, pt_54_0, pt_54_1, pt_57_0, pt_57_3, pt_60_0, pt_60_1, pt_60_2, pt_60_4, pt_60_5, pt_60_6, pt_60_8, pt_63_0, pt_63_1, pt_63_2, pt_63_3, pt_63_4, pt_63_6, pt_63_7, pt_63_10, pt_63_11, pt_63_17, true_and, and_true, List.length_cons, List.length_nil, Nat.reduceAdd, Nat.reduceLeDiff, forall_eq, ne_eq, Nat.reduceEqDiff, not_false_eq_true, or_false, false_or, or_true, true_or, reduceCtorEq, Nat.zero_le, Nat.reduceMul, Nat.add_zero, false_and, and_false, false_implies, true_implies, forall_const, implies_true, List.append_nil, List.nil_append, List.cons_append, mb_i, mb_ii, mb_iii, mb_r, mb_ri, mb_rii, mb_riii, mb_rr, mb_rri, mb_rrii, mb_rriii, mb_riiiii, mb_rrr, mb_rir, mb_iiii, mb_riiii, tn_0, tn_1, tn_2, tn_3, tn_4, tn_5, tn_6, tc_0, tc_1, tc_2, tc_3, tc_4, tc_5, tc_6, xf_0, xf_1, xf_2, Sum.inl.injEq, Sum.inr.injEq, C_M_depth, C_M_depthOf, C_M_isSleeper, C_M_refuse, C_M_within])
      unfold F_depth
      rw [mS_0, ← hno]
      exact qF_no h
  (refine b_0 _ _ _ ?_; simp only [k_X7_depth_0, k_X7_depth_19, k_X7_depth_20, k_X7_depth_33, k_X7_depth_39, xp_1, xp_2, xp_3, xp_4, xp_5, xp_6, xp_7, xp_10, xp_11, xp_12, xp_13, xp_14, xp_15, xp_16, xp_17, xp_18, xp_19, xp_20, xp_21, xp_22, xp_23, xp_30, xp_31, xp_32, xp_33, xp_34, xp_35, xp_36, xp_37, xp_38, xp_39, xp_40, xp_41, xp_42, xp_43, xp_50, xp_51, xp_52, xp_53, xp_60, xp_61, xp_62, xp_63, xp_64, xp_65, xp_70, xp_80, xp_81, xp_82, up_ne, up_s, ud_s, ud_o, xw_0, xw_1, xg_0, xg_1, xl_i, xl_r, xs_0, xs_1, xq_i, xq_r, xq_v, xc_0, xc_1, xt_0, xt_1, xr_0, xr_1, xr_2, xe_0, xe_1, ob_0, ob_18, ob_36, ob_54, ak_55, ln_55, cq_55, ak_56, ln_56, cq_56, ob_57, ak_58, ln_58, cq_58, ak_59, ln_59, cq_59, ob_60, ak_61, ln_61, cq_61, ak_62, ln_62, cq_62, ob_63, ak_64, ln_64, cq_64, ak_65, ln_65, cq_65, ak_66, ln_66, cq_66, ak_67, ln_67, cq_67, ak_68, ln_68, cq_68, ak_69, ln_69, cq_69, ak_70, ln_70, cq_70, ak_71, ln_71, cq_71, ak_72, ln_72, cq_72, ak_73, ln_73, cq_73, pt_54_0, pt_54_1, pt_57_0, pt_57_3, pt_60_0, pt_60_1, pt_60_2, pt_60_4, pt_60_5, pt_60_6, pt_60_8, pt_63_0, pt_63_1, pt_63_2, pt_63_3, pt_63_4, pt_63_6, pt_63_7, pt_63_10, pt_63_11, pt_63_17, true_and, and_true, List.length_cons, List.length_nil, Nat.reduceAdd, Nat.reduceLeDiff, forall_eq, ne_eq, Nat.reduceEqDiff, not_false_eq_true, or_false, false_or, or_true, true_or, reduceCtorEq, Nat.zero_le, Nat.reduceMul, Nat.add_zero, false_and, and_false, false_implies, true_implies, forall_const, implies_true, List.append_nil, List.nil_append, List.cons_append, mb_i, mb_ii, mb_iii, mb_r, mb_ri, mb_rii, mb_riii, mb_rr, mb_rri, mb_rrii, mb_rriii, mb_riiiii, mb_rrr, mb_rir, mb_iiii, mb_riiii, tn_0, tn_1, tn_2, tn_3, tn_4, tn_5, tn_6, tc_0, tc_1, tc_2, tc_3, tc_4, tc_5, tc_6, xf_0, xf_1, xf_2, Sum.inl.injEq, Sum.inr.injEq, C_M_depth, C_M_depthOf, C_M_isSleeper, C_M_refuse, C_M_within])
  refine ⟨fun h => ?_, fun h => h20 _ (ft_1 h).symm⟩
  (refine b_19 _ _ _ ?_; simp only [k_X7_depth_0, k_X7_depth_19, k_X7_depth_20, k_X7_depth_33, k_X7_depth_39, xp_1, xp_2, xp_3, xp_4, xp_5, xp_6, xp_7, xp_10, xp_11, xp_12, xp_13, xp_14, xp_15, xp_16, xp_17, xp_18, xp_19, xp_20, xp_21, xp_22, xp_23, xp_30, xp_31, xp_32, xp_33, xp_34, xp_35, xp_36, xp_37, xp_38, xp_39, xp_40, xp_41, xp_42, xp_43, xp_50, xp_51, xp_52, xp_53, xp_60, xp_61, xp_62, xp_63, xp_64, xp_65, xp_70, xp_80, xp_81, xp_82, up_ne, up_s, ud_s, ud_o, xw_0, xw_1, xg_0, xg_1, xl_i, xl_r, xs_0, xs_1, xq_i, xq_r, xq_v, xc_0, xc_1, xt_0, xt_1, xr_0, xr_1, xr_2, xe_0, xe_1, ob_0, ob_18, ob_36, ob_54, ak_55, ln_55, cq_55, ak_56, ln_56, cq_56, ob_57, ak_58, ln_58, cq_58, ak_59, ln_59, cq_59, ob_60, ak_61, ln_61, cq_61, ak_62, ln_62, cq_62, ob_63, ak_64, ln_64, cq_64, ak_65, ln_65, cq_65, ak_66, ln_66, cq_66, ak_67, ln_67, cq_67, ak_68, ln_68, cq_68, ak_69, ln_69, cq_69, ak_70, ln_70, cq_70, ak_71, ln_71, cq_71, ak_72, ln_72, cq_72, ak_73, ln_73, cq_73, pt_54_0, pt_54_1, pt_57_0, pt_57_3, pt_60_0, pt_60_1, pt_60_2, pt_60_4, pt_60_5, pt_60_6, pt_60_8, pt_63_0, pt_63_1, pt_63_2, pt_63_3, pt_63_4, pt_63_6, pt_63_7, pt_63_10, pt_63_11, pt_63_17, true_and, and_true, List.length_cons, List.length_nil, Nat.reduceAdd, Nat.reduceLeDiff, forall_eq, ne_eq, Nat.reduceEqDiff, not_false_eq_true, or_false, false_or, or_true, true_or, reduceCtorEq, Nat.zero_le, Nat.reduceMul, Nat.add_zero, false_and, and_false, false_implies, true_implies, forall_const, implies_true, List.append_nil, List.nil_append, List.cons_append, mb_i, mb_ii, mb_iii, mb_r, mb_ri, mb_rii, mb_riii, mb_rr, mb_rri, mb_rrii, mb_rriii, mb_riiiii, mb_rrr, mb_rir, mb_iiii, mb_riiii, tn_0, tn_1, tn_2, tn_3, tn_4, tn_5, tn_6, tc_0, tc_1, tc_2, tc_3, tc_4, tc_5, tc_6, xf_0, xf_1, xf_2, Sum.inl.injEq, Sum.inr.injEq, C_M_depth, C_M_depthOf, C_M_isSleeper, C_M_refuse, C_M_within])
  exact h20 _ (ft_0 h).symm

def C_M_valueOf : mj_C := (2, rk1, fun avs M => ma_ri avs fun a i => (a = 63 ∧ dR (M 65) ∧ s_sl (M 65) i), fun avs M r M' => ma_ri avs fun a i => (r = .inl (s_V (M 65) i) ∧ M' 65 = M 65 ∧ (∀ k, k ≠ 63 → k ≠ 71 → k ≠ 72 → M' k = M k) ∧ ∀ j, j ≠ 12 → j ≠ 13 → j ≠ 14 → j ≠ 15 → j ≠ 16 → M' 63 j = M 63 j))
theorem rc_M_valueOf : ∀ avs M, C_M_valueOf.2.2.1 avs M → ∃ a r, avs = .inr a :: r ∧ mj_ob a = 7 := by
  intro avs M h
  obtain ⟨a, i, rfl, h⟩ := mc_ri h
  exact ⟨_, _, rfl, by rw [h.1]; rfl⟩
set_option maxRecDepth 20000 in
set_option maxHeartbeats 2000000 in
theorem t_M_valueOf : mj_T yX7_valueOf cX7_valueOf 3 (some .int) 5 C_M_valueOf := by
  refine mj_T_of (own := 7) (rk := 1) [(342, C_M_depthOf), (435, C_M_morning), (456, C_M_doneAt)] (by decide) rfl (by decide) ⟨rfl, rfl⟩ (List.forall_mem_cons.mpr ⟨mj_KV (own := 7) (nest := false) t_M_depthOf ⟨wc_X7_depthOf, wi_X7, by decide, wl_7_114⟩ wn_X7_depthOf ws_X7_depthOf (c0 := 7) (by decide) rfl (by decide +kernel) rc_M_depthOf (by decide), (List.forall_mem_cons.mpr ⟨mj_KV (own := 7) (nest := false) t_M_morning ⟨wc_X7_morning, wi_X7, by decide, wl_7_145⟩ wn_X7_morning ws_X7_morning (c0 := 7) (by decide) rfl (by decide +kernel) rc_M_morning (by decide), (List.forall_mem_cons.mpr ⟨mj_KV (own := 7) (nest := false) t_M_doneAt ⟨wc_X7_doneAt, wi_X7, by decide, wl_7_152⟩ wn_X7_doneAt ws_X7_doneAt (c0 := 7) (by decide) rfl (by decide +kernel) rc_M_doneAt (by decide), (fun _ h => absurd h List.not_mem_nil)⟩)⟩)⟩) ?_
  intro avs M hlen hpre V hV
  obtain ⟨a, i, rfl, hp⟩ := mc_ri hpre
  show V 0 [some (.inr a), some (.inl i), none] [] M
  have b_0 := hV h_X7_valueOf_0; have b_46 := hV h_X7_valueOf_46; have b_47 := hV h_X7_valueOf_47; have b_63 := hV h_X7_valueOf_63; have b_74 := hV h_X7_valueOf_74
  clear hlen hpre hV
  obtain ⟨rfl, hR, hi⟩ := hp
  (refine b_0 _ _ _ ?_; simp only [k_X7_valueOf_0, k_X7_valueOf_46, k_X7_valueOf_47, k_X7_valueOf_63, k_X7_valueOf_74, xp_1, xp_2, xp_3, xp_4, xp_5, xp_6, xp_7, xp_10, xp_11, xp_12, xp_13, xp_14, xp_15, xp_16, xp_17, xp_18, xp_19, xp_20, xp_21, xp_22, xp_23, xp_30, xp_31, xp_32, xp_33, xp_34, xp_35, xp_36, xp_37, xp_38, xp_39, xp_40, xp_41, xp_42, xp_43, xp_50, xp_51, xp_52, xp_53, xp_60, xp_61, xp_62, xp_63, xp_64, xp_65, xp_70, xp_80, xp_81, xp_82, up_ne, up_s, ud_s, ud_o, xw_0, xw_1, xg_0, xg_1, xl_i, xl_r, xs_0, xs_1, xq_i, xq_r, xq_v, xc_0, xc_1, xt_0, xt_1, xr_0, xr_1, xr_2, xe_0, xe_1, ob_0, ob_18, ob_36, ob_54, ak_55, ln_55, cq_55, ak_56, ln_56, cq_56, ob_57, ak_58, ln_58, cq_58, ak_59, ln_59, cq_59, ob_60, ak_61, ln_61, cq_61, ak_62, ln_62, cq_62, ob_63, ak_64, ln_64, cq_64, ak_65, ln_65, cq_65, ak_66, ln_66, cq_66, ak_67, ln_67, cq_67, ak_68, ln_68, cq_68, ak_69, ln_69, cq_69, ak_70, ln_70, cq_70, ak_71, ln_71, cq_71, ak_72, ln_72, cq_72, ak_73, ln_73, cq_73, pt_54_0, pt_54_1, pt_57_0, pt_57_3, pt_60_0, pt_60_1, pt_60_2, pt_60_4, pt_60_5, pt_60_6, pt_60_8, pt_63_0, pt_63_1, pt_63_2, pt_63_3, pt_63_4, pt_63_6, pt_63_7, pt_63_10, pt_63_11, pt_63_17, true_and, and_true, List.length_cons, List.length_nil, Nat.reduceAdd, Nat.reduceLeDiff, forall_eq, ne_eq, Nat.reduceEqDiff, not_false_eq_true, or_false, false_or, or_true, true_or, reduceCtorEq, Nat.zero_le, Nat.reduceMul, Nat.add_zero, false_and, and_false, false_implies, true_implies, forall_const, implies_true, List.append_nil, List.nil_append, List.cons_append, mb_i, mb_ii, mb_iii, mb_r, mb_ri, mb_rii, mb_riii, mb_rr, mb_rri, mb_rrii, mb_rriii, mb_riiiii, mb_rrr, mb_rir, mb_iiii, mb_riiii, tn_0, tn_1, tn_2, tn_3, tn_4, tn_5, tn_6, tc_0, tc_1, tc_2, tc_3, tc_4, tc_5, tc_6, xf_0, xf_1, xf_2, Sum.inl.injEq, Sum.inr.injEq, C_M_depthOf, C_M_doneAt, C_M_morning, C_M_valueOf])
  refine ⟨⟨hR, hi⟩, fun M1 h => ?_⟩
  obtain ⟨q1, q2, q3, q4⟩ := h
  have e65 : M1 65 = M 65 := q4.1 _ (by decide) (by decide) (by decide)
  rw [e65, q1, q2]
  have hfin : ∀ x : Int32, x = (if M 65 3 < (s_m (M 65) i).1 then 50 else 0) → V 47 [some (.inr 63), some (.inl i), none] [.inl x, .inl ((s_do (M 65) (s_m (M 65) i).1).1 + (s_m (M 65) i).1 / 10 - 5 * (s_m (M 65) i).2.1)] (mj_up M1 63 16 (s_do (M 65) (s_m (M 65) i).1).2) := by
    intro x hx
    (refine b_47 _ _ _ ?_; simp only [k_X7_valueOf_0, k_X7_valueOf_46, k_X7_valueOf_47, k_X7_valueOf_63, k_X7_valueOf_74, xp_1, xp_2, xp_3, xp_4, xp_5, xp_6, xp_7, xp_10, xp_11, xp_12, xp_13, xp_14, xp_15, xp_16, xp_17, xp_18, xp_19, xp_20, xp_21, xp_22, xp_23, xp_30, xp_31, xp_32, xp_33, xp_34, xp_35, xp_36, xp_37, xp_38, xp_39, xp_40, xp_41, xp_42, xp_43, xp_50, xp_51, xp_52, xp_53, xp_60, xp_61, xp_62, xp_63, xp_64, xp_65, xp_70, xp_80, xp_81, xp_82, up_ne, up_s, ud_s, ud_o, xw_0, xw_1, xg_0, xg_1, xl_i, xl_r, xs_0, xs_1, xq_i, xq_r, xq_v, xc_0, xc_1, xt_0, xt_1, xr_0, xr_1, xr_2, xe_0, xe_1, ob_0, ob_18, ob_36, ob_54, ak_55, ln_55, cq_55, ak_56, ln_56, cq_56, ob_57, ak_58, ln_58, cq_58, ak_59, ln_59, cq_59, ob_60, ak_61, ln_61, cq_61, ak_62, ln_62, cq_62, ob_63, ak_64, ln_64, cq_64, ak_65, ln_65, cq_65, ak_66, ln_66, cq_66, ak_67, ln_67, cq_67, ak_68, ln_68, cq_68, ak_69, ln_69, cq_69, ak_70, ln_70, cq_70, ak_71, ln_71, cq_71, ak_72, ln_72, cq_72, ak_73, ln_73, cq_73, pt_54_0, pt_54_1, pt_57_0, pt_57_3, pt_60_0, pt_60_1, pt_60_2, pt_60_4, pt_60_5, pt_60_6, pt_60_8, pt_63_0, pt_63_1, pt_63_2, pt_63_3, pt_63_4, pt_63_6, pt_63_7, pt_63_10, pt_63_11, pt_63_17, true_and, and_true, List.length_cons, List.length_nil, Nat.reduceAdd, Nat.reduceLeDiff, forall_eq, ne_eq, Nat.reduceEqDiff, not_false_eq_true, or_false, false_or, or_true, true_or, reduceCtorEq, Nat.zero_le, Nat.reduceMul, Nat.add_zero, false_and, and_false, false_implies, true_implies, forall_const, implies_true, List.append_nil, List.nil_append, List.cons_append, mb_i, mb_ii, mb_iii, mb_r, mb_ri, mb_rii, mb_riii, mb_rr, mb_rri, mb_rrii, mb_rriii, mb_riiiii, mb_rrr, mb_rir, mb_iiii, mb_riiii, tn_0, tn_1, tn_2, tn_3, tn_4, tn_5, tn_6, tc_0, tc_1, tc_2, tc_3, tc_4, tc_5, tc_6, xf_0, xf_1, xf_2, Sum.inl.injEq, Sum.inr.injEq, C_M_depthOf, C_M_doneAt, C_M_morning, C_M_valueOf])
    rw [q1]
    have fin : M1 65 = M 65 ∧ (∀ k, ¬ k = 63 → ¬ k = 71 → ¬ k = 72 → (mj_up M1 63 16 (s_do (M 65) (s_m (M 65) i).1).2) k = M k) ∧ ∀ j, ¬ j = 12 → ¬ j = 13 → ¬ j = 14 → ¬ j = 15 → ¬ j = 16 → (upd (M1 63) 16 (s_do (M 65) (s_m (M 65) i).1).2) j = M 63 j := by
      refine ⟨e65, fun k h1 h2 h3 => by rw [up_ne h1]; exact q4.1 k h1 h2 h3, fun j h1 h2 h3 h4 h5 => ?_⟩
      rw [ud_o h5]
      exact q4.2 j h1 h2 h3 h4
    refine ⟨fun h => ?_, fun h => ?_⟩
    · (refine b_63 _ _ _ ?_; simp only [k_X7_valueOf_0, k_X7_valueOf_46, k_X7_valueOf_47, k_X7_valueOf_63, k_X7_valueOf_74, xp_1, xp_2, xp_3, xp_4, xp_5, xp_6, xp_7, xp_10, xp_11, xp_12, xp_13, xp_14, xp_15, xp_16, xp_17, xp_18, xp_19, xp_20, xp_21, xp_22, xp_23, xp_30, xp_31, xp_32, xp_33, xp_34, xp_35, xp_36, xp_37, xp_38, xp_39, xp_40, xp_41, xp_42, xp_43, xp_50, xp_51, xp_52, xp_53, xp_60, xp_61, xp_62, xp_63, xp_64, xp_65, xp_70, xp_80, xp_81, xp_82, up_ne, up_s, ud_s, ud_o, xw_0, xw_1, xg_0, xg_1, xl_i, xl_r, xs_0, xs_1, xq_i, xq_r, xq_v, xc_0, xc_1, xt_0, xt_1, xr_0, xr_1, xr_2, xe_0, xe_1, ob_0, ob_18, ob_36, ob_54, ak_55, ln_55, cq_55, ak_56, ln_56, cq_56, ob_57, ak_58, ln_58, cq_58, ak_59, ln_59, cq_59, ob_60, ak_61, ln_61, cq_61, ak_62, ln_62, cq_62, ob_63, ak_64, ln_64, cq_64, ak_65, ln_65, cq_65, ak_66, ln_66, cq_66, ak_67, ln_67, cq_67, ak_68, ln_68, cq_68, ak_69, ln_69, cq_69, ak_70, ln_70, cq_70, ak_71, ln_71, cq_71, ak_72, ln_72, cq_72, ak_73, ln_73, cq_73, pt_54_0, pt_54_1, pt_57_0, pt_57_3, pt_60_0, pt_60_1, pt_60_2, pt_60_4, pt_60_5, pt_60_6, pt_60_8, pt_63_0, pt_63_1, pt_63_2, pt_63_3, pt_63_4, pt_63_6, pt_63_7, pt_63_10, pt_63_11, pt_63_17, true_and, and_true, List.length_cons, List.length_nil, Nat.reduceAdd, Nat.reduceLeDiff, forall_eq, ne_eq, Nat.reduceEqDiff, not_false_eq_true, or_false, false_or, or_true, true_or, reduceCtorEq, Nat.zero_le, Nat.reduceMul, Nat.add_zero, false_and, and_false, false_implies, true_implies, forall_const, implies_true, List.append_nil, List.nil_append, List.cons_append, mb_i, mb_ii, mb_iii, mb_r, mb_ri, mb_rii, mb_riii, mb_rr, mb_rri, mb_rrii, mb_rriii, mb_riiiii, mb_rrr, mb_rir, mb_iiii, mb_riiii, tn_0, tn_1, tn_2, tn_3, tn_4, tn_5, tn_6, tc_0, tc_1, tc_2, tc_3, tc_4, tc_5, tc_6, xf_0, xf_1, xf_2, Sum.inl.injEq, Sum.inr.injEq, C_M_depthOf, C_M_doneAt, C_M_morning, C_M_valueOf])
      rw [e65, q1]
      refine ⟨s_sl_nz hR hi, ?_⟩
      (refine b_74 _ _ _ ?_; simp only [k_X7_valueOf_0, k_X7_valueOf_46, k_X7_valueOf_47, k_X7_valueOf_63, k_X7_valueOf_74, xp_1, xp_2, xp_3, xp_4, xp_5, xp_6, xp_7, xp_10, xp_11, xp_12, xp_13, xp_14, xp_15, xp_16, xp_17, xp_18, xp_19, xp_20, xp_21, xp_22, xp_23, xp_30, xp_31, xp_32, xp_33, xp_34, xp_35, xp_36, xp_37, xp_38, xp_39, xp_40, xp_41, xp_42, xp_43, xp_50, xp_51, xp_52, xp_53, xp_60, xp_61, xp_62, xp_63, xp_64, xp_65, xp_70, xp_80, xp_81, xp_82, up_ne, up_s, ud_s, ud_o, xw_0, xw_1, xg_0, xg_1, xl_i, xl_r, xs_0, xs_1, xq_i, xq_r, xq_v, xc_0, xc_1, xt_0, xt_1, xr_0, xr_1, xr_2, xe_0, xe_1, ob_0, ob_18, ob_36, ob_54, ak_55, ln_55, cq_55, ak_56, ln_56, cq_56, ob_57, ak_58, ln_58, cq_58, ak_59, ln_59, cq_59, ob_60, ak_61, ln_61, cq_61, ak_62, ln_62, cq_62, ob_63, ak_64, ln_64, cq_64, ak_65, ln_65, cq_65, ak_66, ln_66, cq_66, ak_67, ln_67, cq_67, ak_68, ln_68, cq_68, ak_69, ln_69, cq_69, ak_70, ln_70, cq_70, ak_71, ln_71, cq_71, ak_72, ln_72, cq_72, ak_73, ln_73, cq_73, pt_54_0, pt_54_1, pt_57_0, pt_57_3, pt_60_0, pt_60_1, pt_60_2, pt_60_4, pt_60_5, pt_60_6, pt_60_8, pt_63_0, pt_63_1, pt_63_2, pt_63_3, pt_63_4, pt_63_6, pt_63_7, pt_63_10, pt_63_11, pt_63_17, true_and, and_true, List.length_cons, List.length_nil, Nat.reduceAdd, Nat.reduceLeDiff, forall_eq, ne_eq, Nat.reduceEqDiff, not_false_eq_true, or_false, false_or, or_true, true_or, reduceCtorEq, Nat.zero_le, Nat.reduceMul, Nat.add_zero, false_and, and_false, false_implies, true_implies, forall_const, implies_true, List.append_nil, List.nil_append, List.cons_append, mb_i, mb_ii, mb_iii, mb_r, mb_ri, mb_rii, mb_riii, mb_rr, mb_rri, mb_rrii, mb_rriii, mb_riiiii, mb_rrr, mb_rir, mb_iiii, mb_riiii, tn_0, tn_1, tn_2, tn_3, tn_4, tn_5, tn_6, tc_0, tc_1, tc_2, tc_3, tc_4, tc_5, tc_6, xf_0, xf_1, xf_2, Sum.inl.injEq, Sum.inr.injEq, C_M_depthOf, C_M_doneAt, C_M_morning, C_M_valueOf])
      refine ⟨?_, fin⟩
      unfold s_V
      rw [if_neg h, hx]
    · (refine b_74 _ _ _ ?_; simp only [k_X7_valueOf_0, k_X7_valueOf_46, k_X7_valueOf_47, k_X7_valueOf_63, k_X7_valueOf_74, xp_1, xp_2, xp_3, xp_4, xp_5, xp_6, xp_7, xp_10, xp_11, xp_12, xp_13, xp_14, xp_15, xp_16, xp_17, xp_18, xp_19, xp_20, xp_21, xp_22, xp_23, xp_30, xp_31, xp_32, xp_33, xp_34, xp_35, xp_36, xp_37, xp_38, xp_39, xp_40, xp_41, xp_42, xp_43, xp_50, xp_51, xp_52, xp_53, xp_60, xp_61, xp_62, xp_63, xp_64, xp_65, xp_70, xp_80, xp_81, xp_82, up_ne, up_s, ud_s, ud_o, xw_0, xw_1, xg_0, xg_1, xl_i, xl_r, xs_0, xs_1, xq_i, xq_r, xq_v, xc_0, xc_1, xt_0, xt_1, xr_0, xr_1, xr_2, xe_0, xe_1, ob_0, ob_18, ob_36, ob_54, ak_55, ln_55, cq_55, ak_56, ln_56, cq_56, ob_57, ak_58, ln_58, cq_58, ak_59, ln_59, cq_59, ob_60, ak_61, ln_61, cq_61, ak_62, ln_62, cq_62, ob_63, ak_64, ln_64, cq_64, ak_65, ln_65, cq_65, ak_66, ln_66, cq_66, ak_67, ln_67, cq_67, ak_68, ln_68, cq_68, ak_69, ln_69, cq_69, ak_70, ln_70, cq_70, ak_71, ln_71, cq_71, ak_72, ln_72, cq_72, ak_73, ln_73, cq_73, pt_54_0, pt_54_1, pt_57_0, pt_57_3, pt_60_0, pt_60_1, pt_60_2, pt_60_4, pt_60_5, pt_60_6, pt_60_8, pt_63_0, pt_63_1, pt_63_2, pt_63_3, pt_63_4, pt_63_6, pt_63_7, pt_63_10, pt_63_11, pt_63_17, true_and, and_true, List.length_cons, List.length_nil, Nat.reduceAdd, Nat.reduceLeDiff, forall_eq, ne_eq, Nat.reduceEqDiff, not_false_eq_true, or_false, false_or, or_true, true_or, reduceCtorEq, Nat.zero_le, Nat.reduceMul, Nat.add_zero, false_and, and_false, false_implies, true_implies, forall_const, implies_true, List.append_nil, List.nil_append, List.cons_append, mb_i, mb_ii, mb_iii, mb_r, mb_ri, mb_rii, mb_riii, mb_rr, mb_rri, mb_rrii, mb_rriii, mb_riiiii, mb_rrr, mb_rir, mb_iiii, mb_riiii, tn_0, tn_1, tn_2, tn_3, tn_4, tn_5, tn_6, tc_0, tc_1, tc_2, tc_3, tc_4, tc_5, tc_6, xf_0, xf_1, xf_2, Sum.inl.injEq, Sum.inr.injEq, C_M_depthOf, C_M_doneAt, C_M_morning, C_M_valueOf])
      refine ⟨?_, fin⟩
      unfold s_V
      rw [if_pos h, hx]
  refine ⟨hR.2.2.1, by decide, vi_3, fun h => ?_, fun h => hfin _ (by rw [if_pos h])⟩
  (refine b_46 _ _ _ ?_; simp only [k_X7_valueOf_0, k_X7_valueOf_46, k_X7_valueOf_47, k_X7_valueOf_63, k_X7_valueOf_74, xp_1, xp_2, xp_3, xp_4, xp_5, xp_6, xp_7, xp_10, xp_11, xp_12, xp_13, xp_14, xp_15, xp_16, xp_17, xp_18, xp_19, xp_20, xp_21, xp_22, xp_23, xp_30, xp_31, xp_32, xp_33, xp_34, xp_35, xp_36, xp_37, xp_38, xp_39, xp_40, xp_41, xp_42, xp_43, xp_50, xp_51, xp_52, xp_53, xp_60, xp_61, xp_62, xp_63, xp_64, xp_65, xp_70, xp_80, xp_81, xp_82, up_ne, up_s, ud_s, ud_o, xw_0, xw_1, xg_0, xg_1, xl_i, xl_r, xs_0, xs_1, xq_i, xq_r, xq_v, xc_0, xc_1, xt_0, xt_1, xr_0, xr_1, xr_2, xe_0, xe_1, ob_0, ob_18, ob_36, ob_54, ak_55, ln_55, cq_55, ak_56, ln_56, cq_56, ob_57, ak_58, ln_58, cq_58, ak_59, ln_59, cq_59, ob_60, ak_61, ln_61, cq_61, ak_62, ln_62, cq_62, ob_63, ak_64, ln_64, cq_64, ak_65, ln_65, cq_65, ak_66, ln_66, cq_66, ak_67, ln_67, cq_67, ak_68, ln_68, cq_68, ak_69, ln_69, cq_69, ak_70, ln_70, cq_70, ak_71, ln_71, cq_71, ak_72, ln_72, cq_72, ak_73, ln_73, cq_73, pt_54_0, pt_54_1, pt_57_0, pt_57_3, pt_60_0, pt_60_1, pt_60_2, pt_60_4, pt_60_5, pt_60_6, pt_60_8, pt_63_0, pt_63_1, pt_63_2, pt_63_3, pt_63_4, pt_63_6, pt_63_7, pt_63_10, pt_63_11, pt_63_17, true_and, and_true, List.length_cons, List.length_nil, Nat.reduceAdd, Nat.reduceLeDiff, forall_eq, ne_eq, Nat.reduceEqDiff, not_false_eq_true, or_false, false_or, or_true, true_or, reduceCtorEq, Nat.zero_le, Nat.reduceMul, Nat.add_zero, false_and, and_false, false_implies, true_implies, forall_const, implies_true, List.append_nil, List.nil_append, List.cons_append, mb_i, mb_ii, mb_iii, mb_r, mb_ri, mb_rii, mb_riii, mb_rr, mb_rri, mb_rrii, mb_rriii, mb_riiiii, mb_rrr, mb_rir, mb_iiii, mb_riiii, tn_0, tn_1, tn_2, tn_3, tn_4, tn_5, tn_6, tc_0, tc_1, tc_2, tc_3, tc_4, tc_5, tc_6, xf_0, xf_1, xf_2, Sum.inl.injEq, Sum.inr.injEq, C_M_depthOf, C_M_doneAt, C_M_morning, C_M_valueOf])
  exact hfin _ (by rw [if_neg h])

def C_M_value : mj_C := (2, rk1, fun avs M => ma_ri avs fun a i => (a = 63 ∧ dS (mS M)), fun avs M r M' => ma_ri avs fun a i => (r = .inl (F_value (mS M) i).1 ∧ mS M' = (F_value (mS M) i).2 ∧ fr1 M M'))
theorem rc_M_value : ∀ avs M, C_M_value.2.2.1 avs M → ∃ a r, avs = .inr a :: r ∧ mj_ob a = 7 := by
  intro avs M h
  obtain ⟨a, i, rfl, h⟩ := mc_ri h
  exact ⟨_, _, rfl, by rw [h.1]; rfl⟩
set_option maxRecDepth 20000 in
set_option maxHeartbeats 2000000 in
theorem t_M_value : mj_T yX7_value cX7_value 2 (some .int) 6 C_M_value := by
  refine mj_T_of (own := 7) (rk := 1) [(255, C_M_isSleeper), (465, C_M_valueOf), (474, C_M_refuseFar)] (by decide) rfl (by decide) ⟨rfl, rfl⟩ (List.forall_mem_cons.mpr ⟨mj_KV (own := 7) (nest := false) t_M_isSleeper ⟨wc_X7_isSleeper, wi_X7, by decide, wl_7_85⟩ wn_X7_isSleeper ws_X7_isSleeper (c0 := 7) (by decide) rfl (by decide +kernel) rc_M_isSleeper (by decide), (List.forall_mem_cons.mpr ⟨mj_KV (own := 7) (nest := false) t_M_valueOf ⟨wc_X7_valueOf, wi_X7, by decide, wl_7_155⟩ wn_X7_valueOf ws_X7_valueOf (c0 := 7) (by decide) rfl (by decide +kernel) rc_M_valueOf (by decide), (List.forall_mem_cons.mpr ⟨mj_KV (own := 7) (nest := false) t_M_refuseFar ⟨wc_X7_refuseFar, wi_X7, by decide, wl_7_158⟩ wn_X7_refuseFar ws_X7_refuseFar (c0 := 7) (by decide) rfl (by decide +kernel) rc_M_refuseFar (by decide), (fun _ h => absurd h List.not_mem_nil)⟩)⟩)⟩) ?_
  intro avs M hlen hpre V hV
  obtain ⟨a, i, rfl, hp⟩ := mc_ri hpre
  show V 0 [some (.inr a), some (.inl i)] [] M
  have b_0 := hV h_X7_value_0; have b_16 := hV h_X7_value_16; have b_21 := hV h_X7_value_21
  clear hlen hpre hV
  obtain ⟨rfl, hS⟩ := hp
  (refine b_0 _ _ _ ?_; simp only [k_X7_value_0, k_X7_value_16, k_X7_value_21, xp_1, xp_2, xp_3, xp_4, xp_5, xp_6, xp_7, xp_10, xp_11, xp_12, xp_13, xp_14, xp_15, xp_16, xp_17, xp_18, xp_19, xp_20, xp_21, xp_22, xp_23, xp_30, xp_31, xp_32, xp_33, xp_34, xp_35, xp_36, xp_37, xp_38, xp_39, xp_40, xp_41, xp_42, xp_43, xp_50, xp_51, xp_52, xp_53, xp_60, xp_61, xp_62, xp_63, xp_64, xp_65, xp_70, xp_80, xp_81, xp_82, up_ne, up_s, ud_s, ud_o, xw_0, xw_1, xg_0, xg_1, xl_i, xl_r, xs_0, xs_1, xq_i, xq_r, xq_v, xc_0, xc_1, xt_0, xt_1, xr_0, xr_1, xr_2, xe_0, xe_1, ob_0, ob_18, ob_36, ob_54, ak_55, ln_55, cq_55, ak_56, ln_56, cq_56, ob_57, ak_58, ln_58, cq_58, ak_59, ln_59, cq_59, ob_60, ak_61, ln_61, cq_61, ak_62, ln_62, cq_62, ob_63, ak_64, ln_64, cq_64, ak_65, ln_65, cq_65, ak_66, ln_66, cq_66, ak_67, ln_67, cq_67, ak_68, ln_68, cq_68, ak_69, ln_69, cq_69, ak_70, ln_70, cq_70, ak_71, ln_71, cq_71, ak_72, ln_72, cq_72, ak_73, ln_73, cq_73, pt_54_0, pt_54_1, pt_57_0, pt_57_3, pt_60_0, pt_60_1, pt_60_2, pt_60_4, pt_60_5, pt_60_6, pt_60_8, pt_63_0, pt_63_1, pt_63_2, pt_63_3, pt_63_4, pt_63_6, pt_63_7, pt_63_10, pt_63_11, pt_63_17, true_and, and_true, List.length_cons, List.length_nil, Nat.reduceAdd, Nat.reduceLeDiff, forall_eq, ne_eq, Nat.reduceEqDiff, not_false_eq_true, or_false, false_or, or_true, true_or, reduceCtorEq, Nat.zero_le, Nat.reduceMul, Nat.add_zero, false_and, and_false, false_implies, true_implies, forall_const, implies_true, List.append_nil, List.nil_append, List.cons_append, mb_i, mb_ii, mb_iii, mb_r, mb_ri, mb_rii, mb_riii, mb_rr, mb_rri, mb_rrii, mb_rriii, mb_riiiii, mb_rrr, mb_rir, mb_iiii, mb_riiii, tn_0, tn_1, tn_2, tn_3, tn_4, tn_5, tn_6, tc_0, tc_1, tc_2, tc_3, tc_4, tc_5, tc_6, xf_0, xf_1, xf_2, Sum.inl.injEq, Sum.inr.injEq, C_M_isSleeper, C_M_refuseFar, C_M_value, C_M_valueOf])
  refine ⟨fun h => ?_, fun h => ⟨⟨hS.1, s_in_sl h⟩, fun x M1 hx => ?_⟩⟩
  · (refine b_16 _ _ _ ?_; simp only [k_X7_value_0, k_X7_value_16, k_X7_value_21, xp_1, xp_2, xp_3, xp_4, xp_5, xp_6, xp_7, xp_10, xp_11, xp_12, xp_13, xp_14, xp_15, xp_16, xp_17, xp_18, xp_19, xp_20, xp_21, xp_22, xp_23, xp_30, xp_31, xp_32, xp_33, xp_34, xp_35, xp_36, xp_37, xp_38, xp_39, xp_40, xp_41, xp_42, xp_43, xp_50, xp_51, xp_52, xp_53, xp_60, xp_61, xp_62, xp_63, xp_64, xp_65, xp_70, xp_80, xp_81, xp_82, up_ne, up_s, ud_s, ud_o, xw_0, xw_1, xg_0, xg_1, xl_i, xl_r, xs_0, xs_1, xq_i, xq_r, xq_v, xc_0, xc_1, xt_0, xt_1, xr_0, xr_1, xr_2, xe_0, xe_1, ob_0, ob_18, ob_36, ob_54, ak_55, ln_55, cq_55, ak_56, ln_56, cq_56, ob_57, ak_58, ln_58, cq_58, ak_59, ln_59, cq_59, ob_60, ak_61, ln_61, cq_61, ak_62, ln_62, cq_62, ob_63, ak_64, ln_64, cq_64, ak_65, ln_65, cq_65, ak_66, ln_66, cq_66, ak_67, ln_67, cq_67, ak_68, ln_68, cq_68, ak_69, ln_69, cq_69, ak_70, ln_70, cq_70, ak_71, ln_71, cq_71, ak_72, ln_72, cq_72, ak_73, ln_73, cq_73, pt_54_0, pt_54_1, pt_57_0, pt_57_3, pt_60_0, pt_60_1, pt_60_2, pt_60_4, pt_60_5, pt_60_6, pt_60_8, pt_63_0, pt_63_1, pt_63_2, pt_63_3, pt_63_4, pt_63_6, pt_63_7, pt_63_10, pt_63_11, pt_63_17, true_and, and_true, List.length_cons, List.length_nil, Nat.reduceAdd, Nat.reduceLeDiff, forall_eq, ne_eq, Nat.reduceEqDiff, not_false_eq_true, or_false, false_or, or_true, true_or, reduceCtorEq, Nat.zero_le, Nat.reduceMul, Nat.add_zero, false_and, and_false, false_implies, true_implies, forall_const, implies_true, List.append_nil, List.nil_append, List.cons_append, mb_i, mb_ii, mb_iii, mb_r, mb_ri, mb_rii, mb_riii, mb_rr, mb_rri, mb_rrii, mb_rriii, mb_riiiii, mb_rrr, mb_rir, mb_iiii, mb_riiii, tn_0, tn_1, tn_2, tn_3, tn_4, tn_5, tn_6, tc_0, tc_1, tc_2, tc_3, tc_4, tc_5, tc_6, xf_0, xf_1, xf_2, Sum.inl.injEq, Sum.inr.injEq, C_M_isSleeper, C_M_refuseFar, C_M_value, C_M_valueOf])
    refine ⟨rc1, ?_⟩
    (refine b_21 _ _ _ ?_; simp only [k_X7_value_0, k_X7_value_16, k_X7_value_21, xp_1, xp_2, xp_3, xp_4, xp_5, xp_6, xp_7, xp_10, xp_11, xp_12, xp_13, xp_14, xp_15, xp_16, xp_17, xp_18, xp_19, xp_20, xp_21, xp_22, xp_23, xp_30, xp_31, xp_32, xp_33, xp_34, xp_35, xp_36, xp_37, xp_38, xp_39, xp_40, xp_41, xp_42, xp_43, xp_50, xp_51, xp_52, xp_53, xp_60, xp_61, xp_62, xp_63, xp_64, xp_65, xp_70, xp_80, xp_81, xp_82, up_ne, up_s, ud_s, ud_o, xw_0, xw_1, xg_0, xg_1, xl_i, xl_r, xs_0, xs_1, xq_i, xq_r, xq_v, xc_0, xc_1, xt_0, xt_1, xr_0, xr_1, xr_2, xe_0, xe_1, ob_0, ob_18, ob_36, ob_54, ak_55, ln_55, cq_55, ak_56, ln_56, cq_56, ob_57, ak_58, ln_58, cq_58, ak_59, ln_59, cq_59, ob_60, ak_61, ln_61, cq_61, ak_62, ln_62, cq_62, ob_63, ak_64, ln_64, cq_64, ak_65, ln_65, cq_65, ak_66, ln_66, cq_66, ak_67, ln_67, cq_67, ak_68, ln_68, cq_68, ak_69, ln_69, cq_69, ak_70, ln_70, cq_70, ak_71, ln_71, cq_71, ak_72, ln_72, cq_72, ak_73, ln_73, cq_73, pt_54_0, pt_54_1, pt_57_0, pt_57_3, pt_60_0, pt_60_1, pt_60_2, pt_60_4, pt_60_5, pt_60_6, pt_60_8, pt_63_0, pt_63_1, pt_63_2, pt_63_3, pt_63_4, pt_63_6, pt_63_7, pt_63_10, pt_63_11, pt_63_17, true_and, and_true, List.length_cons, List.length_nil, Nat.reduceAdd, Nat.reduceLeDiff, forall_eq, ne_eq, Nat.reduceEqDiff, not_false_eq_true, or_false, false_or, or_true, true_or, reduceCtorEq, Nat.zero_le, Nat.reduceMul, Nat.add_zero, false_and, and_false, false_implies, true_implies, forall_const, implies_true, List.append_nil, List.nil_append, List.cons_append, mb_i, mb_ii, mb_iii, mb_r, mb_ri, mb_rii, mb_riii, mb_rr, mb_rri, mb_rrii, mb_rriii, mb_riiiii, mb_rrr, mb_rir, mb_iiii, mb_riiii, tn_0, tn_1, tn_2, tn_3, tn_4, tn_5, tn_6, tc_0, tc_1, tc_2, tc_3, tc_4, tc_5, tc_6, xf_0, xf_1, xf_2, Sum.inl.injEq, Sum.inr.injEq, C_M_isSleeper, C_M_refuseFar, C_M_value, C_M_valueOf])
    unfold F_value
    rw [mS_0, nB_0 h]
    exact qV_no (by decide)
  · obtain ⟨hx, h65, h1, h2⟩ := hx
    (refine b_21 _ _ _ ?_; simp only [k_X7_value_0, k_X7_value_16, k_X7_value_21, xp_1, xp_2, xp_3, xp_4, xp_5, xp_6, xp_7, xp_10, xp_11, xp_12, xp_13, xp_14, xp_15, xp_16, xp_17, xp_18, xp_19, xp_20, xp_21, xp_22, xp_23, xp_30, xp_31, xp_32, xp_33, xp_34, xp_35, xp_36, xp_37, xp_38, xp_39, xp_40, xp_41, xp_42, xp_43, xp_50, xp_51, xp_52, xp_53, xp_60, xp_61, xp_62, xp_63, xp_64, xp_65, xp_70, xp_80, xp_81, xp_82, up_ne, up_s, ud_s, ud_o, xw_0, xw_1, xg_0, xg_1, xl_i, xl_r, xs_0, xs_1, xq_i, xq_r, xq_v, xc_0, xc_1, xt_0, xt_1, xr_0, xr_1, xr_2, xe_0, xe_1, ob_0, ob_18, ob_36, ob_54, ak_55, ln_55, cq_55, ak_56, ln_56, cq_56, ob_57, ak_58, ln_58, cq_58, ak_59, ln_59, cq_59, ob_60, ak_61, ln_61, cq_61, ak_62, ln_62, cq_62, ob_63, ak_64, ln_64, cq_64, ak_65, ln_65, cq_65, ak_66, ln_66, cq_66, ak_67, ln_67, cq_67, ak_68, ln_68, cq_68, ak_69, ln_69, cq_69, ak_70, ln_70, cq_70, ak_71, ln_71, cq_71, ak_72, ln_72, cq_72, ak_73, ln_73, cq_73, pt_54_0, pt_54_1, pt_57_0, pt_57_3, pt_60_0, pt_60_1, pt_60_2, pt_60_4, pt_60_5, pt_60_6, pt_60_8, pt_63_0, pt_63_1, pt_63_2, pt_63_3, pt_63_4, pt_63_6, pt_63_7, pt_63_10, pt_63_11, pt_63_17, true_and, and_true, List.length_cons, List.length_nil, Nat.reduceAdd, Nat.reduceLeDiff, forall_eq, ne_eq, Nat.reduceEqDiff, not_false_eq_true, or_false, false_or, or_true, true_or, reduceCtorEq, Nat.zero_le, Nat.reduceMul, Nat.add_zero, false_and, and_false, false_implies, true_implies, forall_const, implies_true, List.append_nil, List.nil_append, List.cons_append, mb_i, mb_ii, mb_iii, mb_r, mb_ri, mb_rii, mb_riii, mb_rr, mb_rri, mb_rrii, mb_rriii, mb_riiiii, mb_rrr, mb_rir, mb_iiii, mb_riiii, tn_0, tn_1, tn_2, tn_3, tn_4, tn_5, tn_6, tc_0, tc_1, tc_2, tc_3, tc_4, tc_5, tc_6, xf_0, xf_1, xf_2, Sum.inl.injEq, Sum.inr.injEq, C_M_isSleeper, C_M_refuseFar, C_M_value, C_M_valueOf])
    unfold F_value
    rw [mS_0, nB_1 h]
    exact qV_ok rfl hx (mS_eq h65 (h1 _ (by decide) (by decide) (by decide)) (h1 _ (by decide) (by decide) (by decide)) (h1 _ (by decide) (by decide) (by decide)) (h1 _ (by decide) (by decide) (by decide)) (h2 _ (by decide) (by decide) (by decide) (by decide) (by decide)) (h2 _ (by decide) (by decide) (by decide) (by decide) (by decide)) (h2 _ (by decide) (by decide) (by decide) (by decide) (by decide))) (fun k hk => h1 k (by omega) (by omega) (by omega))

def C_M_cost : mj_C := (2, rk1, fun avs M => ma_ri avs fun a m => (a = 63 ∧ dS (mS M)), fun avs M r M' => ma_ri avs fun a m => (r = .inl (F_cost (mS M) m).1 ∧ mS M' = (F_cost (mS M) m).2 ∧ fr1 M M'))
theorem rc_M_cost : ∀ avs M, C_M_cost.2.2.1 avs M → ∃ a r, avs = .inr a :: r ∧ mj_ob a = 7 := by
  intro avs M h
  obtain ⟨a, m, rfl, h⟩ := mc_ri h
  exact ⟨_, _, rfl, by rw [h.1]; rfl⟩
set_option maxRecDepth 20000 in
set_option maxHeartbeats 2000000 in
theorem t_M_cost : mj_T yX7_cost cX7_cost 3 (some .int) 5 C_M_cost := by
  refine mj_T_of (own := 7) (rk := 1) [(161, C_M_within), (456, C_M_doneAt), (474, C_M_refuseFar)] (by decide) rfl (by decide) ⟨rfl, rfl⟩ (List.forall_mem_cons.mpr ⟨mj_KS (own := 7) (nest := false) t_M_within ⟨wc_X7_within, wi_X7, by decide, wl_7_53⟩ wn_X7_within (by decide +kernel) (by decide), (List.forall_mem_cons.mpr ⟨mj_KV (own := 7) (nest := false) t_M_doneAt ⟨wc_X7_doneAt, wi_X7, by decide, wl_7_152⟩ wn_X7_doneAt ws_X7_doneAt (c0 := 7) (by decide) rfl (by decide +kernel) rc_M_doneAt (by decide), (List.forall_mem_cons.mpr ⟨mj_KV (own := 7) (nest := false) t_M_refuseFar ⟨wc_X7_refuseFar, wi_X7, by decide, wl_7_158⟩ wn_X7_refuseFar ws_X7_refuseFar (c0 := 7) (by decide) rfl (by decide +kernel) rc_M_refuseFar (by decide), (fun _ h => absurd h List.not_mem_nil)⟩)⟩)⟩) ?_
  intro avs M hlen hpre V hV
  obtain ⟨a, m, rfl, hp⟩ := mc_ri hpre
  show V 0 [some (.inr a), some (.inl m), none] [] M
  have b_0 := hV h_X7_cost_0; have b_21 := hV h_X7_cost_21; have b_34 := hV h_X7_cost_34
  clear hlen hpre hV
  obtain ⟨rfl, hS⟩ := hp
  (refine b_0 _ _ _ ?_; simp only [k_X7_cost_0, k_X7_cost_21, k_X7_cost_34, xp_1, xp_2, xp_3, xp_4, xp_5, xp_6, xp_7, xp_10, xp_11, xp_12, xp_13, xp_14, xp_15, xp_16, xp_17, xp_18, xp_19, xp_20, xp_21, xp_22, xp_23, xp_30, xp_31, xp_32, xp_33, xp_34, xp_35, xp_36, xp_37, xp_38, xp_39, xp_40, xp_41, xp_42, xp_43, xp_50, xp_51, xp_52, xp_53, xp_60, xp_61, xp_62, xp_63, xp_64, xp_65, xp_70, xp_80, xp_81, xp_82, up_ne, up_s, ud_s, ud_o, xw_0, xw_1, xg_0, xg_1, xl_i, xl_r, xs_0, xs_1, xq_i, xq_r, xq_v, xc_0, xc_1, xt_0, xt_1, xr_0, xr_1, xr_2, xe_0, xe_1, ob_0, ob_18, ob_36, ob_54, ak_55, ln_55, cq_55, ak_56, ln_56, cq_56, ob_57, ak_58, ln_58, cq_58, ak_59, ln_59, cq_59, ob_60, ak_61, ln_61, cq_61, ak_62, ln_62, cq_62, ob_63, ak_64, ln_64, cq_64, ak_65, ln_65, cq_65, ak_66, ln_66, cq_66, ak_67, ln_67, cq_67, ak_68, ln_68, cq_68, ak_69, ln_69, cq_69, ak_70, ln_70, cq_70, ak_71, ln_71, cq_71, ak_72, ln_72, cq_72, ak_73, ln_73, cq_73, pt_54_0, pt_54_1, pt_57_0, pt_57_3, pt_60_0, pt_60_1, pt_60_2, pt_60_4, pt_60_5, pt_60_6, pt_60_8, pt_63_0, pt_63_1, pt_63_2, pt_63_3, pt_63_4, pt_63_6, pt_63_7, pt_63_10, pt_63_11, pt_63_17, true_and, and_true, List.length_cons, List.length_nil, Nat.reduceAdd, Nat.reduceLeDiff, forall_eq, ne_eq, Nat.reduceEqDiff, not_false_eq_true, or_false, false_or, or_true, true_or, reduceCtorEq, Nat.zero_le, Nat.reduceMul, Nat.add_zero, false_and, and_false, false_implies, true_implies, forall_const, implies_true, List.append_nil, List.nil_append, List.cons_append, mb_i, mb_ii, mb_iii, mb_r, mb_ri, mb_rii, mb_riii, mb_rr, mb_rri, mb_rrii, mb_rriii, mb_riiiii, mb_rrr, mb_rir, mb_iiii, mb_riiii, tn_0, tn_1, tn_2, tn_3, tn_4, tn_5, tn_6, tc_0, tc_1, tc_2, tc_3, tc_4, tc_5, tc_6, xf_0, xf_1, xf_2, Sum.inl.injEq, Sum.inr.injEq, C_M_cost, C_M_doneAt, C_M_refuseFar, C_M_within])
  refine ⟨fun h => ?_, fun h => ⟨s_wi_rc h, ?_⟩⟩
  · (refine b_21 _ _ _ ?_; simp only [k_X7_cost_0, k_X7_cost_21, k_X7_cost_34, xp_1, xp_2, xp_3, xp_4, xp_5, xp_6, xp_7, xp_10, xp_11, xp_12, xp_13, xp_14, xp_15, xp_16, xp_17, xp_18, xp_19, xp_20, xp_21, xp_22, xp_23, xp_30, xp_31, xp_32, xp_33, xp_34, xp_35, xp_36, xp_37, xp_38, xp_39, xp_40, xp_41, xp_42, xp_43, xp_50, xp_51, xp_52, xp_53, xp_60, xp_61, xp_62, xp_63, xp_64, xp_65, xp_70, xp_80, xp_81, xp_82, up_ne, up_s, ud_s, ud_o, xw_0, xw_1, xg_0, xg_1, xl_i, xl_r, xs_0, xs_1, xq_i, xq_r, xq_v, xc_0, xc_1, xt_0, xt_1, xr_0, xr_1, xr_2, xe_0, xe_1, ob_0, ob_18, ob_36, ob_54, ak_55, ln_55, cq_55, ak_56, ln_56, cq_56, ob_57, ak_58, ln_58, cq_58, ak_59, ln_59, cq_59, ob_60, ak_61, ln_61, cq_61, ak_62, ln_62, cq_62, ob_63, ak_64, ln_64, cq_64, ak_65, ln_65, cq_65, ak_66, ln_66, cq_66, ak_67, ln_67, cq_67, ak_68, ln_68, cq_68, ak_69, ln_69, cq_69, ak_70, ln_70, cq_70, ak_71, ln_71, cq_71, ak_72, ln_72, cq_72, ak_73, ln_73, cq_73, pt_54_0, pt_54_1, pt_57_0, pt_57_3, pt_60_0, pt_60_1, pt_60_2, pt_60_4, pt_60_5, pt_60_6, pt_60_8, pt_63_0, pt_63_1, pt_63_2, pt_63_3, pt_63_4, pt_63_6, pt_63_7, pt_63_10, pt_63_11, pt_63_17, true_and, and_true, List.length_cons, List.length_nil, Nat.reduceAdd, Nat.reduceLeDiff, forall_eq, ne_eq, Nat.reduceEqDiff, not_false_eq_true, or_false, false_or, or_true, true_or, reduceCtorEq, Nat.zero_le, Nat.reduceMul, Nat.add_zero, false_and, and_false, false_implies, true_implies, forall_const, implies_true, List.append_nil, List.nil_append, List.cons_append, mb_i, mb_ii, mb_iii, mb_r, mb_ri, mb_rii, mb_riii, mb_rr, mb_rri, mb_rrii, mb_rriii, mb_riiiii, mb_rrr, mb_rir, mb_iiii, mb_riiii, tn_0, tn_1, tn_2, tn_3, tn_4, tn_5, tn_6, tc_0, tc_1, tc_2, tc_3, tc_4, tc_5, tc_6, xf_0, xf_1, xf_2, Sum.inl.injEq, Sum.inr.injEq, C_M_cost, C_M_doneAt, C_M_refuseFar, C_M_within])
    refine ⟨hS.1.2.2.1, hS.1.2.2.1, ?_⟩
    (refine b_34 _ _ _ ?_; simp only [k_X7_cost_0, k_X7_cost_21, k_X7_cost_34, xp_1, xp_2, xp_3, xp_4, xp_5, xp_6, xp_7, xp_10, xp_11, xp_12, xp_13, xp_14, xp_15, xp_16, xp_17, xp_18, xp_19, xp_20, xp_21, xp_22, xp_23, xp_30, xp_31, xp_32, xp_33, xp_34, xp_35, xp_36, xp_37, xp_38, xp_39, xp_40, xp_41, xp_42, xp_43, xp_50, xp_51, xp_52, xp_53, xp_60, xp_61, xp_62, xp_63, xp_64, xp_65, xp_70, xp_80, xp_81, xp_82, up_ne, up_s, ud_s, ud_o, xw_0, xw_1, xg_0, xg_1, xl_i, xl_r, xs_0, xs_1, xq_i, xq_r, xq_v, xc_0, xc_1, xt_0, xt_1, xr_0, xr_1, xr_2, xe_0, xe_1, ob_0, ob_18, ob_36, ob_54, ak_55, ln_55, cq_55, ak_56, ln_56, cq_56, ob_57, ak_58, ln_58, cq_58, ak_59, ln_59, cq_59, ob_60, ak_61, ln_61, cq_61, ak_62, ln_62, cq_62, ob_63, ak_64, ln_64, cq_64, ak_65, ln_65, cq_65, ak_66, ln_66, cq_66, ak_67, ln_67, cq_67, ak_68, ln_68, cq_68, ak_69, ln_69, cq_69, ak_70, ln_70, cq_70, ak_71, ln_71, cq_71, ak_72, ln_72, cq_72, ak_73, ln_73, cq_73, pt_54_0, pt_54_1, pt_57_0, pt_57_3, pt_60_0, pt_60_1, pt_60_2, pt_60_4, pt_60_5, pt_60_6, pt_60_8, pt_63_0, pt_63_1, pt_63_2, pt_63_3, pt_63_4, pt_63_6, pt_63_7, pt_63_10, pt_63_11, pt_63_17, true_and, and_true, List.length_cons, List.length_nil, Nat.reduceAdd, Nat.reduceLeDiff, forall_eq, ne_eq, Nat.reduceEqDiff, not_false_eq_true, or_false, false_or, or_true, true_or, reduceCtorEq, Nat.zero_le, Nat.reduceMul, Nat.add_zero, false_and, and_false, false_implies, true_implies, forall_const, implies_true, List.append_nil, List.nil_append, List.cons_append, mb_i, mb_ii, mb_iii, mb_r, mb_ri, mb_rii, mb_riii, mb_rr, mb_rri, mb_rrii, mb_rriii, mb_riiiii, mb_rrr, mb_rir, mb_iiii, mb_riiii, tn_0, tn_1, tn_2, tn_3, tn_4, tn_5, tn_6, tc_0, tc_1, tc_2, tc_3, tc_4, tc_5, tc_6, xf_0, xf_1, xf_2, Sum.inl.injEq, Sum.inr.injEq, C_M_cost, C_M_doneAt, C_M_refuseFar, C_M_within])
    refine qV_ok h rfl (by rw [mS_db, mS_db]) (fr1_u (fr1_u (fr1_r M) (by decide)) (by decide))
  · (refine b_34 _ _ _ ?_; simp only [k_X7_cost_0, k_X7_cost_21, k_X7_cost_34, xp_1, xp_2, xp_3, xp_4, xp_5, xp_6, xp_7, xp_10, xp_11, xp_12, xp_13, xp_14, xp_15, xp_16, xp_17, xp_18, xp_19, xp_20, xp_21, xp_22, xp_23, xp_30, xp_31, xp_32, xp_33, xp_34, xp_35, xp_36, xp_37, xp_38, xp_39, xp_40, xp_41, xp_42, xp_43, xp_50, xp_51, xp_52, xp_53, xp_60, xp_61, xp_62, xp_63, xp_64, xp_65, xp_70, xp_80, xp_81, xp_82, up_ne, up_s, ud_s, ud_o, xw_0, xw_1, xg_0, xg_1, xl_i, xl_r, xs_0, xs_1, xq_i, xq_r, xq_v, xc_0, xc_1, xt_0, xt_1, xr_0, xr_1, xr_2, xe_0, xe_1, ob_0, ob_18, ob_36, ob_54, ak_55, ln_55, cq_55, ak_56, ln_56, cq_56, ob_57, ak_58, ln_58, cq_58, ak_59, ln_59, cq_59, ob_60, ak_61, ln_61, cq_61, ak_62, ln_62, cq_62, ob_63, ak_64, ln_64, cq_64, ak_65, ln_65, cq_65, ak_66, ln_66, cq_66, ak_67, ln_67, cq_67, ak_68, ln_68, cq_68, ak_69, ln_69, cq_69, ak_70, ln_70, cq_70, ak_71, ln_71, cq_71, ak_72, ln_72, cq_72, ak_73, ln_73, cq_73, pt_54_0, pt_54_1, pt_57_0, pt_57_3, pt_60_0, pt_60_1, pt_60_2, pt_60_4, pt_60_5, pt_60_6, pt_60_8, pt_63_0, pt_63_1, pt_63_2, pt_63_3, pt_63_4, pt_63_6, pt_63_7, pt_63_10, pt_63_11, pt_63_17, true_and, and_true, List.length_cons, List.length_nil, Nat.reduceAdd, Nat.reduceLeDiff, forall_eq, ne_eq, Nat.reduceEqDiff, not_false_eq_true, or_false, false_or, or_true, true_or, reduceCtorEq, Nat.zero_le, Nat.reduceMul, Nat.add_zero, false_and, and_false, false_implies, true_implies, forall_const, implies_true, List.append_nil, List.nil_append, List.cons_append, mb_i, mb_ii, mb_iii, mb_r, mb_ri, mb_rii, mb_riii, mb_rr, mb_rri, mb_rrii, mb_rriii, mb_riiiii, mb_rrr, mb_rir, mb_iiii, mb_riiii, tn_0, tn_1, tn_2, tn_3, tn_4, tn_5, tn_6, tc_0, tc_1, tc_2, tc_3, tc_4, tc_5, tc_6, xf_0, xf_1, xf_2, Sum.inl.injEq, Sum.inr.injEq, C_M_cost, C_M_doneAt, C_M_refuseFar, C_M_within])
    exact qV_no h

def C_M_done : mj_C := (3, rk1, fun avs M => ma_rii avs fun a m w => (a = 63 ∧ dS (mS M)), fun avs M r M' => ma_rii avs fun a m w => (r = .inl (F_done (mS M) m w).1 ∧ mS M' = (F_done (mS M) m w).2 ∧ fr1 M M'))
theorem rc_M_done : ∀ avs M, C_M_done.2.2.1 avs M → ∃ a r, avs = .inr a :: r ∧ mj_ob a = 7 := by
  intro avs M h
  obtain ⟨a, m, w, rfl, h⟩ := mc_rii h
  exact ⟨_, _, rfl, by rw [h.1]; rfl⟩
set_option maxRecDepth 20000 in
set_option maxHeartbeats 2000000 in
theorem t_M_done : mj_T yX7_done cX7_done 5 (some .int) 5 C_M_done := by
  refine mj_T_of (own := 7) (rk := 1) [(123, C_M_refuse), (149, C_M_isIn), (161, C_M_within), (456, C_M_doneAt)] (by decide) rfl (by decide) ⟨rfl, rfl⟩ (List.forall_mem_cons.mpr ⟨mj_KV (own := 7) (nest := false) t_M_refuse ⟨wc_X7_refuse, wi_X7, by decide, wl_7_41⟩ wn_X7_refuse ws_X7_refuse (c0 := 7) (by decide) rfl (by decide +kernel) rc_M_refuse (by decide), (List.forall_mem_cons.mpr ⟨mj_KS (own := 7) (nest := false) t_M_isIn ⟨wc_X7_isIn, wi_X7, by decide, wl_7_49⟩ wn_X7_isIn (by decide +kernel) (by decide), (List.forall_mem_cons.mpr ⟨mj_KS (own := 7) (nest := false) t_M_within ⟨wc_X7_within, wi_X7, by decide, wl_7_53⟩ wn_X7_within (by decide +kernel) (by decide), (List.forall_mem_cons.mpr ⟨mj_KV (own := 7) (nest := false) t_M_doneAt ⟨wc_X7_doneAt, wi_X7, by decide, wl_7_152⟩ wn_X7_doneAt ws_X7_doneAt (c0 := 7) (by decide) rfl (by decide +kernel) rc_M_doneAt (by decide), (fun _ h => absurd h List.not_mem_nil)⟩)⟩)⟩)⟩) ?_
  intro avs M hlen hpre V hV
  obtain ⟨a, m, w, rfl, hp⟩ := mc_rii hpre
  show V 0 [some (.inr a), some (.inl m), some (.inl w), none, none] [] M
  have b_0 := hV h_X7_done_0; have b_24 := hV h_X7_done_24; have b_34 := hV h_X7_done_34; have b_52 := hV h_X7_done_52; have b_54 := hV h_X7_done_54
  clear hlen hpre hV
  obtain ⟨rfl, hS⟩ := hp
  have h24 : ∀ (no : Int32) (L4 : Option mj_V), no = s_ft (s_wi m 0 300) (s_ot w 2) → V 24 [some (.inr 63), some (.inl m), some (.inl w), some (.inl no), L4] [] M := by
    intro no L4 hno
    (refine b_24 _ _ _ ?_; simp only [k_X7_done_0, k_X7_done_24, k_X7_done_34, k_X7_done_52, k_X7_done_54, xp_1, xp_2, xp_3, xp_4, xp_5, xp_6, xp_7, xp_10, xp_11, xp_12, xp_13, xp_14, xp_15, xp_16, xp_17, xp_18, xp_19, xp_20, xp_21, xp_22, xp_23, xp_30, xp_31, xp_32, xp_33, xp_34, xp_35, xp_36, xp_37, xp_38, xp_39, xp_40, xp_41, xp_42, xp_43, xp_50, xp_51, xp_52, xp_53, xp_60, xp_61, xp_62, xp_63, xp_64, xp_65, xp_70, xp_80, xp_81, xp_82, up_ne, up_s, ud_s, ud_o, xw_0, xw_1, xg_0, xg_1, xl_i, xl_r, xs_0, xs_1, xq_i, xq_r, xq_v, xc_0, xc_1, xt_0, xt_1, xr_0, xr_1, xr_2, xe_0, xe_1, ob_0, ob_18, ob_36, ob_54, ak_55, ln_55, cq_55, ak_56, ln_56, cq_56, ob_57, ak_58, ln_58, cq_58, ak_59, ln_59, cq_59, ob_60, ak_61, ln_61, cq_61, ak_62, ln_62, cq_62, ob_63, ak_64, ln_64, cq_64, ak_65, ln_65, cq_65, ak_66, ln_66, cq_66, ak_67, ln_67, cq_67, ak_68, ln_68, cq_68, ak_69, ln_69, cq_69, ak_70, ln_70, cq_70, ak_71, ln_71, cq_71, ak_72, ln_72, cq_72, ak_73, ln_73, cq_73, pt_54_0, pt_54_1, pt_57_0, pt_57_3, pt_60_0, pt_60_1, pt_60_2, pt_60_4, pt_60_5, pt_60_6, pt_60_8, pt_63_0, pt_63_1, pt_63_2, pt_63_3, pt_63_4, pt_63_6, pt_63_7, pt_63_10, pt_63_11, pt_63_17, true_and, and_true, List.length_cons, List.length_nil, Nat.reduceAdd, Nat.reduceLeDiff, forall_eq, ne_eq, Nat.reduceEqDiff, not_false_eq_true, or_false, false_or, or_true, true_or, reduceCtorEq, Nat.zero_le, Nat.reduceMul, Nat.add_zero, false_and, and_false, false_implies, true_implies, forall_const, implies_true, List.append_nil, List.nil_append, List.cons_append, mb_i, mb_ii, mb_iii, mb_r, mb_ri, mb_rii, mb_riii, mb_rr, mb_rri, mb_rrii, mb_rriii, mb_riiiii, mb_rrr, mb_rir, mb_iiii, mb_riiii, tn_0, tn_1, tn_2, tn_3, tn_4, tn_5, tn_6, tc_0, tc_1, tc_2, tc_3, tc_4, tc_5, tc_6, xf_0, xf_1, xf_2, Sum.inl.injEq, Sum.inr.injEq, C_M_done, C_M_doneAt, C_M_isIn, C_M_refuse, C_M_within])
    unfold F_done
    rw [mS_0, ← hno]
    refine ⟨fun h => ?_, fun h => ⟨?_, qF_no h⟩⟩
    · (refine b_34 _ _ _ ?_; simp only [k_X7_done_0, k_X7_done_24, k_X7_done_34, k_X7_done_52, k_X7_done_54, xp_1, xp_2, xp_3, xp_4, xp_5, xp_6, xp_7, xp_10, xp_11, xp_12, xp_13, xp_14, xp_15, xp_16, xp_17, xp_18, xp_19, xp_20, xp_21, xp_22, xp_23, xp_30, xp_31, xp_32, xp_33, xp_34, xp_35, xp_36, xp_37, xp_38, xp_39, xp_40, xp_41, xp_42, xp_43, xp_50, xp_51, xp_52, xp_53, xp_60, xp_61, xp_62, xp_63, xp_64, xp_65, xp_70, xp_80, xp_81, xp_82, up_ne, up_s, ud_s, ud_o, xw_0, xw_1, xg_0, xg_1, xl_i, xl_r, xs_0, xs_1, xq_i, xq_r, xq_v, xc_0, xc_1, xt_0, xt_1, xr_0, xr_1, xr_2, xe_0, xe_1, ob_0, ob_18, ob_36, ob_54, ak_55, ln_55, cq_55, ak_56, ln_56, cq_56, ob_57, ak_58, ln_58, cq_58, ak_59, ln_59, cq_59, ob_60, ak_61, ln_61, cq_61, ak_62, ln_62, cq_62, ob_63, ak_64, ln_64, cq_64, ak_65, ln_65, cq_65, ak_66, ln_66, cq_66, ak_67, ln_67, cq_67, ak_68, ln_68, cq_68, ak_69, ln_69, cq_69, ak_70, ln_70, cq_70, ak_71, ln_71, cq_71, ak_72, ln_72, cq_72, ak_73, ln_73, cq_73, pt_54_0, pt_54_1, pt_57_0, pt_57_3, pt_60_0, pt_60_1, pt_60_2, pt_60_4, pt_60_5, pt_60_6, pt_60_8, pt_63_0, pt_63_1, pt_63_2, pt_63_3, pt_63_4, pt_63_6, pt_63_7, pt_63_10, pt_63_11, pt_63_17, true_and, and_true, List.length_cons, List.length_nil, Nat.reduceAdd, Nat.reduceLeDiff, forall_eq, ne_eq, Nat.reduceEqDiff, not_false_eq_true, or_false, false_or, or_true, true_or, reduceCtorEq, Nat.zero_le, Nat.reduceMul, Nat.add_zero, false_and, and_false, false_implies, true_implies, forall_const, implies_true, List.append_nil, List.nil_append, List.cons_append, mb_i, mb_ii, mb_iii, mb_r, mb_ri, mb_rii, mb_riii, mb_rr, mb_rri, mb_rrii, mb_rriii, mb_riiiii, mb_rrr, mb_rir, mb_iiii, mb_riiii, tn_0, tn_1, tn_2, tn_3, tn_4, tn_5, tn_6, tc_0, tc_1, tc_2, tc_3, tc_4, tc_5, tc_6, xf_0, xf_1, xf_2, Sum.inl.injEq, Sum.inr.injEq, C_M_done, C_M_doneAt, C_M_isIn, C_M_refuse, C_M_within])
      refine ⟨hS.1.2.2.1, fun hw => ?_, fun hw => ?_⟩
      · (refine b_52 _ _ _ ?_; simp only [k_X7_done_0, k_X7_done_24, k_X7_done_34, k_X7_done_52, k_X7_done_54, xp_1, xp_2, xp_3, xp_4, xp_5, xp_6, xp_7, xp_10, xp_11, xp_12, xp_13, xp_14, xp_15, xp_16, xp_17, xp_18, xp_19, xp_20, xp_21, xp_22, xp_23, xp_30, xp_31, xp_32, xp_33, xp_34, xp_35, xp_36, xp_37, xp_38, xp_39, xp_40, xp_41, xp_42, xp_43, xp_50, xp_51, xp_52, xp_53, xp_60, xp_61, xp_62, xp_63, xp_64, xp_65, xp_70, xp_80, xp_81, xp_82, up_ne, up_s, ud_s, ud_o, xw_0, xw_1, xg_0, xg_1, xl_i, xl_r, xs_0, xs_1, xq_i, xq_r, xq_v, xc_0, xc_1, xt_0, xt_1, xr_0, xr_1, xr_2, xe_0, xe_1, ob_0, ob_18, ob_36, ob_54, ak_55, ln_55, cq_55, ak_56, ln_56, cq_56, ob_57, ak_58, ln_58, cq_58, ak_59, ln_59, cq_59, ob_60, ak_61, ln_61, cq_61, ak_62, ln_62, cq_62, ob_63, ak_64, ln_64, cq_64, ak_65, ln_65, cq_65, ak_66, ln_66, cq_66, ak_67, ln_67, cq_67, ak_68, ln_68, cq_68, ak_69, ln_69, cq_69, ak_70, ln_70, cq_70, ak_71, ln_71, cq_71, ak_72, ln_72, cq_72, ak_73, ln_73, cq_73, pt_54_0, pt_54_1, pt_57_0, pt_57_3, pt_60_0, pt_60_1, pt_60_2, pt_60_4, pt_60_5, pt_60_6, pt_60_8, pt_63_0, pt_63_1, pt_63_2, pt_63_3, pt_63_4, pt_63_6, pt_63_7, pt_63_10, pt_63_11, pt_63_17, true_and, and_true, List.length_cons, List.length_nil, Nat.reduceAdd, Nat.reduceLeDiff, forall_eq, ne_eq, Nat.reduceEqDiff, not_false_eq_true, or_false, false_or, or_true, true_or, reduceCtorEq, Nat.zero_le, Nat.reduceMul, Nat.add_zero, false_and, and_false, false_implies, true_implies, forall_const, implies_true, List.append_nil, List.nil_append, List.cons_append, mb_i, mb_ii, mb_iii, mb_r, mb_ri, mb_rii, mb_riii, mb_rr, mb_rri, mb_rrii, mb_rriii, mb_riiiii, mb_rrr, mb_rir, mb_iiii, mb_riiii, tn_0, tn_1, tn_2, tn_3, tn_4, tn_5, tn_6, tc_0, tc_1, tc_2, tc_3, tc_4, tc_5, tc_6, xf_0, xf_1, xf_2, Sum.inl.injEq, Sum.inr.injEq, C_M_done, C_M_doneAt, C_M_isIn, C_M_refuse, C_M_within])
        (refine b_54 _ _ _ ?_; simp only [k_X7_done_0, k_X7_done_24, k_X7_done_34, k_X7_done_52, k_X7_done_54, xp_1, xp_2, xp_3, xp_4, xp_5, xp_6, xp_7, xp_10, xp_11, xp_12, xp_13, xp_14, xp_15, xp_16, xp_17, xp_18, xp_19, xp_20, xp_21, xp_22, xp_23, xp_30, xp_31, xp_32, xp_33, xp_34, xp_35, xp_36, xp_37, xp_38, xp_39, xp_40, xp_41, xp_42, xp_43, xp_50, xp_51, xp_52, xp_53, xp_60, xp_61, xp_62, xp_63, xp_64, xp_65, xp_70, xp_80, xp_81, xp_82, up_ne, up_s, ud_s, ud_o, xw_0, xw_1, xg_0, xg_1, xl_i, xl_r, xs_0, xs_1, xq_i, xq_r, xq_v, xc_0, xc_1, xt_0, xt_1, xr_0, xr_1, xr_2, xe_0, xe_1, ob_0, ob_18, ob_36, ob_54, ak_55, ln_55, cq_55, ak_56, ln_56, cq_56, ob_57, ak_58, ln_58, cq_58, ak_59, ln_59, cq_59, ob_60, ak_61, ln_61, cq_61, ak_62, ln_62, cq_62, ob_63, ak_64, ln_64, cq_64, ak_65, ln_65, cq_65, ak_66, ln_66, cq_66, ak_67, ln_67, cq_67, ak_68, ln_68, cq_68, ak_69, ln_69, cq_69, ak_70, ln_70, cq_70, ak_71, ln_71, cq_71, ak_72, ln_72, cq_72, ak_73, ln_73, cq_73, pt_54_0, pt_54_1, pt_57_0, pt_57_3, pt_60_0, pt_60_1, pt_60_2, pt_60_4, pt_60_5, pt_60_6, pt_60_8, pt_63_0, pt_63_1, pt_63_2, pt_63_3, pt_63_4, pt_63_6, pt_63_7, pt_63_10, pt_63_11, pt_63_17, true_and, and_true, List.length_cons, List.length_nil, Nat.reduceAdd, Nat.reduceLeDiff, forall_eq, ne_eq, Nat.reduceEqDiff, not_false_eq_true, or_false, false_or, or_true, true_or, reduceCtorEq, Nat.zero_le, Nat.reduceMul, Nat.add_zero, false_and, and_false, false_implies, true_implies, forall_const, implies_true, List.append_nil, List.nil_append, List.cons_append, mb_i, mb_ii, mb_iii, mb_r, mb_ri, mb_rii, mb_riii, mb_rr, mb_rri, mb_rrii, mb_rriii, mb_riiiii, mb_rrr, mb_rir, mb_iiii, mb_riiii, tn_0, tn_1, tn_2, tn_3, tn_4, tn_5, tn_6, tc_0, tc_1, tc_2, tc_3, tc_4, tc_5, tc_6, xf_0, xf_1, xf_2, Sum.inl.injEq, Sum.inr.injEq, C_M_done, C_M_doneAt, C_M_isIn, C_M_refuse, C_M_within])
        unfold F_done
        rw [mS_0, ← hno]
        exact qF_ok h (by rw [if_neg hw]) mS_db (fr1_u (fr1_r M) (by decide))
      · (refine b_54 _ _ _ ?_; simp only [k_X7_done_0, k_X7_done_24, k_X7_done_34, k_X7_done_52, k_X7_done_54, xp_1, xp_2, xp_3, xp_4, xp_5, xp_6, xp_7, xp_10, xp_11, xp_12, xp_13, xp_14, xp_15, xp_16, xp_17, xp_18, xp_19, xp_20, xp_21, xp_22, xp_23, xp_30, xp_31, xp_32, xp_33, xp_34, xp_35, xp_36, xp_37, xp_38, xp_39, xp_40, xp_41, xp_42, xp_43, xp_50, xp_51, xp_52, xp_53, xp_60, xp_61, xp_62, xp_63, xp_64, xp_65, xp_70, xp_80, xp_81, xp_82, up_ne, up_s, ud_s, ud_o, xw_0, xw_1, xg_0, xg_1, xl_i, xl_r, xs_0, xs_1, xq_i, xq_r, xq_v, xc_0, xc_1, xt_0, xt_1, xr_0, xr_1, xr_2, xe_0, xe_1, ob_0, ob_18, ob_36, ob_54, ak_55, ln_55, cq_55, ak_56, ln_56, cq_56, ob_57, ak_58, ln_58, cq_58, ak_59, ln_59, cq_59, ob_60, ak_61, ln_61, cq_61, ak_62, ln_62, cq_62, ob_63, ak_64, ln_64, cq_64, ak_65, ln_65, cq_65, ak_66, ln_66, cq_66, ak_67, ln_67, cq_67, ak_68, ln_68, cq_68, ak_69, ln_69, cq_69, ak_70, ln_70, cq_70, ak_71, ln_71, cq_71, ak_72, ln_72, cq_72, ak_73, ln_73, cq_73, pt_54_0, pt_54_1, pt_57_0, pt_57_3, pt_60_0, pt_60_1, pt_60_2, pt_60_4, pt_60_5, pt_60_6, pt_60_8, pt_63_0, pt_63_1, pt_63_2, pt_63_3, pt_63_4, pt_63_6, pt_63_7, pt_63_10, pt_63_11, pt_63_17, true_and, and_true, List.length_cons, List.length_nil, Nat.reduceAdd, Nat.reduceLeDiff, forall_eq, ne_eq, Nat.reduceEqDiff, not_false_eq_true, or_false, false_or, or_true, true_or, reduceCtorEq, Nat.zero_le, Nat.reduceMul, Nat.add_zero, false_and, and_false, false_implies, true_implies, forall_const, implies_true, List.append_nil, List.nil_append, List.cons_append, mb_i, mb_ii, mb_iii, mb_r, mb_ri, mb_rii, mb_riii, mb_rr, mb_rri, mb_rrii, mb_rriii, mb_riiiii, mb_rrr, mb_rir, mb_iiii, mb_riiii, tn_0, tn_1, tn_2, tn_3, tn_4, tn_5, tn_6, tc_0, tc_1, tc_2, tc_3, tc_4, tc_5, tc_6, xf_0, xf_1, xf_2, Sum.inl.injEq, Sum.inr.injEq, C_M_done, C_M_doneAt, C_M_isIn, C_M_refuse, C_M_within])
        unfold F_done
        rw [mS_0, ← hno]
        exact qF_ok h (by rw [if_pos hw]) mS_db (fr1_u (fr1_r M) (by decide))
    · rw [hno] at h ⊢
      unfold s_ft at h ⊢
      split
      · rename_i e
        rw [if_pos e] at h
        exact ot_rc h
      · rename_i e
        exact s_wi_rc e
  (refine b_0 _ _ _ ?_; simp only [k_X7_done_0, k_X7_done_24, k_X7_done_34, k_X7_done_52, k_X7_done_54, xp_1, xp_2, xp_3, xp_4, xp_5, xp_6, xp_7, xp_10, xp_11, xp_12, xp_13, xp_14, xp_15, xp_16, xp_17, xp_18, xp_19, xp_20, xp_21, xp_22, xp_23, xp_30, xp_31, xp_32, xp_33, xp_34, xp_35, xp_36, xp_37, xp_38, xp_39, xp_40, xp_41, xp_42, xp_43, xp_50, xp_51, xp_52, xp_53, xp_60, xp_61, xp_62, xp_63, xp_64, xp_65, xp_70, xp_80, xp_81, xp_82, up_ne, up_s, ud_s, ud_o, xw_0, xw_1, xg_0, xg_1, xl_i, xl_r, xs_0, xs_1, xq_i, xq_r, xq_v, xc_0, xc_1, xt_0, xt_1, xr_0, xr_1, xr_2, xe_0, xe_1, ob_0, ob_18, ob_36, ob_54, ak_55, ln_55, cq_55, ak_56, ln_56, cq_56, ob_57, ak_58, ln_58, cq_58, ak_59, ln_59, cq_59, ob_60, ak_61, ln_61, cq_61, ak_62, ln_62, cq_62, ob_63, ak_64, ln_64, cq_64, ak_65, ln_65, cq_65, ak_66, ln_66, cq_66, ak_67, ln_67, cq_67, ak_68, ln_68, cq_68, ak_69, ln_69, cq_69, ak_70, ln_70, cq_70, ak_71, ln_71, cq_71, ak_72, ln_72, cq_72, ak_73, ln_73, cq_73, pt_54_0, pt_54_1, pt_57_0, pt_57_3, pt_60_0, pt_60_1, pt_60_2, pt_60_4, pt_60_5, pt_60_6, pt_60_8, pt_63_0, pt_63_1, pt_63_2, pt_63_3, pt_63_4, pt_63_6, pt_63_7, pt_63_10, pt_63_11, pt_63_17, true_and, and_true, List.length_cons, List.length_nil, Nat.reduceAdd, Nat.reduceLeDiff, forall_eq, ne_eq, Nat.reduceEqDiff, not_false_eq_true, or_false, false_or, or_true, true_or, reduceCtorEq, Nat.zero_le, Nat.reduceMul, Nat.add_zero, false_and, and_false, false_implies, true_implies, forall_const, implies_true, List.append_nil, List.nil_append, List.cons_append, mb_i, mb_ii, mb_iii, mb_r, mb_ri, mb_rii, mb_riii, mb_rr, mb_rri, mb_rrii, mb_rriii, mb_riiiii, mb_rrr, mb_rir, mb_iiii, mb_riiii, tn_0, tn_1, tn_2, tn_3, tn_4, tn_5, tn_6, tc_0, tc_1, tc_2, tc_3, tc_4, tc_5, tc_6, xf_0, xf_1, xf_2, Sum.inl.injEq, Sum.inr.injEq, C_M_done, C_M_doneAt, C_M_isIn, C_M_refuse, C_M_within])
  refine ⟨fun h => h24 _ _ (by unfold s_ft; rw [if_neg h]), fun h => ⟨fun h2 => h24 _ _ (by unfold s_ft; rw [if_pos h, ot_1 h2, h]), fun h2 => h24 _ _ (by unfold s_ft; rw [if_pos h, ot_0 h2])⟩⟩

def C_M_row : mj_C := (2, rk1, fun avs M => ma_ri avs fun a v => (a = 63 ∧ dS (mS M)), fun avs M r M' => ma_ri avs fun a v => (r = .inl (F_row (mS M) v).1 ∧ mS M' = (F_row (mS M) v).2 ∧ fr1 M M'))
theorem rc_M_row : ∀ avs M, C_M_row.2.2.1 avs M → ∃ a r, avs = .inr a :: r ∧ mj_ob a = 7 := by
  intro avs M h
  obtain ⟨a, v, rfl, h⟩ := mc_ri h
  exact ⟨_, _, rfl, by rw [h.1]; rfl⟩
set_option maxRecDepth 20000 in
set_option maxHeartbeats 2000000 in
theorem t_M_row : mj_T yX7_row cX7_row 3 (some .int) 5 C_M_row := by
  refine mj_T_of (own := 7) (rk := 1) [(123, C_M_refuse), (161, C_M_within)] (by decide) rfl (by decide) ⟨rfl, rfl⟩ (List.forall_mem_cons.mpr ⟨mj_KV (own := 7) (nest := false) t_M_refuse ⟨wc_X7_refuse, wi_X7, by decide, wl_7_41⟩ wn_X7_refuse ws_X7_refuse (c0 := 7) (by decide) rfl (by decide +kernel) rc_M_refuse (by decide), (List.forall_mem_cons.mpr ⟨mj_KS (own := 7) (nest := false) t_M_within ⟨wc_X7_within, wi_X7, by decide, wl_7_53⟩ wn_X7_within (by decide +kernel) (by decide), (fun _ h => absurd h List.not_mem_nil)⟩)⟩) ?_
  intro avs M hlen hpre V hV
  obtain ⟨a, v, rfl, hp⟩ := mc_ri hpre
  show V 0 [some (.inr a), some (.inl v), none] [] M
  have b_0 := hV h_X7_row_0; have b_25 := hV h_X7_row_25; have b_35 := hV h_X7_row_35
  clear hlen hpre hV
  obtain ⟨rfl, hS⟩ := hp
  have h25 : ∀ no : Int32, no = (if s_wi v 0 300 = 0 then (if M 63 18 = 8 then -6 else 0) else s_wi v 0 300) → V 25 [some (.inr 63), some (.inl v), some (.inl no)] [] M := by
    intro no hno
    (refine b_25 _ _ _ ?_; simp only [k_X7_row_0, k_X7_row_25, k_X7_row_35, xp_1, xp_2, xp_3, xp_4, xp_5, xp_6, xp_7, xp_10, xp_11, xp_12, xp_13, xp_14, xp_15, xp_16, xp_17, xp_18, xp_19, xp_20, xp_21, xp_22, xp_23, xp_30, xp_31, xp_32, xp_33, xp_34, xp_35, xp_36, xp_37, xp_38, xp_39, xp_40, xp_41, xp_42, xp_43, xp_50, xp_51, xp_52, xp_53, xp_60, xp_61, xp_62, xp_63, xp_64, xp_65, xp_70, xp_80, xp_81, xp_82, up_ne, up_s, ud_s, ud_o, xw_0, xw_1, xg_0, xg_1, xl_i, xl_r, xs_0, xs_1, xq_i, xq_r, xq_v, xc_0, xc_1, xt_0, xt_1, xr_0, xr_1, xr_2, xe_0, xe_1, ob_0, ob_18, ob_36, ob_54, ak_55, ln_55, cq_55, ak_56, ln_56, cq_56, ob_57, ak_58, ln_58, cq_58, ak_59, ln_59, cq_59, ob_60, ak_61, ln_61, cq_61, ak_62, ln_62, cq_62, ob_63, ak_64, ln_64, cq_64, ak_65, ln_65, cq_65, ak_66, ln_66, cq_66, ak_67, ln_67, cq_67, ak_68, ln_68, cq_68, ak_69, ln_69, cq_69, ak_70, ln_70, cq_70, ak_71, ln_71, cq_71, ak_72, ln_72, cq_72, ak_73, ln_73, cq_73, pt_54_0, pt_54_1, pt_57_0, pt_57_3, pt_60_0, pt_60_1, pt_60_2, pt_60_4, pt_60_5, pt_60_6, pt_60_8, pt_63_0, pt_63_1, pt_63_2, pt_63_3, pt_63_4, pt_63_6, pt_63_7, pt_63_10, pt_63_11, pt_63_17, true_and, and_true, List.length_cons, List.length_nil, Nat.reduceAdd, Nat.reduceLeDiff, forall_eq, ne_eq, Nat.reduceEqDiff, not_false_eq_true, or_false, false_or, or_true, true_or, reduceCtorEq, Nat.zero_le, Nat.reduceMul, Nat.add_zero, false_and, and_false, false_implies, true_implies, forall_const, implies_true, List.append_nil, List.nil_append, List.cons_append, mb_i, mb_ii, mb_iii, mb_r, mb_ri, mb_rii, mb_riii, mb_rr, mb_rri, mb_rrii, mb_rriii, mb_riiiii, mb_rrr, mb_rir, mb_iiii, mb_riiii, tn_0, tn_1, tn_2, tn_3, tn_4, tn_5, tn_6, tc_0, tc_1, tc_2, tc_3, tc_4, tc_5, tc_6, xf_0, xf_1, xf_2, Sum.inl.injEq, Sum.inr.injEq, C_M_refuse, C_M_row, C_M_within])
    refine ⟨fun h => ?_, fun h => ⟨?_, ?_⟩⟩
    · have hc : s_wi v 0 300 = 0 ∧ ¬ M 63 18 = 8 := by
        rw [hno] at h
        split at h
        · split at h
          · exact absurd h (by decide)
          · exact ⟨by assumption, by assumption⟩
        · exact absurd h (by assumption)
      (refine b_35 _ _ _ ?_; simp only [k_X7_row_0, k_X7_row_25, k_X7_row_35, xp_1, xp_2, xp_3, xp_4, xp_5, xp_6, xp_7, xp_10, xp_11, xp_12, xp_13, xp_14, xp_15, xp_16, xp_17, xp_18, xp_19, xp_20, xp_21, xp_22, xp_23, xp_30, xp_31, xp_32, xp_33, xp_34, xp_35, xp_36, xp_37, xp_38, xp_39, xp_40, xp_41, xp_42, xp_43, xp_50, xp_51, xp_52, xp_53, xp_60, xp_61, xp_62, xp_63, xp_64, xp_65, xp_70, xp_80, xp_81, xp_82, up_ne, up_s, ud_s, ud_o, xw_0, xw_1, xg_0, xg_1, xl_i, xl_r, xs_0, xs_1, xq_i, xq_r, xq_v, xc_0, xc_1, xt_0, xt_1, xr_0, xr_1, xr_2, xe_0, xe_1, ob_0, ob_18, ob_36, ob_54, ak_55, ln_55, cq_55, ak_56, ln_56, cq_56, ob_57, ak_58, ln_58, cq_58, ak_59, ln_59, cq_59, ob_60, ak_61, ln_61, cq_61, ak_62, ln_62, cq_62, ob_63, ak_64, ln_64, cq_64, ak_65, ln_65, cq_65, ak_66, ln_66, cq_66, ak_67, ln_67, cq_67, ak_68, ln_68, cq_68, ak_69, ln_69, cq_69, ak_70, ln_70, cq_70, ak_71, ln_71, cq_71, ak_72, ln_72, cq_72, ak_73, ln_73, cq_73, pt_54_0, pt_54_1, pt_57_0, pt_57_3, pt_60_0, pt_60_1, pt_60_2, pt_60_4, pt_60_5, pt_60_6, pt_60_8, pt_63_0, pt_63_1, pt_63_2, pt_63_3, pt_63_4, pt_63_6, pt_63_7, pt_63_10, pt_63_11, pt_63_17, true_and, and_true, List.length_cons, List.length_nil, Nat.reduceAdd, Nat.reduceLeDiff, forall_eq, ne_eq, Nat.reduceEqDiff, not_false_eq_true, or_false, false_or, or_true, true_or, reduceCtorEq, Nat.zero_le, Nat.reduceMul, Nat.add_zero, false_and, and_false, false_implies, true_implies, forall_const, implies_true, List.append_nil, List.nil_append, List.cons_append, mb_i, mb_ii, mb_iii, mb_r, mb_ri, mb_rii, mb_riii, mb_rr, mb_rri, mb_rrii, mb_rriii, mb_riiiii, mb_rrr, mb_rir, mb_iiii, mb_riiii, tn_0, tn_1, tn_2, tn_3, tn_4, tn_5, tn_6, tc_0, tc_1, tc_2, tc_3, tc_4, tc_5, tc_6, xf_0, xf_1, xf_2, Sum.inl.injEq, Sum.inr.injEq, C_M_refuse, C_M_row, C_M_within])
      obtain ⟨b1, b2⟩ := hS.2.2.2.2.2
      rw [mS_52] at b1 b2
      have h3 : ¬ (M 63 18).toInt = (8 : Int32).toInt := fun z => hc.2 (ti_eq.mpr z)
      have e : (8 : Int32).toInt = 8 := rfl
      refine ⟨vi_x b1 (by omega), ?_, ?_, fr1_u (fr1_u (fr1_r M) (by decide)) (by decide)⟩
      · simp [F_row, mS_0, mS_1, mS_2, mS_3, mS_4, mS_50, mS_51, mS_52, mS_bp, mS_u0, mS_u2, mS_u3, mS_n0, mS_n1, mS_n2, mS_db, hc.1, hc.2]
      · simp [F_row, mS_0, mS_1, mS_2, mS_3, mS_4, mS_50, mS_51, mS_52, mS_bp, mS_u0, mS_u2, mS_u3, mS_n0, mS_n1, mS_n2, mS_db, hc.1, hc.2]
    · rw [hno] at h ⊢
      split
      · split
        · exact rc6
        · rename_i e1 e2
          rw [if_pos e1, if_neg e2] at h
          exact absurd rfl h
      · rename_i e1
        exact s_wi_rc e1
    · unfold F_row
      rw [mS_52]
      rw [hno] at h ⊢
      split
      · rename_i e1
        rw [if_pos e1] at h
        split
        · exact ⟨rfl, mS_bp, fr1_b (fr1_r M) (by decide)⟩
        · rename_i e2
          rw [if_neg e2] at h
          exact absurd rfl h
      · exact ⟨rfl, mS_bp, fr1_b (fr1_r M) (by decide)⟩
  (refine b_0 _ _ _ ?_; simp only [k_X7_row_0, k_X7_row_25, k_X7_row_35, xp_1, xp_2, xp_3, xp_4, xp_5, xp_6, xp_7, xp_10, xp_11, xp_12, xp_13, xp_14, xp_15, xp_16, xp_17, xp_18, xp_19, xp_20, xp_21, xp_22, xp_23, xp_30, xp_31, xp_32, xp_33, xp_34, xp_35, xp_36, xp_37, xp_38, xp_39, xp_40, xp_41, xp_42, xp_43, xp_50, xp_51, xp_52, xp_53, xp_60, xp_61, xp_62, xp_63, xp_64, xp_65, xp_70, xp_80, xp_81, xp_82, up_ne, up_s, ud_s, ud_o, xw_0, xw_1, xg_0, xg_1, xl_i, xl_r, xs_0, xs_1, xq_i, xq_r, xq_v, xc_0, xc_1, xt_0, xt_1, xr_0, xr_1, xr_2, xe_0, xe_1, ob_0, ob_18, ob_36, ob_54, ak_55, ln_55, cq_55, ak_56, ln_56, cq_56, ob_57, ak_58, ln_58, cq_58, ak_59, ln_59, cq_59, ob_60, ak_61, ln_61, cq_61, ak_62, ln_62, cq_62, ob_63, ak_64, ln_64, cq_64, ak_65, ln_65, cq_65, ak_66, ln_66, cq_66, ak_67, ln_67, cq_67, ak_68, ln_68, cq_68, ak_69, ln_69, cq_69, ak_70, ln_70, cq_70, ak_71, ln_71, cq_71, ak_72, ln_72, cq_72, ak_73, ln_73, cq_73, pt_54_0, pt_54_1, pt_57_0, pt_57_3, pt_60_0, pt_60_1, pt_60_2, pt_60_4, pt_60_5, pt_60_6, pt_60_8, pt_63_0, pt_63_1, pt_63_2, pt_63_3, pt_63_4, pt_63_6, pt_63_7, pt_63_10, pt_63_11, pt_63_17, true_and, and_true, List.length_cons, List.length_nil, Nat.reduceAdd, Nat.reduceLeDiff, forall_eq, ne_eq, Nat.reduceEqDiff, not_false_eq_true, or_false, false_or, or_true, true_or, reduceCtorEq, Nat.zero_le, Nat.reduceMul, Nat.add_zero, false_and, and_false, false_implies, true_implies, forall_const, implies_true, List.append_nil, List.nil_append, List.cons_append, mb_i, mb_ii, mb_iii, mb_r, mb_ri, mb_rii, mb_riii, mb_rr, mb_rri, mb_rrii, mb_rriii, mb_riiiii, mb_rrr, mb_rir, mb_iiii, mb_riiii, tn_0, tn_1, tn_2, tn_3, tn_4, tn_5, tn_6, tc_0, tc_1, tc_2, tc_3, tc_4, tc_5, tc_6, xf_0, xf_1, xf_2, Sum.inl.injEq, Sum.inr.injEq, C_M_refuse, C_M_row, C_M_within])
  refine ⟨fun h => h25 _ (by rw [if_neg h]), fun h => ⟨fun h2 => h25 _ (by rw [if_pos h, if_neg h2, h]), fun h2 => h25 _ (by rw [if_pos h, if_pos h2])⟩⟩

def C_M_clear : mj_C := (1, rk1, fun avs M => ma_r avs fun a => (a = 63 ∧ dS (mS M)), fun avs M r M' => ma_r avs fun a => (r = .inl (F_clear (mS M)).1 ∧ mS M' = (F_clear (mS M)).2 ∧ fr1 M M'))
theorem rc_M_clear : ∀ avs M, C_M_clear.2.2.1 avs M → ∃ a r, avs = .inr a :: r ∧ mj_ob a = 7 := by
  intro avs M h
  obtain ⟨a, rfl, h⟩ := mc_r h
  exact ⟨_, _, rfl, by rw [h.1]; rfl⟩
set_option maxRecDepth 20000 in
set_option maxHeartbeats 2000000 in
theorem t_M_clear : mj_T yX7_clear cX7_clear 2 (some .int) 5 C_M_clear := by
  refine mj_T_of (own := 7) (rk := 1) [] (by decide) rfl (by decide) ⟨rfl, rfl⟩ (fun _ h => absurd h List.not_mem_nil) ?_
  intro avs M hlen hpre V hV
  obtain ⟨a, rfl, hp⟩ := mc_r hpre
  show V 0 [some (.inr a), none] [] M
  have b_0 := hV h_X7_clear_0
  clear hlen hpre hV
  obtain ⟨rfl, hS⟩ := hp
  (refine b_0 _ _ _ ?_; simp only [k_X7_clear_0, xp_1, xp_2, xp_3, xp_4, xp_5, xp_6, xp_7, xp_10, xp_11, xp_12, xp_13, xp_14, xp_15, xp_16, xp_17, xp_18, xp_19, xp_20, xp_21, xp_22, xp_23, xp_30, xp_31, xp_32, xp_33, xp_34, xp_35, xp_36, xp_37, xp_38, xp_39, xp_40, xp_41, xp_42, xp_43, xp_50, xp_51, xp_52, xp_53, xp_60, xp_61, xp_62, xp_63, xp_64, xp_65, xp_70, xp_80, xp_81, xp_82, up_ne, up_s, ud_s, ud_o, xw_0, xw_1, xg_0, xg_1, xl_i, xl_r, xs_0, xs_1, xq_i, xq_r, xq_v, xc_0, xc_1, xt_0, xt_1, xr_0, xr_1, xr_2, xe_0, xe_1, ob_0, ob_18, ob_36, ob_54, ak_55, ln_55, cq_55, ak_56, ln_56, cq_56, ob_57, ak_58, ln_58, cq_58, ak_59, ln_59, cq_59, ob_60, ak_61, ln_61, cq_61, ak_62, ln_62, cq_62, ob_63, ak_64, ln_64, cq_64, ak_65, ln_65, cq_65, ak_66, ln_66, cq_66, ak_67, ln_67, cq_67, ak_68, ln_68, cq_68, ak_69, ln_69, cq_69, ak_70, ln_70, cq_70, ak_71, ln_71, cq_71, ak_72, ln_72, cq_72, ak_73, ln_73, cq_73, pt_54_0, pt_54_1, pt_57_0, pt_57_3, pt_60_0, pt_60_1, pt_60_2, pt_60_4, pt_60_5, pt_60_6, pt_60_8, pt_63_0, pt_63_1, pt_63_2, pt_63_3, pt_63_4, pt_63_6, pt_63_7, pt_63_10, pt_63_11, pt_63_17, true_and, and_true, List.length_cons, List.length_nil, Nat.reduceAdd, Nat.reduceLeDiff, forall_eq, ne_eq, Nat.reduceEqDiff, not_false_eq_true, or_false, false_or, or_true, true_or, reduceCtorEq, Nat.zero_le, Nat.reduceMul, Nat.add_zero, false_and, and_false, false_implies, true_implies, forall_const, implies_true, List.append_nil, List.nil_append, List.cons_append, mb_i, mb_ii, mb_iii, mb_r, mb_ri, mb_rii, mb_riii, mb_rr, mb_rri, mb_rrii, mb_rriii, mb_riiiii, mb_rrr, mb_rir, mb_iiii, mb_riiii, tn_0, tn_1, tn_2, tn_3, tn_4, tn_5, tn_6, tc_0, tc_1, tc_2, tc_3, tc_4, tc_5, tc_6, xf_0, xf_1, xf_2, Sum.inl.injEq, Sum.inr.injEq, C_M_clear])
  exact ⟨rfl, mS_n2, fr1_u (fr1_r M) (by decide)⟩
end
section
/-! rooms with a number changed; what is only thought of -/
theorem ud_f {f : Nat → Int32} {k j : Nat} {x : Int32} : upd f k x j = if j = k then x else f j := rfl
theorem dR_clk {r : Nat → Int32} (h : dR r) {c : Nat} {k : Nat} {v : Int32} (hc : c < tn (r 1)) (hk : (k = 2 ∧ bd v 0 300) ∨ (k = 3 ∧ bd v 1 20)) : dR (upd r (23 + 5 * c + k) v) := by
  obtain ⟨r0, r1, r2, r3, r4, r5, r6, rs, rc, rt, rz⟩ := h
  have hr1 := tn_of r1.1
  have hr12 := r1.2
  have e : ∀ j, j ≠ 23 + 5 * c + k → upd r (23 + 5 * c + k) v j = r j := fun j h => ud_o h
  have hk2 : k = 2 ∨ k = 3 := by omega
  have e0 := e 0 (by omega); have e1 := e 1 (by omega); have e2 := e 2 (by omega); have e3 := e 3 (by omega); have e4 := e 4 (by omega); have e5 := e 5 (by omega); have e6 := e 6 (by omega)
  have hr0 := tn_of r0.1
  have hr02 := r0.2
  have hr2 := tn_of r2.1
  unfold dR
  rw [e0, e1, e2, e3, e4, e5, e6]
  refine ⟨r0, r1, r2, r3, r4, r5, r6, fun i hi => ?_, fun d hd => ?_, fun t ht => ?_, fun j hj => ?_⟩
  · rw [e _ (by omega), e _ (by omega), e _ (by omega), e _ (by omega)]
    exact rs i hi
  · rw [e (23 + 5 * d) (by omega), e (23 + 5 * d + 1) (by omega), e (23 + 5 * d + 4) (by omega)]
    obtain ⟨a1, a2, a3, a4, a5, a6⟩ := rc d hd
    refine ⟨a1, a2, a3, ?_, ?_, a6⟩
    · by_cases q : 23 + 5 * d + 2 = 23 + 5 * c + k
      · rw [q, ud_s]
        rcases hk with ⟨-, hv⟩ | ⟨hk, hv⟩
        · exact hv
        · omega
      · rw [e _ q]; exact a4
    · by_cases q : 23 + 5 * d + 3 = 23 + 5 * c + k
      · rw [q, ud_s]
        rcases hk with ⟨hk, hv⟩ | ⟨-, hv⟩
        · omega
        · exact hv
      · rw [e _ q]; exact a5
  · rw [e _ (by omega), e _ (by omega)]
    exact rt t ht
  · rw [e _ (by omega)]
    exact rz j hj
theorem dR_num {r : Nat → Int32} (h : dR r) {k : Nat} {v : Int32} (hk : (k = 3 ∧ bd v 0 299) ∨ (k = 4 ∧ bd v 0 99) ∨ (k = 5 ∧ bd v 0 9) ∨ (k = 6 ∧ bd v 0 6)) : dR (upd r k v) := by
  obtain ⟨r0, r1, r2, r3, r4, r5, r6, rs, rc, rt, rz⟩ := h
  have hk2 : k = 3 ∨ k = 4 ∨ k = 5 ∨ k = 6 := by omega
  have e : ∀ j, j ≠ k → upd r k v j = r j := fun j h => ud_o h
  have e0 := e 0 (by omega); have e1 := e 1 (by omega); have e2 := e 2 (by omega)
  unfold dR
  rw [e0, e1, e2]
  refine ⟨r0, r1, r2, ?_, ?_, ?_, ?_, fun i hi => ?_, fun d hd => ?_, fun t ht => ?_, fun j hj => ?_⟩
  · by_cases q : 3 = k
    · rw [q, ud_s]; rcases hk with ⟨-, h⟩ | ⟨h, -⟩ | ⟨h, -⟩ | ⟨h, -⟩
      · exact h
      all_goals omega
    · rw [e _ q]; exact r3
  · by_cases q : 4 = k
    · rw [q, ud_s]; rcases hk with ⟨h, -⟩ | ⟨-, h⟩ | ⟨h, -⟩ | ⟨h, -⟩
      · omega
      · exact h
      all_goals omega
    · rw [e _ q]; exact r4
  · by_cases q : 5 = k
    · rw [q, ud_s]; rcases hk with ⟨h, -⟩ | ⟨h, -⟩ | ⟨-, h⟩ | ⟨h, -⟩
      · omega
      · omega
      · exact h
      · omega
    · rw [e _ q]; exact r5
  · by_cases q : 6 = k
    · rw [q, ud_s]; rcases hk with ⟨h, -⟩ | ⟨h, -⟩ | ⟨h, -⟩ | ⟨-, h⟩
      · omega
      · omega
      · omega
      · exact h
    · rw [e _ q]; exact r6
  · rw [e _ (by omega), e _ (by omega), e _ (by omega), e _ (by omega)]
    exact rs i hi
  · rw [e _ (by omega), e _ (by omega), e _ (by omega), e _ (by omega), e _ (by omega)]
    exact rc d hd
  · rw [e _ (by omega), e _ (by omega)]
    exact rt t ht
  · rw [e _ (by omega)]
    exact rz j hj
theorem dR_ln {r : Nat → Int32} (h : dR r) {i : Nat} {v : Int32} (hi : i < tn (r 0)) (hv : bd v 0 30) : dR (upd r (7 + 4 * i + 3) v) := by
  obtain ⟨r0, r1, r2, r3, r4, r5, r6, rs, rc, rt, rz⟩ := h
  have hr0 := tn_of r0.1
  have hr02 := r0.2
  have e : ∀ j, j ≠ 7 + 4 * i + 3 → upd r (7 + 4 * i + 3) v j = r j := fun j h => ud_o h
  have e0 := e 0 (by omega); have e1 := e 1 (by omega); have e2 := e 2 (by omega); have e3 := e 3 (by omega); have e4 := e 4 (by omega); have e5 := e 5 (by omega); have e6 := e 6 (by omega)
  unfold dR
  rw [e0, e1, e2, e3, e4, e5, e6]
  refine ⟨r0, r1, r2, r3, r4, r5, r6, fun d hd => ?_, fun d hd => ?_, fun t ht => ?_, fun j hj => ?_⟩
  · rw [e (7 + 4 * d) (by omega), e (7 + 4 * d + 1) (by omega), e (7 + 4 * d + 2) (by omega)]
    obtain ⟨a1, a2, a3, a4⟩ := rs d hd
    refine ⟨a1, a2, a3, ?_⟩
    by_cases q : 7 + 4 * d + 3 = 7 + 4 * i + 3
    · rw [q, ud_s]; exact hv
    · rw [e _ q]; exact a4
  · rw [e _ (by omega), e _ (by omega), e _ (by omega), e _ (by omega), e _ (by omega)]
    exact rc d hd
  · rw [e _ (by omega), e _ (by omega)]
    exact rt t ht
  · rw [e _ (by omega)]
    exact rz j hj
theorem s_ti_bd {t pr : Int32} (ht : bd t 0 9) : bd (s_ti t pr) 0 9 := by
  have e0 : (0 : Int32).toInt = 0 := rfl
  have e9 : (9 : Int32).toInt = 9 := rfl
  unfold s_ti
  generalize t + (if 1 < pr then (1 : Int32) else if pr = 0 then -1 else 0) = q
  split
  · exact ⟨by decide, by decide⟩
  · rename_i h1
    split
    · exact ⟨by decide, by decide⟩
    · rename_i h2
      rw [ti_lt] at h1 h2
      exact ⟨by omega, by omega⟩
theorem s_dy_bd {d : Int32} (hd : bd d 0 6) : bd (s_dy d) 0 6 := by
  obtain ⟨h1, h2⟩ := hd
  have e1 : (1 : Int32).toInt = 1 := rfl
  have e6 : (6 : Int32).toInt = 6 := rfl
  unfold s_dy
  split
  · rename_i h
    rw [ti_lt, e6] at h
    exact ⟨by rw [ti_add (by omega) (by omega)]; omega, by rw [ti_add (by omega) (by omega)]; omega⟩
  · exact ⟨by decide, by decide⟩
theorem dR_go {r : Nat → Int32} (h : dR r) (i : Int32) : dR (s_go r i) := by
  have h5 := h.2.2.2.2.2.1
  have h6 := h.2.2.2.2.2.2.1
  exact dR_num (dR_num h (Or.inr (Or.inr (Or.inl ⟨rfl, s_ti_bd h5⟩)))) (Or.inr (Or.inr (Or.inr ⟨rfl, s_dy_bd h6⟩)))
theorem dR_gn {r : Nat → Int32} (h : dR r) (i : Int32) : ∀ n, dR (s_gn r i n) := by
  intro n
  induction n with
  | zero => exact h
  | succ n ih => exact dR_go ih i
theorem gn_o (r : Nat → Int32) (i : Int32) : ∀ n j, j ≠ 5 → j ≠ 6 → s_gn r i n j = r j := by
  intro n
  induction n with
  | zero => intro j _ _; rfl
  | succ n ih =>
    intro j h5 h6
    show upd (upd _ 5 _) 6 _ j = r j
    rw [ud_o h6, ud_o h5]
    exact ih j h5 h6
/-- in mind: the row at hand; all else as it was -/
def wI (M M1 : mj_M) (row : Nat → Int32) : Prop := M1 65 = row ∧ (∀ j, j < 55 → M1 68 j = M 65 j) ∧ (∀ k, k ≠ 63 → k ≠ 65 → k ≠ 68 → k ≠ 71 → k ≠ 72 → M1 k = M k) ∧ ∀ j, j ≠ 12 → j ≠ 13 → j ≠ 14 → j ≠ 15 → j ≠ 16 → M1 63 j = M 63 j
theorem wI_b (M : mj_M) : wI M (mj_cp M 65 68) (M 65) := by
  refine ⟨?_, fun j hj => ?_, fun k h1 h2 h3 h4 h5 => ?_, fun j _ _ _ _ _ => ?_⟩
  · funext j; simp [mj_cp]
  · simp [mj_cp, hj]
  · funext j; simp [mj_cp, h3]
  · simp [mj_cp]
theorem wI_p {M M1 : mj_M} {row : Nat → Int32} (h : wI M M1 row) (p : Nat) (v : Int32) : wI M (mj_up M1 65 p v) (upd row p v) := by
  obtain ⟨h1, h2, h3, h4⟩ := h
  refine ⟨by rw [up_s, h1], fun j hj => by rw [up_ne (by decide)]; exact h2 j hj, fun k k1 k2 k3 k4 k5 => by rw [up_ne k2]; exact h3 k k1 k2 k3 k4 k5, fun j j1 j2 j3 j4 j5 => by rw [up_ne (by decide)]; exact h4 j j1 j2 j3 j4 j5⟩
theorem wI_M {M M1 M2 : mj_M} {row : Nat → Int32} (h : wI M M1 row) (hf : fM M1 M2) : wI M M2 row := by
  obtain ⟨h1, h2, h3, h4⟩ := h
  refine ⟨by rw [hf.1 65 (by decide) (by decide) (by decide), h1], fun j hj => by rw [hf.1 68 (by decide) (by decide) (by decide)]; exact h2 j hj, fun k k1 k2 k3 k4 k5 => by rw [hf.1 k k1 k4 k5]; exact h3 k k1 k2 k3 k4 k5, fun j j1 j2 j3 j4 j5 => by rw [hf.2 j j1 j2 j3 j4]; exact h4 j j1 j2 j3 j4 j5⟩
theorem wI_V {M M1 M2 : mj_M} {row : Nat → Int32} (h : wI M M1 row) (h65 : M2 65 = M1 65) (hk : ∀ k, ¬ k = 63 → ¬ k = 71 → ¬ k = 72 → M2 k = M1 k) (hj : ∀ j, ¬ j = 12 → ¬ j = 13 → ¬ j = 14 → ¬ j = 15 → ¬ j = 16 → M2 63 j = M1 63 j) : wI M M2 row := by
  obtain ⟨h1, h2, h3, h4⟩ := h
  refine ⟨by rw [h65, h1], fun j hj => by rw [hk 68 (by decide) (by decide) (by decide)]; exact h2 j hj, fun k k1 k2 k3 k4 k5 => by rw [hk k k1 k4 k5]; exact h3 k k1 k2 k3 k4 k5, fun j j1 j2 j3 j4 j5 => by rw [hj j j1 j2 j3 j4 j5]; exact h4 j j1 j2 j3 j4 j5⟩
theorem wI_e {M M1 : mj_M} {row : Nat → Int32} (h : wI M M1 row) (hr : ∀ j, 55 ≤ j → row j = M 65 j) : mS (mj_cp M1 68 65) = mS M ∧ fr1 M (mj_cp M1 68 65) := by
  obtain ⟨h1, h2, h3, h4⟩ := h
  have e : ∀ k, k ≠ 65 → mj_cp M1 68 65 k = M1 k := fun k hk => by funext j; simp [mj_cp, hk]
  refine ⟨mS_eq ?_ ?_ ?_ ?_ ?_ ?_ ?_ ?_, fun k hk => ?_⟩
  · funext j
    by_cases hj : j < 55
    · simp [mj_cp, hj, h2 j hj]
    · simp [mj_cp, hj]
      rw [h1]
      exact hr j (by omega)
  · rw [e _ (by decide)]; exact h3 _ (by decide) (by decide) (by decide) (by decide) (by decide)
  · rw [e _ (by decide)]; exact h3 _ (by decide) (by decide) (by decide) (by decide) (by decide)
  · rw [e _ (by decide)]; exact h3 _ (by decide) (by decide) (by decide) (by decide) (by decide)
  · rw [e _ (by decide)]; exact h3 _ (by decide) (by decide) (by decide) (by decide) (by decide)
  · rw [e _ (by decide)]; exact h4 _ (by decide) (by decide) (by decide) (by decide) (by decide)
  · rw [e _ (by decide)]; exact h4 _ (by decide) (by decide) (by decide) (by decide) (by decide)
  · rw [e _ (by decide)]; exact h4 _ (by decide) (by decide) (by decide) (by decide) (by decide)
  · rw [e _ (by omega)]; exact h3 k (by omega) (by omega) (by omega) (by omega) (by omega)
theorem ud_cg {f g : Nat → Int32} {p : Nat} {v : Int32} (h : ∀ j, j ≠ p → f j = g j) : upd f p v = upd g p v := by
  funext j
  by_cases e : j = p
  · rw [e, ud_s, ud_s]
  · rw [ud_o e, ud_o e, h j e]
/-- whose a clock is -/
theorem own_sl {r : Nat → Int32} (h : dR r) {c : Nat} (hc : c < tn (r 1)) : s_sl r (r (23 + 5 * c + 1)) := by
  obtain ⟨-, -, -, -, -, -, -, -, rc, -, -⟩ := h
  have := rc c hc
  exact ⟨this.2.1.1, this.2.2.1⟩
theorem in_tn {i n : Int32} (h : ¬ s_in i n = 0) : tn i < tn n := by
  obtain ⟨h1, h2⟩ := s_in_ge h
  have e1 := tn_of h1
  have e2 := tn_of (x := n) (by omega)
  omega
def C_M_lays : mj_C := (2, 0, fun avs M => ma_rr avs fun f t => (65 ≤ f ∧ f ≤ 68 ∧ 65 ≤ t ∧ t ≤ 68 ∧ f ≠ t), fun avs M r M' => ma_rr avs fun f t => (M' = mj_cp M f t))
set_option maxRecDepth 20000 in
set_option maxHeartbeats 2000000 in
theorem t_M_lays : mj_T yX7_lays cX7_lays 3 none 0 C_M_lays := by
  refine mj_T_of (own := 7) (rk := 0) [] (by decide) rfl (by decide) ⟨rfl, rfl⟩ (fun _ h => absurd h List.not_mem_nil) ?_
  intro avs M hlen hpre V hV
  obtain ⟨f, t, rfl, hp⟩ := mc_rr hpre
  show V 0 [some (.inr f), some (.inr t), none] [] M
  have b_0 := hV h_X7_lays_0; have b_2 := hV h_X7_lays_2; have b_20 := hV h_X7_lays_20
  clear hlen hpre hV
  obtain ⟨f1, f2, t1, t2, hne⟩ := hp
  have hf : mj_ak f = 0 ∧ mj_ln mj_s0 f = 55 ∧ ∀ (M : mj_M) (j : Nat), mj_cq mj_s0 M f j = M f j := by
    rcases (show f = 65 ∨ f = 66 ∨ f = 67 ∨ f = 68 by omega) with rfl | rfl | rfl | rfl <;> exact ⟨rfl, rfl, fun _ _ => rfl⟩
  have ht : mj_ak t = 0 ∧ mj_ln mj_s0 t = 55 := by
    rcases (show t = 65 ∨ t = 66 ∨ t = 67 ∨ t = 68 by omega) with rfl | rfl | rfl | rfl <;> exact ⟨rfl, rfl⟩
  have loop : ∀ (g j : Nat), j + g = 55 → ∀ L2 : Option mj_V, L2 = some (.inl (nI j)) → V 2 [some (.inr f), some (.inr t), L2] [] (fun b i => if b = t then (if i < j then M f i else M b i) else M b i) := by
    intro g
    induction g with
    | zero =>
      intro j hj L2 hL
      subst hL
      (refine b_2 _ _ _ ?_; simp only [k_X7_lays_0, k_X7_lays_2, k_X7_lays_20, xp_1, xp_2, xp_3, xp_4, xp_5, xp_6, xp_7, xp_10, xp_11, xp_12, xp_13, xp_14, xp_15, xp_16, xp_17, xp_18, xp_19, xp_20, xp_21, xp_22, xp_23, xp_30, xp_31, xp_32, xp_33, xp_34, xp_35, xp_36, xp_37, xp_38, xp_39, xp_40, xp_41, xp_42, xp_43, xp_50, xp_51, xp_52, xp_53, xp_60, xp_61, xp_62, xp_63, xp_64, xp_65, xp_70, xp_80, xp_81, xp_82, up_ne, up_s, ud_s, ud_o, xw_0, xw_1, xg_0, xg_1, xl_i, xl_r, xs_0, xs_1, xq_i, xq_r, xq_v, xc_0, xc_1, xt_0, xt_1, xr_0, xr_1, xr_2, xe_0, xe_1, ob_0, ob_18, ob_36, ob_54, ak_55, ln_55, cq_55, ak_56, ln_56, cq_56, ob_57, ak_58, ln_58, cq_58, ak_59, ln_59, cq_59, ob_60, ak_61, ln_61, cq_61, ak_62, ln_62, cq_62, ob_63, ak_64, ln_64, cq_64, ak_65, ln_65, cq_65, ak_66, ln_66, cq_66, ak_67, ln_67, cq_67, ak_68, ln_68, cq_68, ak_69, ln_69, cq_69, ak_70, ln_70, cq_70, ak_71, ln_71, cq_71, ak_72, ln_72, cq_72, ak_73, ln_73, cq_73, pt_54_0, pt_54_1, pt_57_0, pt_57_3, pt_60_0, pt_60_1, pt_60_2, pt_60_4, pt_60_5, pt_60_6, pt_60_8, pt_63_0, pt_63_1, pt_63_2, pt_63_3, pt_63_4, pt_63_6, pt_63_7, pt_63_10, pt_63_11, pt_63_17, true_and, and_true, List.length_cons, List.length_nil, Nat.reduceAdd, Nat.reduceLeDiff, forall_eq, ne_eq, Nat.reduceEqDiff, not_false_eq_true, or_false, false_or, or_true, true_or, reduceCtorEq, Nat.zero_le, Nat.reduceMul, Nat.add_zero, false_and, and_false, false_implies, true_implies, forall_const, implies_true, List.append_nil, List.nil_append, List.cons_append, mb_i, mb_ii, mb_iii, mb_r, mb_ri, mb_rii, mb_riii, mb_rr, mb_rri, mb_rrii, mb_rriii, mb_riiiii, mb_rrr, mb_rir, mb_iiii, mb_riiii, tn_0, tn_1, tn_2, tn_3, tn_4, tn_5, tn_6, tc_0, tc_1, tc_2, tc_3, tc_4, tc_5, tc_6, xf_0, xf_1, xf_2, Sum.inl.injEq, Sum.inr.injEq, C_M_lays, nI_1])
      refine ⟨fun _ => ?_, fun h => absurd h (by rw [show j = 55 by omega]; decide)⟩
      (refine b_20 _ _ _ ?_; simp only [k_X7_lays_0, k_X7_lays_2, k_X7_lays_20, xp_1, xp_2, xp_3, xp_4, xp_5, xp_6, xp_7, xp_10, xp_11, xp_12, xp_13, xp_14, xp_15, xp_16, xp_17, xp_18, xp_19, xp_20, xp_21, xp_22, xp_23, xp_30, xp_31, xp_32, xp_33, xp_34, xp_35, xp_36, xp_37, xp_38, xp_39, xp_40, xp_41, xp_42, xp_43, xp_50, xp_51, xp_52, xp_53, xp_60, xp_61, xp_62, xp_63, xp_64, xp_65, xp_70, xp_80, xp_81, xp_82, up_ne, up_s, ud_s, ud_o, xw_0, xw_1, xg_0, xg_1, xl_i, xl_r, xs_0, xs_1, xq_i, xq_r, xq_v, xc_0, xc_1, xt_0, xt_1, xr_0, xr_1, xr_2, xe_0, xe_1, ob_0, ob_18, ob_36, ob_54, ak_55, ln_55, cq_55, ak_56, ln_56, cq_56, ob_57, ak_58, ln_58, cq_58, ak_59, ln_59, cq_59, ob_60, ak_61, ln_61, cq_61, ak_62, ln_62, cq_62, ob_63, ak_64, ln_64, cq_64, ak_65, ln_65, cq_65, ak_66, ln_66, cq_66, ak_67, ln_67, cq_67, ak_68, ln_68, cq_68, ak_69, ln_69, cq_69, ak_70, ln_70, cq_70, ak_71, ln_71, cq_71, ak_72, ln_72, cq_72, ak_73, ln_73, cq_73, pt_54_0, pt_54_1, pt_57_0, pt_57_3, pt_60_0, pt_60_1, pt_60_2, pt_60_4, pt_60_5, pt_60_6, pt_60_8, pt_63_0, pt_63_1, pt_63_2, pt_63_3, pt_63_4, pt_63_6, pt_63_7, pt_63_10, pt_63_11, pt_63_17, true_and, and_true, List.length_cons, List.length_nil, Nat.reduceAdd, Nat.reduceLeDiff, forall_eq, ne_eq, Nat.reduceEqDiff, not_false_eq_true, or_false, false_or, or_true, true_or, reduceCtorEq, Nat.zero_le, Nat.reduceMul, Nat.add_zero, false_and, and_false, false_implies, true_implies, forall_const, implies_true, List.append_nil, List.nil_append, List.cons_append, mb_i, mb_ii, mb_iii, mb_r, mb_ri, mb_rii, mb_riii, mb_rr, mb_rri, mb_rrii, mb_rriii, mb_riiiii, mb_rrr, mb_rir, mb_iiii, mb_riiii, tn_0, tn_1, tn_2, tn_3, tn_4, tn_5, tn_6, tc_0, tc_1, tc_2, tc_3, tc_4, tc_5, tc_6, xf_0, xf_1, xf_2, Sum.inl.injEq, Sum.inr.injEq, C_M_lays, nI_1])
      rw [show j = 55 by omega]
      rfl
    | succ g ih =>
      intro j hj L2 hL
      subst hL
      have h55 : nI j < 55 := by rw [ti_lt, ti_nI (by omega)]; have : (55 : Int32).toInt = 55 := rfl; omega
      have e1 : (nI j).toNatClampNeg = j := tn_nI (by omega)
      (refine b_2 _ _ _ ?_; simp only [k_X7_lays_0, k_X7_lays_2, k_X7_lays_20, xp_1, xp_2, xp_3, xp_4, xp_5, xp_6, xp_7, xp_10, xp_11, xp_12, xp_13, xp_14, xp_15, xp_16, xp_17, xp_18, xp_19, xp_20, xp_21, xp_22, xp_23, xp_30, xp_31, xp_32, xp_33, xp_34, xp_35, xp_36, xp_37, xp_38, xp_39, xp_40, xp_41, xp_42, xp_43, xp_50, xp_51, xp_52, xp_53, xp_60, xp_61, xp_62, xp_63, xp_64, xp_65, xp_70, xp_80, xp_81, xp_82, up_ne, up_s, ud_s, ud_o, xw_0, xw_1, xg_0, xg_1, xl_i, xl_r, xs_0, xs_1, xq_i, xq_r, xq_v, xc_0, xc_1, xt_0, xt_1, xr_0, xr_1, xr_2, xe_0, xe_1, ob_0, ob_18, ob_36, ob_54, ak_55, ln_55, cq_55, ak_56, ln_56, cq_56, ob_57, ak_58, ln_58, cq_58, ak_59, ln_59, cq_59, ob_60, ak_61, ln_61, cq_61, ak_62, ln_62, cq_62, ob_63, ak_64, ln_64, cq_64, ak_65, ln_65, cq_65, ak_66, ln_66, cq_66, ak_67, ln_67, cq_67, ak_68, ln_68, cq_68, ak_69, ln_69, cq_69, ak_70, ln_70, cq_70, ak_71, ln_71, cq_71, ak_72, ln_72, cq_72, ak_73, ln_73, cq_73, pt_54_0, pt_54_1, pt_57_0, pt_57_3, pt_60_0, pt_60_1, pt_60_2, pt_60_4, pt_60_5, pt_60_6, pt_60_8, pt_63_0, pt_63_1, pt_63_2, pt_63_3, pt_63_4, pt_63_6, pt_63_7, pt_63_10, pt_63_11, pt_63_17, true_and, and_true, List.length_cons, List.length_nil, Nat.reduceAdd, Nat.reduceLeDiff, forall_eq, ne_eq, Nat.reduceEqDiff, not_false_eq_true, or_false, false_or, or_true, true_or, reduceCtorEq, Nat.zero_le, Nat.reduceMul, Nat.add_zero, false_and, and_false, false_implies, true_implies, forall_const, implies_true, List.append_nil, List.nil_append, List.cons_append, mb_i, mb_ii, mb_iii, mb_r, mb_ri, mb_rii, mb_riii, mb_rr, mb_rri, mb_rrii, mb_rriii, mb_riiiii, mb_rrr, mb_rir, mb_iiii, mb_riiii, tn_0, tn_1, tn_2, tn_3, tn_4, tn_5, tn_6, tc_0, tc_1, tc_2, tc_3, tc_4, tc_5, tc_6, xf_0, xf_1, xf_2, Sum.inl.injEq, Sum.inr.injEq, C_M_lays, nI_1])
      rw [hf.1, hf.2.1, ht.1, ht.2, hf.2.2, e1]
      refine ⟨fun h => absurd h55 h, fun _ => ⟨Or.inl rfl, vi_l (by omega) (by omega), rfl, vi_l (by omega) (by omega), ?_⟩⟩
      refine mv_eq (ih (j + 1) (by omega) _ rfl) rfl rfl ?_
      funext b i
      unfold mj_up
      by_cases hb : b = t
      · subst hb
        rw [if_neg hne]
        by_cases hi : i = j
        · subst hi
          simp
        · by_cases h2 : i < j
          · have h3 : i < j + 1 := by omega
            simp [hi, h2, h3]
          · have h3 : ¬ i < j + 1 := by omega
            simp [hi, h2, h3]
      · simp [hb]
  (refine b_0 _ _ _ ?_; simp only [k_X7_lays_0, k_X7_lays_2, k_X7_lays_20, xp_1, xp_2, xp_3, xp_4, xp_5, xp_6, xp_7, xp_10, xp_11, xp_12, xp_13, xp_14, xp_15, xp_16, xp_17, xp_18, xp_19, xp_20, xp_21, xp_22, xp_23, xp_30, xp_31, xp_32, xp_33, xp_34, xp_35, xp_36, xp_37, xp_38, xp_39, xp_40, xp_41, xp_42, xp_43, xp_50, xp_51, xp_52, xp_53, xp_60, xp_61, xp_62, xp_63, xp_64, xp_65, xp_70, xp_80, xp_81, xp_82, up_ne, up_s, ud_s, ud_o, xw_0, xw_1, xg_0, xg_1, xl_i, xl_r, xs_0, xs_1, xq_i, xq_r, xq_v, xc_0, xc_1, xt_0, xt_1, xr_0, xr_1, xr_2, xe_0, xe_1, ob_0, ob_18, ob_36, ob_54, ak_55, ln_55, cq_55, ak_56, ln_56, cq_56, ob_57, ak_58, ln_58, cq_58, ak_59, ln_59, cq_59, ob_60, ak_61, ln_61, cq_61, ak_62, ln_62, cq_62, ob_63, ak_64, ln_64, cq_64, ak_65, ln_65, cq_65, ak_66, ln_66, cq_66, ak_67, ln_67, cq_67, ak_68, ln_68, cq_68, ak_69, ln_69, cq_69, ak_70, ln_70, cq_70, ak_71, ln_71, cq_71, ak_72, ln_72, cq_72, ak_73, ln_73, cq_73, pt_54_0, pt_54_1, pt_57_0, pt_57_3, pt_60_0, pt_60_1, pt_60_2, pt_60_4, pt_60_5, pt_60_6, pt_60_8, pt_63_0, pt_63_1, pt_63_2, pt_63_3, pt_63_4, pt_63_6, pt_63_7, pt_63_10, pt_63_11, pt_63_17, true_and, and_true, List.length_cons, List.length_nil, Nat.reduceAdd, Nat.reduceLeDiff, forall_eq, ne_eq, Nat.reduceEqDiff, not_false_eq_true, or_false, false_or, or_true, true_or, reduceCtorEq, Nat.zero_le, Nat.reduceMul, Nat.add_zero, false_and, and_false, false_implies, true_implies, forall_const, implies_true, List.append_nil, List.nil_append, List.cons_append, mb_i, mb_ii, mb_iii, mb_r, mb_ri, mb_rii, mb_riii, mb_rr, mb_rri, mb_rrii, mb_rriii, mb_riiiii, mb_rrr, mb_rir, mb_iiii, mb_riiii, tn_0, tn_1, tn_2, tn_3, tn_4, tn_5, tn_6, tc_0, tc_1, tc_2, tc_3, tc_4, tc_5, tc_6, xf_0, xf_1, xf_2, Sum.inl.injEq, Sum.inr.injEq, C_M_lays, nI_1])
  refine mv_eq (loop 55 0 (by omega) _ rfl) rfl rfl ?_
  funext b i
  simp

def C_M_begins : mj_C := (1, 0, fun avs M => ma_r avs fun a => (a = 63), fun avs M r M' => ma_r avs fun a => (M' = mj_cp M 65 68))
theorem rc_M_begins : ∀ avs M, C_M_begins.2.2.1 avs M → ∃ a r, avs = .inr a :: r ∧ mj_ob a = 7 := by
  intro avs M h
  obtain ⟨a, rfl, h⟩ := mc_r h
  exact ⟨_, _, rfl, by rw [h]; rfl⟩
set_option maxRecDepth 20000 in
set_option maxHeartbeats 2000000 in
theorem t_M_begins : mj_T yX7_begins cX7_begins 1 none 1 C_M_begins := by
  refine mj_T_of (own := 7) (rk := 0) [(137, C_M_lays)] (by decide) rfl (by decide) ⟨rfl, rfl⟩ (List.forall_mem_cons.mpr ⟨mj_KS (own := 7) (nest := false) t_M_lays ⟨wc_X7_lays, wi_X7, by decide, wl_7_45⟩ wn_X7_lays (by decide +kernel) (by decide), (fun _ h => absurd h List.not_mem_nil)⟩) ?_
  intro avs M hlen hpre V hV
  obtain ⟨a, rfl, hp⟩ := mc_r hpre
  show V 0 [some (.inr a)] [] M
  have b_0 := hV h_X7_begins_0
  clear hlen hpre hV
  subst hp
  (refine b_0 _ _ _ ?_; simp only [k_X7_begins_0, xp_1, xp_2, xp_3, xp_4, xp_5, xp_6, xp_7, xp_10, xp_11, xp_12, xp_13, xp_14, xp_15, xp_16, xp_17, xp_18, xp_19, xp_20, xp_21, xp_22, xp_23, xp_30, xp_31, xp_32, xp_33, xp_34, xp_35, xp_36, xp_37, xp_38, xp_39, xp_40, xp_41, xp_42, xp_43, xp_50, xp_51, xp_52, xp_53, xp_60, xp_61, xp_62, xp_63, xp_64, xp_65, xp_70, xp_80, xp_81, xp_82, up_ne, up_s, ud_s, ud_o, xw_0, xw_1, xg_0, xg_1, xl_i, xl_r, xs_0, xs_1, xq_i, xq_r, xq_v, xc_0, xc_1, xt_0, xt_1, xr_0, xr_1, xr_2, xe_0, xe_1, ob_0, ob_18, ob_36, ob_54, ak_55, ln_55, cq_55, ak_56, ln_56, cq_56, ob_57, ak_58, ln_58, cq_58, ak_59, ln_59, cq_59, ob_60, ak_61, ln_61, cq_61, ak_62, ln_62, cq_62, ob_63, ak_64, ln_64, cq_64, ak_65, ln_65, cq_65, ak_66, ln_66, cq_66, ak_67, ln_67, cq_67, ak_68, ln_68, cq_68, ak_69, ln_69, cq_69, ak_70, ln_70, cq_70, ak_71, ln_71, cq_71, ak_72, ln_72, cq_72, ak_73, ln_73, cq_73, pt_54_0, pt_54_1, pt_57_0, pt_57_3, pt_60_0, pt_60_1, pt_60_2, pt_60_4, pt_60_5, pt_60_6, pt_60_8, pt_63_0, pt_63_1, pt_63_2, pt_63_3, pt_63_4, pt_63_6, pt_63_7, pt_63_10, pt_63_11, pt_63_17, true_and, and_true, List.length_cons, List.length_nil, Nat.reduceAdd, Nat.reduceLeDiff, forall_eq, ne_eq, Nat.reduceEqDiff, not_false_eq_true, or_false, false_or, or_true, true_or, reduceCtorEq, Nat.zero_le, Nat.reduceMul, Nat.add_zero, false_and, and_false, false_implies, true_implies, forall_const, implies_true, List.append_nil, List.nil_append, List.cons_append, mb_i, mb_ii, mb_iii, mb_r, mb_ri, mb_rii, mb_riii, mb_rr, mb_rri, mb_rrii, mb_rriii, mb_riiiii, mb_rrr, mb_rir, mb_iiii, mb_riiii, tn_0, tn_1, tn_2, tn_3, tn_4, tn_5, tn_6, tc_0, tc_1, tc_2, tc_3, tc_4, tc_5, tc_6, xf_0, xf_1, xf_2, Sum.inl.injEq, Sum.inr.injEq, C_M_begins, C_M_lays])

def C_M_ends : mj_C := (1, 0, fun avs M => ma_r avs fun a => (a = 63), fun avs M r M' => ma_r avs fun a => (M' = mj_cp M 68 65))
theorem rc_M_ends : ∀ avs M, C_M_ends.2.2.1 avs M → ∃ a r, avs = .inr a :: r ∧ mj_ob a = 7 := by
  intro avs M h
  obtain ⟨a, rfl, h⟩ := mc_r h
  exact ⟨_, _, rfl, by rw [h]; rfl⟩
set_option maxRecDepth 20000 in
set_option maxHeartbeats 2000000 in
theorem t_M_ends : mj_T yX7_ends cX7_ends 1 none 1 C_M_ends := by
  refine mj_T_of (own := 7) (rk := 0) [(137, C_M_lays)] (by decide) rfl (by decide) ⟨rfl, rfl⟩ (List.forall_mem_cons.mpr ⟨mj_KS (own := 7) (nest := false) t_M_lays ⟨wc_X7_lays, wi_X7, by decide, wl_7_45⟩ wn_X7_lays (by decide +kernel) (by decide), (fun _ h => absurd h List.not_mem_nil)⟩) ?_
  intro avs M hlen hpre V hV
  obtain ⟨a, rfl, hp⟩ := mc_r hpre
  show V 0 [some (.inr a)] [] M
  have b_0 := hV h_X7_ends_0
  clear hlen hpre hV
  subst hp
  (refine b_0 _ _ _ ?_; simp only [k_X7_ends_0, xp_1, xp_2, xp_3, xp_4, xp_5, xp_6, xp_7, xp_10, xp_11, xp_12, xp_13, xp_14, xp_15, xp_16, xp_17, xp_18, xp_19, xp_20, xp_21, xp_22, xp_23, xp_30, xp_31, xp_32, xp_33, xp_34, xp_35, xp_36, xp_37, xp_38, xp_39, xp_40, xp_41, xp_42, xp_43, xp_50, xp_51, xp_52, xp_53, xp_60, xp_61, xp_62, xp_63, xp_64, xp_65, xp_70, xp_80, xp_81, xp_82, up_ne, up_s, ud_s, ud_o, xw_0, xw_1, xg_0, xg_1, xl_i, xl_r, xs_0, xs_1, xq_i, xq_r, xq_v, xc_0, xc_1, xt_0, xt_1, xr_0, xr_1, xr_2, xe_0, xe_1, ob_0, ob_18, ob_36, ob_54, ak_55, ln_55, cq_55, ak_56, ln_56, cq_56, ob_57, ak_58, ln_58, cq_58, ak_59, ln_59, cq_59, ob_60, ak_61, ln_61, cq_61, ak_62, ln_62, cq_62, ob_63, ak_64, ln_64, cq_64, ak_65, ln_65, cq_65, ak_66, ln_66, cq_66, ak_67, ln_67, cq_67, ak_68, ln_68, cq_68, ak_69, ln_69, cq_69, ak_70, ln_70, cq_70, ak_71, ln_71, cq_71, ak_72, ln_72, cq_72, ak_73, ln_73, cq_73, pt_54_0, pt_54_1, pt_57_0, pt_57_3, pt_60_0, pt_60_1, pt_60_2, pt_60_4, pt_60_5, pt_60_6, pt_60_8, pt_63_0, pt_63_1, pt_63_2, pt_63_3, pt_63_4, pt_63_6, pt_63_7, pt_63_10, pt_63_11, pt_63_17, true_and, and_true, List.length_cons, List.length_nil, Nat.reduceAdd, Nat.reduceLeDiff, forall_eq, ne_eq, Nat.reduceEqDiff, not_false_eq_true, or_false, false_or, or_true, true_or, reduceCtorEq, Nat.zero_le, Nat.reduceMul, Nat.add_zero, false_and, and_false, false_implies, true_implies, forall_const, implies_true, List.append_nil, List.nil_append, List.cons_append, mb_i, mb_ii, mb_iii, mb_r, mb_ri, mb_rii, mb_riii, mb_rr, mb_rri, mb_rrii, mb_rriii, mb_riiiii, mb_rrr, mb_rir, mb_iiii, mb_riiii, tn_0, tn_1, tn_2, tn_3, tn_4, tn_5, tn_6, tc_0, tc_1, tc_2, tc_3, tc_4, tc_5, tc_6, xf_0, xf_1, xf_2, Sum.inl.injEq, Sum.inr.injEq, C_M_ends, C_M_lays])
end
section
/-! the reference's what-ifs -/
theorem up_row {row r : Nat → Int32} {p : Nat} (h : ∀ j, j ≠ p → row j = r j) (v : Int32) : ∀ j, j ≠ p → upd row p v j = r j := fun j hj => (ud_o hj).trans (h j hj)
theorem l_lt {j : Nat} {x : Int32} {n : Int} (hj : j < 2147483648) (hx : x.toInt = n) (h : (j : Int) < n) : nI j < x := by rw [ti_lt, ti_nI hj, hx]; exact h
theorem l_ge {j : Nat} {x : Int32} {n : Int} (hj : j < 2147483648) (hx : x.toInt = n) (h : n ≤ (j : Int)) : ¬ nI j < x := by rw [ti_lt, ti_nI hj, hx]; omega
theorem l_ngt {j : Nat} {x : Int32} {n : Int} (hj : j < 2147483648) (hx : x.toInt = n) (h : (j : Int) ≤ n) : ¬ x < nI j := by rw [ti_lt, ti_nI hj, hx]; omega
theorem l_gt {j : Nat} {x : Int32} {n : Int} (hj : j < 2147483648) (hx : x.toInt = n) (h : n < (j : Int)) : x < nI j := by rw [ti_lt, ti_nI hj, hx]; exact h
theorem ix_2 {c : Int32} (h : bd c 0 3) : vp_in (23 + 5 * c + 2) 55 ∧ (23 + 5 * c + 2).toNatClampNeg = 23 + 5 * tn c + 2 := ix_a h (k := 2) ⟨by decide, by decide⟩
theorem bd_n {j : Nat} {hi : Int} (h : (j : Int) ≤ hi) (h2 : j < 2147483648) : bd (nI j) 0 hi := ⟨by rw [ti_nI h2]; omega, by rw [ti_nI h2]; exact h⟩
def C_M_often : mj_C := (3, rk1, fun avs M => ma_rii avs fun a c n => (a = 63 ∧ dS (mS M)), fun avs M r M' => ma_rii avs fun a c n => (r = .inl (F_often (mS M) c n).1 ∧ mS M' = (F_often (mS M) c n).2 ∧ fr1 M M'))
theorem rc_M_often : ∀ avs M, C_M_often.2.2.1 avs M → ∃ a r, avs = .inr a :: r ∧ mj_ob a = 7 := by
  intro avs M h
  obtain ⟨a, c, n, rfl, h⟩ := mc_rii h
  exact ⟨_, _, rfl, by rw [h.1]; rfl⟩
set_option maxRecDepth 20000 in
set_option maxHeartbeats 2000000 in
theorem t_M_often : mj_T yX7_often cX7_often 6 (some .int) 6 C_M_often := by
  refine mj_T_of (own := 7) (rk := 1) [(123, C_M_refuse), (161, C_M_within), (306, C_M_isClock), (315, C_M_at), (435, C_M_morning), (483, C_M_begins), (492, C_M_ends)] (by decide) rfl (by decide) ⟨rfl, rfl⟩ (List.forall_mem_cons.mpr ⟨mj_KV (own := 7) (nest := false) t_M_refuse ⟨wc_X7_refuse, wi_X7, by decide, wl_7_41⟩ wn_X7_refuse ws_X7_refuse (c0 := 7) (by decide) rfl (by decide +kernel) rc_M_refuse (by decide), (List.forall_mem_cons.mpr ⟨mj_KS (own := 7) (nest := false) t_M_within ⟨wc_X7_within, wi_X7, by decide, wl_7_53⟩ wn_X7_within (by decide +kernel) (by decide), (List.forall_mem_cons.mpr ⟨mj_KV (own := 7) (nest := false) t_M_isClock ⟨wc_X7_isClock, wi_X7, by decide, wl_7_102⟩ wn_X7_isClock ws_X7_isClock (c0 := 7) (by decide) rfl (by decide +kernel) rc_M_isClock (by decide), (List.forall_mem_cons.mpr ⟨mj_KV (own := 7) (nest := false) t_M_at ⟨wc_X7_at, wi_X7, by decide, wl_7_105⟩ wn_X7_at ws_X7_at (c0 := 7) (by decide) rfl (by decide +kernel) rc_M_at (by decide), (List.forall_mem_cons.mpr ⟨mj_KV (own := 7) (nest := false) t_M_morning ⟨wc_X7_morning, wi_X7, by decide, wl_7_145⟩ wn_X7_morning ws_X7_morning (c0 := 7) (by decide) rfl (by decide +kernel) rc_M_morning (by decide), (List.forall_mem_cons.mpr ⟨mj_KV (own := 7) (nest := false) t_M_begins ⟨wc_X7_begins, wi_X7, by decide, wl_7_161⟩ wn_X7_begins ws_X7_begins (c0 := 7) (by decide) rfl (by decide +kernel) rc_M_begins (by decide), (List.forall_mem_cons.mpr ⟨mj_KV (own := 7) (nest := false) t_M_ends ⟨wc_X7_ends, wi_X7, by decide, wl_7_164⟩ wn_X7_ends ws_X7_ends (c0 := 7) (by decide) rfl (by decide +kernel) rc_M_ends (by decide), (fun _ h => absurd h List.not_mem_nil)⟩)⟩)⟩)⟩)⟩)⟩)⟩) ?_
  intro avs M hlen hpre V hV
  obtain ⟨a, c, n, rfl, hp⟩ := mc_rii hpre
  show V 0 [some (.inr a), some (.inl c), some (.inl n), none, none, none] [] M
  have b_0 := hV h_X7_often_0; have b_18 := hV h_X7_often_18; have b_19 := hV h_X7_often_19; have b_30 := hV h_X7_often_30; have b_40 := hV h_X7_often_40; have b_87 := hV h_X7_often_87; have b_88 := hV h_X7_often_88; have b_97 := hV h_X7_often_97
  clear hlen hpre hV
  obtain ⟨rfl, hS⟩ := hp
  have hg := dS_rg hS
  have hR : dR (M 65) := hS.1
  rw [mS_0] at hg
  have h19 : ∀ no : Int32, no = s_ft (nB c (M 65 1)) (s_wi n 0 9) → V 19 [some (.inr 63), some (.inl c), some (.inl n), none, none, none] [.inl no] M := by
    intro no hno
    (refine b_19 _ _ _ ?_; simp only [k_X7_often_0, k_X7_often_18, k_X7_often_19, k_X7_often_30, k_X7_often_40, k_X7_often_87, k_X7_often_88, k_X7_often_97, xp_1, xp_2, xp_3, xp_4, xp_5, xp_6, xp_7, xp_10, xp_11, xp_12, xp_13, xp_14, xp_15, xp_16, xp_17, xp_18, xp_19, xp_20, xp_21, xp_22, xp_23, xp_30, xp_31, xp_32, xp_33, xp_34, xp_35, xp_36, xp_37, xp_38, xp_39, xp_40, xp_41, xp_42, xp_43, xp_50, xp_51, xp_52, xp_53, xp_60, xp_61, xp_62, xp_63, xp_64, xp_65, xp_70, xp_80, xp_81, xp_82, up_ne, up_s, ud_s, ud_o, xw_0, xw_1, xg_0, xg_1, xl_i, xl_r, xs_0, xs_1, xq_i, xq_r, xq_v, xc_0, xc_1, xt_0, xt_1, xr_0, xr_1, xr_2, xe_0, xe_1, ob_0, ob_18, ob_36, ob_54, ak_55, ln_55, cq_55, ak_56, ln_56, cq_56, ob_57, ak_58, ln_58, cq_58, ak_59, ln_59, cq_59, ob_60, ak_61, ln_61, cq_61, ak_62, ln_62, cq_62, ob_63, ak_64, ln_64, cq_64, ak_65, ln_65, cq_65, ak_66, ln_66, cq_66, ak_67, ln_67, cq_67, ak_68, ln_68, cq_68, ak_69, ln_69, cq_69, ak_70, ln_70, cq_70, ak_71, ln_71, cq_71, ak_72, ln_72, cq_72, ak_73, ln_73, cq_73, pt_54_0, pt_54_1, pt_57_0, pt_57_3, pt_60_0, pt_60_1, pt_60_2, pt_60_4, pt_60_5, pt_60_6, pt_60_8, pt_63_0, pt_63_1, pt_63_2, pt_63_3, pt_63_4, pt_63_6, pt_63_7, pt_63_10, pt_63_11, pt_63_17, true_and, and_true, List.length_cons, List.length_nil, Nat.reduceAdd, Nat.reduceLeDiff, forall_eq, ne_eq, Nat.reduceEqDiff, not_false_eq_true, or_false, false_or, or_true, true_or, reduceCtorEq, Nat.zero_le, Nat.reduceMul, Nat.add_zero, false_and, and_false, false_implies, true_implies, forall_const, implies_true, List.append_nil, List.nil_append, List.cons_append, mb_i, mb_ii, mb_iii, mb_r, mb_ri, mb_rii, mb_riii, mb_rr, mb_rri, mb_rrii, mb_rriii, mb_riiiii, mb_rrr, mb_rir, mb_iiii, mb_riiii, tn_0, tn_1, tn_2, tn_3, tn_4, tn_5, tn_6, tc_0, tc_1, tc_2, tc_3, tc_4, tc_5, tc_6, xf_0, xf_1, xf_2, Sum.inl.injEq, Sum.inr.injEq, C_M_at, C_M_begins, C_M_ends, C_M_isClock, C_M_morning, C_M_often, C_M_refuse, C_M_within, nI_1])
    refine ⟨fun h => ?_, fun h => ⟨by rw [hno] at h ⊢; exact ft_rc s_wi_rc h, ?_⟩⟩
    · obtain ⟨hc, -⟩ := ft_ok (hno.symm.trans h)
      have hb : bd c 0 3 := bd_in hc (by omega)
      have hix := ix_2 hb
      have hct : tn c < tn (M 65 1) := in_tn hc
      have htc : tn c < 4 := by have := tn_of hb.1; have := hb.2; omega
      have loop : ∀ (f k : Nat) (M1 : mj_M) (row : Nat → Int32), k + f = 300 → wI M M1 row → (∀ j, j ≠ 23 + 5 * tn c + 2 → row j = M 65 j) → V 40 [some (.inr 63), some (.inl c), some (.inl n), some (.inl no), some (.inl (s_of (M 65) (23 + 5 * tn c + 2) (s_own (M 65) c) n k)), some (.inl (nI k))] [] M1 := by
        intro f
        induction f with
        | zero =>
          intro k M1 row hk hw hrow
          (refine b_40 _ _ _ ?_; simp only [k_X7_often_0, k_X7_often_18, k_X7_often_19, k_X7_often_30, k_X7_often_40, k_X7_often_87, k_X7_often_88, k_X7_often_97, xp_1, xp_2, xp_3, xp_4, xp_5, xp_6, xp_7, xp_10, xp_11, xp_12, xp_13, xp_14, xp_15, xp_16, xp_17, xp_18, xp_19, xp_20, xp_21, xp_22, xp_23, xp_30, xp_31, xp_32, xp_33, xp_34, xp_35, xp_36, xp_37, xp_38, xp_39, xp_40, xp_41, xp_42, xp_43, xp_50, xp_51, xp_52, xp_53, xp_60, xp_61, xp_62, xp_63, xp_64, xp_65, xp_70, xp_80, xp_81, xp_82, up_ne, up_s, ud_s, ud_o, xw_0, xw_1, xg_0, xg_1, xl_i, xl_r, xs_0, xs_1, xq_i, xq_r, xq_v, xc_0, xc_1, xt_0, xt_1, xr_0, xr_1, xr_2, xe_0, xe_1, ob_0, ob_18, ob_36, ob_54, ak_55, ln_55, cq_55, ak_56, ln_56, cq_56, ob_57, ak_58, ln_58, cq_58, ak_59, ln_59, cq_59, ob_60, ak_61, ln_61, cq_61, ak_62, ln_62, cq_62, ob_63, ak_64, ln_64, cq_64, ak_65, ln_65, cq_65, ak_66, ln_66, cq_66, ak_67, ln_67, cq_67, ak_68, ln_68, cq_68, ak_69, ln_69, cq_69, ak_70, ln_70, cq_70, ak_71, ln_71, cq_71, ak_72, ln_72, cq_72, ak_73, ln_73, cq_73, pt_54_0, pt_54_1, pt_57_0, pt_57_3, pt_60_0, pt_60_1, pt_60_2, pt_60_4, pt_60_5, pt_60_6, pt_60_8, pt_63_0, pt_63_1, pt_63_2, pt_63_3, pt_63_4, pt_63_6, pt_63_7, pt_63_10, pt_63_11, pt_63_17, true_and, and_true, List.length_cons, List.length_nil, Nat.reduceAdd, Nat.reduceLeDiff, forall_eq, ne_eq, Nat.reduceEqDiff, not_false_eq_true, or_false, false_or, or_true, true_or, reduceCtorEq, Nat.zero_le, Nat.reduceMul, Nat.add_zero, false_and, and_false, false_implies, true_implies, forall_const, implies_true, List.append_nil, List.nil_append, List.cons_append, mb_i, mb_ii, mb_iii, mb_r, mb_ri, mb_rii, mb_riii, mb_rr, mb_rri, mb_rrii, mb_rriii, mb_riiiii, mb_rrr, mb_rir, mb_iiii, mb_riiii, tn_0, tn_1, tn_2, tn_3, tn_4, tn_5, tn_6, tc_0, tc_1, tc_2, tc_3, tc_4, tc_5, tc_6, xf_0, xf_1, xf_2, Sum.inl.injEq, Sum.inr.injEq, C_M_at, C_M_begins, C_M_ends, C_M_isClock, C_M_morning, C_M_often, C_M_refuse, C_M_within, nI_1])
          refine ⟨fun _ => ?_, fun hlt => absurd hlt (l_ge (n := 300) (by omega) rfl (by omega))⟩
          (refine b_97 _ _ _ ?_; simp only [k_X7_often_0, k_X7_often_18, k_X7_often_19, k_X7_often_30, k_X7_often_40, k_X7_often_87, k_X7_often_88, k_X7_often_97, xp_1, xp_2, xp_3, xp_4, xp_5, xp_6, xp_7, xp_10, xp_11, xp_12, xp_13, xp_14, xp_15, xp_16, xp_17, xp_18, xp_19, xp_20, xp_21, xp_22, xp_23, xp_30, xp_31, xp_32, xp_33, xp_34, xp_35, xp_36, xp_37, xp_38, xp_39, xp_40, xp_41, xp_42, xp_43, xp_50, xp_51, xp_52, xp_53, xp_60, xp_61, xp_62, xp_63, xp_64, xp_65, xp_70, xp_80, xp_81, xp_82, up_ne, up_s, ud_s, ud_o, xw_0, xw_1, xg_0, xg_1, xl_i, xl_r, xs_0, xs_1, xq_i, xq_r, xq_v, xc_0, xc_1, xt_0, xt_1, xr_0, xr_1, xr_2, xe_0, xe_1, ob_0, ob_18, ob_36, ob_54, ak_55, ln_55, cq_55, ak_56, ln_56, cq_56, ob_57, ak_58, ln_58, cq_58, ak_59, ln_59, cq_59, ob_60, ak_61, ln_61, cq_61, ak_62, ln_62, cq_62, ob_63, ak_64, ln_64, cq_64, ak_65, ln_65, cq_65, ak_66, ln_66, cq_66, ak_67, ln_67, cq_67, ak_68, ln_68, cq_68, ak_69, ln_69, cq_69, ak_70, ln_70, cq_70, ak_71, ln_71, cq_71, ak_72, ln_72, cq_72, ak_73, ln_73, cq_73, pt_54_0, pt_54_1, pt_57_0, pt_57_3, pt_60_0, pt_60_1, pt_60_2, pt_60_4, pt_60_5, pt_60_6, pt_60_8, pt_63_0, pt_63_1, pt_63_2, pt_63_3, pt_63_4, pt_63_6, pt_63_7, pt_63_10, pt_63_11, pt_63_17, true_and, and_true, List.length_cons, List.length_nil, Nat.reduceAdd, Nat.reduceLeDiff, forall_eq, ne_eq, Nat.reduceEqDiff, not_false_eq_true, or_false, false_or, or_true, true_or, reduceCtorEq, Nat.zero_le, Nat.reduceMul, Nat.add_zero, false_and, and_false, false_implies, true_implies, forall_const, implies_true, List.append_nil, List.nil_append, List.cons_append, mb_i, mb_ii, mb_iii, mb_r, mb_ri, mb_rii, mb_riii, mb_rr, mb_rri, mb_rrii, mb_rriii, mb_riiiii, mb_rrr, mb_rir, mb_iiii, mb_riiii, tn_0, tn_1, tn_2, tn_3, tn_4, tn_5, tn_6, tc_0, tc_1, tc_2, tc_3, tc_4, tc_5, tc_6, xf_0, xf_1, xf_2, Sum.inl.injEq, Sum.inr.injEq, C_M_at, C_M_begins, C_M_ends, C_M_isClock, C_M_morning, C_M_often, C_M_refuse, C_M_within, nI_1])
          obtain ⟨e1, e2⟩ := wI_e hw (fun j hj => hrow j (by omega))
          unfold F_often
          rw [mS_0, ← hno]
          exact qF_ok h (by rw [show k = 300 by omega]) e1 e2
        | succ f ih =>
          intro k M1 row hk hw hrow
          have h88 : ∀ (x : Int32) (M2 : mj_M), x = (if (s_m (upd (M 65) (23 + 5 * tn c + 2) (nI k)) (s_own (M 65) c)).2.1 < n then 0 else 1) → wI M M2 (upd row (23 + 5 * tn c + 2) (nI k)) → V 88 [some (.inr 63), some (.inl c), some (.inl n), some (.inl no), some (.inl (s_of (M 65) (23 + 5 * tn c + 2) (s_own (M 65) c) n k)), some (.inl (nI k))] [.inl x, .inl (s_of (M 65) (23 + 5 * tn c + 2) (s_own (M 65) c) n k)] M2 := by
            intro x M2 hx hw2
            (refine b_88 _ _ _ ?_; simp only [k_X7_often_0, k_X7_often_18, k_X7_often_19, k_X7_often_30, k_X7_often_40, k_X7_often_87, k_X7_often_88, k_X7_often_97, xp_1, xp_2, xp_3, xp_4, xp_5, xp_6, xp_7, xp_10, xp_11, xp_12, xp_13, xp_14, xp_15, xp_16, xp_17, xp_18, xp_19, xp_20, xp_21, xp_22, xp_23, xp_30, xp_31, xp_32, xp_33, xp_34, xp_35, xp_36, xp_37, xp_38, xp_39, xp_40, xp_41, xp_42, xp_43, xp_50, xp_51, xp_52, xp_53, xp_60, xp_61, xp_62, xp_63, xp_64, xp_65, xp_70, xp_80, xp_81, xp_82, up_ne, up_s, ud_s, ud_o, xw_0, xw_1, xg_0, xg_1, xl_i, xl_r, xs_0, xs_1, xq_i, xq_r, xq_v, xc_0, xc_1, xt_0, xt_1, xr_0, xr_1, xr_2, xe_0, xe_1, ob_0, ob_18, ob_36, ob_54, ak_55, ln_55, cq_55, ak_56, ln_56, cq_56, ob_57, ak_58, ln_58, cq_58, ak_59, ln_59, cq_59, ob_60, ak_61, ln_61, cq_61, ak_62, ln_62, cq_62, ob_63, ak_64, ln_64, cq_64, ak_65, ln_65, cq_65, ak_66, ln_66, cq_66, ak_67, ln_67, cq_67, ak_68, ln_68, cq_68, ak_69, ln_69, cq_69, ak_70, ln_70, cq_70, ak_71, ln_71, cq_71, ak_72, ln_72, cq_72, ak_73, ln_73, cq_73, pt_54_0, pt_54_1, pt_57_0, pt_57_3, pt_60_0, pt_60_1, pt_60_2, pt_60_4, pt_60_5, pt_60_6, pt_60_8, pt_63_0, pt_63_1, pt_63_2, pt_63_3, pt_63_4, pt_63_6, pt_63_7, pt_63_10, pt_63_11, pt_63_17, true_and, and_true, List.length_cons, List.length_nil, Nat.reduceAdd, Nat.reduceLeDiff, forall_eq, ne_eq, Nat.reduceEqDiff, not_false_eq_true, or_false, false_or, or_true, true_or, reduceCtorEq, Nat.zero_le, Nat.reduceMul, Nat.add_zero, false_and, and_false, false_implies, true_implies, forall_const, implies_true, List.append_nil, List.nil_append, List.cons_append, mb_i, mb_ii, mb_iii, mb_r, mb_ri, mb_rii, mb_riii, mb_rr, mb_rri, mb_rrii, mb_rriii, mb_riiiii, mb_rrr, mb_rir, mb_iiii, mb_riiii, tn_0, tn_1, tn_2, tn_3, tn_4, tn_5, tn_6, tc_0, tc_1, tc_2, tc_3, tc_4, tc_5, tc_6, xf_0, xf_1, xf_2, Sum.inl.injEq, Sum.inr.injEq, C_M_at, C_M_begins, C_M_ends, C_M_isClock, C_M_morning, C_M_often, C_M_refuse, C_M_within, nI_1])
            rw [hx]
            exact ih (k + 1) M2 _ (by omega) hw2 (up_row hrow _)
          have hrw : upd row (23 + 5 * tn c + 2) (nI k) = upd (M 65) (23 + 5 * tn c + 2) (nI k) := ud_cg hrow
          have hown : upd (M 65) (23 + 5 * tn c + 2) (nI k) (23 + 5 * tn c + 1) = s_own (M 65) c := ud_o (by omega)
          have hR2 : dR (upd (M 65) (23 + 5 * tn c + 2) (nI k)) := dR_clk hR hct (Or.inl ⟨rfl, bd_n (by omega) (by omega)⟩)
          (refine b_40 _ _ _ ?_; simp only [k_X7_often_0, k_X7_often_18, k_X7_often_19, k_X7_often_30, k_X7_often_40, k_X7_often_87, k_X7_often_88, k_X7_often_97, xp_1, xp_2, xp_3, xp_4, xp_5, xp_6, xp_7, xp_10, xp_11, xp_12, xp_13, xp_14, xp_15, xp_16, xp_17, xp_18, xp_19, xp_20, xp_21, xp_22, xp_23, xp_30, xp_31, xp_32, xp_33, xp_34, xp_35, xp_36, xp_37, xp_38, xp_39, xp_40, xp_41, xp_42, xp_43, xp_50, xp_51, xp_52, xp_53, xp_60, xp_61, xp_62, xp_63, xp_64, xp_65, xp_70, xp_80, xp_81, xp_82, up_ne, up_s, ud_s, ud_o, xw_0, xw_1, xg_0, xg_1, xl_i, xl_r, xs_0, xs_1, xq_i, xq_r, xq_v, xc_0, xc_1, xt_0, xt_1, xr_0, xr_1, xr_2, xe_0, xe_1, ob_0, ob_18, ob_36, ob_54, ak_55, ln_55, cq_55, ak_56, ln_56, cq_56, ob_57, ak_58, ln_58, cq_58, ak_59, ln_59, cq_59, ob_60, ak_61, ln_61, cq_61, ak_62, ln_62, cq_62, ob_63, ak_64, ln_64, cq_64, ak_65, ln_65, cq_65, ak_66, ln_66, cq_66, ak_67, ln_67, cq_67, ak_68, ln_68, cq_68, ak_69, ln_69, cq_69, ak_70, ln_70, cq_70, ak_71, ln_71, cq_71, ak_72, ln_72, cq_72, ak_73, ln_73, cq_73, pt_54_0, pt_54_1, pt_57_0, pt_57_3, pt_60_0, pt_60_1, pt_60_2, pt_60_4, pt_60_5, pt_60_6, pt_60_8, pt_63_0, pt_63_1, pt_63_2, pt_63_3, pt_63_4, pt_63_6, pt_63_7, pt_63_10, pt_63_11, pt_63_17, true_and, and_true, List.length_cons, List.length_nil, Nat.reduceAdd, Nat.reduceLeDiff, forall_eq, ne_eq, Nat.reduceEqDiff, not_false_eq_true, or_false, false_or, or_true, true_or, reduceCtorEq, Nat.zero_le, Nat.reduceMul, Nat.add_zero, false_and, and_false, false_implies, true_implies, forall_const, implies_true, List.append_nil, List.nil_append, List.cons_append, mb_i, mb_ii, mb_iii, mb_r, mb_ri, mb_rii, mb_riii, mb_rr, mb_rri, mb_rrii, mb_rriii, mb_riiiii, mb_rrr, mb_rir, mb_iiii, mb_riiii, tn_0, tn_1, tn_2, tn_3, tn_4, tn_5, tn_6, tc_0, tc_1, tc_2, tc_3, tc_4, tc_5, tc_6, xf_0, xf_1, xf_2, Sum.inl.injEq, Sum.inr.injEq, C_M_at, C_M_begins, C_M_ends, C_M_isClock, C_M_morning, C_M_often, C_M_refuse, C_M_within, nI_1])
          rw [hix.2, hw.1, hrw, hown]
          refine ⟨fun hge => absurd (l_lt (n := 300) (by omega) rfl (by omega)) hge, fun _ => ⟨hix.1, ⟨hb, by decide, by decide⟩, ⟨hR2, ?_⟩, fun M2 hm => ?_⟩⟩
          · have := own_sl hR2 (c := tn c) (by rw [ud_o (by omega)]; exact hct)
            rw [hown] at this
            exact this
          · obtain ⟨q1, q2, q3, q4⟩ := hm
            have hw2 : wI M M2 (upd row (23 + 5 * tn c + 2) (nI k)) := wI_M (wI_p hw _ _) q4
            rw [q2]
            refine ⟨fun hlt => ?_, fun hge => h88 1 M2 (by rw [if_neg hge]) hw2⟩
            (refine b_87 _ _ _ ?_; simp only [k_X7_often_0, k_X7_often_18, k_X7_often_19, k_X7_often_30, k_X7_often_40, k_X7_often_87, k_X7_often_88, k_X7_often_97, xp_1, xp_2, xp_3, xp_4, xp_5, xp_6, xp_7, xp_10, xp_11, xp_12, xp_13, xp_14, xp_15, xp_16, xp_17, xp_18, xp_19, xp_20, xp_21, xp_22, xp_23, xp_30, xp_31, xp_32, xp_33, xp_34, xp_35, xp_36, xp_37, xp_38, xp_39, xp_40, xp_41, xp_42, xp_43, xp_50, xp_51, xp_52, xp_53, xp_60, xp_61, xp_62, xp_63, xp_64, xp_65, xp_70, xp_80, xp_81, xp_82, up_ne, up_s, ud_s, ud_o, xw_0, xw_1, xg_0, xg_1, xl_i, xl_r, xs_0, xs_1, xq_i, xq_r, xq_v, xc_0, xc_1, xt_0, xt_1, xr_0, xr_1, xr_2, xe_0, xe_1, ob_0, ob_18, ob_36, ob_54, ak_55, ln_55, cq_55, ak_56, ln_56, cq_56, ob_57, ak_58, ln_58, cq_58, ak_59, ln_59, cq_59, ob_60, ak_61, ln_61, cq_61, ak_62, ln_62, cq_62, ob_63, ak_64, ln_64, cq_64, ak_65, ln_65, cq_65, ak_66, ln_66, cq_66, ak_67, ln_67, cq_67, ak_68, ln_68, cq_68, ak_69, ln_69, cq_69, ak_70, ln_70, cq_70, ak_71, ln_71, cq_71, ak_72, ln_72, cq_72, ak_73, ln_73, cq_73, pt_54_0, pt_54_1, pt_57_0, pt_57_3, pt_60_0, pt_60_1, pt_60_2, pt_60_4, pt_60_5, pt_60_6, pt_60_8, pt_63_0, pt_63_1, pt_63_2, pt_63_3, pt_63_4, pt_63_6, pt_63_7, pt_63_10, pt_63_11, pt_63_17, true_and, and_true, List.length_cons, List.length_nil, Nat.reduceAdd, Nat.reduceLeDiff, forall_eq, ne_eq, Nat.reduceEqDiff, not_false_eq_true, or_false, false_or, or_true, true_or, reduceCtorEq, Nat.zero_le, Nat.reduceMul, Nat.add_zero, false_and, and_false, false_implies, true_implies, forall_const, implies_true, List.append_nil, List.nil_append, List.cons_append, mb_i, mb_ii, mb_iii, mb_r, mb_ri, mb_rii, mb_riii, mb_rr, mb_rri, mb_rrii, mb_rriii, mb_riiiii, mb_rrr, mb_rir, mb_iiii, mb_riiii, tn_0, tn_1, tn_2, tn_3, tn_4, tn_5, tn_6, tc_0, tc_1, tc_2, tc_3, tc_4, tc_5, tc_6, xf_0, xf_1, xf_2, Sum.inl.injEq, Sum.inr.injEq, C_M_at, C_M_begins, C_M_ends, C_M_isClock, C_M_morning, C_M_often, C_M_refuse, C_M_within, nI_1])
            exact h88 0 M2 (by rw [if_pos hlt]) hw2
      (refine b_30 _ _ _ ?_; simp only [k_X7_often_0, k_X7_often_18, k_X7_often_19, k_X7_often_30, k_X7_often_40, k_X7_often_87, k_X7_often_88, k_X7_often_97, xp_1, xp_2, xp_3, xp_4, xp_5, xp_6, xp_7, xp_10, xp_11, xp_12, xp_13, xp_14, xp_15, xp_16, xp_17, xp_18, xp_19, xp_20, xp_21, xp_22, xp_23, xp_30, xp_31, xp_32, xp_33, xp_34, xp_35, xp_36, xp_37, xp_38, xp_39, xp_40, xp_41, xp_42, xp_43, xp_50, xp_51, xp_52, xp_53, xp_60, xp_61, xp_62, xp_63, xp_64, xp_65, xp_70, xp_80, xp_81, xp_82, up_ne, up_s, ud_s, ud_o, xw_0, xw_1, xg_0, xg_1, xl_i, xl_r, xs_0, xs_1, xq_i, xq_r, xq_v, xc_0, xc_1, xt_0, xt_1, xr_0, xr_1, xr_2, xe_0, xe_1, ob_0, ob_18, ob_36, ob_54, ak_55, ln_55, cq_55, ak_56, ln_56, cq_56, ob_57, ak_58, ln_58, cq_58, ak_59, ln_59, cq_59, ob_60, ak_61, ln_61, cq_61, ak_62, ln_62, cq_62, ob_63, ak_64, ln_64, cq_64, ak_65, ln_65, cq_65, ak_66, ln_66, cq_66, ak_67, ln_67, cq_67, ak_68, ln_68, cq_68, ak_69, ln_69, cq_69, ak_70, ln_70, cq_70, ak_71, ln_71, cq_71, ak_72, ln_72, cq_72, ak_73, ln_73, cq_73, pt_54_0, pt_54_1, pt_57_0, pt_57_3, pt_60_0, pt_60_1, pt_60_2, pt_60_4, pt_60_5, pt_60_6, pt_60_8, pt_63_0, pt_63_1, pt_63_2, pt_63_3, pt_63_4, pt_63_6, pt_63_7, pt_63_10, pt_63_11, pt_63_17, true_and, and_true, List.length_cons, List.length_nil, Nat.reduceAdd, Nat.reduceLeDiff, forall_eq, ne_eq, Nat.reduceEqDiff, not_false_eq_true, or_false, false_or, or_true, true_or, reduceCtorEq, Nat.zero_le, Nat.reduceMul, Nat.add_zero, false_and, and_false, false_implies, true_implies, forall_const, implies_true, List.append_nil, List.nil_append, List.cons_append, mb_i, mb_ii, mb_iii, mb_r, mb_ri, mb_rii, mb_riii, mb_rr, mb_rri, mb_rrii, mb_rriii, mb_riiiii, mb_rrr, mb_rir, mb_iiii, mb_riiii, tn_0, tn_1, tn_2, tn_3, tn_4, tn_5, tn_6, tc_0, tc_1, tc_2, tc_3, tc_4, tc_5, tc_6, xf_0, xf_1, xf_2, Sum.inl.injEq, Sum.inr.injEq, C_M_at, C_M_begins, C_M_ends, C_M_isClock, C_M_morning, C_M_often, C_M_refuse, C_M_within, nI_1])
      exact loop 300 0 _ _ (by omega) (wI_b M) (fun _ _ => rfl)
    · unfold F_often
      rw [mS_0, ← hno]
      exact qF_no h
  (refine b_0 _ _ _ ?_; simp only [k_X7_often_0, k_X7_often_18, k_X7_often_19, k_X7_often_30, k_X7_often_40, k_X7_often_87, k_X7_often_88, k_X7_often_97, xp_1, xp_2, xp_3, xp_4, xp_5, xp_6, xp_7, xp_10, xp_11, xp_12, xp_13, xp_14, xp_15, xp_16, xp_17, xp_18, xp_19, xp_20, xp_21, xp_22, xp_23, xp_30, xp_31, xp_32, xp_33, xp_34, xp_35, xp_36, xp_37, xp_38, xp_39, xp_40, xp_41, xp_42, xp_43, xp_50, xp_51, xp_52, xp_53, xp_60, xp_61, xp_62, xp_63, xp_64, xp_65, xp_70, xp_80, xp_81, xp_82, up_ne, up_s, ud_s, ud_o, xw_0, xw_1, xg_0, xg_1, xl_i, xl_r, xs_0, xs_1, xq_i, xq_r, xq_v, xc_0, xc_1, xt_0, xt_1, xr_0, xr_1, xr_2, xe_0, xe_1, ob_0, ob_18, ob_36, ob_54, ak_55, ln_55, cq_55, ak_56, ln_56, cq_56, ob_57, ak_58, ln_58, cq_58, ak_59, ln_59, cq_59, ob_60, ak_61, ln_61, cq_61, ak_62, ln_62, cq_62, ob_63, ak_64, ln_64, cq_64, ak_65, ln_65, cq_65, ak_66, ln_66, cq_66, ak_67, ln_67, cq_67, ak_68, ln_68, cq_68, ak_69, ln_69, cq_69, ak_70, ln_70, cq_70, ak_71, ln_71, cq_71, ak_72, ln_72, cq_72, ak_73, ln_73, cq_73, pt_54_0, pt_54_1, pt_57_0, pt_57_3, pt_60_0, pt_60_1, pt_60_2, pt_60_4, pt_60_5, pt_60_6, pt_60_8, pt_63_0, pt_63_1, pt_63_2, pt_63_3, pt_63_4, pt_63_6, pt_63_7, pt_63_10, pt_63_11, pt_63_17, true_and, and_true, List.length_cons, List.length_nil, Nat.reduceAdd, Nat.reduceLeDiff, forall_eq, ne_eq, Nat.reduceEqDiff, not_false_eq_true, or_false, false_or, or_true, true_or, reduceCtorEq, Nat.zero_le, Nat.reduceMul, Nat.add_zero, false_and, and_false, false_implies, true_implies, forall_const, implies_true, List.append_nil, List.nil_append, List.cons_append, mb_i, mb_ii, mb_iii, mb_r, mb_ri, mb_rii, mb_riii, mb_rr, mb_rri, mb_rrii, mb_rriii, mb_riiiii, mb_rrr, mb_rir, mb_iiii, mb_riiii, tn_0, tn_1, tn_2, tn_3, tn_4, tn_5, tn_6, tc_0, tc_1, tc_2, tc_3, tc_4, tc_5, tc_6, xf_0, xf_1, xf_2, Sum.inl.injEq, Sum.inr.injEq, C_M_at, C_M_begins, C_M_ends, C_M_isClock, C_M_morning, C_M_often, C_M_refuse, C_M_within, nI_1])
  refine ⟨fun h => ?_, fun h => h19 _ (ft_1 h).symm⟩
  (refine b_18 _ _ _ ?_; simp only [k_X7_often_0, k_X7_often_18, k_X7_often_19, k_X7_often_30, k_X7_often_40, k_X7_often_87, k_X7_often_88, k_X7_often_97, xp_1, xp_2, xp_3, xp_4, xp_5, xp_6, xp_7, xp_10, xp_11, xp_12, xp_13, xp_14, xp_15, xp_16, xp_17, xp_18, xp_19, xp_20, xp_21, xp_22, xp_23, xp_30, xp_31, xp_32, xp_33, xp_34, xp_35, xp_36, xp_37, xp_38, xp_39, xp_40, xp_41, xp_42, xp_43, xp_50, xp_51, xp_52, xp_53, xp_60, xp_61, xp_62, xp_63, xp_64, xp_65, xp_70, xp_80, xp_81, xp_82, up_ne, up_s, ud_s, ud_o, xw_0, xw_1, xg_0, xg_1, xl_i, xl_r, xs_0, xs_1, xq_i, xq_r, xq_v, xc_0, xc_1, xt_0, xt_1, xr_0, xr_1, xr_2, xe_0, xe_1, ob_0, ob_18, ob_36, ob_54, ak_55, ln_55, cq_55, ak_56, ln_56, cq_56, ob_57, ak_58, ln_58, cq_58, ak_59, ln_59, cq_59, ob_60, ak_61, ln_61, cq_61, ak_62, ln_62, cq_62, ob_63, ak_64, ln_64, cq_64, ak_65, ln_65, cq_65, ak_66, ln_66, cq_66, ak_67, ln_67, cq_67, ak_68, ln_68, cq_68, ak_69, ln_69, cq_69, ak_70, ln_70, cq_70, ak_71, ln_71, cq_71, ak_72, ln_72, cq_72, ak_73, ln_73, cq_73, pt_54_0, pt_54_1, pt_57_0, pt_57_3, pt_60_0, pt_60_1, pt_60_2, pt_60_4, pt_60_5, pt_60_6, pt_60_8, pt_63_0, pt_63_1, pt_63_2, pt_63_3, pt_63_4, pt_63_6, pt_63_7, pt_63_10, pt_63_11, pt_63_17, true_and, and_true, List.length_cons, List.length_nil, Nat.reduceAdd, Nat.reduceLeDiff, forall_eq, ne_eq, Nat.reduceEqDiff, not_false_eq_true, or_false, false_or, or_true, true_or, reduceCtorEq, Nat.zero_le, Nat.reduceMul, Nat.add_zero, false_and, and_false, false_implies, true_implies, forall_const, implies_true, List.append_nil, List.nil_append, List.cons_append, mb_i, mb_ii, mb_iii, mb_r, mb_ri, mb_rii, mb_riii, mb_rr, mb_rri, mb_rrii, mb_rriii, mb_riiiii, mb_rrr, mb_rir, mb_iiii, mb_riiii, tn_0, tn_1, tn_2, tn_3, tn_4, tn_5, tn_6, tc_0, tc_1, tc_2, tc_3, tc_4, tc_5, tc_6, xf_0, xf_1, xf_2, Sum.inl.injEq, Sum.inr.injEq, C_M_at, C_M_begins, C_M_ends, C_M_isClock, C_M_morning, C_M_often, C_M_refuse, C_M_within, nI_1])
  exact h19 _ (ft_0 h).symm


theorem H_q {M M1 : mj_M} {row : Nat → Int32} (h : wI M M1 row) : M1 73 = M 73 ∧ M1 63 18 = M 63 18 ∧ M1 64 = M 64 := ⟨h.2.2.1 73 (by decide) (by decide) (by decide) (by decide) (by decide), h.2.2.2 18 (by decide) (by decide) (by decide) (by decide) (by decide), h.2.2.1 64 (by decide) (by decide) (by decide) (by decide) (by decide)⟩
def C_M_bet : mj_C := (2, rk1, fun avs M => ma_ri avs fun a i => (a = 63 ∧ dS (mS M)), fun avs M r M' => ma_ri avs fun a i => (r = .inl (F_bet (mS M) i).1 ∧ mS M' = (F_bet (mS M) i).2 ∧ fr1 M M'))
theorem rc_M_bet : ∀ avs M, C_M_bet.2.2.1 avs M → ∃ a r, avs = .inr a :: r ∧ mj_ob a = 7 := by
  intro avs M h
  obtain ⟨a, i, rfl, h⟩ := mc_ri h
  exact ⟨_, _, rfl, by rw [h.1]; rfl⟩
set_option maxRecDepth 20000 in
set_option maxHeartbeats 2000000 in
theorem t_M_bet : mj_T yX7_bet cX7_bet 4 (some .int) 6 C_M_bet := by
  refine mj_T_of (own := 7) (rk := 1) [(123, C_M_refuse), (255, C_M_isSleeper), (435, C_M_morning), (483, C_M_begins), (492, C_M_ends)] (by decide) rfl (by decide) ⟨rfl, rfl⟩ (List.forall_mem_cons.mpr ⟨mj_KV (own := 7) (nest := false) t_M_refuse ⟨wc_X7_refuse, wi_X7, by decide, wl_7_41⟩ wn_X7_refuse ws_X7_refuse (c0 := 7) (by decide) rfl (by decide +kernel) rc_M_refuse (by decide), (List.forall_mem_cons.mpr ⟨mj_KV (own := 7) (nest := false) t_M_isSleeper ⟨wc_X7_isSleeper, wi_X7, by decide, wl_7_85⟩ wn_X7_isSleeper ws_X7_isSleeper (c0 := 7) (by decide) rfl (by decide +kernel) rc_M_isSleeper (by decide), (List.forall_mem_cons.mpr ⟨mj_KV (own := 7) (nest := false) t_M_morning ⟨wc_X7_morning, wi_X7, by decide, wl_7_145⟩ wn_X7_morning ws_X7_morning (c0 := 7) (by decide) rfl (by decide +kernel) rc_M_morning (by decide), (List.forall_mem_cons.mpr ⟨mj_KV (own := 7) (nest := false) t_M_begins ⟨wc_X7_begins, wi_X7, by decide, wl_7_161⟩ wn_X7_begins ws_X7_begins (c0 := 7) (by decide) rfl (by decide +kernel) rc_M_begins (by decide), (List.forall_mem_cons.mpr ⟨mj_KV (own := 7) (nest := false) t_M_ends ⟨wc_X7_ends, wi_X7, by decide, wl_7_164⟩ wn_X7_ends ws_X7_ends (c0 := 7) (by decide) rfl (by decide +kernel) rc_M_ends (by decide), (fun _ h => absurd h List.not_mem_nil)⟩)⟩)⟩)⟩)⟩) ?_
  intro avs M hlen hpre V hV
  obtain ⟨a, i, rfl, hp⟩ := mc_ri hpre
  show V 0 [some (.inr a), some (.inl i), none, none] [] M
  have b_0 := hV h_X7_bet_0; have b_14 := hV h_X7_bet_14; have b_23 := hV h_X7_bet_23; have b_56 := hV h_X7_bet_56; have b_58 := hV h_X7_bet_58; have b_65 := hV h_X7_bet_65
  clear hlen hpre hV
  obtain ⟨rfl, hS⟩ := hp
  have hR : dR (M 65) := hS.1
  (refine b_0 _ _ _ ?_; simp only [k_X7_bet_0, k_X7_bet_14, k_X7_bet_23, k_X7_bet_56, k_X7_bet_58, k_X7_bet_65, xp_1, xp_2, xp_3, xp_4, xp_5, xp_6, xp_7, xp_10, xp_11, xp_12, xp_13, xp_14, xp_15, xp_16, xp_17, xp_18, xp_19, xp_20, xp_21, xp_22, xp_23, xp_30, xp_31, xp_32, xp_33, xp_34, xp_35, xp_36, xp_37, xp_38, xp_39, xp_40, xp_41, xp_42, xp_43, xp_50, xp_51, xp_52, xp_53, xp_60, xp_61, xp_62, xp_63, xp_64, xp_65, xp_70, xp_80, xp_81, xp_82, up_ne, up_s, ud_s, ud_o, xw_0, xw_1, xg_0, xg_1, xl_i, xl_r, xs_0, xs_1, xq_i, xq_r, xq_v, xc_0, xc_1, xt_0, xt_1, xr_0, xr_1, xr_2, xe_0, xe_1, ob_0, ob_18, ob_36, ob_54, ak_55, ln_55, cq_55, ak_56, ln_56, cq_56, ob_57, ak_58, ln_58, cq_58, ak_59, ln_59, cq_59, ob_60, ak_61, ln_61, cq_61, ak_62, ln_62, cq_62, ob_63, ak_64, ln_64, cq_64, ak_65, ln_65, cq_65, ak_66, ln_66, cq_66, ak_67, ln_67, cq_67, ak_68, ln_68, cq_68, ak_69, ln_69, cq_69, ak_70, ln_70, cq_70, ak_71, ln_71, cq_71, ak_72, ln_72, cq_72, ak_73, ln_73, cq_73, pt_54_0, pt_54_1, pt_57_0, pt_57_3, pt_60_0, pt_60_1, pt_60_2, pt_60_4, pt_60_5, pt_60_6, pt_60_8, pt_63_0, pt_63_1, pt_63_2, pt_63_3, pt_63_4, pt_63_6, pt_63_7, pt_63_10, pt_63_11, pt_63_17, true_and, and_true, List.length_cons, List.length_nil, Nat.reduceAdd, Nat.reduceLeDiff, forall_eq, ne_eq, Nat.reduceEqDiff, not_false_eq_true, or_false, false_or, or_true, true_or, reduceCtorEq, Nat.zero_le, Nat.reduceMul, Nat.add_zero, false_and, and_false, false_implies, true_implies, forall_const, implies_true, List.append_nil, List.nil_append, List.cons_append, mb_i, mb_ii, mb_iii, mb_r, mb_ri, mb_rii, mb_riii, mb_rr, mb_rri, mb_rrii, mb_rriii, mb_riiiii, mb_rrr, mb_rir, mb_iiii, mb_riiii, tn_0, tn_1, tn_2, tn_3, tn_4, tn_5, tn_6, tc_0, tc_1, tc_2, tc_3, tc_4, tc_5, tc_6, xf_0, xf_1, xf_2, Sum.inl.injEq, Sum.inr.injEq, C_M_begins, C_M_bet, C_M_ends, C_M_isSleeper, C_M_morning, C_M_refuse, nI_1])
  refine ⟨fun h => ?_, fun h => ⟨rc1, ?_⟩⟩
  · have hi := s_in_sl h
    have fin : ∀ (x : Int32) (L3 : Option mj_V) (M1 : mj_M) (row : Nat → Int32), x = s_be (M 65) i 100 0 → wI M M1 row → (∀ j, j ≠ 4 → row j = M 65 j) → V 65 [some (.inr 63), some (.inl i), some (.inl x), L3] [] M1 := by
      intro x L3 M1 row hx hw hrow
      (refine b_65 _ _ _ ?_; simp only [k_X7_bet_0, k_X7_bet_14, k_X7_bet_23, k_X7_bet_56, k_X7_bet_58, k_X7_bet_65, xp_1, xp_2, xp_3, xp_4, xp_5, xp_6, xp_7, xp_10, xp_11, xp_12, xp_13, xp_14, xp_15, xp_16, xp_17, xp_18, xp_19, xp_20, xp_21, xp_22, xp_23, xp_30, xp_31, xp_32, xp_33, xp_34, xp_35, xp_36, xp_37, xp_38, xp_39, xp_40, xp_41, xp_42, xp_43, xp_50, xp_51, xp_52, xp_53, xp_60, xp_61, xp_62, xp_63, xp_64, xp_65, xp_70, xp_80, xp_81, xp_82, up_ne, up_s, ud_s, ud_o, xw_0, xw_1, xg_0, xg_1, xl_i, xl_r, xs_0, xs_1, xq_i, xq_r, xq_v, xc_0, xc_1, xt_0, xt_1, xr_0, xr_1, xr_2, xe_0, xe_1, ob_0, ob_18, ob_36, ob_54, ak_55, ln_55, cq_55, ak_56, ln_56, cq_56, ob_57, ak_58, ln_58, cq_58, ak_59, ln_59, cq_59, ob_60, ak_61, ln_61, cq_61, ak_62, ln_62, cq_62, ob_63, ak_64, ln_64, cq_64, ak_65, ln_65, cq_65, ak_66, ln_66, cq_66, ak_67, ln_67, cq_67, ak_68, ln_68, cq_68, ak_69, ln_69, cq_69, ak_70, ln_70, cq_70, ak_71, ln_71, cq_71, ak_72, ln_72, cq_72, ak_73, ln_73, cq_73, pt_54_0, pt_54_1, pt_57_0, pt_57_3, pt_60_0, pt_60_1, pt_60_2, pt_60_4, pt_60_5, pt_60_6, pt_60_8, pt_63_0, pt_63_1, pt_63_2, pt_63_3, pt_63_4, pt_63_6, pt_63_7, pt_63_10, pt_63_11, pt_63_17, true_and, and_true, List.length_cons, List.length_nil, Nat.reduceAdd, Nat.reduceLeDiff, forall_eq, ne_eq, Nat.reduceEqDiff, not_false_eq_true, or_false, false_or, or_true, true_or, reduceCtorEq, Nat.zero_le, Nat.reduceMul, Nat.add_zero, false_and, and_false, false_implies, true_implies, forall_const, implies_true, List.append_nil, List.nil_append, List.cons_append, mb_i, mb_ii, mb_iii, mb_r, mb_ri, mb_rii, mb_riii, mb_rr, mb_rri, mb_rrii, mb_rriii, mb_riiiii, mb_rrr, mb_rir, mb_iiii, mb_riiii, tn_0, tn_1, tn_2, tn_3, tn_4, tn_5, tn_6, tc_0, tc_1, tc_2, tc_3, tc_4, tc_5, tc_6, xf_0, xf_1, xf_2, Sum.inl.injEq, Sum.inr.injEq, C_M_begins, C_M_bet, C_M_ends, C_M_isSleeper, C_M_morning, C_M_refuse, nI_1])
      obtain ⟨e1, e2⟩ := wI_e hw (fun j hj => hrow j (by omega))
      unfold F_bet
      rw [mS_0, nB_1 h]
      exact qF_ok rfl hx e1 e2
    have loop : ∀ (f k : Nat) (M1 : mj_M) (row : Nat → Int32), k + f = 100 → wI M M1 row → (∀ j, j ≠ 4 → row j = M 65 j) → s_be (M 65) i f k = s_be (M 65) i 100 0 → V 23 [some (.inr 63), some (.inl i), some (.inl (-9)), some (.inl (nI k))] [] M1 := by
      intro f
      induction f with
      | zero =>
        intro k M1 row hk hw hrow hbe
        (refine b_23 _ _ _ ?_; simp only [k_X7_bet_0, k_X7_bet_14, k_X7_bet_23, k_X7_bet_56, k_X7_bet_58, k_X7_bet_65, xp_1, xp_2, xp_3, xp_4, xp_5, xp_6, xp_7, xp_10, xp_11, xp_12, xp_13, xp_14, xp_15, xp_16, xp_17, xp_18, xp_19, xp_20, xp_21, xp_22, xp_23, xp_30, xp_31, xp_32, xp_33, xp_34, xp_35, xp_36, xp_37, xp_38, xp_39, xp_40, xp_41, xp_42, xp_43, xp_50, xp_51, xp_52, xp_53, xp_60, xp_61, xp_62, xp_63, xp_64, xp_65, xp_70, xp_80, xp_81, xp_82, up_ne, up_s, ud_s, ud_o, xw_0, xw_1, xg_0, xg_1, xl_i, xl_r, xs_0, xs_1, xq_i, xq_r, xq_v, xc_0, xc_1, xt_0, xt_1, xr_0, xr_1, xr_2, xe_0, xe_1, ob_0, ob_18, ob_36, ob_54, ak_55, ln_55, cq_55, ak_56, ln_56, cq_56, ob_57, ak_58, ln_58, cq_58, ak_59, ln_59, cq_59, ob_60, ak_61, ln_61, cq_61, ak_62, ln_62, cq_62, ob_63, ak_64, ln_64, cq_64, ak_65, ln_65, cq_65, ak_66, ln_66, cq_66, ak_67, ln_67, cq_67, ak_68, ln_68, cq_68, ak_69, ln_69, cq_69, ak_70, ln_70, cq_70, ak_71, ln_71, cq_71, ak_72, ln_72, cq_72, ak_73, ln_73, cq_73, pt_54_0, pt_54_1, pt_57_0, pt_57_3, pt_60_0, pt_60_1, pt_60_2, pt_60_4, pt_60_5, pt_60_6, pt_60_8, pt_63_0, pt_63_1, pt_63_2, pt_63_3, pt_63_4, pt_63_6, pt_63_7, pt_63_10, pt_63_11, pt_63_17, true_and, and_true, List.length_cons, List.length_nil, Nat.reduceAdd, Nat.reduceLeDiff, forall_eq, ne_eq, Nat.reduceEqDiff, not_false_eq_true, or_false, false_or, or_true, true_or, reduceCtorEq, Nat.zero_le, Nat.reduceMul, Nat.add_zero, false_and, and_false, false_implies, true_implies, forall_const, implies_true, List.append_nil, List.nil_append, List.cons_append, mb_i, mb_ii, mb_iii, mb_r, mb_ri, mb_rii, mb_riii, mb_rr, mb_rri, mb_rrii, mb_rriii, mb_riiiii, mb_rrr, mb_rir, mb_iiii, mb_riiii, tn_0, tn_1, tn_2, tn_3, tn_4, tn_5, tn_6, tc_0, tc_1, tc_2, tc_3, tc_4, tc_5, tc_6, xf_0, xf_1, xf_2, Sum.inl.injEq, Sum.inr.injEq, C_M_begins, C_M_bet, C_M_ends, C_M_isSleeper, C_M_morning, C_M_refuse, nI_1])
        exact ⟨fun _ => fin _ _ M1 row hbe hw hrow, fun hlt => absurd hlt (l_ge (n := 100) (by omega) rfl (by omega))⟩
      | succ f ih =>
        intro k M1 row hk hw hrow hbe
        have hrw : upd row 4 (nI k) = upd (M 65) 4 (nI k) := ud_cg hrow
        have hR2 : dR (upd (M 65) 4 (nI k)) := dR_num hR (Or.inr (Or.inl ⟨rfl, bd_n (by omega) (by omega)⟩))
        unfold s_be at hbe
        (refine b_23 _ _ _ ?_; simp only [k_X7_bet_0, k_X7_bet_14, k_X7_bet_23, k_X7_bet_56, k_X7_bet_58, k_X7_bet_65, xp_1, xp_2, xp_3, xp_4, xp_5, xp_6, xp_7, xp_10, xp_11, xp_12, xp_13, xp_14, xp_15, xp_16, xp_17, xp_18, xp_19, xp_20, xp_21, xp_22, xp_23, xp_30, xp_31, xp_32, xp_33, xp_34, xp_35, xp_36, xp_37, xp_38, xp_39, xp_40, xp_41, xp_42, xp_43, xp_50, xp_51, xp_52, xp_53, xp_60, xp_61, xp_62, xp_63, xp_64, xp_65, xp_70, xp_80, xp_81, xp_82, up_ne, up_s, ud_s, ud_o, xw_0, xw_1, xg_0, xg_1, xl_i, xl_r, xs_0, xs_1, xq_i, xq_r, xq_v, xc_0, xc_1, xt_0, xt_1, xr_0, xr_1, xr_2, xe_0, xe_1, ob_0, ob_18, ob_36, ob_54, ak_55, ln_55, cq_55, ak_56, ln_56, cq_56, ob_57, ak_58, ln_58, cq_58, ak_59, ln_59, cq_59, ob_60, ak_61, ln_61, cq_61, ak_62, ln_62, cq_62, ob_63, ak_64, ln_64, cq_64, ak_65, ln_65, cq_65, ak_66, ln_66, cq_66, ak_67, ln_67, cq_67, ak_68, ln_68, cq_68, ak_69, ln_69, cq_69, ak_70, ln_70, cq_70, ak_71, ln_71, cq_71, ak_72, ln_72, cq_72, ak_73, ln_73, cq_73, pt_54_0, pt_54_1, pt_57_0, pt_57_3, pt_60_0, pt_60_1, pt_60_2, pt_60_4, pt_60_5, pt_60_6, pt_60_8, pt_63_0, pt_63_1, pt_63_2, pt_63_3, pt_63_4, pt_63_6, pt_63_7, pt_63_10, pt_63_11, pt_63_17, true_and, and_true, List.length_cons, List.length_nil, Nat.reduceAdd, Nat.reduceLeDiff, forall_eq, ne_eq, Nat.reduceEqDiff, not_false_eq_true, or_false, false_or, or_true, true_or, reduceCtorEq, Nat.zero_le, Nat.reduceMul, Nat.add_zero, false_and, and_false, false_implies, true_implies, forall_const, implies_true, List.append_nil, List.nil_append, List.cons_append, mb_i, mb_ii, mb_iii, mb_r, mb_ri, mb_rii, mb_riii, mb_rr, mb_rri, mb_rrii, mb_rriii, mb_riiiii, mb_rrr, mb_rir, mb_iiii, mb_riiii, tn_0, tn_1, tn_2, tn_3, tn_4, tn_5, tn_6, tc_0, tc_1, tc_2, tc_3, tc_4, tc_5, tc_6, xf_0, xf_1, xf_2, Sum.inl.injEq, Sum.inr.injEq, C_M_begins, C_M_bet, C_M_ends, C_M_isSleeper, C_M_morning, C_M_refuse, nI_1])
        rw [hw.1, hrw]
        refine ⟨fun hge => absurd (l_lt (n := 100) (by omega) rfl (by omega)) hge, fun _ => ⟨fun hh => absurd (by decide) hh, fun _ => ⟨vi_4, ⟨hR2, hi⟩, fun M2 hm => ?_⟩⟩⟩
        obtain ⟨q1, q2, q3, q4⟩ := hm
        have hw2 : wI M M2 (upd row 4 (nI k)) := wI_M (wI_p hw _ _) q4
        have h58 : ∀ x : Int32, x = (if (s_m (upd (M 65) 4 (nI k)) i).2.1 = 0 then nI k else -9) → V 58 [some (.inr 63), some (.inl i), some (.inl (-9)), some (.inl (nI k))] [.inl x] M2 := by
          intro x hx
          (refine b_58 _ _ _ ?_; simp only [k_X7_bet_0, k_X7_bet_14, k_X7_bet_23, k_X7_bet_56, k_X7_bet_58, k_X7_bet_65, xp_1, xp_2, xp_3, xp_4, xp_5, xp_6, xp_7, xp_10, xp_11, xp_12, xp_13, xp_14, xp_15, xp_16, xp_17, xp_18, xp_19, xp_20, xp_21, xp_22, xp_23, xp_30, xp_31, xp_32, xp_33, xp_34, xp_35, xp_36, xp_37, xp_38, xp_39, xp_40, xp_41, xp_42, xp_43, xp_50, xp_51, xp_52, xp_53, xp_60, xp_61, xp_62, xp_63, xp_64, xp_65, xp_70, xp_80, xp_81, xp_82, up_ne, up_s, ud_s, ud_o, xw_0, xw_1, xg_0, xg_1, xl_i, xl_r, xs_0, xs_1, xq_i, xq_r, xq_v, xc_0, xc_1, xt_0, xt_1, xr_0, xr_1, xr_2, xe_0, xe_1, ob_0, ob_18, ob_36, ob_54, ak_55, ln_55, cq_55, ak_56, ln_56, cq_56, ob_57, ak_58, ln_58, cq_58, ak_59, ln_59, cq_59, ob_60, ak_61, ln_61, cq_61, ak_62, ln_62, cq_62, ob_63, ak_64, ln_64, cq_64, ak_65, ln_65, cq_65, ak_66, ln_66, cq_66, ak_67, ln_67, cq_67, ak_68, ln_68, cq_68, ak_69, ln_69, cq_69, ak_70, ln_70, cq_70, ak_71, ln_71, cq_71, ak_72, ln_72, cq_72, ak_73, ln_73, cq_73, pt_54_0, pt_54_1, pt_57_0, pt_57_3, pt_60_0, pt_60_1, pt_60_2, pt_60_4, pt_60_5, pt_60_6, pt_60_8, pt_63_0, pt_63_1, pt_63_2, pt_63_3, pt_63_4, pt_63_6, pt_63_7, pt_63_10, pt_63_11, pt_63_17, true_and, and_true, List.length_cons, List.length_nil, Nat.reduceAdd, Nat.reduceLeDiff, forall_eq, ne_eq, Nat.reduceEqDiff, not_false_eq_true, or_false, false_or, or_true, true_or, reduceCtorEq, Nat.zero_le, Nat.reduceMul, Nat.add_zero, false_and, and_false, false_implies, true_implies, forall_const, implies_true, List.append_nil, List.nil_append, List.cons_append, mb_i, mb_ii, mb_iii, mb_r, mb_ri, mb_rii, mb_riii, mb_rr, mb_rri, mb_rrii, mb_rriii, mb_riiiii, mb_rrr, mb_rir, mb_iiii, mb_riiii, tn_0, tn_1, tn_2, tn_3, tn_4, tn_5, tn_6, tc_0, tc_1, tc_2, tc_3, tc_4, tc_5, tc_6, xf_0, xf_1, xf_2, Sum.inl.injEq, Sum.inr.injEq, C_M_begins, C_M_bet, C_M_ends, C_M_isSleeper, C_M_morning, C_M_refuse, nI_1])
          by_cases e : (s_m (upd (M 65) 4 (nI k)) i).2.1 = 0
          · rw [if_pos e] at hx hbe
            rw [hx]
            have h65 := fin (nI k) (some (.inl (nI (k + 1)))) M2 _ hbe hw2 (up_row hrow _)
            (refine b_23 _ _ _ ?_; simp only [k_X7_bet_0, k_X7_bet_14, k_X7_bet_23, k_X7_bet_56, k_X7_bet_58, k_X7_bet_65, xp_1, xp_2, xp_3, xp_4, xp_5, xp_6, xp_7, xp_10, xp_11, xp_12, xp_13, xp_14, xp_15, xp_16, xp_17, xp_18, xp_19, xp_20, xp_21, xp_22, xp_23, xp_30, xp_31, xp_32, xp_33, xp_34, xp_35, xp_36, xp_37, xp_38, xp_39, xp_40, xp_41, xp_42, xp_43, xp_50, xp_51, xp_52, xp_53, xp_60, xp_61, xp_62, xp_63, xp_64, xp_65, xp_70, xp_80, xp_81, xp_82, up_ne, up_s, ud_s, ud_o, xw_0, xw_1, xg_0, xg_1, xl_i, xl_r, xs_0, xs_1, xq_i, xq_r, xq_v, xc_0, xc_1, xt_0, xt_1, xr_0, xr_1, xr_2, xe_0, xe_1, ob_0, ob_18, ob_36, ob_54, ak_55, ln_55, cq_55, ak_56, ln_56, cq_56, ob_57, ak_58, ln_58, cq_58, ak_59, ln_59, cq_59, ob_60, ak_61, ln_61, cq_61, ak_62, ln_62, cq_62, ob_63, ak_64, ln_64, cq_64, ak_65, ln_65, cq_65, ak_66, ln_66, cq_66, ak_67, ln_67, cq_67, ak_68, ln_68, cq_68, ak_69, ln_69, cq_69, ak_70, ln_70, cq_70, ak_71, ln_71, cq_71, ak_72, ln_72, cq_72, ak_73, ln_73, cq_73, pt_54_0, pt_54_1, pt_57_0, pt_57_3, pt_60_0, pt_60_1, pt_60_2, pt_60_4, pt_60_5, pt_60_6, pt_60_8, pt_63_0, pt_63_1, pt_63_2, pt_63_3, pt_63_4, pt_63_6, pt_63_7, pt_63_10, pt_63_11, pt_63_17, true_and, and_true, List.length_cons, List.length_nil, Nat.reduceAdd, Nat.reduceLeDiff, forall_eq, ne_eq, Nat.reduceEqDiff, not_false_eq_true, or_false, false_or, or_true, true_or, reduceCtorEq, Nat.zero_le, Nat.reduceMul, Nat.add_zero, false_and, and_false, false_implies, true_implies, forall_const, implies_true, List.append_nil, List.nil_append, List.cons_append, mb_i, mb_ii, mb_iii, mb_r, mb_ri, mb_rii, mb_riii, mb_rr, mb_rri, mb_rrii, mb_rriii, mb_riiiii, mb_rrr, mb_rir, mb_iiii, mb_riiii, tn_0, tn_1, tn_2, tn_3, tn_4, tn_5, tn_6, tc_0, tc_1, tc_2, tc_3, tc_4, tc_5, tc_6, xf_0, xf_1, xf_2, Sum.inl.injEq, Sum.inr.injEq, C_M_begins, C_M_bet, C_M_ends, C_M_isSleeper, C_M_morning, C_M_refuse, nI_1])
            refine ⟨fun _ => h65, fun _ => ⟨fun _ => h65, fun hlt => absurd hlt (nl_0 (by omega))⟩⟩
          · rw [if_neg e] at hx hbe
            rw [hx]
            exact ih (k + 1) M2 _ (by omega) hw2 (up_row hrow _) hbe
        rw [q2]
        refine ⟨fun e => ?_, fun e => h58 _ (by rw [if_pos e])⟩
        (refine b_56 _ _ _ ?_; simp only [k_X7_bet_0, k_X7_bet_14, k_X7_bet_23, k_X7_bet_56, k_X7_bet_58, k_X7_bet_65, xp_1, xp_2, xp_3, xp_4, xp_5, xp_6, xp_7, xp_10, xp_11, xp_12, xp_13, xp_14, xp_15, xp_16, xp_17, xp_18, xp_19, xp_20, xp_21, xp_22, xp_23, xp_30, xp_31, xp_32, xp_33, xp_34, xp_35, xp_36, xp_37, xp_38, xp_39, xp_40, xp_41, xp_42, xp_43, xp_50, xp_51, xp_52, xp_53, xp_60, xp_61, xp_62, xp_63, xp_64, xp_65, xp_70, xp_80, xp_81, xp_82, up_ne, up_s, ud_s, ud_o, xw_0, xw_1, xg_0, xg_1, xl_i, xl_r, xs_0, xs_1, xq_i, xq_r, xq_v, xc_0, xc_1, xt_0, xt_1, xr_0, xr_1, xr_2, xe_0, xe_1, ob_0, ob_18, ob_36, ob_54, ak_55, ln_55, cq_55, ak_56, ln_56, cq_56, ob_57, ak_58, ln_58, cq_58, ak_59, ln_59, cq_59, ob_60, ak_61, ln_61, cq_61, ak_62, ln_62, cq_62, ob_63, ak_64, ln_64, cq_64, ak_65, ln_65, cq_65, ak_66, ln_66, cq_66, ak_67, ln_67, cq_67, ak_68, ln_68, cq_68, ak_69, ln_69, cq_69, ak_70, ln_70, cq_70, ak_71, ln_71, cq_71, ak_72, ln_72, cq_72, ak_73, ln_73, cq_73, pt_54_0, pt_54_1, pt_57_0, pt_57_3, pt_60_0, pt_60_1, pt_60_2, pt_60_4, pt_60_5, pt_60_6, pt_60_8, pt_63_0, pt_63_1, pt_63_2, pt_63_3, pt_63_4, pt_63_6, pt_63_7, pt_63_10, pt_63_11, pt_63_17, true_and, and_true, List.length_cons, List.length_nil, Nat.reduceAdd, Nat.reduceLeDiff, forall_eq, ne_eq, Nat.reduceEqDiff, not_false_eq_true, or_false, false_or, or_true, true_or, reduceCtorEq, Nat.zero_le, Nat.reduceMul, Nat.add_zero, false_and, and_false, false_implies, true_implies, forall_const, implies_true, List.append_nil, List.nil_append, List.cons_append, mb_i, mb_ii, mb_iii, mb_r, mb_ri, mb_rii, mb_riii, mb_rr, mb_rri, mb_rrii, mb_rriii, mb_riiiii, mb_rrr, mb_rir, mb_iiii, mb_riiii, tn_0, tn_1, tn_2, tn_3, tn_4, tn_5, tn_6, tc_0, tc_1, tc_2, tc_3, tc_4, tc_5, tc_6, xf_0, xf_1, xf_2, Sum.inl.injEq, Sum.inr.injEq, C_M_begins, C_M_bet, C_M_ends, C_M_isSleeper, C_M_morning, C_M_refuse, nI_1])
        exact h58 _ (by rw [if_neg e])
    (refine b_14 _ _ _ ?_; simp only [k_X7_bet_0, k_X7_bet_14, k_X7_bet_23, k_X7_bet_56, k_X7_bet_58, k_X7_bet_65, xp_1, xp_2, xp_3, xp_4, xp_5, xp_6, xp_7, xp_10, xp_11, xp_12, xp_13, xp_14, xp_15, xp_16, xp_17, xp_18, xp_19, xp_20, xp_21, xp_22, xp_23, xp_30, xp_31, xp_32, xp_33, xp_34, xp_35, xp_36, xp_37, xp_38, xp_39, xp_40, xp_41, xp_42, xp_43, xp_50, xp_51, xp_52, xp_53, xp_60, xp_61, xp_62, xp_63, xp_64, xp_65, xp_70, xp_80, xp_81, xp_82, up_ne, up_s, ud_s, ud_o, xw_0, xw_1, xg_0, xg_1, xl_i, xl_r, xs_0, xs_1, xq_i, xq_r, xq_v, xc_0, xc_1, xt_0, xt_1, xr_0, xr_1, xr_2, xe_0, xe_1, ob_0, ob_18, ob_36, ob_54, ak_55, ln_55, cq_55, ak_56, ln_56, cq_56, ob_57, ak_58, ln_58, cq_58, ak_59, ln_59, cq_59, ob_60, ak_61, ln_61, cq_61, ak_62, ln_62, cq_62, ob_63, ak_64, ln_64, cq_64, ak_65, ln_65, cq_65, ak_66, ln_66, cq_66, ak_67, ln_67, cq_67, ak_68, ln_68, cq_68, ak_69, ln_69, cq_69, ak_70, ln_70, cq_70, ak_71, ln_71, cq_71, ak_72, ln_72, cq_72, ak_73, ln_73, cq_73, pt_54_0, pt_54_1, pt_57_0, pt_57_3, pt_60_0, pt_60_1, pt_60_2, pt_60_4, pt_60_5, pt_60_6, pt_60_8, pt_63_0, pt_63_1, pt_63_2, pt_63_3, pt_63_4, pt_63_6, pt_63_7, pt_63_10, pt_63_11, pt_63_17, true_and, and_true, List.length_cons, List.length_nil, Nat.reduceAdd, Nat.reduceLeDiff, forall_eq, ne_eq, Nat.reduceEqDiff, not_false_eq_true, or_false, false_or, or_true, true_or, reduceCtorEq, Nat.zero_le, Nat.reduceMul, Nat.add_zero, false_and, and_false, false_implies, true_implies, forall_const, implies_true, List.append_nil, List.nil_append, List.cons_append, mb_i, mb_ii, mb_iii, mb_r, mb_ri, mb_rii, mb_riii, mb_rr, mb_rri, mb_rrii, mb_rriii, mb_riiiii, mb_rrr, mb_rir, mb_iiii, mb_riiii, tn_0, tn_1, tn_2, tn_3, tn_4, tn_5, tn_6, tc_0, tc_1, tc_2, tc_3, tc_4, tc_5, tc_6, xf_0, xf_1, xf_2, Sum.inl.injEq, Sum.inr.injEq, C_M_begins, C_M_bet, C_M_ends, C_M_isSleeper, C_M_morning, C_M_refuse, nI_1])
    exact loop 100 0 _ _ (by omega) (wI_b M) (fun _ _ => rfl) rfl
  · unfold F_bet
    rw [mS_0, nB_0 h]
    exact qF_no (by decide)

def C_M_leans : mj_C := (3, rk1, fun avs M => ma_rii avs fun a i m => (a = 63 ∧ dS (mS M)), fun avs M r M' => ma_rii avs fun a i m => (r = .inl (F_leans (mS M) i m).1 ∧ mS M' = (F_leans (mS M) i m).2 ∧ fr1 M M'))
theorem rc_M_leans : ∀ avs M, C_M_leans.2.2.1 avs M → ∃ a r, avs = .inr a :: r ∧ mj_ob a = 7 := by
  intro avs M h
  obtain ⟨a, i, m, rfl, h⟩ := mc_rii h
  exact ⟨_, _, rfl, by rw [h.1]; rfl⟩
set_option maxRecDepth 20000 in
set_option maxHeartbeats 2000000 in
theorem t_M_leans : mj_T yX7_leans cX7_leans 6 (some .int) 6 C_M_leans := by
  refine mj_T_of (own := 7) (rk := 1) [(123, C_M_refuse), (161, C_M_within), (255, C_M_isSleeper), (435, C_M_morning), (483, C_M_begins), (492, C_M_ends)] (by decide) rfl (by decide) ⟨rfl, rfl⟩ (List.forall_mem_cons.mpr ⟨mj_KV (own := 7) (nest := false) t_M_refuse ⟨wc_X7_refuse, wi_X7, by decide, wl_7_41⟩ wn_X7_refuse ws_X7_refuse (c0 := 7) (by decide) rfl (by decide +kernel) rc_M_refuse (by decide), (List.forall_mem_cons.mpr ⟨mj_KS (own := 7) (nest := false) t_M_within ⟨wc_X7_within, wi_X7, by decide, wl_7_53⟩ wn_X7_within (by decide +kernel) (by decide), (List.forall_mem_cons.mpr ⟨mj_KV (own := 7) (nest := false) t_M_isSleeper ⟨wc_X7_isSleeper, wi_X7, by decide, wl_7_85⟩ wn_X7_isSleeper ws_X7_isSleeper (c0 := 7) (by decide) rfl (by decide +kernel) rc_M_isSleeper (by decide), (List.forall_mem_cons.mpr ⟨mj_KV (own := 7) (nest := false) t_M_morning ⟨wc_X7_morning, wi_X7, by decide, wl_7_145⟩ wn_X7_morning ws_X7_morning (c0 := 7) (by decide) rfl (by decide +kernel) rc_M_morning (by decide), (List.forall_mem_cons.mpr ⟨mj_KV (own := 7) (nest := false) t_M_begins ⟨wc_X7_begins, wi_X7, by decide, wl_7_161⟩ wn_X7_begins ws_X7_begins (c0 := 7) (by decide) rfl (by decide +kernel) rc_M_begins (by decide), (List.forall_mem_cons.mpr ⟨mj_KV (own := 7) (nest := false) t_M_ends ⟨wc_X7_ends, wi_X7, by decide, wl_7_164⟩ wn_X7_ends ws_X7_ends (c0 := 7) (by decide) rfl (by decide +kernel) rc_M_ends (by decide), (fun _ h => absurd h List.not_mem_nil)⟩)⟩)⟩)⟩)⟩)⟩) ?_
  intro avs M hlen hpre V hV
  obtain ⟨a, i, m, rfl, hp⟩ := mc_rii hpre
  show V 0 [some (.inr a), some (.inl i), some (.inl m), none, none, none] [] M
  have b_0 := hV h_X7_leans_0; have b_19 := hV h_X7_leans_19; have b_20 := hV h_X7_leans_20; have b_31 := hV h_X7_leans_31; have b_41 := hV h_X7_leans_41; have b_85 := hV h_X7_leans_85; have b_86 := hV h_X7_leans_86; have b_95 := hV h_X7_leans_95
  clear hlen hpre hV
  obtain ⟨rfl, hS⟩ := hp
  have hg := dS_rg hS
  have hR : dR (M 65) := hS.1
  rw [mS_0] at hg
  have h20 : ∀ no : Int32, no = s_ft (nB i (M 65 0)) (s_wi m 0 300) → V 20 [some (.inr 63), some (.inl i), some (.inl m), none, none, none] [.inl no] M := by
    intro no hno
    (refine b_20 _ _ _ ?_; simp only [k_X7_leans_0, k_X7_leans_19, k_X7_leans_20, k_X7_leans_31, k_X7_leans_41, k_X7_leans_85, k_X7_leans_86, k_X7_leans_95, xp_1, xp_2, xp_3, xp_4, xp_5, xp_6, xp_7, xp_10, xp_11, xp_12, xp_13, xp_14, xp_15, xp_16, xp_17, xp_18, xp_19, xp_20, xp_21, xp_22, xp_23, xp_30, xp_31, xp_32, xp_33, xp_34, xp_35, xp_36, xp_37, xp_38, xp_39, xp_40, xp_41, xp_42, xp_43, xp_50, xp_51, xp_52, xp_53, xp_60, xp_61, xp_62, xp_63, xp_64, xp_65, xp_70, xp_80, xp_81, xp_82, up_ne, up_s, ud_s, ud_o, xw_0, xw_1, xg_0, xg_1, xl_i, xl_r, xs_0, xs_1, xq_i, xq_r, xq_v, xc_0, xc_1, xt_0, xt_1, xr_0, xr_1, xr_2, xe_0, xe_1, ob_0, ob_18, ob_36, ob_54, ak_55, ln_55, cq_55, ak_56, ln_56, cq_56, ob_57, ak_58, ln_58, cq_58, ak_59, ln_59, cq_59, ob_60, ak_61, ln_61, cq_61, ak_62, ln_62, cq_62, ob_63, ak_64, ln_64, cq_64, ak_65, ln_65, cq_65, ak_66, ln_66, cq_66, ak_67, ln_67, cq_67, ak_68, ln_68, cq_68, ak_69, ln_69, cq_69, ak_70, ln_70, cq_70, ak_71, ln_71, cq_71, ak_72, ln_72, cq_72, ak_73, ln_73, cq_73, pt_54_0, pt_54_1, pt_57_0, pt_57_3, pt_60_0, pt_60_1, pt_60_2, pt_60_4, pt_60_5, pt_60_6, pt_60_8, pt_63_0, pt_63_1, pt_63_2, pt_63_3, pt_63_4, pt_63_6, pt_63_7, pt_63_10, pt_63_11, pt_63_17, true_and, and_true, List.length_cons, List.length_nil, Nat.reduceAdd, Nat.reduceLeDiff, forall_eq, ne_eq, Nat.reduceEqDiff, not_false_eq_true, or_false, false_or, or_true, true_or, reduceCtorEq, Nat.zero_le, Nat.reduceMul, Nat.add_zero, false_and, and_false, false_implies, true_implies, forall_const, implies_true, List.append_nil, List.nil_append, List.cons_append, mb_i, mb_ii, mb_iii, mb_r, mb_ri, mb_rii, mb_riii, mb_rr, mb_rri, mb_rrii, mb_rriii, mb_riiiii, mb_rrr, mb_rir, mb_iiii, mb_riiii, tn_0, tn_1, tn_2, tn_3, tn_4, tn_5, tn_6, tc_0, tc_1, tc_2, tc_3, tc_4, tc_5, tc_6, xf_0, xf_1, xf_2, Sum.inl.injEq, Sum.inr.injEq, C_M_begins, C_M_ends, C_M_isSleeper, C_M_leans, C_M_morning, C_M_refuse, C_M_within, nI_1])
    refine ⟨fun h => ?_, fun h => ⟨by rw [hno] at h ⊢; exact ft_rc s_wi_rc h, ?_⟩⟩
    · obtain ⟨hc, -⟩ := ft_ok (hno.symm.trans h)
      have hb : bd i 0 3 := bd_in hc (by omega)
      have hi := s_in_sl hc
      have hix : vp_in (7 + 4 * i + 3) 55 ∧ (7 + 4 * i + 3).toNatClampNeg = 7 + 4 * tn i + 3 := ix_g hb (k := 3) ⟨by decide, by decide⟩
      have hct : tn i < tn (M 65 0) := in_tn hc
      have htc : tn i < 4 := by have := tn_of hb.1; have := hb.2; omega
      have loop : ∀ (f k : Nat) (M1 : mj_M) (row : Nat → Int32), k + f = 31 → wI M M1 row → (∀ j, j ≠ 7 + 4 * tn i + 3 → row j = M 65 j) → V 41 [some (.inr 63), some (.inl i), some (.inl m), some (.inl no), some (.inl (s_le (M 65) i m k)), some (.inl (nI k))] [] M1 := by
        intro f
        induction f with
        | zero =>
          intro k M1 row hk hw hrow
          (refine b_41 _ _ _ ?_; simp only [k_X7_leans_0, k_X7_leans_19, k_X7_leans_20, k_X7_leans_31, k_X7_leans_41, k_X7_leans_85, k_X7_leans_86, k_X7_leans_95, xp_1, xp_2, xp_3, xp_4, xp_5, xp_6, xp_7, xp_10, xp_11, xp_12, xp_13, xp_14, xp_15, xp_16, xp_17, xp_18, xp_19, xp_20, xp_21, xp_22, xp_23, xp_30, xp_31, xp_32, xp_33, xp_34, xp_35, xp_36, xp_37, xp_38, xp_39, xp_40, xp_41, xp_42, xp_43, xp_50, xp_51, xp_52, xp_53, xp_60, xp_61, xp_62, xp_63, xp_64, xp_65, xp_70, xp_80, xp_81, xp_82, up_ne, up_s, ud_s, ud_o, xw_0, xw_1, xg_0, xg_1, xl_i, xl_r, xs_0, xs_1, xq_i, xq_r, xq_v, xc_0, xc_1, xt_0, xt_1, xr_0, xr_1, xr_2, xe_0, xe_1, ob_0, ob_18, ob_36, ob_54, ak_55, ln_55, cq_55, ak_56, ln_56, cq_56, ob_57, ak_58, ln_58, cq_58, ak_59, ln_59, cq_59, ob_60, ak_61, ln_61, cq_61, ak_62, ln_62, cq_62, ob_63, ak_64, ln_64, cq_64, ak_65, ln_65, cq_65, ak_66, ln_66, cq_66, ak_67, ln_67, cq_67, ak_68, ln_68, cq_68, ak_69, ln_69, cq_69, ak_70, ln_70, cq_70, ak_71, ln_71, cq_71, ak_72, ln_72, cq_72, ak_73, ln_73, cq_73, pt_54_0, pt_54_1, pt_57_0, pt_57_3, pt_60_0, pt_60_1, pt_60_2, pt_60_4, pt_60_5, pt_60_6, pt_60_8, pt_63_0, pt_63_1, pt_63_2, pt_63_3, pt_63_4, pt_63_6, pt_63_7, pt_63_10, pt_63_11, pt_63_17, true_and, and_true, List.length_cons, List.length_nil, Nat.reduceAdd, Nat.reduceLeDiff, forall_eq, ne_eq, Nat.reduceEqDiff, not_false_eq_true, or_false, false_or, or_true, true_or, reduceCtorEq, Nat.zero_le, Nat.reduceMul, Nat.add_zero, false_and, and_false, false_implies, true_implies, forall_const, implies_true, List.append_nil, List.nil_append, List.cons_append, mb_i, mb_ii, mb_iii, mb_r, mb_ri, mb_rii, mb_riii, mb_rr, mb_rri, mb_rrii, mb_rriii, mb_riiiii, mb_rrr, mb_rir, mb_iiii, mb_riiii, tn_0, tn_1, tn_2, tn_3, tn_4, tn_5, tn_6, tc_0, tc_1, tc_2, tc_3, tc_4, tc_5, tc_6, xf_0, xf_1, xf_2, Sum.inl.injEq, Sum.inr.injEq, C_M_begins, C_M_ends, C_M_isSleeper, C_M_leans, C_M_morning, C_M_refuse, C_M_within, nI_1])
          refine ⟨fun _ => ?_, fun hlt => absurd (l_gt (n := 30) (by omega) rfl (by omega)) hlt⟩
          (refine b_95 _ _ _ ?_; simp only [k_X7_leans_0, k_X7_leans_19, k_X7_leans_20, k_X7_leans_31, k_X7_leans_41, k_X7_leans_85, k_X7_leans_86, k_X7_leans_95, xp_1, xp_2, xp_3, xp_4, xp_5, xp_6, xp_7, xp_10, xp_11, xp_12, xp_13, xp_14, xp_15, xp_16, xp_17, xp_18, xp_19, xp_20, xp_21, xp_22, xp_23, xp_30, xp_31, xp_32, xp_33, xp_34, xp_35, xp_36, xp_37, xp_38, xp_39, xp_40, xp_41, xp_42, xp_43, xp_50, xp_51, xp_52, xp_53, xp_60, xp_61, xp_62, xp_63, xp_64, xp_65, xp_70, xp_80, xp_81, xp_82, up_ne, up_s, ud_s, ud_o, xw_0, xw_1, xg_0, xg_1, xl_i, xl_r, xs_0, xs_1, xq_i, xq_r, xq_v, xc_0, xc_1, xt_0, xt_1, xr_0, xr_1, xr_2, xe_0, xe_1, ob_0, ob_18, ob_36, ob_54, ak_55, ln_55, cq_55, ak_56, ln_56, cq_56, ob_57, ak_58, ln_58, cq_58, ak_59, ln_59, cq_59, ob_60, ak_61, ln_61, cq_61, ak_62, ln_62, cq_62, ob_63, ak_64, ln_64, cq_64, ak_65, ln_65, cq_65, ak_66, ln_66, cq_66, ak_67, ln_67, cq_67, ak_68, ln_68, cq_68, ak_69, ln_69, cq_69, ak_70, ln_70, cq_70, ak_71, ln_71, cq_71, ak_72, ln_72, cq_72, ak_73, ln_73, cq_73, pt_54_0, pt_54_1, pt_57_0, pt_57_3, pt_60_0, pt_60_1, pt_60_2, pt_60_4, pt_60_5, pt_60_6, pt_60_8, pt_63_0, pt_63_1, pt_63_2, pt_63_3, pt_63_4, pt_63_6, pt_63_7, pt_63_10, pt_63_11, pt_63_17, true_and, and_true, List.length_cons, List.length_nil, Nat.reduceAdd, Nat.reduceLeDiff, forall_eq, ne_eq, Nat.reduceEqDiff, not_false_eq_true, or_false, false_or, or_true, true_or, reduceCtorEq, Nat.zero_le, Nat.reduceMul, Nat.add_zero, false_and, and_false, false_implies, true_implies, forall_const, implies_true, List.append_nil, List.nil_append, List.cons_append, mb_i, mb_ii, mb_iii, mb_r, mb_ri, mb_rii, mb_riii, mb_rr, mb_rri, mb_rrii, mb_rriii, mb_riiiii, mb_rrr, mb_rir, mb_iiii, mb_riiii, tn_0, tn_1, tn_2, tn_3, tn_4, tn_5, tn_6, tc_0, tc_1, tc_2, tc_3, tc_4, tc_5, tc_6, xf_0, xf_1, xf_2, Sum.inl.injEq, Sum.inr.injEq, C_M_begins, C_M_ends, C_M_isSleeper, C_M_leans, C_M_morning, C_M_refuse, C_M_within, nI_1])
          obtain ⟨e1, e2⟩ := wI_e hw (fun j hj => hrow j (by omega))
          unfold F_leans
          rw [mS_0, ← hno]
          exact qF_ok h (by rw [show k = 31 by omega]) e1 e2
        | succ f ih =>
          intro k M1 row hk hw hrow
          have h86 : ∀ (x : Int32) (M2 : mj_M), x = (if (s_m (upd (M 65) (7 + 4 * tn i + 3) (nI k)) i).1 = m then (1 : Int32) <<< (nI k &&& 31) else 0) → wI M M2 (upd row (7 + 4 * tn i + 3) (nI k)) → V 86 [some (.inr 63), some (.inl i), some (.inl m), some (.inl no), some (.inl (s_le (M 65) i m k)), some (.inl (nI k))] [.inl x, .inl (s_le (M 65) i m k)] M2 := by
            intro x M2 hx hw2
            (refine b_86 _ _ _ ?_; simp only [k_X7_leans_0, k_X7_leans_19, k_X7_leans_20, k_X7_leans_31, k_X7_leans_41, k_X7_leans_85, k_X7_leans_86, k_X7_leans_95, xp_1, xp_2, xp_3, xp_4, xp_5, xp_6, xp_7, xp_10, xp_11, xp_12, xp_13, xp_14, xp_15, xp_16, xp_17, xp_18, xp_19, xp_20, xp_21, xp_22, xp_23, xp_30, xp_31, xp_32, xp_33, xp_34, xp_35, xp_36, xp_37, xp_38, xp_39, xp_40, xp_41, xp_42, xp_43, xp_50, xp_51, xp_52, xp_53, xp_60, xp_61, xp_62, xp_63, xp_64, xp_65, xp_70, xp_80, xp_81, xp_82, up_ne, up_s, ud_s, ud_o, xw_0, xw_1, xg_0, xg_1, xl_i, xl_r, xs_0, xs_1, xq_i, xq_r, xq_v, xc_0, xc_1, xt_0, xt_1, xr_0, xr_1, xr_2, xe_0, xe_1, ob_0, ob_18, ob_36, ob_54, ak_55, ln_55, cq_55, ak_56, ln_56, cq_56, ob_57, ak_58, ln_58, cq_58, ak_59, ln_59, cq_59, ob_60, ak_61, ln_61, cq_61, ak_62, ln_62, cq_62, ob_63, ak_64, ln_64, cq_64, ak_65, ln_65, cq_65, ak_66, ln_66, cq_66, ak_67, ln_67, cq_67, ak_68, ln_68, cq_68, ak_69, ln_69, cq_69, ak_70, ln_70, cq_70, ak_71, ln_71, cq_71, ak_72, ln_72, cq_72, ak_73, ln_73, cq_73, pt_54_0, pt_54_1, pt_57_0, pt_57_3, pt_60_0, pt_60_1, pt_60_2, pt_60_4, pt_60_5, pt_60_6, pt_60_8, pt_63_0, pt_63_1, pt_63_2, pt_63_3, pt_63_4, pt_63_6, pt_63_7, pt_63_10, pt_63_11, pt_63_17, true_and, and_true, List.length_cons, List.length_nil, Nat.reduceAdd, Nat.reduceLeDiff, forall_eq, ne_eq, Nat.reduceEqDiff, not_false_eq_true, or_false, false_or, or_true, true_or, reduceCtorEq, Nat.zero_le, Nat.reduceMul, Nat.add_zero, false_and, and_false, false_implies, true_implies, forall_const, implies_true, List.append_nil, List.nil_append, List.cons_append, mb_i, mb_ii, mb_iii, mb_r, mb_ri, mb_rii, mb_riii, mb_rr, mb_rri, mb_rrii, mb_rriii, mb_riiiii, mb_rrr, mb_rir, mb_iiii, mb_riiii, tn_0, tn_1, tn_2, tn_3, tn_4, tn_5, tn_6, tc_0, tc_1, tc_2, tc_3, tc_4, tc_5, tc_6, xf_0, xf_1, xf_2, Sum.inl.injEq, Sum.inr.injEq, C_M_begins, C_M_ends, C_M_isSleeper, C_M_leans, C_M_morning, C_M_refuse, C_M_within, nI_1])
            rw [hx]
            exact ih (k + 1) M2 _ (by omega) hw2 (up_row hrow _)
          have hrw : upd row (7 + 4 * tn i + 3) (nI k) = upd (M 65) (7 + 4 * tn i + 3) (nI k) := ud_cg hrow
          have hR2 : dR (upd (M 65) (7 + 4 * tn i + 3) (nI k)) := dR_ln hR hct (bd_n (by omega) (by omega))
          (refine b_41 _ _ _ ?_; simp only [k_X7_leans_0, k_X7_leans_19, k_X7_leans_20, k_X7_leans_31, k_X7_leans_41, k_X7_leans_85, k_X7_leans_86, k_X7_leans_95, xp_1, xp_2, xp_3, xp_4, xp_5, xp_6, xp_7, xp_10, xp_11, xp_12, xp_13, xp_14, xp_15, xp_16, xp_17, xp_18, xp_19, xp_20, xp_21, xp_22, xp_23, xp_30, xp_31, xp_32, xp_33, xp_34, xp_35, xp_36, xp_37, xp_38, xp_39, xp_40, xp_41, xp_42, xp_43, xp_50, xp_51, xp_52, xp_53, xp_60, xp_61, xp_62, xp_63, xp_64, xp_65, xp_70, xp_80, xp_81, xp_82, up_ne, up_s, ud_s, ud_o, xw_0, xw_1, xg_0, xg_1, xl_i, xl_r, xs_0, xs_1, xq_i, xq_r, xq_v, xc_0, xc_1, xt_0, xt_1, xr_0, xr_1, xr_2, xe_0, xe_1, ob_0, ob_18, ob_36, ob_54, ak_55, ln_55, cq_55, ak_56, ln_56, cq_56, ob_57, ak_58, ln_58, cq_58, ak_59, ln_59, cq_59, ob_60, ak_61, ln_61, cq_61, ak_62, ln_62, cq_62, ob_63, ak_64, ln_64, cq_64, ak_65, ln_65, cq_65, ak_66, ln_66, cq_66, ak_67, ln_67, cq_67, ak_68, ln_68, cq_68, ak_69, ln_69, cq_69, ak_70, ln_70, cq_70, ak_71, ln_71, cq_71, ak_72, ln_72, cq_72, ak_73, ln_73, cq_73, pt_54_0, pt_54_1, pt_57_0, pt_57_3, pt_60_0, pt_60_1, pt_60_2, pt_60_4, pt_60_5, pt_60_6, pt_60_8, pt_63_0, pt_63_1, pt_63_2, pt_63_3, pt_63_4, pt_63_6, pt_63_7, pt_63_10, pt_63_11, pt_63_17, true_and, and_true, List.length_cons, List.length_nil, Nat.reduceAdd, Nat.reduceLeDiff, forall_eq, ne_eq, Nat.reduceEqDiff, not_false_eq_true, or_false, false_or, or_true, true_or, reduceCtorEq, Nat.zero_le, Nat.reduceMul, Nat.add_zero, false_and, and_false, false_implies, true_implies, forall_const, implies_true, List.append_nil, List.nil_append, List.cons_append, mb_i, mb_ii, mb_iii, mb_r, mb_ri, mb_rii, mb_riii, mb_rr, mb_rri, mb_rrii, mb_rriii, mb_riiiii, mb_rrr, mb_rir, mb_iiii, mb_riiii, tn_0, tn_1, tn_2, tn_3, tn_4, tn_5, tn_6, tc_0, tc_1, tc_2, tc_3, tc_4, tc_5, tc_6, xf_0, xf_1, xf_2, Sum.inl.injEq, Sum.inr.injEq, C_M_begins, C_M_ends, C_M_isSleeper, C_M_leans, C_M_morning, C_M_refuse, C_M_within, nI_1])
          rw [hix.2, hw.1, hrw]
          refine ⟨fun hge => absurd hge (l_ngt (n := 30) (by omega) rfl (by omega)), fun _ => ⟨hix.1, ⟨hR2, ?_⟩, fun M2 hm => ?_⟩⟩
          · exact ⟨hi.1, by rw [ud_o (by omega)]; exact hi.2⟩
          · obtain ⟨q1, q2, q3, q4⟩ := hm
            have hw2 : wI M M2 (upd row (7 + 4 * tn i + 3) (nI k)) := wI_M (wI_p hw _ _) q4
            rw [q1]
            refine ⟨fun hne => ?_, fun he => h86 _ M2 (by rw [if_pos he]) hw2⟩
            (refine b_85 _ _ _ ?_; simp only [k_X7_leans_0, k_X7_leans_19, k_X7_leans_20, k_X7_leans_31, k_X7_leans_41, k_X7_leans_85, k_X7_leans_86, k_X7_leans_95, xp_1, xp_2, xp_3, xp_4, xp_5, xp_6, xp_7, xp_10, xp_11, xp_12, xp_13, xp_14, xp_15, xp_16, xp_17, xp_18, xp_19, xp_20, xp_21, xp_22, xp_23, xp_30, xp_31, xp_32, xp_33, xp_34, xp_35, xp_36, xp_37, xp_38, xp_39, xp_40, xp_41, xp_42, xp_43, xp_50, xp_51, xp_52, xp_53, xp_60, xp_61, xp_62, xp_63, xp_64, xp_65, xp_70, xp_80, xp_81, xp_82, up_ne, up_s, ud_s, ud_o, xw_0, xw_1, xg_0, xg_1, xl_i, xl_r, xs_0, xs_1, xq_i, xq_r, xq_v, xc_0, xc_1, xt_0, xt_1, xr_0, xr_1, xr_2, xe_0, xe_1, ob_0, ob_18, ob_36, ob_54, ak_55, ln_55, cq_55, ak_56, ln_56, cq_56, ob_57, ak_58, ln_58, cq_58, ak_59, ln_59, cq_59, ob_60, ak_61, ln_61, cq_61, ak_62, ln_62, cq_62, ob_63, ak_64, ln_64, cq_64, ak_65, ln_65, cq_65, ak_66, ln_66, cq_66, ak_67, ln_67, cq_67, ak_68, ln_68, cq_68, ak_69, ln_69, cq_69, ak_70, ln_70, cq_70, ak_71, ln_71, cq_71, ak_72, ln_72, cq_72, ak_73, ln_73, cq_73, pt_54_0, pt_54_1, pt_57_0, pt_57_3, pt_60_0, pt_60_1, pt_60_2, pt_60_4, pt_60_5, pt_60_6, pt_60_8, pt_63_0, pt_63_1, pt_63_2, pt_63_3, pt_63_4, pt_63_6, pt_63_7, pt_63_10, pt_63_11, pt_63_17, true_and, and_true, List.length_cons, List.length_nil, Nat.reduceAdd, Nat.reduceLeDiff, forall_eq, ne_eq, Nat.reduceEqDiff, not_false_eq_true, or_false, false_or, or_true, true_or, reduceCtorEq, Nat.zero_le, Nat.reduceMul, Nat.add_zero, false_and, and_false, false_implies, true_implies, forall_const, implies_true, List.append_nil, List.nil_append, List.cons_append, mb_i, mb_ii, mb_iii, mb_r, mb_ri, mb_rii, mb_riii, mb_rr, mb_rri, mb_rrii, mb_rriii, mb_riiiii, mb_rrr, mb_rir, mb_iiii, mb_riiii, tn_0, tn_1, tn_2, tn_3, tn_4, tn_5, tn_6, tc_0, tc_1, tc_2, tc_3, tc_4, tc_5, tc_6, xf_0, xf_1, xf_2, Sum.inl.injEq, Sum.inr.injEq, C_M_begins, C_M_ends, C_M_isSleeper, C_M_leans, C_M_morning, C_M_refuse, C_M_within, nI_1])
            exact h86 0 M2 (by rw [if_neg hne]) hw2
      (refine b_31 _ _ _ ?_; simp only [k_X7_leans_0, k_X7_leans_19, k_X7_leans_20, k_X7_leans_31, k_X7_leans_41, k_X7_leans_85, k_X7_leans_86, k_X7_leans_95, xp_1, xp_2, xp_3, xp_4, xp_5, xp_6, xp_7, xp_10, xp_11, xp_12, xp_13, xp_14, xp_15, xp_16, xp_17, xp_18, xp_19, xp_20, xp_21, xp_22, xp_23, xp_30, xp_31, xp_32, xp_33, xp_34, xp_35, xp_36, xp_37, xp_38, xp_39, xp_40, xp_41, xp_42, xp_43, xp_50, xp_51, xp_52, xp_53, xp_60, xp_61, xp_62, xp_63, xp_64, xp_65, xp_70, xp_80, xp_81, xp_82, up_ne, up_s, ud_s, ud_o, xw_0, xw_1, xg_0, xg_1, xl_i, xl_r, xs_0, xs_1, xq_i, xq_r, xq_v, xc_0, xc_1, xt_0, xt_1, xr_0, xr_1, xr_2, xe_0, xe_1, ob_0, ob_18, ob_36, ob_54, ak_55, ln_55, cq_55, ak_56, ln_56, cq_56, ob_57, ak_58, ln_58, cq_58, ak_59, ln_59, cq_59, ob_60, ak_61, ln_61, cq_61, ak_62, ln_62, cq_62, ob_63, ak_64, ln_64, cq_64, ak_65, ln_65, cq_65, ak_66, ln_66, cq_66, ak_67, ln_67, cq_67, ak_68, ln_68, cq_68, ak_69, ln_69, cq_69, ak_70, ln_70, cq_70, ak_71, ln_71, cq_71, ak_72, ln_72, cq_72, ak_73, ln_73, cq_73, pt_54_0, pt_54_1, pt_57_0, pt_57_3, pt_60_0, pt_60_1, pt_60_2, pt_60_4, pt_60_5, pt_60_6, pt_60_8, pt_63_0, pt_63_1, pt_63_2, pt_63_3, pt_63_4, pt_63_6, pt_63_7, pt_63_10, pt_63_11, pt_63_17, true_and, and_true, List.length_cons, List.length_nil, Nat.reduceAdd, Nat.reduceLeDiff, forall_eq, ne_eq, Nat.reduceEqDiff, not_false_eq_true, or_false, false_or, or_true, true_or, reduceCtorEq, Nat.zero_le, Nat.reduceMul, Nat.add_zero, false_and, and_false, false_implies, true_implies, forall_const, implies_true, List.append_nil, List.nil_append, List.cons_append, mb_i, mb_ii, mb_iii, mb_r, mb_ri, mb_rii, mb_riii, mb_rr, mb_rri, mb_rrii, mb_rriii, mb_riiiii, mb_rrr, mb_rir, mb_iiii, mb_riiii, tn_0, tn_1, tn_2, tn_3, tn_4, tn_5, tn_6, tc_0, tc_1, tc_2, tc_3, tc_4, tc_5, tc_6, xf_0, xf_1, xf_2, Sum.inl.injEq, Sum.inr.injEq, C_M_begins, C_M_ends, C_M_isSleeper, C_M_leans, C_M_morning, C_M_refuse, C_M_within, nI_1])
      exact loop 31 0 _ _ (by omega) (wI_b M) (fun _ _ => rfl)
    · unfold F_leans
      rw [mS_0, ← hno]
      exact qF_no h
  (refine b_0 _ _ _ ?_; simp only [k_X7_leans_0, k_X7_leans_19, k_X7_leans_20, k_X7_leans_31, k_X7_leans_41, k_X7_leans_85, k_X7_leans_86, k_X7_leans_95, xp_1, xp_2, xp_3, xp_4, xp_5, xp_6, xp_7, xp_10, xp_11, xp_12, xp_13, xp_14, xp_15, xp_16, xp_17, xp_18, xp_19, xp_20, xp_21, xp_22, xp_23, xp_30, xp_31, xp_32, xp_33, xp_34, xp_35, xp_36, xp_37, xp_38, xp_39, xp_40, xp_41, xp_42, xp_43, xp_50, xp_51, xp_52, xp_53, xp_60, xp_61, xp_62, xp_63, xp_64, xp_65, xp_70, xp_80, xp_81, xp_82, up_ne, up_s, ud_s, ud_o, xw_0, xw_1, xg_0, xg_1, xl_i, xl_r, xs_0, xs_1, xq_i, xq_r, xq_v, xc_0, xc_1, xt_0, xt_1, xr_0, xr_1, xr_2, xe_0, xe_1, ob_0, ob_18, ob_36, ob_54, ak_55, ln_55, cq_55, ak_56, ln_56, cq_56, ob_57, ak_58, ln_58, cq_58, ak_59, ln_59, cq_59, ob_60, ak_61, ln_61, cq_61, ak_62, ln_62, cq_62, ob_63, ak_64, ln_64, cq_64, ak_65, ln_65, cq_65, ak_66, ln_66, cq_66, ak_67, ln_67, cq_67, ak_68, ln_68, cq_68, ak_69, ln_69, cq_69, ak_70, ln_70, cq_70, ak_71, ln_71, cq_71, ak_72, ln_72, cq_72, ak_73, ln_73, cq_73, pt_54_0, pt_54_1, pt_57_0, pt_57_3, pt_60_0, pt_60_1, pt_60_2, pt_60_4, pt_60_5, pt_60_6, pt_60_8, pt_63_0, pt_63_1, pt_63_2, pt_63_3, pt_63_4, pt_63_6, pt_63_7, pt_63_10, pt_63_11, pt_63_17, true_and, and_true, List.length_cons, List.length_nil, Nat.reduceAdd, Nat.reduceLeDiff, forall_eq, ne_eq, Nat.reduceEqDiff, not_false_eq_true, or_false, false_or, or_true, true_or, reduceCtorEq, Nat.zero_le, Nat.reduceMul, Nat.add_zero, false_and, and_false, false_implies, true_implies, forall_const, implies_true, List.append_nil, List.nil_append, List.cons_append, mb_i, mb_ii, mb_iii, mb_r, mb_ri, mb_rii, mb_riii, mb_rr, mb_rri, mb_rrii, mb_rriii, mb_riiiii, mb_rrr, mb_rir, mb_iiii, mb_riiii, tn_0, tn_1, tn_2, tn_3, tn_4, tn_5, tn_6, tc_0, tc_1, tc_2, tc_3, tc_4, tc_5, tc_6, xf_0, xf_1, xf_2, Sum.inl.injEq, Sum.inr.injEq, C_M_begins, C_M_ends, C_M_isSleeper, C_M_leans, C_M_morning, C_M_refuse, C_M_within, nI_1])
  refine ⟨fun h => ?_, fun h => h20 _ (ft_1 h).symm⟩
  (refine b_19 _ _ _ ?_; simp only [k_X7_leans_0, k_X7_leans_19, k_X7_leans_20, k_X7_leans_31, k_X7_leans_41, k_X7_leans_85, k_X7_leans_86, k_X7_leans_95, xp_1, xp_2, xp_3, xp_4, xp_5, xp_6, xp_7, xp_10, xp_11, xp_12, xp_13, xp_14, xp_15, xp_16, xp_17, xp_18, xp_19, xp_20, xp_21, xp_22, xp_23, xp_30, xp_31, xp_32, xp_33, xp_34, xp_35, xp_36, xp_37, xp_38, xp_39, xp_40, xp_41, xp_42, xp_43, xp_50, xp_51, xp_52, xp_53, xp_60, xp_61, xp_62, xp_63, xp_64, xp_65, xp_70, xp_80, xp_81, xp_82, up_ne, up_s, ud_s, ud_o, xw_0, xw_1, xg_0, xg_1, xl_i, xl_r, xs_0, xs_1, xq_i, xq_r, xq_v, xc_0, xc_1, xt_0, xt_1, xr_0, xr_1, xr_2, xe_0, xe_1, ob_0, ob_18, ob_36, ob_54, ak_55, ln_55, cq_55, ak_56, ln_56, cq_56, ob_57, ak_58, ln_58, cq_58, ak_59, ln_59, cq_59, ob_60, ak_61, ln_61, cq_61, ak_62, ln_62, cq_62, ob_63, ak_64, ln_64, cq_64, ak_65, ln_65, cq_65, ak_66, ln_66, cq_66, ak_67, ln_67, cq_67, ak_68, ln_68, cq_68, ak_69, ln_69, cq_69, ak_70, ln_70, cq_70, ak_71, ln_71, cq_71, ak_72, ln_72, cq_72, ak_73, ln_73, cq_73, pt_54_0, pt_54_1, pt_57_0, pt_57_3, pt_60_0, pt_60_1, pt_60_2, pt_60_4, pt_60_5, pt_60_6, pt_60_8, pt_63_0, pt_63_1, pt_63_2, pt_63_3, pt_63_4, pt_63_6, pt_63_7, pt_63_10, pt_63_11, pt_63_17, true_and, and_true, List.length_cons, List.length_nil, Nat.reduceAdd, Nat.reduceLeDiff, forall_eq, ne_eq, Nat.reduceEqDiff, not_false_eq_true, or_false, false_or, or_true, true_or, reduceCtorEq, Nat.zero_le, Nat.reduceMul, Nat.add_zero, false_and, and_false, false_implies, true_implies, forall_const, implies_true, List.append_nil, List.nil_append, List.cons_append, mb_i, mb_ii, mb_iii, mb_r, mb_ri, mb_rii, mb_riii, mb_rr, mb_rri, mb_rrii, mb_rriii, mb_riiiii, mb_rrr, mb_rir, mb_iiii, mb_riiii, tn_0, tn_1, tn_2, tn_3, tn_4, tn_5, tn_6, tc_0, tc_1, tc_2, tc_3, tc_4, tc_5, tc_6, xf_0, xf_1, xf_2, Sum.inl.injEq, Sum.inr.injEq, C_M_begins, C_M_ends, C_M_isSleeper, C_M_leans, C_M_morning, C_M_refuse, C_M_within, nI_1])
  exact h20 _ (ft_0 h).symm

def C_M_back : mj_C := (3, rk1, fun avs M => ma_rii avs fun a c m => (a = 63 ∧ dS (mS M)), fun avs M r M' => ma_rii avs fun a c m => (r = .inl (F_back (mS M) c m).1 ∧ mS M' = (F_back (mS M) c m).2 ∧ fr1 M M'))
theorem rc_M_back : ∀ avs M, C_M_back.2.2.1 avs M → ∃ a r, avs = .inr a :: r ∧ mj_ob a = 7 := by
  intro avs M h
  obtain ⟨a, c, m, rfl, h⟩ := mc_rii h
  exact ⟨_, _, rfl, by rw [h.1]; rfl⟩
set_option maxRecDepth 20000 in
set_option maxHeartbeats 2000000 in
theorem t_M_back : mj_T yX7_back cX7_back 7 (some .int) 6 C_M_back := by
  refine mj_T_of (own := 7) (rk := 1) [(123, C_M_refuse), (161, C_M_within), (306, C_M_isClock), (315, C_M_at), (435, C_M_morning), (483, C_M_begins), (492, C_M_ends)] (by decide) rfl (by decide) ⟨rfl, rfl⟩ (List.forall_mem_cons.mpr ⟨mj_KV (own := 7) (nest := false) t_M_refuse ⟨wc_X7_refuse, wi_X7, by decide, wl_7_41⟩ wn_X7_refuse ws_X7_refuse (c0 := 7) (by decide) rfl (by decide +kernel) rc_M_refuse (by decide), (List.forall_mem_cons.mpr ⟨mj_KS (own := 7) (nest := false) t_M_within ⟨wc_X7_within, wi_X7, by decide, wl_7_53⟩ wn_X7_within (by decide +kernel) (by decide), (List.forall_mem_cons.mpr ⟨mj_KV (own := 7) (nest := false) t_M_isClock ⟨wc_X7_isClock, wi_X7, by decide, wl_7_102⟩ wn_X7_isClock ws_X7_isClock (c0 := 7) (by decide) rfl (by decide +kernel) rc_M_isClock (by decide), (List.forall_mem_cons.mpr ⟨mj_KV (own := 7) (nest := false) t_M_at ⟨wc_X7_at, wi_X7, by decide, wl_7_105⟩ wn_X7_at ws_X7_at (c0 := 7) (by decide) rfl (by decide +kernel) rc_M_at (by decide), (List.forall_mem_cons.mpr ⟨mj_KV (own := 7) (nest := false) t_M_morning ⟨wc_X7_morning, wi_X7, by decide, wl_7_145⟩ wn_X7_morning ws_X7_morning (c0 := 7) (by decide) rfl (by decide +kernel) rc_M_morning (by decide), (List.forall_mem_cons.mpr ⟨mj_KV (own := 7) (nest := false) t_M_begins ⟨wc_X7_begins, wi_X7, by decide, wl_7_161⟩ wn_X7_begins ws_X7_begins (c0 := 7) (by decide) rfl (by decide +kernel) rc_M_begins (by decide), (List.forall_mem_cons.mpr ⟨mj_KV (own := 7) (nest := false) t_M_ends ⟨wc_X7_ends, wi_X7, by decide, wl_7_164⟩ wn_X7_ends ws_X7_ends (c0 := 7) (by decide) rfl (by decide +kernel) rc_M_ends (by decide), (fun _ h => absurd h List.not_mem_nil)⟩)⟩)⟩)⟩)⟩)⟩)⟩) ?_
  intro avs M hlen hpre V hV
  obtain ⟨a, c, m, rfl, hp⟩ := mc_rii hpre
  show V 0 [some (.inr a), some (.inl c), some (.inl m), none, none, none, none] [] M
  have b_0 := hV h_X7_back_0; have b_19 := hV h_X7_back_19; have b_20 := hV h_X7_back_20; have b_31 := hV h_X7_back_31; have b_50 := hV h_X7_back_50; have b_110 := hV h_X7_back_110; have b_112 := hV h_X7_back_112; have b_120 := hV h_X7_back_120
  clear hlen hpre hV
  obtain ⟨rfl, hS⟩ := hp
  have hg := dS_rg hS
  have hR : dR (M 65) := hS.1
  rw [mS_0] at hg
  have h20 : ∀ no : Int32, no = s_ft (nB c (M 65 1)) (s_wi m 0 300) → V 20 [some (.inr 63), some (.inl c), some (.inl m), none, none, none, none] [.inl no] M := by
    intro no hno
    (refine b_20 _ _ _ ?_; simp only [k_X7_back_0, k_X7_back_19, k_X7_back_20, k_X7_back_31, k_X7_back_50, k_X7_back_110, k_X7_back_112, k_X7_back_120, xp_1, xp_2, xp_3, xp_4, xp_5, xp_6, xp_7, xp_10, xp_11, xp_12, xp_13, xp_14, xp_15, xp_16, xp_17, xp_18, xp_19, xp_20, xp_21, xp_22, xp_23, xp_30, xp_31, xp_32, xp_33, xp_34, xp_35, xp_36, xp_37, xp_38, xp_39, xp_40, xp_41, xp_42, xp_43, xp_50, xp_51, xp_52, xp_53, xp_60, xp_61, xp_62, xp_63, xp_64, xp_65, xp_70, xp_80, xp_81, xp_82, up_ne, up_s, ud_s, ud_o, xw_0, xw_1, xg_0, xg_1, xl_i, xl_r, xs_0, xs_1, xq_i, xq_r, xq_v, xc_0, xc_1, xt_0, xt_1, xr_0, xr_1, xr_2, xe_0, xe_1, ob_0, ob_18, ob_36, ob_54, ak_55, ln_55, cq_55, ak_56, ln_56, cq_56, ob_57, ak_58, ln_58, cq_58, ak_59, ln_59, cq_59, ob_60, ak_61, ln_61, cq_61, ak_62, ln_62, cq_62, ob_63, ak_64, ln_64, cq_64, ak_65, ln_65, cq_65, ak_66, ln_66, cq_66, ak_67, ln_67, cq_67, ak_68, ln_68, cq_68, ak_69, ln_69, cq_69, ak_70, ln_70, cq_70, ak_71, ln_71, cq_71, ak_72, ln_72, cq_72, ak_73, ln_73, cq_73, pt_54_0, pt_54_1, pt_57_0, pt_57_3, pt_60_0, pt_60_1, pt_60_2, pt_60_4, pt_60_5, pt_60_6, pt_60_8, pt_63_0, pt_63_1, pt_63_2, pt_63_3, pt_63_4, pt_63_6, pt_63_7, pt_63_10, pt_63_11, pt_63_17, true_and, and_true, List.length_cons, List.length_nil, Nat.reduceAdd, Nat.reduceLeDiff, forall_eq, ne_eq, Nat.reduceEqDiff, not_false_eq_true, or_false, false_or, or_true, true_or, reduceCtorEq, Nat.zero_le, Nat.reduceMul, Nat.add_zero, false_and, and_false, false_implies, true_implies, forall_const, implies_true, List.append_nil, List.nil_append, List.cons_append, mb_i, mb_ii, mb_iii, mb_r, mb_ri, mb_rii, mb_riii, mb_rr, mb_rri, mb_rrii, mb_rriii, mb_riiiii, mb_rrr, mb_rir, mb_iiii, mb_riiii, tn_0, tn_1, tn_2, tn_3, tn_4, tn_5, tn_6, tc_0, tc_1, tc_2, tc_3, tc_4, tc_5, tc_6, xf_0, xf_1, xf_2, Sum.inl.injEq, Sum.inr.injEq, C_M_at, C_M_back, C_M_begins, C_M_ends, C_M_isClock, C_M_morning, C_M_refuse, C_M_within, nI_1])
    refine ⟨fun h => ?_, fun h => ⟨by rw [hno] at h ⊢; exact ft_rc s_wi_rc h, ?_⟩⟩
    · obtain ⟨hc, -⟩ := ft_ok (hno.symm.trans h)
      have hb : bd c 0 3 := bd_in hc (by omega)
      have hix := ix_2 hb
      have hct : tn c < tn (M 65 1) := in_tn hc
      have htc : tn c < 4 := by have := tn_of hb.1; have := hb.2; omega
      have hset : bd (M 65 (23 + 5 * tn c + 2)) 0 300 := by
        obtain ⟨-, -, -, -, -, -, -, -, rc, -, -⟩ := hR
        exact (rc _ hct).2.2.2.1
      have fin : ∀ (x : Int32) (L6 : Option mj_V) (M1 : mj_M) (row : Nat → Int32), x = s_ba (M 65) c (s_own (M 65) c) (M 65 (23 + 5 * tn c + 2)) m 61 0 → wI M M1 row → (∀ j, j ≠ 23 + 5 * tn c + 2 → row j = M 65 j) → V 120 [some (.inr 63), some (.inl c), some (.inl m), some (.inl no), some (.inl x), some (.inl (M 65 (23 + 5 * tn c + 2))), L6] [] M1 := by
        intro x L6 M1 row hx hw hrow
        (refine b_120 _ _ _ ?_; simp only [k_X7_back_0, k_X7_back_19, k_X7_back_20, k_X7_back_31, k_X7_back_50, k_X7_back_110, k_X7_back_112, k_X7_back_120, xp_1, xp_2, xp_3, xp_4, xp_5, xp_6, xp_7, xp_10, xp_11, xp_12, xp_13, xp_14, xp_15, xp_16, xp_17, xp_18, xp_19, xp_20, xp_21, xp_22, xp_23, xp_30, xp_31, xp_32, xp_33, xp_34, xp_35, xp_36, xp_37, xp_38, xp_39, xp_40, xp_41, xp_42, xp_43, xp_50, xp_51, xp_52, xp_53, xp_60, xp_61, xp_62, xp_63, xp_64, xp_65, xp_70, xp_80, xp_81, xp_82, up_ne, up_s, ud_s, ud_o, xw_0, xw_1, xg_0, xg_1, xl_i, xl_r, xs_0, xs_1, xq_i, xq_r, xq_v, xc_0, xc_1, xt_0, xt_1, xr_0, xr_1, xr_2, xe_0, xe_1, ob_0, ob_18, ob_36, ob_54, ak_55, ln_55, cq_55, ak_56, ln_56, cq_56, ob_57, ak_58, ln_58, cq_58, ak_59, ln_59, cq_59, ob_60, ak_61, ln_61, cq_61, ak_62, ln_62, cq_62, ob_63, ak_64, ln_64, cq_64, ak_65, ln_65, cq_65, ak_66, ln_66, cq_66, ak_67, ln_67, cq_67, ak_68, ln_68, cq_68, ak_69, ln_69, cq_69, ak_70, ln_70, cq_70, ak_71, ln_71, cq_71, ak_72, ln_72, cq_72, ak_73, ln_73, cq_73, pt_54_0, pt_54_1, pt_57_0, pt_57_3, pt_60_0, pt_60_1, pt_60_2, pt_60_4, pt_60_5, pt_60_6, pt_60_8, pt_63_0, pt_63_1, pt_63_2, pt_63_3, pt_63_4, pt_63_6, pt_63_7, pt_63_10, pt_63_11, pt_63_17, true_and, and_true, List.length_cons, List.length_nil, Nat.reduceAdd, Nat.reduceLeDiff, forall_eq, ne_eq, Nat.reduceEqDiff, not_false_eq_true, or_false, false_or, or_true, true_or, reduceCtorEq, Nat.zero_le, Nat.reduceMul, Nat.add_zero, false_and, and_false, false_implies, true_implies, forall_const, implies_true, List.append_nil, List.nil_append, List.cons_append, mb_i, mb_ii, mb_iii, mb_r, mb_ri, mb_rii, mb_riii, mb_rr, mb_rri, mb_rrii, mb_rriii, mb_riiiii, mb_rrr, mb_rir, mb_iiii, mb_riiii, tn_0, tn_1, tn_2, tn_3, tn_4, tn_5, tn_6, tc_0, tc_1, tc_2, tc_3, tc_4, tc_5, tc_6, xf_0, xf_1, xf_2, Sum.inl.injEq, Sum.inr.injEq, C_M_at, C_M_back, C_M_begins, C_M_ends, C_M_isClock, C_M_morning, C_M_refuse, C_M_within, nI_1])
        obtain ⟨e1, e2⟩ := wI_e hw (fun j hj => hrow j (by omega))
        unfold F_back
        rw [mS_0, ← hno]
        exact qF_ok h hx e1 e2
      have loop : ∀ (f k : Nat) (M1 : mj_M) (row : Nat → Int32), k + f = 61 → wI M M1 row → (∀ j, j ≠ 23 + 5 * tn c + 2 → row j = M 65 j) → s_ba (M 65) c (s_own (M 65) c) (M 65 (23 + 5 * tn c + 2)) m f k = s_ba (M 65) c (s_own (M 65) c) (M 65 (23 + 5 * tn c + 2)) m 61 0 → V 50 [some (.inr 63), some (.inl c), some (.inl m), some (.inl no), some (.inl (-9)), some (.inl (M 65 (23 + 5 * tn c + 2))), some (.inl (nI k))] [] M1 := by
        intro f
        induction f with
        | zero =>
          intro k M1 row hk hw hrow hbe
          (refine b_50 _ _ _ ?_; simp only [k_X7_back_0, k_X7_back_19, k_X7_back_20, k_X7_back_31, k_X7_back_50, k_X7_back_110, k_X7_back_112, k_X7_back_120, xp_1, xp_2, xp_3, xp_4, xp_5, xp_6, xp_7, xp_10, xp_11, xp_12, xp_13, xp_14, xp_15, xp_16, xp_17, xp_18, xp_19, xp_20, xp_21, xp_22, xp_23, xp_30, xp_31, xp_32, xp_33, xp_34, xp_35, xp_36, xp_37, xp_38, xp_39, xp_40, xp_41, xp_42, xp_43, xp_50, xp_51, xp_52, xp_53, xp_60, xp_61, xp_62, xp_63, xp_64, xp_65, xp_70, xp_80, xp_81, xp_82, up_ne, up_s, ud_s, ud_o, xw_0, xw_1, xg_0, xg_1, xl_i, xl_r, xs_0, xs_1, xq_i, xq_r, xq_v, xc_0, xc_1, xt_0, xt_1, xr_0, xr_1, xr_2, xe_0, xe_1, ob_0, ob_18, ob_36, ob_54, ak_55, ln_55, cq_55, ak_56, ln_56, cq_56, ob_57, ak_58, ln_58, cq_58, ak_59, ln_59, cq_59, ob_60, ak_61, ln_61, cq_61, ak_62, ln_62, cq_62, ob_63, ak_64, ln_64, cq_64, ak_65, ln_65, cq_65, ak_66, ln_66, cq_66, ak_67, ln_67, cq_67, ak_68, ln_68, cq_68, ak_69, ln_69, cq_69, ak_70, ln_70, cq_70, ak_71, ln_71, cq_71, ak_72, ln_72, cq_72, ak_73, ln_73, cq_73, pt_54_0, pt_54_1, pt_57_0, pt_57_3, pt_60_0, pt_60_1, pt_60_2, pt_60_4, pt_60_5, pt_60_6, pt_60_8, pt_63_0, pt_63_1, pt_63_2, pt_63_3, pt_63_4, pt_63_6, pt_63_7, pt_63_10, pt_63_11, pt_63_17, true_and, and_true, List.length_cons, List.length_nil, Nat.reduceAdd, Nat.reduceLeDiff, forall_eq, ne_eq, Nat.reduceEqDiff, not_false_eq_true, or_false, false_or, or_true, true_or, reduceCtorEq, Nat.zero_le, Nat.reduceMul, Nat.add_zero, false_and, and_false, false_implies, true_implies, forall_const, implies_true, List.append_nil, List.nil_append, List.cons_append, mb_i, mb_ii, mb_iii, mb_r, mb_ri, mb_rii, mb_riii, mb_rr, mb_rri, mb_rrii, mb_rriii, mb_riiiii, mb_rrr, mb_rir, mb_iiii, mb_riiii, tn_0, tn_1, tn_2, tn_3, tn_4, tn_5, tn_6, tc_0, tc_1, tc_2, tc_3, tc_4, tc_5, tc_6, xf_0, xf_1, xf_2, Sum.inl.injEq, Sum.inr.injEq, C_M_at, C_M_back, C_M_begins, C_M_ends, C_M_isClock, C_M_morning, C_M_refuse, C_M_within, nI_1])
          exact ⟨fun _ => fin _ _ M1 row hbe hw hrow, fun hlt => absurd (l_gt (n := 60) (by omega) rfl (by omega)) hlt⟩
        | succ f ih =>
          intro k M1 row hk hw hrow hbe
          unfold s_ba at hbe
          (refine b_50 _ _ _ ?_; simp only [k_X7_back_0, k_X7_back_19, k_X7_back_20, k_X7_back_31, k_X7_back_50, k_X7_back_110, k_X7_back_112, k_X7_back_120, xp_1, xp_2, xp_3, xp_4, xp_5, xp_6, xp_7, xp_10, xp_11, xp_12, xp_13, xp_14, xp_15, xp_16, xp_17, xp_18, xp_19, xp_20, xp_21, xp_22, xp_23, xp_30, xp_31, xp_32, xp_33, xp_34, xp_35, xp_36, xp_37, xp_38, xp_39, xp_40, xp_41, xp_42, xp_43, xp_50, xp_51, xp_52, xp_53, xp_60, xp_61, xp_62, xp_63, xp_64, xp_65, xp_70, xp_80, xp_81, xp_82, up_ne, up_s, ud_s, ud_o, xw_0, xw_1, xg_0, xg_1, xl_i, xl_r, xs_0, xs_1, xq_i, xq_r, xq_v, xc_0, xc_1, xt_0, xt_1, xr_0, xr_1, xr_2, xe_0, xe_1, ob_0, ob_18, ob_36, ob_54, ak_55, ln_55, cq_55, ak_56, ln_56, cq_56, ob_57, ak_58, ln_58, cq_58, ak_59, ln_59, cq_59, ob_60, ak_61, ln_61, cq_61, ak_62, ln_62, cq_62, ob_63, ak_64, ln_64, cq_64, ak_65, ln_65, cq_65, ak_66, ln_66, cq_66, ak_67, ln_67, cq_67, ak_68, ln_68, cq_68, ak_69, ln_69, cq_69, ak_70, ln_70, cq_70, ak_71, ln_71, cq_71, ak_72, ln_72, cq_72, ak_73, ln_73, cq_73, pt_54_0, pt_54_1, pt_57_0, pt_57_3, pt_60_0, pt_60_1, pt_60_2, pt_60_4, pt_60_5, pt_60_6, pt_60_8, pt_63_0, pt_63_1, pt_63_2, pt_63_3, pt_63_4, pt_63_6, pt_63_7, pt_63_10, pt_63_11, pt_63_17, true_and, and_true, List.length_cons, List.length_nil, Nat.reduceAdd, Nat.reduceLeDiff, forall_eq, ne_eq, Nat.reduceEqDiff, not_false_eq_true, or_false, false_or, or_true, true_or, reduceCtorEq, Nat.zero_le, Nat.reduceMul, Nat.add_zero, false_and, and_false, false_implies, true_implies, forall_const, implies_true, List.append_nil, List.nil_append, List.cons_append, mb_i, mb_ii, mb_iii, mb_r, mb_ri, mb_rii, mb_riii, mb_rr, mb_rri, mb_rrii, mb_rriii, mb_riiiii, mb_rrr, mb_rir, mb_iiii, mb_riiii, tn_0, tn_1, tn_2, tn_3, tn_4, tn_5, tn_6, tc_0, tc_1, tc_2, tc_3, tc_4, tc_5, tc_6, xf_0, xf_1, xf_2, Sum.inl.injEq, Sum.inr.injEq, C_M_at, C_M_back, C_M_begins, C_M_ends, C_M_isClock, C_M_morning, C_M_refuse, C_M_within, nI_1])
          refine ⟨fun hge => absurd hge (l_ngt (n := 60) (by omega) rfl (by omega)), fun _ => ⟨fun hlt => ?_, fun hlt => ⟨fun hh => absurd (by decide) hh, fun _ => ?_⟩⟩⟩
          · rw [if_pos hlt] at hbe
            exact fin _ _ M1 row hbe hw hrow
          · rw [if_neg hlt] at hbe
            have hlt2 : (k : Int) ≤ (M 65 (23 + 5 * tn c + 2)).toInt := by
              rw [ti_lt, ti_nI (by omega)] at hlt
              omega
            have hv : bd (M 65 (23 + 5 * tn c + 2) - nI k) 0 300 := by
              have e : (M 65 (23 + 5 * tn c + 2) - nI k).toInt = (M 65 (23 + 5 * tn c + 2)).toInt - (k : Int) := by
                have := hset.2
                rw [ti_sub (by rw [ti_nI (by omega)]; omega) (by rw [ti_nI (by omega)]; omega), ti_nI (by omega)]
              exact ⟨by rw [e]; omega, by rw [e]; have := hset.2; omega⟩
            have hrw : upd row (23 + 5 * tn c + 2) (M 65 (23 + 5 * tn c + 2) - nI k) = upd (M 65) (23 + 5 * tn c + 2) (M 65 (23 + 5 * tn c + 2) - nI k) := ud_cg hrow
            have hown : upd (M 65) (23 + 5 * tn c + 2) (M 65 (23 + 5 * tn c + 2) - nI k) (23 + 5 * tn c + 1) = s_own (M 65) c := ud_o (by omega)
            have hR2 : dR (upd (M 65) (23 + 5 * tn c + 2) (M 65 (23 + 5 * tn c + 2) - nI k)) := dR_clk hR hct (Or.inl ⟨rfl, hv⟩)
            rw [hix.2, hw.1, hrw, hown]
            refine ⟨hix.1, ⟨hb, by decide, by decide⟩, ⟨hR2, ?_⟩, fun M2 hm => ?_⟩
            · have := own_sl hR2 (c := tn c) (by rw [ud_o (by omega)]; exact hct)
              rw [hown] at this
              exact this
            · obtain ⟨q1, q2, q3, q4⟩ := hm
              have hw2 : wI M M2 (upd row (23 + 5 * tn c + 2) (M 65 (23 + 5 * tn c + 2) - nI k)) := wI_M (wI_p hw _ _) q4
              have h112 : ∀ x : Int32, x = (if (s_m (upd (M 65) (23 + 5 * tn c + 2) (M 65 (23 + 5 * tn c + 2) - nI k)) (s_own (M 65) c)).1 = m then nI k else -9) → V 112 [some (.inr 63), some (.inl c), some (.inl m), some (.inl no), some (.inl (-9)), some (.inl (M 65 (23 + 5 * tn c + 2))), some (.inl (nI k))] [.inl x] M2 := by
                intro x hx
                (refine b_112 _ _ _ ?_; simp only [k_X7_back_0, k_X7_back_19, k_X7_back_20, k_X7_back_31, k_X7_back_50, k_X7_back_110, k_X7_back_112, k_X7_back_120, xp_1, xp_2, xp_3, xp_4, xp_5, xp_6, xp_7, xp_10, xp_11, xp_12, xp_13, xp_14, xp_15, xp_16, xp_17, xp_18, xp_19, xp_20, xp_21, xp_22, xp_23, xp_30, xp_31, xp_32, xp_33, xp_34, xp_35, xp_36, xp_37, xp_38, xp_39, xp_40, xp_41, xp_42, xp_43, xp_50, xp_51, xp_52, xp_53, xp_60, xp_61, xp_62, xp_63, xp_64, xp_65, xp_70, xp_80, xp_81, xp_82, up_ne, up_s, ud_s, ud_o, xw_0, xw_1, xg_0, xg_1, xl_i, xl_r, xs_0, xs_1, xq_i, xq_r, xq_v, xc_0, xc_1, xt_0, xt_1, xr_0, xr_1, xr_2, xe_0, xe_1, ob_0, ob_18, ob_36, ob_54, ak_55, ln_55, cq_55, ak_56, ln_56, cq_56, ob_57, ak_58, ln_58, cq_58, ak_59, ln_59, cq_59, ob_60, ak_61, ln_61, cq_61, ak_62, ln_62, cq_62, ob_63, ak_64, ln_64, cq_64, ak_65, ln_65, cq_65, ak_66, ln_66, cq_66, ak_67, ln_67, cq_67, ak_68, ln_68, cq_68, ak_69, ln_69, cq_69, ak_70, ln_70, cq_70, ak_71, ln_71, cq_71, ak_72, ln_72, cq_72, ak_73, ln_73, cq_73, pt_54_0, pt_54_1, pt_57_0, pt_57_3, pt_60_0, pt_60_1, pt_60_2, pt_60_4, pt_60_5, pt_60_6, pt_60_8, pt_63_0, pt_63_1, pt_63_2, pt_63_3, pt_63_4, pt_63_6, pt_63_7, pt_63_10, pt_63_11, pt_63_17, true_and, and_true, List.length_cons, List.length_nil, Nat.reduceAdd, Nat.reduceLeDiff, forall_eq, ne_eq, Nat.reduceEqDiff, not_false_eq_true, or_false, false_or, or_true, true_or, reduceCtorEq, Nat.zero_le, Nat.reduceMul, Nat.add_zero, false_and, and_false, false_implies, true_implies, forall_const, implies_true, List.append_nil, List.nil_append, List.cons_append, mb_i, mb_ii, mb_iii, mb_r, mb_ri, mb_rii, mb_riii, mb_rr, mb_rri, mb_rrii, mb_rriii, mb_riiiii, mb_rrr, mb_rir, mb_iiii, mb_riiii, tn_0, tn_1, tn_2, tn_3, tn_4, tn_5, tn_6, tc_0, tc_1, tc_2, tc_3, tc_4, tc_5, tc_6, xf_0, xf_1, xf_2, Sum.inl.injEq, Sum.inr.injEq, C_M_at, C_M_back, C_M_begins, C_M_ends, C_M_isClock, C_M_morning, C_M_refuse, C_M_within, nI_1])
                by_cases e : (s_m (upd (M 65) (23 + 5 * tn c + 2) (M 65 (23 + 5 * tn c + 2) - nI k)) (s_own (M 65) c)).1 = m
                · rw [if_pos e] at hx hbe
                  rw [hx]
                  have h65 := fin (nI k) (some (.inl (nI (k + 1)))) M2 _ hbe hw2 (up_row hrow _)
                  (refine b_50 _ _ _ ?_; simp only [k_X7_back_0, k_X7_back_19, k_X7_back_20, k_X7_back_31, k_X7_back_50, k_X7_back_110, k_X7_back_112, k_X7_back_120, xp_1, xp_2, xp_3, xp_4, xp_5, xp_6, xp_7, xp_10, xp_11, xp_12, xp_13, xp_14, xp_15, xp_16, xp_17, xp_18, xp_19, xp_20, xp_21, xp_22, xp_23, xp_30, xp_31, xp_32, xp_33, xp_34, xp_35, xp_36, xp_37, xp_38, xp_39, xp_40, xp_41, xp_42, xp_43, xp_50, xp_51, xp_52, xp_53, xp_60, xp_61, xp_62, xp_63, xp_64, xp_65, xp_70, xp_80, xp_81, xp_82, up_ne, up_s, ud_s, ud_o, xw_0, xw_1, xg_0, xg_1, xl_i, xl_r, xs_0, xs_1, xq_i, xq_r, xq_v, xc_0, xc_1, xt_0, xt_1, xr_0, xr_1, xr_2, xe_0, xe_1, ob_0, ob_18, ob_36, ob_54, ak_55, ln_55, cq_55, ak_56, ln_56, cq_56, ob_57, ak_58, ln_58, cq_58, ak_59, ln_59, cq_59, ob_60, ak_61, ln_61, cq_61, ak_62, ln_62, cq_62, ob_63, ak_64, ln_64, cq_64, ak_65, ln_65, cq_65, ak_66, ln_66, cq_66, ak_67, ln_67, cq_67, ak_68, ln_68, cq_68, ak_69, ln_69, cq_69, ak_70, ln_70, cq_70, ak_71, ln_71, cq_71, ak_72, ln_72, cq_72, ak_73, ln_73, cq_73, pt_54_0, pt_54_1, pt_57_0, pt_57_3, pt_60_0, pt_60_1, pt_60_2, pt_60_4, pt_60_5, pt_60_6, pt_60_8, pt_63_0, pt_63_1, pt_63_2, pt_63_3, pt_63_4, pt_63_6, pt_63_7, pt_63_10, pt_63_11, pt_63_17, true_and, and_true, List.length_cons, List.length_nil, Nat.reduceAdd, Nat.reduceLeDiff, forall_eq, ne_eq, Nat.reduceEqDiff, not_false_eq_true, or_false, false_or, or_true, true_or, reduceCtorEq, Nat.zero_le, Nat.reduceMul, Nat.add_zero, false_and, and_false, false_implies, true_implies, forall_const, implies_true, List.append_nil, List.nil_append, List.cons_append, mb_i, mb_ii, mb_iii, mb_r, mb_ri, mb_rii, mb_riii, mb_rr, mb_rri, mb_rrii, mb_rriii, mb_riiiii, mb_rrr, mb_rir, mb_iiii, mb_riiii, tn_0, tn_1, tn_2, tn_3, tn_4, tn_5, tn_6, tc_0, tc_1, tc_2, tc_3, tc_4, tc_5, tc_6, xf_0, xf_1, xf_2, Sum.inl.injEq, Sum.inr.injEq, C_M_at, C_M_back, C_M_begins, C_M_ends, C_M_isClock, C_M_morning, C_M_refuse, C_M_within, nI_1])
                  refine ⟨fun _ => h65, fun _ => ⟨fun _ => h65, fun _ => ⟨fun _ => h65, fun hlt => absurd hlt (nl_0 (by omega))⟩⟩⟩
                · rw [if_neg e] at hx hbe
                  rw [hx]
                  exact ih (k + 1) M2 _ (by omega) hw2 (up_row hrow _) hbe
              rw [q1]
              refine ⟨fun e => ?_, fun e => h112 _ (by rw [if_pos e])⟩
              (refine b_110 _ _ _ ?_; simp only [k_X7_back_0, k_X7_back_19, k_X7_back_20, k_X7_back_31, k_X7_back_50, k_X7_back_110, k_X7_back_112, k_X7_back_120, xp_1, xp_2, xp_3, xp_4, xp_5, xp_6, xp_7, xp_10, xp_11, xp_12, xp_13, xp_14, xp_15, xp_16, xp_17, xp_18, xp_19, xp_20, xp_21, xp_22, xp_23, xp_30, xp_31, xp_32, xp_33, xp_34, xp_35, xp_36, xp_37, xp_38, xp_39, xp_40, xp_41, xp_42, xp_43, xp_50, xp_51, xp_52, xp_53, xp_60, xp_61, xp_62, xp_63, xp_64, xp_65, xp_70, xp_80, xp_81, xp_82, up_ne, up_s, ud_s, ud_o, xw_0, xw_1, xg_0, xg_1, xl_i, xl_r, xs_0, xs_1, xq_i, xq_r, xq_v, xc_0, xc_1, xt_0, xt_1, xr_0, xr_1, xr_2, xe_0, xe_1, ob_0, ob_18, ob_36, ob_54, ak_55, ln_55, cq_55, ak_56, ln_56, cq_56, ob_57, ak_58, ln_58, cq_58, ak_59, ln_59, cq_59, ob_60, ak_61, ln_61, cq_61, ak_62, ln_62, cq_62, ob_63, ak_64, ln_64, cq_64, ak_65, ln_65, cq_65, ak_66, ln_66, cq_66, ak_67, ln_67, cq_67, ak_68, ln_68, cq_68, ak_69, ln_69, cq_69, ak_70, ln_70, cq_70, ak_71, ln_71, cq_71, ak_72, ln_72, cq_72, ak_73, ln_73, cq_73, pt_54_0, pt_54_1, pt_57_0, pt_57_3, pt_60_0, pt_60_1, pt_60_2, pt_60_4, pt_60_5, pt_60_6, pt_60_8, pt_63_0, pt_63_1, pt_63_2, pt_63_3, pt_63_4, pt_63_6, pt_63_7, pt_63_10, pt_63_11, pt_63_17, true_and, and_true, List.length_cons, List.length_nil, Nat.reduceAdd, Nat.reduceLeDiff, forall_eq, ne_eq, Nat.reduceEqDiff, not_false_eq_true, or_false, false_or, or_true, true_or, reduceCtorEq, Nat.zero_le, Nat.reduceMul, Nat.add_zero, false_and, and_false, false_implies, true_implies, forall_const, implies_true, List.append_nil, List.nil_append, List.cons_append, mb_i, mb_ii, mb_iii, mb_r, mb_ri, mb_rii, mb_riii, mb_rr, mb_rri, mb_rrii, mb_rriii, mb_riiiii, mb_rrr, mb_rir, mb_iiii, mb_riiii, tn_0, tn_1, tn_2, tn_3, tn_4, tn_5, tn_6, tc_0, tc_1, tc_2, tc_3, tc_4, tc_5, tc_6, xf_0, xf_1, xf_2, Sum.inl.injEq, Sum.inr.injEq, C_M_at, C_M_back, C_M_begins, C_M_ends, C_M_isClock, C_M_morning, C_M_refuse, C_M_within, nI_1])
              exact h112 _ (by rw [if_neg e])
      (refine b_31 _ _ _ ?_; simp only [k_X7_back_0, k_X7_back_19, k_X7_back_20, k_X7_back_31, k_X7_back_50, k_X7_back_110, k_X7_back_112, k_X7_back_120, xp_1, xp_2, xp_3, xp_4, xp_5, xp_6, xp_7, xp_10, xp_11, xp_12, xp_13, xp_14, xp_15, xp_16, xp_17, xp_18, xp_19, xp_20, xp_21, xp_22, xp_23, xp_30, xp_31, xp_32, xp_33, xp_34, xp_35, xp_36, xp_37, xp_38, xp_39, xp_40, xp_41, xp_42, xp_43, xp_50, xp_51, xp_52, xp_53, xp_60, xp_61, xp_62, xp_63, xp_64, xp_65, xp_70, xp_80, xp_81, xp_82, up_ne, up_s, ud_s, ud_o, xw_0, xw_1, xg_0, xg_1, xl_i, xl_r, xs_0, xs_1, xq_i, xq_r, xq_v, xc_0, xc_1, xt_0, xt_1, xr_0, xr_1, xr_2, xe_0, xe_1, ob_0, ob_18, ob_36, ob_54, ak_55, ln_55, cq_55, ak_56, ln_56, cq_56, ob_57, ak_58, ln_58, cq_58, ak_59, ln_59, cq_59, ob_60, ak_61, ln_61, cq_61, ak_62, ln_62, cq_62, ob_63, ak_64, ln_64, cq_64, ak_65, ln_65, cq_65, ak_66, ln_66, cq_66, ak_67, ln_67, cq_67, ak_68, ln_68, cq_68, ak_69, ln_69, cq_69, ak_70, ln_70, cq_70, ak_71, ln_71, cq_71, ak_72, ln_72, cq_72, ak_73, ln_73, cq_73, pt_54_0, pt_54_1, pt_57_0, pt_57_3, pt_60_0, pt_60_1, pt_60_2, pt_60_4, pt_60_5, pt_60_6, pt_60_8, pt_63_0, pt_63_1, pt_63_2, pt_63_3, pt_63_4, pt_63_6, pt_63_7, pt_63_10, pt_63_11, pt_63_17, true_and, and_true, List.length_cons, List.length_nil, Nat.reduceAdd, Nat.reduceLeDiff, forall_eq, ne_eq, Nat.reduceEqDiff, not_false_eq_true, or_false, false_or, or_true, true_or, reduceCtorEq, Nat.zero_le, Nat.reduceMul, Nat.add_zero, false_and, and_false, false_implies, true_implies, forall_const, implies_true, List.append_nil, List.nil_append, List.cons_append, mb_i, mb_ii, mb_iii, mb_r, mb_ri, mb_rii, mb_riii, mb_rr, mb_rri, mb_rrii, mb_rriii, mb_riiiii, mb_rrr, mb_rir, mb_iiii, mb_riiii, tn_0, tn_1, tn_2, tn_3, tn_4, tn_5, tn_6, tc_0, tc_1, tc_2, tc_3, tc_4, tc_5, tc_6, xf_0, xf_1, xf_2, Sum.inl.injEq, Sum.inr.injEq, C_M_at, C_M_back, C_M_begins, C_M_ends, C_M_isClock, C_M_morning, C_M_refuse, C_M_within, nI_1])
      refine ⟨⟨hb, by decide, by decide⟩, ?_⟩
      have e65 : mj_cp M 65 68 65 = M 65 := (wI_b M).1
      rw [e65]
      exact loop 61 0 _ _ (by omega) (wI_b M) (fun _ _ => rfl) rfl
    · unfold F_back
      rw [mS_0, ← hno]
      exact qF_no h
  (refine b_0 _ _ _ ?_; simp only [k_X7_back_0, k_X7_back_19, k_X7_back_20, k_X7_back_31, k_X7_back_50, k_X7_back_110, k_X7_back_112, k_X7_back_120, xp_1, xp_2, xp_3, xp_4, xp_5, xp_6, xp_7, xp_10, xp_11, xp_12, xp_13, xp_14, xp_15, xp_16, xp_17, xp_18, xp_19, xp_20, xp_21, xp_22, xp_23, xp_30, xp_31, xp_32, xp_33, xp_34, xp_35, xp_36, xp_37, xp_38, xp_39, xp_40, xp_41, xp_42, xp_43, xp_50, xp_51, xp_52, xp_53, xp_60, xp_61, xp_62, xp_63, xp_64, xp_65, xp_70, xp_80, xp_81, xp_82, up_ne, up_s, ud_s, ud_o, xw_0, xw_1, xg_0, xg_1, xl_i, xl_r, xs_0, xs_1, xq_i, xq_r, xq_v, xc_0, xc_1, xt_0, xt_1, xr_0, xr_1, xr_2, xe_0, xe_1, ob_0, ob_18, ob_36, ob_54, ak_55, ln_55, cq_55, ak_56, ln_56, cq_56, ob_57, ak_58, ln_58, cq_58, ak_59, ln_59, cq_59, ob_60, ak_61, ln_61, cq_61, ak_62, ln_62, cq_62, ob_63, ak_64, ln_64, cq_64, ak_65, ln_65, cq_65, ak_66, ln_66, cq_66, ak_67, ln_67, cq_67, ak_68, ln_68, cq_68, ak_69, ln_69, cq_69, ak_70, ln_70, cq_70, ak_71, ln_71, cq_71, ak_72, ln_72, cq_72, ak_73, ln_73, cq_73, pt_54_0, pt_54_1, pt_57_0, pt_57_3, pt_60_0, pt_60_1, pt_60_2, pt_60_4, pt_60_5, pt_60_6, pt_60_8, pt_63_0, pt_63_1, pt_63_2, pt_63_3, pt_63_4, pt_63_6, pt_63_7, pt_63_10, pt_63_11, pt_63_17, true_and, and_true, List.length_cons, List.length_nil, Nat.reduceAdd, Nat.reduceLeDiff, forall_eq, ne_eq, Nat.reduceEqDiff, not_false_eq_true, or_false, false_or, or_true, true_or, reduceCtorEq, Nat.zero_le, Nat.reduceMul, Nat.add_zero, false_and, and_false, false_implies, true_implies, forall_const, implies_true, List.append_nil, List.nil_append, List.cons_append, mb_i, mb_ii, mb_iii, mb_r, mb_ri, mb_rii, mb_riii, mb_rr, mb_rri, mb_rrii, mb_rriii, mb_riiiii, mb_rrr, mb_rir, mb_iiii, mb_riiii, tn_0, tn_1, tn_2, tn_3, tn_4, tn_5, tn_6, tc_0, tc_1, tc_2, tc_3, tc_4, tc_5, tc_6, xf_0, xf_1, xf_2, Sum.inl.injEq, Sum.inr.injEq, C_M_at, C_M_back, C_M_begins, C_M_ends, C_M_isClock, C_M_morning, C_M_refuse, C_M_within, nI_1])
  refine ⟨fun h => ?_, fun h => h20 _ (ft_1 h).symm⟩
  (refine b_19 _ _ _ ?_; simp only [k_X7_back_0, k_X7_back_19, k_X7_back_20, k_X7_back_31, k_X7_back_50, k_X7_back_110, k_X7_back_112, k_X7_back_120, xp_1, xp_2, xp_3, xp_4, xp_5, xp_6, xp_7, xp_10, xp_11, xp_12, xp_13, xp_14, xp_15, xp_16, xp_17, xp_18, xp_19, xp_20, xp_21, xp_22, xp_23, xp_30, xp_31, xp_32, xp_33, xp_34, xp_35, xp_36, xp_37, xp_38, xp_39, xp_40, xp_41, xp_42, xp_43, xp_50, xp_51, xp_52, xp_53, xp_60, xp_61, xp_62, xp_63, xp_64, xp_65, xp_70, xp_80, xp_81, xp_82, up_ne, up_s, ud_s, ud_o, xw_0, xw_1, xg_0, xg_1, xl_i, xl_r, xs_0, xs_1, xq_i, xq_r, xq_v, xc_0, xc_1, xt_0, xt_1, xr_0, xr_1, xr_2, xe_0, xe_1, ob_0, ob_18, ob_36, ob_54, ak_55, ln_55, cq_55, ak_56, ln_56, cq_56, ob_57, ak_58, ln_58, cq_58, ak_59, ln_59, cq_59, ob_60, ak_61, ln_61, cq_61, ak_62, ln_62, cq_62, ob_63, ak_64, ln_64, cq_64, ak_65, ln_65, cq_65, ak_66, ln_66, cq_66, ak_67, ln_67, cq_67, ak_68, ln_68, cq_68, ak_69, ln_69, cq_69, ak_70, ln_70, cq_70, ak_71, ln_71, cq_71, ak_72, ln_72, cq_72, ak_73, ln_73, cq_73, pt_54_0, pt_54_1, pt_57_0, pt_57_3, pt_60_0, pt_60_1, pt_60_2, pt_60_4, pt_60_5, pt_60_6, pt_60_8, pt_63_0, pt_63_1, pt_63_2, pt_63_3, pt_63_4, pt_63_6, pt_63_7, pt_63_10, pt_63_11, pt_63_17, true_and, and_true, List.length_cons, List.length_nil, Nat.reduceAdd, Nat.reduceLeDiff, forall_eq, ne_eq, Nat.reduceEqDiff, not_false_eq_true, or_false, false_or, or_true, true_or, reduceCtorEq, Nat.zero_le, Nat.reduceMul, Nat.add_zero, false_and, and_false, false_implies, true_implies, forall_const, implies_true, List.append_nil, List.nil_append, List.cons_append, mb_i, mb_ii, mb_iii, mb_r, mb_ri, mb_rii, mb_riii, mb_rr, mb_rri, mb_rrii, mb_rriii, mb_riiiii, mb_rrr, mb_rir, mb_iiii, mb_riiii, tn_0, tn_1, tn_2, tn_3, tn_4, tn_5, tn_6, tc_0, tc_1, tc_2, tc_3, tc_4, tc_5, tc_6, xf_0, xf_1, xf_2, Sum.inl.injEq, Sum.inr.injEq, C_M_at, C_M_back, C_M_begins, C_M_ends, C_M_isClock, C_M_morning, C_M_refuse, C_M_within, nI_1])
  exact h20 _ (ft_0 h).symm


def C_M_evening : mj_C := (3, rk1, fun avs M => ma_rii avs fun a c w => (a = 63 ∧ dS (mS M)), fun avs M r M' => ma_rii avs fun a c w => (r = .inl (F_evening (mS M) c w).1 ∧ mS M' = (F_evening (mS M) c w).2 ∧ fr1 M M'))
theorem rc_M_evening : ∀ avs M, C_M_evening.2.2.1 avs M → ∃ a r, avs = .inr a :: r ∧ mj_ob a = 7 := by
  intro avs M h
  obtain ⟨a, c, w, rfl, h⟩ := mc_rii h
  exact ⟨_, _, rfl, by rw [h.1]; rfl⟩
set_option maxRecDepth 20000 in
set_option maxHeartbeats 2000000 in
theorem t_M_evening : mj_T yX7_evening cX7_evening 9 (some .int) 6 C_M_evening := by
  refine mj_T_of (own := 7) (rk := 1) [(149, C_M_isIn), (306, C_M_isClock), (315, C_M_at), (465, C_M_valueOf), (474, C_M_refuseFar), (483, C_M_begins), (492, C_M_ends)] (by decide) rfl (by decide) ⟨rfl, rfl⟩ (List.forall_mem_cons.mpr ⟨mj_KS (own := 7) (nest := false) t_M_isIn ⟨wc_X7_isIn, wi_X7, by decide, wl_7_49⟩ wn_X7_isIn (by decide +kernel) (by decide), (List.forall_mem_cons.mpr ⟨mj_KV (own := 7) (nest := false) t_M_isClock ⟨wc_X7_isClock, wi_X7, by decide, wl_7_102⟩ wn_X7_isClock ws_X7_isClock (c0 := 7) (by decide) rfl (by decide +kernel) rc_M_isClock (by decide), (List.forall_mem_cons.mpr ⟨mj_KV (own := 7) (nest := false) t_M_at ⟨wc_X7_at, wi_X7, by decide, wl_7_105⟩ wn_X7_at ws_X7_at (c0 := 7) (by decide) rfl (by decide +kernel) rc_M_at (by decide), (List.forall_mem_cons.mpr ⟨mj_KV (own := 7) (nest := false) t_M_valueOf ⟨wc_X7_valueOf, wi_X7, by decide, wl_7_155⟩ wn_X7_valueOf ws_X7_valueOf (c0 := 7) (by decide) rfl (by decide +kernel) rc_M_valueOf (by decide), (List.forall_mem_cons.mpr ⟨mj_KV (own := 7) (nest := false) t_M_refuseFar ⟨wc_X7_refuseFar, wi_X7, by decide, wl_7_158⟩ wn_X7_refuseFar ws_X7_refuseFar (c0 := 7) (by decide) rfl (by decide +kernel) rc_M_refuseFar (by decide), (List.forall_mem_cons.mpr ⟨mj_KV (own := 7) (nest := false) t_M_begins ⟨wc_X7_begins, wi_X7, by decide, wl_7_161⟩ wn_X7_begins ws_X7_begins (c0 := 7) (by decide) rfl (by decide +kernel) rc_M_begins (by decide), (List.forall_mem_cons.mpr ⟨mj_KV (own := 7) (nest := false) t_M_ends ⟨wc_X7_ends, wi_X7, by decide, wl_7_164⟩ wn_X7_ends ws_X7_ends (c0 := 7) (by decide) rfl (by decide +kernel) rc_M_ends (by decide), (fun _ h => absurd h List.not_mem_nil)⟩)⟩)⟩)⟩)⟩)⟩)⟩) ?_
  intro avs M hlen hpre V hV
  obtain ⟨a, c, w, rfl, hp⟩ := mc_rii hpre
  show V 0 [some (.inr a), some (.inl c), some (.inl w), none, none, none, none, none, none] [] M
  have b_0 := hV h_X7_evening_0; have b_14 := hV h_X7_evening_14; have b_29 := hV h_X7_evening_29; have b_48 := hV h_X7_evening_48; have b_49 := hV h_X7_evening_49; have b_60 := hV h_X7_evening_60; have b_61 := hV h_X7_evening_61; have b_74 := hV h_X7_evening_74; have b_87 := hV h_X7_evening_87; have b_89 := hV h_X7_evening_89; have b_129 := hV h_X7_evening_129; have b_137 := hV h_X7_evening_137; have b_143 := hV h_X7_evening_143; have b_158 := hV h_X7_evening_158; have b_160 := hV h_X7_evening_160
  clear hlen hpre hV
  obtain ⟨rfl, hS⟩ := hp
  have hg := dS_rg hS
  have hR : dR (M 65) := hS.1
  rw [mS_0] at hg
  -- from the choice on
  have main : ¬ s_in c (M 65 1) = 0 → ¬ s_in w 4 = 0 → ∀ (pp least : Int32) (P N : Nat) (top : Int32), (∀ k : Nat, k ≤ N → dR (upd (M 65) P (least + nI k))) → vp_in pp 55 → pp.toNatClampNeg = P → P < 55 → P ≠ 23 + 5 * tn c + 1 → P ≠ 1 → P ≠ 0 → (∀ k : Nat, k ≤ N + 1 → (least + nI k).toInt = least.toInt + k) → top.toInt = least.toInt + N → bd least 0 1 → N ≤ 299 → s_even (M 65) c w = s_ev (M 65) P (s_own (M 65) c) least N → (w < 2 → top = 299) → (¬ w < 2 → top = 20) → V 74 [some (.inr 63), some (.inl c), some (.inl w), some (.inl pp), some (.inl least), some (.inl least), some (.inl 0), some (.inl least), none] [] (mj_cp M 65 68) := by
    intro hc hw4 pp least P N top hdR hpp hppn hP55 hP1 hP2 hP3 hadd htop hle hN hev hw1 hw2
    have hb : bd c 0 3 := bd_in hc (by omega)
    have hct : tn c < tn (M 65 1) := in_tn hc
    have htc : tn c < 4 := by have := tn_of hb.1; have := hb.2; omega
    have hle1 := hle.1
    have hle2 := hle.2
    have fin : ∀ (L7 L8 : Option mj_V) (M1 : mj_M) (row : Nat → Int32), wI M M1 row → (∀ j, j ≠ P → row j = M 65 j) → V 143 [some (.inr 63), some (.inl c), some (.inl w), some (.inl pp), some (.inl least), some (.inl (s_ev (M 65) P (s_own (M 65) c) least N).1), some (.inl (s_ev (M 65) P (s_own (M 65) c) least N).2), L7, L8] [] M1 := by
      intro L7 L8 M1 row hwI hrow
      obtain ⟨e1, e2⟩ := wI_e hwI (fun j hj => hrow j (by omega))
      have hno : s_ft (nB c (M 65 1)) (s_ot w 4) = 0 := by rw [ft_1 hc, ot_1 hw4]
      (refine b_143 _ _ _ ?_; simp only [k_X7_evening_0, k_X7_evening_14, k_X7_evening_29, k_X7_evening_48, k_X7_evening_49, k_X7_evening_60, k_X7_evening_61, k_X7_evening_74, k_X7_evening_87, k_X7_evening_89, k_X7_evening_129, k_X7_evening_137, k_X7_evening_143, k_X7_evening_158, k_X7_evening_160, xp_1, xp_2, xp_3, xp_4, xp_5, xp_6, xp_7, xp_10, xp_11, xp_12, xp_13, xp_14, xp_15, xp_16, xp_17, xp_18, xp_19, xp_20, xp_21, xp_22, xp_23, xp_30, xp_31, xp_32, xp_33, xp_34, xp_35, xp_36, xp_37, xp_38, xp_39, xp_40, xp_41, xp_42, xp_43, xp_50, xp_51, xp_52, xp_53, xp_60, xp_61, xp_62, xp_63, xp_64, xp_65, xp_70, xp_80, xp_81, xp_82, up_ne, up_s, ud_s, ud_o, xw_0, xw_1, xg_0, xg_1, xl_i, xl_r, xs_0, xs_1, xq_i, xq_r, xq_v, xc_0, xc_1, xt_0, xt_1, xr_0, xr_1, xr_2, xe_0, xe_1, ob_0, ob_18, ob_36, ob_54, ak_55, ln_55, cq_55, ak_56, ln_56, cq_56, ob_57, ak_58, ln_58, cq_58, ak_59, ln_59, cq_59, ob_60, ak_61, ln_61, cq_61, ak_62, ln_62, cq_62, ob_63, ak_64, ln_64, cq_64, ak_65, ln_65, cq_65, ak_66, ln_66, cq_66, ak_67, ln_67, cq_67, ak_68, ln_68, cq_68, ak_69, ln_69, cq_69, ak_70, ln_70, cq_70, ak_71, ln_71, cq_71, ak_72, ln_72, cq_72, ak_73, ln_73, cq_73, pt_54_0, pt_54_1, pt_57_0, pt_57_3, pt_60_0, pt_60_1, pt_60_2, pt_60_4, pt_60_5, pt_60_6, pt_60_8, pt_63_0, pt_63_1, pt_63_2, pt_63_3, pt_63_4, pt_63_6, pt_63_7, pt_63_10, pt_63_11, pt_63_17, true_and, and_true, List.length_cons, List.length_nil, Nat.reduceAdd, Nat.reduceLeDiff, forall_eq, ne_eq, Nat.reduceEqDiff, not_false_eq_true, or_false, false_or, or_true, true_or, reduceCtorEq, Nat.zero_le, Nat.reduceMul, Nat.add_zero, false_and, and_false, false_implies, true_implies, forall_const, implies_true, List.append_nil, List.nil_append, List.cons_append, mb_i, mb_ii, mb_iii, mb_r, mb_ri, mb_rii, mb_riii, mb_rr, mb_rri, mb_rrii, mb_rriii, mb_riiiii, mb_rrr, mb_rir, mb_iiii, mb_riiii, tn_0, tn_1, tn_2, tn_3, tn_4, tn_5, tn_6, tc_0, tc_1, tc_2, tc_3, tc_4, tc_5, tc_6, xf_0, xf_1, xf_2, Sum.inl.injEq, Sum.inr.injEq, C_M_at, C_M_begins, C_M_ends, C_M_evening, C_M_isClock, C_M_isIn, C_M_refuseFar, C_M_valueOf, nI_1])
      refine ⟨by decide, fun hz => ?_, fun hz => ?_⟩
      · (refine b_158 _ _ _ ?_; simp only [k_X7_evening_0, k_X7_evening_14, k_X7_evening_29, k_X7_evening_48, k_X7_evening_49, k_X7_evening_60, k_X7_evening_61, k_X7_evening_74, k_X7_evening_87, k_X7_evening_89, k_X7_evening_129, k_X7_evening_137, k_X7_evening_143, k_X7_evening_158, k_X7_evening_160, xp_1, xp_2, xp_3, xp_4, xp_5, xp_6, xp_7, xp_10, xp_11, xp_12, xp_13, xp_14, xp_15, xp_16, xp_17, xp_18, xp_19, xp_20, xp_21, xp_22, xp_23, xp_30, xp_31, xp_32, xp_33, xp_34, xp_35, xp_36, xp_37, xp_38, xp_39, xp_40, xp_41, xp_42, xp_43, xp_50, xp_51, xp_52, xp_53, xp_60, xp_61, xp_62, xp_63, xp_64, xp_65, xp_70, xp_80, xp_81, xp_82, up_ne, up_s, ud_s, ud_o, xw_0, xw_1, xg_0, xg_1, xl_i, xl_r, xs_0, xs_1, xq_i, xq_r, xq_v, xc_0, xc_1, xt_0, xt_1, xr_0, xr_1, xr_2, xe_0, xe_1, ob_0, ob_18, ob_36, ob_54, ak_55, ln_55, cq_55, ak_56, ln_56, cq_56, ob_57, ak_58, ln_58, cq_58, ak_59, ln_59, cq_59, ob_60, ak_61, ln_61, cq_61, ak_62, ln_62, cq_62, ob_63, ak_64, ln_64, cq_64, ak_65, ln_65, cq_65, ak_66, ln_66, cq_66, ak_67, ln_67, cq_67, ak_68, ln_68, cq_68, ak_69, ln_69, cq_69, ak_70, ln_70, cq_70, ak_71, ln_71, cq_71, ak_72, ln_72, cq_72, ak_73, ln_73, cq_73, pt_54_0, pt_54_1, pt_57_0, pt_57_3, pt_60_0, pt_60_1, pt_60_2, pt_60_4, pt_60_5, pt_60_6, pt_60_8, pt_63_0, pt_63_1, pt_63_2, pt_63_3, pt_63_4, pt_63_6, pt_63_7, pt_63_10, pt_63_11, pt_63_17, true_and, and_true, List.length_cons, List.length_nil, Nat.reduceAdd, Nat.reduceLeDiff, forall_eq, ne_eq, Nat.reduceEqDiff, not_false_eq_true, or_false, false_or, or_true, true_or, reduceCtorEq, Nat.zero_le, Nat.reduceMul, Nat.add_zero, false_and, and_false, false_implies, true_implies, forall_const, implies_true, List.append_nil, List.nil_append, List.cons_append, mb_i, mb_ii, mb_iii, mb_r, mb_ri, mb_rii, mb_riii, mb_rr, mb_rri, mb_rrii, mb_rriii, mb_riiiii, mb_rrr, mb_rir, mb_iiii, mb_riiii, tn_0, tn_1, tn_2, tn_3, tn_4, tn_5, tn_6, tc_0, tc_1, tc_2, tc_3, tc_4, tc_5, tc_6, xf_0, xf_1, xf_2, Sum.inl.injEq, Sum.inr.injEq, C_M_at, C_M_begins, C_M_ends, C_M_evening, C_M_isClock, C_M_isIn, C_M_refuseFar, C_M_valueOf, nI_1])
        (refine b_160 _ _ _ ?_; simp only [k_X7_evening_0, k_X7_evening_14, k_X7_evening_29, k_X7_evening_48, k_X7_evening_49, k_X7_evening_60, k_X7_evening_61, k_X7_evening_74, k_X7_evening_87, k_X7_evening_89, k_X7_evening_129, k_X7_evening_137, k_X7_evening_143, k_X7_evening_158, k_X7_evening_160, xp_1, xp_2, xp_3, xp_4, xp_5, xp_6, xp_7, xp_10, xp_11, xp_12, xp_13, xp_14, xp_15, xp_16, xp_17, xp_18, xp_19, xp_20, xp_21, xp_22, xp_23, xp_30, xp_31, xp_32, xp_33, xp_34, xp_35, xp_36, xp_37, xp_38, xp_39, xp_40, xp_41, xp_42, xp_43, xp_50, xp_51, xp_52, xp_53, xp_60, xp_61, xp_62, xp_63, xp_64, xp_65, xp_70, xp_80, xp_81, xp_82, up_ne, up_s, ud_s, ud_o, xw_0, xw_1, xg_0, xg_1, xl_i, xl_r, xs_0, xs_1, xq_i, xq_r, xq_v, xc_0, xc_1, xt_0, xt_1, xr_0, xr_1, xr_2, xe_0, xe_1, ob_0, ob_18, ob_36, ob_54, ak_55, ln_55, cq_55, ak_56, ln_56, cq_56, ob_57, ak_58, ln_58, cq_58, ak_59, ln_59, cq_59, ob_60, ak_61, ln_61, cq_61, ak_62, ln_62, cq_62, ob_63, ak_64, ln_64, cq_64, ak_65, ln_65, cq_65, ak_66, ln_66, cq_66, ak_67, ln_67, cq_67, ak_68, ln_68, cq_68, ak_69, ln_69, cq_69, ak_70, ln_70, cq_70, ak_71, ln_71, cq_71, ak_72, ln_72, cq_72, ak_73, ln_73, cq_73, pt_54_0, pt_54_1, pt_57_0, pt_57_3, pt_60_0, pt_60_1, pt_60_2, pt_60_4, pt_60_5, pt_60_6, pt_60_8, pt_63_0, pt_63_1, pt_63_2, pt_63_3, pt_63_4, pt_63_6, pt_63_7, pt_63_10, pt_63_11, pt_63_17, true_and, and_true, List.length_cons, List.length_nil, Nat.reduceAdd, Nat.reduceLeDiff, forall_eq, ne_eq, Nat.reduceEqDiff, not_false_eq_true, or_false, false_or, or_true, true_or, reduceCtorEq, Nat.zero_le, Nat.reduceMul, Nat.add_zero, false_and, and_false, false_implies, true_implies, forall_const, implies_true, List.append_nil, List.nil_append, List.cons_append, mb_i, mb_ii, mb_iii, mb_r, mb_ri, mb_rii, mb_riii, mb_rr, mb_rri, mb_rrii, mb_rriii, mb_riiiii, mb_rrr, mb_rir, mb_iiii, mb_riiii, tn_0, tn_1, tn_2, tn_3, tn_4, tn_5, tn_6, tc_0, tc_1, tc_2, tc_3, tc_4, tc_5, tc_6, xf_0, xf_1, xf_2, Sum.inl.injEq, Sum.inr.injEq, C_M_at, C_M_begins, C_M_ends, C_M_evening, C_M_isClock, C_M_isIn, C_M_refuseFar, C_M_valueOf, nI_1])
        unfold F_evening
        rw [mS_0]
        exact qV_ok hno (by rw [if_neg (show ¬ s_rm w 2 = 0 from hz), hev]) e1 e2
      · (refine b_160 _ _ _ ?_; simp only [k_X7_evening_0, k_X7_evening_14, k_X7_evening_29, k_X7_evening_48, k_X7_evening_49, k_X7_evening_60, k_X7_evening_61, k_X7_evening_74, k_X7_evening_87, k_X7_evening_89, k_X7_evening_129, k_X7_evening_137, k_X7_evening_143, k_X7_evening_158, k_X7_evening_160, xp_1, xp_2, xp_3, xp_4, xp_5, xp_6, xp_7, xp_10, xp_11, xp_12, xp_13, xp_14, xp_15, xp_16, xp_17, xp_18, xp_19, xp_20, xp_21, xp_22, xp_23, xp_30, xp_31, xp_32, xp_33, xp_34, xp_35, xp_36, xp_37, xp_38, xp_39, xp_40, xp_41, xp_42, xp_43, xp_50, xp_51, xp_52, xp_53, xp_60, xp_61, xp_62, xp_63, xp_64, xp_65, xp_70, xp_80, xp_81, xp_82, up_ne, up_s, ud_s, ud_o, xw_0, xw_1, xg_0, xg_1, xl_i, xl_r, xs_0, xs_1, xq_i, xq_r, xq_v, xc_0, xc_1, xt_0, xt_1, xr_0, xr_1, xr_2, xe_0, xe_1, ob_0, ob_18, ob_36, ob_54, ak_55, ln_55, cq_55, ak_56, ln_56, cq_56, ob_57, ak_58, ln_58, cq_58, ak_59, ln_59, cq_59, ob_60, ak_61, ln_61, cq_61, ak_62, ln_62, cq_62, ob_63, ak_64, ln_64, cq_64, ak_65, ln_65, cq_65, ak_66, ln_66, cq_66, ak_67, ln_67, cq_67, ak_68, ln_68, cq_68, ak_69, ln_69, cq_69, ak_70, ln_70, cq_70, ak_71, ln_71, cq_71, ak_72, ln_72, cq_72, ak_73, ln_73, cq_73, pt_54_0, pt_54_1, pt_57_0, pt_57_3, pt_60_0, pt_60_1, pt_60_2, pt_60_4, pt_60_5, pt_60_6, pt_60_8, pt_63_0, pt_63_1, pt_63_2, pt_63_3, pt_63_4, pt_63_6, pt_63_7, pt_63_10, pt_63_11, pt_63_17, true_and, and_true, List.length_cons, List.length_nil, Nat.reduceAdd, Nat.reduceLeDiff, forall_eq, ne_eq, Nat.reduceEqDiff, not_false_eq_true, or_false, false_or, or_true, true_or, reduceCtorEq, Nat.zero_le, Nat.reduceMul, Nat.add_zero, false_and, and_false, false_implies, true_implies, forall_const, implies_true, List.append_nil, List.nil_append, List.cons_append, mb_i, mb_ii, mb_iii, mb_r, mb_ri, mb_rii, mb_riii, mb_rr, mb_rri, mb_rrii, mb_rriii, mb_riiiii, mb_rrr, mb_rir, mb_iiii, mb_riiii, tn_0, tn_1, tn_2, tn_3, tn_4, tn_5, tn_6, tc_0, tc_1, tc_2, tc_3, tc_4, tc_5, tc_6, xf_0, xf_1, xf_2, Sum.inl.injEq, Sum.inr.injEq, C_M_at, C_M_begins, C_M_ends, C_M_evening, C_M_isClock, C_M_isIn, C_M_refuseFar, C_M_valueOf, nI_1])
        unfold F_evening
        rw [mS_0]
        exact qV_ok hno (by rw [if_pos (show s_rm w 2 = 0 from hz), hev]) e1 e2
    have loop : ∀ (f k : Nat) (bst bv : Int32) (L8 : Option mj_V) (M1 : mj_M) (row : Nat → Int32), k + f = N + 1 → wI M M1 row → (∀ j, j ≠ P → row j = M 65 j) → (0 < k → bst = (s_ev (M 65) P (s_own (M 65) c) least (k - 1)).1 ∧ bv = (s_ev (M 65) P (s_own (M 65) c) least (k - 1)).2) → V 74 [some (.inr 63), some (.inl c), some (.inl w), some (.inl pp), some (.inl least), some (.inl bst), some (.inl bv), some (.inl (least + nI k)), L8] [] M1 := by
      intro f
      induction f with
      | zero =>
        intro k bst bv L8 M1 row hk hwI hrow hbest
        have hk2 := hadd k (by omega)
        have h89 : V 89 [some (.inr 63), some (.inl c), some (.inl w), some (.inl pp), some (.inl least), some (.inl bst), some (.inl bv), some (.inl (least + nI k)), L8] [.inl top, .inl (least + nI k)] M1 := by
          (refine b_89 _ _ _ ?_; simp only [k_X7_evening_0, k_X7_evening_14, k_X7_evening_29, k_X7_evening_48, k_X7_evening_49, k_X7_evening_60, k_X7_evening_61, k_X7_evening_74, k_X7_evening_87, k_X7_evening_89, k_X7_evening_129, k_X7_evening_137, k_X7_evening_143, k_X7_evening_158, k_X7_evening_160, xp_1, xp_2, xp_3, xp_4, xp_5, xp_6, xp_7, xp_10, xp_11, xp_12, xp_13, xp_14, xp_15, xp_16, xp_17, xp_18, xp_19, xp_20, xp_21, xp_22, xp_23, xp_30, xp_31, xp_32, xp_33, xp_34, xp_35, xp_36, xp_37, xp_38, xp_39, xp_40, xp_41, xp_42, xp_43, xp_50, xp_51, xp_52, xp_53, xp_60, xp_61, xp_62, xp_63, xp_64, xp_65, xp_70, xp_80, xp_81, xp_82, up_ne, up_s, ud_s, ud_o, xw_0, xw_1, xg_0, xg_1, xl_i, xl_r, xs_0, xs_1, xq_i, xq_r, xq_v, xc_0, xc_1, xt_0, xt_1, xr_0, xr_1, xr_2, xe_0, xe_1, ob_0, ob_18, ob_36, ob_54, ak_55, ln_55, cq_55, ak_56, ln_56, cq_56, ob_57, ak_58, ln_58, cq_58, ak_59, ln_59, cq_59, ob_60, ak_61, ln_61, cq_61, ak_62, ln_62, cq_62, ob_63, ak_64, ln_64, cq_64, ak_65, ln_65, cq_65, ak_66, ln_66, cq_66, ak_67, ln_67, cq_67, ak_68, ln_68, cq_68, ak_69, ln_69, cq_69, ak_70, ln_70, cq_70, ak_71, ln_71, cq_71, ak_72, ln_72, cq_72, ak_73, ln_73, cq_73, pt_54_0, pt_54_1, pt_57_0, pt_57_3, pt_60_0, pt_60_1, pt_60_2, pt_60_4, pt_60_5, pt_60_6, pt_60_8, pt_63_0, pt_63_1, pt_63_2, pt_63_3, pt_63_4, pt_63_6, pt_63_7, pt_63_10, pt_63_11, pt_63_17, true_and, and_true, List.length_cons, List.length_nil, Nat.reduceAdd, Nat.reduceLeDiff, forall_eq, ne_eq, Nat.reduceEqDiff, not_false_eq_true, or_false, false_or, or_true, true_or, reduceCtorEq, Nat.zero_le, Nat.reduceMul, Nat.add_zero, false_and, and_false, false_implies, true_implies, forall_const, implies_true, List.append_nil, List.nil_append, List.cons_append, mb_i, mb_ii, mb_iii, mb_r, mb_ri, mb_rii, mb_riii, mb_rr, mb_rri, mb_rrii, mb_rriii, mb_riiiii, mb_rrr, mb_rir, mb_iiii, mb_riiii, tn_0, tn_1, tn_2, tn_3, tn_4, tn_5, tn_6, tc_0, tc_1, tc_2, tc_3, tc_4, tc_5, tc_6, xf_0, xf_1, xf_2, Sum.inl.injEq, Sum.inr.injEq, C_M_at, C_M_begins, C_M_ends, C_M_evening, C_M_isClock, C_M_isIn, C_M_refuseFar, C_M_valueOf, nI_1])
          refine ⟨fun _ => ?_, fun hlt => absurd (by rw [ti_lt, hk2, htop]; omega) hlt⟩
          obtain ⟨e1, e2⟩ := hbest (by omega)
          rw [e1, e2, show k - 1 = N by omega]
          exact fin _ _ M1 row hwI hrow
        (refine b_74 _ _ _ ?_; simp only [k_X7_evening_0, k_X7_evening_14, k_X7_evening_29, k_X7_evening_48, k_X7_evening_49, k_X7_evening_60, k_X7_evening_61, k_X7_evening_74, k_X7_evening_87, k_X7_evening_89, k_X7_evening_129, k_X7_evening_137, k_X7_evening_143, k_X7_evening_158, k_X7_evening_160, xp_1, xp_2, xp_3, xp_4, xp_5, xp_6, xp_7, xp_10, xp_11, xp_12, xp_13, xp_14, xp_15, xp_16, xp_17, xp_18, xp_19, xp_20, xp_21, xp_22, xp_23, xp_30, xp_31, xp_32, xp_33, xp_34, xp_35, xp_36, xp_37, xp_38, xp_39, xp_40, xp_41, xp_42, xp_43, xp_50, xp_51, xp_52, xp_53, xp_60, xp_61, xp_62, xp_63, xp_64, xp_65, xp_70, xp_80, xp_81, xp_82, up_ne, up_s, ud_s, ud_o, xw_0, xw_1, xg_0, xg_1, xl_i, xl_r, xs_0, xs_1, xq_i, xq_r, xq_v, xc_0, xc_1, xt_0, xt_1, xr_0, xr_1, xr_2, xe_0, xe_1, ob_0, ob_18, ob_36, ob_54, ak_55, ln_55, cq_55, ak_56, ln_56, cq_56, ob_57, ak_58, ln_58, cq_58, ak_59, ln_59, cq_59, ob_60, ak_61, ln_61, cq_61, ak_62, ln_62, cq_62, ob_63, ak_64, ln_64, cq_64, ak_65, ln_65, cq_65, ak_66, ln_66, cq_66, ak_67, ln_67, cq_67, ak_68, ln_68, cq_68, ak_69, ln_69, cq_69, ak_70, ln_70, cq_70, ak_71, ln_71, cq_71, ak_72, ln_72, cq_72, ak_73, ln_73, cq_73, pt_54_0, pt_54_1, pt_57_0, pt_57_3, pt_60_0, pt_60_1, pt_60_2, pt_60_4, pt_60_5, pt_60_6, pt_60_8, pt_63_0, pt_63_1, pt_63_2, pt_63_3, pt_63_4, pt_63_6, pt_63_7, pt_63_10, pt_63_11, pt_63_17, true_and, and_true, List.length_cons, List.length_nil, Nat.reduceAdd, Nat.reduceLeDiff, forall_eq, ne_eq, Nat.reduceEqDiff, not_false_eq_true, or_false, false_or, or_true, true_or, reduceCtorEq, Nat.zero_le, Nat.reduceMul, Nat.add_zero, false_and, and_false, false_implies, true_implies, forall_const, implies_true, List.append_nil, List.nil_append, List.cons_append, mb_i, mb_ii, mb_iii, mb_r, mb_ri, mb_rii, mb_riii, mb_rr, mb_rri, mb_rrii, mb_rriii, mb_riiiii, mb_rrr, mb_rir, mb_iiii, mb_riiii, tn_0, tn_1, tn_2, tn_3, tn_4, tn_5, tn_6, tc_0, tc_1, tc_2, tc_3, tc_4, tc_5, tc_6, xf_0, xf_1, xf_2, Sum.inl.injEq, Sum.inr.injEq, C_M_at, C_M_begins, C_M_ends, C_M_evening, C_M_isClock, C_M_isIn, C_M_refuseFar, C_M_valueOf, nI_1])
        refine ⟨fun h2 => ?_, fun h2 => ?_⟩
        · (refine b_87 _ _ _ ?_; simp only [k_X7_evening_0, k_X7_evening_14, k_X7_evening_29, k_X7_evening_48, k_X7_evening_49, k_X7_evening_60, k_X7_evening_61, k_X7_evening_74, k_X7_evening_87, k_X7_evening_89, k_X7_evening_129, k_X7_evening_137, k_X7_evening_143, k_X7_evening_158, k_X7_evening_160, xp_1, xp_2, xp_3, xp_4, xp_5, xp_6, xp_7, xp_10, xp_11, xp_12, xp_13, xp_14, xp_15, xp_16, xp_17, xp_18, xp_19, xp_20, xp_21, xp_22, xp_23, xp_30, xp_31, xp_32, xp_33, xp_34, xp_35, xp_36, xp_37, xp_38, xp_39, xp_40, xp_41, xp_42, xp_43, xp_50, xp_51, xp_52, xp_53, xp_60, xp_61, xp_62, xp_63, xp_64, xp_65, xp_70, xp_80, xp_81, xp_82, up_ne, up_s, ud_s, ud_o, xw_0, xw_1, xg_0, xg_1, xl_i, xl_r, xs_0, xs_1, xq_i, xq_r, xq_v, xc_0, xc_1, xt_0, xt_1, xr_0, xr_1, xr_2, xe_0, xe_1, ob_0, ob_18, ob_36, ob_54, ak_55, ln_55, cq_55, ak_56, ln_56, cq_56, ob_57, ak_58, ln_58, cq_58, ak_59, ln_59, cq_59, ob_60, ak_61, ln_61, cq_61, ak_62, ln_62, cq_62, ob_63, ak_64, ln_64, cq_64, ak_65, ln_65, cq_65, ak_66, ln_66, cq_66, ak_67, ln_67, cq_67, ak_68, ln_68, cq_68, ak_69, ln_69, cq_69, ak_70, ln_70, cq_70, ak_71, ln_71, cq_71, ak_72, ln_72, cq_72, ak_73, ln_73, cq_73, pt_54_0, pt_54_1, pt_57_0, pt_57_3, pt_60_0, pt_60_1, pt_60_2, pt_60_4, pt_60_5, pt_60_6, pt_60_8, pt_63_0, pt_63_1, pt_63_2, pt_63_3, pt_63_4, pt_63_6, pt_63_7, pt_63_10, pt_63_11, pt_63_17, true_and, and_true, List.length_cons, List.length_nil, Nat.reduceAdd, Nat.reduceLeDiff, forall_eq, ne_eq, Nat.reduceEqDiff, not_false_eq_true, or_false, false_or, or_true, true_or, reduceCtorEq, Nat.zero_le, Nat.reduceMul, Nat.add_zero, false_and, and_false, false_implies, true_implies, forall_const, implies_true, List.append_nil, List.nil_append, List.cons_append, mb_i, mb_ii, mb_iii, mb_r, mb_ri, mb_rii, mb_riii, mb_rr, mb_rri, mb_rrii, mb_rriii, mb_riiiii, mb_rrr, mb_rir, mb_iiii, mb_riiii, tn_0, tn_1, tn_2, tn_3, tn_4, tn_5, tn_6, tc_0, tc_1, tc_2, tc_3, tc_4, tc_5, tc_6, xf_0, xf_1, xf_2, Sum.inl.injEq, Sum.inr.injEq, C_M_at, C_M_begins, C_M_ends, C_M_evening, C_M_isClock, C_M_isIn, C_M_refuseFar, C_M_valueOf, nI_1])
          rw [← hw2 h2]
          exact h89
        · rw [← hw1 h2]
          exact h89
      | succ f ih =>
        intro k bst bv L8 M1 row hk hwI hrow hbest
        have hk2 := hadd k (by omega)
        have hrw : upd row P (least + nI k) = upd (M 65) P (least + nI k) := ud_cg hrow
        have hown : upd (M 65) P (least + nI k) (23 + 5 * tn c + 1) = s_own (M 65) c := ud_o (by omega)
        have hR2 := hdR k (by omega)
        have hi : s_sl (upd (M 65) P (least + nI k)) (s_own (M 65) c) := by
          have := own_sl hR2 (c := tn c) (by rw [ud_o (by omega)]; exact hct)
          rw [hown] at this
          exact this
        have h89 : V 89 [some (.inr 63), some (.inl c), some (.inl w), some (.inl pp), some (.inl least), some (.inl bst), some (.inl bv), some (.inl (least + nI k)), L8] [.inl top, .inl (least + nI k)] M1 := by
          (refine b_89 _ _ _ ?_; simp only [k_X7_evening_0, k_X7_evening_14, k_X7_evening_29, k_X7_evening_48, k_X7_evening_49, k_X7_evening_60, k_X7_evening_61, k_X7_evening_74, k_X7_evening_87, k_X7_evening_89, k_X7_evening_129, k_X7_evening_137, k_X7_evening_143, k_X7_evening_158, k_X7_evening_160, xp_1, xp_2, xp_3, xp_4, xp_5, xp_6, xp_7, xp_10, xp_11, xp_12, xp_13, xp_14, xp_15, xp_16, xp_17, xp_18, xp_19, xp_20, xp_21, xp_22, xp_23, xp_30, xp_31, xp_32, xp_33, xp_34, xp_35, xp_36, xp_37, xp_38, xp_39, xp_40, xp_41, xp_42, xp_43, xp_50, xp_51, xp_52, xp_53, xp_60, xp_61, xp_62, xp_63, xp_64, xp_65, xp_70, xp_80, xp_81, xp_82, up_ne, up_s, ud_s, ud_o, xw_0, xw_1, xg_0, xg_1, xl_i, xl_r, xs_0, xs_1, xq_i, xq_r, xq_v, xc_0, xc_1, xt_0, xt_1, xr_0, xr_1, xr_2, xe_0, xe_1, ob_0, ob_18, ob_36, ob_54, ak_55, ln_55, cq_55, ak_56, ln_56, cq_56, ob_57, ak_58, ln_58, cq_58, ak_59, ln_59, cq_59, ob_60, ak_61, ln_61, cq_61, ak_62, ln_62, cq_62, ob_63, ak_64, ln_64, cq_64, ak_65, ln_65, cq_65, ak_66, ln_66, cq_66, ak_67, ln_67, cq_67, ak_68, ln_68, cq_68, ak_69, ln_69, cq_69, ak_70, ln_70, cq_70, ak_71, ln_71, cq_71, ak_72, ln_72, cq_72, ak_73, ln_73, cq_73, pt_54_0, pt_54_1, pt_57_0, pt_57_3, pt_60_0, pt_60_1, pt_60_2, pt_60_4, pt_60_5, pt_60_6, pt_60_8, pt_63_0, pt_63_1, pt_63_2, pt_63_3, pt_63_4, pt_63_6, pt_63_7, pt_63_10, pt_63_11, pt_63_17, true_and, and_true, List.length_cons, List.length_nil, Nat.reduceAdd, Nat.reduceLeDiff, forall_eq, ne_eq, Nat.reduceEqDiff, not_false_eq_true, or_false, false_or, or_true, true_or, reduceCtorEq, Nat.zero_le, Nat.reduceMul, Nat.add_zero, false_and, and_false, false_implies, true_implies, forall_const, implies_true, List.append_nil, List.nil_append, List.cons_append, mb_i, mb_ii, mb_iii, mb_r, mb_ri, mb_rii, mb_riii, mb_rr, mb_rri, mb_rrii, mb_rriii, mb_riiiii, mb_rrr, mb_rir, mb_iiii, mb_riiii, tn_0, tn_1, tn_2, tn_3, tn_4, tn_5, tn_6, tc_0, tc_1, tc_2, tc_3, tc_4, tc_5, tc_6, xf_0, xf_1, xf_2, Sum.inl.injEq, Sum.inr.injEq, C_M_at, C_M_begins, C_M_ends, C_M_evening, C_M_isClock, C_M_isIn, C_M_refuseFar, C_M_valueOf, nI_1])
          rw [hppn, hwI.1, hrw, hown]
          refine ⟨fun hlt => absurd hlt (by rw [ti_lt, hk2, htop]; omega), fun _ => ⟨hpp, ⟨hb, by decide, by decide⟩, ⟨hR2, hi⟩, fun x M2 hx => ?_⟩⟩
          obtain ⟨hx, x1, x2, x3⟩ := hx
          have hwI2 : wI M M2 (upd row P (least + nI k)) := wI_V (wI_p hwI _ _) (by rw [x1, up_s, hwI.1, hrw]) x2 x3
          have h137 : ∀ (bst2 bv2 : Int32), bst2 = (s_ev (M 65) P (s_own (M 65) c) least k).1 → bv2 = (s_ev (M 65) P (s_own (M 65) c) least k).2 → V 137 [some (.inr 63), some (.inl c), some (.inl w), some (.inl pp), some (.inl least), some (.inl bst2), some (.inl bv2), some (.inl (least + nI k)), some (.inl x)] [] M2 := by
            intro bst2 bv2 hb1 hb2
            (refine b_137 _ _ _ ?_; simp only [k_X7_evening_0, k_X7_evening_14, k_X7_evening_29, k_X7_evening_48, k_X7_evening_49, k_X7_evening_60, k_X7_evening_61, k_X7_evening_74, k_X7_evening_87, k_X7_evening_89, k_X7_evening_129, k_X7_evening_137, k_X7_evening_143, k_X7_evening_158, k_X7_evening_160, xp_1, xp_2, xp_3, xp_4, xp_5, xp_6, xp_7, xp_10, xp_11, xp_12, xp_13, xp_14, xp_15, xp_16, xp_17, xp_18, xp_19, xp_20, xp_21, xp_22, xp_23, xp_30, xp_31, xp_32, xp_33, xp_34, xp_35, xp_36, xp_37, xp_38, xp_39, xp_40, xp_41, xp_42, xp_43, xp_50, xp_51, xp_52, xp_53, xp_60, xp_61, xp_62, xp_63, xp_64, xp_65, xp_70, xp_80, xp_81, xp_82, up_ne, up_s, ud_s, ud_o, xw_0, xw_1, xg_0, xg_1, xl_i, xl_r, xs_0, xs_1, xq_i, xq_r, xq_v, xc_0, xc_1, xt_0, xt_1, xr_0, xr_1, xr_2, xe_0, xe_1, ob_0, ob_18, ob_36, ob_54, ak_55, ln_55, cq_55, ak_56, ln_56, cq_56, ob_57, ak_58, ln_58, cq_58, ak_59, ln_59, cq_59, ob_60, ak_61, ln_61, cq_61, ak_62, ln_62, cq_62, ob_63, ak_64, ln_64, cq_64, ak_65, ln_65, cq_65, ak_66, ln_66, cq_66, ak_67, ln_67, cq_67, ak_68, ln_68, cq_68, ak_69, ln_69, cq_69, ak_70, ln_70, cq_70, ak_71, ln_71, cq_71, ak_72, ln_72, cq_72, ak_73, ln_73, cq_73, pt_54_0, pt_54_1, pt_57_0, pt_57_3, pt_60_0, pt_60_1, pt_60_2, pt_60_4, pt_60_5, pt_60_6, pt_60_8, pt_63_0, pt_63_1, pt_63_2, pt_63_3, pt_63_4, pt_63_6, pt_63_7, pt_63_10, pt_63_11, pt_63_17, true_and, and_true, List.length_cons, List.length_nil, Nat.reduceAdd, Nat.reduceLeDiff, forall_eq, ne_eq, Nat.reduceEqDiff, not_false_eq_true, or_false, false_or, or_true, true_or, reduceCtorEq, Nat.zero_le, Nat.reduceMul, Nat.add_zero, false_and, and_false, false_implies, true_implies, forall_const, implies_true, List.append_nil, List.nil_append, List.cons_append, mb_i, mb_ii, mb_iii, mb_r, mb_ri, mb_rii, mb_riii, mb_rr, mb_rri, mb_rrii, mb_rriii, mb_riiiii, mb_rrr, mb_rir, mb_iiii, mb_riiii, tn_0, tn_1, tn_2, tn_3, tn_4, tn_5, tn_6, tc_0, tc_1, tc_2, tc_3, tc_4, tc_5, tc_6, xf_0, xf_1, xf_2, Sum.inl.injEq, Sum.inr.injEq, C_M_at, C_M_begins, C_M_ends, C_M_evening, C_M_isClock, C_M_isIn, C_M_refuseFar, C_M_valueOf, nI_1])
            have e1 : least + nI k + 1 = least + nI (k + 1) := by rw [Int32.add_assoc, nI_1]
            rw [e1]
            exact ih (k + 1) bst2 bv2 _ M2 _ (by omega) hwI2 (up_row hrow _) (fun _ => ⟨hb1, hb2⟩)
          have e0 : least + nI 0 = least := Int32.add_zero _
          refine ⟨fun hle0 => ?_, fun hlt0 => ⟨fun hgt => ?_, fun hgt => ?_⟩⟩
          · have hk0 : k = 0 := by
              rw [ti_lt, hk2] at hle0
              omega
            subst hk0
            (refine b_129 _ _ _ ?_; simp only [k_X7_evening_0, k_X7_evening_14, k_X7_evening_29, k_X7_evening_48, k_X7_evening_49, k_X7_evening_60, k_X7_evening_61, k_X7_evening_74, k_X7_evening_87, k_X7_evening_89, k_X7_evening_129, k_X7_evening_137, k_X7_evening_143, k_X7_evening_158, k_X7_evening_160, xp_1, xp_2, xp_3, xp_4, xp_5, xp_6, xp_7, xp_10, xp_11, xp_12, xp_13, xp_14, xp_15, xp_16, xp_17, xp_18, xp_19, xp_20, xp_21, xp_22, xp_23, xp_30, xp_31, xp_32, xp_33, xp_34, xp_35, xp_36, xp_37, xp_38, xp_39, xp_40, xp_41, xp_42, xp_43, xp_50, xp_51, xp_52, xp_53, xp_60, xp_61, xp_62, xp_63, xp_64, xp_65, xp_70, xp_80, xp_81, xp_82, up_ne, up_s, ud_s, ud_o, xw_0, xw_1, xg_0, xg_1, xl_i, xl_r, xs_0, xs_1, xq_i, xq_r, xq_v, xc_0, xc_1, xt_0, xt_1, xr_0, xr_1, xr_2, xe_0, xe_1, ob_0, ob_18, ob_36, ob_54, ak_55, ln_55, cq_55, ak_56, ln_56, cq_56, ob_57, ak_58, ln_58, cq_58, ak_59, ln_59, cq_59, ob_60, ak_61, ln_61, cq_61, ak_62, ln_62, cq_62, ob_63, ak_64, ln_64, cq_64, ak_65, ln_65, cq_65, ak_66, ln_66, cq_66, ak_67, ln_67, cq_67, ak_68, ln_68, cq_68, ak_69, ln_69, cq_69, ak_70, ln_70, cq_70, ak_71, ln_71, cq_71, ak_72, ln_72, cq_72, ak_73, ln_73, cq_73, pt_54_0, pt_54_1, pt_57_0, pt_57_3, pt_60_0, pt_60_1, pt_60_2, pt_60_4, pt_60_5, pt_60_6, pt_60_8, pt_63_0, pt_63_1, pt_63_2, pt_63_3, pt_63_4, pt_63_6, pt_63_7, pt_63_10, pt_63_11, pt_63_17, true_and, and_true, List.length_cons, List.length_nil, Nat.reduceAdd, Nat.reduceLeDiff, forall_eq, ne_eq, Nat.reduceEqDiff, not_false_eq_true, or_false, false_or, or_true, true_or, reduceCtorEq, Nat.zero_le, Nat.reduceMul, Nat.add_zero, false_and, and_false, false_implies, true_implies, forall_const, implies_true, List.append_nil, List.nil_append, List.cons_append, mb_i, mb_ii, mb_iii, mb_r, mb_ri, mb_rii, mb_riii, mb_rr, mb_rri, mb_rrii, mb_rriii, mb_riiiii, mb_rrr, mb_rir, mb_iiii, mb_riiii, tn_0, tn_1, tn_2, tn_3, tn_4, tn_5, tn_6, tc_0, tc_1, tc_2, tc_3, tc_4, tc_5, tc_6, xf_0, xf_1, xf_2, Sum.inl.injEq, Sum.inr.injEq, C_M_at, C_M_begins, C_M_ends, C_M_evening, C_M_isClock, C_M_isIn, C_M_refuseFar, C_M_valueOf, nI_1])
            refine h137 _ _ ?_ ?_
            · rw [e0]; rfl
            · rw [hx, e0]; rfl
          · obtain ⟨k', rfl⟩ : ∃ k', k = k' + 1 := ⟨k - 1, by rw [ti_lt, hk2] at hlt0; omega⟩
            obtain ⟨q1, q2⟩ := hbest (by omega)
            rw [show k' + 1 - 1 = k' by omega] at q1 q2
            (refine b_129 _ _ _ ?_; simp only [k_X7_evening_0, k_X7_evening_14, k_X7_evening_29, k_X7_evening_48, k_X7_evening_49, k_X7_evening_60, k_X7_evening_61, k_X7_evening_74, k_X7_evening_87, k_X7_evening_89, k_X7_evening_129, k_X7_evening_137, k_X7_evening_143, k_X7_evening_158, k_X7_evening_160, xp_1, xp_2, xp_3, xp_4, xp_5, xp_6, xp_7, xp_10, xp_11, xp_12, xp_13, xp_14, xp_15, xp_16, xp_17, xp_18, xp_19, xp_20, xp_21, xp_22, xp_23, xp_30, xp_31, xp_32, xp_33, xp_34, xp_35, xp_36, xp_37, xp_38, xp_39, xp_40, xp_41, xp_42, xp_43, xp_50, xp_51, xp_52, xp_53, xp_60, xp_61, xp_62, xp_63, xp_64, xp_65, xp_70, xp_80, xp_81, xp_82, up_ne, up_s, ud_s, ud_o, xw_0, xw_1, xg_0, xg_1, xl_i, xl_r, xs_0, xs_1, xq_i, xq_r, xq_v, xc_0, xc_1, xt_0, xt_1, xr_0, xr_1, xr_2, xe_0, xe_1, ob_0, ob_18, ob_36, ob_54, ak_55, ln_55, cq_55, ak_56, ln_56, cq_56, ob_57, ak_58, ln_58, cq_58, ak_59, ln_59, cq_59, ob_60, ak_61, ln_61, cq_61, ak_62, ln_62, cq_62, ob_63, ak_64, ln_64, cq_64, ak_65, ln_65, cq_65, ak_66, ln_66, cq_66, ak_67, ln_67, cq_67, ak_68, ln_68, cq_68, ak_69, ln_69, cq_69, ak_70, ln_70, cq_70, ak_71, ln_71, cq_71, ak_72, ln_72, cq_72, ak_73, ln_73, cq_73, pt_54_0, pt_54_1, pt_57_0, pt_57_3, pt_60_0, pt_60_1, pt_60_2, pt_60_4, pt_60_5, pt_60_6, pt_60_8, pt_63_0, pt_63_1, pt_63_2, pt_63_3, pt_63_4, pt_63_6, pt_63_7, pt_63_10, pt_63_11, pt_63_17, true_and, and_true, List.length_cons, List.length_nil, Nat.reduceAdd, Nat.reduceLeDiff, forall_eq, ne_eq, Nat.reduceEqDiff, not_false_eq_true, or_false, false_or, or_true, true_or, reduceCtorEq, Nat.zero_le, Nat.reduceMul, Nat.add_zero, false_and, and_false, false_implies, true_implies, forall_const, implies_true, List.append_nil, List.nil_append, List.cons_append, mb_i, mb_ii, mb_iii, mb_r, mb_ri, mb_rii, mb_riii, mb_rr, mb_rri, mb_rrii, mb_rriii, mb_riiiii, mb_rrr, mb_rir, mb_iiii, mb_riiii, tn_0, tn_1, tn_2, tn_3, tn_4, tn_5, tn_6, tc_0, tc_1, tc_2, tc_3, tc_4, tc_5, tc_6, xf_0, xf_1, xf_2, Sum.inl.injEq, Sum.inr.injEq, C_M_at, C_M_begins, C_M_ends, C_M_evening, C_M_isClock, C_M_isIn, C_M_refuseFar, C_M_valueOf, nI_1])
            refine h137 _ _ ?_ ?_
            · unfold s_ev
              rw [if_pos (by rw [← q2, ← hx]; exact hgt)]
            · unfold s_ev
              rw [if_pos (by rw [← q2, ← hx]; exact hgt)]
              exact hx
          · obtain ⟨k', rfl⟩ : ∃ k', k = k' + 1 := ⟨k - 1, by rw [ti_lt, hk2] at hlt0; omega⟩
            obtain ⟨q1, q2⟩ := hbest (by omega)
            rw [show k' + 1 - 1 = k' by omega] at q1 q2
            refine h137 _ _ ?_ ?_
            · unfold s_ev
              rw [if_neg (by rw [← q2, ← hx]; exact hgt)]
              exact q1
            · unfold s_ev
              rw [if_neg (by rw [← q2, ← hx]; exact hgt)]
              exact q2
        (refine b_74 _ _ _ ?_; simp only [k_X7_evening_0, k_X7_evening_14, k_X7_evening_29, k_X7_evening_48, k_X7_evening_49, k_X7_evening_60, k_X7_evening_61, k_X7_evening_74, k_X7_evening_87, k_X7_evening_89, k_X7_evening_129, k_X7_evening_137, k_X7_evening_143, k_X7_evening_158, k_X7_evening_160, xp_1, xp_2, xp_3, xp_4, xp_5, xp_6, xp_7, xp_10, xp_11, xp_12, xp_13, xp_14, xp_15, xp_16, xp_17, xp_18, xp_19, xp_20, xp_21, xp_22, xp_23, xp_30, xp_31, xp_32, xp_33, xp_34, xp_35, xp_36, xp_37, xp_38, xp_39, xp_40, xp_41, xp_42, xp_43, xp_50, xp_51, xp_52, xp_53, xp_60, xp_61, xp_62, xp_63, xp_64, xp_65, xp_70, xp_80, xp_81, xp_82, up_ne, up_s, ud_s, ud_o, xw_0, xw_1, xg_0, xg_1, xl_i, xl_r, xs_0, xs_1, xq_i, xq_r, xq_v, xc_0, xc_1, xt_0, xt_1, xr_0, xr_1, xr_2, xe_0, xe_1, ob_0, ob_18, ob_36, ob_54, ak_55, ln_55, cq_55, ak_56, ln_56, cq_56, ob_57, ak_58, ln_58, cq_58, ak_59, ln_59, cq_59, ob_60, ak_61, ln_61, cq_61, ak_62, ln_62, cq_62, ob_63, ak_64, ln_64, cq_64, ak_65, ln_65, cq_65, ak_66, ln_66, cq_66, ak_67, ln_67, cq_67, ak_68, ln_68, cq_68, ak_69, ln_69, cq_69, ak_70, ln_70, cq_70, ak_71, ln_71, cq_71, ak_72, ln_72, cq_72, ak_73, ln_73, cq_73, pt_54_0, pt_54_1, pt_57_0, pt_57_3, pt_60_0, pt_60_1, pt_60_2, pt_60_4, pt_60_5, pt_60_6, pt_60_8, pt_63_0, pt_63_1, pt_63_2, pt_63_3, pt_63_4, pt_63_6, pt_63_7, pt_63_10, pt_63_11, pt_63_17, true_and, and_true, List.length_cons, List.length_nil, Nat.reduceAdd, Nat.reduceLeDiff, forall_eq, ne_eq, Nat.reduceEqDiff, not_false_eq_true, or_false, false_or, or_true, true_or, reduceCtorEq, Nat.zero_le, Nat.reduceMul, Nat.add_zero, false_and, and_false, false_implies, true_implies, forall_const, implies_true, List.append_nil, List.nil_append, List.cons_append, mb_i, mb_ii, mb_iii, mb_r, mb_ri, mb_rii, mb_riii, mb_rr, mb_rri, mb_rrii, mb_rriii, mb_riiiii, mb_rrr, mb_rir, mb_iiii, mb_riiii, tn_0, tn_1, tn_2, tn_3, tn_4, tn_5, tn_6, tc_0, tc_1, tc_2, tc_3, tc_4, tc_5, tc_6, xf_0, xf_1, xf_2, Sum.inl.injEq, Sum.inr.injEq, C_M_at, C_M_begins, C_M_ends, C_M_evening, C_M_isClock, C_M_isIn, C_M_refuseFar, C_M_valueOf, nI_1])
        refine ⟨fun h2 => ?_, fun h2 => ?_⟩
        · (refine b_87 _ _ _ ?_; simp only [k_X7_evening_0, k_X7_evening_14, k_X7_evening_29, k_X7_evening_48, k_X7_evening_49, k_X7_evening_60, k_X7_evening_61, k_X7_evening_74, k_X7_evening_87, k_X7_evening_89, k_X7_evening_129, k_X7_evening_137, k_X7_evening_143, k_X7_evening_158, k_X7_evening_160, xp_1, xp_2, xp_3, xp_4, xp_5, xp_6, xp_7, xp_10, xp_11, xp_12, xp_13, xp_14, xp_15, xp_16, xp_17, xp_18, xp_19, xp_20, xp_21, xp_22, xp_23, xp_30, xp_31, xp_32, xp_33, xp_34, xp_35, xp_36, xp_37, xp_38, xp_39, xp_40, xp_41, xp_42, xp_43, xp_50, xp_51, xp_52, xp_53, xp_60, xp_61, xp_62, xp_63, xp_64, xp_65, xp_70, xp_80, xp_81, xp_82, up_ne, up_s, ud_s, ud_o, xw_0, xw_1, xg_0, xg_1, xl_i, xl_r, xs_0, xs_1, xq_i, xq_r, xq_v, xc_0, xc_1, xt_0, xt_1, xr_0, xr_1, xr_2, xe_0, xe_1, ob_0, ob_18, ob_36, ob_54, ak_55, ln_55, cq_55, ak_56, ln_56, cq_56, ob_57, ak_58, ln_58, cq_58, ak_59, ln_59, cq_59, ob_60, ak_61, ln_61, cq_61, ak_62, ln_62, cq_62, ob_63, ak_64, ln_64, cq_64, ak_65, ln_65, cq_65, ak_66, ln_66, cq_66, ak_67, ln_67, cq_67, ak_68, ln_68, cq_68, ak_69, ln_69, cq_69, ak_70, ln_70, cq_70, ak_71, ln_71, cq_71, ak_72, ln_72, cq_72, ak_73, ln_73, cq_73, pt_54_0, pt_54_1, pt_57_0, pt_57_3, pt_60_0, pt_60_1, pt_60_2, pt_60_4, pt_60_5, pt_60_6, pt_60_8, pt_63_0, pt_63_1, pt_63_2, pt_63_3, pt_63_4, pt_63_6, pt_63_7, pt_63_10, pt_63_11, pt_63_17, true_and, and_true, List.length_cons, List.length_nil, Nat.reduceAdd, Nat.reduceLeDiff, forall_eq, ne_eq, Nat.reduceEqDiff, not_false_eq_true, or_false, false_or, or_true, true_or, reduceCtorEq, Nat.zero_le, Nat.reduceMul, Nat.add_zero, false_and, and_false, false_implies, true_implies, forall_const, implies_true, List.append_nil, List.nil_append, List.cons_append, mb_i, mb_ii, mb_iii, mb_r, mb_ri, mb_rii, mb_riii, mb_rr, mb_rri, mb_rrii, mb_rriii, mb_riiiii, mb_rrr, mb_rir, mb_iiii, mb_riiii, tn_0, tn_1, tn_2, tn_3, tn_4, tn_5, tn_6, tc_0, tc_1, tc_2, tc_3, tc_4, tc_5, tc_6, xf_0, xf_1, xf_2, Sum.inl.injEq, Sum.inr.injEq, C_M_at, C_M_begins, C_M_ends, C_M_evening, C_M_isClock, C_M_isIn, C_M_refuseFar, C_M_valueOf, nI_1])
          rw [← hw2 h2]
          exact h89
        · rw [← hw1 h2]
          exact h89
    have e0 : least + nI 0 = least := Int32.add_zero _
    have := loop (N + 1) 0 least 0 none _ _ (by omega) (wI_b M) (fun _ _ => rfl) (fun h => absurd h (by omega))
    rw [e0] at this
    exact this
  (refine b_0 _ _ _ ?_; simp only [k_X7_evening_0, k_X7_evening_14, k_X7_evening_29, k_X7_evening_48, k_X7_evening_49, k_X7_evening_60, k_X7_evening_61, k_X7_evening_74, k_X7_evening_87, k_X7_evening_89, k_X7_evening_129, k_X7_evening_137, k_X7_evening_143, k_X7_evening_158, k_X7_evening_160, xp_1, xp_2, xp_3, xp_4, xp_5, xp_6, xp_7, xp_10, xp_11, xp_12, xp_13, xp_14, xp_15, xp_16, xp_17, xp_18, xp_19, xp_20, xp_21, xp_22, xp_23, xp_30, xp_31, xp_32, xp_33, xp_34, xp_35, xp_36, xp_37, xp_38, xp_39, xp_40, xp_41, xp_42, xp_43, xp_50, xp_51, xp_52, xp_53, xp_60, xp_61, xp_62, xp_63, xp_64, xp_65, xp_70, xp_80, xp_81, xp_82, up_ne, up_s, ud_s, ud_o, xw_0, xw_1, xg_0, xg_1, xl_i, xl_r, xs_0, xs_1, xq_i, xq_r, xq_v, xc_0, xc_1, xt_0, xt_1, xr_0, xr_1, xr_2, xe_0, xe_1, ob_0, ob_18, ob_36, ob_54, ak_55, ln_55, cq_55, ak_56, ln_56, cq_56, ob_57, ak_58, ln_58, cq_58, ak_59, ln_59, cq_59, ob_60, ak_61, ln_61, cq_61, ak_62, ln_62, cq_62, ob_63, ak_64, ln_64, cq_64, ak_65, ln_65, cq_65, ak_66, ln_66, cq_66, ak_67, ln_67, cq_67, ak_68, ln_68, cq_68, ak_69, ln_69, cq_69, ak_70, ln_70, cq_70, ak_71, ln_71, cq_71, ak_72, ln_72, cq_72, ak_73, ln_73, cq_73, pt_54_0, pt_54_1, pt_57_0, pt_57_3, pt_60_0, pt_60_1, pt_60_2, pt_60_4, pt_60_5, pt_60_6, pt_60_8, pt_63_0, pt_63_1, pt_63_2, pt_63_3, pt_63_4, pt_63_6, pt_63_7, pt_63_10, pt_63_11, pt_63_17, true_and, and_true, List.length_cons, List.length_nil, Nat.reduceAdd, Nat.reduceLeDiff, forall_eq, ne_eq, Nat.reduceEqDiff, not_false_eq_true, or_false, false_or, or_true, true_or, reduceCtorEq, Nat.zero_le, Nat.reduceMul, Nat.add_zero, false_and, and_false, false_implies, true_implies, forall_const, implies_true, List.append_nil, List.nil_append, List.cons_append, mb_i, mb_ii, mb_iii, mb_r, mb_ri, mb_rii, mb_riii, mb_rr, mb_rri, mb_rrii, mb_rriii, mb_riiiii, mb_rrr, mb_rir, mb_iiii, mb_riiii, tn_0, tn_1, tn_2, tn_3, tn_4, tn_5, tn_6, tc_0, tc_1, tc_2, tc_3, tc_4, tc_5, tc_6, xf_0, xf_1, xf_2, Sum.inl.injEq, Sum.inr.injEq, C_M_at, C_M_begins, C_M_ends, C_M_evening, C_M_isClock, C_M_isIn, C_M_refuseFar, C_M_valueOf, nI_1])
  refine ⟨fun h => ?_, fun h => ⟨rc1, ?_⟩⟩
  · (refine b_14 _ _ _ ?_; simp only [k_X7_evening_0, k_X7_evening_14, k_X7_evening_29, k_X7_evening_48, k_X7_evening_49, k_X7_evening_60, k_X7_evening_61, k_X7_evening_74, k_X7_evening_87, k_X7_evening_89, k_X7_evening_129, k_X7_evening_137, k_X7_evening_143, k_X7_evening_158, k_X7_evening_160, xp_1, xp_2, xp_3, xp_4, xp_5, xp_6, xp_7, xp_10, xp_11, xp_12, xp_13, xp_14, xp_15, xp_16, xp_17, xp_18, xp_19, xp_20, xp_21, xp_22, xp_23, xp_30, xp_31, xp_32, xp_33, xp_34, xp_35, xp_36, xp_37, xp_38, xp_39, xp_40, xp_41, xp_42, xp_43, xp_50, xp_51, xp_52, xp_53, xp_60, xp_61, xp_62, xp_63, xp_64, xp_65, xp_70, xp_80, xp_81, xp_82, up_ne, up_s, ud_s, ud_o, xw_0, xw_1, xg_0, xg_1, xl_i, xl_r, xs_0, xs_1, xq_i, xq_r, xq_v, xc_0, xc_1, xt_0, xt_1, xr_0, xr_1, xr_2, xe_0, xe_1, ob_0, ob_18, ob_36, ob_54, ak_55, ln_55, cq_55, ak_56, ln_56, cq_56, ob_57, ak_58, ln_58, cq_58, ak_59, ln_59, cq_59, ob_60, ak_61, ln_61, cq_61, ak_62, ln_62, cq_62, ob_63, ak_64, ln_64, cq_64, ak_65, ln_65, cq_65, ak_66, ln_66, cq_66, ak_67, ln_67, cq_67, ak_68, ln_68, cq_68, ak_69, ln_69, cq_69, ak_70, ln_70, cq_70, ak_71, ln_71, cq_71, ak_72, ln_72, cq_72, ak_73, ln_73, cq_73, pt_54_0, pt_54_1, pt_57_0, pt_57_3, pt_60_0, pt_60_1, pt_60_2, pt_60_4, pt_60_5, pt_60_6, pt_60_8, pt_63_0, pt_63_1, pt_63_2, pt_63_3, pt_63_4, pt_63_6, pt_63_7, pt_63_10, pt_63_11, pt_63_17, true_and, and_true, List.length_cons, List.length_nil, Nat.reduceAdd, Nat.reduceLeDiff, forall_eq, ne_eq, Nat.reduceEqDiff, not_false_eq_true, or_false, false_or, or_true, true_or, reduceCtorEq, Nat.zero_le, Nat.reduceMul, Nat.add_zero, false_and, and_false, false_implies, true_implies, forall_const, implies_true, List.append_nil, List.nil_append, List.cons_append, mb_i, mb_ii, mb_iii, mb_r, mb_ri, mb_rii, mb_riii, mb_rr, mb_rri, mb_rrii, mb_rriii, mb_riiiii, mb_rrr, mb_rir, mb_iiii, mb_riiii, tn_0, tn_1, tn_2, tn_3, tn_4, tn_5, tn_6, tc_0, tc_1, tc_2, tc_3, tc_4, tc_5, tc_6, xf_0, xf_1, xf_2, Sum.inl.injEq, Sum.inr.injEq, C_M_at, C_M_begins, C_M_ends, C_M_evening, C_M_isClock, C_M_isIn, C_M_refuseFar, C_M_valueOf, nI_1])
    refine ⟨fun h4 => ?_, fun h4 => ⟨rc2, ?_⟩⟩
    · have hb : bd c 0 3 := bd_in h (by omega)
      have hct : tn c < tn (M 65 1) := in_tn h
      have htc : tn c < 4 := by have := tn_of hb.1; have := hb.2; omega
      have hix := ix_2 hb
      have hix3 : vp_in (23 + 5 * c + 3) 55 ∧ (23 + 5 * c + 3).toNatClampNeg = 23 + 5 * tn c + 3 := ix_a hb (k := 3) ⟨by decide, by decide⟩
      (refine b_29 _ _ _ ?_; simp only [k_X7_evening_0, k_X7_evening_14, k_X7_evening_29, k_X7_evening_48, k_X7_evening_49, k_X7_evening_60, k_X7_evening_61, k_X7_evening_74, k_X7_evening_87, k_X7_evening_89, k_X7_evening_129, k_X7_evening_137, k_X7_evening_143, k_X7_evening_158, k_X7_evening_160, xp_1, xp_2, xp_3, xp_4, xp_5, xp_6, xp_7, xp_10, xp_11, xp_12, xp_13, xp_14, xp_15, xp_16, xp_17, xp_18, xp_19, xp_20, xp_21, xp_22, xp_23, xp_30, xp_31, xp_32, xp_33, xp_34, xp_35, xp_36, xp_37, xp_38, xp_39, xp_40, xp_41, xp_42, xp_43, xp_50, xp_51, xp_52, xp_53, xp_60, xp_61, xp_62, xp_63, xp_64, xp_65, xp_70, xp_80, xp_81, xp_82, up_ne, up_s, ud_s, ud_o, xw_0, xw_1, xg_0, xg_1, xl_i, xl_r, xs_0, xs_1, xq_i, xq_r, xq_v, xc_0, xc_1, xt_0, xt_1, xr_0, xr_1, xr_2, xe_0, xe_1, ob_0, ob_18, ob_36, ob_54, ak_55, ln_55, cq_55, ak_56, ln_56, cq_56, ob_57, ak_58, ln_58, cq_58, ak_59, ln_59, cq_59, ob_60, ak_61, ln_61, cq_61, ak_62, ln_62, cq_62, ob_63, ak_64, ln_64, cq_64, ak_65, ln_65, cq_65, ak_66, ln_66, cq_66, ak_67, ln_67, cq_67, ak_68, ln_68, cq_68, ak_69, ln_69, cq_69, ak_70, ln_70, cq_70, ak_71, ln_71, cq_71, ak_72, ln_72, cq_72, ak_73, ln_73, cq_73, pt_54_0, pt_54_1, pt_57_0, pt_57_3, pt_60_0, pt_60_1, pt_60_2, pt_60_4, pt_60_5, pt_60_6, pt_60_8, pt_63_0, pt_63_1, pt_63_2, pt_63_3, pt_63_4, pt_63_6, pt_63_7, pt_63_10, pt_63_11, pt_63_17, true_and, and_true, List.length_cons, List.length_nil, Nat.reduceAdd, Nat.reduceLeDiff, forall_eq, ne_eq, Nat.reduceEqDiff, not_false_eq_true, or_false, false_or, or_true, true_or, reduceCtorEq, Nat.zero_le, Nat.reduceMul, Nat.add_zero, false_and, and_false, false_implies, true_implies, forall_const, implies_true, List.append_nil, List.nil_append, List.cons_append, mb_i, mb_ii, mb_iii, mb_r, mb_ri, mb_rii, mb_riii, mb_rr, mb_rri, mb_rrii, mb_rriii, mb_riiiii, mb_rrr, mb_rir, mb_iiii, mb_riiii, tn_0, tn_1, tn_2, tn_3, tn_4, tn_5, tn_6, tc_0, tc_1, tc_2, tc_3, tc_4, tc_5, tc_6, xf_0, xf_1, xf_2, Sum.inl.injEq, Sum.inr.injEq, C_M_at, C_M_begins, C_M_ends, C_M_evening, C_M_isClock, C_M_isIn, C_M_refuseFar, C_M_valueOf, nI_1])
      refine ⟨fun h2 => ?_, fun h2 => ?_⟩
      · (refine b_48 _ _ _ ?_; simp only [k_X7_evening_0, k_X7_evening_14, k_X7_evening_29, k_X7_evening_48, k_X7_evening_49, k_X7_evening_60, k_X7_evening_61, k_X7_evening_74, k_X7_evening_87, k_X7_evening_89, k_X7_evening_129, k_X7_evening_137, k_X7_evening_143, k_X7_evening_158, k_X7_evening_160, xp_1, xp_2, xp_3, xp_4, xp_5, xp_6, xp_7, xp_10, xp_11, xp_12, xp_13, xp_14, xp_15, xp_16, xp_17, xp_18, xp_19, xp_20, xp_21, xp_22, xp_23, xp_30, xp_31, xp_32, xp_33, xp_34, xp_35, xp_36, xp_37, xp_38, xp_39, xp_40, xp_41, xp_42, xp_43, xp_50, xp_51, xp_52, xp_53, xp_60, xp_61, xp_62, xp_63, xp_64, xp_65, xp_70, xp_80, xp_81, xp_82, up_ne, up_s, ud_s, ud_o, xw_0, xw_1, xg_0, xg_1, xl_i, xl_r, xs_0, xs_1, xq_i, xq_r, xq_v, xc_0, xc_1, xt_0, xt_1, xr_0, xr_1, xr_2, xe_0, xe_1, ob_0, ob_18, ob_36, ob_54, ak_55, ln_55, cq_55, ak_56, ln_56, cq_56, ob_57, ak_58, ln_58, cq_58, ak_59, ln_59, cq_59, ob_60, ak_61, ln_61, cq_61, ak_62, ln_62, cq_62, ob_63, ak_64, ln_64, cq_64, ak_65, ln_65, cq_65, ak_66, ln_66, cq_66, ak_67, ln_67, cq_67, ak_68, ln_68, cq_68, ak_69, ln_69, cq_69, ak_70, ln_70, cq_70, ak_71, ln_71, cq_71, ak_72, ln_72, cq_72, ak_73, ln_73, cq_73, pt_54_0, pt_54_1, pt_57_0, pt_57_3, pt_60_0, pt_60_1, pt_60_2, pt_60_4, pt_60_5, pt_60_6, pt_60_8, pt_63_0, pt_63_1, pt_63_2, pt_63_3, pt_63_4, pt_63_6, pt_63_7, pt_63_10, pt_63_11, pt_63_17, true_and, and_true, List.length_cons, List.length_nil, Nat.reduceAdd, Nat.reduceLeDiff, forall_eq, ne_eq, Nat.reduceEqDiff, not_false_eq_true, or_false, false_or, or_true, true_or, reduceCtorEq, Nat.zero_le, Nat.reduceMul, Nat.add_zero, false_and, and_false, false_implies, true_implies, forall_const, implies_true, List.append_nil, List.nil_append, List.cons_append, mb_i, mb_ii, mb_iii, mb_r, mb_ri, mb_rii, mb_riii, mb_rr, mb_rri, mb_rrii, mb_rriii, mb_riiiii, mb_rrr, mb_rir, mb_iiii, mb_riiii, tn_0, tn_1, tn_2, tn_3, tn_4, tn_5, tn_6, tc_0, tc_1, tc_2, tc_3, tc_4, tc_5, tc_6, xf_0, xf_1, xf_2, Sum.inl.injEq, Sum.inr.injEq, C_M_at, C_M_begins, C_M_ends, C_M_evening, C_M_isClock, C_M_isIn, C_M_refuseFar, C_M_valueOf, nI_1])
        (refine b_49 _ _ _ ?_; simp only [k_X7_evening_0, k_X7_evening_14, k_X7_evening_29, k_X7_evening_48, k_X7_evening_49, k_X7_evening_60, k_X7_evening_61, k_X7_evening_74, k_X7_evening_87, k_X7_evening_89, k_X7_evening_129, k_X7_evening_137, k_X7_evening_143, k_X7_evening_158, k_X7_evening_160, xp_1, xp_2, xp_3, xp_4, xp_5, xp_6, xp_7, xp_10, xp_11, xp_12, xp_13, xp_14, xp_15, xp_16, xp_17, xp_18, xp_19, xp_20, xp_21, xp_22, xp_23, xp_30, xp_31, xp_32, xp_33, xp_34, xp_35, xp_36, xp_37, xp_38, xp_39, xp_40, xp_41, xp_42, xp_43, xp_50, xp_51, xp_52, xp_53, xp_60, xp_61, xp_62, xp_63, xp_64, xp_65, xp_70, xp_80, xp_81, xp_82, up_ne, up_s, ud_s, ud_o, xw_0, xw_1, xg_0, xg_1, xl_i, xl_r, xs_0, xs_1, xq_i, xq_r, xq_v, xc_0, xc_1, xt_0, xt_1, xr_0, xr_1, xr_2, xe_0, xe_1, ob_0, ob_18, ob_36, ob_54, ak_55, ln_55, cq_55, ak_56, ln_56, cq_56, ob_57, ak_58, ln_58, cq_58, ak_59, ln_59, cq_59, ob_60, ak_61, ln_61, cq_61, ak_62, ln_62, cq_62, ob_63, ak_64, ln_64, cq_64, ak_65, ln_65, cq_65, ak_66, ln_66, cq_66, ak_67, ln_67, cq_67, ak_68, ln_68, cq_68, ak_69, ln_69, cq_69, ak_70, ln_70, cq_70, ak_71, ln_71, cq_71, ak_72, ln_72, cq_72, ak_73, ln_73, cq_73, pt_54_0, pt_54_1, pt_57_0, pt_57_3, pt_60_0, pt_60_1, pt_60_2, pt_60_4, pt_60_5, pt_60_6, pt_60_8, pt_63_0, pt_63_1, pt_63_2, pt_63_3, pt_63_4, pt_63_6, pt_63_7, pt_63_10, pt_63_11, pt_63_17, true_and, and_true, List.length_cons, List.length_nil, Nat.reduceAdd, Nat.reduceLeDiff, forall_eq, ne_eq, Nat.reduceEqDiff, not_false_eq_true, or_false, false_or, or_true, true_or, reduceCtorEq, Nat.zero_le, Nat.reduceMul, Nat.add_zero, false_and, and_false, false_implies, true_implies, forall_const, implies_true, List.append_nil, List.nil_append, List.cons_append, mb_i, mb_ii, mb_iii, mb_r, mb_ri, mb_rii, mb_riii, mb_rr, mb_rri, mb_rrii, mb_rriii, mb_riiiii, mb_rrr, mb_rir, mb_iiii, mb_riiii, tn_0, tn_1, tn_2, tn_3, tn_4, tn_5, tn_6, tc_0, tc_1, tc_2, tc_3, tc_4, tc_5, tc_6, xf_0, xf_1, xf_2, Sum.inl.injEq, Sum.inr.injEq, C_M_at, C_M_begins, C_M_ends, C_M_evening, C_M_isClock, C_M_isIn, C_M_refuseFar, C_M_valueOf, nI_1])
        refine ⟨fun _ => ?_, fun hh => absurd hh h2⟩
        (refine b_60 _ _ _ ?_; simp only [k_X7_evening_0, k_X7_evening_14, k_X7_evening_29, k_X7_evening_48, k_X7_evening_49, k_X7_evening_60, k_X7_evening_61, k_X7_evening_74, k_X7_evening_87, k_X7_evening_89, k_X7_evening_129, k_X7_evening_137, k_X7_evening_143, k_X7_evening_158, k_X7_evening_160, xp_1, xp_2, xp_3, xp_4, xp_5, xp_6, xp_7, xp_10, xp_11, xp_12, xp_13, xp_14, xp_15, xp_16, xp_17, xp_18, xp_19, xp_20, xp_21, xp_22, xp_23, xp_30, xp_31, xp_32, xp_33, xp_34, xp_35, xp_36, xp_37, xp_38, xp_39, xp_40, xp_41, xp_42, xp_43, xp_50, xp_51, xp_52, xp_53, xp_60, xp_61, xp_62, xp_63, xp_64, xp_65, xp_70, xp_80, xp_81, xp_82, up_ne, up_s, ud_s, ud_o, xw_0, xw_1, xg_0, xg_1, xl_i, xl_r, xs_0, xs_1, xq_i, xq_r, xq_v, xc_0, xc_1, xt_0, xt_1, xr_0, xr_1, xr_2, xe_0, xe_1, ob_0, ob_18, ob_36, ob_54, ak_55, ln_55, cq_55, ak_56, ln_56, cq_56, ob_57, ak_58, ln_58, cq_58, ak_59, ln_59, cq_59, ob_60, ak_61, ln_61, cq_61, ak_62, ln_62, cq_62, ob_63, ak_64, ln_64, cq_64, ak_65, ln_65, cq_65, ak_66, ln_66, cq_66, ak_67, ln_67, cq_67, ak_68, ln_68, cq_68, ak_69, ln_69, cq_69, ak_70, ln_70, cq_70, ak_71, ln_71, cq_71, ak_72, ln_72, cq_72, ak_73, ln_73, cq_73, pt_54_0, pt_54_1, pt_57_0, pt_57_3, pt_60_0, pt_60_1, pt_60_2, pt_60_4, pt_60_5, pt_60_6, pt_60_8, pt_63_0, pt_63_1, pt_63_2, pt_63_3, pt_63_4, pt_63_6, pt_63_7, pt_63_10, pt_63_11, pt_63_17, true_and, and_true, List.length_cons, List.length_nil, Nat.reduceAdd, Nat.reduceLeDiff, forall_eq, ne_eq, Nat.reduceEqDiff, not_false_eq_true, or_false, false_or, or_true, true_or, reduceCtorEq, Nat.zero_le, Nat.reduceMul, Nat.add_zero, false_and, and_false, false_implies, true_implies, forall_const, implies_true, List.append_nil, List.nil_append, List.cons_append, mb_i, mb_ii, mb_iii, mb_r, mb_ri, mb_rii, mb_riii, mb_rr, mb_rri, mb_rrii, mb_rriii, mb_riiiii, mb_rrr, mb_rir, mb_iiii, mb_riiii, tn_0, tn_1, tn_2, tn_3, tn_4, tn_5, tn_6, tc_0, tc_1, tc_2, tc_3, tc_4, tc_5, tc_6, xf_0, xf_1, xf_2, Sum.inl.injEq, Sum.inr.injEq, C_M_at, C_M_begins, C_M_ends, C_M_evening, C_M_isClock, C_M_isIn, C_M_refuseFar, C_M_valueOf, nI_1])
        (refine b_61 _ _ _ ?_; simp only [k_X7_evening_0, k_X7_evening_14, k_X7_evening_29, k_X7_evening_48, k_X7_evening_49, k_X7_evening_60, k_X7_evening_61, k_X7_evening_74, k_X7_evening_87, k_X7_evening_89, k_X7_evening_129, k_X7_evening_137, k_X7_evening_143, k_X7_evening_158, k_X7_evening_160, xp_1, xp_2, xp_3, xp_4, xp_5, xp_6, xp_7, xp_10, xp_11, xp_12, xp_13, xp_14, xp_15, xp_16, xp_17, xp_18, xp_19, xp_20, xp_21, xp_22, xp_23, xp_30, xp_31, xp_32, xp_33, xp_34, xp_35, xp_36, xp_37, xp_38, xp_39, xp_40, xp_41, xp_42, xp_43, xp_50, xp_51, xp_52, xp_53, xp_60, xp_61, xp_62, xp_63, xp_64, xp_65, xp_70, xp_80, xp_81, xp_82, up_ne, up_s, ud_s, ud_o, xw_0, xw_1, xg_0, xg_1, xl_i, xl_r, xs_0, xs_1, xq_i, xq_r, xq_v, xc_0, xc_1, xt_0, xt_1, xr_0, xr_1, xr_2, xe_0, xe_1, ob_0, ob_18, ob_36, ob_54, ak_55, ln_55, cq_55, ak_56, ln_56, cq_56, ob_57, ak_58, ln_58, cq_58, ak_59, ln_59, cq_59, ob_60, ak_61, ln_61, cq_61, ak_62, ln_62, cq_62, ob_63, ak_64, ln_64, cq_64, ak_65, ln_65, cq_65, ak_66, ln_66, cq_66, ak_67, ln_67, cq_67, ak_68, ln_68, cq_68, ak_69, ln_69, cq_69, ak_70, ln_70, cq_70, ak_71, ln_71, cq_71, ak_72, ln_72, cq_72, ak_73, ln_73, cq_73, pt_54_0, pt_54_1, pt_57_0, pt_57_3, pt_60_0, pt_60_1, pt_60_2, pt_60_4, pt_60_5, pt_60_6, pt_60_8, pt_63_0, pt_63_1, pt_63_2, pt_63_3, pt_63_4, pt_63_6, pt_63_7, pt_63_10, pt_63_11, pt_63_17, true_and, and_true, List.length_cons, List.length_nil, Nat.reduceAdd, Nat.reduceLeDiff, forall_eq, ne_eq, Nat.reduceEqDiff, not_false_eq_true, or_false, false_or, or_true, true_or, reduceCtorEq, Nat.zero_le, Nat.reduceMul, Nat.add_zero, false_and, and_false, false_implies, true_implies, forall_const, implies_true, List.append_nil, List.nil_append, List.cons_append, mb_i, mb_ii, mb_iii, mb_r, mb_ri, mb_rii, mb_riii, mb_rr, mb_rri, mb_rrii, mb_rriii, mb_riiiii, mb_rrr, mb_rir, mb_iiii, mb_riiii, tn_0, tn_1, tn_2, tn_3, tn_4, tn_5, tn_6, tc_0, tc_1, tc_2, tc_3, tc_4, tc_5, tc_6, xf_0, xf_1, xf_2, Sum.inl.injEq, Sum.inr.injEq, C_M_at, C_M_begins, C_M_ends, C_M_evening, C_M_isClock, C_M_isIn, C_M_refuseFar, C_M_valueOf, nI_1])
        refine main h h4 _ 1 (23 + 5 * tn c + 3) 19 20 (fun k hk => ?_) hix3.1 hix3.2 (by omega) (by omega) (by omega) (by omega) (fun k hk => ?_) (by decide) ⟨by decide, by decide⟩ (by omega) ?_ (fun hh => absurd hh h2) (fun _ => rfl)
        · refine dR_clk hR hct (Or.inr ⟨rfl, ?_⟩)
          have e1 : (1 : Int32) + nI k = nI (k + 1) := by rw [Int32.add_comm, nI_1]
          rw [e1]
          exact ⟨by rw [ti_nI (by omega)]; omega, by rw [ti_nI (by omega)]; omega⟩
        · have e1 : (1 : Int32) + nI k = nI (k + 1) := by rw [Int32.add_comm, nI_1]
          have e2 : (1 : Int32).toInt = 1 := rfl
          rw [e1, ti_nI (by omega), e2]
          omega
        · unfold s_even
          rw [if_neg h2]
      · (refine b_49 _ _ _ ?_; simp only [k_X7_evening_0, k_X7_evening_14, k_X7_evening_29, k_X7_evening_48, k_X7_evening_49, k_X7_evening_60, k_X7_evening_61, k_X7_evening_74, k_X7_evening_87, k_X7_evening_89, k_X7_evening_129, k_X7_evening_137, k_X7_evening_143, k_X7_evening_158, k_X7_evening_160, xp_1, xp_2, xp_3, xp_4, xp_5, xp_6, xp_7, xp_10, xp_11, xp_12, xp_13, xp_14, xp_15, xp_16, xp_17, xp_18, xp_19, xp_20, xp_21, xp_22, xp_23, xp_30, xp_31, xp_32, xp_33, xp_34, xp_35, xp_36, xp_37, xp_38, xp_39, xp_40, xp_41, xp_42, xp_43, xp_50, xp_51, xp_52, xp_53, xp_60, xp_61, xp_62, xp_63, xp_64, xp_65, xp_70, xp_80, xp_81, xp_82, up_ne, up_s, ud_s, ud_o, xw_0, xw_1, xg_0, xg_1, xl_i, xl_r, xs_0, xs_1, xq_i, xq_r, xq_v, xc_0, xc_1, xt_0, xt_1, xr_0, xr_1, xr_2, xe_0, xe_1, ob_0, ob_18, ob_36, ob_54, ak_55, ln_55, cq_55, ak_56, ln_56, cq_56, ob_57, ak_58, ln_58, cq_58, ak_59, ln_59, cq_59, ob_60, ak_61, ln_61, cq_61, ak_62, ln_62, cq_62, ob_63, ak_64, ln_64, cq_64, ak_65, ln_65, cq_65, ak_66, ln_66, cq_66, ak_67, ln_67, cq_67, ak_68, ln_68, cq_68, ak_69, ln_69, cq_69, ak_70, ln_70, cq_70, ak_71, ln_71, cq_71, ak_72, ln_72, cq_72, ak_73, ln_73, cq_73, pt_54_0, pt_54_1, pt_57_0, pt_57_3, pt_60_0, pt_60_1, pt_60_2, pt_60_4, pt_60_5, pt_60_6, pt_60_8, pt_63_0, pt_63_1, pt_63_2, pt_63_3, pt_63_4, pt_63_6, pt_63_7, pt_63_10, pt_63_11, pt_63_17, true_and, and_true, List.length_cons, List.length_nil, Nat.reduceAdd, Nat.reduceLeDiff, forall_eq, ne_eq, Nat.reduceEqDiff, not_false_eq_true, or_false, false_or, or_true, true_or, reduceCtorEq, Nat.zero_le, Nat.reduceMul, Nat.add_zero, false_and, and_false, false_implies, true_implies, forall_const, implies_true, List.append_nil, List.nil_append, List.cons_append, mb_i, mb_ii, mb_iii, mb_r, mb_ri, mb_rii, mb_riii, mb_rr, mb_rri, mb_rrii, mb_rriii, mb_riiiii, mb_rrr, mb_rir, mb_iiii, mb_riiii, tn_0, tn_1, tn_2, tn_3, tn_4, tn_5, tn_6, tc_0, tc_1, tc_2, tc_3, tc_4, tc_5, tc_6, xf_0, xf_1, xf_2, Sum.inl.injEq, Sum.inr.injEq, C_M_at, C_M_begins, C_M_ends, C_M_evening, C_M_isClock, C_M_isIn, C_M_refuseFar, C_M_valueOf, nI_1])
        refine ⟨fun hh => absurd h2 hh, fun _ => ?_⟩
        (refine b_61 _ _ _ ?_; simp only [k_X7_evening_0, k_X7_evening_14, k_X7_evening_29, k_X7_evening_48, k_X7_evening_49, k_X7_evening_60, k_X7_evening_61, k_X7_evening_74, k_X7_evening_87, k_X7_evening_89, k_X7_evening_129, k_X7_evening_137, k_X7_evening_143, k_X7_evening_158, k_X7_evening_160, xp_1, xp_2, xp_3, xp_4, xp_5, xp_6, xp_7, xp_10, xp_11, xp_12, xp_13, xp_14, xp_15, xp_16, xp_17, xp_18, xp_19, xp_20, xp_21, xp_22, xp_23, xp_30, xp_31, xp_32, xp_33, xp_34, xp_35, xp_36, xp_37, xp_38, xp_39, xp_40, xp_41, xp_42, xp_43, xp_50, xp_51, xp_52, xp_53, xp_60, xp_61, xp_62, xp_63, xp_64, xp_65, xp_70, xp_80, xp_81, xp_82, up_ne, up_s, ud_s, ud_o, xw_0, xw_1, xg_0, xg_1, xl_i, xl_r, xs_0, xs_1, xq_i, xq_r, xq_v, xc_0, xc_1, xt_0, xt_1, xr_0, xr_1, xr_2, xe_0, xe_1, ob_0, ob_18, ob_36, ob_54, ak_55, ln_55, cq_55, ak_56, ln_56, cq_56, ob_57, ak_58, ln_58, cq_58, ak_59, ln_59, cq_59, ob_60, ak_61, ln_61, cq_61, ak_62, ln_62, cq_62, ob_63, ak_64, ln_64, cq_64, ak_65, ln_65, cq_65, ak_66, ln_66, cq_66, ak_67, ln_67, cq_67, ak_68, ln_68, cq_68, ak_69, ln_69, cq_69, ak_70, ln_70, cq_70, ak_71, ln_71, cq_71, ak_72, ln_72, cq_72, ak_73, ln_73, cq_73, pt_54_0, pt_54_1, pt_57_0, pt_57_3, pt_60_0, pt_60_1, pt_60_2, pt_60_4, pt_60_5, pt_60_6, pt_60_8, pt_63_0, pt_63_1, pt_63_2, pt_63_3, pt_63_4, pt_63_6, pt_63_7, pt_63_10, pt_63_11, pt_63_17, true_and, and_true, List.length_cons, List.length_nil, Nat.reduceAdd, Nat.reduceLeDiff, forall_eq, ne_eq, Nat.reduceEqDiff, not_false_eq_true, or_false, false_or, or_true, true_or, reduceCtorEq, Nat.zero_le, Nat.reduceMul, Nat.add_zero, false_and, and_false, false_implies, true_implies, forall_const, implies_true, List.append_nil, List.nil_append, List.cons_append, mb_i, mb_ii, mb_iii, mb_r, mb_ri, mb_rii, mb_riii, mb_rr, mb_rri, mb_rrii, mb_rriii, mb_riiiii, mb_rrr, mb_rir, mb_iiii, mb_riiii, tn_0, tn_1, tn_2, tn_3, tn_4, tn_5, tn_6, tc_0, tc_1, tc_2, tc_3, tc_4, tc_5, tc_6, xf_0, xf_1, xf_2, Sum.inl.injEq, Sum.inr.injEq, C_M_at, C_M_begins, C_M_ends, C_M_evening, C_M_isClock, C_M_isIn, C_M_refuseFar, C_M_valueOf, nI_1])
        refine main h h4 _ 0 (23 + 5 * tn c + 2) 299 299 (fun k hk => ?_) hix.1 hix.2 (by omega) (by omega) (by omega) (by omega) (fun k hk => ?_) (by decide) ⟨by decide, by decide⟩ (by omega) ?_ (fun _ => rfl) (fun hh => absurd h2 hh)
        · refine dR_clk hR hct (Or.inl ⟨rfl, ?_⟩)
          rw [Int32.zero_add]
          exact bd_n (by omega) (by omega)
        · have e2 : (0 : Int32).toInt = 0 := rfl
          rw [Int32.zero_add, ti_nI (by omega), e2]
          omega
        · unfold s_even
          rw [if_pos h2]
    · unfold F_evening
      rw [mS_0, ft_1 h, ot_0 h4]
      exact qV_no (by decide)
  · unfold F_evening
    rw [mS_0, ft_0 h]
    exact qV_no (by decide)


def C_M_moment : mj_C := (4, rk1, fun avs M => ma_riii avs fun a i fm n => (a = 63 ∧ dS (mS M)), fun avs M r M' => ma_riii avs fun a i fm n => (r = .inl (F_moment (mS M) i fm n).1 ∧ mS M' = (F_moment (mS M) i fm n).2 ∧ fr1 M M'))
theorem rc_M_moment : ∀ avs M, C_M_moment.2.2.1 avs M → ∃ a r, avs = .inr a :: r ∧ mj_ob a = 7 := by
  intro avs M h
  obtain ⟨a, i, fm, n, rfl, h⟩ := mc_riii h
  exact ⟨_, _, rfl, by rw [h.1]; rfl⟩
set_option maxRecDepth 20000 in
set_option maxHeartbeats 2000000 in
theorem t_M_moment : mj_T yX7_moment cX7_moment 7 (some .int) 5 C_M_moment := by
  refine mj_T_of (own := 7) (rk := 1) [(123, C_M_refuse), (255, C_M_isSleeper), (342, C_M_depthOf)] (by decide) rfl (by decide) ⟨rfl, rfl⟩ (List.forall_mem_cons.mpr ⟨mj_KV (own := 7) (nest := false) t_M_refuse ⟨wc_X7_refuse, wi_X7, by decide, wl_7_41⟩ wn_X7_refuse ws_X7_refuse (c0 := 7) (by decide) rfl (by decide +kernel) rc_M_refuse (by decide), (List.forall_mem_cons.mpr ⟨mj_KV (own := 7) (nest := false) t_M_isSleeper ⟨wc_X7_isSleeper, wi_X7, by decide, wl_7_85⟩ wn_X7_isSleeper ws_X7_isSleeper (c0 := 7) (by decide) rfl (by decide +kernel) rc_M_isSleeper (by decide), (List.forall_mem_cons.mpr ⟨mj_KV (own := 7) (nest := false) t_M_depthOf ⟨wc_X7_depthOf, wi_X7, by decide, wl_7_114⟩ wn_X7_depthOf ws_X7_depthOf (c0 := 7) (by decide) rfl (by decide +kernel) rc_M_depthOf (by decide), (fun _ h => absurd h List.not_mem_nil)⟩)⟩)⟩) ?_
  intro avs M hlen hpre V hV
  obtain ⟨a, i, fm, n, rfl, hp⟩ := mc_riii hpre
  show V 0 [some (.inr a), some (.inl i), some (.inl fm), some (.inl n), none, none, none] [] M
  have b_0 := hV h_X7_moment_0; have b_12 := hV h_X7_moment_12; have b_21 := hV h_X7_moment_21; have b_26 := hV h_X7_moment_26; have b_41 := hV h_X7_moment_41; have b_46 := hV h_X7_moment_46; have b_47 := hV h_X7_moment_47; have b_61 := hV h_X7_moment_61; have b_69 := hV h_X7_moment_69; have b_98 := hV h_X7_moment_98; have b_104 := hV h_X7_moment_104
  clear hlen hpre hV
  obtain ⟨rfl, hS⟩ := hp
  have hR : dR (M 65) := hS.1
  have e0 : (0 : Int32).toInt = 0 := rfl
  have e1 : (1 : Int32).toInt = 1 := rfl
  have e30 : (30 : Int32).toInt = 30 := rfl
  have e300 : (300 : Int32).toInt = 300 := rfl
  have mn_rc : ∀ q : Int32, ¬ s_mn fm n = 0 → s_rc (s_mn fm n) := by
    intro _ h
    unfold s_mn at h ⊢
    split
    · exact rc4
    · rename_i q1
      rw [if_neg q1] at h
      split
      · exact rc4
      · rename_i q2
        rw [if_neg q2] at h
        split
        · exact rc6
        · rename_i q3
          rw [if_neg q3] at h
          split
          · exact rc6
          · rename_i q4
            rw [if_neg q4] at h
            exact absurd rfl h
  have h47 : ∀ no : Int32, no = s_ft (nB i (M 65 0)) (s_mn fm n) → V 47 [some (.inr 63), some (.inl i), some (.inl fm), some (.inl n), none, none, none] [.inl no] M := by
    intro no hno
    (refine b_47 _ _ _ ?_; simp only [k_X7_moment_0, k_X7_moment_12, k_X7_moment_21, k_X7_moment_26, k_X7_moment_41, k_X7_moment_46, k_X7_moment_47, k_X7_moment_61, k_X7_moment_69, k_X7_moment_98, k_X7_moment_104, xp_1, xp_2, xp_3, xp_4, xp_5, xp_6, xp_7, xp_10, xp_11, xp_12, xp_13, xp_14, xp_15, xp_16, xp_17, xp_18, xp_19, xp_20, xp_21, xp_22, xp_23, xp_30, xp_31, xp_32, xp_33, xp_34, xp_35, xp_36, xp_37, xp_38, xp_39, xp_40, xp_41, xp_42, xp_43, xp_50, xp_51, xp_52, xp_53, xp_60, xp_61, xp_62, xp_63, xp_64, xp_65, xp_70, xp_80, xp_81, xp_82, up_ne, up_s, ud_s, ud_o, xw_0, xw_1, xg_0, xg_1, xl_i, xl_r, xs_0, xs_1, xq_i, xq_r, xq_v, xc_0, xc_1, xt_0, xt_1, xr_0, xr_1, xr_2, xe_0, xe_1, ob_0, ob_18, ob_36, ob_54, ak_55, ln_55, cq_55, ak_56, ln_56, cq_56, ob_57, ak_58, ln_58, cq_58, ak_59, ln_59, cq_59, ob_60, ak_61, ln_61, cq_61, ak_62, ln_62, cq_62, ob_63, ak_64, ln_64, cq_64, ak_65, ln_65, cq_65, ak_66, ln_66, cq_66, ak_67, ln_67, cq_67, ak_68, ln_68, cq_68, ak_69, ln_69, cq_69, ak_70, ln_70, cq_70, ak_71, ln_71, cq_71, ak_72, ln_72, cq_72, ak_73, ln_73, cq_73, pt_54_0, pt_54_1, pt_57_0, pt_57_3, pt_60_0, pt_60_1, pt_60_2, pt_60_4, pt_60_5, pt_60_6, pt_60_8, pt_63_0, pt_63_1, pt_63_2, pt_63_3, pt_63_4, pt_63_6, pt_63_7, pt_63_10, pt_63_11, pt_63_17, true_and, and_true, List.length_cons, List.length_nil, Nat.reduceAdd, Nat.reduceLeDiff, forall_eq, ne_eq, Nat.reduceEqDiff, not_false_eq_true, or_false, false_or, or_true, true_or, reduceCtorEq, Nat.zero_le, Nat.reduceMul, Nat.add_zero, false_and, and_false, false_implies, true_implies, forall_const, implies_true, List.append_nil, List.nil_append, List.cons_append, mb_i, mb_ii, mb_iii, mb_r, mb_ri, mb_rii, mb_riii, mb_rr, mb_rri, mb_rrii, mb_rriii, mb_riiiii, mb_rrr, mb_rir, mb_iiii, mb_riiii, tn_0, tn_1, tn_2, tn_3, tn_4, tn_5, tn_6, tc_0, tc_1, tc_2, tc_3, tc_4, tc_5, tc_6, xf_0, xf_1, xf_2, Sum.inl.injEq, Sum.inr.injEq, C_M_depthOf, C_M_isSleeper, C_M_moment, C_M_refuse, nI_1])
    refine ⟨fun h => ?_, fun h => ⟨by rw [hno] at h ⊢; exact ft_rc (mn_rc 0) h, ?_⟩⟩
    · obtain ⟨hc, hmn⟩ := ft_ok (hno.symm.trans h)
      have hi := s_in_sl hc
      have hrg : 0 ≤ fm.toInt ∧ 1 ≤ n.toInt ∧ n.toInt ≤ 30 ∧ fm.toInt ≤ 300 - n.toInt := by
        unfold s_mn at hmn
        split at hmn
        · exact absurd hmn (by decide)
        · rename_i q1
          split at hmn
          · exact absurd hmn (by decide)
          · rename_i q2
            split at hmn
            · exact absurd hmn (by decide)
            · rename_i q3
              split at hmn
              · exact absurd hmn (by decide)
              · rename_i q4
                rw [ti_lt] at q1 q2 q3 q4
                rw [ti_sub (by omega) (by omega)] at q4
                omega
      obtain ⟨g1, g2, g3, g4⟩ := hrg
      have hn1 : (n - 1).toInt = n.toInt - 1 := by rw [ti_sub (by omega) (by omega), e1]
      have hadd : (fm + n).toInt = fm.toInt + n.toInt := ti_add (by omega) (by omega)
      have htn : (tn (n - 1) : Int) = n.toInt - 1 := by rw [tn_of (by omega), hn1]
      have hk : ∀ k : Nat, (k : Int) ≤ 31 → (fm + nI k).toInt = fm.toInt + k := fun k hk => by rw [ti_add (by rw [ti_nI (by omega)]; omega) (by rw [ti_nI (by omega)]; omega), ti_nI (by omega)]
      have loop : ∀ (f k : Nat), k + f = tn (n - 1) → V 69 [some (.inr 63), some (.inl i), some (.inl fm), some (.inl n), some (.inl no), some (.inl (s_mt (M 65) i fm k)), some (.inl (fm + nI (k + 1)))] [] M := by
        intro f
        induction f with
        | zero =>
          intro k hkf
          (refine b_69 _ _ _ ?_; simp only [k_X7_moment_0, k_X7_moment_12, k_X7_moment_21, k_X7_moment_26, k_X7_moment_41, k_X7_moment_46, k_X7_moment_47, k_X7_moment_61, k_X7_moment_69, k_X7_moment_98, k_X7_moment_104, xp_1, xp_2, xp_3, xp_4, xp_5, xp_6, xp_7, xp_10, xp_11, xp_12, xp_13, xp_14, xp_15, xp_16, xp_17, xp_18, xp_19, xp_20, xp_21, xp_22, xp_23, xp_30, xp_31, xp_32, xp_33, xp_34, xp_35, xp_36, xp_37, xp_38, xp_39, xp_40, xp_41, xp_42, xp_43, xp_50, xp_51, xp_52, xp_53, xp_60, xp_61, xp_62, xp_63, xp_64, xp_65, xp_70, xp_80, xp_81, xp_82, up_ne, up_s, ud_s, ud_o, xw_0, xw_1, xg_0, xg_1, xl_i, xl_r, xs_0, xs_1, xq_i, xq_r, xq_v, xc_0, xc_1, xt_0, xt_1, xr_0, xr_1, xr_2, xe_0, xe_1, ob_0, ob_18, ob_36, ob_54, ak_55, ln_55, cq_55, ak_56, ln_56, cq_56, ob_57, ak_58, ln_58, cq_58, ak_59, ln_59, cq_59, ob_60, ak_61, ln_61, cq_61, ak_62, ln_62, cq_62, ob_63, ak_64, ln_64, cq_64, ak_65, ln_65, cq_65, ak_66, ln_66, cq_66, ak_67, ln_67, cq_67, ak_68, ln_68, cq_68, ak_69, ln_69, cq_69, ak_70, ln_70, cq_70, ak_71, ln_71, cq_71, ak_72, ln_72, cq_72, ak_73, ln_73, cq_73, pt_54_0, pt_54_1, pt_57_0, pt_57_3, pt_60_0, pt_60_1, pt_60_2, pt_60_4, pt_60_5, pt_60_6, pt_60_8, pt_63_0, pt_63_1, pt_63_2, pt_63_3, pt_63_4, pt_63_6, pt_63_7, pt_63_10, pt_63_11, pt_63_17, true_and, and_true, List.length_cons, List.length_nil, Nat.reduceAdd, Nat.reduceLeDiff, forall_eq, ne_eq, Nat.reduceEqDiff, not_false_eq_true, or_false, false_or, or_true, true_or, reduceCtorEq, Nat.zero_le, Nat.reduceMul, Nat.add_zero, false_and, and_false, false_implies, true_implies, forall_const, implies_true, List.append_nil, List.nil_append, List.cons_append, mb_i, mb_ii, mb_iii, mb_r, mb_ri, mb_rii, mb_riii, mb_rr, mb_rri, mb_rrii, mb_rriii, mb_riiiii, mb_rrr, mb_rir, mb_iiii, mb_riiii, tn_0, tn_1, tn_2, tn_3, tn_4, tn_5, tn_6, tc_0, tc_1, tc_2, tc_3, tc_4, tc_5, tc_6, xf_0, xf_1, xf_2, Sum.inl.injEq, Sum.inr.injEq, C_M_depthOf, C_M_isSleeper, C_M_moment, C_M_refuse, nI_1])
          refine ⟨fun _ => ?_, fun hlt => absurd hlt (by rw [ti_lt, hk _ (by omega), hadd]; omega)⟩
          (refine b_104 _ _ _ ?_; simp only [k_X7_moment_0, k_X7_moment_12, k_X7_moment_21, k_X7_moment_26, k_X7_moment_41, k_X7_moment_46, k_X7_moment_47, k_X7_moment_61, k_X7_moment_69, k_X7_moment_98, k_X7_moment_104, xp_1, xp_2, xp_3, xp_4, xp_5, xp_6, xp_7, xp_10, xp_11, xp_12, xp_13, xp_14, xp_15, xp_16, xp_17, xp_18, xp_19, xp_20, xp_21, xp_22, xp_23, xp_30, xp_31, xp_32, xp_33, xp_34, xp_35, xp_36, xp_37, xp_38, xp_39, xp_40, xp_41, xp_42, xp_43, xp_50, xp_51, xp_52, xp_53, xp_60, xp_61, xp_62, xp_63, xp_64, xp_65, xp_70, xp_80, xp_81, xp_82, up_ne, up_s, ud_s, ud_o, xw_0, xw_1, xg_0, xg_1, xl_i, xl_r, xs_0, xs_1, xq_i, xq_r, xq_v, xc_0, xc_1, xt_0, xt_1, xr_0, xr_1, xr_2, xe_0, xe_1, ob_0, ob_18, ob_36, ob_54, ak_55, ln_55, cq_55, ak_56, ln_56, cq_56, ob_57, ak_58, ln_58, cq_58, ak_59, ln_59, cq_59, ob_60, ak_61, ln_61, cq_61, ak_62, ln_62, cq_62, ob_63, ak_64, ln_64, cq_64, ak_65, ln_65, cq_65, ak_66, ln_66, cq_66, ak_67, ln_67, cq_67, ak_68, ln_68, cq_68, ak_69, ln_69, cq_69, ak_70, ln_70, cq_70, ak_71, ln_71, cq_71, ak_72, ln_72, cq_72, ak_73, ln_73, cq_73, pt_54_0, pt_54_1, pt_57_0, pt_57_3, pt_60_0, pt_60_1, pt_60_2, pt_60_4, pt_60_5, pt_60_6, pt_60_8, pt_63_0, pt_63_1, pt_63_2, pt_63_3, pt_63_4, pt_63_6, pt_63_7, pt_63_10, pt_63_11, pt_63_17, true_and, and_true, List.length_cons, List.length_nil, Nat.reduceAdd, Nat.reduceLeDiff, forall_eq, ne_eq, Nat.reduceEqDiff, not_false_eq_true, or_false, false_or, or_true, true_or, reduceCtorEq, Nat.zero_le, Nat.reduceMul, Nat.add_zero, false_and, and_false, false_implies, true_implies, forall_const, implies_true, List.append_nil, List.nil_append, List.cons_append, mb_i, mb_ii, mb_iii, mb_r, mb_ri, mb_rii, mb_riii, mb_rr, mb_rri, mb_rrii, mb_rriii, mb_riiiii, mb_rrr, mb_rir, mb_iiii, mb_riiii, tn_0, tn_1, tn_2, tn_3, tn_4, tn_5, tn_6, tc_0, tc_1, tc_2, tc_3, tc_4, tc_5, tc_6, xf_0, xf_1, xf_2, Sum.inl.injEq, Sum.inr.injEq, C_M_depthOf, C_M_isSleeper, C_M_moment, C_M_refuse, nI_1])
          unfold F_moment
          rw [mS_0, ← hno]
          exact qF_ok h (by rw [show k = tn (n - 1) by omega]) rfl (fr1_r M)
        | succ f ih =>
          intro k hkf
          have h98 : ∀ x : Int32, x = s_mt (M 65) i fm (k + 1) → V 98 [some (.inr 63), some (.inl i), some (.inl fm), some (.inl n), some (.inl no), some (.inl x), some (.inl (fm + nI (k + 1)))] [] M := by
            intro x hx
            (refine b_98 _ _ _ ?_; simp only [k_X7_moment_0, k_X7_moment_12, k_X7_moment_21, k_X7_moment_26, k_X7_moment_41, k_X7_moment_46, k_X7_moment_47, k_X7_moment_61, k_X7_moment_69, k_X7_moment_98, k_X7_moment_104, xp_1, xp_2, xp_3, xp_4, xp_5, xp_6, xp_7, xp_10, xp_11, xp_12, xp_13, xp_14, xp_15, xp_16, xp_17, xp_18, xp_19, xp_20, xp_21, xp_22, xp_23, xp_30, xp_31, xp_32, xp_33, xp_34, xp_35, xp_36, xp_37, xp_38, xp_39, xp_40, xp_41, xp_42, xp_43, xp_50, xp_51, xp_52, xp_53, xp_60, xp_61, xp_62, xp_63, xp_64, xp_65, xp_70, xp_80, xp_81, xp_82, up_ne, up_s, ud_s, ud_o, xw_0, xw_1, xg_0, xg_1, xl_i, xl_r, xs_0, xs_1, xq_i, xq_r, xq_v, xc_0, xc_1, xt_0, xt_1, xr_0, xr_1, xr_2, xe_0, xe_1, ob_0, ob_18, ob_36, ob_54, ak_55, ln_55, cq_55, ak_56, ln_56, cq_56, ob_57, ak_58, ln_58, cq_58, ak_59, ln_59, cq_59, ob_60, ak_61, ln_61, cq_61, ak_62, ln_62, cq_62, ob_63, ak_64, ln_64, cq_64, ak_65, ln_65, cq_65, ak_66, ln_66, cq_66, ak_67, ln_67, cq_67, ak_68, ln_68, cq_68, ak_69, ln_69, cq_69, ak_70, ln_70, cq_70, ak_71, ln_71, cq_71, ak_72, ln_72, cq_72, ak_73, ln_73, cq_73, pt_54_0, pt_54_1, pt_57_0, pt_57_3, pt_60_0, pt_60_1, pt_60_2, pt_60_4, pt_60_5, pt_60_6, pt_60_8, pt_63_0, pt_63_1, pt_63_2, pt_63_3, pt_63_4, pt_63_6, pt_63_7, pt_63_10, pt_63_11, pt_63_17, true_and, and_true, List.length_cons, List.length_nil, Nat.reduceAdd, Nat.reduceLeDiff, forall_eq, ne_eq, Nat.reduceEqDiff, not_false_eq_true, or_false, false_or, or_true, true_or, reduceCtorEq, Nat.zero_le, Nat.reduceMul, Nat.add_zero, false_and, and_false, false_implies, true_implies, forall_const, implies_true, List.append_nil, List.nil_append, List.cons_append, mb_i, mb_ii, mb_iii, mb_r, mb_ri, mb_rii, mb_riii, mb_rr, mb_rri, mb_rrii, mb_rriii, mb_riiiii, mb_rrr, mb_rir, mb_iiii, mb_riiii, tn_0, tn_1, tn_2, tn_3, tn_4, tn_5, tn_6, tc_0, tc_1, tc_2, tc_3, tc_4, tc_5, tc_6, xf_0, xf_1, xf_2, Sum.inl.injEq, Sum.inr.injEq, C_M_depthOf, C_M_isSleeper, C_M_moment, C_M_refuse, nI_1])
            rw [hx, Int32.add_assoc, nI_1]
            exact ih (k + 1) (by omega)
          (refine b_69 _ _ _ ?_; simp only [k_X7_moment_0, k_X7_moment_12, k_X7_moment_21, k_X7_moment_26, k_X7_moment_41, k_X7_moment_46, k_X7_moment_47, k_X7_moment_61, k_X7_moment_69, k_X7_moment_98, k_X7_moment_104, xp_1, xp_2, xp_3, xp_4, xp_5, xp_6, xp_7, xp_10, xp_11, xp_12, xp_13, xp_14, xp_15, xp_16, xp_17, xp_18, xp_19, xp_20, xp_21, xp_22, xp_23, xp_30, xp_31, xp_32, xp_33, xp_34, xp_35, xp_36, xp_37, xp_38, xp_39, xp_40, xp_41, xp_42, xp_43, xp_50, xp_51, xp_52, xp_53, xp_60, xp_61, xp_62, xp_63, xp_64, xp_65, xp_70, xp_80, xp_81, xp_82, up_ne, up_s, ud_s, ud_o, xw_0, xw_1, xg_0, xg_1, xl_i, xl_r, xs_0, xs_1, xq_i, xq_r, xq_v, xc_0, xc_1, xt_0, xt_1, xr_0, xr_1, xr_2, xe_0, xe_1, ob_0, ob_18, ob_36, ob_54, ak_55, ln_55, cq_55, ak_56, ln_56, cq_56, ob_57, ak_58, ln_58, cq_58, ak_59, ln_59, cq_59, ob_60, ak_61, ln_61, cq_61, ak_62, ln_62, cq_62, ob_63, ak_64, ln_64, cq_64, ak_65, ln_65, cq_65, ak_66, ln_66, cq_66, ak_67, ln_67, cq_67, ak_68, ln_68, cq_68, ak_69, ln_69, cq_69, ak_70, ln_70, cq_70, ak_71, ln_71, cq_71, ak_72, ln_72, cq_72, ak_73, ln_73, cq_73, pt_54_0, pt_54_1, pt_57_0, pt_57_3, pt_60_0, pt_60_1, pt_60_2, pt_60_4, pt_60_5, pt_60_6, pt_60_8, pt_63_0, pt_63_1, pt_63_2, pt_63_3, pt_63_4, pt_63_6, pt_63_7, pt_63_10, pt_63_11, pt_63_17, true_and, and_true, List.length_cons, List.length_nil, Nat.reduceAdd, Nat.reduceLeDiff, forall_eq, ne_eq, Nat.reduceEqDiff, not_false_eq_true, or_false, false_or, or_true, true_or, reduceCtorEq, Nat.zero_le, Nat.reduceMul, Nat.add_zero, false_and, and_false, false_implies, true_implies, forall_const, implies_true, List.append_nil, List.nil_append, List.cons_append, mb_i, mb_ii, mb_iii, mb_r, mb_ri, mb_rii, mb_riii, mb_rr, mb_rri, mb_rrii, mb_rriii, mb_riiiii, mb_rrr, mb_rir, mb_iiii, mb_riiii, tn_0, tn_1, tn_2, tn_3, tn_4, tn_5, tn_6, tc_0, tc_1, tc_2, tc_3, tc_4, tc_5, tc_6, xf_0, xf_1, xf_2, Sum.inl.injEq, Sum.inr.injEq, C_M_depthOf, C_M_isSleeper, C_M_moment, C_M_refuse, nI_1])
          refine ⟨fun hge => absurd (by rw [ti_lt, hk _ (by omega), hadd]; omega) hge, fun _ => ⟨s_sl_nz hR hi, s_sl_nz hR hi, fun hge => h98 _ ?_, fun hlt => h98 _ ?_⟩⟩
          · show _ = if _ then _ else _
            rw [if_neg hge]
          · show _ = if _ then _ else _
            rw [if_pos hlt]
      (refine b_61 _ _ _ ?_; simp only [k_X7_moment_0, k_X7_moment_12, k_X7_moment_21, k_X7_moment_26, k_X7_moment_41, k_X7_moment_46, k_X7_moment_47, k_X7_moment_61, k_X7_moment_69, k_X7_moment_98, k_X7_moment_104, xp_1, xp_2, xp_3, xp_4, xp_5, xp_6, xp_7, xp_10, xp_11, xp_12, xp_13, xp_14, xp_15, xp_16, xp_17, xp_18, xp_19, xp_20, xp_21, xp_22, xp_23, xp_30, xp_31, xp_32, xp_33, xp_34, xp_35, xp_36, xp_37, xp_38, xp_39, xp_40, xp_41, xp_42, xp_43, xp_50, xp_51, xp_52, xp_53, xp_60, xp_61, xp_62, xp_63, xp_64, xp_65, xp_70, xp_80, xp_81, xp_82, up_ne, up_s, ud_s, ud_o, xw_0, xw_1, xg_0, xg_1, xl_i, xl_r, xs_0, xs_1, xq_i, xq_r, xq_v, xc_0, xc_1, xt_0, xt_1, xr_0, xr_1, xr_2, xe_0, xe_1, ob_0, ob_18, ob_36, ob_54, ak_55, ln_55, cq_55, ak_56, ln_56, cq_56, ob_57, ak_58, ln_58, cq_58, ak_59, ln_59, cq_59, ob_60, ak_61, ln_61, cq_61, ak_62, ln_62, cq_62, ob_63, ak_64, ln_64, cq_64, ak_65, ln_65, cq_65, ak_66, ln_66, cq_66, ak_67, ln_67, cq_67, ak_68, ln_68, cq_68, ak_69, ln_69, cq_69, ak_70, ln_70, cq_70, ak_71, ln_71, cq_71, ak_72, ln_72, cq_72, ak_73, ln_73, cq_73, pt_54_0, pt_54_1, pt_57_0, pt_57_3, pt_60_0, pt_60_1, pt_60_2, pt_60_4, pt_60_5, pt_60_6, pt_60_8, pt_63_0, pt_63_1, pt_63_2, pt_63_3, pt_63_4, pt_63_6, pt_63_7, pt_63_10, pt_63_11, pt_63_17, true_and, and_true, List.length_cons, List.length_nil, Nat.reduceAdd, Nat.reduceLeDiff, forall_eq, ne_eq, Nat.reduceEqDiff, not_false_eq_true, or_false, false_or, or_true, true_or, reduceCtorEq, Nat.zero_le, Nat.reduceMul, Nat.add_zero, false_and, and_false, false_implies, true_implies, forall_const, implies_true, List.append_nil, List.nil_append, List.cons_append, mb_i, mb_ii, mb_iii, mb_r, mb_ri, mb_rii, mb_riii, mb_rr, mb_rri, mb_rrii, mb_rriii, mb_riiiii, mb_rrr, mb_rir, mb_iiii, mb_riiii, tn_0, tn_1, tn_2, tn_3, tn_4, tn_5, tn_6, tc_0, tc_1, tc_2, tc_3, tc_4, tc_5, tc_6, xf_0, xf_1, xf_2, Sum.inl.injEq, Sum.inr.injEq, C_M_depthOf, C_M_isSleeper, C_M_moment, C_M_refuse, nI_1])
      have hl := loop (tn (n - 1)) 0 (by omega)
      exact hl
    · unfold F_moment
      rw [mS_0, ← hno]
      exact qF_no h
  have h46 : ¬ s_in i (M 65 0) = 0 → s_mn fm n = 0 → V 46 [some (.inr 63), some (.inl i), some (.inl fm), some (.inl n), none, none, none] [] M := by
    intro h1 h2
    (refine b_46 _ _ _ ?_; simp only [k_X7_moment_0, k_X7_moment_12, k_X7_moment_21, k_X7_moment_26, k_X7_moment_41, k_X7_moment_46, k_X7_moment_47, k_X7_moment_61, k_X7_moment_69, k_X7_moment_98, k_X7_moment_104, xp_1, xp_2, xp_3, xp_4, xp_5, xp_6, xp_7, xp_10, xp_11, xp_12, xp_13, xp_14, xp_15, xp_16, xp_17, xp_18, xp_19, xp_20, xp_21, xp_22, xp_23, xp_30, xp_31, xp_32, xp_33, xp_34, xp_35, xp_36, xp_37, xp_38, xp_39, xp_40, xp_41, xp_42, xp_43, xp_50, xp_51, xp_52, xp_53, xp_60, xp_61, xp_62, xp_63, xp_64, xp_65, xp_70, xp_80, xp_81, xp_82, up_ne, up_s, ud_s, ud_o, xw_0, xw_1, xg_0, xg_1, xl_i, xl_r, xs_0, xs_1, xq_i, xq_r, xq_v, xc_0, xc_1, xt_0, xt_1, xr_0, xr_1, xr_2, xe_0, xe_1, ob_0, ob_18, ob_36, ob_54, ak_55, ln_55, cq_55, ak_56, ln_56, cq_56, ob_57, ak_58, ln_58, cq_58, ak_59, ln_59, cq_59, ob_60, ak_61, ln_61, cq_61, ak_62, ln_62, cq_62, ob_63, ak_64, ln_64, cq_64, ak_65, ln_65, cq_65, ak_66, ln_66, cq_66, ak_67, ln_67, cq_67, ak_68, ln_68, cq_68, ak_69, ln_69, cq_69, ak_70, ln_70, cq_70, ak_71, ln_71, cq_71, ak_72, ln_72, cq_72, ak_73, ln_73, cq_73, pt_54_0, pt_54_1, pt_57_0, pt_57_3, pt_60_0, pt_60_1, pt_60_2, pt_60_4, pt_60_5, pt_60_6, pt_60_8, pt_63_0, pt_63_1, pt_63_2, pt_63_3, pt_63_4, pt_63_6, pt_63_7, pt_63_10, pt_63_11, pt_63_17, true_and, and_true, List.length_cons, List.length_nil, Nat.reduceAdd, Nat.reduceLeDiff, forall_eq, ne_eq, Nat.reduceEqDiff, not_false_eq_true, or_false, false_or, or_true, true_or, reduceCtorEq, Nat.zero_le, Nat.reduceMul, Nat.add_zero, false_and, and_false, false_implies, true_implies, forall_const, implies_true, List.append_nil, List.nil_append, List.cons_append, mb_i, mb_ii, mb_iii, mb_r, mb_ri, mb_rii, mb_riii, mb_rr, mb_rri, mb_rrii, mb_rriii, mb_riiiii, mb_rrr, mb_rir, mb_iiii, mb_riiii, tn_0, tn_1, tn_2, tn_3, tn_4, tn_5, tn_6, tc_0, tc_1, tc_2, tc_3, tc_4, tc_5, tc_6, xf_0, xf_1, xf_2, Sum.inl.injEq, Sum.inr.injEq, C_M_depthOf, C_M_isSleeper, C_M_moment, C_M_refuse, nI_1])
    exact h47 _ (by rw [ft_1 h1, h2])
  have h41 : ¬ s_in i (M 65 0) = 0 → s_mn fm n = -6 → V 41 [some (.inr 63), some (.inl i), some (.inl fm), some (.inl n), none, none, none] [] M := by
    intro h1 h2
    (refine b_41 _ _ _ ?_; simp only [k_X7_moment_0, k_X7_moment_12, k_X7_moment_21, k_X7_moment_26, k_X7_moment_41, k_X7_moment_46, k_X7_moment_47, k_X7_moment_61, k_X7_moment_69, k_X7_moment_98, k_X7_moment_104, xp_1, xp_2, xp_3, xp_4, xp_5, xp_6, xp_7, xp_10, xp_11, xp_12, xp_13, xp_14, xp_15, xp_16, xp_17, xp_18, xp_19, xp_20, xp_21, xp_22, xp_23, xp_30, xp_31, xp_32, xp_33, xp_34, xp_35, xp_36, xp_37, xp_38, xp_39, xp_40, xp_41, xp_42, xp_43, xp_50, xp_51, xp_52, xp_53, xp_60, xp_61, xp_62, xp_63, xp_64, xp_65, xp_70, xp_80, xp_81, xp_82, up_ne, up_s, ud_s, ud_o, xw_0, xw_1, xg_0, xg_1, xl_i, xl_r, xs_0, xs_1, xq_i, xq_r, xq_v, xc_0, xc_1, xt_0, xt_1, xr_0, xr_1, xr_2, xe_0, xe_1, ob_0, ob_18, ob_36, ob_54, ak_55, ln_55, cq_55, ak_56, ln_56, cq_56, ob_57, ak_58, ln_58, cq_58, ak_59, ln_59, cq_59, ob_60, ak_61, ln_61, cq_61, ak_62, ln_62, cq_62, ob_63, ak_64, ln_64, cq_64, ak_65, ln_65, cq_65, ak_66, ln_66, cq_66, ak_67, ln_67, cq_67, ak_68, ln_68, cq_68, ak_69, ln_69, cq_69, ak_70, ln_70, cq_70, ak_71, ln_71, cq_71, ak_72, ln_72, cq_72, ak_73, ln_73, cq_73, pt_54_0, pt_54_1, pt_57_0, pt_57_3, pt_60_0, pt_60_1, pt_60_2, pt_60_4, pt_60_5, pt_60_6, pt_60_8, pt_63_0, pt_63_1, pt_63_2, pt_63_3, pt_63_4, pt_63_6, pt_63_7, pt_63_10, pt_63_11, pt_63_17, true_and, and_true, List.length_cons, List.length_nil, Nat.reduceAdd, Nat.reduceLeDiff, forall_eq, ne_eq, Nat.reduceEqDiff, not_false_eq_true, or_false, false_or, or_true, true_or, reduceCtorEq, Nat.zero_le, Nat.reduceMul, Nat.add_zero, false_and, and_false, false_implies, true_implies, forall_const, implies_true, List.append_nil, List.nil_append, List.cons_append, mb_i, mb_ii, mb_iii, mb_r, mb_ri, mb_rii, mb_riii, mb_rr, mb_rri, mb_rrii, mb_rriii, mb_riiiii, mb_rrr, mb_rir, mb_iiii, mb_riiii, tn_0, tn_1, tn_2, tn_3, tn_4, tn_5, tn_6, tc_0, tc_1, tc_2, tc_3, tc_4, tc_5, tc_6, xf_0, xf_1, xf_2, Sum.inl.injEq, Sum.inr.injEq, C_M_depthOf, C_M_isSleeper, C_M_moment, C_M_refuse, nI_1])
    exact h47 _ (by rw [ft_1 h1, h2])
  have h21 : ¬ s_in i (M 65 0) = 0 → s_mn fm n = -4 → V 21 [some (.inr 63), some (.inl i), some (.inl fm), some (.inl n), none, none, none] [] M := by
    intro h1 h2
    (refine b_21 _ _ _ ?_; simp only [k_X7_moment_0, k_X7_moment_12, k_X7_moment_21, k_X7_moment_26, k_X7_moment_41, k_X7_moment_46, k_X7_moment_47, k_X7_moment_61, k_X7_moment_69, k_X7_moment_98, k_X7_moment_104, xp_1, xp_2, xp_3, xp_4, xp_5, xp_6, xp_7, xp_10, xp_11, xp_12, xp_13, xp_14, xp_15, xp_16, xp_17, xp_18, xp_19, xp_20, xp_21, xp_22, xp_23, xp_30, xp_31, xp_32, xp_33, xp_34, xp_35, xp_36, xp_37, xp_38, xp_39, xp_40, xp_41, xp_42, xp_43, xp_50, xp_51, xp_52, xp_53, xp_60, xp_61, xp_62, xp_63, xp_64, xp_65, xp_70, xp_80, xp_81, xp_82, up_ne, up_s, ud_s, ud_o, xw_0, xw_1, xg_0, xg_1, xl_i, xl_r, xs_0, xs_1, xq_i, xq_r, xq_v, xc_0, xc_1, xt_0, xt_1, xr_0, xr_1, xr_2, xe_0, xe_1, ob_0, ob_18, ob_36, ob_54, ak_55, ln_55, cq_55, ak_56, ln_56, cq_56, ob_57, ak_58, ln_58, cq_58, ak_59, ln_59, cq_59, ob_60, ak_61, ln_61, cq_61, ak_62, ln_62, cq_62, ob_63, ak_64, ln_64, cq_64, ak_65, ln_65, cq_65, ak_66, ln_66, cq_66, ak_67, ln_67, cq_67, ak_68, ln_68, cq_68, ak_69, ln_69, cq_69, ak_70, ln_70, cq_70, ak_71, ln_71, cq_71, ak_72, ln_72, cq_72, ak_73, ln_73, cq_73, pt_54_0, pt_54_1, pt_57_0, pt_57_3, pt_60_0, pt_60_1, pt_60_2, pt_60_4, pt_60_5, pt_60_6, pt_60_8, pt_63_0, pt_63_1, pt_63_2, pt_63_3, pt_63_4, pt_63_6, pt_63_7, pt_63_10, pt_63_11, pt_63_17, true_and, and_true, List.length_cons, List.length_nil, Nat.reduceAdd, Nat.reduceLeDiff, forall_eq, ne_eq, Nat.reduceEqDiff, not_false_eq_true, or_false, false_or, or_true, true_or, reduceCtorEq, Nat.zero_le, Nat.reduceMul, Nat.add_zero, false_and, and_false, false_implies, true_implies, forall_const, implies_true, List.append_nil, List.nil_append, List.cons_append, mb_i, mb_ii, mb_iii, mb_r, mb_ri, mb_rii, mb_riii, mb_rr, mb_rri, mb_rrii, mb_rriii, mb_riiiii, mb_rrr, mb_rir, mb_iiii, mb_riiii, tn_0, tn_1, tn_2, tn_3, tn_4, tn_5, tn_6, tc_0, tc_1, tc_2, tc_3, tc_4, tc_5, tc_6, xf_0, xf_1, xf_2, Sum.inl.injEq, Sum.inr.injEq, C_M_depthOf, C_M_isSleeper, C_M_moment, C_M_refuse, nI_1])
    exact h47 _ (by rw [ft_1 h1, h2])
  (refine b_0 _ _ _ ?_; simp only [k_X7_moment_0, k_X7_moment_12, k_X7_moment_21, k_X7_moment_26, k_X7_moment_41, k_X7_moment_46, k_X7_moment_47, k_X7_moment_61, k_X7_moment_69, k_X7_moment_98, k_X7_moment_104, xp_1, xp_2, xp_3, xp_4, xp_5, xp_6, xp_7, xp_10, xp_11, xp_12, xp_13, xp_14, xp_15, xp_16, xp_17, xp_18, xp_19, xp_20, xp_21, xp_22, xp_23, xp_30, xp_31, xp_32, xp_33, xp_34, xp_35, xp_36, xp_37, xp_38, xp_39, xp_40, xp_41, xp_42, xp_43, xp_50, xp_51, xp_52, xp_53, xp_60, xp_61, xp_62, xp_63, xp_64, xp_65, xp_70, xp_80, xp_81, xp_82, up_ne, up_s, ud_s, ud_o, xw_0, xw_1, xg_0, xg_1, xl_i, xl_r, xs_0, xs_1, xq_i, xq_r, xq_v, xc_0, xc_1, xt_0, xt_1, xr_0, xr_1, xr_2, xe_0, xe_1, ob_0, ob_18, ob_36, ob_54, ak_55, ln_55, cq_55, ak_56, ln_56, cq_56, ob_57, ak_58, ln_58, cq_58, ak_59, ln_59, cq_59, ob_60, ak_61, ln_61, cq_61, ak_62, ln_62, cq_62, ob_63, ak_64, ln_64, cq_64, ak_65, ln_65, cq_65, ak_66, ln_66, cq_66, ak_67, ln_67, cq_67, ak_68, ln_68, cq_68, ak_69, ln_69, cq_69, ak_70, ln_70, cq_70, ak_71, ln_71, cq_71, ak_72, ln_72, cq_72, ak_73, ln_73, cq_73, pt_54_0, pt_54_1, pt_57_0, pt_57_3, pt_60_0, pt_60_1, pt_60_2, pt_60_4, pt_60_5, pt_60_6, pt_60_8, pt_63_0, pt_63_1, pt_63_2, pt_63_3, pt_63_4, pt_63_6, pt_63_7, pt_63_10, pt_63_11, pt_63_17, true_and, and_true, List.length_cons, List.length_nil, Nat.reduceAdd, Nat.reduceLeDiff, forall_eq, ne_eq, Nat.reduceEqDiff, not_false_eq_true, or_false, false_or, or_true, true_or, reduceCtorEq, Nat.zero_le, Nat.reduceMul, Nat.add_zero, false_and, and_false, false_implies, true_implies, forall_const, implies_true, List.append_nil, List.nil_append, List.cons_append, mb_i, mb_ii, mb_iii, mb_r, mb_ri, mb_rii, mb_riii, mb_rr, mb_rri, mb_rrii, mb_rriii, mb_riiiii, mb_rrr, mb_rir, mb_iiii, mb_riiii, tn_0, tn_1, tn_2, tn_3, tn_4, tn_5, tn_6, tc_0, tc_1, tc_2, tc_3, tc_4, tc_5, tc_6, xf_0, xf_1, xf_2, Sum.inl.injEq, Sum.inr.injEq, C_M_depthOf, C_M_isSleeper, C_M_moment, C_M_refuse, nI_1])
  refine ⟨fun h => ?_, fun h => h47 _ (ft_0 h).symm⟩
  (refine b_12 _ _ _ ?_; simp only [k_X7_moment_0, k_X7_moment_12, k_X7_moment_21, k_X7_moment_26, k_X7_moment_41, k_X7_moment_46, k_X7_moment_47, k_X7_moment_61, k_X7_moment_69, k_X7_moment_98, k_X7_moment_104, xp_1, xp_2, xp_3, xp_4, xp_5, xp_6, xp_7, xp_10, xp_11, xp_12, xp_13, xp_14, xp_15, xp_16, xp_17, xp_18, xp_19, xp_20, xp_21, xp_22, xp_23, xp_30, xp_31, xp_32, xp_33, xp_34, xp_35, xp_36, xp_37, xp_38, xp_39, xp_40, xp_41, xp_42, xp_43, xp_50, xp_51, xp_52, xp_53, xp_60, xp_61, xp_62, xp_63, xp_64, xp_65, xp_70, xp_80, xp_81, xp_82, up_ne, up_s, ud_s, ud_o, xw_0, xw_1, xg_0, xg_1, xl_i, xl_r, xs_0, xs_1, xq_i, xq_r, xq_v, xc_0, xc_1, xt_0, xt_1, xr_0, xr_1, xr_2, xe_0, xe_1, ob_0, ob_18, ob_36, ob_54, ak_55, ln_55, cq_55, ak_56, ln_56, cq_56, ob_57, ak_58, ln_58, cq_58, ak_59, ln_59, cq_59, ob_60, ak_61, ln_61, cq_61, ak_62, ln_62, cq_62, ob_63, ak_64, ln_64, cq_64, ak_65, ln_65, cq_65, ak_66, ln_66, cq_66, ak_67, ln_67, cq_67, ak_68, ln_68, cq_68, ak_69, ln_69, cq_69, ak_70, ln_70, cq_70, ak_71, ln_71, cq_71, ak_72, ln_72, cq_72, ak_73, ln_73, cq_73, pt_54_0, pt_54_1, pt_57_0, pt_57_3, pt_60_0, pt_60_1, pt_60_2, pt_60_4, pt_60_5, pt_60_6, pt_60_8, pt_63_0, pt_63_1, pt_63_2, pt_63_3, pt_63_4, pt_63_6, pt_63_7, pt_63_10, pt_63_11, pt_63_17, true_and, and_true, List.length_cons, List.length_nil, Nat.reduceAdd, Nat.reduceLeDiff, forall_eq, ne_eq, Nat.reduceEqDiff, not_false_eq_true, or_false, false_or, or_true, true_or, reduceCtorEq, Nat.zero_le, Nat.reduceMul, Nat.add_zero, false_and, and_false, false_implies, true_implies, forall_const, implies_true, List.append_nil, List.nil_append, List.cons_append, mb_i, mb_ii, mb_iii, mb_r, mb_ri, mb_rii, mb_riii, mb_rr, mb_rri, mb_rrii, mb_rriii, mb_riiiii, mb_rrr, mb_rir, mb_iiii, mb_riiii, tn_0, tn_1, tn_2, tn_3, tn_4, tn_5, tn_6, tc_0, tc_1, tc_2, tc_3, tc_4, tc_5, tc_6, xf_0, xf_1, xf_2, Sum.inl.injEq, Sum.inr.injEq, C_M_depthOf, C_M_isSleeper, C_M_moment, C_M_refuse, nI_1])
  refine ⟨fun q1 => h21 h (by unfold s_mn; rw [if_pos q1]), fun q1 => ⟨fun q2 => ?_, fun q2 => h21 h (by unfold s_mn; rw [if_neg q1, if_pos q2])⟩⟩
  (refine b_26 _ _ _ ?_; simp only [k_X7_moment_0, k_X7_moment_12, k_X7_moment_21, k_X7_moment_26, k_X7_moment_41, k_X7_moment_46, k_X7_moment_47, k_X7_moment_61, k_X7_moment_69, k_X7_moment_98, k_X7_moment_104, xp_1, xp_2, xp_3, xp_4, xp_5, xp_6, xp_7, xp_10, xp_11, xp_12, xp_13, xp_14, xp_15, xp_16, xp_17, xp_18, xp_19, xp_20, xp_21, xp_22, xp_23, xp_30, xp_31, xp_32, xp_33, xp_34, xp_35, xp_36, xp_37, xp_38, xp_39, xp_40, xp_41, xp_42, xp_43, xp_50, xp_51, xp_52, xp_53, xp_60, xp_61, xp_62, xp_63, xp_64, xp_65, xp_70, xp_80, xp_81, xp_82, up_ne, up_s, ud_s, ud_o, xw_0, xw_1, xg_0, xg_1, xl_i, xl_r, xs_0, xs_1, xq_i, xq_r, xq_v, xc_0, xc_1, xt_0, xt_1, xr_0, xr_1, xr_2, xe_0, xe_1, ob_0, ob_18, ob_36, ob_54, ak_55, ln_55, cq_55, ak_56, ln_56, cq_56, ob_57, ak_58, ln_58, cq_58, ak_59, ln_59, cq_59, ob_60, ak_61, ln_61, cq_61, ak_62, ln_62, cq_62, ob_63, ak_64, ln_64, cq_64, ak_65, ln_65, cq_65, ak_66, ln_66, cq_66, ak_67, ln_67, cq_67, ak_68, ln_68, cq_68, ak_69, ln_69, cq_69, ak_70, ln_70, cq_70, ak_71, ln_71, cq_71, ak_72, ln_72, cq_72, ak_73, ln_73, cq_73, pt_54_0, pt_54_1, pt_57_0, pt_57_3, pt_60_0, pt_60_1, pt_60_2, pt_60_4, pt_60_5, pt_60_6, pt_60_8, pt_63_0, pt_63_1, pt_63_2, pt_63_3, pt_63_4, pt_63_6, pt_63_7, pt_63_10, pt_63_11, pt_63_17, true_and, and_true, List.length_cons, List.length_nil, Nat.reduceAdd, Nat.reduceLeDiff, forall_eq, ne_eq, Nat.reduceEqDiff, not_false_eq_true, or_false, false_or, or_true, true_or, reduceCtorEq, Nat.zero_le, Nat.reduceMul, Nat.add_zero, false_and, and_false, false_implies, true_implies, forall_const, implies_true, List.append_nil, List.nil_append, List.cons_append, mb_i, mb_ii, mb_iii, mb_r, mb_ri, mb_rii, mb_riii, mb_rr, mb_rri, mb_rrii, mb_rriii, mb_riiiii, mb_rrr, mb_rir, mb_iiii, mb_riiii, tn_0, tn_1, tn_2, tn_3, tn_4, tn_5, tn_6, tc_0, tc_1, tc_2, tc_3, tc_4, tc_5, tc_6, xf_0, xf_1, xf_2, Sum.inl.injEq, Sum.inr.injEq, C_M_depthOf, C_M_isSleeper, C_M_moment, C_M_refuse, nI_1])
  refine ⟨fun q3 => h41 h (by unfold s_mn; rw [if_neg q1, if_neg q2, if_pos q3]), fun q3 => ⟨fun q4 => h46 h (by unfold s_mn; rw [if_neg q1, if_neg q2, if_neg q3, if_neg q4]), fun q4 => h41 h (by unfold s_mn; rw [if_neg q1, if_neg q2, if_neg q3, if_pos q4])⟩⟩
end
