-- ===== PART A: goes FIRST, ahead of the names: the tables' words, and 'selects' of the private methods out of them =====
/-- a private method of a class that the tables say can be made, by its rows of tables_1 -/
def lw_okq (q : MethodName × Nat) : Prop := (q.1.cls ≠ "java/lang/invoke/MethodHandle" ∧ q.1.cls ≠ "java/lang/invoke/VarHandle") ∧ Cond.instantiable q.1.cls q.2 ∈ tables_1 ∧ Cond.privateMethod q.1 ∈ tables_1 ∧ Cond.instanceMethod q.1 ∈ tables_1
theorem lw_p0 : lw_okq (⟨"BellTowns$History", "placeOf", "(I)I"⟩, 3) := ⟨⟨by decide +kernel, by decide +kernel⟩, List.mem_of_getElem? (i := 99) (by decide +kernel), List.mem_of_getElem? (i := 196) (by decide +kernel), List.mem_of_getElem? (i := 197) (by decide +kernel)⟩
theorem lw_p1 : lw_okq (⟨"BellTowns$Valley", "fillSlot", "(IIII)V"⟩, 17) := ⟨⟨by decide +kernel, by decide +kernel⟩, List.mem_of_getElem? (i := 18) (by decide +kernel), List.mem_of_getElem? (i := 220) (by decide +kernel), List.mem_of_getElem? (i := 221) (by decide +kernel)⟩
theorem lw_p2 : lw_okq (⟨"BellTowns", "planError", "(II)I"⟩, 7) := ⟨⟨by decide +kernel, by decide +kernel⟩, List.mem_of_getElem? (i := 10) (by decide +kernel), List.mem_of_getElem? (i := 253) (by decide +kernel), List.mem_of_getElem? (i := 254) (by decide +kernel)⟩
theorem lw_p3 : lw_okq (⟨"BellTowns", "changePlan", "(II)I"⟩, 7) := ⟨⟨by decide +kernel, by decide +kernel⟩, List.mem_of_getElem? (i := 10) (by decide +kernel), List.mem_of_getElem? (i := 261) (by decide +kernel), List.mem_of_getElem? (i := 262) (by decide +kernel)⟩
theorem lw_p4 : lw_okq (⟨"BellTowns", "spliceError", "(II)I"⟩, 7) := ⟨⟨by decide +kernel, by decide +kernel⟩, List.mem_of_getElem? (i := 10) (by decide +kernel), List.mem_of_getElem? (i := 269) (by decide +kernel), List.mem_of_getElem? (i := 270) (by decide +kernel)⟩
theorem lw_p5 : lw_okq (⟨"BellTowns", "mendRope", "(II)I"⟩, 7) := ⟨⟨by decide +kernel, by decide +kernel⟩, List.mem_of_getElem? (i := 10) (by decide +kernel), List.mem_of_getElem? (i := 277) (by decide +kernel), List.mem_of_getElem? (i := 278) (by decide +kernel)⟩
theorem lw_p6 : lw_okq (⟨"BellTowns", "makeTurns", "(LBellTowns$Valley;I)V"⟩, 7) := ⟨⟨by decide +kernel, by decide +kernel⟩, List.mem_of_getElem? (i := 10) (by decide +kernel), List.mem_of_getElem? (i := 299) (by decide +kernel), List.mem_of_getElem? (i := 300) (by decide +kernel)⟩
theorem lw_p7 : lw_okq (⟨"BellTowns$Ringing", "ringIn", "(LBellTowns$Valley;I)V"⟩, 5) := ⟨⟨by decide +kernel, by decide +kernel⟩, List.mem_of_getElem? (i := 119) (by decide +kernel), List.mem_of_getElem? (i := 307) (by decide +kernel), List.mem_of_getElem? (i := 308) (by decide +kernel)⟩
theorem lw_p8 : lw_okq (⟨"BellTowns$Ringing", "winnerIn", "(LBellTowns$Valley;I)I"⟩, 5) := ⟨⟨by decide +kernel, by decide +kernel⟩, List.mem_of_getElem? (i := 119) (by decide +kernel), List.mem_of_getElem? (i := 321) (by decide +kernel), List.mem_of_getElem? (i := 322) (by decide +kernel)⟩
theorem lw_p9 : lw_okq (⟨"BellTowns$Valley", "givePoints", "(LBellTowns$Ringing;)V"⟩, 17) := ⟨⟨by decide +kernel, by decide +kernel⟩, List.mem_of_getElem? (i := 18) (by decide +kernel), List.mem_of_getElem? (i := 339) (by decide +kernel), List.mem_of_getElem? (i := 340) (by decide +kernel)⟩
theorem lw_p10 : lw_okq (⟨"BellTowns$Valley", "wearRopes", "(LBellTowns$Ringing;)V"⟩, 17) := ⟨⟨by decide +kernel, by decide +kernel⟩, List.mem_of_getElem? (i := 18) (by decide +kernel), List.mem_of_getElem? (i := 343) (by decide +kernel), List.mem_of_getElem? (i := 344) (by decide +kernel)⟩
theorem lw_p11 : lw_okq (⟨"BellTowns$Valley", "tireRingers", "(LBellTowns$Ringing;)V"⟩, 17) := ⟨⟨by decide +kernel, by decide +kernel⟩, List.mem_of_getElem? (i := 18) (by decide +kernel), List.mem_of_getElem? (i := 347) (by decide +kernel), List.mem_of_getElem? (i := 348) (by decide +kernel)⟩
theorem lw_p12 : lw_okq (⟨"BellTowns$Valley", "fallSilent", "(I)V"⟩, 17) := ⟨⟨by decide +kernel, by decide +kernel⟩, List.mem_of_getElem? (i := 18) (by decide +kernel), List.mem_of_getElem? (i := 351) (by decide +kernel), List.mem_of_getElem? (i := 352) (by decide +kernel)⟩
theorem lw_p13 : lw_okq (⟨"BellTowns", "carryOut", "(I)Z"⟩, 7) := ⟨⟨by decide +kernel, by decide +kernel⟩, List.mem_of_getElem? (i := 10) (by decide +kernel), List.mem_of_getElem? (i := 399) (by decide +kernel), List.mem_of_getElem? (i := 400) (by decide +kernel)⟩
theorem lw_p14 : lw_okq (⟨"BellTowns", "pointsWithPlan", "(II)I"⟩, 7) := ⟨⟨by decide +kernel, by decide +kernel⟩, List.mem_of_getElem? (i := 10) (by decide +kernel), List.mem_of_getElem? (i := 476) (by decide +kernel), List.mem_of_getElem? (i := 477) (by decide +kernel)⟩
theorem lw_p15 : lw_okq (⟨"BellTownsModel", "put", "(III)V"⟩, 14) := ⟨⟨by decide +kernel, by decide +kernel⟩, List.mem_of_getElem? (i := 496) (by decide +kernel), List.mem_of_getElem? (i := 502) (by decide +kernel), List.mem_of_getElem? (i := 503) (by decide +kernel)⟩
def lw_privs_1 : List (MethodName × Nat) := [(⟨"BellTowns$History", "placeOf", "(I)I"⟩, 3), (⟨"BellTowns$Valley", "fillSlot", "(IIII)V"⟩, 17), (⟨"BellTowns", "planError", "(II)I"⟩, 7), (⟨"BellTowns", "changePlan", "(II)I"⟩, 7), (⟨"BellTowns", "spliceError", "(II)I"⟩, 7), (⟨"BellTowns", "mendRope", "(II)I"⟩, 7), (⟨"BellTowns", "makeTurns", "(LBellTowns$Valley;I)V"⟩, 7), (⟨"BellTowns$Ringing", "ringIn", "(LBellTowns$Valley;I)V"⟩, 5), (⟨"BellTowns$Ringing", "winnerIn", "(LBellTowns$Valley;I)I"⟩, 5), (⟨"BellTowns$Valley", "givePoints", "(LBellTowns$Ringing;)V"⟩, 17), (⟨"BellTowns$Valley", "wearRopes", "(LBellTowns$Ringing;)V"⟩, 17), (⟨"BellTowns$Valley", "tireRingers", "(LBellTowns$Ringing;)V"⟩, 17), (⟨"BellTowns$Valley", "fallSilent", "(I)V"⟩, 17), (⟨"BellTowns", "carryOut", "(I)Z"⟩, 7), (⟨"BellTowns", "pointsWithPlan", "(II)I"⟩, 7), (⟨"BellTownsModel", "put", "(III)V"⟩, 14)]
theorem lw_r1 : ∀ q ∈ lw_privs_1, lw_okq q := List.forall_mem_cons.mpr ⟨lw_p0, List.forall_mem_cons.mpr ⟨lw_p1, List.forall_mem_cons.mpr ⟨lw_p2, List.forall_mem_cons.mpr ⟨lw_p3, List.forall_mem_cons.mpr ⟨lw_p4, List.forall_mem_cons.mpr ⟨lw_p5, List.forall_mem_cons.mpr ⟨lw_p6, List.forall_mem_cons.mpr ⟨lw_p7, List.forall_mem_cons.mpr ⟨lw_p8, List.forall_mem_cons.mpr ⟨lw_p9, List.forall_mem_cons.mpr ⟨lw_p10, List.forall_mem_cons.mpr ⟨lw_p11, List.forall_mem_cons.mpr ⟨lw_p12, List.forall_mem_cons.mpr ⟨lw_p13, List.forall_mem_cons.mpr ⟨lw_p14, List.forall_mem_cons.mpr ⟨lw_p15, fun _ h => absurd h List.not_mem_nil⟩⟩⟩⟩⟩⟩⟩⟩⟩⟩⟩⟩⟩⟩⟩⟩
theorem lw_p16 : lw_okq (⟨"BellTownsModel", "record", "()V"⟩, 14) := ⟨⟨by decide +kernel, by decide +kernel⟩, List.mem_of_getElem? (i := 496) (by decide +kernel), List.mem_of_getElem? (i := 561) (by decide +kernel), List.mem_of_getElem? (i := 562) (by decide +kernel)⟩
theorem lw_p17 : lw_okq (⟨"BellTownsModel", "of", "(II)I"⟩, 14) := ⟨⟨by decide +kernel, by decide +kernel⟩, List.mem_of_getElem? (i := 496) (by decide +kernel), List.mem_of_getElem? (i := 575) (by decide +kernel), List.mem_of_getElem? (i := 576) (by decide +kernel)⟩
theorem lw_p18 : lw_okq (⟨"BellTownsModel", "isBell", "(II)Z"⟩, 14) := ⟨⟨by decide +kernel, by decide +kernel⟩, List.mem_of_getElem? (i := 496) (by decide +kernel), List.mem_of_getElem? (i := 583) (by decide +kernel), List.mem_of_getElem? (i := 584) (by decide +kernel)⟩
theorem lw_p19 : lw_okq (⟨"BellTownsModel", "isTaken", "(II)Z"⟩, 14) := ⟨⟨by decide +kernel, by decide +kernel⟩, List.mem_of_getElem? (i := 496) (by decide +kernel), List.mem_of_getElem? (i := 591) (by decide +kernel), List.mem_of_getElem? (i := 592) (by decide +kernel)⟩
theorem lw_p20 : lw_okq (⟨"BellTownsModel", "hasBells", "(II)Z"⟩, 14) := ⟨⟨by decide +kernel, by decide +kernel⟩, List.mem_of_getElem? (i := 496) (by decide +kernel), List.mem_of_getElem? (i := 599) (by decide +kernel), List.mem_of_getElem? (i := 600) (by decide +kernel)⟩
theorem lw_p21 : lw_okq (⟨"BellTownsModel", "allBells", "(I)I"⟩, 14) := ⟨⟨by decide +kernel, by decide +kernel⟩, List.mem_of_getElem? (i := 496) (by decide +kernel), List.mem_of_getElem? (i := 603) (by decide +kernel), List.mem_of_getElem? (i := 604) (by decide +kernel)⟩
theorem lw_p22 : lw_okq (⟨"BellTownsModel", "canSplice", "(II)Z"⟩, 14) := ⟨⟨by decide +kernel, by decide +kernel⟩, List.mem_of_getElem? (i := 496) (by decide +kernel), List.mem_of_getElem? (i := 611) (by decide +kernel), List.mem_of_getElem? (i := 612) (by decide +kernel)⟩
theorem lw_p23 : lw_okq (⟨"BellTownsModel", "spliceNow", "(II)I"⟩, 14) := ⟨⟨by decide +kernel, by decide +kernel⟩, List.mem_of_getElem? (i := 496) (by decide +kernel), List.mem_of_getElem? (i := 615) (by decide +kernel), List.mem_of_getElem? (i := 616) (by decide +kernel)⟩
theorem lw_p24 : lw_okq (⟨"BellTownsModel", "turnsNow", "(I)V"⟩, 14) := ⟨⟨by decide +kernel, by decide +kernel⟩, List.mem_of_getElem? (i := 496) (by decide +kernel), List.mem_of_getElem? (i := 631) (by decide +kernel), List.mem_of_getElem? (i := 632) (by decide +kernel)⟩
theorem lw_p25 : lw_okq (⟨"BellTownsModel", "turn", "()V"⟩, 14) := ⟨⟨by decide +kernel, by decide +kernel⟩, List.mem_of_getElem? (i := 496) (by decide +kernel), List.mem_of_getElem? (i := 635) (by decide +kernel), List.mem_of_getElem? (i := 636) (by decide +kernel)⟩
theorem lw_p26 : lw_okq (⟨"BellTownsModel", "listen", "()V"⟩, 14) := ⟨⟨by decide +kernel, by decide +kernel⟩, List.mem_of_getElem? (i := 496) (by decide +kernel), List.mem_of_getElem? (i := 639) (by decide +kernel), List.mem_of_getElem? (i := 640) (by decide +kernel)⟩
theorem lw_p27 : lw_okq (⟨"BellTownsModel", "rings", "(II)I"⟩, 14) := ⟨⟨by decide +kernel, by decide +kernel⟩, List.mem_of_getElem? (i := 496) (by decide +kernel), List.mem_of_getElem? (i := 643) (by decide +kernel), List.mem_of_getElem? (i := 644) (by decide +kernel)⟩
theorem lw_p28 : lw_okq (⟨"BellTownsModel", "wanted", "(II)I"⟩, 14) := ⟨⟨by decide +kernel, by decide +kernel⟩, List.mem_of_getElem? (i := 496) (by decide +kernel), List.mem_of_getElem? (i := 647) (by decide +kernel), List.mem_of_getElem? (i := 648) (by decide +kernel)⟩
theorem lw_p29 : lw_okq (⟨"BellTownsModel", "takes", "(II)I"⟩, 14) := ⟨⟨by decide +kernel, by decide +kernel⟩, List.mem_of_getElem? (i := 496) (by decide +kernel), List.mem_of_getElem? (i := 651) (by decide +kernel), List.mem_of_getElem? (i := 652) (by decide +kernel)⟩
theorem lw_p30 : lw_okq (⟨"BellTownsModel", "loudnessOf", "(II)I"⟩, 14) := ⟨⟨by decide +kernel, by decide +kernel⟩, List.mem_of_getElem? (i := 496) (by decide +kernel), List.mem_of_getElem? (i := 655) (by decide +kernel), List.mem_of_getElem? (i := 656) (by decide +kernel)⟩
theorem lw_p31 : lw_okq (⟨"BellTownsModel", "loudestNow", "()I"⟩, 14) := ⟨⟨by decide +kernel, by decide +kernel⟩, List.mem_of_getElem? (i := 496) (by decide +kernel), List.mem_of_getElem? (i := 659) (by decide +kernel), List.mem_of_getElem? (i := 660) (by decide +kernel)⟩
def lw_privs_2 : List (MethodName × Nat) := [(⟨"BellTownsModel", "record", "()V"⟩, 14), (⟨"BellTownsModel", "of", "(II)I"⟩, 14), (⟨"BellTownsModel", "isBell", "(II)Z"⟩, 14), (⟨"BellTownsModel", "isTaken", "(II)Z"⟩, 14), (⟨"BellTownsModel", "hasBells", "(II)Z"⟩, 14), (⟨"BellTownsModel", "allBells", "(I)I"⟩, 14), (⟨"BellTownsModel", "canSplice", "(II)Z"⟩, 14), (⟨"BellTownsModel", "spliceNow", "(II)I"⟩, 14), (⟨"BellTownsModel", "turnsNow", "(I)V"⟩, 14), (⟨"BellTownsModel", "turn", "()V"⟩, 14), (⟨"BellTownsModel", "listen", "()V"⟩, 14), (⟨"BellTownsModel", "rings", "(II)I"⟩, 14), (⟨"BellTownsModel", "wanted", "(II)I"⟩, 14), (⟨"BellTownsModel", "takes", "(II)I"⟩, 14), (⟨"BellTownsModel", "loudnessOf", "(II)I"⟩, 14), (⟨"BellTownsModel", "loudestNow", "()I"⟩, 14)]
theorem lw_r2 : ∀ q ∈ lw_privs_2, lw_okq q := List.forall_mem_cons.mpr ⟨lw_p16, List.forall_mem_cons.mpr ⟨lw_p17, List.forall_mem_cons.mpr ⟨lw_p18, List.forall_mem_cons.mpr ⟨lw_p19, List.forall_mem_cons.mpr ⟨lw_p20, List.forall_mem_cons.mpr ⟨lw_p21, List.forall_mem_cons.mpr ⟨lw_p22, List.forall_mem_cons.mpr ⟨lw_p23, List.forall_mem_cons.mpr ⟨lw_p24, List.forall_mem_cons.mpr ⟨lw_p25, List.forall_mem_cons.mpr ⟨lw_p26, List.forall_mem_cons.mpr ⟨lw_p27, List.forall_mem_cons.mpr ⟨lw_p28, List.forall_mem_cons.mpr ⟨lw_p29, List.forall_mem_cons.mpr ⟨lw_p30, List.forall_mem_cons.mpr ⟨lw_p31, fun _ h => absurd h List.not_mem_nil⟩⟩⟩⟩⟩⟩⟩⟩⟩⟩⟩⟩⟩⟩⟩⟩
theorem lw_p32 : lw_okq (⟨"BellTownsModel", "best", "(I)I"⟩, 14) := ⟨⟨by decide +kernel, by decide +kernel⟩, List.mem_of_getElem? (i := 496) (by decide +kernel), List.mem_of_getElem? (i := 663) (by decide +kernel), List.mem_of_getElem? (i := 664) (by decide +kernel)⟩
theorem lw_p33 : lw_okq (⟨"BellTownsModel", "heardIn", "(II)I"⟩, 14) := ⟨⟨by decide +kernel, by decide +kernel⟩, List.mem_of_getElem? (i := 496) (by decide +kernel), List.mem_of_getElem? (i := 667) (by decide +kernel), List.mem_of_getElem? (i := 668) (by decide +kernel)⟩
theorem lw_p34 : lw_okq (⟨"BellTownsModel", "wearDown", "(II)V"⟩, 14) := ⟨⟨by decide +kernel, by decide +kernel⟩, List.mem_of_getElem? (i := 496) (by decide +kernel), List.mem_of_getElem? (i := 671) (by decide +kernel), List.mem_of_getElem? (i := 672) (by decide +kernel)⟩
theorem lw_p35 : lw_okq (⟨"BellTownsModel", "isScript", "()Z"⟩, 14) := ⟨⟨by decide +kernel, by decide +kernel⟩, List.mem_of_getElem? (i := 496) (by decide +kernel), List.mem_of_getElem? (i := 687) (by decide +kernel), List.mem_of_getElem? (i := 688) (by decide +kernel)⟩
theorem lw_p36 : lw_okq (⟨"BellTownsModel", "readOrder", "()Z"⟩, 14) := ⟨⟨by decide +kernel, by decide +kernel⟩, List.mem_of_getElem? (i := 496) (by decide +kernel), List.mem_of_getElem? (i := 691) (by decide +kernel), List.mem_of_getElem? (i := 692) (by decide +kernel)⟩
theorem lw_p37 : lw_okq (⟨"BellTownsModel", "takesSign", "(II)Z"⟩, 14) := ⟨⟨by decide +kernel, by decide +kernel⟩, List.mem_of_getElem? (i := 496) (by decide +kernel), List.mem_of_getElem? (i := 695) (by decide +kernel), List.mem_of_getElem? (i := 696) (by decide +kernel)⟩
theorem lw_p38 : lw_okq (⟨"BellTownsModel", "isDone", "(I)Z"⟩, 14) := ⟨⟨by decide +kernel, by decide +kernel⟩, List.mem_of_getElem? (i := 496) (by decide +kernel), List.mem_of_getElem? (i := 703) (by decide +kernel), List.mem_of_getElem? (i := 704) (by decide +kernel)⟩
theorem lw_p39 : lw_okq (⟨"BellTownsModel", "reason", "(II)I"⟩, 14) := ⟨⟨by decide +kernel, by decide +kernel⟩, List.mem_of_getElem? (i := 496) (by decide +kernel), List.mem_of_getElem? (i := 715) (by decide +kernel), List.mem_of_getElem? (i := 716) (by decide +kernel)⟩
theorem lw_p40 : lw_okq (⟨"BellTownsModel", "sum", "(I)I"⟩, 14) := ⟨⟨by decide +kernel, by decide +kernel⟩, List.mem_of_getElem? (i := 496) (by decide +kernel), List.mem_of_getElem? (i := 723) (by decide +kernel), List.mem_of_getElem? (i := 724) (by decide +kernel)⟩
theorem lw_p41 : lw_okq (⟨"BellTownsModel", "brokenRopes", "()I"⟩, 14) := ⟨⟨by decide +kernel, by decide +kernel⟩, List.mem_of_getElem? (i := 496) (by decide +kernel), List.mem_of_getElem? (i := 727) (by decide +kernel), List.mem_of_getElem? (i := 728) (by decide +kernel)⟩
theorem lw_p42 : lw_okq (⟨"BellTownsModel", "silentTowns", "()I"⟩, 14) := ⟨⟨by decide +kernel, by decide +kernel⟩, List.mem_of_getElem? (i := 496) (by decide +kernel), List.mem_of_getElem? (i := 731) (by decide +kernel), List.mem_of_getElem? (i := 732) (by decide +kernel)⟩
theorem lw_p43 : lw_okq (⟨"BellTownsModel", "pointsWith", "(II)I"⟩, 14) := ⟨⟨by decide +kernel, by decide +kernel⟩, List.mem_of_getElem? (i := 496) (by decide +kernel), List.mem_of_getElem? (i := 751) (by decide +kernel), List.mem_of_getElem? (i := 752) (by decide +kernel)⟩
theorem lw_p44 : lw_okq (⟨"BellTownsModel", "putAside", "()V"⟩, 14) := ⟨⟨by decide +kernel, by decide +kernel⟩, List.mem_of_getElem? (i := 496) (by decide +kernel), List.mem_of_getElem? (i := 763) (by decide +kernel), List.mem_of_getElem? (i := 764) (by decide +kernel)⟩
theorem lw_p45 : lw_okq (⟨"BellTownsModel", "putBack", "()V"⟩, 14) := ⟨⟨by decide +kernel, by decide +kernel⟩, List.mem_of_getElem? (i := 496) (by decide +kernel), List.mem_of_getElem? (i := 767) (by decide +kernel), List.mem_of_getElem? (i := 768) (by decide +kernel)⟩
def lw_privs_3 : List (MethodName × Nat) := [(⟨"BellTownsModel", "best", "(I)I"⟩, 14), (⟨"BellTownsModel", "heardIn", "(II)I"⟩, 14), (⟨"BellTownsModel", "wearDown", "(II)V"⟩, 14), (⟨"BellTownsModel", "isScript", "()Z"⟩, 14), (⟨"BellTownsModel", "readOrder", "()Z"⟩, 14), (⟨"BellTownsModel", "takesSign", "(II)Z"⟩, 14), (⟨"BellTownsModel", "isDone", "(I)Z"⟩, 14), (⟨"BellTownsModel", "reason", "(II)I"⟩, 14), (⟨"BellTownsModel", "sum", "(I)I"⟩, 14), (⟨"BellTownsModel", "brokenRopes", "()I"⟩, 14), (⟨"BellTownsModel", "silentTowns", "()I"⟩, 14), (⟨"BellTownsModel", "pointsWith", "(II)I"⟩, 14), (⟨"BellTownsModel", "putAside", "()V"⟩, 14), (⟨"BellTownsModel", "putBack", "()V"⟩, 14)]
theorem lw_r3 : ∀ q ∈ lw_privs_3, lw_okq q := List.forall_mem_cons.mpr ⟨lw_p32, List.forall_mem_cons.mpr ⟨lw_p33, List.forall_mem_cons.mpr ⟨lw_p34, List.forall_mem_cons.mpr ⟨lw_p35, List.forall_mem_cons.mpr ⟨lw_p36, List.forall_mem_cons.mpr ⟨lw_p37, List.forall_mem_cons.mpr ⟨lw_p38, List.forall_mem_cons.mpr ⟨lw_p39, List.forall_mem_cons.mpr ⟨lw_p40, List.forall_mem_cons.mpr ⟨lw_p41, List.forall_mem_cons.mpr ⟨lw_p42, List.forall_mem_cons.mpr ⟨lw_p43, List.forall_mem_cons.mpr ⟨lw_p44, List.forall_mem_cons.mpr ⟨lw_p45, fun _ h => absurd h List.not_mem_nil⟩⟩⟩⟩⟩⟩⟩⟩⟩⟩⟩⟩⟩⟩
def lw_privs : List (MethodName × Nat) := lw_privs_1 ++ (lw_privs_2 ++ (lw_privs_3))
def lw_tbl : List Cond := k2_sels lw_privs ++ tables_1
theorem lw_privs_ok : ∀ q ∈ lw_privs, lw_okq q := by
  show ∀ q ∈ lw_privs_1 ++ (lw_privs_2 ++ (lw_privs_3)), lw_okq q
  exact List.forall_mem_append.mpr ⟨lw_r1, List.forall_mem_append.mpr ⟨lw_r2, lw_r3⟩⟩
/-- the streams that the claim lets the run draw from -/
abbrev lw_cs : List Choice := [Jvm.Choice.named "NaN.bits"]
theorem lw_bits : nanBits ∈ lw_cs := by first | decide | exact List.mem_cons_self | simp [lw_cs, nanBits]
/-! ===== BEGIN words of one list among another's, by their places ===== -/
theorem goodIn_r {big : List Cond} (ws : List Cond) (ps : List Nat) (hp : ws = ps.filterMap (fun i => big[i]?)) (h : ws.all goodWord = true) : GoodIn big ws := by
  intro w hw
  have h1 := List.all_eq_true.mp h w hw
  rw [hp] at hw
  obtain ⟨i, -, hi⟩ := List.mem_filterMap.mp hw
  have hm : w ∈ big := by first | exact List.mem_of_getElem? hi | exact List.getElem?_mem hi
  exact ⟨hm, good_of_word h1⟩
theorem goodIn_app {big a b : List Cond} (ha : GoodIn big a) (hb : GoodIn big b) : GoodIn big (a ++ b) := fun w h => (List.mem_append.mp h).elim (ha w) (hb w)
theorem goodIn_ca {big a b : List Cond} {c : Cond} (ha : GoodIn big (c :: a)) (hb : GoodIn big b) : GoodIn big (c :: (a ++ b)) := fun w h => (List.mem_cons.mp h).elim (fun e => ha w (List.mem_cons.mpr (Or.inl e))) (fun h => (List.mem_append.mp h).elim (fun h => ha w (List.mem_cons.mpr (Or.inr h))) (hb w))
theorem goodIn_sub {big ws : List Cond} (hm : ∀ w ∈ ws, w ∈ big) (h : ws.all goodWord = true) : GoodIn big ws := fun w hw => ⟨hm w hw, good_of_word (List.all_eq_true.mp h w hw)⟩
/-! ===== END ===== -/

/-! ===== BEGIN printed: names, fields, word lists, decode rows ===== -/
def RX0 : String := "BellTowns$History"
def TX0 : u_T := fun k => match k with
  | 0 => ("BellTowns$History", "states", "[LBellTowns$Valley;", true)
  | 1 => ("BellTowns$History", "oldest", "I", false)
  | _ => ("BellTowns$History", "size", "I", false)
def tyX0 : Nat → FieldType := fun k => match k with
  | 0 => .array (.object "BellTowns$Valley")
  | 1 => .int
  | _ => .int
abbrev wsX00 : List Cond := u_ws RX0 TX0 3
theorem nmX0 : ∀ a, a < 3 → ∀ b, b < 3 → a ≠ b → (TX0 a).2.1 ≠ (TX0 b).2.1 := by decide +kernel
theorem tyX0_ok : ∀ k, k < 3 → parseFieldDescriptor (TX0 k).2.2.1 = some (tyX0 k) := by decide +kernel
abbrev cX0_init : ByteArray := prog_2_method_1_code
def yX0_init : MethodName := ⟨RX0, "<init>", "()V"⟩
abbrev cX0_record : ByteArray := prog_2_method_2_code
def yX0_record : MethodName := ⟨RX0, "record", "(LBellTowns$Valley;)V"⟩
abbrev cX0_takeBack : ByteArray := prog_2_method_3_code
def yX0_takeBack : MethodName := ⟨RX0, "takeBack", "(LBellTowns$Valley;)V"⟩
abbrev cX0_placeOf : ByteArray := prog_2_method_4_code
def yX0_placeOf : MethodName := ⟨RX0, "placeOf", "(I)I"⟩
def RX1 : String := "BellTowns$Ringing"
def TX1 : u_T := fun k => match k with
  | 0 => ("BellTowns$Ringing", "reasons", "[I", true)
  | 1 => ("BellTowns$Ringing", "volumes", "[I", true)
  | 2 => ("BellTowns$Ringing", "ringersBusy", "[I", true)
  | 3 => ("BellTowns$Ringing", "winners", "[I", true)
  | _ => ("BellTowns$Ringing", "loudest", "I", false)
def tyX1 : Nat → FieldType := fun k => match k with
  | 0 => .array .int
  | 1 => .array .int
  | 2 => .array .int
  | 3 => .array .int
  | _ => .int
abbrev wsX10 : List Cond := u_ws RX1 TX1 5
theorem nmX1 : ∀ a, a < 5 → ∀ b, b < 5 → a ≠ b → (TX1 a).2.1 ≠ (TX1 b).2.1 := by decide +kernel
theorem tyX1_ok : ∀ k, k < 5 → parseFieldDescriptor (TX1 k).2.2.1 = some (tyX1 k) := by decide +kernel
abbrev cX1_init : ByteArray := prog_3_method_1_code
def yX1_init : MethodName := ⟨RX1, "<init>", "()V"⟩
abbrev cX1_foresee : ByteArray := prog_3_method_2_code
def yX1_foresee : MethodName := ⟨RX1, "foresee", "(LBellTowns$Valley;)V"⟩
abbrev cX1_ringIn : ByteArray := prog_3_method_3_code
def yX1_ringIn : MethodName := ⟨RX1, "ringIn", "(LBellTowns$Valley;I)V"⟩
abbrev cX1_soundIn : ByteArray := prog_3_method_4_code
def yX1_soundIn : MethodName := ⟨RX1, "soundIn", "(LBellTowns$Valley;II)I"⟩
abbrev cX1_winnerIn : ByteArray := prog_3_method_5_code
def yX1_winnerIn : MethodName := ⟨RX1, "winnerIn", "(LBellTowns$Valley;I)I"⟩
abbrev cX1_pointsOf : ByteArray := prog_3_method_6_code
def yX1_pointsOf : MethodName := ⟨RX1, "pointsOf", "(I)I"⟩
def RX2 : String := "BellTowns$Script"
def TX2 : u_T := fun k => match k with
  | 0 => ("BellTowns$Script", "signs", "[C", true)
  | _ => ("BellTowns$Script", "length", "I", false)
def tyX2 : Nat → FieldType := fun k => match k with
  | 0 => .array .char
  | _ => .int
abbrev wsX20 : List Cond := u_ws RX2 TX2 2
theorem nmX2 : ∀ a, a < 2 → ∀ b, b < 2 → a ≠ b → (TX2 a).2.1 ≠ (TX2 b).2.1 := by decide +kernel
theorem tyX2_ok : ∀ k, k < 2 → parseFieldDescriptor (TX2 k).2.2.1 = some (tyX2 k) := by decide +kernel
abbrev cX2_init : ByteArray := prog_4_method_1_code
def yX2_init : MethodName := ⟨RX2, "<init>", "()V"⟩
abbrev cX2_add : ByteArray := prog_4_method_2_code
def yX2_add : MethodName := ⟨RX2, "add", "(C)V"⟩
abbrev cX2_signAt : ByteArray := prog_4_method_3_code
def yX2_signAt : MethodName := ⟨RX2, "signAt", "(I)I"⟩
abbrev cX2_digitAt : ByteArray := prog_4_method_4_code
def yX2_digitAt : MethodName := ⟨RX2, "digitAt", "(I)I"⟩
abbrev cX2_beginsOrder : ByteArray := prog_4_method_5_code
def yX2_beginsOrder : MethodName := ⟨RX2, "beginsOrder", "(I)Z"⟩
abbrev cX2_bellsFrom : ByteArray := prog_4_method_6_code
def yX2_bellsFrom : MethodName := ⟨RX2, "bellsFrom", "(I)I"⟩
abbrev cX2_firstFault : ByteArray := prog_4_method_7_code
def yX2_firstFault : MethodName := ⟨RX2, "firstFault", "()I"⟩
abbrev cX2_after : ByteArray := prog_4_method_8_code
def yX2_after : MethodName := ⟨RX2, "after", "(II)I"⟩
abbrev cX2_afterLetter : ByteArray := prog_4_method_9_code
def yX2_afterLetter : MethodName := ⟨RX2, "afterLetter", "(I)I"⟩
abbrev cX2_afterBells : ByteArray := prog_4_method_10_code
def yX2_afterBells : MethodName := ⟨RX2, "afterBells", "(II)I"⟩
abbrev cX2_isDigit : ByteArray := prog_4_method_11_code
def yX2_isDigit : MethodName := ⟨RX2, "isDigit", "(III)Z"⟩
def RX3 : String := "BellTowns$Valley"
def TX3 : u_T := fun k => match k with
  | 0 => ("BellTowns$Valley", "milestones", "[I", true)
  | 1 => ("BellTowns$Valley", "ringers", "[I", true)
  | 2 => ("BellTowns$Valley", "tired", "[I", true)
  | 3 => ("BellTowns$Valley", "bellCounts", "[I", true)
  | 4 => ("BellTowns$Valley", "plans", "[I", true)
  | 5 => ("BellTowns$Valley", "feastDays", "[I", true)
  | 6 => ("BellTowns$Valley", "silences", "[I", true)
  | 7 => ("BellTowns$Valley", "points", "[I", true)
  | 8 => ("BellTowns$Valley", "timesLoudest", "[I", true)
  | 9 => ("BellTowns$Valley", "weights", "[I", true)
  | 10 => ("BellTowns$Valley", "wears", "[I", true)
  | 11 => ("BellTowns$Valley", "timesRung", "[I", true)
  | 12 => ("BellTowns$Valley", "fade", "I", false)
  | 13 => ("BellTowns$Valley", "rest", "I", false)
  | 14 => ("BellTowns$Valley", "turn", "I", false)
  | 15 => ("BellTowns$Valley", "turnsWithoutLoudest", "I", false)
  | _ => ("BellTowns$Valley", "latestLoudest", "I", false)
def tyX3 : Nat → FieldType := fun k => match k with
  | 0 => .array .int
  | 1 => .array .int
  | 2 => .array .int
  | 3 => .array .int
  | 4 => .array .int
  | 5 => .array .int
  | 6 => .array .int
  | 7 => .array .int
  | 8 => .array .int
  | 9 => .array .int
  | 10 => .array .int
  | 11 => .array .int
  | 12 => .int
  | 13 => .int
  | 14 => .int
  | 15 => .int
  | _ => .int
abbrev wsX30 : List Cond := u_ws RX3 TX3 17
theorem nmX3 : ∀ a, a < 17 → ∀ b, b < 17 → a ≠ b → (TX3 a).2.1 ≠ (TX3 b).2.1 := by decide +kernel
theorem tyX3_ok : ∀ k, k < 17 → parseFieldDescriptor (TX3 k).2.2.1 = some (tyX3 k) := by decide +kernel
abbrev cX3_init : ByteArray := prog_5_method_1_code
def yX3_init : MethodName := ⟨RX3, "<init>", "()V"⟩
abbrev cX3_copyFrom : ByteArray := prog_5_method_2_code
def yX3_copyFrom : MethodName := ⟨RX3, "copyFrom", "(LBellTowns$Valley;)V"⟩
abbrev cX3_copyTowns : ByteArray := prog_5_method_3_code
def yX3_copyTowns : MethodName := ⟨RX3, "copyTowns", "([I[I)V"⟩
abbrev cX3_copyBells : ByteArray := prog_5_method_4_code
def yX3_copyBells : MethodName := ⟨RX3, "copyBells", "([I[I)V"⟩
abbrev cX3_hasBell : ByteArray := prog_5_method_5_code
def yX3_hasBell : MethodName := ⟨RX3, "hasBell", "(II)Z"⟩
abbrev cX3_everyBell : ByteArray := prog_5_method_6_code
def yX3_everyBell : MethodName := ⟨RX3, "everyBell", "(I)I"⟩
abbrev cX3_rested : ByteArray := prog_5_method_7_code
def yX3_rested : MethodName := ⟨RX3, "rested", "(I)I"⟩
abbrev cX3_isTakenByAnother : ByteArray := prog_5_method_8_code
def yX3_isTakenByAnother : MethodName := ⟨RX3, "isTakenByAnother", "(II)Z"⟩
abbrev cX3_addBell : ByteArray := prog_5_method_9_code
def yX3_addBell : MethodName := ⟨RX3, "addBell", "(II)I"⟩
abbrev cX3_removeBell : ByteArray := prog_5_method_10_code
def yX3_removeBell : MethodName := ⟨RX3, "removeBell", "(II)V"⟩
abbrev cX3_fillSlot : ByteArray := prog_5_method_11_code
def yX3_fillSlot : MethodName := ⟨RX3, "fillSlot", "(IIII)V"⟩
abbrev cX3_wantedBells : ByteArray := prog_5_method_12_code
def yX3_wantedBells : MethodName := ⟨RX3, "wantedBells", "(I)I"⟩
abbrev cX3_allBells : ByteArray := prog_5_method_13_code
def yX3_allBells : MethodName := ⟨RX3, "allBells", "()I"⟩
abbrev cX3_brokenRopes : ByteArray := prog_5_method_14_code
def yX3_brokenRopes : MethodName := ⟨RX3, "brokenRopes", "()I"⟩
abbrev cX3_silentTowns : ByteArray := prog_5_method_15_code
def yX3_silentTowns : MethodName := ⟨RX3, "silentTowns", "()I"⟩
abbrev cX3_allPoints : ByteArray := prog_5_method_16_code
def yX3_allPoints : MethodName := ⟨RX3, "allPoints", "()I"⟩
abbrev cX3_pass : ByteArray := prog_5_method_17_code
def yX3_pass : MethodName := ⟨RX3, "pass", "(LBellTowns$Ringing;)V"⟩
abbrev cX3_givePoints : ByteArray := prog_5_method_18_code
def yX3_givePoints : MethodName := ⟨RX3, "givePoints", "(LBellTowns$Ringing;)V"⟩
abbrev cX3_wearRopes : ByteArray := prog_5_method_19_code
def yX3_wearRopes : MethodName := ⟨RX3, "wearRopes", "(LBellTowns$Ringing;)V"⟩
abbrev cX3_tireRingers : ByteArray := prog_5_method_20_code
def yX3_tireRingers : MethodName := ⟨RX3, "tireRingers", "(LBellTowns$Ringing;)V"⟩
abbrev cX3_fallSilent : ByteArray := prog_5_method_21_code
def yX3_fallSilent : MethodName := ⟨RX3, "fallSilent", "(I)V"⟩
def RX4 : String := "BellTowns"
def TX4 : u_T := fun k => match k with
  | 0 => ("BellTowns", "now", "LBellTowns$Valley;", true)
  | 1 => ("BellTowns", "trial", "LBellTowns$Valley;", true)
  | 2 => ("BellTowns", "snapshot", "LBellTowns$Valley;", true)
  | 3 => ("BellTowns", "snapshotTaken", "Z", false)
  | 4 => ("BellTowns", "history", "LBellTowns$History;", true)
  | 5 => ("BellTowns", "ringing", "LBellTowns$Ringing;", true)
  | _ => ("BellTowns", "script", "LBellTowns$Script;", true)
def tyX4 : Nat → FieldType := fun k => match k with
  | 0 => .object "BellTowns$Valley"
  | 1 => .object "BellTowns$Valley"
  | 2 => .object "BellTowns$Valley"
  | 3 => .boolean
  | 4 => .object "BellTowns$History"
  | 5 => .object "BellTowns$Ringing"
  | _ => .object "BellTowns$Script"
abbrev wsX40 : List Cond := u_ws RX4 TX4 7
theorem nmX4 : ∀ a, a < 7 → ∀ b, b < 7 → a ≠ b → (TX4 a).2.1 ≠ (TX4 b).2.1 := by decide +kernel
theorem tyX4_ok : ∀ k, k < 7 → parseFieldDescriptor (TX4 k).2.2.1 = some (tyX4 k) := by decide +kernel
abbrev cX4_init : ByteArray := prog_1_method_1_code
def yX4_init : MethodName := ⟨RX4, "<init>", "()V"⟩
abbrev cX4_hang : ByteArray := prog_1_method_2_code
def yX4_hang : MethodName := ⟨RX4, "hang", "(II)I"⟩
abbrev cX4_melt : ByteArray := prog_1_method_3_code
def yX4_melt : MethodName := ⟨RX4, "melt", "(II)I"⟩
abbrev cX4_settle : ByteArray := prog_1_method_4_code
def yX4_settle : MethodName := ⟨RX4, "settle", "(III)I"⟩
abbrev cX4_plan : ByteArray := prog_1_method_5_code
def yX4_plan : MethodName := ⟨RX4, "plan", "(II)I"⟩
abbrev cX4_splice : ByteArray := prog_1_method_6_code
def yX4_splice : MethodName := ⟨RX4, "splice", "(II)I"⟩
abbrev cX4_feast : ByteArray := prog_1_method_7_code
def yX4_feast : MethodName := ⟨RX4, "feast", "(II)I"⟩
abbrev cX4_set : ByteArray := prog_1_method_8_code
def yX4_set : MethodName := ⟨RX4, "set", "(II)I"⟩
abbrev cX4_turns : ByteArray := prog_1_method_9_code
def yX4_turns : MethodName := ⟨RX4, "turns", "(I)I"⟩
abbrev cX4_append : ByteArray := prog_1_method_10_code
def yX4_append : MethodName := ⟨RX4, "append", "(I)I"⟩
abbrev cX4_clearText : ByteArray := prog_1_method_11_code
def yX4_clearText : MethodName := ⟨RX4, "clearText", "()I"⟩
abbrev cX4_fault : ByteArray := prog_1_method_12_code
def yX4_fault : MethodName := ⟨RX4, "fault", "()I"⟩
abbrev cX4_run : ByteArray := prog_1_method_13_code
def yX4_run : MethodName := ⟨RX4, "run", "()I"⟩
abbrev cX4_undo : ByteArray := prog_1_method_14_code
def yX4_undo : MethodName := ⟨RX4, "undo", "()I"⟩
abbrev cX4_save : ByteArray := prog_1_method_15_code
def yX4_save : MethodName := ⟨RX4, "save", "()I"⟩
abbrev cX4_restore : ByteArray := prog_1_method_16_code
def yX4_restore : MethodName := ⟨RX4, "restore", "()I"⟩
abbrev cX4_town : ByteArray := prog_1_method_17_code
def yX4_town : MethodName := ⟨RX4, "town", "(II)I"⟩
abbrev cX4_bell : ByteArray := prog_1_method_18_code
def yX4_bell : MethodName := ⟨RX4, "bell", "(III)I"⟩
abbrev cX4_count : ByteArray := prog_1_method_19_code
def yX4_count : MethodName := ⟨RX4, "count", "(I)I"⟩
abbrev cX4_loudness : ByteArray := prog_1_method_20_code
def yX4_loudness : MethodName := ⟨RX4, "loudness", "(I)I"⟩
abbrev cX4_heard : ByteArray := prog_1_method_21_code
def yX4_heard : MethodName := ⟨RX4, "heard", "(II)I"⟩
abbrev cX4_winner : ByteArray := prog_1_method_22_code
def yX4_winner : MethodName := ⟨RX4, "winner", "(I)I"⟩
abbrev cX4_ifPlanned : ByteArray := prog_1_method_23_code
def yX4_ifPlanned : MethodName := ⟨RX4, "ifPlanned", "(II)I"⟩
abbrev cX4_bestPlan : ByteArray := prog_1_method_24_code
def yX4_bestPlan : MethodName := ⟨RX4, "bestPlan", "(I)I"⟩
abbrev cX4_pointsIn : ByteArray := prog_1_method_25_code
def yX4_pointsIn : MethodName := ⟨RX4, "pointsIn", "(II)I"⟩
abbrev cX4_share : ByteArray := prog_1_method_26_code
def yX4_share : MethodName := ⟨RX4, "share", "(I)D"⟩
abbrev cX4_isTown : ByteArray := prog_1_method_27_code
def yX4_isTown : MethodName := ⟨RX4, "isTown", "(I)Z"⟩
abbrev cX4_slot : ByteArray := prog_1_method_28_code
def yX4_slot : MethodName := ⟨RX4, "slot", "(II)I"⟩
abbrev cX4_ringersFor : ByteArray := prog_1_method_29_code
def yX4_ringersFor : MethodName := ⟨RX4, "ringersFor", "(I)I"⟩
abbrev cX4_isInRange : ByteArray := prog_1_method_30_code
def yX4_isInRange : MethodName := ⟨RX4, "isInRange", "(II)Z"⟩
abbrev cX4_planError : ByteArray := prog_1_method_31_code
def yX4_planError : MethodName := ⟨RX4, "planError", "(II)I"⟩
abbrev cX4_changePlan : ByteArray := prog_1_method_32_code
def yX4_changePlan : MethodName := ⟨RX4, "changePlan", "(II)I"⟩
abbrev cX4_spliceError : ByteArray := prog_1_method_33_code
def yX4_spliceError : MethodName := ⟨RX4, "spliceError", "(II)I"⟩
abbrev cX4_mendRope : ByteArray := prog_1_method_34_code
def yX4_mendRope : MethodName := ⟨RX4, "mendRope", "(II)I"⟩
abbrev cX4_turnsError : ByteArray := prog_1_method_35_code
def yX4_turnsError : MethodName := ⟨RX4, "turnsError", "(I)I"⟩
abbrev cX4_makeTurns : ByteArray := prog_1_method_36_code
def yX4_makeTurns : MethodName := ⟨RX4, "makeTurns", "(LBellTowns$Valley;I)V"⟩
abbrev cX4_pointsWithPlan : ByteArray := prog_1_method_37_code
def yX4_pointsWithPlan : MethodName := ⟨RX4, "pointsWithPlan", "(II)I"⟩
abbrev cX4_carryOut : ByteArray := prog_1_method_38_code
def yX4_carryOut : MethodName := ⟨RX4, "carryOut", "(I)Z"⟩
def RX5 : String := "BellTownsModel"
def TX5 : u_T := fun k => match k with
  | 0 => ("BellTownsModel", "row", "[I", true)
  | 1 => ("BellTownsModel", "history", "[I", true)
  | 2 => ("BellTownsModel", "states", "I", false)
  | 3 => ("BellTownsModel", "snapshot", "[I", true)
  | 4 => ("BellTownsModel", "isSaved", "Z", false)
  | 5 => ("BellTownsModel", "aside", "[I", true)
  | 6 => ("BellTownsModel", "loud", "[I", true)
  | 7 => ("BellTownsModel", "text", "[I", true)
  | 8 => ("BellTownsModel", "length", "I", false)
  | 9 => ("BellTownsModel", "spot", "I", false)
  | 10 => ("BellTownsModel", "orders", "I", false)
  | 11 => ("BellTownsModel", "letter", "[I", true)
  | 12 => ("BellTownsModel", "one", "[I", true)
  | _ => ("BellTownsModel", "bells", "[I", true)
def tyX5 : Nat → FieldType := fun k => match k with
  | 0 => .array .int
  | 1 => .array .int
  | 2 => .int
  | 3 => .array .int
  | 4 => .boolean
  | 5 => .array .int
  | 6 => .array .int
  | 7 => .array .int
  | 8 => .int
  | 9 => .int
  | 10 => .int
  | 11 => .array .int
  | 12 => .array .int
  | _ => .array .int
abbrev wsX50 : List Cond := u_ws RX5 TX5 14
theorem nmX5 : ∀ a, a < 14 → ∀ b, b < 14 → a ≠ b → (TX5 a).2.1 ≠ (TX5 b).2.1 := by decide +kernel
theorem tyX5_ok : ∀ k, k < 14 → parseFieldDescriptor (TX5 k).2.2.1 = some (tyX5 k) := by decide +kernel
abbrev cX5_init : ByteArray := prog_7_method_1_code
def yX5_init : MethodName := ⟨RX5, "<init>", "()V"⟩
abbrev cX5_in : ByteArray := prog_7_method_2_code
def yX5_in : MethodName := ⟨RX5, "in", "(III)Z"⟩
abbrev cX5_isTown : ByteArray := prog_7_method_3_code
def yX5_isTown : MethodName := ⟨RX5, "isTown", "(I)Z"⟩
abbrev cX5_isBell : ByteArray := prog_7_method_4_code
def yX5_isBell : MethodName := ⟨RX5, "isBell", "(II)Z"⟩
abbrev cX5_of : ByteArray := prog_7_method_5_code
def yX5_of : MethodName := ⟨RX5, "of", "(II)I"⟩
abbrev cX5_put : ByteArray := prog_7_method_6_code
def yX5_put : MethodName := ⟨RX5, "put", "(III)V"⟩
abbrev cX5_putAside : ByteArray := prog_7_method_7_code
def yX5_putAside : MethodName := ⟨RX5, "putAside", "()V"⟩
abbrev cX5_putBack : ByteArray := prog_7_method_8_code
def yX5_putBack : MethodName := ⟨RX5, "putBack", "()V"⟩
abbrev cX5_record : ByteArray := prog_7_method_9_code
def yX5_record : MethodName := ⟨RX5, "record", "()V"⟩
abbrev cX5_undo : ByteArray := prog_7_method_10_code
def yX5_undo : MethodName := ⟨RX5, "undo", "()I"⟩
abbrev cX5_save : ByteArray := prog_7_method_11_code
def yX5_save : MethodName := ⟨RX5, "save", "()I"⟩
abbrev cX5_restore : ByteArray := prog_7_method_12_code
def yX5_restore : MethodName := ⟨RX5, "restore", "()I"⟩
abbrev cX5_takes : ByteArray := prog_7_method_13_code
def yX5_takes : MethodName := ⟨RX5, "takes", "(II)I"⟩
abbrev cX5_allBells : ByteArray := prog_7_method_14_code
def yX5_allBells : MethodName := ⟨RX5, "allBells", "(I)I"⟩
abbrev cX5_wanted : ByteArray := prog_7_method_15_code
def yX5_wanted : MethodName := ⟨RX5, "wanted", "(II)I"⟩
abbrev cX5_rings : ByteArray := prog_7_method_16_code
def yX5_rings : MethodName := ⟨RX5, "rings", "(II)I"⟩
abbrev cX5_loudnessOf : ByteArray := prog_7_method_17_code
def yX5_loudnessOf : MethodName := ⟨RX5, "loudnessOf", "(II)I"⟩
abbrev cX5_listen : ByteArray := prog_7_method_18_code
def yX5_listen : MethodName := ⟨RX5, "listen", "()V"⟩
abbrev cX5_heardIn : ByteArray := prog_7_method_19_code
def yX5_heardIn : MethodName := ⟨RX5, "heardIn", "(II)I"⟩
abbrev cX5_best : ByteArray := prog_7_method_20_code
def yX5_best : MethodName := ⟨RX5, "best", "(I)I"⟩
abbrev cX5_loudestNow : ByteArray := prog_7_method_21_code
def yX5_loudestNow : MethodName := ⟨RX5, "loudestNow", "()I"⟩
abbrev cX5_wearDown : ByteArray := prog_7_method_22_code
def yX5_wearDown : MethodName := ⟨RX5, "wearDown", "(II)V"⟩
abbrev cX5_turn : ByteArray := prog_7_method_23_code
def yX5_turn : MethodName := ⟨RX5, "turn", "()V"⟩
abbrev cX5_hang : ByteArray := prog_7_method_24_code
def yX5_hang : MethodName := ⟨RX5, "hang", "(II)I"⟩
abbrev cX5_melt : ByteArray := prog_7_method_25_code
def yX5_melt : MethodName := ⟨RX5, "melt", "(II)I"⟩
abbrev cX5_isTaken : ByteArray := prog_7_method_26_code
def yX5_isTaken : MethodName := ⟨RX5, "isTaken", "(II)Z"⟩
abbrev cX5_settle : ByteArray := prog_7_method_27_code
def yX5_settle : MethodName := ⟨RX5, "settle", "(III)I"⟩
abbrev cX5_hasBells : ByteArray := prog_7_method_28_code
def yX5_hasBells : MethodName := ⟨RX5, "hasBells", "(II)Z"⟩
abbrev cX5_plan : ByteArray := prog_7_method_29_code
def yX5_plan : MethodName := ⟨RX5, "plan", "(II)I"⟩
abbrev cX5_canSplice : ByteArray := prog_7_method_30_code
def yX5_canSplice : MethodName := ⟨RX5, "canSplice", "(II)Z"⟩
abbrev cX5_spliceNow : ByteArray := prog_7_method_31_code
def yX5_spliceNow : MethodName := ⟨RX5, "spliceNow", "(II)I"⟩
abbrev cX5_splice : ByteArray := prog_7_method_32_code
def yX5_splice : MethodName := ⟨RX5, "splice", "(II)I"⟩
abbrev cX5_feast : ByteArray := prog_7_method_33_code
def yX5_feast : MethodName := ⟨RX5, "feast", "(II)I"⟩
abbrev cX5_set : ByteArray := prog_7_method_34_code
def yX5_set : MethodName := ⟨RX5, "set", "(II)I"⟩
abbrev cX5_turnsNow : ByteArray := prog_7_method_35_code
def yX5_turnsNow : MethodName := ⟨RX5, "turnsNow", "(I)V"⟩
abbrev cX5_turns : ByteArray := prog_7_method_36_code
def yX5_turns : MethodName := ⟨RX5, "turns", "(I)I"⟩
abbrev cX5_append : ByteArray := prog_7_method_37_code
def yX5_append : MethodName := ⟨RX5, "append", "(I)I"⟩
abbrev cX5_clearText : ByteArray := prog_7_method_38_code
def yX5_clearText : MethodName := ⟨RX5, "clearText", "()I"⟩
abbrev cX5_takesSign : ByteArray := prog_7_method_39_code
def yX5_takesSign : MethodName := ⟨RX5, "takesSign", "(II)Z"⟩
abbrev cX5_readOrder : ByteArray := prog_7_method_40_code
def yX5_readOrder : MethodName := ⟨RX5, "readOrder", "()Z"⟩
abbrev cX5_isScript : ByteArray := prog_7_method_41_code
def yX5_isScript : MethodName := ⟨RX5, "isScript", "()Z"⟩
abbrev cX5_fault : ByteArray := prog_7_method_42_code
def yX5_fault : MethodName := ⟨RX5, "fault", "()I"⟩
abbrev cX5_isDone : ByteArray := prog_7_method_43_code
def yX5_isDone : MethodName := ⟨RX5, "isDone", "(I)Z"⟩
abbrev cX5_run : ByteArray := prog_7_method_44_code
def yX5_run : MethodName := ⟨RX5, "run", "()I"⟩
abbrev cX5_town : ByteArray := prog_7_method_45_code
def yX5_town : MethodName := ⟨RX5, "town", "(II)I"⟩
abbrev cX5_reason : ByteArray := prog_7_method_46_code
def yX5_reason : MethodName := ⟨RX5, "reason", "(II)I"⟩
abbrev cX5_bell : ByteArray := prog_7_method_47_code
def yX5_bell : MethodName := ⟨RX5, "bell", "(III)I"⟩
abbrev cX5_sum : ByteArray := prog_7_method_48_code
def yX5_sum : MethodName := ⟨RX5, "sum", "(I)I"⟩
abbrev cX5_brokenRopes : ByteArray := prog_7_method_49_code
def yX5_brokenRopes : MethodName := ⟨RX5, "brokenRopes", "()I"⟩
abbrev cX5_silentTowns : ByteArray := prog_7_method_50_code
def yX5_silentTowns : MethodName := ⟨RX5, "silentTowns", "()I"⟩
abbrev cX5_count : ByteArray := prog_7_method_51_code
def yX5_count : MethodName := ⟨RX5, "count", "(I)I"⟩
abbrev cX5_loudness : ByteArray := prog_7_method_52_code
def yX5_loudness : MethodName := ⟨RX5, "loudness", "(I)I"⟩
abbrev cX5_heard : ByteArray := prog_7_method_53_code
def yX5_heard : MethodName := ⟨RX5, "heard", "(II)I"⟩
abbrev cX5_winner : ByteArray := prog_7_method_54_code
def yX5_winner : MethodName := ⟨RX5, "winner", "(I)I"⟩
abbrev cX5_pointsWith : ByteArray := prog_7_method_55_code
def yX5_pointsWith : MethodName := ⟨RX5, "pointsWith", "(II)I"⟩
abbrev cX5_ifPlanned : ByteArray := prog_7_method_56_code
def yX5_ifPlanned : MethodName := ⟨RX5, "ifPlanned", "(II)I"⟩
abbrev cX5_bestPlan : ByteArray := prog_7_method_57_code
def yX5_bestPlan : MethodName := ⟨RX5, "bestPlan", "(I)I"⟩
abbrev cX5_pointsIn : ByteArray := prog_7_method_58_code
def yX5_pointsIn : MethodName := ⟨RX5, "pointsIn", "(II)I"⟩
abbrev cX5_share : ByteArray := prog_7_method_59_code
def yX5_share : MethodName := ⟨RX5, "share", "(I)D"⟩
def RL : String := "BellTownsLaw"
abbrev cL_law : ByteArray := code
def yL_law : MethodName := ⟨RL, "law", "([I)Z"⟩
abbrev vwCl : List vw_C := [(RX0, TX0, 3), (RX1, TX1, 5), (RX2, TX2, 2), (RX3, TX3, 17), (RX4, TX4, 7), (RX5, TX5, 14)]
