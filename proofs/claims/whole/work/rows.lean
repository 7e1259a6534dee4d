section
-- ===== PART A: goes FIRST, ahead of the names: the tables' words, and 'selects' of the private methods out of them =====
/-- a private method of a class that the tables say can be made, by its rows of tables_1 -/
def lw_okq (q : MethodName × Nat) : Prop := (q.1.cls ≠ "java/lang/invoke/MethodHandle" ∧ q.1.cls ≠ "java/lang/invoke/VarHandle") ∧ Cond.instantiable q.1.cls q.2 ∈ tables_1 ∧ Cond.privateMethod q.1 ∈ tables_1 ∧ Cond.instanceMethod q.1 ∈ tables_1
theorem lw_p0 : lw_okq (⟨"BellTowns$History", "placeOf", "(I)I"⟩, 3) := ⟨⟨by decide +kernel, by decide +kernel⟩, List.mem_of_getElem? (i := 99) (by decide +kernel), List.mem_of_getElem? (i := 196) (by decide +kernel), List.mem_of_getElem? (i := 197) (by decide +kernel)⟩
theorem lw_p1 : lw_okq (⟨"BellTowns$Valley", "fillSlot", "(IIII)V"⟩, 17) := ⟨⟨by decide +kernel, by decide +kernel⟩, List.mem_of_getElem? (i := 18) (by decide +kernel), List.mem_of_getElem? (i := 220) (by decide +kernel), List.mem_of_getElem? (i := 221) (by decide +kernel)⟩
theorem lw_p2 : lw_okq (⟨"BellTowns", "planError", "(II)I"⟩, 7) := ⟨⟨by decide +kernel, by decide +kernel⟩, List.mem_of_getElem? (i := 10) (by decide +kernel), List.mem_of_getElem? (i := 253) (by decide +kernel), List.mem_of_getElem? (i := 254) (by decide +kernel)⟩
theorem lw_p3 : lw_okq (⟨"BellTowns", "changePlan", "(II)I"⟩, 7) := ⟨⟨by decide +kernel, by decide +kernel⟩, List.mem_of_getElem? (i := 10) (by decide +kernel), List.mem_of_getElem? (i := 261) (by decide +kernel), List.mem_of_getElem? (i := 262) (by decide +kernel)⟩
theorem lw_p4 : lw_okq (⟨"BellTowns", "spliceError", "(II)I"⟩, 7) := ⟨⟨by decide +kernel, by decide +kernel⟩, List.mem_of_getElem? (i := 10) (by decide +kernel), List.mem_of_getElem? (i := 269) (by decide +kernel), List.mem_of_getElem? (i := 270) (by decide +kernel)⟩
theorem lw_p5 : lw_okq (⟨"BellTowns", "mendRope", "(II)I"⟩, 7) := ⟨⟨by decide +kernel, by decide +kernel⟩, List.mem_of_getElem? (i := 10) (by decide +kernel), List.mem_of_getElem? (i := 277) (by decide +kernel), List.mem_of_getElem? (i := 278) (by decide +kernel)⟩
theorem lw_p6 : lw_okq (⟨"BellTowns", "makeTurns", "(LBellTowns$Valley;I)V"⟩, 7) := ⟨⟨by decide +kernel, by decide +kernel⟩, List.mem_of_getElem? (i := 10) (by decide +kernel), List.mem_of_getElem? (i := 299) (by decide +kernel), List.mem_of_getElem? (i := 300) (by decide +kernel)⟩
theorem lw_p7 : lw_okq (⟨"BellTowns$Ringing", "ringIn", "(LBellTowns$Valley;I)V"⟩, 5) := ⟨⟨by decide +kernel, by decide +kernel⟩, List.mem_of_getElem? (i := 119) (by decide +kernel), List.mem_of_getElem? (i := 307) (by decide +kernel), List.mem_of_getElem? (i := 308) (by decide +kernel)⟩
theorem lw_p8 : lw_okq (⟨"BellTowns$Ringing", "winnerIn", "(LBellTowns$Valley;I)I"⟩, 5) := ⟨⟨by decide +kernel, by decide +kernel⟩, List.mem_of_getElem? (i := 119) (by decide +kernel), List.mem_of_getElem? (i := 321) (by decide +kernel), List.mem_of_getElem? (i := 322) (by decide +kernel)⟩
theorem lw_p9 : lw_okq (⟨"BellTowns$Valley", "givePoints", "(LBellTowns$Ringing;)V"⟩, 17) := ⟨⟨by decide +kernel, by decide +kernel⟩, List.mem_of_getElem? (i := 18) (by decide +kernel), List.mem_of_getElem? (i := 339) (by decide +kernel), List.mem_of_getElem? (i := 340) (by decide +kernel)⟩
theorem lw_p10 : lw_okq (⟨"BellTowns$Valley", "wearRopes", "(LBellTowns$Ringing;)V"⟩, 17) := ⟨⟨by decide +kernel, by decide +kernel⟩, List.mem_of_getElem? (i := 18) (by decide +kernel), List.mem_of_getElem? (i := 343) (by decide +kernel), List.mem_of_getElem? (i := 344) (by decide +kernel)⟩
theorem lw_p11 : lw_okq (⟨"BellTowns$Valley", "tireRingers", "(LBellTowns$Ringing;)V"⟩, 17) := ⟨⟨by decide +kernel, by decide +kernel⟩, List.mem_of_getElem? (i := 18) (by decide +kernel), List.mem_of_getElem? (i := 347) (by decide +kernel), List.mem_of_getElem? (i := 348) (by decide +kernel)⟩
theorem lw_p12 : lw_okq (⟨"BellTowns$Valley", "fallSilent", "(I)V"⟩, 17) := ⟨⟨by decide +kernel, by decide +kernel⟩, List.mem_of_getElem? (i := 18) (by decide +kernel), List.mem_of_getElem? (i := 351) (by decide +kernel), List.mem_of_getElem? (i := 352) (by decide +kernel)⟩
theorem lw_p13 : lw_okq (⟨"BellTowns", "carryOut", "(I)Z"⟩, 7) := ⟨⟨by decide +kernel, by decide +kernel⟩, List.mem_of_getElem? (i := 10) (by decide +kernel), List.mem_of_getElem? (i := 399) (by decide +kernel), List.mem_of_getElem? (i := 400) (by decide +kernel)⟩
theorem lw_p14 : lw_okq (⟨"BellTowns", "pointsWithPlan", "(II)I"⟩, 7) := ⟨⟨by decide +kernel, by decide +kernel⟩, List.mem_of_getElem? (i := 10) (by decide +kernel), List.mem_of_getElem? (i := 476) (by decide +kernel), List.mem_of_getElem? (i := 477) (by decide +kernel)⟩
theorem lw_p15 : lw_okq (⟨"BellTownsModel", "put", "(III)V"⟩, 14) := ⟨⟨by decide +kernel, by decide +kernel⟩, List.mem_of_getElem? (i := 496) (by decide +kernel), List.mem_of_getElem? (i := 502) (by decide +kernel), List.mem_of_getElem? (i := 503) (by decide +kernel)⟩
def lw_privs_1 : List (MethodName × Nat) := [(⟨"BellTowns$History", "placeOf", "(I)I"⟩, 3), (⟨"BellTowns$Valley", "fillSlot", "(IIII)V"⟩, 17), (⟨"BellTowns", "planError", "(II)I"⟩, 7), (⟨"BellTowns", "changePlan", "(II)I"⟩, 7), (⟨"BellTowns", "spliceError", "(II)I"⟩, 7), (⟨"BellTowns", "mendRope", "(II)I"⟩, 7), (⟨"BellTowns", "makeTurns", "(LBellTowns$Valley;I)V"⟩, 7), (⟨"BellTowns$Ringing", "ringIn", "(LBellTowns$Valley;I)V"⟩, 5), (⟨"BellTowns$Ringing", "winnerIn", "(LBellTowns$Valley;I)I"⟩, 5), (⟨"BellTowns$Valley", "givePoints", "(LBellTowns$Ringing;)V"⟩, 17), (⟨"BellTowns$Valley", "wearRopes", "(LBellTowns$Ringing;)V"⟩, 17), (⟨"BellTowns$Valley", "tireRingers", "(LBellTowns$Ringing;)V"⟩, 17), (⟨"BellTowns$Valley", "fallSilent", "(I)V"⟩, 17), (⟨"BellTowns", "carryOut", "(I)Z"⟩, 7), (⟨"BellTowns", "pointsWithPlan", "(II)I"⟩, 7), (⟨"BellTownsModel", "put", "(III)V"⟩, 14)]
theorem lw_r1 : ∀ q ∈ lw_privs_1, lw_okq q := List.forall_mem_cons.mpr ⟨lw_p0, List.forall_mem_cons.mpr ⟨lw_p1, List.forall_mem_cons.mpr ⟨lw_p2, List.forall_mem_cons.mpr ⟨lw_p3, List.forall_mem_cons.mpr ⟨lw_p4, List.forall_mem_cons.mpr ⟨lw_p5, List.forall_mem_cons.mpr ⟨lw_p6, List.forall_mem_cons.mpr ⟨lw_p7, List.forall_mem_cons.mpr ⟨lw_p8, List.forall_mem_cons.mpr ⟨lw_p9, List.forall_mem_cons.mpr ⟨lw_p10, List.forall_mem_cons.mpr ⟨lw_p11, List.forall_mem_cons.mpr ⟨lw_p12, List.forall_mem_cons.mpr ⟨lw_p13, List.forall_mem_cons.mpr ⟨lw_p14, List.forall_mem_cons.mpr ⟨lw_p15, fun _ h => absurd h List.not_mem_nil⟩⟩⟩⟩⟩⟩⟩⟩⟩⟩⟩⟩⟩⟩⟩⟩
theorem lw_p16 : lw_okq (⟨"BellTownsModel", "record", "()V"⟩, 14) := ⟨⟨by decide +kernel, by decide +kernel⟩, List.mem_of_getElem? (i := 496) (by decide +kernel), List.mem_of_getElem? (i := 561) (by decide +kernel), List.mem_of_getElem? (i := 562) (by decide +kernel)⟩
theorem lw_p17 : lw_okq (⟨"BellTownsModel", "of", "(II)I"⟩, 14) := ⟨⟨by decide +kernel, by decide +kernel⟩, List.mem_of_getElem? (i := 496) (by decide +kernel), List.mem_of_getElem? (i := 575) (by decide +kernel), List.mem_of_getElem? (i := 576) (by decide +kernel)⟩
theorem lw_p18 : lw_okq (⟨"BellTownsModel", "isBell", "(II)Z"⟩, 14) := ⟨⟨by decide +kernel, by decide +kernel⟩, List.mem_of_getElem? (i := 496) (by decide +kernel), List.mem_of_getElem? (i := 583) (by decide +kernel), List.mem_of_getElem? (i := 584) (by decide +kernel)⟩
theorem lw_p19 : lw_okq (⟨"BellTownsModel", "isTaken", "(II)Z"⟩, 14) := ⟨⟨by decide +kernel, by decide +kernel⟩, List.mem_of_getElem? (i := 496) (by decide +kernel), List.mem_of_getElem? (i := 591) (by decide +kernel), List.mem_of_getElem? (i := 592) (by decide +kernel)⟩
theorem lw_p20 : lw_okq (⟨"BellTownsModel", "hasBells", "(II)Z"⟩, 14) := ⟨⟨by decide +kernel, by decide +kernel⟩, List.mem_of_getElem? (i := 496) (by decide +kernel), List.mem_of_getElem? (i := 599) (by decide +kernel), List.mem_of_getElem? (i := 600) (by decide +kernel)⟩
theorem lw_p21 : lw_okq (⟨"BellTownsModel", "allBells", "(I)I"⟩, 14) := ⟨⟨by decide +kernel, by decide +kernel⟩, List.mem_of_getElem? (i := 496) (by decide +kernel), List.mem_of_getElem? (i := 603) (by decide +kernel), List.mem_of_getElem? (i := 604) (by decide +kernel)⟩
theorem lw_p22 : lw_okq (⟨"BellTownsModel", "canSplice", "(II)Z"⟩, 14) := ⟨⟨by decide +kernel, by decide +kernel⟩, List.mem_of_getElem? (i := 496) (by decide +kernel), List.mem_of_getElem? (i := 611) (by decide +kernel), List.mem_of_getElem? (i := 612) (by decide +kernel)⟩
theorem lw_p23 : lw_okq (⟨"BellTownsModel", "spliceNow", "(II)I"⟩, 14) := ⟨⟨by decide +kernel, by decide +kernel⟩, List.mem_of_getElem? (i := 496) (by decide +kernel), List.mem_of_getElem? (i := 615) (by decide +kernel), List.mem_of_getElem? (i := 616) (by decide +kernel)⟩
theorem lw_p24 : lw_okq (⟨"BellTownsModel", "turnsNow", "(I)V"⟩, 14) := ⟨⟨by decide +kernel, by decide +kernel⟩, List.mem_of_getElem? (i := 496) (by decide +kernel), List.mem_of_getElem? (i := 631) (by decide +kernel), List.mem_of_getElem? (i := 632) (by decide +kernel)⟩
theorem lw_p25 : lw_okq (⟨"BellTownsModel", "turn", "()V"⟩, 14) := ⟨⟨by decide +kernel, by decide +kernel⟩, List.mem_of_getElem? (i := 496) (by decide +kernel), List.mem_of_getElem? (i := 635) (by decide +kernel), List.mem_of_getElem? (i := 636) (by decide +kernel)⟩
theorem lw_p26 : lw_okq (⟨"BellTownsModel", "listen", "()V"⟩, 14) := ⟨⟨by decide +kernel, by decide +kernel⟩, List.mem_of_getElem? (i := 496) (by decide +kernel), List.mem_of_getElem? (i := 639) (by decide +kernel), List.mem_of_getElem? (i := 640) (by decide +kernel)⟩
theorem lw_p27 : lw_okq (⟨"BellTownsModel", "rings", "(II)I"⟩, 14) := ⟨⟨by decide +kernel, by decide +kernel⟩, List.mem_of_getElem? (i := 496) (by decide +kernel), List.mem_of_getElem? (i := 643) (by decide +kernel), List.mem_of_getElem? (i := 644) (by decide +kernel)⟩
theorem lw_p28 : lw_okq (⟨"BellTownsModel", "wanted", "(II)I"⟩, 14) := ⟨⟨by decide +kernel, by decide +kernel⟩, List.mem_of_getElem? (i := 496) (by decide +kernel), List.mem_of_getElem? (i := 647) (by decide +kernel), List.mem_of_getElem? (i := 648) (by decide +kernel)⟩
theorem lw_p29 : lw_okq (⟨"BellTownsModel", "takes", "(II)I"⟩, 14) := ⟨⟨by decide +kernel, by decide +kernel⟩, List.mem_of_getElem? (i := 496) (by decide +kernel), List.mem_of_getElem? (i := 651) (by decide +kernel), List.mem_of_getElem? (i := 652) (by decide +kernel)⟩
theorem lw_p30 : lw_okq (⟨"BellTownsModel", "loudnessOf", "(II)I"⟩, 14) := ⟨⟨by decide +kernel, by decide +kernel⟩, List.mem_of_getElem? (i := 496) (by decide +kernel), List.mem_of_getElem? (i := 655) (by decide +kernel), List.mem_of_getElem? (i := 656) (by decide +kernel)⟩
theorem lw_p31 : lw_okq (⟨"BellTownsModel", "loudestNow", "()I"⟩, 14) := ⟨⟨by decide +kernel, by decide +kernel⟩, List.mem_of_getElem? (i := 496) (by decide +kernel), List.mem_of_getElem? (i := 659) (by decide +kernel), List.mem_of_getElem? (i := 660) (by decide +kernel)⟩
def lw_privs_2 : List (MethodName × Nat) := [(⟨"BellTownsModel", "record", "()V"⟩, 14), (⟨"BellTownsModel", "of", "(II)I"⟩, 14), (⟨"BellTownsModel", "isBell", "(II)Z"⟩, 14), (⟨"BellTownsModel", "isTaken", "(II)Z"⟩, 14), (⟨"BellTownsModel", "hasBells", "(II)Z"⟩, 14), (⟨"BellTownsModel", "allBells", "(I)I"⟩, 14), (⟨"BellTownsModel", "canSplice", "(II)Z"⟩, 14), (⟨"BellTownsModel", "spliceNow", "(II)I"⟩, 14), (⟨"BellTownsModel", "turnsNow", "(I)V"⟩, 14), (⟨"BellTownsModel", "turn", "()V"⟩, 14), (⟨"BellTownsModel", "listen", "()V"⟩, 14), (⟨"BellTownsModel", "rings", "(II)I"⟩, 14), (⟨"BellTownsModel", "wanted", "(II)I"⟩, 14), (⟨"BellTownsModel", "takes", "(II)I"⟩, 14), (⟨"BellTownsModel", "loudnessOf", "(II)I"⟩, 14), (⟨"BellTownsModel", "loudestNow", "()I"⟩, 14)]
theorem lw_r2 : ∀ q ∈ lw_privs_2, lw_okq q := List.forall_mem_cons.mpr ⟨lw_p16, List.forall_mem_cons.mpr ⟨lw_p17, List.forall_mem_cons.mpr ⟨lw_p18, List.forall_mem_cons.mpr ⟨lw_p19, List.forall_mem_cons.mpr ⟨lw_p20, List.forall_mem_cons.mpr ⟨lw_p21, List.forall_mem_cons.mpr ⟨lw_p22, List.forall_mem_cons.mpr ⟨lw_p23, List.forall_mem_cons.mpr ⟨lw_p24, List.forall_mem_cons.mpr ⟨lw_p25, List.forall_mem_cons.mpr ⟨lw_p26, List.forall_mem_cons.mpr ⟨lw_p27, List.forall_mem_cons.mpr ⟨lw_p28, List.forall_mem_cons.mpr ⟨lw_p29, List.forall_mem_cons.mpr ⟨lw_p30, List.forall_mem_cons.mpr ⟨lw_p31, fun _ h => absurd h List.not_mem_nil⟩⟩⟩⟩⟩⟩⟩⟩⟩⟩⟩⟩⟩⟩⟩⟩
theorem lw_p32 : lw_okq (⟨"BellTownsModel", "best", "(I)I"⟩, 14) := ⟨⟨by decide +kernel, by decide +kernel⟩, List.mem_of_getElem? (i := 496) (by decide +kernel), List.mem_of_getElem? (i := 663) (by decide +kernel), List.mem_of_getElem? (i := 664) (by decide +kernel)⟩
theorem lw_p33 : lw_okq (⟨"BellTownsModel", "heardIn", "(II)I"⟩, 14) := ⟨⟨by decide +kernel, by decide +kernel⟩, List.mem_of_getElem? (i := 496) (by decide +kernel), List.mem_of_getElem? (i := 667) (by decide +kernel), List.mem_of_getElem? (i := 668) (by decide +kernel)⟩
theorem lw_p34 : lw_okq (⟨"BellTownsModel", "wearDown", "(II)V"⟩, 14) := ⟨⟨by decide +kernel, by decide +kernel⟩, List.mem_of_getElem? (i := 496) (by decide +kernel), List.mem_of_getElem? (i := 671) (by decide +kernel), List.mem_of_getElem? (i := 672) (by decide +kernel)⟩
theorem lw_p35 : lw_okq (⟨"BellTownsModel", "isScript", "()Z"⟩, 14) := ⟨⟨by decide +kernel, by decide +kernel⟩, List.mem_of_getElem? (i := 496) (by decide +kernel), List.mem_of_getElem? (i := 687) (by decide +kernel), List.mem_of_getElem? (i := 688) (by decide +kernel)⟩
theorem lw_p36 : lw_okq (⟨"BellTownsModel", "readOrder", "()Z"⟩, 14) := ⟨⟨by decide +kernel, by decide +kernel⟩, List.mem_of_getElem? (i := 496) (by decide +kernel), List.mem_of_getElem? (i := 691) (by decide +kernel), List.mem_of_getElem? (i := 692) (by decide +kernel)⟩
theorem lw_p37 : lw_okq (⟨"BellTownsModel", "takesSign", "(II)Z"⟩, 14) := ⟨⟨by decide +kernel, by decide +kernel⟩, List.mem_of_getElem? (i := 496) (by decide +kernel), List.mem_of_getElem? (i := 695) (by decide +kernel), List.mem_of_getElem? (i := 696) (by decide +kernel)⟩
theorem lw_p38 : lw_okq (⟨"BellTownsModel", "isDone", "(I)Z"⟩, 14) := ⟨⟨by decide +kernel, by decide +kernel⟩, List.mem_of_getElem? (i := 496) (by decide +kernel), List.mem_of_getElem? (i := 703) (by decide +kernel), List.mem_of_getElem? (i := 704) (by decide +kernel)⟩
theorem lw_p39 : lw_okq (⟨"BellTownsModel", "reason", "(II)I"⟩, 14) := ⟨⟨by decide +kernel, by decide +kernel⟩, List.mem_of_getElem? (i := 496) (by decide +kernel), List.mem_of_getElem? (i := 715) (by decide +kernel), List.mem_of_getElem? (i := 716) (by decide +kernel)⟩
theorem lw_p40 : lw_okq (⟨"BellTownsModel", "sum", "(I)I"⟩, 14) := ⟨⟨by decide +kernel, by decide +kernel⟩, List.mem_of_getElem? (i := 496) (by decide +kernel), List.mem_of_getElem? (i := 723) (by decide +kernel), List.mem_of_getElem? (i := 724) (by decide +kernel)⟩
theorem lw_p41 : lw_okq (⟨"BellTownsModel", "brokenRopes", "()I"⟩, 14) := ⟨⟨by decide +kernel, by decide +kernel⟩, List.mem_of_getElem? (i := 496) (by decide +kernel), List.mem_of_getElem? (i := 727) (by decide +kernel), List.mem_of_getElem? (i := 728) (by decide +kernel)⟩
theorem lw_p42 : lw_okq (⟨"BellTownsModel", "silentTowns", "()I"⟩, 14) := ⟨⟨by decide +kernel, by decide +kernel⟩, List.mem_of_getElem? (i := 496) (by decide +kernel), List.mem_of_getElem? (i := 731) (by decide +kernel), List.mem_of_getElem? (i := 732) (by decide +kernel)⟩
theorem lw_p43 : lw_okq (⟨"BellTownsModel", "pointsWith", "(II)I"⟩, 14) := ⟨⟨by decide +kernel, by decide +kernel⟩, List.mem_of_getElem? (i := 496) (by decide +kernel), List.mem_of_getElem? (i := 751) (by decide +kernel), List.mem_of_getElem? (i := 752) (by decide +kernel)⟩
theorem lw_p44 : lw_okq (⟨"BellTownsModel", "putAside", "()V"⟩, 14) := ⟨⟨by decide +kernel, by decide +kernel⟩, List.mem_of_getElem? (i := 496) (by decide +kernel), List.mem_of_getElem? (i := 763) (by decide +kernel), List.mem_of_getElem? (i := 764) (by decide +kernel)⟩
theorem lw_p45 : lw_okq (⟨"BellTownsModel", "putBack", "()V"⟩, 14) := ⟨⟨by decide +kernel, by decide +kernel⟩, List.mem_of_getElem? (i := 496) (by decide +kernel), List.mem_of_getElem? (i := 767) (by decide +kernel), List.mem_of_getElem? (i := 768) (by decide +kernel)⟩
def lw_privs_3 : List (MethodName × Nat) := [(⟨"BellTownsModel", "best", "(I)I"⟩, 14), (⟨"BellTownsModel", "heardIn", "(II)I"⟩, 14), (⟨"BellTownsModel", "wearDown", "(II)V"⟩, 14), (⟨"BellTownsModel", "isScript", "()Z"⟩, 14), (⟨"BellTownsModel", "readOrder", "()Z"⟩, 14), (⟨"BellTownsModel", "takesSign", "(II)Z"⟩, 14), (⟨"BellTownsModel", "isDone", "(I)Z"⟩, 14), (⟨"BellTownsModel", "reason", "(II)I"⟩, 14), (⟨"BellTownsModel", "sum", "(I)I"⟩, 14), (⟨"BellTownsModel", "brokenRopes", "()I"⟩, 14), (⟨"BellTownsModel", "silentTowns", "()I"⟩, 14), (⟨"BellTownsModel", "pointsWith", "(II)I"⟩, 14), (⟨"BellTownsModel", "putAside", "()V"⟩, 14), (⟨"BellTownsModel", "putBack", "()V"⟩, 14)]
theorem lw_r3 : ∀ q ∈ lw_privs_3, lw_okq q := List.forall_mem_cons.mpr ⟨lw_p32, List.forall_mem_cons.mpr ⟨lw_p33, List.forall_mem_cons.mpr ⟨lw_p34, List.forall_mem_cons.mpr ⟨lw_p35, List.forall_mem_cons.mpr ⟨lw_p36, List.forall_mem_cons.mpr ⟨lw_p37, List.forall_mem_cons.mpr ⟨lw_p38, List.forall_mem_cons.mpr ⟨lw_p39, List.forall_mem_cons.mpr ⟨lw_p40, List.forall_mem_cons.mpr ⟨lw_p41, List.forall_mem_cons.mpr ⟨lw_p42, List.forall_mem_cons.mpr ⟨lw_p43, List.forall_mem_cons.mpr ⟨lw_p44, List.forall_mem_cons.mpr ⟨lw_p45, fun _ h => absurd h List.not_mem_nil⟩⟩⟩⟩⟩⟩⟩⟩⟩⟩⟩⟩⟩⟩
def lw_privs : List (MethodName × Nat) := lw_privs_1 ++ (lw_privs_2 ++ (lw_privs_3))
def lw_tbl : List Cond := k2_sels lw_privs ++ tables_1
theorem lw_privs_ok : ∀ q ∈ lw_privs, lw_okq q := by
  show ∀ q ∈ lw_privs_1 ++ (lw_privs_2 ++ (lw_privs_3)), lw_okq q
  exact List.forall_mem_append.mpr ⟨lw_r1, List.forall_mem_append.mpr ⟨lw_r2, lw_r3⟩⟩
/-- the streams that the claim lets the run draw from -/
abbrev lw_cs : List Choice := [Jvm.Choice.named "NaN.bits"]
theorem lw_bits : nanBits ∈ lw_cs := by first | decide | exact List.mem_cons_self | simp [lw_cs, nanBits]
/-! ===== BEGIN words of one list among another's, by their places ===== -/
theorem goodIn_r {big : List Cond} (ws : List Cond) (ps : List Nat) (hp : ws = ps.filterMap (fun i => big[i]?)) (h : ws.all goodWord = true) : GoodIn big ws := by
  intro w hw
  have h1 := List.all_eq_true.mp h w hw
  rw [hp] at hw
  obtain ⟨i, -, hi⟩ := List.mem_filterMap.mp hw
  have hm : w ∈ big := by first | exact List.mem_of_getElem? hi | exact List.getElem?_mem hi
  exact ⟨hm, good_of_word h1⟩
theorem goodIn_app {big a b : List Cond} (ha : GoodIn big a) (hb : GoodIn big b) : GoodIn big (a ++ b) := fun w h => (List.mem_append.mp h).elim (ha w) (hb w)
theorem goodIn_ca {big a b : List Cond} {c : Cond} (ha : GoodIn big (c :: a)) (hb : GoodIn big b) : GoodIn big (c :: (a ++ b)) := fun w h => (List.mem_cons.mp h).elim (fun e => ha w (List.mem_cons.mpr (Or.inl e))) (fun h => (List.mem_append.mp h).elim (fun h => ha w (List.mem_cons.mpr (Or.inr h))) (hb w))
theorem goodIn_sub {big ws : List Cond} (hm : ∀ w ∈ ws, w ∈ big) (h : ws.all goodWord = true) : GoodIn big ws := fun w hw => ⟨hm w hw, good_of_word (List.all_eq_true.mp h w hw)⟩
/-! ===== END ===== -/

/-! ===== BEGIN printed: names, fields, word lists, decode rows ===== -/
def RX0 : String := "BellTowns$History"
def TX0 : u_T := fun k => match k with
  | 0 => ("BellTowns$History", "states", "[LBellTowns$Valley;", true)
  | 1 => ("BellTowns$History", "oldest", "I", false)
  | _ => ("BellTowns$History", "size", "I", false)
def tyX0 : Nat → FieldType := fun k => match k with
  | 0 => .array (.object "BellTowns$Valley")
  | 1 => .int
  | _ => .int
abbrev wsX00 : List Cond := u_ws RX0 TX0 3
theorem nmX0 : ∀ a, a < 3 → ∀ b, b < 3 → a ≠ b → (TX0 a).2.1 ≠ (TX0 b).2.1 := by decide +kernel
theorem tyX0_ok : ∀ k, k < 3 → parseFieldDescriptor (TX0 k).2.2.1 = some (tyX0 k) := by decide +kernel
abbrev cX0_init : ByteArray := prog_2_method_1_code
def yX0_init : MethodName := ⟨RX0, "<init>", "()V"⟩
abbrev cX0_record : ByteArray := prog_2_method_2_code
def yX0_record : MethodName := ⟨RX0, "record", "(LBellTowns$Valley;)V"⟩
abbrev cX0_takeBack : ByteArray := prog_2_method_3_code
def yX0_takeBack : MethodName := ⟨RX0, "takeBack", "(LBellTowns$Valley;)V"⟩
abbrev cX0_placeOf : ByteArray := prog_2_method_4_code
def yX0_placeOf : MethodName := ⟨RX0, "placeOf", "(I)I"⟩
def RX1 : String := "BellTowns$Ringing"
def TX1 : u_T := fun k => match k with
  | 0 => ("BellTowns$Ringing", "reasons", "[I", true)
  | 1 => ("BellTowns$Ringing", "volumes", "[I", true)
  | 2 => ("BellTowns$Ringing", "ringersBusy", "[I", true)
  | 3 => ("BellTowns$Ringing", "winners", "[I", true)
  | _ => ("BellTowns$Ringing", "loudest", "I", false)
def tyX1 : Nat → FieldType := fun k => match k with
  | 0 => .array .int
  | 1 => .array .int
  | 2 => .array .int
  | 3 => .array .int
  | _ => .int
abbrev wsX10 : List Cond := u_ws RX1 TX1 5
theorem nmX1 : ∀ a, a < 5 → ∀ b, b < 5 → a ≠ b → (TX1 a).2.1 ≠ (TX1 b).2.1 := by decide +kernel
theorem tyX1_ok : ∀ k, k < 5 → parseFieldDescriptor (TX1 k).2.2.1 = some (tyX1 k) := by decide +kernel
abbrev cX1_init : ByteArray := prog_3_method_1_code
def yX1_init : MethodName := ⟨RX1, "<init>", "()V"⟩
abbrev cX1_foresee : ByteArray := prog_3_method_2_code
def yX1_foresee : MethodName := ⟨RX1, "foresee", "(LBellTowns$Valley;)V"⟩
abbrev cX1_ringIn : ByteArray := prog_3_method_3_code
def yX1_ringIn : MethodName := ⟨RX1, "ringIn", "(LBellTowns$Valley;I)V"⟩
abbrev cX1_soundIn : ByteArray := prog_3_method_4_code
def yX1_soundIn : MethodName := ⟨RX1, "soundIn", "(LBellTowns$Valley;II)I"⟩
abbrev cX1_winnerIn : ByteArray := prog_3_method_5_code
def yX1_winnerIn : MethodName := ⟨RX1, "winnerIn", "(LBellTowns$Valley;I)I"⟩
abbrev cX1_pointsOf : ByteArray := prog_3_method_6_code
def yX1_pointsOf : MethodName := ⟨RX1, "pointsOf", "(I)I"⟩
def RX2 : String := "BellTowns$Script"
def TX2 : u_T := fun k => match k with
  | 0 => ("BellTowns$Script", "signs", "[C", true)
  | _ => ("BellTowns$Script", "length", "I", false)
def tyX2 : Nat → FieldType := fun k => match k with
  | 0 => .array .char
  | _ => .int
abbrev wsX20 : List Cond := u_ws RX2 TX2 2
theorem nmX2 : ∀ a, a < 2 → ∀ b, b < 2 → a ≠ b → (TX2 a).2.1 ≠ (TX2 b).2.1 := by decide +kernel
theorem tyX2_ok : ∀ k, k < 2 → parseFieldDescriptor (TX2 k).2.2.1 = some (tyX2 k) := by decide +kernel
abbrev cX2_init : ByteArray := prog_4_method_1_code
def yX2_init : MethodName := ⟨RX2, "<init>", "()V"⟩
abbrev cX2_add : ByteArray := prog_4_method_2_code
def yX2_add : MethodName := ⟨RX2, "add", "(C)V"⟩
abbrev cX2_signAt : ByteArray := prog_4_method_3_code
def yX2_signAt : MethodName := ⟨RX2, "signAt", "(I)I"⟩
abbrev cX2_digitAt : ByteArray := prog_4_method_4_code
def yX2_digitAt : MethodName := ⟨RX2, "digitAt", "(I)I"⟩
abbrev cX2_beginsOrder : ByteArray := prog_4_method_5_code
def yX2_beginsOrder : MethodName := ⟨RX2, "beginsOrder", "(I)Z"⟩
abbrev cX2_bellsFrom : ByteArray := prog_4_method_6_code
def yX2_bellsFrom : MethodName := ⟨RX2, "bellsFrom", "(I)I"⟩
abbrev cX2_firstFault : ByteArray := prog_4_method_7_code
def yX2_firstFault : MethodName := ⟨RX2, "firstFault", "()I"⟩
abbrev cX2_after : ByteArray := prog_4_method_8_code
def yX2_after : MethodName := ⟨RX2, "after", "(II)I"⟩
abbrev cX2_afterLetter : ByteArray := prog_4_method_9_code
def yX2_afterLetter : MethodName := ⟨RX2, "afterLetter", "(I)I"⟩
abbrev cX2_afterBells : ByteArray := prog_4_method_10_code
def yX2_afterBells : MethodName := ⟨RX2, "afterBells", "(II)I"⟩
abbrev cX2_isDigit : ByteArray := prog_4_method_11_code
def yX2_isDigit : MethodName := ⟨RX2, "isDigit", "(III)Z"⟩
def RX3 : String := "BellTowns$Valley"
def TX3 : u_T := fun k => match k with
  | 0 => ("BellTowns$Valley", "milestones", "[I", true)
  | 1 => ("BellTowns$Valley", "ringers", "[I", true)
  | 2 => ("BellTowns$Valley", "tired", "[I", true)
  | 3 => ("BellTowns$Valley", "bellCounts", "[I", true)
  | 4 => ("BellTowns$Valley", "plans", "[I", true)
  | 5 => ("BellTowns$Valley", "feastDays", "[I", true)
  | 6 => ("BellTowns$Valley", "silences", "[I", true)
  | 7 => ("BellTowns$Valley", "points", "[I", true)
  | 8 => ("BellTowns$Valley", "timesLoudest", "[I", true)
  | 9 => ("BellTowns$Valley", "weights", "[I", true)
  | 10 => ("BellTowns$Valley", "wears", "[I", true)
  | 11 => ("BellTowns$Valley", "timesRung", "[I", true)
  | 12 => ("BellTowns$Valley", "fade", "I", false)
  | 13 => ("BellTowns$Valley", "rest", "I", false)
  | 14 => ("BellTowns$Valley", "turn", "I", false)
  | 15 => ("BellTowns$Valley", "turnsWithoutLoudest", "I", false)
  | _ => ("BellTowns$Valley", "latestLoudest", "I", false)
def tyX3 : Nat → FieldType := fun k => match k with
  | 0 => .array .int
  | 1 => .array .int
  | 2 => .array .int
  | 3 => .array .int
  | 4 => .array .int
  | 5 => .array .int
  | 6 => .array .int
  | 7 => .array .int
  | 8 => .array .int
  | 9 => .array .int
  | 10 => .array .int
  | 11 => .array .int
  | 12 => .int
  | 13 => .int
  | 14 => .int
  | 15 => .int
  | _ => .int
abbrev wsX30 : List Cond := u_ws RX3 TX3 17
theorem nmX3 : ∀ a, a < 17 → ∀ b, b < 17 → a ≠ b → (TX3 a).2.1 ≠ (TX3 b).2.1 := by decide +kernel
theorem tyX3_ok : ∀ k, k < 17 → parseFieldDescriptor (TX3 k).2.2.1 = some (tyX3 k) := by decide +kernel
abbrev cX3_init : ByteArray := prog_5_method_1_code
def yX3_init : MethodName := ⟨RX3, "<init>", "()V"⟩
abbrev cX3_copyFrom : ByteArray := prog_5_method_2_code
def yX3_copyFrom : MethodName := ⟨RX3, "copyFrom", "(LBellTowns$Valley;)V"⟩
abbrev cX3_copyTowns : ByteArray := prog_5_method_3_code
def yX3_copyTowns : MethodName := ⟨RX3, "copyTowns", "([I[I)V"⟩
abbrev cX3_copyBells : ByteArray := prog_5_method_4_code
def yX3_copyBells : MethodName := ⟨RX3, "copyBells", "([I[I)V"⟩
abbrev cX3_hasBell : ByteArray := prog_5_method_5_code
def yX3_hasBell : MethodName := ⟨RX3, "hasBell", "(II)Z"⟩
abbrev cX3_everyBell : ByteArray := prog_5_method_6_code
def yX3_everyBell : MethodName := ⟨RX3, "everyBell", "(I)I"⟩
abbrev cX3_rested : ByteArray := prog_5_method_7_code
def yX3_rested : MethodName := ⟨RX3, "rested", "(I)I"⟩
abbrev cX3_isTakenByAnother : ByteArray := prog_5_method_8_code
def yX3_isTakenByAnother : MethodName := ⟨RX3, "isTakenByAnother", "(II)Z"⟩
abbrev cX3_addBell : ByteArray := prog_5_method_9_code
def yX3_addBell : MethodName := ⟨RX3, "addBell", "(II)I"⟩
abbrev cX3_removeBell : ByteArray := prog_5_method_10_code
def yX3_removeBell : MethodName := ⟨RX3, "removeBell", "(II)V"⟩
abbrev cX3_fillSlot : ByteArray := prog_5_method_11_code
def yX3_fillSlot : MethodName := ⟨RX3, "fillSlot", "(IIII)V"⟩
abbrev cX3_wantedBells : ByteArray := prog_5_method_12_code
def yX3_wantedBells : MethodName := ⟨RX3, "wantedBells", "(I)I"⟩
abbrev cX3_allBells : ByteArray := prog_5_method_13_code
def yX3_allBells : MethodName := ⟨RX3, "allBells", "()I"⟩
abbrev cX3_brokenRopes : ByteArray := prog_5_method_14_code
def yX3_brokenRopes : MethodName := ⟨RX3, "brokenRopes", "()I"⟩
abbrev cX3_silentTowns : ByteArray := prog_5_method_15_code
def yX3_silentTowns : MethodName := ⟨RX3, "silentTowns", "()I"⟩
abbrev cX3_allPoints : ByteArray := prog_5_method_16_code
def yX3_allPoints : MethodName := ⟨RX3, "allPoints", "()I"⟩
abbrev cX3_pass : ByteArray := prog_5_method_17_code
def yX3_pass : MethodName := ⟨RX3, "pass", "(LBellTowns$Ringing;)V"⟩
abbrev cX3_givePoints : ByteArray := prog_5_method_18_code
def yX3_givePoints : MethodName := ⟨RX3, "givePoints", "(LBellTowns$Ringing;)V"⟩
abbrev cX3_wearRopes : ByteArray := prog_5_method_19_code
def yX3_wearRopes : MethodName := ⟨RX3, "wearRopes", "(LBellTowns$Ringing;)V"⟩
abbrev cX3_tireRingers : ByteArray := prog_5_method_20_code
def yX3_tireRingers : MethodName := ⟨RX3, "tireRingers", "(LBellTowns$Ringing;)V"⟩
abbrev cX3_fallSilent : ByteArray := prog_5_method_21_code
def yX3_fallSilent : MethodName := ⟨RX3, "fallSilent", "(I)V"⟩
def RX4 : String := "BellTowns"
def TX4 : u_T := fun k => match k with
  | 0 => ("BellTowns", "now", "LBellTowns$Valley;", true)
  | 1 => ("BellTowns", "trial", "LBellTowns$Valley;", true)
  | 2 => ("BellTowns", "snapshot", "LBellTowns$Valley;", true)
  | 3 => ("BellTowns", "snapshotTaken", "Z", false)
  | 4 => ("BellTowns", "history", "LBellTowns$History;", true)
  | 5 => ("BellTowns", "ringing", "LBellTowns$Ringing;", true)
  | _ => ("BellTowns", "script", "LBellTowns$Script;", true)
def tyX4 : Nat → FieldType := fun k => match k with
  | 0 => .object "BellTowns$Valley"
  | 1 => .object "BellTowns$Valley"
  | 2 => .object "BellTowns$Valley"
  | 3 => .boolean
  | 4 => .object "BellTowns$History"
  | 5 => .object "BellTowns$Ringing"
  | _ => .object "BellTowns$Script"
abbrev wsX40 : List Cond := u_ws RX4 TX4 7
theorem nmX4 : ∀ a, a < 7 → ∀ b, b < 7 → a ≠ b → (TX4 a).2.1 ≠ (TX4 b).2.1 := by decide +kernel
theorem tyX4_ok : ∀ k, k < 7 → parseFieldDescriptor (TX4 k).2.2.1 = some (tyX4 k) := by decide +kernel
abbrev cX4_init : ByteArray := prog_1_method_1_code
def yX4_init : MethodName := ⟨RX4, "<init>", "()V"⟩
abbrev cX4_hang : ByteArray := prog_1_method_2_code
def yX4_hang : MethodName := ⟨RX4, "hang", "(II)I"⟩
abbrev cX4_melt : ByteArray := prog_1_method_3_code
def yX4_melt : MethodName := ⟨RX4, "melt", "(II)I"⟩
abbrev cX4_settle : ByteArray := prog_1_method_4_code
def yX4_settle : MethodName := ⟨RX4, "settle", "(III)I"⟩
abbrev cX4_plan : ByteArray := prog_1_method_5_code
def yX4_plan : MethodName := ⟨RX4, "plan", "(II)I"⟩
abbrev cX4_splice : ByteArray := prog_1_method_6_code
def yX4_splice : MethodName := ⟨RX4, "splice", "(II)I"⟩
abbrev cX4_feast : ByteArray := prog_1_method_7_code
def yX4_feast : MethodName := ⟨RX4, "feast", "(II)I"⟩
abbrev cX4_set : ByteArray := prog_1_method_8_code
def yX4_set : MethodName := ⟨RX4, "set", "(II)I"⟩
abbrev cX4_turns : ByteArray := prog_1_method_9_code
def yX4_turns : MethodName := ⟨RX4, "turns", "(I)I"⟩
abbrev cX4_append : ByteArray := prog_1_method_10_code
def yX4_append : MethodName := ⟨RX4, "append", "(I)I"⟩
abbrev cX4_clearText : ByteArray := prog_1_method_11_code
def yX4_clearText : MethodName := ⟨RX4, "clearText", "()I"⟩
abbrev cX4_fault : ByteArray := prog_1_method_12_code
def yX4_fault : MethodName := ⟨RX4, "fault", "()I"⟩
abbrev cX4_run : ByteArray := prog_1_method_13_code
def yX4_run : MethodName := ⟨RX4, "run", "()I"⟩
abbrev cX4_undo : ByteArray := prog_1_method_14_code
def yX4_undo : MethodName := ⟨RX4, "undo", "()I"⟩
abbrev cX4_save : ByteArray := prog_1_method_15_code
def yX4_save : MethodName := ⟨RX4, "save", "()I"⟩
abbrev cX4_restore : ByteArray := prog_1_method_16_code
def yX4_restore : MethodName := ⟨RX4, "restore", "()I"⟩
abbrev cX4_town : ByteArray := prog_1_method_17_code
def yX4_town : MethodName := ⟨RX4, "town", "(II)I"⟩
abbrev cX4_bell : ByteArray := prog_1_method_18_code
def yX4_bell : MethodName := ⟨RX4, "bell", "(III)I"⟩
abbrev cX4_count : ByteArray := prog_1_method_19_code
def yX4_count : MethodName := ⟨RX4, "count", "(I)I"⟩
abbrev cX4_loudness : ByteArray := prog_1_method_20_code
def yX4_loudness : MethodName := ⟨RX4, "loudness", "(I)I"⟩
abbrev cX4_heard : ByteArray := prog_1_method_21_code
def yX4_heard : MethodName := ⟨RX4, "heard", "(II)I"⟩
abbrev cX4_winner : ByteArray := prog_1_method_22_code
def yX4_winner : MethodName := ⟨RX4, "winner", "(I)I"⟩
abbrev cX4_ifPlanned : ByteArray := prog_1_method_23_code
def yX4_ifPlanned : MethodName := ⟨RX4, "ifPlanned", "(II)I"⟩
abbrev cX4_bestPlan : ByteArray := prog_1_method_24_code
def yX4_bestPlan : MethodName := ⟨RX4, "bestPlan", "(I)I"⟩
abbrev cX4_pointsIn : ByteArray := prog_1_method_25_code
def yX4_pointsIn : MethodName := ⟨RX4, "pointsIn", "(II)I"⟩
abbrev cX4_share : ByteArray := prog_1_method_26_code
def yX4_share : MethodName := ⟨RX4, "share", "(I)D"⟩
abbrev cX4_isTown : ByteArray := prog_1_method_27_code
def yX4_isTown : MethodName := ⟨RX4, "isTown", "(I)Z"⟩
abbrev cX4_slot : ByteArray := prog_1_method_28_code
def yX4_slot : MethodName := ⟨RX4, "slot", "(II)I"⟩
abbrev cX4_ringersFor : ByteArray := prog_1_method_29_code
def yX4_ringersFor : MethodName := ⟨RX4, "ringersFor", "(I)I"⟩
abbrev cX4_isInRange : ByteArray := prog_1_method_30_code
def yX4_isInRange : MethodName := ⟨RX4, "isInRange", "(II)Z"⟩
abbrev cX4_planError : ByteArray := prog_1_method_31_code
def yX4_planError : MethodName := ⟨RX4, "planError", "(II)I"⟩
abbrev cX4_changePlan : ByteArray := prog_1_method_32_code
def yX4_changePlan : MethodName := ⟨RX4, "changePlan", "(II)I"⟩
abbrev cX4_spliceError : ByteArray := prog_1_method_33_code
def yX4_spliceError : MethodName := ⟨RX4, "spliceError", "(II)I"⟩
abbrev cX4_mendRope : ByteArray := prog_1_method_34_code
def yX4_mendRope : MethodName := ⟨RX4, "mendRope", "(II)I"⟩
abbrev cX4_turnsError : ByteArray := prog_1_method_35_code
def yX4_turnsError : MethodName := ⟨RX4, "turnsError", "(I)I"⟩
abbrev cX4_makeTurns : ByteArray := prog_1_method_36_code
def yX4_makeTurns : MethodName := ⟨RX4, "makeTurns", "(LBellTowns$Valley;I)V"⟩
abbrev cX4_pointsWithPlan : ByteArray := prog_1_method_37_code
def yX4_pointsWithPlan : MethodName := ⟨RX4, "pointsWithPlan", "(II)I"⟩
abbrev cX4_carryOut : ByteArray := prog_1_method_38_code
def yX4_carryOut : MethodName := ⟨RX4, "carryOut", "(I)Z"⟩
def RX5 : String := "BellTownsModel"
def TX5 : u_T := fun k => match k with
  | 0 => ("BellTownsModel", "row", "[I", true)
  | 1 => ("BellTownsModel", "history", "[I", true)
  | 2 => ("BellTownsModel", "states", "I", false)
  | 3 => ("BellTownsModel", "snapshot", "[I", true)
  | 4 => ("BellTownsModel", "isSaved", "Z", false)
  | 5 => ("BellTownsModel", "aside", "[I", true)
  | 6 => ("BellTownsModel", "loud", "[I", true)
  | 7 => ("BellTownsModel", "text", "[I", true)
  | 8 => ("BellTownsModel", "length", "I", false)
  | 9 => ("BellTownsModel", "spot", "I", false)
  | 10 => ("BellTownsModel", "orders", "I", false)
  | 11 => ("BellTownsModel", "letter", "[I", true)
  | 12 => ("BellTownsModel", "one", "[I", true)
  | _ => ("BellTownsModel", "bells", "[I", true)
def tyX5 : Nat → FieldType := fun k => match k with
  | 0 => .array .int
  | 1 => .array .int
  | 2 => .int
  | 3 => .array .int
  | 4 => .boolean
  | 5 => .array .int
  | 6 => .array .int
  | 7 => .array .int
  | 8 => .int
  | 9 => .int
  | 10 => .int
  | 11 => .array .int
  | 12 => .array .int
  | _ => .array .int
abbrev wsX50 : List Cond := u_ws RX5 TX5 14
theorem nmX5 : ∀ a, a < 14 → ∀ b, b < 14 → a ≠ b → (TX5 a).2.1 ≠ (TX5 b).2.1 := by decide +kernel
theorem tyX5_ok : ∀ k, k < 14 → parseFieldDescriptor (TX5 k).2.2.1 = some (tyX5 k) := by decide +kernel
abbrev cX5_init : ByteArray := prog_7_method_1_code
def yX5_init : MethodName := ⟨RX5, "<init>", "()V"⟩
abbrev cX5_in : ByteArray := prog_7_method_2_code
def yX5_in : MethodName := ⟨RX5, "in", "(III)Z"⟩
abbrev cX5_isTown : ByteArray := prog_7_method_3_code
def yX5_isTown : MethodName := ⟨RX5, "isTown", "(I)Z"⟩
abbrev cX5_isBell : ByteArray := prog_7_method_4_code
def yX5_isBell : MethodName := ⟨RX5, "isBell", "(II)Z"⟩
abbrev cX5_of : ByteArray := prog_7_method_5_code
def yX5_of : MethodName := ⟨RX5, "of", "(II)I"⟩
abbrev cX5_put : ByteArray := prog_7_method_6_code
def yX5_put : MethodName := ⟨RX5, "put", "(III)V"⟩
abbrev cX5_putAside : ByteArray := prog_7_method_7_code
def yX5_putAside : MethodName := ⟨RX5, "putAside", "()V"⟩
abbrev cX5_putBack : ByteArray := prog_7_method_8_code
def yX5_putBack : MethodName := ⟨RX5, "putBack", "()V"⟩
abbrev cX5_record : ByteArray := prog_7_method_9_code
def yX5_record : MethodName := ⟨RX5, "record", "()V"⟩
abbrev cX5_undo : ByteArray := prog_7_method_10_code
def yX5_undo : MethodName := ⟨RX5, "undo", "()I"⟩
abbrev cX5_save : ByteArray := prog_7_method_11_code
def yX5_save : MethodName := ⟨RX5, "save", "()I"⟩
abbrev cX5_restore : ByteArray := prog_7_method_12_code
def yX5_restore : MethodName := ⟨RX5, "restore", "()I"⟩
abbrev cX5_takes : ByteArray := prog_7_method_13_code
def yX5_takes : MethodName := ⟨RX5, "takes", "(II)I"⟩
abbrev cX5_allBells : ByteArray := prog_7_method_14_code
def yX5_allBells : MethodName := ⟨RX5, "allBells", "(I)I"⟩
abbrev cX5_wanted : ByteArray := prog_7_method_15_code
def yX5_wanted : MethodName := ⟨RX5, "wanted", "(II)I"⟩
abbrev cX5_rings : ByteArray := prog_7_method_16_code
def yX5_rings : MethodName := ⟨RX5, "rings", "(II)I"⟩
abbrev cX5_loudnessOf : ByteArray := prog_7_method_17_code
def yX5_loudnessOf : MethodName := ⟨RX5, "loudnessOf", "(II)I"⟩
abbrev cX5_listen : ByteArray := prog_7_method_18_code
def yX5_listen : MethodName := ⟨RX5, "listen", "()V"⟩
abbrev cX5_heardIn : ByteArray := prog_7_method_19_code
def yX5_heardIn : MethodName := ⟨RX5, "heardIn", "(II)I"⟩
abbrev cX5_best : ByteArray := prog_7_method_20_code
def yX5_best : MethodName := ⟨RX5, "best", "(I)I"⟩
abbrev cX5_loudestNow : ByteArray := prog_7_method_21_code
def yX5_loudestNow : MethodName := ⟨RX5, "loudestNow", "()I"⟩
abbrev cX5_wearDown : ByteArray := prog_7_method_22_code
def yX5_wearDown : MethodName := ⟨RX5, "wearDown", "(II)V"⟩
abbrev cX5_turn : ByteArray := prog_7_method_23_code
def yX5_turn : MethodName := ⟨RX5, "turn", "()V"⟩
abbrev cX5_hang : ByteArray := prog_7_method_24_code
def yX5_hang : MethodName := ⟨RX5, "hang", "(II)I"⟩
abbrev cX5_melt : ByteArray := prog_7_method_25_code
def yX5_melt : MethodName := ⟨RX5, "melt", "(II)I"⟩
abbrev cX5_isTaken : ByteArray := prog_7_method_26_code
def yX5_isTaken : MethodName := ⟨RX5, "isTaken", "(II)Z"⟩
abbrev cX5_settle : ByteArray := prog_7_method_27_code
def yX5_settle : MethodName := ⟨RX5, "settle", "(III)I"⟩
abbrev cX5_hasBells : ByteArray := prog_7_method_28_code
def yX5_hasBells : MethodName := ⟨RX5, "hasBells", "(II)Z"⟩
abbrev cX5_plan : ByteArray := prog_7_method_29_code
def yX5_plan : MethodName := ⟨RX5, "plan", "(II)I"⟩
abbrev cX5_canSplice : ByteArray := prog_7_method_30_code
def yX5_canSplice : MethodName := ⟨RX5, "canSplice", "(II)Z"⟩
abbrev cX5_spliceNow : ByteArray := prog_7_method_31_code
def yX5_spliceNow : MethodName := ⟨RX5, "spliceNow", "(II)I"⟩
abbrev cX5_splice : ByteArray := prog_7_method_32_code
def yX5_splice : MethodName := ⟨RX5, "splice", "(II)I"⟩
abbrev cX5_feast : ByteArray := prog_7_method_33_code
def yX5_feast : MethodName := ⟨RX5, "feast", "(II)I"⟩
abbrev cX5_set : ByteArray := prog_7_method_34_code
def yX5_set : MethodName := ⟨RX5, "set", "(II)I"⟩
abbrev cX5_turnsNow : ByteArray := prog_7_method_35_code
def yX5_turnsNow : MethodName := ⟨RX5, "turnsNow", "(I)V"⟩
abbrev cX5_turns : ByteArray := prog_7_method_36_code
def yX5_turns : MethodName := ⟨RX5, "turns", "(I)I"⟩
abbrev cX5_append : ByteArray := prog_7_method_37_code
def yX5_append : MethodName := ⟨RX5, "append", "(I)I"⟩
abbrev cX5_clearText : ByteArray := prog_7_method_38_code
def yX5_clearText : MethodName := ⟨RX5, "clearText", "()I"⟩
abbrev cX5_takesSign : ByteArray := prog_7_method_39_code
def yX5_takesSign : MethodName := ⟨RX5, "takesSign", "(II)Z"⟩
abbrev cX5_readOrder : ByteArray := prog_7_method_40_code
def yX5_readOrder : MethodName := ⟨RX5, "readOrder", "()Z"⟩
abbrev cX5_isScript : ByteArray := prog_7_method_41_code
def yX5_isScript : MethodName := ⟨RX5, "isScript", "()Z"⟩
abbrev cX5_fault : ByteArray := prog_7_method_42_code
def yX5_fault : MethodName := ⟨RX5, "fault", "()I"⟩
abbrev cX5_isDone : ByteArray := prog_7_method_43_code
def yX5_isDone : MethodName := ⟨RX5, "isDone", "(I)Z"⟩
abbrev cX5_run : ByteArray := prog_7_method_44_code
def yX5_run : MethodName := ⟨RX5, "run", "()I"⟩
abbrev cX5_town : ByteArray := prog_7_method_45_code
def yX5_town : MethodName := ⟨RX5, "town", "(II)I"⟩
abbrev cX5_reason : ByteArray := prog_7_method_46_code
def yX5_reason : MethodName := ⟨RX5, "reason", "(II)I"⟩
abbrev cX5_bell : ByteArray := prog_7_method_47_code
def yX5_bell : MethodName := ⟨RX5, "bell", "(III)I"⟩
abbrev cX5_sum : ByteArray := prog_7_method_48_code
def yX5_sum : MethodName := ⟨RX5, "sum", "(I)I"⟩
abbrev cX5_brokenRopes : ByteArray := prog_7_method_49_code
def yX5_brokenRopes : MethodName := ⟨RX5, "brokenRopes", "()I"⟩
abbrev cX5_silentTowns : ByteArray := prog_7_method_50_code
def yX5_silentTowns : MethodName := ⟨RX5, "silentTowns", "()I"⟩
abbrev cX5_count : ByteArray := prog_7_method_51_code
def yX5_count : MethodName := ⟨RX5, "count", "(I)I"⟩
abbrev cX5_loudness : ByteArray := prog_7_method_52_code
def yX5_loudness : MethodName := ⟨RX5, "loudness", "(I)I"⟩
abbrev cX5_heard : ByteArray := prog_7_method_53_code
def yX5_heard : MethodName := ⟨RX5, "heard", "(II)I"⟩
abbrev cX5_winner : ByteArray := prog_7_method_54_code
def yX5_winner : MethodName := ⟨RX5, "winner", "(I)I"⟩
abbrev cX5_pointsWith : ByteArray := prog_7_method_55_code
def yX5_pointsWith : MethodName := ⟨RX5, "pointsWith", "(II)I"⟩
abbrev cX5_ifPlanned : ByteArray := prog_7_method_56_code
def yX5_ifPlanned : MethodName := ⟨RX5, "ifPlanned", "(II)I"⟩
abbrev cX5_bestPlan : ByteArray := prog_7_method_57_code
def yX5_bestPlan : MethodName := ⟨RX5, "bestPlan", "(I)I"⟩
abbrev cX5_pointsIn : ByteArray := prog_7_method_58_code
def yX5_pointsIn : MethodName := ⟨RX5, "pointsIn", "(II)I"⟩
abbrev cX5_share : ByteArray := prog_7_method_59_code
def yX5_share : MethodName := ⟨RX5, "share", "(I)D"⟩
def RL : String := "BellTownsLaw"
abbrev cL_law : ByteArray := code
def yL_law : MethodName := ⟨RL, "law", "([I)Z"⟩
abbrev vwCl : List vw_C := [(RX0, TX0, 3), (RX1, TX1, 5), (RX2, TX2, 2), (RX3, TX3, 17), (RX4, TX4, 7), (RX5, TX5, 14)]
end
section
/-- the words that every method may use: the good ones of the tables -/
def wsL_law : List Cond := lw_tbl.filter goodWord
theorem aw_in : ∀ w ∈ wsL_law, w ∈ lw_tbl := fun _ h => (List.mem_filter.mp h).1
theorem aw_of {w : Cond} (h : w ∈ lw_tbl) (hg : goodWord w = true) : w ∈ wsL_law := List.mem_filter.mpr ⟨h, hg⟩
theorem t1_in {w : Cond} (h : w ∈ tables_1_1) : w ∈ lw_tbl := List.mem_append_right _ (List.mem_append_left _ h)
theorem t2_in {w : Cond} (h : w ∈ tables_1_2) : w ∈ lw_tbl := List.mem_append_right _ (List.mem_append_right _ (List.mem_append_left _ h))
theorem t3_in {w : Cond} (h : w ∈ tables_1_3) : w ∈ lw_tbl := List.mem_append_right _ (List.mem_append_right _ (List.mem_append_right _ (List.mem_append_left _ h)))
theorem t4_in {w : Cond} (h : w ∈ tables_1_4) : w ∈ lw_tbl := List.mem_append_right _ (List.mem_append_right _ (List.mem_append_right _ (List.mem_append_right _ h)))
theorem q1_0 : Cond.initialized RL ∈ wsL_law := aw_of (t1_in (List.mem_of_getElem? (i := 0) rfl)) rfl
theorem q1_1 : Cond.initialized RX4 ∈ wsL_law := aw_of (t1_in (List.mem_of_getElem? (i := 1) rfl)) rfl
theorem q1_2 : Cond.initialized RX3 ∈ wsL_law := aw_of (t1_in (List.mem_of_getElem? (i := 2) rfl)) rfl
theorem q1_3 : Cond.initialized RX0 ∈ wsL_law := aw_of (t1_in (List.mem_of_getElem? (i := 3) rfl)) rfl
theorem q1_4 : Cond.initialized RX1 ∈ wsL_law := aw_of (t1_in (List.mem_of_getElem? (i := 4) rfl)) rfl
theorem q1_5 : Cond.initialized RX2 ∈ wsL_law := aw_of (t1_in (List.mem_of_getElem? (i := 5) rfl)) rfl
theorem q1_6 : Cond.initialized RX5 ∈ wsL_law := aw_of (t1_in (List.mem_of_getElem? (i := 6) rfl)) rfl
theorem q1_7 : Cond.initialized "java/lang/System" ∈ wsL_law := aw_of (t1_in (List.mem_of_getElem? (i := 7) rfl)) rfl
theorem q1_8 : Cond.initialized "java/lang/Math" ∈ wsL_law := aw_of (t1_in (List.mem_of_getElem? (i := 8) rfl)) rfl
theorem q1_9 : Cond.classLink RL 7 RX4 ∈ wsL_law := aw_of (t1_in (List.mem_of_getElem? (i := 9) rfl)) rfl
theorem q1_10 : Cond.instantiable RX4 7 ∈ wsL_law := aw_of (t1_in (List.mem_of_getElem? (i := 10) rfl)) rfl
theorem q1_11 : Cond.methodLink RL 9 yX4_init ∈ wsL_law := aw_of (t1_in (List.mem_of_getElem? (i := 11) rfl)) rfl
theorem q1_12 : Cond.instanceMethod yX4_init ∈ wsL_law := aw_of (t1_in (List.mem_of_getElem? (i := 12) rfl)) rfl
theorem q1_13 : Cond.code yX4_init cX4_init 1 none ∈ wsL_law := aw_of (t1_in (List.mem_of_getElem? (i := 13) rfl)) rfl
theorem q1_14 : Cond.methodLink RX4 1 ⟨"java/lang/Object", "<init>", "()V"⟩ ∈ wsL_law := aw_of (t1_in (List.mem_of_getElem? (i := 14) rfl)) rfl
theorem q1_15 : Cond.instanceMethod ⟨"java/lang/Object", "<init>", "()V"⟩ ∈ wsL_law := aw_of (t1_in (List.mem_of_getElem? (i := 15) rfl)) rfl
theorem q1_16 : Cond.code ⟨"java/lang/Object", "<init>", "()V"⟩ object_method_1_code 1 none ∈ wsL_law := aw_of (t1_in (List.mem_of_getElem? (i := 16) rfl)) rfl
theorem q1_17 : Cond.classLink RX4 7 RX3 ∈ wsL_law := aw_of (t1_in (List.mem_of_getElem? (i := 17) rfl)) rfl
theorem q1_18 : Cond.instantiable RX3 17 ∈ wsL_law := aw_of (t1_in (List.mem_of_getElem? (i := 18) rfl)) rfl
theorem q1_19 : Cond.methodLink RX4 9 yX3_init ∈ wsL_law := aw_of (t1_in (List.mem_of_getElem? (i := 19) rfl)) rfl
theorem q1_20 : Cond.instanceMethod yX3_init ∈ wsL_law := aw_of (t1_in (List.mem_of_getElem? (i := 20) rfl)) rfl
theorem q1_21 : Cond.code yX3_init cX3_init 2 none ∈ wsL_law := aw_of (t1_in (List.mem_of_getElem? (i := 21) rfl)) rfl
theorem q1_22 : Cond.methodLink RX3 3 ⟨"java/lang/Object", "<init>", "()V"⟩ ∈ wsL_law := aw_of (t1_in (List.mem_of_getElem? (i := 22) rfl)) rfl
theorem q1_23 : Cond.fieldLink RX3 9 "BellTowns$Valley" "milestones" "[I" ∈ wsL_law := aw_of (t1_in (List.mem_of_getElem? (i := 23) rfl)) rfl
theorem q1_24 : Cond.fieldLink RX1 61 "BellTowns$Valley" "milestones" "[I" ∈ wsL_law := aw_of (t1_in (List.mem_of_getElem? (i := 24) rfl)) rfl
theorem q1_25 : Cond.fieldLink RX4 80 "BellTowns$Valley" "milestones" "[I" ∈ wsL_law := aw_of (t1_in (List.mem_of_getElem? (i := 25) rfl)) rfl
theorem q1_26 : Cond.fieldLink RX3 15 "BellTowns$Valley" "ringers" "[I" ∈ wsL_law := aw_of (t1_in (List.mem_of_getElem? (i := 26) rfl)) rfl
theorem q1_27 : Cond.fieldLink RX4 83 "BellTowns$Valley" "ringers" "[I" ∈ wsL_law := aw_of (t1_in (List.mem_of_getElem? (i := 27) rfl)) rfl
theorem q1_28 : Cond.fieldLink RX3 18 "BellTowns$Valley" "tired" "[I" ∈ wsL_law := aw_of (t1_in (List.mem_of_getElem? (i := 28) rfl)) rfl
theorem q1_29 : Cond.fieldLink RX4 86 "BellTowns$Valley" "tired" "[I" ∈ wsL_law := aw_of (t1_in (List.mem_of_getElem? (i := 29) rfl)) rfl
theorem q1_30 : Cond.fieldLink RX3 21 "BellTowns$Valley" "bellCounts" "[I" ∈ wsL_law := aw_of (t1_in (List.mem_of_getElem? (i := 30) rfl)) rfl
theorem q1_31 : Cond.fieldLink RX4 51 "BellTowns$Valley" "bellCounts" "[I" ∈ wsL_law := aw_of (t1_in (List.mem_of_getElem? (i := 31) rfl)) rfl
theorem q1_32 : Cond.fieldLink RX3 24 "BellTowns$Valley" "plans" "[I" ∈ wsL_law := aw_of (t1_in (List.mem_of_getElem? (i := 32) rfl)) rfl
theorem q1_33 : Cond.fieldLink RX4 159 "BellTowns$Valley" "plans" "[I" ∈ wsL_law := aw_of (t1_in (List.mem_of_getElem? (i := 33) rfl)) rfl
theorem q1_34 : Cond.fieldLink RX3 27 "BellTowns$Valley" "feastDays" "[I" ∈ wsL_law := aw_of (t1_in (List.mem_of_getElem? (i := 34) rfl)) rfl
theorem q1_35 : Cond.fieldLink RX4 106 "BellTowns$Valley" "feastDays" "[I" ∈ wsL_law := aw_of (t1_in (List.mem_of_getElem? (i := 35) rfl)) rfl
theorem q1_36 : Cond.fieldLink RX3 30 "BellTowns$Valley" "silences" "[I" ∈ wsL_law := aw_of (t1_in (List.mem_of_getElem? (i := 36) rfl)) rfl
theorem q1_37 : Cond.fieldLink RX1 52 "BellTowns$Valley" "silences" "[I" ∈ wsL_law := aw_of (t1_in (List.mem_of_getElem? (i := 37) rfl)) rfl
theorem q1_38 : Cond.fieldLink RX4 162 "BellTowns$Valley" "silences" "[I" ∈ wsL_law := aw_of (t1_in (List.mem_of_getElem? (i := 38) rfl)) rfl
theorem q1_39 : Cond.fieldLink RX3 33 "BellTowns$Valley" "points" "[I" ∈ wsL_law := aw_of (t1_in (List.mem_of_getElem? (i := 39) rfl)) rfl
theorem q1_40 : Cond.fieldLink RX4 165 "BellTowns$Valley" "points" "[I" ∈ wsL_law := aw_of (t1_in (List.mem_of_getElem? (i := 40) rfl)) rfl
theorem q1_41 : Cond.fieldLink RX3 36 "BellTowns$Valley" "timesLoudest" "[I" ∈ wsL_law := aw_of (t1_in (List.mem_of_getElem? (i := 41) rfl)) rfl
theorem q1_42 : Cond.fieldLink RX4 168 "BellTowns$Valley" "timesLoudest" "[I" ∈ wsL_law := aw_of (t1_in (List.mem_of_getElem? (i := 42) rfl)) rfl
theorem q1_43 : Cond.fieldLink RX3 39 "BellTowns$Valley" "weights" "[I" ∈ wsL_law := aw_of (t1_in (List.mem_of_getElem? (i := 43) rfl)) rfl
theorem q1_44 : Cond.fieldLink RX4 67 "BellTowns$Valley" "weights" "[I" ∈ wsL_law := aw_of (t1_in (List.mem_of_getElem? (i := 44) rfl)) rfl
theorem q1_45 : Cond.fieldLink RX1 49 "BellTowns$Valley" "weights" "[I" ∈ wsL_law := aw_of (t1_in (List.mem_of_getElem? (i := 45) rfl)) rfl
theorem q1_46 : Cond.fieldLink RX3 42 "BellTowns$Valley" "wears" "[I" ∈ wsL_law := aw_of (t1_in (List.mem_of_getElem? (i := 46) rfl)) rfl
theorem q1_47 : Cond.fieldLink RX1 55 "BellTowns$Valley" "wears" "[I" ∈ wsL_law := aw_of (t1_in (List.mem_of_getElem? (i := 47) rfl)) rfl
theorem q1_48 : Cond.fieldLink RX4 171 "BellTowns$Valley" "wears" "[I" ∈ wsL_law := aw_of (t1_in (List.mem_of_getElem? (i := 48) rfl)) rfl
theorem q1_49 : Cond.fieldLink RX3 45 "BellTowns$Valley" "timesRung" "[I" ∈ wsL_law := aw_of (t1_in (List.mem_of_getElem? (i := 49) rfl)) rfl
theorem q1_50 : Cond.fieldLink RX4 177 "BellTowns$Valley" "timesRung" "[I" ∈ wsL_law := aw_of (t1_in (List.mem_of_getElem? (i := 50) rfl)) rfl
theorem q1_51 : Cond.fieldLink RX3 48 "BellTowns$Valley" "fade" "I" ∈ wsL_law := aw_of (t1_in (List.mem_of_getElem? (i := 51) rfl)) rfl
theorem q1_52 : Cond.fieldLink RX1 69 "BellTowns$Valley" "fade" "I" ∈ wsL_law := aw_of (t1_in (List.mem_of_getElem? (i := 52) rfl)) rfl
theorem q1_53 : Cond.fieldLink RX4 112 "BellTowns$Valley" "fade" "I" ∈ wsL_law := aw_of (t1_in (List.mem_of_getElem? (i := 53) rfl)) rfl
theorem q1_54 : Cond.fieldLink RX3 52 "BellTowns$Valley" "rest" "I" ∈ wsL_law := aw_of (t1_in (List.mem_of_getElem? (i := 54) rfl)) rfl
theorem q1_55 : Cond.fieldLink RX4 116 "BellTowns$Valley" "rest" "I" ∈ wsL_law := aw_of (t1_in (List.mem_of_getElem? (i := 55) rfl)) rfl
theorem q1_56 : Cond.fieldLink RX3 55 "BellTowns$Valley" "turn" "I" ∈ wsL_law := aw_of (t1_in (List.mem_of_getElem? (i := 56) rfl)) rfl
theorem q1_57 : Cond.fieldLink RX4 156 "BellTowns$Valley" "turn" "I" ∈ wsL_law := aw_of (t1_in (List.mem_of_getElem? (i := 57) rfl)) rfl
theorem q1_58 : Cond.fieldLink RX3 58 "BellTowns$Valley" "turnsWithoutLoudest" "I" ∈ wsL_law := aw_of (t1_in (List.mem_of_getElem? (i := 58) rfl)) rfl
theorem q1_59 : Cond.fieldLink RX4 198 "BellTowns$Valley" "turnsWithoutLoudest" "I" ∈ wsL_law := aw_of (t1_in (List.mem_of_getElem? (i := 59) rfl)) rfl
theorem q1_60 : Cond.fieldLink RX3 61 "BellTowns$Valley" "latestLoudest" "I" ∈ wsL_law := aw_of (t1_in (List.mem_of_getElem? (i := 60) rfl)) rfl
theorem q1_61 : Cond.fieldLink RX4 127 "BellTowns$Valley" "latestLoudest" "I" ∈ wsL_law := aw_of (t1_in (List.mem_of_getElem? (i := 61) rfl)) rfl
theorem q1_97 : Cond.arrayClass .int ∈ wsL_law := aw_of (t1_in (List.mem_of_getElem? (i := 97) rfl)) rfl
theorem q1_98 : Cond.classLink RX4 26 RX0 ∈ wsL_law := aw_of (t1_in (List.mem_of_getElem? (i := 98) rfl)) rfl
theorem q1_99 : Cond.instantiable RX0 3 ∈ wsL_law := aw_of (t1_in (List.mem_of_getElem? (i := 99) rfl)) rfl
theorem q1_100 : Cond.methodLink RX4 28 yX0_init ∈ wsL_law := aw_of (t1_in (List.mem_of_getElem? (i := 100) rfl)) rfl
theorem q1_101 : Cond.instanceMethod yX0_init ∈ wsL_law := aw_of (t1_in (List.mem_of_getElem? (i := 101) rfl)) rfl
theorem q1_102 : Cond.code yX0_init cX0_init 2 none ∈ wsL_law := aw_of (t1_in (List.mem_of_getElem? (i := 102) rfl)) rfl
theorem q1_103 : Cond.methodLink RX0 3 ⟨"java/lang/Object", "<init>", "()V"⟩ ∈ wsL_law := aw_of (t1_in (List.mem_of_getElem? (i := 103) rfl)) rfl
theorem q1_104 : Cond.classLink RX0 9 RX3 ∈ wsL_law := aw_of (t1_in (List.mem_of_getElem? (i := 104) rfl)) rfl
theorem q1_105 : Cond.arrayOver (.object "BellTowns$Valley") ∈ lw_tbl := t1_in (List.mem_of_getElem? (i := 105) rfl)
theorem q1_106 : Cond.methodLink RX0 24 yX3_init ∈ wsL_law := aw_of (t1_in (List.mem_of_getElem? (i := 106) rfl)) rfl
theorem q1_107 : Cond.fieldLink RX0 11 "BellTowns$History" "states" "[LBellTowns$Valley;" ∈ wsL_law := aw_of (t1_in (List.mem_of_getElem? (i := 107) rfl)) rfl
theorem q1_108 : Cond.fieldLink RX0 17 "BellTowns$History" "oldest" "I" ∈ wsL_law := aw_of (t1_in (List.mem_of_getElem? (i := 108) rfl)) rfl
theorem q1_109 : Cond.fieldLink RX0 21 "BellTowns$History" "size" "I" ∈ wsL_law := aw_of (t1_in (List.mem_of_getElem? (i := 109) rfl)) rfl
theorem q1_110 : Cond.fieldLink RX4 147 "BellTowns$History" "size" "I" ∈ wsL_law := aw_of (t1_in (List.mem_of_getElem? (i := 110) rfl)) rfl
theorem q1_118 : Cond.classLink RX4 33 RX1 ∈ wsL_law := aw_of (t1_in (List.mem_of_getElem? (i := 118) rfl)) rfl
theorem q1_119 : Cond.instantiable RX1 5 ∈ wsL_law := aw_of (t1_in (List.mem_of_getElem? (i := 119) rfl)) rfl
theorem q1_120 : Cond.methodLinkNest "BellTowns" 35 yX1_init "BellTowns" ∈ lw_tbl := t1_in (List.mem_of_getElem? (i := 120) rfl)
theorem q1_121 : Cond.instanceMethod yX1_init ∈ wsL_law := aw_of (t1_in (List.mem_of_getElem? (i := 121) rfl)) rfl
theorem q1_122 : Cond.code yX1_init cX1_init 1 none ∈ wsL_law := aw_of (t1_in (List.mem_of_getElem? (i := 122) rfl)) rfl
theorem q1_123 : Cond.methodLink RX1 3 ⟨"java/lang/Object", "<init>", "()V"⟩ ∈ wsL_law := aw_of (t1_in (List.mem_of_getElem? (i := 123) rfl)) rfl
theorem q1_124 : Cond.fieldLink RX1 9 "BellTowns$Ringing" "reasons" "[I" ∈ wsL_law := aw_of (t1_in (List.mem_of_getElem? (i := 124) rfl)) rfl
theorem q1_125 : Cond.fieldLink RX4 183 "BellTowns$Ringing" "reasons" "[I" ∈ wsL_law := aw_of (t1_in (List.mem_of_getElem? (i := 125) rfl)) rfl
theorem q1_126 : Cond.fieldLink RX3 115 "BellTowns$Ringing" "reasons" "[I" ∈ wsL_law := aw_of (t1_in (List.mem_of_getElem? (i := 126) rfl)) rfl
theorem q1_127 : Cond.fieldLink RX1 15 "BellTowns$Ringing" "volumes" "[I" ∈ wsL_law := aw_of (t1_in (List.mem_of_getElem? (i := 127) rfl)) rfl
theorem q1_128 : Cond.fieldLink RX4 201 "BellTowns$Ringing" "volumes" "[I" ∈ wsL_law := aw_of (t1_in (List.mem_of_getElem? (i := 128) rfl)) rfl
theorem q1_129 : Cond.fieldLink RX1 18 "BellTowns$Ringing" "ringersBusy" "[I" ∈ wsL_law := aw_of (t1_in (List.mem_of_getElem? (i := 129) rfl)) rfl
theorem q1_130 : Cond.fieldLink RX3 118 "BellTowns$Ringing" "ringersBusy" "[I" ∈ wsL_law := aw_of (t1_in (List.mem_of_getElem? (i := 130) rfl)) rfl
theorem q1_131 : Cond.fieldLink RX1 21 "BellTowns$Ringing" "winners" "[I" ∈ wsL_law := aw_of (t1_in (List.mem_of_getElem? (i := 131) rfl)) rfl
theorem q1_132 : Cond.fieldLink RX3 112 "BellTowns$Ringing" "winners" "[I" ∈ wsL_law := aw_of (t1_in (List.mem_of_getElem? (i := 132) rfl)) rfl
theorem q1_133 : Cond.fieldLink RX4 208 "BellTowns$Ringing" "winners" "[I" ∈ wsL_law := aw_of (t1_in (List.mem_of_getElem? (i := 133) rfl)) rfl
theorem q1_134 : Cond.fieldLink RX1 24 "BellTowns$Ringing" "loudest" "I" ∈ wsL_law := aw_of (t1_in (List.mem_of_getElem? (i := 134) rfl)) rfl
theorem q1_135 : Cond.fieldLink RX3 103 "BellTowns$Ringing" "loudest" "I" ∈ wsL_law := aw_of (t1_in (List.mem_of_getElem? (i := 135) rfl)) rfl
theorem q1_147 : Cond.classLink RX4 40 RX2 ∈ wsL_law := aw_of (t1_in (List.mem_of_getElem? (i := 147) rfl)) rfl
theorem q1_148 : Cond.instantiable RX2 2 ∈ wsL_law := aw_of (t1_in (List.mem_of_getElem? (i := 148) rfl)) rfl
theorem q1_149 : Cond.methodLinkNest "BellTowns" 42 yX2_init "BellTowns" ∈ lw_tbl := t1_in (List.mem_of_getElem? (i := 149) rfl)
theorem q1_150 : Cond.instanceMethod yX2_init ∈ wsL_law := aw_of (t1_in (List.mem_of_getElem? (i := 150) rfl)) rfl
theorem q1_151 : Cond.code yX2_init cX2_init 1 none ∈ wsL_law := aw_of (t1_in (List.mem_of_getElem? (i := 151) rfl)) rfl
theorem q1_152 : Cond.methodLink RX2 5 ⟨"java/lang/Object", "<init>", "()V"⟩ ∈ wsL_law := aw_of (t1_in (List.mem_of_getElem? (i := 152) rfl)) rfl
theorem q1_153 : Cond.fieldLink RX2 11 "BellTowns$Script" "signs" "[C" ∈ wsL_law := aw_of (t1_in (List.mem_of_getElem? (i := 153) rfl)) rfl
theorem q1_154 : Cond.fieldLink RX2 15 "BellTowns$Script" "length" "I" ∈ wsL_law := aw_of (t1_in (List.mem_of_getElem? (i := 154) rfl)) rfl
theorem q1_155 : Cond.fieldLink RX4 130 "BellTowns$Script" "length" "I" ∈ wsL_law := aw_of (t1_in (List.mem_of_getElem? (i := 155) rfl)) rfl
theorem q1_161 : Cond.arrayClass .char ∈ wsL_law := aw_of (t1_in (List.mem_of_getElem? (i := 161) rfl)) rfl
theorem q1_162 : Cond.fieldLink RX4 10 "BellTowns" "now" "LBellTowns$Valley;" ∈ wsL_law := aw_of (t1_in (List.mem_of_getElem? (i := 162) rfl)) rfl
theorem q1_163 : Cond.fieldLink RX4 16 "BellTowns" "trial" "LBellTowns$Valley;" ∈ wsL_law := aw_of (t1_in (List.mem_of_getElem? (i := 163) rfl)) rfl
theorem q1_164 : Cond.fieldLink RX4 19 "BellTowns" "snapshot" "LBellTowns$Valley;" ∈ wsL_law := aw_of (t1_in (List.mem_of_getElem? (i := 164) rfl)) rfl
theorem q1_165 : Cond.fieldLink RX4 22 "BellTowns" "snapshotTaken" "Z" ∈ wsL_law := aw_of (t1_in (List.mem_of_getElem? (i := 165) rfl)) rfl
theorem q1_166 : Cond.fieldLink RX4 29 "BellTowns" "history" "LBellTowns$History;" ∈ wsL_law := aw_of (t1_in (List.mem_of_getElem? (i := 166) rfl)) rfl
theorem q1_167 : Cond.fieldLink RX4 36 "BellTowns" "ringing" "LBellTowns$Ringing;" ∈ wsL_law := aw_of (t1_in (List.mem_of_getElem? (i := 167) rfl)) rfl
theorem q1_168 : Cond.fieldLink RX4 43 "BellTowns" "script" "LBellTowns$Script;" ∈ wsL_law := aw_of (t1_in (List.mem_of_getElem? (i := 168) rfl)) rfl
theorem q1_184 : Cond.methodLink RL 13 yX4_hang ∈ wsL_law := aw_of (t1_in (List.mem_of_getElem? (i := 184) rfl)) rfl
theorem q1_185 : Cond.instanceMethod yX4_hang ∈ wsL_law := aw_of (t1_in (List.mem_of_getElem? (i := 185) rfl)) rfl
theorem q1_186 : Cond.selects RX4 yX4_hang yX4_hang ∈ wsL_law := aw_of (t1_in (List.mem_of_getElem? (i := 186) rfl)) rfl
theorem q1_187 : Cond.code yX4_hang cX4_hang 3 (some .int) ∈ wsL_law := aw_of (t1_in (List.mem_of_getElem? (i := 187) rfl)) rfl
theorem q1_188 : Cond.methodLink RX4 47 yX4_isTown ∈ wsL_law := aw_of (t1_in (List.mem_of_getElem? (i := 188) rfl)) rfl
theorem q1_189 : Cond.static yX4_isTown ∈ wsL_law := aw_of (t1_in (List.mem_of_getElem? (i := 189) rfl)) rfl
theorem q1_190 : Cond.code yX4_isTown cX4_isTown 1 (some .boolean) ∈ wsL_law := aw_of (t1_in (List.mem_of_getElem? (i := 190) rfl)) rfl
theorem q1_191 : Cond.methodLink RX4 55 yX0_record ∈ wsL_law := aw_of (t1_in (List.mem_of_getElem? (i := 191) rfl)) rfl
theorem q1_192 : Cond.instanceMethod yX0_record ∈ wsL_law := aw_of (t1_in (List.mem_of_getElem? (i := 192) rfl)) rfl
theorem q1_193 : Cond.selects RX0 yX0_record yX0_record ∈ wsL_law := aw_of (t1_in (List.mem_of_getElem? (i := 193) rfl)) rfl
theorem q1_194 : Cond.code yX0_record cX0_record 3 none ∈ wsL_law := aw_of (t1_in (List.mem_of_getElem? (i := 194) rfl)) rfl
theorem q1_195 : Cond.methodLink RX0 25 yX0_placeOf ∈ wsL_law := aw_of (t1_in (List.mem_of_getElem? (i := 195) rfl)) rfl
theorem q1_197 : Cond.instanceMethod yX0_placeOf ∈ wsL_law := aw_of (t1_in (List.mem_of_getElem? (i := 197) rfl)) rfl
theorem q1_198 : Cond.code yX0_placeOf cX0_placeOf 2 (some .int) ∈ wsL_law := aw_of (t1_in (List.mem_of_getElem? (i := 198) rfl)) rfl
theorem q1_199 : Cond.methodLink RX0 29 yX3_copyFrom ∈ wsL_law := aw_of (t1_in (List.mem_of_getElem? (i := 199) rfl)) rfl
theorem q1_200 : Cond.instanceMethod yX3_copyFrom ∈ wsL_law := aw_of (t1_in (List.mem_of_getElem? (i := 200) rfl)) rfl
theorem q1_201 : Cond.selects RX3 yX3_copyFrom yX3_copyFrom ∈ wsL_law := aw_of (t1_in (List.mem_of_getElem? (i := 201) rfl)) rfl
theorem q1_202 : Cond.code yX3_copyFrom cX3_copyFrom 2 none ∈ wsL_law := aw_of (t1_in (List.mem_of_getElem? (i := 202) rfl)) rfl
theorem q1_203 : Cond.methodLink RX3 64 yX3_copyTowns ∈ wsL_law := aw_of (t1_in (List.mem_of_getElem? (i := 203) rfl)) rfl
theorem q1_204 : Cond.static yX3_copyTowns ∈ wsL_law := aw_of (t1_in (List.mem_of_getElem? (i := 204) rfl)) rfl
theorem q1_205 : Cond.code yX3_copyTowns cX3_copyTowns 2 none ∈ wsL_law := aw_of (t1_in (List.mem_of_getElem? (i := 205) rfl)) rfl
theorem q1_206 : Cond.methodLink RX3 71 ⟨"java/lang/System", "arraycopy", "(Ljava/lang/Object;ILjava/lang/Object;II)V"⟩ ∈ wsL_law := aw_of (t1_in (List.mem_of_getElem? (i := 206) rfl)) rfl
theorem q1_207 : Cond.static ⟨"java/lang/System", "arraycopy", "(Ljava/lang/Object;ILjava/lang/Object;II)V"⟩ ∈ wsL_law := aw_of (t1_in (List.mem_of_getElem? (i := 207) rfl)) rfl
theorem q1_208 : Cond.native ⟨"java/lang/System", "arraycopy", "(Ljava/lang/Object;ILjava/lang/Object;II)V"⟩ ∈ wsL_law := aw_of (t1_in (List.mem_of_getElem? (i := 208) rfl)) rfl
theorem q1_209 : Cond.methodLink RX3 68 yX3_copyBells ∈ wsL_law := aw_of (t1_in (List.mem_of_getElem? (i := 209) rfl)) rfl
theorem q1_210 : Cond.static yX3_copyBells ∈ wsL_law := aw_of (t1_in (List.mem_of_getElem? (i := 210) rfl)) rfl
theorem q1_211 : Cond.code yX3_copyBells cX3_copyBells 2 none ∈ wsL_law := aw_of (t1_in (List.mem_of_getElem? (i := 211) rfl)) rfl
theorem q1_212 : Cond.methodLink RX4 59 yX3_addBell ∈ wsL_law := aw_of (t1_in (List.mem_of_getElem? (i := 212) rfl)) rfl
theorem q1_213 : Cond.instanceMethod yX3_addBell ∈ wsL_law := aw_of (t1_in (List.mem_of_getElem? (i := 213) rfl)) rfl
theorem q1_214 : Cond.selects RX3 yX3_addBell yX3_addBell ∈ wsL_law := aw_of (t1_in (List.mem_of_getElem? (i := 214) rfl)) rfl
theorem q1_215 : Cond.code yX3_addBell cX3_addBell 4 (some .int) ∈ wsL_law := aw_of (t1_in (List.mem_of_getElem? (i := 215) rfl)) rfl
theorem q1_216 : Cond.methodLinkNest "BellTowns$Valley" 81 yX4_slot "BellTowns" ∈ lw_tbl := t1_in (List.mem_of_getElem? (i := 216) rfl)
theorem q1_217 : Cond.static yX4_slot ∈ wsL_law := aw_of (t1_in (List.mem_of_getElem? (i := 217) rfl)) rfl
theorem q1_218 : Cond.code yX4_slot cX4_slot 2 (some .int) ∈ wsL_law := aw_of (t1_in (List.mem_of_getElem? (i := 218) rfl)) rfl
theorem q1_219 : Cond.methodLink RX3 85 yX3_fillSlot ∈ wsL_law := aw_of (t1_in (List.mem_of_getElem? (i := 219) rfl)) rfl
theorem q1_221 : Cond.instanceMethod yX3_fillSlot ∈ wsL_law := aw_of (t1_in (List.mem_of_getElem? (i := 221) rfl)) rfl
theorem q1_222 : Cond.code yX3_fillSlot cX3_fillSlot 5 none ∈ wsL_law := aw_of (t1_in (List.mem_of_getElem? (i := 222) rfl)) rfl
theorem q1_223 : Cond.methodLink RL 18 yX4_melt ∈ wsL_law := aw_of (t1_in (List.mem_of_getElem? (i := 223) rfl)) rfl
theorem q1_224 : Cond.instanceMethod yX4_melt ∈ wsL_law := aw_of (t1_in (List.mem_of_getElem? (i := 224) rfl)) rfl
theorem q1_225 : Cond.selects RX4 yX4_melt yX4_melt ∈ wsL_law := aw_of (t1_in (List.mem_of_getElem? (i := 225) rfl)) rfl
theorem q1_226 : Cond.code yX4_melt cX4_melt 4 (some .int) ∈ wsL_law := aw_of (t1_in (List.mem_of_getElem? (i := 226) rfl)) rfl
theorem q1_227 : Cond.methodLink RX4 63 yX3_hasBell ∈ wsL_law := aw_of (t1_in (List.mem_of_getElem? (i := 227) rfl)) rfl
theorem q1_228 : Cond.instanceMethod yX3_hasBell ∈ wsL_law := aw_of (t1_in (List.mem_of_getElem? (i := 228) rfl)) rfl
theorem q1_229 : Cond.selects RX3 yX3_hasBell yX3_hasBell ∈ wsL_law := aw_of (t1_in (List.mem_of_getElem? (i := 229) rfl)) rfl
theorem q1_230 : Cond.code yX3_hasBell cX3_hasBell 3 (some .boolean) ∈ wsL_law := aw_of (t1_in (List.mem_of_getElem? (i := 230) rfl)) rfl
theorem q1_231 : Cond.methodLinkNest "BellTowns$Valley" 77 yX4_isTown "BellTowns" ∈ lw_tbl := t1_in (List.mem_of_getElem? (i := 231) rfl)
theorem q1_232 : Cond.methodLink RX4 70 yX4_slot ∈ wsL_law := aw_of (t1_in (List.mem_of_getElem? (i := 232) rfl)) rfl
theorem q1_233 : Cond.methodLink RX4 73 yX3_removeBell ∈ wsL_law := aw_of (t1_in (List.mem_of_getElem? (i := 233) rfl)) rfl
theorem q1_234 : Cond.instanceMethod yX3_removeBell ∈ wsL_law := aw_of (t1_in (List.mem_of_getElem? (i := 234) rfl)) rfl
theorem q1_235 : Cond.selects RX3 yX3_removeBell yX3_removeBell ∈ wsL_law := aw_of (t1_in (List.mem_of_getElem? (i := 235) rfl)) rfl
theorem q1_236 : Cond.code yX3_removeBell cX3_removeBell 6 none ∈ wsL_law := aw_of (t1_in (List.mem_of_getElem? (i := 236) rfl)) rfl
theorem q1_237 : Cond.methodLink RL 22 yX4_settle ∈ wsL_law := aw_of (t1_in (List.mem_of_getElem? (i := 237) rfl)) rfl
theorem q1_238 : Cond.instanceMethod yX4_settle ∈ wsL_law := aw_of (t1_in (List.mem_of_getElem? (i := 238) rfl)) rfl
theorem q1_239 : Cond.selects RX4 yX4_settle yX4_settle ∈ wsL_law := aw_of (t1_in (List.mem_of_getElem? (i := 239) rfl)) rfl
theorem q2_0 : Cond.code yX4_settle cX4_settle 4 (some .int) ∈ wsL_law := aw_of (t2_in (List.mem_of_getElem? (i := 0) rfl)) rfl
theorem q2_1 : Cond.methodLink RX4 77 yX3_isTakenByAnother ∈ wsL_law := aw_of (t2_in (List.mem_of_getElem? (i := 1) rfl)) rfl
theorem q2_2 : Cond.instanceMethod yX3_isTakenByAnother ∈ wsL_law := aw_of (t2_in (List.mem_of_getElem? (i := 2) rfl)) rfl
theorem q2_3 : Cond.selects RX3 yX3_isTakenByAnother yX3_isTakenByAnother ∈ wsL_law := aw_of (t2_in (List.mem_of_getElem? (i := 3) rfl)) rfl
theorem q2_4 : Cond.code yX3_isTakenByAnother cX3_isTakenByAnother 4 (some .boolean) ∈ wsL_law := aw_of (t2_in (List.mem_of_getElem? (i := 4) rfl)) rfl
theorem q2_5 : Cond.methodLink RX4 89 ⟨"java/lang/Math", "min", "(II)I"⟩ ∈ wsL_law := aw_of (t2_in (List.mem_of_getElem? (i := 5) rfl)) rfl
theorem q2_6 : Cond.static ⟨"java/lang/Math", "min", "(II)I"⟩ ∈ wsL_law := aw_of (t2_in (List.mem_of_getElem? (i := 6) rfl)) rfl
theorem q2_7 : Cond.code ⟨"java/lang/Math", "min", "(II)I"⟩ prog_8_method_69_code 2 (some .int) ∈ wsL_law := aw_of (t2_in (List.mem_of_getElem? (i := 7) rfl)) rfl
theorem q2_8 : Cond.methodLink RL 27 yX4_plan ∈ wsL_law := aw_of (t2_in (List.mem_of_getElem? (i := 8) rfl)) rfl
theorem q2_9 : Cond.instanceMethod yX4_plan ∈ wsL_law := aw_of (t2_in (List.mem_of_getElem? (i := 9) rfl)) rfl
theorem q2_10 : Cond.selects RX4 yX4_plan yX4_plan ∈ wsL_law := aw_of (t2_in (List.mem_of_getElem? (i := 10) rfl)) rfl
theorem q2_11 : Cond.code yX4_plan cX4_plan 4 (some .int) ∈ wsL_law := aw_of (t2_in (List.mem_of_getElem? (i := 11) rfl)) rfl
theorem q2_12 : Cond.methodLink RX4 94 yX4_planError ∈ wsL_law := aw_of (t2_in (List.mem_of_getElem? (i := 12) rfl)) rfl
theorem q2_14 : Cond.instanceMethod yX4_planError ∈ wsL_law := aw_of (t2_in (List.mem_of_getElem? (i := 14) rfl)) rfl
theorem q2_15 : Cond.code yX4_planError cX4_planError 3 (some .int) ∈ wsL_law := aw_of (t2_in (List.mem_of_getElem? (i := 15) rfl)) rfl
theorem q2_16 : Cond.methodLink RX4 214 yX3_everyBell ∈ wsL_law := aw_of (t2_in (List.mem_of_getElem? (i := 16) rfl)) rfl
theorem q2_17 : Cond.instanceMethod yX3_everyBell ∈ wsL_law := aw_of (t2_in (List.mem_of_getElem? (i := 17) rfl)) rfl
theorem q2_18 : Cond.selects RX3 yX3_everyBell yX3_everyBell ∈ wsL_law := aw_of (t2_in (List.mem_of_getElem? (i := 18) rfl)) rfl
theorem q2_19 : Cond.code yX3_everyBell cX3_everyBell 2 (some .int) ∈ wsL_law := aw_of (t2_in (List.mem_of_getElem? (i := 19) rfl)) rfl
theorem q2_20 : Cond.methodLink RX4 97 yX4_changePlan ∈ wsL_law := aw_of (t2_in (List.mem_of_getElem? (i := 20) rfl)) rfl
theorem q2_22 : Cond.instanceMethod yX4_changePlan ∈ wsL_law := aw_of (t2_in (List.mem_of_getElem? (i := 22) rfl)) rfl
theorem q2_23 : Cond.code yX4_changePlan cX4_changePlan 4 (some .int) ∈ wsL_law := aw_of (t2_in (List.mem_of_getElem? (i := 23) rfl)) rfl
theorem q2_24 : Cond.methodLink RL 31 yX4_splice ∈ wsL_law := aw_of (t2_in (List.mem_of_getElem? (i := 24) rfl)) rfl
theorem q2_25 : Cond.instanceMethod yX4_splice ∈ wsL_law := aw_of (t2_in (List.mem_of_getElem? (i := 25) rfl)) rfl
theorem q2_26 : Cond.selects RX4 yX4_splice yX4_splice ∈ wsL_law := aw_of (t2_in (List.mem_of_getElem? (i := 26) rfl)) rfl
theorem q2_27 : Cond.code yX4_splice cX4_splice 4 (some .int) ∈ wsL_law := aw_of (t2_in (List.mem_of_getElem? (i := 27) rfl)) rfl
theorem q2_28 : Cond.methodLink RX4 100 yX4_spliceError ∈ wsL_law := aw_of (t2_in (List.mem_of_getElem? (i := 28) rfl)) rfl
theorem q2_30 : Cond.instanceMethod yX4_spliceError ∈ wsL_law := aw_of (t2_in (List.mem_of_getElem? (i := 30) rfl)) rfl
theorem q2_31 : Cond.code yX4_spliceError cX4_spliceError 3 (some .int) ∈ wsL_law := aw_of (t2_in (List.mem_of_getElem? (i := 31) rfl)) rfl
theorem q2_32 : Cond.methodLink RX4 217 yX3_rested ∈ wsL_law := aw_of (t2_in (List.mem_of_getElem? (i := 32) rfl)) rfl
theorem q2_33 : Cond.instanceMethod yX3_rested ∈ wsL_law := aw_of (t2_in (List.mem_of_getElem? (i := 33) rfl)) rfl
theorem q2_34 : Cond.selects RX3 yX3_rested yX3_rested ∈ wsL_law := aw_of (t2_in (List.mem_of_getElem? (i := 34) rfl)) rfl
theorem q2_35 : Cond.code yX3_rested cX3_rested 2 (some .int) ∈ wsL_law := aw_of (t2_in (List.mem_of_getElem? (i := 35) rfl)) rfl
theorem q2_36 : Cond.methodLink RX4 103 yX4_mendRope ∈ wsL_law := aw_of (t2_in (List.mem_of_getElem? (i := 36) rfl)) rfl
theorem q2_38 : Cond.instanceMethod yX4_mendRope ∈ wsL_law := aw_of (t2_in (List.mem_of_getElem? (i := 38) rfl)) rfl
theorem q2_39 : Cond.code yX4_mendRope cX4_mendRope 5 (some .int) ∈ wsL_law := aw_of (t2_in (List.mem_of_getElem? (i := 39) rfl)) rfl
theorem q2_40 : Cond.methodLink RL 35 yX4_feast ∈ wsL_law := aw_of (t2_in (List.mem_of_getElem? (i := 40) rfl)) rfl
theorem q2_41 : Cond.instanceMethod yX4_feast ∈ wsL_law := aw_of (t2_in (List.mem_of_getElem? (i := 41) rfl)) rfl
theorem q2_42 : Cond.selects RX4 yX4_feast yX4_feast ∈ wsL_law := aw_of (t2_in (List.mem_of_getElem? (i := 42) rfl)) rfl
theorem q2_43 : Cond.code yX4_feast cX4_feast 4 (some .int) ∈ wsL_law := aw_of (t2_in (List.mem_of_getElem? (i := 43) rfl)) rfl
theorem q2_44 : Cond.methodLink RL 39 yX4_set ∈ wsL_law := aw_of (t2_in (List.mem_of_getElem? (i := 44) rfl)) rfl
theorem q2_45 : Cond.instanceMethod yX4_set ∈ wsL_law := aw_of (t2_in (List.mem_of_getElem? (i := 45) rfl)) rfl
theorem q2_46 : Cond.selects RX4 yX4_set yX4_set ∈ wsL_law := aw_of (t2_in (List.mem_of_getElem? (i := 46) rfl)) rfl
theorem q2_47 : Cond.code yX4_set cX4_set 4 (some .int) ∈ wsL_law := aw_of (t2_in (List.mem_of_getElem? (i := 47) rfl)) rfl
theorem q2_48 : Cond.methodLink RX4 109 yX4_isInRange ∈ wsL_law := aw_of (t2_in (List.mem_of_getElem? (i := 48) rfl)) rfl
theorem q2_49 : Cond.static yX4_isInRange ∈ wsL_law := aw_of (t2_in (List.mem_of_getElem? (i := 49) rfl)) rfl
theorem q2_50 : Cond.code yX4_isInRange cX4_isInRange 2 (some .boolean) ∈ wsL_law := aw_of (t2_in (List.mem_of_getElem? (i := 50) rfl)) rfl
theorem q2_51 : Cond.methodLink RL 43 yX4_turns ∈ wsL_law := aw_of (t2_in (List.mem_of_getElem? (i := 51) rfl)) rfl
theorem q2_52 : Cond.instanceMethod yX4_turns ∈ wsL_law := aw_of (t2_in (List.mem_of_getElem? (i := 52) rfl)) rfl
theorem q2_53 : Cond.selects RX4 yX4_turns yX4_turns ∈ wsL_law := aw_of (t2_in (List.mem_of_getElem? (i := 53) rfl)) rfl
theorem q2_54 : Cond.code yX4_turns cX4_turns 3 (some .int) ∈ wsL_law := aw_of (t2_in (List.mem_of_getElem? (i := 54) rfl)) rfl
theorem q2_55 : Cond.methodLink RX4 119 yX4_turnsError ∈ wsL_law := aw_of (t2_in (List.mem_of_getElem? (i := 55) rfl)) rfl
theorem q2_56 : Cond.static yX4_turnsError ∈ wsL_law := aw_of (t2_in (List.mem_of_getElem? (i := 56) rfl)) rfl
theorem q2_57 : Cond.code yX4_turnsError cX4_turnsError 1 (some .int) ∈ wsL_law := aw_of (t2_in (List.mem_of_getElem? (i := 57) rfl)) rfl
theorem q2_58 : Cond.methodLink RX4 123 yX4_makeTurns ∈ wsL_law := aw_of (t2_in (List.mem_of_getElem? (i := 58) rfl)) rfl
theorem q2_60 : Cond.instanceMethod yX4_makeTurns ∈ wsL_law := aw_of (t2_in (List.mem_of_getElem? (i := 60) rfl)) rfl
theorem q2_61 : Cond.code yX4_makeTurns cX4_makeTurns 4 none ∈ wsL_law := aw_of (t2_in (List.mem_of_getElem? (i := 61) rfl)) rfl
theorem q2_62 : Cond.methodLink RX4 180 yX1_foresee ∈ wsL_law := aw_of (t2_in (List.mem_of_getElem? (i := 62) rfl)) rfl
theorem q2_63 : Cond.instanceMethod yX1_foresee ∈ wsL_law := aw_of (t2_in (List.mem_of_getElem? (i := 63) rfl)) rfl
theorem q2_64 : Cond.selects RX1 yX1_foresee yX1_foresee ∈ wsL_law := aw_of (t2_in (List.mem_of_getElem? (i := 64) rfl)) rfl
theorem q2_65 : Cond.code yX1_foresee cX1_foresee 4 none ∈ wsL_law := aw_of (t2_in (List.mem_of_getElem? (i := 65) rfl)) rfl
theorem q2_66 : Cond.methodLink RX1 28 yX1_ringIn ∈ wsL_law := aw_of (t2_in (List.mem_of_getElem? (i := 66) rfl)) rfl
theorem q2_68 : Cond.instanceMethod yX1_ringIn ∈ wsL_law := aw_of (t2_in (List.mem_of_getElem? (i := 68) rfl)) rfl
theorem q2_69 : Cond.code yX1_ringIn cX1_ringIn 11 none ∈ wsL_law := aw_of (t2_in (List.mem_of_getElem? (i := 69) rfl)) rfl
theorem q2_70 : Cond.methodLink RX1 36 yX3_wantedBells ∈ wsL_law := aw_of (t2_in (List.mem_of_getElem? (i := 70) rfl)) rfl
theorem q2_71 : Cond.instanceMethod yX3_wantedBells ∈ wsL_law := aw_of (t2_in (List.mem_of_getElem? (i := 71) rfl)) rfl
theorem q2_72 : Cond.selects RX3 yX3_wantedBells yX3_wantedBells ∈ wsL_law := aw_of (t2_in (List.mem_of_getElem? (i := 72) rfl)) rfl
theorem q2_73 : Cond.code yX3_wantedBells cX3_wantedBells 2 (some .int) ∈ wsL_law := aw_of (t2_in (List.mem_of_getElem? (i := 73) rfl)) rfl
theorem q2_74 : Cond.methodLink RX3 89 yX3_everyBell ∈ wsL_law := aw_of (t2_in (List.mem_of_getElem? (i := 74) rfl)) rfl
theorem q2_75 : Cond.methodLink RX1 42 yX3_rested ∈ wsL_law := aw_of (t2_in (List.mem_of_getElem? (i := 75) rfl)) rfl
theorem q2_76 : Cond.methodLinkNest "BellTowns$Ringing" 45 yX4_slot "BellTowns" ∈ lw_tbl := t2_in (List.mem_of_getElem? (i := 76) rfl)
theorem q2_77 : Cond.methodLinkNest "BellTowns$Ringing" 58 yX4_ringersFor "BellTowns" ∈ lw_tbl := t2_in (List.mem_of_getElem? (i := 77) rfl)
theorem q2_78 : Cond.static yX4_ringersFor ∈ wsL_law := aw_of (t2_in (List.mem_of_getElem? (i := 78) rfl)) rfl
theorem q2_79 : Cond.code yX4_ringersFor cX4_ringersFor 1 (some .int) ∈ wsL_law := aw_of (t2_in (List.mem_of_getElem? (i := 79) rfl)) rfl
theorem q2_80 : Cond.methodLink RX1 32 yX1_winnerIn ∈ wsL_law := aw_of (t2_in (List.mem_of_getElem? (i := 80) rfl)) rfl
theorem q2_82 : Cond.instanceMethod yX1_winnerIn ∈ wsL_law := aw_of (t2_in (List.mem_of_getElem? (i := 82) rfl)) rfl
theorem q2_83 : Cond.code yX1_winnerIn cX1_winnerIn 7 (some .int) ∈ wsL_law := aw_of (t2_in (List.mem_of_getElem? (i := 83) rfl)) rfl
theorem q2_84 : Cond.methodLink RX1 75 yX1_soundIn ∈ wsL_law := aw_of (t2_in (List.mem_of_getElem? (i := 84) rfl)) rfl
theorem q2_85 : Cond.instanceMethod yX1_soundIn ∈ wsL_law := aw_of (t2_in (List.mem_of_getElem? (i := 85) rfl)) rfl
theorem q2_86 : Cond.selects RX1 yX1_soundIn yX1_soundIn ∈ wsL_law := aw_of (t2_in (List.mem_of_getElem? (i := 86) rfl)) rfl
theorem q2_87 : Cond.code yX1_soundIn cX1_soundIn 5 (some .int) ∈ wsL_law := aw_of (t2_in (List.mem_of_getElem? (i := 87) rfl)) rfl
theorem q2_88 : Cond.methodLink RX1 64 ⟨"java/lang/Math", "abs", "(I)I"⟩ ∈ wsL_law := aw_of (t2_in (List.mem_of_getElem? (i := 88) rfl)) rfl
theorem q2_89 : Cond.static ⟨"java/lang/Math", "abs", "(I)I"⟩ ∈ wsL_law := aw_of (t2_in (List.mem_of_getElem? (i := 89) rfl)) rfl
theorem q2_90 : Cond.code ⟨"java/lang/Math", "abs", "(I)I"⟩ prog_8_method_59_code 1 (some .int) ∈ wsL_law := aw_of (t2_in (List.mem_of_getElem? (i := 90) rfl)) rfl
theorem q2_91 : Cond.methodLink RX1 72 ⟨"java/lang/Math", "max", "(II)I"⟩ ∈ wsL_law := aw_of (t2_in (List.mem_of_getElem? (i := 91) rfl)) rfl
theorem q2_92 : Cond.static ⟨"java/lang/Math", "max", "(II)I"⟩ ∈ wsL_law := aw_of (t2_in (List.mem_of_getElem? (i := 92) rfl)) rfl
theorem q2_93 : Cond.code ⟨"java/lang/Math", "max", "(II)I"⟩ prog_8_method_65_code 2 (some .int) ∈ wsL_law := aw_of (t2_in (List.mem_of_getElem? (i := 93) rfl)) rfl
theorem q2_94 : Cond.methodLink RX4 220 yX3_pass ∈ wsL_law := aw_of (t2_in (List.mem_of_getElem? (i := 94) rfl)) rfl
theorem q2_95 : Cond.instanceMethod yX3_pass ∈ wsL_law := aw_of (t2_in (List.mem_of_getElem? (i := 95) rfl)) rfl
theorem q2_96 : Cond.selects RX3 yX3_pass yX3_pass ∈ wsL_law := aw_of (t2_in (List.mem_of_getElem? (i := 96) rfl)) rfl
theorem q2_97 : Cond.code yX3_pass cX3_pass 2 none ∈ wsL_law := aw_of (t2_in (List.mem_of_getElem? (i := 97) rfl)) rfl
theorem q2_98 : Cond.methodLink RX3 93 yX3_givePoints ∈ wsL_law := aw_of (t2_in (List.mem_of_getElem? (i := 98) rfl)) rfl
theorem q2_100 : Cond.instanceMethod yX3_givePoints ∈ wsL_law := aw_of (t2_in (List.mem_of_getElem? (i := 100) rfl)) rfl
theorem q2_101 : Cond.code yX3_givePoints cX3_givePoints 4 none ∈ wsL_law := aw_of (t2_in (List.mem_of_getElem? (i := 101) rfl)) rfl
theorem q2_102 : Cond.methodLink RX3 97 yX3_wearRopes ∈ wsL_law := aw_of (t2_in (List.mem_of_getElem? (i := 102) rfl)) rfl
theorem q2_104 : Cond.instanceMethod yX3_wearRopes ∈ wsL_law := aw_of (t2_in (List.mem_of_getElem? (i := 104) rfl)) rfl
theorem q2_105 : Cond.code yX3_wearRopes cX3_wearRopes 3 none ∈ wsL_law := aw_of (t2_in (List.mem_of_getElem? (i := 105) rfl)) rfl
theorem q2_106 : Cond.methodLink RX3 100 yX3_tireRingers ∈ wsL_law := aw_of (t2_in (List.mem_of_getElem? (i := 106) rfl)) rfl
theorem q2_108 : Cond.instanceMethod yX3_tireRingers ∈ wsL_law := aw_of (t2_in (List.mem_of_getElem? (i := 108) rfl)) rfl
theorem q2_109 : Cond.code yX3_tireRingers cX3_tireRingers 3 none ∈ wsL_law := aw_of (t2_in (List.mem_of_getElem? (i := 109) rfl)) rfl
theorem q2_110 : Cond.methodLink RX3 108 yX3_fallSilent ∈ wsL_law := aw_of (t2_in (List.mem_of_getElem? (i := 110) rfl)) rfl
theorem q2_112 : Cond.instanceMethod yX3_fallSilent ∈ wsL_law := aw_of (t2_in (List.mem_of_getElem? (i := 112) rfl)) rfl
theorem q2_113 : Cond.code yX3_fallSilent cX3_fallSilent 3 none ∈ wsL_law := aw_of (t2_in (List.mem_of_getElem? (i := 113) rfl)) rfl
theorem q2_114 : Cond.methodLink RL 48 yX4_append ∈ wsL_law := aw_of (t2_in (List.mem_of_getElem? (i := 114) rfl)) rfl
theorem q2_115 : Cond.instanceMethod yX4_append ∈ wsL_law := aw_of (t2_in (List.mem_of_getElem? (i := 115) rfl)) rfl
theorem q2_116 : Cond.selects RX4 yX4_append yX4_append ∈ wsL_law := aw_of (t2_in (List.mem_of_getElem? (i := 116) rfl)) rfl
theorem q2_117 : Cond.code yX4_append cX4_append 2 (some .int) ∈ wsL_law := aw_of (t2_in (List.mem_of_getElem? (i := 117) rfl)) rfl
theorem q2_118 : Cond.methodLink RX4 133 yX2_add ∈ wsL_law := aw_of (t2_in (List.mem_of_getElem? (i := 118) rfl)) rfl
theorem q2_119 : Cond.instanceMethod yX2_add ∈ wsL_law := aw_of (t2_in (List.mem_of_getElem? (i := 119) rfl)) rfl
theorem q2_120 : Cond.selects RX2 yX2_add yX2_add ∈ wsL_law := aw_of (t2_in (List.mem_of_getElem? (i := 120) rfl)) rfl
theorem q2_121 : Cond.code yX2_add cX2_add 2 none ∈ wsL_law := aw_of (t2_in (List.mem_of_getElem? (i := 121) rfl)) rfl
theorem q2_122 : Cond.methodLink RL 52 yX4_clearText ∈ wsL_law := aw_of (t2_in (List.mem_of_getElem? (i := 122) rfl)) rfl
theorem q2_123 : Cond.instanceMethod yX4_clearText ∈ wsL_law := aw_of (t2_in (List.mem_of_getElem? (i := 123) rfl)) rfl
theorem q2_124 : Cond.selects RX4 yX4_clearText yX4_clearText ∈ wsL_law := aw_of (t2_in (List.mem_of_getElem? (i := 124) rfl)) rfl
theorem q2_125 : Cond.code yX4_clearText cX4_clearText 2 (some .int) ∈ wsL_law := aw_of (t2_in (List.mem_of_getElem? (i := 125) rfl)) rfl
theorem q2_126 : Cond.methodLink RL 57 yX4_fault ∈ wsL_law := aw_of (t2_in (List.mem_of_getElem? (i := 126) rfl)) rfl
theorem q2_127 : Cond.instanceMethod yX4_fault ∈ wsL_law := aw_of (t2_in (List.mem_of_getElem? (i := 127) rfl)) rfl
theorem q2_128 : Cond.selects RX4 yX4_fault yX4_fault ∈ wsL_law := aw_of (t2_in (List.mem_of_getElem? (i := 128) rfl)) rfl
theorem q2_129 : Cond.code yX4_fault cX4_fault 1 (some .int) ∈ wsL_law := aw_of (t2_in (List.mem_of_getElem? (i := 129) rfl)) rfl
theorem q2_130 : Cond.methodLink RX4 137 yX2_firstFault ∈ wsL_law := aw_of (t2_in (List.mem_of_getElem? (i := 130) rfl)) rfl
theorem q2_131 : Cond.instanceMethod yX2_firstFault ∈ wsL_law := aw_of (t2_in (List.mem_of_getElem? (i := 131) rfl)) rfl
theorem q2_132 : Cond.selects RX2 yX2_firstFault yX2_firstFault ∈ wsL_law := aw_of (t2_in (List.mem_of_getElem? (i := 132) rfl)) rfl
theorem q2_133 : Cond.code yX2_firstFault cX2_firstFault 3 (some .int) ∈ wsL_law := aw_of (t2_in (List.mem_of_getElem? (i := 133) rfl)) rfl
theorem q2_134 : Cond.methodLink RX2 19 yX2_signAt ∈ wsL_law := aw_of (t2_in (List.mem_of_getElem? (i := 134) rfl)) rfl
theorem q2_135 : Cond.instanceMethod yX2_signAt ∈ wsL_law := aw_of (t2_in (List.mem_of_getElem? (i := 135) rfl)) rfl
theorem q2_136 : Cond.selects RX2 yX2_signAt yX2_signAt ∈ wsL_law := aw_of (t2_in (List.mem_of_getElem? (i := 136) rfl)) rfl
theorem q2_137 : Cond.code yX2_signAt cX2_signAt 2 (some .int) ∈ wsL_law := aw_of (t2_in (List.mem_of_getElem? (i := 137) rfl)) rfl
theorem q2_138 : Cond.methodLink RX2 29 yX2_after ∈ wsL_law := aw_of (t2_in (List.mem_of_getElem? (i := 138) rfl)) rfl
theorem q2_139 : Cond.static yX2_after ∈ wsL_law := aw_of (t2_in (List.mem_of_getElem? (i := 139) rfl)) rfl
theorem q2_140 : Cond.code yX2_after cX2_after 2 (some .int) ∈ wsL_law := aw_of (t2_in (List.mem_of_getElem? (i := 140) rfl)) rfl
theorem q2_141 : Cond.methodLink RX2 23 yX2_afterLetter ∈ wsL_law := aw_of (t2_in (List.mem_of_getElem? (i := 141) rfl)) rfl
theorem q2_142 : Cond.static yX2_afterLetter ∈ wsL_law := aw_of (t2_in (List.mem_of_getElem? (i := 142) rfl)) rfl
theorem q2_143 : Cond.code yX2_afterLetter cX2_afterLetter 1 (some .int) ∈ wsL_law := aw_of (t2_in (List.mem_of_getElem? (i := 143) rfl)) rfl
theorem q2_144 : Cond.methodLink RX2 33 yX2_isDigit ∈ wsL_law := aw_of (t2_in (List.mem_of_getElem? (i := 144) rfl)) rfl
theorem q2_145 : Cond.static yX2_isDigit ∈ wsL_law := aw_of (t2_in (List.mem_of_getElem? (i := 145) rfl)) rfl
theorem q2_146 : Cond.code yX2_isDigit cX2_isDigit 3 (some .boolean) ∈ wsL_law := aw_of (t2_in (List.mem_of_getElem? (i := 146) rfl)) rfl
theorem q2_147 : Cond.methodLink RX2 37 yX2_afterBells ∈ wsL_law := aw_of (t2_in (List.mem_of_getElem? (i := 147) rfl)) rfl
theorem q2_148 : Cond.static yX2_afterBells ∈ wsL_law := aw_of (t2_in (List.mem_of_getElem? (i := 148) rfl)) rfl
theorem q2_149 : Cond.code yX2_afterBells cX2_afterBells 2 (some .int) ∈ wsL_law := aw_of (t2_in (List.mem_of_getElem? (i := 149) rfl)) rfl
theorem q2_150 : Cond.methodLink RL 61 yX4_run ∈ wsL_law := aw_of (t2_in (List.mem_of_getElem? (i := 150) rfl)) rfl
theorem q2_151 : Cond.instanceMethod yX4_run ∈ wsL_law := aw_of (t2_in (List.mem_of_getElem? (i := 151) rfl)) rfl
theorem q2_152 : Cond.selects RX4 yX4_run yX4_run ∈ wsL_law := aw_of (t2_in (List.mem_of_getElem? (i := 152) rfl)) rfl
theorem q2_153 : Cond.code yX4_run cX4_run 4 (some .int) ∈ wsL_law := aw_of (t2_in (List.mem_of_getElem? (i := 153) rfl)) rfl
theorem q2_154 : Cond.methodLink RX4 141 yX2_beginsOrder ∈ wsL_law := aw_of (t2_in (List.mem_of_getElem? (i := 154) rfl)) rfl
theorem q2_155 : Cond.instanceMethod yX2_beginsOrder ∈ wsL_law := aw_of (t2_in (List.mem_of_getElem? (i := 155) rfl)) rfl
theorem q2_156 : Cond.selects RX2 yX2_beginsOrder yX2_beginsOrder ∈ wsL_law := aw_of (t2_in (List.mem_of_getElem? (i := 156) rfl)) rfl
theorem q2_157 : Cond.code yX2_beginsOrder cX2_beginsOrder 2 (some .boolean) ∈ wsL_law := aw_of (t2_in (List.mem_of_getElem? (i := 157) rfl)) rfl
theorem q2_158 : Cond.methodLink RX4 144 yX4_carryOut ∈ wsL_law := aw_of (t2_in (List.mem_of_getElem? (i := 158) rfl)) rfl
theorem q2_160 : Cond.instanceMethod yX4_carryOut ∈ wsL_law := aw_of (t2_in (List.mem_of_getElem? (i := 160) rfl)) rfl
theorem q2_161 : Cond.code yX4_carryOut cX4_carryOut 5 (some .boolean) ∈ wsL_law := aw_of (t2_in (List.mem_of_getElem? (i := 161) rfl)) rfl
theorem q2_162 : Cond.methodLink RX4 227 yX2_signAt ∈ wsL_law := aw_of (t2_in (List.mem_of_getElem? (i := 162) rfl)) rfl
theorem q2_163 : Cond.methodLink RX4 230 yX2_digitAt ∈ wsL_law := aw_of (t2_in (List.mem_of_getElem? (i := 163) rfl)) rfl
theorem q2_164 : Cond.instanceMethod yX2_digitAt ∈ wsL_law := aw_of (t2_in (List.mem_of_getElem? (i := 164) rfl)) rfl
theorem q2_165 : Cond.selects RX2 yX2_digitAt yX2_digitAt ∈ wsL_law := aw_of (t2_in (List.mem_of_getElem? (i := 165) rfl)) rfl
theorem q2_166 : Cond.code yX2_digitAt cX2_digitAt 2 (some .int) ∈ wsL_law := aw_of (t2_in (List.mem_of_getElem? (i := 166) rfl)) rfl
theorem q2_167 : Cond.methodLink RX4 233 yX2_bellsFrom ∈ wsL_law := aw_of (t2_in (List.mem_of_getElem? (i := 167) rfl)) rfl
theorem q2_168 : Cond.instanceMethod yX2_bellsFrom ∈ wsL_law := aw_of (t2_in (List.mem_of_getElem? (i := 168) rfl)) rfl
theorem q2_169 : Cond.selects RX2 yX2_bellsFrom yX2_bellsFrom ∈ wsL_law := aw_of (t2_in (List.mem_of_getElem? (i := 169) rfl)) rfl
theorem q2_170 : Cond.code yX2_bellsFrom cX2_bellsFrom 4 (some .int) ∈ wsL_law := aw_of (t2_in (List.mem_of_getElem? (i := 170) rfl)) rfl
theorem q2_171 : Cond.methodLink RX2 26 yX2_digitAt ∈ wsL_law := aw_of (t2_in (List.mem_of_getElem? (i := 171) rfl)) rfl
theorem q2_172 : Cond.methodLink RL 65 yX4_undo ∈ wsL_law := aw_of (t2_in (List.mem_of_getElem? (i := 172) rfl)) rfl
theorem q2_173 : Cond.instanceMethod yX4_undo ∈ wsL_law := aw_of (t2_in (List.mem_of_getElem? (i := 173) rfl)) rfl
theorem q2_174 : Cond.selects RX4 yX4_undo yX4_undo ∈ wsL_law := aw_of (t2_in (List.mem_of_getElem? (i := 174) rfl)) rfl
theorem q2_175 : Cond.code yX4_undo cX4_undo 1 (some .int) ∈ wsL_law := aw_of (t2_in (List.mem_of_getElem? (i := 175) rfl)) rfl
theorem q2_176 : Cond.methodLink RX4 150 yX0_takeBack ∈ wsL_law := aw_of (t2_in (List.mem_of_getElem? (i := 176) rfl)) rfl
theorem q2_177 : Cond.instanceMethod yX0_takeBack ∈ wsL_law := aw_of (t2_in (List.mem_of_getElem? (i := 177) rfl)) rfl
theorem q2_178 : Cond.selects RX0 yX0_takeBack yX0_takeBack ∈ wsL_law := aw_of (t2_in (List.mem_of_getElem? (i := 178) rfl)) rfl
theorem q2_179 : Cond.code yX0_takeBack cX0_takeBack 3 none ∈ wsL_law := aw_of (t2_in (List.mem_of_getElem? (i := 179) rfl)) rfl
theorem q2_180 : Cond.methodLink RL 69 yX4_save ∈ wsL_law := aw_of (t2_in (List.mem_of_getElem? (i := 180) rfl)) rfl
theorem q2_181 : Cond.instanceMethod yX4_save ∈ wsL_law := aw_of (t2_in (List.mem_of_getElem? (i := 181) rfl)) rfl
theorem q2_182 : Cond.selects RX4 yX4_save yX4_save ∈ wsL_law := aw_of (t2_in (List.mem_of_getElem? (i := 182) rfl)) rfl
theorem q2_183 : Cond.code yX4_save cX4_save 1 (some .int) ∈ wsL_law := aw_of (t2_in (List.mem_of_getElem? (i := 183) rfl)) rfl
theorem q2_184 : Cond.methodLink RX4 153 yX3_copyFrom ∈ wsL_law := aw_of (t2_in (List.mem_of_getElem? (i := 184) rfl)) rfl
theorem q2_185 : Cond.methodLink RL 73 yX4_restore ∈ wsL_law := aw_of (t2_in (List.mem_of_getElem? (i := 185) rfl)) rfl
theorem q2_186 : Cond.instanceMethod yX4_restore ∈ wsL_law := aw_of (t2_in (List.mem_of_getElem? (i := 186) rfl)) rfl
theorem q2_187 : Cond.selects RX4 yX4_restore yX4_restore ∈ wsL_law := aw_of (t2_in (List.mem_of_getElem? (i := 187) rfl)) rfl
theorem q2_188 : Cond.code yX4_restore cX4_restore 1 (some .int) ∈ wsL_law := aw_of (t2_in (List.mem_of_getElem? (i := 188) rfl)) rfl
theorem q2_189 : Cond.methodLink RL 77 yX4_town ∈ wsL_law := aw_of (t2_in (List.mem_of_getElem? (i := 189) rfl)) rfl
theorem q2_190 : Cond.instanceMethod yX4_town ∈ wsL_law := aw_of (t2_in (List.mem_of_getElem? (i := 190) rfl)) rfl
theorem q2_191 : Cond.selects RX4 yX4_town yX4_town ∈ wsL_law := aw_of (t2_in (List.mem_of_getElem? (i := 191) rfl)) rfl
theorem q2_192 : Cond.code yX4_town cX4_town 3 (some .int) ∈ wsL_law := aw_of (t2_in (List.mem_of_getElem? (i := 192) rfl)) rfl
theorem q2_193 : Cond.methodLink RL 81 yX4_bell ∈ wsL_law := aw_of (t2_in (List.mem_of_getElem? (i := 193) rfl)) rfl
theorem q2_194 : Cond.instanceMethod yX4_bell ∈ wsL_law := aw_of (t2_in (List.mem_of_getElem? (i := 194) rfl)) rfl
theorem q2_195 : Cond.selects RX4 yX4_bell yX4_bell ∈ wsL_law := aw_of (t2_in (List.mem_of_getElem? (i := 195) rfl)) rfl
theorem q2_196 : Cond.code yX4_bell cX4_bell 5 (some .int) ∈ wsL_law := aw_of (t2_in (List.mem_of_getElem? (i := 196) rfl)) rfl
theorem q2_197 : Cond.methodLink RX4 174 yX4_ringersFor ∈ wsL_law := aw_of (t2_in (List.mem_of_getElem? (i := 197) rfl)) rfl
theorem q2_198 : Cond.methodLink RL 85 yX4_count ∈ wsL_law := aw_of (t2_in (List.mem_of_getElem? (i := 198) rfl)) rfl
theorem q2_199 : Cond.instanceMethod yX4_count ∈ wsL_law := aw_of (t2_in (List.mem_of_getElem? (i := 199) rfl)) rfl
theorem q2_200 : Cond.selects RX4 yX4_count yX4_count ∈ wsL_law := aw_of (t2_in (List.mem_of_getElem? (i := 200) rfl)) rfl
theorem q2_201 : Cond.code yX4_count cX4_count 2 (some .int) ∈ wsL_law := aw_of (t2_in (List.mem_of_getElem? (i := 201) rfl)) rfl
theorem q2_202 : Cond.methodLink RX4 186 yX3_allBells ∈ wsL_law := aw_of (t2_in (List.mem_of_getElem? (i := 202) rfl)) rfl
theorem q2_203 : Cond.instanceMethod yX3_allBells ∈ wsL_law := aw_of (t2_in (List.mem_of_getElem? (i := 203) rfl)) rfl
theorem q2_204 : Cond.selects RX3 yX3_allBells yX3_allBells ∈ wsL_law := aw_of (t2_in (List.mem_of_getElem? (i := 204) rfl)) rfl
theorem q2_205 : Cond.code yX3_allBells cX3_allBells 3 (some .int) ∈ wsL_law := aw_of (t2_in (List.mem_of_getElem? (i := 205) rfl)) rfl
theorem q2_206 : Cond.methodLink RX4 189 yX3_brokenRopes ∈ wsL_law := aw_of (t2_in (List.mem_of_getElem? (i := 206) rfl)) rfl
theorem q2_207 : Cond.instanceMethod yX3_brokenRopes ∈ wsL_law := aw_of (t2_in (List.mem_of_getElem? (i := 207) rfl)) rfl
theorem q2_208 : Cond.selects RX3 yX3_brokenRopes yX3_brokenRopes ∈ wsL_law := aw_of (t2_in (List.mem_of_getElem? (i := 208) rfl)) rfl
theorem q2_209 : Cond.code yX3_brokenRopes cX3_brokenRopes 3 (some .int) ∈ wsL_law := aw_of (t2_in (List.mem_of_getElem? (i := 209) rfl)) rfl
theorem q2_210 : Cond.methodLink RX4 192 yX3_silentTowns ∈ wsL_law := aw_of (t2_in (List.mem_of_getElem? (i := 210) rfl)) rfl
theorem q2_211 : Cond.instanceMethod yX3_silentTowns ∈ wsL_law := aw_of (t2_in (List.mem_of_getElem? (i := 211) rfl)) rfl
theorem q2_212 : Cond.selects RX3 yX3_silentTowns yX3_silentTowns ∈ wsL_law := aw_of (t2_in (List.mem_of_getElem? (i := 212) rfl)) rfl
theorem q2_213 : Cond.code yX3_silentTowns cX3_silentTowns 3 (some .int) ∈ wsL_law := aw_of (t2_in (List.mem_of_getElem? (i := 213) rfl)) rfl
theorem q2_214 : Cond.methodLink RX4 195 yX3_allPoints ∈ wsL_law := aw_of (t2_in (List.mem_of_getElem? (i := 214) rfl)) rfl
theorem q2_215 : Cond.instanceMethod yX3_allPoints ∈ wsL_law := aw_of (t2_in (List.mem_of_getElem? (i := 215) rfl)) rfl
theorem q2_216 : Cond.selects RX3 yX3_allPoints yX3_allPoints ∈ wsL_law := aw_of (t2_in (List.mem_of_getElem? (i := 216) rfl)) rfl
theorem q2_217 : Cond.code yX3_allPoints cX3_allPoints 3 (some .int) ∈ wsL_law := aw_of (t2_in (List.mem_of_getElem? (i := 217) rfl)) rfl
theorem q2_218 : Cond.methodLink RL 89 yX4_loudness ∈ wsL_law := aw_of (t2_in (List.mem_of_getElem? (i := 218) rfl)) rfl
theorem q2_219 : Cond.instanceMethod yX4_loudness ∈ wsL_law := aw_of (t2_in (List.mem_of_getElem? (i := 219) rfl)) rfl
theorem q2_220 : Cond.selects RX4 yX4_loudness yX4_loudness ∈ wsL_law := aw_of (t2_in (List.mem_of_getElem? (i := 220) rfl)) rfl
theorem q2_221 : Cond.code yX4_loudness cX4_loudness 2 (some .int) ∈ wsL_law := aw_of (t2_in (List.mem_of_getElem? (i := 221) rfl)) rfl
theorem q2_222 : Cond.methodLink RL 93 yX4_heard ∈ wsL_law := aw_of (t2_in (List.mem_of_getElem? (i := 222) rfl)) rfl
theorem q2_223 : Cond.instanceMethod yX4_heard ∈ wsL_law := aw_of (t2_in (List.mem_of_getElem? (i := 223) rfl)) rfl
theorem q2_224 : Cond.selects RX4 yX4_heard yX4_heard ∈ wsL_law := aw_of (t2_in (List.mem_of_getElem? (i := 224) rfl)) rfl
theorem q2_225 : Cond.code yX4_heard cX4_heard 3 (some .int) ∈ wsL_law := aw_of (t2_in (List.mem_of_getElem? (i := 225) rfl)) rfl
theorem q2_226 : Cond.methodLink RX4 204 yX1_soundIn ∈ wsL_law := aw_of (t2_in (List.mem_of_getElem? (i := 226) rfl)) rfl
theorem q2_227 : Cond.methodLink RL 97 yX4_winner ∈ wsL_law := aw_of (t2_in (List.mem_of_getElem? (i := 227) rfl)) rfl
theorem q2_228 : Cond.instanceMethod yX4_winner ∈ wsL_law := aw_of (t2_in (List.mem_of_getElem? (i := 228) rfl)) rfl
theorem q2_229 : Cond.selects RX4 yX4_winner yX4_winner ∈ wsL_law := aw_of (t2_in (List.mem_of_getElem? (i := 229) rfl)) rfl
theorem q2_230 : Cond.code yX4_winner cX4_winner 2 (some .int) ∈ wsL_law := aw_of (t2_in (List.mem_of_getElem? (i := 230) rfl)) rfl
theorem q2_231 : Cond.methodLink RL 101 yX4_ifPlanned ∈ wsL_law := aw_of (t2_in (List.mem_of_getElem? (i := 231) rfl)) rfl
theorem q2_232 : Cond.instanceMethod yX4_ifPlanned ∈ wsL_law := aw_of (t2_in (List.mem_of_getElem? (i := 232) rfl)) rfl
theorem q2_233 : Cond.selects RX4 yX4_ifPlanned yX4_ifPlanned ∈ wsL_law := aw_of (t2_in (List.mem_of_getElem? (i := 233) rfl)) rfl
theorem q2_234 : Cond.code yX4_ifPlanned cX4_ifPlanned 4 (some .int) ∈ wsL_law := aw_of (t2_in (List.mem_of_getElem? (i := 234) rfl)) rfl
theorem q2_235 : Cond.methodLink RX4 211 yX4_pointsWithPlan ∈ wsL_law := aw_of (t2_in (List.mem_of_getElem? (i := 235) rfl)) rfl
theorem q2_237 : Cond.instanceMethod yX4_pointsWithPlan ∈ wsL_law := aw_of (t2_in (List.mem_of_getElem? (i := 237) rfl)) rfl
theorem q2_238 : Cond.code yX4_pointsWithPlan cX4_pointsWithPlan 3 (some .int) ∈ wsL_law := aw_of (t2_in (List.mem_of_getElem? (i := 238) rfl)) rfl
theorem q2_239 : Cond.methodLink RX4 224 yX1_pointsOf ∈ wsL_law := aw_of (t2_in (List.mem_of_getElem? (i := 239) rfl)) rfl
theorem q3_0 : Cond.instanceMethod yX1_pointsOf ∈ wsL_law := aw_of (t3_in (List.mem_of_getElem? (i := 0) rfl)) rfl
theorem q3_1 : Cond.selects RX1 yX1_pointsOf yX1_pointsOf ∈ wsL_law := aw_of (t3_in (List.mem_of_getElem? (i := 1) rfl)) rfl
theorem q3_2 : Cond.code yX1_pointsOf cX1_pointsOf 4 (some .int) ∈ wsL_law := aw_of (t3_in (List.mem_of_getElem? (i := 2) rfl)) rfl
theorem q3_3 : Cond.methodLink RL 105 yX4_bestPlan ∈ wsL_law := aw_of (t3_in (List.mem_of_getElem? (i := 3) rfl)) rfl
theorem q3_4 : Cond.instanceMethod yX4_bestPlan ∈ wsL_law := aw_of (t3_in (List.mem_of_getElem? (i := 4) rfl)) rfl
theorem q3_5 : Cond.selects RX4 yX4_bestPlan yX4_bestPlan ∈ wsL_law := aw_of (t3_in (List.mem_of_getElem? (i := 5) rfl)) rfl
theorem q3_6 : Cond.code yX4_bestPlan cX4_bestPlan 8 (some .int) ∈ wsL_law := aw_of (t3_in (List.mem_of_getElem? (i := 6) rfl)) rfl
theorem q3_7 : Cond.methodLink RL 109 yX4_pointsIn ∈ wsL_law := aw_of (t3_in (List.mem_of_getElem? (i := 7) rfl)) rfl
theorem q3_8 : Cond.instanceMethod yX4_pointsIn ∈ wsL_law := aw_of (t3_in (List.mem_of_getElem? (i := 8) rfl)) rfl
theorem q3_9 : Cond.selects RX4 yX4_pointsIn yX4_pointsIn ∈ wsL_law := aw_of (t3_in (List.mem_of_getElem? (i := 9) rfl)) rfl
theorem q3_10 : Cond.code yX4_pointsIn cX4_pointsIn 4 (some .int) ∈ wsL_law := aw_of (t3_in (List.mem_of_getElem? (i := 10) rfl)) rfl
theorem q3_11 : Cond.methodLink RL 113 yX4_share ∈ wsL_law := aw_of (t3_in (List.mem_of_getElem? (i := 11) rfl)) rfl
theorem q3_12 : Cond.instanceMethod yX4_share ∈ wsL_law := aw_of (t3_in (List.mem_of_getElem? (i := 12) rfl)) rfl
theorem q3_13 : Cond.selects RX4 yX4_share yX4_share ∈ wsL_law := aw_of (t3_in (List.mem_of_getElem? (i := 13) rfl)) rfl
theorem q3_14 : Cond.code yX4_share cX4_share 3 (some .double) ∈ wsL_law := aw_of (t3_in (List.mem_of_getElem? (i := 14) rfl)) rfl
theorem q3_15 : Cond.classLink RL 10 RX5 ∈ wsL_law := aw_of (t3_in (List.mem_of_getElem? (i := 15) rfl)) rfl
theorem q3_16 : Cond.instantiable RX5 14 ∈ wsL_law := aw_of (t3_in (List.mem_of_getElem? (i := 16) rfl)) rfl
theorem q3_17 : Cond.methodLink RL 12 yX5_init ∈ wsL_law := aw_of (t3_in (List.mem_of_getElem? (i := 17) rfl)) rfl
theorem q3_18 : Cond.instanceMethod yX5_init ∈ wsL_law := aw_of (t3_in (List.mem_of_getElem? (i := 18) rfl)) rfl
theorem q3_19 : Cond.code yX5_init cX5_init 2 none ∈ wsL_law := aw_of (t3_in (List.mem_of_getElem? (i := 19) rfl)) rfl
theorem q3_20 : Cond.methodLink RX5 1 ⟨"java/lang/Object", "<init>", "()V"⟩ ∈ wsL_law := aw_of (t3_in (List.mem_of_getElem? (i := 20) rfl)) rfl
theorem q3_21 : Cond.methodLink RX5 37 yX5_put ∈ wsL_law := aw_of (t3_in (List.mem_of_getElem? (i := 21) rfl)) rfl
theorem q3_23 : Cond.instanceMethod yX5_put ∈ wsL_law := aw_of (t3_in (List.mem_of_getElem? (i := 23) rfl)) rfl
theorem q3_24 : Cond.code yX5_put cX5_put 4 none ∈ wsL_law := aw_of (t3_in (List.mem_of_getElem? (i := 24) rfl)) rfl
theorem q3_25 : Cond.fieldLink RX5 7 "BellTownsModel" "row" "[I" ∈ wsL_law := aw_of (t3_in (List.mem_of_getElem? (i := 25) rfl)) rfl
theorem q3_26 : Cond.fieldLink RX5 13 "BellTownsModel" "history" "[I" ∈ wsL_law := aw_of (t3_in (List.mem_of_getElem? (i := 26) rfl)) rfl
theorem q3_27 : Cond.fieldLink RX5 53 "BellTownsModel" "states" "I" ∈ wsL_law := aw_of (t3_in (List.mem_of_getElem? (i := 27) rfl)) rfl
theorem q3_28 : Cond.fieldLink RX5 16 "BellTownsModel" "snapshot" "[I" ∈ wsL_law := aw_of (t3_in (List.mem_of_getElem? (i := 28) rfl)) rfl
theorem q3_29 : Cond.fieldLink RX5 57 "BellTownsModel" "isSaved" "Z" ∈ wsL_law := aw_of (t3_in (List.mem_of_getElem? (i := 29) rfl)) rfl
theorem q3_30 : Cond.fieldLink RX5 19 "BellTownsModel" "aside" "[I" ∈ wsL_law := aw_of (t3_in (List.mem_of_getElem? (i := 30) rfl)) rfl
theorem q3_31 : Cond.fieldLink RX5 22 "BellTownsModel" "loud" "[I" ∈ wsL_law := aw_of (t3_in (List.mem_of_getElem? (i := 31) rfl)) rfl
theorem q3_32 : Cond.fieldLink RX5 25 "BellTownsModel" "text" "[I" ∈ wsL_law := aw_of (t3_in (List.mem_of_getElem? (i := 32) rfl)) rfl
theorem q3_33 : Cond.fieldLink RX5 120 "BellTownsModel" "length" "I" ∈ wsL_law := aw_of (t3_in (List.mem_of_getElem? (i := 33) rfl)) rfl
theorem q3_34 : Cond.fieldLink RX5 123 "BellTownsModel" "spot" "I" ∈ wsL_law := aw_of (t3_in (List.mem_of_getElem? (i := 34) rfl)) rfl
theorem q3_35 : Cond.fieldLink RX5 129 "BellTownsModel" "orders" "I" ∈ wsL_law := aw_of (t3_in (List.mem_of_getElem? (i := 35) rfl)) rfl
theorem q3_36 : Cond.fieldLink RX5 28 "BellTownsModel" "letter" "[I" ∈ wsL_law := aw_of (t3_in (List.mem_of_getElem? (i := 36) rfl)) rfl
theorem q3_37 : Cond.fieldLink RX5 31 "BellTownsModel" "one" "[I" ∈ wsL_law := aw_of (t3_in (List.mem_of_getElem? (i := 37) rfl)) rfl
theorem q3_38 : Cond.fieldLink RX5 34 "BellTownsModel" "bells" "[I" ∈ wsL_law := aw_of (t3_in (List.mem_of_getElem? (i := 38) rfl)) rfl
theorem q3_68 : Cond.methodLink RL 68 yX5_undo ∈ wsL_law := aw_of (t3_in (List.mem_of_getElem? (i := 68) rfl)) rfl
theorem q3_69 : Cond.instanceMethod yX5_undo ∈ wsL_law := aw_of (t3_in (List.mem_of_getElem? (i := 69) rfl)) rfl
theorem q3_70 : Cond.selects RX5 yX5_undo yX5_undo ∈ wsL_law := aw_of (t3_in (List.mem_of_getElem? (i := 70) rfl)) rfl
theorem q3_71 : Cond.code yX5_undo cX5_undo 2 (some .int) ∈ wsL_law := aw_of (t3_in (List.mem_of_getElem? (i := 71) rfl)) rfl
theorem q3_72 : Cond.methodLink RL 72 yX5_save ∈ wsL_law := aw_of (t3_in (List.mem_of_getElem? (i := 72) rfl)) rfl
theorem q3_73 : Cond.instanceMethod yX5_save ∈ wsL_law := aw_of (t3_in (List.mem_of_getElem? (i := 73) rfl)) rfl
theorem q3_74 : Cond.selects RX5 yX5_save yX5_save ∈ wsL_law := aw_of (t3_in (List.mem_of_getElem? (i := 74) rfl)) rfl
theorem q3_75 : Cond.code yX5_save cX5_save 2 (some .int) ∈ wsL_law := aw_of (t3_in (List.mem_of_getElem? (i := 75) rfl)) rfl
theorem q3_76 : Cond.methodLink RL 76 yX5_restore ∈ wsL_law := aw_of (t3_in (List.mem_of_getElem? (i := 76) rfl)) rfl
theorem q3_77 : Cond.instanceMethod yX5_restore ∈ wsL_law := aw_of (t3_in (List.mem_of_getElem? (i := 77) rfl)) rfl
theorem q3_78 : Cond.selects RX5 yX5_restore yX5_restore ∈ wsL_law := aw_of (t3_in (List.mem_of_getElem? (i := 78) rfl)) rfl
theorem q3_79 : Cond.code yX5_restore cX5_restore 2 (some .int) ∈ wsL_law := aw_of (t3_in (List.mem_of_getElem? (i := 79) rfl)) rfl
theorem q3_80 : Cond.methodLink RX5 61 yX5_record ∈ wsL_law := aw_of (t3_in (List.mem_of_getElem? (i := 80) rfl)) rfl
theorem q3_82 : Cond.instanceMethod yX5_record ∈ wsL_law := aw_of (t3_in (List.mem_of_getElem? (i := 82) rfl)) rfl
theorem q3_83 : Cond.code yX5_record cX5_record 2 none ∈ wsL_law := aw_of (t3_in (List.mem_of_getElem? (i := 83) rfl)) rfl
theorem q3_84 : Cond.methodLink RL 17 yX5_hang ∈ wsL_law := aw_of (t3_in (List.mem_of_getElem? (i := 84) rfl)) rfl
theorem q3_85 : Cond.instanceMethod yX5_hang ∈ wsL_law := aw_of (t3_in (List.mem_of_getElem? (i := 85) rfl)) rfl
theorem q3_86 : Cond.selects RX5 yX5_hang yX5_hang ∈ wsL_law := aw_of (t3_in (List.mem_of_getElem? (i := 86) rfl)) rfl
theorem q3_87 : Cond.code yX5_hang cX5_hang 4 (some .int) ∈ wsL_law := aw_of (t3_in (List.mem_of_getElem? (i := 87) rfl)) rfl
theorem q3_88 : Cond.methodLink RX5 45 yX5_isTown ∈ wsL_law := aw_of (t3_in (List.mem_of_getElem? (i := 88) rfl)) rfl
theorem q3_89 : Cond.static yX5_isTown ∈ wsL_law := aw_of (t3_in (List.mem_of_getElem? (i := 89) rfl)) rfl
theorem q3_90 : Cond.code yX5_isTown cX5_isTown 1 (some .boolean) ∈ wsL_law := aw_of (t3_in (List.mem_of_getElem? (i := 90) rfl)) rfl
theorem q3_91 : Cond.methodLink RX5 41 yX5_in ∈ wsL_law := aw_of (t3_in (List.mem_of_getElem? (i := 91) rfl)) rfl
theorem q3_92 : Cond.static yX5_in ∈ wsL_law := aw_of (t3_in (List.mem_of_getElem? (i := 92) rfl)) rfl
theorem q3_93 : Cond.code yX5_in cX5_in 3 (some .boolean) ∈ wsL_law := aw_of (t3_in (List.mem_of_getElem? (i := 93) rfl)) rfl
theorem q3_94 : Cond.methodLink RX5 49 yX5_of ∈ wsL_law := aw_of (t3_in (List.mem_of_getElem? (i := 94) rfl)) rfl
theorem q3_96 : Cond.instanceMethod yX5_of ∈ wsL_law := aw_of (t3_in (List.mem_of_getElem? (i := 96) rfl)) rfl
theorem q3_97 : Cond.code yX5_of cX5_of 3 (some .int) ∈ wsL_law := aw_of (t3_in (List.mem_of_getElem? (i := 97) rfl)) rfl
theorem q3_98 : Cond.methodLink RL 21 yX5_melt ∈ wsL_law := aw_of (t3_in (List.mem_of_getElem? (i := 98) rfl)) rfl
theorem q3_99 : Cond.instanceMethod yX5_melt ∈ wsL_law := aw_of (t3_in (List.mem_of_getElem? (i := 99) rfl)) rfl
theorem q3_100 : Cond.selects RX5 yX5_melt yX5_melt ∈ wsL_law := aw_of (t3_in (List.mem_of_getElem? (i := 100) rfl)) rfl
theorem q3_101 : Cond.code yX5_melt cX5_melt 6 (some .int) ∈ wsL_law := aw_of (t3_in (List.mem_of_getElem? (i := 101) rfl)) rfl
theorem q3_102 : Cond.methodLink RX5 97 yX5_isBell ∈ wsL_law := aw_of (t3_in (List.mem_of_getElem? (i := 102) rfl)) rfl
theorem q3_104 : Cond.instanceMethod yX5_isBell ∈ wsL_law := aw_of (t3_in (List.mem_of_getElem? (i := 104) rfl)) rfl
theorem q3_105 : Cond.code yX5_isBell cX5_isBell 3 (some .boolean) ∈ wsL_law := aw_of (t3_in (List.mem_of_getElem? (i := 105) rfl)) rfl
theorem q3_106 : Cond.methodLink RL 26 yX5_settle ∈ wsL_law := aw_of (t3_in (List.mem_of_getElem? (i := 106) rfl)) rfl
theorem q3_107 : Cond.instanceMethod yX5_settle ∈ wsL_law := aw_of (t3_in (List.mem_of_getElem? (i := 107) rfl)) rfl
theorem q3_108 : Cond.selects RX5 yX5_settle yX5_settle ∈ wsL_law := aw_of (t3_in (List.mem_of_getElem? (i := 108) rfl)) rfl
theorem q3_109 : Cond.code yX5_settle cX5_settle 4 (some .int) ∈ wsL_law := aw_of (t3_in (List.mem_of_getElem? (i := 109) rfl)) rfl
theorem q3_110 : Cond.methodLink RX5 101 yX5_isTaken ∈ wsL_law := aw_of (t3_in (List.mem_of_getElem? (i := 110) rfl)) rfl
theorem q3_112 : Cond.instanceMethod yX5_isTaken ∈ wsL_law := aw_of (t3_in (List.mem_of_getElem? (i := 112) rfl)) rfl
theorem q3_113 : Cond.code yX5_isTaken cX5_isTaken 5 (some .boolean) ∈ wsL_law := aw_of (t3_in (List.mem_of_getElem? (i := 113) rfl)) rfl
theorem q3_114 : Cond.methodLink RL 30 yX5_plan ∈ wsL_law := aw_of (t3_in (List.mem_of_getElem? (i := 114) rfl)) rfl
theorem q3_115 : Cond.instanceMethod yX5_plan ∈ wsL_law := aw_of (t3_in (List.mem_of_getElem? (i := 115) rfl)) rfl
theorem q3_116 : Cond.selects RX5 yX5_plan yX5_plan ∈ wsL_law := aw_of (t3_in (List.mem_of_getElem? (i := 116) rfl)) rfl
theorem q3_117 : Cond.code yX5_plan cX5_plan 4 (some .int) ∈ wsL_law := aw_of (t3_in (List.mem_of_getElem? (i := 117) rfl)) rfl
theorem q3_118 : Cond.methodLink RX5 104 yX5_hasBells ∈ wsL_law := aw_of (t3_in (List.mem_of_getElem? (i := 118) rfl)) rfl
theorem q3_120 : Cond.instanceMethod yX5_hasBells ∈ wsL_law := aw_of (t3_in (List.mem_of_getElem? (i := 120) rfl)) rfl
theorem q3_121 : Cond.code yX5_hasBells cX5_hasBells 3 (some .boolean) ∈ wsL_law := aw_of (t3_in (List.mem_of_getElem? (i := 121) rfl)) rfl
theorem q3_122 : Cond.methodLink RX5 64 yX5_allBells ∈ wsL_law := aw_of (t3_in (List.mem_of_getElem? (i := 122) rfl)) rfl
theorem q3_124 : Cond.instanceMethod yX5_allBells ∈ wsL_law := aw_of (t3_in (List.mem_of_getElem? (i := 124) rfl)) rfl
theorem q3_125 : Cond.code yX5_allBells cX5_allBells 2 (some .int) ∈ wsL_law := aw_of (t3_in (List.mem_of_getElem? (i := 125) rfl)) rfl
theorem q3_126 : Cond.methodLink RL 34 yX5_splice ∈ wsL_law := aw_of (t3_in (List.mem_of_getElem? (i := 126) rfl)) rfl
theorem q3_127 : Cond.instanceMethod yX5_splice ∈ wsL_law := aw_of (t3_in (List.mem_of_getElem? (i := 127) rfl)) rfl
theorem q3_128 : Cond.selects RX5 yX5_splice yX5_splice ∈ wsL_law := aw_of (t3_in (List.mem_of_getElem? (i := 128) rfl)) rfl
theorem q3_129 : Cond.code yX5_splice cX5_splice 3 (some .int) ∈ wsL_law := aw_of (t3_in (List.mem_of_getElem? (i := 129) rfl)) rfl
theorem q3_130 : Cond.methodLink RX5 107 yX5_canSplice ∈ wsL_law := aw_of (t3_in (List.mem_of_getElem? (i := 130) rfl)) rfl
theorem q3_132 : Cond.instanceMethod yX5_canSplice ∈ wsL_law := aw_of (t3_in (List.mem_of_getElem? (i := 132) rfl)) rfl
theorem q3_133 : Cond.code yX5_canSplice cX5_canSplice 3 (some .boolean) ∈ wsL_law := aw_of (t3_in (List.mem_of_getElem? (i := 133) rfl)) rfl
theorem q3_134 : Cond.methodLink RX5 110 yX5_spliceNow ∈ wsL_law := aw_of (t3_in (List.mem_of_getElem? (i := 134) rfl)) rfl
theorem q3_136 : Cond.instanceMethod yX5_spliceNow ∈ wsL_law := aw_of (t3_in (List.mem_of_getElem? (i := 136) rfl)) rfl
theorem q3_137 : Cond.code yX5_spliceNow cX5_spliceNow 4 (some .int) ∈ wsL_law := aw_of (t3_in (List.mem_of_getElem? (i := 137) rfl)) rfl
theorem q3_138 : Cond.methodLink RL 38 yX5_feast ∈ wsL_law := aw_of (t3_in (List.mem_of_getElem? (i := 138) rfl)) rfl
theorem q3_139 : Cond.instanceMethod yX5_feast ∈ wsL_law := aw_of (t3_in (List.mem_of_getElem? (i := 139) rfl)) rfl
theorem q3_140 : Cond.selects RX5 yX5_feast yX5_feast ∈ wsL_law := aw_of (t3_in (List.mem_of_getElem? (i := 140) rfl)) rfl
theorem q3_141 : Cond.code yX5_feast cX5_feast 4 (some .int) ∈ wsL_law := aw_of (t3_in (List.mem_of_getElem? (i := 141) rfl)) rfl
theorem q3_142 : Cond.methodLink RL 42 yX5_set ∈ wsL_law := aw_of (t3_in (List.mem_of_getElem? (i := 142) rfl)) rfl
theorem q3_143 : Cond.instanceMethod yX5_set ∈ wsL_law := aw_of (t3_in (List.mem_of_getElem? (i := 143) rfl)) rfl
theorem q3_144 : Cond.selects RX5 yX5_set yX5_set ∈ wsL_law := aw_of (t3_in (List.mem_of_getElem? (i := 144) rfl)) rfl
theorem q3_145 : Cond.code yX5_set cX5_set 4 (some .int) ∈ wsL_law := aw_of (t3_in (List.mem_of_getElem? (i := 145) rfl)) rfl
theorem q3_146 : Cond.methodLink RL 47 yX5_turns ∈ wsL_law := aw_of (t3_in (List.mem_of_getElem? (i := 146) rfl)) rfl
theorem q3_147 : Cond.instanceMethod yX5_turns ∈ wsL_law := aw_of (t3_in (List.mem_of_getElem? (i := 147) rfl)) rfl
theorem q3_148 : Cond.selects RX5 yX5_turns yX5_turns ∈ wsL_law := aw_of (t3_in (List.mem_of_getElem? (i := 148) rfl)) rfl
theorem q3_149 : Cond.code yX5_turns cX5_turns 2 (some .int) ∈ wsL_law := aw_of (t3_in (List.mem_of_getElem? (i := 149) rfl)) rfl
theorem q3_150 : Cond.methodLink RX5 116 yX5_turnsNow ∈ wsL_law := aw_of (t3_in (List.mem_of_getElem? (i := 150) rfl)) rfl
theorem q3_152 : Cond.instanceMethod yX5_turnsNow ∈ wsL_law := aw_of (t3_in (List.mem_of_getElem? (i := 152) rfl)) rfl
theorem q3_153 : Cond.code yX5_turnsNow cX5_turnsNow 3 none ∈ wsL_law := aw_of (t3_in (List.mem_of_getElem? (i := 153) rfl)) rfl
theorem q3_154 : Cond.methodLink RX5 113 yX5_turn ∈ wsL_law := aw_of (t3_in (List.mem_of_getElem? (i := 154) rfl)) rfl
theorem q3_156 : Cond.instanceMethod yX5_turn ∈ wsL_law := aw_of (t3_in (List.mem_of_getElem? (i := 156) rfl)) rfl
theorem q3_157 : Cond.code yX5_turn cX5_turn 4 none ∈ wsL_law := aw_of (t3_in (List.mem_of_getElem? (i := 157) rfl)) rfl
theorem q3_158 : Cond.methodLink RX5 83 yX5_listen ∈ wsL_law := aw_of (t3_in (List.mem_of_getElem? (i := 158) rfl)) rfl
theorem q3_160 : Cond.instanceMethod yX5_listen ∈ wsL_law := aw_of (t3_in (List.mem_of_getElem? (i := 160) rfl)) rfl
theorem q3_161 : Cond.code yX5_listen cX5_listen 2 none ∈ wsL_law := aw_of (t3_in (List.mem_of_getElem? (i := 161) rfl)) rfl
theorem q3_162 : Cond.methodLink RX5 74 yX5_rings ∈ wsL_law := aw_of (t3_in (List.mem_of_getElem? (i := 162) rfl)) rfl
theorem q3_164 : Cond.instanceMethod yX5_rings ∈ wsL_law := aw_of (t3_in (List.mem_of_getElem? (i := 164) rfl)) rfl
theorem q3_165 : Cond.code yX5_rings cX5_rings 7 (some .int) ∈ wsL_law := aw_of (t3_in (List.mem_of_getElem? (i := 165) rfl)) rfl
theorem q3_166 : Cond.methodLink RX5 68 yX5_wanted ∈ wsL_law := aw_of (t3_in (List.mem_of_getElem? (i := 166) rfl)) rfl
theorem q3_168 : Cond.instanceMethod yX5_wanted ∈ wsL_law := aw_of (t3_in (List.mem_of_getElem? (i := 168) rfl)) rfl
theorem q3_169 : Cond.code yX5_wanted cX5_wanted 3 (some .int) ∈ wsL_law := aw_of (t3_in (List.mem_of_getElem? (i := 169) rfl)) rfl
theorem q3_170 : Cond.methodLink RX5 71 yX5_takes ∈ wsL_law := aw_of (t3_in (List.mem_of_getElem? (i := 170) rfl)) rfl
theorem q3_172 : Cond.instanceMethod yX5_takes ∈ wsL_law := aw_of (t3_in (List.mem_of_getElem? (i := 172) rfl)) rfl
theorem q3_173 : Cond.code yX5_takes cX5_takes 3 (some .int) ∈ wsL_law := aw_of (t3_in (List.mem_of_getElem? (i := 173) rfl)) rfl
theorem q3_174 : Cond.methodLink RX5 77 yX5_loudnessOf ∈ wsL_law := aw_of (t3_in (List.mem_of_getElem? (i := 174) rfl)) rfl
theorem q3_176 : Cond.instanceMethod yX5_loudnessOf ∈ wsL_law := aw_of (t3_in (List.mem_of_getElem? (i := 176) rfl)) rfl
theorem q3_177 : Cond.code yX5_loudnessOf cX5_loudnessOf 5 (some .int) ∈ wsL_law := aw_of (t3_in (List.mem_of_getElem? (i := 177) rfl)) rfl
theorem q3_178 : Cond.methodLink RX5 86 yX5_loudestNow ∈ wsL_law := aw_of (t3_in (List.mem_of_getElem? (i := 178) rfl)) rfl
theorem q3_180 : Cond.instanceMethod yX5_loudestNow ∈ wsL_law := aw_of (t3_in (List.mem_of_getElem? (i := 180) rfl)) rfl
theorem q3_181 : Cond.code yX5_loudestNow cX5_loudestNow 3 (some .int) ∈ wsL_law := aw_of (t3_in (List.mem_of_getElem? (i := 181) rfl)) rfl
theorem q3_182 : Cond.methodLink RX5 90 yX5_best ∈ wsL_law := aw_of (t3_in (List.mem_of_getElem? (i := 182) rfl)) rfl
theorem q3_184 : Cond.instanceMethod yX5_best ∈ wsL_law := aw_of (t3_in (List.mem_of_getElem? (i := 184) rfl)) rfl
theorem q3_185 : Cond.code yX5_best cX5_best 6 (some .int) ∈ wsL_law := aw_of (t3_in (List.mem_of_getElem? (i := 185) rfl)) rfl
theorem q3_186 : Cond.methodLink RX5 80 yX5_heardIn ∈ wsL_law := aw_of (t3_in (List.mem_of_getElem? (i := 186) rfl)) rfl
theorem q3_188 : Cond.instanceMethod yX5_heardIn ∈ wsL_law := aw_of (t3_in (List.mem_of_getElem? (i := 188) rfl)) rfl
theorem q3_189 : Cond.code yX5_heardIn cX5_heardIn 5 (some .int) ∈ wsL_law := aw_of (t3_in (List.mem_of_getElem? (i := 189) rfl)) rfl
theorem q3_190 : Cond.methodLink RX5 93 yX5_wearDown ∈ wsL_law := aw_of (t3_in (List.mem_of_getElem? (i := 190) rfl)) rfl
theorem q3_192 : Cond.instanceMethod yX5_wearDown ∈ wsL_law := aw_of (t3_in (List.mem_of_getElem? (i := 192) rfl)) rfl
theorem q3_193 : Cond.code yX5_wearDown cX5_wearDown 5 none ∈ wsL_law := aw_of (t3_in (List.mem_of_getElem? (i := 193) rfl)) rfl
theorem q3_194 : Cond.methodLink RL 51 yX5_append ∈ wsL_law := aw_of (t3_in (List.mem_of_getElem? (i := 194) rfl)) rfl
theorem q3_195 : Cond.instanceMethod yX5_append ∈ wsL_law := aw_of (t3_in (List.mem_of_getElem? (i := 195) rfl)) rfl
theorem q3_196 : Cond.selects RX5 yX5_append yX5_append ∈ wsL_law := aw_of (t3_in (List.mem_of_getElem? (i := 196) rfl)) rfl
theorem q3_197 : Cond.code yX5_append cX5_append 2 (some .int) ∈ wsL_law := aw_of (t3_in (List.mem_of_getElem? (i := 197) rfl)) rfl
theorem q3_198 : Cond.methodLink RL 56 yX5_clearText ∈ wsL_law := aw_of (t3_in (List.mem_of_getElem? (i := 198) rfl)) rfl
theorem q3_199 : Cond.instanceMethod yX5_clearText ∈ wsL_law := aw_of (t3_in (List.mem_of_getElem? (i := 199) rfl)) rfl
theorem q3_200 : Cond.selects RX5 yX5_clearText yX5_clearText ∈ wsL_law := aw_of (t3_in (List.mem_of_getElem? (i := 200) rfl)) rfl
theorem q3_201 : Cond.code yX5_clearText cX5_clearText 2 (some .int) ∈ wsL_law := aw_of (t3_in (List.mem_of_getElem? (i := 201) rfl)) rfl
theorem q3_202 : Cond.methodLink RL 60 yX5_fault ∈ wsL_law := aw_of (t3_in (List.mem_of_getElem? (i := 202) rfl)) rfl
theorem q3_203 : Cond.instanceMethod yX5_fault ∈ wsL_law := aw_of (t3_in (List.mem_of_getElem? (i := 203) rfl)) rfl
theorem q3_204 : Cond.selects RX5 yX5_fault yX5_fault ∈ wsL_law := aw_of (t3_in (List.mem_of_getElem? (i := 204) rfl)) rfl
theorem q3_205 : Cond.code yX5_fault cX5_fault 1 (some .int) ∈ wsL_law := aw_of (t3_in (List.mem_of_getElem? (i := 205) rfl)) rfl
theorem q3_206 : Cond.methodLink RX5 136 yX5_isScript ∈ wsL_law := aw_of (t3_in (List.mem_of_getElem? (i := 206) rfl)) rfl
theorem q3_208 : Cond.instanceMethod yX5_isScript ∈ wsL_law := aw_of (t3_in (List.mem_of_getElem? (i := 208) rfl)) rfl
theorem q3_209 : Cond.code yX5_isScript cX5_isScript 2 (some .boolean) ∈ wsL_law := aw_of (t3_in (List.mem_of_getElem? (i := 209) rfl)) rfl
theorem q3_210 : Cond.methodLink RX5 132 yX5_readOrder ∈ wsL_law := aw_of (t3_in (List.mem_of_getElem? (i := 210) rfl)) rfl
theorem q3_212 : Cond.instanceMethod yX5_readOrder ∈ wsL_law := aw_of (t3_in (List.mem_of_getElem? (i := 212) rfl)) rfl
theorem q3_213 : Cond.code yX5_readOrder cX5_readOrder 4 (some .boolean) ∈ wsL_law := aw_of (t3_in (List.mem_of_getElem? (i := 213) rfl)) rfl
theorem q3_214 : Cond.methodLink RX5 126 yX5_takesSign ∈ wsL_law := aw_of (t3_in (List.mem_of_getElem? (i := 214) rfl)) rfl
theorem q3_216 : Cond.instanceMethod yX5_takesSign ∈ wsL_law := aw_of (t3_in (List.mem_of_getElem? (i := 216) rfl)) rfl
theorem q3_217 : Cond.code yX5_takesSign cX5_takesSign 4 (some .boolean) ∈ wsL_law := aw_of (t3_in (List.mem_of_getElem? (i := 217) rfl)) rfl
theorem q3_218 : Cond.methodLink RL 64 yX5_run ∈ wsL_law := aw_of (t3_in (List.mem_of_getElem? (i := 218) rfl)) rfl
theorem q3_219 : Cond.instanceMethod yX5_run ∈ wsL_law := aw_of (t3_in (List.mem_of_getElem? (i := 219) rfl)) rfl
theorem q3_220 : Cond.selects RX5 yX5_run yX5_run ∈ wsL_law := aw_of (t3_in (List.mem_of_getElem? (i := 220) rfl)) rfl
theorem q3_221 : Cond.code yX5_run cX5_run 2 (some .int) ∈ wsL_law := aw_of (t3_in (List.mem_of_getElem? (i := 221) rfl)) rfl
theorem q3_222 : Cond.methodLink RX5 139 yX5_isDone ∈ wsL_law := aw_of (t3_in (List.mem_of_getElem? (i := 222) rfl)) rfl
theorem q3_224 : Cond.instanceMethod yX5_isDone ∈ wsL_law := aw_of (t3_in (List.mem_of_getElem? (i := 224) rfl)) rfl
theorem q3_225 : Cond.code yX5_isDone cX5_isDone 3 (some .boolean) ∈ wsL_law := aw_of (t3_in (List.mem_of_getElem? (i := 225) rfl)) rfl
theorem q3_226 : Cond.methodLink RL 80 yX5_town ∈ wsL_law := aw_of (t3_in (List.mem_of_getElem? (i := 226) rfl)) rfl
theorem q3_227 : Cond.instanceMethod yX5_town ∈ wsL_law := aw_of (t3_in (List.mem_of_getElem? (i := 227) rfl)) rfl
theorem q3_228 : Cond.selects RX5 yX5_town yX5_town ∈ wsL_law := aw_of (t3_in (List.mem_of_getElem? (i := 228) rfl)) rfl
theorem q3_229 : Cond.code yX5_town cX5_town 3 (some .int) ∈ wsL_law := aw_of (t3_in (List.mem_of_getElem? (i := 229) rfl)) rfl
theorem q3_230 : Cond.methodLink RL 84 yX5_bell ∈ wsL_law := aw_of (t3_in (List.mem_of_getElem? (i := 230) rfl)) rfl
theorem q3_231 : Cond.instanceMethod yX5_bell ∈ wsL_law := aw_of (t3_in (List.mem_of_getElem? (i := 231) rfl)) rfl
theorem q3_232 : Cond.selects RX5 yX5_bell yX5_bell ∈ wsL_law := aw_of (t3_in (List.mem_of_getElem? (i := 232) rfl)) rfl
theorem q3_233 : Cond.code yX5_bell cX5_bell 4 (some .int) ∈ wsL_law := aw_of (t3_in (List.mem_of_getElem? (i := 233) rfl)) rfl
theorem q3_234 : Cond.methodLink RX5 142 yX5_reason ∈ wsL_law := aw_of (t3_in (List.mem_of_getElem? (i := 234) rfl)) rfl
theorem q3_236 : Cond.instanceMethod yX5_reason ∈ wsL_law := aw_of (t3_in (List.mem_of_getElem? (i := 236) rfl)) rfl
theorem q3_237 : Cond.code yX5_reason cX5_reason 3 (some .int) ∈ wsL_law := aw_of (t3_in (List.mem_of_getElem? (i := 237) rfl)) rfl
theorem q3_238 : Cond.methodLink RL 88 yX5_count ∈ wsL_law := aw_of (t3_in (List.mem_of_getElem? (i := 238) rfl)) rfl
theorem q3_239 : Cond.instanceMethod yX5_count ∈ wsL_law := aw_of (t3_in (List.mem_of_getElem? (i := 239) rfl)) rfl
theorem q4_0 : Cond.selects RX5 yX5_count yX5_count ∈ wsL_law := aw_of (t4_in (List.mem_of_getElem? (i := 0) rfl)) rfl
theorem q4_1 : Cond.code yX5_count cX5_count 2 (some .int) ∈ wsL_law := aw_of (t4_in (List.mem_of_getElem? (i := 1) rfl)) rfl
theorem q4_2 : Cond.methodLink RX5 145 yX5_sum ∈ wsL_law := aw_of (t4_in (List.mem_of_getElem? (i := 2) rfl)) rfl
theorem q4_4 : Cond.instanceMethod yX5_sum ∈ wsL_law := aw_of (t4_in (List.mem_of_getElem? (i := 4) rfl)) rfl
theorem q4_5 : Cond.code yX5_sum cX5_sum 4 (some .int) ∈ wsL_law := aw_of (t4_in (List.mem_of_getElem? (i := 5) rfl)) rfl
theorem q4_6 : Cond.methodLink RX5 148 yX5_brokenRopes ∈ wsL_law := aw_of (t4_in (List.mem_of_getElem? (i := 6) rfl)) rfl
theorem q4_8 : Cond.instanceMethod yX5_brokenRopes ∈ wsL_law := aw_of (t4_in (List.mem_of_getElem? (i := 8) rfl)) rfl
theorem q4_9 : Cond.code yX5_brokenRopes cX5_brokenRopes 3 (some .int) ∈ wsL_law := aw_of (t4_in (List.mem_of_getElem? (i := 9) rfl)) rfl
theorem q4_10 : Cond.methodLink RX5 151 yX5_silentTowns ∈ wsL_law := aw_of (t4_in (List.mem_of_getElem? (i := 10) rfl)) rfl
theorem q4_12 : Cond.instanceMethod yX5_silentTowns ∈ wsL_law := aw_of (t4_in (List.mem_of_getElem? (i := 12) rfl)) rfl
theorem q4_13 : Cond.code yX5_silentTowns cX5_silentTowns 3 (some .int) ∈ wsL_law := aw_of (t4_in (List.mem_of_getElem? (i := 13) rfl)) rfl
theorem q4_14 : Cond.methodLink RL 92 yX5_loudness ∈ wsL_law := aw_of (t4_in (List.mem_of_getElem? (i := 14) rfl)) rfl
theorem q4_15 : Cond.instanceMethod yX5_loudness ∈ wsL_law := aw_of (t4_in (List.mem_of_getElem? (i := 15) rfl)) rfl
theorem q4_16 : Cond.selects RX5 yX5_loudness yX5_loudness ∈ wsL_law := aw_of (t4_in (List.mem_of_getElem? (i := 16) rfl)) rfl
theorem q4_17 : Cond.code yX5_loudness cX5_loudness 2 (some .int) ∈ wsL_law := aw_of (t4_in (List.mem_of_getElem? (i := 17) rfl)) rfl
theorem q4_18 : Cond.methodLink RL 96 yX5_heard ∈ wsL_law := aw_of (t4_in (List.mem_of_getElem? (i := 18) rfl)) rfl
theorem q4_19 : Cond.instanceMethod yX5_heard ∈ wsL_law := aw_of (t4_in (List.mem_of_getElem? (i := 19) rfl)) rfl
theorem q4_20 : Cond.selects RX5 yX5_heard yX5_heard ∈ wsL_law := aw_of (t4_in (List.mem_of_getElem? (i := 20) rfl)) rfl
theorem q4_21 : Cond.code yX5_heard cX5_heard 3 (some .int) ∈ wsL_law := aw_of (t4_in (List.mem_of_getElem? (i := 21) rfl)) rfl
theorem q4_22 : Cond.methodLink RL 100 yX5_winner ∈ wsL_law := aw_of (t4_in (List.mem_of_getElem? (i := 22) rfl)) rfl
theorem q4_23 : Cond.instanceMethod yX5_winner ∈ wsL_law := aw_of (t4_in (List.mem_of_getElem? (i := 23) rfl)) rfl
theorem q4_24 : Cond.selects RX5 yX5_winner yX5_winner ∈ wsL_law := aw_of (t4_in (List.mem_of_getElem? (i := 24) rfl)) rfl
theorem q4_25 : Cond.code yX5_winner cX5_winner 2 (some .int) ∈ wsL_law := aw_of (t4_in (List.mem_of_getElem? (i := 25) rfl)) rfl
theorem q4_26 : Cond.methodLink RL 104 yX5_ifPlanned ∈ wsL_law := aw_of (t4_in (List.mem_of_getElem? (i := 26) rfl)) rfl
theorem q4_27 : Cond.instanceMethod yX5_ifPlanned ∈ wsL_law := aw_of (t4_in (List.mem_of_getElem? (i := 27) rfl)) rfl
theorem q4_28 : Cond.selects RX5 yX5_ifPlanned yX5_ifPlanned ∈ wsL_law := aw_of (t4_in (List.mem_of_getElem? (i := 28) rfl)) rfl
theorem q4_29 : Cond.code yX5_ifPlanned cX5_ifPlanned 3 (some .int) ∈ wsL_law := aw_of (t4_in (List.mem_of_getElem? (i := 29) rfl)) rfl
theorem q4_30 : Cond.methodLink RX5 154 yX5_pointsWith ∈ wsL_law := aw_of (t4_in (List.mem_of_getElem? (i := 30) rfl)) rfl
theorem q4_32 : Cond.instanceMethod yX5_pointsWith ∈ wsL_law := aw_of (t4_in (List.mem_of_getElem? (i := 32) rfl)) rfl
theorem q4_33 : Cond.code yX5_pointsWith cX5_pointsWith 5 (some .int) ∈ wsL_law := aw_of (t4_in (List.mem_of_getElem? (i := 33) rfl)) rfl
theorem q4_34 : Cond.methodLink RL 108 yX5_bestPlan ∈ wsL_law := aw_of (t4_in (List.mem_of_getElem? (i := 34) rfl)) rfl
theorem q4_35 : Cond.instanceMethod yX5_bestPlan ∈ wsL_law := aw_of (t4_in (List.mem_of_getElem? (i := 35) rfl)) rfl
theorem q4_36 : Cond.selects RX5 yX5_bestPlan yX5_bestPlan ∈ wsL_law := aw_of (t4_in (List.mem_of_getElem? (i := 36) rfl)) rfl
theorem q4_37 : Cond.code yX5_bestPlan cX5_bestPlan 8 (some .int) ∈ wsL_law := aw_of (t4_in (List.mem_of_getElem? (i := 37) rfl)) rfl
theorem q4_38 : Cond.methodLink RL 112 yX5_pointsIn ∈ wsL_law := aw_of (t4_in (List.mem_of_getElem? (i := 38) rfl)) rfl
theorem q4_39 : Cond.instanceMethod yX5_pointsIn ∈ wsL_law := aw_of (t4_in (List.mem_of_getElem? (i := 39) rfl)) rfl
theorem q4_40 : Cond.selects RX5 yX5_pointsIn yX5_pointsIn ∈ wsL_law := aw_of (t4_in (List.mem_of_getElem? (i := 40) rfl)) rfl
theorem q4_41 : Cond.code yX5_pointsIn cX5_pointsIn 4 (some .int) ∈ wsL_law := aw_of (t4_in (List.mem_of_getElem? (i := 41) rfl)) rfl
theorem q4_42 : Cond.methodLink RX5 157 yX5_putAside ∈ wsL_law := aw_of (t4_in (List.mem_of_getElem? (i := 42) rfl)) rfl
theorem q4_44 : Cond.instanceMethod yX5_putAside ∈ wsL_law := aw_of (t4_in (List.mem_of_getElem? (i := 44) rfl)) rfl
theorem q4_45 : Cond.code yX5_putAside cX5_putAside 2 none ∈ wsL_law := aw_of (t4_in (List.mem_of_getElem? (i := 45) rfl)) rfl
theorem q4_46 : Cond.methodLink RX5 160 yX5_putBack ∈ wsL_law := aw_of (t4_in (List.mem_of_getElem? (i := 46) rfl)) rfl
theorem q4_48 : Cond.instanceMethod yX5_putBack ∈ wsL_law := aw_of (t4_in (List.mem_of_getElem? (i := 48) rfl)) rfl
theorem q4_49 : Cond.code yX5_putBack cX5_putBack 2 none ∈ wsL_law := aw_of (t4_in (List.mem_of_getElem? (i := 49) rfl)) rfl
theorem q4_50 : Cond.methodLink RL 117 yX5_share ∈ wsL_law := aw_of (t4_in (List.mem_of_getElem? (i := 50) rfl)) rfl
theorem q4_51 : Cond.instanceMethod yX5_share ∈ wsL_law := aw_of (t4_in (List.mem_of_getElem? (i := 51) rfl)) rfl
theorem q4_52 : Cond.selects RX5 yX5_share yX5_share ∈ wsL_law := aw_of (t4_in (List.mem_of_getElem? (i := 52) rfl)) rfl
theorem q4_53 : Cond.code yX5_share cX5_share 3 (some .double) ∈ wsL_law := aw_of (t4_in (List.mem_of_getElem? (i := 53) rfl)) rfl
theorem qs_0 : Cond.selects RX0 yX0_placeOf yX0_placeOf ∈ wsL_law := aw_of (List.mem_append_left _ (List.mem_of_getElem? (i := 0) rfl)) rfl
theorem qs_1 : Cond.selects RX3 yX3_fillSlot yX3_fillSlot ∈ wsL_law := aw_of (List.mem_append_left _ (List.mem_of_getElem? (i := 1) rfl)) rfl
theorem qs_2 : Cond.selects RX4 yX4_planError yX4_planError ∈ wsL_law := aw_of (List.mem_append_left _ (List.mem_of_getElem? (i := 2) rfl)) rfl
theorem qs_3 : Cond.selects RX4 yX4_changePlan yX4_changePlan ∈ wsL_law := aw_of (List.mem_append_left _ (List.mem_of_getElem? (i := 3) rfl)) rfl
theorem qs_4 : Cond.selects RX4 yX4_spliceError yX4_spliceError ∈ wsL_law := aw_of (List.mem_append_left _ (List.mem_of_getElem? (i := 4) rfl)) rfl
theorem qs_5 : Cond.selects RX4 yX4_mendRope yX4_mendRope ∈ wsL_law := aw_of (List.mem_append_left _ (List.mem_of_getElem? (i := 5) rfl)) rfl
theorem qs_6 : Cond.selects RX4 yX4_makeTurns yX4_makeTurns ∈ wsL_law := aw_of (List.mem_append_left _ (List.mem_of_getElem? (i := 6) rfl)) rfl
theorem qs_7 : Cond.selects RX1 yX1_ringIn yX1_ringIn ∈ wsL_law := aw_of (List.mem_append_left _ (List.mem_of_getElem? (i := 7) rfl)) rfl
theorem qs_8 : Cond.selects RX1 yX1_winnerIn yX1_winnerIn ∈ wsL_law := aw_of (List.mem_append_left _ (List.mem_of_getElem? (i := 8) rfl)) rfl
theorem qs_9 : Cond.selects RX3 yX3_givePoints yX3_givePoints ∈ wsL_law := aw_of (List.mem_append_left _ (List.mem_of_getElem? (i := 9) rfl)) rfl
theorem qs_10 : Cond.selects RX3 yX3_wearRopes yX3_wearRopes ∈ wsL_law := aw_of (List.mem_append_left _ (List.mem_of_getElem? (i := 10) rfl)) rfl
theorem qs_11 : Cond.selects RX3 yX3_tireRingers yX3_tireRingers ∈ wsL_law := aw_of (List.mem_append_left _ (List.mem_of_getElem? (i := 11) rfl)) rfl
theorem qs_12 : Cond.selects RX3 yX3_fallSilent yX3_fallSilent ∈ wsL_law := aw_of (List.mem_append_left _ (List.mem_of_getElem? (i := 12) rfl)) rfl
theorem qs_13 : Cond.selects RX4 yX4_carryOut yX4_carryOut ∈ wsL_law := aw_of (List.mem_append_left _ (List.mem_of_getElem? (i := 13) rfl)) rfl
theorem qs_14 : Cond.selects RX4 yX4_pointsWithPlan yX4_pointsWithPlan ∈ wsL_law := aw_of (List.mem_append_left _ (List.mem_of_getElem? (i := 14) rfl)) rfl
theorem qs_15 : Cond.selects RX5 yX5_put yX5_put ∈ wsL_law := aw_of (List.mem_append_left _ (List.mem_of_getElem? (i := 15) rfl)) rfl
theorem qs_16 : Cond.selects RX5 yX5_record yX5_record ∈ wsL_law := aw_of (List.mem_append_left _ (List.mem_of_getElem? (i := 16) rfl)) rfl
theorem qs_17 : Cond.selects RX5 yX5_of yX5_of ∈ wsL_law := aw_of (List.mem_append_left _ (List.mem_of_getElem? (i := 17) rfl)) rfl
theorem qs_18 : Cond.selects RX5 yX5_isBell yX5_isBell ∈ wsL_law := aw_of (List.mem_append_left _ (List.mem_of_getElem? (i := 18) rfl)) rfl
theorem qs_19 : Cond.selects RX5 yX5_isTaken yX5_isTaken ∈ wsL_law := aw_of (List.mem_append_left _ (List.mem_of_getElem? (i := 19) rfl)) rfl
theorem qs_20 : Cond.selects RX5 yX5_hasBells yX5_hasBells ∈ wsL_law := aw_of (List.mem_append_left _ (List.mem_of_getElem? (i := 20) rfl)) rfl
theorem qs_21 : Cond.selects RX5 yX5_allBells yX5_allBells ∈ wsL_law := aw_of (List.mem_append_left _ (List.mem_of_getElem? (i := 21) rfl)) rfl
theorem qs_22 : Cond.selects RX5 yX5_canSplice yX5_canSplice ∈ wsL_law := aw_of (List.mem_append_left _ (List.mem_of_getElem? (i := 22) rfl)) rfl
theorem qs_23 : Cond.selects RX5 yX5_spliceNow yX5_spliceNow ∈ wsL_law := aw_of (List.mem_append_left _ (List.mem_of_getElem? (i := 23) rfl)) rfl
theorem qs_24 : Cond.selects RX5 yX5_turnsNow yX5_turnsNow ∈ wsL_law := aw_of (List.mem_append_left _ (List.mem_of_getElem? (i := 24) rfl)) rfl
theorem qs_25 : Cond.selects RX5 yX5_turn yX5_turn ∈ wsL_law := aw_of (List.mem_append_left _ (List.mem_of_getElem? (i := 25) rfl)) rfl
theorem qs_26 : Cond.selects RX5 yX5_listen yX5_listen ∈ wsL_law := aw_of (List.mem_append_left _ (List.mem_of_getElem? (i := 26) rfl)) rfl
theorem qs_27 : Cond.selects RX5 yX5_rings yX5_rings ∈ wsL_law := aw_of (List.mem_append_left _ (List.mem_of_getElem? (i := 27) rfl)) rfl
theorem qs_28 : Cond.selects RX5 yX5_wanted yX5_wanted ∈ wsL_law := aw_of (List.mem_append_left _ (List.mem_of_getElem? (i := 28) rfl)) rfl
theorem qs_29 : Cond.selects RX5 yX5_takes yX5_takes ∈ wsL_law := aw_of (List.mem_append_left _ (List.mem_of_getElem? (i := 29) rfl)) rfl
theorem qs_30 : Cond.selects RX5 yX5_loudnessOf yX5_loudnessOf ∈ wsL_law := aw_of (List.mem_append_left _ (List.mem_of_getElem? (i := 30) rfl)) rfl
theorem qs_31 : Cond.selects RX5 yX5_loudestNow yX5_loudestNow ∈ wsL_law := aw_of (List.mem_append_left _ (List.mem_of_getElem? (i := 31) rfl)) rfl
theorem qs_32 : Cond.selects RX5 yX5_best yX5_best ∈ wsL_law := aw_of (List.mem_append_left _ (List.mem_of_getElem? (i := 32) rfl)) rfl
theorem qs_33 : Cond.selects RX5 yX5_heardIn yX5_heardIn ∈ wsL_law := aw_of (List.mem_append_left _ (List.mem_of_getElem? (i := 33) rfl)) rfl
theorem qs_34 : Cond.selects RX5 yX5_wearDown yX5_wearDown ∈ wsL_law := aw_of (List.mem_append_left _ (List.mem_of_getElem? (i := 34) rfl)) rfl
theorem qs_35 : Cond.selects RX5 yX5_isScript yX5_isScript ∈ wsL_law := aw_of (List.mem_append_left _ (List.mem_of_getElem? (i := 35) rfl)) rfl
theorem qs_36 : Cond.selects RX5 yX5_readOrder yX5_readOrder ∈ wsL_law := aw_of (List.mem_append_left _ (List.mem_of_getElem? (i := 36) rfl)) rfl
theorem qs_37 : Cond.selects RX5 yX5_takesSign yX5_takesSign ∈ wsL_law := aw_of (List.mem_append_left _ (List.mem_of_getElem? (i := 37) rfl)) rfl
theorem qs_38 : Cond.selects RX5 yX5_isDone yX5_isDone ∈ wsL_law := aw_of (List.mem_append_left _ (List.mem_of_getElem? (i := 38) rfl)) rfl
theorem qs_39 : Cond.selects RX5 yX5_reason yX5_reason ∈ wsL_law := aw_of (List.mem_append_left _ (List.mem_of_getElem? (i := 39) rfl)) rfl
theorem qs_40 : Cond.selects RX5 yX5_sum yX5_sum ∈ wsL_law := aw_of (List.mem_append_left _ (List.mem_of_getElem? (i := 40) rfl)) rfl
theorem qs_41 : Cond.selects RX5 yX5_brokenRopes yX5_brokenRopes ∈ wsL_law := aw_of (List.mem_append_left _ (List.mem_of_getElem? (i := 41) rfl)) rfl
theorem qs_42 : Cond.selects RX5 yX5_silentTowns yX5_silentTowns ∈ wsL_law := aw_of (List.mem_append_left _ (List.mem_of_getElem? (i := 42) rfl)) rfl
theorem qs_43 : Cond.selects RX5 yX5_pointsWith yX5_pointsWith ∈ wsL_law := aw_of (List.mem_append_left _ (List.mem_of_getElem? (i := 43) rfl)) rfl
theorem qs_44 : Cond.selects RX5 yX5_putAside yX5_putAside ∈ wsL_law := aw_of (List.mem_append_left _ (List.mem_of_getElem? (i := 44) rfl)) rfl
theorem qs_45 : Cond.selects RX5 yX5_putBack yX5_putBack ∈ wsL_law := aw_of (List.mem_append_left _ (List.mem_of_getElem? (i := 45) rfl)) rfl
theorem inX0 : ∀ w ∈ wsX00, w ∈ wsL_law := by decide +kernel
theorem inX1 : ∀ w ∈ wsX10, w ∈ wsL_law := by decide +kernel
theorem inX2 : ∀ w ∈ wsX20, w ∈ wsL_law := by decide +kernel
theorem inX3 : ∀ w ∈ wsX30, w ∈ wsL_law := by decide +kernel
theorem inX4 : ∀ w ∈ wsX40, w ∈ wsL_law := by decide +kernel
theorem inX5 : ∀ w ∈ wsX50, w ∈ wsL_law := by decide +kernel
end
section
theorem dX0_init_0 : decode cX0_init 0 = .ok (.aload_n 0, 1) := by decide +kernel
theorem dX0_init_1 : decode cX0_init 1 = .ok (.invokespecial 3, 3) := by decide +kernel
theorem dX0_init_4 : decode cX0_init 4 = .ok (.aload_n 0, 1) := by decide +kernel
theorem dX0_init_5 : decode cX0_init 5 = .ok (.iconst 5, 1) := by decide +kernel
theorem dX0_init_6 : decode cX0_init 6 = .ok (.anewarray 9, 3) := by decide +kernel
theorem dX0_init_9 : decode cX0_init 9 = .ok (.putfield 11, 3) := by decide +kernel
theorem dX0_init_12 : decode cX0_init 12 = .ok (.aload_n 0, 1) := by decide +kernel
theorem dX0_init_13 : decode cX0_init 13 = .ok (.iconst 0, 1) := by decide +kernel
theorem dX0_init_14 : decode cX0_init 14 = .ok (.putfield 17, 3) := by decide +kernel
theorem dX0_init_17 : decode cX0_init 17 = .ok (.aload_n 0, 1) := by decide +kernel
theorem dX0_init_18 : decode cX0_init 18 = .ok (.iconst 0, 1) := by decide +kernel
theorem dX0_init_19 : decode cX0_init 19 = .ok (.putfield 21, 3) := by decide +kernel
theorem dX0_init_22 : decode cX0_init 22 = .ok (.iconst 0, 1) := by decide +kernel
theorem dX0_init_23 : decode cX0_init 23 = .ok (.istore_n 1, 1) := by decide +kernel
theorem dX0_init_24 : decode cX0_init 24 = .ok (.iload_n 1, 1) := by decide +kernel
theorem dX0_init_25 : decode cX0_init 25 = .ok (.iconst 5, 1) := by decide +kernel
theorem dX0_init_26 : decode cX0_init 26 = .ok (.if_icmp .ge 22, 3) := by decide +kernel
theorem dX0_init_29 : decode cX0_init 29 = .ok (.aload_n 0, 1) := by decide +kernel
theorem dX0_init_30 : decode cX0_init 30 = .ok (.getfield 11, 3) := by decide +kernel
theorem dX0_init_33 : decode cX0_init 33 = .ok (.iload_n 1, 1) := by decide +kernel
theorem dX0_init_34 : decode cX0_init 34 = .ok (.new 9, 3) := by decide +kernel
theorem dX0_init_37 : decode cX0_init 37 = .ok (.dup, 1) := by decide +kernel
theorem dX0_init_38 : decode cX0_init 38 = .ok (.invokespecial 24, 3) := by decide +kernel
theorem dX0_init_41 : decode cX0_init 41 = .ok (.aastore, 1) := by decide +kernel
theorem dX0_init_42 : decode cX0_init 42 = .ok (.iinc 1 1, 3) := by decide +kernel
theorem dX0_init_45 : decode cX0_init 45 = .ok (.goto (-21), 3) := by decide +kernel
theorem dX0_init_48 : decode cX0_init 48 = .ok (.return_, 1) := by decide +kernel
theorem dX0_record_0 : decode cX0_record 0 = .ok (.aload_n 0, 1) := by decide +kernel
theorem dX0_record_1 : decode cX0_record 1 = .ok (.getfield 11, 3) := by decide +kernel
theorem dX0_record_4 : decode cX0_record 4 = .ok (.aload_n 0, 1) := by decide +kernel
theorem dX0_record_5 : decode cX0_record 5 = .ok (.aload_n 0, 1) := by decide +kernel
theorem dX0_record_6 : decode cX0_record 6 = .ok (.getfield 21, 3) := by decide +kernel
theorem dX0_record_9 : decode cX0_record 9 = .ok (.invokevirtual 25, 3) := by decide +kernel
theorem dX0_record_12 : decode cX0_record 12 = .ok (.aaload, 1) := by decide +kernel
theorem dX0_record_13 : decode cX0_record 13 = .ok (.astore_n 2, 1) := by decide +kernel
theorem dX0_record_14 : decode cX0_record 14 = .ok (.aload_n 2, 1) := by decide +kernel
theorem dX0_record_15 : decode cX0_record 15 = .ok (.ifnull 8, 3) := by decide +kernel
theorem dX0_record_18 : decode cX0_record 18 = .ok (.aload_n 2, 1) := by decide +kernel
theorem dX0_record_19 : decode cX0_record 19 = .ok (.aload_n 1, 1) := by decide +kernel
theorem dX0_record_20 : decode cX0_record 20 = .ok (.invokevirtual 29, 3) := by decide +kernel
theorem dX0_record_23 : decode cX0_record 23 = .ok (.aload_n 0, 1) := by decide +kernel
theorem dX0_record_24 : decode cX0_record 24 = .ok (.getfield 21, 3) := by decide +kernel
theorem dX0_record_27 : decode cX0_record 27 = .ok (.iconst 5, 1) := by decide +kernel
theorem dX0_record_28 : decode cX0_record 28 = .ok (.if_icmp .ge 16, 3) := by decide +kernel
theorem dX0_record_31 : decode cX0_record 31 = .ok (.aload_n 0, 1) := by decide +kernel
theorem dX0_record_32 : decode cX0_record 32 = .ok (.dup, 1) := by decide +kernel
theorem dX0_record_33 : decode cX0_record 33 = .ok (.getfield 21, 3) := by decide +kernel
theorem dX0_record_36 : decode cX0_record 36 = .ok (.iconst 1, 1) := by decide +kernel
theorem dX0_record_37 : decode cX0_record 37 = .ok (.iadd, 1) := by decide +kernel
theorem dX0_record_38 : decode cX0_record 38 = .ok (.putfield 21, 3) := by decide +kernel
theorem dX0_record_41 : decode cX0_record 41 = .ok (.goto 12, 3) := by decide +kernel
theorem dX0_record_44 : decode cX0_record 44 = .ok (.aload_n 0, 1) := by decide +kernel
theorem dX0_record_45 : decode cX0_record 45 = .ok (.aload_n 0, 1) := by decide +kernel
theorem dX0_record_46 : decode cX0_record 46 = .ok (.iconst 1, 1) := by decide +kernel
theorem dX0_record_47 : decode cX0_record 47 = .ok (.invokevirtual 25, 3) := by decide +kernel
theorem dX0_record_50 : decode cX0_record 50 = .ok (.putfield 17, 3) := by decide +kernel
theorem dX0_record_53 : decode cX0_record 53 = .ok (.return_, 1) := by decide +kernel
theorem dX0_takeBack_0 : decode cX0_takeBack 0 = .ok (.aload_n 0, 1) := by decide +kernel
theorem dX0_takeBack_1 : decode cX0_takeBack 1 = .ok (.getfield 21, 3) := by decide +kernel
theorem dX0_takeBack_4 : decode cX0_takeBack 4 = .ok (.ifCond .ne 4, 3) := by decide +kernel
theorem dX0_takeBack_7 : decode cX0_takeBack 7 = .ok (.return_, 1) := by decide +kernel
theorem dX0_takeBack_8 : decode cX0_takeBack 8 = .ok (.aload_n 0, 1) := by decide +kernel
theorem dX0_takeBack_9 : decode cX0_takeBack 9 = .ok (.dup, 1) := by decide +kernel
theorem dX0_takeBack_10 : decode cX0_takeBack 10 = .ok (.getfield 21, 3) := by decide +kernel
theorem dX0_takeBack_13 : decode cX0_takeBack 13 = .ok (.iconst 1, 1) := by decide +kernel
theorem dX0_takeBack_14 : decode cX0_takeBack 14 = .ok (.isub, 1) := by decide +kernel
theorem dX0_takeBack_15 : decode cX0_takeBack 15 = .ok (.putfield 21, 3) := by decide +kernel
theorem dX0_takeBack_18 : decode cX0_takeBack 18 = .ok (.aload_n 0, 1) := by decide +kernel
theorem dX0_takeBack_19 : decode cX0_takeBack 19 = .ok (.getfield 11, 3) := by decide +kernel
theorem dX0_takeBack_22 : decode cX0_takeBack 22 = .ok (.aload_n 0, 1) := by decide +kernel
theorem dX0_takeBack_23 : decode cX0_takeBack 23 = .ok (.aload_n 0, 1) := by decide +kernel
theorem dX0_takeBack_24 : decode cX0_takeBack 24 = .ok (.getfield 21, 3) := by decide +kernel
theorem dX0_takeBack_27 : decode cX0_takeBack 27 = .ok (.invokevirtual 25, 3) := by decide +kernel
theorem dX0_takeBack_30 : decode cX0_takeBack 30 = .ok (.aaload, 1) := by decide +kernel
theorem dX0_takeBack_31 : decode cX0_takeBack 31 = .ok (.astore_n 2, 1) := by decide +kernel
theorem dX0_takeBack_32 : decode cX0_takeBack 32 = .ok (.aload_n 2, 1) := by decide +kernel
theorem dX0_takeBack_33 : decode cX0_takeBack 33 = .ok (.ifnull 8, 3) := by decide +kernel
theorem dX0_takeBack_36 : decode cX0_takeBack 36 = .ok (.aload_n 1, 1) := by decide +kernel
theorem dX0_takeBack_37 : decode cX0_takeBack 37 = .ok (.aload_n 2, 1) := by decide +kernel
theorem dX0_takeBack_38 : decode cX0_takeBack 38 = .ok (.invokevirtual 29, 3) := by decide +kernel
theorem dX0_takeBack_41 : decode cX0_takeBack 41 = .ok (.return_, 1) := by decide +kernel
theorem dX0_placeOf_0 : decode cX0_placeOf 0 = .ok (.aload_n 0, 1) := by decide +kernel
theorem dX0_placeOf_1 : decode cX0_placeOf 1 = .ok (.getfield 17, 3) := by decide +kernel
theorem dX0_placeOf_4 : decode cX0_placeOf 4 = .ok (.iload_n 1, 1) := by decide +kernel
theorem dX0_placeOf_5 : decode cX0_placeOf 5 = .ok (.iadd, 1) := by decide +kernel
theorem dX0_placeOf_6 : decode cX0_placeOf 6 = .ok (.iconst 5, 1) := by decide +kernel
theorem dX0_placeOf_7 : decode cX0_placeOf 7 = .ok (.irem, 1) := by decide +kernel
theorem dX0_placeOf_8 : decode cX0_placeOf 8 = .ok (.ireturn, 1) := by decide +kernel
theorem dX1_init_0 : decode cX1_init 0 = .ok (.aload_n 0, 1) := by decide +kernel
theorem dX1_init_1 : decode cX1_init 1 = .ok (.invokespecial 3, 3) := by decide +kernel
theorem dX1_init_4 : decode cX1_init 4 = .ok (.aload_n 0, 1) := by decide +kernel
theorem dX1_init_5 : decode cX1_init 5 = .ok (.bipush 30, 2) := by decide +kernel
theorem dX1_init_7 : decode cX1_init 7 = .ok (.newarray .int, 2) := by decide +kernel
theorem dX1_init_9 : decode cX1_init 9 = .ok (.putfield 9, 3) := by decide +kernel
theorem dX1_init_12 : decode cX1_init 12 = .ok (.aload_n 0, 1) := by decide +kernel
theorem dX1_init_13 : decode cX1_init 13 = .ok (.bipush 6, 2) := by decide +kernel
theorem dX1_init_15 : decode cX1_init 15 = .ok (.newarray .int, 2) := by decide +kernel
theorem dX1_init_17 : decode cX1_init 17 = .ok (.putfield 15, 3) := by decide +kernel
theorem dX1_init_20 : decode cX1_init 20 = .ok (.aload_n 0, 1) := by decide +kernel
theorem dX1_init_21 : decode cX1_init 21 = .ok (.bipush 6, 2) := by decide +kernel
theorem dX1_init_23 : decode cX1_init 23 = .ok (.newarray .int, 2) := by decide +kernel
theorem dX1_init_25 : decode cX1_init 25 = .ok (.putfield 18, 3) := by decide +kernel
theorem dX1_init_28 : decode cX1_init 28 = .ok (.aload_n 0, 1) := by decide +kernel
theorem dX1_init_29 : decode cX1_init 29 = .ok (.bipush 6, 2) := by decide +kernel
theorem dX1_init_31 : decode cX1_init 31 = .ok (.newarray .int, 2) := by decide +kernel
theorem dX1_init_33 : decode cX1_init 33 = .ok (.putfield 21, 3) := by decide +kernel
theorem dX1_init_36 : decode cX1_init 36 = .ok (.aload_n 0, 1) := by decide +kernel
theorem dX1_init_37 : decode cX1_init 37 = .ok (.bipush (-5), 2) := by decide +kernel
theorem dX1_init_39 : decode cX1_init 39 = .ok (.putfield 24, 3) := by decide +kernel
theorem dX1_init_42 : decode cX1_init 42 = .ok (.return_, 1) := by decide +kernel
theorem dX1_foresee_0 : decode cX1_foresee 0 = .ok (.aload_n 0, 1) := by decide +kernel
theorem dX1_foresee_1 : decode cX1_foresee 1 = .ok (.bipush (-5), 2) := by decide +kernel
theorem dX1_foresee_3 : decode cX1_foresee 3 = .ok (.putfield 24, 3) := by decide +kernel
theorem dX1_foresee_6 : decode cX1_foresee 6 = .ok (.iconst 0, 1) := by decide +kernel
theorem dX1_foresee_7 : decode cX1_foresee 7 = .ok (.istore_n 2, 1) := by decide +kernel
theorem dX1_foresee_8 : decode cX1_foresee 8 = .ok (.iconst 0, 1) := by decide +kernel
theorem dX1_foresee_9 : decode cX1_foresee 9 = .ok (.istore_n 3, 1) := by decide +kernel
theorem dX1_foresee_10 : decode cX1_foresee 10 = .ok (.iload_n 3, 1) := by decide +kernel
theorem dX1_foresee_11 : decode cX1_foresee 11 = .ok (.bipush 6, 2) := by decide +kernel
theorem dX1_foresee_13 : decode cX1_foresee 13 = .ok (.if_icmp .ge 37, 3) := by decide +kernel
theorem dX1_foresee_16 : decode cX1_foresee 16 = .ok (.aload_n 0, 1) := by decide +kernel
theorem dX1_foresee_17 : decode cX1_foresee 17 = .ok (.aload_n 1, 1) := by decide +kernel
theorem dX1_foresee_18 : decode cX1_foresee 18 = .ok (.iload_n 3, 1) := by decide +kernel
theorem dX1_foresee_19 : decode cX1_foresee 19 = .ok (.invokevirtual 28, 3) := by decide +kernel
theorem dX1_foresee_22 : decode cX1_foresee 22 = .ok (.aload_n 0, 1) := by decide +kernel
theorem dX1_foresee_23 : decode cX1_foresee 23 = .ok (.getfield 15, 3) := by decide +kernel
theorem dX1_foresee_26 : decode cX1_foresee 26 = .ok (.iload_n 3, 1) := by decide +kernel
theorem dX1_foresee_27 : decode cX1_foresee 27 = .ok (.iaload, 1) := by decide +kernel
theorem dX1_foresee_28 : decode cX1_foresee 28 = .ok (.iload_n 2, 1) := by decide +kernel
theorem dX1_foresee_29 : decode cX1_foresee 29 = .ok (.if_icmp .le 15, 3) := by decide +kernel
theorem dX1_foresee_32 : decode cX1_foresee 32 = .ok (.aload_n 0, 1) := by decide +kernel
theorem dX1_foresee_33 : decode cX1_foresee 33 = .ok (.getfield 15, 3) := by decide +kernel
theorem dX1_foresee_36 : decode cX1_foresee 36 = .ok (.iload_n 3, 1) := by decide +kernel
theorem dX1_foresee_37 : decode cX1_foresee 37 = .ok (.iaload, 1) := by decide +kernel
theorem dX1_foresee_38 : decode cX1_foresee 38 = .ok (.istore_n 2, 1) := by decide +kernel
theorem dX1_foresee_39 : decode cX1_foresee 39 = .ok (.aload_n 0, 1) := by decide +kernel
theorem dX1_foresee_40 : decode cX1_foresee 40 = .ok (.iload_n 3, 1) := by decide +kernel
theorem dX1_foresee_41 : decode cX1_foresee 41 = .ok (.putfield 24, 3) := by decide +kernel
theorem dX1_foresee_44 : decode cX1_foresee 44 = .ok (.iinc 3 1, 3) := by decide +kernel
theorem dX1_foresee_47 : decode cX1_foresee 47 = .ok (.goto (-37), 3) := by decide +kernel
theorem dX1_foresee_50 : decode cX1_foresee 50 = .ok (.iconst 0, 1) := by decide +kernel
theorem dX1_foresee_51 : decode cX1_foresee 51 = .ok (.istore_n 3, 1) := by decide +kernel
theorem dX1_foresee_52 : decode cX1_foresee 52 = .ok (.iload_n 3, 1) := by decide +kernel
theorem dX1_foresee_53 : decode cX1_foresee 53 = .ok (.bipush 6, 2) := by decide +kernel
theorem dX1_foresee_55 : decode cX1_foresee 55 = .ok (.if_icmp .ge 21, 3) := by decide +kernel
theorem dX1_foresee_58 : decode cX1_foresee 58 = .ok (.aload_n 0, 1) := by decide +kernel
theorem dX1_foresee_59 : decode cX1_foresee 59 = .ok (.getfield 21, 3) := by decide +kernel
theorem dX1_foresee_62 : decode cX1_foresee 62 = .ok (.iload_n 3, 1) := by decide +kernel
theorem dX1_foresee_63 : decode cX1_foresee 63 = .ok (.aload_n 0, 1) := by decide +kernel
theorem dX1_foresee_64 : decode cX1_foresee 64 = .ok (.aload_n 1, 1) := by decide +kernel
theorem dX1_foresee_65 : decode cX1_foresee 65 = .ok (.iload_n 3, 1) := by decide +kernel
theorem dX1_foresee_66 : decode cX1_foresee 66 = .ok (.invokevirtual 32, 3) := by decide +kernel
theorem dX1_foresee_69 : decode cX1_foresee 69 = .ok (.iastore, 1) := by decide +kernel
theorem dX1_foresee_70 : decode cX1_foresee 70 = .ok (.iinc 3 1, 3) := by decide +kernel
theorem dX1_foresee_73 : decode cX1_foresee 73 = .ok (.goto (-21), 3) := by decide +kernel
theorem dX1_foresee_76 : decode cX1_foresee 76 = .ok (.return_, 1) := by decide +kernel
theorem dX1_ringIn_0 : decode cX1_ringIn 0 = .ok (.aload_n 1, 1) := by decide +kernel
theorem dX1_ringIn_1 : decode cX1_ringIn 1 = .ok (.iload_n 2, 1) := by decide +kernel
theorem dX1_ringIn_2 : decode cX1_ringIn 2 = .ok (.invokevirtual 36, 3) := by decide +kernel
theorem dX1_ringIn_5 : decode cX1_ringIn 5 = .ok (.istore_n 3, 1) := by decide +kernel
theorem dX1_ringIn_6 : decode cX1_ringIn 6 = .ok (.aload_n 1, 1) := by decide +kernel
theorem dX1_ringIn_7 : decode cX1_ringIn 7 = .ok (.iload_n 2, 1) := by decide +kernel
theorem dX1_ringIn_8 : decode cX1_ringIn 8 = .ok (.invokevirtual 42, 3) := by decide +kernel
theorem dX1_ringIn_11 : decode cX1_ringIn 11 = .ok (.istore 4, 2) := by decide +kernel
theorem dX1_ringIn_13 : decode cX1_ringIn 13 = .ok (.iconst 0, 1) := by decide +kernel
theorem dX1_ringIn_14 : decode cX1_ringIn 14 = .ok (.istore 5, 2) := by decide +kernel
theorem dX1_ringIn_16 : decode cX1_ringIn 16 = .ok (.iconst 0, 1) := by decide +kernel
theorem dX1_ringIn_17 : decode cX1_ringIn 17 = .ok (.istore 6, 2) := by decide +kernel
theorem dX1_ringIn_19 : decode cX1_ringIn 19 = .ok (.iconst 0, 1) := by decide +kernel
theorem dX1_ringIn_20 : decode cX1_ringIn 20 = .ok (.istore 7, 2) := by decide +kernel
theorem dX1_ringIn_22 : decode cX1_ringIn 22 = .ok (.iload 7, 2) := by decide +kernel
theorem dX1_ringIn_24 : decode cX1_ringIn 24 = .ok (.iconst 5, 1) := by decide +kernel
theorem dX1_ringIn_25 : decode cX1_ringIn 25 = .ok (.if_icmp .ge 151, 3) := by decide +kernel
theorem dX1_ringIn_28 : decode cX1_ringIn 28 = .ok (.iload_n 2, 1) := by decide +kernel
theorem dX1_ringIn_29 : decode cX1_ringIn 29 = .ok (.iload 7, 2) := by decide +kernel
theorem dX1_ringIn_31 : decode cX1_ringIn 31 = .ok (.invokestatic 45, 3) := by decide +kernel
theorem dX1_ringIn_34 : decode cX1_ringIn 34 = .ok (.istore 8, 2) := by decide +kernel
theorem dX1_ringIn_36 : decode cX1_ringIn 36 = .ok (.iload_n 3, 1) := by decide +kernel
theorem dX1_ringIn_37 : decode cX1_ringIn 37 = .ok (.iload 7, 2) := by decide +kernel
theorem dX1_ringIn_39 : decode cX1_ringIn 39 = .ok (.ishr, 1) := by decide +kernel
theorem dX1_ringIn_40 : decode cX1_ringIn 40 = .ok (.iconst 1, 1) := by decide +kernel
theorem dX1_ringIn_41 : decode cX1_ringIn 41 = .ok (.iand, 1) := by decide +kernel
theorem dX1_ringIn_42 : decode cX1_ringIn 42 = .ok (.iconst 1, 1) := by decide +kernel
theorem dX1_ringIn_43 : decode cX1_ringIn 43 = .ok (.if_icmp .ne 7, 3) := by decide +kernel
theorem dX1_ringIn_46 : decode cX1_ringIn 46 = .ok (.iconst 1, 1) := by decide +kernel
theorem dX1_ringIn_47 : decode cX1_ringIn 47 = .ok (.goto 4, 3) := by decide +kernel
theorem dX1_ringIn_50 : decode cX1_ringIn 50 = .ok (.iconst 0, 1) := by decide +kernel
theorem dX1_ringIn_51 : decode cX1_ringIn 51 = .ok (.istore 9, 2) := by decide +kernel
theorem dX1_ringIn_53 : decode cX1_ringIn 53 = .ok (.aload_n 1, 1) := by decide +kernel
theorem dX1_ringIn_54 : decode cX1_ringIn 54 = .ok (.getfield 49, 3) := by decide +kernel
theorem dX1_ringIn_57 : decode cX1_ringIn 57 = .ok (.iload 8, 2) := by decide +kernel
theorem dX1_ringIn_59 : decode cX1_ringIn 59 = .ok (.iaload, 1) := by decide +kernel
theorem dX1_ringIn_60 : decode cX1_ringIn 60 = .ok (.istore 10, 2) := by decide +kernel
theorem dX1_ringIn_62 : decode cX1_ringIn 62 = .ok (.aload_n 1, 1) := by decide +kernel
theorem dX1_ringIn_63 : decode cX1_ringIn 63 = .ok (.getfield 52, 3) := by decide +kernel
theorem dX1_ringIn_66 : decode cX1_ringIn 66 = .ok (.iload_n 2, 1) := by decide +kernel
theorem dX1_ringIn_67 : decode cX1_ringIn 67 = .ok (.iaload, 1) := by decide +kernel
theorem dX1_ringIn_68 : decode cX1_ringIn 68 = .ok (.ifCond .le 14, 3) := by decide +kernel
theorem dX1_ringIn_71 : decode cX1_ringIn 71 = .ok (.aload_n 0, 1) := by decide +kernel
theorem dX1_ringIn_72 : decode cX1_ringIn 72 = .ok (.getfield 9, 3) := by decide +kernel
theorem dX1_ringIn_75 : decode cX1_ringIn 75 = .ok (.iload 8, 2) := by decide +kernel
theorem dX1_ringIn_77 : decode cX1_ringIn 77 = .ok (.iconst 1, 1) := by decide +kernel
theorem dX1_ringIn_78 : decode cX1_ringIn 78 = .ok (.iastore, 1) := by decide +kernel
theorem dX1_ringIn_79 : decode cX1_ringIn 79 = .ok (.goto 91, 3) := by decide +kernel
theorem dX1_ringIn_82 : decode cX1_ringIn 82 = .ok (.iload 9, 2) := by decide +kernel
theorem dX1_ringIn_84 : decode cX1_ringIn 84 = .ok (.ifCond .ne 14, 3) := by decide +kernel
theorem dX1_ringIn_87 : decode cX1_ringIn 87 = .ok (.aload_n 0, 1) := by decide +kernel
theorem dX1_ringIn_88 : decode cX1_ringIn 88 = .ok (.getfield 9, 3) := by decide +kernel
theorem dX1_ringIn_91 : decode cX1_ringIn 91 = .ok (.iload 8, 2) := by decide +kernel
theorem dX1_ringIn_93 : decode cX1_ringIn 93 = .ok (.iconst 2, 1) := by decide +kernel
theorem dX1_ringIn_94 : decode cX1_ringIn 94 = .ok (.iastore, 1) := by decide +kernel
theorem dX1_ringIn_95 : decode cX1_ringIn 95 = .ok (.goto 75, 3) := by decide +kernel
theorem dX1_ringIn_98 : decode cX1_ringIn 98 = .ok (.aload_n 1, 1) := by decide +kernel
theorem dX1_ringIn_99 : decode cX1_ringIn 99 = .ok (.getfield 55, 3) := by decide +kernel
theorem dX1_ringIn_102 : decode cX1_ringIn 102 = .ok (.iload 8, 2) := by decide +kernel
theorem dX1_ringIn_104 : decode cX1_ringIn 104 = .ok (.iaload, 1) := by decide +kernel
theorem dX1_ringIn_105 : decode cX1_ringIn 105 = .ok (.bipush 6, 2) := by decide +kernel
theorem dX1_ringIn_107 : decode cX1_ringIn 107 = .ok (.if_icmp .lt 14, 3) := by decide +kernel
theorem dX1_ringIn_110 : decode cX1_ringIn 110 = .ok (.aload_n 0, 1) := by decide +kernel
theorem dX1_ringIn_111 : decode cX1_ringIn 111 = .ok (.getfield 9, 3) := by decide +kernel
theorem dX1_ringIn_114 : decode cX1_ringIn 114 = .ok (.iload 8, 2) := by decide +kernel
theorem dX1_ringIn_116 : decode cX1_ringIn 116 = .ok (.iconst 3, 1) := by decide +kernel
theorem dX1_ringIn_117 : decode cX1_ringIn 117 = .ok (.iastore, 1) := by decide +kernel
theorem dX1_ringIn_118 : decode cX1_ringIn 118 = .ok (.goto 52, 3) := by decide +kernel
theorem dX1_ringIn_121 : decode cX1_ringIn 121 = .ok (.iload 10, 2) := by decide +kernel
theorem dX1_ringIn_123 : decode cX1_ringIn 123 = .ok (.invokestatic 58, 3) := by decide +kernel
theorem dX1_ringIn_126 : decode cX1_ringIn 126 = .ok (.iload 4, 2) := by decide +kernel
theorem dX1_ringIn_128 : decode cX1_ringIn 128 = .ok (.iload 6, 2) := by decide +kernel
theorem dX1_ringIn_130 : decode cX1_ringIn 130 = .ok (.isub, 1) := by decide +kernel
theorem dX1_ringIn_131 : decode cX1_ringIn 131 = .ok (.if_icmp .le 14, 3) := by decide +kernel
theorem dX1_ringIn_134 : decode cX1_ringIn 134 = .ok (.aload_n 0, 1) := by decide +kernel
theorem dX1_ringIn_135 : decode cX1_ringIn 135 = .ok (.getfield 9, 3) := by decide +kernel
theorem dX1_ringIn_138 : decode cX1_ringIn 138 = .ok (.iload 8, 2) := by decide +kernel
theorem dX1_ringIn_140 : decode cX1_ringIn 140 = .ok (.iconst 4, 1) := by decide +kernel
theorem dX1_ringIn_141 : decode cX1_ringIn 141 = .ok (.iastore, 1) := by decide +kernel
theorem dX1_ringIn_142 : decode cX1_ringIn 142 = .ok (.goto 28, 3) := by decide +kernel
theorem dX1_ringIn_145 : decode cX1_ringIn 145 = .ok (.aload_n 0, 1) := by decide +kernel
theorem dX1_ringIn_146 : decode cX1_ringIn 146 = .ok (.getfield 9, 3) := by decide +kernel
theorem dX1_ringIn_149 : decode cX1_ringIn 149 = .ok (.iload 8, 2) := by decide +kernel
theorem dX1_ringIn_151 : decode cX1_ringIn 151 = .ok (.iconst 0, 1) := by decide +kernel
theorem dX1_ringIn_152 : decode cX1_ringIn 152 = .ok (.iastore, 1) := by decide +kernel
theorem dX1_ringIn_153 : decode cX1_ringIn 153 = .ok (.iload 5, 2) := by decide +kernel
theorem dX1_ringIn_155 : decode cX1_ringIn 155 = .ok (.iload 10, 2) := by decide +kernel
theorem dX1_ringIn_157 : decode cX1_ringIn 157 = .ok (.iadd, 1) := by decide +kernel
theorem dX1_ringIn_158 : decode cX1_ringIn 158 = .ok (.istore 5, 2) := by decide +kernel
theorem dX1_ringIn_160 : decode cX1_ringIn 160 = .ok (.iload 6, 2) := by decide +kernel
theorem dX1_ringIn_162 : decode cX1_ringIn 162 = .ok (.iload 10, 2) := by decide +kernel
theorem dX1_ringIn_164 : decode cX1_ringIn 164 = .ok (.invokestatic 58, 3) := by decide +kernel
theorem dX1_ringIn_167 : decode cX1_ringIn 167 = .ok (.iadd, 1) := by decide +kernel
theorem dX1_ringIn_168 : decode cX1_ringIn 168 = .ok (.istore 6, 2) := by decide +kernel
theorem dX1_ringIn_170 : decode cX1_ringIn 170 = .ok (.iinc 7 1, 3) := by decide +kernel
theorem dX1_ringIn_173 : decode cX1_ringIn 173 = .ok (.goto (-151), 3) := by decide +kernel
theorem dX1_ringIn_176 : decode cX1_ringIn 176 = .ok (.aload_n 0, 1) := by decide +kernel
theorem dX1_ringIn_177 : decode cX1_ringIn 177 = .ok (.getfield 15, 3) := by decide +kernel
theorem dX1_ringIn_180 : decode cX1_ringIn 180 = .ok (.iload_n 2, 1) := by decide +kernel
theorem dX1_ringIn_181 : decode cX1_ringIn 181 = .ok (.iload 5, 2) := by decide +kernel
theorem dX1_ringIn_183 : decode cX1_ringIn 183 = .ok (.iastore, 1) := by decide +kernel
theorem dX1_ringIn_184 : decode cX1_ringIn 184 = .ok (.aload_n 0, 1) := by decide +kernel
theorem dX1_ringIn_185 : decode cX1_ringIn 185 = .ok (.getfield 18, 3) := by decide +kernel
theorem dX1_ringIn_188 : decode cX1_ringIn 188 = .ok (.iload_n 2, 1) := by decide +kernel
theorem dX1_ringIn_189 : decode cX1_ringIn 189 = .ok (.iload 6, 2) := by decide +kernel
theorem dX1_ringIn_191 : decode cX1_ringIn 191 = .ok (.iastore, 1) := by decide +kernel
theorem dX1_ringIn_192 : decode cX1_ringIn 192 = .ok (.return_, 1) := by decide +kernel
theorem dX1_soundIn_0 : decode cX1_soundIn 0 = .ok (.aload_n 1, 1) := by decide +kernel
theorem dX1_soundIn_1 : decode cX1_soundIn 1 = .ok (.getfield 61, 3) := by decide +kernel
theorem dX1_soundIn_4 : decode cX1_soundIn 4 = .ok (.iload_n 2, 1) := by decide +kernel
theorem dX1_soundIn_5 : decode cX1_soundIn 5 = .ok (.iaload, 1) := by decide +kernel
theorem dX1_soundIn_6 : decode cX1_soundIn 6 = .ok (.aload_n 1, 1) := by decide +kernel
theorem dX1_soundIn_7 : decode cX1_soundIn 7 = .ok (.getfield 61, 3) := by decide +kernel
theorem dX1_soundIn_10 : decode cX1_soundIn 10 = .ok (.iload_n 3, 1) := by decide +kernel
theorem dX1_soundIn_11 : decode cX1_soundIn 11 = .ok (.iaload, 1) := by decide +kernel
theorem dX1_soundIn_12 : decode cX1_soundIn 12 = .ok (.isub, 1) := by decide +kernel
theorem dX1_soundIn_13 : decode cX1_soundIn 13 = .ok (.invokestatic 64, 3) := by decide +kernel
theorem dX1_soundIn_16 : decode cX1_soundIn 16 = .ok (.istore 4, 2) := by decide +kernel
theorem dX1_soundIn_18 : decode cX1_soundIn 18 = .ok (.iconst 0, 1) := by decide +kernel
theorem dX1_soundIn_19 : decode cX1_soundIn 19 = .ok (.aload_n 0, 1) := by decide +kernel
theorem dX1_soundIn_20 : decode cX1_soundIn 20 = .ok (.getfield 15, 3) := by decide +kernel
theorem dX1_soundIn_23 : decode cX1_soundIn 23 = .ok (.iload_n 2, 1) := by decide +kernel
theorem dX1_soundIn_24 : decode cX1_soundIn 24 = .ok (.iaload, 1) := by decide +kernel
theorem dX1_soundIn_25 : decode cX1_soundIn 25 = .ok (.aload_n 1, 1) := by decide +kernel
theorem dX1_soundIn_26 : decode cX1_soundIn 26 = .ok (.getfield 69, 3) := by decide +kernel
theorem dX1_soundIn_29 : decode cX1_soundIn 29 = .ok (.iload 4, 2) := by decide +kernel
theorem dX1_soundIn_31 : decode cX1_soundIn 31 = .ok (.imul, 1) := by decide +kernel
theorem dX1_soundIn_32 : decode cX1_soundIn 32 = .ok (.isub, 1) := by decide +kernel
theorem dX1_soundIn_33 : decode cX1_soundIn 33 = .ok (.invokestatic 72, 3) := by decide +kernel
theorem dX1_soundIn_36 : decode cX1_soundIn 36 = .ok (.ireturn, 1) := by decide +kernel
theorem dX1_winnerIn_0 : decode cX1_winnerIn 0 = .ok (.iconst 0, 1) := by decide +kernel
theorem dX1_winnerIn_1 : decode cX1_winnerIn 1 = .ok (.istore_n 3, 1) := by decide +kernel
theorem dX1_winnerIn_2 : decode cX1_winnerIn 2 = .ok (.bipush (-5), 2) := by decide +kernel
theorem dX1_winnerIn_4 : decode cX1_winnerIn 4 = .ok (.istore 4, 2) := by decide +kernel
theorem dX1_winnerIn_6 : decode cX1_winnerIn 6 = .ok (.iconst 0, 1) := by decide +kernel
theorem dX1_winnerIn_7 : decode cX1_winnerIn 7 = .ok (.istore 5, 2) := by decide +kernel
theorem dX1_winnerIn_9 : decode cX1_winnerIn 9 = .ok (.iload 5, 2) := by decide +kernel
theorem dX1_winnerIn_11 : decode cX1_winnerIn 11 = .ok (.bipush 6, 2) := by decide +kernel
theorem dX1_winnerIn_13 : decode cX1_winnerIn 13 = .ok (.if_icmp .ge 45, 3) := by decide +kernel
theorem dX1_winnerIn_16 : decode cX1_winnerIn 16 = .ok (.aload_n 0, 1) := by decide +kernel
theorem dX1_winnerIn_17 : decode cX1_winnerIn 17 = .ok (.aload_n 1, 1) := by decide +kernel
theorem dX1_winnerIn_18 : decode cX1_winnerIn 18 = .ok (.iload 5, 2) := by decide +kernel
theorem dX1_winnerIn_20 : decode cX1_winnerIn 20 = .ok (.iload_n 2, 1) := by decide +kernel
theorem dX1_winnerIn_21 : decode cX1_winnerIn 21 = .ok (.invokevirtual 75, 3) := by decide +kernel
theorem dX1_winnerIn_24 : decode cX1_winnerIn 24 = .ok (.istore 6, 2) := by decide +kernel
theorem dX1_winnerIn_26 : decode cX1_winnerIn 26 = .ok (.iload 6, 2) := by decide +kernel
theorem dX1_winnerIn_28 : decode cX1_winnerIn 28 = .ok (.iload_n 3, 1) := by decide +kernel
theorem dX1_winnerIn_29 : decode cX1_winnerIn 29 = .ok (.if_icmp .le 13, 3) := by decide +kernel
theorem dX1_winnerIn_32 : decode cX1_winnerIn 32 = .ok (.iload 6, 2) := by decide +kernel
theorem dX1_winnerIn_34 : decode cX1_winnerIn 34 = .ok (.istore_n 3, 1) := by decide +kernel
theorem dX1_winnerIn_35 : decode cX1_winnerIn 35 = .ok (.iload 5, 2) := by decide +kernel
theorem dX1_winnerIn_37 : decode cX1_winnerIn 37 = .ok (.istore 4, 2) := by decide +kernel
theorem dX1_winnerIn_39 : decode cX1_winnerIn 39 = .ok (.goto 13, 3) := by decide +kernel
theorem dX1_winnerIn_42 : decode cX1_winnerIn 42 = .ok (.iload 6, 2) := by decide +kernel
theorem dX1_winnerIn_44 : decode cX1_winnerIn 44 = .ok (.iload_n 3, 1) := by decide +kernel
theorem dX1_winnerIn_45 : decode cX1_winnerIn 45 = .ok (.if_icmp .ne 7, 3) := by decide +kernel
theorem dX1_winnerIn_48 : decode cX1_winnerIn 48 = .ok (.bipush (-5), 2) := by decide +kernel
theorem dX1_winnerIn_50 : decode cX1_winnerIn 50 = .ok (.istore 4, 2) := by decide +kernel
theorem dX1_winnerIn_52 : decode cX1_winnerIn 52 = .ok (.iinc 5 1, 3) := by decide +kernel
theorem dX1_winnerIn_55 : decode cX1_winnerIn 55 = .ok (.goto (-46), 3) := by decide +kernel
theorem dX1_winnerIn_58 : decode cX1_winnerIn 58 = .ok (.iload 4, 2) := by decide +kernel
theorem dX1_winnerIn_60 : decode cX1_winnerIn 60 = .ok (.ireturn, 1) := by decide +kernel
theorem dX1_pointsOf_0 : decode cX1_pointsOf 0 = .ok (.iconst 0, 1) := by decide +kernel
theorem dX1_pointsOf_1 : decode cX1_pointsOf 1 = .ok (.istore_n 2, 1) := by decide +kernel
theorem dX1_pointsOf_2 : decode cX1_pointsOf 2 = .ok (.iconst 0, 1) := by decide +kernel
theorem dX1_pointsOf_3 : decode cX1_pointsOf 3 = .ok (.istore_n 3, 1) := by decide +kernel
theorem dX1_pointsOf_4 : decode cX1_pointsOf 4 = .ok (.iload_n 3, 1) := by decide +kernel
theorem dX1_pointsOf_5 : decode cX1_pointsOf 5 = .ok (.bipush 6, 2) := by decide +kernel
theorem dX1_pointsOf_7 : decode cX1_pointsOf 7 = .ok (.if_icmp .ge 22, 3) := by decide +kernel
theorem dX1_pointsOf_10 : decode cX1_pointsOf 10 = .ok (.aload_n 0, 1) := by decide +kernel
theorem dX1_pointsOf_11 : decode cX1_pointsOf 11 = .ok (.getfield 21, 3) := by decide +kernel
theorem dX1_pointsOf_14 : decode cX1_pointsOf 14 = .ok (.iload_n 3, 1) := by decide +kernel
theorem dX1_pointsOf_15 : decode cX1_pointsOf 15 = .ok (.iaload, 1) := by decide +kernel
theorem dX1_pointsOf_16 : decode cX1_pointsOf 16 = .ok (.iload_n 1, 1) := by decide +kernel
theorem dX1_pointsOf_17 : decode cX1_pointsOf 17 = .ok (.if_icmp .ne 6, 3) := by decide +kernel
theorem dX1_pointsOf_20 : decode cX1_pointsOf 20 = .ok (.iinc 2 1, 3) := by decide +kernel
theorem dX1_pointsOf_23 : decode cX1_pointsOf 23 = .ok (.iinc 3 1, 3) := by decide +kernel
theorem dX1_pointsOf_26 : decode cX1_pointsOf 26 = .ok (.goto (-22), 3) := by decide +kernel
theorem dX1_pointsOf_29 : decode cX1_pointsOf 29 = .ok (.iload_n 2, 1) := by decide +kernel
theorem dX1_pointsOf_30 : decode cX1_pointsOf 30 = .ok (.ireturn, 1) := by decide +kernel
theorem dX2_init_0 : decode cX2_init 0 = .ok (.aload_n 0, 1) := by decide +kernel
theorem dX2_init_1 : decode cX2_init 1 = .ok (.invokespecial 5, 3) := by decide +kernel
theorem dX2_init_4 : decode cX2_init 4 = .ok (.aload_n 0, 1) := by decide +kernel
theorem dX2_init_5 : decode cX2_init 5 = .ok (.bipush 60, 2) := by decide +kernel
theorem dX2_init_7 : decode cX2_init 7 = .ok (.newarray .char, 2) := by decide +kernel
theorem dX2_init_9 : decode cX2_init 9 = .ok (.putfield 11, 3) := by decide +kernel
theorem dX2_init_12 : decode cX2_init 12 = .ok (.aload_n 0, 1) := by decide +kernel
theorem dX2_init_13 : decode cX2_init 13 = .ok (.iconst 0, 1) := by decide +kernel
theorem dX2_init_14 : decode cX2_init 14 = .ok (.putfield 15, 3) := by decide +kernel
theorem dX2_init_17 : decode cX2_init 17 = .ok (.return_, 1) := by decide +kernel
theorem dX2_add_0 : decode cX2_add 0 = .ok (.aload_n 0, 1) := by decide +kernel
theorem dX2_add_1 : decode cX2_add 1 = .ok (.getfield 15, 3) := by decide +kernel
theorem dX2_add_4 : decode cX2_add 4 = .ok (.ifCond .lt 32, 3) := by decide +kernel
theorem dX2_add_7 : decode cX2_add 7 = .ok (.aload_n 0, 1) := by decide +kernel
theorem dX2_add_8 : decode cX2_add 8 = .ok (.getfield 15, 3) := by decide +kernel
theorem dX2_add_11 : decode cX2_add 11 = .ok (.bipush 60, 2) := by decide +kernel
theorem dX2_add_13 : decode cX2_add 13 = .ok (.if_icmp .ge 23, 3) := by decide +kernel
theorem dX2_add_16 : decode cX2_add 16 = .ok (.aload_n 0, 1) := by decide +kernel
theorem dX2_add_17 : decode cX2_add 17 = .ok (.getfield 11, 3) := by decide +kernel
theorem dX2_add_20 : decode cX2_add 20 = .ok (.aload_n 0, 1) := by decide +kernel
theorem dX2_add_21 : decode cX2_add 21 = .ok (.getfield 15, 3) := by decide +kernel
theorem dX2_add_24 : decode cX2_add 24 = .ok (.iload_n 1, 1) := by decide +kernel
theorem dX2_add_25 : decode cX2_add 25 = .ok (.castore, 1) := by decide +kernel
theorem dX2_add_26 : decode cX2_add 26 = .ok (.aload_n 0, 1) := by decide +kernel
theorem dX2_add_27 : decode cX2_add 27 = .ok (.dup, 1) := by decide +kernel
theorem dX2_add_28 : decode cX2_add 28 = .ok (.getfield 15, 3) := by decide +kernel
theorem dX2_add_31 : decode cX2_add 31 = .ok (.iconst 1, 1) := by decide +kernel
theorem dX2_add_32 : decode cX2_add 32 = .ok (.iadd, 1) := by decide +kernel
theorem dX2_add_33 : decode cX2_add 33 = .ok (.putfield 15, 3) := by decide +kernel
theorem dX2_add_36 : decode cX2_add 36 = .ok (.return_, 1) := by decide +kernel
theorem dX2_signAt_0 : decode cX2_signAt 0 = .ok (.iload_n 1, 1) := by decide +kernel
theorem dX2_signAt_1 : decode cX2_signAt 1 = .ok (.ifCond .lt 26, 3) := by decide +kernel
theorem dX2_signAt_4 : decode cX2_signAt 4 = .ok (.iload_n 1, 1) := by decide +kernel
theorem dX2_signAt_5 : decode cX2_signAt 5 = .ok (.aload_n 0, 1) := by decide +kernel
theorem dX2_signAt_6 : decode cX2_signAt 6 = .ok (.getfield 15, 3) := by decide +kernel
theorem dX2_signAt_9 : decode cX2_signAt 9 = .ok (.if_icmp .ge 18, 3) := by decide +kernel
theorem dX2_signAt_12 : decode cX2_signAt 12 = .ok (.iload_n 1, 1) := by decide +kernel
theorem dX2_signAt_13 : decode cX2_signAt 13 = .ok (.bipush 60, 2) := by decide +kernel
theorem dX2_signAt_15 : decode cX2_signAt 15 = .ok (.if_icmp .ge 12, 3) := by decide +kernel
theorem dX2_signAt_18 : decode cX2_signAt 18 = .ok (.aload_n 0, 1) := by decide +kernel
theorem dX2_signAt_19 : decode cX2_signAt 19 = .ok (.getfield 11, 3) := by decide +kernel
theorem dX2_signAt_22 : decode cX2_signAt 22 = .ok (.iload_n 1, 1) := by decide +kernel
theorem dX2_signAt_23 : decode cX2_signAt 23 = .ok (.caload, 1) := by decide +kernel
theorem dX2_signAt_24 : decode cX2_signAt 24 = .ok (.goto 4, 3) := by decide +kernel
theorem dX2_signAt_27 : decode cX2_signAt 27 = .ok (.iconst 0, 1) := by decide +kernel
theorem dX2_signAt_28 : decode cX2_signAt 28 = .ok (.ireturn, 1) := by decide +kernel
theorem dX2_digitAt_0 : decode cX2_digitAt 0 = .ok (.aload_n 0, 1) := by decide +kernel
theorem dX2_digitAt_1 : decode cX2_digitAt 1 = .ok (.iload_n 1, 1) := by decide +kernel
theorem dX2_digitAt_2 : decode cX2_digitAt 2 = .ok (.invokevirtual 19, 3) := by decide +kernel
theorem dX2_digitAt_5 : decode cX2_digitAt 5 = .ok (.bipush 48, 2) := by decide +kernel
theorem dX2_digitAt_7 : decode cX2_digitAt 7 = .ok (.isub, 1) := by decide +kernel
theorem dX2_digitAt_8 : decode cX2_digitAt 8 = .ok (.ireturn, 1) := by decide +kernel
theorem dX2_beginsOrder_0 : decode cX2_beginsOrder 0 = .ok (.aload_n 0, 1) := by decide +kernel
theorem dX2_beginsOrder_1 : decode cX2_beginsOrder 1 = .ok (.iload_n 1, 1) := by decide +kernel
theorem dX2_beginsOrder_2 : decode cX2_beginsOrder 2 = .ok (.invokevirtual 19, 3) := by decide +kernel
theorem dX2_beginsOrder_5 : decode cX2_beginsOrder 5 = .ok (.invokestatic 23, 3) := by decide +kernel
theorem dX2_beginsOrder_8 : decode cX2_beginsOrder 8 = .ok (.iconst (-1), 1) := by decide +kernel
theorem dX2_beginsOrder_9 : decode cX2_beginsOrder 9 = .ok (.if_icmp .eq 7, 3) := by decide +kernel
theorem dX2_beginsOrder_12 : decode cX2_beginsOrder 12 = .ok (.iconst 1, 1) := by decide +kernel
theorem dX2_beginsOrder_13 : decode cX2_beginsOrder 13 = .ok (.goto 4, 3) := by decide +kernel
theorem dX2_beginsOrder_16 : decode cX2_beginsOrder 16 = .ok (.iconst 0, 1) := by decide +kernel
theorem dX2_beginsOrder_17 : decode cX2_beginsOrder 17 = .ok (.ireturn, 1) := by decide +kernel
theorem dX2_bellsFrom_0 : decode cX2_bellsFrom 0 = .ok (.iconst 0, 1) := by decide +kernel
theorem dX2_bellsFrom_1 : decode cX2_bellsFrom 1 = .ok (.istore_n 2, 1) := by decide +kernel
theorem dX2_bellsFrom_2 : decode cX2_bellsFrom 2 = .ok (.iload_n 1, 1) := by decide +kernel
theorem dX2_bellsFrom_3 : decode cX2_bellsFrom 3 = .ok (.istore_n 3, 1) := by decide +kernel
theorem dX2_bellsFrom_4 : decode cX2_bellsFrom 4 = .ok (.iload_n 3, 1) := by decide +kernel
theorem dX2_bellsFrom_5 : decode cX2_bellsFrom 5 = .ok (.aload_n 0, 1) := by decide +kernel
theorem dX2_bellsFrom_6 : decode cX2_bellsFrom 6 = .ok (.getfield 15, 3) := by decide +kernel
theorem dX2_bellsFrom_9 : decode cX2_bellsFrom 9 = .ok (.if_icmp .ge 29, 3) := by decide +kernel
theorem dX2_bellsFrom_12 : decode cX2_bellsFrom 12 = .ok (.aload_n 0, 1) := by decide +kernel
theorem dX2_bellsFrom_13 : decode cX2_bellsFrom 13 = .ok (.iload_n 3, 1) := by decide +kernel
theorem dX2_bellsFrom_14 : decode cX2_bellsFrom 14 = .ok (.invokevirtual 19, 3) := by decide +kernel
theorem dX2_bellsFrom_17 : decode cX2_bellsFrom 17 = .ok (.bipush 59, 2) := by decide +kernel
theorem dX2_bellsFrom_19 : decode cX2_bellsFrom 19 = .ok (.if_icmp .eq 19, 3) := by decide +kernel
theorem dX2_bellsFrom_22 : decode cX2_bellsFrom 22 = .ok (.iload_n 2, 1) := by decide +kernel
theorem dX2_bellsFrom_23 : decode cX2_bellsFrom 23 = .ok (.iconst 1, 1) := by decide +kernel
theorem dX2_bellsFrom_24 : decode cX2_bellsFrom 24 = .ok (.aload_n 0, 1) := by decide +kernel
theorem dX2_bellsFrom_25 : decode cX2_bellsFrom 25 = .ok (.iload_n 3, 1) := by decide +kernel
theorem dX2_bellsFrom_26 : decode cX2_bellsFrom 26 = .ok (.invokevirtual 26, 3) := by decide +kernel
theorem dX2_bellsFrom_29 : decode cX2_bellsFrom 29 = .ok (.ishl, 1) := by decide +kernel
theorem dX2_bellsFrom_30 : decode cX2_bellsFrom 30 = .ok (.ior, 1) := by decide +kernel
theorem dX2_bellsFrom_31 : decode cX2_bellsFrom 31 = .ok (.istore_n 2, 1) := by decide +kernel
theorem dX2_bellsFrom_32 : decode cX2_bellsFrom 32 = .ok (.iinc 3 1, 3) := by decide +kernel
theorem dX2_bellsFrom_35 : decode cX2_bellsFrom 35 = .ok (.goto (-31), 3) := by decide +kernel
theorem dX2_bellsFrom_38 : decode cX2_bellsFrom 38 = .ok (.iload_n 2, 1) := by decide +kernel
theorem dX2_bellsFrom_39 : decode cX2_bellsFrom 39 = .ok (.ireturn, 1) := by decide +kernel
theorem dX2_firstFault_0 : decode cX2_firstFault 0 = .ok (.iconst 0, 1) := by decide +kernel
theorem dX2_firstFault_1 : decode cX2_firstFault 1 = .ok (.istore_n 1, 1) := by decide +kernel
theorem dX2_firstFault_2 : decode cX2_firstFault 2 = .ok (.iconst 0, 1) := by decide +kernel
theorem dX2_firstFault_3 : decode cX2_firstFault 3 = .ok (.istore_n 2, 1) := by decide +kernel
theorem dX2_firstFault_4 : decode cX2_firstFault 4 = .ok (.iload_n 2, 1) := by decide +kernel
theorem dX2_firstFault_5 : decode cX2_firstFault 5 = .ok (.aload_n 0, 1) := by decide +kernel
theorem dX2_firstFault_6 : decode cX2_firstFault 6 = .ok (.getfield 15, 3) := by decide +kernel
theorem dX2_firstFault_9 : decode cX2_firstFault 9 = .ok (.if_icmp .ge 26, 3) := by decide +kernel
theorem dX2_firstFault_12 : decode cX2_firstFault 12 = .ok (.iload_n 1, 1) := by decide +kernel
theorem dX2_firstFault_13 : decode cX2_firstFault 13 = .ok (.aload_n 0, 1) := by decide +kernel
theorem dX2_firstFault_14 : decode cX2_firstFault 14 = .ok (.iload_n 2, 1) := by decide +kernel
theorem dX2_firstFault_15 : decode cX2_firstFault 15 = .ok (.invokevirtual 19, 3) := by decide +kernel
theorem dX2_firstFault_18 : decode cX2_firstFault 18 = .ok (.invokestatic 29, 3) := by decide +kernel
theorem dX2_firstFault_21 : decode cX2_firstFault 21 = .ok (.istore_n 1, 1) := by decide +kernel
theorem dX2_firstFault_22 : decode cX2_firstFault 22 = .ok (.iload_n 1, 1) := by decide +kernel
theorem dX2_firstFault_23 : decode cX2_firstFault 23 = .ok (.iconst (-1), 1) := by decide +kernel
theorem dX2_firstFault_24 : decode cX2_firstFault 24 = .ok (.if_icmp .ne 5, 3) := by decide +kernel
theorem dX2_firstFault_27 : decode cX2_firstFault 27 = .ok (.iload_n 2, 1) := by decide +kernel
theorem dX2_firstFault_28 : decode cX2_firstFault 28 = .ok (.ireturn, 1) := by decide +kernel
theorem dX2_firstFault_29 : decode cX2_firstFault 29 = .ok (.iinc 2 1, 3) := by decide +kernel
theorem dX2_firstFault_32 : decode cX2_firstFault 32 = .ok (.goto (-28), 3) := by decide +kernel
theorem dX2_firstFault_35 : decode cX2_firstFault 35 = .ok (.iload_n 1, 1) := by decide +kernel
theorem dX2_firstFault_36 : decode cX2_firstFault 36 = .ok (.iconst 5, 1) := by decide +kernel
theorem dX2_firstFault_37 : decode cX2_firstFault 37 = .ok (.if_icmp .lt 8, 3) := by decide +kernel
theorem dX2_firstFault_40 : decode cX2_firstFault 40 = .ok (.bipush (-5), 2) := by decide +kernel
theorem dX2_firstFault_42 : decode cX2_firstFault 42 = .ok (.goto 7, 3) := by decide +kernel
theorem dX2_firstFault_45 : decode cX2_firstFault 45 = .ok (.aload_n 0, 1) := by decide +kernel
theorem dX2_firstFault_46 : decode cX2_firstFault 46 = .ok (.getfield 15, 3) := by decide +kernel
theorem dX2_firstFault_49 : decode cX2_firstFault 49 = .ok (.ireturn, 1) := by decide +kernel
theorem dX2_after_0 : decode cX2_after 0 = .ok (.iload_n 0, 1) := by decide +kernel
theorem dX2_after_1 : decode cX2_after 1 = .ok (.tableswitch 103 0 4 #[35, 40, 55, 70, 86], 35) := by decide +kernel
theorem dX2_after_36 : decode cX2_after 36 = .ok (.iload_n 1, 1) := by decide +kernel
theorem dX2_after_37 : decode cX2_after 37 = .ok (.invokestatic 23, 3) := by decide +kernel
theorem dX2_after_40 : decode cX2_after 40 = .ok (.ireturn, 1) := by decide +kernel
theorem dX2_after_41 : decode cX2_after 41 = .ok (.iload_n 1, 1) := by decide +kernel
theorem dX2_after_42 : decode cX2_after 42 = .ok (.iconst 0, 1) := by decide +kernel
theorem dX2_after_43 : decode cX2_after 43 = .ok (.iconst 5, 1) := by decide +kernel
theorem dX2_after_44 : decode cX2_after 44 = .ok (.invokestatic 33, 3) := by decide +kernel
theorem dX2_after_47 : decode cX2_after 47 = .ok (.ifCond .eq 7, 3) := by decide +kernel
theorem dX2_after_50 : decode cX2_after 50 = .ok (.iconst 5, 1) := by decide +kernel
theorem dX2_after_51 : decode cX2_after 51 = .ok (.goto 4, 3) := by decide +kernel
theorem dX2_after_54 : decode cX2_after 54 = .ok (.iconst (-1), 1) := by decide +kernel
theorem dX2_after_55 : decode cX2_after 55 = .ok (.ireturn, 1) := by decide +kernel
theorem dX2_after_56 : decode cX2_after 56 = .ok (.iload_n 1, 1) := by decide +kernel
theorem dX2_after_57 : decode cX2_after 57 = .ok (.iconst 0, 1) := by decide +kernel
theorem dX2_after_58 : decode cX2_after 58 = .ok (.iconst 5, 1) := by decide +kernel
theorem dX2_after_59 : decode cX2_after 59 = .ok (.invokestatic 33, 3) := by decide +kernel
theorem dX2_after_62 : decode cX2_after 62 = .ok (.ifCond .eq 7, 3) := by decide +kernel
theorem dX2_after_65 : decode cX2_after 65 = .ok (.iconst 3, 1) := by decide +kernel
theorem dX2_after_66 : decode cX2_after 66 = .ok (.goto 4, 3) := by decide +kernel
theorem dX2_after_69 : decode cX2_after 69 = .ok (.iconst (-1), 1) := by decide +kernel
theorem dX2_after_70 : decode cX2_after 70 = .ok (.ireturn, 1) := by decide +kernel
theorem dX2_after_71 : decode cX2_after 71 = .ok (.iload_n 1, 1) := by decide +kernel
theorem dX2_after_72 : decode cX2_after 72 = .ok (.iconst 0, 1) := by decide +kernel
theorem dX2_after_73 : decode cX2_after 73 = .ok (.iconst 4, 1) := by decide +kernel
theorem dX2_after_74 : decode cX2_after 74 = .ok (.invokestatic 33, 3) := by decide +kernel
theorem dX2_after_77 : decode cX2_after 77 = .ok (.ifCond .eq 8, 3) := by decide +kernel
theorem dX2_after_80 : decode cX2_after 80 = .ok (.bipush 10, 2) := by decide +kernel
theorem dX2_after_82 : decode cX2_after 82 = .ok (.goto 4, 3) := by decide +kernel
theorem dX2_after_85 : decode cX2_after 85 = .ok (.iconst (-1), 1) := by decide +kernel
theorem dX2_after_86 : decode cX2_after 86 = .ok (.ireturn, 1) := by decide +kernel
theorem dX2_after_87 : decode cX2_after 87 = .ok (.iload_n 1, 1) := by decide +kernel
theorem dX2_after_88 : decode cX2_after 88 = .ok (.iconst 1, 1) := by decide +kernel
theorem dX2_after_89 : decode cX2_after 89 = .ok (.bipush 9, 2) := by decide +kernel
theorem dX2_after_91 : decode cX2_after 91 = .ok (.invokestatic 33, 3) := by decide +kernel
theorem dX2_after_94 : decode cX2_after 94 = .ok (.ifCond .eq 8, 3) := by decide +kernel
theorem dX2_after_97 : decode cX2_after 97 = .ok (.bipush 10, 2) := by decide +kernel
theorem dX2_after_99 : decode cX2_after 99 = .ok (.goto 4, 3) := by decide +kernel
theorem dX2_after_102 : decode cX2_after 102 = .ok (.iconst (-1), 1) := by decide +kernel
theorem dX2_after_103 : decode cX2_after 103 = .ok (.ireturn, 1) := by decide +kernel
theorem dX2_after_104 : decode cX2_after 104 = .ok (.iload_n 0, 1) := by decide +kernel
theorem dX2_after_105 : decode cX2_after 105 = .ok (.iconst 5, 1) := by decide +kernel
theorem dX2_after_106 : decode cX2_after 106 = .ok (.isub, 1) := by decide +kernel
theorem dX2_after_107 : decode cX2_after 107 = .ok (.iload_n 1, 1) := by decide +kernel
theorem dX2_after_108 : decode cX2_after 108 = .ok (.invokestatic 37, 3) := by decide +kernel
theorem dX2_after_111 : decode cX2_after 111 = .ok (.ireturn, 1) := by decide +kernel
theorem dX2_afterLetter_0 : decode cX2_afterLetter 0 = .ok (.iload_n 0, 1) := by decide +kernel
theorem dX2_afterLetter_1 : decode cX2_afterLetter 1 = .ok (.tableswitch 41 112 116 #[35, 41, 41, 37, 39], 35) := by decide +kernel
theorem dX2_afterLetter_36 : decode cX2_afterLetter 36 = .ok (.iconst 1, 1) := by decide +kernel
theorem dX2_afterLetter_37 : decode cX2_afterLetter 37 = .ok (.ireturn, 1) := by decide +kernel
theorem dX2_afterLetter_38 : decode cX2_afterLetter 38 = .ok (.iconst 2, 1) := by decide +kernel
theorem dX2_afterLetter_39 : decode cX2_afterLetter 39 = .ok (.ireturn, 1) := by decide +kernel
theorem dX2_afterLetter_40 : decode cX2_afterLetter 40 = .ok (.iconst 4, 1) := by decide +kernel
theorem dX2_afterLetter_41 : decode cX2_afterLetter 41 = .ok (.ireturn, 1) := by decide +kernel
theorem dX2_afterLetter_42 : decode cX2_afterLetter 42 = .ok (.iconst (-1), 1) := by decide +kernel
theorem dX2_afterLetter_43 : decode cX2_afterLetter 43 = .ok (.ireturn, 1) := by decide +kernel
theorem dX2_afterBells_0 : decode cX2_afterBells 0 = .ok (.iload_n 1, 1) := by decide +kernel
theorem dX2_afterBells_1 : decode cX2_afterBells 1 = .ok (.bipush 59, 2) := by decide +kernel
theorem dX2_afterBells_3 : decode cX2_afterBells 3 = .ok (.if_icmp .ne 5, 3) := by decide +kernel
theorem dX2_afterBells_6 : decode cX2_afterBells 6 = .ok (.iconst 0, 1) := by decide +kernel
theorem dX2_afterBells_7 : decode cX2_afterBells 7 = .ok (.ireturn, 1) := by decide +kernel
theorem dX2_afterBells_8 : decode cX2_afterBells 8 = .ok (.iload_n 1, 1) := by decide +kernel
theorem dX2_afterBells_9 : decode cX2_afterBells 9 = .ok (.iload_n 0, 1) := by decide +kernel
theorem dX2_afterBells_10 : decode cX2_afterBells 10 = .ok (.iconst 4, 1) := by decide +kernel
theorem dX2_afterBells_11 : decode cX2_afterBells 11 = .ok (.invokestatic 33, 3) := by decide +kernel
theorem dX2_afterBells_14 : decode cX2_afterBells 14 = .ok (.ifCond .eq 12, 3) := by decide +kernel
theorem dX2_afterBells_17 : decode cX2_afterBells 17 = .ok (.iconst 5, 1) := by decide +kernel
theorem dX2_afterBells_18 : decode cX2_afterBells 18 = .ok (.iload_n 1, 1) := by decide +kernel
theorem dX2_afterBells_19 : decode cX2_afterBells 19 = .ok (.bipush 48, 2) := by decide +kernel
theorem dX2_afterBells_21 : decode cX2_afterBells 21 = .ok (.isub, 1) := by decide +kernel
theorem dX2_afterBells_22 : decode cX2_afterBells 22 = .ok (.iadd, 1) := by decide +kernel
theorem dX2_afterBells_23 : decode cX2_afterBells 23 = .ok (.iconst 1, 1) := by decide +kernel
theorem dX2_afterBells_24 : decode cX2_afterBells 24 = .ok (.iadd, 1) := by decide +kernel
theorem dX2_afterBells_25 : decode cX2_afterBells 25 = .ok (.ireturn, 1) := by decide +kernel
theorem dX2_afterBells_26 : decode cX2_afterBells 26 = .ok (.iconst (-1), 1) := by decide +kernel
theorem dX2_afterBells_27 : decode cX2_afterBells 27 = .ok (.ireturn, 1) := by decide +kernel
theorem dX2_isDigit_0 : decode cX2_isDigit 0 = .ok (.iload_n 0, 1) := by decide +kernel
theorem dX2_isDigit_1 : decode cX2_isDigit 1 = .ok (.bipush 48, 2) := by decide +kernel
theorem dX2_isDigit_3 : decode cX2_isDigit 3 = .ok (.iload_n 1, 1) := by decide +kernel
theorem dX2_isDigit_4 : decode cX2_isDigit 4 = .ok (.iadd, 1) := by decide +kernel
theorem dX2_isDigit_5 : decode cX2_isDigit 5 = .ok (.if_icmp .lt 15, 3) := by decide +kernel
theorem dX2_isDigit_8 : decode cX2_isDigit 8 = .ok (.iload_n 0, 1) := by decide +kernel
theorem dX2_isDigit_9 : decode cX2_isDigit 9 = .ok (.bipush 48, 2) := by decide +kernel
theorem dX2_isDigit_11 : decode cX2_isDigit 11 = .ok (.iload_n 2, 1) := by decide +kernel
theorem dX2_isDigit_12 : decode cX2_isDigit 12 = .ok (.iadd, 1) := by decide +kernel
theorem dX2_isDigit_13 : decode cX2_isDigit 13 = .ok (.if_icmp .gt 7, 3) := by decide +kernel
theorem dX2_isDigit_16 : decode cX2_isDigit 16 = .ok (.iconst 1, 1) := by decide +kernel
theorem dX2_isDigit_17 : decode cX2_isDigit 17 = .ok (.goto 4, 3) := by decide +kernel
theorem dX2_isDigit_20 : decode cX2_isDigit 20 = .ok (.iconst 0, 1) := by decide +kernel
theorem dX2_isDigit_21 : decode cX2_isDigit 21 = .ok (.ireturn, 1) := by decide +kernel
theorem dX3_init_0 : decode cX3_init 0 = .ok (.aload_n 0, 1) := by decide +kernel
theorem dX3_init_1 : decode cX3_init 1 = .ok (.invokespecial 3, 3) := by decide +kernel
theorem dX3_init_4 : decode cX3_init 4 = .ok (.aload_n 0, 1) := by decide +kernel
theorem dX3_init_5 : decode cX3_init 5 = .ok (.bipush 6, 2) := by decide +kernel
theorem dX3_init_7 : decode cX3_init 7 = .ok (.newarray .int, 2) := by decide +kernel
theorem dX3_init_9 : decode cX3_init 9 = .ok (.putfield 9, 3) := by decide +kernel
theorem dX3_init_12 : decode cX3_init 12 = .ok (.aload_n 0, 1) := by decide +kernel
theorem dX3_init_13 : decode cX3_init 13 = .ok (.bipush 6, 2) := by decide +kernel
theorem dX3_init_15 : decode cX3_init 15 = .ok (.newarray .int, 2) := by decide +kernel
theorem dX3_init_17 : decode cX3_init 17 = .ok (.putfield 15, 3) := by decide +kernel
theorem dX3_init_20 : decode cX3_init 20 = .ok (.aload_n 0, 1) := by decide +kernel
theorem dX3_init_21 : decode cX3_init 21 = .ok (.bipush 6, 2) := by decide +kernel
theorem dX3_init_23 : decode cX3_init 23 = .ok (.newarray .int, 2) := by decide +kernel
theorem dX3_init_25 : decode cX3_init 25 = .ok (.putfield 18, 3) := by decide +kernel
theorem dX3_init_28 : decode cX3_init 28 = .ok (.aload_n 0, 1) := by decide +kernel
theorem dX3_init_29 : decode cX3_init 29 = .ok (.bipush 6, 2) := by decide +kernel
theorem dX3_init_31 : decode cX3_init 31 = .ok (.newarray .int, 2) := by decide +kernel
theorem dX3_init_33 : decode cX3_init 33 = .ok (.putfield 21, 3) := by decide +kernel
theorem dX3_init_36 : decode cX3_init 36 = .ok (.aload_n 0, 1) := by decide +kernel
theorem dX3_init_37 : decode cX3_init 37 = .ok (.bipush 6, 2) := by decide +kernel
theorem dX3_init_39 : decode cX3_init 39 = .ok (.newarray .int, 2) := by decide +kernel
theorem dX3_init_41 : decode cX3_init 41 = .ok (.putfield 24, 3) := by decide +kernel
theorem dX3_init_44 : decode cX3_init 44 = .ok (.aload_n 0, 1) := by decide +kernel
theorem dX3_init_45 : decode cX3_init 45 = .ok (.bipush 6, 2) := by decide +kernel
theorem dX3_init_47 : decode cX3_init 47 = .ok (.newarray .int, 2) := by decide +kernel
theorem dX3_init_49 : decode cX3_init 49 = .ok (.putfield 27, 3) := by decide +kernel
theorem dX3_init_52 : decode cX3_init 52 = .ok (.aload_n 0, 1) := by decide +kernel
theorem dX3_init_53 : decode cX3_init 53 = .ok (.bipush 6, 2) := by decide +kernel
theorem dX3_init_55 : decode cX3_init 55 = .ok (.newarray .int, 2) := by decide +kernel
theorem dX3_init_57 : decode cX3_init 57 = .ok (.putfield 30, 3) := by decide +kernel
theorem dX3_init_60 : decode cX3_init 60 = .ok (.aload_n 0, 1) := by decide +kernel
theorem dX3_init_61 : decode cX3_init 61 = .ok (.bipush 6, 2) := by decide +kernel
theorem dX3_init_63 : decode cX3_init 63 = .ok (.newarray .int, 2) := by decide +kernel
theorem dX3_init_65 : decode cX3_init 65 = .ok (.putfield 33, 3) := by decide +kernel
theorem dX3_init_68 : decode cX3_init 68 = .ok (.aload_n 0, 1) := by decide +kernel
theorem dX3_init_69 : decode cX3_init 69 = .ok (.bipush 6, 2) := by decide +kernel
theorem dX3_init_71 : decode cX3_init 71 = .ok (.newarray .int, 2) := by decide +kernel
theorem dX3_init_73 : decode cX3_init 73 = .ok (.putfield 36, 3) := by decide +kernel
theorem dX3_init_76 : decode cX3_init 76 = .ok (.aload_n 0, 1) := by decide +kernel
theorem dX3_init_77 : decode cX3_init 77 = .ok (.bipush 30, 2) := by decide +kernel
theorem dX3_init_79 : decode cX3_init 79 = .ok (.newarray .int, 2) := by decide +kernel
theorem dX3_init_81 : decode cX3_init 81 = .ok (.putfield 39, 3) := by decide +kernel
theorem dX3_init_84 : decode cX3_init 84 = .ok (.aload_n 0, 1) := by decide +kernel
theorem dX3_init_85 : decode cX3_init 85 = .ok (.bipush 30, 2) := by decide +kernel
theorem dX3_init_87 : decode cX3_init 87 = .ok (.newarray .int, 2) := by decide +kernel
theorem dX3_init_89 : decode cX3_init 89 = .ok (.putfield 42, 3) := by decide +kernel
theorem dX3_init_92 : decode cX3_init 92 = .ok (.aload_n 0, 1) := by decide +kernel
theorem dX3_init_93 : decode cX3_init 93 = .ok (.bipush 30, 2) := by decide +kernel
theorem dX3_init_95 : decode cX3_init 95 = .ok (.newarray .int, 2) := by decide +kernel
theorem dX3_init_97 : decode cX3_init 97 = .ok (.putfield 45, 3) := by decide +kernel
theorem dX3_init_100 : decode cX3_init 100 = .ok (.aload_n 0, 1) := by decide +kernel
theorem dX3_init_101 : decode cX3_init 101 = .ok (.iconst 1, 1) := by decide +kernel
theorem dX3_init_102 : decode cX3_init 102 = .ok (.putfield 48, 3) := by decide +kernel
theorem dX3_init_105 : decode cX3_init 105 = .ok (.aload_n 0, 1) := by decide +kernel
theorem dX3_init_106 : decode cX3_init 106 = .ok (.iconst 1, 1) := by decide +kernel
theorem dX3_init_107 : decode cX3_init 107 = .ok (.putfield 52, 3) := by decide +kernel
theorem dX3_init_110 : decode cX3_init 110 = .ok (.aload_n 0, 1) := by decide +kernel
theorem dX3_init_111 : decode cX3_init 111 = .ok (.iconst 0, 1) := by decide +kernel
theorem dX3_init_112 : decode cX3_init 112 = .ok (.putfield 55, 3) := by decide +kernel
theorem dX3_init_115 : decode cX3_init 115 = .ok (.aload_n 0, 1) := by decide +kernel
theorem dX3_init_116 : decode cX3_init 116 = .ok (.iconst 0, 1) := by decide +kernel
theorem dX3_init_117 : decode cX3_init 117 = .ok (.putfield 58, 3) := by decide +kernel
theorem dX3_init_120 : decode cX3_init 120 = .ok (.aload_n 0, 1) := by decide +kernel
theorem dX3_init_121 : decode cX3_init 121 = .ok (.bipush (-5), 2) := by decide +kernel
theorem dX3_init_123 : decode cX3_init 123 = .ok (.putfield 61, 3) := by decide +kernel
theorem dX3_init_126 : decode cX3_init 126 = .ok (.iconst 0, 1) := by decide +kernel
theorem dX3_init_127 : decode cX3_init 127 = .ok (.istore_n 1, 1) := by decide +kernel
theorem dX3_init_128 : decode cX3_init 128 = .ok (.iload_n 1, 1) := by decide +kernel
theorem dX3_init_129 : decode cX3_init 129 = .ok (.bipush 6, 2) := by decide +kernel
theorem dX3_init_131 : decode cX3_init 131 = .ok (.if_icmp .ge 33, 3) := by decide +kernel
theorem dX3_init_134 : decode cX3_init 134 = .ok (.aload_n 0, 1) := by decide +kernel
theorem dX3_init_135 : decode cX3_init 135 = .ok (.getfield 9, 3) := by decide +kernel
theorem dX3_init_138 : decode cX3_init 138 = .ok (.iload_n 1, 1) := by decide +kernel
theorem dX3_init_139 : decode cX3_init 139 = .ok (.iconst 4, 1) := by decide +kernel
theorem dX3_init_140 : decode cX3_init 140 = .ok (.iload_n 1, 1) := by decide +kernel
theorem dX3_init_141 : decode cX3_init 141 = .ok (.imul, 1) := by decide +kernel
theorem dX3_init_142 : decode cX3_init 142 = .ok (.iastore, 1) := by decide +kernel
theorem dX3_init_143 : decode cX3_init 143 = .ok (.aload_n 0, 1) := by decide +kernel
theorem dX3_init_144 : decode cX3_init 144 = .ok (.getfield 15, 3) := by decide +kernel
theorem dX3_init_147 : decode cX3_init 147 = .ok (.iload_n 1, 1) := by decide +kernel
theorem dX3_init_148 : decode cX3_init 148 = .ok (.bipush 8, 2) := by decide +kernel
theorem dX3_init_150 : decode cX3_init 150 = .ok (.iastore, 1) := by decide +kernel
theorem dX3_init_151 : decode cX3_init 151 = .ok (.aload_n 0, 1) := by decide +kernel
theorem dX3_init_152 : decode cX3_init 152 = .ok (.getfield 27, 3) := by decide +kernel
theorem dX3_init_155 : decode cX3_init 155 = .ok (.iload_n 1, 1) := by decide +kernel
theorem dX3_init_156 : decode cX3_init 156 = .ok (.iload_n 1, 1) := by decide +kernel
theorem dX3_init_157 : decode cX3_init 157 = .ok (.iastore, 1) := by decide +kernel
theorem dX3_init_158 : decode cX3_init 158 = .ok (.iinc 1 1, 3) := by decide +kernel
theorem dX3_init_161 : decode cX3_init 161 = .ok (.goto (-33), 3) := by decide +kernel
theorem dX3_init_164 : decode cX3_init 164 = .ok (.return_, 1) := by decide +kernel
theorem dX3_copyFrom_0 : decode cX3_copyFrom 0 = .ok (.aload_n 1, 1) := by decide +kernel
theorem dX3_copyFrom_1 : decode cX3_copyFrom 1 = .ok (.getfield 9, 3) := by decide +kernel
theorem dX3_copyFrom_4 : decode cX3_copyFrom 4 = .ok (.aload_n 0, 1) := by decide +kernel
theorem dX3_copyFrom_5 : decode cX3_copyFrom 5 = .ok (.getfield 9, 3) := by decide +kernel
theorem dX3_copyFrom_8 : decode cX3_copyFrom 8 = .ok (.invokestatic 64, 3) := by decide +kernel
theorem dX3_copyFrom_11 : decode cX3_copyFrom 11 = .ok (.aload_n 1, 1) := by decide +kernel
theorem dX3_copyFrom_12 : decode cX3_copyFrom 12 = .ok (.getfield 15, 3) := by decide +kernel
theorem dX3_copyFrom_15 : decode cX3_copyFrom 15 = .ok (.aload_n 0, 1) := by decide +kernel
theorem dX3_copyFrom_16 : decode cX3_copyFrom 16 = .ok (.getfield 15, 3) := by decide +kernel
theorem dX3_copyFrom_19 : decode cX3_copyFrom 19 = .ok (.invokestatic 64, 3) := by decide +kernel
theorem dX3_copyFrom_22 : decode cX3_copyFrom 22 = .ok (.aload_n 1, 1) := by decide +kernel
theorem dX3_copyFrom_23 : decode cX3_copyFrom 23 = .ok (.getfield 18, 3) := by decide +kernel
theorem dX3_copyFrom_26 : decode cX3_copyFrom 26 = .ok (.aload_n 0, 1) := by decide +kernel
theorem dX3_copyFrom_27 : decode cX3_copyFrom 27 = .ok (.getfield 18, 3) := by decide +kernel
theorem dX3_copyFrom_30 : decode cX3_copyFrom 30 = .ok (.invokestatic 64, 3) := by decide +kernel
theorem dX3_copyFrom_33 : decode cX3_copyFrom 33 = .ok (.aload_n 1, 1) := by decide +kernel
theorem dX3_copyFrom_34 : decode cX3_copyFrom 34 = .ok (.getfield 21, 3) := by decide +kernel
theorem dX3_copyFrom_37 : decode cX3_copyFrom 37 = .ok (.aload_n 0, 1) := by decide +kernel
theorem dX3_copyFrom_38 : decode cX3_copyFrom 38 = .ok (.getfield 21, 3) := by decide +kernel
theorem dX3_copyFrom_41 : decode cX3_copyFrom 41 = .ok (.invokestatic 64, 3) := by decide +kernel
theorem dX3_copyFrom_44 : decode cX3_copyFrom 44 = .ok (.aload_n 1, 1) := by decide +kernel
theorem dX3_copyFrom_45 : decode cX3_copyFrom 45 = .ok (.getfield 24, 3) := by decide +kernel
theorem dX3_copyFrom_48 : decode cX3_copyFrom 48 = .ok (.aload_n 0, 1) := by decide +kernel
theorem dX3_copyFrom_49 : decode cX3_copyFrom 49 = .ok (.getfield 24, 3) := by decide +kernel
theorem dX3_copyFrom_52 : decode cX3_copyFrom 52 = .ok (.invokestatic 64, 3) := by decide +kernel
theorem dX3_copyFrom_55 : decode cX3_copyFrom 55 = .ok (.aload_n 1, 1) := by decide +kernel
theorem dX3_copyFrom_56 : decode cX3_copyFrom 56 = .ok (.getfield 27, 3) := by decide +kernel
theorem dX3_copyFrom_59 : decode cX3_copyFrom 59 = .ok (.aload_n 0, 1) := by decide +kernel
theorem dX3_copyFrom_60 : decode cX3_copyFrom 60 = .ok (.getfield 27, 3) := by decide +kernel
theorem dX3_copyFrom_63 : decode cX3_copyFrom 63 = .ok (.invokestatic 64, 3) := by decide +kernel
theorem dX3_copyFrom_66 : decode cX3_copyFrom 66 = .ok (.aload_n 1, 1) := by decide +kernel
theorem dX3_copyFrom_67 : decode cX3_copyFrom 67 = .ok (.getfield 30, 3) := by decide +kernel
theorem dX3_copyFrom_70 : decode cX3_copyFrom 70 = .ok (.aload_n 0, 1) := by decide +kernel
theorem dX3_copyFrom_71 : decode cX3_copyFrom 71 = .ok (.getfield 30, 3) := by decide +kernel
theorem dX3_copyFrom_74 : decode cX3_copyFrom 74 = .ok (.invokestatic 64, 3) := by decide +kernel
theorem dX3_copyFrom_77 : decode cX3_copyFrom 77 = .ok (.aload_n 1, 1) := by decide +kernel
theorem dX3_copyFrom_78 : decode cX3_copyFrom 78 = .ok (.getfield 33, 3) := by decide +kernel
theorem dX3_copyFrom_81 : decode cX3_copyFrom 81 = .ok (.aload_n 0, 1) := by decide +kernel
theorem dX3_copyFrom_82 : decode cX3_copyFrom 82 = .ok (.getfield 33, 3) := by decide +kernel
theorem dX3_copyFrom_85 : decode cX3_copyFrom 85 = .ok (.invokestatic 64, 3) := by decide +kernel
theorem dX3_copyFrom_88 : decode cX3_copyFrom 88 = .ok (.aload_n 1, 1) := by decide +kernel
theorem dX3_copyFrom_89 : decode cX3_copyFrom 89 = .ok (.getfield 36, 3) := by decide +kernel
theorem dX3_copyFrom_92 : decode cX3_copyFrom 92 = .ok (.aload_n 0, 1) := by decide +kernel
theorem dX3_copyFrom_93 : decode cX3_copyFrom 93 = .ok (.getfield 36, 3) := by decide +kernel
theorem dX3_copyFrom_96 : decode cX3_copyFrom 96 = .ok (.invokestatic 64, 3) := by decide +kernel
theorem dX3_copyFrom_99 : decode cX3_copyFrom 99 = .ok (.aload_n 1, 1) := by decide +kernel
theorem dX3_copyFrom_100 : decode cX3_copyFrom 100 = .ok (.getfield 39, 3) := by decide +kernel
theorem dX3_copyFrom_103 : decode cX3_copyFrom 103 = .ok (.aload_n 0, 1) := by decide +kernel
theorem dX3_copyFrom_104 : decode cX3_copyFrom 104 = .ok (.getfield 39, 3) := by decide +kernel
theorem dX3_copyFrom_107 : decode cX3_copyFrom 107 = .ok (.invokestatic 68, 3) := by decide +kernel
theorem dX3_copyFrom_110 : decode cX3_copyFrom 110 = .ok (.aload_n 1, 1) := by decide +kernel
theorem dX3_copyFrom_111 : decode cX3_copyFrom 111 = .ok (.getfield 42, 3) := by decide +kernel
theorem dX3_copyFrom_114 : decode cX3_copyFrom 114 = .ok (.aload_n 0, 1) := by decide +kernel
theorem dX3_copyFrom_115 : decode cX3_copyFrom 115 = .ok (.getfield 42, 3) := by decide +kernel
theorem dX3_copyFrom_118 : decode cX3_copyFrom 118 = .ok (.invokestatic 68, 3) := by decide +kernel
theorem dX3_copyFrom_121 : decode cX3_copyFrom 121 = .ok (.aload_n 1, 1) := by decide +kernel
theorem dX3_copyFrom_122 : decode cX3_copyFrom 122 = .ok (.getfield 45, 3) := by decide +kernel
theorem dX3_copyFrom_125 : decode cX3_copyFrom 125 = .ok (.aload_n 0, 1) := by decide +kernel
theorem dX3_copyFrom_126 : decode cX3_copyFrom 126 = .ok (.getfield 45, 3) := by decide +kernel
theorem dX3_copyFrom_129 : decode cX3_copyFrom 129 = .ok (.invokestatic 68, 3) := by decide +kernel
theorem dX3_copyFrom_132 : decode cX3_copyFrom 132 = .ok (.aload_n 0, 1) := by decide +kernel
theorem dX3_copyFrom_133 : decode cX3_copyFrom 133 = .ok (.aload_n 1, 1) := by decide +kernel
theorem dX3_copyFrom_134 : decode cX3_copyFrom 134 = .ok (.getfield 48, 3) := by decide +kernel
theorem dX3_copyFrom_137 : decode cX3_copyFrom 137 = .ok (.putfield 48, 3) := by decide +kernel
theorem dX3_copyFrom_140 : decode cX3_copyFrom 140 = .ok (.aload_n 0, 1) := by decide +kernel
theorem dX3_copyFrom_141 : decode cX3_copyFrom 141 = .ok (.aload_n 1, 1) := by decide +kernel
theorem dX3_copyFrom_142 : decode cX3_copyFrom 142 = .ok (.getfield 52, 3) := by decide +kernel
theorem dX3_copyFrom_145 : decode cX3_copyFrom 145 = .ok (.putfield 52, 3) := by decide +kernel
theorem dX3_copyFrom_148 : decode cX3_copyFrom 148 = .ok (.aload_n 0, 1) := by decide +kernel
theorem dX3_copyFrom_149 : decode cX3_copyFrom 149 = .ok (.aload_n 1, 1) := by decide +kernel
theorem dX3_copyFrom_150 : decode cX3_copyFrom 150 = .ok (.getfield 55, 3) := by decide +kernel
theorem dX3_copyFrom_153 : decode cX3_copyFrom 153 = .ok (.putfield 55, 3) := by decide +kernel
theorem dX3_copyFrom_156 : decode cX3_copyFrom 156 = .ok (.aload_n 0, 1) := by decide +kernel
theorem dX3_copyFrom_157 : decode cX3_copyFrom 157 = .ok (.aload_n 1, 1) := by decide +kernel
theorem dX3_copyFrom_158 : decode cX3_copyFrom 158 = .ok (.getfield 58, 3) := by decide +kernel
theorem dX3_copyFrom_161 : decode cX3_copyFrom 161 = .ok (.putfield 58, 3) := by decide +kernel
theorem dX3_copyFrom_164 : decode cX3_copyFrom 164 = .ok (.aload_n 0, 1) := by decide +kernel
theorem dX3_copyFrom_165 : decode cX3_copyFrom 165 = .ok (.aload_n 1, 1) := by decide +kernel
theorem dX3_copyFrom_166 : decode cX3_copyFrom 166 = .ok (.getfield 61, 3) := by decide +kernel
theorem dX3_copyFrom_169 : decode cX3_copyFrom 169 = .ok (.putfield 61, 3) := by decide +kernel
theorem dX3_copyFrom_172 : decode cX3_copyFrom 172 = .ok (.return_, 1) := by decide +kernel
theorem dX3_copyTowns_0 : decode cX3_copyTowns 0 = .ok (.aload_n 0, 1) := by decide +kernel
theorem dX3_copyTowns_1 : decode cX3_copyTowns 1 = .ok (.iconst 0, 1) := by decide +kernel
theorem dX3_copyTowns_2 : decode cX3_copyTowns 2 = .ok (.aload_n 1, 1) := by decide +kernel
theorem dX3_copyTowns_3 : decode cX3_copyTowns 3 = .ok (.iconst 0, 1) := by decide +kernel
theorem dX3_copyTowns_4 : decode cX3_copyTowns 4 = .ok (.bipush 6, 2) := by decide +kernel
theorem dX3_copyTowns_6 : decode cX3_copyTowns 6 = .ok (.invokestatic 71, 3) := by decide +kernel
theorem dX3_copyTowns_9 : decode cX3_copyTowns 9 = .ok (.return_, 1) := by decide +kernel
theorem dX3_copyBells_0 : decode cX3_copyBells 0 = .ok (.aload_n 0, 1) := by decide +kernel
theorem dX3_copyBells_1 : decode cX3_copyBells 1 = .ok (.iconst 0, 1) := by decide +kernel
theorem dX3_copyBells_2 : decode cX3_copyBells 2 = .ok (.aload_n 1, 1) := by decide +kernel
theorem dX3_copyBells_3 : decode cX3_copyBells 3 = .ok (.iconst 0, 1) := by decide +kernel
theorem dX3_copyBells_4 : decode cX3_copyBells 4 = .ok (.bipush 30, 2) := by decide +kernel
theorem dX3_copyBells_6 : decode cX3_copyBells 6 = .ok (.invokestatic 71, 3) := by decide +kernel
theorem dX3_copyBells_9 : decode cX3_copyBells 9 = .ok (.return_, 1) := by decide +kernel
theorem dX3_hasBell_0 : decode cX3_hasBell 0 = .ok (.iload_n 1, 1) := by decide +kernel
theorem dX3_hasBell_1 : decode cX3_hasBell 1 = .ok (.invokestatic 77, 3) := by decide +kernel
theorem dX3_hasBell_4 : decode cX3_hasBell 4 = .ok (.ifCond .eq 21, 3) := by decide +kernel
theorem dX3_hasBell_7 : decode cX3_hasBell 7 = .ok (.iload_n 2, 1) := by decide +kernel
theorem dX3_hasBell_8 : decode cX3_hasBell 8 = .ok (.ifCond .lt 17, 3) := by decide +kernel
theorem dX3_hasBell_11 : decode cX3_hasBell 11 = .ok (.iload_n 2, 1) := by decide +kernel
theorem dX3_hasBell_12 : decode cX3_hasBell 12 = .ok (.aload_n 0, 1) := by decide +kernel
theorem dX3_hasBell_13 : decode cX3_hasBell 13 = .ok (.getfield 21, 3) := by decide +kernel
theorem dX3_hasBell_16 : decode cX3_hasBell 16 = .ok (.iload_n 1, 1) := by decide +kernel
theorem dX3_hasBell_17 : decode cX3_hasBell 17 = .ok (.iaload, 1) := by decide +kernel
theorem dX3_hasBell_18 : decode cX3_hasBell 18 = .ok (.if_icmp .ge 7, 3) := by decide +kernel
theorem dX3_hasBell_21 : decode cX3_hasBell 21 = .ok (.iconst 1, 1) := by decide +kernel
theorem dX3_hasBell_22 : decode cX3_hasBell 22 = .ok (.goto 4, 3) := by decide +kernel
theorem dX3_hasBell_25 : decode cX3_hasBell 25 = .ok (.iconst 0, 1) := by decide +kernel
theorem dX3_hasBell_26 : decode cX3_hasBell 26 = .ok (.ireturn, 1) := by decide +kernel
theorem dX3_everyBell_0 : decode cX3_everyBell 0 = .ok (.iconst 1, 1) := by decide +kernel
theorem dX3_everyBell_1 : decode cX3_everyBell 1 = .ok (.aload_n 0, 1) := by decide +kernel
theorem dX3_everyBell_2 : decode cX3_everyBell 2 = .ok (.getfield 21, 3) := by decide +kernel
theorem dX3_everyBell_5 : decode cX3_everyBell 5 = .ok (.iload_n 1, 1) := by decide +kernel
theorem dX3_everyBell_6 : decode cX3_everyBell 6 = .ok (.iaload, 1) := by decide +kernel
theorem dX3_everyBell_7 : decode cX3_everyBell 7 = .ok (.ishl, 1) := by decide +kernel
theorem dX3_everyBell_8 : decode cX3_everyBell 8 = .ok (.iconst 1, 1) := by decide +kernel
theorem dX3_everyBell_9 : decode cX3_everyBell 9 = .ok (.isub, 1) := by decide +kernel
theorem dX3_everyBell_10 : decode cX3_everyBell 10 = .ok (.ireturn, 1) := by decide +kernel
theorem dX3_rested_0 : decode cX3_rested 0 = .ok (.aload_n 0, 1) := by decide +kernel
theorem dX3_rested_1 : decode cX3_rested 1 = .ok (.getfield 15, 3) := by decide +kernel
theorem dX3_rested_4 : decode cX3_rested 4 = .ok (.iload_n 1, 1) := by decide +kernel
theorem dX3_rested_5 : decode cX3_rested 5 = .ok (.iaload, 1) := by decide +kernel
theorem dX3_rested_6 : decode cX3_rested 6 = .ok (.aload_n 0, 1) := by decide +kernel
theorem dX3_rested_7 : decode cX3_rested 7 = .ok (.getfield 18, 3) := by decide +kernel
theorem dX3_rested_10 : decode cX3_rested 10 = .ok (.iload_n 1, 1) := by decide +kernel
theorem dX3_rested_11 : decode cX3_rested 11 = .ok (.iaload, 1) := by decide +kernel
theorem dX3_rested_12 : decode cX3_rested 12 = .ok (.isub, 1) := by decide +kernel
theorem dX3_rested_13 : decode cX3_rested 13 = .ok (.ireturn, 1) := by decide +kernel
theorem dX3_isTakenByAnother_0 : decode cX3_isTakenByAnother 0 = .ok (.iconst 0, 1) := by decide +kernel
theorem dX3_isTakenByAnother_1 : decode cX3_isTakenByAnother 1 = .ok (.istore_n 3, 1) := by decide +kernel
theorem dX3_isTakenByAnother_2 : decode cX3_isTakenByAnother 2 = .ok (.iload_n 3, 1) := by decide +kernel
theorem dX3_isTakenByAnother_3 : decode cX3_isTakenByAnother 3 = .ok (.bipush 6, 2) := by decide +kernel
theorem dX3_isTakenByAnother_5 : decode cX3_isTakenByAnother 5 = .ok (.if_icmp .ge 26, 3) := by decide +kernel
theorem dX3_isTakenByAnother_8 : decode cX3_isTakenByAnother 8 = .ok (.iload_n 3, 1) := by decide +kernel
theorem dX3_isTakenByAnother_9 : decode cX3_isTakenByAnother 9 = .ok (.iload_n 2, 1) := by decide +kernel
theorem dX3_isTakenByAnother_10 : decode cX3_isTakenByAnother 10 = .ok (.if_icmp .eq 15, 3) := by decide +kernel
theorem dX3_isTakenByAnother_13 : decode cX3_isTakenByAnother 13 = .ok (.aload_n 0, 1) := by decide +kernel
theorem dX3_isTakenByAnother_14 : decode cX3_isTakenByAnother 14 = .ok (.getfield 9, 3) := by decide +kernel
theorem dX3_isTakenByAnother_17 : decode cX3_isTakenByAnother 17 = .ok (.iload_n 3, 1) := by decide +kernel
theorem dX3_isTakenByAnother_18 : decode cX3_isTakenByAnother 18 = .ok (.iaload, 1) := by decide +kernel
theorem dX3_isTakenByAnother_19 : decode cX3_isTakenByAnother 19 = .ok (.iload_n 1, 1) := by decide +kernel
theorem dX3_isTakenByAnother_20 : decode cX3_isTakenByAnother 20 = .ok (.if_icmp .ne 5, 3) := by decide +kernel
theorem dX3_isTakenByAnother_23 : decode cX3_isTakenByAnother 23 = .ok (.iconst 1, 1) := by decide +kernel
theorem dX3_isTakenByAnother_24 : decode cX3_isTakenByAnother 24 = .ok (.ireturn, 1) := by decide +kernel
theorem dX3_isTakenByAnother_25 : decode cX3_isTakenByAnother 25 = .ok (.iinc 3 1, 3) := by decide +kernel
theorem dX3_isTakenByAnother_28 : decode cX3_isTakenByAnother 28 = .ok (.goto (-26), 3) := by decide +kernel
theorem dX3_isTakenByAnother_31 : decode cX3_isTakenByAnother 31 = .ok (.iconst 0, 1) := by decide +kernel
theorem dX3_isTakenByAnother_32 : decode cX3_isTakenByAnother 32 = .ok (.ireturn, 1) := by decide +kernel
theorem dX3_addBell_0 : decode cX3_addBell 0 = .ok (.aload_n 0, 1) := by decide +kernel
theorem dX3_addBell_1 : decode cX3_addBell 1 = .ok (.getfield 21, 3) := by decide +kernel
theorem dX3_addBell_4 : decode cX3_addBell 4 = .ok (.iload_n 1, 1) := by decide +kernel
theorem dX3_addBell_5 : decode cX3_addBell 5 = .ok (.iaload, 1) := by decide +kernel
theorem dX3_addBell_6 : decode cX3_addBell 6 = .ok (.istore_n 3, 1) := by decide +kernel
theorem dX3_addBell_7 : decode cX3_addBell 7 = .ok (.aload_n 0, 1) := by decide +kernel
theorem dX3_addBell_8 : decode cX3_addBell 8 = .ok (.iload_n 1, 1) := by decide +kernel
theorem dX3_addBell_9 : decode cX3_addBell 9 = .ok (.iload_n 3, 1) := by decide +kernel
theorem dX3_addBell_10 : decode cX3_addBell 10 = .ok (.invokestatic 81, 3) := by decide +kernel
theorem dX3_addBell_13 : decode cX3_addBell 13 = .ok (.iload_n 2, 1) := by decide +kernel
theorem dX3_addBell_14 : decode cX3_addBell 14 = .ok (.iconst 0, 1) := by decide +kernel
theorem dX3_addBell_15 : decode cX3_addBell 15 = .ok (.iconst 0, 1) := by decide +kernel
theorem dX3_addBell_16 : decode cX3_addBell 16 = .ok (.invokevirtual 85, 3) := by decide +kernel
theorem dX3_addBell_19 : decode cX3_addBell 19 = .ok (.aload_n 0, 1) := by decide +kernel
theorem dX3_addBell_20 : decode cX3_addBell 20 = .ok (.getfield 21, 3) := by decide +kernel
theorem dX3_addBell_23 : decode cX3_addBell 23 = .ok (.iload_n 1, 1) := by decide +kernel
theorem dX3_addBell_24 : decode cX3_addBell 24 = .ok (.iload_n 3, 1) := by decide +kernel
theorem dX3_addBell_25 : decode cX3_addBell 25 = .ok (.iconst 1, 1) := by decide +kernel
theorem dX3_addBell_26 : decode cX3_addBell 26 = .ok (.iadd, 1) := by decide +kernel
theorem dX3_addBell_27 : decode cX3_addBell 27 = .ok (.iastore, 1) := by decide +kernel
theorem dX3_addBell_28 : decode cX3_addBell 28 = .ok (.iload_n 3, 1) := by decide +kernel
theorem dX3_addBell_29 : decode cX3_addBell 29 = .ok (.ireturn, 1) := by decide +kernel
theorem dX3_removeBell_0 : decode cX3_removeBell 0 = .ok (.aload_n 0, 1) := by decide +kernel
theorem dX3_removeBell_1 : decode cX3_removeBell 1 = .ok (.getfield 21, 3) := by decide +kernel
theorem dX3_removeBell_4 : decode cX3_removeBell 4 = .ok (.iload_n 1, 1) := by decide +kernel
theorem dX3_removeBell_5 : decode cX3_removeBell 5 = .ok (.iaload, 1) := by decide +kernel
theorem dX3_removeBell_6 : decode cX3_removeBell 6 = .ok (.iconst 1, 1) := by decide +kernel
theorem dX3_removeBell_7 : decode cX3_removeBell 7 = .ok (.isub, 1) := by decide +kernel
theorem dX3_removeBell_8 : decode cX3_removeBell 8 = .ok (.istore_n 3, 1) := by decide +kernel
theorem dX3_removeBell_9 : decode cX3_removeBell 9 = .ok (.iload_n 2, 1) := by decide +kernel
theorem dX3_removeBell_10 : decode cX3_removeBell 10 = .ok (.iconst 1, 1) := by decide +kernel
theorem dX3_removeBell_11 : decode cX3_removeBell 11 = .ok (.iadd, 1) := by decide +kernel
theorem dX3_removeBell_12 : decode cX3_removeBell 12 = .ok (.istore 4, 2) := by decide +kernel
theorem dX3_removeBell_14 : decode cX3_removeBell 14 = .ok (.iload 4, 2) := by decide +kernel
theorem dX3_removeBell_16 : decode cX3_removeBell 16 = .ok (.iload_n 3, 1) := by decide +kernel
theorem dX3_removeBell_17 : decode cX3_removeBell 17 = .ok (.if_icmp .gt 46, 3) := by decide +kernel
theorem dX3_removeBell_20 : decode cX3_removeBell 20 = .ok (.iload_n 1, 1) := by decide +kernel
theorem dX3_removeBell_21 : decode cX3_removeBell 21 = .ok (.iload 4, 2) := by decide +kernel
theorem dX3_removeBell_23 : decode cX3_removeBell 23 = .ok (.invokestatic 81, 3) := by decide +kernel
theorem dX3_removeBell_26 : decode cX3_removeBell 26 = .ok (.istore 5, 2) := by decide +kernel
theorem dX3_removeBell_28 : decode cX3_removeBell 28 = .ok (.aload_n 0, 1) := by decide +kernel
theorem dX3_removeBell_29 : decode cX3_removeBell 29 = .ok (.iload 5, 2) := by decide +kernel
theorem dX3_removeBell_31 : decode cX3_removeBell 31 = .ok (.iconst 1, 1) := by decide +kernel
theorem dX3_removeBell_32 : decode cX3_removeBell 32 = .ok (.isub, 1) := by decide +kernel
theorem dX3_removeBell_33 : decode cX3_removeBell 33 = .ok (.aload_n 0, 1) := by decide +kernel
theorem dX3_removeBell_34 : decode cX3_removeBell 34 = .ok (.getfield 39, 3) := by decide +kernel
theorem dX3_removeBell_37 : decode cX3_removeBell 37 = .ok (.iload 5, 2) := by decide +kernel
theorem dX3_removeBell_39 : decode cX3_removeBell 39 = .ok (.iaload, 1) := by decide +kernel
theorem dX3_removeBell_40 : decode cX3_removeBell 40 = .ok (.aload_n 0, 1) := by decide +kernel
theorem dX3_removeBell_41 : decode cX3_removeBell 41 = .ok (.getfield 42, 3) := by decide +kernel
theorem dX3_removeBell_44 : decode cX3_removeBell 44 = .ok (.iload 5, 2) := by decide +kernel
theorem dX3_removeBell_46 : decode cX3_removeBell 46 = .ok (.iaload, 1) := by decide +kernel
theorem dX3_removeBell_47 : decode cX3_removeBell 47 = .ok (.aload_n 0, 1) := by decide +kernel
theorem dX3_removeBell_48 : decode cX3_removeBell 48 = .ok (.getfield 45, 3) := by decide +kernel
theorem dX3_removeBell_51 : decode cX3_removeBell 51 = .ok (.iload 5, 2) := by decide +kernel
theorem dX3_removeBell_53 : decode cX3_removeBell 53 = .ok (.iaload, 1) := by decide +kernel
theorem dX3_removeBell_54 : decode cX3_removeBell 54 = .ok (.invokevirtual 85, 3) := by decide +kernel
theorem dX3_removeBell_57 : decode cX3_removeBell 57 = .ok (.iinc 4 1, 3) := by decide +kernel
theorem dX3_removeBell_60 : decode cX3_removeBell 60 = .ok (.goto (-46), 3) := by decide +kernel
theorem dX3_removeBell_63 : decode cX3_removeBell 63 = .ok (.aload_n 0, 1) := by decide +kernel
theorem dX3_removeBell_64 : decode cX3_removeBell 64 = .ok (.iload_n 1, 1) := by decide +kernel
theorem dX3_removeBell_65 : decode cX3_removeBell 65 = .ok (.iload_n 3, 1) := by decide +kernel
theorem dX3_removeBell_66 : decode cX3_removeBell 66 = .ok (.invokestatic 81, 3) := by decide +kernel
theorem dX3_removeBell_69 : decode cX3_removeBell 69 = .ok (.iconst 0, 1) := by decide +kernel
theorem dX3_removeBell_70 : decode cX3_removeBell 70 = .ok (.iconst 0, 1) := by decide +kernel
theorem dX3_removeBell_71 : decode cX3_removeBell 71 = .ok (.iconst 0, 1) := by decide +kernel
theorem dX3_removeBell_72 : decode cX3_removeBell 72 = .ok (.invokevirtual 85, 3) := by decide +kernel
theorem dX3_removeBell_75 : decode cX3_removeBell 75 = .ok (.aload_n 0, 1) := by decide +kernel
theorem dX3_removeBell_76 : decode cX3_removeBell 76 = .ok (.getfield 21, 3) := by decide +kernel
theorem dX3_removeBell_79 : decode cX3_removeBell 79 = .ok (.iload_n 1, 1) := by decide +kernel
theorem dX3_removeBell_80 : decode cX3_removeBell 80 = .ok (.iload_n 3, 1) := by decide +kernel
theorem dX3_removeBell_81 : decode cX3_removeBell 81 = .ok (.iastore, 1) := by decide +kernel
theorem dX3_removeBell_82 : decode cX3_removeBell 82 = .ok (.aload_n 0, 1) := by decide +kernel
theorem dX3_removeBell_83 : decode cX3_removeBell 83 = .ok (.getfield 24, 3) := by decide +kernel
theorem dX3_removeBell_86 : decode cX3_removeBell 86 = .ok (.iload_n 1, 1) := by decide +kernel
theorem dX3_removeBell_87 : decode cX3_removeBell 87 = .ok (.iaload, 1) := by decide +kernel
theorem dX3_removeBell_88 : decode cX3_removeBell 88 = .ok (.iconst 1, 1) := by decide +kernel
theorem dX3_removeBell_89 : decode cX3_removeBell 89 = .ok (.iload_n 2, 1) := by decide +kernel
theorem dX3_removeBell_90 : decode cX3_removeBell 90 = .ok (.ishl, 1) := by decide +kernel
theorem dX3_removeBell_91 : decode cX3_removeBell 91 = .ok (.iconst 1, 1) := by decide +kernel
theorem dX3_removeBell_92 : decode cX3_removeBell 92 = .ok (.isub, 1) := by decide +kernel
theorem dX3_removeBell_93 : decode cX3_removeBell 93 = .ok (.iand, 1) := by decide +kernel
theorem dX3_removeBell_94 : decode cX3_removeBell 94 = .ok (.istore 4, 2) := by decide +kernel
theorem dX3_removeBell_96 : decode cX3_removeBell 96 = .ok (.aload_n 0, 1) := by decide +kernel
theorem dX3_removeBell_97 : decode cX3_removeBell 97 = .ok (.getfield 24, 3) := by decide +kernel
theorem dX3_removeBell_100 : decode cX3_removeBell 100 = .ok (.iload_n 1, 1) := by decide +kernel
theorem dX3_removeBell_101 : decode cX3_removeBell 101 = .ok (.iaload, 1) := by decide +kernel
theorem dX3_removeBell_102 : decode cX3_removeBell 102 = .ok (.iload_n 2, 1) := by decide +kernel
theorem dX3_removeBell_103 : decode cX3_removeBell 103 = .ok (.iconst 1, 1) := by decide +kernel
theorem dX3_removeBell_104 : decode cX3_removeBell 104 = .ok (.iadd, 1) := by decide +kernel
theorem dX3_removeBell_105 : decode cX3_removeBell 105 = .ok (.ishr, 1) := by decide +kernel
theorem dX3_removeBell_106 : decode cX3_removeBell 106 = .ok (.istore 5, 2) := by decide +kernel
theorem dX3_removeBell_108 : decode cX3_removeBell 108 = .ok (.aload_n 0, 1) := by decide +kernel
theorem dX3_removeBell_109 : decode cX3_removeBell 109 = .ok (.getfield 24, 3) := by decide +kernel
theorem dX3_removeBell_112 : decode cX3_removeBell 112 = .ok (.iload_n 1, 1) := by decide +kernel
theorem dX3_removeBell_113 : decode cX3_removeBell 113 = .ok (.iload 4, 2) := by decide +kernel
theorem dX3_removeBell_115 : decode cX3_removeBell 115 = .ok (.iload 5, 2) := by decide +kernel
theorem dX3_removeBell_117 : decode cX3_removeBell 117 = .ok (.iload_n 2, 1) := by decide +kernel
theorem dX3_removeBell_118 : decode cX3_removeBell 118 = .ok (.ishl, 1) := by decide +kernel
theorem dX3_removeBell_119 : decode cX3_removeBell 119 = .ok (.ior, 1) := by decide +kernel
theorem dX3_removeBell_120 : decode cX3_removeBell 120 = .ok (.iastore, 1) := by decide +kernel
theorem dX3_removeBell_121 : decode cX3_removeBell 121 = .ok (.return_, 1) := by decide +kernel
theorem dX3_fillSlot_0 : decode cX3_fillSlot 0 = .ok (.aload_n 0, 1) := by decide +kernel
theorem dX3_fillSlot_1 : decode cX3_fillSlot 1 = .ok (.getfield 39, 3) := by decide +kernel
theorem dX3_fillSlot_4 : decode cX3_fillSlot 4 = .ok (.iload_n 1, 1) := by decide +kernel
theorem dX3_fillSlot_5 : decode cX3_fillSlot 5 = .ok (.iload_n 2, 1) := by decide +kernel
theorem dX3_fillSlot_6 : decode cX3_fillSlot 6 = .ok (.iastore, 1) := by decide +kernel
theorem dX3_fillSlot_7 : decode cX3_fillSlot 7 = .ok (.aload_n 0, 1) := by decide +kernel
theorem dX3_fillSlot_8 : decode cX3_fillSlot 8 = .ok (.getfield 42, 3) := by decide +kernel
theorem dX3_fillSlot_11 : decode cX3_fillSlot 11 = .ok (.iload_n 1, 1) := by decide +kernel
theorem dX3_fillSlot_12 : decode cX3_fillSlot 12 = .ok (.iload_n 3, 1) := by decide +kernel
theorem dX3_fillSlot_13 : decode cX3_fillSlot 13 = .ok (.iastore, 1) := by decide +kernel
theorem dX3_fillSlot_14 : decode cX3_fillSlot 14 = .ok (.aload_n 0, 1) := by decide +kernel
theorem dX3_fillSlot_15 : decode cX3_fillSlot 15 = .ok (.getfield 45, 3) := by decide +kernel
theorem dX3_fillSlot_18 : decode cX3_fillSlot 18 = .ok (.iload_n 1, 1) := by decide +kernel
theorem dX3_fillSlot_19 : decode cX3_fillSlot 19 = .ok (.iload 4, 2) := by decide +kernel
theorem dX3_fillSlot_21 : decode cX3_fillSlot 21 = .ok (.iastore, 1) := by decide +kernel
theorem dX3_fillSlot_22 : decode cX3_fillSlot 22 = .ok (.return_, 1) := by decide +kernel
theorem dX3_wantedBells_0 : decode cX3_wantedBells 0 = .ok (.aload_n 0, 1) := by decide +kernel
theorem dX3_wantedBells_1 : decode cX3_wantedBells 1 = .ok (.getfield 55, 3) := by decide +kernel
theorem dX3_wantedBells_4 : decode cX3_wantedBells 4 = .ok (.bipush 7, 2) := by decide +kernel
theorem dX3_wantedBells_6 : decode cX3_wantedBells 6 = .ok (.irem, 1) := by decide +kernel
theorem dX3_wantedBells_7 : decode cX3_wantedBells 7 = .ok (.aload_n 0, 1) := by decide +kernel
theorem dX3_wantedBells_8 : decode cX3_wantedBells 8 = .ok (.getfield 27, 3) := by decide +kernel
theorem dX3_wantedBells_11 : decode cX3_wantedBells 11 = .ok (.iload_n 1, 1) := by decide +kernel
theorem dX3_wantedBells_12 : decode cX3_wantedBells 12 = .ok (.iaload, 1) := by decide +kernel
theorem dX3_wantedBells_13 : decode cX3_wantedBells 13 = .ok (.if_icmp .ne 11, 3) := by decide +kernel
theorem dX3_wantedBells_16 : decode cX3_wantedBells 16 = .ok (.aload_n 0, 1) := by decide +kernel
theorem dX3_wantedBells_17 : decode cX3_wantedBells 17 = .ok (.iload_n 1, 1) := by decide +kernel
theorem dX3_wantedBells_18 : decode cX3_wantedBells 18 = .ok (.invokevirtual 89, 3) := by decide +kernel
theorem dX3_wantedBells_21 : decode cX3_wantedBells 21 = .ok (.goto 9, 3) := by decide +kernel
theorem dX3_wantedBells_24 : decode cX3_wantedBells 24 = .ok (.aload_n 0, 1) := by decide +kernel
theorem dX3_wantedBells_25 : decode cX3_wantedBells 25 = .ok (.getfield 24, 3) := by decide +kernel
theorem dX3_wantedBells_28 : decode cX3_wantedBells 28 = .ok (.iload_n 1, 1) := by decide +kernel
theorem dX3_wantedBells_29 : decode cX3_wantedBells 29 = .ok (.iaload, 1) := by decide +kernel
theorem dX3_wantedBells_30 : decode cX3_wantedBells 30 = .ok (.ireturn, 1) := by decide +kernel
theorem dX3_allBells_0 : decode cX3_allBells 0 = .ok (.iconst 0, 1) := by decide +kernel
theorem dX3_allBells_1 : decode cX3_allBells 1 = .ok (.istore_n 1, 1) := by decide +kernel
theorem dX3_allBells_2 : decode cX3_allBells 2 = .ok (.iconst 0, 1) := by decide +kernel
theorem dX3_allBells_3 : decode cX3_allBells 3 = .ok (.istore_n 2, 1) := by decide +kernel
theorem dX3_allBells_4 : decode cX3_allBells 4 = .ok (.iload_n 2, 1) := by decide +kernel
theorem dX3_allBells_5 : decode cX3_allBells 5 = .ok (.bipush 6, 2) := by decide +kernel
theorem dX3_allBells_7 : decode cX3_allBells 7 = .ok (.if_icmp .ge 18, 3) := by decide +kernel
theorem dX3_allBells_10 : decode cX3_allBells 10 = .ok (.iload_n 1, 1) := by decide +kernel
theorem dX3_allBells_11 : decode cX3_allBells 11 = .ok (.aload_n 0, 1) := by decide +kernel
theorem dX3_allBells_12 : decode cX3_allBells 12 = .ok (.getfield 21, 3) := by decide +kernel
theorem dX3_allBells_15 : decode cX3_allBells 15 = .ok (.iload_n 2, 1) := by decide +kernel
theorem dX3_allBells_16 : decode cX3_allBells 16 = .ok (.iaload, 1) := by decide +kernel
theorem dX3_allBells_17 : decode cX3_allBells 17 = .ok (.iadd, 1) := by decide +kernel
theorem dX3_allBells_18 : decode cX3_allBells 18 = .ok (.istore_n 1, 1) := by decide +kernel
theorem dX3_allBells_19 : decode cX3_allBells 19 = .ok (.iinc 2 1, 3) := by decide +kernel
theorem dX3_allBells_22 : decode cX3_allBells 22 = .ok (.goto (-18), 3) := by decide +kernel
theorem dX3_allBells_25 : decode cX3_allBells 25 = .ok (.iload_n 1, 1) := by decide +kernel
theorem dX3_allBells_26 : decode cX3_allBells 26 = .ok (.ireturn, 1) := by decide +kernel
theorem dX3_brokenRopes_0 : decode cX3_brokenRopes 0 = .ok (.iconst 0, 1) := by decide +kernel
theorem dX3_brokenRopes_1 : decode cX3_brokenRopes 1 = .ok (.istore_n 1, 1) := by decide +kernel
theorem dX3_brokenRopes_2 : decode cX3_brokenRopes 2 = .ok (.iconst 0, 1) := by decide +kernel
theorem dX3_brokenRopes_3 : decode cX3_brokenRopes 3 = .ok (.istore_n 2, 1) := by decide +kernel
theorem dX3_brokenRopes_4 : decode cX3_brokenRopes 4 = .ok (.iload_n 2, 1) := by decide +kernel
theorem dX3_brokenRopes_5 : decode cX3_brokenRopes 5 = .ok (.bipush 30, 2) := by decide +kernel
theorem dX3_brokenRopes_7 : decode cX3_brokenRopes 7 = .ok (.if_icmp .ge 23, 3) := by decide +kernel
theorem dX3_brokenRopes_10 : decode cX3_brokenRopes 10 = .ok (.aload_n 0, 1) := by decide +kernel
theorem dX3_brokenRopes_11 : decode cX3_brokenRopes 11 = .ok (.getfield 42, 3) := by decide +kernel
theorem dX3_brokenRopes_14 : decode cX3_brokenRopes 14 = .ok (.iload_n 2, 1) := by decide +kernel
theorem dX3_brokenRopes_15 : decode cX3_brokenRopes 15 = .ok (.iaload, 1) := by decide +kernel
theorem dX3_brokenRopes_16 : decode cX3_brokenRopes 16 = .ok (.bipush 6, 2) := by decide +kernel
theorem dX3_brokenRopes_18 : decode cX3_brokenRopes 18 = .ok (.if_icmp .lt 6, 3) := by decide +kernel
theorem dX3_brokenRopes_21 : decode cX3_brokenRopes 21 = .ok (.iinc 1 1, 3) := by decide +kernel
theorem dX3_brokenRopes_24 : decode cX3_brokenRopes 24 = .ok (.iinc 2 1, 3) := by decide +kernel
theorem dX3_brokenRopes_27 : decode cX3_brokenRopes 27 = .ok (.goto (-23), 3) := by decide +kernel
theorem dX3_brokenRopes_30 : decode cX3_brokenRopes 30 = .ok (.iload_n 1, 1) := by decide +kernel
theorem dX3_brokenRopes_31 : decode cX3_brokenRopes 31 = .ok (.ireturn, 1) := by decide +kernel
theorem dX3_silentTowns_0 : decode cX3_silentTowns 0 = .ok (.iconst 0, 1) := by decide +kernel
theorem dX3_silentTowns_1 : decode cX3_silentTowns 1 = .ok (.istore_n 1, 1) := by decide +kernel
theorem dX3_silentTowns_2 : decode cX3_silentTowns 2 = .ok (.iconst 0, 1) := by decide +kernel
theorem dX3_silentTowns_3 : decode cX3_silentTowns 3 = .ok (.istore_n 2, 1) := by decide +kernel
theorem dX3_silentTowns_4 : decode cX3_silentTowns 4 = .ok (.iload_n 2, 1) := by decide +kernel
theorem dX3_silentTowns_5 : decode cX3_silentTowns 5 = .ok (.bipush 6, 2) := by decide +kernel
theorem dX3_silentTowns_7 : decode cX3_silentTowns 7 = .ok (.if_icmp .ge 21, 3) := by decide +kernel
theorem dX3_silentTowns_10 : decode cX3_silentTowns 10 = .ok (.aload_n 0, 1) := by decide +kernel
theorem dX3_silentTowns_11 : decode cX3_silentTowns 11 = .ok (.getfield 30, 3) := by decide +kernel
theorem dX3_silentTowns_14 : decode cX3_silentTowns 14 = .ok (.iload_n 2, 1) := by decide +kernel
theorem dX3_silentTowns_15 : decode cX3_silentTowns 15 = .ok (.iaload, 1) := by decide +kernel
theorem dX3_silentTowns_16 : decode cX3_silentTowns 16 = .ok (.ifCond .le 6, 3) := by decide +kernel
theorem dX3_silentTowns_19 : decode cX3_silentTowns 19 = .ok (.iinc 1 1, 3) := by decide +kernel
theorem dX3_silentTowns_22 : decode cX3_silentTowns 22 = .ok (.iinc 2 1, 3) := by decide +kernel
theorem dX3_silentTowns_25 : decode cX3_silentTowns 25 = .ok (.goto (-21), 3) := by decide +kernel
theorem dX3_silentTowns_28 : decode cX3_silentTowns 28 = .ok (.iload_n 1, 1) := by decide +kernel
theorem dX3_silentTowns_29 : decode cX3_silentTowns 29 = .ok (.ireturn, 1) := by decide +kernel
theorem dX3_allPoints_0 : decode cX3_allPoints 0 = .ok (.iconst 0, 1) := by decide +kernel
theorem dX3_allPoints_1 : decode cX3_allPoints 1 = .ok (.istore_n 1, 1) := by decide +kernel
theorem dX3_allPoints_2 : decode cX3_allPoints 2 = .ok (.iconst 0, 1) := by decide +kernel
theorem dX3_allPoints_3 : decode cX3_allPoints 3 = .ok (.istore_n 2, 1) := by decide +kernel
theorem dX3_allPoints_4 : decode cX3_allPoints 4 = .ok (.iload_n 2, 1) := by decide +kernel
theorem dX3_allPoints_5 : decode cX3_allPoints 5 = .ok (.bipush 6, 2) := by decide +kernel
theorem dX3_allPoints_7 : decode cX3_allPoints 7 = .ok (.if_icmp .ge 18, 3) := by decide +kernel
theorem dX3_allPoints_10 : decode cX3_allPoints 10 = .ok (.iload_n 1, 1) := by decide +kernel
theorem dX3_allPoints_11 : decode cX3_allPoints 11 = .ok (.aload_n 0, 1) := by decide +kernel
theorem dX3_allPoints_12 : decode cX3_allPoints 12 = .ok (.getfield 33, 3) := by decide +kernel
theorem dX3_allPoints_15 : decode cX3_allPoints 15 = .ok (.iload_n 2, 1) := by decide +kernel
theorem dX3_allPoints_16 : decode cX3_allPoints 16 = .ok (.iaload, 1) := by decide +kernel
theorem dX3_allPoints_17 : decode cX3_allPoints 17 = .ok (.iadd, 1) := by decide +kernel
theorem dX3_allPoints_18 : decode cX3_allPoints 18 = .ok (.istore_n 1, 1) := by decide +kernel
theorem dX3_allPoints_19 : decode cX3_allPoints 19 = .ok (.iinc 2 1, 3) := by decide +kernel
theorem dX3_allPoints_22 : decode cX3_allPoints 22 = .ok (.goto (-18), 3) := by decide +kernel
theorem dX3_allPoints_25 : decode cX3_allPoints 25 = .ok (.iload_n 1, 1) := by decide +kernel
theorem dX3_allPoints_26 : decode cX3_allPoints 26 = .ok (.ireturn, 1) := by decide +kernel
theorem dX3_pass_0 : decode cX3_pass 0 = .ok (.aload_n 0, 1) := by decide +kernel
theorem dX3_pass_1 : decode cX3_pass 1 = .ok (.aload_n 1, 1) := by decide +kernel
theorem dX3_pass_2 : decode cX3_pass 2 = .ok (.invokevirtual 93, 3) := by decide +kernel
theorem dX3_pass_5 : decode cX3_pass 5 = .ok (.aload_n 0, 1) := by decide +kernel
theorem dX3_pass_6 : decode cX3_pass 6 = .ok (.aload_n 1, 1) := by decide +kernel
theorem dX3_pass_7 : decode cX3_pass 7 = .ok (.invokevirtual 97, 3) := by decide +kernel
theorem dX3_pass_10 : decode cX3_pass 10 = .ok (.aload_n 0, 1) := by decide +kernel
theorem dX3_pass_11 : decode cX3_pass 11 = .ok (.aload_n 1, 1) := by decide +kernel
theorem dX3_pass_12 : decode cX3_pass 12 = .ok (.invokevirtual 100, 3) := by decide +kernel
theorem dX3_pass_15 : decode cX3_pass 15 = .ok (.aload_n 0, 1) := by decide +kernel
theorem dX3_pass_16 : decode cX3_pass 16 = .ok (.aload_n 1, 1) := by decide +kernel
theorem dX3_pass_17 : decode cX3_pass 17 = .ok (.getfield 103, 3) := by decide +kernel
theorem dX3_pass_20 : decode cX3_pass 20 = .ok (.invokevirtual 108, 3) := by decide +kernel
theorem dX3_pass_23 : decode cX3_pass 23 = .ok (.aload_n 0, 1) := by decide +kernel
theorem dX3_pass_24 : decode cX3_pass 24 = .ok (.dup, 1) := by decide +kernel
theorem dX3_pass_25 : decode cX3_pass 25 = .ok (.getfield 55, 3) := by decide +kernel
theorem dX3_pass_28 : decode cX3_pass 28 = .ok (.iconst 1, 1) := by decide +kernel
theorem dX3_pass_29 : decode cX3_pass 29 = .ok (.iadd, 1) := by decide +kernel
theorem dX3_pass_30 : decode cX3_pass 30 = .ok (.putfield 55, 3) := by decide +kernel
theorem dX3_pass_33 : decode cX3_pass 33 = .ok (.return_, 1) := by decide +kernel
theorem dX3_givePoints_0 : decode cX3_givePoints 0 = .ok (.iconst 0, 1) := by decide +kernel
theorem dX3_givePoints_1 : decode cX3_givePoints 1 = .ok (.istore_n 2, 1) := by decide +kernel
theorem dX3_givePoints_2 : decode cX3_givePoints 2 = .ok (.iload_n 2, 1) := by decide +kernel
theorem dX3_givePoints_3 : decode cX3_givePoints 3 = .ok (.bipush 6, 2) := by decide +kernel
theorem dX3_givePoints_5 : decode cX3_givePoints 5 = .ok (.if_icmp .ge 33, 3) := by decide +kernel
theorem dX3_givePoints_8 : decode cX3_givePoints 8 = .ok (.aload_n 1, 1) := by decide +kernel
theorem dX3_givePoints_9 : decode cX3_givePoints 9 = .ok (.getfield 112, 3) := by decide +kernel
theorem dX3_givePoints_12 : decode cX3_givePoints 12 = .ok (.iload_n 2, 1) := by decide +kernel
theorem dX3_givePoints_13 : decode cX3_givePoints 13 = .ok (.iaload, 1) := by decide +kernel
theorem dX3_givePoints_14 : decode cX3_givePoints 14 = .ok (.istore_n 3, 1) := by decide +kernel
theorem dX3_givePoints_15 : decode cX3_givePoints 15 = .ok (.iload_n 3, 1) := by decide +kernel
theorem dX3_givePoints_16 : decode cX3_givePoints 16 = .ok (.invokestatic 77, 3) := by decide +kernel
theorem dX3_givePoints_19 : decode cX3_givePoints 19 = .ok (.ifCond .eq 13, 3) := by decide +kernel
theorem dX3_givePoints_22 : decode cX3_givePoints 22 = .ok (.aload_n 0, 1) := by decide +kernel
theorem dX3_givePoints_23 : decode cX3_givePoints 23 = .ok (.getfield 33, 3) := by decide +kernel
theorem dX3_givePoints_26 : decode cX3_givePoints 26 = .ok (.iload_n 3, 1) := by decide +kernel
theorem dX3_givePoints_27 : decode cX3_givePoints 27 = .ok (.dup2, 1) := by decide +kernel
theorem dX3_givePoints_28 : decode cX3_givePoints 28 = .ok (.iaload, 1) := by decide +kernel
theorem dX3_givePoints_29 : decode cX3_givePoints 29 = .ok (.iconst 1, 1) := by decide +kernel
theorem dX3_givePoints_30 : decode cX3_givePoints 30 = .ok (.iadd, 1) := by decide +kernel
theorem dX3_givePoints_31 : decode cX3_givePoints 31 = .ok (.iastore, 1) := by decide +kernel
theorem dX3_givePoints_32 : decode cX3_givePoints 32 = .ok (.iinc 2 1, 3) := by decide +kernel
theorem dX3_givePoints_35 : decode cX3_givePoints 35 = .ok (.goto (-33), 3) := by decide +kernel
theorem dX3_givePoints_38 : decode cX3_givePoints 38 = .ok (.return_, 1) := by decide +kernel
theorem dX3_wearRopes_0 : decode cX3_wearRopes 0 = .ok (.iconst 0, 1) := by decide +kernel
theorem dX3_wearRopes_1 : decode cX3_wearRopes 1 = .ok (.istore_n 2, 1) := by decide +kernel
theorem dX3_wearRopes_2 : decode cX3_wearRopes 2 = .ok (.iload_n 2, 1) := by decide +kernel
theorem dX3_wearRopes_3 : decode cX3_wearRopes 3 = .ok (.bipush 30, 2) := by decide +kernel
theorem dX3_wearRopes_5 : decode cX3_wearRopes 5 = .ok (.if_icmp .ge 38, 3) := by decide +kernel
theorem dX3_wearRopes_8 : decode cX3_wearRopes 8 = .ok (.aload_n 1, 1) := by decide +kernel
theorem dX3_wearRopes_9 : decode cX3_wearRopes 9 = .ok (.getfield 115, 3) := by decide +kernel
theorem dX3_wearRopes_12 : decode cX3_wearRopes 12 = .ok (.iload_n 2, 1) := by decide +kernel
theorem dX3_wearRopes_13 : decode cX3_wearRopes 13 = .ok (.iaload, 1) := by decide +kernel
theorem dX3_wearRopes_14 : decode cX3_wearRopes 14 = .ok (.ifCond .ne 23, 3) := by decide +kernel
theorem dX3_wearRopes_17 : decode cX3_wearRopes 17 = .ok (.aload_n 0, 1) := by decide +kernel
theorem dX3_wearRopes_18 : decode cX3_wearRopes 18 = .ok (.getfield 42, 3) := by decide +kernel
theorem dX3_wearRopes_21 : decode cX3_wearRopes 21 = .ok (.iload_n 2, 1) := by decide +kernel
theorem dX3_wearRopes_22 : decode cX3_wearRopes 22 = .ok (.dup2, 1) := by decide +kernel
theorem dX3_wearRopes_23 : decode cX3_wearRopes 23 = .ok (.iaload, 1) := by decide +kernel
theorem dX3_wearRopes_24 : decode cX3_wearRopes 24 = .ok (.iconst 1, 1) := by decide +kernel
theorem dX3_wearRopes_25 : decode cX3_wearRopes 25 = .ok (.iadd, 1) := by decide +kernel
theorem dX3_wearRopes_26 : decode cX3_wearRopes 26 = .ok (.iastore, 1) := by decide +kernel
theorem dX3_wearRopes_27 : decode cX3_wearRopes 27 = .ok (.aload_n 0, 1) := by decide +kernel
theorem dX3_wearRopes_28 : decode cX3_wearRopes 28 = .ok (.getfield 45, 3) := by decide +kernel
theorem dX3_wearRopes_31 : decode cX3_wearRopes 31 = .ok (.iload_n 2, 1) := by decide +kernel
theorem dX3_wearRopes_32 : decode cX3_wearRopes 32 = .ok (.dup2, 1) := by decide +kernel
theorem dX3_wearRopes_33 : decode cX3_wearRopes 33 = .ok (.iaload, 1) := by decide +kernel
theorem dX3_wearRopes_34 : decode cX3_wearRopes 34 = .ok (.iconst 1, 1) := by decide +kernel
theorem dX3_wearRopes_35 : decode cX3_wearRopes 35 = .ok (.iadd, 1) := by decide +kernel
theorem dX3_wearRopes_36 : decode cX3_wearRopes 36 = .ok (.iastore, 1) := by decide +kernel
theorem dX3_wearRopes_37 : decode cX3_wearRopes 37 = .ok (.iinc 2 1, 3) := by decide +kernel
theorem dX3_wearRopes_40 : decode cX3_wearRopes 40 = .ok (.goto (-38), 3) := by decide +kernel
theorem dX3_wearRopes_43 : decode cX3_wearRopes 43 = .ok (.return_, 1) := by decide +kernel
theorem dX3_tireRingers_0 : decode cX3_tireRingers 0 = .ok (.iconst 0, 1) := by decide +kernel
theorem dX3_tireRingers_1 : decode cX3_tireRingers 1 = .ok (.istore_n 2, 1) := by decide +kernel
theorem dX3_tireRingers_2 : decode cX3_tireRingers 2 = .ok (.iload_n 2, 1) := by decide +kernel
theorem dX3_tireRingers_3 : decode cX3_tireRingers 3 = .ok (.bipush 6, 2) := by decide +kernel
theorem dX3_tireRingers_5 : decode cX3_tireRingers 5 = .ok (.if_icmp .ge 23, 3) := by decide +kernel
theorem dX3_tireRingers_8 : decode cX3_tireRingers 8 = .ok (.aload_n 0, 1) := by decide +kernel
theorem dX3_tireRingers_9 : decode cX3_tireRingers 9 = .ok (.getfield 18, 3) := by decide +kernel
theorem dX3_tireRingers_12 : decode cX3_tireRingers 12 = .ok (.iload_n 2, 1) := by decide +kernel
theorem dX3_tireRingers_13 : decode cX3_tireRingers 13 = .ok (.aload_n 1, 1) := by decide +kernel
theorem dX3_tireRingers_14 : decode cX3_tireRingers 14 = .ok (.getfield 118, 3) := by decide +kernel
theorem dX3_tireRingers_17 : decode cX3_tireRingers 17 = .ok (.iload_n 2, 1) := by decide +kernel
theorem dX3_tireRingers_18 : decode cX3_tireRingers 18 = .ok (.iaload, 1) := by decide +kernel
theorem dX3_tireRingers_19 : decode cX3_tireRingers 19 = .ok (.iconst 2, 1) := by decide +kernel
theorem dX3_tireRingers_20 : decode cX3_tireRingers 20 = .ok (.idiv, 1) := by decide +kernel
theorem dX3_tireRingers_21 : decode cX3_tireRingers 21 = .ok (.iastore, 1) := by decide +kernel
theorem dX3_tireRingers_22 : decode cX3_tireRingers 22 = .ok (.iinc 2 1, 3) := by decide +kernel
theorem dX3_tireRingers_25 : decode cX3_tireRingers 25 = .ok (.goto (-23), 3) := by decide +kernel
theorem dX3_tireRingers_28 : decode cX3_tireRingers 28 = .ok (.return_, 1) := by decide +kernel
theorem dX3_fallSilent_0 : decode cX3_fallSilent 0 = .ok (.iconst 0, 1) := by decide +kernel
theorem dX3_fallSilent_1 : decode cX3_fallSilent 1 = .ok (.istore_n 2, 1) := by decide +kernel
theorem dX3_fallSilent_2 : decode cX3_fallSilent 2 = .ok (.iload_n 2, 1) := by decide +kernel
theorem dX3_fallSilent_3 : decode cX3_fallSilent 3 = .ok (.bipush 6, 2) := by decide +kernel
theorem dX3_fallSilent_5 : decode cX3_fallSilent 5 = .ok (.if_icmp .ge 28, 3) := by decide +kernel
theorem dX3_fallSilent_8 : decode cX3_fallSilent 8 = .ok (.aload_n 0, 1) := by decide +kernel
theorem dX3_fallSilent_9 : decode cX3_fallSilent 9 = .ok (.getfield 30, 3) := by decide +kernel
theorem dX3_fallSilent_12 : decode cX3_fallSilent 12 = .ok (.iload_n 2, 1) := by decide +kernel
theorem dX3_fallSilent_13 : decode cX3_fallSilent 13 = .ok (.iaload, 1) := by decide +kernel
theorem dX3_fallSilent_14 : decode cX3_fallSilent 14 = .ok (.ifCond .le 13, 3) := by decide +kernel
theorem dX3_fallSilent_17 : decode cX3_fallSilent 17 = .ok (.aload_n 0, 1) := by decide +kernel
theorem dX3_fallSilent_18 : decode cX3_fallSilent 18 = .ok (.getfield 30, 3) := by decide +kernel
theorem dX3_fallSilent_21 : decode cX3_fallSilent 21 = .ok (.iload_n 2, 1) := by decide +kernel
theorem dX3_fallSilent_22 : decode cX3_fallSilent 22 = .ok (.dup2, 1) := by decide +kernel
theorem dX3_fallSilent_23 : decode cX3_fallSilent 23 = .ok (.iaload, 1) := by decide +kernel
theorem dX3_fallSilent_24 : decode cX3_fallSilent 24 = .ok (.iconst 1, 1) := by decide +kernel
theorem dX3_fallSilent_25 : decode cX3_fallSilent 25 = .ok (.isub, 1) := by decide +kernel
theorem dX3_fallSilent_26 : decode cX3_fallSilent 26 = .ok (.iastore, 1) := by decide +kernel
theorem dX3_fallSilent_27 : decode cX3_fallSilent 27 = .ok (.iinc 2 1, 3) := by decide +kernel
theorem dX3_fallSilent_30 : decode cX3_fallSilent 30 = .ok (.goto (-28), 3) := by decide +kernel
theorem dX3_fallSilent_33 : decode cX3_fallSilent 33 = .ok (.aload_n 0, 1) := by decide +kernel
theorem dX3_fallSilent_34 : decode cX3_fallSilent 34 = .ok (.iload_n 1, 1) := by decide +kernel
theorem dX3_fallSilent_35 : decode cX3_fallSilent 35 = .ok (.putfield 61, 3) := by decide +kernel
theorem dX3_fallSilent_38 : decode cX3_fallSilent 38 = .ok (.iload_n 1, 1) := by decide +kernel
theorem dX3_fallSilent_39 : decode cX3_fallSilent 39 = .ok (.invokestatic 77, 3) := by decide +kernel
theorem dX3_fallSilent_42 : decode cX3_fallSilent 42 = .ok (.ifCond .eq 26, 3) := by decide +kernel
theorem dX3_fallSilent_45 : decode cX3_fallSilent 45 = .ok (.aload_n 0, 1) := by decide +kernel
theorem dX3_fallSilent_46 : decode cX3_fallSilent 46 = .ok (.getfield 30, 3) := by decide +kernel
theorem dX3_fallSilent_49 : decode cX3_fallSilent 49 = .ok (.iload_n 1, 1) := by decide +kernel
theorem dX3_fallSilent_50 : decode cX3_fallSilent 50 = .ok (.aload_n 0, 1) := by decide +kernel
theorem dX3_fallSilent_51 : decode cX3_fallSilent 51 = .ok (.getfield 52, 3) := by decide +kernel
theorem dX3_fallSilent_54 : decode cX3_fallSilent 54 = .ok (.iastore, 1) := by decide +kernel
theorem dX3_fallSilent_55 : decode cX3_fallSilent 55 = .ok (.aload_n 0, 1) := by decide +kernel
theorem dX3_fallSilent_56 : decode cX3_fallSilent 56 = .ok (.getfield 36, 3) := by decide +kernel
theorem dX3_fallSilent_59 : decode cX3_fallSilent 59 = .ok (.iload_n 1, 1) := by decide +kernel
theorem dX3_fallSilent_60 : decode cX3_fallSilent 60 = .ok (.dup2, 1) := by decide +kernel
theorem dX3_fallSilent_61 : decode cX3_fallSilent 61 = .ok (.iaload, 1) := by decide +kernel
theorem dX3_fallSilent_62 : decode cX3_fallSilent 62 = .ok (.iconst 1, 1) := by decide +kernel
theorem dX3_fallSilent_63 : decode cX3_fallSilent 63 = .ok (.iadd, 1) := by decide +kernel
theorem dX3_fallSilent_64 : decode cX3_fallSilent 64 = .ok (.iastore, 1) := by decide +kernel
theorem dX3_fallSilent_65 : decode cX3_fallSilent 65 = .ok (.goto 13, 3) := by decide +kernel
theorem dX3_fallSilent_68 : decode cX3_fallSilent 68 = .ok (.aload_n 0, 1) := by decide +kernel
theorem dX3_fallSilent_69 : decode cX3_fallSilent 69 = .ok (.dup, 1) := by decide +kernel
theorem dX3_fallSilent_70 : decode cX3_fallSilent 70 = .ok (.getfield 58, 3) := by decide +kernel
theorem dX3_fallSilent_73 : decode cX3_fallSilent 73 = .ok (.iconst 1, 1) := by decide +kernel
theorem dX3_fallSilent_74 : decode cX3_fallSilent 74 = .ok (.iadd, 1) := by decide +kernel
theorem dX3_fallSilent_75 : decode cX3_fallSilent 75 = .ok (.putfield 58, 3) := by decide +kernel
theorem dX3_fallSilent_78 : decode cX3_fallSilent 78 = .ok (.return_, 1) := by decide +kernel
theorem dX4_init_0 : decode cX4_init 0 = .ok (.aload_n 0, 1) := by decide +kernel
theorem dX4_init_1 : decode cX4_init 1 = .ok (.invokespecial 1, 3) := by decide +kernel
theorem dX4_init_4 : decode cX4_init 4 = .ok (.aload_n 0, 1) := by decide +kernel
theorem dX4_init_5 : decode cX4_init 5 = .ok (.new 7, 3) := by decide +kernel
theorem dX4_init_8 : decode cX4_init 8 = .ok (.dup, 1) := by decide +kernel
theorem dX4_init_9 : decode cX4_init 9 = .ok (.invokespecial 9, 3) := by decide +kernel
theorem dX4_init_12 : decode cX4_init 12 = .ok (.putfield 10, 3) := by decide +kernel
theorem dX4_init_15 : decode cX4_init 15 = .ok (.aload_n 0, 1) := by decide +kernel
theorem dX4_init_16 : decode cX4_init 16 = .ok (.new 7, 3) := by decide +kernel
theorem dX4_init_19 : decode cX4_init 19 = .ok (.dup, 1) := by decide +kernel
theorem dX4_init_20 : decode cX4_init 20 = .ok (.invokespecial 9, 3) := by decide +kernel
theorem dX4_init_23 : decode cX4_init 23 = .ok (.putfield 16, 3) := by decide +kernel
theorem dX4_init_26 : decode cX4_init 26 = .ok (.aload_n 0, 1) := by decide +kernel
theorem dX4_init_27 : decode cX4_init 27 = .ok (.new 7, 3) := by decide +kernel
theorem dX4_init_30 : decode cX4_init 30 = .ok (.dup, 1) := by decide +kernel
theorem dX4_init_31 : decode cX4_init 31 = .ok (.invokespecial 9, 3) := by decide +kernel
theorem dX4_init_34 : decode cX4_init 34 = .ok (.putfield 19, 3) := by decide +kernel
theorem dX4_init_37 : decode cX4_init 37 = .ok (.aload_n 0, 1) := by decide +kernel
theorem dX4_init_38 : decode cX4_init 38 = .ok (.iconst 0, 1) := by decide +kernel
theorem dX4_init_39 : decode cX4_init 39 = .ok (.putfield 22, 3) := by decide +kernel
theorem dX4_init_42 : decode cX4_init 42 = .ok (.aload_n 0, 1) := by decide +kernel
theorem dX4_init_43 : decode cX4_init 43 = .ok (.new 26, 3) := by decide +kernel
theorem dX4_init_46 : decode cX4_init 46 = .ok (.dup, 1) := by decide +kernel
theorem dX4_init_47 : decode cX4_init 47 = .ok (.invokespecial 28, 3) := by decide +kernel
theorem dX4_init_50 : decode cX4_init 50 = .ok (.putfield 29, 3) := by decide +kernel
theorem dX4_init_53 : decode cX4_init 53 = .ok (.aload_n 0, 1) := by decide +kernel
theorem dX4_init_54 : decode cX4_init 54 = .ok (.new 33, 3) := by decide +kernel
theorem dX4_init_57 : decode cX4_init 57 = .ok (.dup, 1) := by decide +kernel
theorem dX4_init_58 : decode cX4_init 58 = .ok (.invokespecial 35, 3) := by decide +kernel
theorem dX4_init_61 : decode cX4_init 61 = .ok (.putfield 36, 3) := by decide +kernel
theorem dX4_init_64 : decode cX4_init 64 = .ok (.aload_n 0, 1) := by decide +kernel
theorem dX4_init_65 : decode cX4_init 65 = .ok (.new 40, 3) := by decide +kernel
theorem dX4_init_68 : decode cX4_init 68 = .ok (.dup, 1) := by decide +kernel
theorem dX4_init_69 : decode cX4_init 69 = .ok (.invokespecial 42, 3) := by decide +kernel
theorem dX4_init_72 : decode cX4_init 72 = .ok (.putfield 43, 3) := by decide +kernel
theorem dX4_init_75 : decode cX4_init 75 = .ok (.return_, 1) := by decide +kernel
theorem dX4_hang_0 : decode cX4_hang 0 = .ok (.iload_n 1, 1) := by decide +kernel
theorem dX4_hang_1 : decode cX4_hang 1 = .ok (.invokestatic 47, 3) := by decide +kernel
theorem dX4_hang_4 : decode cX4_hang 4 = .ok (.ifCond .ne 5, 3) := by decide +kernel
theorem dX4_hang_7 : decode cX4_hang 7 = .ok (.iconst (-1), 1) := by decide +kernel
theorem dX4_hang_8 : decode cX4_hang 8 = .ok (.ireturn, 1) := by decide +kernel
theorem dX4_hang_9 : decode cX4_hang 9 = .ok (.iload_n 2, 1) := by decide +kernel
theorem dX4_hang_10 : decode cX4_hang 10 = .ok (.iconst 1, 1) := by decide +kernel
theorem dX4_hang_11 : decode cX4_hang 11 = .ok (.if_icmp .lt 9, 3) := by decide +kernel
theorem dX4_hang_14 : decode cX4_hang 14 = .ok (.iload_n 2, 1) := by decide +kernel
theorem dX4_hang_15 : decode cX4_hang 15 = .ok (.bipush 9, 2) := by decide +kernel
theorem dX4_hang_17 : decode cX4_hang 17 = .ok (.if_icmp .le 6, 3) := by decide +kernel
theorem dX4_hang_20 : decode cX4_hang 20 = .ok (.bipush (-2), 2) := by decide +kernel
theorem dX4_hang_22 : decode cX4_hang 22 = .ok (.ireturn, 1) := by decide +kernel
theorem dX4_hang_23 : decode cX4_hang 23 = .ok (.aload_n 0, 1) := by decide +kernel
theorem dX4_hang_24 : decode cX4_hang 24 = .ok (.getfield 10, 3) := by decide +kernel
theorem dX4_hang_27 : decode cX4_hang 27 = .ok (.getfield 51, 3) := by decide +kernel
theorem dX4_hang_30 : decode cX4_hang 30 = .ok (.iload_n 1, 1) := by decide +kernel
theorem dX4_hang_31 : decode cX4_hang 31 = .ok (.iaload, 1) := by decide +kernel
theorem dX4_hang_32 : decode cX4_hang 32 = .ok (.iconst 5, 1) := by decide +kernel
theorem dX4_hang_33 : decode cX4_hang 33 = .ok (.if_icmp .lt 6, 3) := by decide +kernel
theorem dX4_hang_36 : decode cX4_hang 36 = .ok (.bipush (-3), 2) := by decide +kernel
theorem dX4_hang_38 : decode cX4_hang 38 = .ok (.ireturn, 1) := by decide +kernel
theorem dX4_hang_39 : decode cX4_hang 39 = .ok (.aload_n 0, 1) := by decide +kernel
theorem dX4_hang_40 : decode cX4_hang 40 = .ok (.getfield 29, 3) := by decide +kernel
theorem dX4_hang_43 : decode cX4_hang 43 = .ok (.aload_n 0, 1) := by decide +kernel
theorem dX4_hang_44 : decode cX4_hang 44 = .ok (.getfield 10, 3) := by decide +kernel
theorem dX4_hang_47 : decode cX4_hang 47 = .ok (.invokevirtual 55, 3) := by decide +kernel
theorem dX4_hang_50 : decode cX4_hang 50 = .ok (.aload_n 0, 1) := by decide +kernel
theorem dX4_hang_51 : decode cX4_hang 51 = .ok (.getfield 10, 3) := by decide +kernel
theorem dX4_hang_54 : decode cX4_hang 54 = .ok (.iload_n 1, 1) := by decide +kernel
theorem dX4_hang_55 : decode cX4_hang 55 = .ok (.iload_n 2, 1) := by decide +kernel
theorem dX4_hang_56 : decode cX4_hang 56 = .ok (.invokevirtual 59, 3) := by decide +kernel
theorem dX4_hang_59 : decode cX4_hang 59 = .ok (.ireturn, 1) := by decide +kernel
theorem dX4_melt_0 : decode cX4_melt 0 = .ok (.aload_n 0, 1) := by decide +kernel
theorem dX4_melt_1 : decode cX4_melt 1 = .ok (.getfield 10, 3) := by decide +kernel
theorem dX4_melt_4 : decode cX4_melt 4 = .ok (.iload_n 1, 1) := by decide +kernel
theorem dX4_melt_5 : decode cX4_melt 5 = .ok (.iload_n 2, 1) := by decide +kernel
theorem dX4_melt_6 : decode cX4_melt 6 = .ok (.invokevirtual 63, 3) := by decide +kernel
theorem dX4_melt_9 : decode cX4_melt 9 = .ok (.ifCond .ne 5, 3) := by decide +kernel
theorem dX4_melt_12 : decode cX4_melt 12 = .ok (.iconst (-1), 1) := by decide +kernel
theorem dX4_melt_13 : decode cX4_melt 13 = .ok (.ireturn, 1) := by decide +kernel
theorem dX4_melt_14 : decode cX4_melt 14 = .ok (.aload_n 0, 1) := by decide +kernel
theorem dX4_melt_15 : decode cX4_melt 15 = .ok (.getfield 29, 3) := by decide +kernel
theorem dX4_melt_18 : decode cX4_melt 18 = .ok (.aload_n 0, 1) := by decide +kernel
theorem dX4_melt_19 : decode cX4_melt 19 = .ok (.getfield 10, 3) := by decide +kernel
theorem dX4_melt_22 : decode cX4_melt 22 = .ok (.invokevirtual 55, 3) := by decide +kernel
theorem dX4_melt_25 : decode cX4_melt 25 = .ok (.aload_n 0, 1) := by decide +kernel
theorem dX4_melt_26 : decode cX4_melt 26 = .ok (.getfield 10, 3) := by decide +kernel
theorem dX4_melt_29 : decode cX4_melt 29 = .ok (.getfield 67, 3) := by decide +kernel
theorem dX4_melt_32 : decode cX4_melt 32 = .ok (.iload_n 1, 1) := by decide +kernel
theorem dX4_melt_33 : decode cX4_melt 33 = .ok (.iload_n 2, 1) := by decide +kernel
theorem dX4_melt_34 : decode cX4_melt 34 = .ok (.invokestatic 70, 3) := by decide +kernel
theorem dX4_melt_37 : decode cX4_melt 37 = .ok (.iaload, 1) := by decide +kernel
theorem dX4_melt_38 : decode cX4_melt 38 = .ok (.istore_n 3, 1) := by decide +kernel
theorem dX4_melt_39 : decode cX4_melt 39 = .ok (.aload_n 0, 1) := by decide +kernel
theorem dX4_melt_40 : decode cX4_melt 40 = .ok (.getfield 10, 3) := by decide +kernel
theorem dX4_melt_43 : decode cX4_melt 43 = .ok (.iload_n 1, 1) := by decide +kernel
theorem dX4_melt_44 : decode cX4_melt 44 = .ok (.iload_n 2, 1) := by decide +kernel
theorem dX4_melt_45 : decode cX4_melt 45 = .ok (.invokevirtual 73, 3) := by decide +kernel
theorem dX4_melt_48 : decode cX4_melt 48 = .ok (.iload_n 3, 1) := by decide +kernel
theorem dX4_melt_49 : decode cX4_melt 49 = .ok (.ireturn, 1) := by decide +kernel
theorem dX4_settle_0 : decode cX4_settle 0 = .ok (.iload_n 1, 1) := by decide +kernel
theorem dX4_settle_1 : decode cX4_settle 1 = .ok (.invokestatic 47, 3) := by decide +kernel
theorem dX4_settle_4 : decode cX4_settle 4 = .ok (.ifCond .ne 5, 3) := by decide +kernel
theorem dX4_settle_7 : decode cX4_settle 7 = .ok (.iconst (-1), 1) := by decide +kernel
theorem dX4_settle_8 : decode cX4_settle 8 = .ok (.ireturn, 1) := by decide +kernel
theorem dX4_settle_9 : decode cX4_settle 9 = .ok (.iload_n 2, 1) := by decide +kernel
theorem dX4_settle_10 : decode cX4_settle 10 = .ok (.ifCond .lt 9, 3) := by decide +kernel
theorem dX4_settle_13 : decode cX4_settle 13 = .ok (.iload_n 2, 1) := by decide +kernel
theorem dX4_settle_14 : decode cX4_settle 14 = .ok (.bipush 40, 2) := by decide +kernel
theorem dX4_settle_16 : decode cX4_settle 16 = .ok (.if_icmp .le 6, 3) := by decide +kernel
theorem dX4_settle_19 : decode cX4_settle 19 = .ok (.bipush (-2), 2) := by decide +kernel
theorem dX4_settle_21 : decode cX4_settle 21 = .ok (.ireturn, 1) := by decide +kernel
theorem dX4_settle_22 : decode cX4_settle 22 = .ok (.iload_n 3, 1) := by decide +kernel
theorem dX4_settle_23 : decode cX4_settle 23 = .ok (.iconst 1, 1) := by decide +kernel
theorem dX4_settle_24 : decode cX4_settle 24 = .ok (.if_icmp .lt 9, 3) := by decide +kernel
theorem dX4_settle_27 : decode cX4_settle 27 = .ok (.iload_n 3, 1) := by decide +kernel
theorem dX4_settle_28 : decode cX4_settle 28 = .ok (.bipush 20, 2) := by decide +kernel
theorem dX4_settle_30 : decode cX4_settle 30 = .ok (.if_icmp .le 6, 3) := by decide +kernel
theorem dX4_settle_33 : decode cX4_settle 33 = .ok (.bipush (-2), 2) := by decide +kernel
theorem dX4_settle_35 : decode cX4_settle 35 = .ok (.ireturn, 1) := by decide +kernel
theorem dX4_settle_36 : decode cX4_settle 36 = .ok (.aload_n 0, 1) := by decide +kernel
theorem dX4_settle_37 : decode cX4_settle 37 = .ok (.getfield 10, 3) := by decide +kernel
theorem dX4_settle_40 : decode cX4_settle 40 = .ok (.iload_n 2, 1) := by decide +kernel
theorem dX4_settle_41 : decode cX4_settle 41 = .ok (.iload_n 1, 1) := by decide +kernel
theorem dX4_settle_42 : decode cX4_settle 42 = .ok (.invokevirtual 77, 3) := by decide +kernel
theorem dX4_settle_45 : decode cX4_settle 45 = .ok (.ifCond .eq 6, 3) := by decide +kernel
theorem dX4_settle_48 : decode cX4_settle 48 = .ok (.bipush (-4), 2) := by decide +kernel
theorem dX4_settle_50 : decode cX4_settle 50 = .ok (.ireturn, 1) := by decide +kernel
theorem dX4_settle_51 : decode cX4_settle 51 = .ok (.aload_n 0, 1) := by decide +kernel
theorem dX4_settle_52 : decode cX4_settle 52 = .ok (.getfield 29, 3) := by decide +kernel
theorem dX4_settle_55 : decode cX4_settle 55 = .ok (.aload_n 0, 1) := by decide +kernel
theorem dX4_settle_56 : decode cX4_settle 56 = .ok (.getfield 10, 3) := by decide +kernel
theorem dX4_settle_59 : decode cX4_settle 59 = .ok (.invokevirtual 55, 3) := by decide +kernel
theorem dX4_settle_62 : decode cX4_settle 62 = .ok (.aload_n 0, 1) := by decide +kernel
theorem dX4_settle_63 : decode cX4_settle 63 = .ok (.getfield 10, 3) := by decide +kernel
theorem dX4_settle_66 : decode cX4_settle 66 = .ok (.getfield 80, 3) := by decide +kernel
theorem dX4_settle_69 : decode cX4_settle 69 = .ok (.iload_n 1, 1) := by decide +kernel
theorem dX4_settle_70 : decode cX4_settle 70 = .ok (.iload_n 2, 1) := by decide +kernel
theorem dX4_settle_71 : decode cX4_settle 71 = .ok (.iastore, 1) := by decide +kernel
theorem dX4_settle_72 : decode cX4_settle 72 = .ok (.aload_n 0, 1) := by decide +kernel
theorem dX4_settle_73 : decode cX4_settle 73 = .ok (.getfield 10, 3) := by decide +kernel
theorem dX4_settle_76 : decode cX4_settle 76 = .ok (.getfield 83, 3) := by decide +kernel
theorem dX4_settle_79 : decode cX4_settle 79 = .ok (.iload_n 1, 1) := by decide +kernel
theorem dX4_settle_80 : decode cX4_settle 80 = .ok (.iload_n 3, 1) := by decide +kernel
theorem dX4_settle_81 : decode cX4_settle 81 = .ok (.iastore, 1) := by decide +kernel
theorem dX4_settle_82 : decode cX4_settle 82 = .ok (.aload_n 0, 1) := by decide +kernel
theorem dX4_settle_83 : decode cX4_settle 83 = .ok (.getfield 10, 3) := by decide +kernel
theorem dX4_settle_86 : decode cX4_settle 86 = .ok (.getfield 86, 3) := by decide +kernel
theorem dX4_settle_89 : decode cX4_settle 89 = .ok (.iload_n 1, 1) := by decide +kernel
theorem dX4_settle_90 : decode cX4_settle 90 = .ok (.aload_n 0, 1) := by decide +kernel
theorem dX4_settle_91 : decode cX4_settle 91 = .ok (.getfield 10, 3) := by decide +kernel
theorem dX4_settle_94 : decode cX4_settle 94 = .ok (.getfield 86, 3) := by decide +kernel
theorem dX4_settle_97 : decode cX4_settle 97 = .ok (.iload_n 1, 1) := by decide +kernel
theorem dX4_settle_98 : decode cX4_settle 98 = .ok (.iaload, 1) := by decide +kernel
theorem dX4_settle_99 : decode cX4_settle 99 = .ok (.iload_n 3, 1) := by decide +kernel
theorem dX4_settle_100 : decode cX4_settle 100 = .ok (.invokestatic 89, 3) := by decide +kernel
theorem dX4_settle_103 : decode cX4_settle 103 = .ok (.iastore, 1) := by decide +kernel
theorem dX4_settle_104 : decode cX4_settle 104 = .ok (.aload_n 0, 1) := by decide +kernel
theorem dX4_settle_105 : decode cX4_settle 105 = .ok (.getfield 10, 3) := by decide +kernel
theorem dX4_settle_108 : decode cX4_settle 108 = .ok (.getfield 86, 3) := by decide +kernel
theorem dX4_settle_111 : decode cX4_settle 111 = .ok (.iload_n 1, 1) := by decide +kernel
theorem dX4_settle_112 : decode cX4_settle 112 = .ok (.iaload, 1) := by decide +kernel
theorem dX4_settle_113 : decode cX4_settle 113 = .ok (.ireturn, 1) := by decide +kernel
theorem dX4_plan_0 : decode cX4_plan 0 = .ok (.aload_n 0, 1) := by decide +kernel
theorem dX4_plan_1 : decode cX4_plan 1 = .ok (.iload_n 1, 1) := by decide +kernel
theorem dX4_plan_2 : decode cX4_plan 2 = .ok (.iload_n 2, 1) := by decide +kernel
theorem dX4_plan_3 : decode cX4_plan 3 = .ok (.invokevirtual 94, 3) := by decide +kernel
theorem dX4_plan_6 : decode cX4_plan 6 = .ok (.istore_n 3, 1) := by decide +kernel
theorem dX4_plan_7 : decode cX4_plan 7 = .ok (.iload_n 3, 1) := by decide +kernel
theorem dX4_plan_8 : decode cX4_plan 8 = .ok (.ifCond .eq 5, 3) := by decide +kernel
theorem dX4_plan_11 : decode cX4_plan 11 = .ok (.iload_n 3, 1) := by decide +kernel
theorem dX4_plan_12 : decode cX4_plan 12 = .ok (.ireturn, 1) := by decide +kernel
theorem dX4_plan_13 : decode cX4_plan 13 = .ok (.aload_n 0, 1) := by decide +kernel
theorem dX4_plan_14 : decode cX4_plan 14 = .ok (.getfield 29, 3) := by decide +kernel
theorem dX4_plan_17 : decode cX4_plan 17 = .ok (.aload_n 0, 1) := by decide +kernel
theorem dX4_plan_18 : decode cX4_plan 18 = .ok (.getfield 10, 3) := by decide +kernel
theorem dX4_plan_21 : decode cX4_plan 21 = .ok (.invokevirtual 55, 3) := by decide +kernel
theorem dX4_plan_24 : decode cX4_plan 24 = .ok (.aload_n 0, 1) := by decide +kernel
theorem dX4_plan_25 : decode cX4_plan 25 = .ok (.iload_n 1, 1) := by decide +kernel
theorem dX4_plan_26 : decode cX4_plan 26 = .ok (.iload_n 2, 1) := by decide +kernel
theorem dX4_plan_27 : decode cX4_plan 27 = .ok (.invokevirtual 97, 3) := by decide +kernel
theorem dX4_plan_30 : decode cX4_plan 30 = .ok (.ireturn, 1) := by decide +kernel
theorem dX4_splice_0 : decode cX4_splice 0 = .ok (.aload_n 0, 1) := by decide +kernel
theorem dX4_splice_1 : decode cX4_splice 1 = .ok (.iload_n 1, 1) := by decide +kernel
theorem dX4_splice_2 : decode cX4_splice 2 = .ok (.iload_n 2, 1) := by decide +kernel
theorem dX4_splice_3 : decode cX4_splice 3 = .ok (.invokevirtual 100, 3) := by decide +kernel
theorem dX4_splice_6 : decode cX4_splice 6 = .ok (.istore_n 3, 1) := by decide +kernel
theorem dX4_splice_7 : decode cX4_splice 7 = .ok (.iload_n 3, 1) := by decide +kernel
theorem dX4_splice_8 : decode cX4_splice 8 = .ok (.ifCond .eq 5, 3) := by decide +kernel
theorem dX4_splice_11 : decode cX4_splice 11 = .ok (.iload_n 3, 1) := by decide +kernel
theorem dX4_splice_12 : decode cX4_splice 12 = .ok (.ireturn, 1) := by decide +kernel
theorem dX4_splice_13 : decode cX4_splice 13 = .ok (.aload_n 0, 1) := by decide +kernel
theorem dX4_splice_14 : decode cX4_splice 14 = .ok (.getfield 29, 3) := by decide +kernel
theorem dX4_splice_17 : decode cX4_splice 17 = .ok (.aload_n 0, 1) := by decide +kernel
theorem dX4_splice_18 : decode cX4_splice 18 = .ok (.getfield 10, 3) := by decide +kernel
theorem dX4_splice_21 : decode cX4_splice 21 = .ok (.invokevirtual 55, 3) := by decide +kernel
theorem dX4_splice_24 : decode cX4_splice 24 = .ok (.aload_n 0, 1) := by decide +kernel
theorem dX4_splice_25 : decode cX4_splice 25 = .ok (.iload_n 1, 1) := by decide +kernel
theorem dX4_splice_26 : decode cX4_splice 26 = .ok (.iload_n 2, 1) := by decide +kernel
theorem dX4_splice_27 : decode cX4_splice 27 = .ok (.invokevirtual 103, 3) := by decide +kernel
theorem dX4_splice_30 : decode cX4_splice 30 = .ok (.ireturn, 1) := by decide +kernel
theorem dX4_feast_0 : decode cX4_feast 0 = .ok (.iload_n 1, 1) := by decide +kernel
theorem dX4_feast_1 : decode cX4_feast 1 = .ok (.invokestatic 47, 3) := by decide +kernel
theorem dX4_feast_4 : decode cX4_feast 4 = .ok (.ifCond .ne 5, 3) := by decide +kernel
theorem dX4_feast_7 : decode cX4_feast 7 = .ok (.iconst (-1), 1) := by decide +kernel
theorem dX4_feast_8 : decode cX4_feast 8 = .ok (.ireturn, 1) := by decide +kernel
theorem dX4_feast_9 : decode cX4_feast 9 = .ok (.iload_n 2, 1) := by decide +kernel
theorem dX4_feast_10 : decode cX4_feast 10 = .ok (.ifCond .lt 9, 3) := by decide +kernel
theorem dX4_feast_13 : decode cX4_feast 13 = .ok (.iload_n 2, 1) := by decide +kernel
theorem dX4_feast_14 : decode cX4_feast 14 = .ok (.bipush 7, 2) := by decide +kernel
theorem dX4_feast_16 : decode cX4_feast 16 = .ok (.if_icmp .lt 6, 3) := by decide +kernel
theorem dX4_feast_19 : decode cX4_feast 19 = .ok (.bipush (-2), 2) := by decide +kernel
theorem dX4_feast_21 : decode cX4_feast 21 = .ok (.ireturn, 1) := by decide +kernel
theorem dX4_feast_22 : decode cX4_feast 22 = .ok (.aload_n 0, 1) := by decide +kernel
theorem dX4_feast_23 : decode cX4_feast 23 = .ok (.getfield 29, 3) := by decide +kernel
theorem dX4_feast_26 : decode cX4_feast 26 = .ok (.aload_n 0, 1) := by decide +kernel
theorem dX4_feast_27 : decode cX4_feast 27 = .ok (.getfield 10, 3) := by decide +kernel
theorem dX4_feast_30 : decode cX4_feast 30 = .ok (.invokevirtual 55, 3) := by decide +kernel
theorem dX4_feast_33 : decode cX4_feast 33 = .ok (.aload_n 0, 1) := by decide +kernel
theorem dX4_feast_34 : decode cX4_feast 34 = .ok (.getfield 10, 3) := by decide +kernel
theorem dX4_feast_37 : decode cX4_feast 37 = .ok (.getfield 106, 3) := by decide +kernel
theorem dX4_feast_40 : decode cX4_feast 40 = .ok (.iload_n 1, 1) := by decide +kernel
theorem dX4_feast_41 : decode cX4_feast 41 = .ok (.iaload, 1) := by decide +kernel
theorem dX4_feast_42 : decode cX4_feast 42 = .ok (.istore_n 3, 1) := by decide +kernel
theorem dX4_feast_43 : decode cX4_feast 43 = .ok (.aload_n 0, 1) := by decide +kernel
theorem dX4_feast_44 : decode cX4_feast 44 = .ok (.getfield 10, 3) := by decide +kernel
theorem dX4_feast_47 : decode cX4_feast 47 = .ok (.getfield 106, 3) := by decide +kernel
theorem dX4_feast_50 : decode cX4_feast 50 = .ok (.iload_n 1, 1) := by decide +kernel
theorem dX4_feast_51 : decode cX4_feast 51 = .ok (.iload_n 2, 1) := by decide +kernel
theorem dX4_feast_52 : decode cX4_feast 52 = .ok (.iastore, 1) := by decide +kernel
theorem dX4_feast_53 : decode cX4_feast 53 = .ok (.iload_n 3, 1) := by decide +kernel
theorem dX4_feast_54 : decode cX4_feast 54 = .ok (.ireturn, 1) := by decide +kernel
theorem dX4_set_0 : decode cX4_set 0 = .ok (.iload_n 1, 1) := by decide +kernel
theorem dX4_set_1 : decode cX4_set 1 = .ok (.ifCond .lt 8, 3) := by decide +kernel
theorem dX4_set_4 : decode cX4_set 4 = .ok (.iload_n 1, 1) := by decide +kernel
theorem dX4_set_5 : decode cX4_set 5 = .ok (.iconst 2, 1) := by decide +kernel
theorem dX4_set_6 : decode cX4_set 6 = .ok (.if_icmp .lt 5, 3) := by decide +kernel
theorem dX4_set_9 : decode cX4_set 9 = .ok (.iconst (-1), 1) := by decide +kernel
theorem dX4_set_10 : decode cX4_set 10 = .ok (.ireturn, 1) := by decide +kernel
theorem dX4_set_11 : decode cX4_set 11 = .ok (.iload_n 1, 1) := by decide +kernel
theorem dX4_set_12 : decode cX4_set 12 = .ok (.iload_n 2, 1) := by decide +kernel
theorem dX4_set_13 : decode cX4_set 13 = .ok (.invokestatic 109, 3) := by decide +kernel
theorem dX4_set_16 : decode cX4_set 16 = .ok (.ifCond .ne 6, 3) := by decide +kernel
theorem dX4_set_19 : decode cX4_set 19 = .ok (.bipush (-2), 2) := by decide +kernel
theorem dX4_set_21 : decode cX4_set 21 = .ok (.ireturn, 1) := by decide +kernel
theorem dX4_set_22 : decode cX4_set 22 = .ok (.aload_n 0, 1) := by decide +kernel
theorem dX4_set_23 : decode cX4_set 23 = .ok (.getfield 29, 3) := by decide +kernel
theorem dX4_set_26 : decode cX4_set 26 = .ok (.aload_n 0, 1) := by decide +kernel
theorem dX4_set_27 : decode cX4_set 27 = .ok (.getfield 10, 3) := by decide +kernel
theorem dX4_set_30 : decode cX4_set 30 = .ok (.invokevirtual 55, 3) := by decide +kernel
theorem dX4_set_33 : decode cX4_set 33 = .ok (.iload_n 1, 1) := by decide +kernel
theorem dX4_set_34 : decode cX4_set 34 = .ok (.ifCond .ne 13, 3) := by decide +kernel
theorem dX4_set_37 : decode cX4_set 37 = .ok (.aload_n 0, 1) := by decide +kernel
theorem dX4_set_38 : decode cX4_set 38 = .ok (.getfield 10, 3) := by decide +kernel
theorem dX4_set_41 : decode cX4_set 41 = .ok (.getfield 112, 3) := by decide +kernel
theorem dX4_set_44 : decode cX4_set 44 = .ok (.goto 10, 3) := by decide +kernel
theorem dX4_set_47 : decode cX4_set 47 = .ok (.aload_n 0, 1) := by decide +kernel
theorem dX4_set_48 : decode cX4_set 48 = .ok (.getfield 10, 3) := by decide +kernel
theorem dX4_set_51 : decode cX4_set 51 = .ok (.getfield 116, 3) := by decide +kernel
theorem dX4_set_54 : decode cX4_set 54 = .ok (.istore_n 3, 1) := by decide +kernel
theorem dX4_set_55 : decode cX4_set 55 = .ok (.iload_n 1, 1) := by decide +kernel
theorem dX4_set_56 : decode cX4_set 56 = .ok (.ifCond .ne 14, 3) := by decide +kernel
theorem dX4_set_59 : decode cX4_set 59 = .ok (.aload_n 0, 1) := by decide +kernel
theorem dX4_set_60 : decode cX4_set 60 = .ok (.getfield 10, 3) := by decide +kernel
theorem dX4_set_63 : decode cX4_set 63 = .ok (.iload_n 2, 1) := by decide +kernel
theorem dX4_set_64 : decode cX4_set 64 = .ok (.putfield 112, 3) := by decide +kernel
theorem dX4_set_67 : decode cX4_set 67 = .ok (.goto 11, 3) := by decide +kernel
theorem dX4_set_70 : decode cX4_set 70 = .ok (.aload_n 0, 1) := by decide +kernel
theorem dX4_set_71 : decode cX4_set 71 = .ok (.getfield 10, 3) := by decide +kernel
theorem dX4_set_74 : decode cX4_set 74 = .ok (.iload_n 2, 1) := by decide +kernel
theorem dX4_set_75 : decode cX4_set 75 = .ok (.putfield 116, 3) := by decide +kernel
theorem dX4_set_78 : decode cX4_set 78 = .ok (.iload_n 3, 1) := by decide +kernel
theorem dX4_set_79 : decode cX4_set 79 = .ok (.ireturn, 1) := by decide +kernel
theorem dX4_turns_0 : decode cX4_turns 0 = .ok (.iload_n 1, 1) := by decide +kernel
theorem dX4_turns_1 : decode cX4_turns 1 = .ok (.invokestatic 119, 3) := by decide +kernel
theorem dX4_turns_4 : decode cX4_turns 4 = .ok (.istore_n 2, 1) := by decide +kernel
theorem dX4_turns_5 : decode cX4_turns 5 = .ok (.iload_n 2, 1) := by decide +kernel
theorem dX4_turns_6 : decode cX4_turns 6 = .ok (.ifCond .eq 5, 3) := by decide +kernel
theorem dX4_turns_9 : decode cX4_turns 9 = .ok (.iload_n 2, 1) := by decide +kernel
theorem dX4_turns_10 : decode cX4_turns 10 = .ok (.ireturn, 1) := by decide +kernel
theorem dX4_turns_11 : decode cX4_turns 11 = .ok (.aload_n 0, 1) := by decide +kernel
theorem dX4_turns_12 : decode cX4_turns 12 = .ok (.getfield 29, 3) := by decide +kernel
theorem dX4_turns_15 : decode cX4_turns 15 = .ok (.aload_n 0, 1) := by decide +kernel
theorem dX4_turns_16 : decode cX4_turns 16 = .ok (.getfield 10, 3) := by decide +kernel
theorem dX4_turns_19 : decode cX4_turns 19 = .ok (.invokevirtual 55, 3) := by decide +kernel
theorem dX4_turns_22 : decode cX4_turns 22 = .ok (.aload_n 0, 1) := by decide +kernel
theorem dX4_turns_23 : decode cX4_turns 23 = .ok (.aload_n 0, 1) := by decide +kernel
theorem dX4_turns_24 : decode cX4_turns 24 = .ok (.getfield 10, 3) := by decide +kernel
theorem dX4_turns_27 : decode cX4_turns 27 = .ok (.iload_n 1, 1) := by decide +kernel
theorem dX4_turns_28 : decode cX4_turns 28 = .ok (.invokevirtual 123, 3) := by decide +kernel
theorem dX4_turns_31 : decode cX4_turns 31 = .ok (.aload_n 0, 1) := by decide +kernel
theorem dX4_turns_32 : decode cX4_turns 32 = .ok (.getfield 10, 3) := by decide +kernel
theorem dX4_turns_35 : decode cX4_turns 35 = .ok (.getfield 127, 3) := by decide +kernel
theorem dX4_turns_38 : decode cX4_turns 38 = .ok (.ireturn, 1) := by decide +kernel
theorem dX4_append_0 : decode cX4_append 0 = .ok (.iload_n 1, 1) := by decide +kernel
theorem dX4_append_1 : decode cX4_append 1 = .ok (.bipush 32, 2) := by decide +kernel
theorem dX4_append_3 : decode cX4_append 3 = .ok (.if_icmp .lt 9, 3) := by decide +kernel
theorem dX4_append_6 : decode cX4_append 6 = .ok (.iload_n 1, 1) := by decide +kernel
theorem dX4_append_7 : decode cX4_append 7 = .ok (.bipush 126, 2) := by decide +kernel
theorem dX4_append_9 : decode cX4_append 9 = .ok (.if_icmp .le 6, 3) := by decide +kernel
theorem dX4_append_12 : decode cX4_append 12 = .ok (.bipush (-2), 2) := by decide +kernel
theorem dX4_append_14 : decode cX4_append 14 = .ok (.ireturn, 1) := by decide +kernel
theorem dX4_append_15 : decode cX4_append 15 = .ok (.aload_n 0, 1) := by decide +kernel
theorem dX4_append_16 : decode cX4_append 16 = .ok (.getfield 43, 3) := by decide +kernel
theorem dX4_append_19 : decode cX4_append 19 = .ok (.getfield 130, 3) := by decide +kernel
theorem dX4_append_22 : decode cX4_append 22 = .ok (.bipush 60, 2) := by decide +kernel
theorem dX4_append_24 : decode cX4_append 24 = .ok (.if_icmp .lt 6, 3) := by decide +kernel
theorem dX4_append_27 : decode cX4_append 27 = .ok (.bipush (-3), 2) := by decide +kernel
theorem dX4_append_29 : decode cX4_append 29 = .ok (.ireturn, 1) := by decide +kernel
theorem dX4_append_30 : decode cX4_append 30 = .ok (.aload_n 0, 1) := by decide +kernel
theorem dX4_append_31 : decode cX4_append 31 = .ok (.getfield 43, 3) := by decide +kernel
theorem dX4_append_34 : decode cX4_append 34 = .ok (.iload_n 1, 1) := by decide +kernel
theorem dX4_append_35 : decode cX4_append 35 = .ok (.i2c, 1) := by decide +kernel
theorem dX4_append_36 : decode cX4_append 36 = .ok (.invokevirtual 133, 3) := by decide +kernel
theorem dX4_append_39 : decode cX4_append 39 = .ok (.aload_n 0, 1) := by decide +kernel
theorem dX4_append_40 : decode cX4_append 40 = .ok (.getfield 43, 3) := by decide +kernel
theorem dX4_append_43 : decode cX4_append 43 = .ok (.getfield 130, 3) := by decide +kernel
theorem dX4_append_46 : decode cX4_append 46 = .ok (.ireturn, 1) := by decide +kernel
theorem dX4_clearText_0 : decode cX4_clearText 0 = .ok (.aload_n 0, 1) := by decide +kernel
theorem dX4_clearText_1 : decode cX4_clearText 1 = .ok (.getfield 43, 3) := by decide +kernel
theorem dX4_clearText_4 : decode cX4_clearText 4 = .ok (.getfield 130, 3) := by decide +kernel
theorem dX4_clearText_7 : decode cX4_clearText 7 = .ok (.istore_n 1, 1) := by decide +kernel
theorem dX4_clearText_8 : decode cX4_clearText 8 = .ok (.aload_n 0, 1) := by decide +kernel
theorem dX4_clearText_9 : decode cX4_clearText 9 = .ok (.getfield 43, 3) := by decide +kernel
theorem dX4_clearText_12 : decode cX4_clearText 12 = .ok (.iconst 0, 1) := by decide +kernel
theorem dX4_clearText_13 : decode cX4_clearText 13 = .ok (.putfield 130, 3) := by decide +kernel
theorem dX4_clearText_16 : decode cX4_clearText 16 = .ok (.iload_n 1, 1) := by decide +kernel
theorem dX4_clearText_17 : decode cX4_clearText 17 = .ok (.ireturn, 1) := by decide +kernel
theorem dX4_fault_0 : decode cX4_fault 0 = .ok (.aload_n 0, 1) := by decide +kernel
theorem dX4_fault_1 : decode cX4_fault 1 = .ok (.getfield 43, 3) := by decide +kernel
theorem dX4_fault_4 : decode cX4_fault 4 = .ok (.invokevirtual 137, 3) := by decide +kernel
theorem dX4_fault_7 : decode cX4_fault 7 = .ok (.ireturn, 1) := by decide +kernel
theorem dX4_run_0 : decode cX4_run 0 = .ok (.aload_n 0, 1) := by decide +kernel
theorem dX4_run_1 : decode cX4_run 1 = .ok (.getfield 43, 3) := by decide +kernel
theorem dX4_run_4 : decode cX4_run 4 = .ok (.invokevirtual 137, 3) := by decide +kernel
theorem dX4_run_7 : decode cX4_run 7 = .ok (.istore_n 1, 1) := by decide +kernel
theorem dX4_run_8 : decode cX4_run 8 = .ok (.iload_n 1, 1) := by decide +kernel
theorem dX4_run_9 : decode cX4_run 9 = .ok (.bipush (-5), 2) := by decide +kernel
theorem dX4_run_11 : decode cX4_run 11 = .ok (.if_icmp .eq 8, 3) := by decide +kernel
theorem dX4_run_14 : decode cX4_run 14 = .ok (.bipush (-100), 2) := by decide +kernel
theorem dX4_run_16 : decode cX4_run 16 = .ok (.iload_n 1, 1) := by decide +kernel
theorem dX4_run_17 : decode cX4_run 17 = .ok (.isub, 1) := by decide +kernel
theorem dX4_run_18 : decode cX4_run 18 = .ok (.ireturn, 1) := by decide +kernel
theorem dX4_run_19 : decode cX4_run 19 = .ok (.aload_n 0, 1) := by decide +kernel
theorem dX4_run_20 : decode cX4_run 20 = .ok (.getfield 29, 3) := by decide +kernel
theorem dX4_run_23 : decode cX4_run 23 = .ok (.aload_n 0, 1) := by decide +kernel
theorem dX4_run_24 : decode cX4_run 24 = .ok (.getfield 10, 3) := by decide +kernel
theorem dX4_run_27 : decode cX4_run 27 = .ok (.invokevirtual 55, 3) := by decide +kernel
theorem dX4_run_30 : decode cX4_run 30 = .ok (.iconst 0, 1) := by decide +kernel
theorem dX4_run_31 : decode cX4_run 31 = .ok (.istore_n 2, 1) := by decide +kernel
theorem dX4_run_32 : decode cX4_run 32 = .ok (.iconst 0, 1) := by decide +kernel
theorem dX4_run_33 : decode cX4_run 33 = .ok (.istore_n 3, 1) := by decide +kernel
theorem dX4_run_34 : decode cX4_run 34 = .ok (.iload_n 3, 1) := by decide +kernel
theorem dX4_run_35 : decode cX4_run 35 = .ok (.aload_n 0, 1) := by decide +kernel
theorem dX4_run_36 : decode cX4_run 36 = .ok (.getfield 43, 3) := by decide +kernel
theorem dX4_run_39 : decode cX4_run 39 = .ok (.getfield 130, 3) := by decide +kernel
theorem dX4_run_42 : decode cX4_run 42 = .ok (.if_icmp .ge 33, 3) := by decide +kernel
theorem dX4_run_45 : decode cX4_run 45 = .ok (.aload_n 0, 1) := by decide +kernel
theorem dX4_run_46 : decode cX4_run 46 = .ok (.getfield 43, 3) := by decide +kernel
theorem dX4_run_49 : decode cX4_run 49 = .ok (.iload_n 3, 1) := by decide +kernel
theorem dX4_run_50 : decode cX4_run 50 = .ok (.invokevirtual 141, 3) := by decide +kernel
theorem dX4_run_53 : decode cX4_run 53 = .ok (.ifCond .eq 16, 3) := by decide +kernel
theorem dX4_run_56 : decode cX4_run 56 = .ok (.aload_n 0, 1) := by decide +kernel
theorem dX4_run_57 : decode cX4_run 57 = .ok (.iload_n 3, 1) := by decide +kernel
theorem dX4_run_58 : decode cX4_run 58 = .ok (.invokevirtual 144, 3) := by decide +kernel
theorem dX4_run_61 : decode cX4_run 61 = .ok (.ifCond .ne 5, 3) := by decide +kernel
theorem dX4_run_64 : decode cX4_run 64 = .ok (.iload_n 2, 1) := by decide +kernel
theorem dX4_run_65 : decode cX4_run 65 = .ok (.ireturn, 1) := by decide +kernel
theorem dX4_run_66 : decode cX4_run 66 = .ok (.iinc 2 1, 3) := by decide +kernel
theorem dX4_run_69 : decode cX4_run 69 = .ok (.iinc 3 1, 3) := by decide +kernel
theorem dX4_run_72 : decode cX4_run 72 = .ok (.goto (-38), 3) := by decide +kernel
theorem dX4_run_75 : decode cX4_run 75 = .ok (.iload_n 2, 1) := by decide +kernel
theorem dX4_run_76 : decode cX4_run 76 = .ok (.ireturn, 1) := by decide +kernel
theorem dX4_undo_0 : decode cX4_undo 0 = .ok (.aload_n 0, 1) := by decide +kernel
theorem dX4_undo_1 : decode cX4_undo 1 = .ok (.getfield 29, 3) := by decide +kernel
theorem dX4_undo_4 : decode cX4_undo 4 = .ok (.getfield 147, 3) := by decide +kernel
theorem dX4_undo_7 : decode cX4_undo 7 = .ok (.ifCond .ne 6, 3) := by decide +kernel
theorem dX4_undo_10 : decode cX4_undo 10 = .ok (.bipush (-5), 2) := by decide +kernel
theorem dX4_undo_12 : decode cX4_undo 12 = .ok (.ireturn, 1) := by decide +kernel
theorem dX4_undo_13 : decode cX4_undo 13 = .ok (.aload_n 0, 1) := by decide +kernel
theorem dX4_undo_14 : decode cX4_undo 14 = .ok (.getfield 29, 3) := by decide +kernel
theorem dX4_undo_17 : decode cX4_undo 17 = .ok (.aload_n 0, 1) := by decide +kernel
theorem dX4_undo_18 : decode cX4_undo 18 = .ok (.getfield 10, 3) := by decide +kernel
theorem dX4_undo_21 : decode cX4_undo 21 = .ok (.invokevirtual 150, 3) := by decide +kernel
theorem dX4_undo_24 : decode cX4_undo 24 = .ok (.aload_n 0, 1) := by decide +kernel
theorem dX4_undo_25 : decode cX4_undo 25 = .ok (.getfield 29, 3) := by decide +kernel
theorem dX4_undo_28 : decode cX4_undo 28 = .ok (.getfield 147, 3) := by decide +kernel
theorem dX4_undo_31 : decode cX4_undo 31 = .ok (.ireturn, 1) := by decide +kernel
theorem dX4_save_0 : decode cX4_save 0 = .ok (.aload_n 0, 1) := by decide +kernel
theorem dX4_save_1 : decode cX4_save 1 = .ok (.getfield 19, 3) := by decide +kernel
theorem dX4_save_4 : decode cX4_save 4 = .ok (.aload_n 0, 1) := by decide +kernel
theorem dX4_save_5 : decode cX4_save 5 = .ok (.getfield 10, 3) := by decide +kernel
theorem dX4_save_8 : decode cX4_save 8 = .ok (.invokevirtual 153, 3) := by decide +kernel
theorem dX4_save_11 : decode cX4_save 11 = .ok (.aload_n 0, 1) := by decide +kernel
theorem dX4_save_12 : decode cX4_save 12 = .ok (.iconst 1, 1) := by decide +kernel
theorem dX4_save_13 : decode cX4_save 13 = .ok (.putfield 22, 3) := by decide +kernel
theorem dX4_save_16 : decode cX4_save 16 = .ok (.aload_n 0, 1) := by decide +kernel
theorem dX4_save_17 : decode cX4_save 17 = .ok (.getfield 10, 3) := by decide +kernel
theorem dX4_save_20 : decode cX4_save 20 = .ok (.getfield 156, 3) := by decide +kernel
theorem dX4_save_23 : decode cX4_save 23 = .ok (.ireturn, 1) := by decide +kernel
theorem dX4_restore_0 : decode cX4_restore 0 = .ok (.aload_n 0, 1) := by decide +kernel
theorem dX4_restore_1 : decode cX4_restore 1 = .ok (.getfield 22, 3) := by decide +kernel
theorem dX4_restore_4 : decode cX4_restore 4 = .ok (.ifCond .ne 6, 3) := by decide +kernel
theorem dX4_restore_7 : decode cX4_restore 7 = .ok (.bipush (-4), 2) := by decide +kernel
theorem dX4_restore_9 : decode cX4_restore 9 = .ok (.ireturn, 1) := by decide +kernel
theorem dX4_restore_10 : decode cX4_restore 10 = .ok (.aload_n 0, 1) := by decide +kernel
theorem dX4_restore_11 : decode cX4_restore 11 = .ok (.getfield 29, 3) := by decide +kernel
theorem dX4_restore_14 : decode cX4_restore 14 = .ok (.aload_n 0, 1) := by decide +kernel
theorem dX4_restore_15 : decode cX4_restore 15 = .ok (.getfield 10, 3) := by decide +kernel
theorem dX4_restore_18 : decode cX4_restore 18 = .ok (.invokevirtual 55, 3) := by decide +kernel
theorem dX4_restore_21 : decode cX4_restore 21 = .ok (.aload_n 0, 1) := by decide +kernel
theorem dX4_restore_22 : decode cX4_restore 22 = .ok (.getfield 10, 3) := by decide +kernel
theorem dX4_restore_25 : decode cX4_restore 25 = .ok (.aload_n 0, 1) := by decide +kernel
theorem dX4_restore_26 : decode cX4_restore 26 = .ok (.getfield 19, 3) := by decide +kernel
theorem dX4_restore_29 : decode cX4_restore 29 = .ok (.invokevirtual 153, 3) := by decide +kernel
theorem dX4_restore_32 : decode cX4_restore 32 = .ok (.aload_n 0, 1) := by decide +kernel
theorem dX4_restore_33 : decode cX4_restore 33 = .ok (.getfield 10, 3) := by decide +kernel
theorem dX4_restore_36 : decode cX4_restore 36 = .ok (.getfield 156, 3) := by decide +kernel
theorem dX4_restore_39 : decode cX4_restore 39 = .ok (.ireturn, 1) := by decide +kernel
theorem dX4_town_0 : decode cX4_town 0 = .ok (.iload_n 1, 1) := by decide +kernel
theorem dX4_town_1 : decode cX4_town 1 = .ok (.invokestatic 47, 3) := by decide +kernel
theorem dX4_town_4 : decode cX4_town 4 = .ok (.ifCond .ne 5, 3) := by decide +kernel
theorem dX4_town_7 : decode cX4_town 7 = .ok (.iconst (-1), 1) := by decide +kernel
theorem dX4_town_8 : decode cX4_town 8 = .ok (.ireturn, 1) := by decide +kernel
theorem dX4_town_9 : decode cX4_town 9 = .ok (.iload_n 2, 1) := by decide +kernel
theorem dX4_town_10 : decode cX4_town 10 = .ok (.tableswitch 140 0 8 #[50, 60, 70, 80, 90, 100, 110, 120, 130], 50) := by decide +kernel
theorem dX4_town_60 : decode cX4_town 60 = .ok (.aload_n 0, 1) := by decide +kernel
theorem dX4_town_61 : decode cX4_town 61 = .ok (.getfield 10, 3) := by decide +kernel
theorem dX4_town_64 : decode cX4_town 64 = .ok (.getfield 80, 3) := by decide +kernel
theorem dX4_town_67 : decode cX4_town 67 = .ok (.iload_n 1, 1) := by decide +kernel
theorem dX4_town_68 : decode cX4_town 68 = .ok (.iaload, 1) := by decide +kernel
theorem dX4_town_69 : decode cX4_town 69 = .ok (.ireturn, 1) := by decide +kernel
theorem dX4_town_70 : decode cX4_town 70 = .ok (.aload_n 0, 1) := by decide +kernel
theorem dX4_town_71 : decode cX4_town 71 = .ok (.getfield 10, 3) := by decide +kernel
theorem dX4_town_74 : decode cX4_town 74 = .ok (.getfield 83, 3) := by decide +kernel
theorem dX4_town_77 : decode cX4_town 77 = .ok (.iload_n 1, 1) := by decide +kernel
theorem dX4_town_78 : decode cX4_town 78 = .ok (.iaload, 1) := by decide +kernel
theorem dX4_town_79 : decode cX4_town 79 = .ok (.ireturn, 1) := by decide +kernel
theorem dX4_town_80 : decode cX4_town 80 = .ok (.aload_n 0, 1) := by decide +kernel
theorem dX4_town_81 : decode cX4_town 81 = .ok (.getfield 10, 3) := by decide +kernel
theorem dX4_town_84 : decode cX4_town 84 = .ok (.getfield 86, 3) := by decide +kernel
theorem dX4_town_87 : decode cX4_town 87 = .ok (.iload_n 1, 1) := by decide +kernel
theorem dX4_town_88 : decode cX4_town 88 = .ok (.iaload, 1) := by decide +kernel
theorem dX4_town_89 : decode cX4_town 89 = .ok (.ireturn, 1) := by decide +kernel
theorem dX4_town_90 : decode cX4_town 90 = .ok (.aload_n 0, 1) := by decide +kernel
theorem dX4_town_91 : decode cX4_town 91 = .ok (.getfield 10, 3) := by decide +kernel
theorem dX4_town_94 : decode cX4_town 94 = .ok (.getfield 51, 3) := by decide +kernel
theorem dX4_town_97 : decode cX4_town 97 = .ok (.iload_n 1, 1) := by decide +kernel
theorem dX4_town_98 : decode cX4_town 98 = .ok (.iaload, 1) := by decide +kernel
theorem dX4_town_99 : decode cX4_town 99 = .ok (.ireturn, 1) := by decide +kernel
theorem dX4_town_100 : decode cX4_town 100 = .ok (.aload_n 0, 1) := by decide +kernel
theorem dX4_town_101 : decode cX4_town 101 = .ok (.getfield 10, 3) := by decide +kernel
theorem dX4_town_104 : decode cX4_town 104 = .ok (.getfield 159, 3) := by decide +kernel
theorem dX4_town_107 : decode cX4_town 107 = .ok (.iload_n 1, 1) := by decide +kernel
theorem dX4_town_108 : decode cX4_town 108 = .ok (.iaload, 1) := by decide +kernel
theorem dX4_town_109 : decode cX4_town 109 = .ok (.ireturn, 1) := by decide +kernel
theorem dX4_town_110 : decode cX4_town 110 = .ok (.aload_n 0, 1) := by decide +kernel
theorem dX4_town_111 : decode cX4_town 111 = .ok (.getfield 10, 3) := by decide +kernel
theorem dX4_town_114 : decode cX4_town 114 = .ok (.getfield 106, 3) := by decide +kernel
theorem dX4_town_117 : decode cX4_town 117 = .ok (.iload_n 1, 1) := by decide +kernel
theorem dX4_town_118 : decode cX4_town 118 = .ok (.iaload, 1) := by decide +kernel
theorem dX4_town_119 : decode cX4_town 119 = .ok (.ireturn, 1) := by decide +kernel
theorem dX4_town_120 : decode cX4_town 120 = .ok (.aload_n 0, 1) := by decide +kernel
theorem dX4_town_121 : decode cX4_town 121 = .ok (.getfield 10, 3) := by decide +kernel
theorem dX4_town_124 : decode cX4_town 124 = .ok (.getfield 162, 3) := by decide +kernel
theorem dX4_town_127 : decode cX4_town 127 = .ok (.iload_n 1, 1) := by decide +kernel
theorem dX4_town_128 : decode cX4_town 128 = .ok (.iaload, 1) := by decide +kernel
theorem dX4_town_129 : decode cX4_town 129 = .ok (.ireturn, 1) := by decide +kernel
theorem dX4_town_130 : decode cX4_town 130 = .ok (.aload_n 0, 1) := by decide +kernel
theorem dX4_town_131 : decode cX4_town 131 = .ok (.getfield 10, 3) := by decide +kernel
theorem dX4_town_134 : decode cX4_town 134 = .ok (.getfield 165, 3) := by decide +kernel
theorem dX4_town_137 : decode cX4_town 137 = .ok (.iload_n 1, 1) := by decide +kernel
theorem dX4_town_138 : decode cX4_town 138 = .ok (.iaload, 1) := by decide +kernel
theorem dX4_town_139 : decode cX4_town 139 = .ok (.ireturn, 1) := by decide +kernel
theorem dX4_town_140 : decode cX4_town 140 = .ok (.aload_n 0, 1) := by decide +kernel
theorem dX4_town_141 : decode cX4_town 141 = .ok (.getfield 10, 3) := by decide +kernel
theorem dX4_town_144 : decode cX4_town 144 = .ok (.getfield 168, 3) := by decide +kernel
theorem dX4_town_147 : decode cX4_town 147 = .ok (.iload_n 1, 1) := by decide +kernel
theorem dX4_town_148 : decode cX4_town 148 = .ok (.iaload, 1) := by decide +kernel
theorem dX4_town_149 : decode cX4_town 149 = .ok (.ireturn, 1) := by decide +kernel
theorem dX4_town_150 : decode cX4_town 150 = .ok (.bipush (-2), 2) := by decide +kernel
theorem dX4_town_152 : decode cX4_town 152 = .ok (.ireturn, 1) := by decide +kernel
theorem dX4_bell_0 : decode cX4_bell 0 = .ok (.aload_n 0, 1) := by decide +kernel
theorem dX4_bell_1 : decode cX4_bell 1 = .ok (.getfield 10, 3) := by decide +kernel
theorem dX4_bell_4 : decode cX4_bell 4 = .ok (.iload_n 1, 1) := by decide +kernel
theorem dX4_bell_5 : decode cX4_bell 5 = .ok (.iload_n 2, 1) := by decide +kernel
theorem dX4_bell_6 : decode cX4_bell 6 = .ok (.invokevirtual 63, 3) := by decide +kernel
theorem dX4_bell_9 : decode cX4_bell 9 = .ok (.ifCond .ne 5, 3) := by decide +kernel
theorem dX4_bell_12 : decode cX4_bell 12 = .ok (.iconst (-1), 1) := by decide +kernel
theorem dX4_bell_13 : decode cX4_bell 13 = .ok (.ireturn, 1) := by decide +kernel
theorem dX4_bell_14 : decode cX4_bell 14 = .ok (.iload_n 1, 1) := by decide +kernel
theorem dX4_bell_15 : decode cX4_bell 15 = .ok (.iload_n 2, 1) := by decide +kernel
theorem dX4_bell_16 : decode cX4_bell 16 = .ok (.invokestatic 70, 3) := by decide +kernel
theorem dX4_bell_19 : decode cX4_bell 19 = .ok (.istore 4, 2) := by decide +kernel
theorem dX4_bell_21 : decode cX4_bell 21 = .ok (.iload_n 3, 1) := by decide +kernel
theorem dX4_bell_22 : decode cX4_bell 22 = .ok (.tableswitch 103 0 4 #[34, 45, 56, 70, 81], 34) := by decide +kernel
theorem dX4_bell_56 : decode cX4_bell 56 = .ok (.aload_n 0, 1) := by decide +kernel
theorem dX4_bell_57 : decode cX4_bell 57 = .ok (.getfield 10, 3) := by decide +kernel
theorem dX4_bell_60 : decode cX4_bell 60 = .ok (.getfield 67, 3) := by decide +kernel
theorem dX4_bell_63 : decode cX4_bell 63 = .ok (.iload 4, 2) := by decide +kernel
theorem dX4_bell_65 : decode cX4_bell 65 = .ok (.iaload, 1) := by decide +kernel
theorem dX4_bell_66 : decode cX4_bell 66 = .ok (.ireturn, 1) := by decide +kernel
theorem dX4_bell_67 : decode cX4_bell 67 = .ok (.aload_n 0, 1) := by decide +kernel
theorem dX4_bell_68 : decode cX4_bell 68 = .ok (.getfield 10, 3) := by decide +kernel
theorem dX4_bell_71 : decode cX4_bell 71 = .ok (.getfield 171, 3) := by decide +kernel
theorem dX4_bell_74 : decode cX4_bell 74 = .ok (.iload 4, 2) := by decide +kernel
theorem dX4_bell_76 : decode cX4_bell 76 = .ok (.iaload, 1) := by decide +kernel
theorem dX4_bell_77 : decode cX4_bell 77 = .ok (.ireturn, 1) := by decide +kernel
theorem dX4_bell_78 : decode cX4_bell 78 = .ok (.aload_n 0, 1) := by decide +kernel
theorem dX4_bell_79 : decode cX4_bell 79 = .ok (.getfield 10, 3) := by decide +kernel
theorem dX4_bell_82 : decode cX4_bell 82 = .ok (.getfield 67, 3) := by decide +kernel
theorem dX4_bell_85 : decode cX4_bell 85 = .ok (.iload 4, 2) := by decide +kernel
theorem dX4_bell_87 : decode cX4_bell 87 = .ok (.iaload, 1) := by decide +kernel
theorem dX4_bell_88 : decode cX4_bell 88 = .ok (.invokestatic 174, 3) := by decide +kernel
theorem dX4_bell_91 : decode cX4_bell 91 = .ok (.ireturn, 1) := by decide +kernel
theorem dX4_bell_92 : decode cX4_bell 92 = .ok (.aload_n 0, 1) := by decide +kernel
theorem dX4_bell_93 : decode cX4_bell 93 = .ok (.getfield 10, 3) := by decide +kernel
theorem dX4_bell_96 : decode cX4_bell 96 = .ok (.getfield 177, 3) := by decide +kernel
theorem dX4_bell_99 : decode cX4_bell 99 = .ok (.iload 4, 2) := by decide +kernel
theorem dX4_bell_101 : decode cX4_bell 101 = .ok (.iaload, 1) := by decide +kernel
theorem dX4_bell_102 : decode cX4_bell 102 = .ok (.ireturn, 1) := by decide +kernel
theorem dX4_bell_103 : decode cX4_bell 103 = .ok (.aload_n 0, 1) := by decide +kernel
theorem dX4_bell_104 : decode cX4_bell 104 = .ok (.getfield 36, 3) := by decide +kernel
theorem dX4_bell_107 : decode cX4_bell 107 = .ok (.aload_n 0, 1) := by decide +kernel
theorem dX4_bell_108 : decode cX4_bell 108 = .ok (.getfield 10, 3) := by decide +kernel
theorem dX4_bell_111 : decode cX4_bell 111 = .ok (.invokevirtual 180, 3) := by decide +kernel
theorem dX4_bell_114 : decode cX4_bell 114 = .ok (.aload_n 0, 1) := by decide +kernel
theorem dX4_bell_115 : decode cX4_bell 115 = .ok (.getfield 36, 3) := by decide +kernel
theorem dX4_bell_118 : decode cX4_bell 118 = .ok (.getfield 183, 3) := by decide +kernel
theorem dX4_bell_121 : decode cX4_bell 121 = .ok (.iload 4, 2) := by decide +kernel
theorem dX4_bell_123 : decode cX4_bell 123 = .ok (.iaload, 1) := by decide +kernel
theorem dX4_bell_124 : decode cX4_bell 124 = .ok (.ireturn, 1) := by decide +kernel
theorem dX4_bell_125 : decode cX4_bell 125 = .ok (.bipush (-2), 2) := by decide +kernel
theorem dX4_bell_127 : decode cX4_bell 127 = .ok (.ireturn, 1) := by decide +kernel
theorem dX4_count_0 : decode cX4_count 0 = .ok (.iload_n 1, 1) := by decide +kernel
theorem dX4_count_1 : decode cX4_count 1 = .ok (.tableswitch 147 0 10 #[59, 67, 75, 83, 91, 99, 107, 115, 123, 131, 139], 59) := by decide +kernel
theorem dX4_count_60 : decode cX4_count 60 = .ok (.aload_n 0, 1) := by decide +kernel
theorem dX4_count_61 : decode cX4_count 61 = .ok (.getfield 10, 3) := by decide +kernel
theorem dX4_count_64 : decode cX4_count 64 = .ok (.getfield 156, 3) := by decide +kernel
theorem dX4_count_67 : decode cX4_count 67 = .ok (.ireturn, 1) := by decide +kernel
theorem dX4_count_68 : decode cX4_count 68 = .ok (.aload_n 0, 1) := by decide +kernel
theorem dX4_count_69 : decode cX4_count 69 = .ok (.getfield 10, 3) := by decide +kernel
theorem dX4_count_72 : decode cX4_count 72 = .ok (.invokevirtual 186, 3) := by decide +kernel
theorem dX4_count_75 : decode cX4_count 75 = .ok (.ireturn, 1) := by decide +kernel
theorem dX4_count_76 : decode cX4_count 76 = .ok (.aload_n 0, 1) := by decide +kernel
theorem dX4_count_77 : decode cX4_count 77 = .ok (.getfield 10, 3) := by decide +kernel
theorem dX4_count_80 : decode cX4_count 80 = .ok (.invokevirtual 189, 3) := by decide +kernel
theorem dX4_count_83 : decode cX4_count 83 = .ok (.ireturn, 1) := by decide +kernel
theorem dX4_count_84 : decode cX4_count 84 = .ok (.aload_n 0, 1) := by decide +kernel
theorem dX4_count_85 : decode cX4_count 85 = .ok (.getfield 10, 3) := by decide +kernel
theorem dX4_count_88 : decode cX4_count 88 = .ok (.invokevirtual 192, 3) := by decide +kernel
theorem dX4_count_91 : decode cX4_count 91 = .ok (.ireturn, 1) := by decide +kernel
theorem dX4_count_92 : decode cX4_count 92 = .ok (.aload_n 0, 1) := by decide +kernel
theorem dX4_count_93 : decode cX4_count 93 = .ok (.getfield 10, 3) := by decide +kernel
theorem dX4_count_96 : decode cX4_count 96 = .ok (.invokevirtual 195, 3) := by decide +kernel
theorem dX4_count_99 : decode cX4_count 99 = .ok (.ireturn, 1) := by decide +kernel
theorem dX4_count_100 : decode cX4_count 100 = .ok (.aload_n 0, 1) := by decide +kernel
theorem dX4_count_101 : decode cX4_count 101 = .ok (.getfield 10, 3) := by decide +kernel
theorem dX4_count_104 : decode cX4_count 104 = .ok (.getfield 198, 3) := by decide +kernel
theorem dX4_count_107 : decode cX4_count 107 = .ok (.ireturn, 1) := by decide +kernel
theorem dX4_count_108 : decode cX4_count 108 = .ok (.aload_n 0, 1) := by decide +kernel
theorem dX4_count_109 : decode cX4_count 109 = .ok (.getfield 10, 3) := by decide +kernel
theorem dX4_count_112 : decode cX4_count 112 = .ok (.getfield 127, 3) := by decide +kernel
theorem dX4_count_115 : decode cX4_count 115 = .ok (.ireturn, 1) := by decide +kernel
theorem dX4_count_116 : decode cX4_count 116 = .ok (.aload_n 0, 1) := by decide +kernel
theorem dX4_count_117 : decode cX4_count 117 = .ok (.getfield 10, 3) := by decide +kernel
theorem dX4_count_120 : decode cX4_count 120 = .ok (.getfield 112, 3) := by decide +kernel
theorem dX4_count_123 : decode cX4_count 123 = .ok (.ireturn, 1) := by decide +kernel
theorem dX4_count_124 : decode cX4_count 124 = .ok (.aload_n 0, 1) := by decide +kernel
theorem dX4_count_125 : decode cX4_count 125 = .ok (.getfield 10, 3) := by decide +kernel
theorem dX4_count_128 : decode cX4_count 128 = .ok (.getfield 116, 3) := by decide +kernel
theorem dX4_count_131 : decode cX4_count 131 = .ok (.ireturn, 1) := by decide +kernel
theorem dX4_count_132 : decode cX4_count 132 = .ok (.aload_n 0, 1) := by decide +kernel
theorem dX4_count_133 : decode cX4_count 133 = .ok (.getfield 29, 3) := by decide +kernel
theorem dX4_count_136 : decode cX4_count 136 = .ok (.getfield 147, 3) := by decide +kernel
theorem dX4_count_139 : decode cX4_count 139 = .ok (.ireturn, 1) := by decide +kernel
theorem dX4_count_140 : decode cX4_count 140 = .ok (.aload_n 0, 1) := by decide +kernel
theorem dX4_count_141 : decode cX4_count 141 = .ok (.getfield 43, 3) := by decide +kernel
theorem dX4_count_144 : decode cX4_count 144 = .ok (.getfield 130, 3) := by decide +kernel
theorem dX4_count_147 : decode cX4_count 147 = .ok (.ireturn, 1) := by decide +kernel
theorem dX4_count_148 : decode cX4_count 148 = .ok (.bipush (-2), 2) := by decide +kernel
theorem dX4_count_150 : decode cX4_count 150 = .ok (.ireturn, 1) := by decide +kernel
theorem dX4_loudness_0 : decode cX4_loudness 0 = .ok (.iload_n 1, 1) := by decide +kernel
theorem dX4_loudness_1 : decode cX4_loudness 1 = .ok (.invokestatic 47, 3) := by decide +kernel
theorem dX4_loudness_4 : decode cX4_loudness 4 = .ok (.ifCond .ne 5, 3) := by decide +kernel
theorem dX4_loudness_7 : decode cX4_loudness 7 = .ok (.iconst (-1), 1) := by decide +kernel
theorem dX4_loudness_8 : decode cX4_loudness 8 = .ok (.ireturn, 1) := by decide +kernel
theorem dX4_loudness_9 : decode cX4_loudness 9 = .ok (.aload_n 0, 1) := by decide +kernel
theorem dX4_loudness_10 : decode cX4_loudness 10 = .ok (.getfield 36, 3) := by decide +kernel
theorem dX4_loudness_13 : decode cX4_loudness 13 = .ok (.aload_n 0, 1) := by decide +kernel
theorem dX4_loudness_14 : decode cX4_loudness 14 = .ok (.getfield 10, 3) := by decide +kernel
theorem dX4_loudness_17 : decode cX4_loudness 17 = .ok (.invokevirtual 180, 3) := by decide +kernel
theorem dX4_loudness_20 : decode cX4_loudness 20 = .ok (.aload_n 0, 1) := by decide +kernel
theorem dX4_loudness_21 : decode cX4_loudness 21 = .ok (.getfield 36, 3) := by decide +kernel
theorem dX4_loudness_24 : decode cX4_loudness 24 = .ok (.getfield 201, 3) := by decide +kernel
theorem dX4_loudness_27 : decode cX4_loudness 27 = .ok (.iload_n 1, 1) := by decide +kernel
theorem dX4_loudness_28 : decode cX4_loudness 28 = .ok (.iaload, 1) := by decide +kernel
theorem dX4_loudness_29 : decode cX4_loudness 29 = .ok (.ireturn, 1) := by decide +kernel
theorem dX4_heard_0 : decode cX4_heard 0 = .ok (.iload_n 1, 1) := by decide +kernel
theorem dX4_heard_1 : decode cX4_heard 1 = .ok (.invokestatic 47, 3) := by decide +kernel
theorem dX4_heard_4 : decode cX4_heard 4 = .ok (.ifCond .eq 10, 3) := by decide +kernel
theorem dX4_heard_7 : decode cX4_heard 7 = .ok (.iload_n 2, 1) := by decide +kernel
theorem dX4_heard_8 : decode cX4_heard 8 = .ok (.invokestatic 47, 3) := by decide +kernel
theorem dX4_heard_11 : decode cX4_heard 11 = .ok (.ifCond .ne 5, 3) := by decide +kernel
theorem dX4_heard_14 : decode cX4_heard 14 = .ok (.iconst (-1), 1) := by decide +kernel
theorem dX4_heard_15 : decode cX4_heard 15 = .ok (.ireturn, 1) := by decide +kernel
theorem dX4_heard_16 : decode cX4_heard 16 = .ok (.aload_n 0, 1) := by decide +kernel
theorem dX4_heard_17 : decode cX4_heard 17 = .ok (.getfield 36, 3) := by decide +kernel
theorem dX4_heard_20 : decode cX4_heard 20 = .ok (.aload_n 0, 1) := by decide +kernel
theorem dX4_heard_21 : decode cX4_heard 21 = .ok (.getfield 10, 3) := by decide +kernel
theorem dX4_heard_24 : decode cX4_heard 24 = .ok (.invokevirtual 180, 3) := by decide +kernel
theorem dX4_heard_27 : decode cX4_heard 27 = .ok (.aload_n 0, 1) := by decide +kernel
theorem dX4_heard_28 : decode cX4_heard 28 = .ok (.getfield 36, 3) := by decide +kernel
theorem dX4_heard_31 : decode cX4_heard 31 = .ok (.aload_n 0, 1) := by decide +kernel
theorem dX4_heard_32 : decode cX4_heard 32 = .ok (.getfield 10, 3) := by decide +kernel
theorem dX4_heard_35 : decode cX4_heard 35 = .ok (.iload_n 1, 1) := by decide +kernel
theorem dX4_heard_36 : decode cX4_heard 36 = .ok (.iload_n 2, 1) := by decide +kernel
theorem dX4_heard_37 : decode cX4_heard 37 = .ok (.invokevirtual 204, 3) := by decide +kernel
theorem dX4_heard_40 : decode cX4_heard 40 = .ok (.ireturn, 1) := by decide +kernel
theorem dX4_winner_0 : decode cX4_winner 0 = .ok (.iload_n 1, 1) := by decide +kernel
theorem dX4_winner_1 : decode cX4_winner 1 = .ok (.invokestatic 47, 3) := by decide +kernel
theorem dX4_winner_4 : decode cX4_winner 4 = .ok (.ifCond .ne 5, 3) := by decide +kernel
theorem dX4_winner_7 : decode cX4_winner 7 = .ok (.iconst (-1), 1) := by decide +kernel
theorem dX4_winner_8 : decode cX4_winner 8 = .ok (.ireturn, 1) := by decide +kernel
theorem dX4_winner_9 : decode cX4_winner 9 = .ok (.aload_n 0, 1) := by decide +kernel
theorem dX4_winner_10 : decode cX4_winner 10 = .ok (.getfield 36, 3) := by decide +kernel
theorem dX4_winner_13 : decode cX4_winner 13 = .ok (.aload_n 0, 1) := by decide +kernel
theorem dX4_winner_14 : decode cX4_winner 14 = .ok (.getfield 10, 3) := by decide +kernel
theorem dX4_winner_17 : decode cX4_winner 17 = .ok (.invokevirtual 180, 3) := by decide +kernel
theorem dX4_winner_20 : decode cX4_winner 20 = .ok (.aload_n 0, 1) := by decide +kernel
theorem dX4_winner_21 : decode cX4_winner 21 = .ok (.getfield 36, 3) := by decide +kernel
theorem dX4_winner_24 : decode cX4_winner 24 = .ok (.getfield 208, 3) := by decide +kernel
theorem dX4_winner_27 : decode cX4_winner 27 = .ok (.iload_n 1, 1) := by decide +kernel
theorem dX4_winner_28 : decode cX4_winner 28 = .ok (.iaload, 1) := by decide +kernel
theorem dX4_winner_29 : decode cX4_winner 29 = .ok (.ireturn, 1) := by decide +kernel
theorem dX4_ifPlanned_0 : decode cX4_ifPlanned 0 = .ok (.aload_n 0, 1) := by decide +kernel
theorem dX4_ifPlanned_1 : decode cX4_ifPlanned 1 = .ok (.iload_n 1, 1) := by decide +kernel
theorem dX4_ifPlanned_2 : decode cX4_ifPlanned 2 = .ok (.iload_n 2, 1) := by decide +kernel
theorem dX4_ifPlanned_3 : decode cX4_ifPlanned 3 = .ok (.invokevirtual 94, 3) := by decide +kernel
theorem dX4_ifPlanned_6 : decode cX4_ifPlanned 6 = .ok (.istore_n 3, 1) := by decide +kernel
theorem dX4_ifPlanned_7 : decode cX4_ifPlanned 7 = .ok (.iload_n 3, 1) := by decide +kernel
theorem dX4_ifPlanned_8 : decode cX4_ifPlanned 8 = .ok (.ifCond .eq 5, 3) := by decide +kernel
theorem dX4_ifPlanned_11 : decode cX4_ifPlanned 11 = .ok (.iload_n 3, 1) := by decide +kernel
theorem dX4_ifPlanned_12 : decode cX4_ifPlanned 12 = .ok (.ireturn, 1) := by decide +kernel
theorem dX4_ifPlanned_13 : decode cX4_ifPlanned 13 = .ok (.aload_n 0, 1) := by decide +kernel
theorem dX4_ifPlanned_14 : decode cX4_ifPlanned 14 = .ok (.getfield 16, 3) := by decide +kernel
theorem dX4_ifPlanned_17 : decode cX4_ifPlanned 17 = .ok (.aload_n 0, 1) := by decide +kernel
theorem dX4_ifPlanned_18 : decode cX4_ifPlanned 18 = .ok (.getfield 10, 3) := by decide +kernel
theorem dX4_ifPlanned_21 : decode cX4_ifPlanned 21 = .ok (.invokevirtual 153, 3) := by decide +kernel
theorem dX4_ifPlanned_24 : decode cX4_ifPlanned 24 = .ok (.aload_n 0, 1) := by decide +kernel
theorem dX4_ifPlanned_25 : decode cX4_ifPlanned 25 = .ok (.iload_n 1, 1) := by decide +kernel
theorem dX4_ifPlanned_26 : decode cX4_ifPlanned 26 = .ok (.iload_n 2, 1) := by decide +kernel
theorem dX4_ifPlanned_27 : decode cX4_ifPlanned 27 = .ok (.invokevirtual 211, 3) := by decide +kernel
theorem dX4_ifPlanned_30 : decode cX4_ifPlanned 30 = .ok (.ireturn, 1) := by decide +kernel
theorem dX4_bestPlan_0 : decode cX4_bestPlan 0 = .ok (.iload_n 1, 1) := by decide +kernel
theorem dX4_bestPlan_1 : decode cX4_bestPlan 1 = .ok (.invokestatic 47, 3) := by decide +kernel
theorem dX4_bestPlan_4 : decode cX4_bestPlan 4 = .ok (.ifCond .ne 5, 3) := by decide +kernel
theorem dX4_bestPlan_7 : decode cX4_bestPlan 7 = .ok (.iconst (-1), 1) := by decide +kernel
theorem dX4_bestPlan_8 : decode cX4_bestPlan 8 = .ok (.ireturn, 1) := by decide +kernel
theorem dX4_bestPlan_9 : decode cX4_bestPlan 9 = .ok (.aload_n 0, 1) := by decide +kernel
theorem dX4_bestPlan_10 : decode cX4_bestPlan 10 = .ok (.getfield 16, 3) := by decide +kernel
theorem dX4_bestPlan_13 : decode cX4_bestPlan 13 = .ok (.aload_n 0, 1) := by decide +kernel
theorem dX4_bestPlan_14 : decode cX4_bestPlan 14 = .ok (.getfield 10, 3) := by decide +kernel
theorem dX4_bestPlan_17 : decode cX4_bestPlan 17 = .ok (.invokevirtual 153, 3) := by decide +kernel
theorem dX4_bestPlan_20 : decode cX4_bestPlan 20 = .ok (.iconst 0, 1) := by decide +kernel
theorem dX4_bestPlan_21 : decode cX4_bestPlan 21 = .ok (.istore_n 2, 1) := by decide +kernel
theorem dX4_bestPlan_22 : decode cX4_bestPlan 22 = .ok (.aload_n 0, 1) := by decide +kernel
theorem dX4_bestPlan_23 : decode cX4_bestPlan 23 = .ok (.iload_n 1, 1) := by decide +kernel
theorem dX4_bestPlan_24 : decode cX4_bestPlan 24 = .ok (.iload_n 2, 1) := by decide +kernel
theorem dX4_bestPlan_25 : decode cX4_bestPlan 25 = .ok (.invokevirtual 211, 3) := by decide +kernel
theorem dX4_bestPlan_28 : decode cX4_bestPlan 28 = .ok (.istore_n 3, 1) := by decide +kernel
theorem dX4_bestPlan_29 : decode cX4_bestPlan 29 = .ok (.aload_n 0, 1) := by decide +kernel
theorem dX4_bestPlan_30 : decode cX4_bestPlan 30 = .ok (.getfield 36, 3) := by decide +kernel
theorem dX4_bestPlan_33 : decode cX4_bestPlan 33 = .ok (.getfield 201, 3) := by decide +kernel
theorem dX4_bestPlan_36 : decode cX4_bestPlan 36 = .ok (.iload_n 1, 1) := by decide +kernel
theorem dX4_bestPlan_37 : decode cX4_bestPlan 37 = .ok (.iaload, 1) := by decide +kernel
theorem dX4_bestPlan_38 : decode cX4_bestPlan 38 = .ok (.istore 4, 2) := by decide +kernel
theorem dX4_bestPlan_40 : decode cX4_bestPlan 40 = .ok (.iconst 1, 1) := by decide +kernel
theorem dX4_bestPlan_41 : decode cX4_bestPlan 41 = .ok (.istore 5, 2) := by decide +kernel
theorem dX4_bestPlan_43 : decode cX4_bestPlan 43 = .ok (.iload 5, 2) := by decide +kernel
theorem dX4_bestPlan_45 : decode cX4_bestPlan 45 = .ok (.aload_n 0, 1) := by decide +kernel
theorem dX4_bestPlan_46 : decode cX4_bestPlan 46 = .ok (.getfield 10, 3) := by decide +kernel
theorem dX4_bestPlan_49 : decode cX4_bestPlan 49 = .ok (.iload_n 1, 1) := by decide +kernel
theorem dX4_bestPlan_50 : decode cX4_bestPlan 50 = .ok (.invokevirtual 214, 3) := by decide +kernel
theorem dX4_bestPlan_53 : decode cX4_bestPlan 53 = .ok (.if_icmp .gt 58, 3) := by decide +kernel
theorem dX4_bestPlan_56 : decode cX4_bestPlan 56 = .ok (.aload_n 0, 1) := by decide +kernel
theorem dX4_bestPlan_57 : decode cX4_bestPlan 57 = .ok (.iload_n 1, 1) := by decide +kernel
theorem dX4_bestPlan_58 : decode cX4_bestPlan 58 = .ok (.iload 5, 2) := by decide +kernel
theorem dX4_bestPlan_60 : decode cX4_bestPlan 60 = .ok (.invokevirtual 211, 3) := by decide +kernel
theorem dX4_bestPlan_63 : decode cX4_bestPlan 63 = .ok (.istore 6, 2) := by decide +kernel
theorem dX4_bestPlan_65 : decode cX4_bestPlan 65 = .ok (.aload_n 0, 1) := by decide +kernel
theorem dX4_bestPlan_66 : decode cX4_bestPlan 66 = .ok (.getfield 36, 3) := by decide +kernel
theorem dX4_bestPlan_69 : decode cX4_bestPlan 69 = .ok (.getfield 201, 3) := by decide +kernel
theorem dX4_bestPlan_72 : decode cX4_bestPlan 72 = .ok (.iload_n 1, 1) := by decide +kernel
theorem dX4_bestPlan_73 : decode cX4_bestPlan 73 = .ok (.iaload, 1) := by decide +kernel
theorem dX4_bestPlan_74 : decode cX4_bestPlan 74 = .ok (.istore 7, 2) := by decide +kernel
theorem dX4_bestPlan_76 : decode cX4_bestPlan 76 = .ok (.iload 6, 2) := by decide +kernel
theorem dX4_bestPlan_78 : decode cX4_bestPlan 78 = .ok (.iload_n 3, 1) := by decide +kernel
theorem dX4_bestPlan_79 : decode cX4_bestPlan 79 = .ok (.if_icmp .gt 16, 3) := by decide +kernel
theorem dX4_bestPlan_82 : decode cX4_bestPlan 82 = .ok (.iload 6, 2) := by decide +kernel
theorem dX4_bestPlan_84 : decode cX4_bestPlan 84 = .ok (.iload_n 3, 1) := by decide +kernel
theorem dX4_bestPlan_85 : decode cX4_bestPlan 85 = .ok (.if_icmp .ne 20, 3) := by decide +kernel
theorem dX4_bestPlan_88 : decode cX4_bestPlan 88 = .ok (.iload 7, 2) := by decide +kernel
theorem dX4_bestPlan_90 : decode cX4_bestPlan 90 = .ok (.iload 4, 2) := by decide +kernel
theorem dX4_bestPlan_92 : decode cX4_bestPlan 92 = .ok (.if_icmp .ge 13, 3) := by decide +kernel
theorem dX4_bestPlan_95 : decode cX4_bestPlan 95 = .ok (.iload 5, 2) := by decide +kernel
theorem dX4_bestPlan_97 : decode cX4_bestPlan 97 = .ok (.istore_n 2, 1) := by decide +kernel
theorem dX4_bestPlan_98 : decode cX4_bestPlan 98 = .ok (.iload 6, 2) := by decide +kernel
theorem dX4_bestPlan_100 : decode cX4_bestPlan 100 = .ok (.istore_n 3, 1) := by decide +kernel
theorem dX4_bestPlan_101 : decode cX4_bestPlan 101 = .ok (.iload 7, 2) := by decide +kernel
theorem dX4_bestPlan_103 : decode cX4_bestPlan 103 = .ok (.istore 4, 2) := by decide +kernel
theorem dX4_bestPlan_105 : decode cX4_bestPlan 105 = .ok (.iinc 5 1, 3) := by decide +kernel
theorem dX4_bestPlan_108 : decode cX4_bestPlan 108 = .ok (.goto (-65), 3) := by decide +kernel
theorem dX4_bestPlan_111 : decode cX4_bestPlan 111 = .ok (.iload_n 2, 1) := by decide +kernel
theorem dX4_bestPlan_112 : decode cX4_bestPlan 112 = .ok (.ireturn, 1) := by decide +kernel
theorem dX4_pointsIn_0 : decode cX4_pointsIn 0 = .ok (.iload_n 1, 1) := by decide +kernel
theorem dX4_pointsIn_1 : decode cX4_pointsIn 1 = .ok (.invokestatic 47, 3) := by decide +kernel
theorem dX4_pointsIn_4 : decode cX4_pointsIn 4 = .ok (.ifCond .ne 5, 3) := by decide +kernel
theorem dX4_pointsIn_7 : decode cX4_pointsIn 7 = .ok (.iconst (-1), 1) := by decide +kernel
theorem dX4_pointsIn_8 : decode cX4_pointsIn 8 = .ok (.ireturn, 1) := by decide +kernel
theorem dX4_pointsIn_9 : decode cX4_pointsIn 9 = .ok (.iload_n 2, 1) := by decide +kernel
theorem dX4_pointsIn_10 : decode cX4_pointsIn 10 = .ok (.invokestatic 119, 3) := by decide +kernel
theorem dX4_pointsIn_13 : decode cX4_pointsIn 13 = .ok (.istore_n 3, 1) := by decide +kernel
theorem dX4_pointsIn_14 : decode cX4_pointsIn 14 = .ok (.iload_n 3, 1) := by decide +kernel
theorem dX4_pointsIn_15 : decode cX4_pointsIn 15 = .ok (.ifCond .eq 5, 3) := by decide +kernel
theorem dX4_pointsIn_18 : decode cX4_pointsIn 18 = .ok (.iload_n 3, 1) := by decide +kernel
theorem dX4_pointsIn_19 : decode cX4_pointsIn 19 = .ok (.ireturn, 1) := by decide +kernel
theorem dX4_pointsIn_20 : decode cX4_pointsIn 20 = .ok (.aload_n 0, 1) := by decide +kernel
theorem dX4_pointsIn_21 : decode cX4_pointsIn 21 = .ok (.getfield 16, 3) := by decide +kernel
theorem dX4_pointsIn_24 : decode cX4_pointsIn 24 = .ok (.aload_n 0, 1) := by decide +kernel
theorem dX4_pointsIn_25 : decode cX4_pointsIn 25 = .ok (.getfield 10, 3) := by decide +kernel
theorem dX4_pointsIn_28 : decode cX4_pointsIn 28 = .ok (.invokevirtual 153, 3) := by decide +kernel
theorem dX4_pointsIn_31 : decode cX4_pointsIn 31 = .ok (.aload_n 0, 1) := by decide +kernel
theorem dX4_pointsIn_32 : decode cX4_pointsIn 32 = .ok (.aload_n 0, 1) := by decide +kernel
theorem dX4_pointsIn_33 : decode cX4_pointsIn 33 = .ok (.getfield 16, 3) := by decide +kernel
theorem dX4_pointsIn_36 : decode cX4_pointsIn 36 = .ok (.iload_n 2, 1) := by decide +kernel
theorem dX4_pointsIn_37 : decode cX4_pointsIn 37 = .ok (.invokevirtual 123, 3) := by decide +kernel
theorem dX4_pointsIn_40 : decode cX4_pointsIn 40 = .ok (.aload_n 0, 1) := by decide +kernel
theorem dX4_pointsIn_41 : decode cX4_pointsIn 41 = .ok (.getfield 16, 3) := by decide +kernel
theorem dX4_pointsIn_44 : decode cX4_pointsIn 44 = .ok (.getfield 165, 3) := by decide +kernel
theorem dX4_pointsIn_47 : decode cX4_pointsIn 47 = .ok (.iload_n 1, 1) := by decide +kernel
theorem dX4_pointsIn_48 : decode cX4_pointsIn 48 = .ok (.iaload, 1) := by decide +kernel
theorem dX4_pointsIn_49 : decode cX4_pointsIn 49 = .ok (.ireturn, 1) := by decide +kernel
theorem dX4_share_0 : decode cX4_share 0 = .ok (.aload_n 0, 1) := by decide +kernel
theorem dX4_share_1 : decode cX4_share 1 = .ok (.getfield 10, 3) := by decide +kernel
theorem dX4_share_4 : decode cX4_share 4 = .ok (.invokevirtual 195, 3) := by decide +kernel
theorem dX4_share_7 : decode cX4_share 7 = .ok (.istore_n 2, 1) := by decide +kernel
theorem dX4_share_8 : decode cX4_share 8 = .ok (.iload_n 1, 1) := by decide +kernel
theorem dX4_share_9 : decode cX4_share 9 = .ok (.invokestatic 47, 3) := by decide +kernel
theorem dX4_share_12 : decode cX4_share 12 = .ok (.ifCond .eq 7, 3) := by decide +kernel
theorem dX4_share_15 : decode cX4_share 15 = .ok (.iload_n 2, 1) := by decide +kernel
theorem dX4_share_16 : decode cX4_share 16 = .ok (.ifCond .ne 5, 3) := by decide +kernel
theorem dX4_share_19 : decode cX4_share 19 = .ok (.dconst 0, 1) := by decide +kernel
theorem dX4_share_20 : decode cX4_share 20 = .ok (.dreturn, 1) := by decide +kernel
theorem dX4_share_21 : decode cX4_share 21 = .ok (.aload_n 0, 1) := by decide +kernel
theorem dX4_share_22 : decode cX4_share 22 = .ok (.getfield 10, 3) := by decide +kernel
theorem dX4_share_25 : decode cX4_share 25 = .ok (.getfield 165, 3) := by decide +kernel
theorem dX4_share_28 : decode cX4_share 28 = .ok (.iload_n 1, 1) := by decide +kernel
theorem dX4_share_29 : decode cX4_share 29 = .ok (.iaload, 1) := by decide +kernel
theorem dX4_share_30 : decode cX4_share 30 = .ok (.i2d, 1) := by decide +kernel
theorem dX4_share_31 : decode cX4_share 31 = .ok (.iload_n 2, 1) := by decide +kernel
theorem dX4_share_32 : decode cX4_share 32 = .ok (.i2d, 1) := by decide +kernel
theorem dX4_share_33 : decode cX4_share 33 = .ok (.ddiv, 1) := by decide +kernel
theorem dX4_share_34 : decode cX4_share 34 = .ok (.dreturn, 1) := by decide +kernel
theorem dX4_isTown_0 : decode cX4_isTown 0 = .ok (.iload_n 0, 1) := by decide +kernel
theorem dX4_isTown_1 : decode cX4_isTown 1 = .ok (.ifCond .lt 13, 3) := by decide +kernel
theorem dX4_isTown_4 : decode cX4_isTown 4 = .ok (.iload_n 0, 1) := by decide +kernel
theorem dX4_isTown_5 : decode cX4_isTown 5 = .ok (.bipush 6, 2) := by decide +kernel
theorem dX4_isTown_7 : decode cX4_isTown 7 = .ok (.if_icmp .ge 7, 3) := by decide +kernel
theorem dX4_isTown_10 : decode cX4_isTown 10 = .ok (.iconst 1, 1) := by decide +kernel
theorem dX4_isTown_11 : decode cX4_isTown 11 = .ok (.goto 4, 3) := by decide +kernel
theorem dX4_isTown_14 : decode cX4_isTown 14 = .ok (.iconst 0, 1) := by decide +kernel
theorem dX4_isTown_15 : decode cX4_isTown 15 = .ok (.ireturn, 1) := by decide +kernel
theorem dX4_slot_0 : decode cX4_slot 0 = .ok (.iload_n 0, 1) := by decide +kernel
theorem dX4_slot_1 : decode cX4_slot 1 = .ok (.iconst 5, 1) := by decide +kernel
theorem dX4_slot_2 : decode cX4_slot 2 = .ok (.imul, 1) := by decide +kernel
theorem dX4_slot_3 : decode cX4_slot 3 = .ok (.iload_n 1, 1) := by decide +kernel
theorem dX4_slot_4 : decode cX4_slot 4 = .ok (.iadd, 1) := by decide +kernel
theorem dX4_slot_5 : decode cX4_slot 5 = .ok (.ireturn, 1) := by decide +kernel
theorem dX4_ringersFor_0 : decode cX4_ringersFor 0 = .ok (.iload_n 0, 1) := by decide +kernel
theorem dX4_ringersFor_1 : decode cX4_ringersFor 1 = .ok (.iconst 1, 1) := by decide +kernel
theorem dX4_ringersFor_2 : decode cX4_ringersFor 2 = .ok (.iadd, 1) := by decide +kernel
theorem dX4_ringersFor_3 : decode cX4_ringersFor 3 = .ok (.iconst 2, 1) := by decide +kernel
theorem dX4_ringersFor_4 : decode cX4_ringersFor 4 = .ok (.idiv, 1) := by decide +kernel
theorem dX4_ringersFor_5 : decode cX4_ringersFor 5 = .ok (.ireturn, 1) := by decide +kernel
theorem dX4_isInRange_0 : decode cX4_isInRange 0 = .ok (.iload_n 0, 1) := by decide +kernel
theorem dX4_isInRange_1 : decode cX4_isInRange 1 = .ok (.ifCond .ne 19, 3) := by decide +kernel
theorem dX4_isInRange_4 : decode cX4_isInRange 4 = .ok (.iload_n 1, 1) := by decide +kernel
theorem dX4_isInRange_5 : decode cX4_isInRange 5 = .ok (.ifCond .lt 13, 3) := by decide +kernel
theorem dX4_isInRange_8 : decode cX4_isInRange 8 = .ok (.iload_n 1, 1) := by decide +kernel
theorem dX4_isInRange_9 : decode cX4_isInRange 9 = .ok (.bipush 9, 2) := by decide +kernel
theorem dX4_isInRange_11 : decode cX4_isInRange 11 = .ok (.if_icmp .gt 7, 3) := by decide +kernel
theorem dX4_isInRange_14 : decode cX4_isInRange 14 = .ok (.iconst 1, 1) := by decide +kernel
theorem dX4_isInRange_15 : decode cX4_isInRange 15 = .ok (.goto 4, 3) := by decide +kernel
theorem dX4_isInRange_18 : decode cX4_isInRange 18 = .ok (.iconst 0, 1) := by decide +kernel
theorem dX4_isInRange_19 : decode cX4_isInRange 19 = .ok (.ireturn, 1) := by decide +kernel
theorem dX4_isInRange_20 : decode cX4_isInRange 20 = .ok (.iload_n 1, 1) := by decide +kernel
theorem dX4_isInRange_21 : decode cX4_isInRange 21 = .ok (.iconst 1, 1) := by decide +kernel
theorem dX4_isInRange_22 : decode cX4_isInRange 22 = .ok (.if_icmp .lt 12, 3) := by decide +kernel
theorem dX4_isInRange_25 : decode cX4_isInRange 25 = .ok (.iload_n 1, 1) := by decide +kernel
theorem dX4_isInRange_26 : decode cX4_isInRange 26 = .ok (.iconst 3, 1) := by decide +kernel
theorem dX4_isInRange_27 : decode cX4_isInRange 27 = .ok (.if_icmp .gt 7, 3) := by decide +kernel
theorem dX4_isInRange_30 : decode cX4_isInRange 30 = .ok (.iconst 1, 1) := by decide +kernel
theorem dX4_isInRange_31 : decode cX4_isInRange 31 = .ok (.goto 4, 3) := by decide +kernel
theorem dX4_isInRange_34 : decode cX4_isInRange 34 = .ok (.iconst 0, 1) := by decide +kernel
theorem dX4_isInRange_35 : decode cX4_isInRange 35 = .ok (.ireturn, 1) := by decide +kernel
theorem dX4_planError_0 : decode cX4_planError 0 = .ok (.iload_n 1, 1) := by decide +kernel
theorem dX4_planError_1 : decode cX4_planError 1 = .ok (.invokestatic 47, 3) := by decide +kernel
theorem dX4_planError_4 : decode cX4_planError 4 = .ok (.ifCond .ne 5, 3) := by decide +kernel
theorem dX4_planError_7 : decode cX4_planError 7 = .ok (.iconst (-1), 1) := by decide +kernel
theorem dX4_planError_8 : decode cX4_planError 8 = .ok (.ireturn, 1) := by decide +kernel
theorem dX4_planError_9 : decode cX4_planError 9 = .ok (.iload_n 2, 1) := by decide +kernel
theorem dX4_planError_10 : decode cX4_planError 10 = .ok (.ifCond .lt 15, 3) := by decide +kernel
theorem dX4_planError_13 : decode cX4_planError 13 = .ok (.iload_n 2, 1) := by decide +kernel
theorem dX4_planError_14 : decode cX4_planError 14 = .ok (.aload_n 0, 1) := by decide +kernel
theorem dX4_planError_15 : decode cX4_planError 15 = .ok (.getfield 10, 3) := by decide +kernel
theorem dX4_planError_18 : decode cX4_planError 18 = .ok (.iload_n 1, 1) := by decide +kernel
theorem dX4_planError_19 : decode cX4_planError 19 = .ok (.invokevirtual 214, 3) := by decide +kernel
theorem dX4_planError_22 : decode cX4_planError 22 = .ok (.if_icmp .le 6, 3) := by decide +kernel
theorem dX4_planError_25 : decode cX4_planError 25 = .ok (.bipush (-2), 2) := by decide +kernel
theorem dX4_planError_27 : decode cX4_planError 27 = .ok (.ireturn, 1) := by decide +kernel
theorem dX4_planError_28 : decode cX4_planError 28 = .ok (.iconst 0, 1) := by decide +kernel
theorem dX4_planError_29 : decode cX4_planError 29 = .ok (.ireturn, 1) := by decide +kernel
theorem dX4_changePlan_0 : decode cX4_changePlan 0 = .ok (.aload_n 0, 1) := by decide +kernel
theorem dX4_changePlan_1 : decode cX4_changePlan 1 = .ok (.getfield 10, 3) := by decide +kernel
theorem dX4_changePlan_4 : decode cX4_changePlan 4 = .ok (.getfield 159, 3) := by decide +kernel
theorem dX4_changePlan_7 : decode cX4_changePlan 7 = .ok (.iload_n 1, 1) := by decide +kernel
theorem dX4_changePlan_8 : decode cX4_changePlan 8 = .ok (.iaload, 1) := by decide +kernel
theorem dX4_changePlan_9 : decode cX4_changePlan 9 = .ok (.istore_n 3, 1) := by decide +kernel
theorem dX4_changePlan_10 : decode cX4_changePlan 10 = .ok (.aload_n 0, 1) := by decide +kernel
theorem dX4_changePlan_11 : decode cX4_changePlan 11 = .ok (.getfield 10, 3) := by decide +kernel
theorem dX4_changePlan_14 : decode cX4_changePlan 14 = .ok (.getfield 159, 3) := by decide +kernel
theorem dX4_changePlan_17 : decode cX4_changePlan 17 = .ok (.iload_n 1, 1) := by decide +kernel
theorem dX4_changePlan_18 : decode cX4_changePlan 18 = .ok (.iload_n 2, 1) := by decide +kernel
theorem dX4_changePlan_19 : decode cX4_changePlan 19 = .ok (.iastore, 1) := by decide +kernel
theorem dX4_changePlan_20 : decode cX4_changePlan 20 = .ok (.iload_n 3, 1) := by decide +kernel
theorem dX4_changePlan_21 : decode cX4_changePlan 21 = .ok (.ireturn, 1) := by decide +kernel
theorem dX4_spliceError_0 : decode cX4_spliceError 0 = .ok (.aload_n 0, 1) := by decide +kernel
theorem dX4_spliceError_1 : decode cX4_spliceError 1 = .ok (.getfield 10, 3) := by decide +kernel
theorem dX4_spliceError_4 : decode cX4_spliceError 4 = .ok (.iload_n 1, 1) := by decide +kernel
theorem dX4_spliceError_5 : decode cX4_spliceError 5 = .ok (.iload_n 2, 1) := by decide +kernel
theorem dX4_spliceError_6 : decode cX4_spliceError 6 = .ok (.invokevirtual 63, 3) := by decide +kernel
theorem dX4_spliceError_9 : decode cX4_spliceError 9 = .ok (.ifCond .ne 5, 3) := by decide +kernel
theorem dX4_spliceError_12 : decode cX4_spliceError 12 = .ok (.iconst (-1), 1) := by decide +kernel
theorem dX4_spliceError_13 : decode cX4_spliceError 13 = .ok (.ireturn, 1) := by decide +kernel
theorem dX4_spliceError_14 : decode cX4_spliceError 14 = .ok (.aload_n 0, 1) := by decide +kernel
theorem dX4_spliceError_15 : decode cX4_spliceError 15 = .ok (.getfield 10, 3) := by decide +kernel
theorem dX4_spliceError_18 : decode cX4_spliceError 18 = .ok (.getfield 171, 3) := by decide +kernel
theorem dX4_spliceError_21 : decode cX4_spliceError 21 = .ok (.iload_n 1, 1) := by decide +kernel
theorem dX4_spliceError_22 : decode cX4_spliceError 22 = .ok (.iload_n 2, 1) := by decide +kernel
theorem dX4_spliceError_23 : decode cX4_spliceError 23 = .ok (.invokestatic 70, 3) := by decide +kernel
theorem dX4_spliceError_26 : decode cX4_spliceError 26 = .ok (.iaload, 1) := by decide +kernel
theorem dX4_spliceError_27 : decode cX4_spliceError 27 = .ok (.ifCond .eq 15, 3) := by decide +kernel
theorem dX4_spliceError_30 : decode cX4_spliceError 30 = .ok (.aload_n 0, 1) := by decide +kernel
theorem dX4_spliceError_31 : decode cX4_spliceError 31 = .ok (.getfield 10, 3) := by decide +kernel
theorem dX4_spliceError_34 : decode cX4_spliceError 34 = .ok (.iload_n 1, 1) := by decide +kernel
theorem dX4_spliceError_35 : decode cX4_spliceError 35 = .ok (.invokevirtual 217, 3) := by decide +kernel
theorem dX4_spliceError_38 : decode cX4_spliceError 38 = .ok (.iconst 2, 1) := by decide +kernel
theorem dX4_spliceError_39 : decode cX4_spliceError 39 = .ok (.if_icmp .ge 6, 3) := by decide +kernel
theorem dX4_spliceError_42 : decode cX4_spliceError 42 = .ok (.bipush (-4), 2) := by decide +kernel
theorem dX4_spliceError_44 : decode cX4_spliceError 44 = .ok (.ireturn, 1) := by decide +kernel
theorem dX4_spliceError_45 : decode cX4_spliceError 45 = .ok (.iconst 0, 1) := by decide +kernel
theorem dX4_spliceError_46 : decode cX4_spliceError 46 = .ok (.ireturn, 1) := by decide +kernel
theorem dX4_mendRope_0 : decode cX4_mendRope 0 = .ok (.iload_n 1, 1) := by decide +kernel
theorem dX4_mendRope_1 : decode cX4_mendRope 1 = .ok (.iload_n 2, 1) := by decide +kernel
theorem dX4_mendRope_2 : decode cX4_mendRope 2 = .ok (.invokestatic 70, 3) := by decide +kernel
theorem dX4_mendRope_5 : decode cX4_mendRope 5 = .ok (.istore_n 3, 1) := by decide +kernel
theorem dX4_mendRope_6 : decode cX4_mendRope 6 = .ok (.aload_n 0, 1) := by decide +kernel
theorem dX4_mendRope_7 : decode cX4_mendRope 7 = .ok (.getfield 10, 3) := by decide +kernel
theorem dX4_mendRope_10 : decode cX4_mendRope 10 = .ok (.getfield 171, 3) := by decide +kernel
theorem dX4_mendRope_13 : decode cX4_mendRope 13 = .ok (.iload_n 3, 1) := by decide +kernel
theorem dX4_mendRope_14 : decode cX4_mendRope 14 = .ok (.iaload, 1) := by decide +kernel
theorem dX4_mendRope_15 : decode cX4_mendRope 15 = .ok (.istore 4, 2) := by decide +kernel
theorem dX4_mendRope_17 : decode cX4_mendRope 17 = .ok (.aload_n 0, 1) := by decide +kernel
theorem dX4_mendRope_18 : decode cX4_mendRope 18 = .ok (.getfield 10, 3) := by decide +kernel
theorem dX4_mendRope_21 : decode cX4_mendRope 21 = .ok (.getfield 171, 3) := by decide +kernel
theorem dX4_mendRope_24 : decode cX4_mendRope 24 = .ok (.iload_n 3, 1) := by decide +kernel
theorem dX4_mendRope_25 : decode cX4_mendRope 25 = .ok (.iconst 0, 1) := by decide +kernel
theorem dX4_mendRope_26 : decode cX4_mendRope 26 = .ok (.iastore, 1) := by decide +kernel
theorem dX4_mendRope_27 : decode cX4_mendRope 27 = .ok (.aload_n 0, 1) := by decide +kernel
theorem dX4_mendRope_28 : decode cX4_mendRope 28 = .ok (.getfield 10, 3) := by decide +kernel
theorem dX4_mendRope_31 : decode cX4_mendRope 31 = .ok (.getfield 86, 3) := by decide +kernel
theorem dX4_mendRope_34 : decode cX4_mendRope 34 = .ok (.iload_n 1, 1) := by decide +kernel
theorem dX4_mendRope_35 : decode cX4_mendRope 35 = .ok (.dup2, 1) := by decide +kernel
theorem dX4_mendRope_36 : decode cX4_mendRope 36 = .ok (.iaload, 1) := by decide +kernel
theorem dX4_mendRope_37 : decode cX4_mendRope 37 = .ok (.iconst 2, 1) := by decide +kernel
theorem dX4_mendRope_38 : decode cX4_mendRope 38 = .ok (.iadd, 1) := by decide +kernel
theorem dX4_mendRope_39 : decode cX4_mendRope 39 = .ok (.iastore, 1) := by decide +kernel
theorem dX4_mendRope_40 : decode cX4_mendRope 40 = .ok (.iload 4, 2) := by decide +kernel
theorem dX4_mendRope_42 : decode cX4_mendRope 42 = .ok (.ireturn, 1) := by decide +kernel
theorem dX4_turnsError_0 : decode cX4_turnsError 0 = .ok (.iload_n 0, 1) := by decide +kernel
theorem dX4_turnsError_1 : decode cX4_turnsError 1 = .ok (.iconst 1, 1) := by decide +kernel
theorem dX4_turnsError_2 : decode cX4_turnsError 2 = .ok (.if_icmp .lt 9, 3) := by decide +kernel
theorem dX4_turnsError_5 : decode cX4_turnsError 5 = .ok (.iload_n 0, 1) := by decide +kernel
theorem dX4_turnsError_6 : decode cX4_turnsError 6 = .ok (.bipush 50, 2) := by decide +kernel
theorem dX4_turnsError_8 : decode cX4_turnsError 8 = .ok (.if_icmp .le 8, 3) := by decide +kernel
theorem dX4_turnsError_11 : decode cX4_turnsError 11 = .ok (.bipush (-2), 2) := by decide +kernel
theorem dX4_turnsError_13 : decode cX4_turnsError 13 = .ok (.goto 4, 3) := by decide +kernel
theorem dX4_turnsError_16 : decode cX4_turnsError 16 = .ok (.iconst 0, 1) := by decide +kernel
theorem dX4_turnsError_17 : decode cX4_turnsError 17 = .ok (.ireturn, 1) := by decide +kernel
theorem dX4_makeTurns_0 : decode cX4_makeTurns 0 = .ok (.iconst 0, 1) := by decide +kernel
theorem dX4_makeTurns_1 : decode cX4_makeTurns 1 = .ok (.istore_n 3, 1) := by decide +kernel
theorem dX4_makeTurns_2 : decode cX4_makeTurns 2 = .ok (.iload_n 3, 1) := by decide +kernel
theorem dX4_makeTurns_3 : decode cX4_makeTurns 3 = .ok (.iload_n 2, 1) := by decide +kernel
theorem dX4_makeTurns_4 : decode cX4_makeTurns 4 = .ok (.if_icmp .ge 25, 3) := by decide +kernel
theorem dX4_makeTurns_7 : decode cX4_makeTurns 7 = .ok (.aload_n 0, 1) := by decide +kernel
theorem dX4_makeTurns_8 : decode cX4_makeTurns 8 = .ok (.getfield 36, 3) := by decide +kernel
theorem dX4_makeTurns_11 : decode cX4_makeTurns 11 = .ok (.aload_n 1, 1) := by decide +kernel
theorem dX4_makeTurns_12 : decode cX4_makeTurns 12 = .ok (.invokevirtual 180, 3) := by decide +kernel
theorem dX4_makeTurns_15 : decode cX4_makeTurns 15 = .ok (.aload_n 1, 1) := by decide +kernel
theorem dX4_makeTurns_16 : decode cX4_makeTurns 16 = .ok (.aload_n 0, 1) := by decide +kernel
theorem dX4_makeTurns_17 : decode cX4_makeTurns 17 = .ok (.getfield 36, 3) := by decide +kernel
theorem dX4_makeTurns_20 : decode cX4_makeTurns 20 = .ok (.invokevirtual 220, 3) := by decide +kernel
theorem dX4_makeTurns_23 : decode cX4_makeTurns 23 = .ok (.iinc 3 1, 3) := by decide +kernel
theorem dX4_makeTurns_26 : decode cX4_makeTurns 26 = .ok (.goto (-24), 3) := by decide +kernel
theorem dX4_makeTurns_29 : decode cX4_makeTurns 29 = .ok (.return_, 1) := by decide +kernel
theorem dX4_pointsWithPlan_0 : decode cX4_pointsWithPlan 0 = .ok (.aload_n 0, 1) := by decide +kernel
theorem dX4_pointsWithPlan_1 : decode cX4_pointsWithPlan 1 = .ok (.getfield 16, 3) := by decide +kernel
theorem dX4_pointsWithPlan_4 : decode cX4_pointsWithPlan 4 = .ok (.getfield 159, 3) := by decide +kernel
theorem dX4_pointsWithPlan_7 : decode cX4_pointsWithPlan 7 = .ok (.iload_n 1, 1) := by decide +kernel
theorem dX4_pointsWithPlan_8 : decode cX4_pointsWithPlan 8 = .ok (.iload_n 2, 1) := by decide +kernel
theorem dX4_pointsWithPlan_9 : decode cX4_pointsWithPlan 9 = .ok (.iastore, 1) := by decide +kernel
theorem dX4_pointsWithPlan_10 : decode cX4_pointsWithPlan 10 = .ok (.aload_n 0, 1) := by decide +kernel
theorem dX4_pointsWithPlan_11 : decode cX4_pointsWithPlan 11 = .ok (.getfield 36, 3) := by decide +kernel
theorem dX4_pointsWithPlan_14 : decode cX4_pointsWithPlan 14 = .ok (.aload_n 0, 1) := by decide +kernel
theorem dX4_pointsWithPlan_15 : decode cX4_pointsWithPlan 15 = .ok (.getfield 16, 3) := by decide +kernel
theorem dX4_pointsWithPlan_18 : decode cX4_pointsWithPlan 18 = .ok (.invokevirtual 180, 3) := by decide +kernel
theorem dX4_pointsWithPlan_21 : decode cX4_pointsWithPlan 21 = .ok (.aload_n 0, 1) := by decide +kernel
theorem dX4_pointsWithPlan_22 : decode cX4_pointsWithPlan 22 = .ok (.getfield 36, 3) := by decide +kernel
theorem dX4_pointsWithPlan_25 : decode cX4_pointsWithPlan 25 = .ok (.iload_n 1, 1) := by decide +kernel
theorem dX4_pointsWithPlan_26 : decode cX4_pointsWithPlan 26 = .ok (.invokevirtual 224, 3) := by decide +kernel
theorem dX4_pointsWithPlan_29 : decode cX4_pointsWithPlan 29 = .ok (.ireturn, 1) := by decide +kernel
theorem dX4_carryOut_0 : decode cX4_carryOut 0 = .ok (.aload_n 0, 1) := by decide +kernel
theorem dX4_carryOut_1 : decode cX4_carryOut 1 = .ok (.getfield 43, 3) := by decide +kernel
theorem dX4_carryOut_4 : decode cX4_carryOut 4 = .ok (.iload_n 1, 1) := by decide +kernel
theorem dX4_carryOut_5 : decode cX4_carryOut 5 = .ok (.invokevirtual 227, 3) := by decide +kernel
theorem dX4_carryOut_8 : decode cX4_carryOut 8 = .ok (.istore_n 2, 1) := by decide +kernel
theorem dX4_carryOut_9 : decode cX4_carryOut 9 = .ok (.aload_n 0, 1) := by decide +kernel
theorem dX4_carryOut_10 : decode cX4_carryOut 10 = .ok (.getfield 43, 3) := by decide +kernel
theorem dX4_carryOut_13 : decode cX4_carryOut 13 = .ok (.iload_n 1, 1) := by decide +kernel
theorem dX4_carryOut_14 : decode cX4_carryOut 14 = .ok (.iconst 1, 1) := by decide +kernel
theorem dX4_carryOut_15 : decode cX4_carryOut 15 = .ok (.iadd, 1) := by decide +kernel
theorem dX4_carryOut_16 : decode cX4_carryOut 16 = .ok (.invokevirtual 230, 3) := by decide +kernel
theorem dX4_carryOut_19 : decode cX4_carryOut 19 = .ok (.istore_n 3, 1) := by decide +kernel
theorem dX4_carryOut_20 : decode cX4_carryOut 20 = .ok (.iload_n 2, 1) := by decide +kernel
theorem dX4_carryOut_21 : decode cX4_carryOut 21 = .ok (.bipush 116, 2) := by decide +kernel
theorem dX4_carryOut_23 : decode cX4_carryOut 23 = .ok (.if_icmp .ne 14, 3) := by decide +kernel
theorem dX4_carryOut_26 : decode cX4_carryOut 26 = .ok (.aload_n 0, 1) := by decide +kernel
theorem dX4_carryOut_27 : decode cX4_carryOut 27 = .ok (.aload_n 0, 1) := by decide +kernel
theorem dX4_carryOut_28 : decode cX4_carryOut 28 = .ok (.getfield 10, 3) := by decide +kernel
theorem dX4_carryOut_31 : decode cX4_carryOut 31 = .ok (.iload_n 3, 1) := by decide +kernel
theorem dX4_carryOut_32 : decode cX4_carryOut 32 = .ok (.invokevirtual 123, 3) := by decide +kernel
theorem dX4_carryOut_35 : decode cX4_carryOut 35 = .ok (.iconst 1, 1) := by decide +kernel
theorem dX4_carryOut_36 : decode cX4_carryOut 36 = .ok (.ireturn, 1) := by decide +kernel
theorem dX4_carryOut_37 : decode cX4_carryOut 37 = .ok (.iload_n 2, 1) := by decide +kernel
theorem dX4_carryOut_38 : decode cX4_carryOut 38 = .ok (.bipush 115, 2) := by decide +kernel
theorem dX4_carryOut_40 : decode cX4_carryOut 40 = .ok (.if_icmp .ne 37, 3) := by decide +kernel
theorem dX4_carryOut_43 : decode cX4_carryOut 43 = .ok (.aload_n 0, 1) := by decide +kernel
theorem dX4_carryOut_44 : decode cX4_carryOut 44 = .ok (.getfield 43, 3) := by decide +kernel
theorem dX4_carryOut_47 : decode cX4_carryOut 47 = .ok (.iload_n 1, 1) := by decide +kernel
theorem dX4_carryOut_48 : decode cX4_carryOut 48 = .ok (.iconst 2, 1) := by decide +kernel
theorem dX4_carryOut_49 : decode cX4_carryOut 49 = .ok (.iadd, 1) := by decide +kernel
theorem dX4_carryOut_50 : decode cX4_carryOut 50 = .ok (.invokevirtual 230, 3) := by decide +kernel
theorem dX4_carryOut_53 : decode cX4_carryOut 53 = .ok (.istore 4, 2) := by decide +kernel
theorem dX4_carryOut_55 : decode cX4_carryOut 55 = .ok (.aload_n 0, 1) := by decide +kernel
theorem dX4_carryOut_56 : decode cX4_carryOut 56 = .ok (.iload_n 3, 1) := by decide +kernel
theorem dX4_carryOut_57 : decode cX4_carryOut 57 = .ok (.iload 4, 2) := by decide +kernel
theorem dX4_carryOut_59 : decode cX4_carryOut 59 = .ok (.invokevirtual 100, 3) := by decide +kernel
theorem dX4_carryOut_62 : decode cX4_carryOut 62 = .ok (.ifCond .eq 5, 3) := by decide +kernel
theorem dX4_carryOut_65 : decode cX4_carryOut 65 = .ok (.iconst 0, 1) := by decide +kernel
theorem dX4_carryOut_66 : decode cX4_carryOut 66 = .ok (.ireturn, 1) := by decide +kernel
theorem dX4_carryOut_67 : decode cX4_carryOut 67 = .ok (.aload_n 0, 1) := by decide +kernel
theorem dX4_carryOut_68 : decode cX4_carryOut 68 = .ok (.iload_n 3, 1) := by decide +kernel
theorem dX4_carryOut_69 : decode cX4_carryOut 69 = .ok (.iload 4, 2) := by decide +kernel
theorem dX4_carryOut_71 : decode cX4_carryOut 71 = .ok (.invokevirtual 103, 3) := by decide +kernel
theorem dX4_carryOut_74 : decode cX4_carryOut 74 = .ok (.pop, 1) := by decide +kernel
theorem dX4_carryOut_75 : decode cX4_carryOut 75 = .ok (.iconst 1, 1) := by decide +kernel
theorem dX4_carryOut_76 : decode cX4_carryOut 76 = .ok (.ireturn, 1) := by decide +kernel
theorem dX4_carryOut_77 : decode cX4_carryOut 77 = .ok (.aload_n 0, 1) := by decide +kernel
theorem dX4_carryOut_78 : decode cX4_carryOut 78 = .ok (.getfield 43, 3) := by decide +kernel
theorem dX4_carryOut_81 : decode cX4_carryOut 81 = .ok (.iload_n 1, 1) := by decide +kernel
theorem dX4_carryOut_82 : decode cX4_carryOut 82 = .ok (.iconst 2, 1) := by decide +kernel
theorem dX4_carryOut_83 : decode cX4_carryOut 83 = .ok (.iadd, 1) := by decide +kernel
theorem dX4_carryOut_84 : decode cX4_carryOut 84 = .ok (.invokevirtual 233, 3) := by decide +kernel
theorem dX4_carryOut_87 : decode cX4_carryOut 87 = .ok (.istore 4, 2) := by decide +kernel
theorem dX4_carryOut_89 : decode cX4_carryOut 89 = .ok (.aload_n 0, 1) := by decide +kernel
theorem dX4_carryOut_90 : decode cX4_carryOut 90 = .ok (.iload_n 3, 1) := by decide +kernel
theorem dX4_carryOut_91 : decode cX4_carryOut 91 = .ok (.iload 4, 2) := by decide +kernel
theorem dX4_carryOut_93 : decode cX4_carryOut 93 = .ok (.invokevirtual 94, 3) := by decide +kernel
theorem dX4_carryOut_96 : decode cX4_carryOut 96 = .ok (.ifCond .eq 5, 3) := by decide +kernel
theorem dX4_carryOut_99 : decode cX4_carryOut 99 = .ok (.iconst 0, 1) := by decide +kernel
theorem dX4_carryOut_100 : decode cX4_carryOut 100 = .ok (.ireturn, 1) := by decide +kernel
theorem dX4_carryOut_101 : decode cX4_carryOut 101 = .ok (.aload_n 0, 1) := by decide +kernel
theorem dX4_carryOut_102 : decode cX4_carryOut 102 = .ok (.iload_n 3, 1) := by decide +kernel
theorem dX4_carryOut_103 : decode cX4_carryOut 103 = .ok (.iload 4, 2) := by decide +kernel
theorem dX4_carryOut_105 : decode cX4_carryOut 105 = .ok (.invokevirtual 97, 3) := by decide +kernel
theorem dX4_carryOut_108 : decode cX4_carryOut 108 = .ok (.pop, 1) := by decide +kernel
theorem dX4_carryOut_109 : decode cX4_carryOut 109 = .ok (.iconst 1, 1) := by decide +kernel
theorem dX4_carryOut_110 : decode cX4_carryOut 110 = .ok (.ireturn, 1) := by decide +kernel
theorem dX5_init_0 : decode cX5_init 0 = .ok (.aload_n 0, 1) := by decide +kernel
theorem dX5_init_1 : decode cX5_init 1 = .ok (.invokespecial 1, 3) := by decide +kernel
theorem dX5_init_4 : decode cX5_init 4 = .ok (.aload_n 0, 1) := by decide +kernel
theorem dX5_init_5 : decode cX5_init 5 = .ok (.sipush 149, 3) := by decide +kernel
theorem dX5_init_8 : decode cX5_init 8 = .ok (.newarray .int, 2) := by decide +kernel
theorem dX5_init_10 : decode cX5_init 10 = .ok (.putfield 7, 3) := by decide +kernel
theorem dX5_init_13 : decode cX5_init 13 = .ok (.aload_n 0, 1) := by decide +kernel
theorem dX5_init_14 : decode cX5_init 14 = .ok (.sipush 745, 3) := by decide +kernel
theorem dX5_init_17 : decode cX5_init 17 = .ok (.newarray .int, 2) := by decide +kernel
theorem dX5_init_19 : decode cX5_init 19 = .ok (.putfield 13, 3) := by decide +kernel
theorem dX5_init_22 : decode cX5_init 22 = .ok (.aload_n 0, 1) := by decide +kernel
theorem dX5_init_23 : decode cX5_init 23 = .ok (.sipush 149, 3) := by decide +kernel
theorem dX5_init_26 : decode cX5_init 26 = .ok (.newarray .int, 2) := by decide +kernel
theorem dX5_init_28 : decode cX5_init 28 = .ok (.putfield 16, 3) := by decide +kernel
theorem dX5_init_31 : decode cX5_init 31 = .ok (.aload_n 0, 1) := by decide +kernel
theorem dX5_init_32 : decode cX5_init 32 = .ok (.sipush 149, 3) := by decide +kernel
theorem dX5_init_35 : decode cX5_init 35 = .ok (.newarray .int, 2) := by decide +kernel
theorem dX5_init_37 : decode cX5_init 37 = .ok (.putfield 19, 3) := by decide +kernel
theorem dX5_init_40 : decode cX5_init 40 = .ok (.aload_n 0, 1) := by decide +kernel
theorem dX5_init_41 : decode cX5_init 41 = .ok (.bipush 6, 2) := by decide +kernel
theorem dX5_init_43 : decode cX5_init 43 = .ok (.newarray .int, 2) := by decide +kernel
theorem dX5_init_45 : decode cX5_init 45 = .ok (.putfield 22, 3) := by decide +kernel
theorem dX5_init_48 : decode cX5_init 48 = .ok (.aload_n 0, 1) := by decide +kernel
theorem dX5_init_49 : decode cX5_init 49 = .ok (.bipush 60, 2) := by decide +kernel
theorem dX5_init_51 : decode cX5_init 51 = .ok (.newarray .int, 2) := by decide +kernel
theorem dX5_init_53 : decode cX5_init 53 = .ok (.putfield 25, 3) := by decide +kernel
theorem dX5_init_56 : decode cX5_init 56 = .ok (.aload_n 0, 1) := by decide +kernel
theorem dX5_init_57 : decode cX5_init 57 = .ok (.bipush 32, 2) := by decide +kernel
theorem dX5_init_59 : decode cX5_init 59 = .ok (.newarray .int, 2) := by decide +kernel
theorem dX5_init_61 : decode cX5_init 61 = .ok (.putfield 28, 3) := by decide +kernel
theorem dX5_init_64 : decode cX5_init 64 = .ok (.aload_n 0, 1) := by decide +kernel
theorem dX5_init_65 : decode cX5_init 65 = .ok (.bipush 32, 2) := by decide +kernel
theorem dX5_init_67 : decode cX5_init 67 = .ok (.newarray .int, 2) := by decide +kernel
theorem dX5_init_69 : decode cX5_init 69 = .ok (.putfield 31, 3) := by decide +kernel
theorem dX5_init_72 : decode cX5_init 72 = .ok (.aload_n 0, 1) := by decide +kernel
theorem dX5_init_73 : decode cX5_init 73 = .ok (.bipush 32, 2) := by decide +kernel
theorem dX5_init_75 : decode cX5_init 75 = .ok (.newarray .int, 2) := by decide +kernel
theorem dX5_init_77 : decode cX5_init 77 = .ok (.putfield 34, 3) := by decide +kernel
theorem dX5_init_80 : decode cX5_init 80 = .ok (.aload_n 0, 1) := by decide +kernel
theorem dX5_init_81 : decode cX5_init 81 = .ok (.getfield 7, 3) := by decide +kernel
theorem dX5_init_84 : decode cX5_init 84 = .ok (.iconst 0, 1) := by decide +kernel
theorem dX5_init_85 : decode cX5_init 85 = .ok (.iconst 1, 1) := by decide +kernel
theorem dX5_init_86 : decode cX5_init 86 = .ok (.iastore, 1) := by decide +kernel
theorem dX5_init_87 : decode cX5_init 87 = .ok (.aload_n 0, 1) := by decide +kernel
theorem dX5_init_88 : decode cX5_init 88 = .ok (.getfield 7, 3) := by decide +kernel
theorem dX5_init_91 : decode cX5_init 91 = .ok (.iconst 1, 1) := by decide +kernel
theorem dX5_init_92 : decode cX5_init 92 = .ok (.iconst 1, 1) := by decide +kernel
theorem dX5_init_93 : decode cX5_init 93 = .ok (.iastore, 1) := by decide +kernel
theorem dX5_init_94 : decode cX5_init 94 = .ok (.aload_n 0, 1) := by decide +kernel
theorem dX5_init_95 : decode cX5_init 95 = .ok (.getfield 7, 3) := by decide +kernel
theorem dX5_init_98 : decode cX5_init 98 = .ok (.iconst 3, 1) := by decide +kernel
theorem dX5_init_99 : decode cX5_init 99 = .ok (.bipush (-5), 2) := by decide +kernel
theorem dX5_init_101 : decode cX5_init 101 = .ok (.iastore, 1) := by decide +kernel
theorem dX5_init_102 : decode cX5_init 102 = .ok (.iconst 0, 1) := by decide +kernel
theorem dX5_init_103 : decode cX5_init 103 = .ok (.istore_n 1, 1) := by decide +kernel
theorem dX5_init_104 : decode cX5_init 104 = .ok (.iload_n 1, 1) := by decide +kernel
theorem dX5_init_105 : decode cX5_init 105 = .ok (.bipush 6, 2) := by decide +kernel
theorem dX5_init_107 : decode cX5_init 107 = .ok (.if_icmp .ge 33, 3) := by decide +kernel
theorem dX5_init_110 : decode cX5_init 110 = .ok (.aload_n 0, 1) := by decide +kernel
theorem dX5_init_111 : decode cX5_init 111 = .ok (.iload_n 1, 1) := by decide +kernel
theorem dX5_init_112 : decode cX5_init 112 = .ok (.iconst 0, 1) := by decide +kernel
theorem dX5_init_113 : decode cX5_init 113 = .ok (.iconst 4, 1) := by decide +kernel
theorem dX5_init_114 : decode cX5_init 114 = .ok (.iload_n 1, 1) := by decide +kernel
theorem dX5_init_115 : decode cX5_init 115 = .ok (.imul, 1) := by decide +kernel
theorem dX5_init_116 : decode cX5_init 116 = .ok (.invokevirtual 37, 3) := by decide +kernel
theorem dX5_init_119 : decode cX5_init 119 = .ok (.aload_n 0, 1) := by decide +kernel
theorem dX5_init_120 : decode cX5_init 120 = .ok (.iload_n 1, 1) := by decide +kernel
theorem dX5_init_121 : decode cX5_init 121 = .ok (.iconst 1, 1) := by decide +kernel
theorem dX5_init_122 : decode cX5_init 122 = .ok (.bipush 8, 2) := by decide +kernel
theorem dX5_init_124 : decode cX5_init 124 = .ok (.invokevirtual 37, 3) := by decide +kernel
theorem dX5_init_127 : decode cX5_init 127 = .ok (.aload_n 0, 1) := by decide +kernel
theorem dX5_init_128 : decode cX5_init 128 = .ok (.iload_n 1, 1) := by decide +kernel
theorem dX5_init_129 : decode cX5_init 129 = .ok (.iconst 5, 1) := by decide +kernel
theorem dX5_init_130 : decode cX5_init 130 = .ok (.iload_n 1, 1) := by decide +kernel
theorem dX5_init_131 : decode cX5_init 131 = .ok (.invokevirtual 37, 3) := by decide +kernel
theorem dX5_init_134 : decode cX5_init 134 = .ok (.iinc 1 1, 3) := by decide +kernel
theorem dX5_init_137 : decode cX5_init 137 = .ok (.goto (-33), 3) := by decide +kernel
theorem dX5_init_140 : decode cX5_init 140 = .ok (.return_, 1) := by decide +kernel
theorem dX5_in_0 : decode cX5_in 0 = .ok (.iload_n 0, 1) := by decide +kernel
theorem dX5_in_1 : decode cX5_in 1 = .ok (.iload_n 1, 1) := by decide +kernel
theorem dX5_in_2 : decode cX5_in 2 = .ok (.if_icmp .lt 12, 3) := by decide +kernel
theorem dX5_in_5 : decode cX5_in 5 = .ok (.iload_n 0, 1) := by decide +kernel
theorem dX5_in_6 : decode cX5_in 6 = .ok (.iload_n 2, 1) := by decide +kernel
theorem dX5_in_7 : decode cX5_in 7 = .ok (.if_icmp .gt 7, 3) := by decide +kernel
theorem dX5_in_10 : decode cX5_in 10 = .ok (.iconst 1, 1) := by decide +kernel
theorem dX5_in_11 : decode cX5_in 11 = .ok (.goto 4, 3) := by decide +kernel
theorem dX5_in_14 : decode cX5_in 14 = .ok (.iconst 0, 1) := by decide +kernel
theorem dX5_in_15 : decode cX5_in 15 = .ok (.ireturn, 1) := by decide +kernel
theorem dX5_isTown_0 : decode cX5_isTown 0 = .ok (.iload_n 0, 1) := by decide +kernel
theorem dX5_isTown_1 : decode cX5_isTown 1 = .ok (.iconst 0, 1) := by decide +kernel
theorem dX5_isTown_2 : decode cX5_isTown 2 = .ok (.iconst 5, 1) := by decide +kernel
theorem dX5_isTown_3 : decode cX5_isTown 3 = .ok (.invokestatic 41, 3) := by decide +kernel
theorem dX5_isTown_6 : decode cX5_isTown 6 = .ok (.ireturn, 1) := by decide +kernel
theorem dX5_isBell_0 : decode cX5_isBell 0 = .ok (.iload_n 1, 1) := by decide +kernel
theorem dX5_isBell_1 : decode cX5_isBell 1 = .ok (.invokestatic 45, 3) := by decide +kernel
theorem dX5_isBell_4 : decode cX5_isBell 4 = .ok (.ifCond .eq 23, 3) := by decide +kernel
theorem dX5_isBell_7 : decode cX5_isBell 7 = .ok (.iload_n 2, 1) := by decide +kernel
theorem dX5_isBell_8 : decode cX5_isBell 8 = .ok (.iconst 0, 1) := by decide +kernel
theorem dX5_isBell_9 : decode cX5_isBell 9 = .ok (.aload_n 0, 1) := by decide +kernel
theorem dX5_isBell_10 : decode cX5_isBell 10 = .ok (.iload_n 1, 1) := by decide +kernel
theorem dX5_isBell_11 : decode cX5_isBell 11 = .ok (.iconst 3, 1) := by decide +kernel
theorem dX5_isBell_12 : decode cX5_isBell 12 = .ok (.invokevirtual 49, 3) := by decide +kernel
theorem dX5_isBell_15 : decode cX5_isBell 15 = .ok (.iconst 1, 1) := by decide +kernel
theorem dX5_isBell_16 : decode cX5_isBell 16 = .ok (.isub, 1) := by decide +kernel
theorem dX5_isBell_17 : decode cX5_isBell 17 = .ok (.invokestatic 41, 3) := by decide +kernel
theorem dX5_isBell_20 : decode cX5_isBell 20 = .ok (.ifCond .eq 7, 3) := by decide +kernel
theorem dX5_isBell_23 : decode cX5_isBell 23 = .ok (.iconst 1, 1) := by decide +kernel
theorem dX5_isBell_24 : decode cX5_isBell 24 = .ok (.goto 4, 3) := by decide +kernel
theorem dX5_isBell_27 : decode cX5_isBell 27 = .ok (.iconst 0, 1) := by decide +kernel
theorem dX5_isBell_28 : decode cX5_isBell 28 = .ok (.ireturn, 1) := by decide +kernel
theorem dX5_of_0 : decode cX5_of 0 = .ok (.aload_n 0, 1) := by decide +kernel
theorem dX5_of_1 : decode cX5_of 1 = .ok (.getfield 7, 3) := by decide +kernel
theorem dX5_of_4 : decode cX5_of 4 = .ok (.iconst 5, 1) := by decide +kernel
theorem dX5_of_5 : decode cX5_of 5 = .ok (.bipush 24, 2) := by decide +kernel
theorem dX5_of_7 : decode cX5_of 7 = .ok (.iload_n 1, 1) := by decide +kernel
theorem dX5_of_8 : decode cX5_of 8 = .ok (.imul, 1) := by decide +kernel
theorem dX5_of_9 : decode cX5_of 9 = .ok (.iadd, 1) := by decide +kernel
theorem dX5_of_10 : decode cX5_of 10 = .ok (.iload_n 2, 1) := by decide +kernel
theorem dX5_of_11 : decode cX5_of 11 = .ok (.iadd, 1) := by decide +kernel
theorem dX5_of_12 : decode cX5_of 12 = .ok (.iaload, 1) := by decide +kernel
theorem dX5_of_13 : decode cX5_of 13 = .ok (.ireturn, 1) := by decide +kernel
theorem dX5_put_0 : decode cX5_put 0 = .ok (.aload_n 0, 1) := by decide +kernel
theorem dX5_put_1 : decode cX5_put 1 = .ok (.getfield 7, 3) := by decide +kernel
theorem dX5_put_4 : decode cX5_put 4 = .ok (.iconst 5, 1) := by decide +kernel
theorem dX5_put_5 : decode cX5_put 5 = .ok (.bipush 24, 2) := by decide +kernel
theorem dX5_put_7 : decode cX5_put 7 = .ok (.iload_n 1, 1) := by decide +kernel
theorem dX5_put_8 : decode cX5_put 8 = .ok (.imul, 1) := by decide +kernel
theorem dX5_put_9 : decode cX5_put 9 = .ok (.iadd, 1) := by decide +kernel
theorem dX5_put_10 : decode cX5_put 10 = .ok (.iload_n 2, 1) := by decide +kernel
theorem dX5_put_11 : decode cX5_put 11 = .ok (.iadd, 1) := by decide +kernel
theorem dX5_put_12 : decode cX5_put 12 = .ok (.iload_n 3, 1) := by decide +kernel
theorem dX5_put_13 : decode cX5_put 13 = .ok (.iastore, 1) := by decide +kernel
theorem dX5_put_14 : decode cX5_put 14 = .ok (.return_, 1) := by decide +kernel
theorem dX5_putAside_0 : decode cX5_putAside 0 = .ok (.iconst 0, 1) := by decide +kernel
theorem dX5_putAside_1 : decode cX5_putAside 1 = .ok (.istore_n 1, 1) := by decide +kernel
theorem dX5_putAside_2 : decode cX5_putAside 2 = .ok (.iload_n 1, 1) := by decide +kernel
theorem dX5_putAside_3 : decode cX5_putAside 3 = .ok (.sipush 149, 3) := by decide +kernel
theorem dX5_putAside_6 : decode cX5_putAside 6 = .ok (.if_icmp .ge 21, 3) := by decide +kernel
theorem dX5_putAside_9 : decode cX5_putAside 9 = .ok (.aload_n 0, 1) := by decide +kernel
theorem dX5_putAside_10 : decode cX5_putAside 10 = .ok (.getfield 19, 3) := by decide +kernel
theorem dX5_putAside_13 : decode cX5_putAside 13 = .ok (.iload_n 1, 1) := by decide +kernel
theorem dX5_putAside_14 : decode cX5_putAside 14 = .ok (.aload_n 0, 1) := by decide +kernel
theorem dX5_putAside_15 : decode cX5_putAside 15 = .ok (.getfield 7, 3) := by decide +kernel
theorem dX5_putAside_18 : decode cX5_putAside 18 = .ok (.iload_n 1, 1) := by decide +kernel
theorem dX5_putAside_19 : decode cX5_putAside 19 = .ok (.iaload, 1) := by decide +kernel
theorem dX5_putAside_20 : decode cX5_putAside 20 = .ok (.iastore, 1) := by decide +kernel
theorem dX5_putAside_21 : decode cX5_putAside 21 = .ok (.iinc 1 1, 3) := by decide +kernel
theorem dX5_putAside_24 : decode cX5_putAside 24 = .ok (.goto (-22), 3) := by decide +kernel
theorem dX5_putAside_27 : decode cX5_putAside 27 = .ok (.return_, 1) := by decide +kernel
theorem dX5_putBack_0 : decode cX5_putBack 0 = .ok (.iconst 0, 1) := by decide +kernel
theorem dX5_putBack_1 : decode cX5_putBack 1 = .ok (.istore_n 1, 1) := by decide +kernel
theorem dX5_putBack_2 : decode cX5_putBack 2 = .ok (.iload_n 1, 1) := by decide +kernel
theorem dX5_putBack_3 : decode cX5_putBack 3 = .ok (.sipush 149, 3) := by decide +kernel
theorem dX5_putBack_6 : decode cX5_putBack 6 = .ok (.if_icmp .ge 21, 3) := by decide +kernel
theorem dX5_putBack_9 : decode cX5_putBack 9 = .ok (.aload_n 0, 1) := by decide +kernel
theorem dX5_putBack_10 : decode cX5_putBack 10 = .ok (.getfield 7, 3) := by decide +kernel
theorem dX5_putBack_13 : decode cX5_putBack 13 = .ok (.iload_n 1, 1) := by decide +kernel
theorem dX5_putBack_14 : decode cX5_putBack 14 = .ok (.aload_n 0, 1) := by decide +kernel
theorem dX5_putBack_15 : decode cX5_putBack 15 = .ok (.getfield 19, 3) := by decide +kernel
theorem dX5_putBack_18 : decode cX5_putBack 18 = .ok (.iload_n 1, 1) := by decide +kernel
theorem dX5_putBack_19 : decode cX5_putBack 19 = .ok (.iaload, 1) := by decide +kernel
theorem dX5_putBack_20 : decode cX5_putBack 20 = .ok (.iastore, 1) := by decide +kernel
theorem dX5_putBack_21 : decode cX5_putBack 21 = .ok (.iinc 1 1, 3) := by decide +kernel
theorem dX5_putBack_24 : decode cX5_putBack 24 = .ok (.goto (-22), 3) := by decide +kernel
theorem dX5_putBack_27 : decode cX5_putBack 27 = .ok (.return_, 1) := by decide +kernel
theorem dX5_record_0 : decode cX5_record 0 = .ok (.aload_n 0, 1) := by decide +kernel
theorem dX5_record_1 : decode cX5_record 1 = .ok (.getfield 53, 3) := by decide +kernel
theorem dX5_record_4 : decode cX5_record 4 = .ok (.iconst 5, 1) := by decide +kernel
theorem dX5_record_5 : decode cX5_record 5 = .ok (.if_icmp .ne 44, 3) := by decide +kernel
theorem dX5_record_8 : decode cX5_record 8 = .ok (.iconst 0, 1) := by decide +kernel
theorem dX5_record_9 : decode cX5_record 9 = .ok (.istore_n 1, 1) := by decide +kernel
theorem dX5_record_10 : decode cX5_record 10 = .ok (.iload_n 1, 1) := by decide +kernel
theorem dX5_record_11 : decode cX5_record 11 = .ok (.sipush 596, 3) := by decide +kernel
theorem dX5_record_14 : decode cX5_record 14 = .ok (.if_icmp .ge 25, 3) := by decide +kernel
theorem dX5_record_17 : decode cX5_record 17 = .ok (.aload_n 0, 1) := by decide +kernel
theorem dX5_record_18 : decode cX5_record 18 = .ok (.getfield 13, 3) := by decide +kernel
theorem dX5_record_21 : decode cX5_record 21 = .ok (.iload_n 1, 1) := by decide +kernel
theorem dX5_record_22 : decode cX5_record 22 = .ok (.aload_n 0, 1) := by decide +kernel
theorem dX5_record_23 : decode cX5_record 23 = .ok (.getfield 13, 3) := by decide +kernel
theorem dX5_record_26 : decode cX5_record 26 = .ok (.iload_n 1, 1) := by decide +kernel
theorem dX5_record_27 : decode cX5_record 27 = .ok (.sipush 149, 3) := by decide +kernel
theorem dX5_record_30 : decode cX5_record 30 = .ok (.iadd, 1) := by decide +kernel
theorem dX5_record_31 : decode cX5_record 31 = .ok (.iaload, 1) := by decide +kernel
theorem dX5_record_32 : decode cX5_record 32 = .ok (.iastore, 1) := by decide +kernel
theorem dX5_record_33 : decode cX5_record 33 = .ok (.iinc 1 1, 3) := by decide +kernel
theorem dX5_record_36 : decode cX5_record 36 = .ok (.goto (-26), 3) := by decide +kernel
theorem dX5_record_39 : decode cX5_record 39 = .ok (.aload_n 0, 1) := by decide +kernel
theorem dX5_record_40 : decode cX5_record 40 = .ok (.dup, 1) := by decide +kernel
theorem dX5_record_41 : decode cX5_record 41 = .ok (.getfield 53, 3) := by decide +kernel
theorem dX5_record_44 : decode cX5_record 44 = .ok (.iconst 1, 1) := by decide +kernel
theorem dX5_record_45 : decode cX5_record 45 = .ok (.isub, 1) := by decide +kernel
theorem dX5_record_46 : decode cX5_record 46 = .ok (.putfield 53, 3) := by decide +kernel
theorem dX5_record_49 : decode cX5_record 49 = .ok (.iconst 0, 1) := by decide +kernel
theorem dX5_record_50 : decode cX5_record 50 = .ok (.istore_n 1, 1) := by decide +kernel
theorem dX5_record_51 : decode cX5_record 51 = .ok (.iload_n 1, 1) := by decide +kernel
theorem dX5_record_52 : decode cX5_record 52 = .ok (.sipush 149, 3) := by decide +kernel
theorem dX5_record_55 : decode cX5_record 55 = .ok (.if_icmp .ge 30, 3) := by decide +kernel
theorem dX5_record_58 : decode cX5_record 58 = .ok (.aload_n 0, 1) := by decide +kernel
theorem dX5_record_59 : decode cX5_record 59 = .ok (.getfield 13, 3) := by decide +kernel
theorem dX5_record_62 : decode cX5_record 62 = .ok (.sipush 149, 3) := by decide +kernel
theorem dX5_record_65 : decode cX5_record 65 = .ok (.aload_n 0, 1) := by decide +kernel
theorem dX5_record_66 : decode cX5_record 66 = .ok (.getfield 53, 3) := by decide +kernel
theorem dX5_record_69 : decode cX5_record 69 = .ok (.imul, 1) := by decide +kernel
theorem dX5_record_70 : decode cX5_record 70 = .ok (.iload_n 1, 1) := by decide +kernel
theorem dX5_record_71 : decode cX5_record 71 = .ok (.iadd, 1) := by decide +kernel
theorem dX5_record_72 : decode cX5_record 72 = .ok (.aload_n 0, 1) := by decide +kernel
theorem dX5_record_73 : decode cX5_record 73 = .ok (.getfield 7, 3) := by decide +kernel
theorem dX5_record_76 : decode cX5_record 76 = .ok (.iload_n 1, 1) := by decide +kernel
theorem dX5_record_77 : decode cX5_record 77 = .ok (.iaload, 1) := by decide +kernel
theorem dX5_record_78 : decode cX5_record 78 = .ok (.iastore, 1) := by decide +kernel
theorem dX5_record_79 : decode cX5_record 79 = .ok (.iinc 1 1, 3) := by decide +kernel
theorem dX5_record_82 : decode cX5_record 82 = .ok (.goto (-31), 3) := by decide +kernel
theorem dX5_record_85 : decode cX5_record 85 = .ok (.aload_n 0, 1) := by decide +kernel
theorem dX5_record_86 : decode cX5_record 86 = .ok (.dup, 1) := by decide +kernel
theorem dX5_record_87 : decode cX5_record 87 = .ok (.getfield 53, 3) := by decide +kernel
theorem dX5_record_90 : decode cX5_record 90 = .ok (.iconst 1, 1) := by decide +kernel
theorem dX5_record_91 : decode cX5_record 91 = .ok (.iadd, 1) := by decide +kernel
theorem dX5_record_92 : decode cX5_record 92 = .ok (.putfield 53, 3) := by decide +kernel
theorem dX5_record_95 : decode cX5_record 95 = .ok (.return_, 1) := by decide +kernel
theorem dX5_undo_0 : decode cX5_undo 0 = .ok (.aload_n 0, 1) := by decide +kernel
theorem dX5_undo_1 : decode cX5_undo 1 = .ok (.getfield 53, 3) := by decide +kernel
theorem dX5_undo_4 : decode cX5_undo 4 = .ok (.ifCond .ne 6, 3) := by decide +kernel
theorem dX5_undo_7 : decode cX5_undo 7 = .ok (.bipush (-5), 2) := by decide +kernel
theorem dX5_undo_9 : decode cX5_undo 9 = .ok (.ireturn, 1) := by decide +kernel
theorem dX5_undo_10 : decode cX5_undo 10 = .ok (.aload_n 0, 1) := by decide +kernel
theorem dX5_undo_11 : decode cX5_undo 11 = .ok (.dup, 1) := by decide +kernel
theorem dX5_undo_12 : decode cX5_undo 12 = .ok (.getfield 53, 3) := by decide +kernel
theorem dX5_undo_15 : decode cX5_undo 15 = .ok (.iconst 1, 1) := by decide +kernel
theorem dX5_undo_16 : decode cX5_undo 16 = .ok (.isub, 1) := by decide +kernel
theorem dX5_undo_17 : decode cX5_undo 17 = .ok (.putfield 53, 3) := by decide +kernel
theorem dX5_undo_20 : decode cX5_undo 20 = .ok (.iconst 0, 1) := by decide +kernel
theorem dX5_undo_21 : decode cX5_undo 21 = .ok (.istore_n 1, 1) := by decide +kernel
theorem dX5_undo_22 : decode cX5_undo 22 = .ok (.iload_n 1, 1) := by decide +kernel
theorem dX5_undo_23 : decode cX5_undo 23 = .ok (.sipush 149, 3) := by decide +kernel
theorem dX5_undo_26 : decode cX5_undo 26 = .ok (.if_icmp .ge 30, 3) := by decide +kernel
theorem dX5_undo_29 : decode cX5_undo 29 = .ok (.aload_n 0, 1) := by decide +kernel
theorem dX5_undo_30 : decode cX5_undo 30 = .ok (.getfield 7, 3) := by decide +kernel
theorem dX5_undo_33 : decode cX5_undo 33 = .ok (.iload_n 1, 1) := by decide +kernel
theorem dX5_undo_34 : decode cX5_undo 34 = .ok (.aload_n 0, 1) := by decide +kernel
theorem dX5_undo_35 : decode cX5_undo 35 = .ok (.getfield 13, 3) := by decide +kernel
theorem dX5_undo_38 : decode cX5_undo 38 = .ok (.sipush 149, 3) := by decide +kernel
theorem dX5_undo_41 : decode cX5_undo 41 = .ok (.aload_n 0, 1) := by decide +kernel
theorem dX5_undo_42 : decode cX5_undo 42 = .ok (.getfield 53, 3) := by decide +kernel
theorem dX5_undo_45 : decode cX5_undo 45 = .ok (.imul, 1) := by decide +kernel
theorem dX5_undo_46 : decode cX5_undo 46 = .ok (.iload_n 1, 1) := by decide +kernel
theorem dX5_undo_47 : decode cX5_undo 47 = .ok (.iadd, 1) := by decide +kernel
theorem dX5_undo_48 : decode cX5_undo 48 = .ok (.iaload, 1) := by decide +kernel
theorem dX5_undo_49 : decode cX5_undo 49 = .ok (.iastore, 1) := by decide +kernel
theorem dX5_undo_50 : decode cX5_undo 50 = .ok (.iinc 1 1, 3) := by decide +kernel
theorem dX5_undo_53 : decode cX5_undo 53 = .ok (.goto (-31), 3) := by decide +kernel
theorem dX5_undo_56 : decode cX5_undo 56 = .ok (.aload_n 0, 1) := by decide +kernel
theorem dX5_undo_57 : decode cX5_undo 57 = .ok (.getfield 53, 3) := by decide +kernel
theorem dX5_undo_60 : decode cX5_undo 60 = .ok (.ireturn, 1) := by decide +kernel
theorem dX5_save_0 : decode cX5_save 0 = .ok (.iconst 0, 1) := by decide +kernel
theorem dX5_save_1 : decode cX5_save 1 = .ok (.istore_n 1, 1) := by decide +kernel
theorem dX5_save_2 : decode cX5_save 2 = .ok (.iload_n 1, 1) := by decide +kernel
theorem dX5_save_3 : decode cX5_save 3 = .ok (.sipush 149, 3) := by decide +kernel
theorem dX5_save_6 : decode cX5_save 6 = .ok (.if_icmp .ge 21, 3) := by decide +kernel
theorem dX5_save_9 : decode cX5_save 9 = .ok (.aload_n 0, 1) := by decide +kernel
theorem dX5_save_10 : decode cX5_save 10 = .ok (.getfield 16, 3) := by decide +kernel
theorem dX5_save_13 : decode cX5_save 13 = .ok (.iload_n 1, 1) := by decide +kernel
theorem dX5_save_14 : decode cX5_save 14 = .ok (.aload_n 0, 1) := by decide +kernel
theorem dX5_save_15 : decode cX5_save 15 = .ok (.getfield 7, 3) := by decide +kernel
theorem dX5_save_18 : decode cX5_save 18 = .ok (.iload_n 1, 1) := by decide +kernel
theorem dX5_save_19 : decode cX5_save 19 = .ok (.iaload, 1) := by decide +kernel
theorem dX5_save_20 : decode cX5_save 20 = .ok (.iastore, 1) := by decide +kernel
theorem dX5_save_21 : decode cX5_save 21 = .ok (.iinc 1 1, 3) := by decide +kernel
theorem dX5_save_24 : decode cX5_save 24 = .ok (.goto (-22), 3) := by decide +kernel
theorem dX5_save_27 : decode cX5_save 27 = .ok (.aload_n 0, 1) := by decide +kernel
theorem dX5_save_28 : decode cX5_save 28 = .ok (.iconst 1, 1) := by decide +kernel
theorem dX5_save_29 : decode cX5_save 29 = .ok (.putfield 57, 3) := by decide +kernel
theorem dX5_save_32 : decode cX5_save 32 = .ok (.aload_n 0, 1) := by decide +kernel
theorem dX5_save_33 : decode cX5_save 33 = .ok (.getfield 7, 3) := by decide +kernel
theorem dX5_save_36 : decode cX5_save 36 = .ok (.iconst 2, 1) := by decide +kernel
theorem dX5_save_37 : decode cX5_save 37 = .ok (.iaload, 1) := by decide +kernel
theorem dX5_save_38 : decode cX5_save 38 = .ok (.ireturn, 1) := by decide +kernel
theorem dX5_restore_0 : decode cX5_restore 0 = .ok (.aload_n 0, 1) := by decide +kernel
theorem dX5_restore_1 : decode cX5_restore 1 = .ok (.getfield 57, 3) := by decide +kernel
theorem dX5_restore_4 : decode cX5_restore 4 = .ok (.ifCond .ne 6, 3) := by decide +kernel
theorem dX5_restore_7 : decode cX5_restore 7 = .ok (.bipush (-4), 2) := by decide +kernel
theorem dX5_restore_9 : decode cX5_restore 9 = .ok (.ireturn, 1) := by decide +kernel
theorem dX5_restore_10 : decode cX5_restore 10 = .ok (.aload_n 0, 1) := by decide +kernel
theorem dX5_restore_11 : decode cX5_restore 11 = .ok (.invokevirtual 61, 3) := by decide +kernel
theorem dX5_restore_14 : decode cX5_restore 14 = .ok (.iconst 0, 1) := by decide +kernel
theorem dX5_restore_15 : decode cX5_restore 15 = .ok (.istore_n 1, 1) := by decide +kernel
theorem dX5_restore_16 : decode cX5_restore 16 = .ok (.iload_n 1, 1) := by decide +kernel
theorem dX5_restore_17 : decode cX5_restore 17 = .ok (.sipush 149, 3) := by decide +kernel
theorem dX5_restore_20 : decode cX5_restore 20 = .ok (.if_icmp .ge 21, 3) := by decide +kernel
theorem dX5_restore_23 : decode cX5_restore 23 = .ok (.aload_n 0, 1) := by decide +kernel
theorem dX5_restore_24 : decode cX5_restore 24 = .ok (.getfield 7, 3) := by decide +kernel
theorem dX5_restore_27 : decode cX5_restore 27 = .ok (.iload_n 1, 1) := by decide +kernel
theorem dX5_restore_28 : decode cX5_restore 28 = .ok (.aload_n 0, 1) := by decide +kernel
theorem dX5_restore_29 : decode cX5_restore 29 = .ok (.getfield 16, 3) := by decide +kernel
theorem dX5_restore_32 : decode cX5_restore 32 = .ok (.iload_n 1, 1) := by decide +kernel
theorem dX5_restore_33 : decode cX5_restore 33 = .ok (.iaload, 1) := by decide +kernel
theorem dX5_restore_34 : decode cX5_restore 34 = .ok (.iastore, 1) := by decide +kernel
theorem dX5_restore_35 : decode cX5_restore 35 = .ok (.iinc 1 1, 3) := by decide +kernel
theorem dX5_restore_38 : decode cX5_restore 38 = .ok (.goto (-22), 3) := by decide +kernel
theorem dX5_restore_41 : decode cX5_restore 41 = .ok (.aload_n 0, 1) := by decide +kernel
theorem dX5_restore_42 : decode cX5_restore 42 = .ok (.getfield 7, 3) := by decide +kernel
theorem dX5_restore_45 : decode cX5_restore 45 = .ok (.iconst 2, 1) := by decide +kernel
theorem dX5_restore_46 : decode cX5_restore 46 = .ok (.iaload, 1) := by decide +kernel
theorem dX5_restore_47 : decode cX5_restore 47 = .ok (.ireturn, 1) := by decide +kernel
theorem dX5_takes_0 : decode cX5_takes 0 = .ok (.aload_n 0, 1) := by decide +kernel
theorem dX5_takes_1 : decode cX5_takes 1 = .ok (.iload_n 1, 1) := by decide +kernel
theorem dX5_takes_2 : decode cX5_takes 2 = .ok (.bipush 9, 2) := by decide +kernel
theorem dX5_takes_4 : decode cX5_takes 4 = .ok (.iload_n 2, 1) := by decide +kernel
theorem dX5_takes_5 : decode cX5_takes 5 = .ok (.iadd, 1) := by decide +kernel
theorem dX5_takes_6 : decode cX5_takes 6 = .ok (.invokevirtual 49, 3) := by decide +kernel
theorem dX5_takes_9 : decode cX5_takes 9 = .ok (.iconst 1, 1) := by decide +kernel
theorem dX5_takes_10 : decode cX5_takes 10 = .ok (.iadd, 1) := by decide +kernel
theorem dX5_takes_11 : decode cX5_takes 11 = .ok (.iconst 2, 1) := by decide +kernel
theorem dX5_takes_12 : decode cX5_takes 12 = .ok (.idiv, 1) := by decide +kernel
theorem dX5_takes_13 : decode cX5_takes 13 = .ok (.ireturn, 1) := by decide +kernel
theorem dX5_allBells_0 : decode cX5_allBells 0 = .ok (.iconst 1, 1) := by decide +kernel
theorem dX5_allBells_1 : decode cX5_allBells 1 = .ok (.aload_n 0, 1) := by decide +kernel
theorem dX5_allBells_2 : decode cX5_allBells 2 = .ok (.iload_n 1, 1) := by decide +kernel
theorem dX5_allBells_3 : decode cX5_allBells 3 = .ok (.iconst 3, 1) := by decide +kernel
theorem dX5_allBells_4 : decode cX5_allBells 4 = .ok (.invokevirtual 49, 3) := by decide +kernel
theorem dX5_allBells_7 : decode cX5_allBells 7 = .ok (.ishl, 1) := by decide +kernel
theorem dX5_allBells_8 : decode cX5_allBells 8 = .ok (.iconst 1, 1) := by decide +kernel
theorem dX5_allBells_9 : decode cX5_allBells 9 = .ok (.isub, 1) := by decide +kernel
theorem dX5_allBells_10 : decode cX5_allBells 10 = .ok (.ireturn, 1) := by decide +kernel
theorem dX5_wanted_0 : decode cX5_wanted 0 = .ok (.aload_n 0, 1) := by decide +kernel
theorem dX5_wanted_1 : decode cX5_wanted 1 = .ok (.iload_n 1, 1) := by decide +kernel
theorem dX5_wanted_2 : decode cX5_wanted 2 = .ok (.bipush 6, 2) := by decide +kernel
theorem dX5_wanted_4 : decode cX5_wanted 4 = .ok (.invokevirtual 49, 3) := by decide +kernel
theorem dX5_wanted_7 : decode cX5_wanted 7 = .ok (.ifCond .le 7, 3) := by decide +kernel
theorem dX5_wanted_10 : decode cX5_wanted 10 = .ok (.iconst 0, 1) := by decide +kernel
theorem dX5_wanted_11 : decode cX5_wanted 11 = .ok (.goto 30, 3) := by decide +kernel
theorem dX5_wanted_14 : decode cX5_wanted 14 = .ok (.aload_n 0, 1) := by decide +kernel
theorem dX5_wanted_15 : decode cX5_wanted 15 = .ok (.getfield 7, 3) := by decide +kernel
theorem dX5_wanted_18 : decode cX5_wanted 18 = .ok (.iconst 2, 1) := by decide +kernel
theorem dX5_wanted_19 : decode cX5_wanted 19 = .ok (.iaload, 1) := by decide +kernel
theorem dX5_wanted_20 : decode cX5_wanted 20 = .ok (.bipush 7, 2) := by decide +kernel
theorem dX5_wanted_22 : decode cX5_wanted 22 = .ok (.irem, 1) := by decide +kernel
theorem dX5_wanted_23 : decode cX5_wanted 23 = .ok (.aload_n 0, 1) := by decide +kernel
theorem dX5_wanted_24 : decode cX5_wanted 24 = .ok (.iload_n 1, 1) := by decide +kernel
theorem dX5_wanted_25 : decode cX5_wanted 25 = .ok (.iconst 5, 1) := by decide +kernel
theorem dX5_wanted_26 : decode cX5_wanted 26 = .ok (.invokevirtual 49, 3) := by decide +kernel
theorem dX5_wanted_29 : decode cX5_wanted 29 = .ok (.if_icmp .ne 11, 3) := by decide +kernel
theorem dX5_wanted_32 : decode cX5_wanted 32 = .ok (.aload_n 0, 1) := by decide +kernel
theorem dX5_wanted_33 : decode cX5_wanted 33 = .ok (.iload_n 1, 1) := by decide +kernel
theorem dX5_wanted_34 : decode cX5_wanted 34 = .ok (.invokevirtual 64, 3) := by decide +kernel
theorem dX5_wanted_37 : decode cX5_wanted 37 = .ok (.goto 4, 3) := by decide +kernel
theorem dX5_wanted_40 : decode cX5_wanted 40 = .ok (.iload_n 2, 1) := by decide +kernel
theorem dX5_wanted_41 : decode cX5_wanted 41 = .ok (.ireturn, 1) := by decide +kernel
theorem dX5_rings_0 : decode cX5_rings 0 = .ok (.aload_n 0, 1) := by decide +kernel
theorem dX5_rings_1 : decode cX5_rings 1 = .ok (.iload_n 1, 1) := by decide +kernel
theorem dX5_rings_2 : decode cX5_rings 2 = .ok (.iload_n 2, 1) := by decide +kernel
theorem dX5_rings_3 : decode cX5_rings 3 = .ok (.invokevirtual 68, 3) := by decide +kernel
theorem dX5_rings_6 : decode cX5_rings 6 = .ok (.istore_n 3, 1) := by decide +kernel
theorem dX5_rings_7 : decode cX5_rings 7 = .ok (.aload_n 0, 1) := by decide +kernel
theorem dX5_rings_8 : decode cX5_rings 8 = .ok (.iload_n 1, 1) := by decide +kernel
theorem dX5_rings_9 : decode cX5_rings 9 = .ok (.iconst 1, 1) := by decide +kernel
theorem dX5_rings_10 : decode cX5_rings 10 = .ok (.invokevirtual 49, 3) := by decide +kernel
theorem dX5_rings_13 : decode cX5_rings 13 = .ok (.aload_n 0, 1) := by decide +kernel
theorem dX5_rings_14 : decode cX5_rings 14 = .ok (.iload_n 1, 1) := by decide +kernel
theorem dX5_rings_15 : decode cX5_rings 15 = .ok (.iconst 2, 1) := by decide +kernel
theorem dX5_rings_16 : decode cX5_rings 16 = .ok (.invokevirtual 49, 3) := by decide +kernel
theorem dX5_rings_19 : decode cX5_rings 19 = .ok (.isub, 1) := by decide +kernel
theorem dX5_rings_20 : decode cX5_rings 20 = .ok (.istore 4, 2) := by decide +kernel
theorem dX5_rings_22 : decode cX5_rings 22 = .ok (.iconst 0, 1) := by decide +kernel
theorem dX5_rings_23 : decode cX5_rings 23 = .ok (.istore 5, 2) := by decide +kernel
theorem dX5_rings_25 : decode cX5_rings 25 = .ok (.iconst 0, 1) := by decide +kernel
theorem dX5_rings_26 : decode cX5_rings 26 = .ok (.istore 6, 2) := by decide +kernel
theorem dX5_rings_28 : decode cX5_rings 28 = .ok (.iload 6, 2) := by decide +kernel
theorem dX5_rings_30 : decode cX5_rings 30 = .ok (.aload_n 0, 1) := by decide +kernel
theorem dX5_rings_31 : decode cX5_rings 31 = .ok (.iload_n 1, 1) := by decide +kernel
theorem dX5_rings_32 : decode cX5_rings 32 = .ok (.iconst 3, 1) := by decide +kernel
theorem dX5_rings_33 : decode cX5_rings 33 = .ok (.invokevirtual 49, 3) := by decide +kernel
theorem dX5_rings_36 : decode cX5_rings 36 = .ok (.if_icmp .ge 67, 3) := by decide +kernel
theorem dX5_rings_39 : decode cX5_rings 39 = .ok (.iload_n 3, 1) := by decide +kernel
theorem dX5_rings_40 : decode cX5_rings 40 = .ok (.iload 6, 2) := by decide +kernel
theorem dX5_rings_42 : decode cX5_rings 42 = .ok (.ishr, 1) := by decide +kernel
theorem dX5_rings_43 : decode cX5_rings 43 = .ok (.iconst 1, 1) := by decide +kernel
theorem dX5_rings_44 : decode cX5_rings 44 = .ok (.iand, 1) := by decide +kernel
theorem dX5_rings_45 : decode cX5_rings 45 = .ok (.iconst 1, 1) := by decide +kernel
theorem dX5_rings_46 : decode cX5_rings 46 = .ok (.if_icmp .ne 51, 3) := by decide +kernel
theorem dX5_rings_49 : decode cX5_rings 49 = .ok (.aload_n 0, 1) := by decide +kernel
theorem dX5_rings_50 : decode cX5_rings 50 = .ok (.iload_n 1, 1) := by decide +kernel
theorem dX5_rings_51 : decode cX5_rings 51 = .ok (.bipush 14, 2) := by decide +kernel
theorem dX5_rings_53 : decode cX5_rings 53 = .ok (.iload 6, 2) := by decide +kernel
theorem dX5_rings_55 : decode cX5_rings 55 = .ok (.iadd, 1) := by decide +kernel
theorem dX5_rings_56 : decode cX5_rings 56 = .ok (.invokevirtual 49, 3) := by decide +kernel
theorem dX5_rings_59 : decode cX5_rings 59 = .ok (.bipush 6, 2) := by decide +kernel
theorem dX5_rings_61 : decode cX5_rings 61 = .ok (.if_icmp .ge 36, 3) := by decide +kernel
theorem dX5_rings_64 : decode cX5_rings 64 = .ok (.aload_n 0, 1) := by decide +kernel
theorem dX5_rings_65 : decode cX5_rings 65 = .ok (.iload_n 1, 1) := by decide +kernel
theorem dX5_rings_66 : decode cX5_rings 66 = .ok (.iload 6, 2) := by decide +kernel
theorem dX5_rings_68 : decode cX5_rings 68 = .ok (.invokevirtual 71, 3) := by decide +kernel
theorem dX5_rings_71 : decode cX5_rings 71 = .ok (.iload 4, 2) := by decide +kernel
theorem dX5_rings_73 : decode cX5_rings 73 = .ok (.if_icmp .gt 24, 3) := by decide +kernel
theorem dX5_rings_76 : decode cX5_rings 76 = .ok (.iload 5, 2) := by decide +kernel
theorem dX5_rings_78 : decode cX5_rings 78 = .ok (.iconst 1, 1) := by decide +kernel
theorem dX5_rings_79 : decode cX5_rings 79 = .ok (.iload 6, 2) := by decide +kernel
theorem dX5_rings_81 : decode cX5_rings 81 = .ok (.ishl, 1) := by decide +kernel
theorem dX5_rings_82 : decode cX5_rings 82 = .ok (.ior, 1) := by decide +kernel
theorem dX5_rings_83 : decode cX5_rings 83 = .ok (.istore 5, 2) := by decide +kernel
theorem dX5_rings_85 : decode cX5_rings 85 = .ok (.iload 4, 2) := by decide +kernel
theorem dX5_rings_87 : decode cX5_rings 87 = .ok (.aload_n 0, 1) := by decide +kernel
theorem dX5_rings_88 : decode cX5_rings 88 = .ok (.iload_n 1, 1) := by decide +kernel
theorem dX5_rings_89 : decode cX5_rings 89 = .ok (.iload 6, 2) := by decide +kernel
theorem dX5_rings_91 : decode cX5_rings 91 = .ok (.invokevirtual 71, 3) := by decide +kernel
theorem dX5_rings_94 : decode cX5_rings 94 = .ok (.isub, 1) := by decide +kernel
theorem dX5_rings_95 : decode cX5_rings 95 = .ok (.istore 4, 2) := by decide +kernel
theorem dX5_rings_97 : decode cX5_rings 97 = .ok (.iinc 6 1, 3) := by decide +kernel
theorem dX5_rings_100 : decode cX5_rings 100 = .ok (.goto (-72), 3) := by decide +kernel
theorem dX5_rings_103 : decode cX5_rings 103 = .ok (.iload 5, 2) := by decide +kernel
theorem dX5_rings_105 : decode cX5_rings 105 = .ok (.ireturn, 1) := by decide +kernel
theorem dX5_loudnessOf_0 : decode cX5_loudnessOf 0 = .ok (.iconst 0, 1) := by decide +kernel
theorem dX5_loudnessOf_1 : decode cX5_loudnessOf 1 = .ok (.istore_n 3, 1) := by decide +kernel
theorem dX5_loudnessOf_2 : decode cX5_loudnessOf 2 = .ok (.iconst 0, 1) := by decide +kernel
theorem dX5_loudnessOf_3 : decode cX5_loudnessOf 3 = .ok (.istore 4, 2) := by decide +kernel
theorem dX5_loudnessOf_5 : decode cX5_loudnessOf 5 = .ok (.iload 4, 2) := by decide +kernel
theorem dX5_loudnessOf_7 : decode cX5_loudnessOf 7 = .ok (.aload_n 0, 1) := by decide +kernel
theorem dX5_loudnessOf_8 : decode cX5_loudnessOf 8 = .ok (.iload_n 1, 1) := by decide +kernel
theorem dX5_loudnessOf_9 : decode cX5_loudnessOf 9 = .ok (.iconst 3, 1) := by decide +kernel
theorem dX5_loudnessOf_10 : decode cX5_loudnessOf 10 = .ok (.invokevirtual 49, 3) := by decide +kernel
theorem dX5_loudnessOf_13 : decode cX5_loudnessOf 13 = .ok (.if_icmp .ge 36, 3) := by decide +kernel
theorem dX5_loudnessOf_16 : decode cX5_loudnessOf 16 = .ok (.iload_n 3, 1) := by decide +kernel
theorem dX5_loudnessOf_17 : decode cX5_loudnessOf 17 = .ok (.iload_n 2, 1) := by decide +kernel
theorem dX5_loudnessOf_18 : decode cX5_loudnessOf 18 = .ok (.iload 4, 2) := by decide +kernel
theorem dX5_loudnessOf_20 : decode cX5_loudnessOf 20 = .ok (.ishr, 1) := by decide +kernel
theorem dX5_loudnessOf_21 : decode cX5_loudnessOf 21 = .ok (.iconst 1, 1) := by decide +kernel
theorem dX5_loudnessOf_22 : decode cX5_loudnessOf 22 = .ok (.iand, 1) := by decide +kernel
theorem dX5_loudnessOf_23 : decode cX5_loudnessOf 23 = .ok (.iconst 1, 1) := by decide +kernel
theorem dX5_loudnessOf_24 : decode cX5_loudnessOf 24 = .ok (.if_icmp .ne 16, 3) := by decide +kernel
theorem dX5_loudnessOf_27 : decode cX5_loudnessOf 27 = .ok (.aload_n 0, 1) := by decide +kernel
theorem dX5_loudnessOf_28 : decode cX5_loudnessOf 28 = .ok (.iload_n 1, 1) := by decide +kernel
theorem dX5_loudnessOf_29 : decode cX5_loudnessOf 29 = .ok (.bipush 9, 2) := by decide +kernel
theorem dX5_loudnessOf_31 : decode cX5_loudnessOf 31 = .ok (.iload 4, 2) := by decide +kernel
theorem dX5_loudnessOf_33 : decode cX5_loudnessOf 33 = .ok (.iadd, 1) := by decide +kernel
theorem dX5_loudnessOf_34 : decode cX5_loudnessOf 34 = .ok (.invokevirtual 49, 3) := by decide +kernel
theorem dX5_loudnessOf_37 : decode cX5_loudnessOf 37 = .ok (.goto 4, 3) := by decide +kernel
theorem dX5_loudnessOf_40 : decode cX5_loudnessOf 40 = .ok (.iconst 0, 1) := by decide +kernel
theorem dX5_loudnessOf_41 : decode cX5_loudnessOf 41 = .ok (.iadd, 1) := by decide +kernel
theorem dX5_loudnessOf_42 : decode cX5_loudnessOf 42 = .ok (.istore_n 3, 1) := by decide +kernel
theorem dX5_loudnessOf_43 : decode cX5_loudnessOf 43 = .ok (.iinc 4 1, 3) := by decide +kernel
theorem dX5_loudnessOf_46 : decode cX5_loudnessOf 46 = .ok (.goto (-41), 3) := by decide +kernel
theorem dX5_loudnessOf_49 : decode cX5_loudnessOf 49 = .ok (.iload_n 3, 1) := by decide +kernel
theorem dX5_loudnessOf_50 : decode cX5_loudnessOf 50 = .ok (.ireturn, 1) := by decide +kernel
theorem dX5_listen_0 : decode cX5_listen 0 = .ok (.iconst 0, 1) := by decide +kernel
theorem dX5_listen_1 : decode cX5_listen 1 = .ok (.istore_n 1, 1) := by decide +kernel
theorem dX5_listen_2 : decode cX5_listen 2 = .ok (.iload_n 1, 1) := by decide +kernel
theorem dX5_listen_3 : decode cX5_listen 3 = .ok (.bipush 6, 2) := by decide +kernel
theorem dX5_listen_5 : decode cX5_listen 5 = .ok (.if_icmp .ge 31, 3) := by decide +kernel
theorem dX5_listen_8 : decode cX5_listen 8 = .ok (.aload_n 0, 1) := by decide +kernel
theorem dX5_listen_9 : decode cX5_listen 9 = .ok (.getfield 22, 3) := by decide +kernel
theorem dX5_listen_12 : decode cX5_listen 12 = .ok (.iload_n 1, 1) := by decide +kernel
theorem dX5_listen_13 : decode cX5_listen 13 = .ok (.aload_n 0, 1) := by decide +kernel
theorem dX5_listen_14 : decode cX5_listen 14 = .ok (.iload_n 1, 1) := by decide +kernel
theorem dX5_listen_15 : decode cX5_listen 15 = .ok (.aload_n 0, 1) := by decide +kernel
theorem dX5_listen_16 : decode cX5_listen 16 = .ok (.iload_n 1, 1) := by decide +kernel
theorem dX5_listen_17 : decode cX5_listen 17 = .ok (.aload_n 0, 1) := by decide +kernel
theorem dX5_listen_18 : decode cX5_listen 18 = .ok (.iload_n 1, 1) := by decide +kernel
theorem dX5_listen_19 : decode cX5_listen 19 = .ok (.iconst 4, 1) := by decide +kernel
theorem dX5_listen_20 : decode cX5_listen 20 = .ok (.invokevirtual 49, 3) := by decide +kernel
theorem dX5_listen_23 : decode cX5_listen 23 = .ok (.invokevirtual 74, 3) := by decide +kernel
theorem dX5_listen_26 : decode cX5_listen 26 = .ok (.invokevirtual 77, 3) := by decide +kernel
theorem dX5_listen_29 : decode cX5_listen 29 = .ok (.iastore, 1) := by decide +kernel
theorem dX5_listen_30 : decode cX5_listen 30 = .ok (.iinc 1 1, 3) := by decide +kernel
theorem dX5_listen_33 : decode cX5_listen 33 = .ok (.goto (-31), 3) := by decide +kernel
theorem dX5_listen_36 : decode cX5_listen 36 = .ok (.return_, 1) := by decide +kernel
theorem dX5_heardIn_0 : decode cX5_heardIn 0 = .ok (.aload_n 0, 1) := by decide +kernel
theorem dX5_heardIn_1 : decode cX5_heardIn 1 = .ok (.iload_n 1, 1) := by decide +kernel
theorem dX5_heardIn_2 : decode cX5_heardIn 2 = .ok (.iconst 0, 1) := by decide +kernel
theorem dX5_heardIn_3 : decode cX5_heardIn 3 = .ok (.invokevirtual 49, 3) := by decide +kernel
theorem dX5_heardIn_6 : decode cX5_heardIn 6 = .ok (.aload_n 0, 1) := by decide +kernel
theorem dX5_heardIn_7 : decode cX5_heardIn 7 = .ok (.iload_n 2, 1) := by decide +kernel
theorem dX5_heardIn_8 : decode cX5_heardIn 8 = .ok (.iconst 0, 1) := by decide +kernel
theorem dX5_heardIn_9 : decode cX5_heardIn 9 = .ok (.invokevirtual 49, 3) := by decide +kernel
theorem dX5_heardIn_12 : decode cX5_heardIn 12 = .ok (.isub, 1) := by decide +kernel
theorem dX5_heardIn_13 : decode cX5_heardIn 13 = .ok (.istore_n 3, 1) := by decide +kernel
theorem dX5_heardIn_14 : decode cX5_heardIn 14 = .ok (.aload_n 0, 1) := by decide +kernel
theorem dX5_heardIn_15 : decode cX5_heardIn 15 = .ok (.getfield 22, 3) := by decide +kernel
theorem dX5_heardIn_18 : decode cX5_heardIn 18 = .ok (.iload_n 1, 1) := by decide +kernel
theorem dX5_heardIn_19 : decode cX5_heardIn 19 = .ok (.iaload, 1) := by decide +kernel
theorem dX5_heardIn_20 : decode cX5_heardIn 20 = .ok (.aload_n 0, 1) := by decide +kernel
theorem dX5_heardIn_21 : decode cX5_heardIn 21 = .ok (.getfield 7, 3) := by decide +kernel
theorem dX5_heardIn_24 : decode cX5_heardIn 24 = .ok (.iconst 0, 1) := by decide +kernel
theorem dX5_heardIn_25 : decode cX5_heardIn 25 = .ok (.iaload, 1) := by decide +kernel
theorem dX5_heardIn_26 : decode cX5_heardIn 26 = .ok (.iload_n 3, 1) := by decide +kernel
theorem dX5_heardIn_27 : decode cX5_heardIn 27 = .ok (.ifCond .ge 8, 3) := by decide +kernel
theorem dX5_heardIn_30 : decode cX5_heardIn 30 = .ok (.iload_n 3, 1) := by decide +kernel
theorem dX5_heardIn_31 : decode cX5_heardIn 31 = .ok (.ineg, 1) := by decide +kernel
theorem dX5_heardIn_32 : decode cX5_heardIn 32 = .ok (.goto 4, 3) := by decide +kernel
theorem dX5_heardIn_35 : decode cX5_heardIn 35 = .ok (.iload_n 3, 1) := by decide +kernel
theorem dX5_heardIn_36 : decode cX5_heardIn 36 = .ok (.imul, 1) := by decide +kernel
theorem dX5_heardIn_37 : decode cX5_heardIn 37 = .ok (.isub, 1) := by decide +kernel
theorem dX5_heardIn_38 : decode cX5_heardIn 38 = .ok (.istore 4, 2) := by decide +kernel
theorem dX5_heardIn_40 : decode cX5_heardIn 40 = .ok (.iload 4, 2) := by decide +kernel
theorem dX5_heardIn_42 : decode cX5_heardIn 42 = .ok (.ifCond .le 8, 3) := by decide +kernel
theorem dX5_heardIn_45 : decode cX5_heardIn 45 = .ok (.iload 4, 2) := by decide +kernel
theorem dX5_heardIn_47 : decode cX5_heardIn 47 = .ok (.goto 4, 3) := by decide +kernel
theorem dX5_heardIn_50 : decode cX5_heardIn 50 = .ok (.iconst 0, 1) := by decide +kernel
theorem dX5_heardIn_51 : decode cX5_heardIn 51 = .ok (.ireturn, 1) := by decide +kernel
theorem dX5_best_0 : decode cX5_best 0 = .ok (.iconst 0, 1) := by decide +kernel
theorem dX5_best_1 : decode cX5_best 1 = .ok (.istore_n 2, 1) := by decide +kernel
theorem dX5_best_2 : decode cX5_best 2 = .ok (.bipush (-5), 2) := by decide +kernel
theorem dX5_best_4 : decode cX5_best 4 = .ok (.istore_n 3, 1) := by decide +kernel
theorem dX5_best_5 : decode cX5_best 5 = .ok (.iconst 0, 1) := by decide +kernel
theorem dX5_best_6 : decode cX5_best 6 = .ok (.istore 4, 2) := by decide +kernel
theorem dX5_best_8 : decode cX5_best 8 = .ok (.iload 4, 2) := by decide +kernel
theorem dX5_best_10 : decode cX5_best 10 = .ok (.bipush 6, 2) := by decide +kernel
theorem dX5_best_12 : decode cX5_best 12 = .ok (.if_icmp .ge 55, 3) := by decide +kernel
theorem dX5_best_15 : decode cX5_best 15 = .ok (.aload_n 0, 1) := by decide +kernel
theorem dX5_best_16 : decode cX5_best 16 = .ok (.iload 4, 2) := by decide +kernel
theorem dX5_best_18 : decode cX5_best 18 = .ok (.iload_n 1, 1) := by decide +kernel
theorem dX5_best_19 : decode cX5_best 19 = .ok (.invokevirtual 80, 3) := by decide +kernel
theorem dX5_best_22 : decode cX5_best 22 = .ok (.istore 5, 2) := by decide +kernel
theorem dX5_best_24 : decode cX5_best 24 = .ok (.iload 5, 2) := by decide +kernel
theorem dX5_best_26 : decode cX5_best 26 = .ok (.iload_n 2, 1) := by decide +kernel
theorem dX5_best_27 : decode cX5_best 27 = .ok (.if_icmp .le 8, 3) := by decide +kernel
theorem dX5_best_30 : decode cX5_best 30 = .ok (.iload 4, 2) := by decide +kernel
theorem dX5_best_32 : decode cX5_best 32 = .ok (.goto 15, 3) := by decide +kernel
theorem dX5_best_35 : decode cX5_best 35 = .ok (.iload 5, 2) := by decide +kernel
theorem dX5_best_37 : decode cX5_best 37 = .ok (.iload_n 2, 1) := by decide +kernel
theorem dX5_best_38 : decode cX5_best 38 = .ok (.if_icmp .ne 8, 3) := by decide +kernel
theorem dX5_best_41 : decode cX5_best 41 = .ok (.bipush (-5), 2) := by decide +kernel
theorem dX5_best_43 : decode cX5_best 43 = .ok (.goto 4, 3) := by decide +kernel
theorem dX5_best_46 : decode cX5_best 46 = .ok (.iload_n 3, 1) := by decide +kernel
theorem dX5_best_47 : decode cX5_best 47 = .ok (.istore_n 3, 1) := by decide +kernel
theorem dX5_best_48 : decode cX5_best 48 = .ok (.iload 5, 2) := by decide +kernel
theorem dX5_best_50 : decode cX5_best 50 = .ok (.iload_n 2, 1) := by decide +kernel
theorem dX5_best_51 : decode cX5_best 51 = .ok (.if_icmp .le 8, 3) := by decide +kernel
theorem dX5_best_54 : decode cX5_best 54 = .ok (.iload 5, 2) := by decide +kernel
theorem dX5_best_56 : decode cX5_best 56 = .ok (.goto 4, 3) := by decide +kernel
theorem dX5_best_59 : decode cX5_best 59 = .ok (.iload_n 2, 1) := by decide +kernel
theorem dX5_best_60 : decode cX5_best 60 = .ok (.istore_n 2, 1) := by decide +kernel
theorem dX5_best_61 : decode cX5_best 61 = .ok (.iinc 4 1, 3) := by decide +kernel
theorem dX5_best_64 : decode cX5_best 64 = .ok (.goto (-56), 3) := by decide +kernel
theorem dX5_best_67 : decode cX5_best 67 = .ok (.iload_n 3, 1) := by decide +kernel
theorem dX5_best_68 : decode cX5_best 68 = .ok (.ireturn, 1) := by decide +kernel
theorem dX5_loudestNow_0 : decode cX5_loudestNow 0 = .ok (.bipush (-5), 2) := by decide +kernel
theorem dX5_loudestNow_2 : decode cX5_loudestNow 2 = .ok (.istore_n 1, 1) := by decide +kernel
theorem dX5_loudestNow_3 : decode cX5_loudestNow 3 = .ok (.iconst 5, 1) := by decide +kernel
theorem dX5_loudestNow_4 : decode cX5_loudestNow 4 = .ok (.istore_n 2, 1) := by decide +kernel
theorem dX5_loudestNow_5 : decode cX5_loudestNow 5 = .ok (.iload_n 2, 1) := by decide +kernel
theorem dX5_loudestNow_6 : decode cX5_loudestNow 6 = .ok (.ifCond .lt 45, 3) := by decide +kernel
theorem dX5_loudestNow_9 : decode cX5_loudestNow 9 = .ok (.aload_n 0, 1) := by decide +kernel
theorem dX5_loudestNow_10 : decode cX5_loudestNow 10 = .ok (.getfield 22, 3) := by decide +kernel
theorem dX5_loudestNow_13 : decode cX5_loudestNow 13 = .ok (.iload_n 2, 1) := by decide +kernel
theorem dX5_loudestNow_14 : decode cX5_loudestNow 14 = .ok (.iaload, 1) := by decide +kernel
theorem dX5_loudestNow_15 : decode cX5_loudestNow 15 = .ok (.ifCond .le 28, 3) := by decide +kernel
theorem dX5_loudestNow_18 : decode cX5_loudestNow 18 = .ok (.iload_n 1, 1) := by decide +kernel
theorem dX5_loudestNow_19 : decode cX5_loudestNow 19 = .ok (.bipush (-5), 2) := by decide +kernel
theorem dX5_loudestNow_21 : decode cX5_loudestNow 21 = .ok (.if_icmp .eq 18, 3) := by decide +kernel
theorem dX5_loudestNow_24 : decode cX5_loudestNow 24 = .ok (.aload_n 0, 1) := by decide +kernel
theorem dX5_loudestNow_25 : decode cX5_loudestNow 25 = .ok (.getfield 22, 3) := by decide +kernel
theorem dX5_loudestNow_28 : decode cX5_loudestNow 28 = .ok (.iload_n 2, 1) := by decide +kernel
theorem dX5_loudestNow_29 : decode cX5_loudestNow 29 = .ok (.iaload, 1) := by decide +kernel
theorem dX5_loudestNow_30 : decode cX5_loudestNow 30 = .ok (.aload_n 0, 1) := by decide +kernel
theorem dX5_loudestNow_31 : decode cX5_loudestNow 31 = .ok (.getfield 22, 3) := by decide +kernel
theorem dX5_loudestNow_34 : decode cX5_loudestNow 34 = .ok (.iload_n 1, 1) := by decide +kernel
theorem dX5_loudestNow_35 : decode cX5_loudestNow 35 = .ok (.iaload, 1) := by decide +kernel
theorem dX5_loudestNow_36 : decode cX5_loudestNow 36 = .ok (.if_icmp .lt 7, 3) := by decide +kernel
theorem dX5_loudestNow_39 : decode cX5_loudestNow 39 = .ok (.iload_n 2, 1) := by decide +kernel
theorem dX5_loudestNow_40 : decode cX5_loudestNow 40 = .ok (.goto 4, 3) := by decide +kernel
theorem dX5_loudestNow_43 : decode cX5_loudestNow 43 = .ok (.iload_n 1, 1) := by decide +kernel
theorem dX5_loudestNow_44 : decode cX5_loudestNow 44 = .ok (.istore_n 1, 1) := by decide +kernel
theorem dX5_loudestNow_45 : decode cX5_loudestNow 45 = .ok (.iinc 2 (-1), 3) := by decide +kernel
theorem dX5_loudestNow_48 : decode cX5_loudestNow 48 = .ok (.goto (-43), 3) := by decide +kernel
theorem dX5_loudestNow_51 : decode cX5_loudestNow 51 = .ok (.iload_n 1, 1) := by decide +kernel
theorem dX5_loudestNow_52 : decode cX5_loudestNow 52 = .ok (.ireturn, 1) := by decide +kernel
theorem dX5_wearDown_0 : decode cX5_wearDown 0 = .ok (.iconst 0, 1) := by decide +kernel
theorem dX5_wearDown_1 : decode cX5_wearDown 1 = .ok (.istore_n 3, 1) := by decide +kernel
theorem dX5_wearDown_2 : decode cX5_wearDown 2 = .ok (.iconst 0, 1) := by decide +kernel
theorem dX5_wearDown_3 : decode cX5_wearDown 3 = .ok (.istore 4, 2) := by decide +kernel
theorem dX5_wearDown_5 : decode cX5_wearDown 5 = .ok (.iload 4, 2) := by decide +kernel
theorem dX5_wearDown_7 : decode cX5_wearDown 7 = .ok (.aload_n 0, 1) := by decide +kernel
theorem dX5_wearDown_8 : decode cX5_wearDown 8 = .ok (.iload_n 1, 1) := by decide +kernel
theorem dX5_wearDown_9 : decode cX5_wearDown 9 = .ok (.iconst 3, 1) := by decide +kernel
theorem dX5_wearDown_10 : decode cX5_wearDown 10 = .ok (.invokevirtual 49, 3) := by decide +kernel
theorem dX5_wearDown_13 : decode cX5_wearDown 13 = .ok (.if_icmp .ge 73, 3) := by decide +kernel
theorem dX5_wearDown_16 : decode cX5_wearDown 16 = .ok (.iload_n 2, 1) := by decide +kernel
theorem dX5_wearDown_17 : decode cX5_wearDown 17 = .ok (.iload 4, 2) := by decide +kernel
theorem dX5_wearDown_19 : decode cX5_wearDown 19 = .ok (.ishr, 1) := by decide +kernel
theorem dX5_wearDown_20 : decode cX5_wearDown 20 = .ok (.iconst 1, 1) := by decide +kernel
theorem dX5_wearDown_21 : decode cX5_wearDown 21 = .ok (.iand, 1) := by decide +kernel
theorem dX5_wearDown_22 : decode cX5_wearDown 22 = .ok (.iconst 1, 1) := by decide +kernel
theorem dX5_wearDown_23 : decode cX5_wearDown 23 = .ok (.if_icmp .ne 57, 3) := by decide +kernel
theorem dX5_wearDown_26 : decode cX5_wearDown 26 = .ok (.aload_n 0, 1) := by decide +kernel
theorem dX5_wearDown_27 : decode cX5_wearDown 27 = .ok (.iload_n 1, 1) := by decide +kernel
theorem dX5_wearDown_28 : decode cX5_wearDown 28 = .ok (.bipush 14, 2) := by decide +kernel
theorem dX5_wearDown_30 : decode cX5_wearDown 30 = .ok (.iload 4, 2) := by decide +kernel
theorem dX5_wearDown_32 : decode cX5_wearDown 32 = .ok (.iadd, 1) := by decide +kernel
theorem dX5_wearDown_33 : decode cX5_wearDown 33 = .ok (.aload_n 0, 1) := by decide +kernel
theorem dX5_wearDown_34 : decode cX5_wearDown 34 = .ok (.iload_n 1, 1) := by decide +kernel
theorem dX5_wearDown_35 : decode cX5_wearDown 35 = .ok (.bipush 14, 2) := by decide +kernel
theorem dX5_wearDown_37 : decode cX5_wearDown 37 = .ok (.iload 4, 2) := by decide +kernel
theorem dX5_wearDown_39 : decode cX5_wearDown 39 = .ok (.iadd, 1) := by decide +kernel
theorem dX5_wearDown_40 : decode cX5_wearDown 40 = .ok (.invokevirtual 49, 3) := by decide +kernel
theorem dX5_wearDown_43 : decode cX5_wearDown 43 = .ok (.iconst 1, 1) := by decide +kernel
theorem dX5_wearDown_44 : decode cX5_wearDown 44 = .ok (.iadd, 1) := by decide +kernel
theorem dX5_wearDown_45 : decode cX5_wearDown 45 = .ok (.invokevirtual 37, 3) := by decide +kernel
theorem dX5_wearDown_48 : decode cX5_wearDown 48 = .ok (.aload_n 0, 1) := by decide +kernel
theorem dX5_wearDown_49 : decode cX5_wearDown 49 = .ok (.iload_n 1, 1) := by decide +kernel
theorem dX5_wearDown_50 : decode cX5_wearDown 50 = .ok (.bipush 19, 2) := by decide +kernel
theorem dX5_wearDown_52 : decode cX5_wearDown 52 = .ok (.iload 4, 2) := by decide +kernel
theorem dX5_wearDown_54 : decode cX5_wearDown 54 = .ok (.iadd, 1) := by decide +kernel
theorem dX5_wearDown_55 : decode cX5_wearDown 55 = .ok (.aload_n 0, 1) := by decide +kernel
theorem dX5_wearDown_56 : decode cX5_wearDown 56 = .ok (.iload_n 1, 1) := by decide +kernel
theorem dX5_wearDown_57 : decode cX5_wearDown 57 = .ok (.bipush 19, 2) := by decide +kernel
theorem dX5_wearDown_59 : decode cX5_wearDown 59 = .ok (.iload 4, 2) := by decide +kernel
theorem dX5_wearDown_61 : decode cX5_wearDown 61 = .ok (.iadd, 1) := by decide +kernel
theorem dX5_wearDown_62 : decode cX5_wearDown 62 = .ok (.invokevirtual 49, 3) := by decide +kernel
theorem dX5_wearDown_65 : decode cX5_wearDown 65 = .ok (.iconst 1, 1) := by decide +kernel
theorem dX5_wearDown_66 : decode cX5_wearDown 66 = .ok (.iadd, 1) := by decide +kernel
theorem dX5_wearDown_67 : decode cX5_wearDown 67 = .ok (.invokevirtual 37, 3) := by decide +kernel
theorem dX5_wearDown_70 : decode cX5_wearDown 70 = .ok (.iload_n 3, 1) := by decide +kernel
theorem dX5_wearDown_71 : decode cX5_wearDown 71 = .ok (.aload_n 0, 1) := by decide +kernel
theorem dX5_wearDown_72 : decode cX5_wearDown 72 = .ok (.iload_n 1, 1) := by decide +kernel
theorem dX5_wearDown_73 : decode cX5_wearDown 73 = .ok (.iload 4, 2) := by decide +kernel
theorem dX5_wearDown_75 : decode cX5_wearDown 75 = .ok (.invokevirtual 71, 3) := by decide +kernel
theorem dX5_wearDown_78 : decode cX5_wearDown 78 = .ok (.iadd, 1) := by decide +kernel
theorem dX5_wearDown_79 : decode cX5_wearDown 79 = .ok (.istore_n 3, 1) := by decide +kernel
theorem dX5_wearDown_80 : decode cX5_wearDown 80 = .ok (.iinc 4 1, 3) := by decide +kernel
theorem dX5_wearDown_83 : decode cX5_wearDown 83 = .ok (.goto (-78), 3) := by decide +kernel
theorem dX5_wearDown_86 : decode cX5_wearDown 86 = .ok (.aload_n 0, 1) := by decide +kernel
theorem dX5_wearDown_87 : decode cX5_wearDown 87 = .ok (.iload_n 1, 1) := by decide +kernel
theorem dX5_wearDown_88 : decode cX5_wearDown 88 = .ok (.iconst 2, 1) := by decide +kernel
theorem dX5_wearDown_89 : decode cX5_wearDown 89 = .ok (.iload_n 3, 1) := by decide +kernel
theorem dX5_wearDown_90 : decode cX5_wearDown 90 = .ok (.iconst 2, 1) := by decide +kernel
theorem dX5_wearDown_91 : decode cX5_wearDown 91 = .ok (.idiv, 1) := by decide +kernel
theorem dX5_wearDown_92 : decode cX5_wearDown 92 = .ok (.invokevirtual 37, 3) := by decide +kernel
theorem dX5_wearDown_95 : decode cX5_wearDown 95 = .ok (.return_, 1) := by decide +kernel
theorem dX5_turn_0 : decode cX5_turn 0 = .ok (.aload_n 0, 1) := by decide +kernel
theorem dX5_turn_1 : decode cX5_turn 1 = .ok (.invokevirtual 83, 3) := by decide +kernel
theorem dX5_turn_4 : decode cX5_turn 4 = .ok (.aload_n 0, 1) := by decide +kernel
theorem dX5_turn_5 : decode cX5_turn 5 = .ok (.invokevirtual 86, 3) := by decide +kernel
theorem dX5_turn_8 : decode cX5_turn 8 = .ok (.istore_n 1, 1) := by decide +kernel
theorem dX5_turn_9 : decode cX5_turn 9 = .ok (.iconst 0, 1) := by decide +kernel
theorem dX5_turn_10 : decode cX5_turn 10 = .ok (.istore_n 2, 1) := by decide +kernel
theorem dX5_turn_11 : decode cX5_turn 11 = .ok (.iload_n 2, 1) := by decide +kernel
theorem dX5_turn_12 : decode cX5_turn 12 = .ok (.bipush 6, 2) := by decide +kernel
theorem dX5_turn_14 : decode cX5_turn 14 = .ok (.if_icmp .ge 37, 3) := by decide +kernel
theorem dX5_turn_17 : decode cX5_turn 17 = .ok (.aload_n 0, 1) := by decide +kernel
theorem dX5_turn_18 : decode cX5_turn 18 = .ok (.iload_n 2, 1) := by decide +kernel
theorem dX5_turn_19 : decode cX5_turn 19 = .ok (.invokevirtual 90, 3) := by decide +kernel
theorem dX5_turn_22 : decode cX5_turn 22 = .ok (.istore_n 3, 1) := by decide +kernel
theorem dX5_turn_23 : decode cX5_turn 23 = .ok (.iload_n 3, 1) := by decide +kernel
theorem dX5_turn_24 : decode cX5_turn 24 = .ok (.bipush (-5), 2) := by decide +kernel
theorem dX5_turn_26 : decode cX5_turn 26 = .ok (.if_icmp .eq 19, 3) := by decide +kernel
theorem dX5_turn_29 : decode cX5_turn 29 = .ok (.aload_n 0, 1) := by decide +kernel
theorem dX5_turn_30 : decode cX5_turn 30 = .ok (.iload_n 3, 1) := by decide +kernel
theorem dX5_turn_31 : decode cX5_turn 31 = .ok (.bipush 7, 2) := by decide +kernel
theorem dX5_turn_33 : decode cX5_turn 33 = .ok (.aload_n 0, 1) := by decide +kernel
theorem dX5_turn_34 : decode cX5_turn 34 = .ok (.iload_n 3, 1) := by decide +kernel
theorem dX5_turn_35 : decode cX5_turn 35 = .ok (.bipush 7, 2) := by decide +kernel
theorem dX5_turn_37 : decode cX5_turn 37 = .ok (.invokevirtual 49, 3) := by decide +kernel
theorem dX5_turn_40 : decode cX5_turn 40 = .ok (.iconst 1, 1) := by decide +kernel
theorem dX5_turn_41 : decode cX5_turn 41 = .ok (.iadd, 1) := by decide +kernel
theorem dX5_turn_42 : decode cX5_turn 42 = .ok (.invokevirtual 37, 3) := by decide +kernel
theorem dX5_turn_45 : decode cX5_turn 45 = .ok (.iinc 2 1, 3) := by decide +kernel
theorem dX5_turn_48 : decode cX5_turn 48 = .ok (.goto (-37), 3) := by decide +kernel
theorem dX5_turn_51 : decode cX5_turn 51 = .ok (.iconst 0, 1) := by decide +kernel
theorem dX5_turn_52 : decode cX5_turn 52 = .ok (.istore_n 2, 1) := by decide +kernel
theorem dX5_turn_53 : decode cX5_turn 53 = .ok (.iload_n 2, 1) := by decide +kernel
theorem dX5_turn_54 : decode cX5_turn 54 = .ok (.bipush 6, 2) := by decide +kernel
theorem dX5_turn_56 : decode cX5_turn 56 = .ok (.if_icmp .ge 55, 3) := by decide +kernel
theorem dX5_turn_59 : decode cX5_turn 59 = .ok (.aload_n 0, 1) := by decide +kernel
theorem dX5_turn_60 : decode cX5_turn 60 = .ok (.iload_n 2, 1) := by decide +kernel
theorem dX5_turn_61 : decode cX5_turn 61 = .ok (.aload_n 0, 1) := by decide +kernel
theorem dX5_turn_62 : decode cX5_turn 62 = .ok (.iload_n 2, 1) := by decide +kernel
theorem dX5_turn_63 : decode cX5_turn 63 = .ok (.aload_n 0, 1) := by decide +kernel
theorem dX5_turn_64 : decode cX5_turn 64 = .ok (.iload_n 2, 1) := by decide +kernel
theorem dX5_turn_65 : decode cX5_turn 65 = .ok (.iconst 4, 1) := by decide +kernel
theorem dX5_turn_66 : decode cX5_turn 66 = .ok (.invokevirtual 49, 3) := by decide +kernel
theorem dX5_turn_69 : decode cX5_turn 69 = .ok (.invokevirtual 74, 3) := by decide +kernel
theorem dX5_turn_72 : decode cX5_turn 72 = .ok (.invokevirtual 93, 3) := by decide +kernel
theorem dX5_turn_75 : decode cX5_turn 75 = .ok (.aload_n 0, 1) := by decide +kernel
theorem dX5_turn_76 : decode cX5_turn 76 = .ok (.iload_n 2, 1) := by decide +kernel
theorem dX5_turn_77 : decode cX5_turn 77 = .ok (.bipush 6, 2) := by decide +kernel
theorem dX5_turn_79 : decode cX5_turn 79 = .ok (.aload_n 0, 1) := by decide +kernel
theorem dX5_turn_80 : decode cX5_turn 80 = .ok (.iload_n 2, 1) := by decide +kernel
theorem dX5_turn_81 : decode cX5_turn 81 = .ok (.bipush 6, 2) := by decide +kernel
theorem dX5_turn_83 : decode cX5_turn 83 = .ok (.invokevirtual 49, 3) := by decide +kernel
theorem dX5_turn_86 : decode cX5_turn 86 = .ok (.ifCond .le 15, 3) := by decide +kernel
theorem dX5_turn_89 : decode cX5_turn 89 = .ok (.aload_n 0, 1) := by decide +kernel
theorem dX5_turn_90 : decode cX5_turn 90 = .ok (.iload_n 2, 1) := by decide +kernel
theorem dX5_turn_91 : decode cX5_turn 91 = .ok (.bipush 6, 2) := by decide +kernel
theorem dX5_turn_93 : decode cX5_turn 93 = .ok (.invokevirtual 49, 3) := by decide +kernel
theorem dX5_turn_96 : decode cX5_turn 96 = .ok (.iconst 1, 1) := by decide +kernel
theorem dX5_turn_97 : decode cX5_turn 97 = .ok (.isub, 1) := by decide +kernel
theorem dX5_turn_98 : decode cX5_turn 98 = .ok (.goto 4, 3) := by decide +kernel
theorem dX5_turn_101 : decode cX5_turn 101 = .ok (.iconst 0, 1) := by decide +kernel
theorem dX5_turn_102 : decode cX5_turn 102 = .ok (.invokevirtual 37, 3) := by decide +kernel
theorem dX5_turn_105 : decode cX5_turn 105 = .ok (.iinc 2 1, 3) := by decide +kernel
theorem dX5_turn_108 : decode cX5_turn 108 = .ok (.goto (-55), 3) := by decide +kernel
theorem dX5_turn_111 : decode cX5_turn 111 = .ok (.iload_n 1, 1) := by decide +kernel
theorem dX5_turn_112 : decode cX5_turn 112 = .ok (.bipush (-5), 2) := by decide +kernel
theorem dX5_turn_114 : decode cX5_turn 114 = .ok (.if_icmp .ne 16, 3) := by decide +kernel
theorem dX5_turn_117 : decode cX5_turn 117 = .ok (.aload_n 0, 1) := by decide +kernel
theorem dX5_turn_118 : decode cX5_turn 118 = .ok (.getfield 7, 3) := by decide +kernel
theorem dX5_turn_121 : decode cX5_turn 121 = .ok (.iconst 4, 1) := by decide +kernel
theorem dX5_turn_122 : decode cX5_turn 122 = .ok (.dup2, 1) := by decide +kernel
theorem dX5_turn_123 : decode cX5_turn 123 = .ok (.iaload, 1) := by decide +kernel
theorem dX5_turn_124 : decode cX5_turn 124 = .ok (.iconst 1, 1) := by decide +kernel
theorem dX5_turn_125 : decode cX5_turn 125 = .ok (.iadd, 1) := by decide +kernel
theorem dX5_turn_126 : decode cX5_turn 126 = .ok (.iastore, 1) := by decide +kernel
theorem dX5_turn_127 : decode cX5_turn 127 = .ok (.goto 32, 3) := by decide +kernel
theorem dX5_turn_130 : decode cX5_turn 130 = .ok (.aload_n 0, 1) := by decide +kernel
theorem dX5_turn_131 : decode cX5_turn 131 = .ok (.iload_n 1, 1) := by decide +kernel
theorem dX5_turn_132 : decode cX5_turn 132 = .ok (.bipush 6, 2) := by decide +kernel
theorem dX5_turn_134 : decode cX5_turn 134 = .ok (.aload_n 0, 1) := by decide +kernel
theorem dX5_turn_135 : decode cX5_turn 135 = .ok (.getfield 7, 3) := by decide +kernel
theorem dX5_turn_138 : decode cX5_turn 138 = .ok (.iconst 1, 1) := by decide +kernel
theorem dX5_turn_139 : decode cX5_turn 139 = .ok (.iaload, 1) := by decide +kernel
theorem dX5_turn_140 : decode cX5_turn 140 = .ok (.invokevirtual 37, 3) := by decide +kernel
theorem dX5_turn_143 : decode cX5_turn 143 = .ok (.aload_n 0, 1) := by decide +kernel
theorem dX5_turn_144 : decode cX5_turn 144 = .ok (.iload_n 1, 1) := by decide +kernel
theorem dX5_turn_145 : decode cX5_turn 145 = .ok (.bipush 8, 2) := by decide +kernel
theorem dX5_turn_147 : decode cX5_turn 147 = .ok (.aload_n 0, 1) := by decide +kernel
theorem dX5_turn_148 : decode cX5_turn 148 = .ok (.iload_n 1, 1) := by decide +kernel
theorem dX5_turn_149 : decode cX5_turn 149 = .ok (.bipush 8, 2) := by decide +kernel
theorem dX5_turn_151 : decode cX5_turn 151 = .ok (.invokevirtual 49, 3) := by decide +kernel
theorem dX5_turn_154 : decode cX5_turn 154 = .ok (.iconst 1, 1) := by decide +kernel
theorem dX5_turn_155 : decode cX5_turn 155 = .ok (.iadd, 1) := by decide +kernel
theorem dX5_turn_156 : decode cX5_turn 156 = .ok (.invokevirtual 37, 3) := by decide +kernel
theorem dX5_turn_159 : decode cX5_turn 159 = .ok (.aload_n 0, 1) := by decide +kernel
theorem dX5_turn_160 : decode cX5_turn 160 = .ok (.getfield 7, 3) := by decide +kernel
theorem dX5_turn_163 : decode cX5_turn 163 = .ok (.iconst 3, 1) := by decide +kernel
theorem dX5_turn_164 : decode cX5_turn 164 = .ok (.iload_n 1, 1) := by decide +kernel
theorem dX5_turn_165 : decode cX5_turn 165 = .ok (.iastore, 1) := by decide +kernel
theorem dX5_turn_166 : decode cX5_turn 166 = .ok (.aload_n 0, 1) := by decide +kernel
theorem dX5_turn_167 : decode cX5_turn 167 = .ok (.getfield 7, 3) := by decide +kernel
theorem dX5_turn_170 : decode cX5_turn 170 = .ok (.iconst 2, 1) := by decide +kernel
theorem dX5_turn_171 : decode cX5_turn 171 = .ok (.dup2, 1) := by decide +kernel
theorem dX5_turn_172 : decode cX5_turn 172 = .ok (.iaload, 1) := by decide +kernel
theorem dX5_turn_173 : decode cX5_turn 173 = .ok (.iconst 1, 1) := by decide +kernel
theorem dX5_turn_174 : decode cX5_turn 174 = .ok (.iadd, 1) := by decide +kernel
theorem dX5_turn_175 : decode cX5_turn 175 = .ok (.iastore, 1) := by decide +kernel
theorem dX5_turn_176 : decode cX5_turn 176 = .ok (.return_, 1) := by decide +kernel
theorem dX5_hang_0 : decode cX5_hang 0 = .ok (.iload_n 1, 1) := by decide +kernel
theorem dX5_hang_1 : decode cX5_hang 1 = .ok (.invokestatic 45, 3) := by decide +kernel
theorem dX5_hang_4 : decode cX5_hang 4 = .ok (.ifCond .ne 5, 3) := by decide +kernel
theorem dX5_hang_7 : decode cX5_hang 7 = .ok (.iconst (-1), 1) := by decide +kernel
theorem dX5_hang_8 : decode cX5_hang 8 = .ok (.ireturn, 1) := by decide +kernel
theorem dX5_hang_9 : decode cX5_hang 9 = .ok (.iload_n 2, 1) := by decide +kernel
theorem dX5_hang_10 : decode cX5_hang 10 = .ok (.iconst 1, 1) := by decide +kernel
theorem dX5_hang_11 : decode cX5_hang 11 = .ok (.bipush 9, 2) := by decide +kernel
theorem dX5_hang_13 : decode cX5_hang 13 = .ok (.invokestatic 41, 3) := by decide +kernel
theorem dX5_hang_16 : decode cX5_hang 16 = .ok (.ifCond .ne 6, 3) := by decide +kernel
theorem dX5_hang_19 : decode cX5_hang 19 = .ok (.bipush (-2), 2) := by decide +kernel
theorem dX5_hang_21 : decode cX5_hang 21 = .ok (.ireturn, 1) := by decide +kernel
theorem dX5_hang_22 : decode cX5_hang 22 = .ok (.aload_n 0, 1) := by decide +kernel
theorem dX5_hang_23 : decode cX5_hang 23 = .ok (.iload_n 1, 1) := by decide +kernel
theorem dX5_hang_24 : decode cX5_hang 24 = .ok (.iconst 3, 1) := by decide +kernel
theorem dX5_hang_25 : decode cX5_hang 25 = .ok (.invokevirtual 49, 3) := by decide +kernel
theorem dX5_hang_28 : decode cX5_hang 28 = .ok (.iconst 5, 1) := by decide +kernel
theorem dX5_hang_29 : decode cX5_hang 29 = .ok (.if_icmp .ne 6, 3) := by decide +kernel
theorem dX5_hang_32 : decode cX5_hang 32 = .ok (.bipush (-3), 2) := by decide +kernel
theorem dX5_hang_34 : decode cX5_hang 34 = .ok (.ireturn, 1) := by decide +kernel
theorem dX5_hang_35 : decode cX5_hang 35 = .ok (.aload_n 0, 1) := by decide +kernel
theorem dX5_hang_36 : decode cX5_hang 36 = .ok (.invokevirtual 61, 3) := by decide +kernel
theorem dX5_hang_39 : decode cX5_hang 39 = .ok (.aload_n 0, 1) := by decide +kernel
theorem dX5_hang_40 : decode cX5_hang 40 = .ok (.iload_n 1, 1) := by decide +kernel
theorem dX5_hang_41 : decode cX5_hang 41 = .ok (.iconst 3, 1) := by decide +kernel
theorem dX5_hang_42 : decode cX5_hang 42 = .ok (.invokevirtual 49, 3) := by decide +kernel
theorem dX5_hang_45 : decode cX5_hang 45 = .ok (.istore_n 3, 1) := by decide +kernel
theorem dX5_hang_46 : decode cX5_hang 46 = .ok (.aload_n 0, 1) := by decide +kernel
theorem dX5_hang_47 : decode cX5_hang 47 = .ok (.iload_n 1, 1) := by decide +kernel
theorem dX5_hang_48 : decode cX5_hang 48 = .ok (.bipush 9, 2) := by decide +kernel
theorem dX5_hang_50 : decode cX5_hang 50 = .ok (.iload_n 3, 1) := by decide +kernel
theorem dX5_hang_51 : decode cX5_hang 51 = .ok (.iadd, 1) := by decide +kernel
theorem dX5_hang_52 : decode cX5_hang 52 = .ok (.iload_n 2, 1) := by decide +kernel
theorem dX5_hang_53 : decode cX5_hang 53 = .ok (.invokevirtual 37, 3) := by decide +kernel
theorem dX5_hang_56 : decode cX5_hang 56 = .ok (.aload_n 0, 1) := by decide +kernel
theorem dX5_hang_57 : decode cX5_hang 57 = .ok (.iload_n 1, 1) := by decide +kernel
theorem dX5_hang_58 : decode cX5_hang 58 = .ok (.bipush 14, 2) := by decide +kernel
theorem dX5_hang_60 : decode cX5_hang 60 = .ok (.iload_n 3, 1) := by decide +kernel
theorem dX5_hang_61 : decode cX5_hang 61 = .ok (.iadd, 1) := by decide +kernel
theorem dX5_hang_62 : decode cX5_hang 62 = .ok (.iconst 0, 1) := by decide +kernel
theorem dX5_hang_63 : decode cX5_hang 63 = .ok (.invokevirtual 37, 3) := by decide +kernel
theorem dX5_hang_66 : decode cX5_hang 66 = .ok (.aload_n 0, 1) := by decide +kernel
theorem dX5_hang_67 : decode cX5_hang 67 = .ok (.iload_n 1, 1) := by decide +kernel
theorem dX5_hang_68 : decode cX5_hang 68 = .ok (.bipush 19, 2) := by decide +kernel
theorem dX5_hang_70 : decode cX5_hang 70 = .ok (.iload_n 3, 1) := by decide +kernel
theorem dX5_hang_71 : decode cX5_hang 71 = .ok (.iadd, 1) := by decide +kernel
theorem dX5_hang_72 : decode cX5_hang 72 = .ok (.iconst 0, 1) := by decide +kernel
theorem dX5_hang_73 : decode cX5_hang 73 = .ok (.invokevirtual 37, 3) := by decide +kernel
theorem dX5_hang_76 : decode cX5_hang 76 = .ok (.aload_n 0, 1) := by decide +kernel
theorem dX5_hang_77 : decode cX5_hang 77 = .ok (.iload_n 1, 1) := by decide +kernel
theorem dX5_hang_78 : decode cX5_hang 78 = .ok (.iconst 3, 1) := by decide +kernel
theorem dX5_hang_79 : decode cX5_hang 79 = .ok (.iload_n 3, 1) := by decide +kernel
theorem dX5_hang_80 : decode cX5_hang 80 = .ok (.iconst 1, 1) := by decide +kernel
theorem dX5_hang_81 : decode cX5_hang 81 = .ok (.iadd, 1) := by decide +kernel
theorem dX5_hang_82 : decode cX5_hang 82 = .ok (.invokevirtual 37, 3) := by decide +kernel
theorem dX5_hang_85 : decode cX5_hang 85 = .ok (.iload_n 3, 1) := by decide +kernel
theorem dX5_hang_86 : decode cX5_hang 86 = .ok (.ireturn, 1) := by decide +kernel
theorem dX5_melt_0 : decode cX5_melt 0 = .ok (.aload_n 0, 1) := by decide +kernel
theorem dX5_melt_1 : decode cX5_melt 1 = .ok (.iload_n 1, 1) := by decide +kernel
theorem dX5_melt_2 : decode cX5_melt 2 = .ok (.iload_n 2, 1) := by decide +kernel
theorem dX5_melt_3 : decode cX5_melt 3 = .ok (.invokevirtual 97, 3) := by decide +kernel
theorem dX5_melt_6 : decode cX5_melt 6 = .ok (.ifCond .ne 5, 3) := by decide +kernel
theorem dX5_melt_9 : decode cX5_melt 9 = .ok (.iconst (-1), 1) := by decide +kernel
theorem dX5_melt_10 : decode cX5_melt 10 = .ok (.ireturn, 1) := by decide +kernel
theorem dX5_melt_11 : decode cX5_melt 11 = .ok (.aload_n 0, 1) := by decide +kernel
theorem dX5_melt_12 : decode cX5_melt 12 = .ok (.invokevirtual 61, 3) := by decide +kernel
theorem dX5_melt_15 : decode cX5_melt 15 = .ok (.aload_n 0, 1) := by decide +kernel
theorem dX5_melt_16 : decode cX5_melt 16 = .ok (.iload_n 1, 1) := by decide +kernel
theorem dX5_melt_17 : decode cX5_melt 17 = .ok (.bipush 9, 2) := by decide +kernel
theorem dX5_melt_19 : decode cX5_melt 19 = .ok (.iload_n 2, 1) := by decide +kernel
theorem dX5_melt_20 : decode cX5_melt 20 = .ok (.iadd, 1) := by decide +kernel
theorem dX5_melt_21 : decode cX5_melt 21 = .ok (.invokevirtual 49, 3) := by decide +kernel
theorem dX5_melt_24 : decode cX5_melt 24 = .ok (.istore_n 3, 1) := by decide +kernel
theorem dX5_melt_25 : decode cX5_melt 25 = .ok (.aload_n 0, 1) := by decide +kernel
theorem dX5_melt_26 : decode cX5_melt 26 = .ok (.iload_n 1, 1) := by decide +kernel
theorem dX5_melt_27 : decode cX5_melt 27 = .ok (.iconst 3, 1) := by decide +kernel
theorem dX5_melt_28 : decode cX5_melt 28 = .ok (.aload_n 0, 1) := by decide +kernel
theorem dX5_melt_29 : decode cX5_melt 29 = .ok (.iload_n 1, 1) := by decide +kernel
theorem dX5_melt_30 : decode cX5_melt 30 = .ok (.iconst 3, 1) := by decide +kernel
theorem dX5_melt_31 : decode cX5_melt 31 = .ok (.invokevirtual 49, 3) := by decide +kernel
theorem dX5_melt_34 : decode cX5_melt 34 = .ok (.iconst 1, 1) := by decide +kernel
theorem dX5_melt_35 : decode cX5_melt 35 = .ok (.isub, 1) := by decide +kernel
theorem dX5_melt_36 : decode cX5_melt 36 = .ok (.invokevirtual 37, 3) := by decide +kernel
theorem dX5_melt_39 : decode cX5_melt 39 = .ok (.iload_n 2, 1) := by decide +kernel
theorem dX5_melt_40 : decode cX5_melt 40 = .ok (.istore 4, 2) := by decide +kernel
theorem dX5_melt_42 : decode cX5_melt 42 = .ok (.iload 4, 2) := by decide +kernel
theorem dX5_melt_44 : decode cX5_melt 44 = .ok (.iconst 5, 1) := by decide +kernel
theorem dX5_melt_45 : decode cX5_melt 45 = .ok (.if_icmp .ge 120, 3) := by decide +kernel
theorem dX5_melt_48 : decode cX5_melt 48 = .ok (.iload 4, 2) := by decide +kernel
theorem dX5_melt_50 : decode cX5_melt 50 = .ok (.aload_n 0, 1) := by decide +kernel
theorem dX5_melt_51 : decode cX5_melt 51 = .ok (.iload_n 1, 1) := by decide +kernel
theorem dX5_melt_52 : decode cX5_melt 52 = .ok (.iconst 3, 1) := by decide +kernel
theorem dX5_melt_53 : decode cX5_melt 53 = .ok (.invokevirtual 49, 3) := by decide +kernel
theorem dX5_melt_56 : decode cX5_melt 56 = .ok (.if_icmp .ge 7, 3) := by decide +kernel
theorem dX5_melt_59 : decode cX5_melt 59 = .ok (.iconst 1, 1) := by decide +kernel
theorem dX5_melt_60 : decode cX5_melt 60 = .ok (.goto 4, 3) := by decide +kernel
theorem dX5_melt_63 : decode cX5_melt 63 = .ok (.iconst 0, 1) := by decide +kernel
theorem dX5_melt_64 : decode cX5_melt 64 = .ok (.istore 5, 2) := by decide +kernel
theorem dX5_melt_66 : decode cX5_melt 66 = .ok (.aload_n 0, 1) := by decide +kernel
theorem dX5_melt_67 : decode cX5_melt 67 = .ok (.iload_n 1, 1) := by decide +kernel
theorem dX5_melt_68 : decode cX5_melt 68 = .ok (.bipush 9, 2) := by decide +kernel
theorem dX5_melt_70 : decode cX5_melt 70 = .ok (.iload 4, 2) := by decide +kernel
theorem dX5_melt_72 : decode cX5_melt 72 = .ok (.iadd, 1) := by decide +kernel
theorem dX5_melt_73 : decode cX5_melt 73 = .ok (.iload 5, 2) := by decide +kernel
theorem dX5_melt_75 : decode cX5_melt 75 = .ok (.ifCond .eq 18, 3) := by decide +kernel
theorem dX5_melt_78 : decode cX5_melt 78 = .ok (.aload_n 0, 1) := by decide +kernel
theorem dX5_melt_79 : decode cX5_melt 79 = .ok (.iload_n 1, 1) := by decide +kernel
theorem dX5_melt_80 : decode cX5_melt 80 = .ok (.bipush 9, 2) := by decide +kernel
theorem dX5_melt_82 : decode cX5_melt 82 = .ok (.iload 4, 2) := by decide +kernel
theorem dX5_melt_84 : decode cX5_melt 84 = .ok (.iadd, 1) := by decide +kernel
theorem dX5_melt_85 : decode cX5_melt 85 = .ok (.iconst 1, 1) := by decide +kernel
theorem dX5_melt_86 : decode cX5_melt 86 = .ok (.iadd, 1) := by decide +kernel
theorem dX5_melt_87 : decode cX5_melt 87 = .ok (.invokevirtual 49, 3) := by decide +kernel
theorem dX5_melt_90 : decode cX5_melt 90 = .ok (.goto 4, 3) := by decide +kernel
theorem dX5_melt_93 : decode cX5_melt 93 = .ok (.iconst 0, 1) := by decide +kernel
theorem dX5_melt_94 : decode cX5_melt 94 = .ok (.invokevirtual 37, 3) := by decide +kernel
theorem dX5_melt_97 : decode cX5_melt 97 = .ok (.aload_n 0, 1) := by decide +kernel
theorem dX5_melt_98 : decode cX5_melt 98 = .ok (.iload_n 1, 1) := by decide +kernel
theorem dX5_melt_99 : decode cX5_melt 99 = .ok (.bipush 14, 2) := by decide +kernel
theorem dX5_melt_101 : decode cX5_melt 101 = .ok (.iload 4, 2) := by decide +kernel
theorem dX5_melt_103 : decode cX5_melt 103 = .ok (.iadd, 1) := by decide +kernel
theorem dX5_melt_104 : decode cX5_melt 104 = .ok (.iload 5, 2) := by decide +kernel
theorem dX5_melt_106 : decode cX5_melt 106 = .ok (.ifCond .eq 18, 3) := by decide +kernel
theorem dX5_melt_109 : decode cX5_melt 109 = .ok (.aload_n 0, 1) := by decide +kernel
theorem dX5_melt_110 : decode cX5_melt 110 = .ok (.iload_n 1, 1) := by decide +kernel
theorem dX5_melt_111 : decode cX5_melt 111 = .ok (.bipush 14, 2) := by decide +kernel
theorem dX5_melt_113 : decode cX5_melt 113 = .ok (.iload 4, 2) := by decide +kernel
theorem dX5_melt_115 : decode cX5_melt 115 = .ok (.iadd, 1) := by decide +kernel
theorem dX5_melt_116 : decode cX5_melt 116 = .ok (.iconst 1, 1) := by decide +kernel
theorem dX5_melt_117 : decode cX5_melt 117 = .ok (.iadd, 1) := by decide +kernel
theorem dX5_melt_118 : decode cX5_melt 118 = .ok (.invokevirtual 49, 3) := by decide +kernel
theorem dX5_melt_121 : decode cX5_melt 121 = .ok (.goto 4, 3) := by decide +kernel
theorem dX5_melt_124 : decode cX5_melt 124 = .ok (.iconst 0, 1) := by decide +kernel
theorem dX5_melt_125 : decode cX5_melt 125 = .ok (.invokevirtual 37, 3) := by decide +kernel
theorem dX5_melt_128 : decode cX5_melt 128 = .ok (.aload_n 0, 1) := by decide +kernel
theorem dX5_melt_129 : decode cX5_melt 129 = .ok (.iload_n 1, 1) := by decide +kernel
theorem dX5_melt_130 : decode cX5_melt 130 = .ok (.bipush 19, 2) := by decide +kernel
theorem dX5_melt_132 : decode cX5_melt 132 = .ok (.iload 4, 2) := by decide +kernel
theorem dX5_melt_134 : decode cX5_melt 134 = .ok (.iadd, 1) := by decide +kernel
theorem dX5_melt_135 : decode cX5_melt 135 = .ok (.iload 5, 2) := by decide +kernel
theorem dX5_melt_137 : decode cX5_melt 137 = .ok (.ifCond .eq 18, 3) := by decide +kernel
theorem dX5_melt_140 : decode cX5_melt 140 = .ok (.aload_n 0, 1) := by decide +kernel
theorem dX5_melt_141 : decode cX5_melt 141 = .ok (.iload_n 1, 1) := by decide +kernel
theorem dX5_melt_142 : decode cX5_melt 142 = .ok (.bipush 19, 2) := by decide +kernel
theorem dX5_melt_144 : decode cX5_melt 144 = .ok (.iload 4, 2) := by decide +kernel
theorem dX5_melt_146 : decode cX5_melt 146 = .ok (.iadd, 1) := by decide +kernel
theorem dX5_melt_147 : decode cX5_melt 147 = .ok (.iconst 1, 1) := by decide +kernel
theorem dX5_melt_148 : decode cX5_melt 148 = .ok (.iadd, 1) := by decide +kernel
theorem dX5_melt_149 : decode cX5_melt 149 = .ok (.invokevirtual 49, 3) := by decide +kernel
theorem dX5_melt_152 : decode cX5_melt 152 = .ok (.goto 4, 3) := by decide +kernel
theorem dX5_melt_155 : decode cX5_melt 155 = .ok (.iconst 0, 1) := by decide +kernel
theorem dX5_melt_156 : decode cX5_melt 156 = .ok (.invokevirtual 37, 3) := by decide +kernel
theorem dX5_melt_159 : decode cX5_melt 159 = .ok (.iinc 4 1, 3) := by decide +kernel
theorem dX5_melt_162 : decode cX5_melt 162 = .ok (.goto (-120), 3) := by decide +kernel
theorem dX5_melt_165 : decode cX5_melt 165 = .ok (.aload_n 0, 1) := by decide +kernel
theorem dX5_melt_166 : decode cX5_melt 166 = .ok (.iload_n 1, 1) := by decide +kernel
theorem dX5_melt_167 : decode cX5_melt 167 = .ok (.iconst 4, 1) := by decide +kernel
theorem dX5_melt_168 : decode cX5_melt 168 = .ok (.invokevirtual 49, 3) := by decide +kernel
theorem dX5_melt_171 : decode cX5_melt 171 = .ok (.istore 4, 2) := by decide +kernel
theorem dX5_melt_173 : decode cX5_melt 173 = .ok (.iconst 1, 1) := by decide +kernel
theorem dX5_melt_174 : decode cX5_melt 174 = .ok (.iload_n 2, 1) := by decide +kernel
theorem dX5_melt_175 : decode cX5_melt 175 = .ok (.ishl, 1) := by decide +kernel
theorem dX5_melt_176 : decode cX5_melt 176 = .ok (.iconst 1, 1) := by decide +kernel
theorem dX5_melt_177 : decode cX5_melt 177 = .ok (.isub, 1) := by decide +kernel
theorem dX5_melt_178 : decode cX5_melt 178 = .ok (.istore 5, 2) := by decide +kernel
theorem dX5_melt_180 : decode cX5_melt 180 = .ok (.aload_n 0, 1) := by decide +kernel
theorem dX5_melt_181 : decode cX5_melt 181 = .ok (.iload_n 1, 1) := by decide +kernel
theorem dX5_melt_182 : decode cX5_melt 182 = .ok (.iconst 4, 1) := by decide +kernel
theorem dX5_melt_183 : decode cX5_melt 183 = .ok (.iload 4, 2) := by decide +kernel
theorem dX5_melt_185 : decode cX5_melt 185 = .ok (.iload 5, 2) := by decide +kernel
theorem dX5_melt_187 : decode cX5_melt 187 = .ok (.iand, 1) := by decide +kernel
theorem dX5_melt_188 : decode cX5_melt 188 = .ok (.iload 4, 2) := by decide +kernel
theorem dX5_melt_190 : decode cX5_melt 190 = .ok (.iconst 1, 1) := by decide +kernel
theorem dX5_melt_191 : decode cX5_melt 191 = .ok (.ishr, 1) := by decide +kernel
theorem dX5_melt_192 : decode cX5_melt 192 = .ok (.iload 5, 2) := by decide +kernel
theorem dX5_melt_194 : decode cX5_melt 194 = .ok (.iconst (-1), 1) := by decide +kernel
theorem dX5_melt_195 : decode cX5_melt 195 = .ok (.ixor, 1) := by decide +kernel
theorem dX5_melt_196 : decode cX5_melt 196 = .ok (.iand, 1) := by decide +kernel
theorem dX5_melt_197 : decode cX5_melt 197 = .ok (.ior, 1) := by decide +kernel
theorem dX5_melt_198 : decode cX5_melt 198 = .ok (.invokevirtual 37, 3) := by decide +kernel
theorem dX5_melt_201 : decode cX5_melt 201 = .ok (.iload_n 3, 1) := by decide +kernel
theorem dX5_melt_202 : decode cX5_melt 202 = .ok (.ireturn, 1) := by decide +kernel
theorem dX5_isTaken_0 : decode cX5_isTaken 0 = .ok (.iconst 0, 1) := by decide +kernel
theorem dX5_isTaken_1 : decode cX5_isTaken 1 = .ok (.istore_n 3, 1) := by decide +kernel
theorem dX5_isTaken_2 : decode cX5_isTaken 2 = .ok (.iconst 0, 1) := by decide +kernel
theorem dX5_isTaken_3 : decode cX5_isTaken 3 = .ok (.istore 4, 2) := by decide +kernel
theorem dX5_isTaken_5 : decode cX5_isTaken 5 = .ok (.iload 4, 2) := by decide +kernel
theorem dX5_isTaken_7 : decode cX5_isTaken 7 = .ok (.bipush 6, 2) := by decide +kernel
theorem dX5_isTaken_9 : decode cX5_isTaken 9 = .ok (.if_icmp .ge 36, 3) := by decide +kernel
theorem dX5_isTaken_12 : decode cX5_isTaken 12 = .ok (.iload_n 3, 1) := by decide +kernel
theorem dX5_isTaken_13 : decode cX5_isTaken 13 = .ok (.ifCond .ne 20, 3) := by decide +kernel
theorem dX5_isTaken_16 : decode cX5_isTaken 16 = .ok (.iload 4, 2) := by decide +kernel
theorem dX5_isTaken_18 : decode cX5_isTaken 18 = .ok (.iload_n 1, 1) := by decide +kernel
theorem dX5_isTaken_19 : decode cX5_isTaken 19 = .ok (.if_icmp .eq 18, 3) := by decide +kernel
theorem dX5_isTaken_22 : decode cX5_isTaken 22 = .ok (.aload_n 0, 1) := by decide +kernel
theorem dX5_isTaken_23 : decode cX5_isTaken 23 = .ok (.iload 4, 2) := by decide +kernel
theorem dX5_isTaken_25 : decode cX5_isTaken 25 = .ok (.iconst 0, 1) := by decide +kernel
theorem dX5_isTaken_26 : decode cX5_isTaken 26 = .ok (.invokevirtual 49, 3) := by decide +kernel
theorem dX5_isTaken_29 : decode cX5_isTaken 29 = .ok (.iload_n 2, 1) := by decide +kernel
theorem dX5_isTaken_30 : decode cX5_isTaken 30 = .ok (.if_icmp .ne 7, 3) := by decide +kernel
theorem dX5_isTaken_33 : decode cX5_isTaken 33 = .ok (.iconst 1, 1) := by decide +kernel
theorem dX5_isTaken_34 : decode cX5_isTaken 34 = .ok (.goto 4, 3) := by decide +kernel
theorem dX5_isTaken_37 : decode cX5_isTaken 37 = .ok (.iconst 0, 1) := by decide +kernel
theorem dX5_isTaken_38 : decode cX5_isTaken 38 = .ok (.istore_n 3, 1) := by decide +kernel
theorem dX5_isTaken_39 : decode cX5_isTaken 39 = .ok (.iinc 4 1, 3) := by decide +kernel
theorem dX5_isTaken_42 : decode cX5_isTaken 42 = .ok (.goto (-37), 3) := by decide +kernel
theorem dX5_isTaken_45 : decode cX5_isTaken 45 = .ok (.iload_n 3, 1) := by decide +kernel
theorem dX5_isTaken_46 : decode cX5_isTaken 46 = .ok (.ireturn, 1) := by decide +kernel
theorem dX5_settle_0 : decode cX5_settle 0 = .ok (.iload_n 1, 1) := by decide +kernel
theorem dX5_settle_1 : decode cX5_settle 1 = .ok (.invokestatic 45, 3) := by decide +kernel
theorem dX5_settle_4 : decode cX5_settle 4 = .ok (.ifCond .ne 5, 3) := by decide +kernel
theorem dX5_settle_7 : decode cX5_settle 7 = .ok (.iconst (-1), 1) := by decide +kernel
theorem dX5_settle_8 : decode cX5_settle 8 = .ok (.ireturn, 1) := by decide +kernel
theorem dX5_settle_9 : decode cX5_settle 9 = .ok (.iload_n 2, 1) := by decide +kernel
theorem dX5_settle_10 : decode cX5_settle 10 = .ok (.iconst 0, 1) := by decide +kernel
theorem dX5_settle_11 : decode cX5_settle 11 = .ok (.bipush 40, 2) := by decide +kernel
theorem dX5_settle_13 : decode cX5_settle 13 = .ok (.invokestatic 41, 3) := by decide +kernel
theorem dX5_settle_16 : decode cX5_settle 16 = .ok (.ifCond .eq 13, 3) := by decide +kernel
theorem dX5_settle_19 : decode cX5_settle 19 = .ok (.iload_n 3, 1) := by decide +kernel
theorem dX5_settle_20 : decode cX5_settle 20 = .ok (.iconst 1, 1) := by decide +kernel
theorem dX5_settle_21 : decode cX5_settle 21 = .ok (.bipush 20, 2) := by decide +kernel
theorem dX5_settle_23 : decode cX5_settle 23 = .ok (.invokestatic 41, 3) := by decide +kernel
theorem dX5_settle_26 : decode cX5_settle 26 = .ok (.ifCond .ne 6, 3) := by decide +kernel
theorem dX5_settle_29 : decode cX5_settle 29 = .ok (.bipush (-2), 2) := by decide +kernel
theorem dX5_settle_31 : decode cX5_settle 31 = .ok (.ireturn, 1) := by decide +kernel
theorem dX5_settle_32 : decode cX5_settle 32 = .ok (.aload_n 0, 1) := by decide +kernel
theorem dX5_settle_33 : decode cX5_settle 33 = .ok (.iload_n 1, 1) := by decide +kernel
theorem dX5_settle_34 : decode cX5_settle 34 = .ok (.iload_n 2, 1) := by decide +kernel
theorem dX5_settle_35 : decode cX5_settle 35 = .ok (.invokevirtual 101, 3) := by decide +kernel
theorem dX5_settle_38 : decode cX5_settle 38 = .ok (.ifCond .eq 6, 3) := by decide +kernel
theorem dX5_settle_41 : decode cX5_settle 41 = .ok (.bipush (-4), 2) := by decide +kernel
theorem dX5_settle_43 : decode cX5_settle 43 = .ok (.ireturn, 1) := by decide +kernel
theorem dX5_settle_44 : decode cX5_settle 44 = .ok (.aload_n 0, 1) := by decide +kernel
theorem dX5_settle_45 : decode cX5_settle 45 = .ok (.invokevirtual 61, 3) := by decide +kernel
theorem dX5_settle_48 : decode cX5_settle 48 = .ok (.aload_n 0, 1) := by decide +kernel
theorem dX5_settle_49 : decode cX5_settle 49 = .ok (.iload_n 1, 1) := by decide +kernel
theorem dX5_settle_50 : decode cX5_settle 50 = .ok (.iconst 0, 1) := by decide +kernel
theorem dX5_settle_51 : decode cX5_settle 51 = .ok (.iload_n 2, 1) := by decide +kernel
theorem dX5_settle_52 : decode cX5_settle 52 = .ok (.invokevirtual 37, 3) := by decide +kernel
theorem dX5_settle_55 : decode cX5_settle 55 = .ok (.aload_n 0, 1) := by decide +kernel
theorem dX5_settle_56 : decode cX5_settle 56 = .ok (.iload_n 1, 1) := by decide +kernel
theorem dX5_settle_57 : decode cX5_settle 57 = .ok (.iconst 1, 1) := by decide +kernel
theorem dX5_settle_58 : decode cX5_settle 58 = .ok (.iload_n 3, 1) := by decide +kernel
theorem dX5_settle_59 : decode cX5_settle 59 = .ok (.invokevirtual 37, 3) := by decide +kernel
theorem dX5_settle_62 : decode cX5_settle 62 = .ok (.aload_n 0, 1) := by decide +kernel
theorem dX5_settle_63 : decode cX5_settle 63 = .ok (.iload_n 1, 1) := by decide +kernel
theorem dX5_settle_64 : decode cX5_settle 64 = .ok (.iconst 2, 1) := by decide +kernel
theorem dX5_settle_65 : decode cX5_settle 65 = .ok (.aload_n 0, 1) := by decide +kernel
theorem dX5_settle_66 : decode cX5_settle 66 = .ok (.iload_n 1, 1) := by decide +kernel
theorem dX5_settle_67 : decode cX5_settle 67 = .ok (.iconst 2, 1) := by decide +kernel
theorem dX5_settle_68 : decode cX5_settle 68 = .ok (.invokevirtual 49, 3) := by decide +kernel
theorem dX5_settle_71 : decode cX5_settle 71 = .ok (.iload_n 3, 1) := by decide +kernel
theorem dX5_settle_72 : decode cX5_settle 72 = .ok (.if_icmp .le 7, 3) := by decide +kernel
theorem dX5_settle_75 : decode cX5_settle 75 = .ok (.iload_n 3, 1) := by decide +kernel
theorem dX5_settle_76 : decode cX5_settle 76 = .ok (.goto 9, 3) := by decide +kernel
theorem dX5_settle_79 : decode cX5_settle 79 = .ok (.aload_n 0, 1) := by decide +kernel
theorem dX5_settle_80 : decode cX5_settle 80 = .ok (.iload_n 1, 1) := by decide +kernel
theorem dX5_settle_81 : decode cX5_settle 81 = .ok (.iconst 2, 1) := by decide +kernel
theorem dX5_settle_82 : decode cX5_settle 82 = .ok (.invokevirtual 49, 3) := by decide +kernel
theorem dX5_settle_85 : decode cX5_settle 85 = .ok (.invokevirtual 37, 3) := by decide +kernel
theorem dX5_settle_88 : decode cX5_settle 88 = .ok (.aload_n 0, 1) := by decide +kernel
theorem dX5_settle_89 : decode cX5_settle 89 = .ok (.iload_n 1, 1) := by decide +kernel
theorem dX5_settle_90 : decode cX5_settle 90 = .ok (.iconst 2, 1) := by decide +kernel
theorem dX5_settle_91 : decode cX5_settle 91 = .ok (.invokevirtual 49, 3) := by decide +kernel
theorem dX5_settle_94 : decode cX5_settle 94 = .ok (.ireturn, 1) := by decide +kernel
theorem dX5_hasBells_0 : decode cX5_hasBells 0 = .ok (.iload_n 2, 1) := by decide +kernel
theorem dX5_hasBells_1 : decode cX5_hasBells 1 = .ok (.ifCond .lt 16, 3) := by decide +kernel
theorem dX5_hasBells_4 : decode cX5_hasBells 4 = .ok (.iload_n 2, 1) := by decide +kernel
theorem dX5_hasBells_5 : decode cX5_hasBells 5 = .ok (.aload_n 0, 1) := by decide +kernel
theorem dX5_hasBells_6 : decode cX5_hasBells 6 = .ok (.iload_n 1, 1) := by decide +kernel
theorem dX5_hasBells_7 : decode cX5_hasBells 7 = .ok (.invokevirtual 64, 3) := by decide +kernel
theorem dX5_hasBells_10 : decode cX5_hasBells 10 = .ok (.if_icmp .gt 7, 3) := by decide +kernel
theorem dX5_hasBells_13 : decode cX5_hasBells 13 = .ok (.iconst 1, 1) := by decide +kernel
theorem dX5_hasBells_14 : decode cX5_hasBells 14 = .ok (.goto 4, 3) := by decide +kernel
theorem dX5_hasBells_17 : decode cX5_hasBells 17 = .ok (.iconst 0, 1) := by decide +kernel
theorem dX5_hasBells_18 : decode cX5_hasBells 18 = .ok (.ireturn, 1) := by decide +kernel
theorem dX5_plan_0 : decode cX5_plan 0 = .ok (.iload_n 1, 1) := by decide +kernel
theorem dX5_plan_1 : decode cX5_plan 1 = .ok (.invokestatic 45, 3) := by decide +kernel
theorem dX5_plan_4 : decode cX5_plan 4 = .ok (.ifCond .ne 5, 3) := by decide +kernel
theorem dX5_plan_7 : decode cX5_plan 7 = .ok (.iconst (-1), 1) := by decide +kernel
theorem dX5_plan_8 : decode cX5_plan 8 = .ok (.ireturn, 1) := by decide +kernel
theorem dX5_plan_9 : decode cX5_plan 9 = .ok (.aload_n 0, 1) := by decide +kernel
theorem dX5_plan_10 : decode cX5_plan 10 = .ok (.iload_n 1, 1) := by decide +kernel
theorem dX5_plan_11 : decode cX5_plan 11 = .ok (.iload_n 2, 1) := by decide +kernel
theorem dX5_plan_12 : decode cX5_plan 12 = .ok (.invokevirtual 104, 3) := by decide +kernel
theorem dX5_plan_15 : decode cX5_plan 15 = .ok (.ifCond .ne 6, 3) := by decide +kernel
theorem dX5_plan_18 : decode cX5_plan 18 = .ok (.bipush (-2), 2) := by decide +kernel
theorem dX5_plan_20 : decode cX5_plan 20 = .ok (.ireturn, 1) := by decide +kernel
theorem dX5_plan_21 : decode cX5_plan 21 = .ok (.aload_n 0, 1) := by decide +kernel
theorem dX5_plan_22 : decode cX5_plan 22 = .ok (.invokevirtual 61, 3) := by decide +kernel
theorem dX5_plan_25 : decode cX5_plan 25 = .ok (.aload_n 0, 1) := by decide +kernel
theorem dX5_plan_26 : decode cX5_plan 26 = .ok (.iload_n 1, 1) := by decide +kernel
theorem dX5_plan_27 : decode cX5_plan 27 = .ok (.iconst 4, 1) := by decide +kernel
theorem dX5_plan_28 : decode cX5_plan 28 = .ok (.invokevirtual 49, 3) := by decide +kernel
theorem dX5_plan_31 : decode cX5_plan 31 = .ok (.istore_n 3, 1) := by decide +kernel
theorem dX5_plan_32 : decode cX5_plan 32 = .ok (.aload_n 0, 1) := by decide +kernel
theorem dX5_plan_33 : decode cX5_plan 33 = .ok (.iload_n 1, 1) := by decide +kernel
theorem dX5_plan_34 : decode cX5_plan 34 = .ok (.iconst 4, 1) := by decide +kernel
theorem dX5_plan_35 : decode cX5_plan 35 = .ok (.iload_n 2, 1) := by decide +kernel
theorem dX5_plan_36 : decode cX5_plan 36 = .ok (.invokevirtual 37, 3) := by decide +kernel
theorem dX5_plan_39 : decode cX5_plan 39 = .ok (.iload_n 3, 1) := by decide +kernel
theorem dX5_plan_40 : decode cX5_plan 40 = .ok (.ireturn, 1) := by decide +kernel
theorem dX5_canSplice_0 : decode cX5_canSplice 0 = .ok (.aload_n 0, 1) := by decide +kernel
theorem dX5_canSplice_1 : decode cX5_canSplice 1 = .ok (.iload_n 1, 1) := by decide +kernel
theorem dX5_canSplice_2 : decode cX5_canSplice 2 = .ok (.bipush 14, 2) := by decide +kernel
theorem dX5_canSplice_4 : decode cX5_canSplice 4 = .ok (.iload_n 2, 1) := by decide +kernel
theorem dX5_canSplice_5 : decode cX5_canSplice 5 = .ok (.iadd, 1) := by decide +kernel
theorem dX5_canSplice_6 : decode cX5_canSplice 6 = .ok (.invokevirtual 49, 3) := by decide +kernel
theorem dX5_canSplice_9 : decode cX5_canSplice 9 = .ok (.ifCond .le 24, 3) := by decide +kernel
theorem dX5_canSplice_12 : decode cX5_canSplice 12 = .ok (.aload_n 0, 1) := by decide +kernel
theorem dX5_canSplice_13 : decode cX5_canSplice 13 = .ok (.iload_n 1, 1) := by decide +kernel
theorem dX5_canSplice_14 : decode cX5_canSplice 14 = .ok (.iconst 1, 1) := by decide +kernel
theorem dX5_canSplice_15 : decode cX5_canSplice 15 = .ok (.invokevirtual 49, 3) := by decide +kernel
theorem dX5_canSplice_18 : decode cX5_canSplice 18 = .ok (.aload_n 0, 1) := by decide +kernel
theorem dX5_canSplice_19 : decode cX5_canSplice 19 = .ok (.iload_n 1, 1) := by decide +kernel
theorem dX5_canSplice_20 : decode cX5_canSplice 20 = .ok (.iconst 2, 1) := by decide +kernel
theorem dX5_canSplice_21 : decode cX5_canSplice 21 = .ok (.invokevirtual 49, 3) := by decide +kernel
theorem dX5_canSplice_24 : decode cX5_canSplice 24 = .ok (.isub, 1) := by decide +kernel
theorem dX5_canSplice_25 : decode cX5_canSplice 25 = .ok (.iconst 1, 1) := by decide +kernel
theorem dX5_canSplice_26 : decode cX5_canSplice 26 = .ok (.if_icmp .le 7, 3) := by decide +kernel
theorem dX5_canSplice_29 : decode cX5_canSplice 29 = .ok (.iconst 1, 1) := by decide +kernel
theorem dX5_canSplice_30 : decode cX5_canSplice 30 = .ok (.goto 4, 3) := by decide +kernel
theorem dX5_canSplice_33 : decode cX5_canSplice 33 = .ok (.iconst 0, 1) := by decide +kernel
theorem dX5_canSplice_34 : decode cX5_canSplice 34 = .ok (.ireturn, 1) := by decide +kernel
theorem dX5_spliceNow_0 : decode cX5_spliceNow 0 = .ok (.aload_n 0, 1) := by decide +kernel
theorem dX5_spliceNow_1 : decode cX5_spliceNow 1 = .ok (.iload_n 1, 1) := by decide +kernel
theorem dX5_spliceNow_2 : decode cX5_spliceNow 2 = .ok (.bipush 14, 2) := by decide +kernel
theorem dX5_spliceNow_4 : decode cX5_spliceNow 4 = .ok (.iload_n 2, 1) := by decide +kernel
theorem dX5_spliceNow_5 : decode cX5_spliceNow 5 = .ok (.iadd, 1) := by decide +kernel
theorem dX5_spliceNow_6 : decode cX5_spliceNow 6 = .ok (.invokevirtual 49, 3) := by decide +kernel
theorem dX5_spliceNow_9 : decode cX5_spliceNow 9 = .ok (.istore_n 3, 1) := by decide +kernel
theorem dX5_spliceNow_10 : decode cX5_spliceNow 10 = .ok (.aload_n 0, 1) := by decide +kernel
theorem dX5_spliceNow_11 : decode cX5_spliceNow 11 = .ok (.iload_n 1, 1) := by decide +kernel
theorem dX5_spliceNow_12 : decode cX5_spliceNow 12 = .ok (.bipush 14, 2) := by decide +kernel
theorem dX5_spliceNow_14 : decode cX5_spliceNow 14 = .ok (.iload_n 2, 1) := by decide +kernel
theorem dX5_spliceNow_15 : decode cX5_spliceNow 15 = .ok (.iadd, 1) := by decide +kernel
theorem dX5_spliceNow_16 : decode cX5_spliceNow 16 = .ok (.iconst 0, 1) := by decide +kernel
theorem dX5_spliceNow_17 : decode cX5_spliceNow 17 = .ok (.invokevirtual 37, 3) := by decide +kernel
theorem dX5_spliceNow_20 : decode cX5_spliceNow 20 = .ok (.aload_n 0, 1) := by decide +kernel
theorem dX5_spliceNow_21 : decode cX5_spliceNow 21 = .ok (.iload_n 1, 1) := by decide +kernel
theorem dX5_spliceNow_22 : decode cX5_spliceNow 22 = .ok (.iconst 2, 1) := by decide +kernel
theorem dX5_spliceNow_23 : decode cX5_spliceNow 23 = .ok (.aload_n 0, 1) := by decide +kernel
theorem dX5_spliceNow_24 : decode cX5_spliceNow 24 = .ok (.iload_n 1, 1) := by decide +kernel
theorem dX5_spliceNow_25 : decode cX5_spliceNow 25 = .ok (.iconst 2, 1) := by decide +kernel
theorem dX5_spliceNow_26 : decode cX5_spliceNow 26 = .ok (.invokevirtual 49, 3) := by decide +kernel
theorem dX5_spliceNow_29 : decode cX5_spliceNow 29 = .ok (.iconst 2, 1) := by decide +kernel
theorem dX5_spliceNow_30 : decode cX5_spliceNow 30 = .ok (.iadd, 1) := by decide +kernel
theorem dX5_spliceNow_31 : decode cX5_spliceNow 31 = .ok (.invokevirtual 37, 3) := by decide +kernel
theorem dX5_spliceNow_34 : decode cX5_spliceNow 34 = .ok (.iload_n 3, 1) := by decide +kernel
theorem dX5_spliceNow_35 : decode cX5_spliceNow 35 = .ok (.ireturn, 1) := by decide +kernel
theorem dX5_splice_0 : decode cX5_splice 0 = .ok (.aload_n 0, 1) := by decide +kernel
theorem dX5_splice_1 : decode cX5_splice 1 = .ok (.iload_n 1, 1) := by decide +kernel
theorem dX5_splice_2 : decode cX5_splice 2 = .ok (.iload_n 2, 1) := by decide +kernel
theorem dX5_splice_3 : decode cX5_splice 3 = .ok (.invokevirtual 97, 3) := by decide +kernel
theorem dX5_splice_6 : decode cX5_splice 6 = .ok (.ifCond .ne 5, 3) := by decide +kernel
theorem dX5_splice_9 : decode cX5_splice 9 = .ok (.iconst (-1), 1) := by decide +kernel
theorem dX5_splice_10 : decode cX5_splice 10 = .ok (.ireturn, 1) := by decide +kernel
theorem dX5_splice_11 : decode cX5_splice 11 = .ok (.aload_n 0, 1) := by decide +kernel
theorem dX5_splice_12 : decode cX5_splice 12 = .ok (.iload_n 1, 1) := by decide +kernel
theorem dX5_splice_13 : decode cX5_splice 13 = .ok (.iload_n 2, 1) := by decide +kernel
theorem dX5_splice_14 : decode cX5_splice 14 = .ok (.invokevirtual 107, 3) := by decide +kernel
theorem dX5_splice_17 : decode cX5_splice 17 = .ok (.ifCond .ne 6, 3) := by decide +kernel
theorem dX5_splice_20 : decode cX5_splice 20 = .ok (.bipush (-4), 2) := by decide +kernel
theorem dX5_splice_22 : decode cX5_splice 22 = .ok (.ireturn, 1) := by decide +kernel
theorem dX5_splice_23 : decode cX5_splice 23 = .ok (.aload_n 0, 1) := by decide +kernel
theorem dX5_splice_24 : decode cX5_splice 24 = .ok (.invokevirtual 61, 3) := by decide +kernel
theorem dX5_splice_27 : decode cX5_splice 27 = .ok (.aload_n 0, 1) := by decide +kernel
theorem dX5_splice_28 : decode cX5_splice 28 = .ok (.iload_n 1, 1) := by decide +kernel
theorem dX5_splice_29 : decode cX5_splice 29 = .ok (.iload_n 2, 1) := by decide +kernel
theorem dX5_splice_30 : decode cX5_splice 30 = .ok (.invokevirtual 110, 3) := by decide +kernel
theorem dX5_splice_33 : decode cX5_splice 33 = .ok (.ireturn, 1) := by decide +kernel
theorem dX5_feast_0 : decode cX5_feast 0 = .ok (.iload_n 1, 1) := by decide +kernel
theorem dX5_feast_1 : decode cX5_feast 1 = .ok (.invokestatic 45, 3) := by decide +kernel
theorem dX5_feast_4 : decode cX5_feast 4 = .ok (.ifCond .ne 5, 3) := by decide +kernel
theorem dX5_feast_7 : decode cX5_feast 7 = .ok (.iconst (-1), 1) := by decide +kernel
theorem dX5_feast_8 : decode cX5_feast 8 = .ok (.ireturn, 1) := by decide +kernel
theorem dX5_feast_9 : decode cX5_feast 9 = .ok (.iload_n 2, 1) := by decide +kernel
theorem dX5_feast_10 : decode cX5_feast 10 = .ok (.iconst 0, 1) := by decide +kernel
theorem dX5_feast_11 : decode cX5_feast 11 = .ok (.bipush 6, 2) := by decide +kernel
theorem dX5_feast_13 : decode cX5_feast 13 = .ok (.invokestatic 41, 3) := by decide +kernel
theorem dX5_feast_16 : decode cX5_feast 16 = .ok (.ifCond .ne 6, 3) := by decide +kernel
theorem dX5_feast_19 : decode cX5_feast 19 = .ok (.bipush (-2), 2) := by decide +kernel
theorem dX5_feast_21 : decode cX5_feast 21 = .ok (.ireturn, 1) := by decide +kernel
theorem dX5_feast_22 : decode cX5_feast 22 = .ok (.aload_n 0, 1) := by decide +kernel
theorem dX5_feast_23 : decode cX5_feast 23 = .ok (.invokevirtual 61, 3) := by decide +kernel
theorem dX5_feast_26 : decode cX5_feast 26 = .ok (.aload_n 0, 1) := by decide +kernel
theorem dX5_feast_27 : decode cX5_feast 27 = .ok (.iload_n 1, 1) := by decide +kernel
theorem dX5_feast_28 : decode cX5_feast 28 = .ok (.iconst 5, 1) := by decide +kernel
theorem dX5_feast_29 : decode cX5_feast 29 = .ok (.invokevirtual 49, 3) := by decide +kernel
theorem dX5_feast_32 : decode cX5_feast 32 = .ok (.istore_n 3, 1) := by decide +kernel
theorem dX5_feast_33 : decode cX5_feast 33 = .ok (.aload_n 0, 1) := by decide +kernel
theorem dX5_feast_34 : decode cX5_feast 34 = .ok (.iload_n 1, 1) := by decide +kernel
theorem dX5_feast_35 : decode cX5_feast 35 = .ok (.iconst 5, 1) := by decide +kernel
theorem dX5_feast_36 : decode cX5_feast 36 = .ok (.iload_n 2, 1) := by decide +kernel
theorem dX5_feast_37 : decode cX5_feast 37 = .ok (.invokevirtual 37, 3) := by decide +kernel
theorem dX5_feast_40 : decode cX5_feast 40 = .ok (.iload_n 3, 1) := by decide +kernel
theorem dX5_feast_41 : decode cX5_feast 41 = .ok (.ireturn, 1) := by decide +kernel
theorem dX5_set_0 : decode cX5_set 0 = .ok (.iload_n 1, 1) := by decide +kernel
theorem dX5_set_1 : decode cX5_set 1 = .ok (.iconst 0, 1) := by decide +kernel
theorem dX5_set_2 : decode cX5_set 2 = .ok (.iconst 1, 1) := by decide +kernel
theorem dX5_set_3 : decode cX5_set 3 = .ok (.invokestatic 41, 3) := by decide +kernel
theorem dX5_set_6 : decode cX5_set 6 = .ok (.ifCond .ne 5, 3) := by decide +kernel
theorem dX5_set_9 : decode cX5_set 9 = .ok (.iconst (-1), 1) := by decide +kernel
theorem dX5_set_10 : decode cX5_set 10 = .ok (.ireturn, 1) := by decide +kernel
theorem dX5_set_11 : decode cX5_set 11 = .ok (.iload_n 1, 1) := by decide +kernel
theorem dX5_set_12 : decode cX5_set 12 = .ok (.ifCond .ne 16, 3) := by decide +kernel
theorem dX5_set_15 : decode cX5_set 15 = .ok (.iload_n 2, 1) := by decide +kernel
theorem dX5_set_16 : decode cX5_set 16 = .ok (.iconst 0, 1) := by decide +kernel
theorem dX5_set_17 : decode cX5_set 17 = .ok (.bipush 9, 2) := by decide +kernel
theorem dX5_set_19 : decode cX5_set 19 = .ok (.invokestatic 41, 3) := by decide +kernel
theorem dX5_set_22 : decode cX5_set 22 = .ok (.ifCond .eq 15, 3) := by decide +kernel
theorem dX5_set_25 : decode cX5_set 25 = .ok (.goto 15, 3) := by decide +kernel
theorem dX5_set_28 : decode cX5_set 28 = .ok (.iload_n 2, 1) := by decide +kernel
theorem dX5_set_29 : decode cX5_set 29 = .ok (.iconst 1, 1) := by decide +kernel
theorem dX5_set_30 : decode cX5_set 30 = .ok (.iconst 3, 1) := by decide +kernel
theorem dX5_set_31 : decode cX5_set 31 = .ok (.invokestatic 41, 3) := by decide +kernel
theorem dX5_set_34 : decode cX5_set 34 = .ok (.ifCond .ne 6, 3) := by decide +kernel
theorem dX5_set_37 : decode cX5_set 37 = .ok (.bipush (-2), 2) := by decide +kernel
theorem dX5_set_39 : decode cX5_set 39 = .ok (.ireturn, 1) := by decide +kernel
theorem dX5_set_40 : decode cX5_set 40 = .ok (.aload_n 0, 1) := by decide +kernel
theorem dX5_set_41 : decode cX5_set 41 = .ok (.invokevirtual 61, 3) := by decide +kernel
theorem dX5_set_44 : decode cX5_set 44 = .ok (.aload_n 0, 1) := by decide +kernel
theorem dX5_set_45 : decode cX5_set 45 = .ok (.getfield 7, 3) := by decide +kernel
theorem dX5_set_48 : decode cX5_set 48 = .ok (.iload_n 1, 1) := by decide +kernel
theorem dX5_set_49 : decode cX5_set 49 = .ok (.iaload, 1) := by decide +kernel
theorem dX5_set_50 : decode cX5_set 50 = .ok (.istore_n 3, 1) := by decide +kernel
theorem dX5_set_51 : decode cX5_set 51 = .ok (.aload_n 0, 1) := by decide +kernel
theorem dX5_set_52 : decode cX5_set 52 = .ok (.getfield 7, 3) := by decide +kernel
theorem dX5_set_55 : decode cX5_set 55 = .ok (.iload_n 1, 1) := by decide +kernel
theorem dX5_set_56 : decode cX5_set 56 = .ok (.iload_n 2, 1) := by decide +kernel
theorem dX5_set_57 : decode cX5_set 57 = .ok (.iastore, 1) := by decide +kernel
theorem dX5_set_58 : decode cX5_set 58 = .ok (.iload_n 3, 1) := by decide +kernel
theorem dX5_set_59 : decode cX5_set 59 = .ok (.ireturn, 1) := by decide +kernel
theorem dX5_turnsNow_0 : decode cX5_turnsNow 0 = .ok (.iconst 0, 1) := by decide +kernel
theorem dX5_turnsNow_1 : decode cX5_turnsNow 1 = .ok (.istore_n 2, 1) := by decide +kernel
theorem dX5_turnsNow_2 : decode cX5_turnsNow 2 = .ok (.iload_n 2, 1) := by decide +kernel
theorem dX5_turnsNow_3 : decode cX5_turnsNow 3 = .ok (.iload_n 1, 1) := by decide +kernel
theorem dX5_turnsNow_4 : decode cX5_turnsNow 4 = .ok (.if_icmp .ge 13, 3) := by decide +kernel
theorem dX5_turnsNow_7 : decode cX5_turnsNow 7 = .ok (.aload_n 0, 1) := by decide +kernel
theorem dX5_turnsNow_8 : decode cX5_turnsNow 8 = .ok (.invokevirtual 113, 3) := by decide +kernel
theorem dX5_turnsNow_11 : decode cX5_turnsNow 11 = .ok (.iinc 2 1, 3) := by decide +kernel
theorem dX5_turnsNow_14 : decode cX5_turnsNow 14 = .ok (.goto (-12), 3) := by decide +kernel
theorem dX5_turnsNow_17 : decode cX5_turnsNow 17 = .ok (.return_, 1) := by decide +kernel
theorem dX5_turns_0 : decode cX5_turns 0 = .ok (.iload_n 1, 1) := by decide +kernel
theorem dX5_turns_1 : decode cX5_turns 1 = .ok (.iconst 1, 1) := by decide +kernel
theorem dX5_turns_2 : decode cX5_turns 2 = .ok (.bipush 50, 2) := by decide +kernel
theorem dX5_turns_4 : decode cX5_turns 4 = .ok (.invokestatic 41, 3) := by decide +kernel
theorem dX5_turns_7 : decode cX5_turns 7 = .ok (.ifCond .ne 6, 3) := by decide +kernel
theorem dX5_turns_10 : decode cX5_turns 10 = .ok (.bipush (-2), 2) := by decide +kernel
theorem dX5_turns_12 : decode cX5_turns 12 = .ok (.ireturn, 1) := by decide +kernel
theorem dX5_turns_13 : decode cX5_turns 13 = .ok (.aload_n 0, 1) := by decide +kernel
theorem dX5_turns_14 : decode cX5_turns 14 = .ok (.invokevirtual 61, 3) := by decide +kernel
theorem dX5_turns_17 : decode cX5_turns 17 = .ok (.aload_n 0, 1) := by decide +kernel
theorem dX5_turns_18 : decode cX5_turns 18 = .ok (.iload_n 1, 1) := by decide +kernel
theorem dX5_turns_19 : decode cX5_turns 19 = .ok (.invokevirtual 116, 3) := by decide +kernel
theorem dX5_turns_22 : decode cX5_turns 22 = .ok (.aload_n 0, 1) := by decide +kernel
theorem dX5_turns_23 : decode cX5_turns 23 = .ok (.getfield 7, 3) := by decide +kernel
theorem dX5_turns_26 : decode cX5_turns 26 = .ok (.iconst 3, 1) := by decide +kernel
theorem dX5_turns_27 : decode cX5_turns 27 = .ok (.iaload, 1) := by decide +kernel
theorem dX5_turns_28 : decode cX5_turns 28 = .ok (.ireturn, 1) := by decide +kernel
theorem dX5_append_0 : decode cX5_append 0 = .ok (.iload_n 1, 1) := by decide +kernel
theorem dX5_append_1 : decode cX5_append 1 = .ok (.bipush 32, 2) := by decide +kernel
theorem dX5_append_3 : decode cX5_append 3 = .ok (.bipush 126, 2) := by decide +kernel
theorem dX5_append_5 : decode cX5_append 5 = .ok (.invokestatic 41, 3) := by decide +kernel
theorem dX5_append_8 : decode cX5_append 8 = .ok (.ifCond .ne 6, 3) := by decide +kernel
theorem dX5_append_11 : decode cX5_append 11 = .ok (.bipush (-2), 2) := by decide +kernel
theorem dX5_append_13 : decode cX5_append 13 = .ok (.ireturn, 1) := by decide +kernel
theorem dX5_append_14 : decode cX5_append 14 = .ok (.aload_n 0, 1) := by decide +kernel
theorem dX5_append_15 : decode cX5_append 15 = .ok (.getfield 120, 3) := by decide +kernel
theorem dX5_append_18 : decode cX5_append 18 = .ok (.bipush 60, 2) := by decide +kernel
theorem dX5_append_20 : decode cX5_append 20 = .ok (.if_icmp .ne 6, 3) := by decide +kernel
theorem dX5_append_23 : decode cX5_append 23 = .ok (.bipush (-3), 2) := by decide +kernel
theorem dX5_append_25 : decode cX5_append 25 = .ok (.ireturn, 1) := by decide +kernel
theorem dX5_append_26 : decode cX5_append 26 = .ok (.aload_n 0, 1) := by decide +kernel
theorem dX5_append_27 : decode cX5_append 27 = .ok (.getfield 25, 3) := by decide +kernel
theorem dX5_append_30 : decode cX5_append 30 = .ok (.aload_n 0, 1) := by decide +kernel
theorem dX5_append_31 : decode cX5_append 31 = .ok (.getfield 120, 3) := by decide +kernel
theorem dX5_append_34 : decode cX5_append 34 = .ok (.iload_n 1, 1) := by decide +kernel
theorem dX5_append_35 : decode cX5_append 35 = .ok (.iastore, 1) := by decide +kernel
theorem dX5_append_36 : decode cX5_append 36 = .ok (.aload_n 0, 1) := by decide +kernel
theorem dX5_append_37 : decode cX5_append 37 = .ok (.dup, 1) := by decide +kernel
theorem dX5_append_38 : decode cX5_append 38 = .ok (.getfield 120, 3) := by decide +kernel
theorem dX5_append_41 : decode cX5_append 41 = .ok (.iconst 1, 1) := by decide +kernel
theorem dX5_append_42 : decode cX5_append 42 = .ok (.iadd, 1) := by decide +kernel
theorem dX5_append_43 : decode cX5_append 43 = .ok (.putfield 120, 3) := by decide +kernel
theorem dX5_append_46 : decode cX5_append 46 = .ok (.aload_n 0, 1) := by decide +kernel
theorem dX5_append_47 : decode cX5_append 47 = .ok (.getfield 120, 3) := by decide +kernel
theorem dX5_append_50 : decode cX5_append 50 = .ok (.ireturn, 1) := by decide +kernel
theorem dX5_clearText_0 : decode cX5_clearText 0 = .ok (.aload_n 0, 1) := by decide +kernel
theorem dX5_clearText_1 : decode cX5_clearText 1 = .ok (.getfield 120, 3) := by decide +kernel
theorem dX5_clearText_4 : decode cX5_clearText 4 = .ok (.istore_n 1, 1) := by decide +kernel
theorem dX5_clearText_5 : decode cX5_clearText 5 = .ok (.aload_n 0, 1) := by decide +kernel
theorem dX5_clearText_6 : decode cX5_clearText 6 = .ok (.iconst 0, 1) := by decide +kernel
theorem dX5_clearText_7 : decode cX5_clearText 7 = .ok (.putfield 120, 3) := by decide +kernel
theorem dX5_clearText_10 : decode cX5_clearText 10 = .ok (.iload_n 1, 1) := by decide +kernel
theorem dX5_clearText_11 : decode cX5_clearText 11 = .ok (.ireturn, 1) := by decide +kernel
theorem dX5_takesSign_0 : decode cX5_takesSign 0 = .ok (.aload_n 0, 1) := by decide +kernel
theorem dX5_takesSign_1 : decode cX5_takesSign 1 = .ok (.getfield 123, 3) := by decide +kernel
theorem dX5_takesSign_4 : decode cX5_takesSign 4 = .ok (.aload_n 0, 1) := by decide +kernel
theorem dX5_takesSign_5 : decode cX5_takesSign 5 = .ok (.getfield 120, 3) := by decide +kernel
theorem dX5_takesSign_8 : decode cX5_takesSign 8 = .ok (.if_icmp .ge 24, 3) := by decide +kernel
theorem dX5_takesSign_11 : decode cX5_takesSign 11 = .ok (.aload_n 0, 1) := by decide +kernel
theorem dX5_takesSign_12 : decode cX5_takesSign 12 = .ok (.getfield 25, 3) := by decide +kernel
theorem dX5_takesSign_15 : decode cX5_takesSign 15 = .ok (.aload_n 0, 1) := by decide +kernel
theorem dX5_takesSign_16 : decode cX5_takesSign 16 = .ok (.getfield 123, 3) := by decide +kernel
theorem dX5_takesSign_19 : decode cX5_takesSign 19 = .ok (.iaload, 1) := by decide +kernel
theorem dX5_takesSign_20 : decode cX5_takesSign 20 = .ok (.iload_n 1, 1) := by decide +kernel
theorem dX5_takesSign_21 : decode cX5_takesSign 21 = .ok (.iload_n 2, 1) := by decide +kernel
theorem dX5_takesSign_22 : decode cX5_takesSign 22 = .ok (.invokestatic 41, 3) := by decide +kernel
theorem dX5_takesSign_25 : decode cX5_takesSign 25 = .ok (.ifCond .eq 7, 3) := by decide +kernel
theorem dX5_takesSign_28 : decode cX5_takesSign 28 = .ok (.iconst 1, 1) := by decide +kernel
theorem dX5_takesSign_29 : decode cX5_takesSign 29 = .ok (.goto 4, 3) := by decide +kernel
theorem dX5_takesSign_32 : decode cX5_takesSign 32 = .ok (.iconst 0, 1) := by decide +kernel
theorem dX5_takesSign_33 : decode cX5_takesSign 33 = .ok (.istore_n 3, 1) := by decide +kernel
theorem dX5_takesSign_34 : decode cX5_takesSign 34 = .ok (.aload_n 0, 1) := by decide +kernel
theorem dX5_takesSign_35 : decode cX5_takesSign 35 = .ok (.dup, 1) := by decide +kernel
theorem dX5_takesSign_36 : decode cX5_takesSign 36 = .ok (.getfield 123, 3) := by decide +kernel
theorem dX5_takesSign_39 : decode cX5_takesSign 39 = .ok (.iload_n 3, 1) := by decide +kernel
theorem dX5_takesSign_40 : decode cX5_takesSign 40 = .ok (.ifCond .eq 7, 3) := by decide +kernel
theorem dX5_takesSign_43 : decode cX5_takesSign 43 = .ok (.iconst 1, 1) := by decide +kernel
theorem dX5_takesSign_44 : decode cX5_takesSign 44 = .ok (.goto 4, 3) := by decide +kernel
theorem dX5_takesSign_47 : decode cX5_takesSign 47 = .ok (.iconst 0, 1) := by decide +kernel
theorem dX5_takesSign_48 : decode cX5_takesSign 48 = .ok (.iadd, 1) := by decide +kernel
theorem dX5_takesSign_49 : decode cX5_takesSign 49 = .ok (.putfield 123, 3) := by decide +kernel
theorem dX5_takesSign_52 : decode cX5_takesSign 52 = .ok (.iload_n 3, 1) := by decide +kernel
theorem dX5_takesSign_53 : decode cX5_takesSign 53 = .ok (.ireturn, 1) := by decide +kernel
theorem dX5_readOrder_0 : decode cX5_readOrder 0 = .ok (.aload_n 0, 1) := by decide +kernel
theorem dX5_readOrder_1 : decode cX5_readOrder 1 = .ok (.getfield 123, 3) := by decide +kernel
theorem dX5_readOrder_4 : decode cX5_readOrder 4 = .ok (.aload_n 0, 1) := by decide +kernel
theorem dX5_readOrder_5 : decode cX5_readOrder 5 = .ok (.getfield 120, 3) := by decide +kernel
theorem dX5_readOrder_8 : decode cX5_readOrder 8 = .ok (.if_icmp .ge 15, 3) := by decide +kernel
theorem dX5_readOrder_11 : decode cX5_readOrder 11 = .ok (.aload_n 0, 1) := by decide +kernel
theorem dX5_readOrder_12 : decode cX5_readOrder 12 = .ok (.getfield 25, 3) := by decide +kernel
theorem dX5_readOrder_15 : decode cX5_readOrder 15 = .ok (.aload_n 0, 1) := by decide +kernel
theorem dX5_readOrder_16 : decode cX5_readOrder 16 = .ok (.getfield 123, 3) := by decide +kernel
theorem dX5_readOrder_19 : decode cX5_readOrder 19 = .ok (.iaload, 1) := by decide +kernel
theorem dX5_readOrder_20 : decode cX5_readOrder 20 = .ok (.goto 4, 3) := by decide +kernel
theorem dX5_readOrder_23 : decode cX5_readOrder 23 = .ok (.iconst 0, 1) := by decide +kernel
theorem dX5_readOrder_24 : decode cX5_readOrder 24 = .ok (.istore_n 1, 1) := by decide +kernel
theorem dX5_readOrder_25 : decode cX5_readOrder 25 = .ok (.aload_n 0, 1) := by decide +kernel
theorem dX5_readOrder_26 : decode cX5_readOrder 26 = .ok (.bipush 112, 2) := by decide +kernel
theorem dX5_readOrder_28 : decode cX5_readOrder 28 = .ok (.bipush 112, 2) := by decide +kernel
theorem dX5_readOrder_30 : decode cX5_readOrder 30 = .ok (.invokevirtual 126, 3) := by decide +kernel
theorem dX5_readOrder_33 : decode cX5_readOrder 33 = .ok (.ifCond .ne 25, 3) := by decide +kernel
theorem dX5_readOrder_36 : decode cX5_readOrder 36 = .ok (.aload_n 0, 1) := by decide +kernel
theorem dX5_readOrder_37 : decode cX5_readOrder 37 = .ok (.bipush 115, 2) := by decide +kernel
theorem dX5_readOrder_39 : decode cX5_readOrder 39 = .ok (.bipush 115, 2) := by decide +kernel
theorem dX5_readOrder_41 : decode cX5_readOrder 41 = .ok (.invokevirtual 126, 3) := by decide +kernel
theorem dX5_readOrder_44 : decode cX5_readOrder 44 = .ok (.ifCond .ne 14, 3) := by decide +kernel
theorem dX5_readOrder_47 : decode cX5_readOrder 47 = .ok (.aload_n 0, 1) := by decide +kernel
theorem dX5_readOrder_48 : decode cX5_readOrder 48 = .ok (.bipush 116, 2) := by decide +kernel
theorem dX5_readOrder_50 : decode cX5_readOrder 50 = .ok (.bipush 116, 2) := by decide +kernel
theorem dX5_readOrder_52 : decode cX5_readOrder 52 = .ok (.invokevirtual 126, 3) := by decide +kernel
theorem dX5_readOrder_55 : decode cX5_readOrder 55 = .ok (.ifCond .eq 7, 3) := by decide +kernel
theorem dX5_readOrder_58 : decode cX5_readOrder 58 = .ok (.iconst 1, 1) := by decide +kernel
theorem dX5_readOrder_59 : decode cX5_readOrder 59 = .ok (.goto 4, 3) := by decide +kernel
theorem dX5_readOrder_62 : decode cX5_readOrder 62 = .ok (.iconst 0, 1) := by decide +kernel
theorem dX5_readOrder_63 : decode cX5_readOrder 63 = .ok (.istore_n 2, 1) := by decide +kernel
theorem dX5_readOrder_64 : decode cX5_readOrder 64 = .ok (.iload_n 2, 1) := by decide +kernel
theorem dX5_readOrder_65 : decode cX5_readOrder 65 = .ok (.ifCond .eq 34, 3) := by decide +kernel
theorem dX5_readOrder_68 : decode cX5_readOrder 68 = .ok (.iload_n 1, 1) := by decide +kernel
theorem dX5_readOrder_69 : decode cX5_readOrder 69 = .ok (.bipush 116, 2) := by decide +kernel
theorem dX5_readOrder_71 : decode cX5_readOrder 71 = .ok (.if_icmp .ne 17, 3) := by decide +kernel
theorem dX5_readOrder_74 : decode cX5_readOrder 74 = .ok (.aload_n 0, 1) := by decide +kernel
theorem dX5_readOrder_75 : decode cX5_readOrder 75 = .ok (.bipush 49, 2) := by decide +kernel
theorem dX5_readOrder_77 : decode cX5_readOrder 77 = .ok (.bipush 57, 2) := by decide +kernel
theorem dX5_readOrder_79 : decode cX5_readOrder 79 = .ok (.invokevirtual 126, 3) := by decide +kernel
theorem dX5_readOrder_82 : decode cX5_readOrder 82 = .ok (.ifCond .eq 17, 3) := by decide +kernel
theorem dX5_readOrder_85 : decode cX5_readOrder 85 = .ok (.goto 16, 3) := by decide +kernel
theorem dX5_readOrder_88 : decode cX5_readOrder 88 = .ok (.aload_n 0, 1) := by decide +kernel
theorem dX5_readOrder_89 : decode cX5_readOrder 89 = .ok (.bipush 48, 2) := by decide +kernel
theorem dX5_readOrder_91 : decode cX5_readOrder 91 = .ok (.bipush 53, 2) := by decide +kernel
theorem dX5_readOrder_93 : decode cX5_readOrder 93 = .ok (.invokevirtual 126, 3) := by decide +kernel
theorem dX5_readOrder_96 : decode cX5_readOrder 96 = .ok (.ifCond .ne 5, 3) := by decide +kernel
theorem dX5_readOrder_99 : decode cX5_readOrder 99 = .ok (.iconst 0, 1) := by decide +kernel
theorem dX5_readOrder_100 : decode cX5_readOrder 100 = .ok (.ireturn, 1) := by decide +kernel
theorem dX5_readOrder_101 : decode cX5_readOrder 101 = .ok (.aload_n 0, 1) := by decide +kernel
theorem dX5_readOrder_102 : decode cX5_readOrder 102 = .ok (.getfield 28, 3) := by decide +kernel
theorem dX5_readOrder_105 : decode cX5_readOrder 105 = .ok (.aload_n 0, 1) := by decide +kernel
theorem dX5_readOrder_106 : decode cX5_readOrder 106 = .ok (.getfield 129, 3) := by decide +kernel
theorem dX5_readOrder_109 : decode cX5_readOrder 109 = .ok (.iload_n 1, 1) := by decide +kernel
theorem dX5_readOrder_110 : decode cX5_readOrder 110 = .ok (.iastore, 1) := by decide +kernel
theorem dX5_readOrder_111 : decode cX5_readOrder 111 = .ok (.aload_n 0, 1) := by decide +kernel
theorem dX5_readOrder_112 : decode cX5_readOrder 112 = .ok (.getfield 31, 3) := by decide +kernel
theorem dX5_readOrder_115 : decode cX5_readOrder 115 = .ok (.aload_n 0, 1) := by decide +kernel
theorem dX5_readOrder_116 : decode cX5_readOrder 116 = .ok (.getfield 129, 3) := by decide +kernel
theorem dX5_readOrder_119 : decode cX5_readOrder 119 = .ok (.aload_n 0, 1) := by decide +kernel
theorem dX5_readOrder_120 : decode cX5_readOrder 120 = .ok (.getfield 25, 3) := by decide +kernel
theorem dX5_readOrder_123 : decode cX5_readOrder 123 = .ok (.aload_n 0, 1) := by decide +kernel
theorem dX5_readOrder_124 : decode cX5_readOrder 124 = .ok (.getfield 123, 3) := by decide +kernel
theorem dX5_readOrder_127 : decode cX5_readOrder 127 = .ok (.iconst 1, 1) := by decide +kernel
theorem dX5_readOrder_128 : decode cX5_readOrder 128 = .ok (.isub, 1) := by decide +kernel
theorem dX5_readOrder_129 : decode cX5_readOrder 129 = .ok (.iaload, 1) := by decide +kernel
theorem dX5_readOrder_130 : decode cX5_readOrder 130 = .ok (.bipush 48, 2) := by decide +kernel
theorem dX5_readOrder_132 : decode cX5_readOrder 132 = .ok (.isub, 1) := by decide +kernel
theorem dX5_readOrder_133 : decode cX5_readOrder 133 = .ok (.iastore, 1) := by decide +kernel
theorem dX5_readOrder_134 : decode cX5_readOrder 134 = .ok (.aload_n 0, 1) := by decide +kernel
theorem dX5_readOrder_135 : decode cX5_readOrder 135 = .ok (.getfield 34, 3) := by decide +kernel
theorem dX5_readOrder_138 : decode cX5_readOrder 138 = .ok (.aload_n 0, 1) := by decide +kernel
theorem dX5_readOrder_139 : decode cX5_readOrder 139 = .ok (.getfield 129, 3) := by decide +kernel
theorem dX5_readOrder_142 : decode cX5_readOrder 142 = .ok (.iconst 0, 1) := by decide +kernel
theorem dX5_readOrder_143 : decode cX5_readOrder 143 = .ok (.iastore, 1) := by decide +kernel
theorem dX5_readOrder_144 : decode cX5_readOrder 144 = .ok (.bipush 48, 2) := by decide +kernel
theorem dX5_readOrder_146 : decode cX5_readOrder 146 = .ok (.istore_n 3, 1) := by decide +kernel
theorem dX5_readOrder_147 : decode cX5_readOrder 147 = .ok (.iload_n 1, 1) := by decide +kernel
theorem dX5_readOrder_148 : decode cX5_readOrder 148 = .ok (.bipush 112, 2) := by decide +kernel
theorem dX5_readOrder_150 : decode cX5_readOrder 150 = .ok (.if_icmp .ne 58, 3) := by decide +kernel
theorem dX5_readOrder_153 : decode cX5_readOrder 153 = .ok (.aload_n 0, 1) := by decide +kernel
theorem dX5_readOrder_154 : decode cX5_readOrder 154 = .ok (.iload_n 3, 1) := by decide +kernel
theorem dX5_readOrder_155 : decode cX5_readOrder 155 = .ok (.bipush 52, 2) := by decide +kernel
theorem dX5_readOrder_157 : decode cX5_readOrder 157 = .ok (.invokevirtual 126, 3) := by decide +kernel
theorem dX5_readOrder_160 : decode cX5_readOrder 160 = .ok (.ifCond .eq 48, 3) := by decide +kernel
theorem dX5_readOrder_163 : decode cX5_readOrder 163 = .ok (.aload_n 0, 1) := by decide +kernel
theorem dX5_readOrder_164 : decode cX5_readOrder 164 = .ok (.getfield 34, 3) := by decide +kernel
theorem dX5_readOrder_167 : decode cX5_readOrder 167 = .ok (.aload_n 0, 1) := by decide +kernel
theorem dX5_readOrder_168 : decode cX5_readOrder 168 = .ok (.getfield 129, 3) := by decide +kernel
theorem dX5_readOrder_171 : decode cX5_readOrder 171 = .ok (.dup2, 1) := by decide +kernel
theorem dX5_readOrder_172 : decode cX5_readOrder 172 = .ok (.iaload, 1) := by decide +kernel
theorem dX5_readOrder_173 : decode cX5_readOrder 173 = .ok (.iconst 1, 1) := by decide +kernel
theorem dX5_readOrder_174 : decode cX5_readOrder 174 = .ok (.aload_n 0, 1) := by decide +kernel
theorem dX5_readOrder_175 : decode cX5_readOrder 175 = .ok (.getfield 25, 3) := by decide +kernel
theorem dX5_readOrder_178 : decode cX5_readOrder 178 = .ok (.aload_n 0, 1) := by decide +kernel
theorem dX5_readOrder_179 : decode cX5_readOrder 179 = .ok (.getfield 123, 3) := by decide +kernel
theorem dX5_readOrder_182 : decode cX5_readOrder 182 = .ok (.iconst 1, 1) := by decide +kernel
theorem dX5_readOrder_183 : decode cX5_readOrder 183 = .ok (.isub, 1) := by decide +kernel
theorem dX5_readOrder_184 : decode cX5_readOrder 184 = .ok (.iaload, 1) := by decide +kernel
theorem dX5_readOrder_185 : decode cX5_readOrder 185 = .ok (.bipush 48, 2) := by decide +kernel
theorem dX5_readOrder_187 : decode cX5_readOrder 187 = .ok (.isub, 1) := by decide +kernel
theorem dX5_readOrder_188 : decode cX5_readOrder 188 = .ok (.ishl, 1) := by decide +kernel
theorem dX5_readOrder_189 : decode cX5_readOrder 189 = .ok (.ior, 1) := by decide +kernel
theorem dX5_readOrder_190 : decode cX5_readOrder 190 = .ok (.iastore, 1) := by decide +kernel
theorem dX5_readOrder_191 : decode cX5_readOrder 191 = .ok (.aload_n 0, 1) := by decide +kernel
theorem dX5_readOrder_192 : decode cX5_readOrder 192 = .ok (.getfield 25, 3) := by decide +kernel
theorem dX5_readOrder_195 : decode cX5_readOrder 195 = .ok (.aload_n 0, 1) := by decide +kernel
theorem dX5_readOrder_196 : decode cX5_readOrder 196 = .ok (.getfield 123, 3) := by decide +kernel
theorem dX5_readOrder_199 : decode cX5_readOrder 199 = .ok (.iconst 1, 1) := by decide +kernel
theorem dX5_readOrder_200 : decode cX5_readOrder 200 = .ok (.isub, 1) := by decide +kernel
theorem dX5_readOrder_201 : decode cX5_readOrder 201 = .ok (.iaload, 1) := by decide +kernel
theorem dX5_readOrder_202 : decode cX5_readOrder 202 = .ok (.iconst 1, 1) := by decide +kernel
theorem dX5_readOrder_203 : decode cX5_readOrder 203 = .ok (.iadd, 1) := by decide +kernel
theorem dX5_readOrder_204 : decode cX5_readOrder 204 = .ok (.istore_n 3, 1) := by decide +kernel
theorem dX5_readOrder_205 : decode cX5_readOrder 205 = .ok (.goto (-58), 3) := by decide +kernel
theorem dX5_readOrder_208 : decode cX5_readOrder 208 = .ok (.iload_n 1, 1) := by decide +kernel
theorem dX5_readOrder_209 : decode cX5_readOrder 209 = .ok (.bipush 115, 2) := by decide +kernel
theorem dX5_readOrder_211 : decode cX5_readOrder 211 = .ok (.if_icmp .ne 43, 3) := by decide +kernel
theorem dX5_readOrder_214 : decode cX5_readOrder 214 = .ok (.aload_n 0, 1) := by decide +kernel
theorem dX5_readOrder_215 : decode cX5_readOrder 215 = .ok (.bipush 48, 2) := by decide +kernel
theorem dX5_readOrder_217 : decode cX5_readOrder 217 = .ok (.bipush 52, 2) := by decide +kernel
theorem dX5_readOrder_219 : decode cX5_readOrder 219 = .ok (.invokevirtual 126, 3) := by decide +kernel
theorem dX5_readOrder_222 : decode cX5_readOrder 222 = .ok (.istore_n 2, 1) := by decide +kernel
theorem dX5_readOrder_223 : decode cX5_readOrder 223 = .ok (.aload_n 0, 1) := by decide +kernel
theorem dX5_readOrder_224 : decode cX5_readOrder 224 = .ok (.getfield 34, 3) := by decide +kernel
theorem dX5_readOrder_227 : decode cX5_readOrder 227 = .ok (.aload_n 0, 1) := by decide +kernel
theorem dX5_readOrder_228 : decode cX5_readOrder 228 = .ok (.getfield 129, 3) := by decide +kernel
theorem dX5_readOrder_231 : decode cX5_readOrder 231 = .ok (.iload_n 2, 1) := by decide +kernel
theorem dX5_readOrder_232 : decode cX5_readOrder 232 = .ok (.ifCond .eq 20, 3) := by decide +kernel
theorem dX5_readOrder_235 : decode cX5_readOrder 235 = .ok (.aload_n 0, 1) := by decide +kernel
theorem dX5_readOrder_236 : decode cX5_readOrder 236 = .ok (.getfield 25, 3) := by decide +kernel
theorem dX5_readOrder_239 : decode cX5_readOrder 239 = .ok (.aload_n 0, 1) := by decide +kernel
theorem dX5_readOrder_240 : decode cX5_readOrder 240 = .ok (.getfield 123, 3) := by decide +kernel
theorem dX5_readOrder_243 : decode cX5_readOrder 243 = .ok (.iconst 1, 1) := by decide +kernel
theorem dX5_readOrder_244 : decode cX5_readOrder 244 = .ok (.isub, 1) := by decide +kernel
theorem dX5_readOrder_245 : decode cX5_readOrder 245 = .ok (.iaload, 1) := by decide +kernel
theorem dX5_readOrder_246 : decode cX5_readOrder 246 = .ok (.bipush 48, 2) := by decide +kernel
theorem dX5_readOrder_248 : decode cX5_readOrder 248 = .ok (.isub, 1) := by decide +kernel
theorem dX5_readOrder_249 : decode cX5_readOrder 249 = .ok (.goto 4, 3) := by decide +kernel
theorem dX5_readOrder_252 : decode cX5_readOrder 252 = .ok (.iconst 0, 1) := by decide +kernel
theorem dX5_readOrder_253 : decode cX5_readOrder 253 = .ok (.iastore, 1) := by decide +kernel
theorem dX5_readOrder_254 : decode cX5_readOrder 254 = .ok (.aload_n 0, 1) := by decide +kernel
theorem dX5_readOrder_255 : decode cX5_readOrder 255 = .ok (.dup, 1) := by decide +kernel
theorem dX5_readOrder_256 : decode cX5_readOrder 256 = .ok (.getfield 129, 3) := by decide +kernel
theorem dX5_readOrder_259 : decode cX5_readOrder 259 = .ok (.iload_n 2, 1) := by decide +kernel
theorem dX5_readOrder_260 : decode cX5_readOrder 260 = .ok (.ifCond .eq 7, 3) := by decide +kernel
theorem dX5_readOrder_263 : decode cX5_readOrder 263 = .ok (.iconst 1, 1) := by decide +kernel
theorem dX5_readOrder_264 : decode cX5_readOrder 264 = .ok (.goto 4, 3) := by decide +kernel
theorem dX5_readOrder_267 : decode cX5_readOrder 267 = .ok (.iconst 0, 1) := by decide +kernel
theorem dX5_readOrder_268 : decode cX5_readOrder 268 = .ok (.iadd, 1) := by decide +kernel
theorem dX5_readOrder_269 : decode cX5_readOrder 269 = .ok (.putfield 129, 3) := by decide +kernel
theorem dX5_readOrder_272 : decode cX5_readOrder 272 = .ok (.iload_n 2, 1) := by decide +kernel
theorem dX5_readOrder_273 : decode cX5_readOrder 273 = .ok (.ireturn, 1) := by decide +kernel
theorem dX5_isScript_0 : decode cX5_isScript 0 = .ok (.aload_n 0, 1) := by decide +kernel
theorem dX5_isScript_1 : decode cX5_isScript 1 = .ok (.iconst 0, 1) := by decide +kernel
theorem dX5_isScript_2 : decode cX5_isScript 2 = .ok (.putfield 123, 3) := by decide +kernel
theorem dX5_isScript_5 : decode cX5_isScript 5 = .ok (.aload_n 0, 1) := by decide +kernel
theorem dX5_isScript_6 : decode cX5_isScript 6 = .ok (.iconst 0, 1) := by decide +kernel
theorem dX5_isScript_7 : decode cX5_isScript 7 = .ok (.putfield 129, 3) := by decide +kernel
theorem dX5_isScript_10 : decode cX5_isScript 10 = .ok (.aload_n 0, 1) := by decide +kernel
theorem dX5_isScript_11 : decode cX5_isScript 11 = .ok (.invokevirtual 132, 3) := by decide +kernel
theorem dX5_isScript_14 : decode cX5_isScript 14 = .ok (.istore_n 1, 1) := by decide +kernel
theorem dX5_isScript_15 : decode cX5_isScript 15 = .ok (.iload_n 1, 1) := by decide +kernel
theorem dX5_isScript_16 : decode cX5_isScript 16 = .ok (.ifCond .eq 22, 3) := by decide +kernel
theorem dX5_isScript_19 : decode cX5_isScript 19 = .ok (.aload_n 0, 1) := by decide +kernel
theorem dX5_isScript_20 : decode cX5_isScript 20 = .ok (.bipush 59, 2) := by decide +kernel
theorem dX5_isScript_22 : decode cX5_isScript 22 = .ok (.bipush 59, 2) := by decide +kernel
theorem dX5_isScript_24 : decode cX5_isScript 24 = .ok (.invokevirtual 126, 3) := by decide +kernel
theorem dX5_isScript_27 : decode cX5_isScript 27 = .ok (.ifCond .eq 11, 3) := by decide +kernel
theorem dX5_isScript_30 : decode cX5_isScript 30 = .ok (.aload_n 0, 1) := by decide +kernel
theorem dX5_isScript_31 : decode cX5_isScript 31 = .ok (.invokevirtual 132, 3) := by decide +kernel
theorem dX5_isScript_34 : decode cX5_isScript 34 = .ok (.istore_n 1, 1) := by decide +kernel
theorem dX5_isScript_35 : decode cX5_isScript 35 = .ok (.goto (-20), 3) := by decide +kernel
theorem dX5_isScript_38 : decode cX5_isScript 38 = .ok (.iload_n 1, 1) := by decide +kernel
theorem dX5_isScript_39 : decode cX5_isScript 39 = .ok (.ifCond .eq 18, 3) := by decide +kernel
theorem dX5_isScript_42 : decode cX5_isScript 42 = .ok (.aload_n 0, 1) := by decide +kernel
theorem dX5_isScript_43 : decode cX5_isScript 43 = .ok (.getfield 123, 3) := by decide +kernel
theorem dX5_isScript_46 : decode cX5_isScript 46 = .ok (.aload_n 0, 1) := by decide +kernel
theorem dX5_isScript_47 : decode cX5_isScript 47 = .ok (.getfield 120, 3) := by decide +kernel
theorem dX5_isScript_50 : decode cX5_isScript 50 = .ok (.if_icmp .ne 7, 3) := by decide +kernel
theorem dX5_isScript_53 : decode cX5_isScript 53 = .ok (.iconst 1, 1) := by decide +kernel
theorem dX5_isScript_54 : decode cX5_isScript 54 = .ok (.goto 4, 3) := by decide +kernel
theorem dX5_isScript_57 : decode cX5_isScript 57 = .ok (.iconst 0, 1) := by decide +kernel
theorem dX5_isScript_58 : decode cX5_isScript 58 = .ok (.ireturn, 1) := by decide +kernel
theorem dX5_fault_0 : decode cX5_fault 0 = .ok (.aload_n 0, 1) := by decide +kernel
theorem dX5_fault_1 : decode cX5_fault 1 = .ok (.invokevirtual 136, 3) := by decide +kernel
theorem dX5_fault_4 : decode cX5_fault 4 = .ok (.ifCond .eq 8, 3) := by decide +kernel
theorem dX5_fault_7 : decode cX5_fault 7 = .ok (.bipush (-5), 2) := by decide +kernel
theorem dX5_fault_9 : decode cX5_fault 9 = .ok (.goto 7, 3) := by decide +kernel
theorem dX5_fault_12 : decode cX5_fault 12 = .ok (.aload_n 0, 1) := by decide +kernel
theorem dX5_fault_13 : decode cX5_fault 13 = .ok (.getfield 123, 3) := by decide +kernel
theorem dX5_fault_16 : decode cX5_fault 16 = .ok (.ireturn, 1) := by decide +kernel
theorem dX5_isDone_0 : decode cX5_isDone 0 = .ok (.aload_n 0, 1) := by decide +kernel
theorem dX5_isDone_1 : decode cX5_isDone 1 = .ok (.getfield 28, 3) := by decide +kernel
theorem dX5_isDone_4 : decode cX5_isDone 4 = .ok (.iload_n 1, 1) := by decide +kernel
theorem dX5_isDone_5 : decode cX5_isDone 5 = .ok (.iaload, 1) := by decide +kernel
theorem dX5_isDone_6 : decode cX5_isDone 6 = .ok (.bipush 116, 2) := by decide +kernel
theorem dX5_isDone_8 : decode cX5_isDone 8 = .ok (.if_icmp .ne 15, 3) := by decide +kernel
theorem dX5_isDone_11 : decode cX5_isDone 11 = .ok (.aload_n 0, 1) := by decide +kernel
theorem dX5_isDone_12 : decode cX5_isDone 12 = .ok (.aload_n 0, 1) := by decide +kernel
theorem dX5_isDone_13 : decode cX5_isDone 13 = .ok (.getfield 31, 3) := by decide +kernel
theorem dX5_isDone_16 : decode cX5_isDone 16 = .ok (.iload_n 1, 1) := by decide +kernel
theorem dX5_isDone_17 : decode cX5_isDone 17 = .ok (.iaload, 1) := by decide +kernel
theorem dX5_isDone_18 : decode cX5_isDone 18 = .ok (.invokevirtual 116, 3) := by decide +kernel
theorem dX5_isDone_21 : decode cX5_isDone 21 = .ok (.iconst 1, 1) := by decide +kernel
theorem dX5_isDone_22 : decode cX5_isDone 22 = .ok (.ireturn, 1) := by decide +kernel
theorem dX5_isDone_23 : decode cX5_isDone 23 = .ok (.aload_n 0, 1) := by decide +kernel
theorem dX5_isDone_24 : decode cX5_isDone 24 = .ok (.getfield 28, 3) := by decide +kernel
theorem dX5_isDone_27 : decode cX5_isDone 27 = .ok (.iload_n 1, 1) := by decide +kernel
theorem dX5_isDone_28 : decode cX5_isDone 28 = .ok (.iaload, 1) := by decide +kernel
theorem dX5_isDone_29 : decode cX5_isDone 29 = .ok (.bipush 112, 2) := by decide +kernel
theorem dX5_isDone_31 : decode cX5_isDone 31 = .ok (.if_icmp .ne 57, 3) := by decide +kernel
theorem dX5_isDone_34 : decode cX5_isDone 34 = .ok (.aload_n 0, 1) := by decide +kernel
theorem dX5_isDone_35 : decode cX5_isDone 35 = .ok (.aload_n 0, 1) := by decide +kernel
theorem dX5_isDone_36 : decode cX5_isDone 36 = .ok (.getfield 31, 3) := by decide +kernel
theorem dX5_isDone_39 : decode cX5_isDone 39 = .ok (.iload_n 1, 1) := by decide +kernel
theorem dX5_isDone_40 : decode cX5_isDone 40 = .ok (.iaload, 1) := by decide +kernel
theorem dX5_isDone_41 : decode cX5_isDone 41 = .ok (.aload_n 0, 1) := by decide +kernel
theorem dX5_isDone_42 : decode cX5_isDone 42 = .ok (.getfield 34, 3) := by decide +kernel
theorem dX5_isDone_45 : decode cX5_isDone 45 = .ok (.iload_n 1, 1) := by decide +kernel
theorem dX5_isDone_46 : decode cX5_isDone 46 = .ok (.iaload, 1) := by decide +kernel
theorem dX5_isDone_47 : decode cX5_isDone 47 = .ok (.invokevirtual 104, 3) := by decide +kernel
theorem dX5_isDone_50 : decode cX5_isDone 50 = .ok (.istore_n 2, 1) := by decide +kernel
theorem dX5_isDone_51 : decode cX5_isDone 51 = .ok (.aload_n 0, 1) := by decide +kernel
theorem dX5_isDone_52 : decode cX5_isDone 52 = .ok (.aload_n 0, 1) := by decide +kernel
theorem dX5_isDone_53 : decode cX5_isDone 53 = .ok (.getfield 31, 3) := by decide +kernel
theorem dX5_isDone_56 : decode cX5_isDone 56 = .ok (.iload_n 1, 1) := by decide +kernel
theorem dX5_isDone_57 : decode cX5_isDone 57 = .ok (.iaload, 1) := by decide +kernel
theorem dX5_isDone_58 : decode cX5_isDone 58 = .ok (.iconst 4, 1) := by decide +kernel
theorem dX5_isDone_59 : decode cX5_isDone 59 = .ok (.iload_n 2, 1) := by decide +kernel
theorem dX5_isDone_60 : decode cX5_isDone 60 = .ok (.ifCond .eq 12, 3) := by decide +kernel
theorem dX5_isDone_63 : decode cX5_isDone 63 = .ok (.aload_n 0, 1) := by decide +kernel
theorem dX5_isDone_64 : decode cX5_isDone 64 = .ok (.getfield 34, 3) := by decide +kernel
theorem dX5_isDone_67 : decode cX5_isDone 67 = .ok (.iload_n 1, 1) := by decide +kernel
theorem dX5_isDone_68 : decode cX5_isDone 68 = .ok (.iaload, 1) := by decide +kernel
theorem dX5_isDone_69 : decode cX5_isDone 69 = .ok (.goto 14, 3) := by decide +kernel
theorem dX5_isDone_72 : decode cX5_isDone 72 = .ok (.aload_n 0, 1) := by decide +kernel
theorem dX5_isDone_73 : decode cX5_isDone 73 = .ok (.aload_n 0, 1) := by decide +kernel
theorem dX5_isDone_74 : decode cX5_isDone 74 = .ok (.getfield 31, 3) := by decide +kernel
theorem dX5_isDone_77 : decode cX5_isDone 77 = .ok (.iload_n 1, 1) := by decide +kernel
theorem dX5_isDone_78 : decode cX5_isDone 78 = .ok (.iaload, 1) := by decide +kernel
theorem dX5_isDone_79 : decode cX5_isDone 79 = .ok (.iconst 4, 1) := by decide +kernel
theorem dX5_isDone_80 : decode cX5_isDone 80 = .ok (.invokevirtual 49, 3) := by decide +kernel
theorem dX5_isDone_83 : decode cX5_isDone 83 = .ok (.invokevirtual 37, 3) := by decide +kernel
theorem dX5_isDone_86 : decode cX5_isDone 86 = .ok (.iload_n 2, 1) := by decide +kernel
theorem dX5_isDone_87 : decode cX5_isDone 87 = .ok (.ireturn, 1) := by decide +kernel
theorem dX5_isDone_88 : decode cX5_isDone 88 = .ok (.aload_n 0, 1) := by decide +kernel
theorem dX5_isDone_89 : decode cX5_isDone 89 = .ok (.aload_n 0, 1) := by decide +kernel
theorem dX5_isDone_90 : decode cX5_isDone 90 = .ok (.getfield 31, 3) := by decide +kernel
theorem dX5_isDone_93 : decode cX5_isDone 93 = .ok (.iload_n 1, 1) := by decide +kernel
theorem dX5_isDone_94 : decode cX5_isDone 94 = .ok (.iaload, 1) := by decide +kernel
theorem dX5_isDone_95 : decode cX5_isDone 95 = .ok (.aload_n 0, 1) := by decide +kernel
theorem dX5_isDone_96 : decode cX5_isDone 96 = .ok (.getfield 34, 3) := by decide +kernel
theorem dX5_isDone_99 : decode cX5_isDone 99 = .ok (.iload_n 1, 1) := by decide +kernel
theorem dX5_isDone_100 : decode cX5_isDone 100 = .ok (.iaload, 1) := by decide +kernel
theorem dX5_isDone_101 : decode cX5_isDone 101 = .ok (.invokevirtual 97, 3) := by decide +kernel
theorem dX5_isDone_104 : decode cX5_isDone 104 = .ok (.ifCond .eq 45, 3) := by decide +kernel
theorem dX5_isDone_107 : decode cX5_isDone 107 = .ok (.aload_n 0, 1) := by decide +kernel
theorem dX5_isDone_108 : decode cX5_isDone 108 = .ok (.aload_n 0, 1) := by decide +kernel
theorem dX5_isDone_109 : decode cX5_isDone 109 = .ok (.getfield 31, 3) := by decide +kernel
theorem dX5_isDone_112 : decode cX5_isDone 112 = .ok (.iload_n 1, 1) := by decide +kernel
theorem dX5_isDone_113 : decode cX5_isDone 113 = .ok (.iaload, 1) := by decide +kernel
theorem dX5_isDone_114 : decode cX5_isDone 114 = .ok (.aload_n 0, 1) := by decide +kernel
theorem dX5_isDone_115 : decode cX5_isDone 115 = .ok (.getfield 34, 3) := by decide +kernel
theorem dX5_isDone_118 : decode cX5_isDone 118 = .ok (.iload_n 1, 1) := by decide +kernel
theorem dX5_isDone_119 : decode cX5_isDone 119 = .ok (.iaload, 1) := by decide +kernel
theorem dX5_isDone_120 : decode cX5_isDone 120 = .ok (.invokevirtual 107, 3) := by decide +kernel
theorem dX5_isDone_123 : decode cX5_isDone 123 = .ok (.ifCond .eq 26, 3) := by decide +kernel
theorem dX5_isDone_126 : decode cX5_isDone 126 = .ok (.aload_n 0, 1) := by decide +kernel
theorem dX5_isDone_127 : decode cX5_isDone 127 = .ok (.aload_n 0, 1) := by decide +kernel
theorem dX5_isDone_128 : decode cX5_isDone 128 = .ok (.getfield 31, 3) := by decide +kernel
theorem dX5_isDone_131 : decode cX5_isDone 131 = .ok (.iload_n 1, 1) := by decide +kernel
theorem dX5_isDone_132 : decode cX5_isDone 132 = .ok (.iaload, 1) := by decide +kernel
theorem dX5_isDone_133 : decode cX5_isDone 133 = .ok (.aload_n 0, 1) := by decide +kernel
theorem dX5_isDone_134 : decode cX5_isDone 134 = .ok (.getfield 34, 3) := by decide +kernel
theorem dX5_isDone_137 : decode cX5_isDone 137 = .ok (.iload_n 1, 1) := by decide +kernel
theorem dX5_isDone_138 : decode cX5_isDone 138 = .ok (.iaload, 1) := by decide +kernel
theorem dX5_isDone_139 : decode cX5_isDone 139 = .ok (.invokevirtual 110, 3) := by decide +kernel
theorem dX5_isDone_142 : decode cX5_isDone 142 = .ok (.ifCond .le 7, 3) := by decide +kernel
theorem dX5_isDone_145 : decode cX5_isDone 145 = .ok (.iconst 1, 1) := by decide +kernel
theorem dX5_isDone_146 : decode cX5_isDone 146 = .ok (.goto 4, 3) := by decide +kernel
theorem dX5_isDone_149 : decode cX5_isDone 149 = .ok (.iconst 0, 1) := by decide +kernel
theorem dX5_isDone_150 : decode cX5_isDone 150 = .ok (.ireturn, 1) := by decide +kernel
theorem dX5_run_0 : decode cX5_run 0 = .ok (.aload_n 0, 1) := by decide +kernel
theorem dX5_run_1 : decode cX5_run 1 = .ok (.invokevirtual 136, 3) := by decide +kernel
theorem dX5_run_4 : decode cX5_run 4 = .ok (.ifCond .ne 11, 3) := by decide +kernel
theorem dX5_run_7 : decode cX5_run 7 = .ok (.bipush (-100), 2) := by decide +kernel
theorem dX5_run_9 : decode cX5_run 9 = .ok (.aload_n 0, 1) := by decide +kernel
theorem dX5_run_10 : decode cX5_run 10 = .ok (.getfield 123, 3) := by decide +kernel
theorem dX5_run_13 : decode cX5_run 13 = .ok (.isub, 1) := by decide +kernel
theorem dX5_run_14 : decode cX5_run 14 = .ok (.ireturn, 1) := by decide +kernel
theorem dX5_run_15 : decode cX5_run 15 = .ok (.aload_n 0, 1) := by decide +kernel
theorem dX5_run_16 : decode cX5_run 16 = .ok (.invokevirtual 61, 3) := by decide +kernel
theorem dX5_run_19 : decode cX5_run 19 = .ok (.iconst 0, 1) := by decide +kernel
theorem dX5_run_20 : decode cX5_run 20 = .ok (.istore_n 1, 1) := by decide +kernel
theorem dX5_run_21 : decode cX5_run 21 = .ok (.iload_n 1, 1) := by decide +kernel
theorem dX5_run_22 : decode cX5_run 22 = .ok (.aload_n 0, 1) := by decide +kernel
theorem dX5_run_23 : decode cX5_run 23 = .ok (.getfield 129, 3) := by decide +kernel
theorem dX5_run_26 : decode cX5_run 26 = .ok (.if_icmp .ge 17, 3) := by decide +kernel
theorem dX5_run_29 : decode cX5_run 29 = .ok (.aload_n 0, 1) := by decide +kernel
theorem dX5_run_30 : decode cX5_run 30 = .ok (.iload_n 1, 1) := by decide +kernel
theorem dX5_run_31 : decode cX5_run 31 = .ok (.invokevirtual 139, 3) := by decide +kernel
theorem dX5_run_34 : decode cX5_run 34 = .ok (.ifCond .eq 9, 3) := by decide +kernel
theorem dX5_run_37 : decode cX5_run 37 = .ok (.iinc 1 1, 3) := by decide +kernel
theorem dX5_run_40 : decode cX5_run 40 = .ok (.goto (-19), 3) := by decide +kernel
theorem dX5_run_43 : decode cX5_run 43 = .ok (.iload_n 1, 1) := by decide +kernel
theorem dX5_run_44 : decode cX5_run 44 = .ok (.ireturn, 1) := by decide +kernel
theorem dX5_town_0 : decode cX5_town 0 = .ok (.iload_n 1, 1) := by decide +kernel
theorem dX5_town_1 : decode cX5_town 1 = .ok (.invokestatic 45, 3) := by decide +kernel
theorem dX5_town_4 : decode cX5_town 4 = .ok (.ifCond .ne 5, 3) := by decide +kernel
theorem dX5_town_7 : decode cX5_town 7 = .ok (.iconst (-1), 1) := by decide +kernel
theorem dX5_town_8 : decode cX5_town 8 = .ok (.ireturn, 1) := by decide +kernel
theorem dX5_town_9 : decode cX5_town 9 = .ok (.iload_n 2, 1) := by decide +kernel
theorem dX5_town_10 : decode cX5_town 10 = .ok (.iconst 0, 1) := by decide +kernel
theorem dX5_town_11 : decode cX5_town 11 = .ok (.bipush 8, 2) := by decide +kernel
theorem dX5_town_13 : decode cX5_town 13 = .ok (.invokestatic 41, 3) := by decide +kernel
theorem dX5_town_16 : decode cX5_town 16 = .ok (.ifCond .eq 12, 3) := by decide +kernel
theorem dX5_town_19 : decode cX5_town 19 = .ok (.aload_n 0, 1) := by decide +kernel
theorem dX5_town_20 : decode cX5_town 20 = .ok (.iload_n 1, 1) := by decide +kernel
theorem dX5_town_21 : decode cX5_town 21 = .ok (.iload_n 2, 1) := by decide +kernel
theorem dX5_town_22 : decode cX5_town 22 = .ok (.invokevirtual 49, 3) := by decide +kernel
theorem dX5_town_25 : decode cX5_town 25 = .ok (.goto 5, 3) := by decide +kernel
theorem dX5_town_28 : decode cX5_town 28 = .ok (.bipush (-2), 2) := by decide +kernel
theorem dX5_town_30 : decode cX5_town 30 = .ok (.ireturn, 1) := by decide +kernel
theorem dX5_reason_0 : decode cX5_reason 0 = .ok (.aload_n 0, 1) := by decide +kernel
theorem dX5_reason_1 : decode cX5_reason 1 = .ok (.iload_n 1, 1) := by decide +kernel
theorem dX5_reason_2 : decode cX5_reason 2 = .ok (.bipush 6, 2) := by decide +kernel
theorem dX5_reason_4 : decode cX5_reason 4 = .ok (.invokevirtual 49, 3) := by decide +kernel
theorem dX5_reason_7 : decode cX5_reason 7 = .ok (.ifCond .le 5, 3) := by decide +kernel
theorem dX5_reason_10 : decode cX5_reason 10 = .ok (.iconst 1, 1) := by decide +kernel
theorem dX5_reason_11 : decode cX5_reason 11 = .ok (.ireturn, 1) := by decide +kernel
theorem dX5_reason_12 : decode cX5_reason 12 = .ok (.aload_n 0, 1) := by decide +kernel
theorem dX5_reason_13 : decode cX5_reason 13 = .ok (.iload_n 1, 1) := by decide +kernel
theorem dX5_reason_14 : decode cX5_reason 14 = .ok (.aload_n 0, 1) := by decide +kernel
theorem dX5_reason_15 : decode cX5_reason 15 = .ok (.iload_n 1, 1) := by decide +kernel
theorem dX5_reason_16 : decode cX5_reason 16 = .ok (.iconst 4, 1) := by decide +kernel
theorem dX5_reason_17 : decode cX5_reason 17 = .ok (.invokevirtual 49, 3) := by decide +kernel
theorem dX5_reason_20 : decode cX5_reason 20 = .ok (.invokevirtual 68, 3) := by decide +kernel
theorem dX5_reason_23 : decode cX5_reason 23 = .ok (.iload_n 2, 1) := by decide +kernel
theorem dX5_reason_24 : decode cX5_reason 24 = .ok (.ishr, 1) := by decide +kernel
theorem dX5_reason_25 : decode cX5_reason 25 = .ok (.iconst 1, 1) := by decide +kernel
theorem dX5_reason_26 : decode cX5_reason 26 = .ok (.iand, 1) := by decide +kernel
theorem dX5_reason_27 : decode cX5_reason 27 = .ok (.ifCond .ne 5, 3) := by decide +kernel
theorem dX5_reason_30 : decode cX5_reason 30 = .ok (.iconst 2, 1) := by decide +kernel
theorem dX5_reason_31 : decode cX5_reason 31 = .ok (.ireturn, 1) := by decide +kernel
theorem dX5_reason_32 : decode cX5_reason 32 = .ok (.aload_n 0, 1) := by decide +kernel
theorem dX5_reason_33 : decode cX5_reason 33 = .ok (.iload_n 1, 1) := by decide +kernel
theorem dX5_reason_34 : decode cX5_reason 34 = .ok (.bipush 14, 2) := by decide +kernel
theorem dX5_reason_36 : decode cX5_reason 36 = .ok (.iload_n 2, 1) := by decide +kernel
theorem dX5_reason_37 : decode cX5_reason 37 = .ok (.iadd, 1) := by decide +kernel
theorem dX5_reason_38 : decode cX5_reason 38 = .ok (.invokevirtual 49, 3) := by decide +kernel
theorem dX5_reason_41 : decode cX5_reason 41 = .ok (.bipush 6, 2) := by decide +kernel
theorem dX5_reason_43 : decode cX5_reason 43 = .ok (.if_icmp .ne 7, 3) := by decide +kernel
theorem dX5_reason_46 : decode cX5_reason 46 = .ok (.iconst 3, 1) := by decide +kernel
theorem dX5_reason_47 : decode cX5_reason 47 = .ok (.goto 26, 3) := by decide +kernel
theorem dX5_reason_50 : decode cX5_reason 50 = .ok (.aload_n 0, 1) := by decide +kernel
theorem dX5_reason_51 : decode cX5_reason 51 = .ok (.iload_n 1, 1) := by decide +kernel
theorem dX5_reason_52 : decode cX5_reason 52 = .ok (.aload_n 0, 1) := by decide +kernel
theorem dX5_reason_53 : decode cX5_reason 53 = .ok (.iload_n 1, 1) := by decide +kernel
theorem dX5_reason_54 : decode cX5_reason 54 = .ok (.iconst 4, 1) := by decide +kernel
theorem dX5_reason_55 : decode cX5_reason 55 = .ok (.invokevirtual 49, 3) := by decide +kernel
theorem dX5_reason_58 : decode cX5_reason 58 = .ok (.invokevirtual 74, 3) := by decide +kernel
theorem dX5_reason_61 : decode cX5_reason 61 = .ok (.iload_n 2, 1) := by decide +kernel
theorem dX5_reason_62 : decode cX5_reason 62 = .ok (.ishr, 1) := by decide +kernel
theorem dX5_reason_63 : decode cX5_reason 63 = .ok (.iconst 1, 1) := by decide +kernel
theorem dX5_reason_64 : decode cX5_reason 64 = .ok (.iand, 1) := by decide +kernel
theorem dX5_reason_65 : decode cX5_reason 65 = .ok (.ifCond .ne 7, 3) := by decide +kernel
theorem dX5_reason_68 : decode cX5_reason 68 = .ok (.iconst 4, 1) := by decide +kernel
theorem dX5_reason_69 : decode cX5_reason 69 = .ok (.goto 4, 3) := by decide +kernel
theorem dX5_reason_72 : decode cX5_reason 72 = .ok (.iconst 0, 1) := by decide +kernel
theorem dX5_reason_73 : decode cX5_reason 73 = .ok (.ireturn, 1) := by decide +kernel
theorem dX5_bell_0 : decode cX5_bell 0 = .ok (.aload_n 0, 1) := by decide +kernel
theorem dX5_bell_1 : decode cX5_bell 1 = .ok (.iload_n 1, 1) := by decide +kernel
theorem dX5_bell_2 : decode cX5_bell 2 = .ok (.iload_n 2, 1) := by decide +kernel
theorem dX5_bell_3 : decode cX5_bell 3 = .ok (.invokevirtual 97, 3) := by decide +kernel
theorem dX5_bell_6 : decode cX5_bell 6 = .ok (.ifCond .ne 5, 3) := by decide +kernel
theorem dX5_bell_9 : decode cX5_bell 9 = .ok (.iconst (-1), 1) := by decide +kernel
theorem dX5_bell_10 : decode cX5_bell 10 = .ok (.ireturn, 1) := by decide +kernel
theorem dX5_bell_11 : decode cX5_bell 11 = .ok (.iload_n 3, 1) := by decide +kernel
theorem dX5_bell_12 : decode cX5_bell 12 = .ok (.tableswitch 80 0 4 #[36, 46, 56, 63, 73], 36) := by decide +kernel
theorem dX5_bell_48 : decode cX5_bell 48 = .ok (.aload_n 0, 1) := by decide +kernel
theorem dX5_bell_49 : decode cX5_bell 49 = .ok (.iload_n 1, 1) := by decide +kernel
theorem dX5_bell_50 : decode cX5_bell 50 = .ok (.bipush 9, 2) := by decide +kernel
theorem dX5_bell_52 : decode cX5_bell 52 = .ok (.iload_n 2, 1) := by decide +kernel
theorem dX5_bell_53 : decode cX5_bell 53 = .ok (.iadd, 1) := by decide +kernel
theorem dX5_bell_54 : decode cX5_bell 54 = .ok (.invokevirtual 49, 3) := by decide +kernel
theorem dX5_bell_57 : decode cX5_bell 57 = .ok (.ireturn, 1) := by decide +kernel
theorem dX5_bell_58 : decode cX5_bell 58 = .ok (.aload_n 0, 1) := by decide +kernel
theorem dX5_bell_59 : decode cX5_bell 59 = .ok (.iload_n 1, 1) := by decide +kernel
theorem dX5_bell_60 : decode cX5_bell 60 = .ok (.bipush 14, 2) := by decide +kernel
theorem dX5_bell_62 : decode cX5_bell 62 = .ok (.iload_n 2, 1) := by decide +kernel
theorem dX5_bell_63 : decode cX5_bell 63 = .ok (.iadd, 1) := by decide +kernel
theorem dX5_bell_64 : decode cX5_bell 64 = .ok (.invokevirtual 49, 3) := by decide +kernel
theorem dX5_bell_67 : decode cX5_bell 67 = .ok (.ireturn, 1) := by decide +kernel
theorem dX5_bell_68 : decode cX5_bell 68 = .ok (.aload_n 0, 1) := by decide +kernel
theorem dX5_bell_69 : decode cX5_bell 69 = .ok (.iload_n 1, 1) := by decide +kernel
theorem dX5_bell_70 : decode cX5_bell 70 = .ok (.iload_n 2, 1) := by decide +kernel
theorem dX5_bell_71 : decode cX5_bell 71 = .ok (.invokevirtual 71, 3) := by decide +kernel
theorem dX5_bell_74 : decode cX5_bell 74 = .ok (.ireturn, 1) := by decide +kernel
theorem dX5_bell_75 : decode cX5_bell 75 = .ok (.aload_n 0, 1) := by decide +kernel
theorem dX5_bell_76 : decode cX5_bell 76 = .ok (.iload_n 1, 1) := by decide +kernel
theorem dX5_bell_77 : decode cX5_bell 77 = .ok (.bipush 19, 2) := by decide +kernel
theorem dX5_bell_79 : decode cX5_bell 79 = .ok (.iload_n 2, 1) := by decide +kernel
theorem dX5_bell_80 : decode cX5_bell 80 = .ok (.iadd, 1) := by decide +kernel
theorem dX5_bell_81 : decode cX5_bell 81 = .ok (.invokevirtual 49, 3) := by decide +kernel
theorem dX5_bell_84 : decode cX5_bell 84 = .ok (.ireturn, 1) := by decide +kernel
theorem dX5_bell_85 : decode cX5_bell 85 = .ok (.aload_n 0, 1) := by decide +kernel
theorem dX5_bell_86 : decode cX5_bell 86 = .ok (.iload_n 1, 1) := by decide +kernel
theorem dX5_bell_87 : decode cX5_bell 87 = .ok (.iload_n 2, 1) := by decide +kernel
theorem dX5_bell_88 : decode cX5_bell 88 = .ok (.invokevirtual 142, 3) := by decide +kernel
theorem dX5_bell_91 : decode cX5_bell 91 = .ok (.ireturn, 1) := by decide +kernel
theorem dX5_bell_92 : decode cX5_bell 92 = .ok (.bipush (-2), 2) := by decide +kernel
theorem dX5_bell_94 : decode cX5_bell 94 = .ok (.ireturn, 1) := by decide +kernel
theorem dX5_sum_0 : decode cX5_sum 0 = .ok (.iconst 0, 1) := by decide +kernel
theorem dX5_sum_1 : decode cX5_sum 1 = .ok (.istore_n 2, 1) := by decide +kernel
theorem dX5_sum_2 : decode cX5_sum 2 = .ok (.iconst 0, 1) := by decide +kernel
theorem dX5_sum_3 : decode cX5_sum 3 = .ok (.istore_n 3, 1) := by decide +kernel
theorem dX5_sum_4 : decode cX5_sum 4 = .ok (.iload_n 3, 1) := by decide +kernel
theorem dX5_sum_5 : decode cX5_sum 5 = .ok (.bipush 6, 2) := by decide +kernel
theorem dX5_sum_7 : decode cX5_sum 7 = .ok (.if_icmp .ge 18, 3) := by decide +kernel
theorem dX5_sum_10 : decode cX5_sum 10 = .ok (.iload_n 2, 1) := by decide +kernel
theorem dX5_sum_11 : decode cX5_sum 11 = .ok (.aload_n 0, 1) := by decide +kernel
theorem dX5_sum_12 : decode cX5_sum 12 = .ok (.iload_n 3, 1) := by decide +kernel
theorem dX5_sum_13 : decode cX5_sum 13 = .ok (.iload_n 1, 1) := by decide +kernel
theorem dX5_sum_14 : decode cX5_sum 14 = .ok (.invokevirtual 49, 3) := by decide +kernel
theorem dX5_sum_17 : decode cX5_sum 17 = .ok (.iadd, 1) := by decide +kernel
theorem dX5_sum_18 : decode cX5_sum 18 = .ok (.istore_n 2, 1) := by decide +kernel
theorem dX5_sum_19 : decode cX5_sum 19 = .ok (.iinc 3 1, 3) := by decide +kernel
theorem dX5_sum_22 : decode cX5_sum 22 = .ok (.goto (-18), 3) := by decide +kernel
theorem dX5_sum_25 : decode cX5_sum 25 = .ok (.iload_n 2, 1) := by decide +kernel
theorem dX5_sum_26 : decode cX5_sum 26 = .ok (.ireturn, 1) := by decide +kernel
theorem dX5_brokenRopes_0 : decode cX5_brokenRopes 0 = .ok (.iconst 0, 1) := by decide +kernel
theorem dX5_brokenRopes_1 : decode cX5_brokenRopes 1 = .ok (.istore_n 1, 1) := by decide +kernel
theorem dX5_brokenRopes_2 : decode cX5_brokenRopes 2 = .ok (.iconst 0, 1) := by decide +kernel
theorem dX5_brokenRopes_3 : decode cX5_brokenRopes 3 = .ok (.istore_n 2, 1) := by decide +kernel
theorem dX5_brokenRopes_4 : decode cX5_brokenRopes 4 = .ok (.iload_n 2, 1) := by decide +kernel
theorem dX5_brokenRopes_5 : decode cX5_brokenRopes 5 = .ok (.bipush 30, 2) := by decide +kernel
theorem dX5_brokenRopes_7 : decode cX5_brokenRopes 7 = .ok (.if_icmp .ge 48, 3) := by decide +kernel
theorem dX5_brokenRopes_10 : decode cX5_brokenRopes 10 = .ok (.iload_n 1, 1) := by decide +kernel
theorem dX5_brokenRopes_11 : decode cX5_brokenRopes 11 = .ok (.aload_n 0, 1) := by decide +kernel
theorem dX5_brokenRopes_12 : decode cX5_brokenRopes 12 = .ok (.iload_n 2, 1) := by decide +kernel
theorem dX5_brokenRopes_13 : decode cX5_brokenRopes 13 = .ok (.iconst 5, 1) := by decide +kernel
theorem dX5_brokenRopes_14 : decode cX5_brokenRopes 14 = .ok (.idiv, 1) := by decide +kernel
theorem dX5_brokenRopes_15 : decode cX5_brokenRopes 15 = .ok (.iload_n 2, 1) := by decide +kernel
theorem dX5_brokenRopes_16 : decode cX5_brokenRopes 16 = .ok (.iconst 5, 1) := by decide +kernel
theorem dX5_brokenRopes_17 : decode cX5_brokenRopes 17 = .ok (.irem, 1) := by decide +kernel
theorem dX5_brokenRopes_18 : decode cX5_brokenRopes 18 = .ok (.invokevirtual 97, 3) := by decide +kernel
theorem dX5_brokenRopes_21 : decode cX5_brokenRopes 21 = .ok (.ifCond .eq 25, 3) := by decide +kernel
theorem dX5_brokenRopes_24 : decode cX5_brokenRopes 24 = .ok (.aload_n 0, 1) := by decide +kernel
theorem dX5_brokenRopes_25 : decode cX5_brokenRopes 25 = .ok (.iload_n 2, 1) := by decide +kernel
theorem dX5_brokenRopes_26 : decode cX5_brokenRopes 26 = .ok (.iconst 5, 1) := by decide +kernel
theorem dX5_brokenRopes_27 : decode cX5_brokenRopes 27 = .ok (.idiv, 1) := by decide +kernel
theorem dX5_brokenRopes_28 : decode cX5_brokenRopes 28 = .ok (.bipush 14, 2) := by decide +kernel
theorem dX5_brokenRopes_30 : decode cX5_brokenRopes 30 = .ok (.iload_n 2, 1) := by decide +kernel
theorem dX5_brokenRopes_31 : decode cX5_brokenRopes 31 = .ok (.iconst 5, 1) := by decide +kernel
theorem dX5_brokenRopes_32 : decode cX5_brokenRopes 32 = .ok (.irem, 1) := by decide +kernel
theorem dX5_brokenRopes_33 : decode cX5_brokenRopes 33 = .ok (.iadd, 1) := by decide +kernel
theorem dX5_brokenRopes_34 : decode cX5_brokenRopes 34 = .ok (.invokevirtual 49, 3) := by decide +kernel
theorem dX5_brokenRopes_37 : decode cX5_brokenRopes 37 = .ok (.bipush 6, 2) := by decide +kernel
theorem dX5_brokenRopes_39 : decode cX5_brokenRopes 39 = .ok (.if_icmp .ne 7, 3) := by decide +kernel
theorem dX5_brokenRopes_42 : decode cX5_brokenRopes 42 = .ok (.iconst 1, 1) := by decide +kernel
theorem dX5_brokenRopes_43 : decode cX5_brokenRopes 43 = .ok (.goto 4, 3) := by decide +kernel
theorem dX5_brokenRopes_46 : decode cX5_brokenRopes 46 = .ok (.iconst 0, 1) := by decide +kernel
theorem dX5_brokenRopes_47 : decode cX5_brokenRopes 47 = .ok (.iadd, 1) := by decide +kernel
theorem dX5_brokenRopes_48 : decode cX5_brokenRopes 48 = .ok (.istore_n 1, 1) := by decide +kernel
theorem dX5_brokenRopes_49 : decode cX5_brokenRopes 49 = .ok (.iinc 2 1, 3) := by decide +kernel
theorem dX5_brokenRopes_52 : decode cX5_brokenRopes 52 = .ok (.goto (-48), 3) := by decide +kernel
theorem dX5_brokenRopes_55 : decode cX5_brokenRopes 55 = .ok (.iload_n 1, 1) := by decide +kernel
theorem dX5_brokenRopes_56 : decode cX5_brokenRopes 56 = .ok (.ireturn, 1) := by decide +kernel
theorem dX5_silentTowns_0 : decode cX5_silentTowns 0 = .ok (.iconst 0, 1) := by decide +kernel
theorem dX5_silentTowns_1 : decode cX5_silentTowns 1 = .ok (.istore_n 1, 1) := by decide +kernel
theorem dX5_silentTowns_2 : decode cX5_silentTowns 2 = .ok (.iconst 0, 1) := by decide +kernel
theorem dX5_silentTowns_3 : decode cX5_silentTowns 3 = .ok (.istore_n 2, 1) := by decide +kernel
theorem dX5_silentTowns_4 : decode cX5_silentTowns 4 = .ok (.iload_n 2, 1) := by decide +kernel
theorem dX5_silentTowns_5 : decode cX5_silentTowns 5 = .ok (.bipush 6, 2) := by decide +kernel
theorem dX5_silentTowns_7 : decode cX5_silentTowns 7 = .ok (.if_icmp .ge 27, 3) := by decide +kernel
theorem dX5_silentTowns_10 : decode cX5_silentTowns 10 = .ok (.iload_n 1, 1) := by decide +kernel
theorem dX5_silentTowns_11 : decode cX5_silentTowns 11 = .ok (.aload_n 0, 1) := by decide +kernel
theorem dX5_silentTowns_12 : decode cX5_silentTowns 12 = .ok (.iload_n 2, 1) := by decide +kernel
theorem dX5_silentTowns_13 : decode cX5_silentTowns 13 = .ok (.bipush 6, 2) := by decide +kernel
theorem dX5_silentTowns_15 : decode cX5_silentTowns 15 = .ok (.invokevirtual 49, 3) := by decide +kernel
theorem dX5_silentTowns_18 : decode cX5_silentTowns 18 = .ok (.ifCond .le 7, 3) := by decide +kernel
theorem dX5_silentTowns_21 : decode cX5_silentTowns 21 = .ok (.iconst 1, 1) := by decide +kernel
theorem dX5_silentTowns_22 : decode cX5_silentTowns 22 = .ok (.goto 4, 3) := by decide +kernel
theorem dX5_silentTowns_25 : decode cX5_silentTowns 25 = .ok (.iconst 0, 1) := by decide +kernel
theorem dX5_silentTowns_26 : decode cX5_silentTowns 26 = .ok (.iadd, 1) := by decide +kernel
theorem dX5_silentTowns_27 : decode cX5_silentTowns 27 = .ok (.istore_n 1, 1) := by decide +kernel
theorem dX5_silentTowns_28 : decode cX5_silentTowns 28 = .ok (.iinc 2 1, 3) := by decide +kernel
theorem dX5_silentTowns_31 : decode cX5_silentTowns 31 = .ok (.goto (-27), 3) := by decide +kernel
theorem dX5_silentTowns_34 : decode cX5_silentTowns 34 = .ok (.iload_n 1, 1) := by decide +kernel
theorem dX5_silentTowns_35 : decode cX5_silentTowns 35 = .ok (.ireturn, 1) := by decide +kernel
theorem dX5_count_0 : decode cX5_count 0 = .ok (.iload_n 1, 1) := by decide +kernel
theorem dX5_count_1 : decode cX5_count 1 = .ok (.tableswitch 123 0 10 #[59, 66, 72, 77, 82, 89, 96, 103, 103, 113, 118], 59) := by decide +kernel
theorem dX5_count_60 : decode cX5_count 60 = .ok (.aload_n 0, 1) := by decide +kernel
theorem dX5_count_61 : decode cX5_count 61 = .ok (.getfield 7, 3) := by decide +kernel
theorem dX5_count_64 : decode cX5_count 64 = .ok (.iconst 2, 1) := by decide +kernel
theorem dX5_count_65 : decode cX5_count 65 = .ok (.iaload, 1) := by decide +kernel
theorem dX5_count_66 : decode cX5_count 66 = .ok (.ireturn, 1) := by decide +kernel
theorem dX5_count_67 : decode cX5_count 67 = .ok (.aload_n 0, 1) := by decide +kernel
theorem dX5_count_68 : decode cX5_count 68 = .ok (.iconst 3, 1) := by decide +kernel
theorem dX5_count_69 : decode cX5_count 69 = .ok (.invokevirtual 145, 3) := by decide +kernel
theorem dX5_count_72 : decode cX5_count 72 = .ok (.ireturn, 1) := by decide +kernel
theorem dX5_count_73 : decode cX5_count 73 = .ok (.aload_n 0, 1) := by decide +kernel
theorem dX5_count_74 : decode cX5_count 74 = .ok (.invokevirtual 148, 3) := by decide +kernel
theorem dX5_count_77 : decode cX5_count 77 = .ok (.ireturn, 1) := by decide +kernel
theorem dX5_count_78 : decode cX5_count 78 = .ok (.aload_n 0, 1) := by decide +kernel
theorem dX5_count_79 : decode cX5_count 79 = .ok (.invokevirtual 151, 3) := by decide +kernel
theorem dX5_count_82 : decode cX5_count 82 = .ok (.ireturn, 1) := by decide +kernel
theorem dX5_count_83 : decode cX5_count 83 = .ok (.aload_n 0, 1) := by decide +kernel
theorem dX5_count_84 : decode cX5_count 84 = .ok (.bipush 7, 2) := by decide +kernel
theorem dX5_count_86 : decode cX5_count 86 = .ok (.invokevirtual 145, 3) := by decide +kernel
theorem dX5_count_89 : decode cX5_count 89 = .ok (.ireturn, 1) := by decide +kernel
theorem dX5_count_90 : decode cX5_count 90 = .ok (.aload_n 0, 1) := by decide +kernel
theorem dX5_count_91 : decode cX5_count 91 = .ok (.getfield 7, 3) := by decide +kernel
theorem dX5_count_94 : decode cX5_count 94 = .ok (.iconst 4, 1) := by decide +kernel
theorem dX5_count_95 : decode cX5_count 95 = .ok (.iaload, 1) := by decide +kernel
theorem dX5_count_96 : decode cX5_count 96 = .ok (.ireturn, 1) := by decide +kernel
theorem dX5_count_97 : decode cX5_count 97 = .ok (.aload_n 0, 1) := by decide +kernel
theorem dX5_count_98 : decode cX5_count 98 = .ok (.getfield 7, 3) := by decide +kernel
theorem dX5_count_101 : decode cX5_count 101 = .ok (.iconst 3, 1) := by decide +kernel
theorem dX5_count_102 : decode cX5_count 102 = .ok (.iaload, 1) := by decide +kernel
theorem dX5_count_103 : decode cX5_count 103 = .ok (.ireturn, 1) := by decide +kernel
theorem dX5_count_104 : decode cX5_count 104 = .ok (.aload_n 0, 1) := by decide +kernel
theorem dX5_count_105 : decode cX5_count 105 = .ok (.getfield 7, 3) := by decide +kernel
theorem dX5_count_108 : decode cX5_count 108 = .ok (.iload_n 1, 1) := by decide +kernel
theorem dX5_count_109 : decode cX5_count 109 = .ok (.bipush 7, 2) := by decide +kernel
theorem dX5_count_111 : decode cX5_count 111 = .ok (.isub, 1) := by decide +kernel
theorem dX5_count_112 : decode cX5_count 112 = .ok (.iaload, 1) := by decide +kernel
theorem dX5_count_113 : decode cX5_count 113 = .ok (.ireturn, 1) := by decide +kernel
theorem dX5_count_114 : decode cX5_count 114 = .ok (.aload_n 0, 1) := by decide +kernel
theorem dX5_count_115 : decode cX5_count 115 = .ok (.getfield 53, 3) := by decide +kernel
theorem dX5_count_118 : decode cX5_count 118 = .ok (.ireturn, 1) := by decide +kernel
theorem dX5_count_119 : decode cX5_count 119 = .ok (.aload_n 0, 1) := by decide +kernel
theorem dX5_count_120 : decode cX5_count 120 = .ok (.getfield 120, 3) := by decide +kernel
theorem dX5_count_123 : decode cX5_count 123 = .ok (.ireturn, 1) := by decide +kernel
theorem dX5_count_124 : decode cX5_count 124 = .ok (.bipush (-2), 2) := by decide +kernel
theorem dX5_count_126 : decode cX5_count 126 = .ok (.ireturn, 1) := by decide +kernel
theorem dX5_loudness_0 : decode cX5_loudness 0 = .ok (.iload_n 1, 1) := by decide +kernel
theorem dX5_loudness_1 : decode cX5_loudness 1 = .ok (.invokestatic 45, 3) := by decide +kernel
theorem dX5_loudness_4 : decode cX5_loudness 4 = .ok (.ifCond .eq 22, 3) := by decide +kernel
theorem dX5_loudness_7 : decode cX5_loudness 7 = .ok (.aload_n 0, 1) := by decide +kernel
theorem dX5_loudness_8 : decode cX5_loudness 8 = .ok (.iload_n 1, 1) := by decide +kernel
theorem dX5_loudness_9 : decode cX5_loudness 9 = .ok (.aload_n 0, 1) := by decide +kernel
theorem dX5_loudness_10 : decode cX5_loudness 10 = .ok (.iload_n 1, 1) := by decide +kernel
theorem dX5_loudness_11 : decode cX5_loudness 11 = .ok (.aload_n 0, 1) := by decide +kernel
theorem dX5_loudness_12 : decode cX5_loudness 12 = .ok (.iload_n 1, 1) := by decide +kernel
theorem dX5_loudness_13 : decode cX5_loudness 13 = .ok (.iconst 4, 1) := by decide +kernel
theorem dX5_loudness_14 : decode cX5_loudness 14 = .ok (.invokevirtual 49, 3) := by decide +kernel
theorem dX5_loudness_17 : decode cX5_loudness 17 = .ok (.invokevirtual 74, 3) := by decide +kernel
theorem dX5_loudness_20 : decode cX5_loudness 20 = .ok (.invokevirtual 77, 3) := by decide +kernel
theorem dX5_loudness_23 : decode cX5_loudness 23 = .ok (.goto 4, 3) := by decide +kernel
theorem dX5_loudness_26 : decode cX5_loudness 26 = .ok (.iconst (-1), 1) := by decide +kernel
theorem dX5_loudness_27 : decode cX5_loudness 27 = .ok (.ireturn, 1) := by decide +kernel
theorem dX5_heard_0 : decode cX5_heard 0 = .ok (.iload_n 1, 1) := by decide +kernel
theorem dX5_heard_1 : decode cX5_heard 1 = .ok (.invokestatic 45, 3) := by decide +kernel
theorem dX5_heard_4 : decode cX5_heard 4 = .ok (.ifCond .eq 10, 3) := by decide +kernel
theorem dX5_heard_7 : decode cX5_heard 7 = .ok (.iload_n 2, 1) := by decide +kernel
theorem dX5_heard_8 : decode cX5_heard 8 = .ok (.invokestatic 45, 3) := by decide +kernel
theorem dX5_heard_11 : decode cX5_heard 11 = .ok (.ifCond .ne 5, 3) := by decide +kernel
theorem dX5_heard_14 : decode cX5_heard 14 = .ok (.iconst (-1), 1) := by decide +kernel
theorem dX5_heard_15 : decode cX5_heard 15 = .ok (.ireturn, 1) := by decide +kernel
theorem dX5_heard_16 : decode cX5_heard 16 = .ok (.aload_n 0, 1) := by decide +kernel
theorem dX5_heard_17 : decode cX5_heard 17 = .ok (.invokevirtual 83, 3) := by decide +kernel
theorem dX5_heard_20 : decode cX5_heard 20 = .ok (.aload_n 0, 1) := by decide +kernel
theorem dX5_heard_21 : decode cX5_heard 21 = .ok (.iload_n 1, 1) := by decide +kernel
theorem dX5_heard_22 : decode cX5_heard 22 = .ok (.iload_n 2, 1) := by decide +kernel
theorem dX5_heard_23 : decode cX5_heard 23 = .ok (.invokevirtual 80, 3) := by decide +kernel
theorem dX5_heard_26 : decode cX5_heard 26 = .ok (.ireturn, 1) := by decide +kernel
theorem dX5_winner_0 : decode cX5_winner 0 = .ok (.iload_n 1, 1) := by decide +kernel
theorem dX5_winner_1 : decode cX5_winner 1 = .ok (.invokestatic 45, 3) := by decide +kernel
theorem dX5_winner_4 : decode cX5_winner 4 = .ok (.ifCond .ne 5, 3) := by decide +kernel
theorem dX5_winner_7 : decode cX5_winner 7 = .ok (.iconst (-1), 1) := by decide +kernel
theorem dX5_winner_8 : decode cX5_winner 8 = .ok (.ireturn, 1) := by decide +kernel
theorem dX5_winner_9 : decode cX5_winner 9 = .ok (.aload_n 0, 1) := by decide +kernel
theorem dX5_winner_10 : decode cX5_winner 10 = .ok (.invokevirtual 83, 3) := by decide +kernel
theorem dX5_winner_13 : decode cX5_winner 13 = .ok (.aload_n 0, 1) := by decide +kernel
theorem dX5_winner_14 : decode cX5_winner 14 = .ok (.iload_n 1, 1) := by decide +kernel
theorem dX5_winner_15 : decode cX5_winner 15 = .ok (.invokevirtual 90, 3) := by decide +kernel
theorem dX5_winner_18 : decode cX5_winner 18 = .ok (.ireturn, 1) := by decide +kernel
theorem dX5_pointsWith_0 : decode cX5_pointsWith 0 = .ok (.aload_n 0, 1) := by decide +kernel
theorem dX5_pointsWith_1 : decode cX5_pointsWith 1 = .ok (.invokevirtual 83, 3) := by decide +kernel
theorem dX5_pointsWith_4 : decode cX5_pointsWith 4 = .ok (.aload_n 0, 1) := by decide +kernel
theorem dX5_pointsWith_5 : decode cX5_pointsWith 5 = .ok (.getfield 22, 3) := by decide +kernel
theorem dX5_pointsWith_8 : decode cX5_pointsWith 8 = .ok (.iload_n 1, 1) := by decide +kernel
theorem dX5_pointsWith_9 : decode cX5_pointsWith 9 = .ok (.aload_n 0, 1) := by decide +kernel
theorem dX5_pointsWith_10 : decode cX5_pointsWith 10 = .ok (.iload_n 1, 1) := by decide +kernel
theorem dX5_pointsWith_11 : decode cX5_pointsWith 11 = .ok (.aload_n 0, 1) := by decide +kernel
theorem dX5_pointsWith_12 : decode cX5_pointsWith 12 = .ok (.iload_n 1, 1) := by decide +kernel
theorem dX5_pointsWith_13 : decode cX5_pointsWith 13 = .ok (.iload_n 2, 1) := by decide +kernel
theorem dX5_pointsWith_14 : decode cX5_pointsWith 14 = .ok (.invokevirtual 74, 3) := by decide +kernel
theorem dX5_pointsWith_17 : decode cX5_pointsWith 17 = .ok (.invokevirtual 77, 3) := by decide +kernel
theorem dX5_pointsWith_20 : decode cX5_pointsWith 20 = .ok (.iastore, 1) := by decide +kernel
theorem dX5_pointsWith_21 : decode cX5_pointsWith 21 = .ok (.iconst 0, 1) := by decide +kernel
theorem dX5_pointsWith_22 : decode cX5_pointsWith 22 = .ok (.istore_n 3, 1) := by decide +kernel
theorem dX5_pointsWith_23 : decode cX5_pointsWith 23 = .ok (.iconst 0, 1) := by decide +kernel
theorem dX5_pointsWith_24 : decode cX5_pointsWith 24 = .ok (.istore 4, 2) := by decide +kernel
theorem dX5_pointsWith_26 : decode cX5_pointsWith 26 = .ok (.iload 4, 2) := by decide +kernel
theorem dX5_pointsWith_28 : decode cX5_pointsWith 28 = .ok (.bipush 6, 2) := by decide +kernel
theorem dX5_pointsWith_30 : decode cX5_pointsWith 30 = .ok (.if_icmp .ge 27, 3) := by decide +kernel
theorem dX5_pointsWith_33 : decode cX5_pointsWith 33 = .ok (.iload_n 3, 1) := by decide +kernel
theorem dX5_pointsWith_34 : decode cX5_pointsWith 34 = .ok (.aload_n 0, 1) := by decide +kernel
theorem dX5_pointsWith_35 : decode cX5_pointsWith 35 = .ok (.iload 4, 2) := by decide +kernel
theorem dX5_pointsWith_37 : decode cX5_pointsWith 37 = .ok (.invokevirtual 90, 3) := by decide +kernel
theorem dX5_pointsWith_40 : decode cX5_pointsWith 40 = .ok (.iload_n 1, 1) := by decide +kernel
theorem dX5_pointsWith_41 : decode cX5_pointsWith 41 = .ok (.if_icmp .ne 7, 3) := by decide +kernel
theorem dX5_pointsWith_44 : decode cX5_pointsWith 44 = .ok (.iconst 1, 1) := by decide +kernel
theorem dX5_pointsWith_45 : decode cX5_pointsWith 45 = .ok (.goto 4, 3) := by decide +kernel
theorem dX5_pointsWith_48 : decode cX5_pointsWith 48 = .ok (.iconst 0, 1) := by decide +kernel
theorem dX5_pointsWith_49 : decode cX5_pointsWith 49 = .ok (.iadd, 1) := by decide +kernel
theorem dX5_pointsWith_50 : decode cX5_pointsWith 50 = .ok (.istore_n 3, 1) := by decide +kernel
theorem dX5_pointsWith_51 : decode cX5_pointsWith 51 = .ok (.iinc 4 1, 3) := by decide +kernel
theorem dX5_pointsWith_54 : decode cX5_pointsWith 54 = .ok (.goto (-28), 3) := by decide +kernel
theorem dX5_pointsWith_57 : decode cX5_pointsWith 57 = .ok (.iload_n 3, 1) := by decide +kernel
theorem dX5_pointsWith_58 : decode cX5_pointsWith 58 = .ok (.ireturn, 1) := by decide +kernel
theorem dX5_ifPlanned_0 : decode cX5_ifPlanned 0 = .ok (.iload_n 1, 1) := by decide +kernel
theorem dX5_ifPlanned_1 : decode cX5_ifPlanned 1 = .ok (.invokestatic 45, 3) := by decide +kernel
theorem dX5_ifPlanned_4 : decode cX5_ifPlanned 4 = .ok (.ifCond .ne 5, 3) := by decide +kernel
theorem dX5_ifPlanned_7 : decode cX5_ifPlanned 7 = .ok (.iconst (-1), 1) := by decide +kernel
theorem dX5_ifPlanned_8 : decode cX5_ifPlanned 8 = .ok (.ireturn, 1) := by decide +kernel
theorem dX5_ifPlanned_9 : decode cX5_ifPlanned 9 = .ok (.aload_n 0, 1) := by decide +kernel
theorem dX5_ifPlanned_10 : decode cX5_ifPlanned 10 = .ok (.iload_n 1, 1) := by decide +kernel
theorem dX5_ifPlanned_11 : decode cX5_ifPlanned 11 = .ok (.iload_n 2, 1) := by decide +kernel
theorem dX5_ifPlanned_12 : decode cX5_ifPlanned 12 = .ok (.invokevirtual 104, 3) := by decide +kernel
theorem dX5_ifPlanned_15 : decode cX5_ifPlanned 15 = .ok (.ifCond .eq 12, 3) := by decide +kernel
theorem dX5_ifPlanned_18 : decode cX5_ifPlanned 18 = .ok (.aload_n 0, 1) := by decide +kernel
theorem dX5_ifPlanned_19 : decode cX5_ifPlanned 19 = .ok (.iload_n 1, 1) := by decide +kernel
theorem dX5_ifPlanned_20 : decode cX5_ifPlanned 20 = .ok (.iload_n 2, 1) := by decide +kernel
theorem dX5_ifPlanned_21 : decode cX5_ifPlanned 21 = .ok (.invokevirtual 154, 3) := by decide +kernel
theorem dX5_ifPlanned_24 : decode cX5_ifPlanned 24 = .ok (.goto 5, 3) := by decide +kernel
theorem dX5_ifPlanned_27 : decode cX5_ifPlanned 27 = .ok (.bipush (-2), 2) := by decide +kernel
theorem dX5_ifPlanned_29 : decode cX5_ifPlanned 29 = .ok (.ireturn, 1) := by decide +kernel
theorem dX5_bestPlan_0 : decode cX5_bestPlan 0 = .ok (.iload_n 1, 1) := by decide +kernel
theorem dX5_bestPlan_1 : decode cX5_bestPlan 1 = .ok (.invokestatic 45, 3) := by decide +kernel
theorem dX5_bestPlan_4 : decode cX5_bestPlan 4 = .ok (.ifCond .ne 5, 3) := by decide +kernel
theorem dX5_bestPlan_7 : decode cX5_bestPlan 7 = .ok (.iconst (-1), 1) := by decide +kernel
theorem dX5_bestPlan_8 : decode cX5_bestPlan 8 = .ok (.ireturn, 1) := by decide +kernel
theorem dX5_bestPlan_9 : decode cX5_bestPlan 9 = .ok (.iconst 0, 1) := by decide +kernel
theorem dX5_bestPlan_10 : decode cX5_bestPlan 10 = .ok (.istore_n 2, 1) := by decide +kernel
theorem dX5_bestPlan_11 : decode cX5_bestPlan 11 = .ok (.bipush (-5), 2) := by decide +kernel
theorem dX5_bestPlan_13 : decode cX5_bestPlan 13 = .ok (.istore_n 3, 1) := by decide +kernel
theorem dX5_bestPlan_14 : decode cX5_bestPlan 14 = .ok (.iconst 0, 1) := by decide +kernel
theorem dX5_bestPlan_15 : decode cX5_bestPlan 15 = .ok (.istore 4, 2) := by decide +kernel
theorem dX5_bestPlan_17 : decode cX5_bestPlan 17 = .ok (.iconst 0, 1) := by decide +kernel
theorem dX5_bestPlan_18 : decode cX5_bestPlan 18 = .ok (.istore 5, 2) := by decide +kernel
theorem dX5_bestPlan_20 : decode cX5_bestPlan 20 = .ok (.iload 5, 2) := by decide +kernel
theorem dX5_bestPlan_22 : decode cX5_bestPlan 22 = .ok (.aload_n 0, 1) := by decide +kernel
theorem dX5_bestPlan_23 : decode cX5_bestPlan 23 = .ok (.iload_n 1, 1) := by decide +kernel
theorem dX5_bestPlan_24 : decode cX5_bestPlan 24 = .ok (.invokevirtual 64, 3) := by decide +kernel
theorem dX5_bestPlan_27 : decode cX5_bestPlan 27 = .ok (.if_icmp .gt 90, 3) := by decide +kernel
theorem dX5_bestPlan_30 : decode cX5_bestPlan 30 = .ok (.aload_n 0, 1) := by decide +kernel
theorem dX5_bestPlan_31 : decode cX5_bestPlan 31 = .ok (.iload_n 1, 1) := by decide +kernel
theorem dX5_bestPlan_32 : decode cX5_bestPlan 32 = .ok (.iload 5, 2) := by decide +kernel
theorem dX5_bestPlan_34 : decode cX5_bestPlan 34 = .ok (.invokevirtual 154, 3) := by decide +kernel
theorem dX5_bestPlan_37 : decode cX5_bestPlan 37 = .ok (.istore 6, 2) := by decide +kernel
theorem dX5_bestPlan_39 : decode cX5_bestPlan 39 = .ok (.iload 6, 2) := by decide +kernel
theorem dX5_bestPlan_41 : decode cX5_bestPlan 41 = .ok (.iload_n 3, 1) := by decide +kernel
theorem dX5_bestPlan_42 : decode cX5_bestPlan 42 = .ok (.if_icmp .gt 20, 3) := by decide +kernel
theorem dX5_bestPlan_45 : decode cX5_bestPlan 45 = .ok (.iload 6, 2) := by decide +kernel
theorem dX5_bestPlan_47 : decode cX5_bestPlan 47 = .ok (.iload_n 3, 1) := by decide +kernel
theorem dX5_bestPlan_48 : decode cX5_bestPlan 48 = .ok (.if_icmp .ne 18, 3) := by decide +kernel
theorem dX5_bestPlan_51 : decode cX5_bestPlan 51 = .ok (.aload_n 0, 1) := by decide +kernel
theorem dX5_bestPlan_52 : decode cX5_bestPlan 52 = .ok (.getfield 22, 3) := by decide +kernel
theorem dX5_bestPlan_55 : decode cX5_bestPlan 55 = .ok (.iload_n 1, 1) := by decide +kernel
theorem dX5_bestPlan_56 : decode cX5_bestPlan 56 = .ok (.iaload, 1) := by decide +kernel
theorem dX5_bestPlan_57 : decode cX5_bestPlan 57 = .ok (.iload 4, 2) := by decide +kernel
theorem dX5_bestPlan_59 : decode cX5_bestPlan 59 = .ok (.if_icmp .ge 7, 3) := by decide +kernel
theorem dX5_bestPlan_62 : decode cX5_bestPlan 62 = .ok (.iconst 1, 1) := by decide +kernel
theorem dX5_bestPlan_63 : decode cX5_bestPlan 63 = .ok (.goto 4, 3) := by decide +kernel
theorem dX5_bestPlan_66 : decode cX5_bestPlan 66 = .ok (.iconst 0, 1) := by decide +kernel
theorem dX5_bestPlan_67 : decode cX5_bestPlan 67 = .ok (.istore 7, 2) := by decide +kernel
theorem dX5_bestPlan_69 : decode cX5_bestPlan 69 = .ok (.iload 7, 2) := by decide +kernel
theorem dX5_bestPlan_71 : decode cX5_bestPlan 71 = .ok (.ifCond .eq 8, 3) := by decide +kernel
theorem dX5_bestPlan_74 : decode cX5_bestPlan 74 = .ok (.iload 5, 2) := by decide +kernel
theorem dX5_bestPlan_76 : decode cX5_bestPlan 76 = .ok (.goto 4, 3) := by decide +kernel
theorem dX5_bestPlan_79 : decode cX5_bestPlan 79 = .ok (.iload_n 2, 1) := by decide +kernel
theorem dX5_bestPlan_80 : decode cX5_bestPlan 80 = .ok (.istore_n 2, 1) := by decide +kernel
theorem dX5_bestPlan_81 : decode cX5_bestPlan 81 = .ok (.iload 7, 2) := by decide +kernel
theorem dX5_bestPlan_83 : decode cX5_bestPlan 83 = .ok (.ifCond .eq 8, 3) := by decide +kernel
theorem dX5_bestPlan_86 : decode cX5_bestPlan 86 = .ok (.iload 6, 2) := by decide +kernel
theorem dX5_bestPlan_88 : decode cX5_bestPlan 88 = .ok (.goto 4, 3) := by decide +kernel
theorem dX5_bestPlan_91 : decode cX5_bestPlan 91 = .ok (.iload_n 3, 1) := by decide +kernel
theorem dX5_bestPlan_92 : decode cX5_bestPlan 92 = .ok (.istore_n 3, 1) := by decide +kernel
theorem dX5_bestPlan_93 : decode cX5_bestPlan 93 = .ok (.iload 7, 2) := by decide +kernel
theorem dX5_bestPlan_95 : decode cX5_bestPlan 95 = .ok (.ifCond .eq 12, 3) := by decide +kernel
theorem dX5_bestPlan_98 : decode cX5_bestPlan 98 = .ok (.aload_n 0, 1) := by decide +kernel
theorem dX5_bestPlan_99 : decode cX5_bestPlan 99 = .ok (.getfield 22, 3) := by decide +kernel
theorem dX5_bestPlan_102 : decode cX5_bestPlan 102 = .ok (.iload_n 1, 1) := by decide +kernel
theorem dX5_bestPlan_103 : decode cX5_bestPlan 103 = .ok (.iaload, 1) := by decide +kernel
theorem dX5_bestPlan_104 : decode cX5_bestPlan 104 = .ok (.goto 5, 3) := by decide +kernel
theorem dX5_bestPlan_107 : decode cX5_bestPlan 107 = .ok (.iload 4, 2) := by decide +kernel
theorem dX5_bestPlan_109 : decode cX5_bestPlan 109 = .ok (.istore 4, 2) := by decide +kernel
theorem dX5_bestPlan_111 : decode cX5_bestPlan 111 = .ok (.iinc 5 1, 3) := by decide +kernel
theorem dX5_bestPlan_114 : decode cX5_bestPlan 114 = .ok (.goto (-94), 3) := by decide +kernel
theorem dX5_bestPlan_117 : decode cX5_bestPlan 117 = .ok (.iload_n 2, 1) := by decide +kernel
theorem dX5_bestPlan_118 : decode cX5_bestPlan 118 = .ok (.ireturn, 1) := by decide +kernel
theorem dX5_pointsIn_0 : decode cX5_pointsIn 0 = .ok (.iload_n 1, 1) := by decide +kernel
theorem dX5_pointsIn_1 : decode cX5_pointsIn 1 = .ok (.invokestatic 45, 3) := by decide +kernel
theorem dX5_pointsIn_4 : decode cX5_pointsIn 4 = .ok (.ifCond .ne 5, 3) := by decide +kernel
theorem dX5_pointsIn_7 : decode cX5_pointsIn 7 = .ok (.iconst (-1), 1) := by decide +kernel
theorem dX5_pointsIn_8 : decode cX5_pointsIn 8 = .ok (.ireturn, 1) := by decide +kernel
theorem dX5_pointsIn_9 : decode cX5_pointsIn 9 = .ok (.iload_n 2, 1) := by decide +kernel
theorem dX5_pointsIn_10 : decode cX5_pointsIn 10 = .ok (.iconst 1, 1) := by decide +kernel
theorem dX5_pointsIn_11 : decode cX5_pointsIn 11 = .ok (.bipush 50, 2) := by decide +kernel
theorem dX5_pointsIn_13 : decode cX5_pointsIn 13 = .ok (.invokestatic 41, 3) := by decide +kernel
theorem dX5_pointsIn_16 : decode cX5_pointsIn 16 = .ok (.ifCond .ne 6, 3) := by decide +kernel
theorem dX5_pointsIn_19 : decode cX5_pointsIn 19 = .ok (.bipush (-2), 2) := by decide +kernel
theorem dX5_pointsIn_21 : decode cX5_pointsIn 21 = .ok (.ireturn, 1) := by decide +kernel
theorem dX5_pointsIn_22 : decode cX5_pointsIn 22 = .ok (.aload_n 0, 1) := by decide +kernel
theorem dX5_pointsIn_23 : decode cX5_pointsIn 23 = .ok (.invokevirtual 157, 3) := by decide +kernel
theorem dX5_pointsIn_26 : decode cX5_pointsIn 26 = .ok (.aload_n 0, 1) := by decide +kernel
theorem dX5_pointsIn_27 : decode cX5_pointsIn 27 = .ok (.iload_n 2, 1) := by decide +kernel
theorem dX5_pointsIn_28 : decode cX5_pointsIn 28 = .ok (.invokevirtual 116, 3) := by decide +kernel
theorem dX5_pointsIn_31 : decode cX5_pointsIn 31 = .ok (.aload_n 0, 1) := by decide +kernel
theorem dX5_pointsIn_32 : decode cX5_pointsIn 32 = .ok (.iload_n 1, 1) := by decide +kernel
theorem dX5_pointsIn_33 : decode cX5_pointsIn 33 = .ok (.bipush 7, 2) := by decide +kernel
theorem dX5_pointsIn_35 : decode cX5_pointsIn 35 = .ok (.invokevirtual 49, 3) := by decide +kernel
theorem dX5_pointsIn_38 : decode cX5_pointsIn 38 = .ok (.istore_n 3, 1) := by decide +kernel
theorem dX5_pointsIn_39 : decode cX5_pointsIn 39 = .ok (.aload_n 0, 1) := by decide +kernel
theorem dX5_pointsIn_40 : decode cX5_pointsIn 40 = .ok (.invokevirtual 160, 3) := by decide +kernel
theorem dX5_pointsIn_43 : decode cX5_pointsIn 43 = .ok (.iload_n 3, 1) := by decide +kernel
theorem dX5_pointsIn_44 : decode cX5_pointsIn 44 = .ok (.ireturn, 1) := by decide +kernel
theorem dX5_share_0 : decode cX5_share 0 = .ok (.aload_n 0, 1) := by decide +kernel
theorem dX5_share_1 : decode cX5_share 1 = .ok (.bipush 7, 2) := by decide +kernel
theorem dX5_share_3 : decode cX5_share 3 = .ok (.invokevirtual 145, 3) := by decide +kernel
theorem dX5_share_6 : decode cX5_share 6 = .ok (.istore_n 2, 1) := by decide +kernel
theorem dX5_share_7 : decode cX5_share 7 = .ok (.iload_n 1, 1) := by decide +kernel
theorem dX5_share_8 : decode cX5_share 8 = .ok (.invokestatic 45, 3) := by decide +kernel
theorem dX5_share_11 : decode cX5_share 11 = .ok (.ifCond .eq 21, 3) := by decide +kernel
theorem dX5_share_14 : decode cX5_share 14 = .ok (.iload_n 2, 1) := by decide +kernel
theorem dX5_share_15 : decode cX5_share 15 = .ok (.ifCond .le 17, 3) := by decide +kernel
theorem dX5_share_18 : decode cX5_share 18 = .ok (.aload_n 0, 1) := by decide +kernel
theorem dX5_share_19 : decode cX5_share 19 = .ok (.iload_n 1, 1) := by decide +kernel
theorem dX5_share_20 : decode cX5_share 20 = .ok (.bipush 7, 2) := by decide +kernel
theorem dX5_share_22 : decode cX5_share 22 = .ok (.invokevirtual 49, 3) := by decide +kernel
theorem dX5_share_25 : decode cX5_share 25 = .ok (.i2d, 1) := by decide +kernel
theorem dX5_share_26 : decode cX5_share 26 = .ok (.iload_n 2, 1) := by decide +kernel
theorem dX5_share_27 : decode cX5_share 27 = .ok (.i2d, 1) := by decide +kernel
theorem dX5_share_28 : decode cX5_share 28 = .ok (.ddiv, 1) := by decide +kernel
theorem dX5_share_29 : decode cX5_share 29 = .ok (.goto 4, 3) := by decide +kernel
theorem dX5_share_32 : decode cX5_share 32 = .ok (.dconst 0, 1) := by decide +kernel
theorem dX5_share_33 : decode cX5_share 33 = .ok (.dreturn, 1) := by decide +kernel
end
section
theorem dL_law_0 : decode cL_law 0 = .ok (.new 7, 3) := by decide +kernel
theorem dL_law_3 : decode cL_law 3 = .ok (.dup, 1) := by decide +kernel
theorem dL_law_4 : decode cL_law 4 = .ok (.invokespecial 9, 3) := by decide +kernel
theorem dL_law_7 : decode cL_law 7 = .ok (.astore_n 1, 1) := by decide +kernel
theorem dL_law_8 : decode cL_law 8 = .ok (.new 10, 3) := by decide +kernel
theorem dL_law_11 : decode cL_law 11 = .ok (.dup, 1) := by decide +kernel
theorem dL_law_12 : decode cL_law 12 = .ok (.invokespecial 12, 3) := by decide +kernel
theorem dL_law_15 : decode cL_law 15 = .ok (.astore_n 2, 1) := by decide +kernel
theorem dL_law_16 : decode cL_law 16 = .ok (.iconst 0, 1) := by decide +kernel
theorem dL_law_17 : decode cL_law 17 = .ok (.istore_n 3, 1) := by decide +kernel
theorem dL_law_18 : decode cL_law 18 = .ok (.iload_n 3, 1) := by decide +kernel
theorem dL_law_19 : decode cL_law 19 = .ok (.aload_n 0, 1) := by decide +kernel
theorem dL_law_20 : decode cL_law 20 = .ok (.arraylength, 1) := by decide +kernel
theorem dL_law_21 : decode cL_law 21 = .ok (.iconst 4, 1) := by decide +kernel
theorem dL_law_22 : decode cL_law 22 = .ok (.isub, 1) := by decide +kernel
theorem dL_law_23 : decode cL_law 23 = .ok (.if_icmp .gt 814, 3) := by decide +kernel
theorem dL_law_26 : decode cL_law 26 = .ok (.aload_n 0, 1) := by decide +kernel
theorem dL_law_27 : decode cL_law 27 = .ok (.iload_n 3, 1) := by decide +kernel
theorem dL_law_28 : decode cL_law 28 = .ok (.iaload, 1) := by decide +kernel
theorem dL_law_29 : decode cL_law 29 = .ok (.bipush 31, 2) := by decide +kernel
theorem dL_law_31 : decode cL_law 31 = .ok (.iand, 1) := by decide +kernel
theorem dL_law_32 : decode cL_law 32 = .ok (.tableswitch 799 0 24 #[116, 149, 182, 225, 258, 291, 324, 357, 380, 403, 416, 429, 442, 455, 468, 481, 514, 557, 580, 603, 636, 659, 692, 715, 748], 116) := by decide +kernel
theorem dL_law_148 : decode cL_law 148 = .ok (.aload_n 1, 1) := by decide +kernel
theorem dL_law_149 : decode cL_law 149 = .ok (.aload_n 0, 1) := by decide +kernel
theorem dL_law_150 : decode cL_law 150 = .ok (.iload_n 3, 1) := by decide +kernel
theorem dL_law_151 : decode cL_law 151 = .ok (.iconst 1, 1) := by decide +kernel
theorem dL_law_152 : decode cL_law 152 = .ok (.iadd, 1) := by decide +kernel
theorem dL_law_153 : decode cL_law 153 = .ok (.iaload, 1) := by decide +kernel
theorem dL_law_154 : decode cL_law 154 = .ok (.aload_n 0, 1) := by decide +kernel
theorem dL_law_155 : decode cL_law 155 = .ok (.iload_n 3, 1) := by decide +kernel
theorem dL_law_156 : decode cL_law 156 = .ok (.iconst 2, 1) := by decide +kernel
theorem dL_law_157 : decode cL_law 157 = .ok (.iadd, 1) := by decide +kernel
theorem dL_law_158 : decode cL_law 158 = .ok (.iaload, 1) := by decide +kernel
theorem dL_law_159 : decode cL_law 159 = .ok (.invokevirtual 13, 3) := by decide +kernel
theorem dL_law_162 : decode cL_law 162 = .ok (.aload_n 2, 1) := by decide +kernel
theorem dL_law_163 : decode cL_law 163 = .ok (.aload_n 0, 1) := by decide +kernel
theorem dL_law_164 : decode cL_law 164 = .ok (.iload_n 3, 1) := by decide +kernel
theorem dL_law_165 : decode cL_law 165 = .ok (.iconst 1, 1) := by decide +kernel
theorem dL_law_166 : decode cL_law 166 = .ok (.iadd, 1) := by decide +kernel
theorem dL_law_167 : decode cL_law 167 = .ok (.iaload, 1) := by decide +kernel
theorem dL_law_168 : decode cL_law 168 = .ok (.aload_n 0, 1) := by decide +kernel
theorem dL_law_169 : decode cL_law 169 = .ok (.iload_n 3, 1) := by decide +kernel
theorem dL_law_170 : decode cL_law 170 = .ok (.iconst 2, 1) := by decide +kernel
theorem dL_law_171 : decode cL_law 171 = .ok (.iadd, 1) := by decide +kernel
theorem dL_law_172 : decode cL_law 172 = .ok (.iaload, 1) := by decide +kernel
theorem dL_law_173 : decode cL_law 173 = .ok (.invokevirtual 17, 3) := by decide +kernel
theorem dL_law_176 : decode cL_law 176 = .ok (.if_icmp .eq 655, 3) := by decide +kernel
theorem dL_law_179 : decode cL_law 179 = .ok (.iconst 0, 1) := by decide +kernel
theorem dL_law_180 : decode cL_law 180 = .ok (.ireturn, 1) := by decide +kernel
theorem dL_law_181 : decode cL_law 181 = .ok (.aload_n 1, 1) := by decide +kernel
theorem dL_law_182 : decode cL_law 182 = .ok (.aload_n 0, 1) := by decide +kernel
theorem dL_law_183 : decode cL_law 183 = .ok (.iload_n 3, 1) := by decide +kernel
theorem dL_law_184 : decode cL_law 184 = .ok (.iconst 1, 1) := by decide +kernel
theorem dL_law_185 : decode cL_law 185 = .ok (.iadd, 1) := by decide +kernel
theorem dL_law_186 : decode cL_law 186 = .ok (.iaload, 1) := by decide +kernel
theorem dL_law_187 : decode cL_law 187 = .ok (.aload_n 0, 1) := by decide +kernel
theorem dL_law_188 : decode cL_law 188 = .ok (.iload_n 3, 1) := by decide +kernel
theorem dL_law_189 : decode cL_law 189 = .ok (.iconst 2, 1) := by decide +kernel
theorem dL_law_190 : decode cL_law 190 = .ok (.iadd, 1) := by decide +kernel
theorem dL_law_191 : decode cL_law 191 = .ok (.iaload, 1) := by decide +kernel
theorem dL_law_192 : decode cL_law 192 = .ok (.invokevirtual 18, 3) := by decide +kernel
theorem dL_law_195 : decode cL_law 195 = .ok (.aload_n 2, 1) := by decide +kernel
theorem dL_law_196 : decode cL_law 196 = .ok (.aload_n 0, 1) := by decide +kernel
theorem dL_law_197 : decode cL_law 197 = .ok (.iload_n 3, 1) := by decide +kernel
theorem dL_law_198 : decode cL_law 198 = .ok (.iconst 1, 1) := by decide +kernel
theorem dL_law_199 : decode cL_law 199 = .ok (.iadd, 1) := by decide +kernel
theorem dL_law_200 : decode cL_law 200 = .ok (.iaload, 1) := by decide +kernel
theorem dL_law_201 : decode cL_law 201 = .ok (.aload_n 0, 1) := by decide +kernel
theorem dL_law_202 : decode cL_law 202 = .ok (.iload_n 3, 1) := by decide +kernel
theorem dL_law_203 : decode cL_law 203 = .ok (.iconst 2, 1) := by decide +kernel
theorem dL_law_204 : decode cL_law 204 = .ok (.iadd, 1) := by decide +kernel
theorem dL_law_205 : decode cL_law 205 = .ok (.iaload, 1) := by decide +kernel
theorem dL_law_206 : decode cL_law 206 = .ok (.invokevirtual 21, 3) := by decide +kernel
theorem dL_law_209 : decode cL_law 209 = .ok (.if_icmp .eq 622, 3) := by decide +kernel
theorem dL_law_212 : decode cL_law 212 = .ok (.iconst 0, 1) := by decide +kernel
theorem dL_law_213 : decode cL_law 213 = .ok (.ireturn, 1) := by decide +kernel
theorem dL_law_214 : decode cL_law 214 = .ok (.aload_n 1, 1) := by decide +kernel
theorem dL_law_215 : decode cL_law 215 = .ok (.aload_n 0, 1) := by decide +kernel
theorem dL_law_216 : decode cL_law 216 = .ok (.iload_n 3, 1) := by decide +kernel
theorem dL_law_217 : decode cL_law 217 = .ok (.iconst 1, 1) := by decide +kernel
theorem dL_law_218 : decode cL_law 218 = .ok (.iadd, 1) := by decide +kernel
theorem dL_law_219 : decode cL_law 219 = .ok (.iaload, 1) := by decide +kernel
theorem dL_law_220 : decode cL_law 220 = .ok (.aload_n 0, 1) := by decide +kernel
theorem dL_law_221 : decode cL_law 221 = .ok (.iload_n 3, 1) := by decide +kernel
theorem dL_law_222 : decode cL_law 222 = .ok (.iconst 2, 1) := by decide +kernel
theorem dL_law_223 : decode cL_law 223 = .ok (.iadd, 1) := by decide +kernel
theorem dL_law_224 : decode cL_law 224 = .ok (.iaload, 1) := by decide +kernel
theorem dL_law_225 : decode cL_law 225 = .ok (.aload_n 0, 1) := by decide +kernel
theorem dL_law_226 : decode cL_law 226 = .ok (.iload_n 3, 1) := by decide +kernel
theorem dL_law_227 : decode cL_law 227 = .ok (.iconst 3, 1) := by decide +kernel
theorem dL_law_228 : decode cL_law 228 = .ok (.iadd, 1) := by decide +kernel
theorem dL_law_229 : decode cL_law 229 = .ok (.iaload, 1) := by decide +kernel
theorem dL_law_230 : decode cL_law 230 = .ok (.invokevirtual 22, 3) := by decide +kernel
theorem dL_law_233 : decode cL_law 233 = .ok (.aload_n 2, 1) := by decide +kernel
theorem dL_law_234 : decode cL_law 234 = .ok (.aload_n 0, 1) := by decide +kernel
theorem dL_law_235 : decode cL_law 235 = .ok (.iload_n 3, 1) := by decide +kernel
theorem dL_law_236 : decode cL_law 236 = .ok (.iconst 1, 1) := by decide +kernel
theorem dL_law_237 : decode cL_law 237 = .ok (.iadd, 1) := by decide +kernel
theorem dL_law_238 : decode cL_law 238 = .ok (.iaload, 1) := by decide +kernel
theorem dL_law_239 : decode cL_law 239 = .ok (.aload_n 0, 1) := by decide +kernel
theorem dL_law_240 : decode cL_law 240 = .ok (.iload_n 3, 1) := by decide +kernel
theorem dL_law_241 : decode cL_law 241 = .ok (.iconst 2, 1) := by decide +kernel
theorem dL_law_242 : decode cL_law 242 = .ok (.iadd, 1) := by decide +kernel
theorem dL_law_243 : decode cL_law 243 = .ok (.iaload, 1) := by decide +kernel
theorem dL_law_244 : decode cL_law 244 = .ok (.aload_n 0, 1) := by decide +kernel
theorem dL_law_245 : decode cL_law 245 = .ok (.iload_n 3, 1) := by decide +kernel
theorem dL_law_246 : decode cL_law 246 = .ok (.iconst 3, 1) := by decide +kernel
theorem dL_law_247 : decode cL_law 247 = .ok (.iadd, 1) := by decide +kernel
theorem dL_law_248 : decode cL_law 248 = .ok (.iaload, 1) := by decide +kernel
theorem dL_law_249 : decode cL_law 249 = .ok (.invokevirtual 26, 3) := by decide +kernel
theorem dL_law_252 : decode cL_law 252 = .ok (.if_icmp .eq 579, 3) := by decide +kernel
theorem dL_law_255 : decode cL_law 255 = .ok (.iconst 0, 1) := by decide +kernel
theorem dL_law_256 : decode cL_law 256 = .ok (.ireturn, 1) := by decide +kernel
theorem dL_law_257 : decode cL_law 257 = .ok (.aload_n 1, 1) := by decide +kernel
theorem dL_law_258 : decode cL_law 258 = .ok (.aload_n 0, 1) := by decide +kernel
theorem dL_law_259 : decode cL_law 259 = .ok (.iload_n 3, 1) := by decide +kernel
theorem dL_law_260 : decode cL_law 260 = .ok (.iconst 1, 1) := by decide +kernel
theorem dL_law_261 : decode cL_law 261 = .ok (.iadd, 1) := by decide +kernel
theorem dL_law_262 : decode cL_law 262 = .ok (.iaload, 1) := by decide +kernel
theorem dL_law_263 : decode cL_law 263 = .ok (.aload_n 0, 1) := by decide +kernel
theorem dL_law_264 : decode cL_law 264 = .ok (.iload_n 3, 1) := by decide +kernel
theorem dL_law_265 : decode cL_law 265 = .ok (.iconst 2, 1) := by decide +kernel
theorem dL_law_266 : decode cL_law 266 = .ok (.iadd, 1) := by decide +kernel
theorem dL_law_267 : decode cL_law 267 = .ok (.iaload, 1) := by decide +kernel
theorem dL_law_268 : decode cL_law 268 = .ok (.invokevirtual 27, 3) := by decide +kernel
theorem dL_law_271 : decode cL_law 271 = .ok (.aload_n 2, 1) := by decide +kernel
theorem dL_law_272 : decode cL_law 272 = .ok (.aload_n 0, 1) := by decide +kernel
theorem dL_law_273 : decode cL_law 273 = .ok (.iload_n 3, 1) := by decide +kernel
theorem dL_law_274 : decode cL_law 274 = .ok (.iconst 1, 1) := by decide +kernel
theorem dL_law_275 : decode cL_law 275 = .ok (.iadd, 1) := by decide +kernel
theorem dL_law_276 : decode cL_law 276 = .ok (.iaload, 1) := by decide +kernel
theorem dL_law_277 : decode cL_law 277 = .ok (.aload_n 0, 1) := by decide +kernel
theorem dL_law_278 : decode cL_law 278 = .ok (.iload_n 3, 1) := by decide +kernel
theorem dL_law_279 : decode cL_law 279 = .ok (.iconst 2, 1) := by decide +kernel
theorem dL_law_280 : decode cL_law 280 = .ok (.iadd, 1) := by decide +kernel
theorem dL_law_281 : decode cL_law 281 = .ok (.iaload, 1) := by decide +kernel
theorem dL_law_282 : decode cL_law 282 = .ok (.invokevirtual 30, 3) := by decide +kernel
theorem dL_law_285 : decode cL_law 285 = .ok (.if_icmp .eq 546, 3) := by decide +kernel
theorem dL_law_288 : decode cL_law 288 = .ok (.iconst 0, 1) := by decide +kernel
theorem dL_law_289 : decode cL_law 289 = .ok (.ireturn, 1) := by decide +kernel
theorem dL_law_290 : decode cL_law 290 = .ok (.aload_n 1, 1) := by decide +kernel
theorem dL_law_291 : decode cL_law 291 = .ok (.aload_n 0, 1) := by decide +kernel
theorem dL_law_292 : decode cL_law 292 = .ok (.iload_n 3, 1) := by decide +kernel
theorem dL_law_293 : decode cL_law 293 = .ok (.iconst 1, 1) := by decide +kernel
theorem dL_law_294 : decode cL_law 294 = .ok (.iadd, 1) := by decide +kernel
theorem dL_law_295 : decode cL_law 295 = .ok (.iaload, 1) := by decide +kernel
theorem dL_law_296 : decode cL_law 296 = .ok (.aload_n 0, 1) := by decide +kernel
theorem dL_law_297 : decode cL_law 297 = .ok (.iload_n 3, 1) := by decide +kernel
theorem dL_law_298 : decode cL_law 298 = .ok (.iconst 2, 1) := by decide +kernel
theorem dL_law_299 : decode cL_law 299 = .ok (.iadd, 1) := by decide +kernel
theorem dL_law_300 : decode cL_law 300 = .ok (.iaload, 1) := by decide +kernel
theorem dL_law_301 : decode cL_law 301 = .ok (.invokevirtual 31, 3) := by decide +kernel
theorem dL_law_304 : decode cL_law 304 = .ok (.aload_n 2, 1) := by decide +kernel
theorem dL_law_305 : decode cL_law 305 = .ok (.aload_n 0, 1) := by decide +kernel
theorem dL_law_306 : decode cL_law 306 = .ok (.iload_n 3, 1) := by decide +kernel
theorem dL_law_307 : decode cL_law 307 = .ok (.iconst 1, 1) := by decide +kernel
theorem dL_law_308 : decode cL_law 308 = .ok (.iadd, 1) := by decide +kernel
theorem dL_law_309 : decode cL_law 309 = .ok (.iaload, 1) := by decide +kernel
theorem dL_law_310 : decode cL_law 310 = .ok (.aload_n 0, 1) := by decide +kernel
theorem dL_law_311 : decode cL_law 311 = .ok (.iload_n 3, 1) := by decide +kernel
theorem dL_law_312 : decode cL_law 312 = .ok (.iconst 2, 1) := by decide +kernel
theorem dL_law_313 : decode cL_law 313 = .ok (.iadd, 1) := by decide +kernel
theorem dL_law_314 : decode cL_law 314 = .ok (.iaload, 1) := by decide +kernel
theorem dL_law_315 : decode cL_law 315 = .ok (.invokevirtual 34, 3) := by decide +kernel
theorem dL_law_318 : decode cL_law 318 = .ok (.if_icmp .eq 513, 3) := by decide +kernel
theorem dL_law_321 : decode cL_law 321 = .ok (.iconst 0, 1) := by decide +kernel
theorem dL_law_322 : decode cL_law 322 = .ok (.ireturn, 1) := by decide +kernel
theorem dL_law_323 : decode cL_law 323 = .ok (.aload_n 1, 1) := by decide +kernel
theorem dL_law_324 : decode cL_law 324 = .ok (.aload_n 0, 1) := by decide +kernel
theorem dL_law_325 : decode cL_law 325 = .ok (.iload_n 3, 1) := by decide +kernel
theorem dL_law_326 : decode cL_law 326 = .ok (.iconst 1, 1) := by decide +kernel
theorem dL_law_327 : decode cL_law 327 = .ok (.iadd, 1) := by decide +kernel
theorem dL_law_328 : decode cL_law 328 = .ok (.iaload, 1) := by decide +kernel
theorem dL_law_329 : decode cL_law 329 = .ok (.aload_n 0, 1) := by decide +kernel
theorem dL_law_330 : decode cL_law 330 = .ok (.iload_n 3, 1) := by decide +kernel
theorem dL_law_331 : decode cL_law 331 = .ok (.iconst 2, 1) := by decide +kernel
theorem dL_law_332 : decode cL_law 332 = .ok (.iadd, 1) := by decide +kernel
theorem dL_law_333 : decode cL_law 333 = .ok (.iaload, 1) := by decide +kernel
theorem dL_law_334 : decode cL_law 334 = .ok (.invokevirtual 35, 3) := by decide +kernel
theorem dL_law_337 : decode cL_law 337 = .ok (.aload_n 2, 1) := by decide +kernel
theorem dL_law_338 : decode cL_law 338 = .ok (.aload_n 0, 1) := by decide +kernel
theorem dL_law_339 : decode cL_law 339 = .ok (.iload_n 3, 1) := by decide +kernel
theorem dL_law_340 : decode cL_law 340 = .ok (.iconst 1, 1) := by decide +kernel
theorem dL_law_341 : decode cL_law 341 = .ok (.iadd, 1) := by decide +kernel
theorem dL_law_342 : decode cL_law 342 = .ok (.iaload, 1) := by decide +kernel
theorem dL_law_343 : decode cL_law 343 = .ok (.aload_n 0, 1) := by decide +kernel
theorem dL_law_344 : decode cL_law 344 = .ok (.iload_n 3, 1) := by decide +kernel
theorem dL_law_345 : decode cL_law 345 = .ok (.iconst 2, 1) := by decide +kernel
theorem dL_law_346 : decode cL_law 346 = .ok (.iadd, 1) := by decide +kernel
theorem dL_law_347 : decode cL_law 347 = .ok (.iaload, 1) := by decide +kernel
theorem dL_law_348 : decode cL_law 348 = .ok (.invokevirtual 38, 3) := by decide +kernel
theorem dL_law_351 : decode cL_law 351 = .ok (.if_icmp .eq 480, 3) := by decide +kernel
theorem dL_law_354 : decode cL_law 354 = .ok (.iconst 0, 1) := by decide +kernel
theorem dL_law_355 : decode cL_law 355 = .ok (.ireturn, 1) := by decide +kernel
theorem dL_law_356 : decode cL_law 356 = .ok (.aload_n 1, 1) := by decide +kernel
theorem dL_law_357 : decode cL_law 357 = .ok (.aload_n 0, 1) := by decide +kernel
theorem dL_law_358 : decode cL_law 358 = .ok (.iload_n 3, 1) := by decide +kernel
theorem dL_law_359 : decode cL_law 359 = .ok (.iconst 1, 1) := by decide +kernel
theorem dL_law_360 : decode cL_law 360 = .ok (.iadd, 1) := by decide +kernel
theorem dL_law_361 : decode cL_law 361 = .ok (.iaload, 1) := by decide +kernel
theorem dL_law_362 : decode cL_law 362 = .ok (.aload_n 0, 1) := by decide +kernel
theorem dL_law_363 : decode cL_law 363 = .ok (.iload_n 3, 1) := by decide +kernel
theorem dL_law_364 : decode cL_law 364 = .ok (.iconst 2, 1) := by decide +kernel
theorem dL_law_365 : decode cL_law 365 = .ok (.iadd, 1) := by decide +kernel
theorem dL_law_366 : decode cL_law 366 = .ok (.iaload, 1) := by decide +kernel
theorem dL_law_367 : decode cL_law 367 = .ok (.invokevirtual 39, 3) := by decide +kernel
theorem dL_law_370 : decode cL_law 370 = .ok (.aload_n 2, 1) := by decide +kernel
theorem dL_law_371 : decode cL_law 371 = .ok (.aload_n 0, 1) := by decide +kernel
theorem dL_law_372 : decode cL_law 372 = .ok (.iload_n 3, 1) := by decide +kernel
theorem dL_law_373 : decode cL_law 373 = .ok (.iconst 1, 1) := by decide +kernel
theorem dL_law_374 : decode cL_law 374 = .ok (.iadd, 1) := by decide +kernel
theorem dL_law_375 : decode cL_law 375 = .ok (.iaload, 1) := by decide +kernel
theorem dL_law_376 : decode cL_law 376 = .ok (.aload_n 0, 1) := by decide +kernel
theorem dL_law_377 : decode cL_law 377 = .ok (.iload_n 3, 1) := by decide +kernel
theorem dL_law_378 : decode cL_law 378 = .ok (.iconst 2, 1) := by decide +kernel
theorem dL_law_379 : decode cL_law 379 = .ok (.iadd, 1) := by decide +kernel
theorem dL_law_380 : decode cL_law 380 = .ok (.iaload, 1) := by decide +kernel
theorem dL_law_381 : decode cL_law 381 = .ok (.invokevirtual 42, 3) := by decide +kernel
theorem dL_law_384 : decode cL_law 384 = .ok (.if_icmp .eq 447, 3) := by decide +kernel
theorem dL_law_387 : decode cL_law 387 = .ok (.iconst 0, 1) := by decide +kernel
theorem dL_law_388 : decode cL_law 388 = .ok (.ireturn, 1) := by decide +kernel
theorem dL_law_389 : decode cL_law 389 = .ok (.aload_n 1, 1) := by decide +kernel
theorem dL_law_390 : decode cL_law 390 = .ok (.aload_n 0, 1) := by decide +kernel
theorem dL_law_391 : decode cL_law 391 = .ok (.iload_n 3, 1) := by decide +kernel
theorem dL_law_392 : decode cL_law 392 = .ok (.iconst 1, 1) := by decide +kernel
theorem dL_law_393 : decode cL_law 393 = .ok (.iadd, 1) := by decide +kernel
theorem dL_law_394 : decode cL_law 394 = .ok (.iaload, 1) := by decide +kernel
theorem dL_law_395 : decode cL_law 395 = .ok (.invokevirtual 43, 3) := by decide +kernel
theorem dL_law_398 : decode cL_law 398 = .ok (.aload_n 2, 1) := by decide +kernel
theorem dL_law_399 : decode cL_law 399 = .ok (.aload_n 0, 1) := by decide +kernel
theorem dL_law_400 : decode cL_law 400 = .ok (.iload_n 3, 1) := by decide +kernel
theorem dL_law_401 : decode cL_law 401 = .ok (.iconst 1, 1) := by decide +kernel
theorem dL_law_402 : decode cL_law 402 = .ok (.iadd, 1) := by decide +kernel
theorem dL_law_403 : decode cL_law 403 = .ok (.iaload, 1) := by decide +kernel
theorem dL_law_404 : decode cL_law 404 = .ok (.invokevirtual 47, 3) := by decide +kernel
theorem dL_law_407 : decode cL_law 407 = .ok (.if_icmp .eq 424, 3) := by decide +kernel
theorem dL_law_410 : decode cL_law 410 = .ok (.iconst 0, 1) := by decide +kernel
theorem dL_law_411 : decode cL_law 411 = .ok (.ireturn, 1) := by decide +kernel
theorem dL_law_412 : decode cL_law 412 = .ok (.aload_n 1, 1) := by decide +kernel
theorem dL_law_413 : decode cL_law 413 = .ok (.aload_n 0, 1) := by decide +kernel
theorem dL_law_414 : decode cL_law 414 = .ok (.iload_n 3, 1) := by decide +kernel
theorem dL_law_415 : decode cL_law 415 = .ok (.iconst 1, 1) := by decide +kernel
theorem dL_law_416 : decode cL_law 416 = .ok (.iadd, 1) := by decide +kernel
theorem dL_law_417 : decode cL_law 417 = .ok (.iaload, 1) := by decide +kernel
theorem dL_law_418 : decode cL_law 418 = .ok (.invokevirtual 48, 3) := by decide +kernel
theorem dL_law_421 : decode cL_law 421 = .ok (.aload_n 2, 1) := by decide +kernel
theorem dL_law_422 : decode cL_law 422 = .ok (.aload_n 0, 1) := by decide +kernel
theorem dL_law_423 : decode cL_law 423 = .ok (.iload_n 3, 1) := by decide +kernel
theorem dL_law_424 : decode cL_law 424 = .ok (.iconst 1, 1) := by decide +kernel
theorem dL_law_425 : decode cL_law 425 = .ok (.iadd, 1) := by decide +kernel
theorem dL_law_426 : decode cL_law 426 = .ok (.iaload, 1) := by decide +kernel
theorem dL_law_427 : decode cL_law 427 = .ok (.invokevirtual 51, 3) := by decide +kernel
theorem dL_law_430 : decode cL_law 430 = .ok (.if_icmp .eq 401, 3) := by decide +kernel
theorem dL_law_433 : decode cL_law 433 = .ok (.iconst 0, 1) := by decide +kernel
theorem dL_law_434 : decode cL_law 434 = .ok (.ireturn, 1) := by decide +kernel
theorem dL_law_435 : decode cL_law 435 = .ok (.aload_n 1, 1) := by decide +kernel
theorem dL_law_436 : decode cL_law 436 = .ok (.invokevirtual 52, 3) := by decide +kernel
theorem dL_law_439 : decode cL_law 439 = .ok (.aload_n 2, 1) := by decide +kernel
theorem dL_law_440 : decode cL_law 440 = .ok (.invokevirtual 56, 3) := by decide +kernel
theorem dL_law_443 : decode cL_law 443 = .ok (.if_icmp .eq 388, 3) := by decide +kernel
theorem dL_law_446 : decode cL_law 446 = .ok (.iconst 0, 1) := by decide +kernel
theorem dL_law_447 : decode cL_law 447 = .ok (.ireturn, 1) := by decide +kernel
theorem dL_law_448 : decode cL_law 448 = .ok (.aload_n 1, 1) := by decide +kernel
theorem dL_law_449 : decode cL_law 449 = .ok (.invokevirtual 57, 3) := by decide +kernel
theorem dL_law_452 : decode cL_law 452 = .ok (.aload_n 2, 1) := by decide +kernel
theorem dL_law_453 : decode cL_law 453 = .ok (.invokevirtual 60, 3) := by decide +kernel
theorem dL_law_456 : decode cL_law 456 = .ok (.if_icmp .eq 375, 3) := by decide +kernel
theorem dL_law_459 : decode cL_law 459 = .ok (.iconst 0, 1) := by decide +kernel
theorem dL_law_460 : decode cL_law 460 = .ok (.ireturn, 1) := by decide +kernel
theorem dL_law_461 : decode cL_law 461 = .ok (.aload_n 1, 1) := by decide +kernel
theorem dL_law_462 : decode cL_law 462 = .ok (.invokevirtual 61, 3) := by decide +kernel
theorem dL_law_465 : decode cL_law 465 = .ok (.aload_n 2, 1) := by decide +kernel
theorem dL_law_466 : decode cL_law 466 = .ok (.invokevirtual 64, 3) := by decide +kernel
theorem dL_law_469 : decode cL_law 469 = .ok (.if_icmp .eq 362, 3) := by decide +kernel
theorem dL_law_472 : decode cL_law 472 = .ok (.iconst 0, 1) := by decide +kernel
theorem dL_law_473 : decode cL_law 473 = .ok (.ireturn, 1) := by decide +kernel
theorem dL_law_474 : decode cL_law 474 = .ok (.aload_n 1, 1) := by decide +kernel
theorem dL_law_475 : decode cL_law 475 = .ok (.invokevirtual 65, 3) := by decide +kernel
theorem dL_law_478 : decode cL_law 478 = .ok (.aload_n 2, 1) := by decide +kernel
theorem dL_law_479 : decode cL_law 479 = .ok (.invokevirtual 68, 3) := by decide +kernel
theorem dL_law_482 : decode cL_law 482 = .ok (.if_icmp .eq 349, 3) := by decide +kernel
theorem dL_law_485 : decode cL_law 485 = .ok (.iconst 0, 1) := by decide +kernel
theorem dL_law_486 : decode cL_law 486 = .ok (.ireturn, 1) := by decide +kernel
theorem dL_law_487 : decode cL_law 487 = .ok (.aload_n 1, 1) := by decide +kernel
theorem dL_law_488 : decode cL_law 488 = .ok (.invokevirtual 69, 3) := by decide +kernel
theorem dL_law_491 : decode cL_law 491 = .ok (.aload_n 2, 1) := by decide +kernel
theorem dL_law_492 : decode cL_law 492 = .ok (.invokevirtual 72, 3) := by decide +kernel
theorem dL_law_495 : decode cL_law 495 = .ok (.if_icmp .eq 336, 3) := by decide +kernel
theorem dL_law_498 : decode cL_law 498 = .ok (.iconst 0, 1) := by decide +kernel
theorem dL_law_499 : decode cL_law 499 = .ok (.ireturn, 1) := by decide +kernel
theorem dL_law_500 : decode cL_law 500 = .ok (.aload_n 1, 1) := by decide +kernel
theorem dL_law_501 : decode cL_law 501 = .ok (.invokevirtual 73, 3) := by decide +kernel
theorem dL_law_504 : decode cL_law 504 = .ok (.aload_n 2, 1) := by decide +kernel
theorem dL_law_505 : decode cL_law 505 = .ok (.invokevirtual 76, 3) := by decide +kernel
theorem dL_law_508 : decode cL_law 508 = .ok (.if_icmp .eq 323, 3) := by decide +kernel
theorem dL_law_511 : decode cL_law 511 = .ok (.iconst 0, 1) := by decide +kernel
theorem dL_law_512 : decode cL_law 512 = .ok (.ireturn, 1) := by decide +kernel
theorem dL_law_513 : decode cL_law 513 = .ok (.aload_n 1, 1) := by decide +kernel
theorem dL_law_514 : decode cL_law 514 = .ok (.aload_n 0, 1) := by decide +kernel
theorem dL_law_515 : decode cL_law 515 = .ok (.iload_n 3, 1) := by decide +kernel
theorem dL_law_516 : decode cL_law 516 = .ok (.iconst 1, 1) := by decide +kernel
theorem dL_law_517 : decode cL_law 517 = .ok (.iadd, 1) := by decide +kernel
theorem dL_law_518 : decode cL_law 518 = .ok (.iaload, 1) := by decide +kernel
theorem dL_law_519 : decode cL_law 519 = .ok (.aload_n 0, 1) := by decide +kernel
theorem dL_law_520 : decode cL_law 520 = .ok (.iload_n 3, 1) := by decide +kernel
theorem dL_law_521 : decode cL_law 521 = .ok (.iconst 2, 1) := by decide +kernel
theorem dL_law_522 : decode cL_law 522 = .ok (.iadd, 1) := by decide +kernel
theorem dL_law_523 : decode cL_law 523 = .ok (.iaload, 1) := by decide +kernel
theorem dL_law_524 : decode cL_law 524 = .ok (.invokevirtual 77, 3) := by decide +kernel
theorem dL_law_527 : decode cL_law 527 = .ok (.aload_n 2, 1) := by decide +kernel
theorem dL_law_528 : decode cL_law 528 = .ok (.aload_n 0, 1) := by decide +kernel
theorem dL_law_529 : decode cL_law 529 = .ok (.iload_n 3, 1) := by decide +kernel
theorem dL_law_530 : decode cL_law 530 = .ok (.iconst 1, 1) := by decide +kernel
theorem dL_law_531 : decode cL_law 531 = .ok (.iadd, 1) := by decide +kernel
theorem dL_law_532 : decode cL_law 532 = .ok (.iaload, 1) := by decide +kernel
theorem dL_law_533 : decode cL_law 533 = .ok (.aload_n 0, 1) := by decide +kernel
theorem dL_law_534 : decode cL_law 534 = .ok (.iload_n 3, 1) := by decide +kernel
theorem dL_law_535 : decode cL_law 535 = .ok (.iconst 2, 1) := by decide +kernel
theorem dL_law_536 : decode cL_law 536 = .ok (.iadd, 1) := by decide +kernel
theorem dL_law_537 : decode cL_law 537 = .ok (.iaload, 1) := by decide +kernel
theorem dL_law_538 : decode cL_law 538 = .ok (.invokevirtual 80, 3) := by decide +kernel
theorem dL_law_541 : decode cL_law 541 = .ok (.if_icmp .eq 290, 3) := by decide +kernel
theorem dL_law_544 : decode cL_law 544 = .ok (.iconst 0, 1) := by decide +kernel
theorem dL_law_545 : decode cL_law 545 = .ok (.ireturn, 1) := by decide +kernel
theorem dL_law_546 : decode cL_law 546 = .ok (.aload_n 1, 1) := by decide +kernel
theorem dL_law_547 : decode cL_law 547 = .ok (.aload_n 0, 1) := by decide +kernel
theorem dL_law_548 : decode cL_law 548 = .ok (.iload_n 3, 1) := by decide +kernel
theorem dL_law_549 : decode cL_law 549 = .ok (.iconst 1, 1) := by decide +kernel
theorem dL_law_550 : decode cL_law 550 = .ok (.iadd, 1) := by decide +kernel
theorem dL_law_551 : decode cL_law 551 = .ok (.iaload, 1) := by decide +kernel
theorem dL_law_552 : decode cL_law 552 = .ok (.aload_n 0, 1) := by decide +kernel
theorem dL_law_553 : decode cL_law 553 = .ok (.iload_n 3, 1) := by decide +kernel
theorem dL_law_554 : decode cL_law 554 = .ok (.iconst 2, 1) := by decide +kernel
theorem dL_law_555 : decode cL_law 555 = .ok (.iadd, 1) := by decide +kernel
theorem dL_law_556 : decode cL_law 556 = .ok (.iaload, 1) := by decide +kernel
theorem dL_law_557 : decode cL_law 557 = .ok (.aload_n 0, 1) := by decide +kernel
theorem dL_law_558 : decode cL_law 558 = .ok (.iload_n 3, 1) := by decide +kernel
theorem dL_law_559 : decode cL_law 559 = .ok (.iconst 3, 1) := by decide +kernel
theorem dL_law_560 : decode cL_law 560 = .ok (.iadd, 1) := by decide +kernel
theorem dL_law_561 : decode cL_law 561 = .ok (.iaload, 1) := by decide +kernel
theorem dL_law_562 : decode cL_law 562 = .ok (.invokevirtual 81, 3) := by decide +kernel
theorem dL_law_565 : decode cL_law 565 = .ok (.aload_n 2, 1) := by decide +kernel
theorem dL_law_566 : decode cL_law 566 = .ok (.aload_n 0, 1) := by decide +kernel
theorem dL_law_567 : decode cL_law 567 = .ok (.iload_n 3, 1) := by decide +kernel
theorem dL_law_568 : decode cL_law 568 = .ok (.iconst 1, 1) := by decide +kernel
theorem dL_law_569 : decode cL_law 569 = .ok (.iadd, 1) := by decide +kernel
theorem dL_law_570 : decode cL_law 570 = .ok (.iaload, 1) := by decide +kernel
theorem dL_law_571 : decode cL_law 571 = .ok (.aload_n 0, 1) := by decide +kernel
theorem dL_law_572 : decode cL_law 572 = .ok (.iload_n 3, 1) := by decide +kernel
theorem dL_law_573 : decode cL_law 573 = .ok (.iconst 2, 1) := by decide +kernel
theorem dL_law_574 : decode cL_law 574 = .ok (.iadd, 1) := by decide +kernel
theorem dL_law_575 : decode cL_law 575 = .ok (.iaload, 1) := by decide +kernel
theorem dL_law_576 : decode cL_law 576 = .ok (.aload_n 0, 1) := by decide +kernel
theorem dL_law_577 : decode cL_law 577 = .ok (.iload_n 3, 1) := by decide +kernel
theorem dL_law_578 : decode cL_law 578 = .ok (.iconst 3, 1) := by decide +kernel
theorem dL_law_579 : decode cL_law 579 = .ok (.iadd, 1) := by decide +kernel
theorem dL_law_580 : decode cL_law 580 = .ok (.iaload, 1) := by decide +kernel
theorem dL_law_581 : decode cL_law 581 = .ok (.invokevirtual 84, 3) := by decide +kernel
theorem dL_law_584 : decode cL_law 584 = .ok (.if_icmp .eq 247, 3) := by decide +kernel
theorem dL_law_587 : decode cL_law 587 = .ok (.iconst 0, 1) := by decide +kernel
theorem dL_law_588 : decode cL_law 588 = .ok (.ireturn, 1) := by decide +kernel
theorem dL_law_589 : decode cL_law 589 = .ok (.aload_n 1, 1) := by decide +kernel
theorem dL_law_590 : decode cL_law 590 = .ok (.aload_n 0, 1) := by decide +kernel
theorem dL_law_591 : decode cL_law 591 = .ok (.iload_n 3, 1) := by decide +kernel
theorem dL_law_592 : decode cL_law 592 = .ok (.iconst 1, 1) := by decide +kernel
theorem dL_law_593 : decode cL_law 593 = .ok (.iadd, 1) := by decide +kernel
theorem dL_law_594 : decode cL_law 594 = .ok (.iaload, 1) := by decide +kernel
theorem dL_law_595 : decode cL_law 595 = .ok (.invokevirtual 85, 3) := by decide +kernel
theorem dL_law_598 : decode cL_law 598 = .ok (.aload_n 2, 1) := by decide +kernel
theorem dL_law_599 : decode cL_law 599 = .ok (.aload_n 0, 1) := by decide +kernel
theorem dL_law_600 : decode cL_law 600 = .ok (.iload_n 3, 1) := by decide +kernel
theorem dL_law_601 : decode cL_law 601 = .ok (.iconst 1, 1) := by decide +kernel
theorem dL_law_602 : decode cL_law 602 = .ok (.iadd, 1) := by decide +kernel
theorem dL_law_603 : decode cL_law 603 = .ok (.iaload, 1) := by decide +kernel
theorem dL_law_604 : decode cL_law 604 = .ok (.invokevirtual 88, 3) := by decide +kernel
theorem dL_law_607 : decode cL_law 607 = .ok (.if_icmp .eq 224, 3) := by decide +kernel
theorem dL_law_610 : decode cL_law 610 = .ok (.iconst 0, 1) := by decide +kernel
theorem dL_law_611 : decode cL_law 611 = .ok (.ireturn, 1) := by decide +kernel
theorem dL_law_612 : decode cL_law 612 = .ok (.aload_n 1, 1) := by decide +kernel
theorem dL_law_613 : decode cL_law 613 = .ok (.aload_n 0, 1) := by decide +kernel
theorem dL_law_614 : decode cL_law 614 = .ok (.iload_n 3, 1) := by decide +kernel
theorem dL_law_615 : decode cL_law 615 = .ok (.iconst 1, 1) := by decide +kernel
theorem dL_law_616 : decode cL_law 616 = .ok (.iadd, 1) := by decide +kernel
theorem dL_law_617 : decode cL_law 617 = .ok (.iaload, 1) := by decide +kernel
theorem dL_law_618 : decode cL_law 618 = .ok (.invokevirtual 89, 3) := by decide +kernel
theorem dL_law_621 : decode cL_law 621 = .ok (.aload_n 2, 1) := by decide +kernel
theorem dL_law_622 : decode cL_law 622 = .ok (.aload_n 0, 1) := by decide +kernel
theorem dL_law_623 : decode cL_law 623 = .ok (.iload_n 3, 1) := by decide +kernel
theorem dL_law_624 : decode cL_law 624 = .ok (.iconst 1, 1) := by decide +kernel
theorem dL_law_625 : decode cL_law 625 = .ok (.iadd, 1) := by decide +kernel
theorem dL_law_626 : decode cL_law 626 = .ok (.iaload, 1) := by decide +kernel
theorem dL_law_627 : decode cL_law 627 = .ok (.invokevirtual 92, 3) := by decide +kernel
theorem dL_law_630 : decode cL_law 630 = .ok (.if_icmp .eq 201, 3) := by decide +kernel
theorem dL_law_633 : decode cL_law 633 = .ok (.iconst 0, 1) := by decide +kernel
theorem dL_law_634 : decode cL_law 634 = .ok (.ireturn, 1) := by decide +kernel
theorem dL_law_635 : decode cL_law 635 = .ok (.aload_n 1, 1) := by decide +kernel
theorem dL_law_636 : decode cL_law 636 = .ok (.aload_n 0, 1) := by decide +kernel
theorem dL_law_637 : decode cL_law 637 = .ok (.iload_n 3, 1) := by decide +kernel
theorem dL_law_638 : decode cL_law 638 = .ok (.iconst 1, 1) := by decide +kernel
theorem dL_law_639 : decode cL_law 639 = .ok (.iadd, 1) := by decide +kernel
theorem dL_law_640 : decode cL_law 640 = .ok (.iaload, 1) := by decide +kernel
theorem dL_law_641 : decode cL_law 641 = .ok (.aload_n 0, 1) := by decide +kernel
theorem dL_law_642 : decode cL_law 642 = .ok (.iload_n 3, 1) := by decide +kernel
theorem dL_law_643 : decode cL_law 643 = .ok (.iconst 2, 1) := by decide +kernel
theorem dL_law_644 : decode cL_law 644 = .ok (.iadd, 1) := by decide +kernel
theorem dL_law_645 : decode cL_law 645 = .ok (.iaload, 1) := by decide +kernel
theorem dL_law_646 : decode cL_law 646 = .ok (.invokevirtual 93, 3) := by decide +kernel
theorem dL_law_649 : decode cL_law 649 = .ok (.aload_n 2, 1) := by decide +kernel
theorem dL_law_650 : decode cL_law 650 = .ok (.aload_n 0, 1) := by decide +kernel
theorem dL_law_651 : decode cL_law 651 = .ok (.iload_n 3, 1) := by decide +kernel
theorem dL_law_652 : decode cL_law 652 = .ok (.iconst 1, 1) := by decide +kernel
theorem dL_law_653 : decode cL_law 653 = .ok (.iadd, 1) := by decide +kernel
theorem dL_law_654 : decode cL_law 654 = .ok (.iaload, 1) := by decide +kernel
theorem dL_law_655 : decode cL_law 655 = .ok (.aload_n 0, 1) := by decide +kernel
theorem dL_law_656 : decode cL_law 656 = .ok (.iload_n 3, 1) := by decide +kernel
theorem dL_law_657 : decode cL_law 657 = .ok (.iconst 2, 1) := by decide +kernel
theorem dL_law_658 : decode cL_law 658 = .ok (.iadd, 1) := by decide +kernel
theorem dL_law_659 : decode cL_law 659 = .ok (.iaload, 1) := by decide +kernel
theorem dL_law_660 : decode cL_law 660 = .ok (.invokevirtual 96, 3) := by decide +kernel
theorem dL_law_663 : decode cL_law 663 = .ok (.if_icmp .eq 168, 3) := by decide +kernel
theorem dL_law_666 : decode cL_law 666 = .ok (.iconst 0, 1) := by decide +kernel
theorem dL_law_667 : decode cL_law 667 = .ok (.ireturn, 1) := by decide +kernel
theorem dL_law_668 : decode cL_law 668 = .ok (.aload_n 1, 1) := by decide +kernel
theorem dL_law_669 : decode cL_law 669 = .ok (.aload_n 0, 1) := by decide +kernel
theorem dL_law_670 : decode cL_law 670 = .ok (.iload_n 3, 1) := by decide +kernel
theorem dL_law_671 : decode cL_law 671 = .ok (.iconst 1, 1) := by decide +kernel
theorem dL_law_672 : decode cL_law 672 = .ok (.iadd, 1) := by decide +kernel
theorem dL_law_673 : decode cL_law 673 = .ok (.iaload, 1) := by decide +kernel
theorem dL_law_674 : decode cL_law 674 = .ok (.invokevirtual 97, 3) := by decide +kernel
theorem dL_law_677 : decode cL_law 677 = .ok (.aload_n 2, 1) := by decide +kernel
theorem dL_law_678 : decode cL_law 678 = .ok (.aload_n 0, 1) := by decide +kernel
theorem dL_law_679 : decode cL_law 679 = .ok (.iload_n 3, 1) := by decide +kernel
theorem dL_law_680 : decode cL_law 680 = .ok (.iconst 1, 1) := by decide +kernel
theorem dL_law_681 : decode cL_law 681 = .ok (.iadd, 1) := by decide +kernel
theorem dL_law_682 : decode cL_law 682 = .ok (.iaload, 1) := by decide +kernel
theorem dL_law_683 : decode cL_law 683 = .ok (.invokevirtual 100, 3) := by decide +kernel
theorem dL_law_686 : decode cL_law 686 = .ok (.if_icmp .eq 145, 3) := by decide +kernel
theorem dL_law_689 : decode cL_law 689 = .ok (.iconst 0, 1) := by decide +kernel
theorem dL_law_690 : decode cL_law 690 = .ok (.ireturn, 1) := by decide +kernel
theorem dL_law_691 : decode cL_law 691 = .ok (.aload_n 1, 1) := by decide +kernel
theorem dL_law_692 : decode cL_law 692 = .ok (.aload_n 0, 1) := by decide +kernel
theorem dL_law_693 : decode cL_law 693 = .ok (.iload_n 3, 1) := by decide +kernel
theorem dL_law_694 : decode cL_law 694 = .ok (.iconst 1, 1) := by decide +kernel
theorem dL_law_695 : decode cL_law 695 = .ok (.iadd, 1) := by decide +kernel
theorem dL_law_696 : decode cL_law 696 = .ok (.iaload, 1) := by decide +kernel
theorem dL_law_697 : decode cL_law 697 = .ok (.aload_n 0, 1) := by decide +kernel
theorem dL_law_698 : decode cL_law 698 = .ok (.iload_n 3, 1) := by decide +kernel
theorem dL_law_699 : decode cL_law 699 = .ok (.iconst 2, 1) := by decide +kernel
theorem dL_law_700 : decode cL_law 700 = .ok (.iadd, 1) := by decide +kernel
theorem dL_law_701 : decode cL_law 701 = .ok (.iaload, 1) := by decide +kernel
theorem dL_law_702 : decode cL_law 702 = .ok (.invokevirtual 101, 3) := by decide +kernel
theorem dL_law_705 : decode cL_law 705 = .ok (.aload_n 2, 1) := by decide +kernel
theorem dL_law_706 : decode cL_law 706 = .ok (.aload_n 0, 1) := by decide +kernel
theorem dL_law_707 : decode cL_law 707 = .ok (.iload_n 3, 1) := by decide +kernel
theorem dL_law_708 : decode cL_law 708 = .ok (.iconst 1, 1) := by decide +kernel
theorem dL_law_709 : decode cL_law 709 = .ok (.iadd, 1) := by decide +kernel
theorem dL_law_710 : decode cL_law 710 = .ok (.iaload, 1) := by decide +kernel
theorem dL_law_711 : decode cL_law 711 = .ok (.aload_n 0, 1) := by decide +kernel
theorem dL_law_712 : decode cL_law 712 = .ok (.iload_n 3, 1) := by decide +kernel
theorem dL_law_713 : decode cL_law 713 = .ok (.iconst 2, 1) := by decide +kernel
theorem dL_law_714 : decode cL_law 714 = .ok (.iadd, 1) := by decide +kernel
theorem dL_law_715 : decode cL_law 715 = .ok (.iaload, 1) := by decide +kernel
theorem dL_law_716 : decode cL_law 716 = .ok (.invokevirtual 104, 3) := by decide +kernel
theorem dL_law_719 : decode cL_law 719 = .ok (.if_icmp .eq 112, 3) := by decide +kernel
theorem dL_law_722 : decode cL_law 722 = .ok (.iconst 0, 1) := by decide +kernel
theorem dL_law_723 : decode cL_law 723 = .ok (.ireturn, 1) := by decide +kernel
theorem dL_law_724 : decode cL_law 724 = .ok (.aload_n 1, 1) := by decide +kernel
theorem dL_law_725 : decode cL_law 725 = .ok (.aload_n 0, 1) := by decide +kernel
theorem dL_law_726 : decode cL_law 726 = .ok (.iload_n 3, 1) := by decide +kernel
theorem dL_law_727 : decode cL_law 727 = .ok (.iconst 1, 1) := by decide +kernel
theorem dL_law_728 : decode cL_law 728 = .ok (.iadd, 1) := by decide +kernel
theorem dL_law_729 : decode cL_law 729 = .ok (.iaload, 1) := by decide +kernel
theorem dL_law_730 : decode cL_law 730 = .ok (.invokevirtual 105, 3) := by decide +kernel
theorem dL_law_733 : decode cL_law 733 = .ok (.aload_n 2, 1) := by decide +kernel
theorem dL_law_734 : decode cL_law 734 = .ok (.aload_n 0, 1) := by decide +kernel
theorem dL_law_735 : decode cL_law 735 = .ok (.iload_n 3, 1) := by decide +kernel
theorem dL_law_736 : decode cL_law 736 = .ok (.iconst 1, 1) := by decide +kernel
theorem dL_law_737 : decode cL_law 737 = .ok (.iadd, 1) := by decide +kernel
theorem dL_law_738 : decode cL_law 738 = .ok (.iaload, 1) := by decide +kernel
theorem dL_law_739 : decode cL_law 739 = .ok (.invokevirtual 108, 3) := by decide +kernel
theorem dL_law_742 : decode cL_law 742 = .ok (.if_icmp .eq 89, 3) := by decide +kernel
theorem dL_law_745 : decode cL_law 745 = .ok (.iconst 0, 1) := by decide +kernel
theorem dL_law_746 : decode cL_law 746 = .ok (.ireturn, 1) := by decide +kernel
theorem dL_law_747 : decode cL_law 747 = .ok (.aload_n 1, 1) := by decide +kernel
theorem dL_law_748 : decode cL_law 748 = .ok (.aload_n 0, 1) := by decide +kernel
theorem dL_law_749 : decode cL_law 749 = .ok (.iload_n 3, 1) := by decide +kernel
theorem dL_law_750 : decode cL_law 750 = .ok (.iconst 1, 1) := by decide +kernel
theorem dL_law_751 : decode cL_law 751 = .ok (.iadd, 1) := by decide +kernel
theorem dL_law_752 : decode cL_law 752 = .ok (.iaload, 1) := by decide +kernel
theorem dL_law_753 : decode cL_law 753 = .ok (.aload_n 0, 1) := by decide +kernel
theorem dL_law_754 : decode cL_law 754 = .ok (.iload_n 3, 1) := by decide +kernel
theorem dL_law_755 : decode cL_law 755 = .ok (.iconst 2, 1) := by decide +kernel
theorem dL_law_756 : decode cL_law 756 = .ok (.iadd, 1) := by decide +kernel
theorem dL_law_757 : decode cL_law 757 = .ok (.iaload, 1) := by decide +kernel
theorem dL_law_758 : decode cL_law 758 = .ok (.invokevirtual 109, 3) := by decide +kernel
theorem dL_law_761 : decode cL_law 761 = .ok (.aload_n 2, 1) := by decide +kernel
theorem dL_law_762 : decode cL_law 762 = .ok (.aload_n 0, 1) := by decide +kernel
theorem dL_law_763 : decode cL_law 763 = .ok (.iload_n 3, 1) := by decide +kernel
theorem dL_law_764 : decode cL_law 764 = .ok (.iconst 1, 1) := by decide +kernel
theorem dL_law_765 : decode cL_law 765 = .ok (.iadd, 1) := by decide +kernel
theorem dL_law_766 : decode cL_law 766 = .ok (.iaload, 1) := by decide +kernel
theorem dL_law_767 : decode cL_law 767 = .ok (.aload_n 0, 1) := by decide +kernel
theorem dL_law_768 : decode cL_law 768 = .ok (.iload_n 3, 1) := by decide +kernel
theorem dL_law_769 : decode cL_law 769 = .ok (.iconst 2, 1) := by decide +kernel
theorem dL_law_770 : decode cL_law 770 = .ok (.iadd, 1) := by decide +kernel
theorem dL_law_771 : decode cL_law 771 = .ok (.iaload, 1) := by decide +kernel
theorem dL_law_772 : decode cL_law 772 = .ok (.invokevirtual 112, 3) := by decide +kernel
theorem dL_law_775 : decode cL_law 775 = .ok (.if_icmp .eq 56, 3) := by decide +kernel
theorem dL_law_778 : decode cL_law 778 = .ok (.iconst 0, 1) := by decide +kernel
theorem dL_law_779 : decode cL_law 779 = .ok (.ireturn, 1) := by decide +kernel
theorem dL_law_780 : decode cL_law 780 = .ok (.aload_n 1, 1) := by decide +kernel
theorem dL_law_781 : decode cL_law 781 = .ok (.aload_n 0, 1) := by decide +kernel
theorem dL_law_782 : decode cL_law 782 = .ok (.iload_n 3, 1) := by decide +kernel
theorem dL_law_783 : decode cL_law 783 = .ok (.iconst 1, 1) := by decide +kernel
theorem dL_law_784 : decode cL_law 784 = .ok (.iadd, 1) := by decide +kernel
theorem dL_law_785 : decode cL_law 785 = .ok (.iaload, 1) := by decide +kernel
theorem dL_law_786 : decode cL_law 786 = .ok (.invokevirtual 113, 3) := by decide +kernel
theorem dL_law_789 : decode cL_law 789 = .ok (.dstore 4, 2) := by decide +kernel
theorem dL_law_791 : decode cL_law 791 = .ok (.aload_n 2, 1) := by decide +kernel
theorem dL_law_792 : decode cL_law 792 = .ok (.aload_n 0, 1) := by decide +kernel
theorem dL_law_793 : decode cL_law 793 = .ok (.iload_n 3, 1) := by decide +kernel
theorem dL_law_794 : decode cL_law 794 = .ok (.iconst 1, 1) := by decide +kernel
theorem dL_law_795 : decode cL_law 795 = .ok (.iadd, 1) := by decide +kernel
theorem dL_law_796 : decode cL_law 796 = .ok (.iaload, 1) := by decide +kernel
theorem dL_law_797 : decode cL_law 797 = .ok (.invokevirtual 117, 3) := by decide +kernel
theorem dL_law_800 : decode cL_law 800 = .ok (.dstore 6, 2) := by decide +kernel
theorem dL_law_802 : decode cL_law 802 = .ok (.dload 4, 2) := by decide +kernel
theorem dL_law_804 : decode cL_law 804 = .ok (.dload 6, 2) := by decide +kernel
theorem dL_law_806 : decode cL_law 806 = .ok (.dcmp .l, 1) := by decide +kernel
theorem dL_law_807 : decode cL_law 807 = .ok (.ifCond .eq 21, 3) := by decide +kernel
theorem dL_law_810 : decode cL_law 810 = .ok (.dload 4, 2) := by decide +kernel
theorem dL_law_812 : decode cL_law 812 = .ok (.dload 4, 2) := by decide +kernel
theorem dL_law_814 : decode cL_law 814 = .ok (.dcmp .l, 1) := by decide +kernel
theorem dL_law_815 : decode cL_law 815 = .ok (.ifCond .eq 11, 3) := by decide +kernel
theorem dL_law_818 : decode cL_law 818 = .ok (.dload 6, 2) := by decide +kernel
theorem dL_law_820 : decode cL_law 820 = .ok (.dload 6, 2) := by decide +kernel
theorem dL_law_822 : decode cL_law 822 = .ok (.dcmp .l, 1) := by decide +kernel
theorem dL_law_823 : decode cL_law 823 = .ok (.ifCond .ne 5, 3) := by decide +kernel
theorem dL_law_826 : decode cL_law 826 = .ok (.iconst 0, 1) := by decide +kernel
theorem dL_law_827 : decode cL_law 827 = .ok (.ireturn, 1) := by decide +kernel
theorem dL_law_828 : decode cL_law 828 = .ok (.goto 3, 3) := by decide +kernel
theorem dL_law_831 : decode cL_law 831 = .ok (.iinc 3 4, 3) := by decide +kernel
theorem dL_law_834 : decode cL_law 834 = .ok (.goto (-816), 3) := by decide +kernel
theorem dL_law_837 : decode cL_law 837 = .ok (.iconst 1, 1) := by decide +kernel
theorem dL_law_838 : decode cL_law 838 = .ok (.ireturn, 1) := by decide +kernel
end
section
/-! ===== FRAME: a world is a list of blocks; one word list serves every method; contracts of reads (cR) and of writes (cU) ===== -/
abbrev gx : Type := va_G × ClassId × ClassId × ClassId
abbrev gtys (g : gx) : List (ClassId × FieldType) := [(g.2.1, .int), (g.2.2.1, .char), (g.2.2.2, .object "BellTowns$Valley")]
/-- links of private members of nest mates -/
def nxt (U : State) : Prop := va_Nw (.methodLinkNest RX4 35 yX1_init "BellTowns") U ∧ va_Nw (.methodLinkNest RX4 42 yX2_init "BellTowns") U ∧ va_Nw (.methodLinkNest RX1 45 yX4_slot "BellTowns") U ∧ va_Nw (.methodLinkNest RX1 58 yX4_ringersFor "BellTowns") U ∧ va_Nw (.methodLinkNest RX3 77 yX4_isTown "BellTowns") U ∧ va_Nw (.methodLinkNest RX3 81 yX4_slot "BellTowns") U
def kx (g : gx) (U : State) : Prop := va_K g.1 vwCl (gtys g) U ∧ nxt U
theorem kx.warm {g : gx} {s U : State} (hW : s.WarmedH U.vm) (h : kx g s) : kx g U :=
  ⟨h.1.moved hW.alike, va_Nw.warmM hW h.2.1, va_Nw.warmM hW h.2.2.1, va_Nw.warmM hW h.2.2.2.1, va_Nw.warmM hW h.2.2.2.2.1, va_Nw.warmM hW h.2.2.2.2.2.1, va_Nw.warmM hW h.2.2.2.2.2.2⟩
theorem kx.same {g : gx} {s U : State} (hv : s.vm = U.vm) (h : kx g s) : kx g U :=
  ⟨h.1.moved (by rw [← hv]; exact Vm.Alike.refl _), va_Nw.same rfl hv h.2.1, va_Nw.same rfl hv h.2.2.1, va_Nw.same rfl hv h.2.2.2.1, va_Nw.same rfl hv h.2.2.2.2.1, va_Nw.same rfl hv h.2.2.2.2.2.1, va_Nw.same rfl hv h.2.2.2.2.2.2⟩
abbrev wm (y : MethodName) (b : ByteArray) (n : Nat) (r : Option FieldType) : List Cond := Cond.code y b n r :: wsL_law
theorem aw_good : wsL_law.all goodWord = true := by decide +kernel
theorem wm_good {y : MethodName} {b : ByteArray} {n : Nat} {r : Option FieldType} (h : Cond.code y b n r ∈ wsL_law) : GoodIn wsL_law (wm y b n r) := by
  intro w hw
  have h1 : w ∈ wsL_law := by
    rcases List.mem_cons.mp hw with rfl | h2
    · exact h
    · exact h2
  exact ⟨h1, good_of_word (List.all_eq_true.mp aw_good w h1)⟩
/-- the addresses of a list of blocks -/
def adr (B : List va_W) : List Nat := B.flatten.map Prod.fst
def wd (g : gx) (A : Nat → Prop) (H0 : Heap) (B : List va_W) (H : Heap) (locs : List Loc) : Prop := va_P g.1 vwCl B.flatten H ∧ va_D A B.flatten ∧ va_S A H0 H locs
theorem flat_at : ∀ (B : List va_W) (i k : Nat) {b : va_W} {q : Nat × va_E}, B[i]? = some b → b[k]? = some q → ∃ q0 : Nat, B.flatten[q0]? = some q ∧ ∀ q' : Nat × va_E, B.flatten.set q0 q' = (B.set i (b.set k q')).flatten
  | [], i, k, b, q, h1, h2 => by simp at h1
  | b0 :: B, 0, k, b, q, h1, h2 => by
    simp only [List.getElem?_cons_zero, Option.some.injEq] at h1
    subst h1
    have hk : k < b0.length := (List.getElem?_eq_some_iff.mp h2).1
    refine ⟨k, ?_, fun q' => ?_⟩
    · rw [List.flatten_cons, List.getElem?_append_left hk]; exact h2
    · rw [List.flatten_cons, List.set_append_left _ _ hk]; rfl
  | b0 :: B, i + 1, k, b, q, h1, h2 => by
    rw [List.getElem?_cons_succ] at h1
    obtain ⟨q0, e1, e2⟩ := flat_at B i k h1 h2
    refine ⟨b0.length + q0, ?_, fun q' => ?_⟩
    · rw [List.flatten_cons, List.getElem?_append_right (by omega), Nat.add_sub_cancel_left]; exact e1
    · rw [List.flatten_cons, List.set_append_right _ _ (by omega), Nat.add_sub_cancel_left, e2 q']; rfl
theorem flat_mem {B : List va_W} {i : Nat} {b : va_W} {q : Nat × va_E} (h1 : B[i]? = some b) (h2 : q ∈ b) : q ∈ B.flatten := List.mem_flatten.mpr ⟨b, List.mem_of_getElem? h1, h2⟩
/-- a part of the blocks holds too -/
theorem va_P.mem {D : va_G} {cl : List vw_C} {ws : va_W} {H : Heap} (h : va_P D cl ws H) {q : Nat × va_E} (hq : q ∈ ws) : va_at D cl q H := by
  obtain ⟨k, hk⟩ := List.getElem?_of_mem hq
  exact h k q hk
theorem va_P.ofMem {D : va_G} {cl : List vw_C} {ws : va_W} {H : Heap} (h : ∀ q ∈ ws, va_at D cl q H) : va_P D cl ws H := fun _ q hk => h q (List.mem_of_getElem? hk)
theorem pick_mem {B C : List va_W} {is : List Nat} (hC : is.map (fun i => B[i]?) = C.map some) {b : va_W} (hb : b ∈ C) : ∃ i ∈ is, B[i]? = some b := by
  have h : some b ∈ is.map (fun i => B[i]?) := by rw [hC]; exact List.mem_map_of_mem hb
  obtain ⟨i, h1, h2⟩ := List.mem_map.mp h
  exact ⟨i, h1, h2⟩
theorem pick_P {D : va_G} {cl : List vw_C} {B C : List va_W} {H : Heap} (h : va_P D cl B.flatten H) (is : List Nat) (hC : is.map (fun i => B[i]?) = C.map some) : va_P D cl C.flatten H := by
  refine va_P.ofMem (fun q hq => ?_)
  obtain ⟨b, hb, hqb⟩ := List.mem_flatten.mp hq
  obtain ⟨i, -, h2⟩ := pick_mem hC hb
  exact h.mem (flat_mem h2 hqb)
/-- two cells of one address stand in one block, at one place -/
theorem blk_apart : ∀ {A : Nat → Prop} {B : List va_W}, va_D A B.flatten → ∀ {k i : Nat} {b b' : va_W} {q q' : Nat × va_E}, B[k]? = some b → B[i]? = some b' → q ∈ b → q' ∈ b' → q.1 = q'.1 → k = i
  | A, [], hD, k, i, b, b', q, q', h1, h2, m1, m2, e => by simp at h1
  | A, b0 :: B, hD, k, i, b, b', q, q', h1, h2, m1, m2, e => by
    have tail : va_D A B.flatten := by
      refine ⟨fun x y p r hx hy hpr => ?_, fun x p hx => ?_⟩
      · have := hD.1 (b0.length + x) (b0.length + y) p r (by rw [List.flatten_cons, List.getElem?_append_right (by omega), Nat.add_sub_cancel_left]; exact hx) (by rw [List.flatten_cons, List.getElem?_append_right (by omega), Nat.add_sub_cancel_left]; exact hy) hpr
        omega
      · exact hD.2 (b0.length + x) p (by rw [List.flatten_cons, List.getElem?_append_right (by omega), Nat.add_sub_cancel_left]; exact hx)
    have cross : ∀ {p r : Nat × va_E}, p ∈ b0 → r ∈ B.flatten → p.1 = r.1 → False := by
      intro p r hp hr hpr
      obtain ⟨x, hx⟩ := List.getElem?_of_mem hp
      obtain ⟨y, hy⟩ := List.getElem?_of_mem hr
      have hlx : x < b0.length := (List.getElem?_eq_some_iff.mp hx).1
      have := hD.1 x (b0.length + y) p r (by rw [List.flatten_cons, List.getElem?_append_left hlx]; exact hx) (by rw [List.flatten_cons, List.getElem?_append_right (by omega), Nat.add_sub_cancel_left]; exact hy) hpr
      omega
    cases k with
    | zero =>
      cases i with
      | zero => rfl
      | succ i =>
        simp only [List.getElem?_cons_zero, Option.some.injEq] at h1
        subst h1
        rw [List.getElem?_cons_succ] at h2
        exact (cross m1 (flat_mem h2 m2) e).elim
    | succ k =>
      rw [List.getElem?_cons_succ] at h1
      cases i with
      | zero =>
        simp only [List.getElem?_cons_zero, Option.some.injEq] at h2
        subst h2
        exact (cross m2 (flat_mem h1 m1) e.symm).elim
      | succ i =>
        rw [List.getElem?_cons_succ] at h2
        rw [blk_apart tail h1 h2 m1 m2 e]
theorem va_D.adr {A : Nat → Prop} {ws ws' : va_W} (h : va_D A ws) (e : ws'.map Prod.fst = ws.map Prod.fst) : va_D A ws' := by
  have key : ∀ (k : Nat) (q : Nat × va_E), ws'[k]? = some q → ∃ q0 : Nat × va_E, ws[k]? = some q0 ∧ q0.1 = q.1 := by
    intro k q hk
    have h1 : (ws'.map Prod.fst)[k]? = some q.1 := by rw [List.getElem?_map, hk]; rfl
    rw [e, List.getElem?_map] at h1
    cases hq : ws[k]? with
    | none => rw [hq] at h1; cases h1
    | some q0 => rw [hq] at h1; exact ⟨q0, rfl, Option.some.inj h1⟩
  refine ⟨fun i j x y hi hj hxy => ?_, fun k q hk => ?_⟩
  · obtain ⟨x0, h1, h2⟩ := key i x hi
    obtain ⟨y0, h3, h4⟩ := key j y hj
    exact h.1 i j x0 y0 h1 h3 (h2.trans (hxy.trans h4.symm))
  · obtain ⟨q0, h1, h2⟩ := key k q hk
    rw [← h2]
    exact h.2 k q0 h1
def sets : List va_W → List Nat → List va_W → List va_W
  | B, i :: is, c :: cs => sets (B.set i c) is cs
  | B, _, _ => B
theorem sets_adr : ∀ (is : List Nat) (B C C1 : List va_W), is.map (fun i => B[i]?) = C.map some → C1.map (List.map Prod.fst) = C.map (List.map Prod.fst) → va_nd is = true → (sets B is C1).map (List.map Prod.fst) = B.map (List.map Prod.fst)
  | [], B, C, C1, h1, h2, h3 => by cases C1 <;> rfl
  | i :: is, B, [], C1, h1, h2, h3 => by simp at h1
  | i :: is, B, c :: C, [], h1, h2, h3 => by simp at h2
  | i :: is, B, c :: C, c1 :: C1, h1, h2, h3 => by
    simp only [List.map_cons, List.cons.injEq] at h1 h2
    simp only [va_nd, Bool.and_eq_true, decide_eq_true_eq] at h3
    have hB : (B.set i c1).map (List.map Prod.fst) = B.map (List.map Prod.fst) := by
      rw [List.map_set, h2.1]
      apply List.ext_getElem?
      intro k
      by_cases hk : k = i
      · subst hk
        have hl : k < B.length := (List.getElem?_eq_some_iff.mp h1.1).1
        rw [List.getElem?_set_self (by simpa using hl), List.getElem?_map, h1.1]; rfl
      · rw [List.getElem?_set_ne (Ne.symm hk)]
    have ih := sets_adr is (B.set i c1) C C1 (by
      rw [← h1.2]
      refine List.map_congr_left (fun j hj => ?_)
      have hne : i ≠ j := fun e => h3.1 (e ▸ hj)
      exact List.getElem?_set_ne hne) h2.2 h3.2
    show (sets (B.set i c1) is C1).map _ = _
    rw [ih, hB]
theorem sets_mem : ∀ (is : List Nat) (B C1 : List va_W) {b : va_W}, b ∈ sets B is C1 → is.length = C1.length → b ∈ C1 ∨ ∃ k : Nat, B[k]? = some b ∧ k ∉ is
  | [], B, C1, b, h, hl => by
    have h : b ∈ B := by cases C1 <;> exact h
    obtain ⟨k, hk⟩ := List.getElem?_of_mem h
    exact Or.inr ⟨k, hk, by simp⟩
  | i :: is, B, [], b, h, hl => by simp at hl
  | i :: is, B, c :: cs, b, h, hl => by
    rcases sets_mem is (B.set i c) cs h (by simpa using hl) with h1 | ⟨k, h1, h2⟩
    · exact Or.inl (List.mem_cons_of_mem _ h1)
    · by_cases hk : k = i
      · subst hk
        have hlt : k < (B.set k c).length := (List.getElem?_eq_some_iff.mp h1).1
        rw [List.getElem?_set_self (by simpa using hlt)] at h1
        exact Or.inl (by rw [← Option.some.inj h1]; exact List.mem_cons_self)
      · rw [List.getElem?_set_ne (Ne.symm hk)] at h1
        exact Or.inr ⟨k, h1, fun h => (List.mem_cons.mp h).elim hk h2⟩
theorem flat_adr {B B' : List va_W} (h : B'.map (List.map Prod.fst) = B.map (List.map Prod.fst)) : B'.flatten.map Prod.fst = B.flatten.map Prod.fst := by
  rw [List.map_flatten, List.map_flatten, h]
theorem wd.adrIn {g : gx} {A : Nat → Prop} {H0 H : Heap} {B C : List va_W} {locs : List Loc} (hW : wd g A H0 B H locs) {is : List Nat} (hC : is.map (fun i => B[i]?) = C.map some) : ∀ q ∈ adr C, A q := by
  intro q hq
  obtain ⟨c, hc, rfl⟩ := List.mem_map.mp hq
  obtain ⟨b, hb, hqb⟩ := List.mem_flatten.mp hc
  obtain ⟨i, -, h2⟩ := pick_mem hC hb
  obtain ⟨k, hk⟩ := List.getElem?_of_mem (flat_mem h2 hqb)
  exact hW.2.1.2 k c hk
/-- behind a call that wrote in some blocks alone -/
theorem wd.call {g : gx} {A : Nat → Prop} {H0 H H1 : Heap} {B B' C C1 : List va_W} {locs L : List Loc} (hW : wd g A H0 B H locs) {is : List Nat} (hC : is.map (fun i => B[i]?) = C.map some) (hn : va_nd is = true) (ha : C1.map (List.map Prod.fst) = C.map (List.map Prod.fst)) (hP1 : va_P g.1 vwCl C1.flatten H1) (hz : H.size ≤ H1.size) (hk : ∀ q : Nat, q < H.size → q ∉ adr C → H1[q]? = H[q]?) (hL : ∀ q ∈ L, q.base ∈ adr C) (hB' : sets B is C1 = B') : wd g A H0 B' H1 (locs ++ L) := by
  subst hB'
  have hin := hW.adrIn hC
  refine ⟨va_P.ofMem (fun q hq => ?_), hW.2.1.adr (flat_adr (sets_adr is B C C1 hC ha hn)), Nat.le_trans hW.2.2.1 hz, fun q h1 h2 => ?_, fun q hq => ?_⟩
  · obtain ⟨b, hb, hqb⟩ := List.mem_flatten.mp hq
    have hlen : is.length = C1.length := by
      have e1 := congrArg List.length hC
      have e2 := congrArg List.length ha
      simp only [List.length_map] at e1 e2
      omega
    rcases sets_mem is B C1 hb hlen with h1 | ⟨k, h1, h2⟩
    · exact hP1.mem (List.mem_flatten.mpr ⟨b, h1, hqb⟩)
    · have hat := hW.1.mem (flat_mem h1 hqb)
      refine hat.kept (hk q.1 hat.lt (fun hm => ?_))
      obtain ⟨c, hc, e⟩ := List.mem_map.mp hm
      obtain ⟨b2, hb2, hcb⟩ := List.mem_flatten.mp hc
      obtain ⟨i, hi, h3⟩ := pick_mem hC hb2
      have := blk_apart hW.2.1 h1 h3 hqb hcb e.symm
      exact h2 (this ▸ hi)
  · exact (hk q (Nat.lt_of_lt_of_le h1 hW.2.2.1) (fun hm => h2 (hin q hm))).trans (hW.2.2.2.1 q h1 h2)
  · rcases List.mem_append.mp hq with h | h
    · exact hW.2.2.2.2 q h
    · exact hin _ (hL q h)
/-- what a read says at its end; what a write says at its end -/
abbrev qR (r : Value) : Array Value → State → Outcome → State → Prop := fun _ st o t => o = .returned (some r) ∧ t.heap = st.heap
abbrev qU {S : Type} (g : gx) (C : List va_W) (r : S → Option Value) (post : S → Prop) (C1 : S → List va_W) : Array Value → State → Outcome → State → Prop := fun _ st o t => ∃ u : S, o = .returned (r u) ∧ post u ∧ va_P g.1 vwCl (C1 u).flatten t.heap ∧ (C1 u).map (List.map Prod.fst) = C.map (List.map Prod.fst) ∧ st.heap.size ≤ t.heap.size ∧ ∀ q : Nat, q < st.heap.size → q ∉ adr C → t.heap[q]? = st.heap[q]?
def cR (l : Launch) (g : gx) (y : MethodName) (b : ByteArray) (n : Nat) (ty : Option FieldType) (rm : Room) (av : List Value) (C : List va_W) (r : Value) : Prop :=
  Met l y (wm y b n ty) rm (va_Pc av (fun U => va_P g.1 vwCl C.flatten U.heap ∧ kx g U)) (qR r) 0 0 (fun _ => False)
def cU {S : Type} (l : Launch) (g : gx) (y : MethodName) (b : ByteArray) (n : Nat) (ty : Option FieldType) (rm : Room) (av : List Value) (C : List va_W) (r : S → Option Value) (post : S → Prop) (C1 : S → List va_W) : Prop :=
  Met l y (wm y b n ty) rm (va_Pc av (fun U => va_P g.1 vwCl C.flatten U.heap ∧ va_D (fun _ => True) C.flatten ∧ kx g U)) (qU g C r post C1) 0 0 (fun q => q ∈ adr C)
/-- what stands at a method's entry -/
abbrev ent (p : Program) (s : State) (m : MethodId) (meth : Method) (c : Code) (y : MethodName) (b : ByteArray) (n : Nat) (ty : Option FieldType) (av : List Value) : Prop :=
  p.tables.exec = Jvm.exec ∧ c.code = b ∧ meth.sig.returnType = ty ∧ c.maxLocals = n ∧ (∀ w ∈ wsL_law, w.before av.toArray s = true) ∧ s.vm.findClass y.cls = some m.cls ∧ meth.locks = false ∧ (y.name = "<init>" → meth.name = "<init>")
theorem cR.mk {l : Launch} {g : gx} {y : MethodName} {b : ByteArray} {n : Nat} {ty : Option FieldType} {rm : Room} {av : List Value} {C : List va_W} {r : Value} (hy : plainName y.cls = true) (hn : (lg_sl av).length ≤ n)
    (body : ∀ (p : Program) (e : Env) (s : State) (m : MethodId) (below : List Frame) (meth : Method) (c : Code) (ls : Array Slot), ent p s m meth c y b n ty av → kx g s → va_P g.1 vwCl C.flatten s.heap → lv_has ls n (lv_args 0 av) →
      W p l e rm s m av.toArray below meth c s.heap [] 0 0 (MQ below (qR r) av.toArray s 0 0 (fun _ => False)) (F0 m 0 ls [])) : cR l g y b n ty rm av C r := by
  refine Met.ofW (cc := b) (maxL := n) (ret := ty) hy rfl ?_
  intro p e s m args below meth c s₁ B hml hv
  obtain ⟨rfl, hP, hK⟩ := hv
  rw [lg_entry_eq]
  have hts := atoms_spec (ws := wm y b n ty) B.pre
  exact body p e s m below meth c _ ⟨B.exec, B.bytes, B.returns, hml, fun w h => hts w (List.mem_cons_of_mem _ h), findClass_of_methodNamed B.named, B.notSynchronized, fun h => (name_of_methodNamed B.named B.method).1.trans h⟩ hK hP (lv_entry av hn)
theorem cU.mk {S : Type} {l : Launch} {g : gx} {y : MethodName} {b : ByteArray} {n : Nat} {ty : Option FieldType} {rm : Room} {av : List Value} {C : List va_W} {r : S → Option Value} {post : S → Prop} {C1 : S → List va_W} (hy : plainName y.cls = true) (hn : (lg_sl av).length ≤ n)
    (body : ∀ (p : Program) (e : Env) (s : State) (m : MethodId) (below : List Frame) (meth : Method) (c : Code) (ls : Array Slot), ent p s m meth c y b n ty av → kx g s → wd g (fun q => q ∈ adr C) s.heap C s.heap [] → lv_has ls n (lv_args 0 av) →
      W p l e rm s m av.toArray below meth c s.heap [] 0 0 (MQ below (qU g C r post C1) av.toArray s 0 0 (fun q => q ∈ adr C)) (F0 m 0 ls [])) : cU l g y b n ty rm av C r post C1 := by
  refine Met.ofW (cc := b) (maxL := n) (ret := ty) hy rfl ?_
  intro p e s m args below meth c s₁ B hml hv
  obtain ⟨rfl, hP, hD, hK⟩ := hv
  rw [lg_entry_eq]
  have hts := atoms_spec (ws := wm y b n ty) B.pre
  exact body p e s m below meth c _ ⟨B.exec, B.bytes, B.returns, hml, fun w h => hts w (List.mem_cons_of_mem _ h), findClass_of_methodNamed B.named, B.notSynchronized, fun h => (name_of_methodNamed B.named B.method).1.trans h⟩ hK ⟨hP, hD.weaken (fun k q hk _ => List.mem_map_of_mem (List.mem_of_getElem? hk)), va_S.rf⟩ (lv_entry av hn)
theorem flat_off : ∀ (B : List va_W) (i : Nat) {b : va_W}, B[i]? = some b → ∃ o : Nat, ∀ (k : Nat) (q : Nat × va_E), b[k]? = some q → B.flatten[o + k]? = some q
  | [], i, b, h => by simp at h
  | b0 :: B, 0, b, h => by
    simp only [List.getElem?_cons_zero, Option.some.injEq] at h
    subst h
    refine ⟨0, fun k q hk => ?_⟩
    have hl : k < b0.length := (List.getElem?_eq_some_iff.mp hk).1
    rw [Nat.zero_add, List.flatten_cons, List.getElem?_append_left hl]; exact hk
  | b0 :: B, i + 1, b, h => by
    rw [List.getElem?_cons_succ] at h
    obtain ⟨o, ho⟩ := flat_off B i h
    refine ⟨b0.length + o, fun k q hk => ?_⟩
    rw [List.flatten_cons, List.getElem?_append_right (by omega), show b0.length + o + k - b0.length = o + k by omega]
    exact ho k q hk
theorem blk_inj {A : Nat → Prop} {B : List va_W} (hD : va_D A B.flatten) {i : Nat} {b : va_W} (h : B[i]? = some b) {x y : Nat} {q q' : Nat × va_E} (hx : b[x]? = some q) (hy : b[y]? = some q') (e : q.1 = q'.1) : x = y := by
  obtain ⟨o, ho⟩ := flat_off B i h
  have := hD.1 (o + x) (o + y) q q' (ho x q hx) (ho y q' hy) e
  omega
theorem pick_D {A : Nat → Prop} {B : List va_W} (hD : va_D A B.flatten) : ∀ (is : List Nat) (C : List va_W), is.map (fun i => B[i]?) = C.map some → va_nd is = true → va_D A C.flatten
  | [], [], _, _ => ⟨fun i j p q h => by simp at h, fun k q h => by simp at h⟩
  | [], c :: C, h, _ => by simp at h
  | i :: is, [], h, _ => by simp at h
  | i :: is, c :: C, h, hn => by
    simp only [List.map_cons, List.cons.injEq] at h
    simp only [va_nd, Bool.and_eq_true, decide_eq_true_eq] at hn
    have ih := pick_D hD is C h.2 hn.2
    have key : ∀ (k : Nat) (q : Nat × va_E), (c :: C).flatten[k]? = some q → (k < c.length ∧ c[k]? = some q) ∨ (c.length ≤ k ∧ C.flatten[k - c.length]? = some q) := by
      intro k q hk
      rw [List.flatten_cons] at hk
      by_cases hl : k < c.length
      · rw [List.getElem?_append_left hl] at hk
        exact Or.inl ⟨hl, hk⟩
      · rw [List.getElem?_append_right (by omega)] at hk
        exact Or.inr ⟨by omega, hk⟩
    have cross : ∀ {p r : Nat × va_E} {x y : Nat}, c[x]? = some p → C.flatten[y]? = some r → p.1 = r.1 → False := by
      intro p r x y hx hy e
      obtain ⟨b, hb, hrb⟩ := List.mem_flatten.mp (List.mem_of_getElem? hy)
      obtain ⟨j, hj, hBj⟩ := pick_mem h.2 hb
      have := blk_apart hD h.1 hBj (List.mem_of_getElem? hx) hrb e
      exact hn.1 (this ▸ hj)
    refine ⟨fun x y p q hx hy e => ?_, fun k q hk => ?_⟩
    · rcases key x p hx with ⟨l1, a1⟩ | ⟨l1, a1⟩ <;> rcases key y q hy with ⟨l2, a2⟩ | ⟨l2, a2⟩
      · exact blk_inj hD h.1 a1 a2 e
      · exact (cross a1 a2 e).elim
      · exact (cross a2 a1 e.symm).elim
      · have := ih.1 _ _ p q a1 a2 e
        omega
    · rcases key k q hk with ⟨-, a1⟩ | ⟨-, a1⟩
      · obtain ⟨o, ho⟩ := flat_off B i h.1
        exact hD.2 _ q (ho k q a1)
      · exact ih.2 _ q a1
/-- what the tables say of a method that is called on an object; of a static one -/
def okV (y : MethodName) (b : ByteArray) (n : Nat) (ty : Option FieldType) (k : Nat) : Prop := Cond.code y b n ty ∈ wsL_law ∧ Cond.instanceMethod y ∈ wsL_law ∧ Cond.selects y.cls y y ∈ wsL_law ∧ Cond.initialized y.cls ∈ wsL_law ∧ (y.cls ≠ "java/lang/invoke/MethodHandle" ∧ y.cls ≠ "java/lang/invoke/VarHandle" ∧ (parseMethodDescriptor y.desc).map (fun d => d.parameters.length) = some k)
def okS (y : MethodName) (b : ByteArray) (n : Nat) (ty : Option FieldType) (k : Nat) : Prop := Cond.code y b n ty ∈ wsL_law ∧ Cond.static y ∈ wsL_law ∧ Cond.initialized y.cls ∈ wsL_law ∧ (y.cls ≠ "java/lang/invoke/MethodHandle" ∧ y.cls ≠ "java/lang/invoke/VarHandle" ∧ (parseMethodDescriptor y.desc).map (fun d => d.parameters.length) = some k)
/-- the room of a call -/
def rmOk (rm R : Room) (n : Nat) : Prop := (rm.cells = 0 ∧ rm.slots = 0) ∧ rm.frames + 1 ≤ R.frames ∧ 8 + (n + 11) + rm.locals ≤ R.locals
theorem blindR {g : gx} {av : List Value} {C : List va_W} : FrameBlind (va_Pc av (fun U => va_P g.1 vwCl C.flatten U.heap ∧ kx g U)) := fun a U f mk h => ⟨h.1, h.2.1, h.2.2.same rfl⟩
theorem blindU {g : gx} {av : List Value} {C : List va_W} : FrameBlind (va_Pc av (fun U => va_P g.1 vwCl C.flatten U.heap ∧ va_D (fun _ => True) C.flatten ∧ kx g U)) := fun a U f mk h => ⟨h.1, h.2.1, h.2.2.1, h.2.2.2.same rfl⟩
end
section
/-! ===== ROWS over blocks ===== -/
section BROW
variable {p : Program} {l : Launch} {e : Env} {R : Room} {s : State} {m : MethodId} {args : Array Value} {below : List Frame} {meth : Method} {c : Code} {H H0 : Heap} {locs : List Loc} {cells slots : Nat} {Q : State → Prop} {cc : ByteArray} {pc : Nat} {ls : Array Slot} {rest : List Value} {g : gx} {A : Nat → Prop} {B B' : List va_W} {a : Nat}
/-- the top of the stack by another name -/
theorem b_top {x y : Int32} (h : x = y) (k : W p l e R s m args below meth c H locs cells slots Q (F0 m pc ls (.int y :: rest))) : W p l e R s m args below meth c H locs cells slots Q (F0 m pc ls (.int x :: rest)) := h ▸ k
theorem b_get (hexec : p.tables.exec = Jvm.exec) (hb : c.code = cc) {own ref C : String} {T : u_T} {N ci index : Nat} (hts : ∀ w ∈ wsL_law, w.before args s = true) (hin : ∀ w ∈ u_ws C T N, w ∈ wsL_law) (hown : s.vm.findClass own = some m.cls) (hK : kx g s) (hP : va_P g.1 vwCl B.flatten H) (i q0 k : Nat) {b : va_W} {fs : List Value} (h1 : B[i]? = some b) (h2 : b[q0]? = some (a, .inr (ci, fs))) (hc : vwCl[ci]? = some (C, T, N)) (hk : k < N) (hlink : Cond.fieldLink own index ref (T k).2.1 (T k).2.2.1 ∈ wsL_law) (hsame : (T k).1 = ref) {v : Value} (hv : fs[k]? = some v) (hdg : decode cc pc = .ok (.getfield index, 3))
    (kk : W p l e R s m args below meth c H locs cells slots Q (F0 m (pc + 3) ls (v :: rest))) : W p l e R s m args below meth c H locs cells slots Q (F0 m pc ls (.ref a :: rest)) := by
  obtain ⟨f0, e1, -⟩ := flat_at B i q0 h1 h2
  exact va_get hexec hb hts hin hown hK.1 hP f0 e1 hc k hk (hts _ hlink) (fun x h => by rw [← hsame]; exact h) hv hdg kk
theorem b_put (hexec : p.tables.exec = Jvm.exec) (hb : c.code = cc) {own ref C : String} {T : u_T} {N ci index : Nat} (hts : ∀ w ∈ wsL_law, w.before args s = true) (hin : ∀ w ∈ u_ws C T N, w ∈ wsL_law) {ty0 : Nat → FieldType} (hty : ∀ k, k < N → parseFieldDescriptor (T k).2.2.1 = some (ty0 k)) (hnm : ∀ a, a < N → ∀ b, b < N → a ≠ b → (T a).2.1 ≠ (T b).2.1) (hown : s.vm.findClass own = some m.cls) (hK : kx g s) (hW : wd g A H0 B H locs) (i q0 k : Nat) {b : va_W} {fs : List Value} {v : Value} (h1 : B[i]? = some b) (h2 : b[q0]? = some (a, .inr (ci, fs))) (hc : vwCl[ci]? = some (C, T, N)) (hk : k < N) (hlink : Cond.fieldLink own index ref (T k).2.1 (T k).2.2.1 ∈ wsL_law) (hsame : (T k).1 = ref) (hfin : (T k).2.2.2 = false) (hn : narrow (ty0 k) v = v) (hfit : fits (ty0 k) v = true) (hl : k < fs.length) (hB' : B.set i (b.set q0 (a, .inr (ci, fs.set k v))) = B') (hdg : decode cc pc = .ok (.putfield index, 3))
    (kk : ∀ (H1 : Heap) (locs1 : List Loc), wd g A H0 B' H1 locs1 → W p l e R s m args below meth c H1 locs1 cells slots Q (F0 m (pc + 3) ls rest)) : W p l e R s m args below meth c H locs cells slots Q (F0 m pc ls (v :: .ref a :: rest)) := by
  obtain ⟨f0, e1, e2⟩ := flat_at B i q0 h1 h2
  refine va_put hexec hb hts hin ty0 hty hnm hown hK.1 hW.1 hW.2.1 hW.2.2 f0 e1 hc k hk (hts _ hlink) (fun x h => by rw [← hsame]; exact h) hfin (hty k hk) hn hfit hl hdg (fun H1 locs1 hP hD hS => kk H1 locs1 ?_)
  rw [e2, hB'] at hP hD
  exact ⟨hP, hD, hS⟩
theorem b_putF (hexec : p.tables.exec = Jvm.exec) (hb : c.code = cc) {own C : String} {T : u_T} {N ci index : Nat} (hts : ∀ w ∈ wsL_law, w.before args s = true) (hin : ∀ w ∈ u_ws C T N, w ∈ wsL_law) {ty0 : Nat → FieldType} (hty : ∀ k, k < N → parseFieldDescriptor (T k).2.2.1 = some (ty0 k)) (hnm : ∀ a, a < N → ∀ b, b < N → a ≠ b → (T a).2.1 ≠ (T b).2.1) (hown : s.vm.findClass own = some m.cls) (hK : kx g s) (hW : wd g A H0 B H locs) (i q0 k : Nat) {b : va_W} {fs : List Value} {v : Value} (h1 : B[i]? = some b) (h2 : b[q0]? = some (a, .inr (ci, fs))) (hc : vwCl[ci]? = some (C, T, N)) (hk : k < N) (hlink : Cond.fieldLink own index own (T k).2.1 (T k).2.2.1 ∈ wsL_law) (hsame : (T k).1 = own) (hfin : (T k).2.2.2 = true) (hin2 : meth.name = "<init>") (hn : narrow (ty0 k) v = v) (hfit : fits (ty0 k) v = true) (hl : k < fs.length) (hB' : B.set i (b.set q0 (a, .inr (ci, fs.set k v))) = B') (hdg : decode cc pc = .ok (.putfield index, 3))
    (kk : ∀ (H1 : Heap) (locs1 : List Loc), wd g A H0 B' H1 locs1 → W p l e R s m args below meth c H1 locs1 cells slots Q (F0 m (pc + 3) ls rest)) : W p l e R s m args below meth c H locs cells slots Q (F0 m pc ls (v :: .ref a :: rest)) := by
  obtain ⟨f0, e1, e2⟩ := flat_at B i q0 h1 h2
  refine va_putF hexec hb hts hin ty0 hty hnm hown hK.1 hW.1 hW.2.1 hW.2.2 f0 e1 hc k hk (hts _ hlink) (fun x h => by rw [← hsame]; exact h) hfin hin2 hsame (hty k hk) hn hfit hl hdg (fun H1 locs1 hP hD hS => kk H1 locs1 ?_)
  rw [e2, hB'] at hP hD
  exact ⟨hP, hD, hS⟩
theorem in_nI {x : Int32} {j n : Nat} (hx : x = nI j) (hj : j < n) (hn : n.ble 100000 = true) : vp_in x n ∧ x.toNatClampNeg = j := by
  have hn := Nat.le_of_ble_eq_true hn
  have h31 : j < 2 ^ 31 := by omega
  subst hx
  exact ⟨vp_in_nI hj (by omega), nI_clamp h31⟩
theorem b_iald (hexec : p.tables.exec = Jvm.exec) (hb : c.code = cc) (hK : kx g s) (hP : va_P g.1 vwCl B.flatten H) (i k j : Nat) {b : va_W} {n : Nat} {f : Nat → Int32} {x v : Int32} (h1 : B[i]? = some b) (h2 : b[k]? = some (a, .inl (g.2.1, n, .inl f))) (hx : x = nI j) (hj : j < n) (hn : n.ble 100000 = true) (hv : f j = v) (hdg : decode cc pc = .ok (.iaload, 1))
    (kk : W p l e R s m args below meth c H locs cells slots Q (F0 m (pc + 1) ls (.int v :: rest))) : W p l e R s m args below meth c H locs cells slots Q (F0 m pc ls (.int x :: .ref a :: rest)) := by
  obtain ⟨f0, e1, -⟩ := flat_at B i k h1 h2
  obtain ⟨hi, hc⟩ := in_nI hx hj hn
  refine va_iald hexec hb hK.1 hP f0 0 e1 rfl hi hdg ?_
  rw [hc, hv]
  exact kk
theorem b_cald (hexec : p.tables.exec = Jvm.exec) (hb : c.code = cc) (hK : kx g s) (hP : va_P g.1 vwCl B.flatten H) (i k j : Nat) {b : va_W} {n : Nat} {f : Nat → Int32} {x v : Int32} (h1 : B[i]? = some b) (h2 : b[k]? = some (a, .inl (g.2.2.1, n, .inl f))) (hx : x = nI j) (hj : j < n) (hn : n.ble 100000 = true) (hv : f j = v) (hdg : decode cc pc = .ok (.caload, 1))
    (kk : W p l e R s m args below meth c H locs cells slots Q (F0 m (pc + 1) ls (.int v :: rest))) : W p l e R s m args below meth c H locs cells slots Q (F0 m pc ls (.int x :: .ref a :: rest)) := by
  obtain ⟨f0, e1, -⟩ := flat_at B i k h1 h2
  obtain ⟨hi, hc⟩ := in_nI hx hj hn
  refine va_cald hexec hb hK.1 hP f0 1 e1 rfl hi hdg ?_
  rw [hc, hv]
  exact kk
theorem b_aald (hexec : p.tables.exec = Jvm.exec) (hb : c.code = cc) (hK : kx g s) (hP : va_P g.1 vwCl B.flatten H) (i k j : Nat) {b : va_W} {n : Nat} {f : Nat → Option Nat} {x : Int32} {v : Nat} (h1 : B[i]? = some b) (h2 : b[k]? = some (a, .inl (g.2.2.2, n, .inr (.inr (.inr (.inr f)))))) (hx : x = nI j) (hj : j < n) (hn : n.ble 100000 = true) (hv : f j = some v) (hdg : decode cc pc = .ok (.aaload, 1))
    (kk : W p l e R s m args below meth c H locs cells slots Q (F0 m (pc + 1) ls (.ref v :: rest))) : W p l e R s m args below meth c H locs cells slots Q (F0 m pc ls (.int x :: .ref a :: rest)) := by
  obtain ⟨f0, e1, -⟩ := flat_at B i k h1 h2
  obtain ⟨hi, hc⟩ := in_nI hx hj hn
  refine va_aldq hexec hb hK.1 hP f0 2 e1 rfl hi hdg ?_
  rw [hc, hv]
  exact kk
theorem b_iast (hexec : p.tables.exec = Jvm.exec) (hb : c.code = cc) (hK : kx g s) (hW : wd g A H0 B H locs) (i k j : Nat) {b : va_W} {n : Nat} {f : Nat → Int32} {x v : Int32} (h1 : B[i]? = some b) (h2 : b[k]? = some (a, .inl (g.2.1, n, .inl f))) (hx : x = nI j) (hj : j < n) (hn : n.ble 100000 = true) (hB' : B.set i (b.set k (a, .inl (g.2.1, n, .inl (upd f j v)))) = B') (hdg : decode cc pc = .ok (.iastore, 1))
    (kk : ∀ (H1 : Heap) (locs1 : List Loc), wd g A H0 B' H1 locs1 → W p l e R s m args below meth c H1 locs1 cells slots Q (F0 m (pc + 1) ls rest)) : W p l e R s m args below meth c H locs cells slots Q (F0 m pc ls (.int v :: .int x :: .ref a :: rest)) := by
  obtain ⟨f0, e1, e2⟩ := flat_at B i k h1 h2
  obtain ⟨hi, hc⟩ := in_nI hx hj hn
  refine va_iast hexec hb hK.1 hW.1 hW.2.1 hW.2.2 f0 0 e1 rfl hi hdg (fun H1 locs1 hP hD hS => kk H1 locs1 ?_)
  rw [hc, e2, hB'] at hP hD
  exact ⟨hP, hD, hS⟩
theorem b_cast (hexec : p.tables.exec = Jvm.exec) (hb : c.code = cc) (hK : kx g s) (hW : wd g A H0 B H locs) (i k j : Nat) {b : va_W} {n : Nat} {f : Nat → Int32} {x v v' : Int32} (h1 : B[i]? = some b) (h2 : b[k]? = some (a, .inl (g.2.2.1, n, .inl f))) (hx : x = nI j) (hj : j < n) (hn : n.ble 100000 = true) (hv : vp_nar .char v = v') (hB' : B.set i (b.set k (a, .inl (g.2.2.1, n, .inl (upd f j v')))) = B') (hdg : decode cc pc = .ok (.castore, 1))
    (kk : ∀ (H1 : Heap) (locs1 : List Loc), wd g A H0 B' H1 locs1 → W p l e R s m args below meth c H1 locs1 cells slots Q (F0 m (pc + 1) ls rest)) : W p l e R s m args below meth c H locs cells slots Q (F0 m pc ls (.int v :: .int x :: .ref a :: rest)) := by
  obtain ⟨f0, e1, e2⟩ := flat_at B i k h1 h2
  obtain ⟨hi, hc⟩ := in_nI hx hj hn
  refine va_cast hexec hb hK.1 hW.1 hW.2.1 hW.2.2 f0 1 e1 rfl hi hdg (fun H1 locs1 hP hD hS => kk H1 locs1 ?_)
  rw [hc, hv, e2, hB'] at hP hD
  exact ⟨hP, hD, hS⟩
/-- System.arraycopy of n cells from the start to the start -/
theorem b_copy (hexec : p.tables.exec = Jvm.exec) (hb : c.code = cc) (hml : c.maxLocals = ls.size) {own : String} {index : Nat} (hown : s.vm.findClass own = some m.cls) (hts : ∀ w ∈ wsL_law, w.before args s = true) (hlink : Cond.methodLink own index arraycopyName ∈ wsL_law) (hnat : Cond.native arraycopyName ∈ wsL_law) (hstat : Cond.static arraycopyName ∈ wsL_law) (hini : Cond.initialized "java/lang/System" ∈ wsL_law)
    (hK : kx g s) (hW : wd g A H0 B H locs) (i0 k0 i1 k1 : Nat) {a0 : Nat} {b0 b1 : va_W} {n : Nat} {f f1 : Nat → Int32} {x : Int32} (h0 : B[i0]? = some b0) (h0' : b0[k0]? = some (a0, .inl (g.2.1, n, .inl f))) (h1 : B[i1]? = some b1) (h1' : b1[k1]? = some (a, .inl (g.2.1, n, .inl f1))) (hx : x = nI n) (hn : n.ble 100000 = true)
    (hframes : 1 ≤ R.frames) (hlocals : (rest.map fun v => v.category).sum + (nativeFrameWords "java/lang/System" "arraycopy" 5 + 11) ≤ R.locals) (hB' : B.set i1 (b1.set k1 (a, .inl (g.2.1, n, .inl f))) = B') (hdg : decode cc pc = .ok (.invokestatic index, 3))
    (kk : ∀ (H1 : Heap) (locs1 : List Loc), wd g A H0 B' H1 locs1 → W p l e R s m args below meth c H1 locs1 cells slots Q (F0 m (pc + 3) ls rest)) : W p l e R s m args below meth c H locs cells slots Q (F0 m pc ls (.int x :: .int 0 :: .ref a :: .int 0 :: .ref a0 :: rest)) := by
  obtain ⟨f0, e1, -⟩ := flat_at B i0 k0 h0 h0'
  obtain ⟨f9, e3, e4⟩ := flat_at B i1 k1 h1 h1'
  have hn := Nat.le_of_ble_eq_true hn
  have hc : (nI n).toNatClampNeg = n := nI_clamp (by omega)
  have h00 : (0 : Int32).toNatClampNeg = 0 := by decide +kernel
  subst hx
  refine va_copyi hexec hb hml hown (hts _ hlink) (hts _ hnat) (hts _ hstat) (hts _ hini) hK.1 hW.1 hW.2.1 hW.2.2 f0 f9 0 0 e1 e3 rfl rfl rfl (by decide +kernel) (by decide +kernel) (nI_pos (by omega)) (by rw [h00, hc]; omega) (by rw [h00, hc]; omega) (fun _ _ => rfl) hframes hlocals hdg (fun H1 locs1 hP hD hS => kk H1 locs1 ?_)
  rw [h00, hc] at hP hD
  have hcell : ∀ (z : Nat × va_E), va_at g.1 vwCl (a, .inl (g.2.1, n, .inl (va_cpy f f1 0 0 n))) H1 → va_at g.1 vwCl (a, .inl (g.2.1, n, .inl f)) H1 := by
    intro _ h
    have h : H1[a]? = some (vp_cell g.2.1 (n, .inl (va_cpy f f1 0 0 n))) := h
    show H1[a]? = some (vp_cell g.2.1 (n, .inl f))
    rw [h, vp_cell_i, vp_cell_i]
    congr 1
    show ({ cls := g.2.1, slots := Array.ofFn (n := n) fun j => Value.int (va_cpy f f1 0 0 n j.val), vm := .none } : Cell) = { cls := g.2.1, slots := Array.ofFn (n := n) fun j => Value.int (f j.val), vm := .none }
    congr 2
    funext j
    rw [pk_cpy_in (Nat.zero_le _) (by have := j.isLt; omega)]
    simp
  have hl := (List.getElem?_eq_some_iff.mp e3).1
  have hP2 : va_P g.1 vwCl (B.flatten.set f9 (a, .inl (g.2.1, n, .inl f))) H1 := by
    intro k q hk
    by_cases hkf : k = f9
    · subst hkf
      rw [List.getElem?_set_self hl] at hk
      cases hk
      exact hcell (0, .inr (0, [])) (hP k _ (List.getElem?_set_self hl))
    · rw [List.getElem?_set_ne (Ne.symm hkf)] at hk
      exact hP k q (by rw [List.getElem?_set_ne (Ne.symm hkf)]; exact hk)
  have hD2 : va_D A (B.flatten.set f9 (a, .inl (g.2.1, n, .inl f))) := hW.2.1.set e3
  rw [e4, hB'] at hP2 hD2
  exact ⟨hP2, hD2, hS⟩
/-! branches over numbers that are names of naturals -/
theorem b_ge {x y : Int32} (a b : Nat) (hexec : p.tables.exec = Jvm.exec) (hb : c.code = cc) {off : Int} {tgt : Nat} (hx : x = nI a) (hy : y = nI b) (ha : a < 2 ^ 31) (hb2 : b < 2 ^ 31) (hdg : decode cc pc = .ok (.if_icmp .ge off, 3)) (ht : (pc : Int) + off = (tgt : Int))
    (kt : b ≤ a → W p l e R s m args below meth c H locs cells slots Q (F0 m tgt ls rest)) (kf : a < b → W p l e R s m args below meth c H locs cells slots Q (F0 m (pc + 3) ls rest)) : W p l e R s m args below meth c H locs cells slots Q (F0 m pc ls (.int y :: .int x :: rest)) := by
  subst hx; subst hy
  exact lv_icmp_ge hexec hb hdg ht (fun h => kt ((nI_leI hb2 ha).mp h)) (fun h => kf (Nat.not_le.mp fun q => h ((nI_leI hb2 ha).mpr q)))
theorem b_gt {x y : Int32} (a b : Nat) (hexec : p.tables.exec = Jvm.exec) (hb : c.code = cc) {off : Int} {tgt : Nat} (hx : x = nI a) (hy : y = nI b) (ha : a < 2 ^ 31) (hb2 : b < 2 ^ 31) (hdg : decode cc pc = .ok (.if_icmp .gt off, 3)) (ht : (pc : Int) + off = (tgt : Int))
    (kt : b < a → W p l e R s m args below meth c H locs cells slots Q (F0 m tgt ls rest)) (kf : a ≤ b → W p l e R s m args below meth c H locs cells slots Q (F0 m (pc + 3) ls rest)) : W p l e R s m args below meth c H locs cells slots Q (F0 m pc ls (.int y :: .int x :: rest)) := by
  subst hx; subst hy
  exact lv_icmp_gt hexec hb hdg ht (fun h => kt ((nI_ltI hb2 ha).mp h)) (fun h => kf (Nat.not_lt.mp fun q => h ((nI_ltI hb2 ha).mpr q)))
theorem b_lt {x y : Int32} (a b : Nat) (hexec : p.tables.exec = Jvm.exec) (hb : c.code = cc) {off : Int} {tgt : Nat} (hx : x = nI a) (hy : y = nI b) (ha : a < 2 ^ 31) (hb2 : b < 2 ^ 31) (hdg : decode cc pc = .ok (.if_icmp .lt off, 3)) (ht : (pc : Int) + off = (tgt : Int))
    (kt : a < b → W p l e R s m args below meth c H locs cells slots Q (F0 m tgt ls rest)) (kf : b ≤ a → W p l e R s m args below meth c H locs cells slots Q (F0 m (pc + 3) ls rest)) : W p l e R s m args below meth c H locs cells slots Q (F0 m pc ls (.int y :: .int x :: rest)) := by
  subst hx; subst hy
  exact lv_icmp_lt hexec hb hdg ht (fun h => kt ((nI_ltI ha hb2).mp h)) (fun h => kf (Nat.not_lt.mp fun q => h ((nI_ltI ha hb2).mpr q)))
theorem b_le {x y : Int32} (a b : Nat) (hexec : p.tables.exec = Jvm.exec) (hb : c.code = cc) {off : Int} {tgt : Nat} (hx : x = nI a) (hy : y = nI b) (ha : a < 2 ^ 31) (hb2 : b < 2 ^ 31) (hdg : decode cc pc = .ok (.if_icmp .le off, 3)) (ht : (pc : Int) + off = (tgt : Int))
    (kt : a ≤ b → W p l e R s m args below meth c H locs cells slots Q (F0 m tgt ls rest)) (kf : b < a → W p l e R s m args below meth c H locs cells slots Q (F0 m (pc + 3) ls rest)) : W p l e R s m args below meth c H locs cells slots Q (F0 m pc ls (.int y :: .int x :: rest)) := by
  subst hx; subst hy
  exact lv_icmp_le hexec hb hdg ht (fun h => kt ((nI_leI ha hb2).mp h)) (fun h => kf (Nat.not_le.mp fun q => h ((nI_leI ha hb2).mpr q)))
theorem b_eq {x y : Int32} (a b : Nat) (hexec : p.tables.exec = Jvm.exec) (hb : c.code = cc) {off : Int} {tgt : Nat} (hx : x = nI a) (hy : y = nI b) (ha : a < 2 ^ 31) (hb2 : b < 2 ^ 31) (hdg : decode cc pc = .ok (.if_icmp .eq off, 3)) (ht : (pc : Int) + off = (tgt : Int))
    (kt : a = b → W p l e R s m args below meth c H locs cells slots Q (F0 m tgt ls rest)) (kf : a ≠ b → W p l e R s m args below meth c H locs cells slots Q (F0 m (pc + 3) ls rest)) : W p l e R s m args below meth c H locs cells slots Q (F0 m pc ls (.int y :: .int x :: rest)) := by
  subst hx; subst hy
  exact lv_icmp_eq hexec hb hdg ht (fun h => kt ((nI_eq ha hb2).mp h)) (fun h => kf (fun q => h ((nI_eq ha hb2).mpr q)))
theorem b_ne {x y : Int32} (a b : Nat) (hexec : p.tables.exec = Jvm.exec) (hb : c.code = cc) {off : Int} {tgt : Nat} (hx : x = nI a) (hy : y = nI b) (ha : a < 2 ^ 31) (hb2 : b < 2 ^ 31) (hdg : decode cc pc = .ok (.if_icmp .ne off, 3)) (ht : (pc : Int) + off = (tgt : Int))
    (kt : a ≠ b → W p l e R s m args below meth c H locs cells slots Q (F0 m tgt ls rest)) (kf : a = b → W p l e R s m args below meth c H locs cells slots Q (F0 m (pc + 3) ls rest)) : W p l e R s m args below meth c H locs cells slots Q (F0 m pc ls (.int y :: .int x :: rest)) := by
  subst hx; subst hy
  exact lv_icmp_ne hexec hb hdg ht (fun h => kt (fun q => h ((nI_eq ha hb2).mpr q))) (fun h => kf ((nI_eq ha hb2).mp h))
/-- a truth value -/
def bI (c : Prop) [Decidable c] : Int32 := if c then 1 else 0
theorem bI_t {c : Prop} [Decidable c] (h : c) : (1 : Int32) = bI c := by rw [bI, if_pos h]
theorem bI_f {c : Prop} [Decidable c] (h : ¬ c) : (0 : Int32) = bI c := by rw [bI, if_neg h]
theorem b_eq0 {q : Prop} [Decidable q] (hexec : p.tables.exec = Jvm.exec) (hb : c.code = cc) {off : Int} {tgt : Nat} (hdg : decode cc pc = .ok (.ifCond .eq off, 3)) (ht : (pc : Int) + off = (tgt : Int))
    (kt : ¬ q → W p l e R s m args below meth c H locs cells slots Q (F0 m tgt ls rest)) (kf : q → W p l e R s m args below meth c H locs cells slots Q (F0 m (pc + 3) ls rest)) : W p l e R s m args below meth c H locs cells slots Q (F0 m pc ls (.int (bI q) :: rest)) :=
  lv_if_eq hexec hb hdg ht (fun h => kt (fun hq => by rw [bI, if_pos hq] at h; exact absurd h (by decide +kernel))) (fun h => kf (Decidable.byContradiction fun hq => h (by rw [bI, if_neg hq])))
theorem b_ne0 {q : Prop} [Decidable q] (hexec : p.tables.exec = Jvm.exec) (hb : c.code = cc) {off : Int} {tgt : Nat} (hdg : decode cc pc = .ok (.ifCond .ne off, 3)) (ht : (pc : Int) + off = (tgt : Int))
    (kt : q → W p l e R s m args below meth c H locs cells slots Q (F0 m tgt ls rest)) (kf : ¬ q → W p l e R s m args below meth c H locs cells slots Q (F0 m (pc + 3) ls rest)) : W p l e R s m args below meth c H locs cells slots Q (F0 m pc ls (.int (bI q) :: rest)) :=
  lv_if_ne hexec hb hdg ht (fun h => kt (Decidable.byContradiction fun hq => h (by rw [bI, if_neg hq]))) (fun h => kf (fun hq => by rw [bI, if_pos hq] at h; exact absurd h (by decide +kernel)))
/-! ends -/
theorem rI_ret {v r : Int32} (hexec : p.tables.exec = Jvm.exec) (hb : c.code = cc) (hr : meth.sig.returnType = some .int) (hlocks : meth.locks = false) (hdg : decode cc pc = .ok (.ireturn, 1)) (h : v = r) : W p l e R s m args below meth c s.heap [] 0 0 (MQ below (qR (.int r)) args s 0 0 (fun _ => False)) (F0 m pc ls [.int v]) :=
  W.iret hexec hb hr (fun t ht _ => ⟨by rw [h], ht⟩) (fun _ h => absurd h List.not_mem_nil) hdg hlocks
theorem rZ_ret {v : Int32} {q : Prop} [Decidable q] (hexec : p.tables.exec = Jvm.exec) (hb : c.code = cc) (hr : meth.sig.returnType = some .boolean) (hlocks : meth.locks = false) (hdg : decode cc pc = .ok (.ireturn, 1)) (h : v = bI q) : W p l e R s m args below meth c s.heap [] 0 0 (MQ below (qR (.int (bI q))) args s 0 0 (fun _ => False)) (F0 m pc ls [.int v]) := by
  subst h
  exact W.zret hexec hb hr (by unfold bI; split <;> rfl) (fun t ht _ => ⟨rfl, ht⟩) (fun _ h => absurd h List.not_mem_nil) hdg hlocks
theorem uV_ret {S : Type} {C : List va_W} {post : S → Prop} {C1 : S → List va_W} (u : S) (hW : wd g (fun q => q ∈ adr C) s.heap B H locs) (hexec : p.tables.exec = Jvm.exec) (hb : c.code = cc) (hr : meth.sig.returnType = none) (hlocks : meth.locks = false) (hdg : decode cc pc = .ok (.return_, 1)) (hp : post u) (hB : B = C1 u) (ha : (C1 u).map (List.map Prod.fst) = C.map (List.map Prod.fst)) : W p l e R s m args below meth c H locs 0 0 (MQ below (qU g C (fun _ => none) post C1) args s 0 0 (fun q => q ∈ adr C)) (F0 m pc ls []) := by
  subst hB
  exact W.vret hexec hb hr (fun t ht _ => ⟨u, rfl, hp, by rw [ht]; exact hW.1, ha, by rw [ht]; exact hW.2.2.1, fun q h1 h2 => by rw [ht]; exact hW.2.2.2.1 q h1 h2⟩) hW.2.2.2.2 hdg hlocks
theorem uI_ret {S : Type} {C : List va_W} {r : S → Int32} {post : S → Prop} {C1 : S → List va_W} {v : Int32} (u : S) (hW : wd g (fun q => q ∈ adr C) s.heap B H locs) (hexec : p.tables.exec = Jvm.exec) (hb : c.code = cc) (hr : meth.sig.returnType = some .int) (hlocks : meth.locks = false) (hdg : decode cc pc = .ok (.ireturn, 1)) (hv : v = r u) (hp : post u) (hB : B = C1 u) (ha : (C1 u).map (List.map Prod.fst) = C.map (List.map Prod.fst)) : W p l e R s m args below meth c H locs 0 0 (MQ below (qU g C (fun u => some (.int (r u))) post C1) args s 0 0 (fun q => q ∈ adr C)) (F0 m pc ls [.int v]) := by
  subst hB; subst hv
  exact W.iret hexec hb hr (fun t ht _ => ⟨u, rfl, hp, by rw [ht]; exact hW.1, ha, by rw [ht]; exact hW.2.2.1, fun q h1 h2 => by rw [ht]; exact hW.2.2.2.1 q h1 h2⟩) hW.2.2.2.2 hdg hlocks
theorem uZ_ret {S : Type} {C : List va_W} {r : S → Int32} {post : S → Prop} {C1 : S → List va_W} {v : Int32} (u : S) (hW : wd g (fun q => q ∈ adr C) s.heap B H locs) (hexec : p.tables.exec = Jvm.exec) (hb : c.code = cc) (hr : meth.sig.returnType = some .boolean) (hlocks : meth.locks = false) (hdg : decode cc pc = .ok (.ireturn, 1)) (hz : narrow .boolean (.int v) = .int v) (hv : v = r u) (hp : post u) (hB : B = C1 u) (ha : (C1 u).map (List.map Prod.fst) = C.map (List.map Prod.fst)) : W p l e R s m args below meth c H locs 0 0 (MQ below (qU g C (fun u => some (.int (r u))) post C1) args s 0 0 (fun q => q ∈ adr C)) (F0 m pc ls [.int v]) := by
  subst hB; subst hv
  exact W.zret hexec hb hr hz (fun t ht _ => ⟨u, rfl, hp, by rw [ht]; exact hW.1, ha, by rw [ht]; exact hW.2.2.1, fun q h1 h2 => by rw [ht]; exact hW.2.2.2.1 q h1 h2⟩) hW.2.2.2.2 hdg hlocks
/-! calls -/
theorem run_R {y : MethodName} {b : ByteArray} {n : Nat} {ty : Option FieldType} {rm : Room} {r : Value} {st0 : List Value} {av : Array Value} (hr : va_Run p l e R s m args below meth c H locs cells slots 0 0 (F0 m pc ls st0) rest (qR r av) (fun _ => False))
    (kk : W p l e R s m args below meth c H locs cells slots Q (F0 m (pc + 3) ls (r :: rest))) : W p l e R s m args below meth c H locs cells slots Q (F0 m pc ls st0) := by
  intro T hT X
  obtain ⟨v, st₀, t, T', L, h1, X', hL, e1, e2, ⟨q1, q2⟩, st⟩ := hr T hT X
  have hL0 : L = [] := by
    cases L with
    | nil => rfl
    | cons q L => exact (hL q List.mem_cons_self).elim
  subst hL0
  cases q1
  rw [List.append_nil] at X'
  obtain ⟨t2, a1, b1⟩ := kk T' (by rw [e1, q2, h1]) X'
  exact ⟨t2, st t2 a1, b1⟩
theorem run_U {S : Type} {C : List va_W} {r : S → Option Value} {post : S → Prop} {C1 : S → List va_W} {st0 : List Value} {av : Array Value} (hW : wd g A H0 B H locs) (is : List Nat) (hC : is.map (fun i => B[i]?) = C.map some) (hn : va_nd is = true) (hr : va_Run p l e R s m args below meth c H locs cells slots 0 0 (F0 m pc ls st0) rest (qU g C r post C1 av) (fun q => q ∈ adr C))
    (kk : ∀ (u : S) (H1 : Heap) (locs1 : List Loc), post u → wd g A H0 (sets B is (C1 u)) H1 locs1 → W p l e R s m args below meth c H1 locs1 cells slots Q (F0 m (pc + 3) ls ((r u).toList ++ rest))) : W p l e R s m args below meth c H locs cells slots Q (F0 m pc ls st0) := by
  intro T hT X
  obtain ⟨v, st₀, t, T', L, h1, X', hL, e1, e2, ⟨u, q1, q2, q3, q4, q5, q6⟩, st⟩ := hr T hT X
  cases q1
  have hW1 := hW.call (H1 := T'.heap) hC hn q4 (by rw [e1]; exact q3) (by rw [e1, ← h1]; exact q5) (fun q h1' h2 => by rw [e1, ← h1]; exact q6 q (by rw [h1]; exact h1') h2) hL rfl
  obtain ⟨t2, a1, b1⟩ := kk u T'.heap _ q2 hW1 T' rfl X'
  exact ⟨t2, st t2 a1, b1⟩
/-- the receiver of a call is an object of its class -/
theorem b_recv {B : List va_W} {a : Nat} (hK : kx g s) (hP : va_P g.1 vwCl B.flatten H) (i k : Nat) {b : va_W} {ci : Nat} {fs : List Value} {q : vw_C} {C : String} (h1 : B[i]? = some b) (h2 : b[k]? = some (a, .inr (ci, fs))) (hc : vwCl[ci]? = some q) (hq : q.1 = C) : ∃ cell : Cell, H[a]? = some cell ∧ cell.vm.isStatics = false ∧ s.vm.findClass C = some cell.cls := by
  obtain ⟨f0, e1, -⟩ := flat_at B i k h1 h2
  rw [← hq]
  exact va_recv hK.1 hP hc e1
section CALLS
variable {y : MethodName} {b : ByteArray} {n nL index : Nat} {ty : Option FieldType} {rm : Room} {As : List Value} {C : List va_W} {r : Value} {own : String} {st0 : List Value}
theorem cwOk {Cc : String} (hts : ∀ w ∈ wsL_law, w.before args s = true) (ok : okV y b n ty As.length) (hlink : Cond.methodLink own index y ∈ wsL_law) (hR : rmOk rm R n) (hC : y.cls = Cc) : CallW R s args own Cc index y b n ty (wm y b n ty) rm 0 0 As.length := by
  subst hC
  exact ⟨callB_of As.length hts (wm_good ok.1) rfl hR.1.1 hR.1.2 (hts _ ok.2.2.2.1) (hts _ hlink) ok.2.2.2.2 hR.2, hts _ ok.2.1, hts _ ok.2.2.1⟩
theorem csOk (hts : ∀ w ∈ wsL_law, w.before args s = true) (ok : okS y b n ty As.length) (hlink : Cond.methodLink own index y ∈ wsL_law) (hR : rmOk rm R n) : CallB R s args own index y b n ty (wm y b n ty) rm 0 0 As.length ∧ (Cond.static y).before args s = true :=
  ⟨callB_of As.length hts (wm_good ok.1) rfl hR.1.1 hR.1.2 (hts _ ok.2.2.1) (hts _ hlink) ok.2.2.2 hR.2, hts _ ok.2.1⟩
theorem cnOk (hts : ∀ w ∈ wsL_law, w.before args s = true) (ok : okS y b n ty As.length) (hlink : va_Nw (.methodLinkNest own index y "BellTowns") s) (hR : rmOk rm R n) : va_CN R s args own index y "BellTowns" b n ty (wm y b n ty) rm 0 0 As.length ∧ (Cond.static y).before args s = true ∧ True :=
  ⟨va_cnB As.length hts (wm_good ok.1) rfl hR.1.1 hR.1.2 hlink (hts _ ok.2.2.1) ok.2.2.2 hR.2, hts _ ok.2.1, trivial⟩
/-- a read, called on an object -/
theorem call_VR {ym : MethodName} {bm : ByteArray} {tym : Option FieldType} {avm : List Value} (E : ent p s m meth c ym bm nL tym avm) (hargs : args = avm.toArray) (hK : kx g s) (hP : va_P g.1 vwCl B.flatten H) (hM : cR l g y b n ty rm (.ref a :: As) C r) (ok : okV y b n ty As.length) (hown : ym.cls = own) (hlink : Cond.methodLink own index y ∈ wsL_law) (is : List Nat) (hC : is.map (fun i => B[i]?) = C.map some) (hrc : ∃ cell : Cell, H[a]? = some cell ∧ cell.vm.isStatics = false ∧ s.vm.findClass y.cls = some cell.cls) (hR : rmOk rm R n) (hsz : ls.size = nL) (hrest : (rest.map fun v => v.category).sum ≤ 8) (hroom : cells ≤ R.cells ∧ slots ≤ R.slots) (hst : st0 = As.reverse ++ .ref a :: rest) (hdg : decode bm pc = .ok (.invokevirtual index, 3))
    (kk : W p l e R s m args below meth c H locs cells slots Q (F0 m (pc + 3) ls (r :: rest))) : W p l e R s m args below meth c H locs cells slots Q (F0 m pc ls st0) := by
  subst hargs; subst hst; subst hown
  exact run_R (y := y) (b := b) (n := n) (ty := ty) (rm := rm) (va_runV ⟨E.1, E.2.1, E.2.2.2.1, E.2.2.2.2.2.1, E.2.2.2.2.1⟩ hM (cwOk E.2.2.2.2.1 ok hlink hR rfl) ⟨blindR, hrc, fun U hU hWm => ⟨rfl, by rw [hU]; exact pick_P hP is hC, hK.warm hWm⟩⟩ rfl rfl hsz rfl (lv_room hrest) hdg hroom) kk
/-- a static read -/
theorem call_SR {ym : MethodName} {bm : ByteArray} {tym : Option FieldType} {avm : List Value} (E : ent p s m meth c ym bm nL tym avm) (hargs : args = avm.toArray) (hK : kx g s) (hP : va_P g.1 vwCl B.flatten H) (hM : cR l g y b n ty rm As C r) (ok : okS y b n ty As.length) (hown : ym.cls = own) (hlink : Cond.methodLink own index y ∈ wsL_law) (is : List Nat) (hC : is.map (fun i => B[i]?) = C.map some) (hR : rmOk rm R n) (hsz : ls.size = nL) (hrest : (rest.map fun v => v.category).sum ≤ 8) (hroom : cells ≤ R.cells ∧ slots ≤ R.slots) (hst : st0 = As.reverse ++ rest) (hdg : decode bm pc = .ok (.invokestatic index, 3))
    (kk : W p l e R s m args below meth c H locs cells slots Q (F0 m (pc + 3) ls (r :: rest))) : W p l e R s m args below meth c H locs cells slots Q (F0 m pc ls st0) := by
  subst hargs; subst hst; subst hown
  exact run_R (y := y) (b := b) (n := n) (ty := ty) (rm := rm) (va_runS ⟨E.1, E.2.1, E.2.2.2.1, E.2.2.2.2.2.1, E.2.2.2.2.1⟩ hM (csOk E.2.2.2.2.1 ok hlink hR) ⟨blindR, fun U hU hWm => ⟨rfl, by rw [hU]; exact pick_P hP is hC, hK.warm hWm⟩⟩ rfl rfl hsz rfl (lv_room hrest) hdg hroom) kk
/-- a static read of a nest mate's -/
theorem call_NR {ym : MethodName} {bm : ByteArray} {tym : Option FieldType} {avm : List Value} (E : ent p s m meth c ym bm nL tym avm) (hargs : args = avm.toArray) (hK : kx g s) (hP : va_P g.1 vwCl B.flatten H) (hM : cR l g y b n ty rm As C r) (ok : okS y b n ty As.length) (hown : ym.cls = own) (hlink : va_Nw (.methodLinkNest own index y "BellTowns") s) (is : List Nat) (hC : is.map (fun i => B[i]?) = C.map some) (hR : rmOk rm R n) (hsz : ls.size = nL) (hrest : (rest.map fun v => v.category).sum ≤ 8) (hroom : cells ≤ R.cells ∧ slots ≤ R.slots) (hst : st0 = As.reverse ++ rest) (hdg : decode bm pc = .ok (.invokestatic index, 3))
    (kk : W p l e R s m args below meth c H locs cells slots Q (F0 m (pc + 3) ls (r :: rest))) : W p l e R s m args below meth c H locs cells slots Q (F0 m pc ls st0) := by
  subst hargs; subst hst; subst hown
  exact run_R (y := y) (b := b) (n := n) (ty := ty) (rm := rm) (va_runSN ⟨E.1, E.2.1, E.2.2.2.1, E.2.2.2.2.2.1, E.2.2.2.2.1⟩ hM (cnOk E.2.2.2.2.1 ok hlink hR) ⟨blindR, fun U hU hWm => ⟨rfl, by rw [hU]; exact pick_P hP is hC, hK.warm hWm⟩⟩ rfl rfl hsz rfl (lv_room hrest) hdg hroom) kk
/-- a write, called on an object -/
theorem call_VU {S : Type} {ru : S → Option Value} {post : S → Prop} {C1 : S → List va_W} {ym : MethodName} {bm : ByteArray} {tym : Option FieldType} {avm : List Value} (E : ent p s m meth c ym bm nL tym avm) (hargs : args = avm.toArray) (hK : kx g s) (hW : wd g A H0 B H locs) (hM : cU l g y b n ty rm (.ref a :: As) C ru post C1) (ok : okV y b n ty As.length) (hown : ym.cls = own) (hlink : Cond.methodLink own index y ∈ wsL_law) (is : List Nat) (hC : is.map (fun i => B[i]?) = C.map some) (hn : va_nd is = true) (hrc : ∃ cell : Cell, H[a]? = some cell ∧ cell.vm.isStatics = false ∧ s.vm.findClass y.cls = some cell.cls) (hR : rmOk rm R n) (hsz : ls.size = nL) (hrest : (rest.map fun v => v.category).sum ≤ 8) (hroom : cells ≤ R.cells ∧ slots ≤ R.slots) (hst : st0 = As.reverse ++ .ref a :: rest) (hdg : decode bm pc = .ok (.invokevirtual index, 3))
    (kk : ∀ (u : S) (H1 : Heap) (locs1 : List Loc), post u → wd g A H0 (sets B is (C1 u)) H1 locs1 → W p l e R s m args below meth c H1 locs1 cells slots Q (F0 m (pc + 3) ls ((ru u).toList ++ rest))) : W p l e R s m args below meth c H locs cells slots Q (F0 m pc ls st0) := by
  subst hargs; subst hst; subst hown
  exact run_U hW is hC hn (va_runV ⟨E.1, E.2.1, E.2.2.2.1, E.2.2.2.2.2.1, E.2.2.2.2.1⟩ hM (cwOk E.2.2.2.2.1 ok hlink hR rfl) ⟨blindU, hrc, fun U hU hWm => ⟨rfl, by rw [hU]; exact pick_P hW.1 is hC, (pick_D hW.2.1 is C hC hn).weaken (fun _ _ _ _ => trivial), hK.warm hWm⟩⟩ rfl rfl hsz rfl (lv_room hrest) hdg hroom) kk
/-- a static write -/
theorem call_SU {S : Type} {ru : S → Option Value} {post : S → Prop} {C1 : S → List va_W} {ym : MethodName} {bm : ByteArray} {tym : Option FieldType} {avm : List Value} (E : ent p s m meth c ym bm nL tym avm) (hargs : args = avm.toArray) (hK : kx g s) (hW : wd g A H0 B H locs) (hM : cU l g y b n ty rm As C ru post C1) (ok : okS y b n ty As.length) (hown : ym.cls = own) (hlink : Cond.methodLink own index y ∈ wsL_law) (is : List Nat) (hC : is.map (fun i => B[i]?) = C.map some) (hn : va_nd is = true) (hR : rmOk rm R n) (hsz : ls.size = nL) (hrest : (rest.map fun v => v.category).sum ≤ 8) (hroom : cells ≤ R.cells ∧ slots ≤ R.slots) (hst : st0 = As.reverse ++ rest) (hdg : decode bm pc = .ok (.invokestatic index, 3))
    (kk : ∀ (u : S) (H1 : Heap) (locs1 : List Loc), post u → wd g A H0 (sets B is (C1 u)) H1 locs1 → W p l e R s m args below meth c H1 locs1 cells slots Q (F0 m (pc + 3) ls ((ru u).toList ++ rest))) : W p l e R s m args below meth c H locs cells slots Q (F0 m pc ls st0) := by
  subst hargs; subst hst; subst hown
  exact run_U hW is hC hn (va_runS ⟨E.1, E.2.1, E.2.2.2.1, E.2.2.2.2.2.1, E.2.2.2.2.1⟩ hM (csOk E.2.2.2.2.1 ok hlink hR) ⟨blindU, fun U hU hWm => ⟨rfl, by rw [hU]; exact pick_P hW.1 is hC, (pick_D hW.2.1 is C hC hn).weaken (fun _ _ _ _ => trivial), hK.warm hWm⟩⟩ rfl rfl hsz rfl (lv_room hrest) hdg hroom) kk
end CALLS
end BROW
/-- a loop by a number that rises to N -/
theorem loopN (P : Nat → Prop) (N : Nat) (h : ∀ i, i ≤ N → (i < N → P (i + 1)) → P i) : ∀ i, i ≤ N → P i := by
  have key : ∀ n i, i + n = N → P i := by
    intro n
    induction n with
    | zero => intro i hi; exact h i (by omega) (fun hl => by omega)
    | succ n ih => intro i hi; exact h i (by omega) (fun _ => ih (i + 1) (by omega))
  intro i hi
  exact key (N - i) i (by omega)
/-- the state of a game: twelve rows (milestones, ringers, tired, bells, plans, feasts, silences, points, how often loudest; weights, wears, rung), and the numbers FADE, REST, turn, latest loudest, without -/
abbrev sV : Type := Nat → Nat → Int32
def up2 (V : sV) (k j : Nat) (x : Int32) : sV := fun k' => bif Nat.beq k' k then upd (V k) j x else V k'
/-- the cells of a valley at h, its rows at a 0 .. a 11 -/
abbrev vB (g : gx) (h : Nat) (a : Nat → Nat) (V : sV) : va_W := [(h, .inr (3, [.ref (a 0), .ref (a 1), .ref (a 2), .ref (a 3), .ref (a 4), .ref (a 5), .ref (a 6), .ref (a 7), .ref (a 8), .ref (a 9), .ref (a 10), .ref (a 11), .int (V 12 0), .int (V 12 1), .int (V 12 2), .int (V 12 4), .int (V 12 3)])), (a 0, .inl (g.2.1, 6, .inl (V 0))), (a 1, .inl (g.2.1, 6, .inl (V 1))), (a 2, .inl (g.2.1, 6, .inl (V 2))), (a 3, .inl (g.2.1, 6, .inl (V 3))), (a 4, .inl (g.2.1, 6, .inl (V 4))), (a 5, .inl (g.2.1, 6, .inl (V 5))), (a 6, .inl (g.2.1, 6, .inl (V 6))), (a 7, .inl (g.2.1, 6, .inl (V 7))), (a 8, .inl (g.2.1, 6, .inl (V 8))), (a 9, .inl (g.2.1, 30, .inl (V 9))), (a 10, .inl (g.2.1, 30, .inl (V 10))), (a 11, .inl (g.2.1, 30, .inl (V 11)))]
/-- the cells of what is rung in the next turn: reasons, volumes, busy ringers, winners; the loudest town is N 4 0 -/
abbrev rB (g : gx) (h : Nat) (a : Nat → Nat) (N : sV) : va_W := [(h, .inr (1, [.ref (a 0), .ref (a 1), .ref (a 2), .ref (a 3), .int (N 4 0)])), (a 0, .inl (g.2.1, 30, .inl (N 0))), (a 1, .inl (g.2.1, 6, .inl (N 1))), (a 2, .inl (g.2.1, 6, .inl (N 2))), (a 3, .inl (g.2.1, 6, .inl (N 3)))]
/-- the cells of a text -/
abbrev sB (g : gx) (h a : Nat) (f : Nat → Int32) (n : Nat) : va_W := [(h, .inr (2, [.ref a, .int (nI n)])), (a, .inl (g.2.2.1, 60, .inl f))]
/-- the head of a history -/
abbrev hB (g : gx) (h a : Nat) (hh : Nat → Nat) (o n : Nat) : va_W := [(h, .inr (0, [.ref a, .int (nI o), .int (nI n)])), (a, .inl (g.2.2.2, 5, .inr (.inr (.inr (.inr (fun i => some (hh i)))))))]
/-- the class's own object: now, trial, snapshot, whether it is taken, history, ringing, script -/
abbrev bB (h : Nat) (q : Nat → Nat) (z : Int32) : va_W := [(h, .inr (4, [.ref (q 0), .ref (q 1), .ref (q 2), .int z, .ref (q 3), .ref (q 4), .ref (q 5)]))]
/-- the cells of the reference: its rows (row, history, snapshot, aside, loud, text, letter, one, bells) at a 0 .. a 8; its numbers states, isSaved, length, spot, orders are M 9 -/
abbrev mB (g : gx) (h : Nat) (a : Nat → Nat) (M : sV) : va_W := [(h, .inr (5, [.ref (a 0), .ref (a 1), .int (M 9 0), .ref (a 2), .int (M 9 1), .ref (a 3), .ref (a 4), .ref (a 5), .int (M 9 2), .int (M 9 3), .int (M 9 4), .ref (a 6), .ref (a 7), .ref (a 8)])), (a 0, .inl (g.2.1, 149, .inl (M 0))), (a 1, .inl (g.2.1, 745, .inl (M 1))), (a 2, .inl (g.2.1, 149, .inl (M 2))), (a 3, .inl (g.2.1, 149, .inl (M 3))), (a 4, .inl (g.2.1, 6, .inl (M 4))), (a 5, .inl (g.2.1, 60, .inl (M 5))), (a 6, .inl (g.2.1, 32, .inl (M 6))), (a 7, .inl (g.2.1, 32, .inl (M 7))), (a 8, .inl (g.2.1, 32, .inl (M 8)))]
end
section
/-! ===== WORDS of the class's state: what each method answers and does, as functions ===== -/
abbrev isT (x : Int32) : Prop := ¬ x < 0 ∧ ¬ 6 ≤ x
theorem isT_nat {x : Int32} (h : isT x) : ∃ t : Nat, t < 6 ∧ x = nI t := by
  obtain ⟨h1, h2⟩ := h
  have h1 : 0 ≤ x.toInt := by
    have := Int32.not_lt.mp h1
    simpa using Int32.le_iff_toInt_le.mp this
  have h2 : x.toInt < 6 := by
    have := Int32.not_le.mp h2
    simpa using Int32.lt_iff_toInt_lt.mp this
  refine ⟨x.toInt.toNat, by omega, ?_⟩
  apply Int32.toInt_inj.mp
  rw [nI_toInt (by omega)]
  omega
theorem isT_nI {t : Nat} (h : t < 6) : isT (nI t) := ⟨nI_pos (by omega), fun q => absurd ((nI_leI (a := 6) (b := t) (by decide) (by omega)).mp q) (by omega)⟩
abbrev rF (x : Int32) : Int32 := (x + 1) / 2
abbrev inR (x v : Int32) : Prop := (x = 0 ∧ ¬ v < 0 ∧ ¬ 9 < v) ∨ (¬ x = 0 ∧ ¬ v < 1 ∧ ¬ 3 < v)
abbrev tErr (x : Int32) : Int32 := if x < 1 then -2 else if x ≤ 50 then 0 else -2
abbrev hasB (V : sV) (x y : Int32) : Prop := isT x ∧ ¬ y < 0 ∧ ¬ V 3 x.toNatClampNeg ≤ y
abbrev evB (V : sV) (t : Nat) : Int32 := (1 <<< (V 3 t &&& 31)) - 1
abbrev resT (V : sV) (t : Nat) : Int32 := V 1 t - V 2 t
abbrev wantC (V : sV) (t : Nat) : Int32 := if V 12 2 - V 12 2 / 7 * 7 = V 5 t then evB V t else V 4 t
def takB (V : sV) (x : Int32) (t : Nat) : Nat → Bool
  | 0 => false
  | n + 1 => takB V x t n || (decide (n ≠ t) && decide (V 0 n = x))
theorem takB_le {V : sV} {x : Int32} {t i n : Nat} (h : takB V x t i = true) (hn : i ≤ n) : takB V x t n = true := by
  induction n with
  | zero =>
    have : i = 0 := by omega
    subst this; exact h
  | succ n ih =>
    by_cases e : i = n + 1
    · subst e; exact h
    · rw [takB, ih (by omega), Bool.true_or]
def sumF (f : Nat → Int32) : Nat → Int32
  | 0 => 0
  | n + 1 => sumF f n + f n
def cntF (q : Nat → Prop) [DecidablePred q] : Nat → Int32
  | 0 => 0
  | n + 1 => if q n then cntF q n + 1 else cntF q n
abbrev fillV (V : sV) (s : Nat) (w x r : Int32) : sV := up2 (up2 (up2 V 9 s w) 10 s x) 11 s r
abbrev addV (V : sV) (t c : Nat) (w : Int32) : sV := up2 (fillV V (t * 5 + c) w 0 0) 3 t (nI (c + 1))
/-- k bells moved one place to the front, from the place b on -/
def shV (V : sV) (t b : Nat) : Nat → sV
  | 0 => V
  | k + 1 => fillV (shV V t b k) (t * 5 + (b + 1 + k) - 1) (shV V t b k 9 (t * 5 + (b + 1 + k))) (shV V t b k 10 (t * 5 + (b + 1 + k))) (shV V t b k 11 (t * 5 + (b + 1 + k)))
abbrev remV (V : sV) (t b c : Nat) : sV := up2 (up2 (fillV (shV V t b (c - 1 - b)) (t * 5 + (c - 1)) 0 0 0) 3 t (nI (c - 1))) 4 t ((shV V t b (c - 1 - b) 4 t &&& ((1 <<< (nI b &&& 31)) - 1)) ||| ((shV V t b (c - 1 - b) 4 t >>> (nI (b + 1) &&& 31)) <<< (nI b &&& 31)))
def gpV (V N : sV) : Nat → sV
  | 0 => V
  | i + 1 => if isT (N 3 i) then up2 (gpV V N i) 7 (N 3 i).toNatClampNeg (gpV V N i 7 (N 3 i).toNatClampNeg + 1) else gpV V N i
def wrV (V N : sV) : Nat → sV
  | 0 => V
  | i + 1 => if ¬ N 0 i = 0 then wrV V N i else up2 (up2 (wrV V N i) 10 i (wrV V N i 10 i + 1)) 11 i (wrV V N i 11 i + 1)
def trV (V N : sV) : Nat → sV
  | 0 => V
  | i + 1 => up2 (trV V N i) 2 i (N 2 i / 2)
def fsV (V : sV) : Nat → sV
  | 0 => V
  | i + 1 => if fsV V i 6 i ≤ 0 then fsV V i else up2 (fsV V i) 6 i (fsV V i 6 i - 1)
def flV (V : sV) (x : Int32) : sV := if isT x then up2 (up2 (up2 (fsV V 6) 12 3 x) 6 x.toNatClampNeg (fsV V 6 12 1)) 8 x.toNatClampNeg (fsV V 6 8 x.toNatClampNeg + 1) else up2 (up2 (fsV V 6) 12 3 x) 12 4 (fsV V 6 12 4 + 1)
def pasV (V N : sV) : sV := let U := flV (trV (wrV (gpV V N 6) N 30) N 6) (N 4 0); up2 U 12 2 (U 12 2 + 1)
/-- m rows of another state taken over -/
def cpV (W V : sV) (n : Nat) : sV := fun k => bif Nat.blt k n then W k else V k
abbrev bitW (w : Int32) (b : Nat) : Prop := (w >>> (nI b &&& 31)) &&& 1 = 1
/-- volume and busy ringers of a town behind b bells; why a bell is not rung -/
def vbC (V : sV) (t : Nat) : Nat → Int32 × Int32
  | 0 => (0, 0)
  | b + 1 => if ¬ V 6 t ≤ 0 then vbC V t b else if ¬ bitW (wantC V t) b then vbC V t b else if ¬ V 10 (t * 5 + b) < 6 then vbC V t b else if ¬ rF (V 9 (t * 5 + b)) ≤ resT V t - (vbC V t b).2 then vbC V t b else ((vbC V t b).1 + V 9 (t * 5 + b), (vbC V t b).2 + rF (V 9 (t * 5 + b)))
abbrev rsC (V : sV) (t b : Nat) : Int32 := if ¬ V 6 t ≤ 0 then 1 else if ¬ bitW (wantC V t) b then 2 else if ¬ V 10 (t * 5 + b) < 6 then 3 else if ¬ rF (V 9 (t * 5 + b)) ≤ resT V t - (vbC V t b).2 then 4 else 0
def riN (V : sV) (t : Nat) (N : sV) : Nat → sV
  | 0 => N
  | b + 1 => up2 (riN V t N b) 0 (t * 5 + b) (rsC V t b)
abbrev rinN (V : sV) (t : Nat) (N : sV) : sV := up2 (up2 (riN V t N 5) 1 t (vbC V t 5).1) 2 t (vbC V t 5).2
abbrev absI (x : Int32) : Int32 := if 0 ≤ x then x else 0 - x
abbrev sndF (V : sV) (u : Nat → Int32) (t e : Nat) : Int32 := if 0 < u t - V 12 0 * absI (V 0 t - V 0 e) then u t - V 12 0 * absI (V 0 t - V 0 e) else 0
/-- the most that is heard in e, and who wins there, behind t towns -/
def wmF (V : sV) (u : Nat → Int32) (e : Nat) : Nat → Int32 × Int32
  | 0 => (0, -5)
  | t + 1 => if sndF V u t e ≤ (wmF V u e t).1 then (if sndF V u t e = (wmF V u e t).1 then ((wmF V u e t).1, -5) else wmF V u e t) else (sndF V u t e, nI t)
/-- the towns ring, one after the other: what is rung, and the loudest volume so far -/
def moC (V : sV) : Nat → Int32
  | 0 => 0
  | t + 1 => if (vbC V t 5).1 ≤ moC V t then moC V t else (vbC V t 5).1
def f1N (V : sV) (N : sV) : Nat → sV
  | 0 => up2 N 4 0 (-5)
  | t + 1 => if (vbC V t 5).1 ≤ moC V t then rinN V t (f1N V N t) else up2 (rinN V t (f1N V N t)) 4 0 (nI t)
def f2N (V : sV) (N : sV) : Nat → sV
  | 0 => N
  | e + 1 => up2 (f2N V N e) 3 e (wmF V (f2N V N e 1) e 6).2
abbrev forN (V N : sV) : sV := f2N V (f1N V N 6) 6
/-- i turns -/
def mtV (V N : sV) : Nat → sV × sV
  | 0 => (V, N)
  | i + 1 => (pasV (mtV V N i).1 (forN (mtV V N i).1 (mtV V N i).2), forN (mtV V N i).1 (mtV V N i).2)
/-- a ring of five states: the oldest's place, how many, and what stands where, behind a record -/
def recO (o n : Nat) : Nat := if n < 5 then o else (o + 1) % 5
def recS (n : Nat) : Nat := if n < 5 then n + 1 else n
def recH (o n : Nat) (HV : Nat → sV) (V : sV) (i : Nat) : sV := if i = (o + n) % 5 then V else HV i
theorem adr2 {X Y L : List (List Nat)} (h1 : X = L) (h2 : Y = L) : X = Y := h1.trans h2.symm
/-- a text: its signs are numbers -/
abbrev tB (g : gx) (h a : Nat) (T : Nat → Nat) (n : Nat) : va_W := sB g h a (fun i => nI (T i)) n
theorem up2_eq (V : sV) (k j : Nat) (x : Int32) : up2 V k j x k j = x := by simp [up2, upd]
theorem up2_ne {V : sV} {k j k' j' : Nat} {x : Int32} (h : ¬ (k' = k ∧ j' = j)) : up2 V k j x k' j' = V k' j' := by
  by_cases hk : k' = k
  · subst hk
    have hj : j' ≠ j := fun e => h ⟨rfl, e⟩
    simp [up2, upd, hj]
  · have hb : Nat.beq k' k = false := by
      cases hq : Nat.beq k' k with
      | false => rfl
      | true => exact absurd (Nat.eq_of_beq_eq_true hq) hk
    simp [up2, hb]
theorem up2_if (V : sV) (k j k' j' : Nat) (x : Int32) : up2 V k j x k' j' = if k' = k ∧ j' = j then x else V k' j' := by
  by_cases h : k' = k ∧ j' = j
  · rw [if_pos h, h.1, h.2, up2_eq]
  · rw [if_neg h, up2_ne h]
end
section
theorem ok_X0_placeOf : okV yX0_placeOf cX0_placeOf 2 (some .int) 1 := ⟨q1_198, q1_197, qs_0, q1_3, by decide +kernel⟩
theorem ok_X0_record : okV yX0_record cX0_record 3 none 1 := ⟨q1_194, q1_192, q1_193, q1_3, by decide +kernel⟩
theorem ok_X0_takeBack : okV yX0_takeBack cX0_takeBack 3 none 1 := ⟨q2_179, q2_177, q2_178, q1_3, by decide +kernel⟩
theorem ok_X1_foresee : okV yX1_foresee cX1_foresee 4 none 1 := ⟨q2_65, q2_63, q2_64, q1_4, by decide +kernel⟩
theorem ok_X1_pointsOf : okV yX1_pointsOf cX1_pointsOf 4 (some .int) 1 := ⟨q3_2, q3_0, q3_1, q1_4, by decide +kernel⟩
theorem ok_X1_ringIn : okV yX1_ringIn cX1_ringIn 11 none 2 := ⟨q2_69, q2_68, qs_7, q1_4, by decide +kernel⟩
theorem ok_X1_soundIn : okV yX1_soundIn cX1_soundIn 5 (some .int) 3 := ⟨q2_87, q2_85, q2_86, q1_4, by decide +kernel⟩
theorem ok_X1_winnerIn : okV yX1_winnerIn cX1_winnerIn 7 (some .int) 2 := ⟨q2_83, q2_82, qs_8, q1_4, by decide +kernel⟩
theorem ok_X2_add : okV yX2_add cX2_add 2 none 1 := ⟨q2_121, q2_119, q2_120, q1_5, by decide +kernel⟩
theorem ok_X2_after : okS yX2_after cX2_after 2 (some .int) 2 := ⟨q2_140, q2_139, q1_5, by decide +kernel⟩
theorem ok_X2_afterBells : okS yX2_afterBells cX2_afterBells 2 (some .int) 2 := ⟨q2_149, q2_148, q1_5, by decide +kernel⟩
theorem ok_X2_afterLetter : okS yX2_afterLetter cX2_afterLetter 1 (some .int) 1 := ⟨q2_143, q2_142, q1_5, by decide +kernel⟩
theorem ok_X2_beginsOrder : okV yX2_beginsOrder cX2_beginsOrder 2 (some .boolean) 1 := ⟨q2_157, q2_155, q2_156, q1_5, by decide +kernel⟩
theorem ok_X2_bellsFrom : okV yX2_bellsFrom cX2_bellsFrom 4 (some .int) 1 := ⟨q2_170, q2_168, q2_169, q1_5, by decide +kernel⟩
theorem ok_X2_digitAt : okV yX2_digitAt cX2_digitAt 2 (some .int) 1 := ⟨q2_166, q2_164, q2_165, q1_5, by decide +kernel⟩
theorem ok_X2_firstFault : okV yX2_firstFault cX2_firstFault 3 (some .int) 0 := ⟨q2_133, q2_131, q2_132, q1_5, by decide +kernel⟩
theorem ok_X2_isDigit : okS yX2_isDigit cX2_isDigit 3 (some .boolean) 3 := ⟨q2_146, q2_145, q1_5, by decide +kernel⟩
theorem ok_X2_signAt : okV yX2_signAt cX2_signAt 2 (some .int) 1 := ⟨q2_137, q2_135, q2_136, q1_5, by decide +kernel⟩
theorem ok_X3_addBell : okV yX3_addBell cX3_addBell 4 (some .int) 2 := ⟨q1_215, q1_213, q1_214, q1_2, by decide +kernel⟩
theorem ok_X3_allBells : okV yX3_allBells cX3_allBells 3 (some .int) 0 := ⟨q2_205, q2_203, q2_204, q1_2, by decide +kernel⟩
theorem ok_X3_allPoints : okV yX3_allPoints cX3_allPoints 3 (some .int) 0 := ⟨q2_217, q2_215, q2_216, q1_2, by decide +kernel⟩
theorem ok_X3_brokenRopes : okV yX3_brokenRopes cX3_brokenRopes 3 (some .int) 0 := ⟨q2_209, q2_207, q2_208, q1_2, by decide +kernel⟩
theorem ok_X3_copyBells : okS yX3_copyBells cX3_copyBells 2 none 2 := ⟨q1_211, q1_210, q1_2, by decide +kernel⟩
theorem ok_X3_copyFrom : okV yX3_copyFrom cX3_copyFrom 2 none 1 := ⟨q1_202, q1_200, q1_201, q1_2, by decide +kernel⟩
theorem ok_X3_copyTowns : okS yX3_copyTowns cX3_copyTowns 2 none 2 := ⟨q1_205, q1_204, q1_2, by decide +kernel⟩
theorem ok_X3_everyBell : okV yX3_everyBell cX3_everyBell 2 (some .int) 1 := ⟨q2_19, q2_17, q2_18, q1_2, by decide +kernel⟩
theorem ok_X3_fallSilent : okV yX3_fallSilent cX3_fallSilent 3 none 1 := ⟨q2_113, q2_112, qs_12, q1_2, by decide +kernel⟩
theorem ok_X3_fillSlot : okV yX3_fillSlot cX3_fillSlot 5 none 4 := ⟨q1_222, q1_221, qs_1, q1_2, by decide +kernel⟩
theorem ok_X3_givePoints : okV yX3_givePoints cX3_givePoints 4 none 1 := ⟨q2_101, q2_100, qs_9, q1_2, by decide +kernel⟩
theorem ok_X3_hasBell : okV yX3_hasBell cX3_hasBell 3 (some .boolean) 2 := ⟨q1_230, q1_228, q1_229, q1_2, by decide +kernel⟩
theorem ok_X3_isTakenByAnother : okV yX3_isTakenByAnother cX3_isTakenByAnother 4 (some .boolean) 2 := ⟨q2_4, q2_2, q2_3, q1_2, by decide +kernel⟩
theorem ok_X3_pass : okV yX3_pass cX3_pass 2 none 1 := ⟨q2_97, q2_95, q2_96, q1_2, by decide +kernel⟩
theorem ok_X3_removeBell : okV yX3_removeBell cX3_removeBell 6 none 2 := ⟨q1_236, q1_234, q1_235, q1_2, by decide +kernel⟩
theorem ok_X3_rested : okV yX3_rested cX3_rested 2 (some .int) 1 := ⟨q2_35, q2_33, q2_34, q1_2, by decide +kernel⟩
theorem ok_X3_silentTowns : okV yX3_silentTowns cX3_silentTowns 3 (some .int) 0 := ⟨q2_213, q2_211, q2_212, q1_2, by decide +kernel⟩
theorem ok_X3_tireRingers : okV yX3_tireRingers cX3_tireRingers 3 none 1 := ⟨q2_109, q2_108, qs_11, q1_2, by decide +kernel⟩
theorem ok_X3_wantedBells : okV yX3_wantedBells cX3_wantedBells 2 (some .int) 1 := ⟨q2_73, q2_71, q2_72, q1_2, by decide +kernel⟩
theorem ok_X3_wearRopes : okV yX3_wearRopes cX3_wearRopes 3 none 1 := ⟨q2_105, q2_104, qs_10, q1_2, by decide +kernel⟩
theorem ok_X4_append : okV yX4_append cX4_append 2 (some .int) 1 := ⟨q2_117, q2_115, q2_116, q1_1, by decide +kernel⟩
theorem ok_X4_bell : okV yX4_bell cX4_bell 5 (some .int) 3 := ⟨q2_196, q2_194, q2_195, q1_1, by decide +kernel⟩
theorem ok_X4_bestPlan : okV yX4_bestPlan cX4_bestPlan 8 (some .int) 1 := ⟨q3_6, q3_4, q3_5, q1_1, by decide +kernel⟩
theorem ok_X4_carryOut : okV yX4_carryOut cX4_carryOut 5 (some .boolean) 1 := ⟨q2_161, q2_160, qs_13, q1_1, by decide +kernel⟩
theorem ok_X4_changePlan : okV yX4_changePlan cX4_changePlan 4 (some .int) 2 := ⟨q2_23, q2_22, qs_3, q1_1, by decide +kernel⟩
theorem ok_X4_clearText : okV yX4_clearText cX4_clearText 2 (some .int) 0 := ⟨q2_125, q2_123, q2_124, q1_1, by decide +kernel⟩
theorem ok_X4_count : okV yX4_count cX4_count 2 (some .int) 1 := ⟨q2_201, q2_199, q2_200, q1_1, by decide +kernel⟩
theorem ok_X4_fault : okV yX4_fault cX4_fault 1 (some .int) 0 := ⟨q2_129, q2_127, q2_128, q1_1, by decide +kernel⟩
theorem ok_X4_feast : okV yX4_feast cX4_feast 4 (some .int) 2 := ⟨q2_43, q2_41, q2_42, q1_1, by decide +kernel⟩
theorem ok_X4_hang : okV yX4_hang cX4_hang 3 (some .int) 2 := ⟨q1_187, q1_185, q1_186, q1_1, by decide +kernel⟩
theorem ok_X4_heard : okV yX4_heard cX4_heard 3 (some .int) 2 := ⟨q2_225, q2_223, q2_224, q1_1, by decide +kernel⟩
theorem ok_X4_ifPlanned : okV yX4_ifPlanned cX4_ifPlanned 4 (some .int) 2 := ⟨q2_234, q2_232, q2_233, q1_1, by decide +kernel⟩
theorem ok_X4_isInRange : okS yX4_isInRange cX4_isInRange 2 (some .boolean) 2 := ⟨q2_50, q2_49, q1_1, by decide +kernel⟩
theorem ok_X4_isTown : okS yX4_isTown cX4_isTown 1 (some .boolean) 1 := ⟨q1_190, q1_189, q1_1, by decide +kernel⟩
theorem ok_X4_loudness : okV yX4_loudness cX4_loudness 2 (some .int) 1 := ⟨q2_221, q2_219, q2_220, q1_1, by decide +kernel⟩
theorem ok_X4_makeTurns : okV yX4_makeTurns cX4_makeTurns 4 none 2 := ⟨q2_61, q2_60, qs_6, q1_1, by decide +kernel⟩
theorem ok_X4_melt : okV yX4_melt cX4_melt 4 (some .int) 2 := ⟨q1_226, q1_224, q1_225, q1_1, by decide +kernel⟩
theorem ok_X4_mendRope : okV yX4_mendRope cX4_mendRope 5 (some .int) 2 := ⟨q2_39, q2_38, qs_5, q1_1, by decide +kernel⟩
theorem ok_X4_plan : okV yX4_plan cX4_plan 4 (some .int) 2 := ⟨q2_11, q2_9, q2_10, q1_1, by decide +kernel⟩
theorem ok_X4_planError : okV yX4_planError cX4_planError 3 (some .int) 2 := ⟨q2_15, q2_14, qs_2, q1_1, by decide +kernel⟩
theorem ok_X4_pointsIn : okV yX4_pointsIn cX4_pointsIn 4 (some .int) 2 := ⟨q3_10, q3_8, q3_9, q1_1, by decide +kernel⟩
theorem ok_X4_pointsWithPlan : okV yX4_pointsWithPlan cX4_pointsWithPlan 3 (some .int) 2 := ⟨q2_238, q2_237, qs_14, q1_1, by decide +kernel⟩
theorem ok_X4_restore : okV yX4_restore cX4_restore 1 (some .int) 0 := ⟨q2_188, q2_186, q2_187, q1_1, by decide +kernel⟩
theorem ok_X4_ringersFor : okS yX4_ringersFor cX4_ringersFor 1 (some .int) 1 := ⟨q2_79, q2_78, q1_1, by decide +kernel⟩
theorem ok_X4_run : okV yX4_run cX4_run 4 (some .int) 0 := ⟨q2_153, q2_151, q2_152, q1_1, by decide +kernel⟩
theorem ok_X4_save : okV yX4_save cX4_save 1 (some .int) 0 := ⟨q2_183, q2_181, q2_182, q1_1, by decide +kernel⟩
theorem ok_X4_set : okV yX4_set cX4_set 4 (some .int) 2 := ⟨q2_47, q2_45, q2_46, q1_1, by decide +kernel⟩
theorem ok_X4_settle : okV yX4_settle cX4_settle 4 (some .int) 3 := ⟨q2_0, q1_238, q1_239, q1_1, by decide +kernel⟩
theorem ok_X4_share : okV yX4_share cX4_share 3 (some .double) 1 := ⟨q3_14, q3_12, q3_13, q1_1, by decide +kernel⟩
theorem ok_X4_slot : okS yX4_slot cX4_slot 2 (some .int) 2 := ⟨q1_218, q1_217, q1_1, by decide +kernel⟩
theorem ok_X4_splice : okV yX4_splice cX4_splice 4 (some .int) 2 := ⟨q2_27, q2_25, q2_26, q1_1, by decide +kernel⟩
theorem ok_X4_spliceError : okV yX4_spliceError cX4_spliceError 3 (some .int) 2 := ⟨q2_31, q2_30, qs_4, q1_1, by decide +kernel⟩
theorem ok_X4_town : okV yX4_town cX4_town 3 (some .int) 2 := ⟨q2_192, q2_190, q2_191, q1_1, by decide +kernel⟩
theorem ok_X4_turns : okV yX4_turns cX4_turns 3 (some .int) 1 := ⟨q2_54, q2_52, q2_53, q1_1, by decide +kernel⟩
theorem ok_X4_turnsError : okS yX4_turnsError cX4_turnsError 1 (some .int) 1 := ⟨q2_57, q2_56, q1_1, by decide +kernel⟩
theorem ok_X4_undo : okV yX4_undo cX4_undo 1 (some .int) 0 := ⟨q2_175, q2_173, q2_174, q1_1, by decide +kernel⟩
theorem ok_X4_winner : okV yX4_winner cX4_winner 2 (some .int) 1 := ⟨q2_230, q2_228, q2_229, q1_1, by decide +kernel⟩
theorem ok_X5_allBells : okV yX5_allBells cX5_allBells 2 (some .int) 1 := ⟨q3_125, q3_124, qs_21, q1_6, by decide +kernel⟩
theorem ok_X5_append : okV yX5_append cX5_append 2 (some .int) 1 := ⟨q3_197, q3_195, q3_196, q1_6, by decide +kernel⟩
theorem ok_X5_bell : okV yX5_bell cX5_bell 4 (some .int) 3 := ⟨q3_233, q3_231, q3_232, q1_6, by decide +kernel⟩
theorem ok_X5_best : okV yX5_best cX5_best 6 (some .int) 1 := ⟨q3_185, q3_184, qs_32, q1_6, by decide +kernel⟩
theorem ok_X5_bestPlan : okV yX5_bestPlan cX5_bestPlan 8 (some .int) 1 := ⟨q4_37, q4_35, q4_36, q1_6, by decide +kernel⟩
theorem ok_X5_brokenRopes : okV yX5_brokenRopes cX5_brokenRopes 3 (some .int) 0 := ⟨q4_9, q4_8, qs_41, q1_6, by decide +kernel⟩
theorem ok_X5_canSplice : okV yX5_canSplice cX5_canSplice 3 (some .boolean) 2 := ⟨q3_133, q3_132, qs_22, q1_6, by decide +kernel⟩
theorem ok_X5_clearText : okV yX5_clearText cX5_clearText 2 (some .int) 0 := ⟨q3_201, q3_199, q3_200, q1_6, by decide +kernel⟩
theorem ok_X5_count : okV yX5_count cX5_count 2 (some .int) 1 := ⟨q4_1, q3_239, q4_0, q1_6, by decide +kernel⟩
theorem ok_X5_fault : okV yX5_fault cX5_fault 1 (some .int) 0 := ⟨q3_205, q3_203, q3_204, q1_6, by decide +kernel⟩
theorem ok_X5_feast : okV yX5_feast cX5_feast 4 (some .int) 2 := ⟨q3_141, q3_139, q3_140, q1_6, by decide +kernel⟩
theorem ok_X5_hang : okV yX5_hang cX5_hang 4 (some .int) 2 := ⟨q3_87, q3_85, q3_86, q1_6, by decide +kernel⟩
theorem ok_X5_hasBells : okV yX5_hasBells cX5_hasBells 3 (some .boolean) 2 := ⟨q3_121, q3_120, qs_20, q1_6, by decide +kernel⟩
theorem ok_X5_heard : okV yX5_heard cX5_heard 3 (some .int) 2 := ⟨q4_21, q4_19, q4_20, q1_6, by decide +kernel⟩
theorem ok_X5_heardIn : okV yX5_heardIn cX5_heardIn 5 (some .int) 2 := ⟨q3_189, q3_188, qs_33, q1_6, by decide +kernel⟩
theorem ok_X5_ifPlanned : okV yX5_ifPlanned cX5_ifPlanned 3 (some .int) 2 := ⟨q4_29, q4_27, q4_28, q1_6, by decide +kernel⟩
theorem ok_X5_in : okS yX5_in cX5_in 3 (some .boolean) 3 := ⟨q3_93, q3_92, q1_6, by decide +kernel⟩
theorem ok_X5_isBell : okV yX5_isBell cX5_isBell 3 (some .boolean) 2 := ⟨q3_105, q3_104, qs_18, q1_6, by decide +kernel⟩
theorem ok_X5_isDone : okV yX5_isDone cX5_isDone 3 (some .boolean) 1 := ⟨q3_225, q3_224, qs_38, q1_6, by decide +kernel⟩
theorem ok_X5_isScript : okV yX5_isScript cX5_isScript 2 (some .boolean) 0 := ⟨q3_209, q3_208, qs_35, q1_6, by decide +kernel⟩
theorem ok_X5_isTaken : okV yX5_isTaken cX5_isTaken 5 (some .boolean) 2 := ⟨q3_113, q3_112, qs_19, q1_6, by decide +kernel⟩
theorem ok_X5_isTown : okS yX5_isTown cX5_isTown 1 (some .boolean) 1 := ⟨q3_90, q3_89, q1_6, by decide +kernel⟩
theorem ok_X5_listen : okV yX5_listen cX5_listen 2 none 0 := ⟨q3_161, q3_160, qs_26, q1_6, by decide +kernel⟩
theorem ok_X5_loudestNow : okV yX5_loudestNow cX5_loudestNow 3 (some .int) 0 := ⟨q3_181, q3_180, qs_31, q1_6, by decide +kernel⟩
theorem ok_X5_loudness : okV yX5_loudness cX5_loudness 2 (some .int) 1 := ⟨q4_17, q4_15, q4_16, q1_6, by decide +kernel⟩
theorem ok_X5_loudnessOf : okV yX5_loudnessOf cX5_loudnessOf 5 (some .int) 2 := ⟨q3_177, q3_176, qs_30, q1_6, by decide +kernel⟩
theorem ok_X5_melt : okV yX5_melt cX5_melt 6 (some .int) 2 := ⟨q3_101, q3_99, q3_100, q1_6, by decide +kernel⟩
theorem ok_X5_of : okV yX5_of cX5_of 3 (some .int) 2 := ⟨q3_97, q3_96, qs_17, q1_6, by decide +kernel⟩
theorem ok_X5_plan : okV yX5_plan cX5_plan 4 (some .int) 2 := ⟨q3_117, q3_115, q3_116, q1_6, by decide +kernel⟩
theorem ok_X5_pointsIn : okV yX5_pointsIn cX5_pointsIn 4 (some .int) 2 := ⟨q4_41, q4_39, q4_40, q1_6, by decide +kernel⟩
theorem ok_X5_pointsWith : okV yX5_pointsWith cX5_pointsWith 5 (some .int) 2 := ⟨q4_33, q4_32, qs_43, q1_6, by decide +kernel⟩
theorem ok_X5_put : okV yX5_put cX5_put 4 none 3 := ⟨q3_24, q3_23, qs_15, q1_6, by decide +kernel⟩
theorem ok_X5_putAside : okV yX5_putAside cX5_putAside 2 none 0 := ⟨q4_45, q4_44, qs_44, q1_6, by decide +kernel⟩
theorem ok_X5_putBack : okV yX5_putBack cX5_putBack 2 none 0 := ⟨q4_49, q4_48, qs_45, q1_6, by decide +kernel⟩
theorem ok_X5_readOrder : okV yX5_readOrder cX5_readOrder 4 (some .boolean) 0 := ⟨q3_213, q3_212, qs_36, q1_6, by decide +kernel⟩
theorem ok_X5_reason : okV yX5_reason cX5_reason 3 (some .int) 2 := ⟨q3_237, q3_236, qs_39, q1_6, by decide +kernel⟩
theorem ok_X5_record : okV yX5_record cX5_record 2 none 0 := ⟨q3_83, q3_82, qs_16, q1_6, by decide +kernel⟩
theorem ok_X5_restore : okV yX5_restore cX5_restore 2 (some .int) 0 := ⟨q3_79, q3_77, q3_78, q1_6, by decide +kernel⟩
theorem ok_X5_rings : okV yX5_rings cX5_rings 7 (some .int) 2 := ⟨q3_165, q3_164, qs_27, q1_6, by decide +kernel⟩
theorem ok_X5_run : okV yX5_run cX5_run 2 (some .int) 0 := ⟨q3_221, q3_219, q3_220, q1_6, by decide +kernel⟩
theorem ok_X5_save : okV yX5_save cX5_save 2 (some .int) 0 := ⟨q3_75, q3_73, q3_74, q1_6, by decide +kernel⟩
theorem ok_X5_set : okV yX5_set cX5_set 4 (some .int) 2 := ⟨q3_145, q3_143, q3_144, q1_6, by decide +kernel⟩
theorem ok_X5_settle : okV yX5_settle cX5_settle 4 (some .int) 3 := ⟨q3_109, q3_107, q3_108, q1_6, by decide +kernel⟩
theorem ok_X5_share : okV yX5_share cX5_share 3 (some .double) 1 := ⟨q4_53, q4_51, q4_52, q1_6, by decide +kernel⟩
theorem ok_X5_silentTowns : okV yX5_silentTowns cX5_silentTowns 3 (some .int) 0 := ⟨q4_13, q4_12, qs_42, q1_6, by decide +kernel⟩
theorem ok_X5_splice : okV yX5_splice cX5_splice 3 (some .int) 2 := ⟨q3_129, q3_127, q3_128, q1_6, by decide +kernel⟩
theorem ok_X5_spliceNow : okV yX5_spliceNow cX5_spliceNow 4 (some .int) 2 := ⟨q3_137, q3_136, qs_23, q1_6, by decide +kernel⟩
theorem ok_X5_sum : okV yX5_sum cX5_sum 4 (some .int) 1 := ⟨q4_5, q4_4, qs_40, q1_6, by decide +kernel⟩
theorem ok_X5_takes : okV yX5_takes cX5_takes 3 (some .int) 2 := ⟨q3_173, q3_172, qs_29, q1_6, by decide +kernel⟩
theorem ok_X5_takesSign : okV yX5_takesSign cX5_takesSign 4 (some .boolean) 2 := ⟨q3_217, q3_216, qs_37, q1_6, by decide +kernel⟩
theorem ok_X5_town : okV yX5_town cX5_town 3 (some .int) 2 := ⟨q3_229, q3_227, q3_228, q1_6, by decide +kernel⟩
theorem ok_X5_turn : okV yX5_turn cX5_turn 4 none 0 := ⟨q3_157, q3_156, qs_25, q1_6, by decide +kernel⟩
theorem ok_X5_turns : okV yX5_turns cX5_turns 2 (some .int) 1 := ⟨q3_149, q3_147, q3_148, q1_6, by decide +kernel⟩
theorem ok_X5_turnsNow : okV yX5_turnsNow cX5_turnsNow 3 none 1 := ⟨q3_153, q3_152, qs_24, q1_6, by decide +kernel⟩
theorem ok_X5_undo : okV yX5_undo cX5_undo 2 (some .int) 0 := ⟨q3_71, q3_69, q3_70, q1_6, by decide +kernel⟩
theorem ok_X5_wanted : okV yX5_wanted cX5_wanted 3 (some .int) 2 := ⟨q3_169, q3_168, qs_28, q1_6, by decide +kernel⟩
theorem ok_X5_wearDown : okV yX5_wearDown cX5_wearDown 5 none 2 := ⟨q3_193, q3_192, qs_34, q1_6, by decide +kernel⟩
theorem ok_X5_winner : okV yX5_winner cX5_winner 2 (some .int) 1 := ⟨q4_25, q4_23, q4_24, q1_6, by decide +kernel⟩
set_option maxHeartbeats 4000000 in
set_option maxRecDepth 100000 in
theorem c_X4_isTown (l : Launch) (g : gx) (x : Int32)  : cR l g yX4_isTown cX4_isTown 1 (some .boolean) ({ frames := 0, cells := 0, slots := 0, locals := 0 } : Room) [.int x] [] (.int (bI (isT x))) := by
  refine cR.mk (by decide +kernel) (Nat.le_of_ble_eq_true rfl) ?_
  intro p e s m below meth c ls E hK hP hl
  obtain ⟨hx, hb, hr, hml, hts, hown, hlocks, hin⟩ := id E
  have hown : s.vm.findClass RX4 = some m.cls := hown
  have hl : lv_has ls 1 [(0, .int x)] := hl
  refine lv_iload_n hx hb dX4_isTown_0 rfl (lv_at hl 0 rfl) ?_
  refine lv_if_lt (tgt := 14) hx hb dX4_isTown_1 (by decide) (fun h_1 => ?_) (fun h_1 => ?_)
  · refine lv_iconst (v := 0) hx hb dX4_isTown_14 (by decide) ?_
    exact rZ_ret hx hb hr hlocks dX4_isTown_15 (by first | exact bI_t (by simp only [h_1, isT,  not_true_eq_false, not_false_eq_true, and_true, true_and, and_false, false_and, and_self, or_true, true_or, or_false, false_or, ne_eq, ite_true, ite_false, reduceIte]) | exact bI_f (by simp only [h_1, isT,  not_true_eq_false, not_false_eq_true, and_true, true_and, and_false, false_and, and_self, or_true, true_or, or_false, false_or, ne_eq, ite_true, ite_false, reduceIte]))
  · refine lv_iload_n hx hb dX4_isTown_4 rfl (lv_at hl 0 rfl) ?_
    refine lv_bipush (v := 6) hx hb dX4_isTown_5 (by decide) ?_
    refine lv_icmp_ge (tgt := 14) hx hb dX4_isTown_7 (by decide) (fun h_2 => ?_) (fun h_2 => ?_)
    · refine lv_iconst (v := 0) hx hb dX4_isTown_14 (by decide) ?_
      exact rZ_ret hx hb hr hlocks dX4_isTown_15 (by first | exact bI_t (by simp only [h_1, h_2, isT,  not_true_eq_false, not_false_eq_true, and_true, true_and, and_false, false_and, and_self, or_true, true_or, or_false, false_or, ne_eq, ite_true, ite_false, reduceIte]) | exact bI_f (by simp only [h_1, h_2, isT,  not_true_eq_false, not_false_eq_true, and_true, true_and, and_false, false_and, and_self, or_true, true_or, or_false, false_or, ne_eq, ite_true, ite_false, reduceIte]))
    · refine lv_iconst (v := 1) hx hb dX4_isTown_10 (by decide) ?_
      refine lv_goto (tgt := 15) hx hb dX4_isTown_11 (by decide) ?_
      exact rZ_ret hx hb hr hlocks dX4_isTown_15 (by first | exact bI_t (by simp only [h_1, h_2, isT,  not_true_eq_false, not_false_eq_true, and_true, true_and, and_false, false_and, and_self, or_true, true_or, or_false, false_or, ne_eq, ite_true, ite_false, reduceIte]) | exact bI_f (by simp only [h_1, h_2, isT,  not_true_eq_false, not_false_eq_true, and_true, true_and, and_false, false_and, and_self, or_true, true_or, or_false, false_or, ne_eq, ite_true, ite_false, reduceIte]))

set_option maxHeartbeats 4000000 in
set_option maxRecDepth 100000 in
theorem c_X4_slot (l : Launch) (g : gx) (t b : Nat)  : cR l g yX4_slot cX4_slot 2 (some .int) ({ frames := 0, cells := 0, slots := 0, locals := 0 } : Room) [.int (nI t), .int (nI b)] [] (.int (nI (t * 5 + b))) := by
  refine cR.mk (by decide +kernel) (Nat.le_of_ble_eq_true rfl) ?_
  intro p e s m below meth c ls E hK hP hl
  obtain ⟨hx, hb, hr, hml, hts, hown, hlocks, hin⟩ := id E
  have hown : s.vm.findClass RX4 = some m.cls := hown
  have hl : lv_has ls 2 [(0, .int (nI t)), (1, .int (nI b))] := hl
  refine lv_iload_n hx hb dX4_slot_0 rfl (lv_at hl 0 rfl) ?_
  refine lv_iconst (v := 5) hx hb dX4_slot_1 (by decide) ?_
  refine lv_imul hx hb dX4_slot_2 ?_
  refine b_top (y := nI (t * 5)) (pk_mul t 5) ?_
  refine lv_iload_n hx hb dX4_slot_3 rfl (lv_at hl 1 rfl) ?_
  refine lv_iadd hx hb dX4_slot_4 ?_
  refine b_top (y := nI ((t * 5) + b)) (nI_add (t * 5) b) ?_
  exact rI_ret hx hb hr hlocks dX4_slot_5 (rfl)

set_option maxHeartbeats 4000000 in
set_option maxRecDepth 100000 in
theorem c_X4_ringersFor (l : Launch) (g : gx) (x : Int32)  : cR l g yX4_ringersFor cX4_ringersFor 1 (some .int) ({ frames := 0, cells := 0, slots := 0, locals := 0 } : Room) [.int x] [] (.int (rF x)) := by
  refine cR.mk (by decide +kernel) (Nat.le_of_ble_eq_true rfl) ?_
  intro p e s m below meth c ls E hK hP hl
  obtain ⟨hx, hb, hr, hml, hts, hown, hlocks, hin⟩ := id E
  have hown : s.vm.findClass RX4 = some m.cls := hown
  have hl : lv_has ls 1 [(0, .int x)] := hl
  refine lv_iload_n hx hb dX4_ringersFor_0 rfl (lv_at hl 0 rfl) ?_
  refine lv_iconst (v := 1) hx hb dX4_ringersFor_1 (by decide) ?_
  refine lv_iadd hx hb dX4_ringersFor_2 ?_
  refine lv_iconst (v := 2) hx hb dX4_ringersFor_3 (by decide) ?_
  refine lv_idiv hx hb dX4_ringersFor_4 (by decide) ?_
  exact rI_ret hx hb hr hlocks dX4_ringersFor_5 (rfl)

set_option maxHeartbeats 4000000 in
set_option maxRecDepth 100000 in
theorem c_X4_isInRange (l : Launch) (g : gx) (x v : Int32)  : cR l g yX4_isInRange cX4_isInRange 2 (some .boolean) ({ frames := 0, cells := 0, slots := 0, locals := 0 } : Room) [.int x, .int v] [] (.int (bI (inR x v))) := by
  refine cR.mk (by decide +kernel) (Nat.le_of_ble_eq_true rfl) ?_
  intro p e s m below meth c ls E hK hP hl
  obtain ⟨hx, hb, hr, hml, hts, hown, hlocks, hin⟩ := id E
  have hown : s.vm.findClass RX4 = some m.cls := hown
  have hl : lv_has ls 2 [(0, .int x), (1, .int v)] := hl
  refine lv_iload_n hx hb dX4_isInRange_0 rfl (lv_at hl 0 rfl) ?_
  refine lv_if_ne (tgt := 20) hx hb dX4_isInRange_1 (by decide) (fun h_1 => ?_) (fun h_1 => ?_)
  · refine lv_iload_n hx hb dX4_isInRange_20 rfl (lv_at hl 1 rfl) ?_
    refine lv_iconst (v := 1) hx hb dX4_isInRange_21 (by decide) ?_
    refine lv_icmp_lt (tgt := 34) hx hb dX4_isInRange_22 (by decide) (fun h_2 => ?_) (fun h_2 => ?_)
    · refine lv_iconst (v := 0) hx hb dX4_isInRange_34 (by decide) ?_
      exact rZ_ret hx hb hr hlocks dX4_isInRange_35 (by first | exact bI_t (by simp only [h_1, h_2, inR,  not_true_eq_false, not_false_eq_true, and_true, true_and, and_false, false_and, and_self, or_true, true_or, or_false, false_or, ne_eq, ite_true, ite_false, reduceIte]) | exact bI_f (by simp only [h_1, h_2, inR,  not_true_eq_false, not_false_eq_true, and_true, true_and, and_false, false_and, and_self, or_true, true_or, or_false, false_or, ne_eq, ite_true, ite_false, reduceIte]))
    · refine lv_iload_n hx hb dX4_isInRange_25 rfl (lv_at hl 1 rfl) ?_
      refine lv_iconst (v := 3) hx hb dX4_isInRange_26 (by decide) ?_
      refine lv_icmp_gt (tgt := 34) hx hb dX4_isInRange_27 (by decide) (fun h_3 => ?_) (fun h_3 => ?_)
      · refine lv_iconst (v := 0) hx hb dX4_isInRange_34 (by decide) ?_
        exact rZ_ret hx hb hr hlocks dX4_isInRange_35 (by first | exact bI_t (by simp only [h_1, h_2, h_3, inR,  not_true_eq_false, not_false_eq_true, and_true, true_and, and_false, false_and, and_self, or_true, true_or, or_false, false_or, ne_eq, ite_true, ite_false, reduceIte]) | exact bI_f (by simp only [h_1, h_2, h_3, inR,  not_true_eq_false, not_false_eq_true, and_true, true_and, and_false, false_and, and_self, or_true, true_or, or_false, false_or, ne_eq, ite_true, ite_false, reduceIte]))
      · refine lv_iconst (v := 1) hx hb dX4_isInRange_30 (by decide) ?_
        refine lv_goto (tgt := 35) hx hb dX4_isInRange_31 (by decide) ?_
        exact rZ_ret hx hb hr hlocks dX4_isInRange_35 (by first | exact bI_t (by simp only [h_1, h_2, h_3, inR,  not_true_eq_false, not_false_eq_true, and_true, true_and, and_false, false_and, and_self, or_true, true_or, or_false, false_or, ne_eq, ite_true, ite_false, reduceIte]) | exact bI_f (by simp only [h_1, h_2, h_3, inR,  not_true_eq_false, not_false_eq_true, and_true, true_and, and_false, false_and, and_self, or_true, true_or, or_false, false_or, ne_eq, ite_true, ite_false, reduceIte]))
  · refine lv_iload_n hx hb dX4_isInRange_4 rfl (lv_at hl 1 rfl) ?_
    refine lv_if_lt (tgt := 18) hx hb dX4_isInRange_5 (by decide) (fun h_4 => ?_) (fun h_4 => ?_)
    · refine lv_iconst (v := 0) hx hb dX4_isInRange_18 (by decide) ?_
      exact rZ_ret hx hb hr hlocks dX4_isInRange_19 (by first | exact bI_t (by simp only [h_1, h_4, inR,  not_true_eq_false, not_false_eq_true, and_true, true_and, and_false, false_and, and_self, or_true, true_or, or_false, false_or, ne_eq, ite_true, ite_false, reduceIte]) | exact bI_f (by simp only [h_1, h_4, inR,  not_true_eq_false, not_false_eq_true, and_true, true_and, and_false, false_and, and_self, or_true, true_or, or_false, false_or, ne_eq, ite_true, ite_false, reduceIte]))
    · refine lv_iload_n hx hb dX4_isInRange_8 rfl (lv_at hl 1 rfl) ?_
      refine lv_bipush (v := 9) hx hb dX4_isInRange_9 (by decide) ?_
      refine lv_icmp_gt (tgt := 18) hx hb dX4_isInRange_11 (by decide) (fun h_5 => ?_) (fun h_5 => ?_)
      · refine lv_iconst (v := 0) hx hb dX4_isInRange_18 (by decide) ?_
        exact rZ_ret hx hb hr hlocks dX4_isInRange_19 (by first | exact bI_t (by simp only [h_1, h_4, h_5, inR,  not_true_eq_false, not_false_eq_true, and_true, true_and, and_false, false_and, and_self, or_true, true_or, or_false, false_or, ne_eq, ite_true, ite_false, reduceIte]) | exact bI_f (by simp only [h_1, h_4, h_5, inR,  not_true_eq_false, not_false_eq_true, and_true, true_and, and_false, false_and, and_self, or_true, true_or, or_false, false_or, ne_eq, ite_true, ite_false, reduceIte]))
      · refine lv_iconst (v := 1) hx hb dX4_isInRange_14 (by decide) ?_
        refine lv_goto (tgt := 19) hx hb dX4_isInRange_15 (by decide) ?_
        exact rZ_ret hx hb hr hlocks dX4_isInRange_19 (by first | exact bI_t (by simp only [h_1, h_4, h_5, inR,  not_true_eq_false, not_false_eq_true, and_true, true_and, and_false, false_and, and_self, or_true, true_or, or_false, false_or, ne_eq, ite_true, ite_false, reduceIte]) | exact bI_f (by simp only [h_1, h_4, h_5, inR,  not_true_eq_false, not_false_eq_true, and_true, true_and, and_false, false_and, and_self, or_true, true_or, or_false, false_or, ne_eq, ite_true, ite_false, reduceIte]))
end
section
set_option maxHeartbeats 4000000 in
set_option maxRecDepth 100000 in
theorem c_X4_turnsError (l : Launch) (g : gx) (x : Int32)  : cR l g yX4_turnsError cX4_turnsError 1 (some .int) ({ frames := 0, cells := 0, slots := 0, locals := 0 } : Room) [.int x] [] (.int (tErr x)) := by
  refine cR.mk (by decide +kernel) (Nat.le_of_ble_eq_true rfl) ?_
  intro p e s m below meth c ls E hK hP hl
  obtain ⟨hx, hb, hr, hml, hts, hown, hlocks, hin⟩ := id E
  have hown : s.vm.findClass RX4 = some m.cls := hown
  have hl : lv_has ls 1 [(0, .int x)] := hl
  refine lv_iload_n hx hb dX4_turnsError_0 rfl (lv_at hl 0 rfl) ?_
  refine lv_iconst (v := 1) hx hb dX4_turnsError_1 (by decide) ?_
  refine lv_icmp_lt (tgt := 11) hx hb dX4_turnsError_2 (by decide) (fun h_1 => ?_) (fun h_1 => ?_)
  · refine lv_bipush (v := -2) hx hb dX4_turnsError_11 (by decide) ?_
    refine lv_goto (tgt := 17) hx hb dX4_turnsError_13 (by decide) ?_
    exact rI_ret hx hb hr hlocks dX4_turnsError_17 (by simp only [h_1, tErr,  not_true_eq_false, not_false_eq_true, and_true, true_and, and_false, false_and, and_self, or_true, true_or, or_false, false_or, ne_eq, ite_true, ite_false, reduceIte])
  · refine lv_iload_n hx hb dX4_turnsError_5 rfl (lv_at hl 0 rfl) ?_
    refine lv_bipush (v := 50) hx hb dX4_turnsError_6 (by decide) ?_
    refine lv_icmp_le (tgt := 16) hx hb dX4_turnsError_8 (by decide) (fun h_2 => ?_) (fun h_2 => ?_)
    · refine lv_iconst (v := 0) hx hb dX4_turnsError_16 (by decide) ?_
      exact rI_ret hx hb hr hlocks dX4_turnsError_17 (by simp only [h_1, h_2, tErr,  not_true_eq_false, not_false_eq_true, and_true, true_and, and_false, false_and, and_self, or_true, true_or, or_false, false_or, ne_eq, ite_true, ite_false, reduceIte])
    · refine lv_bipush (v := -2) hx hb dX4_turnsError_11 (by decide) ?_
      refine lv_goto (tgt := 17) hx hb dX4_turnsError_13 (by decide) ?_
      exact rI_ret hx hb hr hlocks dX4_turnsError_17 (by simp only [h_1, h_2, tErr,  not_true_eq_false, not_false_eq_true, and_true, true_and, and_false, false_and, and_self, or_true, true_or, or_false, false_or, ne_eq, ite_true, ite_false, reduceIte])

set_option maxHeartbeats 4000000 in
set_option maxRecDepth 100000 in
theorem c_X3_everyBell (l : Launch) (g : gx) (h : Nat) (a : Nat → Nat) (V : sV) (t : Nat) (ht : t < 6)  : cR l g yX3_everyBell cX3_everyBell 2 (some .int) ({ frames := 0, cells := 0, slots := 0, locals := 0 } : Room) [.ref h, .int (nI t)] [vB g h a V] (.int (evB V t)) := by
  refine cR.mk (by decide +kernel) (Nat.le_of_ble_eq_true rfl) ?_
  intro p e s m below meth c ls E hK hP hl
  obtain ⟨hx, hb, hr, hml, hts, hown, hlocks, hin⟩ := id E
  have hown : s.vm.findClass RX3 = some m.cls := hown
  have hl : lv_has ls 2 [(0, .ref h), (1, .int (nI t))] := hl
  refine lv_iconst (v := 1) hx hb dX3_everyBell_0 (by decide) ?_
  refine lv_aload_n hx hb dX3_everyBell_1 rfl (lv_at hl 0 rfl) ?_
  refine b_get (v := .ref (a 3)) hx hb hts inX3 hown hK hP 0 0 3 rfl rfl rfl (by decide) q1_30 rfl rfl dX3_everyBell_2 ?_
  refine lv_iload_n hx hb dX3_everyBell_5 rfl (lv_at hl 1 rfl) ?_
  refine b_iald (v := V 3 t) hx hb hK hP 0 4 (t) rfl rfl rfl (by omega) rfl rfl dX3_everyBell_6 ?_
  refine lv_ishl hx hb dX3_everyBell_7 ?_
  refine lv_iconst (v := 1) hx hb dX3_everyBell_8 (by decide) ?_
  refine lv_isub hx hb dX3_everyBell_9 ?_
  exact rI_ret hx hb hr hlocks dX3_everyBell_10 (rfl)

set_option maxHeartbeats 4000000 in
set_option maxRecDepth 100000 in
theorem c_X3_rested (l : Launch) (g : gx) (h : Nat) (a : Nat → Nat) (V : sV) (t : Nat) (ht : t < 6)  : cR l g yX3_rested cX3_rested 2 (some .int) ({ frames := 0, cells := 0, slots := 0, locals := 0 } : Room) [.ref h, .int (nI t)] [vB g h a V] (.int (resT V t)) := by
  refine cR.mk (by decide +kernel) (Nat.le_of_ble_eq_true rfl) ?_
  intro p e s m below meth c ls E hK hP hl
  obtain ⟨hx, hb, hr, hml, hts, hown, hlocks, hin⟩ := id E
  have hown : s.vm.findClass RX3 = some m.cls := hown
  have hl : lv_has ls 2 [(0, .ref h), (1, .int (nI t))] := hl
  refine lv_aload_n hx hb dX3_rested_0 rfl (lv_at hl 0 rfl) ?_
  refine b_get (v := .ref (a 1)) hx hb hts inX3 hown hK hP 0 0 1 rfl rfl rfl (by decide) q1_26 rfl rfl dX3_rested_1 ?_
  refine lv_iload_n hx hb dX3_rested_4 rfl (lv_at hl 1 rfl) ?_
  refine b_iald (v := V 1 t) hx hb hK hP 0 2 (t) rfl rfl rfl (by omega) rfl rfl dX3_rested_5 ?_
  refine lv_aload_n hx hb dX3_rested_6 rfl (lv_at hl 0 rfl) ?_
  refine b_get (v := .ref (a 2)) hx hb hts inX3 hown hK hP 0 0 2 rfl rfl rfl (by decide) q1_28 rfl rfl dX3_rested_7 ?_
  refine lv_iload_n hx hb dX3_rested_10 rfl (lv_at hl 1 rfl) ?_
  refine b_iald (v := V 2 t) hx hb hK hP 0 3 (t) rfl rfl rfl (by omega) rfl rfl dX3_rested_11 ?_
  refine lv_isub hx hb dX3_rested_12 ?_
  exact rI_ret hx hb hr hlocks dX3_rested_13 (rfl)

set_option maxHeartbeats 4000000 in
set_option maxRecDepth 100000 in
theorem c_X3_wantedBells (l : Launch) (g : gx) (h : Nat) (a : Nat → Nat) (V : sV) (t : Nat) (ht : t < 6)  : cR l g yX3_wantedBells cX3_wantedBells 2 (some .int) ({ frames := 1, cells := 0, slots := 0, locals := 21 } : Room) [.ref h, .int (nI t)] [vB g h a V] (.int (wantC V t)) := by
  refine cR.mk (by decide +kernel) (Nat.le_of_ble_eq_true rfl) ?_
  intro p e s m below meth c ls E hK hP hl
  obtain ⟨hx, hb, hr, hml, hts, hown, hlocks, hin⟩ := id E
  have hown : s.vm.findClass RX3 = some m.cls := hown
  have hl : lv_has ls 2 [(0, .ref h), (1, .int (nI t))] := hl
  refine lv_aload_n hx hb dX3_wantedBells_0 rfl (lv_at hl 0 rfl) ?_
  refine b_get (v := .int (V 12 2)) hx hb hts inX3 hown hK hP 0 0 14 rfl rfl rfl (by decide) q1_56 rfl rfl dX3_wantedBells_1 ?_
  refine lv_bipush (v := 7) hx hb dX3_wantedBells_4 (by decide) ?_
  refine lv_irem hx hb dX3_wantedBells_6 (by decide) ?_
  refine lv_aload_n hx hb dX3_wantedBells_7 rfl (lv_at hl 0 rfl) ?_
  refine b_get (v := .ref (a 5)) hx hb hts inX3 hown hK hP 0 0 5 rfl rfl rfl (by decide) q1_34 rfl rfl dX3_wantedBells_8 ?_
  refine lv_iload_n hx hb dX3_wantedBells_11 rfl (lv_at hl 1 rfl) ?_
  refine b_iald (v := V 5 t) hx hb hK hP 0 6 (t) rfl rfl rfl (by omega) rfl rfl dX3_wantedBells_12 ?_
  refine lv_icmp_ne (tgt := 24) hx hb dX3_wantedBells_13 (by decide) (fun h_1 => ?_) (fun h_1 => ?_)
  · refine lv_aload_n hx hb dX3_wantedBells_24 rfl (lv_at hl 0 rfl) ?_
    refine b_get (v := .ref (a 4)) hx hb hts inX3 hown hK hP 0 0 4 rfl rfl rfl (by decide) q1_32 rfl rfl dX3_wantedBells_25 ?_
    refine lv_iload_n hx hb dX3_wantedBells_28 rfl (lv_at hl 1 rfl) ?_
    refine b_iald (v := V 4 t) hx hb hK hP 0 5 (t) rfl rfl rfl (by omega) rfl rfl dX3_wantedBells_29 ?_
    exact rI_ret hx hb hr hlocks dX3_wantedBells_30 (by simp only [h_1, wantC,  not_true_eq_false, not_false_eq_true, and_true, true_and, and_false, false_and, and_self, or_true, true_or, or_false, false_or, ne_eq, ite_true, ite_false, reduceIte])
  · refine lv_aload_n hx hb dX3_wantedBells_16 rfl (lv_at hl 0 rfl) ?_
    refine lv_iload_n hx hb dX3_wantedBells_17 rfl (lv_at hl 1 rfl) ?_
    refine call_VR (As := [.int (nI t)]) (rest := []) E rfl hK hP (c_X3_everyBell l g h a V t (by omega)) ok_X3_everyBell rfl q2_74 [0] rfl (b_recv hK hP 0 0 rfl rfl rfl rfl) ⟨⟨rfl, rfl⟩, Nat.le_of_ble_eq_true rfl, Nat.le_of_ble_eq_true rfl⟩ hl.1 (Nat.le_of_ble_eq_true rfl) ⟨Nat.le_of_ble_eq_true rfl, Nat.le_of_ble_eq_true rfl⟩ rfl dX3_wantedBells_18 ?_
    refine lv_goto (tgt := 30) hx hb dX3_wantedBells_21 (by decide) ?_
    exact rI_ret hx hb hr hlocks dX3_wantedBells_30 (by simp only [h_1, wantC,  not_true_eq_false, not_false_eq_true, and_true, true_and, and_false, false_and, and_self, or_true, true_or, or_false, false_or, ne_eq, ite_true, ite_false, reduceIte])
end
section
set_option maxHeartbeats 4000000 in
set_option maxRecDepth 100000 in
theorem c_X3_hasBell (l : Launch) (g : gx) (h : Nat) (a : Nat → Nat) (V : sV) (x y : Int32)  : cR l g yX3_hasBell cX3_hasBell 3 (some .boolean) ({ frames := 1, cells := 0, slots := 0, locals := 20 } : Room) [.ref h, .int x, .int y] [vB g h a V] (.int (bI (hasB V x y))) := by
  refine cR.mk (by decide +kernel) (Nat.le_of_ble_eq_true rfl) ?_
  intro p e s m below meth c ls E hK hP hl
  obtain ⟨hx, hb, hr, hml, hts, hown, hlocks, hin⟩ := id E
  have hown : s.vm.findClass RX3 = some m.cls := hown
  have hl : lv_has ls 3 [(0, .ref h), (1, .int x), (2, .int y)] := hl
  refine lv_iload_n hx hb dX3_hasBell_0 rfl (lv_at hl 1 rfl) ?_
  refine call_NR (As := [.int x]) (rest := []) E rfl hK hP (c_X4_isTown l g x) ok_X4_isTown rfl hK.2.2.2.2.2.1 [] rfl ⟨⟨rfl, rfl⟩, Nat.le_of_ble_eq_true rfl, Nat.le_of_ble_eq_true rfl⟩ hl.1 (Nat.le_of_ble_eq_true rfl) ⟨Nat.le_of_ble_eq_true rfl, Nat.le_of_ble_eq_true rfl⟩ rfl dX3_hasBell_1 ?_
  refine b_eq0 (tgt := 25) hx hb dX3_hasBell_4 (by decide) (fun h_1 => ?_) (fun h_1 => ?_)
  · refine lv_iconst (v := 0) hx hb dX3_hasBell_25 (by decide) ?_
    exact rZ_ret hx hb hr hlocks dX3_hasBell_26 (by first | exact bI_t ⟨by assumption, by assumption, by rw [nI_clamp (by omega)]; assumption⟩ | exact bI_f (fun q => absurd q.1 (by assumption)) | exact bI_f (fun q => absurd (by assumption) q.2.1) | exact bI_f (fun q => absurd (by rw [nI_clamp (by omega)]; assumption) q.2.2))
  · obtain ⟨t, ht, rfl⟩ := isT_nat h_1
    refine lv_iload_n hx hb dX3_hasBell_7 rfl (lv_at hl 2 rfl) ?_
    refine lv_if_lt (tgt := 25) hx hb dX3_hasBell_8 (by decide) (fun h_2 => ?_) (fun h_2 => ?_)
    · refine lv_iconst (v := 0) hx hb dX3_hasBell_25 (by decide) ?_
      exact rZ_ret hx hb hr hlocks dX3_hasBell_26 (by first | exact bI_t ⟨by assumption, by assumption, by rw [nI_clamp (by omega)]; assumption⟩ | exact bI_f (fun q => absurd q.1 (by assumption)) | exact bI_f (fun q => absurd (by assumption) q.2.1) | exact bI_f (fun q => absurd (by rw [nI_clamp (by omega)]; assumption) q.2.2))
    · refine lv_iload_n hx hb dX3_hasBell_11 rfl (lv_at hl 2 rfl) ?_
      refine lv_aload_n hx hb dX3_hasBell_12 rfl (lv_at hl 0 rfl) ?_
      refine b_get (v := .ref (a 3)) hx hb hts inX3 hown hK hP 0 0 3 rfl rfl rfl (by decide) q1_30 rfl rfl dX3_hasBell_13 ?_
      refine lv_iload_n hx hb dX3_hasBell_16 rfl (lv_at hl 1 rfl) ?_
      refine b_iald (v := V 3 t) hx hb hK hP 0 4 (t) rfl rfl rfl (by omega) rfl rfl dX3_hasBell_17 ?_
      refine lv_icmp_ge (tgt := 25) hx hb dX3_hasBell_18 (by decide) (fun h_3 => ?_) (fun h_3 => ?_)
      · refine lv_iconst (v := 0) hx hb dX3_hasBell_25 (by decide) ?_
        exact rZ_ret hx hb hr hlocks dX3_hasBell_26 (by first | exact bI_t ⟨by assumption, by assumption, by rw [nI_clamp (by omega)]; assumption⟩ | exact bI_f (fun q => absurd q.1 (by assumption)) | exact bI_f (fun q => absurd (by assumption) q.2.1) | exact bI_f (fun q => absurd (by rw [nI_clamp (by omega)]; assumption) q.2.2))
      · refine lv_iconst (v := 1) hx hb dX3_hasBell_21 (by decide) ?_
        refine lv_goto (tgt := 26) hx hb dX3_hasBell_22 (by decide) ?_
        exact rZ_ret hx hb hr hlocks dX3_hasBell_26 (by first | exact bI_t ⟨by assumption, by assumption, by rw [nI_clamp (by omega)]; assumption⟩ | exact bI_f (fun q => absurd q.1 (by assumption)) | exact bI_f (fun q => absurd (by assumption) q.2.1) | exact bI_f (fun q => absurd (by rw [nI_clamp (by omega)]; assumption) q.2.2))

set_option maxHeartbeats 4000000 in
set_option maxRecDepth 100000 in
theorem c_X3_isTakenByAnother (l : Launch) (g : gx) (h : Nat) (a : Nat → Nat) (V : sV) (x : Int32) (t : Nat) (ht : t < 6)  : cR l g yX3_isTakenByAnother cX3_isTakenByAnother 4 (some .boolean) ({ frames := 0, cells := 0, slots := 0, locals := 0 } : Room) [.ref h, .int x, .int (nI t)] [vB g h a V] (.int (bI (takB V x t 6 = true))) := by
  refine cR.mk (by decide +kernel) (Nat.le_of_ble_eq_true rfl) ?_
  intro p e s m below meth c ls E hK hP hl
  obtain ⟨hx, hb, hr, hml, hts, hown, hlocks, hin⟩ := id E
  have hown : s.vm.findClass RX3 = some m.cls := hown
  have hl : lv_has ls 4 [(0, .ref h), (1, .int x), (2, .int (nI t))] := hl
  refine lv_iconst (v := 0) hx hb dX3_isTakenByAnother_0 (by decide) ?_
  refine lv_istore_n (lv' := [(3, .int 0), (0, .ref h), (1, .int x), (2, .int (nI t))]) hx hb dX3_isTakenByAnother_1 rfl hl (by decide) rfl (fun ls hl => ?_)
  refine loopN (fun i : Nat => ∀ ls : Array Slot, lv_has ls 4 [(0, .ref h), (1, .int x), (2, .int (nI t)), (3, .int (nI i))] → (takB V x t i = false) → W p l e _ s m _ below meth c s.heap [] 0 0 _ (F0 m 2 ls [])) (6) (fun i hi ih_i => ?_) (0) (by omega)  ls (lv_sub hl [1, 2, 3, 0] rfl) (rfl)
  intro  ls hl hno
  refine lv_iload_n hx hb dX3_isTakenByAnother_2 rfl (lv_at hl 3 rfl) ?_
  refine lv_bipush (v := 6) hx hb dX3_isTakenByAnother_3 (by decide) ?_
  refine b_ge (tgt := 31) (i) (6) hx hb rfl rfl (by omega) (by omega) dX3_isTakenByAnother_5 (by decide) (fun h_1 => ?_) (fun h_1 => ?_)
  · obtain rfl : i = 6 := by omega
    refine lv_iconst (v := 0) hx hb dX3_isTakenByAnother_31 (by decide) ?_
    exact rZ_ret hx hb hr hlocks dX3_isTakenByAnother_32 (bI_f (by rw [hno]; decide))
  · refine lv_iload_n hx hb dX3_isTakenByAnother_8 rfl (lv_at hl 3 rfl) ?_
    refine lv_iload_n hx hb dX3_isTakenByAnother_9 rfl (lv_at hl 2 rfl) ?_
    refine b_eq (tgt := 25) (i) (t) hx hb rfl rfl (by omega) (by omega) dX3_isTakenByAnother_10 (by decide) (fun h_2 => ?_) (fun h_2 => ?_)
    · refine lv_iinc (v := nI (i + 1)) (lv' := [(3, .int (nI (i + 1))), (0, .ref h), (1, .int x), (2, .int (nI t))]) hx hb dX3_isTakenByAnother_25 hl (k := 3) rfl (nI_add i 1) (by decide) rfl (fun ls hl => ?_)
      refine lv_goto (tgt := 2) hx hb dX3_isTakenByAnother_28 (by decide) ?_
      exact ih_i (by omega)  _ (lv_sub hl [1, 2, 3, 0] rfl) (by rw [takB, hno]; simp [h_1, h_2])
    · refine lv_aload_n hx hb dX3_isTakenByAnother_13 rfl (lv_at hl 0 rfl) ?_
      refine b_get (v := .ref (a 0)) hx hb hts inX3 hown hK hP 0 0 0 rfl rfl rfl (by decide) q1_23 rfl rfl dX3_isTakenByAnother_14 ?_
      refine lv_iload_n hx hb dX3_isTakenByAnother_17 rfl (lv_at hl 3 rfl) ?_
      refine b_iald (v := V 0 i) hx hb hK hP 0 1 (i) rfl rfl rfl (by omega) rfl rfl dX3_isTakenByAnother_18 ?_
      refine lv_iload_n hx hb dX3_isTakenByAnother_19 rfl (lv_at hl 1 rfl) ?_
      refine lv_icmp_ne (tgt := 25) hx hb dX3_isTakenByAnother_20 (by decide) (fun h_3 => ?_) (fun h_3 => ?_)
      · refine lv_iinc (v := nI (i + 1)) (lv' := [(3, .int (nI (i + 1))), (0, .ref h), (1, .int x), (2, .int (nI t))]) hx hb dX3_isTakenByAnother_25 hl (k := 3) rfl (nI_add i 1) (by decide) rfl (fun ls hl => ?_)
        refine lv_goto (tgt := 2) hx hb dX3_isTakenByAnother_28 (by decide) ?_
        exact ih_i (by omega)  _ (lv_sub hl [1, 2, 3, 0] rfl) (by rw [takB, hno]; simp [h_1, h_2, h_3])
      · refine lv_iconst (v := 1) hx hb dX3_isTakenByAnother_23 (by decide) ?_
        exact rZ_ret hx hb hr hlocks dX3_isTakenByAnother_24 (bI_t (takB_le (i := i + 1) (by rw [takB]; simp [h_1, h_2, h_3]) (by omega)))
end
section
set_option maxHeartbeats 4000000 in
set_option maxRecDepth 100000 in
theorem c_X3_allBells (l : Launch) (g : gx) (h : Nat) (a : Nat → Nat) (V : sV)  : cR l g yX3_allBells cX3_allBells 3 (some .int) ({ frames := 0, cells := 0, slots := 0, locals := 0 } : Room) [.ref h] [vB g h a V] (.int (sumF (V 3) 6)) := by
  refine cR.mk (by decide +kernel) (Nat.le_of_ble_eq_true rfl) ?_
  intro p e s m below meth c ls E hK hP hl
  obtain ⟨hx, hb, hr, hml, hts, hown, hlocks, hin⟩ := id E
  have hown : s.vm.findClass RX3 = some m.cls := hown
  have hl : lv_has ls 3 [(0, .ref h)] := hl
  refine lv_iconst (v := 0) hx hb dX3_allBells_0 (by decide) ?_
  refine lv_istore_n (lv' := [(1, .int 0), (0, .ref h)]) hx hb dX3_allBells_1 rfl hl (by decide) rfl (fun ls hl => ?_)
  refine lv_iconst (v := 0) hx hb dX3_allBells_2 (by decide) ?_
  refine lv_istore_n (lv' := [(2, .int 0), (1, .int 0), (0, .ref h)]) hx hb dX3_allBells_3 rfl hl (by decide) rfl (fun ls hl => ?_)
  refine loopN (fun i : Nat => ∀ ls : Array Slot, lv_has ls 3 [(0, .ref h), (1, .int (sumF (V 3) i)), (2, .int (nI i))] → W p l e _ s m _ below meth c s.heap [] 0 0 _ (F0 m 4 ls [])) (6) (fun i hi ih_i => ?_) (0) (by omega)  ls (lv_sub hl [2, 1, 0] rfl) 
  intro  ls hl 
  refine lv_iload_n hx hb dX3_allBells_4 rfl (lv_at hl 2 rfl) ?_
  refine lv_bipush (v := 6) hx hb dX3_allBells_5 (by decide) ?_
  refine b_ge (tgt := 25) (i) (6) hx hb rfl rfl (by omega) (by omega) dX3_allBells_7 (by decide) (fun h_1 => ?_) (fun h_1 => ?_)
  · obtain rfl : i = 6 := by omega
    refine lv_iload_n hx hb dX3_allBells_25 rfl (lv_at hl 1 rfl) ?_
    exact rI_ret hx hb hr hlocks dX3_allBells_26 (rfl)
  · refine lv_iload_n hx hb dX3_allBells_10 rfl (lv_at hl 1 rfl) ?_
    refine lv_aload_n hx hb dX3_allBells_11 rfl (lv_at hl 0 rfl) ?_
    refine b_get (v := .ref (a 3)) hx hb hts inX3 hown hK hP 0 0 3 rfl rfl rfl (by decide) q1_30 rfl rfl dX3_allBells_12 ?_
    refine lv_iload_n hx hb dX3_allBells_15 rfl (lv_at hl 2 rfl) ?_
    refine b_iald (v := V 3 i) hx hb hK hP 0 4 (i) rfl rfl rfl (by omega) rfl rfl dX3_allBells_16 ?_
    refine lv_iadd hx hb dX3_allBells_17 ?_
    refine lv_istore_n (lv' := [(1, .int ((sumF (V 3) i) + (V 3 i))), (0, .ref h), (2, .int (nI i))]) hx hb dX3_allBells_18 rfl hl (by decide) rfl (fun ls hl => ?_)
    refine lv_iinc (v := nI (i + 1)) (lv' := [(2, .int (nI (i + 1))), (1, .int ((sumF (V 3) i) + (V 3 i))), (0, .ref h)]) hx hb dX3_allBells_19 hl (k := 2) rfl (nI_add i 1) (by decide) rfl (fun ls hl => ?_)
    refine lv_goto (tgt := 4) hx hb dX3_allBells_22 (by decide) ?_
    have e_2 : sumF (V 3) (i + 1) = (sumF (V 3) i) + (V 3 i) := rfl
    exact ih_i (by omega)  _ (by rw [e_2]; exact lv_sub hl [2, 1, 0] rfl) 

set_option maxHeartbeats 4000000 in
set_option maxRecDepth 100000 in
theorem c_X3_allPoints (l : Launch) (g : gx) (h : Nat) (a : Nat → Nat) (V : sV)  : cR l g yX3_allPoints cX3_allPoints 3 (some .int) ({ frames := 0, cells := 0, slots := 0, locals := 0 } : Room) [.ref h] [vB g h a V] (.int (sumF (V 7) 6)) := by
  refine cR.mk (by decide +kernel) (Nat.le_of_ble_eq_true rfl) ?_
  intro p e s m below meth c ls E hK hP hl
  obtain ⟨hx, hb, hr, hml, hts, hown, hlocks, hin⟩ := id E
  have hown : s.vm.findClass RX3 = some m.cls := hown
  have hl : lv_has ls 3 [(0, .ref h)] := hl
  refine lv_iconst (v := 0) hx hb dX3_allPoints_0 (by decide) ?_
  refine lv_istore_n (lv' := [(1, .int 0), (0, .ref h)]) hx hb dX3_allPoints_1 rfl hl (by decide) rfl (fun ls hl => ?_)
  refine lv_iconst (v := 0) hx hb dX3_allPoints_2 (by decide) ?_
  refine lv_istore_n (lv' := [(2, .int 0), (1, .int 0), (0, .ref h)]) hx hb dX3_allPoints_3 rfl hl (by decide) rfl (fun ls hl => ?_)
  refine loopN (fun i : Nat => ∀ ls : Array Slot, lv_has ls 3 [(0, .ref h), (1, .int (sumF (V 7) i)), (2, .int (nI i))] → W p l e _ s m _ below meth c s.heap [] 0 0 _ (F0 m 4 ls [])) (6) (fun i hi ih_i => ?_) (0) (by omega)  ls (lv_sub hl [2, 1, 0] rfl) 
  intro  ls hl 
  refine lv_iload_n hx hb dX3_allPoints_4 rfl (lv_at hl 2 rfl) ?_
  refine lv_bipush (v := 6) hx hb dX3_allPoints_5 (by decide) ?_
  refine b_ge (tgt := 25) (i) (6) hx hb rfl rfl (by omega) (by omega) dX3_allPoints_7 (by decide) (fun h_1 => ?_) (fun h_1 => ?_)
  · obtain rfl : i = 6 := by omega
    refine lv_iload_n hx hb dX3_allPoints_25 rfl (lv_at hl 1 rfl) ?_
    exact rI_ret hx hb hr hlocks dX3_allPoints_26 (rfl)
  · refine lv_iload_n hx hb dX3_allPoints_10 rfl (lv_at hl 1 rfl) ?_
    refine lv_aload_n hx hb dX3_allPoints_11 rfl (lv_at hl 0 rfl) ?_
    refine b_get (v := .ref (a 7)) hx hb hts inX3 hown hK hP 0 0 7 rfl rfl rfl (by decide) q1_39 rfl rfl dX3_allPoints_12 ?_
    refine lv_iload_n hx hb dX3_allPoints_15 rfl (lv_at hl 2 rfl) ?_
    refine b_iald (v := V 7 i) hx hb hK hP 0 8 (i) rfl rfl rfl (by omega) rfl rfl dX3_allPoints_16 ?_
    refine lv_iadd hx hb dX3_allPoints_17 ?_
    refine lv_istore_n (lv' := [(1, .int ((sumF (V 7) i) + (V 7 i))), (0, .ref h), (2, .int (nI i))]) hx hb dX3_allPoints_18 rfl hl (by decide) rfl (fun ls hl => ?_)
    refine lv_iinc (v := nI (i + 1)) (lv' := [(2, .int (nI (i + 1))), (1, .int ((sumF (V 7) i) + (V 7 i))), (0, .ref h)]) hx hb dX3_allPoints_19 hl (k := 2) rfl (nI_add i 1) (by decide) rfl (fun ls hl => ?_)
    refine lv_goto (tgt := 4) hx hb dX3_allPoints_22 (by decide) ?_
    have e_2 : sumF (V 7) (i + 1) = (sumF (V 7) i) + (V 7 i) := rfl
    exact ih_i (by omega)  _ (by rw [e_2]; exact lv_sub hl [2, 1, 0] rfl) 
end
section
set_option maxHeartbeats 4000000 in
set_option maxRecDepth 100000 in
theorem c_X3_brokenRopes (l : Launch) (g : gx) (h : Nat) (a : Nat → Nat) (V : sV)  : cR l g yX3_brokenRopes cX3_brokenRopes 3 (some .int) ({ frames := 0, cells := 0, slots := 0, locals := 0 } : Room) [.ref h] [vB g h a V] (.int (cntF (fun j => ¬ V 10 j < 6) 30)) := by
  refine cR.mk (by decide +kernel) (Nat.le_of_ble_eq_true rfl) ?_
  intro p e s m below meth c ls E hK hP hl
  obtain ⟨hx, hb, hr, hml, hts, hown, hlocks, hin⟩ := id E
  have hown : s.vm.findClass RX3 = some m.cls := hown
  have hl : lv_has ls 3 [(0, .ref h)] := hl
  refine lv_iconst (v := 0) hx hb dX3_brokenRopes_0 (by decide) ?_
  refine lv_istore_n (lv' := [(1, .int 0), (0, .ref h)]) hx hb dX3_brokenRopes_1 rfl hl (by decide) rfl (fun ls hl => ?_)
  refine lv_iconst (v := 0) hx hb dX3_brokenRopes_2 (by decide) ?_
  refine lv_istore_n (lv' := [(2, .int 0), (1, .int 0), (0, .ref h)]) hx hb dX3_brokenRopes_3 rfl hl (by decide) rfl (fun ls hl => ?_)
  refine loopN (fun i : Nat => ∀ ls : Array Slot, lv_has ls 3 [(0, .ref h), (1, .int (cntF (fun j => ¬ V 10 j < 6) i)), (2, .int (nI i))] → W p l e _ s m _ below meth c s.heap [] 0 0 _ (F0 m 4 ls [])) (30) (fun i hi ih_i => ?_) (0) (by omega)  ls (lv_sub hl [2, 1, 0] rfl) 
  intro  ls hl 
  refine lv_iload_n hx hb dX3_brokenRopes_4 rfl (lv_at hl 2 rfl) ?_
  refine lv_bipush (v := 30) hx hb dX3_brokenRopes_5 (by decide) ?_
  refine b_ge (tgt := 30) (i) (30) hx hb rfl rfl (by omega) (by omega) dX3_brokenRopes_7 (by decide) (fun h_1 => ?_) (fun h_1 => ?_)
  · obtain rfl : i = 30 := by omega
    refine lv_iload_n hx hb dX3_brokenRopes_30 rfl (lv_at hl 1 rfl) ?_
    exact rI_ret hx hb hr hlocks dX3_brokenRopes_31 (rfl)
  · refine lv_aload_n hx hb dX3_brokenRopes_10 rfl (lv_at hl 0 rfl) ?_
    refine b_get (v := .ref (a 10)) hx hb hts inX3 hown hK hP 0 0 10 rfl rfl rfl (by decide) q1_46 rfl rfl dX3_brokenRopes_11 ?_
    refine lv_iload_n hx hb dX3_brokenRopes_14 rfl (lv_at hl 2 rfl) ?_
    refine b_iald (v := V 10 i) hx hb hK hP 0 11 (i) rfl rfl rfl (by omega) rfl rfl dX3_brokenRopes_15 ?_
    refine lv_bipush (v := 6) hx hb dX3_brokenRopes_16 (by decide) ?_
    refine lv_icmp_lt (tgt := 24) hx hb dX3_brokenRopes_18 (by decide) (fun h_2 => ?_) (fun h_2 => ?_)
    · refine lv_iinc (v := nI (i + 1)) (lv' := [(2, .int (nI (i + 1))), (0, .ref h), (1, .int (cntF (fun j => ¬ V 10 j < 6) i))]) hx hb dX3_brokenRopes_24 hl (k := 2) rfl (nI_add i 1) (by decide) rfl (fun ls hl => ?_)
      refine lv_goto (tgt := 4) hx hb dX3_brokenRopes_27 (by decide) ?_
      have e_3 : cntF (fun j => ¬ V 10 j < 6) (i + 1) = cntF (fun j => ¬ V 10 j < 6) i := by rw [cntF]; simp only [h_1, h_2, not_true_eq_false, not_false_eq_true, ite_true, ite_false, reduceIte]
      exact ih_i (by omega)  _ (by rw [e_3]; exact lv_sub hl [1, 2, 0] rfl) 
    · refine lv_iinc (v := cntF (fun j => ¬ V 10 j < 6) i + 1) (lv' := [(1, .int (cntF (fun j => ¬ V 10 j < 6) i + 1)), (0, .ref h), (2, .int (nI i))]) hx hb dX3_brokenRopes_21 hl (k := 1) rfl rfl (by decide) rfl (fun ls hl => ?_)
      refine lv_iinc (v := nI (i + 1)) (lv' := [(2, .int (nI (i + 1))), (1, .int (cntF (fun j => ¬ V 10 j < 6) i + 1)), (0, .ref h)]) hx hb dX3_brokenRopes_24 hl (k := 2) rfl (nI_add i 1) (by decide) rfl (fun ls hl => ?_)
      refine lv_goto (tgt := 4) hx hb dX3_brokenRopes_27 (by decide) ?_
      have e_4 : cntF (fun j => ¬ V 10 j < 6) (i + 1) = cntF (fun j => ¬ V 10 j < 6) i + 1 := by rw [cntF]; simp only [h_1, h_2, not_true_eq_false, not_false_eq_true, ite_true, ite_false, reduceIte]
      exact ih_i (by omega)  _ (by rw [e_4]; exact lv_sub hl [2, 1, 0] rfl) 

set_option maxHeartbeats 4000000 in
set_option maxRecDepth 100000 in
theorem c_X3_silentTowns (l : Launch) (g : gx) (h : Nat) (a : Nat → Nat) (V : sV)  : cR l g yX3_silentTowns cX3_silentTowns 3 (some .int) ({ frames := 0, cells := 0, slots := 0, locals := 0 } : Room) [.ref h] [vB g h a V] (.int (cntF (fun j => ¬ V 6 j ≤ 0) 6)) := by
  refine cR.mk (by decide +kernel) (Nat.le_of_ble_eq_true rfl) ?_
  intro p e s m below meth c ls E hK hP hl
  obtain ⟨hx, hb, hr, hml, hts, hown, hlocks, hin⟩ := id E
  have hown : s.vm.findClass RX3 = some m.cls := hown
  have hl : lv_has ls 3 [(0, .ref h)] := hl
  refine lv_iconst (v := 0) hx hb dX3_silentTowns_0 (by decide) ?_
  refine lv_istore_n (lv' := [(1, .int 0), (0, .ref h)]) hx hb dX3_silentTowns_1 rfl hl (by decide) rfl (fun ls hl => ?_)
  refine lv_iconst (v := 0) hx hb dX3_silentTowns_2 (by decide) ?_
  refine lv_istore_n (lv' := [(2, .int 0), (1, .int 0), (0, .ref h)]) hx hb dX3_silentTowns_3 rfl hl (by decide) rfl (fun ls hl => ?_)
  refine loopN (fun i : Nat => ∀ ls : Array Slot, lv_has ls 3 [(0, .ref h), (1, .int (cntF (fun j => ¬ V 6 j ≤ 0) i)), (2, .int (nI i))] → W p l e _ s m _ below meth c s.heap [] 0 0 _ (F0 m 4 ls [])) (6) (fun i hi ih_i => ?_) (0) (by omega)  ls (lv_sub hl [2, 1, 0] rfl) 
  intro  ls hl 
  refine lv_iload_n hx hb dX3_silentTowns_4 rfl (lv_at hl 2 rfl) ?_
  refine lv_bipush (v := 6) hx hb dX3_silentTowns_5 (by decide) ?_
  refine b_ge (tgt := 28) (i) (6) hx hb rfl rfl (by omega) (by omega) dX3_silentTowns_7 (by decide) (fun h_1 => ?_) (fun h_1 => ?_)
  · obtain rfl : i = 6 := by omega
    refine lv_iload_n hx hb dX3_silentTowns_28 rfl (lv_at hl 1 rfl) ?_
    exact rI_ret hx hb hr hlocks dX3_silentTowns_29 (rfl)
  · refine lv_aload_n hx hb dX3_silentTowns_10 rfl (lv_at hl 0 rfl) ?_
    refine b_get (v := .ref (a 6)) hx hb hts inX3 hown hK hP 0 0 6 rfl rfl rfl (by decide) q1_36 rfl rfl dX3_silentTowns_11 ?_
    refine lv_iload_n hx hb dX3_silentTowns_14 rfl (lv_at hl 2 rfl) ?_
    refine b_iald (v := V 6 i) hx hb hK hP 0 7 (i) rfl rfl rfl (by omega) rfl rfl dX3_silentTowns_15 ?_
    refine lv_if_le (tgt := 22) hx hb dX3_silentTowns_16 (by decide) (fun h_2 => ?_) (fun h_2 => ?_)
    · refine lv_iinc (v := nI (i + 1)) (lv' := [(2, .int (nI (i + 1))), (0, .ref h), (1, .int (cntF (fun j => ¬ V 6 j ≤ 0) i))]) hx hb dX3_silentTowns_22 hl (k := 2) rfl (nI_add i 1) (by decide) rfl (fun ls hl => ?_)
      refine lv_goto (tgt := 4) hx hb dX3_silentTowns_25 (by decide) ?_
      have e_3 : cntF (fun j => ¬ V 6 j ≤ 0) (i + 1) = cntF (fun j => ¬ V 6 j ≤ 0) i := by rw [cntF]; simp only [h_1, h_2, not_true_eq_false, not_false_eq_true, ite_true, ite_false, reduceIte]
      exact ih_i (by omega)  _ (by rw [e_3]; exact lv_sub hl [1, 2, 0] rfl) 
    · refine lv_iinc (v := cntF (fun j => ¬ V 6 j ≤ 0) i + 1) (lv' := [(1, .int (cntF (fun j => ¬ V 6 j ≤ 0) i + 1)), (0, .ref h), (2, .int (nI i))]) hx hb dX3_silentTowns_19 hl (k := 1) rfl rfl (by decide) rfl (fun ls hl => ?_)
      refine lv_iinc (v := nI (i + 1)) (lv' := [(2, .int (nI (i + 1))), (1, .int (cntF (fun j => ¬ V 6 j ≤ 0) i + 1)), (0, .ref h)]) hx hb dX3_silentTowns_22 hl (k := 2) rfl (nI_add i 1) (by decide) rfl (fun ls hl => ?_)
      refine lv_goto (tgt := 4) hx hb dX3_silentTowns_25 (by decide) ?_
      have e_4 : cntF (fun j => ¬ V 6 j ≤ 0) (i + 1) = cntF (fun j => ¬ V 6 j ≤ 0) i + 1 := by rw [cntF]; simp only [h_1, h_2, not_true_eq_false, not_false_eq_true, ite_true, ite_false, reduceIte]
      exact ih_i (by omega)  _ (by rw [e_4]; exact lv_sub hl [2, 1, 0] rfl) 
end
section
set_option maxHeartbeats 4000000 in
set_option maxRecDepth 100000 in
theorem c_X3_fillSlot (l : Launch) (g : gx) (h : Nat) (a : Nat → Nat) (V : sV) (s0 : Nat) (w x r : Int32) (hs : s0 < 30)  : cU (S := Unit) l g yX3_fillSlot cX3_fillSlot 5 none ({ frames := 0, cells := 0, slots := 0, locals := 0 } : Room) [.ref h, .int (nI s0), .int w, .int x, .int r] [vB g h a V] (fun _ => none) (fun _ => True) (fun _ => [vB g h a (fillV V s0 w x r)]) := by
  refine cU.mk (by decide +kernel) (Nat.le_of_ble_eq_true rfl) ?_
  intro p e s m below meth c ls E hK hW hl
  obtain ⟨hx, hb, hr, hml, hts, hown, hlocks, hin⟩ := id E
  have hown : s.vm.findClass RX3 = some m.cls := hown
  have hP := hW.1
  have hl : lv_has ls 5 [(0, .ref h), (1, .int (nI s0)), (2, .int w), (3, .int x), (4, .int r)] := hl
  refine lv_aload_n hx hb dX3_fillSlot_0 rfl (lv_at hl 0 rfl) ?_
  refine b_get (v := .ref (a 9)) hx hb hts inX3 hown hK hP 0 0 9 rfl rfl rfl (by decide) q1_43 rfl rfl dX3_fillSlot_1 ?_
  refine lv_iload_n hx hb dX3_fillSlot_4 rfl (lv_at hl 1 rfl) ?_
  refine lv_iload_n hx hb dX3_fillSlot_5 rfl (lv_at hl 2 rfl) ?_
  refine b_iast (B' := [vB g h a (up2 V 9 s0 w)]) hx hb hK hW 0 10 (s0) rfl rfl rfl (by omega) rfl rfl dX3_fillSlot_6 (fun H locs hW => ?_)
  have hP := hW.1
  refine lv_aload_n hx hb dX3_fillSlot_7 rfl (lv_at hl 0 rfl) ?_
  refine b_get (v := .ref (a 10)) hx hb hts inX3 hown hK hP 0 0 10 rfl rfl rfl (by decide) q1_46 rfl rfl dX3_fillSlot_8 ?_
  refine lv_iload_n hx hb dX3_fillSlot_11 rfl (lv_at hl 1 rfl) ?_
  refine lv_iload_n hx hb dX3_fillSlot_12 rfl (lv_at hl 3 rfl) ?_
  refine b_iast (B' := [vB g h a (up2 (up2 V 9 s0 w) 10 s0 x)]) hx hb hK hW 0 11 (s0) rfl rfl rfl (by omega) rfl rfl dX3_fillSlot_13 (fun H locs hW => ?_)
  have hP := hW.1
  refine lv_aload_n hx hb dX3_fillSlot_14 rfl (lv_at hl 0 rfl) ?_
  refine b_get (v := .ref (a 11)) hx hb hts inX3 hown hK hP 0 0 11 rfl rfl rfl (by decide) q1_49 rfl rfl dX3_fillSlot_15 ?_
  refine lv_iload_n hx hb dX3_fillSlot_18 rfl (lv_at hl 1 rfl) ?_
  refine lv_iload hx hb dX3_fillSlot_19 (lv_at hl 4 rfl) ?_
  refine b_iast (B' := [vB g h a (up2 (up2 (up2 V 9 s0 w) 10 s0 x) 11 s0 r)]) hx hb hK hW 0 12 (s0) rfl rfl rfl (by omega) rfl rfl dX3_fillSlot_21 (fun H locs hW => ?_)
  have hP := hW.1
  exact uV_ret () hW hx hb hr hlocks dX3_fillSlot_22 trivial (rfl) (adr2 (L := [[h, a 0, a 1, a 2, a 3, a 4, a 5, a 6, a 7, a 8, a 9, a 10, a 11]]) rfl rfl)

set_option maxHeartbeats 4000000 in
set_option maxRecDepth 100000 in
theorem c_X3_addBell (l : Launch) (g : gx) (h : Nat) (a : Nat → Nat) (V : sV) (t c0 : Nat) (w : Int32) (ht : t < 6) (hc : V 3 t = nI c0) (hc5 : c0 < 5)  : cU (S := Unit) l g yX3_addBell cX3_addBell 4 (some .int) ({ frames := 1, cells := 0, slots := 0, locals := 24 } : Room) [.ref h, .int (nI t), .int w] [vB g h a V] (fun _ => some (.int (nI c0))) (fun _ => True) (fun _ => [vB g h a (addV V t c0 w)]) := by
  refine cU.mk (by decide +kernel) (Nat.le_of_ble_eq_true rfl) ?_
  intro p e s m below meth c ls E hK hW hl
  obtain ⟨hx, hb, hr, hml, hts, hown, hlocks, hin⟩ := id E
  have hown : s.vm.findClass RX3 = some m.cls := hown
  have hP := hW.1
  have hl : lv_has ls 4 [(0, .ref h), (1, .int (nI t)), (2, .int w)] := hl
  refine lv_aload_n hx hb dX3_addBell_0 rfl (lv_at hl 0 rfl) ?_
  refine b_get (v := .ref (a 3)) hx hb hts inX3 hown hK hP 0 0 3 rfl rfl rfl (by decide) q1_30 rfl rfl dX3_addBell_1 ?_
  refine lv_iload_n hx hb dX3_addBell_4 rfl (lv_at hl 1 rfl) ?_
  refine b_iald (v := V 3 t) hx hb hK hP 0 4 (t) rfl rfl rfl (by omega) rfl rfl dX3_addBell_5 ?_
  refine b_top (y := nI c0) hc ?_
  refine lv_istore_n (lv' := [(3, .int (nI c0)), (0, .ref h), (1, .int (nI t)), (2, .int w)]) hx hb dX3_addBell_6 rfl hl (by decide) rfl (fun ls hl => ?_)
  refine lv_aload_n hx hb dX3_addBell_7 rfl (lv_at hl 1 rfl) ?_
  refine lv_iload_n hx hb dX3_addBell_8 rfl (lv_at hl 2 rfl) ?_
  refine lv_iload_n hx hb dX3_addBell_9 rfl (lv_at hl 0 rfl) ?_
  refine call_NR (As := [.int (nI t), .int (nI c0)]) (rest := [.ref h]) E rfl hK hP (c_X4_slot l g t c0) ok_X4_slot rfl hK.2.2.2.2.2.2 [] rfl ⟨⟨rfl, rfl⟩, Nat.le_of_ble_eq_true rfl, Nat.le_of_ble_eq_true rfl⟩ hl.1 (Nat.le_of_ble_eq_true rfl) ⟨Nat.le_of_ble_eq_true rfl, Nat.le_of_ble_eq_true rfl⟩ rfl dX3_addBell_10 ?_
  refine lv_iload_n hx hb dX3_addBell_13 rfl (lv_at hl 3 rfl) ?_
  refine lv_iconst (v := 0) hx hb dX3_addBell_14 (by decide) ?_
  refine lv_iconst (v := 0) hx hb dX3_addBell_15 (by decide) ?_
  refine call_VU (As := [.int (nI (t * 5 + c0)), .int w, .int 0, .int 0]) (rest := []) E rfl hK hW (c_X3_fillSlot l g h a V (t * 5 + c0) w 0 0 (by omega)) ok_X3_fillSlot rfl q1_219 [0] rfl (by decide) (b_recv hK hP 0 0 rfl rfl rfl rfl) ⟨⟨rfl, rfl⟩, Nat.le_of_ble_eq_true rfl, Nat.le_of_ble_eq_true rfl⟩ hl.1 (Nat.le_of_ble_eq_true rfl) ⟨Nat.le_of_ble_eq_true rfl, Nat.le_of_ble_eq_true rfl⟩ rfl dX3_addBell_16 (fun _u H locs _ hW => ?_)
  have hW : wd g _ s.heap [vB g h a (up2 (up2 (up2 V 9 (t * 5 + c0) w) 10 (t * 5 + c0) 0) 11 (t * 5 + c0) 0)] H locs := hW
  have hP := hW.1
  refine lv_aload_n hx hb dX3_addBell_19 rfl (lv_at hl 1 rfl) ?_
  refine b_get (v := .ref (a 3)) hx hb hts inX3 hown hK hP 0 0 3 rfl rfl rfl (by decide) q1_30 rfl rfl dX3_addBell_20 ?_
  refine lv_iload_n hx hb dX3_addBell_23 rfl (lv_at hl 2 rfl) ?_
  refine lv_iload_n hx hb dX3_addBell_24 rfl (lv_at hl 0 rfl) ?_
  refine lv_iconst (v := 1) hx hb dX3_addBell_25 (by decide) ?_
  refine lv_iadd hx hb dX3_addBell_26 ?_
  refine b_top (y := nI (c0 + 1)) (nI_add c0 1) ?_
  refine b_iast (B' := [vB g h a (up2 (up2 (up2 (up2 V 9 (t * 5 + c0) w) 10 (t * 5 + c0) 0) 11 (t * 5 + c0) 0) 3 t (nI (c0 + 1)))]) hx hb hK hW 0 4 (t) rfl rfl rfl (by omega) rfl rfl dX3_addBell_27 (fun H locs hW => ?_)
  have hP := hW.1
  refine lv_iload_n hx hb dX3_addBell_28 rfl (lv_at hl 0 rfl) ?_
  exact uI_ret () hW hx hb hr hlocks dX3_addBell_29 (rfl) trivial (rfl) (adr2 (L := [[h, a 0, a 1, a 2, a 3, a 4, a 5, a 6, a 7, a 8, a 9, a 10, a 11]]) rfl rfl)
end
section
set_option maxHeartbeats 4000000 in
set_option maxRecDepth 100000 in
theorem c_X3_removeBell (l : Launch) (g : gx) (h : Nat) (a : Nat → Nat) (V : sV) (t b c0 : Nat) (ht : t < 6) (hc : V 3 t = nI c0) (hc5 : c0 ≤ 5) (hb0 : b < c0)  : cU (S := Unit) l g yX3_removeBell cX3_removeBell 6 none ({ frames := 1, cells := 0, slots := 0, locals := 24 } : Room) [.ref h, .int (nI t), .int (nI b)] [vB g h a V] (fun _ => none) (fun _ => True) (fun _ => [vB g h a (remV V t b c0)]) := by
  refine cU.mk (by decide +kernel) (Nat.le_of_ble_eq_true rfl) ?_
  intro p e s m below meth c ls E hK hW hl
  obtain ⟨hx, hb, hr, hml, hts, hown, hlocks, hin⟩ := id E
  have hown : s.vm.findClass RX3 = some m.cls := hown
  have hP := hW.1
  have hl : lv_has ls 6 [(0, .ref h), (1, .int (nI t)), (2, .int (nI b))] := hl
  refine lv_aload_n hx hb dX3_removeBell_0 rfl (lv_at hl 0 rfl) ?_
  refine b_get (v := .ref (a 3)) hx hb hts inX3 hown hK hP 0 0 3 rfl rfl rfl (by decide) q1_30 rfl rfl dX3_removeBell_1 ?_
  refine lv_iload_n hx hb dX3_removeBell_4 rfl (lv_at hl 1 rfl) ?_
  refine b_iald (v := V 3 t) hx hb hK hP 0 4 (t) rfl rfl rfl (by omega) rfl rfl dX3_removeBell_5 ?_
  refine b_top (y := nI c0) hc ?_
  refine lv_iconst (v := 1) hx hb dX3_removeBell_6 (by decide) ?_
  refine lv_isub hx hb dX3_removeBell_7 ?_
  refine b_top (y := nI (c0 - 1)) (pk_sub (a := c0) (b := 1) (by omega)) ?_
  refine lv_istore_n (lv' := [(3, .int (nI (c0 - 1))), (0, .ref h), (1, .int (nI t)), (2, .int (nI b))]) hx hb dX3_removeBell_8 rfl hl (by decide) rfl (fun ls hl => ?_)
  refine lv_iload_n hx hb dX3_removeBell_9 rfl (lv_at hl 3 rfl) ?_
  refine lv_iconst (v := 1) hx hb dX3_removeBell_10 (by decide) ?_
  refine lv_iadd hx hb dX3_removeBell_11 ?_
  refine b_top (y := nI (b + 1)) (nI_add b 1) ?_
  refine lv_istore (lv' := [(4, .int (nI (b + 1))), (3, .int (nI (c0 - 1))), (0, .ref h), (1, .int (nI t)), (2, .int (nI b))]) hx hb dX3_removeBell_12 hl (by decide) rfl (fun ls hl => ?_)
  refine loopN (fun k : Nat => ∀ (H : Heap) (locs : List Loc) (ls : Array Slot), wd g (fun q => q ∈ adr [vB g h a V]) s.heap [vB g h a (shV V t b k)] H locs → lv_has ls 6 [(0, .ref h), (1, .int (nI t)), (2, .int (nI b)), (3, .int (nI (c0 - 1))), (4, .int (nI (b + 1 + k)))] → W p l e _ s m _ below meth c H locs 0 0 _ (F0 m 14 ls [])) (c0 - 1 - b) (fun k hi ih_k => ?_) (0) (by omega)  s.heap [] ls hW (lv_sub hl [2, 3, 4, 1, 0] rfl) 
  intro  H locs ls hW hl 
  have hP := hW.1
  refine lv_iload hx hb dX3_removeBell_14 (lv_at hl 4 rfl) ?_
  refine lv_iload_n hx hb dX3_removeBell_16 rfl (lv_at hl 3 rfl) ?_
  refine b_gt (tgt := 63) (b + 1 + k) (c0 - 1) hx hb rfl rfl (by omega) (by omega) dX3_removeBell_17 (by decide) (fun h_1 => ?_) (fun h_1 => ?_)
  · obtain rfl : k = c0 - 1 - b := by omega
    obtain ⟨U_2, hU_2⟩ : ∃ z, z = (shV V t b (c0 - 1 - b)) := ⟨_, rfl⟩
    rw [← hU_2] at hW
    have hP := hW.1
    refine lv_aload_n hx hb dX3_removeBell_63 rfl (lv_at hl 0 rfl) ?_
    refine lv_iload_n hx hb dX3_removeBell_64 rfl (lv_at hl 1 rfl) ?_
    refine lv_iload_n hx hb dX3_removeBell_65 rfl (lv_at hl 3 rfl) ?_
    refine call_NR (As := [.int (nI t), .int (nI (c0 - 1))]) (rest := [.ref h]) E rfl hK hP (c_X4_slot l g t (c0 - 1)) ok_X4_slot rfl hK.2.2.2.2.2.2 [] rfl ⟨⟨rfl, rfl⟩, Nat.le_of_ble_eq_true rfl, Nat.le_of_ble_eq_true rfl⟩ hl.1 (Nat.le_of_ble_eq_true rfl) ⟨Nat.le_of_ble_eq_true rfl, Nat.le_of_ble_eq_true rfl⟩ rfl dX3_removeBell_66 ?_
    refine lv_iconst (v := 0) hx hb dX3_removeBell_69 (by decide) ?_
    refine lv_iconst (v := 0) hx hb dX3_removeBell_70 (by decide) ?_
    refine lv_iconst (v := 0) hx hb dX3_removeBell_71 (by decide) ?_
    refine call_VU (As := [.int (nI (t * 5 + (c0 - 1))), .int 0, .int 0, .int 0]) (rest := []) E rfl hK hW (c_X3_fillSlot l g h a U_2 (t * 5 + (c0 - 1)) 0 0 0 (by omega)) ok_X3_fillSlot rfl q1_219 [0] rfl (by decide) (b_recv hK hP 0 0 rfl rfl rfl rfl) ⟨⟨rfl, rfl⟩, Nat.le_of_ble_eq_true rfl, Nat.le_of_ble_eq_true rfl⟩ hl.1 (Nat.le_of_ble_eq_true rfl) ⟨Nat.le_of_ble_eq_true rfl, Nat.le_of_ble_eq_true rfl⟩ rfl dX3_removeBell_72 (fun _u H locs _ hW => ?_)
    have hW : wd g _ s.heap [vB g h a (up2 (up2 (up2 U_2 9 (t * 5 + (c0 - 1)) 0) 10 (t * 5 + (c0 - 1)) 0) 11 (t * 5 + (c0 - 1)) 0)] H locs := hW
    have hP := hW.1
    refine lv_aload_n hx hb dX3_removeBell_75 rfl (lv_at hl 0 rfl) ?_
    refine b_get (v := .ref (a 3)) hx hb hts inX3 hown hK hP 0 0 3 rfl rfl rfl (by decide) q1_30 rfl rfl dX3_removeBell_76 ?_
    refine lv_iload_n hx hb dX3_removeBell_79 rfl (lv_at hl 1 rfl) ?_
    refine lv_iload_n hx hb dX3_removeBell_80 rfl (lv_at hl 3 rfl) ?_
    refine b_iast (B' := [vB g h a (up2 (up2 (up2 (up2 U_2 9 (t * 5 + (c0 - 1)) 0) 10 (t * 5 + (c0 - 1)) 0) 11 (t * 5 + (c0 - 1)) 0) 3 t (nI (c0 - 1)))]) hx hb hK hW 0 4 (t) rfl rfl rfl (by omega) rfl rfl dX3_removeBell_81 (fun H locs hW => ?_)
    have hP := hW.1
    refine lv_aload_n hx hb dX3_removeBell_82 rfl (lv_at hl 0 rfl) ?_
    refine b_get (v := .ref (a 4)) hx hb hts inX3 hown hK hP 0 0 4 rfl rfl rfl (by decide) q1_32 rfl rfl dX3_removeBell_83 ?_
    refine lv_iload_n hx hb dX3_removeBell_86 rfl (lv_at hl 1 rfl) ?_
    refine b_iald (v := U_2 4 t) hx hb hK hP 0 5 (t) rfl rfl rfl (by omega) rfl rfl dX3_removeBell_87 ?_
    refine lv_iconst (v := 1) hx hb dX3_removeBell_88 (by decide) ?_
    refine lv_iload_n hx hb dX3_removeBell_89 rfl (lv_at hl 2 rfl) ?_
    refine lv_ishl hx hb dX3_removeBell_90 ?_
    refine lv_iconst (v := 1) hx hb dX3_removeBell_91 (by decide) ?_
    refine lv_isub hx hb dX3_removeBell_92 ?_
    refine lv_iand hx hb dX3_removeBell_93 ?_
    refine lv_istore (lv' := [(4, .int ((U_2 4 t) &&& ((1 <<< ((nI b) &&& 31)) - 1))), (0, .ref h), (1, .int (nI t)), (2, .int (nI b)), (3, .int (nI (c0 - 1)))]) hx hb dX3_removeBell_94 hl (by decide) rfl (fun ls hl => ?_)
    refine lv_aload_n hx hb dX3_removeBell_96 rfl (lv_at hl 1 rfl) ?_
    refine b_get (v := .ref (a 4)) hx hb hts inX3 hown hK hP 0 0 4 rfl rfl rfl (by decide) q1_32 rfl rfl dX3_removeBell_97 ?_
    refine lv_iload_n hx hb dX3_removeBell_100 rfl (lv_at hl 2 rfl) ?_
    refine b_iald (v := U_2 4 t) hx hb hK hP 0 5 (t) rfl rfl rfl (by omega) rfl rfl dX3_removeBell_101 ?_
    refine lv_iload_n hx hb dX3_removeBell_102 rfl (lv_at hl 3 rfl) ?_
    refine lv_iconst (v := 1) hx hb dX3_removeBell_103 (by decide) ?_
    refine lv_iadd hx hb dX3_removeBell_104 ?_
    refine b_top (y := nI (b + 1)) (nI_add b 1) ?_
    refine lv_ishr hx hb dX3_removeBell_105 ?_
    refine lv_istore (lv' := [(5, .int ((U_2 4 t) >>> ((nI (b + 1)) &&& 31))), (4, .int ((U_2 4 t) &&& ((1 <<< ((nI b) &&& 31)) - 1))), (0, .ref h), (1, .int (nI t)), (2, .int (nI b)), (3, .int (nI (c0 - 1)))]) hx hb dX3_removeBell_106 hl (by decide) rfl (fun ls hl => ?_)
    refine lv_aload_n hx hb dX3_removeBell_108 rfl (lv_at hl 2 rfl) ?_
    refine b_get (v := .ref (a 4)) hx hb hts inX3 hown hK hP 0 0 4 rfl rfl rfl (by decide) q1_32 rfl rfl dX3_removeBell_109 ?_
    refine lv_iload_n hx hb dX3_removeBell_112 rfl (lv_at hl 3 rfl) ?_
    refine lv_iload hx hb dX3_removeBell_113 (lv_at hl 1 rfl) ?_
    refine lv_iload hx hb dX3_removeBell_115 (lv_at hl 0 rfl) ?_
    refine lv_iload_n hx hb dX3_removeBell_117 rfl (lv_at hl 4 rfl) ?_
    refine lv_ishl hx hb dX3_removeBell_118 ?_
    refine lv_ior hx hb dX3_removeBell_119 ?_
    refine b_iast (B' := [vB g h a (up2 (up2 (up2 (up2 (up2 U_2 9 (t * 5 + (c0 - 1)) 0) 10 (t * 5 + (c0 - 1)) 0) 11 (t * 5 + (c0 - 1)) 0) 3 t (nI (c0 - 1))) 4 t (((U_2 4 t) &&& ((1 <<< ((nI b) &&& 31)) - 1)) ||| (((U_2 4 t) >>> ((nI (b + 1)) &&& 31)) <<< ((nI b) &&& 31))))]) hx hb hK hW 0 5 (t) rfl rfl rfl (by omega) rfl rfl dX3_removeBell_120 (fun H locs hW => ?_)
    have hP := hW.1
    exact uV_ret () hW hx hb hr hlocks dX3_removeBell_121 trivial (by rw [hU_2]) (adr2 (L := [[h, a 0, a 1, a 2, a 3, a 4, a 5, a 6, a 7, a 8, a 9, a 10, a 11]]) rfl rfl)
  · refine lv_iload_n hx hb dX3_removeBell_20 rfl (lv_at hl 1 rfl) ?_
    refine lv_iload hx hb dX3_removeBell_21 (lv_at hl 4 rfl) ?_
    refine call_NR (As := [.int (nI t), .int (nI (b + 1 + k))]) (rest := []) E rfl hK hP (c_X4_slot l g t (b + 1 + k)) ok_X4_slot rfl hK.2.2.2.2.2.2 [] rfl ⟨⟨rfl, rfl⟩, Nat.le_of_ble_eq_true rfl, Nat.le_of_ble_eq_true rfl⟩ hl.1 (Nat.le_of_ble_eq_true rfl) ⟨Nat.le_of_ble_eq_true rfl, Nat.le_of_ble_eq_true rfl⟩ rfl dX3_removeBell_23 ?_
    refine lv_istore (lv' := [(5, .int (nI (t * 5 + (b + 1 + k)))), (0, .ref h), (1, .int (nI t)), (2, .int (nI b)), (3, .int (nI (c0 - 1))), (4, .int (nI (b + 1 + k)))]) hx hb dX3_removeBell_26 hl (by decide) rfl (fun ls hl => ?_)
    refine lv_aload_n hx hb dX3_removeBell_28 rfl (lv_at hl 1 rfl) ?_
    refine lv_iload hx hb dX3_removeBell_29 (lv_at hl 0 rfl) ?_
    refine lv_iconst (v := 1) hx hb dX3_removeBell_31 (by decide) ?_
    refine lv_isub hx hb dX3_removeBell_32 ?_
    refine b_top (y := nI ((t * 5 + (b + 1 + k)) - 1)) (pk_sub (a := t * 5 + (b + 1 + k)) (b := 1) (by omega)) ?_
    refine lv_aload_n hx hb dX3_removeBell_33 rfl (lv_at hl 1 rfl) ?_
    refine b_get (v := .ref (a 9)) hx hb hts inX3 hown hK hP 0 0 9 rfl rfl rfl (by decide) q1_43 rfl rfl dX3_removeBell_34 ?_
    refine lv_iload hx hb dX3_removeBell_37 (lv_at hl 0 rfl) ?_
    refine b_iald (v := (shV V t b k) 9 (t * 5 + (b + 1 + k))) hx hb hK hP 0 10 (t * 5 + (b + 1 + k)) rfl rfl rfl (by omega) rfl rfl dX3_removeBell_39 ?_
    refine lv_aload_n hx hb dX3_removeBell_40 rfl (lv_at hl 1 rfl) ?_
    refine b_get (v := .ref (a 10)) hx hb hts inX3 hown hK hP 0 0 10 rfl rfl rfl (by decide) q1_46 rfl rfl dX3_removeBell_41 ?_
    refine lv_iload hx hb dX3_removeBell_44 (lv_at hl 0 rfl) ?_
    refine b_iald (v := (shV V t b k) 10 (t * 5 + (b + 1 + k))) hx hb hK hP 0 11 (t * 5 + (b + 1 + k)) rfl rfl rfl (by omega) rfl rfl dX3_removeBell_46 ?_
    refine lv_aload_n hx hb dX3_removeBell_47 rfl (lv_at hl 1 rfl) ?_
    refine b_get (v := .ref (a 11)) hx hb hts inX3 hown hK hP 0 0 11 rfl rfl rfl (by decide) q1_49 rfl rfl dX3_removeBell_48 ?_
    refine lv_iload hx hb dX3_removeBell_51 (lv_at hl 0 rfl) ?_
    refine b_iald (v := (shV V t b k) 11 (t * 5 + (b + 1 + k))) hx hb hK hP 0 12 (t * 5 + (b + 1 + k)) rfl rfl rfl (by omega) rfl rfl dX3_removeBell_53 ?_
    refine call_VU (As := [.int (nI ((t * 5 + (b + 1 + k)) - 1)), .int ((shV V t b k) 9 (t * 5 + (b + 1 + k))), .int ((shV V t b k) 10 (t * 5 + (b + 1 + k))), .int ((shV V t b k) 11 (t * 5 + (b + 1 + k)))]) (rest := []) E rfl hK hW (c_X3_fillSlot l g h a (shV V t b k) ((t * 5 + (b + 1 + k)) - 1) ((shV V t b k) 9 (t * 5 + (b + 1 + k))) ((shV V t b k) 10 (t * 5 + (b + 1 + k))) ((shV V t b k) 11 (t * 5 + (b + 1 + k))) (by omega)) ok_X3_fillSlot rfl q1_219 [0] rfl (by decide) (b_recv hK hP 0 0 rfl rfl rfl rfl) ⟨⟨rfl, rfl⟩, Nat.le_of_ble_eq_true rfl, Nat.le_of_ble_eq_true rfl⟩ hl.1 (Nat.le_of_ble_eq_true rfl) ⟨Nat.le_of_ble_eq_true rfl, Nat.le_of_ble_eq_true rfl⟩ rfl dX3_removeBell_54 (fun _u H locs _ hW => ?_)
    have hW : wd g _ s.heap [vB g h a (up2 (up2 (up2 (shV V t b k) 9 ((t * 5 + (b + 1 + k)) - 1) ((shV V t b k) 9 (t * 5 + (b + 1 + k)))) 10 ((t * 5 + (b + 1 + k)) - 1) ((shV V t b k) 10 (t * 5 + (b + 1 + k)))) 11 ((t * 5 + (b + 1 + k)) - 1) ((shV V t b k) 11 (t * 5 + (b + 1 + k))))] H locs := hW
    have hP := hW.1
    refine lv_iinc (v := nI (b + 1 + k + 1)) (lv' := [(4, .int (nI (b + 1 + k + 1))), (5, .int (nI (t * 5 + (b + 1 + k)))), (0, .ref h), (1, .int (nI t)), (2, .int (nI b)), (3, .int (nI (c0 - 1)))]) hx hb dX3_removeBell_57 hl (k := 5) rfl (nI_add (b + 1 + k) 1) (by decide) rfl (fun ls hl => ?_)
    refine lv_goto (tgt := 14) hx hb dX3_removeBell_60 (by decide) ?_
    have e_3 : ([vB g h a (shV V t b (k + 1))] : List va_W) = [vB g h a (up2 (up2 (up2 (shV V t b k) 9 ((t * 5 + (b + 1 + k)) - 1) ((shV V t b k) 9 (t * 5 + (b + 1 + k)))) 10 ((t * 5 + (b + 1 + k)) - 1) ((shV V t b k) 10 (t * 5 + (b + 1 + k)))) 11 ((t * 5 + (b + 1 + k)) - 1) ((shV V t b k) 11 (t * 5 + (b + 1 + k))))] := rfl
    exact ih_k (by omega)  _ _ _ (by rw [e_3]; exact hW) (lv_sub hl [2, 3, 4, 5, 0] rfl) 
end
section
set_option maxHeartbeats 4000000 in
set_option maxRecDepth 100000 in
theorem c_X3_givePoints (l : Launch) (g : gx) (h : Nat) (a : Nat → Nat) (V : sV) (o : Nat) (oa : Nat → Nat) (N : sV)  : cU (S := Unit) l g yX3_givePoints cX3_givePoints 4 none ({ frames := 1, cells := 0, slots := 0, locals := 20 } : Room) [.ref h, .ref o] [vB g h a V, rB g o oa N] (fun _ => none) (fun _ => True) (fun _ => [vB g h a (gpV V N 6), rB g o oa N]) := by
  refine cU.mk (by decide +kernel) (Nat.le_of_ble_eq_true rfl) ?_
  intro p e s m below meth c ls E hK hW hl
  obtain ⟨hx, hb, hr, hml, hts, hown, hlocks, hin⟩ := id E
  have hown : s.vm.findClass RX3 = some m.cls := hown
  have hP := hW.1
  have hl : lv_has ls 4 [(0, .ref h), (1, .ref o)] := hl
  refine lv_iconst (v := 0) hx hb dX3_givePoints_0 (by decide) ?_
  refine lv_istore_n (lv' := [(2, .int 0), (0, .ref h), (1, .ref o)]) hx hb dX3_givePoints_1 rfl hl (by decide) rfl (fun ls hl => ?_)
  refine loopN (fun i : Nat => ∀ (H : Heap) (locs : List Loc) (ls : Array Slot), wd g (fun q => q ∈ adr [vB g h a V, rB g o oa N]) s.heap [vB g h a (gpV V N i), rB g o oa N] H locs → lv_has ls 4 [(0, .ref h), (1, .ref o), (2, .int (nI i))] → W p l e _ s m _ below meth c H locs 0 0 _ (F0 m 2 ls [])) (6) (fun i hi ih_i => ?_) (0) (by omega)  s.heap [] ls hW (lv_sub hl [1, 2, 0] rfl) 
  intro  H locs ls hW hl 
  have hP := hW.1
  refine lv_iload_n hx hb dX3_givePoints_2 rfl (lv_at hl 2 rfl) ?_
  refine lv_bipush (v := 6) hx hb dX3_givePoints_3 (by decide) ?_
  refine b_ge (tgt := 38) (i) (6) hx hb rfl rfl (by omega) (by omega) dX3_givePoints_5 (by decide) (fun h_1 => ?_) (fun h_1 => ?_)
  · obtain rfl : i = 6 := by omega
    obtain ⟨U_2, hU_2⟩ : ∃ z, z = (gpV V N 6) := ⟨_, rfl⟩
    rw [← hU_2] at hW
    have hP := hW.1
    exact uV_ret () hW hx hb hr hlocks dX3_givePoints_38 trivial (by rw [hU_2]) (adr2 (L := [[h, a 0, a 1, a 2, a 3, a 4, a 5, a 6, a 7, a 8, a 9, a 10, a 11], [o, oa 0, oa 1, oa 2, oa 3]]) rfl rfl)
  · refine lv_aload_n hx hb dX3_givePoints_8 rfl (lv_at hl 1 rfl) ?_
    refine b_get (v := .ref (oa 3)) hx hb hts inX1 hown hK hP 1 0 3 rfl rfl rfl (by decide) q1_132 rfl rfl dX3_givePoints_9 ?_
    refine lv_iload_n hx hb dX3_givePoints_12 rfl (lv_at hl 2 rfl) ?_
    refine b_iald (v := N 3 i) hx hb hK hP 1 4 (i) rfl rfl rfl (by omega) rfl rfl dX3_givePoints_13 ?_
    refine lv_istore_n (lv' := [(3, .int (N 3 i)), (0, .ref h), (1, .ref o), (2, .int (nI i))]) hx hb dX3_givePoints_14 rfl hl (by decide) rfl (fun ls hl => ?_)
    refine lv_iload_n hx hb dX3_givePoints_15 rfl (lv_at hl 0 rfl) ?_
    refine call_NR (As := [.int (N 3 i)]) (rest := []) E rfl hK hP (c_X4_isTown l g (N 3 i)) ok_X4_isTown rfl hK.2.2.2.2.2.1 [] rfl ⟨⟨rfl, rfl⟩, Nat.le_of_ble_eq_true rfl, Nat.le_of_ble_eq_true rfl⟩ hl.1 (Nat.le_of_ble_eq_true rfl) ⟨Nat.le_of_ble_eq_true rfl, Nat.le_of_ble_eq_true rfl⟩ rfl dX3_givePoints_16 ?_
    refine b_eq0 (tgt := 32) hx hb dX3_givePoints_19 (by decide) (fun h_3 => ?_) (fun h_3 => ?_)
    · refine lv_iinc (v := nI (i + 1)) (lv' := [(2, .int (nI (i + 1))), (3, .int (N 3 i)), (0, .ref h), (1, .ref o)]) hx hb dX3_givePoints_32 hl (k := 3) rfl (nI_add i 1) (by decide) rfl (fun ls hl => ?_)
      refine lv_goto (tgt := 2) hx hb dX3_givePoints_35 (by decide) ?_
      have e_4 : ([vB g h a (gpV V N (i + 1)), rB g o oa N] : List va_W) = [vB g h a (gpV V N i), rB g o oa N] := by rw [gpV]; first | rw [if_neg (by assumption)] | (rw [if_pos (by assumption), hwe, nI_clamp (by omega)])
      exact ih_i (by omega)  _ _ _ (by rw [e_4]; exact hW) (lv_sub hl [2, 3, 0] rfl) 
    · obtain ⟨w, hw, hwe⟩ := isT_nat h_3
      refine lv_aload_n hx hb dX3_givePoints_22 rfl (lv_at hl 1 rfl) ?_
      refine b_get (v := .ref (a 7)) hx hb hts inX3 hown hK hP 0 0 7 rfl rfl rfl (by decide) q1_39 rfl rfl dX3_givePoints_23 ?_
      refine lv_iload_n hx hb dX3_givePoints_26 rfl (lv_at hl 0 rfl) ?_
      refine lv_dup2_11 hx hb dX3_givePoints_27 rfl rfl ?_
      refine b_iald (v := (gpV V N i) 7 w) hx hb hK hP 0 8 (w) rfl rfl hwe (by omega) rfl rfl dX3_givePoints_28 ?_
      refine lv_iconst (v := 1) hx hb dX3_givePoints_29 (by decide) ?_
      refine lv_iadd hx hb dX3_givePoints_30 ?_
      refine b_iast (B' := [vB g h a (up2 (gpV V N i) 7 w (((gpV V N i) 7 w) + 1)), rB g o oa N]) hx hb hK hW 0 8 (w) rfl rfl hwe (by omega) rfl rfl dX3_givePoints_31 (fun H locs hW => ?_)
      have hP := hW.1
      refine lv_iinc (v := nI (i + 1)) (lv' := [(2, .int (nI (i + 1))), (3, .int (N 3 i)), (0, .ref h), (1, .ref o)]) hx hb dX3_givePoints_32 hl (k := 3) rfl (nI_add i 1) (by decide) rfl (fun ls hl => ?_)
      refine lv_goto (tgt := 2) hx hb dX3_givePoints_35 (by decide) ?_
      have e_5 : ([vB g h a (gpV V N (i + 1)), rB g o oa N] : List va_W) = [vB g h a (up2 (gpV V N i) 7 w (((gpV V N i) 7 w) + 1)), rB g o oa N] := by rw [gpV]; first | rw [if_neg (by assumption)] | (rw [if_pos (by assumption), hwe, nI_clamp (by omega)])
      exact ih_i (by omega)  _ _ _ (by rw [e_5]; exact hW) (lv_sub hl [2, 3, 0] rfl) 

set_option maxHeartbeats 4000000 in
set_option maxRecDepth 100000 in
theorem c_X3_wearRopes (l : Launch) (g : gx) (h : Nat) (a : Nat → Nat) (V : sV) (o : Nat) (oa : Nat → Nat) (N : sV)  : cU (S := Unit) l g yX3_wearRopes cX3_wearRopes 3 none ({ frames := 0, cells := 0, slots := 0, locals := 0 } : Room) [.ref h, .ref o] [vB g h a V, rB g o oa N] (fun _ => none) (fun _ => True) (fun _ => [vB g h a (wrV V N 30), rB g o oa N]) := by
  refine cU.mk (by decide +kernel) (Nat.le_of_ble_eq_true rfl) ?_
  intro p e s m below meth c ls E hK hW hl
  obtain ⟨hx, hb, hr, hml, hts, hown, hlocks, hin⟩ := id E
  have hown : s.vm.findClass RX3 = some m.cls := hown
  have hP := hW.1
  have hl : lv_has ls 3 [(0, .ref h), (1, .ref o)] := hl
  refine lv_iconst (v := 0) hx hb dX3_wearRopes_0 (by decide) ?_
  refine lv_istore_n (lv' := [(2, .int 0), (0, .ref h), (1, .ref o)]) hx hb dX3_wearRopes_1 rfl hl (by decide) rfl (fun ls hl => ?_)
  refine loopN (fun i : Nat => ∀ (H : Heap) (locs : List Loc) (ls : Array Slot), wd g (fun q => q ∈ adr [vB g h a V, rB g o oa N]) s.heap [vB g h a (wrV V N i), rB g o oa N] H locs → lv_has ls 3 [(0, .ref h), (1, .ref o), (2, .int (nI i))] → W p l e _ s m _ below meth c H locs 0 0 _ (F0 m 2 ls [])) (30) (fun i hi ih_i => ?_) (0) (by omega)  s.heap [] ls hW (lv_sub hl [1, 2, 0] rfl) 
  intro  H locs ls hW hl 
  have hP := hW.1
  refine lv_iload_n hx hb dX3_wearRopes_2 rfl (lv_at hl 2 rfl) ?_
  refine lv_bipush (v := 30) hx hb dX3_wearRopes_3 (by decide) ?_
  refine b_ge (tgt := 43) (i) (30) hx hb rfl rfl (by omega) (by omega) dX3_wearRopes_5 (by decide) (fun h_1 => ?_) (fun h_1 => ?_)
  · obtain rfl : i = 30 := by omega
    obtain ⟨U_2, hU_2⟩ : ∃ z, z = (wrV V N 30) := ⟨_, rfl⟩
    rw [← hU_2] at hW
    have hP := hW.1
    exact uV_ret () hW hx hb hr hlocks dX3_wearRopes_43 trivial (by rw [hU_2]) (adr2 (L := [[h, a 0, a 1, a 2, a 3, a 4, a 5, a 6, a 7, a 8, a 9, a 10, a 11], [o, oa 0, oa 1, oa 2, oa 3]]) rfl rfl)
  · refine lv_aload_n hx hb dX3_wearRopes_8 rfl (lv_at hl 1 rfl) ?_
    refine b_get (v := .ref (oa 0)) hx hb hts inX1 hown hK hP 1 0 0 rfl rfl rfl (by decide) q1_126 rfl rfl dX3_wearRopes_9 ?_
    refine lv_iload_n hx hb dX3_wearRopes_12 rfl (lv_at hl 2 rfl) ?_
    refine b_iald (v := N 0 i) hx hb hK hP 1 1 (i) rfl rfl rfl (by omega) rfl rfl dX3_wearRopes_13 ?_
    refine lv_if_ne (tgt := 37) hx hb dX3_wearRopes_14 (by decide) (fun h_3 => ?_) (fun h_3 => ?_)
    · refine lv_iinc (v := nI (i + 1)) (lv' := [(2, .int (nI (i + 1))), (0, .ref h), (1, .ref o)]) hx hb dX3_wearRopes_37 hl (k := 2) rfl (nI_add i 1) (by decide) rfl (fun ls hl => ?_)
      refine lv_goto (tgt := 2) hx hb dX3_wearRopes_40 (by decide) ?_
      have e_4 : ([vB g h a (wrV V N (i + 1)), rB g o oa N] : List va_W) = [vB g h a (wrV V N i), rB g o oa N] := by rw [wrV]; simp only [h_1, h_3, not_true_eq_false, not_false_eq_true, ite_true, ite_false, reduceIte]
      exact ih_i (by omega)  _ _ _ (by rw [e_4]; exact hW) (lv_sub hl [1, 2, 0] rfl) 
    · refine lv_aload_n hx hb dX3_wearRopes_17 rfl (lv_at hl 0 rfl) ?_
      refine b_get (v := .ref (a 10)) hx hb hts inX3 hown hK hP 0 0 10 rfl rfl rfl (by decide) q1_46 rfl rfl dX3_wearRopes_18 ?_
      refine lv_iload_n hx hb dX3_wearRopes_21 rfl (lv_at hl 2 rfl) ?_
      refine lv_dup2_11 hx hb dX3_wearRopes_22 rfl rfl ?_
      refine b_iald (v := (wrV V N i) 10 i) hx hb hK hP 0 11 (i) rfl rfl rfl (by omega) rfl rfl dX3_wearRopes_23 ?_
      refine lv_iconst (v := 1) hx hb dX3_wearRopes_24 (by decide) ?_
      refine lv_iadd hx hb dX3_wearRopes_25 ?_
      refine b_iast (B' := [vB g h a (up2 (wrV V N i) 10 i (((wrV V N i) 10 i) + 1)), rB g o oa N]) hx hb hK hW 0 11 (i) rfl rfl rfl (by omega) rfl rfl dX3_wearRopes_26 (fun H locs hW => ?_)
      have hP := hW.1
      refine lv_aload_n hx hb dX3_wearRopes_27 rfl (lv_at hl 0 rfl) ?_
      refine b_get (v := .ref (a 11)) hx hb hts inX3 hown hK hP 0 0 11 rfl rfl rfl (by decide) q1_49 rfl rfl dX3_wearRopes_28 ?_
      refine lv_iload_n hx hb dX3_wearRopes_31 rfl (lv_at hl 2 rfl) ?_
      refine lv_dup2_11 hx hb dX3_wearRopes_32 rfl rfl ?_
      refine b_iald (v := (wrV V N i) 11 i) hx hb hK hP 0 12 (i) rfl rfl rfl (by omega) rfl rfl dX3_wearRopes_33 ?_
      refine lv_iconst (v := 1) hx hb dX3_wearRopes_34 (by decide) ?_
      refine lv_iadd hx hb dX3_wearRopes_35 ?_
      refine b_iast (B' := [vB g h a (up2 (up2 (wrV V N i) 10 i (((wrV V N i) 10 i) + 1)) 11 i (((wrV V N i) 11 i) + 1)), rB g o oa N]) hx hb hK hW 0 12 (i) rfl rfl rfl (by omega) rfl rfl dX3_wearRopes_36 (fun H locs hW => ?_)
      have hP := hW.1
      refine lv_iinc (v := nI (i + 1)) (lv' := [(2, .int (nI (i + 1))), (0, .ref h), (1, .ref o)]) hx hb dX3_wearRopes_37 hl (k := 2) rfl (nI_add i 1) (by decide) rfl (fun ls hl => ?_)
      refine lv_goto (tgt := 2) hx hb dX3_wearRopes_40 (by decide) ?_
      have e_5 : ([vB g h a (wrV V N (i + 1)), rB g o oa N] : List va_W) = [vB g h a (up2 (up2 (wrV V N i) 10 i (((wrV V N i) 10 i) + 1)) 11 i (((wrV V N i) 11 i) + 1)), rB g o oa N] := by rw [wrV]; simp only [h_1, h_3, not_true_eq_false, not_false_eq_true, ite_true, ite_false, reduceIte]
      exact ih_i (by omega)  _ _ _ (by rw [e_5]; exact hW) (lv_sub hl [1, 2, 0] rfl) 
end
section
set_option maxHeartbeats 4000000 in
set_option maxRecDepth 100000 in
theorem c_X3_tireRingers (l : Launch) (g : gx) (h : Nat) (a : Nat → Nat) (V : sV) (o : Nat) (oa : Nat → Nat) (N : sV)  : cU (S := Unit) l g yX3_tireRingers cX3_tireRingers 3 none ({ frames := 0, cells := 0, slots := 0, locals := 0 } : Room) [.ref h, .ref o] [vB g h a V, rB g o oa N] (fun _ => none) (fun _ => True) (fun _ => [vB g h a (trV V N 6), rB g o oa N]) := by
  refine cU.mk (by decide +kernel) (Nat.le_of_ble_eq_true rfl) ?_
  intro p e s m below meth c ls E hK hW hl
  obtain ⟨hx, hb, hr, hml, hts, hown, hlocks, hin⟩ := id E
  have hown : s.vm.findClass RX3 = some m.cls := hown
  have hP := hW.1
  have hl : lv_has ls 3 [(0, .ref h), (1, .ref o)] := hl
  refine lv_iconst (v := 0) hx hb dX3_tireRingers_0 (by decide) ?_
  refine lv_istore_n (lv' := [(2, .int 0), (0, .ref h), (1, .ref o)]) hx hb dX3_tireRingers_1 rfl hl (by decide) rfl (fun ls hl => ?_)
  refine loopN (fun i : Nat => ∀ (H : Heap) (locs : List Loc) (ls : Array Slot), wd g (fun q => q ∈ adr [vB g h a V, rB g o oa N]) s.heap [vB g h a (trV V N i), rB g o oa N] H locs → lv_has ls 3 [(0, .ref h), (1, .ref o), (2, .int (nI i))] → W p l e _ s m _ below meth c H locs 0 0 _ (F0 m 2 ls [])) (6) (fun i hi ih_i => ?_) (0) (by omega)  s.heap [] ls hW (lv_sub hl [1, 2, 0] rfl) 
  intro  H locs ls hW hl 
  have hP := hW.1
  refine lv_iload_n hx hb dX3_tireRingers_2 rfl (lv_at hl 2 rfl) ?_
  refine lv_bipush (v := 6) hx hb dX3_tireRingers_3 (by decide) ?_
  refine b_ge (tgt := 28) (i) (6) hx hb rfl rfl (by omega) (by omega) dX3_tireRingers_5 (by decide) (fun h_1 => ?_) (fun h_1 => ?_)
  · obtain rfl : i = 6 := by omega
    obtain ⟨U_2, hU_2⟩ : ∃ z, z = (trV V N 6) := ⟨_, rfl⟩
    rw [← hU_2] at hW
    have hP := hW.1
    exact uV_ret () hW hx hb hr hlocks dX3_tireRingers_28 trivial (by rw [hU_2]) (adr2 (L := [[h, a 0, a 1, a 2, a 3, a 4, a 5, a 6, a 7, a 8, a 9, a 10, a 11], [o, oa 0, oa 1, oa 2, oa 3]]) rfl rfl)
  · refine lv_aload_n hx hb dX3_tireRingers_8 rfl (lv_at hl 0 rfl) ?_
    refine b_get (v := .ref (a 2)) hx hb hts inX3 hown hK hP 0 0 2 rfl rfl rfl (by decide) q1_28 rfl rfl dX3_tireRingers_9 ?_
    refine lv_iload_n hx hb dX3_tireRingers_12 rfl (lv_at hl 2 rfl) ?_
    refine lv_aload_n hx hb dX3_tireRingers_13 rfl (lv_at hl 1 rfl) ?_
    refine b_get (v := .ref (oa 2)) hx hb hts inX1 hown hK hP 1 0 2 rfl rfl rfl (by decide) q1_130 rfl rfl dX3_tireRingers_14 ?_
    refine lv_iload_n hx hb dX3_tireRingers_17 rfl (lv_at hl 2 rfl) ?_
    refine b_iald (v := N 2 i) hx hb hK hP 1 3 (i) rfl rfl rfl (by omega) rfl rfl dX3_tireRingers_18 ?_
    refine lv_iconst (v := 2) hx hb dX3_tireRingers_19 (by decide) ?_
    refine lv_idiv hx hb dX3_tireRingers_20 (by decide) ?_
    refine b_iast (B' := [vB g h a (up2 (trV V N i) 2 i ((N 2 i) / 2)), rB g o oa N]) hx hb hK hW 0 3 (i) rfl rfl rfl (by omega) rfl rfl dX3_tireRingers_21 (fun H locs hW => ?_)
    have hP := hW.1
    refine lv_iinc (v := nI (i + 1)) (lv' := [(2, .int (nI (i + 1))), (0, .ref h), (1, .ref o)]) hx hb dX3_tireRingers_22 hl (k := 2) rfl (nI_add i 1) (by decide) rfl (fun ls hl => ?_)
    refine lv_goto (tgt := 2) hx hb dX3_tireRingers_25 (by decide) ?_
    have e_3 : ([vB g h a (trV V N (i + 1)), rB g o oa N] : List va_W) = [vB g h a (up2 (trV V N i) 2 i ((N 2 i) / 2)), rB g o oa N] := rfl
    exact ih_i (by omega)  _ _ _ (by rw [e_3]; exact hW) (lv_sub hl [1, 2, 0] rfl) 

set_option maxHeartbeats 4000000 in
set_option maxRecDepth 100000 in
theorem c_X3_fallSilent (l : Launch) (g : gx) (h : Nat) (a : Nat → Nat) (V : sV) (x : Int32)  : cU (S := Unit) l g yX3_fallSilent cX3_fallSilent 3 none ({ frames := 1, cells := 0, slots := 0, locals := 20 } : Room) [.ref h, .int x] [vB g h a V] (fun _ => none) (fun _ => True) (fun _ => [vB g h a (flV V x)]) := by
  refine cU.mk (by decide +kernel) (Nat.le_of_ble_eq_true rfl) ?_
  intro p e s m below meth c ls E hK hW hl
  obtain ⟨hx, hb, hr, hml, hts, hown, hlocks, hin⟩ := id E
  have hown : s.vm.findClass RX3 = some m.cls := hown
  have hP := hW.1
  have hl : lv_has ls 3 [(0, .ref h), (1, .int x)] := hl
  refine lv_iconst (v := 0) hx hb dX3_fallSilent_0 (by decide) ?_
  refine lv_istore_n (lv' := [(2, .int 0), (0, .ref h), (1, .int x)]) hx hb dX3_fallSilent_1 rfl hl (by decide) rfl (fun ls hl => ?_)
  refine loopN (fun i : Nat => ∀ (H : Heap) (locs : List Loc) (ls : Array Slot), wd g (fun q => q ∈ adr [vB g h a V]) s.heap [vB g h a (fsV V i)] H locs → lv_has ls 3 [(0, .ref h), (1, .int x), (2, .int (nI i))] → W p l e _ s m _ below meth c H locs 0 0 _ (F0 m 2 ls [])) (6) (fun i hi ih_i => ?_) (0) (by omega)  s.heap [] ls hW (lv_sub hl [1, 2, 0] rfl) 
  intro  H locs ls hW hl 
  have hP := hW.1
  refine lv_iload_n hx hb dX3_fallSilent_2 rfl (lv_at hl 2 rfl) ?_
  refine lv_bipush (v := 6) hx hb dX3_fallSilent_3 (by decide) ?_
  refine b_ge (tgt := 33) (i) (6) hx hb rfl rfl (by omega) (by omega) dX3_fallSilent_5 (by decide) (fun h_1 => ?_) (fun h_1 => ?_)
  · obtain rfl : i = 6 := by omega
    obtain ⟨U_2, hU_2⟩ : ∃ z, z = (fsV V 6) := ⟨_, rfl⟩
    rw [← hU_2] at hW
    have hP := hW.1
    refine lv_aload_n hx hb dX3_fallSilent_33 rfl (lv_at hl 0 rfl) ?_
    refine lv_iload_n hx hb dX3_fallSilent_34 rfl (lv_at hl 1 rfl) ?_
    refine b_put (B' := [vB g h a (up2 U_2 12 3 x)]) (v := .int x) hx hb hts inX3 tyX3_ok nmX3 hown hK hW 0 0 16 rfl rfl rfl (by decide) q1_60 rfl rfl rfl rfl (Nat.le_of_ble_eq_true rfl) rfl dX3_fallSilent_35 (fun H locs hW => ?_)
    have hP := hW.1
    refine lv_iload_n hx hb dX3_fallSilent_38 rfl (lv_at hl 1 rfl) ?_
    refine call_NR (As := [.int x]) (rest := []) E rfl hK hP (c_X4_isTown l g x) ok_X4_isTown rfl hK.2.2.2.2.2.1 [] rfl ⟨⟨rfl, rfl⟩, Nat.le_of_ble_eq_true rfl, Nat.le_of_ble_eq_true rfl⟩ hl.1 (Nat.le_of_ble_eq_true rfl) ⟨Nat.le_of_ble_eq_true rfl, Nat.le_of_ble_eq_true rfl⟩ rfl dX3_fallSilent_39 ?_
    refine b_eq0 (tgt := 68) hx hb dX3_fallSilent_42 (by decide) (fun h_3 => ?_) (fun h_3 => ?_)
    · refine lv_aload_n hx hb dX3_fallSilent_68 rfl (lv_at hl 0 rfl) ?_
      refine lv_dup hx hb dX3_fallSilent_69 rfl ?_
      refine b_get (v := .int (U_2 12 4)) hx hb hts inX3 hown hK hP 0 0 15 rfl rfl rfl (by decide) q1_58 rfl rfl dX3_fallSilent_70 ?_
      refine lv_iconst (v := 1) hx hb dX3_fallSilent_73 (by decide) ?_
      refine lv_iadd hx hb dX3_fallSilent_74 ?_
      refine b_put (B' := [vB g h a (up2 (up2 U_2 12 3 x) 12 4 ((U_2 12 4) + 1))]) (v := .int ((U_2 12 4) + 1)) hx hb hts inX3 tyX3_ok nmX3 hown hK hW 0 0 15 rfl rfl rfl (by decide) q1_58 rfl rfl rfl rfl (Nat.le_of_ble_eq_true rfl) rfl dX3_fallSilent_75 (fun H locs hW => ?_)
      have hP := hW.1
      exact uV_ret () hW hx hb hr hlocks dX3_fallSilent_78 trivial (by first | (rw [flV, if_neg (by assumption), hU_2]) | (rw [flV, if_pos hT, nI_clamp (by omega), hU_2])) (adr2 (L := [[h, a 0, a 1, a 2, a 3, a 4, a 5, a 6, a 7, a 8, a 9, a 10, a 11]]) rfl rfl)
    · have hT := h_3
      obtain ⟨w, hw, rfl⟩ := isT_nat h_3
      refine lv_aload_n hx hb dX3_fallSilent_45 rfl (lv_at hl 0 rfl) ?_
      refine b_get (v := .ref (a 6)) hx hb hts inX3 hown hK hP 0 0 6 rfl rfl rfl (by decide) q1_36 rfl rfl dX3_fallSilent_46 ?_
      refine lv_iload_n hx hb dX3_fallSilent_49 rfl (lv_at hl 1 rfl) ?_
      refine lv_aload_n hx hb dX3_fallSilent_50 rfl (lv_at hl 0 rfl) ?_
      refine b_get (v := .int (U_2 12 1)) hx hb hts inX3 hown hK hP 0 0 13 rfl rfl rfl (by decide) q1_54 rfl rfl dX3_fallSilent_51 ?_
      refine b_iast (B' := [vB g h a (up2 (up2 U_2 12 3 (nI w)) 6 w (U_2 12 1))]) hx hb hK hW 0 7 (w) rfl rfl rfl (by omega) rfl rfl dX3_fallSilent_54 (fun H locs hW => ?_)
      have hP := hW.1
      refine lv_aload_n hx hb dX3_fallSilent_55 rfl (lv_at hl 0 rfl) ?_
      refine b_get (v := .ref (a 8)) hx hb hts inX3 hown hK hP 0 0 8 rfl rfl rfl (by decide) q1_41 rfl rfl dX3_fallSilent_56 ?_
      refine lv_iload_n hx hb dX3_fallSilent_59 rfl (lv_at hl 1 rfl) ?_
      refine lv_dup2_11 hx hb dX3_fallSilent_60 rfl rfl ?_
      refine b_iald (v := U_2 8 w) hx hb hK hP 0 9 (w) rfl rfl rfl (by omega) rfl rfl dX3_fallSilent_61 ?_
      refine lv_iconst (v := 1) hx hb dX3_fallSilent_62 (by decide) ?_
      refine lv_iadd hx hb dX3_fallSilent_63 ?_
      refine b_iast (B' := [vB g h a (up2 (up2 (up2 U_2 12 3 (nI w)) 6 w (U_2 12 1)) 8 w ((U_2 8 w) + 1))]) hx hb hK hW 0 9 (w) rfl rfl rfl (by omega) rfl rfl dX3_fallSilent_64 (fun H locs hW => ?_)
      have hP := hW.1
      refine lv_goto (tgt := 78) hx hb dX3_fallSilent_65 (by decide) ?_
      exact uV_ret () hW hx hb hr hlocks dX3_fallSilent_78 trivial (by first | (rw [flV, if_neg (by assumption), hU_2]) | (rw [flV, if_pos hT, nI_clamp (by omega), hU_2])) (adr2 (L := [[h, a 0, a 1, a 2, a 3, a 4, a 5, a 6, a 7, a 8, a 9, a 10, a 11]]) rfl rfl)
  · refine lv_aload_n hx hb dX3_fallSilent_8 rfl (lv_at hl 0 rfl) ?_
    refine b_get (v := .ref (a 6)) hx hb hts inX3 hown hK hP 0 0 6 rfl rfl rfl (by decide) q1_36 rfl rfl dX3_fallSilent_9 ?_
    refine lv_iload_n hx hb dX3_fallSilent_12 rfl (lv_at hl 2 rfl) ?_
    refine b_iald (v := (fsV V i) 6 i) hx hb hK hP 0 7 (i) rfl rfl rfl (by omega) rfl rfl dX3_fallSilent_13 ?_
    refine lv_if_le (tgt := 27) hx hb dX3_fallSilent_14 (by decide) (fun h_4 => ?_) (fun h_4 => ?_)
    · refine lv_iinc (v := nI (i + 1)) (lv' := [(2, .int (nI (i + 1))), (0, .ref h), (1, .int x)]) hx hb dX3_fallSilent_27 hl (k := 2) rfl (nI_add i 1) (by decide) rfl (fun ls hl => ?_)
      refine lv_goto (tgt := 2) hx hb dX3_fallSilent_30 (by decide) ?_
      have e_5 : ([vB g h a (fsV V (i + 1))] : List va_W) = [vB g h a (fsV V i)] := by rw [fsV]; simp only [h_1, h_4, not_true_eq_false, not_false_eq_true, ite_true, ite_false, reduceIte]
      exact ih_i (by omega)  _ _ _ (by rw [e_5]; exact hW) (lv_sub hl [1, 2, 0] rfl) 
    · refine lv_aload_n hx hb dX3_fallSilent_17 rfl (lv_at hl 0 rfl) ?_
      refine b_get (v := .ref (a 6)) hx hb hts inX3 hown hK hP 0 0 6 rfl rfl rfl (by decide) q1_36 rfl rfl dX3_fallSilent_18 ?_
      refine lv_iload_n hx hb dX3_fallSilent_21 rfl (lv_at hl 2 rfl) ?_
      refine lv_dup2_11 hx hb dX3_fallSilent_22 rfl rfl ?_
      refine b_iald (v := (fsV V i) 6 i) hx hb hK hP 0 7 (i) rfl rfl rfl (by omega) rfl rfl dX3_fallSilent_23 ?_
      refine lv_iconst (v := 1) hx hb dX3_fallSilent_24 (by decide) ?_
      refine lv_isub hx hb dX3_fallSilent_25 ?_
      refine b_iast (B' := [vB g h a (up2 (fsV V i) 6 i (((fsV V i) 6 i) - 1))]) hx hb hK hW 0 7 (i) rfl rfl rfl (by omega) rfl rfl dX3_fallSilent_26 (fun H locs hW => ?_)
      have hP := hW.1
      refine lv_iinc (v := nI (i + 1)) (lv' := [(2, .int (nI (i + 1))), (0, .ref h), (1, .int x)]) hx hb dX3_fallSilent_27 hl (k := 2) rfl (nI_add i 1) (by decide) rfl (fun ls hl => ?_)
      refine lv_goto (tgt := 2) hx hb dX3_fallSilent_30 (by decide) ?_
      have e_6 : ([vB g h a (fsV V (i + 1))] : List va_W) = [vB g h a (up2 (fsV V i) 6 i (((fsV V i) 6 i) - 1))] := by rw [fsV]; simp only [h_1, h_4, not_true_eq_false, not_false_eq_true, ite_true, ite_false, reduceIte]
      exact ih_i (by omega)  _ _ _ (by rw [e_6]; exact hW) (lv_sub hl [1, 2, 0] rfl) 
end
section
set_option maxHeartbeats 4000000 in
set_option maxRecDepth 100000 in
theorem c_X3_pass (l : Launch) (g : gx) (h : Nat) (a : Nat → Nat) (V : sV) (o : Nat) (oa : Nat → Nat) (N : sV)  : cU (S := Unit) l g yX3_pass cX3_pass 2 none ({ frames := 2, cells := 0, slots := 0, locals := 43 } : Room) [.ref h, .ref o] [vB g h a V, rB g o oa N] (fun _ => none) (fun _ => True) (fun _ => [vB g h a (pasV V N), rB g o oa N]) := by
  refine cU.mk (by decide +kernel) (Nat.le_of_ble_eq_true rfl) ?_
  intro p e s m below meth c ls E hK hW hl
  obtain ⟨hx, hb, hr, hml, hts, hown, hlocks, hin⟩ := id E
  have hown : s.vm.findClass RX3 = some m.cls := hown
  have hP := hW.1
  have hl : lv_has ls 2 [(0, .ref h), (1, .ref o)] := hl
  refine lv_aload_n hx hb dX3_pass_0 rfl (lv_at hl 0 rfl) ?_
  refine lv_aload_n hx hb dX3_pass_1 rfl (lv_at hl 1 rfl) ?_
  refine call_VU (As := [.ref o]) (rest := []) E rfl hK hW (c_X3_givePoints l g h a V o oa N) ok_X3_givePoints rfl q2_98 [0, 1] rfl (by decide) (b_recv hK hP 0 0 rfl rfl rfl rfl) ⟨⟨rfl, rfl⟩, Nat.le_of_ble_eq_true rfl, Nat.le_of_ble_eq_true rfl⟩ hl.1 (Nat.le_of_ble_eq_true rfl) ⟨Nat.le_of_ble_eq_true rfl, Nat.le_of_ble_eq_true rfl⟩ rfl dX3_pass_2 (fun _u H locs _ hW => ?_)
  have hW : wd g _ s.heap [vB g h a (gpV V N 6), rB g o oa N] H locs := hW
  have hP := hW.1
  obtain ⟨U_1, hU_1⟩ : ∃ z, z = (gpV V N 6) := ⟨_, rfl⟩
  rw [← hU_1] at hW
  have hP := hW.1
  refine lv_aload_n hx hb dX3_pass_5 rfl (lv_at hl 0 rfl) ?_
  refine lv_aload_n hx hb dX3_pass_6 rfl (lv_at hl 1 rfl) ?_
  refine call_VU (As := [.ref o]) (rest := []) E rfl hK hW (c_X3_wearRopes l g h a U_1 o oa N) ok_X3_wearRopes rfl q2_102 [0, 1] rfl (by decide) (b_recv hK hP 0 0 rfl rfl rfl rfl) ⟨⟨rfl, rfl⟩, Nat.le_of_ble_eq_true rfl, Nat.le_of_ble_eq_true rfl⟩ hl.1 (Nat.le_of_ble_eq_true rfl) ⟨Nat.le_of_ble_eq_true rfl, Nat.le_of_ble_eq_true rfl⟩ rfl dX3_pass_7 (fun _u H locs _ hW => ?_)
  have hW : wd g _ s.heap [vB g h a (wrV U_1 N 30), rB g o oa N] H locs := hW
  have hP := hW.1
  obtain ⟨U_2, hU_2⟩ : ∃ z, z = (wrV U_1 N 30) := ⟨_, rfl⟩
  rw [← hU_2] at hW
  have hP := hW.1
  refine lv_aload_n hx hb dX3_pass_10 rfl (lv_at hl 0 rfl) ?_
  refine lv_aload_n hx hb dX3_pass_11 rfl (lv_at hl 1 rfl) ?_
  refine call_VU (As := [.ref o]) (rest := []) E rfl hK hW (c_X3_tireRingers l g h a U_2 o oa N) ok_X3_tireRingers rfl q2_106 [0, 1] rfl (by decide) (b_recv hK hP 0 0 rfl rfl rfl rfl) ⟨⟨rfl, rfl⟩, Nat.le_of_ble_eq_true rfl, Nat.le_of_ble_eq_true rfl⟩ hl.1 (Nat.le_of_ble_eq_true rfl) ⟨Nat.le_of_ble_eq_true rfl, Nat.le_of_ble_eq_true rfl⟩ rfl dX3_pass_12 (fun _u H locs _ hW => ?_)
  have hW : wd g _ s.heap [vB g h a (trV U_2 N 6), rB g o oa N] H locs := hW
  have hP := hW.1
  obtain ⟨U_3, hU_3⟩ : ∃ z, z = (trV U_2 N 6) := ⟨_, rfl⟩
  rw [← hU_3] at hW
  have hP := hW.1
  refine lv_aload_n hx hb dX3_pass_15 rfl (lv_at hl 0 rfl) ?_
  refine lv_aload_n hx hb dX3_pass_16 rfl (lv_at hl 1 rfl) ?_
  refine b_get (v := .int (N 4 0)) hx hb hts inX1 hown hK hP 1 0 4 rfl rfl rfl (by decide) q1_135 rfl rfl dX3_pass_17 ?_
  refine call_VU (As := [.int (N 4 0)]) (rest := []) E rfl hK hW (c_X3_fallSilent l g h a U_3 (N 4 0)) ok_X3_fallSilent rfl q2_110 [0] rfl (by decide) (b_recv hK hP 0 0 rfl rfl rfl rfl) ⟨⟨rfl, rfl⟩, Nat.le_of_ble_eq_true rfl, Nat.le_of_ble_eq_true rfl⟩ hl.1 (Nat.le_of_ble_eq_true rfl) ⟨Nat.le_of_ble_eq_true rfl, Nat.le_of_ble_eq_true rfl⟩ rfl dX3_pass_20 (fun _u H locs _ hW => ?_)
  have hW : wd g _ s.heap [vB g h a (flV U_3 (N 4 0)), rB g o oa N] H locs := hW
  have hP := hW.1
  obtain ⟨U_4, hU_4⟩ : ∃ z, z = (flV U_3 (N 4 0)) := ⟨_, rfl⟩
  rw [← hU_4] at hW
  have hP := hW.1
  refine lv_aload_n hx hb dX3_pass_23 rfl (lv_at hl 0 rfl) ?_
  refine lv_dup hx hb dX3_pass_24 rfl ?_
  refine b_get (v := .int (U_4 12 2)) hx hb hts inX3 hown hK hP 0 0 14 rfl rfl rfl (by decide) q1_56 rfl rfl dX3_pass_25 ?_
  refine lv_iconst (v := 1) hx hb dX3_pass_28 (by decide) ?_
  refine lv_iadd hx hb dX3_pass_29 ?_
  refine b_put (B' := [vB g h a (up2 U_4 12 2 ((U_4 12 2) + 1)), rB g o oa N]) (v := .int ((U_4 12 2) + 1)) hx hb hts inX3 tyX3_ok nmX3 hown hK hW 0 0 14 rfl rfl rfl (by decide) q1_56 rfl rfl rfl rfl (Nat.le_of_ble_eq_true rfl) rfl dX3_pass_30 (fun H locs hW => ?_)
  have hP := hW.1
  exact uV_ret () hW hx hb hr hlocks dX3_pass_33 trivial (by rw [hU_4, hU_3, hU_2, hU_1]; rfl) (adr2 (L := [[h, a 0, a 1, a 2, a 3, a 4, a 5, a 6, a 7, a 8, a 9, a 10, a 11], [o, oa 0, oa 1, oa 2, oa 3]]) rfl rfl)

set_option maxHeartbeats 4000000 in
set_option maxRecDepth 100000 in
theorem c_X3_copyTowns_0 (l : Launch) (g : gx) (o : Nat) (oa : Nat → Nat) (W1 : sV) (h : Nat) (a : Nat → Nat) (V : sV)  : cU (S := Unit) l g yX3_copyTowns cX3_copyTowns 2 none ({ frames := 1, cells := 0, slots := 0, locals := 60 } : Room) [.ref (oa 0), .ref (a 0)] [vB g o oa W1, vB g h a (cpV W1 V 0)] (fun _ => none) (fun _ => True) (fun _ => [vB g o oa W1, vB g h a (cpV W1 V 1)]) := by
  refine cU.mk (by decide +kernel) (Nat.le_of_ble_eq_true rfl) ?_
  intro p e s m below meth c ls E hK hW hl
  obtain ⟨hx, hb, hr, hml, hts, hown, hlocks, hin⟩ := id E
  have hown : s.vm.findClass RX3 = some m.cls := hown
  have hP := hW.1
  have hl : lv_has ls 2 [(0, .ref (oa 0)), (1, .ref (a 0))] := hl
  refine lv_aload_n hx hb dX3_copyTowns_0 rfl (lv_at hl 0 rfl) ?_
  refine lv_iconst (v := 0) hx hb dX3_copyTowns_1 (by decide) ?_
  refine lv_aload_n hx hb dX3_copyTowns_2 rfl (lv_at hl 1 rfl) ?_
  refine lv_iconst (v := 0) hx hb dX3_copyTowns_3 (by decide) ?_
  refine lv_bipush (v := 6) hx hb dX3_copyTowns_4 (by decide) ?_
  refine b_copy (B' := [vB g o oa W1, vB g h a (cpV W1 V 1)]) hx hb (hml.trans hl.1.symm) hown hts q1_206 q1_208 q1_207 q1_7 hK hW 0 1 1 1 rfl rfl rfl rfl rfl rfl (Nat.le_of_ble_eq_true rfl) (Nat.le_of_ble_eq_true rfl) rfl dX3_copyTowns_6 (fun H locs hW => ?_)
  have hP := hW.1
  exact uV_ret () hW hx hb hr hlocks dX3_copyTowns_9 trivial (rfl) (adr2 (L := [[o, oa 0, oa 1, oa 2, oa 3, oa 4, oa 5, oa 6, oa 7, oa 8, oa 9, oa 10, oa 11], [h, a 0, a 1, a 2, a 3, a 4, a 5, a 6, a 7, a 8, a 9, a 10, a 11]]) rfl rfl)
end
section
set_option maxHeartbeats 4000000 in
set_option maxRecDepth 100000 in
theorem c_X3_copyTowns_1 (l : Launch) (g : gx) (o : Nat) (oa : Nat → Nat) (W1 : sV) (h : Nat) (a : Nat → Nat) (V : sV)  : cU (S := Unit) l g yX3_copyTowns cX3_copyTowns 2 none ({ frames := 1, cells := 0, slots := 0, locals := 60 } : Room) [.ref (oa 1), .ref (a 1)] [vB g o oa W1, vB g h a (cpV W1 V 1)] (fun _ => none) (fun _ => True) (fun _ => [vB g o oa W1, vB g h a (cpV W1 V 2)]) := by
  refine cU.mk (by decide +kernel) (Nat.le_of_ble_eq_true rfl) ?_
  intro p e s m below meth c ls E hK hW hl
  obtain ⟨hx, hb, hr, hml, hts, hown, hlocks, hin⟩ := id E
  have hown : s.vm.findClass RX3 = some m.cls := hown
  have hP := hW.1
  have hl : lv_has ls 2 [(0, .ref (oa 1)), (1, .ref (a 1))] := hl
  refine lv_aload_n hx hb dX3_copyTowns_0 rfl (lv_at hl 0 rfl) ?_
  refine lv_iconst (v := 0) hx hb dX3_copyTowns_1 (by decide) ?_
  refine lv_aload_n hx hb dX3_copyTowns_2 rfl (lv_at hl 1 rfl) ?_
  refine lv_iconst (v := 0) hx hb dX3_copyTowns_3 (by decide) ?_
  refine lv_bipush (v := 6) hx hb dX3_copyTowns_4 (by decide) ?_
  refine b_copy (B' := [vB g o oa W1, vB g h a (cpV W1 V 2)]) hx hb (hml.trans hl.1.symm) hown hts q1_206 q1_208 q1_207 q1_7 hK hW 0 2 1 2 rfl rfl rfl rfl rfl rfl (Nat.le_of_ble_eq_true rfl) (Nat.le_of_ble_eq_true rfl) rfl dX3_copyTowns_6 (fun H locs hW => ?_)
  have hP := hW.1
  exact uV_ret () hW hx hb hr hlocks dX3_copyTowns_9 trivial (rfl) (adr2 (L := [[o, oa 0, oa 1, oa 2, oa 3, oa 4, oa 5, oa 6, oa 7, oa 8, oa 9, oa 10, oa 11], [h, a 0, a 1, a 2, a 3, a 4, a 5, a 6, a 7, a 8, a 9, a 10, a 11]]) rfl rfl)

set_option maxHeartbeats 4000000 in
set_option maxRecDepth 100000 in
theorem c_X3_copyTowns_2 (l : Launch) (g : gx) (o : Nat) (oa : Nat → Nat) (W1 : sV) (h : Nat) (a : Nat → Nat) (V : sV)  : cU (S := Unit) l g yX3_copyTowns cX3_copyTowns 2 none ({ frames := 1, cells := 0, slots := 0, locals := 60 } : Room) [.ref (oa 2), .ref (a 2)] [vB g o oa W1, vB g h a (cpV W1 V 2)] (fun _ => none) (fun _ => True) (fun _ => [vB g o oa W1, vB g h a (cpV W1 V 3)]) := by
  refine cU.mk (by decide +kernel) (Nat.le_of_ble_eq_true rfl) ?_
  intro p e s m below meth c ls E hK hW hl
  obtain ⟨hx, hb, hr, hml, hts, hown, hlocks, hin⟩ := id E
  have hown : s.vm.findClass RX3 = some m.cls := hown
  have hP := hW.1
  have hl : lv_has ls 2 [(0, .ref (oa 2)), (1, .ref (a 2))] := hl
  refine lv_aload_n hx hb dX3_copyTowns_0 rfl (lv_at hl 0 rfl) ?_
  refine lv_iconst (v := 0) hx hb dX3_copyTowns_1 (by decide) ?_
  refine lv_aload_n hx hb dX3_copyTowns_2 rfl (lv_at hl 1 rfl) ?_
  refine lv_iconst (v := 0) hx hb dX3_copyTowns_3 (by decide) ?_
  refine lv_bipush (v := 6) hx hb dX3_copyTowns_4 (by decide) ?_
  refine b_copy (B' := [vB g o oa W1, vB g h a (cpV W1 V 3)]) hx hb (hml.trans hl.1.symm) hown hts q1_206 q1_208 q1_207 q1_7 hK hW 0 3 1 3 rfl rfl rfl rfl rfl rfl (Nat.le_of_ble_eq_true rfl) (Nat.le_of_ble_eq_true rfl) rfl dX3_copyTowns_6 (fun H locs hW => ?_)
  have hP := hW.1
  exact uV_ret () hW hx hb hr hlocks dX3_copyTowns_9 trivial (rfl) (adr2 (L := [[o, oa 0, oa 1, oa 2, oa 3, oa 4, oa 5, oa 6, oa 7, oa 8, oa 9, oa 10, oa 11], [h, a 0, a 1, a 2, a 3, a 4, a 5, a 6, a 7, a 8, a 9, a 10, a 11]]) rfl rfl)

set_option maxHeartbeats 4000000 in
set_option maxRecDepth 100000 in
theorem c_X3_copyTowns_3 (l : Launch) (g : gx) (o : Nat) (oa : Nat → Nat) (W1 : sV) (h : Nat) (a : Nat → Nat) (V : sV)  : cU (S := Unit) l g yX3_copyTowns cX3_copyTowns 2 none ({ frames := 1, cells := 0, slots := 0, locals := 60 } : Room) [.ref (oa 3), .ref (a 3)] [vB g o oa W1, vB g h a (cpV W1 V 3)] (fun _ => none) (fun _ => True) (fun _ => [vB g o oa W1, vB g h a (cpV W1 V 4)]) := by
  refine cU.mk (by decide +kernel) (Nat.le_of_ble_eq_true rfl) ?_
  intro p e s m below meth c ls E hK hW hl
  obtain ⟨hx, hb, hr, hml, hts, hown, hlocks, hin⟩ := id E
  have hown : s.vm.findClass RX3 = some m.cls := hown
  have hP := hW.1
  have hl : lv_has ls 2 [(0, .ref (oa 3)), (1, .ref (a 3))] := hl
  refine lv_aload_n hx hb dX3_copyTowns_0 rfl (lv_at hl 0 rfl) ?_
  refine lv_iconst (v := 0) hx hb dX3_copyTowns_1 (by decide) ?_
  refine lv_aload_n hx hb dX3_copyTowns_2 rfl (lv_at hl 1 rfl) ?_
  refine lv_iconst (v := 0) hx hb dX3_copyTowns_3 (by decide) ?_
  refine lv_bipush (v := 6) hx hb dX3_copyTowns_4 (by decide) ?_
  refine b_copy (B' := [vB g o oa W1, vB g h a (cpV W1 V 4)]) hx hb (hml.trans hl.1.symm) hown hts q1_206 q1_208 q1_207 q1_7 hK hW 0 4 1 4 rfl rfl rfl rfl rfl rfl (Nat.le_of_ble_eq_true rfl) (Nat.le_of_ble_eq_true rfl) rfl dX3_copyTowns_6 (fun H locs hW => ?_)
  have hP := hW.1
  exact uV_ret () hW hx hb hr hlocks dX3_copyTowns_9 trivial (rfl) (adr2 (L := [[o, oa 0, oa 1, oa 2, oa 3, oa 4, oa 5, oa 6, oa 7, oa 8, oa 9, oa 10, oa 11], [h, a 0, a 1, a 2, a 3, a 4, a 5, a 6, a 7, a 8, a 9, a 10, a 11]]) rfl rfl)

set_option maxHeartbeats 4000000 in
set_option maxRecDepth 100000 in
theorem c_X3_copyTowns_4 (l : Launch) (g : gx) (o : Nat) (oa : Nat → Nat) (W1 : sV) (h : Nat) (a : Nat → Nat) (V : sV)  : cU (S := Unit) l g yX3_copyTowns cX3_copyTowns 2 none ({ frames := 1, cells := 0, slots := 0, locals := 60 } : Room) [.ref (oa 4), .ref (a 4)] [vB g o oa W1, vB g h a (cpV W1 V 4)] (fun _ => none) (fun _ => True) (fun _ => [vB g o oa W1, vB g h a (cpV W1 V 5)]) := by
  refine cU.mk (by decide +kernel) (Nat.le_of_ble_eq_true rfl) ?_
  intro p e s m below meth c ls E hK hW hl
  obtain ⟨hx, hb, hr, hml, hts, hown, hlocks, hin⟩ := id E
  have hown : s.vm.findClass RX3 = some m.cls := hown
  have hP := hW.1
  have hl : lv_has ls 2 [(0, .ref (oa 4)), (1, .ref (a 4))] := hl
  refine lv_aload_n hx hb dX3_copyTowns_0 rfl (lv_at hl 0 rfl) ?_
  refine lv_iconst (v := 0) hx hb dX3_copyTowns_1 (by decide) ?_
  refine lv_aload_n hx hb dX3_copyTowns_2 rfl (lv_at hl 1 rfl) ?_
  refine lv_iconst (v := 0) hx hb dX3_copyTowns_3 (by decide) ?_
  refine lv_bipush (v := 6) hx hb dX3_copyTowns_4 (by decide) ?_
  refine b_copy (B' := [vB g o oa W1, vB g h a (cpV W1 V 5)]) hx hb (hml.trans hl.1.symm) hown hts q1_206 q1_208 q1_207 q1_7 hK hW 0 5 1 5 rfl rfl rfl rfl rfl rfl (Nat.le_of_ble_eq_true rfl) (Nat.le_of_ble_eq_true rfl) rfl dX3_copyTowns_6 (fun H locs hW => ?_)
  have hP := hW.1
  exact uV_ret () hW hx hb hr hlocks dX3_copyTowns_9 trivial (rfl) (adr2 (L := [[o, oa 0, oa 1, oa 2, oa 3, oa 4, oa 5, oa 6, oa 7, oa 8, oa 9, oa 10, oa 11], [h, a 0, a 1, a 2, a 3, a 4, a 5, a 6, a 7, a 8, a 9, a 10, a 11]]) rfl rfl)
end
section
set_option maxHeartbeats 4000000 in
set_option maxRecDepth 100000 in
theorem c_X3_copyTowns_5 (l : Launch) (g : gx) (o : Nat) (oa : Nat → Nat) (W1 : sV) (h : Nat) (a : Nat → Nat) (V : sV)  : cU (S := Unit) l g yX3_copyTowns cX3_copyTowns 2 none ({ frames := 1, cells := 0, slots := 0, locals := 60 } : Room) [.ref (oa 5), .ref (a 5)] [vB g o oa W1, vB g h a (cpV W1 V 5)] (fun _ => none) (fun _ => True) (fun _ => [vB g o oa W1, vB g h a (cpV W1 V 6)]) := by
  refine cU.mk (by decide +kernel) (Nat.le_of_ble_eq_true rfl) ?_
  intro p e s m below meth c ls E hK hW hl
  obtain ⟨hx, hb, hr, hml, hts, hown, hlocks, hin⟩ := id E
  have hown : s.vm.findClass RX3 = some m.cls := hown
  have hP := hW.1
  have hl : lv_has ls 2 [(0, .ref (oa 5)), (1, .ref (a 5))] := hl
  refine lv_aload_n hx hb dX3_copyTowns_0 rfl (lv_at hl 0 rfl) ?_
  refine lv_iconst (v := 0) hx hb dX3_copyTowns_1 (by decide) ?_
  refine lv_aload_n hx hb dX3_copyTowns_2 rfl (lv_at hl 1 rfl) ?_
  refine lv_iconst (v := 0) hx hb dX3_copyTowns_3 (by decide) ?_
  refine lv_bipush (v := 6) hx hb dX3_copyTowns_4 (by decide) ?_
  refine b_copy (B' := [vB g o oa W1, vB g h a (cpV W1 V 6)]) hx hb (hml.trans hl.1.symm) hown hts q1_206 q1_208 q1_207 q1_7 hK hW 0 6 1 6 rfl rfl rfl rfl rfl rfl (Nat.le_of_ble_eq_true rfl) (Nat.le_of_ble_eq_true rfl) rfl dX3_copyTowns_6 (fun H locs hW => ?_)
  have hP := hW.1
  exact uV_ret () hW hx hb hr hlocks dX3_copyTowns_9 trivial (rfl) (adr2 (L := [[o, oa 0, oa 1, oa 2, oa 3, oa 4, oa 5, oa 6, oa 7, oa 8, oa 9, oa 10, oa 11], [h, a 0, a 1, a 2, a 3, a 4, a 5, a 6, a 7, a 8, a 9, a 10, a 11]]) rfl rfl)

set_option maxHeartbeats 4000000 in
set_option maxRecDepth 100000 in
theorem c_X3_copyTowns_6 (l : Launch) (g : gx) (o : Nat) (oa : Nat → Nat) (W1 : sV) (h : Nat) (a : Nat → Nat) (V : sV)  : cU (S := Unit) l g yX3_copyTowns cX3_copyTowns 2 none ({ frames := 1, cells := 0, slots := 0, locals := 60 } : Room) [.ref (oa 6), .ref (a 6)] [vB g o oa W1, vB g h a (cpV W1 V 6)] (fun _ => none) (fun _ => True) (fun _ => [vB g o oa W1, vB g h a (cpV W1 V 7)]) := by
  refine cU.mk (by decide +kernel) (Nat.le_of_ble_eq_true rfl) ?_
  intro p e s m below meth c ls E hK hW hl
  obtain ⟨hx, hb, hr, hml, hts, hown, hlocks, hin⟩ := id E
  have hown : s.vm.findClass RX3 = some m.cls := hown
  have hP := hW.1
  have hl : lv_has ls 2 [(0, .ref (oa 6)), (1, .ref (a 6))] := hl
  refine lv_aload_n hx hb dX3_copyTowns_0 rfl (lv_at hl 0 rfl) ?_
  refine lv_iconst (v := 0) hx hb dX3_copyTowns_1 (by decide) ?_
  refine lv_aload_n hx hb dX3_copyTowns_2 rfl (lv_at hl 1 rfl) ?_
  refine lv_iconst (v := 0) hx hb dX3_copyTowns_3 (by decide) ?_
  refine lv_bipush (v := 6) hx hb dX3_copyTowns_4 (by decide) ?_
  refine b_copy (B' := [vB g o oa W1, vB g h a (cpV W1 V 7)]) hx hb (hml.trans hl.1.symm) hown hts q1_206 q1_208 q1_207 q1_7 hK hW 0 7 1 7 rfl rfl rfl rfl rfl rfl (Nat.le_of_ble_eq_true rfl) (Nat.le_of_ble_eq_true rfl) rfl dX3_copyTowns_6 (fun H locs hW => ?_)
  have hP := hW.1
  exact uV_ret () hW hx hb hr hlocks dX3_copyTowns_9 trivial (rfl) (adr2 (L := [[o, oa 0, oa 1, oa 2, oa 3, oa 4, oa 5, oa 6, oa 7, oa 8, oa 9, oa 10, oa 11], [h, a 0, a 1, a 2, a 3, a 4, a 5, a 6, a 7, a 8, a 9, a 10, a 11]]) rfl rfl)

set_option maxHeartbeats 4000000 in
set_option maxRecDepth 100000 in
theorem c_X3_copyTowns_7 (l : Launch) (g : gx) (o : Nat) (oa : Nat → Nat) (W1 : sV) (h : Nat) (a : Nat → Nat) (V : sV)  : cU (S := Unit) l g yX3_copyTowns cX3_copyTowns 2 none ({ frames := 1, cells := 0, slots := 0, locals := 60 } : Room) [.ref (oa 7), .ref (a 7)] [vB g o oa W1, vB g h a (cpV W1 V 7)] (fun _ => none) (fun _ => True) (fun _ => [vB g o oa W1, vB g h a (cpV W1 V 8)]) := by
  refine cU.mk (by decide +kernel) (Nat.le_of_ble_eq_true rfl) ?_
  intro p e s m below meth c ls E hK hW hl
  obtain ⟨hx, hb, hr, hml, hts, hown, hlocks, hin⟩ := id E
  have hown : s.vm.findClass RX3 = some m.cls := hown
  have hP := hW.1
  have hl : lv_has ls 2 [(0, .ref (oa 7)), (1, .ref (a 7))] := hl
  refine lv_aload_n hx hb dX3_copyTowns_0 rfl (lv_at hl 0 rfl) ?_
  refine lv_iconst (v := 0) hx hb dX3_copyTowns_1 (by decide) ?_
  refine lv_aload_n hx hb dX3_copyTowns_2 rfl (lv_at hl 1 rfl) ?_
  refine lv_iconst (v := 0) hx hb dX3_copyTowns_3 (by decide) ?_
  refine lv_bipush (v := 6) hx hb dX3_copyTowns_4 (by decide) ?_
  refine b_copy (B' := [vB g o oa W1, vB g h a (cpV W1 V 8)]) hx hb (hml.trans hl.1.symm) hown hts q1_206 q1_208 q1_207 q1_7 hK hW 0 8 1 8 rfl rfl rfl rfl rfl rfl (Nat.le_of_ble_eq_true rfl) (Nat.le_of_ble_eq_true rfl) rfl dX3_copyTowns_6 (fun H locs hW => ?_)
  have hP := hW.1
  exact uV_ret () hW hx hb hr hlocks dX3_copyTowns_9 trivial (rfl) (adr2 (L := [[o, oa 0, oa 1, oa 2, oa 3, oa 4, oa 5, oa 6, oa 7, oa 8, oa 9, oa 10, oa 11], [h, a 0, a 1, a 2, a 3, a 4, a 5, a 6, a 7, a 8, a 9, a 10, a 11]]) rfl rfl)

set_option maxHeartbeats 4000000 in
set_option maxRecDepth 100000 in
theorem c_X3_copyTowns_8 (l : Launch) (g : gx) (o : Nat) (oa : Nat → Nat) (W1 : sV) (h : Nat) (a : Nat → Nat) (V : sV)  : cU (S := Unit) l g yX3_copyTowns cX3_copyTowns 2 none ({ frames := 1, cells := 0, slots := 0, locals := 60 } : Room) [.ref (oa 8), .ref (a 8)] [vB g o oa W1, vB g h a (cpV W1 V 8)] (fun _ => none) (fun _ => True) (fun _ => [vB g o oa W1, vB g h a (cpV W1 V 9)]) := by
  refine cU.mk (by decide +kernel) (Nat.le_of_ble_eq_true rfl) ?_
  intro p e s m below meth c ls E hK hW hl
  obtain ⟨hx, hb, hr, hml, hts, hown, hlocks, hin⟩ := id E
  have hown : s.vm.findClass RX3 = some m.cls := hown
  have hP := hW.1
  have hl : lv_has ls 2 [(0, .ref (oa 8)), (1, .ref (a 8))] := hl
  refine lv_aload_n hx hb dX3_copyTowns_0 rfl (lv_at hl 0 rfl) ?_
  refine lv_iconst (v := 0) hx hb dX3_copyTowns_1 (by decide) ?_
  refine lv_aload_n hx hb dX3_copyTowns_2 rfl (lv_at hl 1 rfl) ?_
  refine lv_iconst (v := 0) hx hb dX3_copyTowns_3 (by decide) ?_
  refine lv_bipush (v := 6) hx hb dX3_copyTowns_4 (by decide) ?_
  refine b_copy (B' := [vB g o oa W1, vB g h a (cpV W1 V 9)]) hx hb (hml.trans hl.1.symm) hown hts q1_206 q1_208 q1_207 q1_7 hK hW 0 9 1 9 rfl rfl rfl rfl rfl rfl (Nat.le_of_ble_eq_true rfl) (Nat.le_of_ble_eq_true rfl) rfl dX3_copyTowns_6 (fun H locs hW => ?_)
  have hP := hW.1
  exact uV_ret () hW hx hb hr hlocks dX3_copyTowns_9 trivial (rfl) (adr2 (L := [[o, oa 0, oa 1, oa 2, oa 3, oa 4, oa 5, oa 6, oa 7, oa 8, oa 9, oa 10, oa 11], [h, a 0, a 1, a 2, a 3, a 4, a 5, a 6, a 7, a 8, a 9, a 10, a 11]]) rfl rfl)
end
section
set_option maxHeartbeats 4000000 in
set_option maxRecDepth 100000 in
theorem c_X3_copyBells_9 (l : Launch) (g : gx) (o : Nat) (oa : Nat → Nat) (W1 : sV) (h : Nat) (a : Nat → Nat) (V : sV)  : cU (S := Unit) l g yX3_copyBells cX3_copyBells 2 none ({ frames := 1, cells := 0, slots := 0, locals := 60 } : Room) [.ref (oa 9), .ref (a 9)] [vB g o oa W1, vB g h a (cpV W1 V 9)] (fun _ => none) (fun _ => True) (fun _ => [vB g o oa W1, vB g h a (cpV W1 V 10)]) := by
  refine cU.mk (by decide +kernel) (Nat.le_of_ble_eq_true rfl) ?_
  intro p e s m below meth c ls E hK hW hl
  obtain ⟨hx, hb, hr, hml, hts, hown, hlocks, hin⟩ := id E
  have hown : s.vm.findClass RX3 = some m.cls := hown
  have hP := hW.1
  have hl : lv_has ls 2 [(0, .ref (oa 9)), (1, .ref (a 9))] := hl
  refine lv_aload_n hx hb dX3_copyBells_0 rfl (lv_at hl 0 rfl) ?_
  refine lv_iconst (v := 0) hx hb dX3_copyBells_1 (by decide) ?_
  refine lv_aload_n hx hb dX3_copyBells_2 rfl (lv_at hl 1 rfl) ?_
  refine lv_iconst (v := 0) hx hb dX3_copyBells_3 (by decide) ?_
  refine lv_bipush (v := 30) hx hb dX3_copyBells_4 (by decide) ?_
  refine b_copy (B' := [vB g o oa W1, vB g h a (cpV W1 V 10)]) hx hb (hml.trans hl.1.symm) hown hts q1_206 q1_208 q1_207 q1_7 hK hW 0 10 1 10 rfl rfl rfl rfl rfl rfl (Nat.le_of_ble_eq_true rfl) (Nat.le_of_ble_eq_true rfl) rfl dX3_copyBells_6 (fun H locs hW => ?_)
  have hP := hW.1
  exact uV_ret () hW hx hb hr hlocks dX3_copyBells_9 trivial (rfl) (adr2 (L := [[o, oa 0, oa 1, oa 2, oa 3, oa 4, oa 5, oa 6, oa 7, oa 8, oa 9, oa 10, oa 11], [h, a 0, a 1, a 2, a 3, a 4, a 5, a 6, a 7, a 8, a 9, a 10, a 11]]) rfl rfl)

set_option maxHeartbeats 4000000 in
set_option maxRecDepth 100000 in
theorem c_X3_copyBells_10 (l : Launch) (g : gx) (o : Nat) (oa : Nat → Nat) (W1 : sV) (h : Nat) (a : Nat → Nat) (V : sV)  : cU (S := Unit) l g yX3_copyBells cX3_copyBells 2 none ({ frames := 1, cells := 0, slots := 0, locals := 60 } : Room) [.ref (oa 10), .ref (a 10)] [vB g o oa W1, vB g h a (cpV W1 V 10)] (fun _ => none) (fun _ => True) (fun _ => [vB g o oa W1, vB g h a (cpV W1 V 11)]) := by
  refine cU.mk (by decide +kernel) (Nat.le_of_ble_eq_true rfl) ?_
  intro p e s m below meth c ls E hK hW hl
  obtain ⟨hx, hb, hr, hml, hts, hown, hlocks, hin⟩ := id E
  have hown : s.vm.findClass RX3 = some m.cls := hown
  have hP := hW.1
  have hl : lv_has ls 2 [(0, .ref (oa 10)), (1, .ref (a 10))] := hl
  refine lv_aload_n hx hb dX3_copyBells_0 rfl (lv_at hl 0 rfl) ?_
  refine lv_iconst (v := 0) hx hb dX3_copyBells_1 (by decide) ?_
  refine lv_aload_n hx hb dX3_copyBells_2 rfl (lv_at hl 1 rfl) ?_
  refine lv_iconst (v := 0) hx hb dX3_copyBells_3 (by decide) ?_
  refine lv_bipush (v := 30) hx hb dX3_copyBells_4 (by decide) ?_
  refine b_copy (B' := [vB g o oa W1, vB g h a (cpV W1 V 11)]) hx hb (hml.trans hl.1.symm) hown hts q1_206 q1_208 q1_207 q1_7 hK hW 0 11 1 11 rfl rfl rfl rfl rfl rfl (Nat.le_of_ble_eq_true rfl) (Nat.le_of_ble_eq_true rfl) rfl dX3_copyBells_6 (fun H locs hW => ?_)
  have hP := hW.1
  exact uV_ret () hW hx hb hr hlocks dX3_copyBells_9 trivial (rfl) (adr2 (L := [[o, oa 0, oa 1, oa 2, oa 3, oa 4, oa 5, oa 6, oa 7, oa 8, oa 9, oa 10, oa 11], [h, a 0, a 1, a 2, a 3, a 4, a 5, a 6, a 7, a 8, a 9, a 10, a 11]]) rfl rfl)

set_option maxHeartbeats 4000000 in
set_option maxRecDepth 100000 in
theorem c_X3_copyBells_11 (l : Launch) (g : gx) (o : Nat) (oa : Nat → Nat) (W1 : sV) (h : Nat) (a : Nat → Nat) (V : sV)  : cU (S := Unit) l g yX3_copyBells cX3_copyBells 2 none ({ frames := 1, cells := 0, slots := 0, locals := 60 } : Room) [.ref (oa 11), .ref (a 11)] [vB g o oa W1, vB g h a (cpV W1 V 11)] (fun _ => none) (fun _ => True) (fun _ => [vB g o oa W1, vB g h a (cpV W1 V 12)]) := by
  refine cU.mk (by decide +kernel) (Nat.le_of_ble_eq_true rfl) ?_
  intro p e s m below meth c ls E hK hW hl
  obtain ⟨hx, hb, hr, hml, hts, hown, hlocks, hin⟩ := id E
  have hown : s.vm.findClass RX3 = some m.cls := hown
  have hP := hW.1
  have hl : lv_has ls 2 [(0, .ref (oa 11)), (1, .ref (a 11))] := hl
  refine lv_aload_n hx hb dX3_copyBells_0 rfl (lv_at hl 0 rfl) ?_
  refine lv_iconst (v := 0) hx hb dX3_copyBells_1 (by decide) ?_
  refine lv_aload_n hx hb dX3_copyBells_2 rfl (lv_at hl 1 rfl) ?_
  refine lv_iconst (v := 0) hx hb dX3_copyBells_3 (by decide) ?_
  refine lv_bipush (v := 30) hx hb dX3_copyBells_4 (by decide) ?_
  refine b_copy (B' := [vB g o oa W1, vB g h a (cpV W1 V 12)]) hx hb (hml.trans hl.1.symm) hown hts q1_206 q1_208 q1_207 q1_7 hK hW 0 12 1 12 rfl rfl rfl rfl rfl rfl (Nat.le_of_ble_eq_true rfl) (Nat.le_of_ble_eq_true rfl) rfl dX3_copyBells_6 (fun H locs hW => ?_)
  have hP := hW.1
  exact uV_ret () hW hx hb hr hlocks dX3_copyBells_9 trivial (rfl) (adr2 (L := [[o, oa 0, oa 1, oa 2, oa 3, oa 4, oa 5, oa 6, oa 7, oa 8, oa 9, oa 10, oa 11], [h, a 0, a 1, a 2, a 3, a 4, a 5, a 6, a 7, a 8, a 9, a 10, a 11]]) rfl rfl)

set_option maxHeartbeats 4000000 in
set_option maxRecDepth 100000 in
theorem c_X3_copyFrom (l : Launch) (g : gx) (h : Nat) (a : Nat → Nat) (V : sV) (o : Nat) (oa : Nat → Nat) (W1 : sV)  : cU (S := Unit) l g yX3_copyFrom cX3_copyFrom 2 none ({ frames := 2, cells := 0, slots := 0, locals := 81 } : Room) [.ref h, .ref o] [vB g h a V, vB g o oa W1] (fun _ => none) (fun _ => True) (fun _ => [vB g h a W1, vB g o oa W1]) := by
  refine cU.mk (by decide +kernel) (Nat.le_of_ble_eq_true rfl) ?_
  intro p e s m below meth c ls E hK hW hl
  obtain ⟨hx, hb, hr, hml, hts, hown, hlocks, hin⟩ := id E
  have hown : s.vm.findClass RX3 = some m.cls := hown
  have hP := hW.1
  have hl : lv_has ls 2 [(0, .ref h), (1, .ref o)] := hl
  have hW : wd g _ s.heap [vB g h a (cpV W1 V 0), vB g o oa W1] s.heap [] := hW
  have hP := hW.1
  refine lv_aload_n hx hb dX3_copyFrom_0 rfl (lv_at hl 1 rfl) ?_
  refine b_get (v := .ref (oa 0)) hx hb hts inX3 hown hK hP 1 0 0 rfl rfl rfl (by decide) q1_23 rfl rfl dX3_copyFrom_1 ?_
  refine lv_aload_n hx hb dX3_copyFrom_4 rfl (lv_at hl 0 rfl) ?_
  refine b_get (v := .ref (a 0)) hx hb hts inX3 hown hK hP 0 0 0 rfl rfl rfl (by decide) q1_23 rfl rfl dX3_copyFrom_5 ?_
  refine call_SU (As := [.ref (oa 0), .ref (a 0)]) (rest := []) E rfl hK hW (c_X3_copyTowns_0 l g o oa W1 h a V) ok_X3_copyTowns rfl q1_203 [1, 0] rfl (by decide) ⟨⟨rfl, rfl⟩, Nat.le_of_ble_eq_true rfl, Nat.le_of_ble_eq_true rfl⟩ hl.1 (Nat.le_of_ble_eq_true rfl) ⟨Nat.le_of_ble_eq_true rfl, Nat.le_of_ble_eq_true rfl⟩ rfl dX3_copyFrom_8 (fun _u H locs _ hW => ?_)
  have hW : wd g _ s.heap [vB g h a (cpV W1 V 1), vB g o oa W1] H locs := hW
  have hP := hW.1
  refine lv_aload_n hx hb dX3_copyFrom_11 rfl (lv_at hl 1 rfl) ?_
  refine b_get (v := .ref (oa 1)) hx hb hts inX3 hown hK hP 1 0 1 rfl rfl rfl (by decide) q1_26 rfl rfl dX3_copyFrom_12 ?_
  refine lv_aload_n hx hb dX3_copyFrom_15 rfl (lv_at hl 0 rfl) ?_
  refine b_get (v := .ref (a 1)) hx hb hts inX3 hown hK hP 0 0 1 rfl rfl rfl (by decide) q1_26 rfl rfl dX3_copyFrom_16 ?_
  refine call_SU (As := [.ref (oa 1), .ref (a 1)]) (rest := []) E rfl hK hW (c_X3_copyTowns_1 l g o oa W1 h a V) ok_X3_copyTowns rfl q1_203 [1, 0] rfl (by decide) ⟨⟨rfl, rfl⟩, Nat.le_of_ble_eq_true rfl, Nat.le_of_ble_eq_true rfl⟩ hl.1 (Nat.le_of_ble_eq_true rfl) ⟨Nat.le_of_ble_eq_true rfl, Nat.le_of_ble_eq_true rfl⟩ rfl dX3_copyFrom_19 (fun _u H locs _ hW => ?_)
  have hW : wd g _ s.heap [vB g h a (cpV W1 V 2), vB g o oa W1] H locs := hW
  have hP := hW.1
  refine lv_aload_n hx hb dX3_copyFrom_22 rfl (lv_at hl 1 rfl) ?_
  refine b_get (v := .ref (oa 2)) hx hb hts inX3 hown hK hP 1 0 2 rfl rfl rfl (by decide) q1_28 rfl rfl dX3_copyFrom_23 ?_
  refine lv_aload_n hx hb dX3_copyFrom_26 rfl (lv_at hl 0 rfl) ?_
  refine b_get (v := .ref (a 2)) hx hb hts inX3 hown hK hP 0 0 2 rfl rfl rfl (by decide) q1_28 rfl rfl dX3_copyFrom_27 ?_
  refine call_SU (As := [.ref (oa 2), .ref (a 2)]) (rest := []) E rfl hK hW (c_X3_copyTowns_2 l g o oa W1 h a V) ok_X3_copyTowns rfl q1_203 [1, 0] rfl (by decide) ⟨⟨rfl, rfl⟩, Nat.le_of_ble_eq_true rfl, Nat.le_of_ble_eq_true rfl⟩ hl.1 (Nat.le_of_ble_eq_true rfl) ⟨Nat.le_of_ble_eq_true rfl, Nat.le_of_ble_eq_true rfl⟩ rfl dX3_copyFrom_30 (fun _u H locs _ hW => ?_)
  have hW : wd g _ s.heap [vB g h a (cpV W1 V 3), vB g o oa W1] H locs := hW
  have hP := hW.1
  refine lv_aload_n hx hb dX3_copyFrom_33 rfl (lv_at hl 1 rfl) ?_
  refine b_get (v := .ref (oa 3)) hx hb hts inX3 hown hK hP 1 0 3 rfl rfl rfl (by decide) q1_30 rfl rfl dX3_copyFrom_34 ?_
  refine lv_aload_n hx hb dX3_copyFrom_37 rfl (lv_at hl 0 rfl) ?_
  refine b_get (v := .ref (a 3)) hx hb hts inX3 hown hK hP 0 0 3 rfl rfl rfl (by decide) q1_30 rfl rfl dX3_copyFrom_38 ?_
  refine call_SU (As := [.ref (oa 3), .ref (a 3)]) (rest := []) E rfl hK hW (c_X3_copyTowns_3 l g o oa W1 h a V) ok_X3_copyTowns rfl q1_203 [1, 0] rfl (by decide) ⟨⟨rfl, rfl⟩, Nat.le_of_ble_eq_true rfl, Nat.le_of_ble_eq_true rfl⟩ hl.1 (Nat.le_of_ble_eq_true rfl) ⟨Nat.le_of_ble_eq_true rfl, Nat.le_of_ble_eq_true rfl⟩ rfl dX3_copyFrom_41 (fun _u H locs _ hW => ?_)
  have hW : wd g _ s.heap [vB g h a (cpV W1 V 4), vB g o oa W1] H locs := hW
  have hP := hW.1
  refine lv_aload_n hx hb dX3_copyFrom_44 rfl (lv_at hl 1 rfl) ?_
  refine b_get (v := .ref (oa 4)) hx hb hts inX3 hown hK hP 1 0 4 rfl rfl rfl (by decide) q1_32 rfl rfl dX3_copyFrom_45 ?_
  refine lv_aload_n hx hb dX3_copyFrom_48 rfl (lv_at hl 0 rfl) ?_
  refine b_get (v := .ref (a 4)) hx hb hts inX3 hown hK hP 0 0 4 rfl rfl rfl (by decide) q1_32 rfl rfl dX3_copyFrom_49 ?_
  refine call_SU (As := [.ref (oa 4), .ref (a 4)]) (rest := []) E rfl hK hW (c_X3_copyTowns_4 l g o oa W1 h a V) ok_X3_copyTowns rfl q1_203 [1, 0] rfl (by decide) ⟨⟨rfl, rfl⟩, Nat.le_of_ble_eq_true rfl, Nat.le_of_ble_eq_true rfl⟩ hl.1 (Nat.le_of_ble_eq_true rfl) ⟨Nat.le_of_ble_eq_true rfl, Nat.le_of_ble_eq_true rfl⟩ rfl dX3_copyFrom_52 (fun _u H locs _ hW => ?_)
  have hW : wd g _ s.heap [vB g h a (cpV W1 V 5), vB g o oa W1] H locs := hW
  have hP := hW.1
  refine lv_aload_n hx hb dX3_copyFrom_55 rfl (lv_at hl 1 rfl) ?_
  refine b_get (v := .ref (oa 5)) hx hb hts inX3 hown hK hP 1 0 5 rfl rfl rfl (by decide) q1_34 rfl rfl dX3_copyFrom_56 ?_
  refine lv_aload_n hx hb dX3_copyFrom_59 rfl (lv_at hl 0 rfl) ?_
  refine b_get (v := .ref (a 5)) hx hb hts inX3 hown hK hP 0 0 5 rfl rfl rfl (by decide) q1_34 rfl rfl dX3_copyFrom_60 ?_
  refine call_SU (As := [.ref (oa 5), .ref (a 5)]) (rest := []) E rfl hK hW (c_X3_copyTowns_5 l g o oa W1 h a V) ok_X3_copyTowns rfl q1_203 [1, 0] rfl (by decide) ⟨⟨rfl, rfl⟩, Nat.le_of_ble_eq_true rfl, Nat.le_of_ble_eq_true rfl⟩ hl.1 (Nat.le_of_ble_eq_true rfl) ⟨Nat.le_of_ble_eq_true rfl, Nat.le_of_ble_eq_true rfl⟩ rfl dX3_copyFrom_63 (fun _u H locs _ hW => ?_)
  have hW : wd g _ s.heap [vB g h a (cpV W1 V 6), vB g o oa W1] H locs := hW
  have hP := hW.1
  refine lv_aload_n hx hb dX3_copyFrom_66 rfl (lv_at hl 1 rfl) ?_
  refine b_get (v := .ref (oa 6)) hx hb hts inX3 hown hK hP 1 0 6 rfl rfl rfl (by decide) q1_36 rfl rfl dX3_copyFrom_67 ?_
  refine lv_aload_n hx hb dX3_copyFrom_70 rfl (lv_at hl 0 rfl) ?_
  refine b_get (v := .ref (a 6)) hx hb hts inX3 hown hK hP 0 0 6 rfl rfl rfl (by decide) q1_36 rfl rfl dX3_copyFrom_71 ?_
  refine call_SU (As := [.ref (oa 6), .ref (a 6)]) (rest := []) E rfl hK hW (c_X3_copyTowns_6 l g o oa W1 h a V) ok_X3_copyTowns rfl q1_203 [1, 0] rfl (by decide) ⟨⟨rfl, rfl⟩, Nat.le_of_ble_eq_true rfl, Nat.le_of_ble_eq_true rfl⟩ hl.1 (Nat.le_of_ble_eq_true rfl) ⟨Nat.le_of_ble_eq_true rfl, Nat.le_of_ble_eq_true rfl⟩ rfl dX3_copyFrom_74 (fun _u H locs _ hW => ?_)
  have hW : wd g _ s.heap [vB g h a (cpV W1 V 7), vB g o oa W1] H locs := hW
  have hP := hW.1
  refine lv_aload_n hx hb dX3_copyFrom_77 rfl (lv_at hl 1 rfl) ?_
  refine b_get (v := .ref (oa 7)) hx hb hts inX3 hown hK hP 1 0 7 rfl rfl rfl (by decide) q1_39 rfl rfl dX3_copyFrom_78 ?_
  refine lv_aload_n hx hb dX3_copyFrom_81 rfl (lv_at hl 0 rfl) ?_
  refine b_get (v := .ref (a 7)) hx hb hts inX3 hown hK hP 0 0 7 rfl rfl rfl (by decide) q1_39 rfl rfl dX3_copyFrom_82 ?_
  refine call_SU (As := [.ref (oa 7), .ref (a 7)]) (rest := []) E rfl hK hW (c_X3_copyTowns_7 l g o oa W1 h a V) ok_X3_copyTowns rfl q1_203 [1, 0] rfl (by decide) ⟨⟨rfl, rfl⟩, Nat.le_of_ble_eq_true rfl, Nat.le_of_ble_eq_true rfl⟩ hl.1 (Nat.le_of_ble_eq_true rfl) ⟨Nat.le_of_ble_eq_true rfl, Nat.le_of_ble_eq_true rfl⟩ rfl dX3_copyFrom_85 (fun _u H locs _ hW => ?_)
  have hW : wd g _ s.heap [vB g h a (cpV W1 V 8), vB g o oa W1] H locs := hW
  have hP := hW.1
  refine lv_aload_n hx hb dX3_copyFrom_88 rfl (lv_at hl 1 rfl) ?_
  refine b_get (v := .ref (oa 8)) hx hb hts inX3 hown hK hP 1 0 8 rfl rfl rfl (by decide) q1_41 rfl rfl dX3_copyFrom_89 ?_
  refine lv_aload_n hx hb dX3_copyFrom_92 rfl (lv_at hl 0 rfl) ?_
  refine b_get (v := .ref (a 8)) hx hb hts inX3 hown hK hP 0 0 8 rfl rfl rfl (by decide) q1_41 rfl rfl dX3_copyFrom_93 ?_
  refine call_SU (As := [.ref (oa 8), .ref (a 8)]) (rest := []) E rfl hK hW (c_X3_copyTowns_8 l g o oa W1 h a V) ok_X3_copyTowns rfl q1_203 [1, 0] rfl (by decide) ⟨⟨rfl, rfl⟩, Nat.le_of_ble_eq_true rfl, Nat.le_of_ble_eq_true rfl⟩ hl.1 (Nat.le_of_ble_eq_true rfl) ⟨Nat.le_of_ble_eq_true rfl, Nat.le_of_ble_eq_true rfl⟩ rfl dX3_copyFrom_96 (fun _u H locs _ hW => ?_)
  have hW : wd g _ s.heap [vB g h a (cpV W1 V 9), vB g o oa W1] H locs := hW
  have hP := hW.1
  refine lv_aload_n hx hb dX3_copyFrom_99 rfl (lv_at hl 1 rfl) ?_
  refine b_get (v := .ref (oa 9)) hx hb hts inX3 hown hK hP 1 0 9 rfl rfl rfl (by decide) q1_43 rfl rfl dX3_copyFrom_100 ?_
  refine lv_aload_n hx hb dX3_copyFrom_103 rfl (lv_at hl 0 rfl) ?_
  refine b_get (v := .ref (a 9)) hx hb hts inX3 hown hK hP 0 0 9 rfl rfl rfl (by decide) q1_43 rfl rfl dX3_copyFrom_104 ?_
  refine call_SU (As := [.ref (oa 9), .ref (a 9)]) (rest := []) E rfl hK hW (c_X3_copyBells_9 l g o oa W1 h a V) ok_X3_copyBells rfl q1_209 [1, 0] rfl (by decide) ⟨⟨rfl, rfl⟩, Nat.le_of_ble_eq_true rfl, Nat.le_of_ble_eq_true rfl⟩ hl.1 (Nat.le_of_ble_eq_true rfl) ⟨Nat.le_of_ble_eq_true rfl, Nat.le_of_ble_eq_true rfl⟩ rfl dX3_copyFrom_107 (fun _u H locs _ hW => ?_)
  have hW : wd g _ s.heap [vB g h a (cpV W1 V 10), vB g o oa W1] H locs := hW
  have hP := hW.1
  refine lv_aload_n hx hb dX3_copyFrom_110 rfl (lv_at hl 1 rfl) ?_
  refine b_get (v := .ref (oa 10)) hx hb hts inX3 hown hK hP 1 0 10 rfl rfl rfl (by decide) q1_46 rfl rfl dX3_copyFrom_111 ?_
  refine lv_aload_n hx hb dX3_copyFrom_114 rfl (lv_at hl 0 rfl) ?_
  refine b_get (v := .ref (a 10)) hx hb hts inX3 hown hK hP 0 0 10 rfl rfl rfl (by decide) q1_46 rfl rfl dX3_copyFrom_115 ?_
  refine call_SU (As := [.ref (oa 10), .ref (a 10)]) (rest := []) E rfl hK hW (c_X3_copyBells_10 l g o oa W1 h a V) ok_X3_copyBells rfl q1_209 [1, 0] rfl (by decide) ⟨⟨rfl, rfl⟩, Nat.le_of_ble_eq_true rfl, Nat.le_of_ble_eq_true rfl⟩ hl.1 (Nat.le_of_ble_eq_true rfl) ⟨Nat.le_of_ble_eq_true rfl, Nat.le_of_ble_eq_true rfl⟩ rfl dX3_copyFrom_118 (fun _u H locs _ hW => ?_)
  have hW : wd g _ s.heap [vB g h a (cpV W1 V 11), vB g o oa W1] H locs := hW
  have hP := hW.1
  refine lv_aload_n hx hb dX3_copyFrom_121 rfl (lv_at hl 1 rfl) ?_
  refine b_get (v := .ref (oa 11)) hx hb hts inX3 hown hK hP 1 0 11 rfl rfl rfl (by decide) q1_49 rfl rfl dX3_copyFrom_122 ?_
  refine lv_aload_n hx hb dX3_copyFrom_125 rfl (lv_at hl 0 rfl) ?_
  refine b_get (v := .ref (a 11)) hx hb hts inX3 hown hK hP 0 0 11 rfl rfl rfl (by decide) q1_49 rfl rfl dX3_copyFrom_126 ?_
  refine call_SU (As := [.ref (oa 11), .ref (a 11)]) (rest := []) E rfl hK hW (c_X3_copyBells_11 l g o oa W1 h a V) ok_X3_copyBells rfl q1_209 [1, 0] rfl (by decide) ⟨⟨rfl, rfl⟩, Nat.le_of_ble_eq_true rfl, Nat.le_of_ble_eq_true rfl⟩ hl.1 (Nat.le_of_ble_eq_true rfl) ⟨Nat.le_of_ble_eq_true rfl, Nat.le_of_ble_eq_true rfl⟩ rfl dX3_copyFrom_129 (fun _u H locs _ hW => ?_)
  have hW : wd g _ s.heap [vB g h a (cpV W1 V 12), vB g o oa W1] H locs := hW
  have hP := hW.1
  refine lv_aload_n hx hb dX3_copyFrom_132 rfl (lv_at hl 0 rfl) ?_
  refine lv_aload_n hx hb dX3_copyFrom_133 rfl (lv_at hl 1 rfl) ?_
  refine b_get (v := .int (W1 12 0)) hx hb hts inX3 hown hK hP 1 0 12 rfl rfl rfl (by decide) q1_51 rfl rfl dX3_copyFrom_134 ?_
  refine b_put (B' := [vB g h a (up2 (cpV W1 V 12) 12 0 (W1 12 0)), vB g o oa W1]) (v := .int (W1 12 0)) hx hb hts inX3 tyX3_ok nmX3 hown hK hW 0 0 12 rfl rfl rfl (by decide) q1_51 rfl rfl rfl rfl (Nat.le_of_ble_eq_true rfl) rfl dX3_copyFrom_137 (fun H locs hW => ?_)
  have hP := hW.1
  refine lv_aload_n hx hb dX3_copyFrom_140 rfl (lv_at hl 0 rfl) ?_
  refine lv_aload_n hx hb dX3_copyFrom_141 rfl (lv_at hl 1 rfl) ?_
  refine b_get (v := .int (W1 12 1)) hx hb hts inX3 hown hK hP 1 0 13 rfl rfl rfl (by decide) q1_54 rfl rfl dX3_copyFrom_142 ?_
  refine b_put (B' := [vB g h a (up2 (up2 (cpV W1 V 12) 12 0 (W1 12 0)) 12 1 (W1 12 1)), vB g o oa W1]) (v := .int (W1 12 1)) hx hb hts inX3 tyX3_ok nmX3 hown hK hW 0 0 13 rfl rfl rfl (by decide) q1_54 rfl rfl rfl rfl (Nat.le_of_ble_eq_true rfl) rfl dX3_copyFrom_145 (fun H locs hW => ?_)
  have hP := hW.1
  refine lv_aload_n hx hb dX3_copyFrom_148 rfl (lv_at hl 0 rfl) ?_
  refine lv_aload_n hx hb dX3_copyFrom_149 rfl (lv_at hl 1 rfl) ?_
  refine b_get (v := .int (W1 12 2)) hx hb hts inX3 hown hK hP 1 0 14 rfl rfl rfl (by decide) q1_56 rfl rfl dX3_copyFrom_150 ?_
  refine b_put (B' := [vB g h a (up2 (up2 (up2 (cpV W1 V 12) 12 0 (W1 12 0)) 12 1 (W1 12 1)) 12 2 (W1 12 2)), vB g o oa W1]) (v := .int (W1 12 2)) hx hb hts inX3 tyX3_ok nmX3 hown hK hW 0 0 14 rfl rfl rfl (by decide) q1_56 rfl rfl rfl rfl (Nat.le_of_ble_eq_true rfl) rfl dX3_copyFrom_153 (fun H locs hW => ?_)
  have hP := hW.1
  refine lv_aload_n hx hb dX3_copyFrom_156 rfl (lv_at hl 0 rfl) ?_
  refine lv_aload_n hx hb dX3_copyFrom_157 rfl (lv_at hl 1 rfl) ?_
  refine b_get (v := .int (W1 12 4)) hx hb hts inX3 hown hK hP 1 0 15 rfl rfl rfl (by decide) q1_58 rfl rfl dX3_copyFrom_158 ?_
  refine b_put (B' := [vB g h a (up2 (up2 (up2 (up2 (cpV W1 V 12) 12 0 (W1 12 0)) 12 1 (W1 12 1)) 12 2 (W1 12 2)) 12 4 (W1 12 4)), vB g o oa W1]) (v := .int (W1 12 4)) hx hb hts inX3 tyX3_ok nmX3 hown hK hW 0 0 15 rfl rfl rfl (by decide) q1_58 rfl rfl rfl rfl (Nat.le_of_ble_eq_true rfl) rfl dX3_copyFrom_161 (fun H locs hW => ?_)
  have hP := hW.1
  refine lv_aload_n hx hb dX3_copyFrom_164 rfl (lv_at hl 0 rfl) ?_
  refine lv_aload_n hx hb dX3_copyFrom_165 rfl (lv_at hl 1 rfl) ?_
  refine b_get (v := .int (W1 12 3)) hx hb hts inX3 hown hK hP 1 0 16 rfl rfl rfl (by decide) q1_60 rfl rfl dX3_copyFrom_166 ?_
  refine b_put (B' := [vB g h a (up2 (up2 (up2 (up2 (up2 (cpV W1 V 12) 12 0 (W1 12 0)) 12 1 (W1 12 1)) 12 2 (W1 12 2)) 12 4 (W1 12 4)) 12 3 (W1 12 3)), vB g o oa W1]) (v := .int (W1 12 3)) hx hb hts inX3 tyX3_ok nmX3 hown hK hW 0 0 16 rfl rfl rfl (by decide) q1_60 rfl rfl rfl rfl (Nat.le_of_ble_eq_true rfl) rfl dX3_copyFrom_169 (fun H locs hW => ?_)
  have hP := hW.1
  exact uV_ret () hW hx hb hr hlocks dX3_copyFrom_172 trivial (rfl) (adr2 (L := [[h, a 0, a 1, a 2, a 3, a 4, a 5, a 6, a 7, a 8, a 9, a 10, a 11], [o, oa 0, oa 1, oa 2, oa 3, oa 4, oa 5, oa 6, oa 7, oa 8, oa 9, oa 10, oa 11]]) rfl rfl)
end
section
set_option maxHeartbeats 4000000 in
set_option maxRecDepth 100000 in
theorem c_X1_soundIn (l : Launch) (g : gx) (h : Nat) (a : Nat → Nat) (N : sV) (o : Nat) (oa : Nat → Nat) (V : sV) (t e0 : Nat) (ht : t < 6) (he : e0 < 6)  : cR l g yX1_soundIn cX1_soundIn 5 (some .int) ({ frames := 1, cells := 0, slots := 0, locals := 24 } : Room) [.ref h, .ref o, .int (nI t), .int (nI e0)] [rB g h a N, vB g o oa V] (.int (sndF V (N 1) t e0)) := by
  refine cR.mk (by decide +kernel) (Nat.le_of_ble_eq_true rfl) ?_
  intro p e s m below meth c ls E hK hP hl
  obtain ⟨hx, hb, hr, hml, hts, hown, hlocks, hin⟩ := id E
  have hown : s.vm.findClass RX1 = some m.cls := hown
  have hl : lv_has ls 5 [(0, .ref h), (1, .ref o), (2, .int (nI t)), (3, .int (nI e0))] := hl
  refine lv_aload_n hx hb dX1_soundIn_0 rfl (lv_at hl 1 rfl) ?_
  refine b_get (v := .ref (oa 0)) hx hb hts inX3 hown hK hP 1 0 0 rfl rfl rfl (by decide) q1_24 rfl rfl dX1_soundIn_1 ?_
  refine lv_iload_n hx hb dX1_soundIn_4 rfl (lv_at hl 2 rfl) ?_
  refine b_iald (v := V 0 t) hx hb hK hP 1 1 (t) rfl rfl rfl (by omega) rfl rfl dX1_soundIn_5 ?_
  refine lv_aload_n hx hb dX1_soundIn_6 rfl (lv_at hl 1 rfl) ?_
  refine b_get (v := .ref (oa 0)) hx hb hts inX3 hown hK hP 1 0 0 rfl rfl rfl (by decide) q1_24 rfl rfl dX1_soundIn_7 ?_
  refine lv_iload_n hx hb dX1_soundIn_10 rfl (lv_at hl 3 rfl) ?_
  refine b_iald (v := V 0 e0) hx hb hK hP 1 1 (e0) rfl rfl rfl (by omega) rfl rfl dX1_soundIn_11 ?_
  refine lv_isub hx hb dX1_soundIn_12 ?_
  refine va_mabs hx hb (hml.trans hl.1.symm) hown (hts _ q2_88) (hts _ q2_89) (hts _ q1_8) (hts _ q2_90) (Nat.le_of_ble_eq_true rfl) (Nat.le_of_ble_eq_true rfl) (Nat.le_of_ble_eq_true rfl) (Nat.le_of_ble_eq_true rfl) dX1_soundIn_13 ?_
  refine lv_istore (lv' := [(4, .int (if 0 ≤ (V 0 t) - (V 0 e0) then (V 0 t) - (V 0 e0) else 0 - ((V 0 t) - (V 0 e0)))), (0, .ref h), (1, .ref o), (2, .int (nI t)), (3, .int (nI e0))]) hx hb dX1_soundIn_16 hl (by decide) rfl (fun ls hl => ?_)
  refine lv_iconst (v := 0) hx hb dX1_soundIn_18 (by decide) ?_
  refine lv_aload_n hx hb dX1_soundIn_19 rfl (lv_at hl 1 rfl) ?_
  refine b_get (v := .ref (a 1)) hx hb hts inX1 hown hK hP 0 0 1 rfl rfl rfl (by decide) q1_127 rfl rfl dX1_soundIn_20 ?_
  refine lv_iload_n hx hb dX1_soundIn_23 rfl (lv_at hl 3 rfl) ?_
  refine b_iald (v := N 1 t) hx hb hK hP 0 2 (t) rfl rfl rfl (by omega) rfl rfl dX1_soundIn_24 ?_
  refine lv_aload_n hx hb dX1_soundIn_25 rfl (lv_at hl 2 rfl) ?_
  refine b_get (v := .int (V 12 0)) hx hb hts inX3 hown hK hP 1 0 12 rfl rfl rfl (by decide) q1_52 rfl rfl dX1_soundIn_26 ?_
  refine lv_iload hx hb dX1_soundIn_29 (lv_at hl 0 rfl) ?_
  refine lv_imul hx hb dX1_soundIn_31 ?_
  refine lv_isub hx hb dX1_soundIn_32 ?_
  refine va_mmax hx hb (hml.trans hl.1.symm) hown (hts _ q2_91) (hts _ q2_92) (hts _ q1_8) (hts _ q2_93) (Nat.le_of_ble_eq_true rfl) (Nat.le_of_ble_eq_true rfl) (Nat.le_of_ble_eq_true rfl) (Nat.le_of_ble_eq_true rfl) dX1_soundIn_33 ?_
  exact rI_ret hx hb hr hlocks dX1_soundIn_36 (rfl)

set_option maxHeartbeats 4000000 in
set_option maxRecDepth 100000 in
theorem c_X1_winnerIn (l : Launch) (g : gx) (h : Nat) (a : Nat → Nat) (N : sV) (o : Nat) (oa : Nat → Nat) (V : sV) (e0 : Nat) (he : e0 < 6)  : cR l g yX1_winnerIn cX1_winnerIn 7 (some .int) ({ frames := 2, cells := 0, slots := 0, locals := 48 } : Room) [.ref h, .ref o, .int (nI e0)] [rB g h a N, vB g o oa V] (.int ((wmF V (N 1) e0 6).2)) := by
  refine cR.mk (by decide +kernel) (Nat.le_of_ble_eq_true rfl) ?_
  intro p e s m below meth c ls E hK hP hl
  obtain ⟨hx, hb, hr, hml, hts, hown, hlocks, hin⟩ := id E
  have hown : s.vm.findClass RX1 = some m.cls := hown
  have hl : lv_has ls 7 [(0, .ref h), (1, .ref o), (2, .int (nI e0))] := hl
  refine lv_iconst (v := 0) hx hb dX1_winnerIn_0 (by decide) ?_
  refine lv_istore_n (lv' := [(3, .int 0), (0, .ref h), (1, .ref o), (2, .int (nI e0))]) hx hb dX1_winnerIn_1 rfl hl (by decide) rfl (fun ls hl => ?_)
  refine lv_bipush (v := -5) hx hb dX1_winnerIn_2 (by decide) ?_
  refine lv_istore (lv' := [(4, .int (-5)), (3, .int 0), (0, .ref h), (1, .ref o), (2, .int (nI e0))]) hx hb dX1_winnerIn_4 hl (by decide) rfl (fun ls hl => ?_)
  refine lv_iconst (v := 0) hx hb dX1_winnerIn_6 (by decide) ?_
  refine lv_istore (lv' := [(5, .int 0), (4, .int (-5)), (3, .int 0), (0, .ref h), (1, .ref o), (2, .int (nI e0))]) hx hb dX1_winnerIn_7 hl (by decide) rfl (fun ls hl => ?_)
  refine loopN (fun i : Nat => ∀ ls : Array Slot, lv_has ls 7 [(0, .ref h), (1, .ref o), (2, .int (nI e0)), (3, .int ((wmF V (N 1) e0 i).1)), (4, .int ((wmF V (N 1) e0 i).2)), (5, .int (nI i))] → W p l e _ s m _ below meth c s.heap [] 0 0 _ (F0 m 9 ls [])) (6) (fun i hi ih_i => ?_) (0) (by omega)  ls (lv_sub hl [3, 4, 5, 2, 1, 0] rfl) 
  intro  ls hl 
  refine lv_iload hx hb dX1_winnerIn_9 (lv_at hl 5 rfl) ?_
  refine lv_bipush (v := 6) hx hb dX1_winnerIn_11 (by decide) ?_
  refine b_ge (tgt := 58) (i) (6) hx hb rfl rfl (by omega) (by omega) dX1_winnerIn_13 (by decide) (fun h_1 => ?_) (fun h_1 => ?_)
  · obtain rfl : i = 6 := by omega
    refine lv_iload hx hb dX1_winnerIn_58 (lv_at hl 4 rfl) ?_
    exact rI_ret hx hb hr hlocks dX1_winnerIn_60 (rfl)
  · refine lv_aload_n hx hb dX1_winnerIn_16 rfl (lv_at hl 0 rfl) ?_
    refine lv_aload_n hx hb dX1_winnerIn_17 rfl (lv_at hl 1 rfl) ?_
    refine lv_iload hx hb dX1_winnerIn_18 (lv_at hl 5 rfl) ?_
    refine lv_iload_n hx hb dX1_winnerIn_20 rfl (lv_at hl 2 rfl) ?_
    refine call_VR (As := [.ref o, .int (nI i), .int (nI e0)]) (rest := []) E rfl hK hP (c_X1_soundIn l g h a N o oa V i e0 (by omega) (by omega)) ok_X1_soundIn rfl q2_84 [0, 1] rfl (b_recv hK hP 0 0 rfl rfl rfl rfl) ⟨⟨rfl, rfl⟩, Nat.le_of_ble_eq_true rfl, Nat.le_of_ble_eq_true rfl⟩ hl.1 (Nat.le_of_ble_eq_true rfl) ⟨Nat.le_of_ble_eq_true rfl, Nat.le_of_ble_eq_true rfl⟩ rfl dX1_winnerIn_21 ?_
    refine lv_istore (lv' := [(6, .int (sndF V (N 1) i e0)), (0, .ref h), (1, .ref o), (2, .int (nI e0)), (3, .int ((wmF V (N 1) e0 i).1)), (4, .int ((wmF V (N 1) e0 i).2)), (5, .int (nI i))]) hx hb dX1_winnerIn_24 hl (by decide) rfl (fun ls hl => ?_)
    refine lv_iload hx hb dX1_winnerIn_26 (lv_at hl 0 rfl) ?_
    refine lv_iload_n hx hb dX1_winnerIn_28 rfl (lv_at hl 4 rfl) ?_
    refine lv_icmp_le (tgt := 42) hx hb dX1_winnerIn_29 (by decide) (fun h_2 => ?_) (fun h_2 => ?_)
    · refine lv_iload hx hb dX1_winnerIn_42 (lv_at hl 0 rfl) ?_
      refine lv_iload_n hx hb dX1_winnerIn_44 rfl (lv_at hl 4 rfl) ?_
      refine lv_icmp_ne (tgt := 52) hx hb dX1_winnerIn_45 (by decide) (fun h_3 => ?_) (fun h_3 => ?_)
      · refine lv_iinc (v := nI (i + 1)) (lv' := [(5, .int (nI (i + 1))), (6, .int (sndF V (N 1) i e0)), (0, .ref h), (1, .ref o), (2, .int (nI e0)), (3, .int ((wmF V (N 1) e0 i).1)), (4, .int ((wmF V (N 1) e0 i).2))]) hx hb dX1_winnerIn_52 hl (k := 6) rfl (nI_add i 1) (by decide) rfl (fun ls hl => ?_)
        refine lv_goto (tgt := 9) hx hb dX1_winnerIn_55 (by decide) ?_
        have e_4 : (wmF V (N 1) e0 (i + 1)).1 = (wmF V (N 1) e0 i).1 := by simp only [h_1, h_2, h_3, wmF, Int32.le_refl, not_true_eq_false, not_false_eq_true, ite_true, ite_false, reduceIte]
        have e_5 : (wmF V (N 1) e0 (i + 1)).2 = (wmF V (N 1) e0 i).2 := by simp only [h_1, h_2, h_3, wmF, Int32.le_refl, not_true_eq_false, not_false_eq_true, ite_true, ite_false, reduceIte]
        exact ih_i (by omega)  _ (by rw [e_4, e_5]; exact lv_sub hl [2, 3, 4, 5, 6, 0] rfl) 
      · refine lv_bipush (v := -5) hx hb dX1_winnerIn_48 (by decide) ?_
        refine lv_istore (lv' := [(4, .int (-5)), (6, .int (sndF V (N 1) i e0)), (0, .ref h), (1, .ref o), (2, .int (nI e0)), (3, .int ((wmF V (N 1) e0 i).1)), (5, .int (nI i))]) hx hb dX1_winnerIn_50 hl (by decide) rfl (fun ls hl => ?_)
        refine lv_iinc (v := nI (i + 1)) (lv' := [(5, .int (nI (i + 1))), (4, .int (-5)), (6, .int (sndF V (N 1) i e0)), (0, .ref h), (1, .ref o), (2, .int (nI e0)), (3, .int ((wmF V (N 1) e0 i).1))]) hx hb dX1_winnerIn_52 hl (k := 6) rfl (nI_add i 1) (by decide) rfl (fun ls hl => ?_)
        refine lv_goto (tgt := 9) hx hb dX1_winnerIn_55 (by decide) ?_
        have e_6 : (wmF V (N 1) e0 (i + 1)).1 = (wmF V (N 1) e0 i).1 := by simp only [h_1, h_2, h_3, wmF, Int32.le_refl, not_true_eq_false, not_false_eq_true, ite_true, ite_false, reduceIte]
        have e_7 : (wmF V (N 1) e0 (i + 1)).2 = -5 := by simp only [h_1, h_2, h_3, wmF, Int32.le_refl, not_true_eq_false, not_false_eq_true, ite_true, ite_false, reduceIte]
        exact ih_i (by omega)  _ (by rw [e_6, e_7]; exact lv_sub hl [3, 4, 5, 6, 1, 0] rfl) 
    · refine lv_iload hx hb dX1_winnerIn_32 (lv_at hl 0 rfl) ?_
      refine lv_istore_n (lv' := [(3, .int (sndF V (N 1) i e0)), (6, .int (sndF V (N 1) i e0)), (0, .ref h), (1, .ref o), (2, .int (nI e0)), (4, .int ((wmF V (N 1) e0 i).2)), (5, .int (nI i))]) hx hb dX1_winnerIn_34 rfl hl (by decide) rfl (fun ls hl => ?_)
      refine lv_iload hx hb dX1_winnerIn_35 (lv_at hl 6 rfl) ?_
      refine lv_istore (lv' := [(4, .int (nI i)), (3, .int (sndF V (N 1) i e0)), (6, .int (sndF V (N 1) i e0)), (0, .ref h), (1, .ref o), (2, .int (nI e0)), (5, .int (nI i))]) hx hb dX1_winnerIn_37 hl (by decide) rfl (fun ls hl => ?_)
      refine lv_goto (tgt := 52) hx hb dX1_winnerIn_39 (by decide) ?_
      refine lv_iinc (v := nI (i + 1)) (lv' := [(5, .int (nI (i + 1))), (4, .int (nI i)), (3, .int (sndF V (N 1) i e0)), (6, .int (sndF V (N 1) i e0)), (0, .ref h), (1, .ref o), (2, .int (nI e0))]) hx hb dX1_winnerIn_52 hl (k := 6) rfl (nI_add i 1) (by decide) rfl (fun ls hl => ?_)
      refine lv_goto (tgt := 9) hx hb dX1_winnerIn_55 (by decide) ?_
      have e_8 : (wmF V (N 1) e0 (i + 1)).1 = sndF V (N 1) i e0 := by simp only [h_1, h_2, wmF, Int32.le_refl, not_true_eq_false, not_false_eq_true, ite_true, ite_false, reduceIte]
      have e_9 : (wmF V (N 1) e0 (i + 1)).2 = nI i := by simp only [h_1, h_2, wmF, Int32.le_refl, not_true_eq_false, not_false_eq_true, ite_true, ite_false, reduceIte]
      exact ih_i (by omega)  _ (by rw [e_8, e_9]; exact lv_sub hl [4, 5, 6, 2, 1, 0] rfl) 
end
section
set_option maxHeartbeats 4000000 in
set_option maxRecDepth 100000 in
theorem c_X1_pointsOf (l : Launch) (g : gx) (h : Nat) (a : Nat → Nat) (N : sV) (x : Int32)  : cR l g yX1_pointsOf cX1_pointsOf 4 (some .int) ({ frames := 0, cells := 0, slots := 0, locals := 0 } : Room) [.ref h, .int x] [rB g h a N] (.int (cntF (fun e => N 3 e = x) 6)) := by
  refine cR.mk (by decide +kernel) (Nat.le_of_ble_eq_true rfl) ?_
  intro p e s m below meth c ls E hK hP hl
  obtain ⟨hx, hb, hr, hml, hts, hown, hlocks, hin⟩ := id E
  have hown : s.vm.findClass RX1 = some m.cls := hown
  have hl : lv_has ls 4 [(0, .ref h), (1, .int x)] := hl
  refine lv_iconst (v := 0) hx hb dX1_pointsOf_0 (by decide) ?_
  refine lv_istore_n (lv' := [(2, .int 0), (0, .ref h), (1, .int x)]) hx hb dX1_pointsOf_1 rfl hl (by decide) rfl (fun ls hl => ?_)
  refine lv_iconst (v := 0) hx hb dX1_pointsOf_2 (by decide) ?_
  refine lv_istore_n (lv' := [(3, .int 0), (2, .int 0), (0, .ref h), (1, .int x)]) hx hb dX1_pointsOf_3 rfl hl (by decide) rfl (fun ls hl => ?_)
  refine loopN (fun i : Nat => ∀ ls : Array Slot, lv_has ls 4 [(0, .ref h), (1, .int x), (2, .int (cntF (fun e => N 3 e = x) i)), (3, .int (nI i))] → W p l e _ s m _ below meth c s.heap [] 0 0 _ (F0 m 4 ls [])) (6) (fun i hi ih_i => ?_) (0) (by omega)  ls (lv_sub hl [2, 3, 1, 0] rfl) 
  intro  ls hl 
  refine lv_iload_n hx hb dX1_pointsOf_4 rfl (lv_at hl 3 rfl) ?_
  refine lv_bipush (v := 6) hx hb dX1_pointsOf_5 (by decide) ?_
  refine b_ge (tgt := 29) (i) (6) hx hb rfl rfl (by omega) (by omega) dX1_pointsOf_7 (by decide) (fun h_1 => ?_) (fun h_1 => ?_)
  · obtain rfl : i = 6 := by omega
    refine lv_iload_n hx hb dX1_pointsOf_29 rfl (lv_at hl 2 rfl) ?_
    exact rI_ret hx hb hr hlocks dX1_pointsOf_30 (rfl)
  · refine lv_aload_n hx hb dX1_pointsOf_10 rfl (lv_at hl 0 rfl) ?_
    refine b_get (v := .ref (a 3)) hx hb hts inX1 hown hK hP 0 0 3 rfl rfl rfl (by decide) q1_131 rfl rfl dX1_pointsOf_11 ?_
    refine lv_iload_n hx hb dX1_pointsOf_14 rfl (lv_at hl 3 rfl) ?_
    refine b_iald (v := N 3 i) hx hb hK hP 0 4 (i) rfl rfl rfl (by omega) rfl rfl dX1_pointsOf_15 ?_
    refine lv_iload_n hx hb dX1_pointsOf_16 rfl (lv_at hl 1 rfl) ?_
    refine lv_icmp_ne (tgt := 23) hx hb dX1_pointsOf_17 (by decide) (fun h_2 => ?_) (fun h_2 => ?_)
    · refine lv_iinc (v := nI (i + 1)) (lv' := [(3, .int (nI (i + 1))), (0, .ref h), (1, .int x), (2, .int (cntF (fun e => N 3 e = x) i))]) hx hb dX1_pointsOf_23 hl (k := 3) rfl (nI_add i 1) (by decide) rfl (fun ls hl => ?_)
      refine lv_goto (tgt := 4) hx hb dX1_pointsOf_26 (by decide) ?_
      have e_3 : cntF (fun e => N 3 e = x) (i + 1) = cntF (fun e => N 3 e = x) i := by simp only [h_1, h_2, cntF, Int32.le_refl, not_true_eq_false, not_false_eq_true, ite_true, ite_false, reduceIte]
      exact ih_i (by omega)  _ (by rw [e_3]; exact lv_sub hl [1, 2, 3, 0] rfl) 
    · refine lv_iinc (v := cntF (fun e => N 3 e = x) i + 1) (lv' := [(2, .int (cntF (fun e => N 3 e = x) i + 1)), (0, .ref h), (1, .int x), (3, .int (nI i))]) hx hb dX1_pointsOf_20 hl (k := 2) rfl rfl (by decide) rfl (fun ls hl => ?_)
      refine lv_iinc (v := nI (i + 1)) (lv' := [(3, .int (nI (i + 1))), (2, .int (cntF (fun e => N 3 e = x) i + 1)), (0, .ref h), (1, .int x)]) hx hb dX1_pointsOf_23 hl (k := 3) rfl (nI_add i 1) (by decide) rfl (fun ls hl => ?_)
      refine lv_goto (tgt := 4) hx hb dX1_pointsOf_26 (by decide) ?_
      have e_4 : cntF (fun e => N 3 e = x) (i + 1) = cntF (fun e => N 3 e = x) i + 1 := by simp only [h_1, h_2, cntF, Int32.le_refl, not_true_eq_false, not_false_eq_true, ite_true, ite_false, reduceIte]
      exact ih_i (by omega)  _ (by rw [e_4]; exact lv_sub hl [2, 3, 1, 0] rfl) 

set_option maxHeartbeats 4000000 in
set_option maxRecDepth 100000 in
theorem c_X1_ringIn (l : Launch) (g : gx) (h : Nat) (a : Nat → Nat) (N : sV) (o : Nat) (oa : Nat → Nat) (V : sV) (t : Nat) (ht : t < 6)  : cU (S := Unit) l g yX1_ringIn cX1_ringIn 11 none ({ frames := 2, cells := 0, slots := 0, locals := 42 } : Room) [.ref h, .ref o, .int (nI t)] [rB g h a N, vB g o oa V] (fun _ => none) (fun _ => True) (fun _ => [rB g h a (rinN V t N), vB g o oa V]) := by
  refine cU.mk (by decide +kernel) (Nat.le_of_ble_eq_true rfl) ?_
  intro p e s m below meth c ls E hK hW hl
  obtain ⟨hx, hb, hr, hml, hts, hown, hlocks, hin⟩ := id E
  have hown : s.vm.findClass RX1 = some m.cls := hown
  have hP := hW.1
  have hl : lv_has ls 11 [(0, .ref h), (1, .ref o), (2, .int (nI t))] := hl
  refine lv_aload_n hx hb dX1_ringIn_0 rfl (lv_at hl 1 rfl) ?_
  refine lv_iload_n hx hb dX1_ringIn_1 rfl (lv_at hl 2 rfl) ?_
  refine call_VR (As := [.int (nI t)]) (rest := []) E rfl hK hP (c_X3_wantedBells l g o oa V t (by omega)) ok_X3_wantedBells rfl q2_70 [1] rfl (b_recv hK hP 1 0 rfl rfl rfl rfl) ⟨⟨rfl, rfl⟩, Nat.le_of_ble_eq_true rfl, Nat.le_of_ble_eq_true rfl⟩ hl.1 (Nat.le_of_ble_eq_true rfl) ⟨Nat.le_of_ble_eq_true rfl, Nat.le_of_ble_eq_true rfl⟩ rfl dX1_ringIn_2 ?_
  refine lv_istore_n (lv' := [(3, .int (wantC V t)), (0, .ref h), (1, .ref o), (2, .int (nI t))]) hx hb dX1_ringIn_5 rfl hl (by decide) rfl (fun ls hl => ?_)
  refine lv_aload_n hx hb dX1_ringIn_6 rfl (lv_at hl 2 rfl) ?_
  refine lv_iload_n hx hb dX1_ringIn_7 rfl (lv_at hl 3 rfl) ?_
  refine call_VR (As := [.int (nI t)]) (rest := []) E rfl hK hP (c_X3_rested l g o oa V t (by omega)) ok_X3_rested rfl q2_75 [1] rfl (b_recv hK hP 1 0 rfl rfl rfl rfl) ⟨⟨rfl, rfl⟩, Nat.le_of_ble_eq_true rfl, Nat.le_of_ble_eq_true rfl⟩ hl.1 (Nat.le_of_ble_eq_true rfl) ⟨Nat.le_of_ble_eq_true rfl, Nat.le_of_ble_eq_true rfl⟩ rfl dX1_ringIn_8 ?_
  refine lv_istore (lv' := [(4, .int (resT V t)), (3, .int (wantC V t)), (0, .ref h), (1, .ref o), (2, .int (nI t))]) hx hb dX1_ringIn_11 hl (by decide) rfl (fun ls hl => ?_)
  refine lv_iconst (v := 0) hx hb dX1_ringIn_13 (by decide) ?_
  refine lv_istore (lv' := [(5, .int 0), (4, .int (resT V t)), (3, .int (wantC V t)), (0, .ref h), (1, .ref o), (2, .int (nI t))]) hx hb dX1_ringIn_14 hl (by decide) rfl (fun ls hl => ?_)
  refine lv_iconst (v := 0) hx hb dX1_ringIn_16 (by decide) ?_
  refine lv_istore (lv' := [(6, .int 0), (5, .int 0), (4, .int (resT V t)), (3, .int (wantC V t)), (0, .ref h), (1, .ref o), (2, .int (nI t))]) hx hb dX1_ringIn_17 hl (by decide) rfl (fun ls hl => ?_)
  refine lv_iconst (v := 0) hx hb dX1_ringIn_19 (by decide) ?_
  refine lv_istore (lv' := [(7, .int 0), (6, .int 0), (5, .int 0), (4, .int (resT V t)), (3, .int (wantC V t)), (0, .ref h), (1, .ref o), (2, .int (nI t))]) hx hb dX1_ringIn_20 hl (by decide) rfl (fun ls hl => ?_)
  refine loopN (fun i : Nat => ∀ (H : Heap) (locs : List Loc) (ls : Array Slot), wd g (fun q => q ∈ adr [rB g h a N, vB g o oa V]) s.heap [rB g h a (riN V t N i), vB g o oa V] H locs → lv_has ls 11 [(0, .ref h), (1, .ref o), (2, .int (nI t)), (3, .int (wantC V t)), (4, .int (resT V t)), (5, .int ((vbC V t i).1)), (6, .int ((vbC V t i).2)), (7, .int (nI i))] → W p l e _ s m _ below meth c H locs 0 0 _ (F0 m 22 ls [])) (5) (fun i hi ih_i => ?_) (0) (by omega)  s.heap [] ls hW (lv_sub hl [5, 6, 7, 4, 3, 2, 1, 0] rfl) 
  intro  H locs ls hW hl 
  have hP := hW.1
  refine lv_iload hx hb dX1_ringIn_22 (lv_at hl 7 rfl) ?_
  refine lv_iconst (v := 5) hx hb dX1_ringIn_24 (by decide) ?_
  refine b_ge (tgt := 176) (i) (5) hx hb rfl rfl (by omega) (by omega) dX1_ringIn_25 (by decide) (fun h_1 => ?_) (fun h_1 => ?_)
  · obtain rfl : i = 5 := by omega
    obtain ⟨U_2, hU_2⟩ : ∃ z, z = (riN V t N 5) := ⟨_, rfl⟩
    rw [← hU_2] at hW
    have hP := hW.1
    refine lv_aload_n hx hb dX1_ringIn_176 rfl (lv_at hl 0 rfl) ?_
    refine b_get (v := .ref (a 1)) hx hb hts inX1 hown hK hP 0 0 1 rfl rfl rfl (by decide) q1_127 rfl rfl dX1_ringIn_177 ?_
    refine lv_iload_n hx hb dX1_ringIn_180 rfl (lv_at hl 2 rfl) ?_
    refine lv_iload hx hb dX1_ringIn_181 (lv_at hl 5 rfl) ?_
    refine b_iast (B' := [rB g h a (up2 U_2 1 t ((vbC V t 5).1)), vB g o oa V]) hx hb hK hW 0 2 (t) rfl rfl rfl (by omega) rfl rfl dX1_ringIn_183 (fun H locs hW => ?_)
    have hP := hW.1
    refine lv_aload_n hx hb dX1_ringIn_184 rfl (lv_at hl 0 rfl) ?_
    refine b_get (v := .ref (a 2)) hx hb hts inX1 hown hK hP 0 0 2 rfl rfl rfl (by decide) q1_129 rfl rfl dX1_ringIn_185 ?_
    refine lv_iload_n hx hb dX1_ringIn_188 rfl (lv_at hl 2 rfl) ?_
    refine lv_iload hx hb dX1_ringIn_189 (lv_at hl 6 rfl) ?_
    refine b_iast (B' := [rB g h a (up2 (up2 U_2 1 t ((vbC V t 5).1)) 2 t ((vbC V t 5).2)), vB g o oa V]) hx hb hK hW 0 3 (t) rfl rfl rfl (by omega) rfl rfl dX1_ringIn_191 (fun H locs hW => ?_)
    have hP := hW.1
    exact uV_ret () hW hx hb hr hlocks dX1_ringIn_192 trivial (by rw [hU_2]) (adr2 (L := [[h, a 0, a 1, a 2, a 3], [o, oa 0, oa 1, oa 2, oa 3, oa 4, oa 5, oa 6, oa 7, oa 8, oa 9, oa 10, oa 11]]) rfl rfl)
  · refine lv_iload_n hx hb dX1_ringIn_28 rfl (lv_at hl 2 rfl) ?_
    refine lv_iload hx hb dX1_ringIn_29 (lv_at hl 7 rfl) ?_
    refine call_NR (As := [.int (nI t), .int (nI i)]) (rest := []) E rfl hK hP (c_X4_slot l g t i) ok_X4_slot rfl hK.2.2.2.1 [] rfl ⟨⟨rfl, rfl⟩, Nat.le_of_ble_eq_true rfl, Nat.le_of_ble_eq_true rfl⟩ hl.1 (Nat.le_of_ble_eq_true rfl) ⟨Nat.le_of_ble_eq_true rfl, Nat.le_of_ble_eq_true rfl⟩ rfl dX1_ringIn_31 ?_
    refine lv_istore (lv' := [(8, .int (nI (t * 5 + i))), (0, .ref h), (1, .ref o), (2, .int (nI t)), (3, .int (wantC V t)), (4, .int (resT V t)), (5, .int ((vbC V t i).1)), (6, .int ((vbC V t i).2)), (7, .int (nI i))]) hx hb dX1_ringIn_34 hl (by decide) rfl (fun ls hl => ?_)
    refine lv_iload_n hx hb dX1_ringIn_36 rfl (lv_at hl 4 rfl) ?_
    refine lv_iload hx hb dX1_ringIn_37 (lv_at hl 8 rfl) ?_
    refine lv_ishr hx hb dX1_ringIn_39 ?_
    refine lv_iconst (v := 1) hx hb dX1_ringIn_40 (by decide) ?_
    refine lv_iand hx hb dX1_ringIn_41 ?_
    refine lv_iconst (v := 1) hx hb dX1_ringIn_42 (by decide) ?_
    refine lv_icmp_ne (tgt := 50) hx hb dX1_ringIn_43 (by decide) (fun h_3 => ?_) (fun h_3 => ?_)
    · refine lv_iconst (v := 0) hx hb dX1_ringIn_50 (by decide) ?_
      refine lv_istore (lv' := [(9, .int 0), (8, .int (nI (t * 5 + i))), (0, .ref h), (1, .ref o), (2, .int (nI t)), (3, .int (wantC V t)), (4, .int (resT V t)), (5, .int ((vbC V t i).1)), (6, .int ((vbC V t i).2)), (7, .int (nI i))]) hx hb dX1_ringIn_51 hl (by decide) rfl (fun ls hl => ?_)
      refine lv_aload_n hx hb dX1_ringIn_53 rfl (lv_at hl 3 rfl) ?_
      refine b_get (v := .ref (oa 9)) hx hb hts inX3 hown hK hP 1 0 9 rfl rfl rfl (by decide) q1_45 rfl rfl dX1_ringIn_54 ?_
      refine lv_iload hx hb dX1_ringIn_57 (lv_at hl 1 rfl) ?_
      refine b_iald (v := V 9 (t * 5 + i)) hx hb hK hP 1 10 (t * 5 + i) rfl rfl rfl (by omega) rfl rfl dX1_ringIn_59 ?_
      refine lv_istore (lv' := [(10, .int (V 9 (t * 5 + i))), (9, .int 0), (8, .int (nI (t * 5 + i))), (0, .ref h), (1, .ref o), (2, .int (nI t)), (3, .int (wantC V t)), (4, .int (resT V t)), (5, .int ((vbC V t i).1)), (6, .int ((vbC V t i).2)), (7, .int (nI i))]) hx hb dX1_ringIn_60 hl (by decide) rfl (fun ls hl => ?_)
      refine lv_aload_n hx hb dX1_ringIn_62 rfl (lv_at hl 4 rfl) ?_
      refine b_get (v := .ref (oa 6)) hx hb hts inX3 hown hK hP 1 0 6 rfl rfl rfl (by decide) q1_37 rfl rfl dX1_ringIn_63 ?_
      refine lv_iload_n hx hb dX1_ringIn_66 rfl (lv_at hl 5 rfl) ?_
      refine b_iald (v := V 6 t) hx hb hK hP 1 7 (t) rfl rfl rfl (by omega) rfl rfl dX1_ringIn_67 ?_
      refine lv_if_le (tgt := 82) hx hb dX1_ringIn_68 (by decide) (fun h_4 => ?_) (fun h_4 => ?_)
      · refine lv_iload hx hb dX1_ringIn_82 (lv_at hl 1 rfl) ?_
        refine lv_if_ne (tgt := 98) hx hb dX1_ringIn_84 (by decide) (fun h_5 => ?_) (fun h_5 => ?_)
        · exact absurd h_5 (by decide)
        · refine lv_aload_n hx hb dX1_ringIn_87 rfl (lv_at hl 3 rfl) ?_
          refine b_get (v := .ref (a 0)) hx hb hts inX1 hown hK hP 0 0 0 rfl rfl rfl (by decide) q1_124 rfl rfl dX1_ringIn_88 ?_
          refine lv_iload hx hb dX1_ringIn_91 (lv_at hl 2 rfl) ?_
          refine lv_iconst (v := 2) hx hb dX1_ringIn_93 (by decide) ?_
          refine b_iast (B' := [rB g h a (up2 (riN V t N i) 0 (t * 5 + i) 2), vB g o oa V]) hx hb hK hW 0 1 (t * 5 + i) rfl rfl rfl (by omega) rfl rfl dX1_ringIn_94 (fun H locs hW => ?_)
          have hP := hW.1
          refine lv_goto (tgt := 170) hx hb dX1_ringIn_95 (by decide) ?_
          refine lv_iinc (v := nI (i + 1)) (lv' := [(7, .int (nI (i + 1))), (10, .int (V 9 (t * 5 + i))), (9, .int 0), (8, .int (nI (t * 5 + i))), (0, .ref h), (1, .ref o), (2, .int (nI t)), (3, .int (wantC V t)), (4, .int (resT V t)), (5, .int ((vbC V t i).1)), (6, .int ((vbC V t i).2))]) hx hb dX1_ringIn_170 hl (k := 10) rfl (nI_add i 1) (by decide) rfl (fun ls hl => ?_)
          refine lv_goto (tgt := 22) hx hb dX1_ringIn_173 (by decide) ?_
          have e_6 : (vbC V t (i + 1)).1 = (vbC V t i).1 := by simp only [h_1, h_3, h_4, vbC, bitW, Int32.le_refl, not_true_eq_false, not_false_eq_true, ite_true, ite_false, reduceIte]
          have e_7 : (vbC V t (i + 1)).2 = (vbC V t i).2 := by simp only [h_1, h_3, h_4, vbC, bitW, Int32.le_refl, not_true_eq_false, not_false_eq_true, ite_true, ite_false, reduceIte]
          have e_8 : ([rB g h a (riN V t N (i + 1)), vB g o oa V] : List va_W) = [rB g h a (up2 (riN V t N i) 0 (t * 5 + i) 2), vB g o oa V] := by simp only [h_1, h_3, h_4, riN, rsC, bitW, Int32.le_refl, not_true_eq_false, not_false_eq_true, ite_true, ite_false, reduceIte]
          exact ih_i (by omega)  _ _ _ (by rw [e_8]; exact hW) (by rw [e_6, e_7]; exact lv_sub hl [4, 5, 6, 7, 8, 9, 10, 0] rfl) 
      · refine lv_aload_n hx hb dX1_ringIn_71 rfl (lv_at hl 3 rfl) ?_
        refine b_get (v := .ref (a 0)) hx hb hts inX1 hown hK hP 0 0 0 rfl rfl rfl (by decide) q1_124 rfl rfl dX1_ringIn_72 ?_
        refine lv_iload hx hb dX1_ringIn_75 (lv_at hl 2 rfl) ?_
        refine lv_iconst (v := 1) hx hb dX1_ringIn_77 (by decide) ?_
        refine b_iast (B' := [rB g h a (up2 (riN V t N i) 0 (t * 5 + i) 1), vB g o oa V]) hx hb hK hW 0 1 (t * 5 + i) rfl rfl rfl (by omega) rfl rfl dX1_ringIn_78 (fun H locs hW => ?_)
        have hP := hW.1
        refine lv_goto (tgt := 170) hx hb dX1_ringIn_79 (by decide) ?_
        refine lv_iinc (v := nI (i + 1)) (lv' := [(7, .int (nI (i + 1))), (10, .int (V 9 (t * 5 + i))), (9, .int 0), (8, .int (nI (t * 5 + i))), (0, .ref h), (1, .ref o), (2, .int (nI t)), (3, .int (wantC V t)), (4, .int (resT V t)), (5, .int ((vbC V t i).1)), (6, .int ((vbC V t i).2))]) hx hb dX1_ringIn_170 hl (k := 10) rfl (nI_add i 1) (by decide) rfl (fun ls hl => ?_)
        refine lv_goto (tgt := 22) hx hb dX1_ringIn_173 (by decide) ?_
        have e_9 : (vbC V t (i + 1)).1 = (vbC V t i).1 := by simp only [h_1, h_3, h_4, vbC, bitW, Int32.le_refl, not_true_eq_false, not_false_eq_true, ite_true, ite_false, reduceIte]
        have e_10 : (vbC V t (i + 1)).2 = (vbC V t i).2 := by simp only [h_1, h_3, h_4, vbC, bitW, Int32.le_refl, not_true_eq_false, not_false_eq_true, ite_true, ite_false, reduceIte]
        have e_11 : ([rB g h a (riN V t N (i + 1)), vB g o oa V] : List va_W) = [rB g h a (up2 (riN V t N i) 0 (t * 5 + i) 1), vB g o oa V] := by simp only [h_1, h_3, h_4, riN, rsC, bitW, Int32.le_refl, not_true_eq_false, not_false_eq_true, ite_true, ite_false, reduceIte]
        exact ih_i (by omega)  _ _ _ (by rw [e_11]; exact hW) (by rw [e_9, e_10]; exact lv_sub hl [4, 5, 6, 7, 8, 9, 10, 0] rfl) 
    · refine lv_iconst (v := 1) hx hb dX1_ringIn_46 (by decide) ?_
      refine lv_goto (tgt := 51) hx hb dX1_ringIn_47 (by decide) ?_
      refine lv_istore (lv' := [(9, .int 1), (8, .int (nI (t * 5 + i))), (0, .ref h), (1, .ref o), (2, .int (nI t)), (3, .int (wantC V t)), (4, .int (resT V t)), (5, .int ((vbC V t i).1)), (6, .int ((vbC V t i).2)), (7, .int (nI i))]) hx hb dX1_ringIn_51 hl (by decide) rfl (fun ls hl => ?_)
      refine lv_aload_n hx hb dX1_ringIn_53 rfl (lv_at hl 3 rfl) ?_
      refine b_get (v := .ref (oa 9)) hx hb hts inX3 hown hK hP 1 0 9 rfl rfl rfl (by decide) q1_45 rfl rfl dX1_ringIn_54 ?_
      refine lv_iload hx hb dX1_ringIn_57 (lv_at hl 1 rfl) ?_
      refine b_iald (v := V 9 (t * 5 + i)) hx hb hK hP 1 10 (t * 5 + i) rfl rfl rfl (by omega) rfl rfl dX1_ringIn_59 ?_
      refine lv_istore (lv' := [(10, .int (V 9 (t * 5 + i))), (9, .int 1), (8, .int (nI (t * 5 + i))), (0, .ref h), (1, .ref o), (2, .int (nI t)), (3, .int (wantC V t)), (4, .int (resT V t)), (5, .int ((vbC V t i).1)), (6, .int ((vbC V t i).2)), (7, .int (nI i))]) hx hb dX1_ringIn_60 hl (by decide) rfl (fun ls hl => ?_)
      refine lv_aload_n hx hb dX1_ringIn_62 rfl (lv_at hl 4 rfl) ?_
      refine b_get (v := .ref (oa 6)) hx hb hts inX3 hown hK hP 1 0 6 rfl rfl rfl (by decide) q1_37 rfl rfl dX1_ringIn_63 ?_
      refine lv_iload_n hx hb dX1_ringIn_66 rfl (lv_at hl 5 rfl) ?_
      refine b_iald (v := V 6 t) hx hb hK hP 1 7 (t) rfl rfl rfl (by omega) rfl rfl dX1_ringIn_67 ?_
      refine lv_if_le (tgt := 82) hx hb dX1_ringIn_68 (by decide) (fun h_12 => ?_) (fun h_12 => ?_)
      · refine lv_iload hx hb dX1_ringIn_82 (lv_at hl 1 rfl) ?_
        refine lv_if_ne (tgt := 98) hx hb dX1_ringIn_84 (by decide) (fun h_13 => ?_) (fun h_13 => ?_)
        · refine lv_aload_n hx hb dX1_ringIn_98 rfl (lv_at hl 4 rfl) ?_
          refine b_get (v := .ref (oa 10)) hx hb hts inX3 hown hK hP 1 0 10 rfl rfl rfl (by decide) q1_47 rfl rfl dX1_ringIn_99 ?_
          refine lv_iload hx hb dX1_ringIn_102 (lv_at hl 2 rfl) ?_
          refine b_iald (v := V 10 (t * 5 + i)) hx hb hK hP 1 11 (t * 5 + i) rfl rfl rfl (by omega) rfl rfl dX1_ringIn_104 ?_
          refine lv_bipush (v := 6) hx hb dX1_ringIn_105 (by decide) ?_
          refine lv_icmp_lt (tgt := 121) hx hb dX1_ringIn_107 (by decide) (fun h_14 => ?_) (fun h_14 => ?_)
          · refine lv_iload hx hb dX1_ringIn_121 (lv_at hl 0 rfl) ?_
            refine call_NR (As := [.int (V 9 (t * 5 + i))]) (rest := []) E rfl hK hP (c_X4_ringersFor l g (V 9 (t * 5 + i))) ok_X4_ringersFor rfl hK.2.2.2.2.1 [] rfl ⟨⟨rfl, rfl⟩, Nat.le_of_ble_eq_true rfl, Nat.le_of_ble_eq_true rfl⟩ hl.1 (Nat.le_of_ble_eq_true rfl) ⟨Nat.le_of_ble_eq_true rfl, Nat.le_of_ble_eq_true rfl⟩ rfl dX1_ringIn_123 ?_
            refine lv_iload hx hb dX1_ringIn_126 (lv_at hl 7 rfl) ?_
            refine lv_iload hx hb dX1_ringIn_128 (lv_at hl 9 rfl) ?_
            refine lv_isub hx hb dX1_ringIn_130 ?_
            refine lv_icmp_le (tgt := 145) hx hb dX1_ringIn_131 (by decide) (fun h_15 => ?_) (fun h_15 => ?_)
            · refine lv_aload_n hx hb dX1_ringIn_145 rfl (lv_at hl 3 rfl) ?_
              refine b_get (v := .ref (a 0)) hx hb hts inX1 hown hK hP 0 0 0 rfl rfl rfl (by decide) q1_124 rfl rfl dX1_ringIn_146 ?_
              refine lv_iload hx hb dX1_ringIn_149 (lv_at hl 2 rfl) ?_
              refine lv_iconst (v := 0) hx hb dX1_ringIn_151 (by decide) ?_
              refine b_iast (B' := [rB g h a (up2 (riN V t N i) 0 (t * 5 + i) 0), vB g o oa V]) hx hb hK hW 0 1 (t * 5 + i) rfl rfl rfl (by omega) rfl rfl dX1_ringIn_152 (fun H locs hW => ?_)
              have hP := hW.1
              refine lv_iload hx hb dX1_ringIn_153 (lv_at hl 8 rfl) ?_
              refine lv_iload hx hb dX1_ringIn_155 (lv_at hl 0 rfl) ?_
              refine lv_iadd hx hb dX1_ringIn_157 ?_
              refine lv_istore (lv' := [(5, .int (((vbC V t i).1) + (V 9 (t * 5 + i)))), (10, .int (V 9 (t * 5 + i))), (9, .int 1), (8, .int (nI (t * 5 + i))), (0, .ref h), (1, .ref o), (2, .int (nI t)), (3, .int (wantC V t)), (4, .int (resT V t)), (6, .int ((vbC V t i).2)), (7, .int (nI i))]) hx hb dX1_ringIn_158 hl (by decide) rfl (fun ls hl => ?_)
              refine lv_iload hx hb dX1_ringIn_160 (lv_at hl 9 rfl) ?_
              refine lv_iload hx hb dX1_ringIn_162 (lv_at hl 1 rfl) ?_
              refine call_NR (As := [.int (V 9 (t * 5 + i))]) (rest := [.int ((vbC V t i).2)]) E rfl hK hP (c_X4_ringersFor l g (V 9 (t * 5 + i))) ok_X4_ringersFor rfl hK.2.2.2.2.1 [] rfl ⟨⟨rfl, rfl⟩, Nat.le_of_ble_eq_true rfl, Nat.le_of_ble_eq_true rfl⟩ hl.1 (Nat.le_of_ble_eq_true rfl) ⟨Nat.le_of_ble_eq_true rfl, Nat.le_of_ble_eq_true rfl⟩ rfl dX1_ringIn_164 ?_
              refine lv_iadd hx hb dX1_ringIn_167 ?_
              refine lv_istore (lv' := [(6, .int (((vbC V t i).2) + (rF (V 9 (t * 5 + i))))), (5, .int (((vbC V t i).1) + (V 9 (t * 5 + i)))), (10, .int (V 9 (t * 5 + i))), (9, .int 1), (8, .int (nI (t * 5 + i))), (0, .ref h), (1, .ref o), (2, .int (nI t)), (3, .int (wantC V t)), (4, .int (resT V t)), (7, .int (nI i))]) hx hb dX1_ringIn_168 hl (by decide) rfl (fun ls hl => ?_)
              refine lv_iinc (v := nI (i + 1)) (lv' := [(7, .int (nI (i + 1))), (6, .int (((vbC V t i).2) + (rF (V 9 (t * 5 + i))))), (5, .int (((vbC V t i).1) + (V 9 (t * 5 + i)))), (10, .int (V 9 (t * 5 + i))), (9, .int 1), (8, .int (nI (t * 5 + i))), (0, .ref h), (1, .ref o), (2, .int (nI t)), (3, .int (wantC V t)), (4, .int (resT V t))]) hx hb dX1_ringIn_170 hl (k := 10) rfl (nI_add i 1) (by decide) rfl (fun ls hl => ?_)
              refine lv_goto (tgt := 22) hx hb dX1_ringIn_173 (by decide) ?_
              have e_16 : (vbC V t (i + 1)).1 = ((vbC V t i).1) + (V 9 (t * 5 + i)) := by simp only [h_1, h_3, h_12, h_14, h_15, vbC, bitW, Int32.le_refl, not_true_eq_false, not_false_eq_true, ite_true, ite_false, reduceIte]
              have e_17 : (vbC V t (i + 1)).2 = ((vbC V t i).2) + (rF (V 9 (t * 5 + i))) := by simp only [h_1, h_3, h_12, h_14, h_15, vbC, bitW, Int32.le_refl, not_true_eq_false, not_false_eq_true, ite_true, ite_false, reduceIte]
              have e_18 : ([rB g h a (riN V t N (i + 1)), vB g o oa V] : List va_W) = [rB g h a (up2 (riN V t N i) 0 (t * 5 + i) 0), vB g o oa V] := by simp only [h_1, h_3, h_12, h_14, h_15, riN, rsC, bitW, Int32.le_refl, not_true_eq_false, not_false_eq_true, ite_true, ite_false, reduceIte]
              exact ih_i (by omega)  _ _ _ (by rw [e_18]; exact hW) (by rw [e_16, e_17]; exact lv_sub hl [6, 7, 8, 9, 10, 2, 1, 0] rfl) 
            · refine lv_aload_n hx hb dX1_ringIn_134 rfl (lv_at hl 3 rfl) ?_
              refine b_get (v := .ref (a 0)) hx hb hts inX1 hown hK hP 0 0 0 rfl rfl rfl (by decide) q1_124 rfl rfl dX1_ringIn_135 ?_
              refine lv_iload hx hb dX1_ringIn_138 (lv_at hl 2 rfl) ?_
              refine lv_iconst (v := 4) hx hb dX1_ringIn_140 (by decide) ?_
              refine b_iast (B' := [rB g h a (up2 (riN V t N i) 0 (t * 5 + i) 4), vB g o oa V]) hx hb hK hW 0 1 (t * 5 + i) rfl rfl rfl (by omega) rfl rfl dX1_ringIn_141 (fun H locs hW => ?_)
              have hP := hW.1
              refine lv_goto (tgt := 170) hx hb dX1_ringIn_142 (by decide) ?_
              refine lv_iinc (v := nI (i + 1)) (lv' := [(7, .int (nI (i + 1))), (10, .int (V 9 (t * 5 + i))), (9, .int 1), (8, .int (nI (t * 5 + i))), (0, .ref h), (1, .ref o), (2, .int (nI t)), (3, .int (wantC V t)), (4, .int (resT V t)), (5, .int ((vbC V t i).1)), (6, .int ((vbC V t i).2))]) hx hb dX1_ringIn_170 hl (k := 10) rfl (nI_add i 1) (by decide) rfl (fun ls hl => ?_)
              refine lv_goto (tgt := 22) hx hb dX1_ringIn_173 (by decide) ?_
              have e_19 : (vbC V t (i + 1)).1 = (vbC V t i).1 := by simp only [h_1, h_3, h_12, h_14, h_15, vbC, bitW, Int32.le_refl, not_true_eq_false, not_false_eq_true, ite_true, ite_false, reduceIte]
              have e_20 : (vbC V t (i + 1)).2 = (vbC V t i).2 := by simp only [h_1, h_3, h_12, h_14, h_15, vbC, bitW, Int32.le_refl, not_true_eq_false, not_false_eq_true, ite_true, ite_false, reduceIte]
              have e_21 : ([rB g h a (riN V t N (i + 1)), vB g o oa V] : List va_W) = [rB g h a (up2 (riN V t N i) 0 (t * 5 + i) 4), vB g o oa V] := by simp only [h_1, h_3, h_12, h_14, h_15, riN, rsC, bitW, Int32.le_refl, not_true_eq_false, not_false_eq_true, ite_true, ite_false, reduceIte]
              exact ih_i (by omega)  _ _ _ (by rw [e_21]; exact hW) (by rw [e_19, e_20]; exact lv_sub hl [4, 5, 6, 7, 8, 9, 10, 0] rfl) 
          · refine lv_aload_n hx hb dX1_ringIn_110 rfl (lv_at hl 3 rfl) ?_
            refine b_get (v := .ref (a 0)) hx hb hts inX1 hown hK hP 0 0 0 rfl rfl rfl (by decide) q1_124 rfl rfl dX1_ringIn_111 ?_
            refine lv_iload hx hb dX1_ringIn_114 (lv_at hl 2 rfl) ?_
            refine lv_iconst (v := 3) hx hb dX1_ringIn_116 (by decide) ?_
            refine b_iast (B' := [rB g h a (up2 (riN V t N i) 0 (t * 5 + i) 3), vB g o oa V]) hx hb hK hW 0 1 (t * 5 + i) rfl rfl rfl (by omega) rfl rfl dX1_ringIn_117 (fun H locs hW => ?_)
            have hP := hW.1
            refine lv_goto (tgt := 170) hx hb dX1_ringIn_118 (by decide) ?_
            refine lv_iinc (v := nI (i + 1)) (lv' := [(7, .int (nI (i + 1))), (10, .int (V 9 (t * 5 + i))), (9, .int 1), (8, .int (nI (t * 5 + i))), (0, .ref h), (1, .ref o), (2, .int (nI t)), (3, .int (wantC V t)), (4, .int (resT V t)), (5, .int ((vbC V t i).1)), (6, .int ((vbC V t i).2))]) hx hb dX1_ringIn_170 hl (k := 10) rfl (nI_add i 1) (by decide) rfl (fun ls hl => ?_)
            refine lv_goto (tgt := 22) hx hb dX1_ringIn_173 (by decide) ?_
            have e_22 : (vbC V t (i + 1)).1 = (vbC V t i).1 := by simp only [h_1, h_3, h_12, h_14, vbC, bitW, Int32.le_refl, not_true_eq_false, not_false_eq_true, ite_true, ite_false, reduceIte]
            have e_23 : (vbC V t (i + 1)).2 = (vbC V t i).2 := by simp only [h_1, h_3, h_12, h_14, vbC, bitW, Int32.le_refl, not_true_eq_false, not_false_eq_true, ite_true, ite_false, reduceIte]
            have e_24 : ([rB g h a (riN V t N (i + 1)), vB g o oa V] : List va_W) = [rB g h a (up2 (riN V t N i) 0 (t * 5 + i) 3), vB g o oa V] := by simp only [h_1, h_3, h_12, h_14, riN, rsC, bitW, Int32.le_refl, not_true_eq_false, not_false_eq_true, ite_true, ite_false, reduceIte]
            exact ih_i (by omega)  _ _ _ (by rw [e_24]; exact hW) (by rw [e_22, e_23]; exact lv_sub hl [4, 5, 6, 7, 8, 9, 10, 0] rfl) 
        · exact absurd h_13 (by decide)
      · refine lv_aload_n hx hb dX1_ringIn_71 rfl (lv_at hl 3 rfl) ?_
        refine b_get (v := .ref (a 0)) hx hb hts inX1 hown hK hP 0 0 0 rfl rfl rfl (by decide) q1_124 rfl rfl dX1_ringIn_72 ?_
        refine lv_iload hx hb dX1_ringIn_75 (lv_at hl 2 rfl) ?_
        refine lv_iconst (v := 1) hx hb dX1_ringIn_77 (by decide) ?_
        refine b_iast (B' := [rB g h a (up2 (riN V t N i) 0 (t * 5 + i) 1), vB g o oa V]) hx hb hK hW 0 1 (t * 5 + i) rfl rfl rfl (by omega) rfl rfl dX1_ringIn_78 (fun H locs hW => ?_)
        have hP := hW.1
        refine lv_goto (tgt := 170) hx hb dX1_ringIn_79 (by decide) ?_
        refine lv_iinc (v := nI (i + 1)) (lv' := [(7, .int (nI (i + 1))), (10, .int (V 9 (t * 5 + i))), (9, .int 1), (8, .int (nI (t * 5 + i))), (0, .ref h), (1, .ref o), (2, .int (nI t)), (3, .int (wantC V t)), (4, .int (resT V t)), (5, .int ((vbC V t i).1)), (6, .int ((vbC V t i).2))]) hx hb dX1_ringIn_170 hl (k := 10) rfl (nI_add i 1) (by decide) rfl (fun ls hl => ?_)
        refine lv_goto (tgt := 22) hx hb dX1_ringIn_173 (by decide) ?_
        have e_25 : (vbC V t (i + 1)).1 = (vbC V t i).1 := by simp only [h_1, h_3, h_12, vbC, bitW, Int32.le_refl, not_true_eq_false, not_false_eq_true, ite_true, ite_false, reduceIte]
        have e_26 : (vbC V t (i + 1)).2 = (vbC V t i).2 := by simp only [h_1, h_3, h_12, vbC, bitW, Int32.le_refl, not_true_eq_false, not_false_eq_true, ite_true, ite_false, reduceIte]
        have e_27 : ([rB g h a (riN V t N (i + 1)), vB g o oa V] : List va_W) = [rB g h a (up2 (riN V t N i) 0 (t * 5 + i) 1), vB g o oa V] := by simp only [h_1, h_3, h_12, riN, rsC, bitW, Int32.le_refl, not_true_eq_false, not_false_eq_true, ite_true, ite_false, reduceIte]
        exact ih_i (by omega)  _ _ _ (by rw [e_27]; exact hW) (by rw [e_25, e_26]; exact lv_sub hl [4, 5, 6, 7, 8, 9, 10, 0] rfl) 
end
section
set_option maxHeartbeats 4000000 in
set_option maxRecDepth 100000 in
theorem c_X1_foresee (l : Launch) (g : gx) (h : Nat) (a : Nat → Nat) (N : sV) (o : Nat) (oa : Nat → Nat) (V : sV)  : cU (S := Unit) l g yX1_foresee cX1_foresee 4 none ({ frames := 3, cells := 0, slots := 0, locals := 74 } : Room) [.ref h, .ref o] [rB g h a N, vB g o oa V] (fun _ => none) (fun _ => True) (fun _ => [rB g h a (forN V N), vB g o oa V]) := by
  refine cU.mk (by decide +kernel) (Nat.le_of_ble_eq_true rfl) ?_
  intro p e s m below meth c ls E hK hW hl
  obtain ⟨hx, hb, hr, hml, hts, hown, hlocks, hin⟩ := id E
  have hown : s.vm.findClass RX1 = some m.cls := hown
  have hP := hW.1
  have hl : lv_has ls 4 [(0, .ref h), (1, .ref o)] := hl
  refine lv_aload_n hx hb dX1_foresee_0 rfl (lv_at hl 0 rfl) ?_
  refine lv_bipush (v := -5) hx hb dX1_foresee_1 (by decide) ?_
  refine b_put (B' := [rB g h a (up2 N 4 0 (-5)), vB g o oa V]) (v := .int (-5)) hx hb hts inX1 tyX1_ok nmX1 hown hK hW 0 0 4 rfl rfl rfl (by decide) q1_134 rfl rfl rfl rfl (Nat.le_of_ble_eq_true rfl) rfl dX1_foresee_3 (fun H locs hW => ?_)
  have hP := hW.1
  refine lv_iconst (v := 0) hx hb dX1_foresee_6 (by decide) ?_
  refine lv_istore_n (lv' := [(2, .int 0), (0, .ref h), (1, .ref o)]) hx hb dX1_foresee_7 rfl hl (by decide) rfl (fun ls hl => ?_)
  refine lv_iconst (v := 0) hx hb dX1_foresee_8 (by decide) ?_
  refine lv_istore_n (lv' := [(3, .int 0), (2, .int 0), (0, .ref h), (1, .ref o)]) hx hb dX1_foresee_9 rfl hl (by decide) rfl (fun ls hl => ?_)
  refine loopN (fun i : Nat => ∀ (H : Heap) (locs : List Loc) (ls : Array Slot), wd g (fun q => q ∈ adr [rB g h a N, vB g o oa V]) s.heap [rB g h a (f1N V N i), vB g o oa V] H locs → lv_has ls 4 [(0, .ref h), (1, .ref o), (2, .int (moC V i)), (3, .int (nI i))] → W p l e _ s m _ below meth c H locs 0 0 _ (F0 m 10 ls [])) (6) (fun i hi ih_i => ?_) (0) (by omega)  H locs ls hW (lv_sub hl [2, 3, 1, 0] rfl) 
  intro  H locs ls hW hl 
  have hP := hW.1
  refine lv_iload_n hx hb dX1_foresee_10 rfl (lv_at hl 3 rfl) ?_
  refine lv_bipush (v := 6) hx hb dX1_foresee_11 (by decide) ?_
  refine b_ge (tgt := 50) (i) (6) hx hb rfl rfl (by omega) (by omega) dX1_foresee_13 (by decide) (fun h_1 => ?_) (fun h_1 => ?_)
  · obtain rfl : i = 6 := by omega
    obtain ⟨U1, hU1⟩ : ∃ z, z = (f1N V N 6) := ⟨_, rfl⟩
    rw [← hU1] at hW
    have hP := hW.1
    refine lv_iconst (v := 0) hx hb dX1_foresee_50 (by decide) ?_
    refine lv_istore_n (lv' := [(3, .int 0), (0, .ref h), (1, .ref o), (2, .int (moC V 6))]) hx hb dX1_foresee_51 rfl hl (by decide) rfl (fun ls hl => ?_)
    refine loopN (fun j : Nat => ∀ (H : Heap) (locs : List Loc) (ls : Array Slot), wd g (fun q => q ∈ adr [rB g h a N, vB g o oa V]) s.heap [rB g h a (f2N V U1 j), vB g o oa V] H locs → lv_has ls 4 [(0, .ref h), (1, .ref o), (3, .int (nI j))] → W p l e _ s m _ below meth c H locs 0 0 _ (F0 m 52 ls [])) (6) (fun j hj ih_j => ?_) (0) (by omega)  H locs ls hW (lv_sub hl [1, 2, 0] rfl) 
    intro  H locs ls hW hl 
    have hP := hW.1
    refine lv_iload_n hx hb dX1_foresee_52 rfl (lv_at hl 2 rfl) ?_
    refine lv_bipush (v := 6) hx hb dX1_foresee_53 (by decide) ?_
    refine b_ge (tgt := 76) (j) (6) hx hb rfl rfl (by omega) (by omega) dX1_foresee_55 (by decide) (fun h_2 => ?_) (fun h_2 => ?_)
    · obtain rfl : j = 6 := by omega
      obtain ⟨U_3, hU_3⟩ : ∃ z, z = (f2N V U1 6) := ⟨_, rfl⟩
      rw [← hU_3] at hW
      have hP := hW.1
      exact uV_ret () hW hx hb hr hlocks dX1_foresee_76 trivial (by rw [hU_3, hU1]) (adr2 (L := [[h, a 0, a 1, a 2, a 3], [o, oa 0, oa 1, oa 2, oa 3, oa 4, oa 5, oa 6, oa 7, oa 8, oa 9, oa 10, oa 11]]) rfl rfl)
    · refine lv_aload_n hx hb dX1_foresee_58 rfl (lv_at hl 0 rfl) ?_
      refine b_get (v := .ref (a 3)) hx hb hts inX1 hown hK hP 0 0 3 rfl rfl rfl (by decide) q1_131 rfl rfl dX1_foresee_59 ?_
      refine lv_iload_n hx hb dX1_foresee_62 rfl (lv_at hl 2 rfl) ?_
      refine lv_aload_n hx hb dX1_foresee_63 rfl (lv_at hl 0 rfl) ?_
      refine lv_aload_n hx hb dX1_foresee_64 rfl (lv_at hl 1 rfl) ?_
      refine lv_iload_n hx hb dX1_foresee_65 rfl (lv_at hl 2 rfl) ?_
      refine call_VR (As := [.ref o, .int (nI j)]) (rest := [.int (nI j), .ref (a 3)]) E rfl hK hP (c_X1_winnerIn l g h a (f2N V U1 j) o oa V j (by omega)) ok_X1_winnerIn rfl q2_80 [0, 1] rfl (b_recv hK hP 0 0 rfl rfl rfl rfl) ⟨⟨rfl, rfl⟩, Nat.le_of_ble_eq_true rfl, Nat.le_of_ble_eq_true rfl⟩ hl.1 (Nat.le_of_ble_eq_true rfl) ⟨Nat.le_of_ble_eq_true rfl, Nat.le_of_ble_eq_true rfl⟩ rfl dX1_foresee_66 ?_
      refine b_iast (B' := [rB g h a (up2 (f2N V U1 j) 3 j ((wmF V ((f2N V U1 j) 1) j 6).2)), vB g o oa V]) hx hb hK hW 0 4 (j) rfl rfl rfl (by omega) rfl rfl dX1_foresee_69 (fun H locs hW => ?_)
      have hP := hW.1
      refine lv_iinc (v := nI (j + 1)) (lv' := [(3, .int (nI (j + 1))), (0, .ref h), (1, .ref o)]) hx hb dX1_foresee_70 hl (k := 2) rfl (nI_add j 1) (by decide) rfl (fun ls hl => ?_)
      refine lv_goto (tgt := 52) hx hb dX1_foresee_73 (by decide) ?_
      have e_4 : ([rB g h a (f2N V U1 (j + 1)), vB g o oa V] : List va_W) = [rB g h a (up2 (f2N V U1 j) 3 j ((wmF V ((f2N V U1 j) 1) j 6).2)), vB g o oa V] := rfl
      exact ih_j (by omega)  _ _ _ (by rw [e_4]; exact hW) (lv_sub hl [1, 2, 0] rfl) 
  · refine lv_aload_n hx hb dX1_foresee_16 rfl (lv_at hl 0 rfl) ?_
    refine lv_aload_n hx hb dX1_foresee_17 rfl (lv_at hl 1 rfl) ?_
    refine lv_iload_n hx hb dX1_foresee_18 rfl (lv_at hl 3 rfl) ?_
    refine call_VU (As := [.ref o, .int (nI i)]) (rest := []) E rfl hK hW (c_X1_ringIn l g h a (f1N V N i) o oa V i (by omega)) ok_X1_ringIn rfl q2_66 [0, 1] rfl (by decide) (b_recv hK hP 0 0 rfl rfl rfl rfl) ⟨⟨rfl, rfl⟩, Nat.le_of_ble_eq_true rfl, Nat.le_of_ble_eq_true rfl⟩ hl.1 (Nat.le_of_ble_eq_true rfl) ⟨Nat.le_of_ble_eq_true rfl, Nat.le_of_ble_eq_true rfl⟩ rfl dX1_foresee_19 (fun _u H locs _ hW => ?_)
    have hW : wd g _ s.heap [rB g h a (up2 (up2 (riN V i (f1N V N i) 5) 1 i (vbC V i 5).1) 2 i (vbC V i 5).2), vB g o oa V] H locs := hW
    have hP := hW.1
    obtain ⟨U_5, hU_5⟩ : ∃ z, z = (riN V i (f1N V N i) 5) := ⟨_, rfl⟩
    rw [← hU_5] at hW
    have hP := hW.1
    refine lv_aload_n hx hb dX1_foresee_22 rfl (lv_at hl 0 rfl) ?_
    refine b_get (v := .ref (a 1)) hx hb hts inX1 hown hK hP 0 0 1 rfl rfl rfl (by decide) q1_127 rfl rfl dX1_foresee_23 ?_
    refine lv_iload_n hx hb dX1_foresee_26 rfl (lv_at hl 3 rfl) ?_
    refine b_iald (v := (vbC V i 5).1) hx hb hK hP 0 2 (i) rfl rfl rfl (by omega) rfl (up2_eq U_5 1 i (vbC V i 5).1) dX1_foresee_27 ?_
    refine lv_iload_n hx hb dX1_foresee_28 rfl (lv_at hl 2 rfl) ?_
    refine lv_icmp_le (tgt := 44) hx hb dX1_foresee_29 (by decide) (fun h_6 => ?_) (fun h_6 => ?_)
    · refine lv_iinc (v := nI (i + 1)) (lv' := [(3, .int (nI (i + 1))), (0, .ref h), (1, .ref o), (2, .int (moC V i))]) hx hb dX1_foresee_44 hl (k := 3) rfl (nI_add i 1) (by decide) rfl (fun ls hl => ?_)
      refine lv_goto (tgt := 10) hx hb dX1_foresee_47 (by decide) ?_
      have e_7 : moC V (i + 1) = moC V i := by simp only [h_1, h_6, moC, Int32.le_refl, not_true_eq_false, not_false_eq_true, ite_true, ite_false, reduceIte]
      have e_8 : ([rB g h a (f1N V N (i + 1)), vB g o oa V] : List va_W) = [rB g h a (up2 (up2 U_5 1 i (vbC V i 5).1) 2 i (vbC V i 5).2), vB g o oa V] := by rw [hU_5]; simp only [h_1, h_6, f1N, rinN, Int32.le_refl, not_true_eq_false, not_false_eq_true, ite_true, ite_false, reduceIte]
      exact ih_i (by omega)  _ _ _ (by rw [e_8]; exact hW) (by rw [e_7]; exact lv_sub hl [1, 2, 3, 0] rfl) 
    · refine lv_aload_n hx hb dX1_foresee_32 rfl (lv_at hl 0 rfl) ?_
      refine b_get (v := .ref (a 1)) hx hb hts inX1 hown hK hP 0 0 1 rfl rfl rfl (by decide) q1_127 rfl rfl dX1_foresee_33 ?_
      refine lv_iload_n hx hb dX1_foresee_36 rfl (lv_at hl 3 rfl) ?_
      refine b_iald (v := (vbC V i 5).1) hx hb hK hP 0 2 (i) rfl rfl rfl (by omega) rfl (up2_eq U_5 1 i (vbC V i 5).1) dX1_foresee_37 ?_
      refine lv_istore_n (lv' := [(2, .int ((vbC V i 5).1)), (0, .ref h), (1, .ref o), (3, .int (nI i))]) hx hb dX1_foresee_38 rfl hl (by decide) rfl (fun ls hl => ?_)
      refine lv_aload_n hx hb dX1_foresee_39 rfl (lv_at hl 1 rfl) ?_
      refine lv_iload_n hx hb dX1_foresee_40 rfl (lv_at hl 3 rfl) ?_
      refine b_put (B' := [rB g h a (up2 (up2 (up2 U_5 1 i (vbC V i 5).1) 2 i (vbC V i 5).2) 4 0 (nI i)), vB g o oa V]) (v := .int (nI i)) hx hb hts inX1 tyX1_ok nmX1 hown hK hW 0 0 4 rfl rfl rfl (by decide) q1_134 rfl rfl rfl rfl (Nat.le_of_ble_eq_true rfl) rfl dX1_foresee_41 (fun H locs hW => ?_)
      have hP := hW.1
      refine lv_iinc (v := nI (i + 1)) (lv' := [(3, .int (nI (i + 1))), (2, .int ((vbC V i 5).1)), (0, .ref h), (1, .ref o)]) hx hb dX1_foresee_44 hl (k := 3) rfl (nI_add i 1) (by decide) rfl (fun ls hl => ?_)
      refine lv_goto (tgt := 10) hx hb dX1_foresee_47 (by decide) ?_
      have e_9 : moC V (i + 1) = (vbC V i 5).1 := by simp only [h_1, h_6, moC, Int32.le_refl, not_true_eq_false, not_false_eq_true, ite_true, ite_false, reduceIte]
      have e_10 : ([rB g h a (f1N V N (i + 1)), vB g o oa V] : List va_W) = [rB g h a (up2 (up2 (up2 U_5 1 i (vbC V i 5).1) 2 i (vbC V i 5).2) 4 0 (nI i)), vB g o oa V] := by rw [hU_5]; simp only [h_1, h_6, f1N, rinN, Int32.le_refl, not_true_eq_false, not_false_eq_true, ite_true, ite_false, reduceIte]
      exact ih_i (by omega)  _ _ _ (by rw [e_10]; exact hW) (by rw [e_9]; exact lv_sub hl [2, 3, 1, 0] rfl) 
end
section
set_option maxHeartbeats 4000000 in
set_option maxRecDepth 100000 in
theorem c_X0_placeOf (l : Launch) (g : gx) (h q : Nat) (hh : Nat → Nat) (o n k : Nat) (ho : o < 5) (hk : k < 10)  : cR l g yX0_placeOf cX0_placeOf 2 (some .int) ({ frames := 0, cells := 0, slots := 0, locals := 0 } : Room) [.ref h, .int (nI k)] [hB g h q hh o n] (.int (nI ((o + k) % 5))) := by
  refine cR.mk (by decide +kernel) (Nat.le_of_ble_eq_true rfl) ?_
  intro p e s m below meth c ls E hK hP hl
  obtain ⟨hx, hb, hr, hml, hts, hown, hlocks, hin⟩ := id E
  have hown : s.vm.findClass RX0 = some m.cls := hown
  have hl : lv_has ls 2 [(0, .ref h), (1, .int (nI k))] := hl
  refine lv_aload_n hx hb dX0_placeOf_0 rfl (lv_at hl 0 rfl) ?_
  refine b_get (v := .int (nI o)) hx hb hts inX0 hown hK hP 0 0 1 rfl rfl rfl (by decide) q1_108 rfl rfl dX0_placeOf_1 ?_
  refine lv_iload_n hx hb dX0_placeOf_4 rfl (lv_at hl 1 rfl) ?_
  refine lv_iadd hx hb dX0_placeOf_5 ?_
  refine b_top (y := nI (o + k)) (nI_add o k) ?_
  refine lv_iconst (v := 5) hx hb dX0_placeOf_6 (by decide) ?_
  refine lv_irem hx hb dX0_placeOf_7 (by decide) ?_
  refine b_top (y := nI ((o + k) % 5)) (pk_rem (a := o + k) (d := 5) (by omega) (by omega) (by omega)) ?_
  exact rI_ret hx hb hr hlocks dX0_placeOf_8 (rfl)

set_option maxHeartbeats 4000000 in
set_option maxRecDepth 100000 in
theorem c_X0_record (l : Launch) (g : gx) (h q : Nat) (hh : Nat → Nat) (o n : Nat) (ho : o < 5) (hn : n ≤ 5) (aa : Nat → Nat → Nat) (HV : Nat → sV) (v : Nat) (va : Nat → Nat) (V : sV)  : cU (S := Unit) l g yX0_record cX0_record 3 none ({ frames := 3, cells := 0, slots := 0, locals := 102 } : Room) [.ref h, .ref v] [hB g h q hh o n, vB g v va V, vB g (hh 0) (aa 0) (HV 0), vB g (hh 1) (aa 1) (HV 1), vB g (hh 2) (aa 2) (HV 2), vB g (hh 3) (aa 3) (HV 3), vB g (hh 4) (aa 4) (HV 4)] (fun _ => none) (fun _ => True) (fun _ => [hB g h q hh (recO o n) (recS n), vB g v va V, vB g (hh 0) (aa 0) (recH o n HV V 0), vB g (hh 1) (aa 1) (recH o n HV V 1), vB g (hh 2) (aa 2) (recH o n HV V 2), vB g (hh 3) (aa 3) (recH o n HV V 3), vB g (hh 4) (aa 4) (recH o n HV V 4)]) := by
  refine cU.mk (by decide +kernel) (Nat.le_of_ble_eq_true rfl) ?_
  intro p e s m below meth c ls E hK hW hl
  obtain ⟨hx, hb, hr, hml, hts, hown, hlocks, hin⟩ := id E
  have hown : s.vm.findClass RX0 = some m.cls := hown
  have hP := hW.1
  have hl : lv_has ls 3 [(0, .ref h), (1, .ref v)] := hl
  refine lv_aload_n hx hb dX0_record_0 rfl (lv_at hl 0 rfl) ?_
  refine b_get (v := .ref q) hx hb hts inX0 hown hK hP 0 0 0 rfl rfl rfl (by decide) q1_107 rfl rfl dX0_record_1 ?_
  refine lv_aload_n hx hb dX0_record_4 rfl (lv_at hl 0 rfl) ?_
  refine lv_aload_n hx hb dX0_record_5 rfl (lv_at hl 0 rfl) ?_
  refine b_get (v := .int (nI n)) hx hb hts inX0 hown hK hP 0 0 2 rfl rfl rfl (by decide) q1_109 rfl rfl dX0_record_6 ?_
  refine call_VR (As := [.int (nI n)]) (rest := [.ref q]) E rfl hK hP (c_X0_placeOf l g h q hh o n n (by omega) (by omega)) ok_X0_placeOf rfl q1_195 [0] rfl (b_recv hK hP 0 0 rfl rfl rfl rfl) ⟨⟨rfl, rfl⟩, Nat.le_of_ble_eq_true rfl, Nat.le_of_ble_eq_true rfl⟩ hl.1 (Nat.le_of_ble_eq_true rfl) ⟨Nat.le_of_ble_eq_true rfl, Nat.le_of_ble_eq_true rfl⟩ rfl dX0_record_9 ?_
  refine b_aald (v := hh ((o + n) % 5)) hx hb hK hP 0 1 ((o + n) % 5) rfl rfl rfl (by omega) rfl rfl dX0_record_12 ?_
  obtain ⟨j, hj⟩ : ∃ j, j = (o + n) % 5 := ⟨_, rfl⟩
  rw [← hj]
  have hj5 : j < 5 := by omega
  rcases (show j = 0 ∨ j = 1 ∨ j = 2 ∨ j = 3 ∨ j = 4 by omega) with rfl | rfl | rfl | rfl | rfl
  · refine lv_astore_n (lv' := [(2, .ref (hh 0)), (0, .ref h), (1, .ref v)]) hx hb dX0_record_13 rfl hl (by decide) rfl (fun ls hl => ?_)
    refine lv_aload_n hx hb dX0_record_14 rfl (lv_at hl 0 rfl) ?_
    refine lv_ifnull hx hb dX0_record_15 ?_
    refine lv_aload_n hx hb dX0_record_18 rfl (lv_at hl 0 rfl) ?_
    refine lv_aload_n hx hb dX0_record_19 rfl (lv_at hl 2 rfl) ?_
    refine call_VU (As := [.ref v]) (rest := []) E rfl hK hW (c_X3_copyFrom l g (hh 0) (aa 0) (HV 0) v va V) ok_X3_copyFrom rfl q1_199 [2, 1] rfl (by decide) (b_recv hK hP 2 0 rfl rfl rfl rfl) ⟨⟨rfl, rfl⟩, Nat.le_of_ble_eq_true rfl, Nat.le_of_ble_eq_true rfl⟩ hl.1 (Nat.le_of_ble_eq_true rfl) ⟨Nat.le_of_ble_eq_true rfl, Nat.le_of_ble_eq_true rfl⟩ rfl dX0_record_20 (fun _u H locs _ hW => ?_)
    have hW : wd g _ s.heap [hB g h q hh o n, vB g v va V, vB g (hh 0) (aa 0) V, vB g (hh 1) (aa 1) (HV 1), vB g (hh 2) (aa 2) (HV 2), vB g (hh 3) (aa 3) (HV 3), vB g (hh 4) (aa 4) (HV 4)] H locs := hW
    have hP := hW.1
    refine lv_aload_n hx hb dX0_record_23 rfl (lv_at hl 1 rfl) ?_
    refine b_get (v := .int (nI n)) hx hb hts inX0 hown hK hP 0 0 2 rfl rfl rfl (by decide) q1_109 rfl rfl dX0_record_24 ?_
    refine lv_iconst (v := 5) hx hb dX0_record_27 (by decide) ?_
    refine b_ge (tgt := 44) (n) (5) hx hb rfl rfl (by omega) (by omega) dX0_record_28 (by decide) (fun h_1 => ?_) (fun h_1 => ?_)
    · refine lv_aload_n hx hb dX0_record_44 rfl (lv_at hl 1 rfl) ?_
      refine lv_aload_n hx hb dX0_record_45 rfl (lv_at hl 1 rfl) ?_
      refine lv_iconst (v := 1) hx hb dX0_record_46 (by decide) ?_
      refine call_VR (As := [.int 1]) (rest := [.ref h]) E rfl hK hP (c_X0_placeOf l g h q hh o n 1 (by omega) (by omega)) ok_X0_placeOf rfl q1_195 [0] rfl (b_recv hK hP 0 0 rfl rfl rfl rfl) ⟨⟨rfl, rfl⟩, Nat.le_of_ble_eq_true rfl, Nat.le_of_ble_eq_true rfl⟩ hl.1 (Nat.le_of_ble_eq_true rfl) ⟨Nat.le_of_ble_eq_true rfl, Nat.le_of_ble_eq_true rfl⟩ rfl dX0_record_47 ?_
      refine b_put (B' := [hB g h q hh ((o + 1) % 5) n, vB g v va V, vB g (hh 0) (aa 0) V, vB g (hh 1) (aa 1) (HV 1), vB g (hh 2) (aa 2) (HV 2), vB g (hh 3) (aa 3) (HV 3), vB g (hh 4) (aa 4) (HV 4)]) (v := .int (nI ((o + 1) % 5))) hx hb hts inX0 tyX0_ok nmX0 hown hK hW 0 0 1 rfl rfl rfl (by decide) q1_108 rfl rfl rfl rfl (Nat.le_of_ble_eq_true rfl) rfl dX0_record_50 (fun H locs hW => ?_)
      have hP := hW.1
      exact uV_ret () hW hx hb hr hlocks dX0_record_53 trivial (by simp only [recO, recS, recH, ← hj]; simp only [h_1, ite_true, ite_false, reduceIte, Nat.not_lt, Nat.not_le]; first | rfl | (rw [if_pos (by omega), if_pos (by omega)]; rfl) | (rw [if_neg (by omega), if_neg (by omega)]; rfl)) (adr2 (L := [[h, q], [v, va 0, va 1, va 2, va 3, va 4, va 5, va 6, va 7, va 8, va 9, va 10, va 11], [hh 0, (aa 0) 0, (aa 0) 1, (aa 0) 2, (aa 0) 3, (aa 0) 4, (aa 0) 5, (aa 0) 6, (aa 0) 7, (aa 0) 8, (aa 0) 9, (aa 0) 10, (aa 0) 11], [hh 1, (aa 1) 0, (aa 1) 1, (aa 1) 2, (aa 1) 3, (aa 1) 4, (aa 1) 5, (aa 1) 6, (aa 1) 7, (aa 1) 8, (aa 1) 9, (aa 1) 10, (aa 1) 11], [hh 2, (aa 2) 0, (aa 2) 1, (aa 2) 2, (aa 2) 3, (aa 2) 4, (aa 2) 5, (aa 2) 6, (aa 2) 7, (aa 2) 8, (aa 2) 9, (aa 2) 10, (aa 2) 11], [hh 3, (aa 3) 0, (aa 3) 1, (aa 3) 2, (aa 3) 3, (aa 3) 4, (aa 3) 5, (aa 3) 6, (aa 3) 7, (aa 3) 8, (aa 3) 9, (aa 3) 10, (aa 3) 11], [hh 4, (aa 4) 0, (aa 4) 1, (aa 4) 2, (aa 4) 3, (aa 4) 4, (aa 4) 5, (aa 4) 6, (aa 4) 7, (aa 4) 8, (aa 4) 9, (aa 4) 10, (aa 4) 11]]) rfl rfl)
    · refine lv_aload_n hx hb dX0_record_31 rfl (lv_at hl 1 rfl) ?_
      refine lv_dup hx hb dX0_record_32 rfl ?_
      refine b_get (v := .int (nI n)) hx hb hts inX0 hown hK hP 0 0 2 rfl rfl rfl (by decide) q1_109 rfl rfl dX0_record_33 ?_
      refine lv_iconst (v := 1) hx hb dX0_record_36 (by decide) ?_
      refine lv_iadd hx hb dX0_record_37 ?_
      refine b_top (y := nI (n + 1)) (nI_add n 1) ?_
      refine b_put (B' := [hB g h q hh o (n + 1), vB g v va V, vB g (hh 0) (aa 0) V, vB g (hh 1) (aa 1) (HV 1), vB g (hh 2) (aa 2) (HV 2), vB g (hh 3) (aa 3) (HV 3), vB g (hh 4) (aa 4) (HV 4)]) (v := .int (nI (n + 1))) hx hb hts inX0 tyX0_ok nmX0 hown hK hW 0 0 2 rfl rfl rfl (by decide) q1_109 rfl rfl rfl rfl (Nat.le_of_ble_eq_true rfl) rfl dX0_record_38 (fun H locs hW => ?_)
      have hP := hW.1
      refine lv_goto (tgt := 53) hx hb dX0_record_41 (by decide) ?_
      exact uV_ret () hW hx hb hr hlocks dX0_record_53 trivial (by simp only [recO, recS, recH, ← hj]; simp only [h_1, ite_true, ite_false, reduceIte, Nat.not_lt, Nat.not_le]; first | rfl | (rw [if_pos (by omega), if_pos (by omega)]; rfl) | (rw [if_neg (by omega), if_neg (by omega)]; rfl)) (adr2 (L := [[h, q], [v, va 0, va 1, va 2, va 3, va 4, va 5, va 6, va 7, va 8, va 9, va 10, va 11], [hh 0, (aa 0) 0, (aa 0) 1, (aa 0) 2, (aa 0) 3, (aa 0) 4, (aa 0) 5, (aa 0) 6, (aa 0) 7, (aa 0) 8, (aa 0) 9, (aa 0) 10, (aa 0) 11], [hh 1, (aa 1) 0, (aa 1) 1, (aa 1) 2, (aa 1) 3, (aa 1) 4, (aa 1) 5, (aa 1) 6, (aa 1) 7, (aa 1) 8, (aa 1) 9, (aa 1) 10, (aa 1) 11], [hh 2, (aa 2) 0, (aa 2) 1, (aa 2) 2, (aa 2) 3, (aa 2) 4, (aa 2) 5, (aa 2) 6, (aa 2) 7, (aa 2) 8, (aa 2) 9, (aa 2) 10, (aa 2) 11], [hh 3, (aa 3) 0, (aa 3) 1, (aa 3) 2, (aa 3) 3, (aa 3) 4, (aa 3) 5, (aa 3) 6, (aa 3) 7, (aa 3) 8, (aa 3) 9, (aa 3) 10, (aa 3) 11], [hh 4, (aa 4) 0, (aa 4) 1, (aa 4) 2, (aa 4) 3, (aa 4) 4, (aa 4) 5, (aa 4) 6, (aa 4) 7, (aa 4) 8, (aa 4) 9, (aa 4) 10, (aa 4) 11]]) rfl rfl)
  · refine lv_astore_n (lv' := [(2, .ref (hh 1)), (0, .ref h), (1, .ref v)]) hx hb dX0_record_13 rfl hl (by decide) rfl (fun ls hl => ?_)
    refine lv_aload_n hx hb dX0_record_14 rfl (lv_at hl 0 rfl) ?_
    refine lv_ifnull hx hb dX0_record_15 ?_
    refine lv_aload_n hx hb dX0_record_18 rfl (lv_at hl 0 rfl) ?_
    refine lv_aload_n hx hb dX0_record_19 rfl (lv_at hl 2 rfl) ?_
    refine call_VU (As := [.ref v]) (rest := []) E rfl hK hW (c_X3_copyFrom l g (hh 1) (aa 1) (HV 1) v va V) ok_X3_copyFrom rfl q1_199 [3, 1] rfl (by decide) (b_recv hK hP 3 0 rfl rfl rfl rfl) ⟨⟨rfl, rfl⟩, Nat.le_of_ble_eq_true rfl, Nat.le_of_ble_eq_true rfl⟩ hl.1 (Nat.le_of_ble_eq_true rfl) ⟨Nat.le_of_ble_eq_true rfl, Nat.le_of_ble_eq_true rfl⟩ rfl dX0_record_20 (fun _u H locs _ hW => ?_)
    have hW : wd g _ s.heap [hB g h q hh o n, vB g v va V, vB g (hh 0) (aa 0) (HV 0), vB g (hh 1) (aa 1) V, vB g (hh 2) (aa 2) (HV 2), vB g (hh 3) (aa 3) (HV 3), vB g (hh 4) (aa 4) (HV 4)] H locs := hW
    have hP := hW.1
    refine lv_aload_n hx hb dX0_record_23 rfl (lv_at hl 1 rfl) ?_
    refine b_get (v := .int (nI n)) hx hb hts inX0 hown hK hP 0 0 2 rfl rfl rfl (by decide) q1_109 rfl rfl dX0_record_24 ?_
    refine lv_iconst (v := 5) hx hb dX0_record_27 (by decide) ?_
    refine b_ge (tgt := 44) (n) (5) hx hb rfl rfl (by omega) (by omega) dX0_record_28 (by decide) (fun h_2 => ?_) (fun h_2 => ?_)
    · refine lv_aload_n hx hb dX0_record_44 rfl (lv_at hl 1 rfl) ?_
      refine lv_aload_n hx hb dX0_record_45 rfl (lv_at hl 1 rfl) ?_
      refine lv_iconst (v := 1) hx hb dX0_record_46 (by decide) ?_
      refine call_VR (As := [.int 1]) (rest := [.ref h]) E rfl hK hP (c_X0_placeOf l g h q hh o n 1 (by omega) (by omega)) ok_X0_placeOf rfl q1_195 [0] rfl (b_recv hK hP 0 0 rfl rfl rfl rfl) ⟨⟨rfl, rfl⟩, Nat.le_of_ble_eq_true rfl, Nat.le_of_ble_eq_true rfl⟩ hl.1 (Nat.le_of_ble_eq_true rfl) ⟨Nat.le_of_ble_eq_true rfl, Nat.le_of_ble_eq_true rfl⟩ rfl dX0_record_47 ?_
      refine b_put (B' := [hB g h q hh ((o + 1) % 5) n, vB g v va V, vB g (hh 0) (aa 0) (HV 0), vB g (hh 1) (aa 1) V, vB g (hh 2) (aa 2) (HV 2), vB g (hh 3) (aa 3) (HV 3), vB g (hh 4) (aa 4) (HV 4)]) (v := .int (nI ((o + 1) % 5))) hx hb hts inX0 tyX0_ok nmX0 hown hK hW 0 0 1 rfl rfl rfl (by decide) q1_108 rfl rfl rfl rfl (Nat.le_of_ble_eq_true rfl) rfl dX0_record_50 (fun H locs hW => ?_)
      have hP := hW.1
      exact uV_ret () hW hx hb hr hlocks dX0_record_53 trivial (by simp only [recO, recS, recH, ← hj]; simp only [h_2, ite_true, ite_false, reduceIte, Nat.not_lt, Nat.not_le]; first | rfl | (rw [if_pos (by omega), if_pos (by omega)]; rfl) | (rw [if_neg (by omega), if_neg (by omega)]; rfl)) (adr2 (L := [[h, q], [v, va 0, va 1, va 2, va 3, va 4, va 5, va 6, va 7, va 8, va 9, va 10, va 11], [hh 0, (aa 0) 0, (aa 0) 1, (aa 0) 2, (aa 0) 3, (aa 0) 4, (aa 0) 5, (aa 0) 6, (aa 0) 7, (aa 0) 8, (aa 0) 9, (aa 0) 10, (aa 0) 11], [hh 1, (aa 1) 0, (aa 1) 1, (aa 1) 2, (aa 1) 3, (aa 1) 4, (aa 1) 5, (aa 1) 6, (aa 1) 7, (aa 1) 8, (aa 1) 9, (aa 1) 10, (aa 1) 11], [hh 2, (aa 2) 0, (aa 2) 1, (aa 2) 2, (aa 2) 3, (aa 2) 4, (aa 2) 5, (aa 2) 6, (aa 2) 7, (aa 2) 8, (aa 2) 9, (aa 2) 10, (aa 2) 11], [hh 3, (aa 3) 0, (aa 3) 1, (aa 3) 2, (aa 3) 3, (aa 3) 4, (aa 3) 5, (aa 3) 6, (aa 3) 7, (aa 3) 8, (aa 3) 9, (aa 3) 10, (aa 3) 11], [hh 4, (aa 4) 0, (aa 4) 1, (aa 4) 2, (aa 4) 3, (aa 4) 4, (aa 4) 5, (aa 4) 6, (aa 4) 7, (aa 4) 8, (aa 4) 9, (aa 4) 10, (aa 4) 11]]) rfl rfl)
    · refine lv_aload_n hx hb dX0_record_31 rfl (lv_at hl 1 rfl) ?_
      refine lv_dup hx hb dX0_record_32 rfl ?_
      refine b_get (v := .int (nI n)) hx hb hts inX0 hown hK hP 0 0 2 rfl rfl rfl (by decide) q1_109 rfl rfl dX0_record_33 ?_
      refine lv_iconst (v := 1) hx hb dX0_record_36 (by decide) ?_
      refine lv_iadd hx hb dX0_record_37 ?_
      refine b_top (y := nI (n + 1)) (nI_add n 1) ?_
      refine b_put (B' := [hB g h q hh o (n + 1), vB g v va V, vB g (hh 0) (aa 0) (HV 0), vB g (hh 1) (aa 1) V, vB g (hh 2) (aa 2) (HV 2), vB g (hh 3) (aa 3) (HV 3), vB g (hh 4) (aa 4) (HV 4)]) (v := .int (nI (n + 1))) hx hb hts inX0 tyX0_ok nmX0 hown hK hW 0 0 2 rfl rfl rfl (by decide) q1_109 rfl rfl rfl rfl (Nat.le_of_ble_eq_true rfl) rfl dX0_record_38 (fun H locs hW => ?_)
      have hP := hW.1
      refine lv_goto (tgt := 53) hx hb dX0_record_41 (by decide) ?_
      exact uV_ret () hW hx hb hr hlocks dX0_record_53 trivial (by simp only [recO, recS, recH, ← hj]; simp only [h_2, ite_true, ite_false, reduceIte, Nat.not_lt, Nat.not_le]; first | rfl | (rw [if_pos (by omega), if_pos (by omega)]; rfl) | (rw [if_neg (by omega), if_neg (by omega)]; rfl)) (adr2 (L := [[h, q], [v, va 0, va 1, va 2, va 3, va 4, va 5, va 6, va 7, va 8, va 9, va 10, va 11], [hh 0, (aa 0) 0, (aa 0) 1, (aa 0) 2, (aa 0) 3, (aa 0) 4, (aa 0) 5, (aa 0) 6, (aa 0) 7, (aa 0) 8, (aa 0) 9, (aa 0) 10, (aa 0) 11], [hh 1, (aa 1) 0, (aa 1) 1, (aa 1) 2, (aa 1) 3, (aa 1) 4, (aa 1) 5, (aa 1) 6, (aa 1) 7, (aa 1) 8, (aa 1) 9, (aa 1) 10, (aa 1) 11], [hh 2, (aa 2) 0, (aa 2) 1, (aa 2) 2, (aa 2) 3, (aa 2) 4, (aa 2) 5, (aa 2) 6, (aa 2) 7, (aa 2) 8, (aa 2) 9, (aa 2) 10, (aa 2) 11], [hh 3, (aa 3) 0, (aa 3) 1, (aa 3) 2, (aa 3) 3, (aa 3) 4, (aa 3) 5, (aa 3) 6, (aa 3) 7, (aa 3) 8, (aa 3) 9, (aa 3) 10, (aa 3) 11], [hh 4, (aa 4) 0, (aa 4) 1, (aa 4) 2, (aa 4) 3, (aa 4) 4, (aa 4) 5, (aa 4) 6, (aa 4) 7, (aa 4) 8, (aa 4) 9, (aa 4) 10, (aa 4) 11]]) rfl rfl)
  · refine lv_astore_n (lv' := [(2, .ref (hh 2)), (0, .ref h), (1, .ref v)]) hx hb dX0_record_13 rfl hl (by decide) rfl (fun ls hl => ?_)
    refine lv_aload_n hx hb dX0_record_14 rfl (lv_at hl 0 rfl) ?_
    refine lv_ifnull hx hb dX0_record_15 ?_
    refine lv_aload_n hx hb dX0_record_18 rfl (lv_at hl 0 rfl) ?_
    refine lv_aload_n hx hb dX0_record_19 rfl (lv_at hl 2 rfl) ?_
    refine call_VU (As := [.ref v]) (rest := []) E rfl hK hW (c_X3_copyFrom l g (hh 2) (aa 2) (HV 2) v va V) ok_X3_copyFrom rfl q1_199 [4, 1] rfl (by decide) (b_recv hK hP 4 0 rfl rfl rfl rfl) ⟨⟨rfl, rfl⟩, Nat.le_of_ble_eq_true rfl, Nat.le_of_ble_eq_true rfl⟩ hl.1 (Nat.le_of_ble_eq_true rfl) ⟨Nat.le_of_ble_eq_true rfl, Nat.le_of_ble_eq_true rfl⟩ rfl dX0_record_20 (fun _u H locs _ hW => ?_)
    have hW : wd g _ s.heap [hB g h q hh o n, vB g v va V, vB g (hh 0) (aa 0) (HV 0), vB g (hh 1) (aa 1) (HV 1), vB g (hh 2) (aa 2) V, vB g (hh 3) (aa 3) (HV 3), vB g (hh 4) (aa 4) (HV 4)] H locs := hW
    have hP := hW.1
    refine lv_aload_n hx hb dX0_record_23 rfl (lv_at hl 1 rfl) ?_
    refine b_get (v := .int (nI n)) hx hb hts inX0 hown hK hP 0 0 2 rfl rfl rfl (by decide) q1_109 rfl rfl dX0_record_24 ?_
    refine lv_iconst (v := 5) hx hb dX0_record_27 (by decide) ?_
    refine b_ge (tgt := 44) (n) (5) hx hb rfl rfl (by omega) (by omega) dX0_record_28 (by decide) (fun h_3 => ?_) (fun h_3 => ?_)
    · refine lv_aload_n hx hb dX0_record_44 rfl (lv_at hl 1 rfl) ?_
      refine lv_aload_n hx hb dX0_record_45 rfl (lv_at hl 1 rfl) ?_
      refine lv_iconst (v := 1) hx hb dX0_record_46 (by decide) ?_
      refine call_VR (As := [.int 1]) (rest := [.ref h]) E rfl hK hP (c_X0_placeOf l g h q hh o n 1 (by omega) (by omega)) ok_X0_placeOf rfl q1_195 [0] rfl (b_recv hK hP 0 0 rfl rfl rfl rfl) ⟨⟨rfl, rfl⟩, Nat.le_of_ble_eq_true rfl, Nat.le_of_ble_eq_true rfl⟩ hl.1 (Nat.le_of_ble_eq_true rfl) ⟨Nat.le_of_ble_eq_true rfl, Nat.le_of_ble_eq_true rfl⟩ rfl dX0_record_47 ?_
      refine b_put (B' := [hB g h q hh ((o + 1) % 5) n, vB g v va V, vB g (hh 0) (aa 0) (HV 0), vB g (hh 1) (aa 1) (HV 1), vB g (hh 2) (aa 2) V, vB g (hh 3) (aa 3) (HV 3), vB g (hh 4) (aa 4) (HV 4)]) (v := .int (nI ((o + 1) % 5))) hx hb hts inX0 tyX0_ok nmX0 hown hK hW 0 0 1 rfl rfl rfl (by decide) q1_108 rfl rfl rfl rfl (Nat.le_of_ble_eq_true rfl) rfl dX0_record_50 (fun H locs hW => ?_)
      have hP := hW.1
      exact uV_ret () hW hx hb hr hlocks dX0_record_53 trivial (by simp only [recO, recS, recH, ← hj]; simp only [h_3, ite_true, ite_false, reduceIte, Nat.not_lt, Nat.not_le]; first | rfl | (rw [if_pos (by omega), if_pos (by omega)]; rfl) | (rw [if_neg (by omega), if_neg (by omega)]; rfl)) (adr2 (L := [[h, q], [v, va 0, va 1, va 2, va 3, va 4, va 5, va 6, va 7, va 8, va 9, va 10, va 11], [hh 0, (aa 0) 0, (aa 0) 1, (aa 0) 2, (aa 0) 3, (aa 0) 4, (aa 0) 5, (aa 0) 6, (aa 0) 7, (aa 0) 8, (aa 0) 9, (aa 0) 10, (aa 0) 11], [hh 1, (aa 1) 0, (aa 1) 1, (aa 1) 2, (aa 1) 3, (aa 1) 4, (aa 1) 5, (aa 1) 6, (aa 1) 7, (aa 1) 8, (aa 1) 9, (aa 1) 10, (aa 1) 11], [hh 2, (aa 2) 0, (aa 2) 1, (aa 2) 2, (aa 2) 3, (aa 2) 4, (aa 2) 5, (aa 2) 6, (aa 2) 7, (aa 2) 8, (aa 2) 9, (aa 2) 10, (aa 2) 11], [hh 3, (aa 3) 0, (aa 3) 1, (aa 3) 2, (aa 3) 3, (aa 3) 4, (aa 3) 5, (aa 3) 6, (aa 3) 7, (aa 3) 8, (aa 3) 9, (aa 3) 10, (aa 3) 11], [hh 4, (aa 4) 0, (aa 4) 1, (aa 4) 2, (aa 4) 3, (aa 4) 4, (aa 4) 5, (aa 4) 6, (aa 4) 7, (aa 4) 8, (aa 4) 9, (aa 4) 10, (aa 4) 11]]) rfl rfl)
    · refine lv_aload_n hx hb dX0_record_31 rfl (lv_at hl 1 rfl) ?_
      refine lv_dup hx hb dX0_record_32 rfl ?_
      refine b_get (v := .int (nI n)) hx hb hts inX0 hown hK hP 0 0 2 rfl rfl rfl (by decide) q1_109 rfl rfl dX0_record_33 ?_
      refine lv_iconst (v := 1) hx hb dX0_record_36 (by decide) ?_
      refine lv_iadd hx hb dX0_record_37 ?_
      refine b_top (y := nI (n + 1)) (nI_add n 1) ?_
      refine b_put (B' := [hB g h q hh o (n + 1), vB g v va V, vB g (hh 0) (aa 0) (HV 0), vB g (hh 1) (aa 1) (HV 1), vB g (hh 2) (aa 2) V, vB g (hh 3) (aa 3) (HV 3), vB g (hh 4) (aa 4) (HV 4)]) (v := .int (nI (n + 1))) hx hb hts inX0 tyX0_ok nmX0 hown hK hW 0 0 2 rfl rfl rfl (by decide) q1_109 rfl rfl rfl rfl (Nat.le_of_ble_eq_true rfl) rfl dX0_record_38 (fun H locs hW => ?_)
      have hP := hW.1
      refine lv_goto (tgt := 53) hx hb dX0_record_41 (by decide) ?_
      exact uV_ret () hW hx hb hr hlocks dX0_record_53 trivial (by simp only [recO, recS, recH, ← hj]; simp only [h_3, ite_true, ite_false, reduceIte, Nat.not_lt, Nat.not_le]; first | rfl | (rw [if_pos (by omega), if_pos (by omega)]; rfl) | (rw [if_neg (by omega), if_neg (by omega)]; rfl)) (adr2 (L := [[h, q], [v, va 0, va 1, va 2, va 3, va 4, va 5, va 6, va 7, va 8, va 9, va 10, va 11], [hh 0, (aa 0) 0, (aa 0) 1, (aa 0) 2, (aa 0) 3, (aa 0) 4, (aa 0) 5, (aa 0) 6, (aa 0) 7, (aa 0) 8, (aa 0) 9, (aa 0) 10, (aa 0) 11], [hh 1, (aa 1) 0, (aa 1) 1, (aa 1) 2, (aa 1) 3, (aa 1) 4, (aa 1) 5, (aa 1) 6, (aa 1) 7, (aa 1) 8, (aa 1) 9, (aa 1) 10, (aa 1) 11], [hh 2, (aa 2) 0, (aa 2) 1, (aa 2) 2, (aa 2) 3, (aa 2) 4, (aa 2) 5, (aa 2) 6, (aa 2) 7, (aa 2) 8, (aa 2) 9, (aa 2) 10, (aa 2) 11], [hh 3, (aa 3) 0, (aa 3) 1, (aa 3) 2, (aa 3) 3, (aa 3) 4, (aa 3) 5, (aa 3) 6, (aa 3) 7, (aa 3) 8, (aa 3) 9, (aa 3) 10, (aa 3) 11], [hh 4, (aa 4) 0, (aa 4) 1, (aa 4) 2, (aa 4) 3, (aa 4) 4, (aa 4) 5, (aa 4) 6, (aa 4) 7, (aa 4) 8, (aa 4) 9, (aa 4) 10, (aa 4) 11]]) rfl rfl)
  · refine lv_astore_n (lv' := [(2, .ref (hh 3)), (0, .ref h), (1, .ref v)]) hx hb dX0_record_13 rfl hl (by decide) rfl (fun ls hl => ?_)
    refine lv_aload_n hx hb dX0_record_14 rfl (lv_at hl 0 rfl) ?_
    refine lv_ifnull hx hb dX0_record_15 ?_
    refine lv_aload_n hx hb dX0_record_18 rfl (lv_at hl 0 rfl) ?_
    refine lv_aload_n hx hb dX0_record_19 rfl (lv_at hl 2 rfl) ?_
    refine call_VU (As := [.ref v]) (rest := []) E rfl hK hW (c_X3_copyFrom l g (hh 3) (aa 3) (HV 3) v va V) ok_X3_copyFrom rfl q1_199 [5, 1] rfl (by decide) (b_recv hK hP 5 0 rfl rfl rfl rfl) ⟨⟨rfl, rfl⟩, Nat.le_of_ble_eq_true rfl, Nat.le_of_ble_eq_true rfl⟩ hl.1 (Nat.le_of_ble_eq_true rfl) ⟨Nat.le_of_ble_eq_true rfl, Nat.le_of_ble_eq_true rfl⟩ rfl dX0_record_20 (fun _u H locs _ hW => ?_)
    have hW : wd g _ s.heap [hB g h q hh o n, vB g v va V, vB g (hh 0) (aa 0) (HV 0), vB g (hh 1) (aa 1) (HV 1), vB g (hh 2) (aa 2) (HV 2), vB g (hh 3) (aa 3) V, vB g (hh 4) (aa 4) (HV 4)] H locs := hW
    have hP := hW.1
    refine lv_aload_n hx hb dX0_record_23 rfl (lv_at hl 1 rfl) ?_
    refine b_get (v := .int (nI n)) hx hb hts inX0 hown hK hP 0 0 2 rfl rfl rfl (by decide) q1_109 rfl rfl dX0_record_24 ?_
    refine lv_iconst (v := 5) hx hb dX0_record_27 (by decide) ?_
    refine b_ge (tgt := 44) (n) (5) hx hb rfl rfl (by omega) (by omega) dX0_record_28 (by decide) (fun h_4 => ?_) (fun h_4 => ?_)
    · refine lv_aload_n hx hb dX0_record_44 rfl (lv_at hl 1 rfl) ?_
      refine lv_aload_n hx hb dX0_record_45 rfl (lv_at hl 1 rfl) ?_
      refine lv_iconst (v := 1) hx hb dX0_record_46 (by decide) ?_
      refine call_VR (As := [.int 1]) (rest := [.ref h]) E rfl hK hP (c_X0_placeOf l g h q hh o n 1 (by omega) (by omega)) ok_X0_placeOf rfl q1_195 [0] rfl (b_recv hK hP 0 0 rfl rfl rfl rfl) ⟨⟨rfl, rfl⟩, Nat.le_of_ble_eq_true rfl, Nat.le_of_ble_eq_true rfl⟩ hl.1 (Nat.le_of_ble_eq_true rfl) ⟨Nat.le_of_ble_eq_true rfl, Nat.le_of_ble_eq_true rfl⟩ rfl dX0_record_47 ?_
      refine b_put (B' := [hB g h q hh ((o + 1) % 5) n, vB g v va V, vB g (hh 0) (aa 0) (HV 0), vB g (hh 1) (aa 1) (HV 1), vB g (hh 2) (aa 2) (HV 2), vB g (hh 3) (aa 3) V, vB g (hh 4) (aa 4) (HV 4)]) (v := .int (nI ((o + 1) % 5))) hx hb hts inX0 tyX0_ok nmX0 hown hK hW 0 0 1 rfl rfl rfl (by decide) q1_108 rfl rfl rfl rfl (Nat.le_of_ble_eq_true rfl) rfl dX0_record_50 (fun H locs hW => ?_)
      have hP := hW.1
      exact uV_ret () hW hx hb hr hlocks dX0_record_53 trivial (by simp only [recO, recS, recH, ← hj]; simp only [h_4, ite_true, ite_false, reduceIte, Nat.not_lt, Nat.not_le]; first | rfl | (rw [if_pos (by omega), if_pos (by omega)]; rfl) | (rw [if_neg (by omega), if_neg (by omega)]; rfl)) (adr2 (L := [[h, q], [v, va 0, va 1, va 2, va 3, va 4, va 5, va 6, va 7, va 8, va 9, va 10, va 11], [hh 0, (aa 0) 0, (aa 0) 1, (aa 0) 2, (aa 0) 3, (aa 0) 4, (aa 0) 5, (aa 0) 6, (aa 0) 7, (aa 0) 8, (aa 0) 9, (aa 0) 10, (aa 0) 11], [hh 1, (aa 1) 0, (aa 1) 1, (aa 1) 2, (aa 1) 3, (aa 1) 4, (aa 1) 5, (aa 1) 6, (aa 1) 7, (aa 1) 8, (aa 1) 9, (aa 1) 10, (aa 1) 11], [hh 2, (aa 2) 0, (aa 2) 1, (aa 2) 2, (aa 2) 3, (aa 2) 4, (aa 2) 5, (aa 2) 6, (aa 2) 7, (aa 2) 8, (aa 2) 9, (aa 2) 10, (aa 2) 11], [hh 3, (aa 3) 0, (aa 3) 1, (aa 3) 2, (aa 3) 3, (aa 3) 4, (aa 3) 5, (aa 3) 6, (aa 3) 7, (aa 3) 8, (aa 3) 9, (aa 3) 10, (aa 3) 11], [hh 4, (aa 4) 0, (aa 4) 1, (aa 4) 2, (aa 4) 3, (aa 4) 4, (aa 4) 5, (aa 4) 6, (aa 4) 7, (aa 4) 8, (aa 4) 9, (aa 4) 10, (aa 4) 11]]) rfl rfl)
    · refine lv_aload_n hx hb dX0_record_31 rfl (lv_at hl 1 rfl) ?_
      refine lv_dup hx hb dX0_record_32 rfl ?_
      refine b_get (v := .int (nI n)) hx hb hts inX0 hown hK hP 0 0 2 rfl rfl rfl (by decide) q1_109 rfl rfl dX0_record_33 ?_
      refine lv_iconst (v := 1) hx hb dX0_record_36 (by decide) ?_
      refine lv_iadd hx hb dX0_record_37 ?_
      refine b_top (y := nI (n + 1)) (nI_add n 1) ?_
      refine b_put (B' := [hB g h q hh o (n + 1), vB g v va V, vB g (hh 0) (aa 0) (HV 0), vB g (hh 1) (aa 1) (HV 1), vB g (hh 2) (aa 2) (HV 2), vB g (hh 3) (aa 3) V, vB g (hh 4) (aa 4) (HV 4)]) (v := .int (nI (n + 1))) hx hb hts inX0 tyX0_ok nmX0 hown hK hW 0 0 2 rfl rfl rfl (by decide) q1_109 rfl rfl rfl rfl (Nat.le_of_ble_eq_true rfl) rfl dX0_record_38 (fun H locs hW => ?_)
      have hP := hW.1
      refine lv_goto (tgt := 53) hx hb dX0_record_41 (by decide) ?_
      exact uV_ret () hW hx hb hr hlocks dX0_record_53 trivial (by simp only [recO, recS, recH, ← hj]; simp only [h_4, ite_true, ite_false, reduceIte, Nat.not_lt, Nat.not_le]; first | rfl | (rw [if_pos (by omega), if_pos (by omega)]; rfl) | (rw [if_neg (by omega), if_neg (by omega)]; rfl)) (adr2 (L := [[h, q], [v, va 0, va 1, va 2, va 3, va 4, va 5, va 6, va 7, va 8, va 9, va 10, va 11], [hh 0, (aa 0) 0, (aa 0) 1, (aa 0) 2, (aa 0) 3, (aa 0) 4, (aa 0) 5, (aa 0) 6, (aa 0) 7, (aa 0) 8, (aa 0) 9, (aa 0) 10, (aa 0) 11], [hh 1, (aa 1) 0, (aa 1) 1, (aa 1) 2, (aa 1) 3, (aa 1) 4, (aa 1) 5, (aa 1) 6, (aa 1) 7, (aa 1) 8, (aa 1) 9, (aa 1) 10, (aa 1) 11], [hh 2, (aa 2) 0, (aa 2) 1, (aa 2) 2, (aa 2) 3, (aa 2) 4, (aa 2) 5, (aa 2) 6, (aa 2) 7, (aa 2) 8, (aa 2) 9, (aa 2) 10, (aa 2) 11], [hh 3, (aa 3) 0, (aa 3) 1, (aa 3) 2, (aa 3) 3, (aa 3) 4, (aa 3) 5, (aa 3) 6, (aa 3) 7, (aa 3) 8, (aa 3) 9, (aa 3) 10, (aa 3) 11], [hh 4, (aa 4) 0, (aa 4) 1, (aa 4) 2, (aa 4) 3, (aa 4) 4, (aa 4) 5, (aa 4) 6, (aa 4) 7, (aa 4) 8, (aa 4) 9, (aa 4) 10, (aa 4) 11]]) rfl rfl)
  · refine lv_astore_n (lv' := [(2, .ref (hh 4)), (0, .ref h), (1, .ref v)]) hx hb dX0_record_13 rfl hl (by decide) rfl (fun ls hl => ?_)
    refine lv_aload_n hx hb dX0_record_14 rfl (lv_at hl 0 rfl) ?_
    refine lv_ifnull hx hb dX0_record_15 ?_
    refine lv_aload_n hx hb dX0_record_18 rfl (lv_at hl 0 rfl) ?_
    refine lv_aload_n hx hb dX0_record_19 rfl (lv_at hl 2 rfl) ?_
    refine call_VU (As := [.ref v]) (rest := []) E rfl hK hW (c_X3_copyFrom l g (hh 4) (aa 4) (HV 4) v va V) ok_X3_copyFrom rfl q1_199 [6, 1] rfl (by decide) (b_recv hK hP 6 0 rfl rfl rfl rfl) ⟨⟨rfl, rfl⟩, Nat.le_of_ble_eq_true rfl, Nat.le_of_ble_eq_true rfl⟩ hl.1 (Nat.le_of_ble_eq_true rfl) ⟨Nat.le_of_ble_eq_true rfl, Nat.le_of_ble_eq_true rfl⟩ rfl dX0_record_20 (fun _u H locs _ hW => ?_)
    have hW : wd g _ s.heap [hB g h q hh o n, vB g v va V, vB g (hh 0) (aa 0) (HV 0), vB g (hh 1) (aa 1) (HV 1), vB g (hh 2) (aa 2) (HV 2), vB g (hh 3) (aa 3) (HV 3), vB g (hh 4) (aa 4) V] H locs := hW
    have hP := hW.1
    refine lv_aload_n hx hb dX0_record_23 rfl (lv_at hl 1 rfl) ?_
    refine b_get (v := .int (nI n)) hx hb hts inX0 hown hK hP 0 0 2 rfl rfl rfl (by decide) q1_109 rfl rfl dX0_record_24 ?_
    refine lv_iconst (v := 5) hx hb dX0_record_27 (by decide) ?_
    refine b_ge (tgt := 44) (n) (5) hx hb rfl rfl (by omega) (by omega) dX0_record_28 (by decide) (fun h_5 => ?_) (fun h_5 => ?_)
    · refine lv_aload_n hx hb dX0_record_44 rfl (lv_at hl 1 rfl) ?_
      refine lv_aload_n hx hb dX0_record_45 rfl (lv_at hl 1 rfl) ?_
      refine lv_iconst (v := 1) hx hb dX0_record_46 (by decide) ?_
      refine call_VR (As := [.int 1]) (rest := [.ref h]) E rfl hK hP (c_X0_placeOf l g h q hh o n 1 (by omega) (by omega)) ok_X0_placeOf rfl q1_195 [0] rfl (b_recv hK hP 0 0 rfl rfl rfl rfl) ⟨⟨rfl, rfl⟩, Nat.le_of_ble_eq_true rfl, Nat.le_of_ble_eq_true rfl⟩ hl.1 (Nat.le_of_ble_eq_true rfl) ⟨Nat.le_of_ble_eq_true rfl, Nat.le_of_ble_eq_true rfl⟩ rfl dX0_record_47 ?_
      refine b_put (B' := [hB g h q hh ((o + 1) % 5) n, vB g v va V, vB g (hh 0) (aa 0) (HV 0), vB g (hh 1) (aa 1) (HV 1), vB g (hh 2) (aa 2) (HV 2), vB g (hh 3) (aa 3) (HV 3), vB g (hh 4) (aa 4) V]) (v := .int (nI ((o + 1) % 5))) hx hb hts inX0 tyX0_ok nmX0 hown hK hW 0 0 1 rfl rfl rfl (by decide) q1_108 rfl rfl rfl rfl (Nat.le_of_ble_eq_true rfl) rfl dX0_record_50 (fun H locs hW => ?_)
      have hP := hW.1
      exact uV_ret () hW hx hb hr hlocks dX0_record_53 trivial (by simp only [recO, recS, recH, ← hj]; simp only [h_5, ite_true, ite_false, reduceIte, Nat.not_lt, Nat.not_le]; first | rfl | (rw [if_pos (by omega), if_pos (by omega)]; rfl) | (rw [if_neg (by omega), if_neg (by omega)]; rfl)) (adr2 (L := [[h, q], [v, va 0, va 1, va 2, va 3, va 4, va 5, va 6, va 7, va 8, va 9, va 10, va 11], [hh 0, (aa 0) 0, (aa 0) 1, (aa 0) 2, (aa 0) 3, (aa 0) 4, (aa 0) 5, (aa 0) 6, (aa 0) 7, (aa 0) 8, (aa 0) 9, (aa 0) 10, (aa 0) 11], [hh 1, (aa 1) 0, (aa 1) 1, (aa 1) 2, (aa 1) 3, (aa 1) 4, (aa 1) 5, (aa 1) 6, (aa 1) 7, (aa 1) 8, (aa 1) 9, (aa 1) 10, (aa 1) 11], [hh 2, (aa 2) 0, (aa 2) 1, (aa 2) 2, (aa 2) 3, (aa 2) 4, (aa 2) 5, (aa 2) 6, (aa 2) 7, (aa 2) 8, (aa 2) 9, (aa 2) 10, (aa 2) 11], [hh 3, (aa 3) 0, (aa 3) 1, (aa 3) 2, (aa 3) 3, (aa 3) 4, (aa 3) 5, (aa 3) 6, (aa 3) 7, (aa 3) 8, (aa 3) 9, (aa 3) 10, (aa 3) 11], [hh 4, (aa 4) 0, (aa 4) 1, (aa 4) 2, (aa 4) 3, (aa 4) 4, (aa 4) 5, (aa 4) 6, (aa 4) 7, (aa 4) 8, (aa 4) 9, (aa 4) 10, (aa 4) 11]]) rfl rfl)
    · refine lv_aload_n hx hb dX0_record_31 rfl (lv_at hl 1 rfl) ?_
      refine lv_dup hx hb dX0_record_32 rfl ?_
      refine b_get (v := .int (nI n)) hx hb hts inX0 hown hK hP 0 0 2 rfl rfl rfl (by decide) q1_109 rfl rfl dX0_record_33 ?_
      refine lv_iconst (v := 1) hx hb dX0_record_36 (by decide) ?_
      refine lv_iadd hx hb dX0_record_37 ?_
      refine b_top (y := nI (n + 1)) (nI_add n 1) ?_
      refine b_put (B' := [hB g h q hh o (n + 1), vB g v va V, vB g (hh 0) (aa 0) (HV 0), vB g (hh 1) (aa 1) (HV 1), vB g (hh 2) (aa 2) (HV 2), vB g (hh 3) (aa 3) (HV 3), vB g (hh 4) (aa 4) V]) (v := .int (nI (n + 1))) hx hb hts inX0 tyX0_ok nmX0 hown hK hW 0 0 2 rfl rfl rfl (by decide) q1_109 rfl rfl rfl rfl (Nat.le_of_ble_eq_true rfl) rfl dX0_record_38 (fun H locs hW => ?_)
      have hP := hW.1
      refine lv_goto (tgt := 53) hx hb dX0_record_41 (by decide) ?_
      exact uV_ret () hW hx hb hr hlocks dX0_record_53 trivial (by simp only [recO, recS, recH, ← hj]; simp only [h_5, ite_true, ite_false, reduceIte, Nat.not_lt, Nat.not_le]; first | rfl | (rw [if_pos (by omega), if_pos (by omega)]; rfl) | (rw [if_neg (by omega), if_neg (by omega)]; rfl)) (adr2 (L := [[h, q], [v, va 0, va 1, va 2, va 3, va 4, va 5, va 6, va 7, va 8, va 9, va 10, va 11], [hh 0, (aa 0) 0, (aa 0) 1, (aa 0) 2, (aa 0) 3, (aa 0) 4, (aa 0) 5, (aa 0) 6, (aa 0) 7, (aa 0) 8, (aa 0) 9, (aa 0) 10, (aa 0) 11], [hh 1, (aa 1) 0, (aa 1) 1, (aa 1) 2, (aa 1) 3, (aa 1) 4, (aa 1) 5, (aa 1) 6, (aa 1) 7, (aa 1) 8, (aa 1) 9, (aa 1) 10, (aa 1) 11], [hh 2, (aa 2) 0, (aa 2) 1, (aa 2) 2, (aa 2) 3, (aa 2) 4, (aa 2) 5, (aa 2) 6, (aa 2) 7, (aa 2) 8, (aa 2) 9, (aa 2) 10, (aa 2) 11], [hh 3, (aa 3) 0, (aa 3) 1, (aa 3) 2, (aa 3) 3, (aa 3) 4, (aa 3) 5, (aa 3) 6, (aa 3) 7, (aa 3) 8, (aa 3) 9, (aa 3) 10, (aa 3) 11], [hh 4, (aa 4) 0, (aa 4) 1, (aa 4) 2, (aa 4) 3, (aa 4) 4, (aa 4) 5, (aa 4) 6, (aa 4) 7, (aa 4) 8, (aa 4) 9, (aa 4) 10, (aa 4) 11]]) rfl rfl)
end
section
set_option maxHeartbeats 4000000 in
set_option maxRecDepth 100000 in
theorem c_X0_takeBack (l : Launch) (g : gx) (h q : Nat) (hh : Nat → Nat) (o n : Nat) (ho : o < 5) (hn : n ≤ 5) (aa : Nat → Nat → Nat) (HV : Nat → sV) (v : Nat) (va : Nat → Nat) (V : sV) (hn0 : 0 < n)  : cU (S := Unit) l g yX0_takeBack cX0_takeBack 3 none ({ frames := 3, cells := 0, slots := 0, locals := 102 } : Room) [.ref h, .ref v] [hB g h q hh o n, vB g v va V, vB g (hh 0) (aa 0) (HV 0), vB g (hh 1) (aa 1) (HV 1), vB g (hh 2) (aa 2) (HV 2), vB g (hh 3) (aa 3) (HV 3), vB g (hh 4) (aa 4) (HV 4)] (fun _ => none) (fun _ => True) (fun _ => [hB g h q hh o (n - 1), vB g v va (HV ((o + (n - 1)) % 5)), vB g (hh 0) (aa 0) (HV 0), vB g (hh 1) (aa 1) (HV 1), vB g (hh 2) (aa 2) (HV 2), vB g (hh 3) (aa 3) (HV 3), vB g (hh 4) (aa 4) (HV 4)]) := by
  refine cU.mk (by decide +kernel) (Nat.le_of_ble_eq_true rfl) ?_
  intro p e s m below meth c ls E hK hW hl
  obtain ⟨hx, hb, hr, hml, hts, hown, hlocks, hin⟩ := id E
  have hown : s.vm.findClass RX0 = some m.cls := hown
  have hP := hW.1
  have hl : lv_has ls 3 [(0, .ref h), (1, .ref v)] := hl
  refine lv_aload_n hx hb dX0_takeBack_0 rfl (lv_at hl 0 rfl) ?_
  refine b_get (v := .int (nI n)) hx hb hts inX0 hown hK hP 0 0 2 rfl rfl rfl (by decide) q1_109 rfl rfl dX0_takeBack_1 ?_
  refine lv_if_ne (tgt := 8) hx hb dX0_takeBack_4 (by decide) (fun h_1 => ?_) (fun h_1 => ?_)
  · refine lv_aload_n hx hb dX0_takeBack_8 rfl (lv_at hl 0 rfl) ?_
    refine lv_dup hx hb dX0_takeBack_9 rfl ?_
    refine b_get (v := .int (nI n)) hx hb hts inX0 hown hK hP 0 0 2 rfl rfl rfl (by decide) q1_109 rfl rfl dX0_takeBack_10 ?_
    refine lv_iconst (v := 1) hx hb dX0_takeBack_13 (by decide) ?_
    refine lv_isub hx hb dX0_takeBack_14 ?_
    refine b_top (y := nI (n - 1)) (pk_sub (a := n) (b := 1) (by omega)) ?_
    refine b_put (B' := [hB g h q hh o (n - 1), vB g v va V, vB g (hh 0) (aa 0) (HV 0), vB g (hh 1) (aa 1) (HV 1), vB g (hh 2) (aa 2) (HV 2), vB g (hh 3) (aa 3) (HV 3), vB g (hh 4) (aa 4) (HV 4)]) (v := .int (nI (n - 1))) hx hb hts inX0 tyX0_ok nmX0 hown hK hW 0 0 2 rfl rfl rfl (by decide) q1_109 rfl rfl rfl rfl (Nat.le_of_ble_eq_true rfl) rfl dX0_takeBack_15 (fun H locs hW => ?_)
    have hP := hW.1
    refine lv_aload_n hx hb dX0_takeBack_18 rfl (lv_at hl 0 rfl) ?_
    refine b_get (v := .ref q) hx hb hts inX0 hown hK hP 0 0 0 rfl rfl rfl (by decide) q1_107 rfl rfl dX0_takeBack_19 ?_
    refine lv_aload_n hx hb dX0_takeBack_22 rfl (lv_at hl 0 rfl) ?_
    refine lv_aload_n hx hb dX0_takeBack_23 rfl (lv_at hl 0 rfl) ?_
    refine b_get (v := .int (nI (n - 1))) hx hb hts inX0 hown hK hP 0 0 2 rfl rfl rfl (by decide) q1_109 rfl rfl dX0_takeBack_24 ?_
    refine call_VR (As := [.int (nI (n - 1))]) (rest := [.ref q]) E rfl hK hP (c_X0_placeOf l g h q hh o (n - 1) (n - 1) (by omega) (by omega)) ok_X0_placeOf rfl q1_195 [0] rfl (b_recv hK hP 0 0 rfl rfl rfl rfl) ⟨⟨rfl, rfl⟩, Nat.le_of_ble_eq_true rfl, Nat.le_of_ble_eq_true rfl⟩ hl.1 (Nat.le_of_ble_eq_true rfl) ⟨Nat.le_of_ble_eq_true rfl, Nat.le_of_ble_eq_true rfl⟩ rfl dX0_takeBack_27 ?_
    refine b_aald (v := hh ((o + (n - 1)) % 5)) hx hb hK hP 0 1 ((o + (n - 1)) % 5) rfl rfl rfl (by omega) rfl rfl dX0_takeBack_30 ?_
    obtain ⟨j, hj⟩ : ∃ j, j = (o + (n - 1)) % 5 := ⟨_, rfl⟩
    rw [← hj]
    have hj5 : j < 5 := by omega
    rcases (show j = 0 ∨ j = 1 ∨ j = 2 ∨ j = 3 ∨ j = 4 by omega) with rfl | rfl | rfl | rfl | rfl
    · refine lv_astore_n (lv' := [(2, .ref (hh 0)), (0, .ref h), (1, .ref v)]) hx hb dX0_takeBack_31 rfl hl (by decide) rfl (fun ls hl => ?_)
      refine lv_aload_n hx hb dX0_takeBack_32 rfl (lv_at hl 0 rfl) ?_
      refine lv_ifnull hx hb dX0_takeBack_33 ?_
      refine lv_aload_n hx hb dX0_takeBack_36 rfl (lv_at hl 2 rfl) ?_
      refine lv_aload_n hx hb dX0_takeBack_37 rfl (lv_at hl 0 rfl) ?_
      refine call_VU (As := [.ref (hh 0)]) (rest := []) E rfl hK hW (c_X3_copyFrom l g v va V (hh 0) (aa 0) (HV 0)) ok_X3_copyFrom rfl q1_199 [1, 2] rfl (by decide) (b_recv hK hP 1 0 rfl rfl rfl rfl) ⟨⟨rfl, rfl⟩, Nat.le_of_ble_eq_true rfl, Nat.le_of_ble_eq_true rfl⟩ hl.1 (Nat.le_of_ble_eq_true rfl) ⟨Nat.le_of_ble_eq_true rfl, Nat.le_of_ble_eq_true rfl⟩ rfl dX0_takeBack_38 (fun _u H locs _ hW => ?_)
      have hW : wd g _ s.heap [hB g h q hh o (n - 1), vB g v va (HV 0), vB g (hh 0) (aa 0) (HV 0), vB g (hh 1) (aa 1) (HV 1), vB g (hh 2) (aa 2) (HV 2), vB g (hh 3) (aa 3) (HV 3), vB g (hh 4) (aa 4) (HV 4)] H locs := hW
      have hP := hW.1
      exact uV_ret () hW hx hb hr hlocks dX0_takeBack_41 trivial (rfl) (adr2 (L := [[h, q], [v, va 0, va 1, va 2, va 3, va 4, va 5, va 6, va 7, va 8, va 9, va 10, va 11], [hh 0, (aa 0) 0, (aa 0) 1, (aa 0) 2, (aa 0) 3, (aa 0) 4, (aa 0) 5, (aa 0) 6, (aa 0) 7, (aa 0) 8, (aa 0) 9, (aa 0) 10, (aa 0) 11], [hh 1, (aa 1) 0, (aa 1) 1, (aa 1) 2, (aa 1) 3, (aa 1) 4, (aa 1) 5, (aa 1) 6, (aa 1) 7, (aa 1) 8, (aa 1) 9, (aa 1) 10, (aa 1) 11], [hh 2, (aa 2) 0, (aa 2) 1, (aa 2) 2, (aa 2) 3, (aa 2) 4, (aa 2) 5, (aa 2) 6, (aa 2) 7, (aa 2) 8, (aa 2) 9, (aa 2) 10, (aa 2) 11], [hh 3, (aa 3) 0, (aa 3) 1, (aa 3) 2, (aa 3) 3, (aa 3) 4, (aa 3) 5, (aa 3) 6, (aa 3) 7, (aa 3) 8, (aa 3) 9, (aa 3) 10, (aa 3) 11], [hh 4, (aa 4) 0, (aa 4) 1, (aa 4) 2, (aa 4) 3, (aa 4) 4, (aa 4) 5, (aa 4) 6, (aa 4) 7, (aa 4) 8, (aa 4) 9, (aa 4) 10, (aa 4) 11]]) rfl rfl)
    · refine lv_astore_n (lv' := [(2, .ref (hh 1)), (0, .ref h), (1, .ref v)]) hx hb dX0_takeBack_31 rfl hl (by decide) rfl (fun ls hl => ?_)
      refine lv_aload_n hx hb dX0_takeBack_32 rfl (lv_at hl 0 rfl) ?_
      refine lv_ifnull hx hb dX0_takeBack_33 ?_
      refine lv_aload_n hx hb dX0_takeBack_36 rfl (lv_at hl 2 rfl) ?_
      refine lv_aload_n hx hb dX0_takeBack_37 rfl (lv_at hl 0 rfl) ?_
      refine call_VU (As := [.ref (hh 1)]) (rest := []) E rfl hK hW (c_X3_copyFrom l g v va V (hh 1) (aa 1) (HV 1)) ok_X3_copyFrom rfl q1_199 [1, 3] rfl (by decide) (b_recv hK hP 1 0 rfl rfl rfl rfl) ⟨⟨rfl, rfl⟩, Nat.le_of_ble_eq_true rfl, Nat.le_of_ble_eq_true rfl⟩ hl.1 (Nat.le_of_ble_eq_true rfl) ⟨Nat.le_of_ble_eq_true rfl, Nat.le_of_ble_eq_true rfl⟩ rfl dX0_takeBack_38 (fun _u H locs _ hW => ?_)
      have hW : wd g _ s.heap [hB g h q hh o (n - 1), vB g v va (HV 1), vB g (hh 0) (aa 0) (HV 0), vB g (hh 1) (aa 1) (HV 1), vB g (hh 2) (aa 2) (HV 2), vB g (hh 3) (aa 3) (HV 3), vB g (hh 4) (aa 4) (HV 4)] H locs := hW
      have hP := hW.1
      exact uV_ret () hW hx hb hr hlocks dX0_takeBack_41 trivial (rfl) (adr2 (L := [[h, q], [v, va 0, va 1, va 2, va 3, va 4, va 5, va 6, va 7, va 8, va 9, va 10, va 11], [hh 0, (aa 0) 0, (aa 0) 1, (aa 0) 2, (aa 0) 3, (aa 0) 4, (aa 0) 5, (aa 0) 6, (aa 0) 7, (aa 0) 8, (aa 0) 9, (aa 0) 10, (aa 0) 11], [hh 1, (aa 1) 0, (aa 1) 1, (aa 1) 2, (aa 1) 3, (aa 1) 4, (aa 1) 5, (aa 1) 6, (aa 1) 7, (aa 1) 8, (aa 1) 9, (aa 1) 10, (aa 1) 11], [hh 2, (aa 2) 0, (aa 2) 1, (aa 2) 2, (aa 2) 3, (aa 2) 4, (aa 2) 5, (aa 2) 6, (aa 2) 7, (aa 2) 8, (aa 2) 9, (aa 2) 10, (aa 2) 11], [hh 3, (aa 3) 0, (aa 3) 1, (aa 3) 2, (aa 3) 3, (aa 3) 4, (aa 3) 5, (aa 3) 6, (aa 3) 7, (aa 3) 8, (aa 3) 9, (aa 3) 10, (aa 3) 11], [hh 4, (aa 4) 0, (aa 4) 1, (aa 4) 2, (aa 4) 3, (aa 4) 4, (aa 4) 5, (aa 4) 6, (aa 4) 7, (aa 4) 8, (aa 4) 9, (aa 4) 10, (aa 4) 11]]) rfl rfl)
    · refine lv_astore_n (lv' := [(2, .ref (hh 2)), (0, .ref h), (1, .ref v)]) hx hb dX0_takeBack_31 rfl hl (by decide) rfl (fun ls hl => ?_)
      refine lv_aload_n hx hb dX0_takeBack_32 rfl (lv_at hl 0 rfl) ?_
      refine lv_ifnull hx hb dX0_takeBack_33 ?_
      refine lv_aload_n hx hb dX0_takeBack_36 rfl (lv_at hl 2 rfl) ?_
      refine lv_aload_n hx hb dX0_takeBack_37 rfl (lv_at hl 0 rfl) ?_
      refine call_VU (As := [.ref (hh 2)]) (rest := []) E rfl hK hW (c_X3_copyFrom l g v va V (hh 2) (aa 2) (HV 2)) ok_X3_copyFrom rfl q1_199 [1, 4] rfl (by decide) (b_recv hK hP 1 0 rfl rfl rfl rfl) ⟨⟨rfl, rfl⟩, Nat.le_of_ble_eq_true rfl, Nat.le_of_ble_eq_true rfl⟩ hl.1 (Nat.le_of_ble_eq_true rfl) ⟨Nat.le_of_ble_eq_true rfl, Nat.le_of_ble_eq_true rfl⟩ rfl dX0_takeBack_38 (fun _u H locs _ hW => ?_)
      have hW : wd g _ s.heap [hB g h q hh o (n - 1), vB g v va (HV 2), vB g (hh 0) (aa 0) (HV 0), vB g (hh 1) (aa 1) (HV 1), vB g (hh 2) (aa 2) (HV 2), vB g (hh 3) (aa 3) (HV 3), vB g (hh 4) (aa 4) (HV 4)] H locs := hW
      have hP := hW.1
      exact uV_ret () hW hx hb hr hlocks dX0_takeBack_41 trivial (rfl) (adr2 (L := [[h, q], [v, va 0, va 1, va 2, va 3, va 4, va 5, va 6, va 7, va 8, va 9, va 10, va 11], [hh 0, (aa 0) 0, (aa 0) 1, (aa 0) 2, (aa 0) 3, (aa 0) 4, (aa 0) 5, (aa 0) 6, (aa 0) 7, (aa 0) 8, (aa 0) 9, (aa 0) 10, (aa 0) 11], [hh 1, (aa 1) 0, (aa 1) 1, (aa 1) 2, (aa 1) 3, (aa 1) 4, (aa 1) 5, (aa 1) 6, (aa 1) 7, (aa 1) 8, (aa 1) 9, (aa 1) 10, (aa 1) 11], [hh 2, (aa 2) 0, (aa 2) 1, (aa 2) 2, (aa 2) 3, (aa 2) 4, (aa 2) 5, (aa 2) 6, (aa 2) 7, (aa 2) 8, (aa 2) 9, (aa 2) 10, (aa 2) 11], [hh 3, (aa 3) 0, (aa 3) 1, (aa 3) 2, (aa 3) 3, (aa 3) 4, (aa 3) 5, (aa 3) 6, (aa 3) 7, (aa 3) 8, (aa 3) 9, (aa 3) 10, (aa 3) 11], [hh 4, (aa 4) 0, (aa 4) 1, (aa 4) 2, (aa 4) 3, (aa 4) 4, (aa 4) 5, (aa 4) 6, (aa 4) 7, (aa 4) 8, (aa 4) 9, (aa 4) 10, (aa 4) 11]]) rfl rfl)
    · refine lv_astore_n (lv' := [(2, .ref (hh 3)), (0, .ref h), (1, .ref v)]) hx hb dX0_takeBack_31 rfl hl (by decide) rfl (fun ls hl => ?_)
      refine lv_aload_n hx hb dX0_takeBack_32 rfl (lv_at hl 0 rfl) ?_
      refine lv_ifnull hx hb dX0_takeBack_33 ?_
      refine lv_aload_n hx hb dX0_takeBack_36 rfl (lv_at hl 2 rfl) ?_
      refine lv_aload_n hx hb dX0_takeBack_37 rfl (lv_at hl 0 rfl) ?_
      refine call_VU (As := [.ref (hh 3)]) (rest := []) E rfl hK hW (c_X3_copyFrom l g v va V (hh 3) (aa 3) (HV 3)) ok_X3_copyFrom rfl q1_199 [1, 5] rfl (by decide) (b_recv hK hP 1 0 rfl rfl rfl rfl) ⟨⟨rfl, rfl⟩, Nat.le_of_ble_eq_true rfl, Nat.le_of_ble_eq_true rfl⟩ hl.1 (Nat.le_of_ble_eq_true rfl) ⟨Nat.le_of_ble_eq_true rfl, Nat.le_of_ble_eq_true rfl⟩ rfl dX0_takeBack_38 (fun _u H locs _ hW => ?_)
      have hW : wd g _ s.heap [hB g h q hh o (n - 1), vB g v va (HV 3), vB g (hh 0) (aa 0) (HV 0), vB g (hh 1) (aa 1) (HV 1), vB g (hh 2) (aa 2) (HV 2), vB g (hh 3) (aa 3) (HV 3), vB g (hh 4) (aa 4) (HV 4)] H locs := hW
      have hP := hW.1
      exact uV_ret () hW hx hb hr hlocks dX0_takeBack_41 trivial (rfl) (adr2 (L := [[h, q], [v, va 0, va 1, va 2, va 3, va 4, va 5, va 6, va 7, va 8, va 9, va 10, va 11], [hh 0, (aa 0) 0, (aa 0) 1, (aa 0) 2, (aa 0) 3, (aa 0) 4, (aa 0) 5, (aa 0) 6, (aa 0) 7, (aa 0) 8, (aa 0) 9, (aa 0) 10, (aa 0) 11], [hh 1, (aa 1) 0, (aa 1) 1, (aa 1) 2, (aa 1) 3, (aa 1) 4, (aa 1) 5, (aa 1) 6, (aa 1) 7, (aa 1) 8, (aa 1) 9, (aa 1) 10, (aa 1) 11], [hh 2, (aa 2) 0, (aa 2) 1, (aa 2) 2, (aa 2) 3, (aa 2) 4, (aa 2) 5, (aa 2) 6, (aa 2) 7, (aa 2) 8, (aa 2) 9, (aa 2) 10, (aa 2) 11], [hh 3, (aa 3) 0, (aa 3) 1, (aa 3) 2, (aa 3) 3, (aa 3) 4, (aa 3) 5, (aa 3) 6, (aa 3) 7, (aa 3) 8, (aa 3) 9, (aa 3) 10, (aa 3) 11], [hh 4, (aa 4) 0, (aa 4) 1, (aa 4) 2, (aa 4) 3, (aa 4) 4, (aa 4) 5, (aa 4) 6, (aa 4) 7, (aa 4) 8, (aa 4) 9, (aa 4) 10, (aa 4) 11]]) rfl rfl)
    · refine lv_astore_n (lv' := [(2, .ref (hh 4)), (0, .ref h), (1, .ref v)]) hx hb dX0_takeBack_31 rfl hl (by decide) rfl (fun ls hl => ?_)
      refine lv_aload_n hx hb dX0_takeBack_32 rfl (lv_at hl 0 rfl) ?_
      refine lv_ifnull hx hb dX0_takeBack_33 ?_
      refine lv_aload_n hx hb dX0_takeBack_36 rfl (lv_at hl 2 rfl) ?_
      refine lv_aload_n hx hb dX0_takeBack_37 rfl (lv_at hl 0 rfl) ?_
      refine call_VU (As := [.ref (hh 4)]) (rest := []) E rfl hK hW (c_X3_copyFrom l g v va V (hh 4) (aa 4) (HV 4)) ok_X3_copyFrom rfl q1_199 [1, 6] rfl (by decide) (b_recv hK hP 1 0 rfl rfl rfl rfl) ⟨⟨rfl, rfl⟩, Nat.le_of_ble_eq_true rfl, Nat.le_of_ble_eq_true rfl⟩ hl.1 (Nat.le_of_ble_eq_true rfl) ⟨Nat.le_of_ble_eq_true rfl, Nat.le_of_ble_eq_true rfl⟩ rfl dX0_takeBack_38 (fun _u H locs _ hW => ?_)
      have hW : wd g _ s.heap [hB g h q hh o (n - 1), vB g v va (HV 4), vB g (hh 0) (aa 0) (HV 0), vB g (hh 1) (aa 1) (HV 1), vB g (hh 2) (aa 2) (HV 2), vB g (hh 3) (aa 3) (HV 3), vB g (hh 4) (aa 4) (HV 4)] H locs := hW
      have hP := hW.1
      exact uV_ret () hW hx hb hr hlocks dX0_takeBack_41 trivial (rfl) (adr2 (L := [[h, q], [v, va 0, va 1, va 2, va 3, va 4, va 5, va 6, va 7, va 8, va 9, va 10, va 11], [hh 0, (aa 0) 0, (aa 0) 1, (aa 0) 2, (aa 0) 3, (aa 0) 4, (aa 0) 5, (aa 0) 6, (aa 0) 7, (aa 0) 8, (aa 0) 9, (aa 0) 10, (aa 0) 11], [hh 1, (aa 1) 0, (aa 1) 1, (aa 1) 2, (aa 1) 3, (aa 1) 4, (aa 1) 5, (aa 1) 6, (aa 1) 7, (aa 1) 8, (aa 1) 9, (aa 1) 10, (aa 1) 11], [hh 2, (aa 2) 0, (aa 2) 1, (aa 2) 2, (aa 2) 3, (aa 2) 4, (aa 2) 5, (aa 2) 6, (aa 2) 7, (aa 2) 8, (aa 2) 9, (aa 2) 10, (aa 2) 11], [hh 3, (aa 3) 0, (aa 3) 1, (aa 3) 2, (aa 3) 3, (aa 3) 4, (aa 3) 5, (aa 3) 6, (aa 3) 7, (aa 3) 8, (aa 3) 9, (aa 3) 10, (aa 3) 11], [hh 4, (aa 4) 0, (aa 4) 1, (aa 4) 2, (aa 4) 3, (aa 4) 4, (aa 4) 5, (aa 4) 6, (aa 4) 7, (aa 4) 8, (aa 4) 9, (aa 4) 10, (aa 4) 11]]) rfl rfl)
  · exact absurd h_1 (nI_ne0 hn0 (by omega))
end
section
/-! ===== WORDS of the text ===== -/
def sg (T : Nat → Nat) (n i : Nat) : Nat := if i < n then T i else 0
theorem sg_lt {T : Nat → Nat} {n : Nat} (hT : ∀ i, T i < 127) (i : Nat) : sg T n i < 127 := by
  unfold sg; split
  · exact hT i
  · omega
def oI : Option Nat → Int32
  | none => -1
  | some d => nI d
def ltr (c : Nat) : Option Nat := if c = 112 then some 1 else if c = 115 then some 2 else if c = 116 then some 4 else none
def ab (k c : Nat) : Option Nat := if c = 59 then some 0 else if 48 + k ≤ c ∧ c ≤ 48 + 4 then some (5 + (c - 48) + 1) else none
def stp : Nat → Nat → Option Nat
  | 0, c => ltr c
  | 1, c => if 48 + 0 ≤ c ∧ c ≤ 48 + 5 then some 5 else none
  | 2, c => if 48 + 0 ≤ c ∧ c ≤ 48 + 5 then some 3 else none
  | 3, c => if 48 + 0 ≤ c ∧ c ≤ 48 + 4 then some 10 else none
  | 4, c => if 48 + 1 ≤ c ∧ c ≤ 48 + 9 then some 10 else none
  | d + 5, c => ab d c
theorem stp_ge {d c : Nat} (h : 5 ≤ d) : stp d c = ab (d - 5) c := by
  obtain ⟨e, rfl⟩ : ∃ e, d = e + 5 := ⟨d - 5, by omega⟩
  rw [stp]; rfl
theorem stp_le {d c d' : Nat} (h : stp d c = some d') : d' ≤ 10 := by
  unfold stp at h
  split at h
  · unfold ltr at h; split at h <;> (try split at h) <;> (try split at h) <;> simp at h <;> omega
  · split at h <;> simp at h; omega
  · split at h <;> simp at h; omega
  · split at h <;> simp at h; omega
  · split at h <;> simp at h; omega
  · unfold ab at h; split at h
    · simp at h; omega
    · split at h
      · simp at h; omega
      · simp at h
theorem nI_m1 {d : Nat} (h : d ≤ 10) : ¬ nI d = -1 := by
  intro q
  have h1 := congrArg Int32.toInt q
  rw [nI_toInt (by omega)] at h1
  have h2 : (-1 : Int32).toInt = -1 := by decide
  omega
theorem stp_none {d c : Nat} (h : oI (stp d c) = -1) : stp d c = none := by
  cases e : stp d c with
  | none => rfl
  | some d' => rw [e] at h; exact absurd h (nI_m1 (stp_le e))
theorem stp_some {d c : Nat} (h : ¬ oI (stp d c) = -1) : ∃ d', stp d c = some d' := by
  cases e : stp d c with
  | none => rw [e] at h; exact absurd rfl h
  | some d' => exact ⟨d', rfl⟩
def bfN (T : Nat → Nat) (n : Nat) : Nat → Nat → Int32 → Int32
  | 0, _, acc => acc
  | m + 1, i, acc => if sg T n i = 59 then acc else bfN T n m (i + 1) (acc ||| (1 <<< ((nI (sg T n i) - 48) &&& 31)))
def ffN (T : Nat → Nat) (n : Nat) : Nat → Nat → Nat → Int32
  | 0, _, d => if 5 ≤ d then -5 else nI n
  | m + 1, i, d => match stp d (sg T n i) with
    | none => nI i
    | some d' => ffN T n m (i + 1) d'
theorem ffN_none {T : Nat → Nat} {n m i d : Nat} (h : stp d (sg T n i) = none) : ffN T n (m + 1) i d = nI i := by rw [ffN, h]
theorem ffN_some {T : Nat → Nat} {n m i d d' : Nat} (h : stp d (sg T n i) = some d') : ffN T n (m + 1) i d = ffN T n m (i + 1) d' := by rw [ffN, h]
def upT (T : Nat → Nat) (n c : Nat) : Nat → Nat := fun i => if i = n then c else T i
theorem upT_eq (T : Nat → Nat) (n c : Nat) : upd (fun i => nI (T i)) n (nI c) = fun i => nI (upT T n c i) := by
  funext i
  unfold upd upT
  split <;> rfl
theorem charN {c : Nat} (h : c < 65536) : vp_nar .char (nI c) = nI c := by
  unfold vp_nar
  rw [(pk_charN h).1]
end
section
set_option maxHeartbeats 4000000 in
set_option maxRecDepth 100000 in
theorem c_X2_signAt (l : Launch) (g : gx) (h a : Nat) (T : Nat → Nat) (n : Nat) (hn : n ≤ 60) (i : Nat) (hi : i < 1000)  : cR l g yX2_signAt cX2_signAt 2 (some .int) ({ frames := 0, cells := 0, slots := 0, locals := 0 } : Room) [.ref h, .int (nI i)] [tB g h a T n] (.int (nI (sg T n i))) := by
  refine cR.mk (by decide +kernel) (Nat.le_of_ble_eq_true rfl) ?_
  intro p e s m below meth c ls E hK hP hl
  obtain ⟨hx, hb, hr, hml, hts, hown, hlocks, hin⟩ := id E
  have hown : s.vm.findClass RX2 = some m.cls := hown
  have hl : lv_has ls 2 [(0, .ref h), (1, .int (nI i))] := hl
  refine lv_iload_n hx hb dX2_signAt_0 rfl (lv_at hl 1 rfl) ?_
  refine lv_if_lt (tgt := 27) hx hb dX2_signAt_1 (by decide) (fun h_1 => ?_) (fun h_1 => ?_)
  · exact absurd h_1 (nI_pos (by omega))
  · refine lv_iload_n hx hb dX2_signAt_4 rfl (lv_at hl 1 rfl) ?_
    refine lv_aload_n hx hb dX2_signAt_5 rfl (lv_at hl 0 rfl) ?_
    refine b_get (v := .int (nI n)) hx hb hts inX2 hown hK hP 0 0 1 rfl rfl rfl (by decide) q1_154 rfl rfl dX2_signAt_6 ?_
    refine b_ge (tgt := 27) (i) (n) hx hb rfl rfl (by omega) (by omega) dX2_signAt_9 (by decide) (fun h_2 => ?_) (fun h_2 => ?_)
    · refine lv_iconst (v := 0) hx hb dX2_signAt_27 (by decide) ?_
      exact rI_ret hx hb hr hlocks dX2_signAt_28 (by rw [sg]; first | rw [if_pos (by omega)] | (rw [if_neg (by omega)]; rfl))
    · refine lv_iload_n hx hb dX2_signAt_12 rfl (lv_at hl 1 rfl) ?_
      refine lv_bipush (v := 60) hx hb dX2_signAt_13 (by decide) ?_
      refine b_ge (tgt := 27) (i) (60) hx hb rfl rfl (by omega) (by omega) dX2_signAt_15 (by decide) (fun h_3 => ?_) (fun h_3 => ?_)
      · omega
      · refine lv_aload_n hx hb dX2_signAt_18 rfl (lv_at hl 0 rfl) ?_
        refine b_get (v := .ref a) hx hb hts inX2 hown hK hP 0 0 0 rfl rfl rfl (by decide) q1_153 rfl rfl dX2_signAt_19 ?_
        refine lv_iload_n hx hb dX2_signAt_22 rfl (lv_at hl 1 rfl) ?_
        refine b_cald (v := nI (T i)) hx hb hK hP 0 1 (i) rfl rfl rfl (by omega) rfl rfl dX2_signAt_23 ?_
        refine lv_goto (tgt := 28) hx hb dX2_signAt_24 (by decide) ?_
        exact rI_ret hx hb hr hlocks dX2_signAt_28 (by rw [sg]; first | rw [if_pos (by omega)] | (rw [if_neg (by omega)]; rfl))

set_option maxHeartbeats 4000000 in
set_option maxRecDepth 100000 in
theorem c_X2_digitAt (l : Launch) (g : gx) (h a : Nat) (T : Nat → Nat) (n : Nat) (hn : n ≤ 60) (i : Nat) (hi : i < 1000)  : cR l g yX2_digitAt cX2_digitAt 2 (some .int) ({ frames := 1, cells := 0, slots := 0, locals := 21 } : Room) [.ref h, .int (nI i)] [tB g h a T n] (.int (nI (sg T n i) - 48)) := by
  refine cR.mk (by decide +kernel) (Nat.le_of_ble_eq_true rfl) ?_
  intro p e s m below meth c ls E hK hP hl
  obtain ⟨hx, hb, hr, hml, hts, hown, hlocks, hin⟩ := id E
  have hown : s.vm.findClass RX2 = some m.cls := hown
  have hl : lv_has ls 2 [(0, .ref h), (1, .int (nI i))] := hl
  refine lv_aload_n hx hb dX2_digitAt_0 rfl (lv_at hl 0 rfl) ?_
  refine lv_iload_n hx hb dX2_digitAt_1 rfl (lv_at hl 1 rfl) ?_
  refine call_VR (As := [.int (nI i)]) (rest := []) E rfl hK hP (c_X2_signAt l g h a T n (by omega) i (by omega)) ok_X2_signAt rfl q2_134 [0] rfl (b_recv hK hP 0 0 rfl rfl rfl rfl) ⟨⟨rfl, rfl⟩, Nat.le_of_ble_eq_true rfl, Nat.le_of_ble_eq_true rfl⟩ hl.1 (Nat.le_of_ble_eq_true rfl) ⟨Nat.le_of_ble_eq_true rfl, Nat.le_of_ble_eq_true rfl⟩ rfl dX2_digitAt_2 ?_
  refine lv_bipush (v := 48) hx hb dX2_digitAt_5 (by decide) ?_
  refine lv_isub hx hb dX2_digitAt_7 ?_
  exact rI_ret hx hb hr hlocks dX2_digitAt_8 (rfl)

set_option maxHeartbeats 4000000 in
set_option maxRecDepth 100000 in
theorem c_X2_afterLetter (l : Launch) (g : gx) (c0 : Nat) (hc : c0 < 1000)  : cR l g yX2_afterLetter cX2_afterLetter 1 (some .int) ({ frames := 0, cells := 0, slots := 0, locals := 0 } : Room) [.int (nI c0)] [] (.int (oI (ltr c0))) := by
  refine cR.mk (by decide +kernel) (Nat.le_of_ble_eq_true rfl) ?_
  intro p e s m below meth c ls E hK hP hl
  obtain ⟨hx, hb, hr, hml, hts, hown, hlocks, hin⟩ := id E
  have hown : s.vm.findClass RX2 = some m.cls := hown
  have hl : lv_has ls 1 [(0, .int (nI c0))] := hl
  refine lv_iload_n hx hb dX2_afterLetter_0 rfl (lv_at hl 0 rfl) ?_
  rcases (show c0 = 112 ∨ c0 = 113 ∨ c0 = 114 ∨ c0 = 115 ∨ c0 = 116 ∨ (c0 < 112 ∨ 116 < c0) by omega) with hsw | hsw | hsw | hsw | hsw | hsw
  · obtain rfl := hsw
    refine lv_tableIn (off := 35) (tgt := 36) hx hb dX2_afterLetter_1 (by decide) (by decide) rfl (by decide) ?_
    refine lv_iconst (v := 1) hx hb dX2_afterLetter_36 (by decide) ?_
    exact rI_ret hx hb hr hlocks dX2_afterLetter_37 (rfl)
  · obtain rfl := hsw
    refine lv_tableIn (off := 41) (tgt := 42) hx hb dX2_afterLetter_1 (by decide) (by decide) rfl (by decide) ?_
    refine lv_iconst (v := -1) hx hb dX2_afterLetter_42 (by decide) ?_
    exact rI_ret hx hb hr hlocks dX2_afterLetter_43 (by first | rfl | (rw [ltr, if_neg (by omega), if_neg (by omega), if_neg (by omega)]; rfl))
  · obtain rfl := hsw
    refine lv_tableIn (off := 41) (tgt := 42) hx hb dX2_afterLetter_1 (by decide) (by decide) rfl (by decide) ?_
    refine lv_iconst (v := -1) hx hb dX2_afterLetter_42 (by decide) ?_
    exact rI_ret hx hb hr hlocks dX2_afterLetter_43 (by first | rfl | (rw [ltr, if_neg (by omega), if_neg (by omega), if_neg (by omega)]; rfl))
  · obtain rfl := hsw
    refine lv_tableIn (off := 37) (tgt := 38) hx hb dX2_afterLetter_1 (by decide) (by decide) rfl (by decide) ?_
    refine lv_iconst (v := 2) hx hb dX2_afterLetter_38 (by decide) ?_
    exact rI_ret hx hb hr hlocks dX2_afterLetter_39 (rfl)
  · obtain rfl := hsw
    refine lv_tableIn (off := 39) (tgt := 40) hx hb dX2_afterLetter_1 (by decide) (by decide) rfl (by decide) ?_
    refine lv_iconst (v := 4) hx hb dX2_afterLetter_40 (by decide) ?_
    exact rI_ret hx hb hr hlocks dX2_afterLetter_41 (rfl)
  · refine lv_tableOut (tgt := 42) hx hb dX2_afterLetter_1 (by rw [nI_toInt (by omega)]; omega) (by decide) ?_
    refine lv_iconst (v := -1) hx hb dX2_afterLetter_42 (by decide) ?_
    exact rI_ret hx hb hr hlocks dX2_afterLetter_43 (by first | rfl | (rw [ltr, if_neg (by omega), if_neg (by omega), if_neg (by omega)]; rfl))

set_option maxHeartbeats 4000000 in
set_option maxRecDepth 100000 in
theorem c_X2_isDigit (l : Launch) (g : gx) (c0 p1 p2 : Nat) (hc : c0 < 1000) (h1 : p1 < 100) (h2 : p2 < 100)  : cR l g yX2_isDigit cX2_isDigit 3 (some .boolean) ({ frames := 0, cells := 0, slots := 0, locals := 0 } : Room) [.int (nI c0), .int (nI p1), .int (nI p2)] [] (.int (bI (48 + p1 ≤ c0 ∧ c0 ≤ 48 + p2))) := by
  refine cR.mk (by decide +kernel) (Nat.le_of_ble_eq_true rfl) ?_
  intro p e s m below meth c ls E hK hP hl
  obtain ⟨hx, hb, hr, hml, hts, hown, hlocks, hin⟩ := id E
  have hown : s.vm.findClass RX2 = some m.cls := hown
  have hl : lv_has ls 3 [(0, .int (nI c0)), (1, .int (nI p1)), (2, .int (nI p2))] := hl
  refine lv_iload_n hx hb dX2_isDigit_0 rfl (lv_at hl 0 rfl) ?_
  refine lv_bipush (v := 48) hx hb dX2_isDigit_1 (by decide) ?_
  refine lv_iload_n hx hb dX2_isDigit_3 rfl (lv_at hl 1 rfl) ?_
  refine lv_iadd hx hb dX2_isDigit_4 ?_
  refine b_top (y := nI (48 + p1)) (nI_add 48 p1) ?_
  refine b_lt (tgt := 20) (c0) (48 + p1) hx hb rfl rfl (by omega) (by omega) dX2_isDigit_5 (by decide) (fun h_1 => ?_) (fun h_1 => ?_)
  · refine lv_iconst (v := 0) hx hb dX2_isDigit_20 (by decide) ?_
    exact rZ_ret hx hb hr hlocks dX2_isDigit_21 (by first | exact bI_t (by omega) | exact bI_f (by omega))
  · refine lv_iload_n hx hb dX2_isDigit_8 rfl (lv_at hl 0 rfl) ?_
    refine lv_bipush (v := 48) hx hb dX2_isDigit_9 (by decide) ?_
    refine lv_iload_n hx hb dX2_isDigit_11 rfl (lv_at hl 2 rfl) ?_
    refine lv_iadd hx hb dX2_isDigit_12 ?_
    refine b_top (y := nI (48 + p2)) (nI_add 48 p2) ?_
    refine b_gt (tgt := 20) (c0) (48 + p2) hx hb rfl rfl (by omega) (by omega) dX2_isDigit_13 (by decide) (fun h_2 => ?_) (fun h_2 => ?_)
    · refine lv_iconst (v := 0) hx hb dX2_isDigit_20 (by decide) ?_
      exact rZ_ret hx hb hr hlocks dX2_isDigit_21 (by first | exact bI_t (by omega) | exact bI_f (by omega))
    · refine lv_iconst (v := 1) hx hb dX2_isDigit_16 (by decide) ?_
      refine lv_goto (tgt := 21) hx hb dX2_isDigit_17 (by decide) ?_
      exact rZ_ret hx hb hr hlocks dX2_isDigit_21 (by first | exact bI_t (by omega) | exact bI_f (by omega))

set_option maxHeartbeats 4000000 in
set_option maxRecDepth 100000 in
theorem c_X2_afterBells (l : Launch) (g : gx) (k c0 : Nat) (hc : c0 < 1000) (hk : k ≤ 5)  : cR l g yX2_afterBells cX2_afterBells 2 (some .int) ({ frames := 1, cells := 0, slots := 0, locals := 22 } : Room) [.int (nI k), .int (nI c0)] [] (.int (oI (ab k c0))) := by
  refine cR.mk (by decide +kernel) (Nat.le_of_ble_eq_true rfl) ?_
  intro p e s m below meth c ls E hK hP hl
  obtain ⟨hx, hb, hr, hml, hts, hown, hlocks, hin⟩ := id E
  have hown : s.vm.findClass RX2 = some m.cls := hown
  have hl : lv_has ls 2 [(0, .int (nI k)), (1, .int (nI c0))] := hl
  refine lv_iload_n hx hb dX2_afterBells_0 rfl (lv_at hl 1 rfl) ?_
  refine lv_bipush (v := 59) hx hb dX2_afterBells_1 (by decide) ?_
  refine b_ne (tgt := 8) (c0) (59) hx hb rfl rfl (by omega) (by omega) dX2_afterBells_3 (by decide) (fun h_1 => ?_) (fun h_1 => ?_)
  · refine lv_iload_n hx hb dX2_afterBells_8 rfl (lv_at hl 1 rfl) ?_
    refine lv_iload_n hx hb dX2_afterBells_9 rfl (lv_at hl 0 rfl) ?_
    refine lv_iconst (v := 4) hx hb dX2_afterBells_10 (by decide) ?_
    refine call_SR (As := [.int (nI c0), .int (nI k), .int 4]) (rest := []) E rfl hK hP (c_X2_isDigit l g c0 k 4 (by omega) (by omega) (by omega)) ok_X2_isDigit rfl q2_144 [] rfl ⟨⟨rfl, rfl⟩, Nat.le_of_ble_eq_true rfl, Nat.le_of_ble_eq_true rfl⟩ hl.1 (Nat.le_of_ble_eq_true rfl) ⟨Nat.le_of_ble_eq_true rfl, Nat.le_of_ble_eq_true rfl⟩ rfl dX2_afterBells_11 ?_
    refine b_eq0 (tgt := 26) hx hb dX2_afterBells_14 (by decide) (fun h_2 => ?_) (fun h_2 => ?_)
    · refine lv_iconst (v := -1) hx hb dX2_afterBells_26 (by decide) ?_
      exact rI_ret hx hb hr hlocks dX2_afterBells_27 (by rw [ab, if_neg h_1, if_neg h_2]; rfl)
    · refine lv_iconst (v := 5) hx hb dX2_afterBells_17 (by decide) ?_
      refine lv_iload_n hx hb dX2_afterBells_18 rfl (lv_at hl 1 rfl) ?_
      refine lv_bipush (v := 48) hx hb dX2_afterBells_19 (by decide) ?_
      refine lv_isub hx hb dX2_afterBells_21 ?_
      refine b_top (y := nI (c0 - 48)) (pk_sub (a := c0) (b := 48) (by omega)) ?_
      refine lv_iadd hx hb dX2_afterBells_22 ?_
      refine b_top (y := nI (5 + (c0 - 48))) (nI_add 5 (c0 - 48)) ?_
      refine lv_iconst (v := 1) hx hb dX2_afterBells_23 (by decide) ?_
      refine lv_iadd hx hb dX2_afterBells_24 ?_
      refine b_top (y := nI ((5 + (c0 - 48)) + 1)) (nI_add (5 + (c0 - 48)) 1) ?_
      exact rI_ret hx hb hr hlocks dX2_afterBells_25 (by rw [ab, if_neg h_1, if_pos h_2]; rfl)
  · refine lv_iconst (v := 0) hx hb dX2_afterBells_6 (by decide) ?_
    exact rI_ret hx hb hr hlocks dX2_afterBells_7 (by rw [ab, if_pos h_1]; rfl)
end
section
set_option maxHeartbeats 4000000 in
set_option maxRecDepth 100000 in
theorem c_X2_after (l : Launch) (g : gx) (d c0 : Nat) (hd : d ≤ 10) (hc : c0 < 1000)  : cR l g yX2_after cX2_after 2 (some .int) ({ frames := 2, cells := 0, slots := 0, locals := 43 } : Room) [.int (nI d), .int (nI c0)] [] (.int (oI (stp d c0))) := by
  refine cR.mk (by decide +kernel) (Nat.le_of_ble_eq_true rfl) ?_
  intro p e s m below meth c ls E hK hP hl
  obtain ⟨hx, hb, hr, hml, hts, hown, hlocks, hin⟩ := id E
  have hown : s.vm.findClass RX2 = some m.cls := hown
  have hl : lv_has ls 2 [(0, .int (nI d)), (1, .int (nI c0))] := hl
  refine lv_iload_n hx hb dX2_after_0 rfl (lv_at hl 0 rfl) ?_
  rcases (show d = 0 ∨ d = 1 ∨ d = 2 ∨ d = 3 ∨ d = 4 ∨ 5 ≤ d by omega) with hsw | hsw | hsw | hsw | hsw | hsw
  · obtain rfl := hsw
    refine lv_tableIn (off := 35) (tgt := 36) hx hb dX2_after_1 (by decide) (by decide) rfl (by decide) ?_
    refine lv_iload_n hx hb dX2_after_36 rfl (lv_at hl 1 rfl) ?_
    refine call_SR (As := [.int (nI c0)]) (rest := []) E rfl hK hP (c_X2_afterLetter l g c0 (by omega)) ok_X2_afterLetter rfl q2_141 [] rfl ⟨⟨rfl, rfl⟩, Nat.le_of_ble_eq_true rfl, Nat.le_of_ble_eq_true rfl⟩ hl.1 (Nat.le_of_ble_eq_true rfl) ⟨Nat.le_of_ble_eq_true rfl, Nat.le_of_ble_eq_true rfl⟩ rfl dX2_after_37 ?_
    exact rI_ret hx hb hr hlocks dX2_after_40 (rfl)
  · obtain rfl := hsw
    refine lv_tableIn (off := 40) (tgt := 41) hx hb dX2_after_1 (by decide) (by decide) rfl (by decide) ?_
    refine lv_iload_n hx hb dX2_after_41 rfl (lv_at hl 1 rfl) ?_
    refine lv_iconst (v := 0) hx hb dX2_after_42 (by decide) ?_
    refine lv_iconst (v := 5) hx hb dX2_after_43 (by decide) ?_
    refine call_SR (As := [.int (nI c0), .int 0, .int 5]) (rest := []) E rfl hK hP (c_X2_isDigit l g c0 0 5 (by omega) (by omega) (by omega)) ok_X2_isDigit rfl q2_144 [] rfl ⟨⟨rfl, rfl⟩, Nat.le_of_ble_eq_true rfl, Nat.le_of_ble_eq_true rfl⟩ hl.1 (Nat.le_of_ble_eq_true rfl) ⟨Nat.le_of_ble_eq_true rfl, Nat.le_of_ble_eq_true rfl⟩ rfl dX2_after_44 ?_
    refine b_eq0 (tgt := 54) hx hb dX2_after_47 (by decide) (fun h_1 => ?_) (fun h_1 => ?_)
    · refine lv_iconst (v := -1) hx hb dX2_after_54 (by decide) ?_
      exact rI_ret hx hb hr hlocks dX2_after_55 (by first | rfl | (rw [stp, if_pos h_1]; rfl) | (rw [stp, if_neg h_1]; rfl))
    · refine lv_iconst (v := 5) hx hb dX2_after_50 (by decide) ?_
      refine lv_goto (tgt := 55) hx hb dX2_after_51 (by decide) ?_
      exact rI_ret hx hb hr hlocks dX2_after_55 (by first | rfl | (rw [stp, if_pos h_1]; rfl) | (rw [stp, if_neg h_1]; rfl))
  · obtain rfl := hsw
    refine lv_tableIn (off := 55) (tgt := 56) hx hb dX2_after_1 (by decide) (by decide) rfl (by decide) ?_
    refine lv_iload_n hx hb dX2_after_56 rfl (lv_at hl 1 rfl) ?_
    refine lv_iconst (v := 0) hx hb dX2_after_57 (by decide) ?_
    refine lv_iconst (v := 5) hx hb dX2_after_58 (by decide) ?_
    refine call_SR (As := [.int (nI c0), .int 0, .int 5]) (rest := []) E rfl hK hP (c_X2_isDigit l g c0 0 5 (by omega) (by omega) (by omega)) ok_X2_isDigit rfl q2_144 [] rfl ⟨⟨rfl, rfl⟩, Nat.le_of_ble_eq_true rfl, Nat.le_of_ble_eq_true rfl⟩ hl.1 (Nat.le_of_ble_eq_true rfl) ⟨Nat.le_of_ble_eq_true rfl, Nat.le_of_ble_eq_true rfl⟩ rfl dX2_after_59 ?_
    refine b_eq0 (tgt := 69) hx hb dX2_after_62 (by decide) (fun h_2 => ?_) (fun h_2 => ?_)
    · refine lv_iconst (v := -1) hx hb dX2_after_69 (by decide) ?_
      exact rI_ret hx hb hr hlocks dX2_after_70 (by first | rfl | (rw [stp, if_pos h_2]; rfl) | (rw [stp, if_neg h_2]; rfl))
    · refine lv_iconst (v := 3) hx hb dX2_after_65 (by decide) ?_
      refine lv_goto (tgt := 70) hx hb dX2_after_66 (by decide) ?_
      exact rI_ret hx hb hr hlocks dX2_after_70 (by first | rfl | (rw [stp, if_pos h_2]; rfl) | (rw [stp, if_neg h_2]; rfl))
  · obtain rfl := hsw
    refine lv_tableIn (off := 70) (tgt := 71) hx hb dX2_after_1 (by decide) (by decide) rfl (by decide) ?_
    refine lv_iload_n hx hb dX2_after_71 rfl (lv_at hl 1 rfl) ?_
    refine lv_iconst (v := 0) hx hb dX2_after_72 (by decide) ?_
    refine lv_iconst (v := 4) hx hb dX2_after_73 (by decide) ?_
    refine call_SR (As := [.int (nI c0), .int 0, .int 4]) (rest := []) E rfl hK hP (c_X2_isDigit l g c0 0 4 (by omega) (by omega) (by omega)) ok_X2_isDigit rfl q2_144 [] rfl ⟨⟨rfl, rfl⟩, Nat.le_of_ble_eq_true rfl, Nat.le_of_ble_eq_true rfl⟩ hl.1 (Nat.le_of_ble_eq_true rfl) ⟨Nat.le_of_ble_eq_true rfl, Nat.le_of_ble_eq_true rfl⟩ rfl dX2_after_74 ?_
    refine b_eq0 (tgt := 85) hx hb dX2_after_77 (by decide) (fun h_3 => ?_) (fun h_3 => ?_)
    · refine lv_iconst (v := -1) hx hb dX2_after_85 (by decide) ?_
      exact rI_ret hx hb hr hlocks dX2_after_86 (by first | rfl | (rw [stp, if_pos h_3]; rfl) | (rw [stp, if_neg h_3]; rfl))
    · refine lv_bipush (v := 10) hx hb dX2_after_80 (by decide) ?_
      refine lv_goto (tgt := 86) hx hb dX2_after_82 (by decide) ?_
      exact rI_ret hx hb hr hlocks dX2_after_86 (by first | rfl | (rw [stp, if_pos h_3]; rfl) | (rw [stp, if_neg h_3]; rfl))
  · obtain rfl := hsw
    refine lv_tableIn (off := 86) (tgt := 87) hx hb dX2_after_1 (by decide) (by decide) rfl (by decide) ?_
    refine lv_iload_n hx hb dX2_after_87 rfl (lv_at hl 1 rfl) ?_
    refine lv_iconst (v := 1) hx hb dX2_after_88 (by decide) ?_
    refine lv_bipush (v := 9) hx hb dX2_after_89 (by decide) ?_
    refine call_SR (As := [.int (nI c0), .int 1, .int 9]) (rest := []) E rfl hK hP (c_X2_isDigit l g c0 1 9 (by omega) (by omega) (by omega)) ok_X2_isDigit rfl q2_144 [] rfl ⟨⟨rfl, rfl⟩, Nat.le_of_ble_eq_true rfl, Nat.le_of_ble_eq_true rfl⟩ hl.1 (Nat.le_of_ble_eq_true rfl) ⟨Nat.le_of_ble_eq_true rfl, Nat.le_of_ble_eq_true rfl⟩ rfl dX2_after_91 ?_
    refine b_eq0 (tgt := 102) hx hb dX2_after_94 (by decide) (fun h_4 => ?_) (fun h_4 => ?_)
    · refine lv_iconst (v := -1) hx hb dX2_after_102 (by decide) ?_
      exact rI_ret hx hb hr hlocks dX2_after_103 (by first | rfl | (rw [stp, if_pos h_4]; rfl) | (rw [stp, if_neg h_4]; rfl))
    · refine lv_bipush (v := 10) hx hb dX2_after_97 (by decide) ?_
      refine lv_goto (tgt := 103) hx hb dX2_after_99 (by decide) ?_
      exact rI_ret hx hb hr hlocks dX2_after_103 (by first | rfl | (rw [stp, if_pos h_4]; rfl) | (rw [stp, if_neg h_4]; rfl))
  · refine lv_tableOut (tgt := 104) hx hb dX2_after_1 (by rw [nI_toInt (by omega)]; omega) (by decide) ?_
    refine lv_iload_n hx hb dX2_after_104 rfl (lv_at hl 0 rfl) ?_
    refine lv_iconst (v := 5) hx hb dX2_after_105 (by decide) ?_
    refine lv_isub hx hb dX2_after_106 ?_
    refine b_top (y := nI (d - 5)) (pk_sub (a := d) (b := 5) (by omega)) ?_
    refine lv_iload_n hx hb dX2_after_107 rfl (lv_at hl 1 rfl) ?_
    refine call_SR (As := [.int (nI (d - 5)), .int (nI c0)]) (rest := []) E rfl hK hP (c_X2_afterBells l g (d - 5) c0 (by omega) (by omega)) ok_X2_afterBells rfl q2_147 [] rfl ⟨⟨rfl, rfl⟩, Nat.le_of_ble_eq_true rfl, Nat.le_of_ble_eq_true rfl⟩ hl.1 (Nat.le_of_ble_eq_true rfl) ⟨Nat.le_of_ble_eq_true rfl, Nat.le_of_ble_eq_true rfl⟩ rfl dX2_after_108 ?_
    exact rI_ret hx hb hr hlocks dX2_after_111 (by rw [stp_ge (by omega)])

set_option maxHeartbeats 4000000 in
set_option maxRecDepth 100000 in
theorem c_X2_beginsOrder (l : Launch) (g : gx) (h a : Nat) (T : Nat → Nat) (n : Nat) (hn : n ≤ 60) (hT : ∀ i, T i < 127) (i : Nat) (hi : i < 1000)  : cR l g yX2_beginsOrder cX2_beginsOrder 2 (some .boolean) ({ frames := 1, cells := 0, slots := 0, locals := 21 } : Room) [.ref h, .int (nI i)] [tB g h a T n] (.int (bI (¬ oI (ltr (sg T n i)) = -1))) := by
  refine cR.mk (by decide +kernel) (Nat.le_of_ble_eq_true rfl) ?_
  intro p e s m below meth c ls E hK hP hl
  obtain ⟨hx, hb, hr, hml, hts, hown, hlocks, hin⟩ := id E
  have hown : s.vm.findClass RX2 = some m.cls := hown
  have hl : lv_has ls 2 [(0, .ref h), (1, .int (nI i))] := hl
  have hsg := sg_lt (n := n) hT i
  refine lv_aload_n hx hb dX2_beginsOrder_0 rfl (lv_at hl 0 rfl) ?_
  refine lv_iload_n hx hb dX2_beginsOrder_1 rfl (lv_at hl 1 rfl) ?_
  refine call_VR (As := [.int (nI i)]) (rest := []) E rfl hK hP (c_X2_signAt l g h a T n (by omega) i (by omega)) ok_X2_signAt rfl q2_134 [0] rfl (b_recv hK hP 0 0 rfl rfl rfl rfl) ⟨⟨rfl, rfl⟩, Nat.le_of_ble_eq_true rfl, Nat.le_of_ble_eq_true rfl⟩ hl.1 (Nat.le_of_ble_eq_true rfl) ⟨Nat.le_of_ble_eq_true rfl, Nat.le_of_ble_eq_true rfl⟩ rfl dX2_beginsOrder_2 ?_
  refine call_SR (As := [.int (nI (sg T n i))]) (rest := []) E rfl hK hP (c_X2_afterLetter l g (sg T n i) (by omega)) ok_X2_afterLetter rfl q2_141 [] rfl ⟨⟨rfl, rfl⟩, Nat.le_of_ble_eq_true rfl, Nat.le_of_ble_eq_true rfl⟩ hl.1 (Nat.le_of_ble_eq_true rfl) ⟨Nat.le_of_ble_eq_true rfl, Nat.le_of_ble_eq_true rfl⟩ rfl dX2_beginsOrder_5 ?_
  refine lv_iconst (v := -1) hx hb dX2_beginsOrder_8 (by decide) ?_
  refine lv_icmp_eq (tgt := 16) hx hb dX2_beginsOrder_9 (by decide) (fun h_1 => ?_) (fun h_1 => ?_)
  · refine lv_iconst (v := 0) hx hb dX2_beginsOrder_16 (by decide) ?_
    exact rZ_ret hx hb hr hlocks dX2_beginsOrder_17 (by first | exact bI_t h_1 | exact bI_f (fun q => q h_1))
  · refine lv_iconst (v := 1) hx hb dX2_beginsOrder_12 (by decide) ?_
    refine lv_goto (tgt := 17) hx hb dX2_beginsOrder_13 (by decide) ?_
    exact rZ_ret hx hb hr hlocks dX2_beginsOrder_17 (by first | exact bI_t h_1 | exact bI_f (fun q => q h_1))

set_option maxHeartbeats 4000000 in
set_option maxRecDepth 100000 in
theorem c_X2_bellsFrom (l : Launch) (g : gx) (h a : Nat) (T : Nat → Nat) (n : Nat) (hn : n ≤ 60) (hT : ∀ i, T i < 127) (i0 : Nat) (hi : i0 < 500)  : cR l g yX2_bellsFrom cX2_bellsFrom 4 (some .int) ({ frames := 2, cells := 0, slots := 0, locals := 42 } : Room) [.ref h, .int (nI i0)] [tB g h a T n] (.int (bfN T n (n - i0) i0 0)) := by
  refine cR.mk (by decide +kernel) (Nat.le_of_ble_eq_true rfl) ?_
  intro p e s m below meth c ls E hK hP hl
  obtain ⟨hx, hb, hr, hml, hts, hown, hlocks, hin⟩ := id E
  have hown : s.vm.findClass RX2 = some m.cls := hown
  have hl : lv_has ls 4 [(0, .ref h), (1, .int (nI i0))] := hl
  refine lv_iconst (v := 0) hx hb dX2_bellsFrom_0 (by decide) ?_
  refine lv_istore_n (lv' := [(2, .int 0), (0, .ref h), (1, .int (nI i0))]) hx hb dX2_bellsFrom_1 rfl hl (by decide) rfl (fun ls hl => ?_)
  refine lv_iload_n hx hb dX2_bellsFrom_2 rfl (lv_at hl 2 rfl) ?_
  refine lv_istore_n (lv' := [(3, .int (nI i0)), (2, .int 0), (0, .ref h), (1, .int (nI i0))]) hx hb dX2_bellsFrom_3 rfl hl (by decide) rfl (fun ls hl => ?_)
  refine loopN (fun k : Nat => ∀ acc : Int32, ∀ ls : Array Slot, lv_has ls 4 [(0, .ref h), (1, .int (nI i0)), (2, .int acc), (3, .int (nI (i0 + k)))] → (bfN T n (n - i0 - k) (i0 + k) acc = bfN T n (n - i0) i0 0) → W p l e _ s m _ below meth c s.heap [] 0 0 _ (F0 m 4 ls [])) (n - i0) (fun k hi ih_k => ?_) (0) (by omega) (0) ls (lv_sub hl [2, 3, 1, 0] rfl) (rfl)
  intro acc ls hl hacc
  have hsg := sg_lt (n := n) hT (i0 + k)
  refine lv_iload_n hx hb dX2_bellsFrom_4 rfl (lv_at hl 3 rfl) ?_
  refine lv_aload_n hx hb dX2_bellsFrom_5 rfl (lv_at hl 0 rfl) ?_
  refine b_get (v := .int (nI n)) hx hb hts inX2 hown hK hP 0 0 1 rfl rfl rfl (by decide) q1_154 rfl rfl dX2_bellsFrom_6 ?_
  refine b_ge (tgt := 38) (i0 + k) (n) hx hb rfl rfl (by omega) (by omega) dX2_bellsFrom_9 (by decide) (fun h_1 => ?_) (fun h_1 => ?_)
  · refine lv_iload_n hx hb dX2_bellsFrom_38 rfl (lv_at hl 2 rfl) ?_
    exact rI_ret hx hb hr hlocks dX2_bellsFrom_39 (by rw [← hacc]; first | (rw [show n - i0 - k = 0 by omega]; rfl) | (rw [show n - i0 - k = (n - i0 - (k + 1)) + 1 by omega, bfN, if_pos h_1]))
  · refine lv_aload_n hx hb dX2_bellsFrom_12 rfl (lv_at hl 0 rfl) ?_
    refine lv_iload_n hx hb dX2_bellsFrom_13 rfl (lv_at hl 3 rfl) ?_
    refine call_VR (As := [.int (nI (i0 + k))]) (rest := []) E rfl hK hP (c_X2_signAt l g h a T n (by omega) (i0 + k) (by omega)) ok_X2_signAt rfl q2_134 [0] rfl (b_recv hK hP 0 0 rfl rfl rfl rfl) ⟨⟨rfl, rfl⟩, Nat.le_of_ble_eq_true rfl, Nat.le_of_ble_eq_true rfl⟩ hl.1 (Nat.le_of_ble_eq_true rfl) ⟨Nat.le_of_ble_eq_true rfl, Nat.le_of_ble_eq_true rfl⟩ rfl dX2_bellsFrom_14 ?_
    refine lv_bipush (v := 59) hx hb dX2_bellsFrom_17 (by decide) ?_
    refine b_eq (tgt := 38) (sg T n (i0 + k)) (59) hx hb rfl rfl (by omega) (by omega) dX2_bellsFrom_19 (by decide) (fun h_2 => ?_) (fun h_2 => ?_)
    · refine lv_iload_n hx hb dX2_bellsFrom_38 rfl (lv_at hl 2 rfl) ?_
      exact rI_ret hx hb hr hlocks dX2_bellsFrom_39 (by rw [← hacc]; first | (rw [show n - i0 - k = 0 by omega]; rfl) | (rw [show n - i0 - k = (n - i0 - (k + 1)) + 1 by omega, bfN, if_pos h_2]))
    · refine lv_iload_n hx hb dX2_bellsFrom_22 rfl (lv_at hl 2 rfl) ?_
      refine lv_iconst (v := 1) hx hb dX2_bellsFrom_23 (by decide) ?_
      refine lv_aload_n hx hb dX2_bellsFrom_24 rfl (lv_at hl 0 rfl) ?_
      refine lv_iload_n hx hb dX2_bellsFrom_25 rfl (lv_at hl 3 rfl) ?_
      refine call_VR (As := [.int (nI (i0 + k))]) (rest := [.int 1, .int acc]) E rfl hK hP (c_X2_digitAt l g h a T n (by omega) (i0 + k) (by omega)) ok_X2_digitAt rfl q2_171 [0] rfl (b_recv hK hP 0 0 rfl rfl rfl rfl) ⟨⟨rfl, rfl⟩, Nat.le_of_ble_eq_true rfl, Nat.le_of_ble_eq_true rfl⟩ hl.1 (Nat.le_of_ble_eq_true rfl) ⟨Nat.le_of_ble_eq_true rfl, Nat.le_of_ble_eq_true rfl⟩ rfl dX2_bellsFrom_26 ?_
      refine lv_ishl hx hb dX2_bellsFrom_29 ?_
      refine lv_ior hx hb dX2_bellsFrom_30 ?_
      refine lv_istore_n (lv' := [(2, .int (acc ||| (1 <<< ((nI (sg T n (i0 + k)) - 48) &&& 31)))), (0, .ref h), (1, .int (nI i0)), (3, .int (nI (i0 + k)))]) hx hb dX2_bellsFrom_31 rfl hl (by decide) rfl (fun ls hl => ?_)
      refine lv_iinc (v := nI (i0 + k + 1)) (lv' := [(3, .int (nI (i0 + k + 1))), (2, .int (acc ||| (1 <<< ((nI (sg T n (i0 + k)) - 48) &&& 31)))), (0, .ref h), (1, .int (nI i0))]) hx hb dX2_bellsFrom_32 hl (k := 3) rfl (nI_add (i0 + k) 1) (by decide) rfl (fun ls hl => ?_)
      refine lv_goto (tgt := 4) hx hb dX2_bellsFrom_35 (by decide) ?_
      exact ih_k (by omega) ((acc ||| (1 <<< ((nI (sg T n (i0 + k)) - 48) &&& 31)))) _ (lv_sub hl [2, 3, 1, 0] rfl) (by rw [← hacc, show n - i0 - k = (n - i0 - (k + 1)) + 1 by omega, bfN, if_neg h_2]; rfl)
end
section
set_option maxHeartbeats 4000000 in
set_option maxRecDepth 100000 in
theorem c_X2_firstFault (l : Launch) (g : gx) (h a : Nat) (T : Nat → Nat) (n : Nat) (hn : n ≤ 60) (hT : ∀ i, T i < 127)  : cR l g yX2_firstFault cX2_firstFault 3 (some .int) ({ frames := 3, cells := 0, slots := 0, locals := 64 } : Room) [.ref h] [tB g h a T n] (.int (ffN T n n 0 0)) := by
  refine cR.mk (by decide +kernel) (Nat.le_of_ble_eq_true rfl) ?_
  intro p e s m below meth c ls E hK hP hl
  obtain ⟨hx, hb, hr, hml, hts, hown, hlocks, hin⟩ := id E
  have hown : s.vm.findClass RX2 = some m.cls := hown
  have hl : lv_has ls 3 [(0, .ref h)] := hl
  refine lv_iconst (v := 0) hx hb dX2_firstFault_0 (by decide) ?_
  refine lv_istore_n (lv' := [(1, .int 0), (0, .ref h)]) hx hb dX2_firstFault_1 rfl hl (by decide) rfl (fun ls hl => ?_)
  refine lv_iconst (v := 0) hx hb dX2_firstFault_2 (by decide) ?_
  refine lv_istore_n (lv' := [(2, .int 0), (1, .int 0), (0, .ref h)]) hx hb dX2_firstFault_3 rfl hl (by decide) rfl (fun ls hl => ?_)
  refine loopN (fun k : Nat => ∀ dd : Nat, ∀ ls : Array Slot, lv_has ls 3 [(0, .ref h), (1, .int (nI dd)), (2, .int (nI k))] → (dd ≤ 10) → (ffN T n (n - k) k dd = ffN T n n 0 0) → W p l e _ s m _ below meth c s.heap [] 0 0 _ (F0 m 4 ls [])) (n) (fun k hi ih_k => ?_) (0) (by omega) (0) ls (lv_sub hl [2, 1, 0] rfl) (by omega) (rfl)
  intro dd ls hl hd hf
  have hsg := sg_lt (n := n) hT k
  refine lv_iload_n hx hb dX2_firstFault_4 rfl (lv_at hl 2 rfl) ?_
  refine lv_aload_n hx hb dX2_firstFault_5 rfl (lv_at hl 0 rfl) ?_
  refine b_get (v := .int (nI n)) hx hb hts inX2 hown hK hP 0 0 1 rfl rfl rfl (by decide) q1_154 rfl rfl dX2_firstFault_6 ?_
  refine b_ge (tgt := 35) (k) (n) hx hb rfl rfl (by omega) (by omega) dX2_firstFault_9 (by decide) (fun h_1 => ?_) (fun h_1 => ?_)
  · refine lv_iload_n hx hb dX2_firstFault_35 rfl (lv_at hl 1 rfl) ?_
    refine lv_iconst (v := 5) hx hb dX2_firstFault_36 (by decide) ?_
    refine b_lt (tgt := 45) (dd) (5) hx hb rfl rfl (by omega) (by omega) dX2_firstFault_37 (by decide) (fun h_2 => ?_) (fun h_2 => ?_)
    · refine lv_aload_n hx hb dX2_firstFault_45 rfl (lv_at hl 0 rfl) ?_
      refine b_get (v := .int (nI n)) hx hb hts inX2 hown hK hP 0 0 1 rfl rfl rfl (by decide) q1_154 rfl rfl dX2_firstFault_46 ?_
      exact rI_ret hx hb hr hlocks dX2_firstFault_49 (by rw [← hf, show n - k = 0 by omega, ffN]; first | rw [if_pos h_2] | rw [if_neg (by omega)])
    · refine lv_bipush (v := -5) hx hb dX2_firstFault_40 (by decide) ?_
      refine lv_goto (tgt := 49) hx hb dX2_firstFault_42 (by decide) ?_
      exact rI_ret hx hb hr hlocks dX2_firstFault_49 (by rw [← hf, show n - k = 0 by omega, ffN]; first | rw [if_pos h_2] | rw [if_neg (by omega)])
  · refine lv_iload_n hx hb dX2_firstFault_12 rfl (lv_at hl 1 rfl) ?_
    refine lv_aload_n hx hb dX2_firstFault_13 rfl (lv_at hl 0 rfl) ?_
    refine lv_iload_n hx hb dX2_firstFault_14 rfl (lv_at hl 2 rfl) ?_
    refine call_VR (As := [.int (nI k)]) (rest := [.int (nI dd)]) E rfl hK hP (c_X2_signAt l g h a T n (by omega) k (by omega)) ok_X2_signAt rfl q2_134 [0] rfl (b_recv hK hP 0 0 rfl rfl rfl rfl) ⟨⟨rfl, rfl⟩, Nat.le_of_ble_eq_true rfl, Nat.le_of_ble_eq_true rfl⟩ hl.1 (Nat.le_of_ble_eq_true rfl) ⟨Nat.le_of_ble_eq_true rfl, Nat.le_of_ble_eq_true rfl⟩ rfl dX2_firstFault_15 ?_
    refine call_SR (As := [.int (nI dd), .int (nI (sg T n k))]) (rest := []) E rfl hK hP (c_X2_after l g dd (sg T n k) (by omega) (by omega)) ok_X2_after rfl q2_138 [] rfl ⟨⟨rfl, rfl⟩, Nat.le_of_ble_eq_true rfl, Nat.le_of_ble_eq_true rfl⟩ hl.1 (Nat.le_of_ble_eq_true rfl) ⟨Nat.le_of_ble_eq_true rfl, Nat.le_of_ble_eq_true rfl⟩ rfl dX2_firstFault_18 ?_
    refine lv_istore_n (lv' := [(1, .int (oI (stp dd (sg T n k)))), (0, .ref h), (2, .int (nI k))]) hx hb dX2_firstFault_21 rfl hl (by decide) rfl (fun ls hl => ?_)
    refine lv_iload_n hx hb dX2_firstFault_22 rfl (lv_at hl 0 rfl) ?_
    refine lv_iconst (v := -1) hx hb dX2_firstFault_23 (by decide) ?_
    refine lv_icmp_ne (tgt := 29) hx hb dX2_firstFault_24 (by decide) (fun h_3 => ?_) (fun h_3 => ?_)
    · obtain ⟨dd', hdd⟩ := stp_some h_3
      refine lv_iinc (v := nI (k + 1)) (lv' := [(2, .int (nI (k + 1))), (1, .int (oI (stp dd (sg T n k)))), (0, .ref h)]) hx hb dX2_firstFault_29 hl (k := 2) rfl (nI_add k 1) (by decide) rfl (fun ls hl => ?_)
      refine lv_goto (tgt := 4) hx hb dX2_firstFault_32 (by decide) ?_
      have e_4 : nI dd' = oI (stp dd (sg T n k)) := by rw [hdd]; rfl
      exact ih_k (by omega) (dd') _ (by rw [e_4]; exact lv_sub hl [2, 1, 0] rfl) (stp_le hdd) (by rw [← hf, show n - k = (n - (k + 1)) + 1 by omega, ffN_some hdd])
    · refine lv_iload_n hx hb dX2_firstFault_27 rfl (lv_at hl 2 rfl) ?_
      exact rI_ret hx hb hr hlocks dX2_firstFault_28 (by rw [← hf, show n - k = (n - (k + 1)) + 1 by omega, ffN_none (stp_none h_3)])

set_option maxHeartbeats 4000000 in
set_option maxRecDepth 100000 in
theorem c_X2_add (l : Launch) (g : gx) (h a : Nat) (T : Nat → Nat) (n : Nat) (hn : n < 60) (c0 : Nat) (hc : c0 < 127)  : cU (S := Unit) l g yX2_add cX2_add 2 none ({ frames := 0, cells := 0, slots := 0, locals := 0 } : Room) [.ref h, .int (nI c0)] [tB g h a T n] (fun _ => none) (fun _ => True) (fun _ => [tB g h a (upT T n c0) (n + 1)]) := by
  refine cU.mk (by decide +kernel) (Nat.le_of_ble_eq_true rfl) ?_
  intro p e s m below meth c ls E hK hW hl
  obtain ⟨hx, hb, hr, hml, hts, hown, hlocks, hin⟩ := id E
  have hown : s.vm.findClass RX2 = some m.cls := hown
  have hP := hW.1
  have hl : lv_has ls 2 [(0, .ref h), (1, .int (nI c0))] := hl
  refine lv_aload_n hx hb dX2_add_0 rfl (lv_at hl 0 rfl) ?_
  refine b_get (v := .int (nI n)) hx hb hts inX2 hown hK hP 0 0 1 rfl rfl rfl (by decide) q1_154 rfl rfl dX2_add_1 ?_
  refine lv_if_lt (tgt := 36) hx hb dX2_add_4 (by decide) (fun h_1 => ?_) (fun h_1 => ?_)
  · exact absurd h_1 (nI_pos (by omega))
  · refine lv_aload_n hx hb dX2_add_7 rfl (lv_at hl 0 rfl) ?_
    refine b_get (v := .int (nI n)) hx hb hts inX2 hown hK hP 0 0 1 rfl rfl rfl (by decide) q1_154 rfl rfl dX2_add_8 ?_
    refine lv_bipush (v := 60) hx hb dX2_add_11 (by decide) ?_
    refine b_ge (tgt := 36) (n) (60) hx hb rfl rfl (by omega) (by omega) dX2_add_13 (by decide) (fun h_2 => ?_) (fun h_2 => ?_)
    · omega
    · refine lv_aload_n hx hb dX2_add_16 rfl (lv_at hl 0 rfl) ?_
      refine b_get (v := .ref a) hx hb hts inX2 hown hK hP 0 0 0 rfl rfl rfl (by decide) q1_153 rfl rfl dX2_add_17 ?_
      refine lv_aload_n hx hb dX2_add_20 rfl (lv_at hl 0 rfl) ?_
      refine b_get (v := .int (nI n)) hx hb hts inX2 hown hK hP 0 0 1 rfl rfl rfl (by decide) q1_154 rfl rfl dX2_add_21 ?_
      refine lv_iload_n hx hb dX2_add_24 rfl (lv_at hl 1 rfl) ?_
      refine b_cast (B' := [sB g h a (upd (fun i => nI (T i)) n (nI c0)) n]) hx hb hK hW 0 1 (n) rfl rfl rfl (by omega) rfl (charN (by omega)) rfl dX2_add_25 (fun H locs hW => ?_)
      have hP := hW.1
      refine lv_aload_n hx hb dX2_add_26 rfl (lv_at hl 0 rfl) ?_
      refine lv_dup hx hb dX2_add_27 rfl ?_
      refine b_get (v := .int (nI n)) hx hb hts inX2 hown hK hP 0 0 1 rfl rfl rfl (by decide) q1_154 rfl rfl dX2_add_28 ?_
      refine lv_iconst (v := 1) hx hb dX2_add_31 (by decide) ?_
      refine lv_iadd hx hb dX2_add_32 ?_
      refine b_top (y := nI (n + 1)) (nI_add n 1) ?_
      refine b_put (B' := [sB g h a (upd (fun i => nI (T i)) n (nI c0)) (n + 1)]) (v := .int (nI (n + 1))) hx hb hts inX2 tyX2_ok nmX2 hown hK hW 0 0 1 rfl rfl rfl (by decide) q1_154 rfl rfl rfl rfl (Nat.le_of_ble_eq_true rfl) rfl dX2_add_33 (fun H locs hW => ?_)
      have hP := hW.1
      exact uV_ret () hW hx hb hr hlocks dX2_add_36 trivial (by rw [upT_eq]) (adr2 (L := [[h, a]]) rfl rfl)
end
section
/-! ===== WORDS of the class's own methods: errors (0: none), what is carried out ===== -/
abbrev plE (V : sV) (x : Int32) (t : Nat) (m : Int32) : Int32 := if isT x then (if m < 0 then -2 else if m ≤ evB V t then 0 else -2) else -1
abbrev spE (V : sV) (x y : Int32) (t b : Nat) : Int32 := if hasB V x y then (if V 10 (t * 5 + b) = 0 then -4 else if 2 ≤ resT V t then 0 else -4) else -1
abbrev hnE (V : sV) (x w : Int32) (c0 : Nat) : Int32 := if isT x then (if w < 1 then -2 else if w ≤ 9 then (if c0 < 5 then 0 else -3) else -2) else -1
abbrev meE (V : sV) (x y : Int32) : Int32 := if hasB V x y then 0 else -1
abbrev seE (V : sV) (x mi ri : Int32) (t : Nat) : Int32 := if isT x then (if mi < 0 then -2 else if mi ≤ 40 then (if ri < 1 then -2 else if ri ≤ 20 then (if takB V mi t 6 = true then -4 else 0) else -2) else -2) else -1
abbrev feE (x d : Int32) : Int32 := if isT x then (if d < 0 then -2 else if d < 7 then 0 else -2) else -1
abbrev stE (x v : Int32) : Int32 := if x < 0 then -1 else if x < 2 then (if inR x v then 0 else -2) else -1
abbrev apE (x : Int32) (k : Nat) : Int32 := if x < 32 then -2 else if x ≤ 126 then (if k < 60 then 0 else -3) else -2
abbrev reE (z : Int32) : Int32 := if z = 0 then -4 else 0
abbrev piE (x m : Int32) : Int32 := if isT x then tErr m else -1
abbrev minI (x y : Int32) : Int32 := if y < x then y else x
theorem tErr_m1 {x : Int32} (h : ¬ tErr x = 0) : tErr x = -2 := by
  unfold tErr at h ⊢
  split
  · rfl
  · split
    · rename_i h1 h2; rw [if_neg h1, if_pos h2] at h; exact absurd rfl h
    · rfl
theorem i2cN {c : Nat} (h : c < 65536) : ((nI c).toUInt32 % 65536).toInt32 = nI c := by
  rw [pk_char, pk_tn (by omega), Nat.mod_eq_of_lt h]
/-- the signs behind the letter at i are what an order wants -/
def okAt (T : Nat → Nat) (k i : Nat) : Prop :=
  (sg T k i = 116 → ∃ d, 1 ≤ d ∧ d ≤ 9 ∧ sg T k (i + 1) = 48 + d) ∧
  (sg T k i = 115 → ∃ t b, t < 6 ∧ b < 5 ∧ sg T k (i + 1) = 48 + t ∧ sg T k (i + 2) = 48 + b) ∧
  (sg T k i = 112 → ∃ t, t < 6 ∧ sg T k (i + 1) = 48 + t)
/-- one order carried out: whether it could be, the state and what is rung then -/
def ordC (T : Nat → Nat) (k i : Nat) (V N : sV) : Bool × sV × sV :=
  if sg T k i = 116 then (true, mtV V N (sg T k (i + 1) - 48))
  else if sg T k i = 115 then
    (if spE V (nI (sg T k (i + 1) - 48)) (nI (sg T k (i + 2) - 48)) (sg T k (i + 1) - 48) (sg T k (i + 2) - 48) = 0 then (true, up2 (up2 V 10 ((sg T k (i + 1) - 48) * 5 + (sg T k (i + 2) - 48)) 0) 2 (sg T k (i + 1) - 48) (V 2 (sg T k (i + 1) - 48) + 2), N) else (false, V, N))
  else
    (if plE V (nI (sg T k (i + 1) - 48)) (sg T k (i + 1) - 48) (bfN T k (k - (i + 2)) (i + 2) 0) = 0 then (true, up2 V 4 (sg T k (i + 1) - 48) (bfN T k (k - (i + 2)) (i + 2) 0), N) else (false, V, N))
/-- the orders from the sign i on -/
def runC (T : Nat → Nat) (k : Nat) : Nat → Nat → Int32 → sV → sV → Int32 × sV × sV
  | 0, _, r, V, N => (r, V, N)
  | m + 1, i, r, V, N => if oI (ltr (sg T k i)) = -1 then runC T k m (i + 1) r V N else if (ordC T k i V N).1 = true then runC T k m (i + 1) (r + 1) (ordC T k i V N).2.1 (ordC T k i V N).2.2 else (r, (ordC T k i V N).2)
theorem dig48 {c d : Nat} (h : c = 48 + d) (hd : d < 100) : nI c - 48 = nI d := by
  subst h
  exact (pk_sub (a := 48 + d) (b := 48) (by omega)).trans (by rw [Nat.add_sub_cancel_left])
/-- the best plan so far (its mask, its points, its volume), the trial and what is rung there -/
def bpS (V N : sV) (t : Nat) : Nat → (Int32 × Int32 × Int32) × sV × sV
  | 0 => ((0, cntF (fun e => forN (up2 V 4 t 0) N 3 e = nI t) 6, forN (up2 V 4 t 0) N 1 t), up2 V 4 t 0, forN (up2 V 4 t 0) N)
  | i + 1 =>
    let q := bpS V N t i
    let U := up2 q.2.1 4 t (nI (i + 1))
    let M := forN U q.2.2
    let p := cntF (fun e => M 3 e = nI t) 6
    (if q.1.2.1 < p then (nI (i + 1), p, M 1 t) else if p = q.1.2.1 then (if q.1.2.2 ≤ M 1 t then q.1 else (nI (i + 1), p, M 1 t)) else q.1, U, M)
theorem evB_nat {V : sV} {t c : Nat} (h : V 3 t = nI c) (hc : c ≤ 5) : evB V t = nI (2 ^ c - 1) := by
  unfold evB
  rw [h]
  rcases (show c = 0 ∨ c = 1 ∨ c = 2 ∨ c = 3 ∨ c = 4 ∨ c = 5 by omega) with rfl | rfl | rfl | rfl | rfl | rfl <;> decide +kernel
theorem plE_T {V : sV} {x : Int32} {t : Nat} {m : Int32} (h : plE V x t m = 0) : isT x := by
  by_cases e : isT x
  · exact e
  · rw [plE, if_neg e] at h; exact absurd h (by decide)
theorem spE_B {V : sV} {x y : Int32} {t b : Nat} (h : spE V x y t b = 0) : hasB V x y := by
  by_cases e : hasB V x y
  · exact e
  · rw [spE, if_neg e] at h; exact absurd h (by decide)
/-- what a bell, and what a count answers -/
def blC (V N : sV) (t b : Nat) : Nat → Int32
  | 0 => V 9 (t * 5 + b)
  | 1 => V 10 (t * 5 + b)
  | 2 => rF (V 9 (t * 5 + b))
  | 3 => V 11 (t * 5 + b)
  | _ => forN V N 0 (t * 5 + b)
def coC (V : sV) (n k : Nat) : Nat → Int32
  | 0 => V 12 2
  | 1 => sumF (V 3) 6
  | 2 => cntF (fun j => ¬ V 10 j < 6) 30
  | 3 => cntF (fun j => ¬ V 6 j ≤ 0) 6
  | 4 => sumF (V 7) 6
  | 5 => V 12 4
  | 6 => V 12 3
  | 7 => V 12 0
  | 8 => V 12 1
  | 9 => nI n
  | _ => nI k
end
section
set_option maxHeartbeats 4000000 in
set_option maxRecDepth 100000 in
theorem c_X4_planError (l : Launch) (g : gx) (h : Nat) (q : Nat → Nat) (z : Int32) (na : Nat → Nat) (V : sV) (x : Int32) (t : Nat) (hxt : isT x → x = nI t ∧ t < 6) (m0 : Int32)  : cR l g yX4_planError cX4_planError 3 (some .int) ({ frames := 1, cells := 0, slots := 0, locals := 21 } : Room) [.ref h, .int x, .int m0] [bB h q z, vB g (q 0) na V] (.int (plE V x t m0)) := by
  refine cR.mk (by decide +kernel) (Nat.le_of_ble_eq_true rfl) ?_
  intro p e s m below meth c ls E hK hP hl
  obtain ⟨hx, hb, hr, hml, hts, hown, hlocks, hin⟩ := id E
  have hown : s.vm.findClass RX4 = some m.cls := hown
  have hl : lv_has ls 3 [(0, .ref h), (1, .int x), (2, .int m0)] := hl
  refine lv_iload_n hx hb dX4_planError_0 rfl (lv_at hl 1 rfl) ?_
  refine call_SR (As := [.int x]) (rest := []) E rfl hK hP (c_X4_isTown l g x) ok_X4_isTown rfl q1_188 [] rfl ⟨⟨rfl, rfl⟩, Nat.le_of_ble_eq_true rfl, Nat.le_of_ble_eq_true rfl⟩ hl.1 (Nat.le_of_ble_eq_true rfl) ⟨Nat.le_of_ble_eq_true rfl, Nat.le_of_ble_eq_true rfl⟩ rfl dX4_planError_1 ?_
  refine b_ne0 (tgt := 9) hx hb dX4_planError_4 (by decide) (fun h_1 => ?_) (fun h_1 => ?_)
  · obtain ⟨rfl, ht⟩ := hxt h_1
    refine lv_iload_n hx hb dX4_planError_9 rfl (lv_at hl 2 rfl) ?_
    refine lv_if_lt (tgt := 25) hx hb dX4_planError_10 (by decide) (fun h_2 => ?_) (fun h_2 => ?_)
    · refine lv_bipush (v := -2) hx hb dX4_planError_25 (by decide) ?_
      exact rI_ret hx hb hr hlocks dX4_planError_27 (by simp only [h_1, h_2, plE, isT,  not_true_eq_false, not_false_eq_true, and_true, true_and, and_false, false_and, and_self, or_true, true_or, or_false, false_or, ne_eq, ite_true, ite_false, reduceIte])
    · refine lv_iload_n hx hb dX4_planError_13 rfl (lv_at hl 2 rfl) ?_
      refine lv_aload_n hx hb dX4_planError_14 rfl (lv_at hl 0 rfl) ?_
      refine b_get (v := .ref (q 0)) hx hb hts inX4 hown hK hP 0 0 0 rfl rfl rfl (by decide) q1_162 rfl rfl dX4_planError_15 ?_
      refine lv_iload_n hx hb dX4_planError_18 rfl (lv_at hl 1 rfl) ?_
      refine call_VR (As := [.int (nI t)]) (rest := [.int m0]) E rfl hK hP (c_X3_everyBell l g (q 0) na V t (by omega)) ok_X3_everyBell rfl q2_16 [1] rfl (b_recv hK hP 1 0 rfl rfl rfl rfl) ⟨⟨rfl, rfl⟩, Nat.le_of_ble_eq_true rfl, Nat.le_of_ble_eq_true rfl⟩ hl.1 (Nat.le_of_ble_eq_true rfl) ⟨Nat.le_of_ble_eq_true rfl, Nat.le_of_ble_eq_true rfl⟩ rfl dX4_planError_19 ?_
      refine lv_icmp_le (tgt := 28) hx hb dX4_planError_22 (by decide) (fun h_3 => ?_) (fun h_3 => ?_)
      · refine lv_iconst (v := 0) hx hb dX4_planError_28 (by decide) ?_
        exact rI_ret hx hb hr hlocks dX4_planError_29 (by simp only [h_1, h_2, h_3, plE, isT,  not_true_eq_false, not_false_eq_true, and_true, true_and, and_false, false_and, and_self, or_true, true_or, or_false, false_or, ne_eq, ite_true, ite_false, reduceIte])
      · refine lv_bipush (v := -2) hx hb dX4_planError_25 (by decide) ?_
        exact rI_ret hx hb hr hlocks dX4_planError_27 (by simp only [h_1, h_2, h_3, plE, isT,  not_true_eq_false, not_false_eq_true, and_true, true_and, and_false, false_and, and_self, or_true, true_or, or_false, false_or, ne_eq, ite_true, ite_false, reduceIte])
  · refine lv_iconst (v := -1) hx hb dX4_planError_7 (by decide) ?_
    exact rI_ret hx hb hr hlocks dX4_planError_8 (by simp only [h_1, plE, isT,  not_true_eq_false, not_false_eq_true, and_true, true_and, and_false, false_and, and_self, or_true, true_or, or_false, false_or, ne_eq, ite_true, ite_false, reduceIte])

set_option maxHeartbeats 4000000 in
set_option maxRecDepth 100000 in
theorem c_X4_changePlan (l : Launch) (g : gx) (h : Nat) (q : Nat → Nat) (z : Int32) (na : Nat → Nat) (V : sV) (t : Nat) (ht : t < 6) (m0 : Int32)  : cU (S := Unit) l g yX4_changePlan cX4_changePlan 4 (some .int) ({ frames := 0, cells := 0, slots := 0, locals := 0 } : Room) [.ref h, .int (nI t), .int m0] [bB h q z, vB g (q 0) na V] (fun _ => some (.int (V 4 t))) (fun _ => True) (fun _ => [bB h q z, vB g (q 0) na (up2 V 4 t m0)]) := by
  refine cU.mk (by decide +kernel) (Nat.le_of_ble_eq_true rfl) ?_
  intro p e s m below meth c ls E hK hW hl
  obtain ⟨hx, hb, hr, hml, hts, hown, hlocks, hin⟩ := id E
  have hown : s.vm.findClass RX4 = some m.cls := hown
  have hP := hW.1
  have hl : lv_has ls 4 [(0, .ref h), (1, .int (nI t)), (2, .int m0)] := hl
  refine lv_aload_n hx hb dX4_changePlan_0 rfl (lv_at hl 0 rfl) ?_
  refine b_get (v := .ref (q 0)) hx hb hts inX4 hown hK hP 0 0 0 rfl rfl rfl (by decide) q1_162 rfl rfl dX4_changePlan_1 ?_
  refine b_get (v := .ref (na 4)) hx hb hts inX3 hown hK hP 1 0 4 rfl rfl rfl (by decide) q1_33 rfl rfl dX4_changePlan_4 ?_
  refine lv_iload_n hx hb dX4_changePlan_7 rfl (lv_at hl 1 rfl) ?_
  refine b_iald (v := V 4 t) hx hb hK hP 1 5 (t) rfl rfl rfl (by omega) rfl rfl dX4_changePlan_8 ?_
  refine lv_istore_n (lv' := [(3, .int (V 4 t)), (0, .ref h), (1, .int (nI t)), (2, .int m0)]) hx hb dX4_changePlan_9 rfl hl (by decide) rfl (fun ls hl => ?_)
  refine lv_aload_n hx hb dX4_changePlan_10 rfl (lv_at hl 1 rfl) ?_
  refine b_get (v := .ref (q 0)) hx hb hts inX4 hown hK hP 0 0 0 rfl rfl rfl (by decide) q1_162 rfl rfl dX4_changePlan_11 ?_
  refine b_get (v := .ref (na 4)) hx hb hts inX3 hown hK hP 1 0 4 rfl rfl rfl (by decide) q1_33 rfl rfl dX4_changePlan_14 ?_
  refine lv_iload_n hx hb dX4_changePlan_17 rfl (lv_at hl 2 rfl) ?_
  refine lv_iload_n hx hb dX4_changePlan_18 rfl (lv_at hl 3 rfl) ?_
  refine b_iast (B' := [bB h q z, vB g (q 0) na (up2 V 4 t m0)]) hx hb hK hW 1 5 (t) rfl rfl rfl (by omega) rfl rfl dX4_changePlan_19 (fun H locs hW => ?_)
  have hP := hW.1
  refine lv_iload_n hx hb dX4_changePlan_20 rfl (lv_at hl 0 rfl) ?_
  exact uI_ret () hW hx hb hr hlocks dX4_changePlan_21 (rfl) trivial (rfl) (adr2 (L := [[h], [q 0, na 0, na 1, na 2, na 3, na 4, na 5, na 6, na 7, na 8, na 9, na 10, na 11]]) rfl rfl)

set_option maxHeartbeats 4000000 in
set_option maxRecDepth 100000 in
theorem c_X4_spliceError (l : Launch) (g : gx) (h : Nat) (q : Nat → Nat) (z : Int32) (na : Nat → Nat) (V : sV) (x y : Int32) (t b : Nat) (hxy : hasB V x y → x = nI t ∧ t < 6 ∧ y = nI b ∧ b < 5)  : cR l g yX4_spliceError cX4_spliceError 3 (some .int) ({ frames := 2, cells := 0, slots := 0, locals := 42 } : Room) [.ref h, .int x, .int y] [bB h q z, vB g (q 0) na V] (.int (spE V x y t b)) := by
  refine cR.mk (by decide +kernel) (Nat.le_of_ble_eq_true rfl) ?_
  intro p e s m below meth c ls E hK hP hl
  obtain ⟨hx, hb, hr, hml, hts, hown, hlocks, hin⟩ := id E
  have hown : s.vm.findClass RX4 = some m.cls := hown
  have hl : lv_has ls 3 [(0, .ref h), (1, .int x), (2, .int y)] := hl
  refine lv_aload_n hx hb dX4_spliceError_0 rfl (lv_at hl 0 rfl) ?_
  refine b_get (v := .ref (q 0)) hx hb hts inX4 hown hK hP 0 0 0 rfl rfl rfl (by decide) q1_162 rfl rfl dX4_spliceError_1 ?_
  refine lv_iload_n hx hb dX4_spliceError_4 rfl (lv_at hl 1 rfl) ?_
  refine lv_iload_n hx hb dX4_spliceError_5 rfl (lv_at hl 2 rfl) ?_
  refine call_VR (As := [.int x, .int y]) (rest := []) E rfl hK hP (c_X3_hasBell l g (q 0) na V x y) ok_X3_hasBell rfl q1_227 [1] rfl (b_recv hK hP 1 0 rfl rfl rfl rfl) ⟨⟨rfl, rfl⟩, Nat.le_of_ble_eq_true rfl, Nat.le_of_ble_eq_true rfl⟩ hl.1 (Nat.le_of_ble_eq_true rfl) ⟨Nat.le_of_ble_eq_true rfl, Nat.le_of_ble_eq_true rfl⟩ rfl dX4_spliceError_6 ?_
  refine b_ne0 (tgt := 14) hx hb dX4_spliceError_9 (by decide) (fun h_1 => ?_) (fun h_1 => ?_)
  · have hB := h_1
    obtain ⟨rfl, ht, rfl, hb5⟩ := hxy h_1
    refine lv_aload_n hx hb dX4_spliceError_14 rfl (lv_at hl 0 rfl) ?_
    refine b_get (v := .ref (q 0)) hx hb hts inX4 hown hK hP 0 0 0 rfl rfl rfl (by decide) q1_162 rfl rfl dX4_spliceError_15 ?_
    refine b_get (v := .ref (na 10)) hx hb hts inX3 hown hK hP 1 0 10 rfl rfl rfl (by decide) q1_48 rfl rfl dX4_spliceError_18 ?_
    refine lv_iload_n hx hb dX4_spliceError_21 rfl (lv_at hl 1 rfl) ?_
    refine lv_iload_n hx hb dX4_spliceError_22 rfl (lv_at hl 2 rfl) ?_
    refine call_SR (As := [.int (nI t), .int (nI b)]) (rest := [.ref (na 10)]) E rfl hK hP (c_X4_slot l g t b) ok_X4_slot rfl q1_232 [] rfl ⟨⟨rfl, rfl⟩, Nat.le_of_ble_eq_true rfl, Nat.le_of_ble_eq_true rfl⟩ hl.1 (Nat.le_of_ble_eq_true rfl) ⟨Nat.le_of_ble_eq_true rfl, Nat.le_of_ble_eq_true rfl⟩ rfl dX4_spliceError_23 ?_
    refine b_iald (v := V 10 (t * 5 + b)) hx hb hK hP 1 11 (t * 5 + b) rfl rfl rfl (by omega) rfl rfl dX4_spliceError_26 ?_
    refine lv_if_eq (tgt := 42) hx hb dX4_spliceError_27 (by decide) (fun h_2 => ?_) (fun h_2 => ?_)
    · refine lv_bipush (v := -4) hx hb dX4_spliceError_42 (by decide) ?_
      exact rI_ret hx hb hr hlocks dX4_spliceError_44 (by first | (simp only [spE, if_pos hB]; simp only [h_1, h_2,  not_true_eq_false, not_false_eq_true, and_true, true_and, and_false, false_and, and_self, or_true, true_or, or_false, false_or, ne_eq, ite_true, ite_false, reduceIte]; done) | (simp only [spE, if_pos hB, h_1, h_2, ite_true, ite_false, reduceIte]; done) | (simp only [spE, h_1, h_2, ite_true, ite_false, reduceIte]))
    · refine lv_aload_n hx hb dX4_spliceError_30 rfl (lv_at hl 0 rfl) ?_
      refine b_get (v := .ref (q 0)) hx hb hts inX4 hown hK hP 0 0 0 rfl rfl rfl (by decide) q1_162 rfl rfl dX4_spliceError_31 ?_
      refine lv_iload_n hx hb dX4_spliceError_34 rfl (lv_at hl 1 rfl) ?_
      refine call_VR (As := [.int (nI t)]) (rest := []) E rfl hK hP (c_X3_rested l g (q 0) na V t (by omega)) ok_X3_rested rfl q2_32 [1] rfl (b_recv hK hP 1 0 rfl rfl rfl rfl) ⟨⟨rfl, rfl⟩, Nat.le_of_ble_eq_true rfl, Nat.le_of_ble_eq_true rfl⟩ hl.1 (Nat.le_of_ble_eq_true rfl) ⟨Nat.le_of_ble_eq_true rfl, Nat.le_of_ble_eq_true rfl⟩ rfl dX4_spliceError_35 ?_
      refine lv_iconst (v := 2) hx hb dX4_spliceError_38 (by decide) ?_
      refine lv_icmp_ge (tgt := 45) hx hb dX4_spliceError_39 (by decide) (fun h_3 => ?_) (fun h_3 => ?_)
      · refine lv_iconst (v := 0) hx hb dX4_spliceError_45 (by decide) ?_
        exact rI_ret hx hb hr hlocks dX4_spliceError_46 (by first | (simp only [spE, if_pos hB]; simp only [h_1, h_2, h_3,  not_true_eq_false, not_false_eq_true, and_true, true_and, and_false, false_and, and_self, or_true, true_or, or_false, false_or, ne_eq, ite_true, ite_false, reduceIte]; done) | (simp only [spE, if_pos hB, h_1, h_2, h_3, ite_true, ite_false, reduceIte]; done) | (simp only [spE, h_1, h_2, h_3, ite_true, ite_false, reduceIte]))
      · refine lv_bipush (v := -4) hx hb dX4_spliceError_42 (by decide) ?_
        exact rI_ret hx hb hr hlocks dX4_spliceError_44 (by first | (simp only [spE, if_pos hB]; simp only [h_1, h_2, h_3,  not_true_eq_false, not_false_eq_true, and_true, true_and, and_false, false_and, and_self, or_true, true_or, or_false, false_or, ne_eq, ite_true, ite_false, reduceIte]; done) | (simp only [spE, if_pos hB, h_1, h_2, h_3, ite_true, ite_false, reduceIte]; done) | (simp only [spE, h_1, h_2, h_3, ite_true, ite_false, reduceIte]))
  · refine lv_iconst (v := -1) hx hb dX4_spliceError_12 (by decide) ?_
    exact rI_ret hx hb hr hlocks dX4_spliceError_13 (by first | (simp only [spE, if_pos hB]; simp only [h_1,  not_true_eq_false, not_false_eq_true, and_true, true_and, and_false, false_and, and_self, or_true, true_or, or_false, false_or, ne_eq, ite_true, ite_false, reduceIte]; done) | (simp only [spE, if_pos hB, h_1, ite_true, ite_false, reduceIte]; done) | (simp only [spE, h_1, ite_true, ite_false, reduceIte]))

set_option maxHeartbeats 4000000 in
set_option maxRecDepth 100000 in
theorem c_X4_mendRope (l : Launch) (g : gx) (h : Nat) (q : Nat → Nat) (z : Int32) (na : Nat → Nat) (V : sV) (t b : Nat) (ht : t < 6) (hb5 : b < 5)  : cU (S := Unit) l g yX4_mendRope cX4_mendRope 5 (some .int) ({ frames := 1, cells := 0, slots := 0, locals := 21 } : Room) [.ref h, .int (nI t), .int (nI b)] [bB h q z, vB g (q 0) na V] (fun _ => some (.int (V 10 (t * 5 + b)))) (fun _ => True) (fun _ => [bB h q z, vB g (q 0) na (up2 (up2 V 10 (t * 5 + b) 0) 2 t (V 2 t + 2))]) := by
  refine cU.mk (by decide +kernel) (Nat.le_of_ble_eq_true rfl) ?_
  intro p e s m below meth c ls E hK hW hl
  obtain ⟨hx, hb, hr, hml, hts, hown, hlocks, hin⟩ := id E
  have hown : s.vm.findClass RX4 = some m.cls := hown
  have hP := hW.1
  have hl : lv_has ls 5 [(0, .ref h), (1, .int (nI t)), (2, .int (nI b))] := hl
  refine lv_iload_n hx hb dX4_mendRope_0 rfl (lv_at hl 1 rfl) ?_
  refine lv_iload_n hx hb dX4_mendRope_1 rfl (lv_at hl 2 rfl) ?_
  refine call_SR (As := [.int (nI t), .int (nI b)]) (rest := []) E rfl hK hP (c_X4_slot l g t b) ok_X4_slot rfl q1_232 [] rfl ⟨⟨rfl, rfl⟩, Nat.le_of_ble_eq_true rfl, Nat.le_of_ble_eq_true rfl⟩ hl.1 (Nat.le_of_ble_eq_true rfl) ⟨Nat.le_of_ble_eq_true rfl, Nat.le_of_ble_eq_true rfl⟩ rfl dX4_mendRope_2 ?_
  refine lv_istore_n (lv' := [(3, .int (nI (t * 5 + b))), (0, .ref h), (1, .int (nI t)), (2, .int (nI b))]) hx hb dX4_mendRope_5 rfl hl (by decide) rfl (fun ls hl => ?_)
  refine lv_aload_n hx hb dX4_mendRope_6 rfl (lv_at hl 1 rfl) ?_
  refine b_get (v := .ref (q 0)) hx hb hts inX4 hown hK hP 0 0 0 rfl rfl rfl (by decide) q1_162 rfl rfl dX4_mendRope_7 ?_
  refine b_get (v := .ref (na 10)) hx hb hts inX3 hown hK hP 1 0 10 rfl rfl rfl (by decide) q1_48 rfl rfl dX4_mendRope_10 ?_
  refine lv_iload_n hx hb dX4_mendRope_13 rfl (lv_at hl 0 rfl) ?_
  refine b_iald (v := V 10 (t * 5 + b)) hx hb hK hP 1 11 (t * 5 + b) rfl rfl rfl (by omega) rfl rfl dX4_mendRope_14 ?_
  refine lv_istore (lv' := [(4, .int (V 10 (t * 5 + b))), (3, .int (nI (t * 5 + b))), (0, .ref h), (1, .int (nI t)), (2, .int (nI b))]) hx hb dX4_mendRope_15 hl (by decide) rfl (fun ls hl => ?_)
  refine lv_aload_n hx hb dX4_mendRope_17 rfl (lv_at hl 2 rfl) ?_
  refine b_get (v := .ref (q 0)) hx hb hts inX4 hown hK hP 0 0 0 rfl rfl rfl (by decide) q1_162 rfl rfl dX4_mendRope_18 ?_
  refine b_get (v := .ref (na 10)) hx hb hts inX3 hown hK hP 1 0 10 rfl rfl rfl (by decide) q1_48 rfl rfl dX4_mendRope_21 ?_
  refine lv_iload_n hx hb dX4_mendRope_24 rfl (lv_at hl 1 rfl) ?_
  refine lv_iconst (v := 0) hx hb dX4_mendRope_25 (by decide) ?_
  refine b_iast (B' := [bB h q z, vB g (q 0) na (up2 V 10 (t * 5 + b) 0)]) hx hb hK hW 1 11 (t * 5 + b) rfl rfl rfl (by omega) rfl rfl dX4_mendRope_26 (fun H locs hW => ?_)
  have hP := hW.1
  refine lv_aload_n hx hb dX4_mendRope_27 rfl (lv_at hl 2 rfl) ?_
  refine b_get (v := .ref (q 0)) hx hb hts inX4 hown hK hP 0 0 0 rfl rfl rfl (by decide) q1_162 rfl rfl dX4_mendRope_28 ?_
  refine b_get (v := .ref (na 2)) hx hb hts inX3 hown hK hP 1 0 2 rfl rfl rfl (by decide) q1_29 rfl rfl dX4_mendRope_31 ?_
  refine lv_iload_n hx hb dX4_mendRope_34 rfl (lv_at hl 3 rfl) ?_
  refine lv_dup2_11 hx hb dX4_mendRope_35 rfl rfl ?_
  refine b_iald (v := V 2 t) hx hb hK hP 1 3 (t) rfl rfl rfl (by omega) rfl rfl dX4_mendRope_36 ?_
  refine lv_iconst (v := 2) hx hb dX4_mendRope_37 (by decide) ?_
  refine lv_iadd hx hb dX4_mendRope_38 ?_
  refine b_iast (B' := [bB h q z, vB g (q 0) na (up2 (up2 V 10 (t * 5 + b) 0) 2 t ((V 2 t) + 2))]) hx hb hK hW 1 3 (t) rfl rfl rfl (by omega) rfl rfl dX4_mendRope_39 (fun H locs hW => ?_)
  have hP := hW.1
  refine lv_iload hx hb dX4_mendRope_40 (lv_at hl 0 rfl) ?_
  exact uI_ret () hW hx hb hr hlocks dX4_mendRope_42 (rfl) trivial (rfl) (adr2 (L := [[h], [q 0, na 0, na 1, na 2, na 3, na 4, na 5, na 6, na 7, na 8, na 9, na 10, na 11]]) rfl rfl)
end
section
set_option maxHeartbeats 4000000 in
set_option maxRecDepth 100000 in
theorem c_X4_makeTurns (l : Launch) (g : gx) (h : Nat) (q : Nat → Nat) (z : Int32) (o : Nat) (oa : Nat → Nat) (V : sV) (ra : Nat → Nat) (NN : sV) (m0 : Nat) (hm : m0 ≤ 50)  : cU (S := Unit) l g yX4_makeTurns cX4_makeTurns 4 none ({ frames := 4, cells := 0, slots := 0, locals := 97 } : Room) [.ref h, .ref o, .int (nI m0)] [bB h q z, vB g o oa V, rB g (q 4) ra NN] (fun _ => none) (fun _ => True) (fun _ => [bB h q z, vB g o oa ((mtV V NN m0).1), rB g (q 4) ra ((mtV V NN m0).2)]) := by
  refine cU.mk (by decide +kernel) (Nat.le_of_ble_eq_true rfl) ?_
  intro p e s m below meth c ls E hK hW hl
  obtain ⟨hx, hb, hr, hml, hts, hown, hlocks, hin⟩ := id E
  have hown : s.vm.findClass RX4 = some m.cls := hown
  have hP := hW.1
  have hl : lv_has ls 4 [(0, .ref h), (1, .ref o), (2, .int (nI m0))] := hl
  refine lv_iconst (v := 0) hx hb dX4_makeTurns_0 (by decide) ?_
  refine lv_istore_n (lv' := [(3, .int 0), (0, .ref h), (1, .ref o), (2, .int (nI m0))]) hx hb dX4_makeTurns_1 rfl hl (by decide) rfl (fun ls hl => ?_)
  refine loopN (fun i : Nat => ∀ (H : Heap) (locs : List Loc) (ls : Array Slot), wd g (fun z9 => z9 ∈ adr [bB h q z, vB g o oa V, rB g (q 4) ra NN]) s.heap [bB h q z, vB g o oa ((mtV V NN i).1), rB g (q 4) ra ((mtV V NN i).2)] H locs → lv_has ls 4 [(0, .ref h), (1, .ref o), (2, .int (nI m0)), (3, .int (nI i))] → W p l e _ s m _ below meth c H locs 0 0 _ (F0 m 2 ls [])) (m0) (fun i hi ih_i => ?_) (0) (by omega)  s.heap [] ls hW (lv_sub hl [1, 2, 3, 0] rfl) 
  intro  H locs ls hW hl 
  have hP := hW.1
  refine lv_iload_n hx hb dX4_makeTurns_2 rfl (lv_at hl 3 rfl) ?_
  refine lv_iload_n hx hb dX4_makeTurns_3 rfl (lv_at hl 2 rfl) ?_
  refine b_ge (tgt := 29) (i) (m0) hx hb rfl rfl (by omega) (by omega) dX4_makeTurns_4 (by decide) (fun h_1 => ?_) (fun h_1 => ?_)
  · obtain rfl : i = m0 := by omega
    exact uV_ret () hW hx hb hr hlocks dX4_makeTurns_29 trivial (rfl) (adr2 (L := [[h], [o, oa 0, oa 1, oa 2, oa 3, oa 4, oa 5, oa 6, oa 7, oa 8, oa 9, oa 10, oa 11], [q 4, ra 0, ra 1, ra 2, ra 3]]) rfl rfl)
  · refine lv_aload_n hx hb dX4_makeTurns_7 rfl (lv_at hl 0 rfl) ?_
    refine b_get (v := .ref (q 4)) hx hb hts inX4 hown hK hP 0 0 5 rfl rfl rfl (by decide) q1_167 rfl rfl dX4_makeTurns_8 ?_
    refine lv_aload_n hx hb dX4_makeTurns_11 rfl (lv_at hl 1 rfl) ?_
    refine call_VU (As := [.ref o]) (rest := []) E rfl hK hW (c_X1_foresee l g (q 4) ra ((mtV V NN i).2) o oa ((mtV V NN i).1)) ok_X1_foresee rfl q2_62 [2, 1] rfl (by decide) (b_recv hK hP 2 0 rfl rfl rfl rfl) ⟨⟨rfl, rfl⟩, Nat.le_of_ble_eq_true rfl, Nat.le_of_ble_eq_true rfl⟩ hl.1 (Nat.le_of_ble_eq_true rfl) ⟨Nat.le_of_ble_eq_true rfl, Nat.le_of_ble_eq_true rfl⟩ rfl dX4_makeTurns_12 (fun _u H locs _ hW => ?_)
    have hW : wd g _ s.heap [bB h q z, vB g o oa ((mtV V NN i).1), rB g (q 4) ra (forN ((mtV V NN i).1) ((mtV V NN i).2))] H locs := hW
    have hP := hW.1
    obtain ⟨U_2, hU_2⟩ : ∃ z, z = (forN ((mtV V NN i).1) ((mtV V NN i).2)) := ⟨_, rfl⟩
    rw [← hU_2] at hW
    have hP := hW.1
    refine lv_aload_n hx hb dX4_makeTurns_15 rfl (lv_at hl 1 rfl) ?_
    refine lv_aload_n hx hb dX4_makeTurns_16 rfl (lv_at hl 0 rfl) ?_
    refine b_get (v := .ref (q 4)) hx hb hts inX4 hown hK hP 0 0 5 rfl rfl rfl (by decide) q1_167 rfl rfl dX4_makeTurns_17 ?_
    refine call_VU (As := [.ref (q 4)]) (rest := []) E rfl hK hW (c_X3_pass l g o oa ((mtV V NN i).1) (q 4) ra U_2) ok_X3_pass rfl q2_94 [1, 2] rfl (by decide) (b_recv hK hP 1 0 rfl rfl rfl rfl) ⟨⟨rfl, rfl⟩, Nat.le_of_ble_eq_true rfl, Nat.le_of_ble_eq_true rfl⟩ hl.1 (Nat.le_of_ble_eq_true rfl) ⟨Nat.le_of_ble_eq_true rfl, Nat.le_of_ble_eq_true rfl⟩ rfl dX4_makeTurns_20 (fun _u H locs _ hW => ?_)
    have hW : wd g _ s.heap [bB h q z, vB g o oa (pasV ((mtV V NN i).1) U_2), rB g (q 4) ra U_2] H locs := hW
    have hP := hW.1
    obtain ⟨U_3, hU_3⟩ : ∃ z, z = (pasV ((mtV V NN i).1) U_2) := ⟨_, rfl⟩
    rw [← hU_3] at hW
    have hP := hW.1
    refine lv_iinc (v := nI (i + 1)) (lv' := [(3, .int (nI (i + 1))), (0, .ref h), (1, .ref o), (2, .int (nI m0))]) hx hb dX4_makeTurns_23 hl (k := 3) rfl (nI_add i 1) (by decide) rfl (fun ls hl => ?_)
    refine lv_goto (tgt := 2) hx hb dX4_makeTurns_26 (by decide) ?_
    have e_4 : ([bB h q z, vB g o oa ((mtV V NN (i + 1)).1), rB g (q 4) ra ((mtV V NN (i + 1)).2)] : List va_W) = [bB h q z, vB g o oa U_3, rB g (q 4) ra U_2] := by rw [hU_3, hU_2]; simp only [mtV]
    exact ih_i (by omega)  _ _ _ (by rw [e_4]; exact hW) (lv_sub hl [1, 2, 3, 0] rfl) 

set_option maxHeartbeats 4000000 in
set_option maxRecDepth 100000 in
theorem c_X4_pointsWithPlan (l : Launch) (g : gx) (h : Nat) (q : Nat → Nat) (z : Int32) (ta : Nat → Nat) (TV : sV) (ra : Nat → Nat) (NN : sV) (t : Nat) (ht : t < 6) (m0 : Int32)  : cU (S := Unit) l g yX4_pointsWithPlan cX4_pointsWithPlan 3 (some .int) ({ frames := 4, cells := 0, slots := 0, locals := 97 } : Room) [.ref h, .int (nI t), .int m0] [bB h q z, vB g (q 1) ta TV, rB g (q 4) ra NN] (fun _ => some (.int (cntF (fun e => forN (up2 TV 4 t m0) NN 3 e = nI t) 6))) (fun _ => True) (fun _ => [bB h q z, vB g (q 1) ta (up2 TV 4 t m0), rB g (q 4) ra (forN (up2 TV 4 t m0) NN)]) := by
  refine cU.mk (by decide +kernel) (Nat.le_of_ble_eq_true rfl) ?_
  intro p e s m below meth c ls E hK hW hl
  obtain ⟨hx, hb, hr, hml, hts, hown, hlocks, hin⟩ := id E
  have hown : s.vm.findClass RX4 = some m.cls := hown
  have hP := hW.1
  have hl : lv_has ls 3 [(0, .ref h), (1, .int (nI t)), (2, .int m0)] := hl
  refine lv_aload_n hx hb dX4_pointsWithPlan_0 rfl (lv_at hl 0 rfl) ?_
  refine b_get (v := .ref (q 1)) hx hb hts inX4 hown hK hP 0 0 1 rfl rfl rfl (by decide) q1_163 rfl rfl dX4_pointsWithPlan_1 ?_
  refine b_get (v := .ref (ta 4)) hx hb hts inX3 hown hK hP 1 0 4 rfl rfl rfl (by decide) q1_33 rfl rfl dX4_pointsWithPlan_4 ?_
  refine lv_iload_n hx hb dX4_pointsWithPlan_7 rfl (lv_at hl 1 rfl) ?_
  refine lv_iload_n hx hb dX4_pointsWithPlan_8 rfl (lv_at hl 2 rfl) ?_
  refine b_iast (B' := [bB h q z, vB g (q 1) ta (up2 TV 4 t m0), rB g (q 4) ra NN]) hx hb hK hW 1 5 (t) rfl rfl rfl (by omega) rfl rfl dX4_pointsWithPlan_9 (fun H locs hW => ?_)
  have hP := hW.1
  refine lv_aload_n hx hb dX4_pointsWithPlan_10 rfl (lv_at hl 0 rfl) ?_
  refine b_get (v := .ref (q 4)) hx hb hts inX4 hown hK hP 0 0 5 rfl rfl rfl (by decide) q1_167 rfl rfl dX4_pointsWithPlan_11 ?_
  refine lv_aload_n hx hb dX4_pointsWithPlan_14 rfl (lv_at hl 0 rfl) ?_
  refine b_get (v := .ref (q 1)) hx hb hts inX4 hown hK hP 0 0 1 rfl rfl rfl (by decide) q1_163 rfl rfl dX4_pointsWithPlan_15 ?_
  refine call_VU (As := [.ref (q 1)]) (rest := []) E rfl hK hW (c_X1_foresee l g (q 4) ra NN (q 1) ta (up2 TV 4 t m0)) ok_X1_foresee rfl q2_62 [2, 1] rfl (by decide) (b_recv hK hP 2 0 rfl rfl rfl rfl) ⟨⟨rfl, rfl⟩, Nat.le_of_ble_eq_true rfl, Nat.le_of_ble_eq_true rfl⟩ hl.1 (Nat.le_of_ble_eq_true rfl) ⟨Nat.le_of_ble_eq_true rfl, Nat.le_of_ble_eq_true rfl⟩ rfl dX4_pointsWithPlan_18 (fun _u H locs _ hW => ?_)
  have hW : wd g _ s.heap [bB h q z, vB g (q 1) ta (up2 TV 4 t m0), rB g (q 4) ra (forN (up2 TV 4 t m0) NN)] H locs := hW
  have hP := hW.1
  obtain ⟨U_1, hU_1⟩ : ∃ z, z = (forN (up2 TV 4 t m0) NN) := ⟨_, rfl⟩
  rw [← hU_1] at hW
  have hP := hW.1
  refine lv_aload_n hx hb dX4_pointsWithPlan_21 rfl (lv_at hl 0 rfl) ?_
  refine b_get (v := .ref (q 4)) hx hb hts inX4 hown hK hP 0 0 5 rfl rfl rfl (by decide) q1_167 rfl rfl dX4_pointsWithPlan_22 ?_
  refine lv_iload_n hx hb dX4_pointsWithPlan_25 rfl (lv_at hl 1 rfl) ?_
  refine call_VR (As := [.int (nI t)]) (rest := []) E rfl hK hP (c_X1_pointsOf l g (q 4) ra U_1 (nI t)) ok_X1_pointsOf rfl q2_239 [2] rfl (b_recv hK hP 2 0 rfl rfl rfl rfl) ⟨⟨rfl, rfl⟩, Nat.le_of_ble_eq_true rfl, Nat.le_of_ble_eq_true rfl⟩ hl.1 (Nat.le_of_ble_eq_true rfl) ⟨Nat.le_of_ble_eq_true rfl, Nat.le_of_ble_eq_true rfl⟩ rfl dX4_pointsWithPlan_26 ?_
  exact uI_ret () hW hx hb hr hlocks dX4_pointsWithPlan_29 (by rw [hU_1]) trivial (by rw [hU_1]) (adr2 (L := [[h], [q 1, ta 0, ta 1, ta 2, ta 3, ta 4, ta 5, ta 6, ta 7, ta 8, ta 9, ta 10, ta 11], [q 4, ra 0, ra 1, ra 2, ra 3]]) rfl rfl)

set_option maxHeartbeats 4000000 in
set_option maxRecDepth 100000 in
theorem c_X4_carryOut (l : Launch) (g : gx) (h : Nat) (q : Nat → Nat) (z : Int32) (na : Nat → Nat) (V : sV) (ra : Nat → Nat) (NN : sV) (sa : Nat) (T : Nat → Nat) (k : Nat) (hk : k ≤ 60) (hT : ∀ i, T i < 127) (i : Nat) (hi : i < 60) (hL : ¬ oI (ltr (sg T k i)) = -1) (hok : okAt T k i)  : cU (S := Unit) l g yX4_carryOut cX4_carryOut 5 (some .boolean) ({ frames := 5, cells := 0, slots := 0, locals := 120 } : Room) [.ref h, .int (nI i)] [bB h q z, vB g (q 0) na V, rB g (q 4) ra NN, tB g (q 5) sa T k] (fun _ => some (.int (bI ((ordC T k i V NN).1 = true)))) (fun _ => True) (fun _ => [bB h q z, vB g (q 0) na ((ordC T k i V NN).2.1), rB g (q 4) ra ((ordC T k i V NN).2.2), tB g (q 5) sa T k]) := by
  refine cU.mk (by decide +kernel) (Nat.le_of_ble_eq_true rfl) ?_
  intro p e s m below meth c ls E hK hW hl
  obtain ⟨hx, hb, hr, hml, hts, hown, hlocks, hin⟩ := id E
  have hown : s.vm.findClass RX4 = some m.cls := hown
  have hP := hW.1
  have hl : lv_has ls 5 [(0, .ref h), (1, .int (nI i))] := hl
  have hsg := sg_lt (n := k) hT i
  have hsg1 := sg_lt (n := k) hT (i + 1)
  refine lv_aload_n hx hb dX4_carryOut_0 rfl (lv_at hl 0 rfl) ?_
  refine b_get (v := .ref (q 5)) hx hb hts inX4 hown hK hP 0 0 6 rfl rfl rfl (by decide) q1_168 rfl rfl dX4_carryOut_1 ?_
  refine lv_iload_n hx hb dX4_carryOut_4 rfl (lv_at hl 1 rfl) ?_
  refine call_VR (As := [.int (nI i)]) (rest := []) E rfl hK hP (c_X2_signAt l g (q 5) sa T k (by omega) i (by omega)) ok_X2_signAt rfl q2_162 [3] rfl (b_recv hK hP 3 0 rfl rfl rfl rfl) ⟨⟨rfl, rfl⟩, Nat.le_of_ble_eq_true rfl, Nat.le_of_ble_eq_true rfl⟩ hl.1 (Nat.le_of_ble_eq_true rfl) ⟨Nat.le_of_ble_eq_true rfl, Nat.le_of_ble_eq_true rfl⟩ rfl dX4_carryOut_5 ?_
  refine lv_istore_n (lv' := [(2, .int (nI (sg T k i))), (0, .ref h), (1, .int (nI i))]) hx hb dX4_carryOut_8 rfl hl (by decide) rfl (fun ls hl => ?_)
  refine lv_aload_n hx hb dX4_carryOut_9 rfl (lv_at hl 1 rfl) ?_
  refine b_get (v := .ref (q 5)) hx hb hts inX4 hown hK hP 0 0 6 rfl rfl rfl (by decide) q1_168 rfl rfl dX4_carryOut_10 ?_
  refine lv_iload_n hx hb dX4_carryOut_13 rfl (lv_at hl 2 rfl) ?_
  refine lv_iconst (v := 1) hx hb dX4_carryOut_14 (by decide) ?_
  refine lv_iadd hx hb dX4_carryOut_15 ?_
  refine b_top (y := nI (i + 1)) (nI_add i 1) ?_
  refine call_VR (As := [.int (nI (i + 1))]) (rest := []) E rfl hK hP (c_X2_digitAt l g (q 5) sa T k (by omega) (i + 1) (by omega)) ok_X2_digitAt rfl q2_163 [3] rfl (b_recv hK hP 3 0 rfl rfl rfl rfl) ⟨⟨rfl, rfl⟩, Nat.le_of_ble_eq_true rfl, Nat.le_of_ble_eq_true rfl⟩ hl.1 (Nat.le_of_ble_eq_true rfl) ⟨Nat.le_of_ble_eq_true rfl, Nat.le_of_ble_eq_true rfl⟩ rfl dX4_carryOut_16 ?_
  refine lv_istore_n (lv' := [(3, .int (nI (sg T k (i + 1)) - 48)), (2, .int (nI (sg T k i))), (0, .ref h), (1, .int (nI i))]) hx hb dX4_carryOut_19 rfl hl (by decide) rfl (fun ls hl => ?_)
  refine lv_iload_n hx hb dX4_carryOut_20 rfl (lv_at hl 1 rfl) ?_
  refine lv_bipush (v := 116) hx hb dX4_carryOut_21 (by decide) ?_
  refine b_ne (tgt := 37) (sg T k i) (116) hx hb rfl rfl (by omega) (by omega) dX4_carryOut_23 (by decide) (fun h_1 => ?_) (fun h_1 => ?_)
  · have h116 := h_1
    refine lv_iload_n hx hb dX4_carryOut_37 rfl (lv_at hl 1 rfl) ?_
    refine lv_bipush (v := 115) hx hb dX4_carryOut_38 (by decide) ?_
    refine b_ne (tgt := 77) (sg T k i) (115) hx hb rfl rfl (by omega) (by omega) dX4_carryOut_40 (by decide) (fun h_2 => ?_) (fun h_2 => ?_)
    · have h115 := h_2
      have h112 : sg T k i = 112 := by
        by_cases e : sg T k i = 112
        · exact e
        · exact absurd (by rw [ltr, if_neg e, if_neg (by assumption), if_neg (by assumption)]; rfl) hL
      obtain ⟨t, ht, hte⟩ := hok.2.2 h112
      have htt := dig48 hte (by omega)
      refine lv_aload_n hx hb dX4_carryOut_77 rfl (lv_at hl 2 rfl) ?_
      refine b_get (v := .ref (q 5)) hx hb hts inX4 hown hK hP 0 0 6 rfl rfl rfl (by decide) q1_168 rfl rfl dX4_carryOut_78 ?_
      refine lv_iload_n hx hb dX4_carryOut_81 rfl (lv_at hl 3 rfl) ?_
      refine lv_iconst (v := 2) hx hb dX4_carryOut_82 (by decide) ?_
      refine lv_iadd hx hb dX4_carryOut_83 ?_
      refine b_top (y := nI (i + 2)) (nI_add i 2) ?_
      refine call_VR (As := [.int (nI (i + 2))]) (rest := []) E rfl hK hP (c_X2_bellsFrom l g (q 5) sa T k (by omega) hT (i + 2) (by omega)) ok_X2_bellsFrom rfl q2_167 [3] rfl (b_recv hK hP 3 0 rfl rfl rfl rfl) ⟨⟨rfl, rfl⟩, Nat.le_of_ble_eq_true rfl, Nat.le_of_ble_eq_true rfl⟩ hl.1 (Nat.le_of_ble_eq_true rfl) ⟨Nat.le_of_ble_eq_true rfl, Nat.le_of_ble_eq_true rfl⟩ rfl dX4_carryOut_84 ?_
      refine lv_istore (lv' := [(4, .int (bfN T k (k - (i + 2)) (i + 2) 0)), (3, .int (nI (sg T k (i + 1)) - 48)), (2, .int (nI (sg T k i))), (0, .ref h), (1, .int (nI i))]) hx hb dX4_carryOut_87 hl (by decide) rfl (fun ls hl => ?_)
      refine lv_aload_n hx hb dX4_carryOut_89 rfl (lv_at hl 3 rfl) ?_
      refine lv_iload_n hx hb dX4_carryOut_90 rfl (lv_at hl 1 rfl) ?_
      refine b_top (y := nI t) htt ?_
      refine lv_iload hx hb dX4_carryOut_91 (lv_at hl 0 rfl) ?_
      refine call_VR (As := [.int (nI t), .int (bfN T k (k - (i + 2)) (i + 2) 0)]) (rest := []) E rfl hK hP (c_X4_planError l g h q z na V (nI t) t (fun _ => ⟨rfl, by omega⟩) (bfN T k (k - (i + 2)) (i + 2) 0)) ok_X4_planError rfl q2_12 [0, 1] rfl (b_recv hK hP 0 0 rfl rfl rfl rfl) ⟨⟨rfl, rfl⟩, Nat.le_of_ble_eq_true rfl, Nat.le_of_ble_eq_true rfl⟩ hl.1 (Nat.le_of_ble_eq_true rfl) ⟨Nat.le_of_ble_eq_true rfl, Nat.le_of_ble_eq_true rfl⟩ rfl dX4_carryOut_93 ?_
      refine lv_if_eq (tgt := 101) hx hb dX4_carryOut_96 (by decide) (fun h_3 => ?_) (fun h_3 => ?_)
      · refine lv_aload_n hx hb dX4_carryOut_101 rfl (lv_at hl 3 rfl) ?_
        refine lv_iload_n hx hb dX4_carryOut_102 rfl (lv_at hl 1 rfl) ?_
        refine b_top (y := nI t) htt ?_
        refine lv_iload hx hb dX4_carryOut_103 (lv_at hl 0 rfl) ?_
        refine call_VU (As := [.int (nI t), .int (bfN T k (k - (i + 2)) (i + 2) 0)]) (rest := []) E rfl hK hW (c_X4_changePlan l g h q z na V t (by omega) (bfN T k (k - (i + 2)) (i + 2) 0)) ok_X4_changePlan rfl q2_20 [0, 1] rfl (by decide) (b_recv hK hP 0 0 rfl rfl rfl rfl) ⟨⟨rfl, rfl⟩, Nat.le_of_ble_eq_true rfl, Nat.le_of_ble_eq_true rfl⟩ hl.1 (Nat.le_of_ble_eq_true rfl) ⟨Nat.le_of_ble_eq_true rfl, Nat.le_of_ble_eq_true rfl⟩ rfl dX4_carryOut_105 (fun _u H locs _ hW => ?_)
        have hW : wd g _ s.heap [bB h q z, vB g (q 0) na (up2 V 4 t (bfN T k (k - (i + 2)) (i + 2) 0)), rB g (q 4) ra NN, tB g (q 5) sa T k] H locs := hW
        have hP := hW.1
        refine lv_pop hx hb dX4_carryOut_108 rfl ?_
        refine lv_iconst (v := 1) hx hb dX4_carryOut_109 (by decide) ?_
        exact uZ_ret () hW hx hb hr hlocks dX4_carryOut_110 (by rfl) (bI_t (by rw [ordC, if_neg h116, if_neg h115, hte, Nat.add_sub_cancel_left, if_pos h_3])) trivial (by rw [ordC, if_neg h116, if_neg h115, hte, Nat.add_sub_cancel_left, if_pos h_3]) (adr2 (L := [[h], [q 0, na 0, na 1, na 2, na 3, na 4, na 5, na 6, na 7, na 8, na 9, na 10, na 11], [q 4, ra 0, ra 1, ra 2, ra 3], [q 5, sa]]) rfl rfl)
      · refine lv_iconst (v := 0) hx hb dX4_carryOut_99 (by decide) ?_
        exact uZ_ret () hW hx hb hr hlocks dX4_carryOut_100 (by rfl) (bI_f (by rw [ordC, if_neg h116, if_neg h115, hte, Nat.add_sub_cancel_left, if_neg h_3]; simp)) trivial (by rw [ordC, if_neg h116, if_neg h115, hte, Nat.add_sub_cancel_left, if_neg h_3]) (adr2 (L := [[h], [q 0, na 0, na 1, na 2, na 3, na 4, na 5, na 6, na 7, na 8, na 9, na 10, na 11], [q 4, ra 0, ra 1, ra 2, ra 3], [q 5, sa]]) rfl rfl)
    · have h115 := h_2
      obtain ⟨t, b, ht, hb5, hte, hbe⟩ := hok.2.1 h_2
      have htt := dig48 hte (by omega)
      have hbb := dig48 hbe (by omega)
      refine lv_aload_n hx hb dX4_carryOut_43 rfl (lv_at hl 2 rfl) ?_
      refine b_get (v := .ref (q 5)) hx hb hts inX4 hown hK hP 0 0 6 rfl rfl rfl (by decide) q1_168 rfl rfl dX4_carryOut_44 ?_
      refine lv_iload_n hx hb dX4_carryOut_47 rfl (lv_at hl 3 rfl) ?_
      refine lv_iconst (v := 2) hx hb dX4_carryOut_48 (by decide) ?_
      refine lv_iadd hx hb dX4_carryOut_49 ?_
      refine b_top (y := nI (i + 2)) (nI_add i 2) ?_
      refine call_VR (As := [.int (nI (i + 2))]) (rest := []) E rfl hK hP (c_X2_digitAt l g (q 5) sa T k (by omega) (i + 2) (by omega)) ok_X2_digitAt rfl q2_163 [3] rfl (b_recv hK hP 3 0 rfl rfl rfl rfl) ⟨⟨rfl, rfl⟩, Nat.le_of_ble_eq_true rfl, Nat.le_of_ble_eq_true rfl⟩ hl.1 (Nat.le_of_ble_eq_true rfl) ⟨Nat.le_of_ble_eq_true rfl, Nat.le_of_ble_eq_true rfl⟩ rfl dX4_carryOut_50 ?_
      refine lv_istore (lv' := [(4, .int (nI (sg T k (i + 2)) - 48)), (3, .int (nI (sg T k (i + 1)) - 48)), (2, .int (nI (sg T k i))), (0, .ref h), (1, .int (nI i))]) hx hb dX4_carryOut_53 hl (by decide) rfl (fun ls hl => ?_)
      refine lv_aload_n hx hb dX4_carryOut_55 rfl (lv_at hl 3 rfl) ?_
      refine lv_iload_n hx hb dX4_carryOut_56 rfl (lv_at hl 1 rfl) ?_
      refine b_top (y := nI t) htt ?_
      refine lv_iload hx hb dX4_carryOut_57 (lv_at hl 0 rfl) ?_
      refine b_top (y := nI b) hbb ?_
      refine call_VR (As := [.int (nI t), .int (nI b)]) (rest := []) E rfl hK hP (c_X4_spliceError l g h q z na V (nI t) (nI b) t b (fun _ => ⟨rfl, by omega, rfl, by omega⟩)) ok_X4_spliceError rfl q2_28 [0, 1] rfl (b_recv hK hP 0 0 rfl rfl rfl rfl) ⟨⟨rfl, rfl⟩, Nat.le_of_ble_eq_true rfl, Nat.le_of_ble_eq_true rfl⟩ hl.1 (Nat.le_of_ble_eq_true rfl) ⟨Nat.le_of_ble_eq_true rfl, Nat.le_of_ble_eq_true rfl⟩ rfl dX4_carryOut_59 ?_
      refine lv_if_eq (tgt := 67) hx hb dX4_carryOut_62 (by decide) (fun h_4 => ?_) (fun h_4 => ?_)
      · refine lv_aload_n hx hb dX4_carryOut_67 rfl (lv_at hl 3 rfl) ?_
        refine lv_iload_n hx hb dX4_carryOut_68 rfl (lv_at hl 1 rfl) ?_
        refine b_top (y := nI t) htt ?_
        refine lv_iload hx hb dX4_carryOut_69 (lv_at hl 0 rfl) ?_
        refine b_top (y := nI b) hbb ?_
        refine call_VU (As := [.int (nI t), .int (nI b)]) (rest := []) E rfl hK hW (c_X4_mendRope l g h q z na V t b (by omega) (by omega)) ok_X4_mendRope rfl q2_36 [0, 1] rfl (by decide) (b_recv hK hP 0 0 rfl rfl rfl rfl) ⟨⟨rfl, rfl⟩, Nat.le_of_ble_eq_true rfl, Nat.le_of_ble_eq_true rfl⟩ hl.1 (Nat.le_of_ble_eq_true rfl) ⟨Nat.le_of_ble_eq_true rfl, Nat.le_of_ble_eq_true rfl⟩ rfl dX4_carryOut_71 (fun _u H locs _ hW => ?_)
        have hW : wd g _ s.heap [bB h q z, vB g (q 0) na (up2 (up2 V 10 (t * 5 + b) 0) 2 t (V 2 t + 2)), rB g (q 4) ra NN, tB g (q 5) sa T k] H locs := hW
        have hP := hW.1
        refine lv_pop hx hb dX4_carryOut_74 rfl ?_
        refine lv_iconst (v := 1) hx hb dX4_carryOut_75 (by decide) ?_
        exact uZ_ret () hW hx hb hr hlocks dX4_carryOut_76 (by rfl) (bI_t (by rw [ordC, if_neg h116, if_pos h115, hte, hbe, Nat.add_sub_cancel_left, Nat.add_sub_cancel_left, if_pos h_4])) trivial (by rw [ordC, if_neg h116, if_pos h115, hte, hbe, Nat.add_sub_cancel_left, Nat.add_sub_cancel_left, if_pos h_4]) (adr2 (L := [[h], [q 0, na 0, na 1, na 2, na 3, na 4, na 5, na 6, na 7, na 8, na 9, na 10, na 11], [q 4, ra 0, ra 1, ra 2, ra 3], [q 5, sa]]) rfl rfl)
      · refine lv_iconst (v := 0) hx hb dX4_carryOut_65 (by decide) ?_
        exact uZ_ret () hW hx hb hr hlocks dX4_carryOut_66 (by rfl) (bI_f (by rw [ordC, if_neg h116, if_pos h115, hte, hbe, Nat.add_sub_cancel_left, Nat.add_sub_cancel_left, if_neg h_4]; simp)) trivial (by rw [ordC, if_neg h116, if_pos h115, hte, hbe, Nat.add_sub_cancel_left, Nat.add_sub_cancel_left, if_neg h_4]) (adr2 (L := [[h], [q 0, na 0, na 1, na 2, na 3, na 4, na 5, na 6, na 7, na 8, na 9, na 10, na 11], [q 4, ra 0, ra 1, ra 2, ra 3], [q 5, sa]]) rfl rfl)
  · have h116 := h_1
    obtain ⟨d, hd1, hd9, hde⟩ := hok.1 h_1
    have hdd := dig48 hde (by omega)
    refine lv_aload_n hx hb dX4_carryOut_26 rfl (lv_at hl 2 rfl) ?_
    refine lv_aload_n hx hb dX4_carryOut_27 rfl (lv_at hl 2 rfl) ?_
    refine b_get (v := .ref (q 0)) hx hb hts inX4 hown hK hP 0 0 0 rfl rfl rfl (by decide) q1_162 rfl rfl dX4_carryOut_28 ?_
    refine lv_iload_n hx hb dX4_carryOut_31 rfl (lv_at hl 0 rfl) ?_
    refine b_top (y := nI d) hdd ?_
    refine call_VU (As := [.ref (q 0), .int (nI d)]) (rest := []) E rfl hK hW (c_X4_makeTurns l g h q z (q 0) na V ra NN d (by omega)) ok_X4_makeTurns rfl q2_58 [0, 1, 2] rfl (by decide) (b_recv hK hP 0 0 rfl rfl rfl rfl) ⟨⟨rfl, rfl⟩, Nat.le_of_ble_eq_true rfl, Nat.le_of_ble_eq_true rfl⟩ hl.1 (Nat.le_of_ble_eq_true rfl) ⟨Nat.le_of_ble_eq_true rfl, Nat.le_of_ble_eq_true rfl⟩ rfl dX4_carryOut_32 (fun _u H locs _ hW => ?_)
    have hW : wd g _ s.heap [bB h q z, vB g (q 0) na ((mtV V NN d).1), rB g (q 4) ra ((mtV V NN d).2), tB g (q 5) sa T k] H locs := hW
    have hP := hW.1
    obtain ⟨U_5, hU_5⟩ : ∃ z, z = (mtV V NN d).1 := ⟨_, rfl⟩
    rw [← hU_5] at hW
    obtain ⟨U_6, hU_6⟩ : ∃ z, z = (mtV V NN d).2 := ⟨_, rfl⟩
    rw [← hU_6] at hW
    have hP := hW.1
    refine lv_iconst (v := 1) hx hb dX4_carryOut_35 (by decide) ?_
    exact uZ_ret () hW hx hb hr hlocks dX4_carryOut_36 (by rfl) (bI_t (by rw [ordC, if_pos h116])) trivial (by rw [ordC, if_pos h116, hde, Nat.add_sub_cancel_left, hU_6, hU_5]) (adr2 (L := [[h], [q 0, na 0, na 1, na 2, na 3, na 4, na 5, na 6, na 7, na 8, na 9, na 10, na 11], [q 4, ra 0, ra 1, ra 2, ra 3], [q 5, sa]]) rfl rfl)
end
