-- ===== PART A: goes FIRST, ahead of the names: the tables' words, and 'selects' of the private methods out of them =====
/-- a private method of a class that the tables say can be made, by its rows of tables_1 -/
def lw_okq (q : MethodName × Nat) : Prop := (q.1.cls ≠ "java/lang/invoke/MethodHandle" ∧ q.1.cls ≠ "java/lang/invoke/VarHandle") ∧ Cond.instantiable q.1.cls q.2 ∈ tables_1 ∧ Cond.privateMethod q.1 ∈ tables_1 ∧ Cond.instanceMethod q.1 ∈ tables_1
theorem lw_p0 : lw_okq (⟨"BellTowns$Ringing", "ringIn", "(LBellTowns$Valley;I)V"⟩, 5) := ⟨⟨by decide +kernel, by decide +kernel⟩, List.mem_of_getElem? (i := 118) (by decide +kernel), List.mem_of_getElem? (i := 213) (by decide +kernel), List.mem_of_getElem? (i := 214) (by decide +kernel)⟩
theorem lw_p1 : lw_okq (⟨"BellTowns$Ringing", "winnerIn", "(LBellTowns$Valley;I)I"⟩, 5) := ⟨⟨by decide +kernel, by decide +kernel⟩, List.mem_of_getElem? (i := 118) (by decide +kernel), List.mem_of_getElem? (i := 235) (by decide +kernel), List.mem_of_getElem? (i := 236) (by decide +kernel)⟩
theorem lw_p2 : lw_okq (⟨"BellTowns", "planError", "(II)I"⟩, 7) := ⟨⟨by decide +kernel, by decide +kernel⟩, List.mem_of_getElem? (i := 9) (by decide +kernel), List.mem_of_getElem? (i := 315) (by decide +kernel), List.mem_of_getElem? (i := 316) (by decide +kernel)⟩
theorem lw_p3 : lw_okq (⟨"BellTowns", "pointsWithPlan", "(II)I"⟩, 7) := ⟨⟨by decide +kernel, by decide +kernel⟩, List.mem_of_getElem? (i := 9) (by decide +kernel), List.mem_of_getElem? (i := 333) (by decide +kernel), List.mem_of_getElem? (i := 334) (by decide +kernel)⟩
theorem lw_p4 : lw_okq (⟨"BellTowns", "makeTurns", "(LBellTowns$Valley;I)V"⟩, 7) := ⟨⟨by decide +kernel, by decide +kernel⟩, List.mem_of_getElem? (i := 9) (by decide +kernel), List.mem_of_getElem? (i := 361) (by decide +kernel), List.mem_of_getElem? (i := 362) (by decide +kernel)⟩
theorem lw_p5 : lw_okq (⟨"BellTowns$Valley", "givePoints", "(LBellTowns$Ringing;)V"⟩, 17) := ⟨⟨by decide +kernel, by decide +kernel⟩, List.mem_of_getElem? (i := 17) (by decide +kernel), List.mem_of_getElem? (i := 369) (by decide +kernel), List.mem_of_getElem? (i := 370) (by decide +kernel)⟩
theorem lw_p6 : lw_okq (⟨"BellTowns$Valley", "wearRopes", "(LBellTowns$Ringing;)V"⟩, 17) := ⟨⟨by decide +kernel, by decide +kernel⟩, List.mem_of_getElem? (i := 17) (by decide +kernel), List.mem_of_getElem? (i := 373) (by decide +kernel), List.mem_of_getElem? (i := 374) (by decide +kernel)⟩
theorem lw_p7 : lw_okq (⟨"BellTowns$Valley", "tireRingers", "(LBellTowns$Ringing;)V"⟩, 17) := ⟨⟨by decide +kernel, by decide +kernel⟩, List.mem_of_getElem? (i := 17) (by decide +kernel), List.mem_of_getElem? (i := 377) (by decide +kernel), List.mem_of_getElem? (i := 378) (by decide +kernel)⟩
theorem lw_p8 : lw_okq (⟨"BellTowns$Valley", "fallSilent", "(I)V"⟩, 17) := ⟨⟨by decide +kernel, by decide +kernel⟩, List.mem_of_getElem? (i := 17) (by decide +kernel), List.mem_of_getElem? (i := 381) (by decide +kernel), List.mem_of_getElem? (i := 382) (by decide +kernel)⟩
theorem lw_p9 : lw_okq (⟨"BellTowns$History", "placeOf", "(I)I"⟩, 3) := ⟨⟨by decide +kernel, by decide +kernel⟩, List.mem_of_getElem? (i := 98) (by decide +kernel), List.mem_of_getElem? (i := 399) (by decide +kernel), List.mem_of_getElem? (i := 400) (by decide +kernel)⟩
theorem lw_p10 : lw_okq (⟨"BellTowns$Valley", "fillSlot", "(IIII)V"⟩, 17) := ⟨⟨by decide +kernel, by decide +kernel⟩, List.mem_of_getElem? (i := 17) (by decide +kernel), List.mem_of_getElem? (i := 409) (by decide +kernel), List.mem_of_getElem? (i := 410) (by decide +kernel)⟩
theorem lw_p11 : lw_okq (⟨"BellTowns", "spliceError", "(II)I"⟩, 7) := ⟨⟨by decide +kernel, by decide +kernel⟩, List.mem_of_getElem? (i := 9) (by decide +kernel), List.mem_of_getElem? (i := 425) (by decide +kernel), List.mem_of_getElem? (i := 426) (by decide +kernel)⟩
theorem lw_p12 : lw_okq (⟨"BellTowns", "mendRope", "(II)I"⟩, 7) := ⟨⟨by decide +kernel, by decide +kernel⟩, List.mem_of_getElem? (i := 9) (by decide +kernel), List.mem_of_getElem? (i := 430) (by decide +kernel), List.mem_of_getElem? (i := 431) (by decide +kernel)⟩
theorem lw_p13 : lw_okq (⟨"BellTowns", "changePlan", "(II)I"⟩, 7) := ⟨⟨by decide +kernel, by decide +kernel⟩, List.mem_of_getElem? (i := 9) (by decide +kernel), List.mem_of_getElem? (i := 452) (by decide +kernel), List.mem_of_getElem? (i := 453) (by decide +kernel)⟩
def lw_privs_1 : List (MethodName × Nat) := [(⟨"BellTowns$Ringing", "ringIn", "(LBellTowns$Valley;I)V"⟩, 5), (⟨"BellTowns$Ringing", "winnerIn", "(LBellTowns$Valley;I)I"⟩, 5), (⟨"BellTowns", "planError", "(II)I"⟩, 7), (⟨"BellTowns", "pointsWithPlan", "(II)I"⟩, 7), (⟨"BellTowns", "makeTurns", "(LBellTowns$Valley;I)V"⟩, 7), (⟨"BellTowns$Valley", "givePoints", "(LBellTowns$Ringing;)V"⟩, 17), (⟨"BellTowns$Valley", "wearRopes", "(LBellTowns$Ringing;)V"⟩, 17), (⟨"BellTowns$Valley", "tireRingers", "(LBellTowns$Ringing;)V"⟩, 17), (⟨"BellTowns$Valley", "fallSilent", "(I)V"⟩, 17), (⟨"BellTowns$History", "placeOf", "(I)I"⟩, 3), (⟨"BellTowns$Valley", "fillSlot", "(IIII)V"⟩, 17), (⟨"BellTowns", "spliceError", "(II)I"⟩, 7), (⟨"BellTowns", "mendRope", "(II)I"⟩, 7), (⟨"BellTowns", "changePlan", "(II)I"⟩, 7)]
theorem lw_r1 : ∀ q ∈ lw_privs_1, lw_okq q := List.forall_mem_cons.mpr ⟨lw_p0, List.forall_mem_cons.mpr ⟨lw_p1, List.forall_mem_cons.mpr ⟨lw_p2, List.forall_mem_cons.mpr ⟨lw_p3, List.forall_mem_cons.mpr ⟨lw_p4, List.forall_mem_cons.mpr ⟨lw_p5, List.forall_mem_cons.mpr ⟨lw_p6, List.forall_mem_cons.mpr ⟨lw_p7, List.forall_mem_cons.mpr ⟨lw_p8, List.forall_mem_cons.mpr ⟨lw_p9, List.forall_mem_cons.mpr ⟨lw_p10, List.forall_mem_cons.mpr ⟨lw_p11, List.forall_mem_cons.mpr ⟨lw_p12, List.forall_mem_cons.mpr ⟨lw_p13, fun _ h => absurd h List.not_mem_nil⟩⟩⟩⟩⟩⟩⟩⟩⟩⟩⟩⟩⟩⟩
def lw_privs : List (MethodName × Nat) := lw_privs_1
def lw_tbl : List Cond := k2_sels lw_privs ++ tables_1
theorem lw_privs_ok : ∀ q ∈ lw_privs, lw_okq q := lw_r1
/-- the streams that the claim lets the run draw from -/
abbrev lw_cs : List Choice := [Jvm.Choice.named "NaN.bits"]
theorem lw_bits : nanBits ∈ lw_cs := by first | decide | exact List.mem_cons_self | simp [lw_cs, nanBits]
/-! ===== BEGIN words of one list among another's, by their places ===== -/
theorem goodIn_r {big : List Cond} (ws : List Cond) (ps : List Nat) (hp : ws = ps.filterMap (fun i => big[i]?)) (h : ws.all goodWord = true) : GoodIn big ws := by
  intro w hw
  have h1 := List.all_eq_true.mp h w hw
  rw [hp] at hw
  obtain ⟨i, -, hi⟩ := List.mem_filterMap.mp hw
  have hm : w ∈ big := by first | exact List.mem_of_getElem? hi | exact List.getElem?_mem hi
  exact ⟨hm, good_of_word h1⟩
theorem goodIn_app {big a b : List Cond} (ha : GoodIn big a) (hb : GoodIn big b) : GoodIn big (a ++ b) := fun w h => (List.mem_append.mp h).elim (ha w) (hb w)
theorem goodIn_ca {big a b : List Cond} {c : Cond} (ha : GoodIn big (c :: a)) (hb : GoodIn big b) : GoodIn big (c :: (a ++ b)) := fun w h => (List.mem_cons.mp h).elim (fun e => ha w (List.mem_cons.mpr (Or.inl e))) (fun h => (List.mem_append.mp h).elim (fun h => ha w (List.mem_cons.mpr (Or.inr h))) (hb w))
theorem goodIn_sub {big ws : List Cond} (hm : ∀ w ∈ ws, w ∈ big) (h : ws.all goodWord = true) : GoodIn big ws := fun w hw => ⟨hm w hw, good_of_word (List.all_eq_true.mp h w hw)⟩
/-! ===== END ===== -/

/-! ===== BEGIN printed: names, fields, word lists, decode rows ===== -/
def RX0 : String := "BellTowns$History"
def TX0 : u_T := fun k => match k with
  | 0 => ("BellTowns$History", "states", "[LBellTowns$Valley;", true)
  | 1 => ("BellTowns$History", "oldest", "I", false)
  | _ => ("BellTowns$History", "size", "I", false)
def tyX0 : Nat → FieldType := fun k => match k with
  | 0 => .array (.object "BellTowns$Valley")
  | 1 => .int
  | _ => .int
abbrev wsX00 : List Cond := u_ws RX0 TX0 3
theorem nmX0 : ∀ a, a < 3 → ∀ b, b < 3 → a ≠ b → (TX0 a).2.1 ≠ (TX0 b).2.1 := by decide +kernel
theorem tyX0_ok : ∀ k, k < 3 → parseFieldDescriptor (TX0 k).2.2.1 = some (tyX0 k) := by decide +kernel
abbrev cX0_init : ByteArray := prog_2_method_1_code
def yX0_init : MethodName := ⟨RX0, "<init>", "()V"⟩
abbrev cX0_record : ByteArray := prog_2_method_2_code
def yX0_record : MethodName := ⟨RX0, "record", "(LBellTowns$Valley;)V"⟩
abbrev cX0_placeOf : ByteArray := prog_2_method_4_code
def yX0_placeOf : MethodName := ⟨RX0, "placeOf", "(I)I"⟩
def RX1 : String := "BellTowns$Ringing"
def TX1 : u_T := fun k => match k with
  | 0 => ("BellTowns$Ringing", "reasons", "[I", true)
  | 1 => ("BellTowns$Ringing", "volumes", "[I", true)
  | 2 => ("BellTowns$Ringing", "ringersBusy", "[I", true)
  | 3 => ("BellTowns$Ringing", "winners", "[I", true)
  | _ => ("BellTowns$Ringing", "loudest", "I", false)
def tyX1 : Nat → FieldType := fun k => match k with
  | 0 => .array .int
  | 1 => .array .int
  | 2 => .array .int
  | 3 => .array .int
  | _ => .int
abbrev wsX10 : List Cond := u_ws RX1 TX1 5
theorem nmX1 : ∀ a, a < 5 → ∀ b, b < 5 → a ≠ b → (TX1 a).2.1 ≠ (TX1 b).2.1 := by decide +kernel
theorem tyX1_ok : ∀ k, k < 5 → parseFieldDescriptor (TX1 k).2.2.1 = some (tyX1 k) := by decide +kernel
abbrev cX1_init : ByteArray := prog_3_method_1_code
def yX1_init : MethodName := ⟨RX1, "<init>", "()V"⟩
abbrev cX1_foresee : ByteArray := prog_3_method_2_code
def yX1_foresee : MethodName := ⟨RX1, "foresee", "(LBellTowns$Valley;)V"⟩
abbrev cX1_ringIn : ByteArray := prog_3_method_3_code
def yX1_ringIn : MethodName := ⟨RX1, "ringIn", "(LBellTowns$Valley;I)V"⟩
abbrev cX1_soundIn : ByteArray := prog_3_method_4_code
def yX1_soundIn : MethodName := ⟨RX1, "soundIn", "(LBellTowns$Valley;II)I"⟩
abbrev cX1_winnerIn : ByteArray := prog_3_method_5_code
def yX1_winnerIn : MethodName := ⟨RX1, "winnerIn", "(LBellTowns$Valley;I)I"⟩
abbrev cX1_pointsOf : ByteArray := prog_3_method_6_code
def yX1_pointsOf : MethodName := ⟨RX1, "pointsOf", "(I)I"⟩
def RX2 : String := "BellTowns$Script"
def TX2 : u_T := fun k => match k with
  | 0 => ("BellTowns$Script", "signs", "[C", true)
  | _ => ("BellTowns$Script", "length", "I", false)
def tyX2 : Nat → FieldType := fun k => match k with
  | 0 => .array .char
  | _ => .int
abbrev wsX20 : List Cond := u_ws RX2 TX2 2
theorem nmX2 : ∀ a, a < 2 → ∀ b, b < 2 → a ≠ b → (TX2 a).2.1 ≠ (TX2 b).2.1 := by decide +kernel
theorem tyX2_ok : ∀ k, k < 2 → parseFieldDescriptor (TX2 k).2.2.1 = some (tyX2 k) := by decide +kernel
abbrev cX2_init : ByteArray := prog_4_method_1_code
def yX2_init : MethodName := ⟨RX2, "<init>", "()V"⟩
def RX3 : String := "BellTowns$Valley"
def TX3 : u_T := fun k => match k with
  | 0 => ("BellTowns$Valley", "milestones", "[I", true)
  | 1 => ("BellTowns$Valley", "ringers", "[I", true)
  | 2 => ("BellTowns$Valley", "tired", "[I", true)
  | 3 => ("BellTowns$Valley", "bellCounts", "[I", true)
  | 4 => ("BellTowns$Valley", "plans", "[I", true)
  | 5 => ("BellTowns$Valley", "feastDays", "[I", true)
  | 6 => ("BellTowns$Valley", "silences", "[I", true)
  | 7 => ("BellTowns$Valley", "points", "[I", true)
  | 8 => ("BellTowns$Valley", "timesLoudest", "[I", true)
  | 9 => ("BellTowns$Valley", "weights", "[I", true)
  | 10 => ("BellTowns$Valley", "wears", "[I", true)
  | 11 => ("BellTowns$Valley", "timesRung", "[I", true)
  | 12 => ("BellTowns$Valley", "fade", "I", false)
  | 13 => ("BellTowns$Valley", "rest", "I", false)
  | 14 => ("BellTowns$Valley", "turn", "I", false)
  | 15 => ("BellTowns$Valley", "turnsWithoutLoudest", "I", false)
  | _ => ("BellTowns$Valley", "latestLoudest", "I", false)
def tyX3 : Nat → FieldType := fun k => match k with
  | 0 => .array .int
  | 1 => .array .int
  | 2 => .array .int
  | 3 => .array .int
  | 4 => .array .int
  | 5 => .array .int
  | 6 => .array .int
  | 7 => .array .int
  | 8 => .array .int
  | 9 => .array .int
  | 10 => .array .int
  | 11 => .array .int
  | 12 => .int
  | 13 => .int
  | 14 => .int
  | 15 => .int
  | _ => .int
abbrev wsX30 : List Cond := u_ws RX3 TX3 17
theorem nmX3 : ∀ a, a < 17 → ∀ b, b < 17 → a ≠ b → (TX3 a).2.1 ≠ (TX3 b).2.1 := by decide +kernel
theorem tyX3_ok : ∀ k, k < 17 → parseFieldDescriptor (TX3 k).2.2.1 = some (tyX3 k) := by decide +kernel
abbrev cX3_init : ByteArray := prog_5_method_1_code
def yX3_init : MethodName := ⟨RX3, "<init>", "()V"⟩
abbrev cX3_copyFrom : ByteArray := prog_5_method_2_code
def yX3_copyFrom : MethodName := ⟨RX3, "copyFrom", "(LBellTowns$Valley;)V"⟩
abbrev cX3_copyTowns : ByteArray := prog_5_method_3_code
def yX3_copyTowns : MethodName := ⟨RX3, "copyTowns", "([I[I)V"⟩
abbrev cX3_copyBells : ByteArray := prog_5_method_4_code
def yX3_copyBells : MethodName := ⟨RX3, "copyBells", "([I[I)V"⟩
abbrev cX3_hasBell : ByteArray := prog_5_method_5_code
def yX3_hasBell : MethodName := ⟨RX3, "hasBell", "(II)Z"⟩
abbrev cX3_everyBell : ByteArray := prog_5_method_6_code
def yX3_everyBell : MethodName := ⟨RX3, "everyBell", "(I)I"⟩
abbrev cX3_rested : ByteArray := prog_5_method_7_code
def yX3_rested : MethodName := ⟨RX3, "rested", "(I)I"⟩
abbrev cX3_isTakenByAnother : ByteArray := prog_5_method_8_code
def yX3_isTakenByAnother : MethodName := ⟨RX3, "isTakenByAnother", "(II)Z"⟩
abbrev cX3_addBell : ByteArray := prog_5_method_9_code
def yX3_addBell : MethodName := ⟨RX3, "addBell", "(II)I"⟩
abbrev cX3_removeBell : ByteArray := prog_5_method_10_code
def yX3_removeBell : MethodName := ⟨RX3, "removeBell", "(II)V"⟩
abbrev cX3_fillSlot : ByteArray := prog_5_method_11_code
def yX3_fillSlot : MethodName := ⟨RX3, "fillSlot", "(IIII)V"⟩
abbrev cX3_wantedBells : ByteArray := prog_5_method_12_code
def yX3_wantedBells : MethodName := ⟨RX3, "wantedBells", "(I)I"⟩
abbrev cX3_allBells : ByteArray := prog_5_method_13_code
def yX3_allBells : MethodName := ⟨RX3, "allBells", "()I"⟩
abbrev cX3_brokenRopes : ByteArray := prog_5_method_14_code
def yX3_brokenRopes : MethodName := ⟨RX3, "brokenRopes", "()I"⟩
abbrev cX3_silentTowns : ByteArray := prog_5_method_15_code
def yX3_silentTowns : MethodName := ⟨RX3, "silentTowns", "()I"⟩
abbrev cX3_allPoints : ByteArray := prog_5_method_16_code
def yX3_allPoints : MethodName := ⟨RX3, "allPoints", "()I"⟩
abbrev cX3_pass : ByteArray := prog_5_method_17_code
def yX3_pass : MethodName := ⟨RX3, "pass", "(LBellTowns$Ringing;)V"⟩
abbrev cX3_givePoints : ByteArray := prog_5_method_18_code
def yX3_givePoints : MethodName := ⟨RX3, "givePoints", "(LBellTowns$Ringing;)V"⟩
abbrev cX3_wearRopes : ByteArray := prog_5_method_19_code
def yX3_wearRopes : MethodName := ⟨RX3, "wearRopes", "(LBellTowns$Ringing;)V"⟩
abbrev cX3_tireRingers : ByteArray := prog_5_method_20_code
def yX3_tireRingers : MethodName := ⟨RX3, "tireRingers", "(LBellTowns$Ringing;)V"⟩
abbrev cX3_fallSilent : ByteArray := prog_5_method_21_code
def yX3_fallSilent : MethodName := ⟨RX3, "fallSilent", "(I)V"⟩
def RX4 : String := "BellTowns"
def TX4 : u_T := fun k => match k with
  | 0 => ("BellTowns", "now", "LBellTowns$Valley;", true)
  | 1 => ("BellTowns", "trial", "LBellTowns$Valley;", true)
  | 2 => ("BellTowns", "snapshot", "LBellTowns$Valley;", true)
  | 3 => ("BellTowns", "snapshotTaken", "Z", false)
  | 4 => ("BellTowns", "history", "LBellTowns$History;", true)
  | 5 => ("BellTowns", "ringing", "LBellTowns$Ringing;", true)
  | _ => ("BellTowns", "script", "LBellTowns$Script;", true)
def tyX4 : Nat → FieldType := fun k => match k with
  | 0 => .object "BellTowns$Valley"
  | 1 => .object "BellTowns$Valley"
  | 2 => .object "BellTowns$Valley"
  | 3 => .boolean
  | 4 => .object "BellTowns$History"
  | 5 => .object "BellTowns$Ringing"
  | _ => .object "BellTowns$Script"
abbrev wsX40 : List Cond := u_ws RX4 TX4 7
theorem nmX4 : ∀ a, a < 7 → ∀ b, b < 7 → a ≠ b → (TX4 a).2.1 ≠ (TX4 b).2.1 := by decide +kernel
theorem tyX4_ok : ∀ k, k < 7 → parseFieldDescriptor (TX4 k).2.2.1 = some (tyX4 k) := by decide +kernel
abbrev cX4_init : ByteArray := prog_1_method_1_code
def yX4_init : MethodName := ⟨RX4, "<init>", "()V"⟩
abbrev cX4_hang : ByteArray := prog_1_method_2_code
def yX4_hang : MethodName := ⟨RX4, "hang", "(II)I"⟩
abbrev cX4_melt : ByteArray := prog_1_method_3_code
def yX4_melt : MethodName := ⟨RX4, "melt", "(II)I"⟩
abbrev cX4_settle : ByteArray := prog_1_method_4_code
def yX4_settle : MethodName := ⟨RX4, "settle", "(III)I"⟩
abbrev cX4_plan : ByteArray := prog_1_method_5_code
def yX4_plan : MethodName := ⟨RX4, "plan", "(II)I"⟩
abbrev cX4_splice : ByteArray := prog_1_method_6_code
def yX4_splice : MethodName := ⟨RX4, "splice", "(II)I"⟩
abbrev cX4_feast : ByteArray := prog_1_method_7_code
def yX4_feast : MethodName := ⟨RX4, "feast", "(II)I"⟩
abbrev cX4_set : ByteArray := prog_1_method_8_code
def yX4_set : MethodName := ⟨RX4, "set", "(II)I"⟩
abbrev cX4_turns : ByteArray := prog_1_method_9_code
def yX4_turns : MethodName := ⟨RX4, "turns", "(I)I"⟩
abbrev cX4_town : ByteArray := prog_1_method_17_code
def yX4_town : MethodName := ⟨RX4, "town", "(II)I"⟩
abbrev cX4_bell : ByteArray := prog_1_method_18_code
def yX4_bell : MethodName := ⟨RX4, "bell", "(III)I"⟩
abbrev cX4_count : ByteArray := prog_1_method_19_code
def yX4_count : MethodName := ⟨RX4, "count", "(I)I"⟩
abbrev cX4_loudness : ByteArray := prog_1_method_20_code
def yX4_loudness : MethodName := ⟨RX4, "loudness", "(I)I"⟩
abbrev cX4_heard : ByteArray := prog_1_method_21_code
def yX4_heard : MethodName := ⟨RX4, "heard", "(II)I"⟩
abbrev cX4_winner : ByteArray := prog_1_method_22_code
def yX4_winner : MethodName := ⟨RX4, "winner", "(I)I"⟩
abbrev cX4_ifPlanned : ByteArray := prog_1_method_23_code
def yX4_ifPlanned : MethodName := ⟨RX4, "ifPlanned", "(II)I"⟩
abbrev cX4_bestPlan : ByteArray := prog_1_method_24_code
def yX4_bestPlan : MethodName := ⟨RX4, "bestPlan", "(I)I"⟩
abbrev cX4_pointsIn : ByteArray := prog_1_method_25_code
def yX4_pointsIn : MethodName := ⟨RX4, "pointsIn", "(II)I"⟩
abbrev cX4_share : ByteArray := prog_1_method_26_code
def yX4_share : MethodName := ⟨RX4, "share", "(I)D"⟩
abbrev cX4_isTown : ByteArray := prog_1_method_27_code
def yX4_isTown : MethodName := ⟨RX4, "isTown", "(I)Z"⟩
abbrev cX4_slot : ByteArray := prog_1_method_28_code
def yX4_slot : MethodName := ⟨RX4, "slot", "(II)I"⟩
abbrev cX4_ringersFor : ByteArray := prog_1_method_29_code
def yX4_ringersFor : MethodName := ⟨RX4, "ringersFor", "(I)I"⟩
abbrev cX4_isInRange : ByteArray := prog_1_method_30_code
def yX4_isInRange : MethodName := ⟨RX4, "isInRange", "(II)Z"⟩
abbrev cX4_planError : ByteArray := prog_1_method_31_code
def yX4_planError : MethodName := ⟨RX4, "planError", "(II)I"⟩
abbrev cX4_changePlan : ByteArray := prog_1_method_32_code
def yX4_changePlan : MethodName := ⟨RX4, "changePlan", "(II)I"⟩
abbrev cX4_spliceError : ByteArray := prog_1_method_33_code
def yX4_spliceError : MethodName := ⟨RX4, "spliceError", "(II)I"⟩
abbrev cX4_mendRope : ByteArray := prog_1_method_34_code
def yX4_mendRope : MethodName := ⟨RX4, "mendRope", "(II)I"⟩
abbrev cX4_turnsError : ByteArray := prog_1_method_35_code
def yX4_turnsError : MethodName := ⟨RX4, "turnsError", "(I)I"⟩
abbrev cX4_makeTurns : ByteArray := prog_1_method_36_code
def yX4_makeTurns : MethodName := ⟨RX4, "makeTurns", "(LBellTowns$Valley;I)V"⟩
abbrev cX4_pointsWithPlan : ByteArray := prog_1_method_37_code
def yX4_pointsWithPlan : MethodName := ⟨RX4, "pointsWithPlan", "(II)I"⟩
def RX5 : String := "BellTownsModel"
def TX5 : u_T := fun k => match k with
  | _ => ("", "", "", false)
def tyX5 : Nat → FieldType := fun k => match k with
  | _ => .int
abbrev wsX50 : List Cond := u_ws RX5 TX5 0
theorem nmX5 : ∀ a, a < 0 → ∀ b, b < 0 → a ≠ b → (TX5 a).2.1 ≠ (TX5 b).2.1 := by decide +kernel
theorem tyX5_ok : ∀ k, k < 0 → parseFieldDescriptor (TX5 k).2.2.1 = some (tyX5 k) := by decide +kernel
def RL : String := "BellTownsLaw"
abbrev cL_cell : ByteArray := method_2_code
def yL_cell : MethodName := ⟨RL, "cell", "([II)I"⟩
abbrev cL_low : ByteArray := method_3_code
def yL_low : MethodName := ⟨RL, "low", "(II)I"⟩
abbrev cL_rings : ByteArray := method_4_code
def yL_rings : MethodName := ⟨RL, "rings", "([I[I[I[III)I"⟩
abbrev cL_loud : ByteArray := method_5_code
def yL_loud : MethodName := ⟨RL, "loud", "([III)I"⟩
abbrev cL_reaches : ByteArray := method_6_code
def yL_reaches : MethodName := ⟨RL, "reaches", "([I[I[III)I"⟩
abbrev cL_wins : ByteArray := method_7_code
def yL_wins : MethodName := ⟨RL, "wins", "([I[I[II)I"⟩
abbrev cL_listens : ByteArray := method_8_code
def yL_listens : MethodName := ⟨RL, "listens", "([I[I[I[I[I)V"⟩
abbrev cL_turns : ByteArray := method_9_code
def yL_turns : MethodName := ⟨RL, "turns", "([I[I[I[I[I)V"⟩
abbrev cL_areTowns : ByteArray := method_10_code
def yL_areTowns : MethodName := ⟨RL, "areTowns", "(LBellTowns;[I[I[I[I[I)Z"⟩
abbrev cL_areHeard : ByteArray := method_11_code
def yL_areHeard : MethodName := ⟨RL, "areHeard", "(LBellTowns;[I[I[I[I)Z"⟩
abbrev cL_isPlanned : ByteArray := method_12_code
def yL_isPlanned : MethodName := ⟨RL, "isPlanned", "(LBellTowns;[I[I[I[II)Z"⟩
abbrev cL_copy : ByteArray := method_13_code
def yL_copy : MethodName := ⟨RL, "copy", "([I[I)V"⟩
abbrev cL_would : ByteArray := method_14_code
def yL_would : MethodName := ⟨RL, "would", "(LBellTowns;[I[I[I[I[III)Z"⟩
abbrev cL_bells : ByteArray := method_15_code
def yL_bells : MethodName := ⟨RL, "bells", "(LBellTowns;[I[I[I[IIII)Z"⟩
abbrev cL_settles : ByteArray := method_16_code
def yL_settles : MethodName := ⟨RL, "settles", "(LBellTowns;[III)Z"⟩
abbrev cL_acts : ByteArray := method_17_code
def yL_acts : MethodName := ⟨RL, "acts", "(LBellTowns;[I[I[I[I[III)Z"⟩
abbrev cL_law : ByteArray := code
def yL_law : MethodName := ⟨RL, "law", "([I)Z"⟩
abbrev vwCl : List vw_C := [(RX0, TX0, 3), (RX1, TX1, 5), (RX2, TX2, 2), (RX3, TX3, 17), (RX4, TX4, 7)]
