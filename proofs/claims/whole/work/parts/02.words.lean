/-- the words that every method may use: the good ones of the tables -/
def wsL_law : List Cond := lw_tbl.filter goodWord
theorem aw_in : ∀ w ∈ wsL_law, w ∈ lw_tbl := fun _ h => (List.mem_filter.mp h).1
theorem aw_of {w : Cond} (h : w ∈ lw_tbl) (hg : goodWord w = true) : w ∈ wsL_law := List.mem_filter.mpr ⟨h, hg⟩
theorem t1_in {w : Cond} (h : w ∈ tables_1_1) : w ∈ lw_tbl := List.mem_append_right _ (List.mem_append_left _ h)
theorem t2_in {w : Cond} (h : w ∈ tables_1_2) : w ∈ lw_tbl := List.mem_append_right _ (List.mem_append_right _ (List.mem_append_left _ h))
theorem t3_in {w : Cond} (h : w ∈ tables_1_3) : w ∈ lw_tbl := List.mem_append_right _ (List.mem_append_right _ (List.mem_append_right _ (List.mem_append_left _ h)))
theorem t4_in {w : Cond} (h : w ∈ tables_1_4) : w ∈ lw_tbl := List.mem_append_right _ (List.mem_append_right _ (List.mem_append_right _ (List.mem_append_right _ h)))
theorem q1_0 : Cond.initialized RL ∈ wsL_law := aw_of (t1_in (List.mem_of_getElem? (i := 0) rfl)) rfl
theorem q1_1 : Cond.initialized RX4 ∈ wsL_law := aw_of (t1_in (List.mem_of_getElem? (i := 1) rfl)) rfl
theorem q1_2 : Cond.initialized RX3 ∈ wsL_law := aw_of (t1_in (List.mem_of_getElem? (i := 2) rfl)) rfl
theorem q1_3 : Cond.initialized RX0 ∈ wsL_law := aw_of (t1_in (List.mem_of_getElem? (i := 3) rfl)) rfl
theorem q1_4 : Cond.initialized RX1 ∈ wsL_law := aw_of (t1_in (List.mem_of_getElem? (i := 4) rfl)) rfl
theorem q1_5 : Cond.initialized RX2 ∈ wsL_law := aw_of (t1_in (List.mem_of_getElem? (i := 5) rfl)) rfl
theorem q1_6 : Cond.initialized RX5 ∈ wsL_law := aw_of (t1_in (List.mem_of_getElem? (i := 6) rfl)) rfl
theorem q1_7 : Cond.initialized "java/lang/System" ∈ wsL_law := aw_of (t1_in (List.mem_of_getElem? (i := 7) rfl)) rfl
theorem q1_8 : Cond.initialized "java/lang/Math" ∈ wsL_law := aw_of (t1_in (List.mem_of_getElem? (i := 8) rfl)) rfl
theorem q1_9 : Cond.classLink RL 7 RX4 ∈ wsL_law := aw_of (t1_in (List.mem_of_getElem? (i := 9) rfl)) rfl
theorem q1_10 : Cond.instantiable RX4 7 ∈ wsL_law := aw_of (t1_in (List.mem_of_getElem? (i := 10) rfl)) rfl
theorem q1_11 : Cond.methodLink RL 9 yX4_init ∈ wsL_law := aw_of (t1_in (List.mem_of_getElem? (i := 11) rfl)) rfl
theorem q1_12 : Cond.instanceMethod yX4_init ∈ wsL_law := aw_of (t1_in (List.mem_of_getElem? (i := 12) rfl)) rfl
theorem q1_13 : Cond.code yX4_init cX4_init 1 none ∈ wsL_law := aw_of (t1_in (List.mem_of_getElem? (i := 13) rfl)) rfl
theorem q1_14 : Cond.methodLink RX4 1 ⟨"java/lang/Object", "<init>", "()V"⟩ ∈ wsL_law := aw_of (t1_in (List.mem_of_getElem? (i := 14) rfl)) rfl
theorem q1_15 : Cond.instanceMethod ⟨"java/lang/Object", "<init>", "()V"⟩ ∈ wsL_law := aw_of (t1_in (List.mem_of_getElem? (i := 15) rfl)) rfl
theorem q1_16 : Cond.code ⟨"java/lang/Object", "<init>", "()V"⟩ object_method_1_code 1 none ∈ wsL_law := aw_of (t1_in (List.mem_of_getElem? (i := 16) rfl)) rfl
theorem q1_17 : Cond.classLink RX4 7 RX3 ∈ wsL_law := aw_of (t1_in (List.mem_of_getElem? (i := 17) rfl)) rfl
theorem q1_18 : Cond.instantiable RX3 17 ∈ wsL_law := aw_of (t1_in (List.mem_of_getElem? (i := 18) rfl)) rfl
theorem q1_19 : Cond.methodLink RX4 9 yX3_init ∈ wsL_law := aw_of (t1_in (List.mem_of_getElem? (i := 19) rfl)) rfl
theorem q1_20 : Cond.instanceMethod yX3_init ∈ wsL_law := aw_of (t1_in (List.mem_of_getElem? (i := 20) rfl)) rfl
theorem q1_21 : Cond.code yX3_init cX3_init 2 none ∈ wsL_law := aw_of (t1_in (List.mem_of_getElem? (i := 21) rfl)) rfl
theorem q1_22 : Cond.methodLink RX3 3 ⟨"java/lang/Object", "<init>", "()V"⟩ ∈ wsL_law := aw_of (t1_in (List.mem_of_getElem? (i := 22) rfl)) rfl
theorem q1_23 : Cond.fieldLink RX3 9 "BellTowns$Valley" "milestones" "[I" ∈ wsL_law := aw_of (t1_in (List.mem_of_getElem? (i := 23) rfl)) rfl
theorem q1_24 : Cond.fieldLink RX1 61 "BellTowns$Valley" "milestones" "[I" ∈ wsL_law := aw_of (t1_in (List.mem_of_getElem? (i := 24) rfl)) rfl
theorem q1_25 : Cond.fieldLink RX4 80 "BellTowns$Valley" "milestones" "[I" ∈ wsL_law := aw_of (t1_in (List.mem_of_getElem? (i := 25) rfl)) rfl
theorem q1_26 : Cond.fieldLink RX3 15 "BellTowns$Valley" "ringers" "[I" ∈ wsL_law := aw_of (t1_in (List.mem_of_getElem? (i := 26) rfl)) rfl
theorem q1_27 : Cond.fieldLink RX4 83 "BellTowns$Valley" "ringers" "[I" ∈ wsL_law := aw_of (t1_in (List.mem_of_getElem? (i := 27) rfl)) rfl
theorem q1_28 : Cond.fieldLink RX3 18 "BellTowns$Valley" "tired" "[I" ∈ wsL_law := aw_of (t1_in (List.mem_of_getElem? (i := 28) rfl)) rfl
theorem q1_29 : Cond.fieldLink RX4 86 "BellTowns$Valley" "tired" "[I" ∈ wsL_law := aw_of (t1_in (List.mem_of_getElem? (i := 29) rfl)) rfl
theorem q1_30 : Cond.fieldLink RX3 21 "BellTowns$Valley" "bellCounts" "[I" ∈ wsL_law := aw_of (t1_in (List.mem_of_getElem? (i := 30) rfl)) rfl
theorem q1_31 : Cond.fieldLink RX4 51 "BellTowns$Valley" "bellCounts" "[I" ∈ wsL_law := aw_of (t1_in (List.mem_of_getElem? (i := 31) rfl)) rfl
theorem q1_32 : Cond.fieldLink RX3 24 "BellTowns$Valley" "plans" "[I" ∈ wsL_law := aw_of (t1_in (List.mem_of_getElem? (i := 32) rfl)) rfl
theorem q1_33 : Cond.fieldLink RX4 159 "BellTowns$Valley" "plans" "[I" ∈ wsL_law := aw_of (t1_in (List.mem_of_getElem? (i := 33) rfl)) rfl
theorem q1_34 : Cond.fieldLink RX3 27 "BellTowns$Valley" "feastDays" "[I" ∈ wsL_law := aw_of (t1_in (List.mem_of_getElem? (i := 34) rfl)) rfl
theorem q1_35 : Cond.fieldLink RX4 106 "BellTowns$Valley" "feastDays" "[I" ∈ wsL_law := aw_of (t1_in (List.mem_of_getElem? (i := 35) rfl)) rfl
theorem q1_36 : Cond.fieldLink RX3 30 "BellTowns$Valley" "silences" "[I" ∈ wsL_law := aw_of (t1_in (List.mem_of_getElem? (i := 36) rfl)) rfl
theorem q1_37 : Cond.fieldLink RX1 52 "BellTowns$Valley" "silences" "[I" ∈ wsL_law := aw_of (t1_in (List.mem_of_getElem? (i := 37) rfl)) rfl
theorem q1_38 : Cond.fieldLink RX4 162 "BellTowns$Valley" "silences" "[I" ∈ wsL_law := aw_of (t1_in (List.mem_of_getElem? (i := 38) rfl)) rfl
theorem q1_39 : Cond.fieldLink RX3 33 "BellTowns$Valley" "points" "[I" ∈ wsL_law := aw_of (t1_in (List.mem_of_getElem? (i := 39) rfl)) rfl
theorem q1_40 : Cond.fieldLink RX4 165 "BellTowns$Valley" "points" "[I" ∈ wsL_law := aw_of (t1_in (List.mem_of_getElem? (i := 40) rfl)) rfl
theorem q1_41 : Cond.fieldLink RX3 36 "BellTowns$Valley" "timesLoudest" "[I" ∈ wsL_law := aw_of (t1_in (List.mem_of_getElem? (i := 41) rfl)) rfl
theorem q1_42 : Cond.fieldLink RX4 168 "BellTowns$Valley" "timesLoudest" "[I" ∈ wsL_law := aw_of (t1_in (List.mem_of_getElem? (i := 42) rfl)) rfl
theorem q1_43 : Cond.fieldLink RX3 39 "BellTowns$Valley" "weights" "[I" ∈ wsL_law := aw_of (t1_in (List.mem_of_getElem? (i := 43) rfl)) rfl
theorem q1_44 : Cond.fieldLink RX4 67 "BellTowns$Valley" "weights" "[I" ∈ wsL_law := aw_of (t1_in (List.mem_of_getElem? (i := 44) rfl)) rfl
theorem q1_45 : Cond.fieldLink RX1 49 "BellTowns$Valley" "weights" "[I" ∈ wsL_law := aw_of (t1_in (List.mem_of_getElem? (i := 45) rfl)) rfl
theorem q1_46 : Cond.fieldLink RX3 42 "BellTowns$Valley" "wears" "[I" ∈ wsL_law := aw_of (t1_in (List.mem_of_getElem? (i := 46) rfl)) rfl
theorem q1_47 : Cond.fieldLink RX1 55 "BellTowns$Valley" "wears" "[I" ∈ wsL_law := aw_of (t1_in (List.mem_of_getElem? (i := 47) rfl)) rfl
theorem q1_48 : Cond.fieldLink RX4 171 "BellTowns$Valley" "wears" "[I" ∈ wsL_law := aw_of (t1_in (List.mem_of_getElem? (i := 48) rfl)) rfl
theorem q1_49 : Cond.fieldLink RX3 45 "BellTowns$Valley" "timesRung" "[I" ∈ wsL_law := aw_of (t1_in (List.mem_of_getElem? (i := 49) rfl)) rfl
theorem q1_50 : Cond.fieldLink RX4 177 "BellTowns$Valley" "timesRung" "[I" ∈ wsL_law := aw_of (t1_in (List.mem_of_getElem? (i := 50) rfl)) rfl
theorem q1_51 : Cond.fieldLink RX3 48 "BellTowns$Valley" "fade" "I" ∈ wsL_law := aw_of (t1_in (List.mem_of_getElem? (i := 51) rfl)) rfl
theorem q1_52 : Cond.fieldLink RX1 69 "BellTowns$Valley" "fade" "I" ∈ wsL_law := aw_of (t1_in (List.mem_of_getElem? (i := 52) rfl)) rfl
theorem q1_53 : Cond.fieldLink RX4 112 "BellTowns$Valley" "fade" "I" ∈ wsL_law := aw_of (t1_in (List.mem_of_getElem? (i := 53) rfl)) rfl
theorem q1_54 : Cond.fieldLink RX3 52 "BellTowns$Valley" "rest" "I" ∈ wsL_law := aw_of (t1_in (List.mem_of_getElem? (i := 54) rfl)) rfl
theorem q1_55 : Cond.fieldLink RX4 116 "BellTowns$Valley" "rest" "I" ∈ wsL_law := aw_of (t1_in (List.mem_of_getElem? (i := 55) rfl)) rfl
theorem q1_56 : Cond.fieldLink RX3 55 "BellTowns$Valley" "turn" "I" ∈ wsL_law := aw_of (t1_in (List.mem_of_getElem? (i := 56) rfl)) rfl
theorem q1_57 : Cond.fieldLink RX4 156 "BellTowns$Valley" "turn" "I" ∈ wsL_law := aw_of (t1_in (List.mem_of_getElem? (i := 57) rfl)) rfl
theorem q1_58 : Cond.fieldLink RX3 58 "BellTowns$Valley" "turnsWithoutLoudest" "I" ∈ wsL_law := aw_of (t1_in (List.mem_of_getElem? (i := 58) rfl)) rfl
theorem q1_59 : Cond.fieldLink RX4 198 "BellTowns$Valley" "turnsWithoutLoudest" "I" ∈ wsL_law := aw_of (t1_in (List.mem_of_getElem? (i := 59) rfl)) rfl
theorem q1_60 : Cond.fieldLink RX3 61 "BellTowns$Valley" "latestLoudest" "I" ∈ wsL_law := aw_of (t1_in (List.mem_of_getElem? (i := 60) rfl)) rfl
theorem q1_61 : Cond.fieldLink RX4 127 "BellTowns$Valley" "latestLoudest" "I" ∈ wsL_law := aw_of (t1_in (List.mem_of_getElem? (i := 61) rfl)) rfl
theorem q1_97 : Cond.arrayClass .int ∈ wsL_law := aw_of (t1_in (List.mem_of_getElem? (i := 97) rfl)) rfl
theorem q1_98 : Cond.classLink RX4 26 RX0 ∈ wsL_law := aw_of (t1_in (List.mem_of_getElem? (i := 98) rfl)) rfl
theorem q1_99 : Cond.instantiable RX0 3 ∈ wsL_law := aw_of (t1_in (List.mem_of_getElem? (i := 99) rfl)) rfl
theorem q1_100 : Cond.methodLink RX4 28 yX0_init ∈ wsL_law := aw_of (t1_in (List.mem_of_getElem? (i := 100) rfl)) rfl
theorem q1_101 : Cond.instanceMethod yX0_init ∈ wsL_law := aw_of (t1_in (List.mem_of_getElem? (i := 101) rfl)) rfl
theorem q1_102 : Cond.code yX0_init cX0_init 2 none ∈ wsL_law := aw_of (t1_in (List.mem_of_getElem? (i := 102) rfl)) rfl
theorem q1_103 : Cond.methodLink RX0 3 ⟨"java/lang/Object", "<init>", "()V"⟩ ∈ wsL_law := aw_of (t1_in (List.mem_of_getElem? (i := 103) rfl)) rfl
theorem q1_104 : Cond.classLink RX0 9 RX3 ∈ wsL_law := aw_of (t1_in (List.mem_of_getElem? (i := 104) rfl)) rfl
theorem q1_105 : Cond.arrayOver (.object "BellTowns$Valley") ∈ lw_tbl := t1_in (List.mem_of_getElem? (i := 105) rfl)
theorem q1_106 : Cond.methodLink RX0 24 yX3_init ∈ wsL_law := aw_of (t1_in (List.mem_of_getElem? (i := 106) rfl)) rfl
theorem q1_107 : Cond.fieldLink RX0 11 "BellTowns$History" "states" "[LBellTowns$Valley;" ∈ wsL_law := aw_of (t1_in (List.mem_of_getElem? (i := 107) rfl)) rfl
theorem q1_108 : Cond.fieldLink RX0 17 "BellTowns$History" "oldest" "I" ∈ wsL_law := aw_of (t1_in (List.mem_of_getElem? (i := 108) rfl)) rfl
theorem q1_109 : Cond.fieldLink RX0 21 "BellTowns$History" "size" "I" ∈ wsL_law := aw_of (t1_in (List.mem_of_getElem? (i := 109) rfl)) rfl
theorem q1_110 : Cond.fieldLink RX4 147 "BellTowns$History" "size" "I" ∈ wsL_law := aw_of (t1_in (List.mem_of_getElem? (i := 110) rfl)) rfl
theorem q1_118 : Cond.classLink RX4 33 RX1 ∈ wsL_law := aw_of (t1_in (List.mem_of_getElem? (i := 118) rfl)) rfl
theorem q1_119 : Cond.instantiable RX1 5 ∈ wsL_law := aw_of (t1_in (List.mem_of_getElem? (i := 119) rfl)) rfl
theorem q1_120 : Cond.methodLinkNest "BellTowns" 35 yX1_init "BellTowns" ∈ lw_tbl := t1_in (List.mem_of_getElem? (i := 120) rfl)
theorem q1_121 : Cond.instanceMethod yX1_init ∈ wsL_law := aw_of (t1_in (List.mem_of_getElem? (i := 121) rfl)) rfl
theorem q1_122 : Cond.code yX1_init cX1_init 1 none ∈ wsL_law := aw_of (t1_in (List.mem_of_getElem? (i := 122) rfl)) rfl
theorem q1_123 : Cond.methodLink RX1 3 ⟨"java/lang/Object", "<init>", "()V"⟩ ∈ wsL_law := aw_of (t1_in (List.mem_of_getElem? (i := 123) rfl)) rfl
theorem q1_124 : Cond.fieldLink RX1 9 "BellTowns$Ringing" "reasons" "[I" ∈ wsL_law := aw_of (t1_in (List.mem_of_getElem? (i := 124) rfl)) rfl
theorem q1_125 : Cond.fieldLink RX4 183 "BellTowns$Ringing" "reasons" "[I" ∈ wsL_law := aw_of (t1_in (List.mem_of_getElem? (i := 125) rfl)) rfl
theorem q1_126 : Cond.fieldLink RX3 115 "BellTowns$Ringing" "reasons" "[I" ∈ wsL_law := aw_of (t1_in (List.mem_of_getElem? (i := 126) rfl)) rfl
theorem q1_127 : Cond.fieldLink RX1 15 "BellTowns$Ringing" "volumes" "[I" ∈ wsL_law := aw_of (t1_in (List.mem_of_getElem? (i := 127) rfl)) rfl
theorem q1_128 : Cond.fieldLink RX4 201 "BellTowns$Ringing" "volumes" "[I" ∈ wsL_law := aw_of (t1_in (List.mem_of_getElem? (i := 128) rfl)) rfl
theorem q1_129 : Cond.fieldLink RX1 18 "BellTowns$Ringing" "ringersBusy" "[I" ∈ wsL_law := aw_of (t1_in (List.mem_of_getElem? (i := 129) rfl)) rfl
theorem q1_130 : Cond.fieldLink RX3 118 "BellTowns$Ringing" "ringersBusy" "[I" ∈ wsL_law := aw_of (t1_in (List.mem_of_getElem? (i := 130) rfl)) rfl
theorem q1_131 : Cond.fieldLink RX1 21 "BellTowns$Ringing" "winners" "[I" ∈ wsL_law := aw_of (t1_in (List.mem_of_getElem? (i := 131) rfl)) rfl
theorem q1_132 : Cond.fieldLink RX3 112 "BellTowns$Ringing" "winners" "[I" ∈ wsL_law := aw_of (t1_in (List.mem_of_getElem? (i := 132) rfl)) rfl
theorem q1_133 : Cond.fieldLink RX4 208 "BellTowns$Ringing" "winners" "[I" ∈ wsL_law := aw_of (t1_in (List.mem_of_getElem? (i := 133) rfl)) rfl
theorem q1_134 : Cond.fieldLink RX1 24 "BellTowns$Ringing" "loudest" "I" ∈ wsL_law := aw_of (t1_in (List.mem_of_getElem? (i := 134) rfl)) rfl
theorem q1_135 : Cond.fieldLink RX3 103 "BellTowns$Ringing" "loudest" "I" ∈ wsL_law := aw_of (t1_in (List.mem_of_getElem? (i := 135) rfl)) rfl
theorem q1_147 : Cond.classLink RX4 40 RX2 ∈ wsL_law := aw_of (t1_in (List.mem_of_getElem? (i := 147) rfl)) rfl
theorem q1_148 : Cond.instantiable RX2 2 ∈ wsL_law := aw_of (t1_in (List.mem_of_getElem? (i := 148) rfl)) rfl
theorem q1_149 : Cond.methodLinkNest "BellTowns" 42 yX2_init "BellTowns" ∈ lw_tbl := t1_in (List.mem_of_getElem? (i := 149) rfl)
theorem q1_150 : Cond.instanceMethod yX2_init ∈ wsL_law := aw_of (t1_in (List.mem_of_getElem? (i := 150) rfl)) rfl
theorem q1_151 : Cond.code yX2_init cX2_init 1 none ∈ wsL_law := aw_of (t1_in (List.mem_of_getElem? (i := 151) rfl)) rfl
theorem q1_152 : Cond.methodLink RX2 5 ⟨"java/lang/Object", "<init>", "()V"⟩ ∈ wsL_law := aw_of (t1_in (List.mem_of_getElem? (i := 152) rfl)) rfl
theorem q1_153 : Cond.fieldLink RX2 11 "BellTowns$Script" "signs" "[C" ∈ wsL_law := aw_of (t1_in (List.mem_of_getElem? (i := 153) rfl)) rfl
theorem q1_154 : Cond.fieldLink RX2 15 "BellTowns$Script" "length" "I" ∈ wsL_law := aw_of (t1_in (List.mem_of_getElem? (i := 154) rfl)) rfl
theorem q1_155 : Cond.fieldLink RX4 130 "BellTowns$Script" "length" "I" ∈ wsL_law := aw_of (t1_in (List.mem_of_getElem? (i := 155) rfl)) rfl
theorem q1_161 : Cond.arrayClass .char ∈ wsL_law := aw_of (t1_in (List.mem_of_getElem? (i := 161) rfl)) rfl
theorem q1_162 : Cond.fieldLink RX4 10 "BellTowns" "now" "LBellTowns$Valley;" ∈ wsL_law := aw_of (t1_in (List.mem_of_getElem? (i := 162) rfl)) rfl
theorem q1_163 : Cond.fieldLink RX4 16 "BellTowns" "trial" "LBellTowns$Valley;" ∈ wsL_law := aw_of (t1_in (List.mem_of_getElem? (i := 163) rfl)) rfl
theorem q1_164 : Cond.fieldLink RX4 19 "BellTowns" "snapshot" "LBellTowns$Valley;" ∈ wsL_law := aw_of (t1_in (List.mem_of_getElem? (i := 164) rfl)) rfl
theorem q1_165 : Cond.fieldLink RX4 22 "BellTowns" "snapshotTaken" "Z" ∈ wsL_law := aw_of (t1_in (List.mem_of_getElem? (i := 165) rfl)) rfl
theorem q1_166 : Cond.fieldLink RX4 29 "BellTowns" "history" "LBellTowns$History;" ∈ wsL_law := aw_of (t1_in (List.mem_of_getElem? (i := 166) rfl)) rfl
theorem q1_167 : Cond.fieldLink RX4 36 "BellTowns" "ringing" "LBellTowns$Ringing;" ∈ wsL_law := aw_of (t1_in (List.mem_of_getElem? (i := 167) rfl)) rfl
theorem q1_168 : Cond.fieldLink RX4 43 "BellTowns" "script" "LBellTowns$Script;" ∈ wsL_law := aw_of (t1_in (List.mem_of_getElem? (i := 168) rfl)) rfl
theorem q1_184 : Cond.methodLink RL 13 yX4_hang ∈ wsL_law := aw_of (t1_in (List.mem_of_getElem? (i := 184) rfl)) rfl
theorem q1_185 : Cond.instanceMethod yX4_hang ∈ wsL_law := aw_of (t1_in (List.mem_of_getElem? (i := 185) rfl)) rfl
theorem q1_186 : Cond.selects RX4 yX4_hang yX4_hang ∈ wsL_law := aw_of (t1_in (List.mem_of_getElem? (i := 186) rfl)) rfl
theorem q1_187 : Cond.code yX4_hang cX4_hang 3 (some .int) ∈ wsL_law := aw_of (t1_in (List.mem_of_getElem? (i := 187) rfl)) rfl
theorem q1_188 : Cond.methodLink RX4 47 yX4_isTown ∈ wsL_law := aw_of (t1_in (List.mem_of_getElem? (i := 188) rfl)) rfl
theorem q1_189 : Cond.static yX4_isTown ∈ wsL_law := aw_of (t1_in (List.mem_of_getElem? (i := 189) rfl)) rfl
theorem q1_190 : Cond.code yX4_isTown cX4_isTown 1 (some .boolean) ∈ wsL_law := aw_of (t1_in (List.mem_of_getElem? (i := 190) rfl)) rfl
theorem q1_191 : Cond.methodLink RX4 55 yX0_record ∈ wsL_law := aw_of (t1_in (List.mem_of_getElem? (i := 191) rfl)) rfl
theorem q1_192 : Cond.instanceMethod yX0_record ∈ wsL_law := aw_of (t1_in (List.mem_of_getElem? (i := 192) rfl)) rfl
theorem q1_193 : Cond.selects RX0 yX0_record yX0_record ∈ wsL_law := aw_of (t1_in (List.mem_of_getElem? (i := 193) rfl)) rfl
theorem q1_194 : Cond.code yX0_record cX0_record 3 none ∈ wsL_law := aw_of (t1_in (List.mem_of_getElem? (i := 194) rfl)) rfl
theorem q1_195 : Cond.methodLink RX0 25 yX0_placeOf ∈ wsL_law := aw_of (t1_in (List.mem_of_getElem? (i := 195) rfl)) rfl
theorem q1_197 : Cond.instanceMethod yX0_placeOf ∈ wsL_law := aw_of (t1_in (List.mem_of_getElem? (i := 197) rfl)) rfl
theorem q1_198 : Cond.code yX0_placeOf cX0_placeOf 2 (some .int) ∈ wsL_law := aw_of (t1_in (List.mem_of_getElem? (i := 198) rfl)) rfl
theorem q1_199 : Cond.methodLink RX0 29 yX3_copyFrom ∈ wsL_law := aw_of (t1_in (List.mem_of_getElem? (i := 199) rfl)) rfl
theorem q1_200 : Cond.instanceMethod yX3_copyFrom ∈ wsL_law := aw_of (t1_in (List.mem_of_getElem? (i := 200) rfl)) rfl
theorem q1_201 : Cond.selects RX3 yX3_copyFrom yX3_copyFrom ∈ wsL_law := aw_of (t1_in (List.mem_of_getElem? (i := 201) rfl)) rfl
theorem q1_202 : Cond.code yX3_copyFrom cX3_copyFrom 2 none ∈ wsL_law := aw_of (t1_in (List.mem_of_getElem? (i := 202) rfl)) rfl
theorem q1_203 : Cond.methodLink RX3 64 yX3_copyTowns ∈ wsL_law := aw_of (t1_in (List.mem_of_getElem? (i := 203) rfl)) rfl
theorem q1_204 : Cond.static yX3_copyTowns ∈ wsL_law := aw_of (t1_in (List.mem_of_getElem? (i := 204) rfl)) rfl
theorem q1_205 : Cond.code yX3_copyTowns cX3_copyTowns 2 none ∈ wsL_law := aw_of (t1_in (List.mem_of_getElem? (i := 205) rfl)) rfl
theorem q1_206 : Cond.methodLink RX3 71 ⟨"java/lang/System", "arraycopy", "(Ljava/lang/Object;ILjava/lang/Object;II)V"⟩ ∈ wsL_law := aw_of (t1_in (List.mem_of_getElem? (i := 206) rfl)) rfl
theorem q1_207 : Cond.static ⟨"java/lang/System", "arraycopy", "(Ljava/lang/Object;ILjava/lang/Object;II)V"⟩ ∈ wsL_law := aw_of (t1_in (List.mem_of_getElem? (i := 207) rfl)) rfl
theorem q1_208 : Cond.native ⟨"java/lang/System", "arraycopy", "(Ljava/lang/Object;ILjava/lang/Object;II)V"⟩ ∈ wsL_law := aw_of (t1_in (List.mem_of_getElem? (i := 208) rfl)) rfl
theorem q1_209 : Cond.methodLink RX3 68 yX3_copyBells ∈ wsL_law := aw_of (t1_in (List.mem_of_getElem? (i := 209) rfl)) rfl
theorem q1_210 : Cond.static yX3_copyBells ∈ wsL_law := aw_of (t1_in (List.mem_of_getElem? (i := 210) rfl)) rfl
theorem q1_211 : Cond.code yX3_copyBells cX3_copyBells 2 none ∈ wsL_law := aw_of (t1_in (List.mem_of_getElem? (i := 211) rfl)) rfl
theorem q1_212 : Cond.methodLink RX4 59 yX3_addBell ∈ wsL_law := aw_of (t1_in (List.mem_of_getElem? (i := 212) rfl)) rfl
theorem q1_213 : Cond.instanceMethod yX3_addBell ∈ wsL_law := aw_of (t1_in (List.mem_of_getElem? (i := 213) rfl)) rfl
theorem q1_214 : Cond.selects RX3 yX3_addBell yX3_addBell ∈ wsL_law := aw_of (t1_in (List.mem_of_getElem? (i := 214) rfl)) rfl
theorem q1_215 : Cond.code yX3_addBell cX3_addBell 4 (some .int) ∈ wsL_law := aw_of (t1_in (List.mem_of_getElem? (i := 215) rfl)) rfl
theorem q1_216 : Cond.methodLinkNest "BellTowns$Valley" 81 yX4_slot "BellTowns" ∈ lw_tbl := t1_in (List.mem_of_getElem? (i := 216) rfl)
theorem q1_217 : Cond.static yX4_slot ∈ wsL_law := aw_of (t1_in (List.mem_of_getElem? (i := 217) rfl)) rfl
theorem q1_218 : Cond.code yX4_slot cX4_slot 2 (some .int) ∈ wsL_law := aw_of (t1_in (List.mem_of_getElem? (i := 218) rfl)) rfl
theorem q1_219 : Cond.methodLink RX3 85 yX3_fillSlot ∈ wsL_law := aw_of (t1_in (List.mem_of_getElem? (i := 219) rfl)) rfl
theorem q1_221 : Cond.instanceMethod yX3_fillSlot ∈ wsL_law := aw_of (t1_in (List.mem_of_getElem? (i := 221) rfl)) rfl
theorem q1_222 : Cond.code yX3_fillSlot cX3_fillSlot 5 none ∈ wsL_law := aw_of (t1_in (List.mem_of_getElem? (i := 222) rfl)) rfl
theorem q1_223 : Cond.methodLink RL 18 yX4_melt ∈ wsL_law := aw_of (t1_in (List.mem_of_getElem? (i := 223) rfl)) rfl
theorem q1_224 : Cond.instanceMethod yX4_melt ∈ wsL_law := aw_of (t1_in (List.mem_of_getElem? (i := 224) rfl)) rfl
theorem q1_225 : Cond.selects RX4 yX4_melt yX4_melt ∈ wsL_law := aw_of (t1_in (List.mem_of_getElem? (i := 225) rfl)) rfl
theorem q1_226 : Cond.code yX4_melt cX4_melt 4 (some .int) ∈ wsL_law := aw_of (t1_in (List.mem_of_getElem? (i := 226) rfl)) rfl
theorem q1_227 : Cond.methodLink RX4 63 yX3_hasBell ∈ wsL_law := aw_of (t1_in (List.mem_of_getElem? (i := 227) rfl)) rfl
theorem q1_228 : Cond.instanceMethod yX3_hasBell ∈ wsL_law := aw_of (t1_in (List.mem_of_getElem? (i := 228) rfl)) rfl
theorem q1_229 : Cond.selects RX3 yX3_hasBell yX3_hasBell ∈ wsL_law := aw_of (t1_in (List.mem_of_getElem? (i := 229) rfl)) rfl
theorem q1_230 : Cond.code yX3_hasBell cX3_hasBell 3 (some .boolean) ∈ wsL_law := aw_of (t1_in (List.mem_of_getElem? (i := 230) rfl)) rfl
theorem q1_231 : Cond.methodLinkNest "BellTowns$Valley" 77 yX4_isTown "BellTowns" ∈ lw_tbl := t1_in (List.mem_of_getElem? (i := 231) rfl)
theorem q1_232 : Cond.methodLink RX4 70 yX4_slot ∈ wsL_law := aw_of (t1_in (List.mem_of_getElem? (i := 232) rfl)) rfl
theorem q1_233 : Cond.methodLink RX4 73 yX3_removeBell ∈ wsL_law := aw_of (t1_in (List.mem_of_getElem? (i := 233) rfl)) rfl
theorem q1_234 : Cond.instanceMethod yX3_removeBell ∈ wsL_law := aw_of (t1_in (List.mem_of_getElem? (i := 234) rfl)) rfl
theorem q1_235 : Cond.selects RX3 yX3_removeBell yX3_removeBell ∈ wsL_law := aw_of (t1_in (List.mem_of_getElem? (i := 235) rfl)) rfl
theorem q1_236 : Cond.code yX3_removeBell cX3_removeBell 6 none ∈ wsL_law := aw_of (t1_in (List.mem_of_getElem? (i := 236) rfl)) rfl
theorem q1_237 : Cond.methodLink RL 22 yX4_settle ∈ wsL_law := aw_of (t1_in (List.mem_of_getElem? (i := 237) rfl)) rfl
theorem q1_238 : Cond.instanceMethod yX4_settle ∈ wsL_law := aw_of (t1_in (List.mem_of_getElem? (i := 238) rfl)) rfl
theorem q1_239 : Cond.selects RX4 yX4_settle yX4_settle ∈ wsL_law := aw_of (t1_in (List.mem_of_getElem? (i := 239) rfl)) rfl
theorem q2_0 : Cond.code yX4_settle cX4_settle 4 (some .int) ∈ wsL_law := aw_of (t2_in (List.mem_of_getElem? (i := 0) rfl)) rfl
theorem q2_1 : Cond.methodLink RX4 77 yX3_isTakenByAnother ∈ wsL_law := aw_of (t2_in (List.mem_of_getElem? (i := 1) rfl)) rfl
theorem q2_2 : Cond.instanceMethod yX3_isTakenByAnother ∈ wsL_law := aw_of (t2_in (List.mem_of_getElem? (i := 2) rfl)) rfl
theorem q2_3 : Cond.selects RX3 yX3_isTakenByAnother yX3_isTakenByAnother ∈ wsL_law := aw_of (t2_in (List.mem_of_getElem? (i := 3) rfl)) rfl
theorem q2_4 : Cond.code yX3_isTakenByAnother cX3_isTakenByAnother 4 (some .boolean) ∈ wsL_law := aw_of (t2_in (List.mem_of_getElem? (i := 4) rfl)) rfl
theorem q2_5 : Cond.methodLink RX4 89 ⟨"java/lang/Math", "min", "(II)I"⟩ ∈ wsL_law := aw_of (t2_in (List.mem_of_getElem? (i := 5) rfl)) rfl
theorem q2_6 : Cond.static ⟨"java/lang/Math", "min", "(II)I"⟩ ∈ wsL_law := aw_of (t2_in (List.mem_of_getElem? (i := 6) rfl)) rfl
theorem q2_7 : Cond.code ⟨"java/lang/Math", "min", "(II)I"⟩ prog_8_method_69_code 2 (some .int) ∈ wsL_law := aw_of (t2_in (List.mem_of_getElem? (i := 7) rfl)) rfl
theorem q2_8 : Cond.methodLink RL 27 yX4_plan ∈ wsL_law := aw_of (t2_in (List.mem_of_getElem? (i := 8) rfl)) rfl
theorem q2_9 : Cond.instanceMethod yX4_plan ∈ wsL_law := aw_of (t2_in (List.mem_of_getElem? (i := 9) rfl)) rfl
theorem q2_10 : Cond.selects RX4 yX4_plan yX4_plan ∈ wsL_law := aw_of (t2_in (List.mem_of_getElem? (i := 10) rfl)) rfl
theorem q2_11 : Cond.code yX4_plan cX4_plan 4 (some .int) ∈ wsL_law := aw_of (t2_in (List.mem_of_getElem? (i := 11) rfl)) rfl
theorem q2_12 : Cond.methodLink RX4 94 yX4_planError ∈ wsL_law := aw_of (t2_in (List.mem_of_getElem? (i := 12) rfl)) rfl
theorem q2_14 : Cond.instanceMethod yX4_planError ∈ wsL_law := aw_of (t2_in (List.mem_of_getElem? (i := 14) rfl)) rfl
theorem q2_15 : Cond.code yX4_planError cX4_planError 3 (some .int) ∈ wsL_law := aw_of (t2_in (List.mem_of_getElem? (i := 15) rfl)) rfl
theorem q2_16 : Cond.methodLink RX4 214 yX3_everyBell ∈ wsL_law := aw_of (t2_in (List.mem_of_getElem? (i := 16) rfl)) rfl
theorem q2_17 : Cond.instanceMethod yX3_everyBell ∈ wsL_law := aw_of (t2_in (List.mem_of_getElem? (i := 17) rfl)) rfl
theorem q2_18 : Cond.selects RX3 yX3_everyBell yX3_everyBell ∈ wsL_law := aw_of (t2_in (List.mem_of_getElem? (i := 18) rfl)) rfl
theorem q2_19 : Cond.code yX3_everyBell cX3_everyBell 2 (some .int) ∈ wsL_law := aw_of (t2_in (List.mem_of_getElem? (i := 19) rfl)) rfl
theorem q2_20 : Cond.methodLink RX4 97 yX4_changePlan ∈ wsL_law := aw_of (t2_in (List.mem_of_getElem? (i := 20) rfl)) rfl
theorem q2_22 : Cond.instanceMethod yX4_changePlan ∈ wsL_law := aw_of (t2_in (List.mem_of_getElem? (i := 22) rfl)) rfl
theorem q2_23 : Cond.code yX4_changePlan cX4_changePlan 4 (some .int) ∈ wsL_law := aw_of (t2_in (List.mem_of_getElem? (i := 23) rfl)) rfl
theorem q2_24 : Cond.methodLink RL 31 yX4_splice ∈ wsL_law := aw_of (t2_in (List.mem_of_getElem? (i := 24) rfl)) rfl
theorem q2_25 : Cond.instanceMethod yX4_splice ∈ wsL_law := aw_of (t2_in (List.mem_of_getElem? (i := 25) rfl)) rfl
theorem q2_26 : Cond.selects RX4 yX4_splice yX4_splice ∈ wsL_law := aw_of (t2_in (List.mem_of_getElem? (i := 26) rfl)) rfl
theorem q2_27 : Cond.code yX4_splice cX4_splice 4 (some .int) ∈ wsL_law := aw_of (t2_in (List.mem_of_getElem? (i := 27) rfl)) rfl
theorem q2_28 : Cond.methodLink RX4 100 yX4_spliceError ∈ wsL_law := aw_of (t2_in (List.mem_of_getElem? (i := 28) rfl)) rfl
theorem q2_30 : Cond.instanceMethod yX4_spliceError ∈ wsL_law := aw_of (t2_in (List.mem_of_getElem? (i := 30) rfl)) rfl
theorem q2_31 : Cond.code yX4_spliceError cX4_spliceError 3 (some .int) ∈ wsL_law := aw_of (t2_in (List.mem_of_getElem? (i := 31) rfl)) rfl
theorem q2_32 : Cond.methodLink RX4 217 yX3_rested ∈ wsL_law := aw_of (t2_in (List.mem_of_getElem? (i := 32) rfl)) rfl
theorem q2_33 : Cond.instanceMethod yX3_rested ∈ wsL_law := aw_of (t2_in (List.mem_of_getElem? (i := 33) rfl)) rfl
theorem q2_34 : Cond.selects RX3 yX3_rested yX3_rested ∈ wsL_law := aw_of (t2_in (List.mem_of_getElem? (i := 34) rfl)) rfl
theorem q2_35 : Cond.code yX3_rested cX3_rested 2 (some .int) ∈ wsL_law := aw_of (t2_in (List.mem_of_getElem? (i := 35) rfl)) rfl
theorem q2_36 : Cond.methodLink RX4 103 yX4_mendRope ∈ wsL_law := aw_of (t2_in (List.mem_of_getElem? (i := 36) rfl)) rfl
theorem q2_38 : Cond.instanceMethod yX4_mendRope ∈ wsL_law := aw_of (t2_in (List.mem_of_getElem? (i := 38) rfl)) rfl
theorem q2_39 : Cond.code yX4_mendRope cX4_mendRope 5 (some .int) ∈ wsL_law := aw_of (t2_in (List.mem_of_getElem? (i := 39) rfl)) rfl
theorem q2_40 : Cond.methodLink RL 35 yX4_feast ∈ wsL_law := aw_of (t2_in (List.mem_of_getElem? (i := 40) rfl)) rfl
theorem q2_41 : Cond.instanceMethod yX4_feast ∈ wsL_law := aw_of (t2_in (List.mem_of_getElem? (i := 41) rfl)) rfl
theorem q2_42 : Cond.selects RX4 yX4_feast yX4_feast ∈ wsL_law := aw_of (t2_in (List.mem_of_getElem? (i := 42) rfl)) rfl
theorem q2_43 : Cond.code yX4_feast cX4_feast 4 (some .int) ∈ wsL_law := aw_of (t2_in (List.mem_of_getElem? (i := 43) rfl)) rfl
theorem q2_44 : Cond.methodLink RL 39 yX4_set ∈ wsL_law := aw_of (t2_in (List.mem_of_getElem? (i := 44) rfl)) rfl
theorem q2_45 : Cond.instanceMethod yX4_set ∈ wsL_law := aw_of (t2_in (List.mem_of_getElem? (i := 45) rfl)) rfl
theorem q2_46 : Cond.selects RX4 yX4_set yX4_set ∈ wsL_law := aw_of (t2_in (List.mem_of_getElem? (i := 46) rfl)) rfl
theorem q2_47 : Cond.code yX4_set cX4_set 4 (some .int) ∈ wsL_law := aw_of (t2_in (List.mem_of_getElem? (i := 47) rfl)) rfl
theorem q2_48 : Cond.methodLink RX4 109 yX4_isInRange ∈ wsL_law := aw_of (t2_in (List.mem_of_getElem? (i := 48) rfl)) rfl
theorem q2_49 : Cond.static yX4_isInRange ∈ wsL_law := aw_of (t2_in (List.mem_of_getElem? (i := 49) rfl)) rfl
theorem q2_50 : Cond.code yX4_isInRange cX4_isInRange 2 (some .boolean) ∈ wsL_law := aw_of (t2_in (List.mem_of_getElem? (i := 50) rfl)) rfl
theorem q2_51 : Cond.methodLink RL 43 yX4_turns ∈ wsL_law := aw_of (t2_in (List.mem_of_getElem? (i := 51) rfl)) rfl
theorem q2_52 : Cond.instanceMethod yX4_turns ∈ wsL_law := aw_of (t2_in (List.mem_of_getElem? (i := 52) rfl)) rfl
theorem q2_53 : Cond.selects RX4 yX4_turns yX4_turns ∈ wsL_law := aw_of (t2_in (List.mem_of_getElem? (i := 53) rfl)) rfl
theorem q2_54 : Cond.code yX4_turns cX4_turns 3 (some .int) ∈ wsL_law := aw_of (t2_in (List.mem_of_getElem? (i := 54) rfl)) rfl
theorem q2_55 : Cond.methodLink RX4 119 yX4_turnsError ∈ wsL_law := aw_of (t2_in (List.mem_of_getElem? (i := 55) rfl)) rfl
theorem q2_56 : Cond.static yX4_turnsError ∈ wsL_law := aw_of (t2_in (List.mem_of_getElem? (i := 56) rfl)) rfl
theorem q2_57 : Cond.code yX4_turnsError cX4_turnsError 1 (some .int) ∈ wsL_law := aw_of (t2_in (List.mem_of_getElem? (i := 57) rfl)) rfl
theorem q2_58 : Cond.methodLink RX4 123 yX4_makeTurns ∈ wsL_law := aw_of (t2_in (List.mem_of_getElem? (i := 58) rfl)) rfl
theorem q2_60 : Cond.instanceMethod yX4_makeTurns ∈ wsL_law := aw_of (t2_in (List.mem_of_getElem? (i := 60) rfl)) rfl
theorem q2_61 : Cond.code yX4_makeTurns cX4_makeTurns 4 none ∈ wsL_law := aw_of (t2_in (List.mem_of_getElem? (i := 61) rfl)) rfl
theorem q2_62 : Cond.methodLink RX4 180 yX1_foresee ∈ wsL_law := aw_of (t2_in (List.mem_of_getElem? (i := 62) rfl)) rfl
theorem q2_63 : Cond.instanceMethod yX1_foresee ∈ wsL_law := aw_of (t2_in (List.mem_of_getElem? (i := 63) rfl)) rfl
theorem q2_64 : Cond.selects RX1 yX1_foresee yX1_foresee ∈ wsL_law := aw_of (t2_in (List.mem_of_getElem? (i := 64) rfl)) rfl
theorem q2_65 : Cond.code yX1_foresee cX1_foresee 4 none ∈ wsL_law := aw_of (t2_in (List.mem_of_getElem? (i := 65) rfl)) rfl
theorem q2_66 : Cond.methodLink RX1 28 yX1_ringIn ∈ wsL_law := aw_of (t2_in (List.mem_of_getElem? (i := 66) rfl)) rfl
theorem q2_68 : Cond.instanceMethod yX1_ringIn ∈ wsL_law := aw_of (t2_in (List.mem_of_getElem? (i := 68) rfl)) rfl
theorem q2_69 : Cond.code yX1_ringIn cX1_ringIn 11 none ∈ wsL_law := aw_of (t2_in (List.mem_of_getElem? (i := 69) rfl)) rfl
theorem q2_70 : Cond.methodLink RX1 36 yX3_wantedBells ∈ wsL_law := aw_of (t2_in (List.mem_of_getElem? (i := 70) rfl)) rfl
theorem q2_71 : Cond.instanceMethod yX3_wantedBells ∈ wsL_law := aw_of (t2_in (List.mem_of_getElem? (i := 71) rfl)) rfl
theorem q2_72 : Cond.selects RX3 yX3_wantedBells yX3_wantedBells ∈ wsL_law := aw_of (t2_in (List.mem_of_getElem? (i := 72) rfl)) rfl
theorem q2_73 : Cond.code yX3_wantedBells cX3_wantedBells 2 (some .int) ∈ wsL_law := aw_of (t2_in (List.mem_of_getElem? (i := 73) rfl)) rfl
theorem q2_74 : Cond.methodLink RX3 89 yX3_everyBell ∈ wsL_law := aw_of (t2_in (List.mem_of_getElem? (i := 74) rfl)) rfl
theorem q2_75 : Cond.methodLink RX1 42 yX3_rested ∈ wsL_law := aw_of (t2_in (List.mem_of_getElem? (i := 75) rfl)) rfl
theorem q2_76 : Cond.methodLinkNest "BellTowns$Ringing" 45 yX4_slot "BellTowns" ∈ lw_tbl := t2_in (List.mem_of_getElem? (i := 76) rfl)
theorem q2_77 : Cond.methodLinkNest "BellTowns$Ringing" 58 yX4_ringersFor "BellTowns" ∈ lw_tbl := t2_in (List.mem_of_getElem? (i := 77) rfl)
theorem q2_78 : Cond.static yX4_ringersFor ∈ wsL_law := aw_of (t2_in (List.mem_of_getElem? (i := 78) rfl)) rfl
theorem q2_79 : Cond.code yX4_ringersFor cX4_ringersFor 1 (some .int) ∈ wsL_law := aw_of (t2_in (List.mem_of_getElem? (i := 79) rfl)) rfl
theorem q2_80 : Cond.methodLink RX1 32 yX1_winnerIn ∈ wsL_law := aw_of (t2_in (List.mem_of_getElem? (i := 80) rfl)) rfl
theorem q2_82 : Cond.instanceMethod yX1_winnerIn ∈ wsL_law := aw_of (t2_in (List.mem_of_getElem? (i := 82) rfl)) rfl
theorem q2_83 : Cond.code yX1_winnerIn cX1_winnerIn 7 (some .int) ∈ wsL_law := aw_of (t2_in (List.mem_of_getElem? (i := 83) rfl)) rfl
theorem q2_84 : Cond.methodLink RX1 75 yX1_soundIn ∈ wsL_law := aw_of (t2_in (List.mem_of_getElem? (i := 84) rfl)) rfl
theorem q2_85 : Cond.instanceMethod yX1_soundIn ∈ wsL_law := aw_of (t2_in (List.mem_of_getElem? (i := 85) rfl)) rfl
theorem q2_86 : Cond.selects RX1 yX1_soundIn yX1_soundIn ∈ wsL_law := aw_of (t2_in (List.mem_of_getElem? (i := 86) rfl)) rfl
theorem q2_87 : Cond.code yX1_soundIn cX1_soundIn 5 (some .int) ∈ wsL_law := aw_of (t2_in (List.mem_of_getElem? (i := 87) rfl)) rfl
theorem q2_88 : Cond.methodLink RX1 64 ⟨"java/lang/Math", "abs", "(I)I"⟩ ∈ wsL_law := aw_of (t2_in (List.mem_of_getElem? (i := 88) rfl)) rfl
theorem q2_89 : Cond.static ⟨"java/lang/Math", "abs", "(I)I"⟩ ∈ wsL_law := aw_of (t2_in (List.mem_of_getElem? (i := 89) rfl)) rfl
theorem q2_90 : Cond.code ⟨"java/lang/Math", "abs", "(I)I"⟩ prog_8_method_59_code 1 (some .int) ∈ wsL_law := aw_of (t2_in (List.mem_of_getElem? (i := 90) rfl)) rfl
theorem q2_91 : Cond.methodLink RX1 72 ⟨"java/lang/Math", "max", "(II)I"⟩ ∈ wsL_law := aw_of (t2_in (List.mem_of_getElem? (i := 91) rfl)) rfl
theorem q2_92 : Cond.static ⟨"java/lang/Math", "max", "(II)I"⟩ ∈ wsL_law := aw_of (t2_in (List.mem_of_getElem? (i := 92) rfl)) rfl
theorem q2_93 : Cond.code ⟨"java/lang/Math", "max", "(II)I"⟩ prog_8_method_65_code 2 (some .int) ∈ wsL_law := aw_of (t2_in (List.mem_of_getElem? (i := 93) rfl)) rfl
theorem q2_94 : Cond.methodLink RX4 220 yX3_pass ∈ wsL_law := aw_of (t2_in (List.mem_of_getElem? (i := 94) rfl)) rfl
theorem q2_95 : Cond.instanceMethod yX3_pass ∈ wsL_law := aw_of (t2_in (List.mem_of_getElem? (i := 95) rfl)) rfl
theorem q2_96 : Cond.selects RX3 yX3_pass yX3_pass ∈ wsL_law := aw_of (t2_in (List.mem_of_getElem? (i := 96) rfl)) rfl
theorem q2_97 : Cond.code yX3_pass cX3_pass 2 none ∈ wsL_law := aw_of (t2_in (List.mem_of_getElem? (i := 97) rfl)) rfl
theorem q2_98 : Cond.methodLink RX3 93 yX3_givePoints ∈ wsL_law := aw_of (t2_in (List.mem_of_getElem? (i := 98) rfl)) rfl
theorem q2_100 : Cond.instanceMethod yX3_givePoints ∈ wsL_law := aw_of (t2_in (List.mem_of_getElem? (i := 100) rfl)) rfl
theorem q2_101 : Cond.code yX3_givePoints cX3_givePoints 4 none ∈ wsL_law := aw_of (t2_in (List.mem_of_getElem? (i := 101) rfl)) rfl
theorem q2_102 : Cond.methodLink RX3 97 yX3_wearRopes ∈ wsL_law := aw_of (t2_in (List.mem_of_getElem? (i := 102) rfl)) rfl
theorem q2_104 : Cond.instanceMethod yX3_wearRopes ∈ wsL_law := aw_of (t2_in (List.mem_of_getElem? (i := 104) rfl)) rfl
theorem q2_105 : Cond.code yX3_wearRopes cX3_wearRopes 3 none ∈ wsL_law := aw_of (t2_in (List.mem_of_getElem? (i := 105) rfl)) rfl
theorem q2_106 : Cond.methodLink RX3 100 yX3_tireRingers ∈ wsL_law := aw_of (t2_in (List.mem_of_getElem? (i := 106) rfl)) rfl
theorem q2_108 : Cond.instanceMethod yX3_tireRingers ∈ wsL_law := aw_of (t2_in (List.mem_of_getElem? (i := 108) rfl)) rfl
theorem q2_109 : Cond.code yX3_tireRingers cX3_tireRingers 3 none ∈ wsL_law := aw_of (t2_in (List.mem_of_getElem? (i := 109) rfl)) rfl
theorem q2_110 : Cond.methodLink RX3 108 yX3_fallSilent ∈ wsL_law := aw_of (t2_in (List.mem_of_getElem? (i := 110) rfl)) rfl
theorem q2_112 : Cond.instanceMethod yX3_fallSilent ∈ wsL_law := aw_of (t2_in (List.mem_of_getElem? (i := 112) rfl)) rfl
theorem q2_113 : Cond.code yX3_fallSilent cX3_fallSilent 3 none ∈ wsL_law := aw_of (t2_in (List.mem_of_getElem? (i := 113) rfl)) rfl
theorem q2_114 : Cond.methodLink RL 48 yX4_append ∈ wsL_law := aw_of (t2_in (List.mem_of_getElem? (i := 114) rfl)) rfl
theorem q2_115 : Cond.instanceMethod yX4_append ∈ wsL_law := aw_of (t2_in (List.mem_of_getElem? (i := 115) rfl)) rfl
theorem q2_116 : Cond.selects RX4 yX4_append yX4_append ∈ wsL_law := aw_of (t2_in (List.mem_of_getElem? (i := 116) rfl)) rfl
theorem q2_117 : Cond.code yX4_append cX4_append 2 (some .int) ∈ wsL_law := aw_of (t2_in (List.mem_of_getElem? (i := 117) rfl)) rfl
theorem q2_118 : Cond.methodLink RX4 133 yX2_add ∈ wsL_law := aw_of (t2_in (List.mem_of_getElem? (i := 118) rfl)) rfl
theorem q2_119 : Cond.instanceMethod yX2_add ∈ wsL_law := aw_of (t2_in (List.mem_of_getElem? (i := 119) rfl)) rfl
theorem q2_120 : Cond.selects RX2 yX2_add yX2_add ∈ wsL_law := aw_of (t2_in (List.mem_of_getElem? (i := 120) rfl)) rfl
theorem q2_121 : Cond.code yX2_add cX2_add 2 none ∈ wsL_law := aw_of (t2_in (List.mem_of_getElem? (i := 121) rfl)) rfl
theorem q2_122 : Cond.methodLink RL 52 yX4_clearText ∈ wsL_law := aw_of (t2_in (List.mem_of_getElem? (i := 122) rfl)) rfl
theorem q2_123 : Cond.instanceMethod yX4_clearText ∈ wsL_law := aw_of (t2_in (List.mem_of_getElem? (i := 123) rfl)) rfl
theorem q2_124 : Cond.selects RX4 yX4_clearText yX4_clearText ∈ wsL_law := aw_of (t2_in (List.mem_of_getElem? (i := 124) rfl)) rfl
theorem q2_125 : Cond.code yX4_clearText cX4_clearText 2 (some .int) ∈ wsL_law := aw_of (t2_in (List.mem_of_getElem? (i := 125) rfl)) rfl
theorem q2_126 : Cond.methodLink RL 57 yX4_fault ∈ wsL_law := aw_of (t2_in (List.mem_of_getElem? (i := 126) rfl)) rfl
theorem q2_127 : Cond.instanceMethod yX4_fault ∈ wsL_law := aw_of (t2_in (List.mem_of_getElem? (i := 127) rfl)) rfl
theorem q2_128 : Cond.selects RX4 yX4_fault yX4_fault ∈ wsL_law := aw_of (t2_in (List.mem_of_getElem? (i := 128) rfl)) rfl
theorem q2_129 : Cond.code yX4_fault cX4_fault 1 (some .int) ∈ wsL_law := aw_of (t2_in (List.mem_of_getElem? (i := 129) rfl)) rfl
theorem q2_130 : Cond.methodLink RX4 137 yX2_firstFault ∈ wsL_law := aw_of (t2_in (List.mem_of_getElem? (i := 130) rfl)) rfl
theorem q2_131 : Cond.instanceMethod yX2_firstFault ∈ wsL_law := aw_of (t2_in (List.mem_of_getElem? (i := 131) rfl)) rfl
theorem q2_132 : Cond.selects RX2 yX2_firstFault yX2_firstFault ∈ wsL_law := aw_of (t2_in (List.mem_of_getElem? (i := 132) rfl)) rfl
theorem q2_133 : Cond.code yX2_firstFault cX2_firstFault 3 (some .int) ∈ wsL_law := aw_of (t2_in (List.mem_of_getElem? (i := 133) rfl)) rfl
theorem q2_134 : Cond.methodLink RX2 19 yX2_signAt ∈ wsL_law := aw_of (t2_in (List.mem_of_getElem? (i := 134) rfl)) rfl
theorem q2_135 : Cond.instanceMethod yX2_signAt ∈ wsL_law := aw_of (t2_in (List.mem_of_getElem? (i := 135) rfl)) rfl
theorem q2_136 : Cond.selects RX2 yX2_signAt yX2_signAt ∈ wsL_law := aw_of (t2_in (List.mem_of_getElem? (i := 136) rfl)) rfl
theorem q2_137 : Cond.code yX2_signAt cX2_signAt 2 (some .int) ∈ wsL_law := aw_of (t2_in (List.mem_of_getElem? (i := 137) rfl)) rfl
theorem q2_138 : Cond.methodLink RX2 29 yX2_after ∈ wsL_law := aw_of (t2_in (List.mem_of_getElem? (i := 138) rfl)) rfl
theorem q2_139 : Cond.static yX2_after ∈ wsL_law := aw_of (t2_in (List.mem_of_getElem? (i := 139) rfl)) rfl
theorem q2_140 : Cond.code yX2_after cX2_after 2 (some .int) ∈ wsL_law := aw_of (t2_in (List.mem_of_getElem? (i := 140) rfl)) rfl
theorem q2_141 : Cond.methodLink RX2 23 yX2_afterLetter ∈ wsL_law := aw_of (t2_in (List.mem_of_getElem? (i := 141) rfl)) rfl
theorem q2_142 : Cond.static yX2_afterLetter ∈ wsL_law := aw_of (t2_in (List.mem_of_getElem? (i := 142) rfl)) rfl
theorem q2_143 : Cond.code yX2_afterLetter cX2_afterLetter 1 (some .int) ∈ wsL_law := aw_of (t2_in (List.mem_of_getElem? (i := 143) rfl)) rfl
theorem q2_144 : Cond.methodLink RX2 33 yX2_isDigit ∈ wsL_law := aw_of (t2_in (List.mem_of_getElem? (i := 144) rfl)) rfl
theorem q2_145 : Cond.static yX2_isDigit ∈ wsL_law := aw_of (t2_in (List.mem_of_getElem? (i := 145) rfl)) rfl
theorem q2_146 : Cond.code yX2_isDigit cX2_isDigit 3 (some .boolean) ∈ wsL_law := aw_of (t2_in (List.mem_of_getElem? (i := 146) rfl)) rfl
theorem q2_147 : Cond.methodLink RX2 37 yX2_afterBells ∈ wsL_law := aw_of (t2_in (List.mem_of_getElem? (i := 147) rfl)) rfl
theorem q2_148 : Cond.static yX2_afterBells ∈ wsL_law := aw_of (t2_in (List.mem_of_getElem? (i := 148) rfl)) rfl
theorem q2_149 : Cond.code yX2_afterBells cX2_afterBells 2 (some .int) ∈ wsL_law := aw_of (t2_in (List.mem_of_getElem? (i := 149) rfl)) rfl
theorem q2_150 : Cond.methodLink RL 61 yX4_run ∈ wsL_law := aw_of (t2_in (List.mem_of_getElem? (i := 150) rfl)) rfl
theorem q2_151 : Cond.instanceMethod yX4_run ∈ wsL_law := aw_of (t2_in (List.mem_of_getElem? (i := 151) rfl)) rfl
theorem q2_152 : Cond.selects RX4 yX4_run yX4_run ∈ wsL_law := aw_of (t2_in (List.mem_of_getElem? (i := 152) rfl)) rfl
theorem q2_153 : Cond.code yX4_run cX4_run 4 (some .int) ∈ wsL_law := aw_of (t2_in (List.mem_of_getElem? (i := 153) rfl)) rfl
theorem q2_154 : Cond.methodLink RX4 141 yX2_beginsOrder ∈ wsL_law := aw_of (t2_in (List.mem_of_getElem? (i := 154) rfl)) rfl
theorem q2_155 : Cond.instanceMethod yX2_beginsOrder ∈ wsL_law := aw_of (t2_in (List.mem_of_getElem? (i := 155) rfl)) rfl
theorem q2_156 : Cond.selects RX2 yX2_beginsOrder yX2_beginsOrder ∈ wsL_law := aw_of (t2_in (List.mem_of_getElem? (i := 156) rfl)) rfl
theorem q2_157 : Cond.code yX2_beginsOrder cX2_beginsOrder 2 (some .boolean) ∈ wsL_law := aw_of (t2_in (List.mem_of_getElem? (i := 157) rfl)) rfl
theorem q2_158 : Cond.methodLink RX4 144 yX4_carryOut ∈ wsL_law := aw_of (t2_in (List.mem_of_getElem? (i := 158) rfl)) rfl
theorem q2_160 : Cond.instanceMethod yX4_carryOut ∈ wsL_law := aw_of (t2_in (List.mem_of_getElem? (i := 160) rfl)) rfl
theorem q2_161 : Cond.code yX4_carryOut cX4_carryOut 5 (some .boolean) ∈ wsL_law := aw_of (t2_in (List.mem_of_getElem? (i := 161) rfl)) rfl
theorem q2_162 : Cond.methodLink RX4 227 yX2_signAt ∈ wsL_law := aw_of (t2_in (List.mem_of_getElem? (i := 162) rfl)) rfl
theorem q2_163 : Cond.methodLink RX4 230 yX2_digitAt ∈ wsL_law := aw_of (t2_in (List.mem_of_getElem? (i := 163) rfl)) rfl
theorem q2_164 : Cond.instanceMethod yX2_digitAt ∈ wsL_law := aw_of (t2_in (List.mem_of_getElem? (i := 164) rfl)) rfl
theorem q2_165 : Cond.selects RX2 yX2_digitAt yX2_digitAt ∈ wsL_law := aw_of (t2_in (List.mem_of_getElem? (i := 165) rfl)) rfl
theorem q2_166 : Cond.code yX2_digitAt cX2_digitAt 2 (some .int) ∈ wsL_law := aw_of (t2_in (List.mem_of_getElem? (i := 166) rfl)) rfl
theorem q2_167 : Cond.methodLink RX4 233 yX2_bellsFrom ∈ wsL_law := aw_of (t2_in (List.mem_of_getElem? (i := 167) rfl)) rfl
theorem q2_168 : Cond.instanceMethod yX2_bellsFrom ∈ wsL_law := aw_of (t2_in (List.mem_of_getElem? (i := 168) rfl)) rfl
theorem q2_169 : Cond.selects RX2 yX2_bellsFrom yX2_bellsFrom ∈ wsL_law := aw_of (t2_in (List.mem_of_getElem? (i := 169) rfl)) rfl
theorem q2_170 : Cond.code yX2_bellsFrom cX2_bellsFrom 4 (some .int) ∈ wsL_law := aw_of (t2_in (List.mem_of_getElem? (i := 170) rfl)) rfl
theorem q2_171 : Cond.methodLink RX2 26 yX2_digitAt ∈ wsL_law := aw_of (t2_in (List.mem_of_getElem? (i := 171) rfl)) rfl
theorem q2_172 : Cond.methodLink RL 65 yX4_undo ∈ wsL_law := aw_of (t2_in (List.mem_of_getElem? (i := 172) rfl)) rfl
theorem q2_173 : Cond.instanceMethod yX4_undo ∈ wsL_law := aw_of (t2_in (List.mem_of_getElem? (i := 173) rfl)) rfl
theorem q2_174 : Cond.selects RX4 yX4_undo yX4_undo ∈ wsL_law := aw_of (t2_in (List.mem_of_getElem? (i := 174) rfl)) rfl
theorem q2_175 : Cond.code yX4_undo cX4_undo 1 (some .int) ∈ wsL_law := aw_of (t2_in (List.mem_of_getElem? (i := 175) rfl)) rfl
theorem q2_176 : Cond.methodLink RX4 150 yX0_takeBack ∈ wsL_law := aw_of (t2_in (List.mem_of_getElem? (i := 176) rfl)) rfl
theorem q2_177 : Cond.instanceMethod yX0_takeBack ∈ wsL_law := aw_of (t2_in (List.mem_of_getElem? (i := 177) rfl)) rfl
theorem q2_178 : Cond.selects RX0 yX0_takeBack yX0_takeBack ∈ wsL_law := aw_of (t2_in (List.mem_of_getElem? (i := 178) rfl)) rfl
theorem q2_179 : Cond.code yX0_takeBack cX0_takeBack 3 none ∈ wsL_law := aw_of (t2_in (List.mem_of_getElem? (i := 179) rfl)) rfl
theorem q2_180 : Cond.methodLink RL 69 yX4_save ∈ wsL_law := aw_of (t2_in (List.mem_of_getElem? (i := 180) rfl)) rfl
theorem q2_181 : Cond.instanceMethod yX4_save ∈ wsL_law := aw_of (t2_in (List.mem_of_getElem? (i := 181) rfl)) rfl
theorem q2_182 : Cond.selects RX4 yX4_save yX4_save ∈ wsL_law := aw_of (t2_in (List.mem_of_getElem? (i := 182) rfl)) rfl
theorem q2_183 : Cond.code yX4_save cX4_save 1 (some .int) ∈ wsL_law := aw_of (t2_in (List.mem_of_getElem? (i := 183) rfl)) rfl
theorem q2_184 : Cond.methodLink RX4 153 yX3_copyFrom ∈ wsL_law := aw_of (t2_in (List.mem_of_getElem? (i := 184) rfl)) rfl
theorem q2_185 : Cond.methodLink RL 73 yX4_restore ∈ wsL_law := aw_of (t2_in (List.mem_of_getElem? (i := 185) rfl)) rfl
theorem q2_186 : Cond.instanceMethod yX4_restore ∈ wsL_law := aw_of (t2_in (List.mem_of_getElem? (i := 186) rfl)) rfl
theorem q2_187 : Cond.selects RX4 yX4_restore yX4_restore ∈ wsL_law := aw_of (t2_in (List.mem_of_getElem? (i := 187) rfl)) rfl
theorem q2_188 : Cond.code yX4_restore cX4_restore 1 (some .int) ∈ wsL_law := aw_of (t2_in (List.mem_of_getElem? (i := 188) rfl)) rfl
theorem q2_189 : Cond.methodLink RL 77 yX4_town ∈ wsL_law := aw_of (t2_in (List.mem_of_getElem? (i := 189) rfl)) rfl
theorem q2_190 : Cond.instanceMethod yX4_town ∈ wsL_law := aw_of (t2_in (List.mem_of_getElem? (i := 190) rfl)) rfl
theorem q2_191 : Cond.selects RX4 yX4_town yX4_town ∈ wsL_law := aw_of (t2_in (List.mem_of_getElem? (i := 191) rfl)) rfl
theorem q2_192 : Cond.code yX4_town cX4_town 3 (some .int) ∈ wsL_law := aw_of (t2_in (List.mem_of_getElem? (i := 192) rfl)) rfl
theorem q2_193 : Cond.methodLink RL 81 yX4_bell ∈ wsL_law := aw_of (t2_in (List.mem_of_getElem? (i := 193) rfl)) rfl
theorem q2_194 : Cond.instanceMethod yX4_bell ∈ wsL_law := aw_of (t2_in (List.mem_of_getElem? (i := 194) rfl)) rfl
theorem q2_195 : Cond.selects RX4 yX4_bell yX4_bell ∈ wsL_law := aw_of (t2_in (List.mem_of_getElem? (i := 195) rfl)) rfl
theorem q2_196 : Cond.code yX4_bell cX4_bell 5 (some .int) ∈ wsL_law := aw_of (t2_in (List.mem_of_getElem? (i := 196) rfl)) rfl
theorem q2_197 : Cond.methodLink RX4 174 yX4_ringersFor ∈ wsL_law := aw_of (t2_in (List.mem_of_getElem? (i := 197) rfl)) rfl
theorem q2_198 : Cond.methodLink RL 85 yX4_count ∈ wsL_law := aw_of (t2_in (List.mem_of_getElem? (i := 198) rfl)) rfl
theorem q2_199 : Cond.instanceMethod yX4_count ∈ wsL_law := aw_of (t2_in (List.mem_of_getElem? (i := 199) rfl)) rfl
theorem q2_200 : Cond.selects RX4 yX4_count yX4_count ∈ wsL_law := aw_of (t2_in (List.mem_of_getElem? (i := 200) rfl)) rfl
theorem q2_201 : Cond.code yX4_count cX4_count 2 (some .int) ∈ wsL_law := aw_of (t2_in (List.mem_of_getElem? (i := 201) rfl)) rfl
theorem q2_202 : Cond.methodLink RX4 186 yX3_allBells ∈ wsL_law := aw_of (t2_in (List.mem_of_getElem? (i := 202) rfl)) rfl
theorem q2_203 : Cond.instanceMethod yX3_allBells ∈ wsL_law := aw_of (t2_in (List.mem_of_getElem? (i := 203) rfl)) rfl
theorem q2_204 : Cond.selects RX3 yX3_allBells yX3_allBells ∈ wsL_law := aw_of (t2_in (List.mem_of_getElem? (i := 204) rfl)) rfl
theorem q2_205 : Cond.code yX3_allBells cX3_allBells 3 (some .int) ∈ wsL_law := aw_of (t2_in (List.mem_of_getElem? (i := 205) rfl)) rfl
theorem q2_206 : Cond.methodLink RX4 189 yX3_brokenRopes ∈ wsL_law := aw_of (t2_in (List.mem_of_getElem? (i := 206) rfl)) rfl
theorem q2_207 : Cond.instanceMethod yX3_brokenRopes ∈ wsL_law := aw_of (t2_in (List.mem_of_getElem? (i := 207) rfl)) rfl
theorem q2_208 : Cond.selects RX3 yX3_brokenRopes yX3_brokenRopes ∈ wsL_law := aw_of (t2_in (List.mem_of_getElem? (i := 208) rfl)) rfl
theorem q2_209 : Cond.code yX3_brokenRopes cX3_brokenRopes 3 (some .int) ∈ wsL_law := aw_of (t2_in (List.mem_of_getElem? (i := 209) rfl)) rfl
theorem q2_210 : Cond.methodLink RX4 192 yX3_silentTowns ∈ wsL_law := aw_of (t2_in (List.mem_of_getElem? (i := 210) rfl)) rfl
theorem q2_211 : Cond.instanceMethod yX3_silentTowns ∈ wsL_law := aw_of (t2_in (List.mem_of_getElem? (i := 211) rfl)) rfl
theorem q2_212 : Cond.selects RX3 yX3_silentTowns yX3_silentTowns ∈ wsL_law := aw_of (t2_in (List.mem_of_getElem? (i := 212) rfl)) rfl
theorem q2_213 : Cond.code yX3_silentTowns cX3_silentTowns 3 (some .int) ∈ wsL_law := aw_of (t2_in (List.mem_of_getElem? (i := 213) rfl)) rfl
theorem q2_214 : Cond.methodLink RX4 195 yX3_allPoints ∈ wsL_law := aw_of (t2_in (List.mem_of_getElem? (i := 214) rfl)) rfl
theorem q2_215 : Cond.instanceMethod yX3_allPoints ∈ wsL_law := aw_of (t2_in (List.mem_of_getElem? (i := 215) rfl)) rfl
theorem q2_216 : Cond.selects RX3 yX3_allPoints yX3_allPoints ∈ wsL_law := aw_of (t2_in (List.mem_of_getElem? (i := 216) rfl)) rfl
theorem q2_217 : Cond.code yX3_allPoints cX3_allPoints 3 (some .int) ∈ wsL_law := aw_of (t2_in (List.mem_of_getElem? (i := 217) rfl)) rfl
theorem q2_218 : Cond.methodLink RL 89 yX4_loudness ∈ wsL_law := aw_of (t2_in (List.mem_of_getElem? (i := 218) rfl)) rfl
theorem q2_219 : Cond.instanceMethod yX4_loudness ∈ wsL_law := aw_of (t2_in (List.mem_of_getElem? (i := 219) rfl)) rfl
theorem q2_220 : Cond.selects RX4 yX4_loudness yX4_loudness ∈ wsL_law := aw_of (t2_in (List.mem_of_getElem? (i := 220) rfl)) rfl
theorem q2_221 : Cond.code yX4_loudness cX4_loudness 2 (some .int) ∈ wsL_law := aw_of (t2_in (List.mem_of_getElem? (i := 221) rfl)) rfl
theorem q2_222 : Cond.methodLink RL 93 yX4_heard ∈ wsL_law := aw_of (t2_in (List.mem_of_getElem? (i := 222) rfl)) rfl
theorem q2_223 : Cond.instanceMethod yX4_heard ∈ wsL_law := aw_of (t2_in (List.mem_of_getElem? (i := 223) rfl)) rfl
theorem q2_224 : Cond.selects RX4 yX4_heard yX4_heard ∈ wsL_law := aw_of (t2_in (List.mem_of_getElem? (i := 224) rfl)) rfl
theorem q2_225 : Cond.code yX4_heard cX4_heard 3 (some .int) ∈ wsL_law := aw_of (t2_in (List.mem_of_getElem? (i := 225) rfl)) rfl
theorem q2_226 : Cond.methodLink RX4 204 yX1_soundIn ∈ wsL_law := aw_of (t2_in (List.mem_of_getElem? (i := 226) rfl)) rfl
theorem q2_227 : Cond.methodLink RL 97 yX4_winner ∈ wsL_law := aw_of (t2_in (List.mem_of_getElem? (i := 227) rfl)) rfl
theorem q2_228 : Cond.instanceMethod yX4_winner ∈ wsL_law := aw_of (t2_in (List.mem_of_getElem? (i := 228) rfl)) rfl
theorem q2_229 : Cond.selects RX4 yX4_winner yX4_winner ∈ wsL_law := aw_of (t2_in (List.mem_of_getElem? (i := 229) rfl)) rfl
theorem q2_230 : Cond.code yX4_winner cX4_winner 2 (some .int) ∈ wsL_law := aw_of (t2_in (List.mem_of_getElem? (i := 230) rfl)) rfl
theorem q2_231 : Cond.methodLink RL 101 yX4_ifPlanned ∈ wsL_law := aw_of (t2_in (List.mem_of_getElem? (i := 231) rfl)) rfl
theorem q2_232 : Cond.instanceMethod yX4_ifPlanned ∈ wsL_law := aw_of (t2_in (List.mem_of_getElem? (i := 232) rfl)) rfl
theorem q2_233 : Cond.selects RX4 yX4_ifPlanned yX4_ifPlanned ∈ wsL_law := aw_of (t2_in (List.mem_of_getElem? (i := 233) rfl)) rfl
theorem q2_234 : Cond.code yX4_ifPlanned cX4_ifPlanned 4 (some .int) ∈ wsL_law := aw_of (t2_in (List.mem_of_getElem? (i := 234) rfl)) rfl
theorem q2_235 : Cond.methodLink RX4 211 yX4_pointsWithPlan ∈ wsL_law := aw_of (t2_in (List.mem_of_getElem? (i := 235) rfl)) rfl
theorem q2_237 : Cond.instanceMethod yX4_pointsWithPlan ∈ wsL_law := aw_of (t2_in (List.mem_of_getElem? (i := 237) rfl)) rfl
theorem q2_238 : Cond.code yX4_pointsWithPlan cX4_pointsWithPlan 3 (some .int) ∈ wsL_law := aw_of (t2_in (List.mem_of_getElem? (i := 238) rfl)) rfl
theorem q2_239 : Cond.methodLink RX4 224 yX1_pointsOf ∈ wsL_law := aw_of (t2_in (List.mem_of_getElem? (i := 239) rfl)) rfl
theorem q3_0 : Cond.instanceMethod yX1_pointsOf ∈ wsL_law := aw_of (t3_in (List.mem_of_getElem? (i := 0) rfl)) rfl
theorem q3_1 : Cond.selects RX1 yX1_pointsOf yX1_pointsOf ∈ wsL_law := aw_of (t3_in (List.mem_of_getElem? (i := 1) rfl)) rfl
theorem q3_2 : Cond.code yX1_pointsOf cX1_pointsOf 4 (some .int) ∈ wsL_law := aw_of (t3_in (List.mem_of_getElem? (i := 2) rfl)) rfl
theorem q3_3 : Cond.methodLink RL 105 yX4_bestPlan ∈ wsL_law := aw_of (t3_in (List.mem_of_getElem? (i := 3) rfl)) rfl
theorem q3_4 : Cond.instanceMethod yX4_bestPlan ∈ wsL_law := aw_of (t3_in (List.mem_of_getElem? (i := 4) rfl)) rfl
theorem q3_5 : Cond.selects RX4 yX4_bestPlan yX4_bestPlan ∈ wsL_law := aw_of (t3_in (List.mem_of_getElem? (i := 5) rfl)) rfl
theorem q3_6 : Cond.code yX4_bestPlan cX4_bestPlan 8 (some .int) ∈ wsL_law := aw_of (t3_in (List.mem_of_getElem? (i := 6) rfl)) rfl
theorem q3_7 : Cond.methodLink RL 109 yX4_pointsIn ∈ wsL_law := aw_of (t3_in (List.mem_of_getElem? (i := 7) rfl)) rfl
theorem q3_8 : Cond.instanceMethod yX4_pointsIn ∈ wsL_law := aw_of (t3_in (List.mem_of_getElem? (i := 8) rfl)) rfl
theorem q3_9 : Cond.selects RX4 yX4_pointsIn yX4_pointsIn ∈ wsL_law := aw_of (t3_in (List.mem_of_getElem? (i := 9) rfl)) rfl
theorem q3_10 : Cond.code yX4_pointsIn cX4_pointsIn 4 (some .int) ∈ wsL_law := aw_of (t3_in (List.mem_of_getElem? (i := 10) rfl)) rfl
theorem q3_11 : Cond.methodLink RL 113 yX4_share ∈ wsL_law := aw_of (t3_in (List.mem_of_getElem? (i := 11) rfl)) rfl
theorem q3_12 : Cond.instanceMethod yX4_share ∈ wsL_law := aw_of (t3_in (List.mem_of_getElem? (i := 12) rfl)) rfl
theorem q3_13 : Cond.selects RX4 yX4_share yX4_share ∈ wsL_law := aw_of (t3_in (List.mem_of_getElem? (i := 13) rfl)) rfl
theorem q3_14 : Cond.code yX4_share cX4_share 3 (some .double) ∈ wsL_law := aw_of (t3_in (List.mem_of_getElem? (i := 14) rfl)) rfl
theorem q3_15 : Cond.classLink RL 10 RX5 ∈ wsL_law := aw_of (t3_in (List.mem_of_getElem? (i := 15) rfl)) rfl
theorem q3_16 : Cond.instantiable RX5 14 ∈ wsL_law := aw_of (t3_in (List.mem_of_getElem? (i := 16) rfl)) rfl
theorem q3_17 : Cond.methodLink RL 12 yX5_init ∈ wsL_law := aw_of (t3_in (List.mem_of_getElem? (i := 17) rfl)) rfl
theorem q3_18 : Cond.instanceMethod yX5_init ∈ wsL_law := aw_of (t3_in (List.mem_of_getElem? (i := 18) rfl)) rfl
theorem q3_19 : Cond.code yX5_init cX5_init 2 none ∈ wsL_law := aw_of (t3_in (List.mem_of_getElem? (i := 19) rfl)) rfl
theorem q3_20 : Cond.methodLink RX5 1 ⟨"java/lang/Object", "<init>", "()V"⟩ ∈ wsL_law := aw_of (t3_in (List.mem_of_getElem? (i := 20) rfl)) rfl
theorem q3_21 : Cond.methodLink RX5 37 yX5_put ∈ wsL_law := aw_of (t3_in (List.mem_of_getElem? (i := 21) rfl)) rfl
theorem q3_23 : Cond.instanceMethod yX5_put ∈ wsL_law := aw_of (t3_in (List.mem_of_getElem? (i := 23) rfl)) rfl
theorem q3_24 : Cond.code yX5_put cX5_put 4 none ∈ wsL_law := aw_of (t3_in (List.mem_of_getElem? (i := 24) rfl)) rfl
theorem q3_25 : Cond.fieldLink RX5 7 "BellTownsModel" "row" "[I" ∈ wsL_law := aw_of (t3_in (List.mem_of_getElem? (i := 25) rfl)) rfl
theorem q3_26 : Cond.fieldLink RX5 13 "BellTownsModel" "history" "[I" ∈ wsL_law := aw_of (t3_in (List.mem_of_getElem? (i := 26) rfl)) rfl
theorem q3_27 : Cond.fieldLink RX5 53 "BellTownsModel" "states" "I" ∈ wsL_law := aw_of (t3_in (List.mem_of_getElem? (i := 27) rfl)) rfl
theorem q3_28 : Cond.fieldLink RX5 16 "BellTownsModel" "snapshot" "[I" ∈ wsL_law := aw_of (t3_in (List.mem_of_getElem? (i := 28) rfl)) rfl
theorem q3_29 : Cond.fieldLink RX5 57 "BellTownsModel" "isSaved" "Z" ∈ wsL_law := aw_of (t3_in (List.mem_of_getElem? (i := 29) rfl)) rfl
theorem q3_30 : Cond.fieldLink RX5 19 "BellTownsModel" "aside" "[I" ∈ wsL_law := aw_of (t3_in (List.mem_of_getElem? (i := 30) rfl)) rfl
theorem q3_31 : Cond.fieldLink RX5 22 "BellTownsModel" "loud" "[I" ∈ wsL_law := aw_of (t3_in (List.mem_of_getElem? (i := 31) rfl)) rfl
theorem q3_32 : Cond.fieldLink RX5 25 "BellTownsModel" "text" "[I" ∈ wsL_law := aw_of (t3_in (List.mem_of_getElem? (i := 32) rfl)) rfl
theorem q3_33 : Cond.fieldLink RX5 120 "BellTownsModel" "length" "I" ∈ wsL_law := aw_of (t3_in (List.mem_of_getElem? (i := 33) rfl)) rfl
theorem q3_34 : Cond.fieldLink RX5 123 "BellTownsModel" "spot" "I" ∈ wsL_law := aw_of (t3_in (List.mem_of_getElem? (i := 34) rfl)) rfl
theorem q3_35 : Cond.fieldLink RX5 129 "BellTownsModel" "orders" "I" ∈ wsL_law := aw_of (t3_in (List.mem_of_getElem? (i := 35) rfl)) rfl
theorem q3_36 : Cond.fieldLink RX5 28 "BellTownsModel" "letter" "[I" ∈ wsL_law := aw_of (t3_in (List.mem_of_getElem? (i := 36) rfl)) rfl
theorem q3_37 : Cond.fieldLink RX5 31 "BellTownsModel" "one" "[I" ∈ wsL_law := aw_of (t3_in (List.mem_of_getElem? (i := 37) rfl)) rfl
theorem q3_38 : Cond.fieldLink RX5 34 "BellTownsModel" "bells" "[I" ∈ wsL_law := aw_of (t3_in (List.mem_of_getElem? (i := 38) rfl)) rfl
theorem q3_68 : Cond.methodLink RL 68 yX5_undo ∈ wsL_law := aw_of (t3_in (List.mem_of_getElem? (i := 68) rfl)) rfl
theorem q3_69 : Cond.instanceMethod yX5_undo ∈ wsL_law := aw_of (t3_in (List.mem_of_getElem? (i := 69) rfl)) rfl
theorem q3_70 : Cond.selects RX5 yX5_undo yX5_undo ∈ wsL_law := aw_of (t3_in (List.mem_of_getElem? (i := 70) rfl)) rfl
theorem q3_71 : Cond.code yX5_undo cX5_undo 2 (some .int) ∈ wsL_law := aw_of (t3_in (List.mem_of_getElem? (i := 71) rfl)) rfl
theorem q3_72 : Cond.methodLink RL 72 yX5_save ∈ wsL_law := aw_of (t3_in (List.mem_of_getElem? (i := 72) rfl)) rfl
theorem q3_73 : Cond.instanceMethod yX5_save ∈ wsL_law := aw_of (t3_in (List.mem_of_getElem? (i := 73) rfl)) rfl
theorem q3_74 : Cond.selects RX5 yX5_save yX5_save ∈ wsL_law := aw_of (t3_in (List.mem_of_getElem? (i := 74) rfl)) rfl
theorem q3_75 : Cond.code yX5_save cX5_save 2 (some .int) ∈ wsL_law := aw_of (t3_in (List.mem_of_getElem? (i := 75) rfl)) rfl
theorem q3_76 : Cond.methodLink RL 76 yX5_restore ∈ wsL_law := aw_of (t3_in (List.mem_of_getElem? (i := 76) rfl)) rfl
theorem q3_77 : Cond.instanceMethod yX5_restore ∈ wsL_law := aw_of (t3_in (List.mem_of_getElem? (i := 77) rfl)) rfl
theorem q3_78 : Cond.selects RX5 yX5_restore yX5_restore ∈ wsL_law := aw_of (t3_in (List.mem_of_getElem? (i := 78) rfl)) rfl
theorem q3_79 : Cond.code yX5_restore cX5_restore 2 (some .int) ∈ wsL_law := aw_of (t3_in (List.mem_of_getElem? (i := 79) rfl)) rfl
theorem q3_80 : Cond.methodLink RX5 61 yX5_record ∈ wsL_law := aw_of (t3_in (List.mem_of_getElem? (i := 80) rfl)) rfl
theorem q3_82 : Cond.instanceMethod yX5_record ∈ wsL_law := aw_of (t3_in (List.mem_of_getElem? (i := 82) rfl)) rfl
theorem q3_83 : Cond.code yX5_record cX5_record 2 none ∈ wsL_law := aw_of (t3_in (List.mem_of_getElem? (i := 83) rfl)) rfl
theorem q3_84 : Cond.methodLink RL 17 yX5_hang ∈ wsL_law := aw_of (t3_in (List.mem_of_getElem? (i := 84) rfl)) rfl
theorem q3_85 : Cond.instanceMethod yX5_hang ∈ wsL_law := aw_of (t3_in (List.mem_of_getElem? (i := 85) rfl)) rfl
theorem q3_86 : Cond.selects RX5 yX5_hang yX5_hang ∈ wsL_law := aw_of (t3_in (List.mem_of_getElem? (i := 86) rfl)) rfl
theorem q3_87 : Cond.code yX5_hang cX5_hang 4 (some .int) ∈ wsL_law := aw_of (t3_in (List.mem_of_getElem? (i := 87) rfl)) rfl
theorem q3_88 : Cond.methodLink RX5 45 yX5_isTown ∈ wsL_law := aw_of (t3_in (List.mem_of_getElem? (i := 88) rfl)) rfl
theorem q3_89 : Cond.static yX5_isTown ∈ wsL_law := aw_of (t3_in (List.mem_of_getElem? (i := 89) rfl)) rfl
theorem q3_90 : Cond.code yX5_isTown cX5_isTown 1 (some .boolean) ∈ wsL_law := aw_of (t3_in (List.mem_of_getElem? (i := 90) rfl)) rfl
theorem q3_91 : Cond.methodLink RX5 41 yX5_in ∈ wsL_law := aw_of (t3_in (List.mem_of_getElem? (i := 91) rfl)) rfl
theorem q3_92 : Cond.static yX5_in ∈ wsL_law := aw_of (t3_in (List.mem_of_getElem? (i := 92) rfl)) rfl
theorem q3_93 : Cond.code yX5_in cX5_in 3 (some .boolean) ∈ wsL_law := aw_of (t3_in (List.mem_of_getElem? (i := 93) rfl)) rfl
theorem q3_94 : Cond.methodLink RX5 49 yX5_of ∈ wsL_law := aw_of (t3_in (List.mem_of_getElem? (i := 94) rfl)) rfl
theorem q3_96 : Cond.instanceMethod yX5_of ∈ wsL_law := aw_of (t3_in (List.mem_of_getElem? (i := 96) rfl)) rfl
theorem q3_97 : Cond.code yX5_of cX5_of 3 (some .int) ∈ wsL_law := aw_of (t3_in (List.mem_of_getElem? (i := 97) rfl)) rfl
theorem q3_98 : Cond.methodLink RL 21 yX5_melt ∈ wsL_law := aw_of (t3_in (List.mem_of_getElem? (i := 98) rfl)) rfl
theorem q3_99 : Cond.instanceMethod yX5_melt ∈ wsL_law := aw_of (t3_in (List.mem_of_getElem? (i := 99) rfl)) rfl
theorem q3_100 : Cond.selects RX5 yX5_melt yX5_melt ∈ wsL_law := aw_of (t3_in (List.mem_of_getElem? (i := 100) rfl)) rfl
theorem q3_101 : Cond.code yX5_melt cX5_melt 6 (some .int) ∈ wsL_law := aw_of (t3_in (List.mem_of_getElem? (i := 101) rfl)) rfl
theorem q3_102 : Cond.methodLink RX5 97 yX5_isBell ∈ wsL_law := aw_of (t3_in (List.mem_of_getElem? (i := 102) rfl)) rfl
theorem q3_104 : Cond.instanceMethod yX5_isBell ∈ wsL_law := aw_of (t3_in (List.mem_of_getElem? (i := 104) rfl)) rfl
theorem q3_105 : Cond.code yX5_isBell cX5_isBell 3 (some .boolean) ∈ wsL_law := aw_of (t3_in (List.mem_of_getElem? (i := 105) rfl)) rfl
theorem q3_106 : Cond.methodLink RL 26 yX5_settle ∈ wsL_law := aw_of (t3_in (List.mem_of_getElem? (i := 106) rfl)) rfl
theorem q3_107 : Cond.instanceMethod yX5_settle ∈ wsL_law := aw_of (t3_in (List.mem_of_getElem? (i := 107) rfl)) rfl
theorem q3_108 : Cond.selects RX5 yX5_settle yX5_settle ∈ wsL_law := aw_of (t3_in (List.mem_of_getElem? (i := 108) rfl)) rfl
theorem q3_109 : Cond.code yX5_settle cX5_settle 4 (some .int) ∈ wsL_law := aw_of (t3_in (List.mem_of_getElem? (i := 109) rfl)) rfl
theorem q3_110 : Cond.methodLink RX5 101 yX5_isTaken ∈ wsL_law := aw_of (t3_in (List.mem_of_getElem? (i := 110) rfl)) rfl
theorem q3_112 : Cond.instanceMethod yX5_isTaken ∈ wsL_law := aw_of (t3_in (List.mem_of_getElem? (i := 112) rfl)) rfl
theorem q3_113 : Cond.code yX5_isTaken cX5_isTaken 5 (some .boolean) ∈ wsL_law := aw_of (t3_in (List.mem_of_getElem? (i := 113) rfl)) rfl
theorem q3_114 : Cond.methodLink RL 30 yX5_plan ∈ wsL_law := aw_of (t3_in (List.mem_of_getElem? (i := 114) rfl)) rfl
theorem q3_115 : Cond.instanceMethod yX5_plan ∈ wsL_law := aw_of (t3_in (List.mem_of_getElem? (i := 115) rfl)) rfl
theorem q3_116 : Cond.selects RX5 yX5_plan yX5_plan ∈ wsL_law := aw_of (t3_in (List.mem_of_getElem? (i := 116) rfl)) rfl
theorem q3_117 : Cond.code yX5_plan cX5_plan 4 (some .int) ∈ wsL_law := aw_of (t3_in (List.mem_of_getElem? (i := 117) rfl)) rfl
theorem q3_118 : Cond.methodLink RX5 104 yX5_hasBells ∈ wsL_law := aw_of (t3_in (List.mem_of_getElem? (i := 118) rfl)) rfl
theorem q3_120 : Cond.instanceMethod yX5_hasBells ∈ wsL_law := aw_of (t3_in (List.mem_of_getElem? (i := 120) rfl)) rfl
theorem q3_121 : Cond.code yX5_hasBells cX5_hasBells 3 (some .boolean) ∈ wsL_law := aw_of (t3_in (List.mem_of_getElem? (i := 121) rfl)) rfl
theorem q3_122 : Cond.methodLink RX5 64 yX5_allBells ∈ wsL_law := aw_of (t3_in (List.mem_of_getElem? (i := 122) rfl)) rfl
theorem q3_124 : Cond.instanceMethod yX5_allBells ∈ wsL_law := aw_of (t3_in (List.mem_of_getElem? (i := 124) rfl)) rfl
theorem q3_125 : Cond.code yX5_allBells cX5_allBells 2 (some .int) ∈ wsL_law := aw_of (t3_in (List.mem_of_getElem? (i := 125) rfl)) rfl
theorem q3_126 : Cond.methodLink RL 34 yX5_splice ∈ wsL_law := aw_of (t3_in (List.mem_of_getElem? (i := 126) rfl)) rfl
theorem q3_127 : Cond.instanceMethod yX5_splice ∈ wsL_law := aw_of (t3_in (List.mem_of_getElem? (i := 127) rfl)) rfl
theorem q3_128 : Cond.selects RX5 yX5_splice yX5_splice ∈ wsL_law := aw_of (t3_in (List.mem_of_getElem? (i := 128) rfl)) rfl
theorem q3_129 : Cond.code yX5_splice cX5_splice 3 (some .int) ∈ wsL_law := aw_of (t3_in (List.mem_of_getElem? (i := 129) rfl)) rfl
theorem q3_130 : Cond.methodLink RX5 107 yX5_canSplice ∈ wsL_law := aw_of (t3_in (List.mem_of_getElem? (i := 130) rfl)) rfl
theorem q3_132 : Cond.instanceMethod yX5_canSplice ∈ wsL_law := aw_of (t3_in (List.mem_of_getElem? (i := 132) rfl)) rfl
theorem q3_133 : Cond.code yX5_canSplice cX5_canSplice 3 (some .boolean) ∈ wsL_law := aw_of (t3_in (List.mem_of_getElem? (i := 133) rfl)) rfl
theorem q3_134 : Cond.methodLink RX5 110 yX5_spliceNow ∈ wsL_law := aw_of (t3_in (List.mem_of_getElem? (i := 134) rfl)) rfl
theorem q3_136 : Cond.instanceMethod yX5_spliceNow ∈ wsL_law := aw_of (t3_in (List.mem_of_getElem? (i := 136) rfl)) rfl
theorem q3_137 : Cond.code yX5_spliceNow cX5_spliceNow 4 (some .int) ∈ wsL_law := aw_of (t3_in (List.mem_of_getElem? (i := 137) rfl)) rfl
theorem q3_138 : Cond.methodLink RL 38 yX5_feast ∈ wsL_law := aw_of (t3_in (List.mem_of_getElem? (i := 138) rfl)) rfl
theorem q3_139 : Cond.instanceMethod yX5_feast ∈ wsL_law := aw_of (t3_in (List.mem_of_getElem? (i := 139) rfl)) rfl
theorem q3_140 : Cond.selects RX5 yX5_feast yX5_feast ∈ wsL_law := aw_of (t3_in (List.mem_of_getElem? (i := 140) rfl)) rfl
theorem q3_141 : Cond.code yX5_feast cX5_feast 4 (some .int) ∈ wsL_law := aw_of (t3_in (List.mem_of_getElem? (i := 141) rfl)) rfl
theorem q3_142 : Cond.methodLink RL 42 yX5_set ∈ wsL_law := aw_of (t3_in (List.mem_of_getElem? (i := 142) rfl)) rfl
theorem q3_143 : Cond.instanceMethod yX5_set ∈ wsL_law := aw_of (t3_in (List.mem_of_getElem? (i := 143) rfl)) rfl
theorem q3_144 : Cond.selects RX5 yX5_set yX5_set ∈ wsL_law := aw_of (t3_in (List.mem_of_getElem? (i := 144) rfl)) rfl
theorem q3_145 : Cond.code yX5_set cX5_set 4 (some .int) ∈ wsL_law := aw_of (t3_in (List.mem_of_getElem? (i := 145) rfl)) rfl
theorem q3_146 : Cond.methodLink RL 47 yX5_turns ∈ wsL_law := aw_of (t3_in (List.mem_of_getElem? (i := 146) rfl)) rfl
theorem q3_147 : Cond.instanceMethod yX5_turns ∈ wsL_law := aw_of (t3_in (List.mem_of_getElem? (i := 147) rfl)) rfl
theorem q3_148 : Cond.selects RX5 yX5_turns yX5_turns ∈ wsL_law := aw_of (t3_in (List.mem_of_getElem? (i := 148) rfl)) rfl
theorem q3_149 : Cond.code yX5_turns cX5_turns 2 (some .int) ∈ wsL_law := aw_of (t3_in (List.mem_of_getElem? (i := 149) rfl)) rfl
theorem q3_150 : Cond.methodLink RX5 116 yX5_turnsNow ∈ wsL_law := aw_of (t3_in (List.mem_of_getElem? (i := 150) rfl)) rfl
theorem q3_152 : Cond.instanceMethod yX5_turnsNow ∈ wsL_law := aw_of (t3_in (List.mem_of_getElem? (i := 152) rfl)) rfl
theorem q3_153 : Cond.code yX5_turnsNow cX5_turnsNow 3 none ∈ wsL_law := aw_of (t3_in (List.mem_of_getElem? (i := 153) rfl)) rfl
theorem q3_154 : Cond.methodLink RX5 113 yX5_turn ∈ wsL_law := aw_of (t3_in (List.mem_of_getElem? (i := 154) rfl)) rfl
theorem q3_156 : Cond.instanceMethod yX5_turn ∈ wsL_law := aw_of (t3_in (List.mem_of_getElem? (i := 156) rfl)) rfl
theorem q3_157 : Cond.code yX5_turn cX5_turn 4 none ∈ wsL_law := aw_of (t3_in (List.mem_of_getElem? (i := 157) rfl)) rfl
theorem q3_158 : Cond.methodLink RX5 83 yX5_listen ∈ wsL_law := aw_of (t3_in (List.mem_of_getElem? (i := 158) rfl)) rfl
theorem q3_160 : Cond.instanceMethod yX5_listen ∈ wsL_law := aw_of (t3_in (List.mem_of_getElem? (i := 160) rfl)) rfl
theorem q3_161 : Cond.code yX5_listen cX5_listen 2 none ∈ wsL_law := aw_of (t3_in (List.mem_of_getElem? (i := 161) rfl)) rfl
theorem q3_162 : Cond.methodLink RX5 74 yX5_rings ∈ wsL_law := aw_of (t3_in (List.mem_of_getElem? (i := 162) rfl)) rfl
theorem q3_164 : Cond.instanceMethod yX5_rings ∈ wsL_law := aw_of (t3_in (List.mem_of_getElem? (i := 164) rfl)) rfl
theorem q3_165 : Cond.code yX5_rings cX5_rings 7 (some .int) ∈ wsL_law := aw_of (t3_in (List.mem_of_getElem? (i := 165) rfl)) rfl
theorem q3_166 : Cond.methodLink RX5 68 yX5_wanted ∈ wsL_law := aw_of (t3_in (List.mem_of_getElem? (i := 166) rfl)) rfl
theorem q3_168 : Cond.instanceMethod yX5_wanted ∈ wsL_law := aw_of (t3_in (List.mem_of_getElem? (i := 168) rfl)) rfl
theorem q3_169 : Cond.code yX5_wanted cX5_wanted 3 (some .int) ∈ wsL_law := aw_of (t3_in (List.mem_of_getElem? (i := 169) rfl)) rfl
theorem q3_170 : Cond.methodLink RX5 71 yX5_takes ∈ wsL_law := aw_of (t3_in (List.mem_of_getElem? (i := 170) rfl)) rfl
theorem q3_172 : Cond.instanceMethod yX5_takes ∈ wsL_law := aw_of (t3_in (List.mem_of_getElem? (i := 172) rfl)) rfl
theorem q3_173 : Cond.code yX5_takes cX5_takes 3 (some .int) ∈ wsL_law := aw_of (t3_in (List.mem_of_getElem? (i := 173) rfl)) rfl
theorem q3_174 : Cond.methodLink RX5 77 yX5_loudnessOf ∈ wsL_law := aw_of (t3_in (List.mem_of_getElem? (i := 174) rfl)) rfl
theorem q3_176 : Cond.instanceMethod yX5_loudnessOf ∈ wsL_law := aw_of (t3_in (List.mem_of_getElem? (i := 176) rfl)) rfl
theorem q3_177 : Cond.code yX5_loudnessOf cX5_loudnessOf 5 (some .int) ∈ wsL_law := aw_of (t3_in (List.mem_of_getElem? (i := 177) rfl)) rfl
theorem q3_178 : Cond.methodLink RX5 86 yX5_loudestNow ∈ wsL_law := aw_of (t3_in (List.mem_of_getElem? (i := 178) rfl)) rfl
theorem q3_180 : Cond.instanceMethod yX5_loudestNow ∈ wsL_law := aw_of (t3_in (List.mem_of_getElem? (i := 180) rfl)) rfl
theorem q3_181 : Cond.code yX5_loudestNow cX5_loudestNow 3 (some .int) ∈ wsL_law := aw_of (t3_in (List.mem_of_getElem? (i := 181) rfl)) rfl
theorem q3_182 : Cond.methodLink RX5 90 yX5_best ∈ wsL_law := aw_of (t3_in (List.mem_of_getElem? (i := 182) rfl)) rfl
theorem q3_184 : Cond.instanceMethod yX5_best ∈ wsL_law := aw_of (t3_in (List.mem_of_getElem? (i := 184) rfl)) rfl
theorem q3_185 : Cond.code yX5_best cX5_best 6 (some .int) ∈ wsL_law := aw_of (t3_in (List.mem_of_getElem? (i := 185) rfl)) rfl
theorem q3_186 : Cond.methodLink RX5 80 yX5_heardIn ∈ wsL_law := aw_of (t3_in (List.mem_of_getElem? (i := 186) rfl)) rfl
theorem q3_188 : Cond.instanceMethod yX5_heardIn ∈ wsL_law := aw_of (t3_in (List.mem_of_getElem? (i := 188) rfl)) rfl
theorem q3_189 : Cond.code yX5_heardIn cX5_heardIn 5 (some .int) ∈ wsL_law := aw_of (t3_in (List.mem_of_getElem? (i := 189) rfl)) rfl
theorem q3_190 : Cond.methodLink RX5 93 yX5_wearDown ∈ wsL_law := aw_of (t3_in (List.mem_of_getElem? (i := 190) rfl)) rfl
theorem q3_192 : Cond.instanceMethod yX5_wearDown ∈ wsL_law := aw_of (t3_in (List.mem_of_getElem? (i := 192) rfl)) rfl
theorem q3_193 : Cond.code yX5_wearDown cX5_wearDown 5 none ∈ wsL_law := aw_of (t3_in (List.mem_of_getElem? (i := 193) rfl)) rfl
theorem q3_194 : Cond.methodLink RL 51 yX5_append ∈ wsL_law := aw_of (t3_in (List.mem_of_getElem? (i := 194) rfl)) rfl
theorem q3_195 : Cond.instanceMethod yX5_append ∈ wsL_law := aw_of (t3_in (List.mem_of_getElem? (i := 195) rfl)) rfl
theorem q3_196 : Cond.selects RX5 yX5_append yX5_append ∈ wsL_law := aw_of (t3_in (List.mem_of_getElem? (i := 196) rfl)) rfl
theorem q3_197 : Cond.code yX5_append cX5_append 2 (some .int) ∈ wsL_law := aw_of (t3_in (List.mem_of_getElem? (i := 197) rfl)) rfl
theorem q3_198 : Cond.methodLink RL 56 yX5_clearText ∈ wsL_law := aw_of (t3_in (List.mem_of_getElem? (i := 198) rfl)) rfl
theorem q3_199 : Cond.instanceMethod yX5_clearText ∈ wsL_law := aw_of (t3_in (List.mem_of_getElem? (i := 199) rfl)) rfl
theorem q3_200 : Cond.selects RX5 yX5_clearText yX5_clearText ∈ wsL_law := aw_of (t3_in (List.mem_of_getElem? (i := 200) rfl)) rfl
theorem q3_201 : Cond.code yX5_clearText cX5_clearText 2 (some .int) ∈ wsL_law := aw_of (t3_in (List.mem_of_getElem? (i := 201) rfl)) rfl
theorem q3_202 : Cond.methodLink RL 60 yX5_fault ∈ wsL_law := aw_of (t3_in (List.mem_of_getElem? (i := 202) rfl)) rfl
theorem q3_203 : Cond.instanceMethod yX5_fault ∈ wsL_law := aw_of (t3_in (List.mem_of_getElem? (i := 203) rfl)) rfl
theorem q3_204 : Cond.selects RX5 yX5_fault yX5_fault ∈ wsL_law := aw_of (t3_in (List.mem_of_getElem? (i := 204) rfl)) rfl
theorem q3_205 : Cond.code yX5_fault cX5_fault 1 (some .int) ∈ wsL_law := aw_of (t3_in (List.mem_of_getElem? (i := 205) rfl)) rfl
theorem q3_206 : Cond.methodLink RX5 136 yX5_isScript ∈ wsL_law := aw_of (t3_in (List.mem_of_getElem? (i := 206) rfl)) rfl
theorem q3_208 : Cond.instanceMethod yX5_isScript ∈ wsL_law := aw_of (t3_in (List.mem_of_getElem? (i := 208) rfl)) rfl
theorem q3_209 : Cond.code yX5_isScript cX5_isScript 2 (some .boolean) ∈ wsL_law := aw_of (t3_in (List.mem_of_getElem? (i := 209) rfl)) rfl
theorem q3_210 : Cond.methodLink RX5 132 yX5_readOrder ∈ wsL_law := aw_of (t3_in (List.mem_of_getElem? (i := 210) rfl)) rfl
theorem q3_212 : Cond.instanceMethod yX5_readOrder ∈ wsL_law := aw_of (t3_in (List.mem_of_getElem? (i := 212) rfl)) rfl
theorem q3_213 : Cond.code yX5_readOrder cX5_readOrder 4 (some .boolean) ∈ wsL_law := aw_of (t3_in (List.mem_of_getElem? (i := 213) rfl)) rfl
theorem q3_214 : Cond.methodLink RX5 126 yX5_takesSign ∈ wsL_law := aw_of (t3_in (List.mem_of_getElem? (i := 214) rfl)) rfl
theorem q3_216 : Cond.instanceMethod yX5_takesSign ∈ wsL_law := aw_of (t3_in (List.mem_of_getElem? (i := 216) rfl)) rfl
theorem q3_217 : Cond.code yX5_takesSign cX5_takesSign 4 (some .boolean) ∈ wsL_law := aw_of (t3_in (List.mem_of_getElem? (i := 217) rfl)) rfl
theorem q3_218 : Cond.methodLink RL 64 yX5_run ∈ wsL_law := aw_of (t3_in (List.mem_of_getElem? (i := 218) rfl)) rfl
theorem q3_219 : Cond.instanceMethod yX5_run ∈ wsL_law := aw_of (t3_in (List.mem_of_getElem? (i := 219) rfl)) rfl
theorem q3_220 : Cond.selects RX5 yX5_run yX5_run ∈ wsL_law := aw_of (t3_in (List.mem_of_getElem? (i := 220) rfl)) rfl
theorem q3_221 : Cond.code yX5_run cX5_run 2 (some .int) ∈ wsL_law := aw_of (t3_in (List.mem_of_getElem? (i := 221) rfl)) rfl
theorem q3_222 : Cond.methodLink RX5 139 yX5_isDone ∈ wsL_law := aw_of (t3_in (List.mem_of_getElem? (i := 222) rfl)) rfl
theorem q3_224 : Cond.instanceMethod yX5_isDone ∈ wsL_law := aw_of (t3_in (List.mem_of_getElem? (i := 224) rfl)) rfl
theorem q3_225 : Cond.code yX5_isDone cX5_isDone 3 (some .boolean) ∈ wsL_law := aw_of (t3_in (List.mem_of_getElem? (i := 225) rfl)) rfl
theorem q3_226 : Cond.methodLink RL 80 yX5_town ∈ wsL_law := aw_of (t3_in (List.mem_of_getElem? (i := 226) rfl)) rfl
theorem q3_227 : Cond.instanceMethod yX5_town ∈ wsL_law := aw_of (t3_in (List.mem_of_getElem? (i := 227) rfl)) rfl
theorem q3_228 : Cond.selects RX5 yX5_town yX5_town ∈ wsL_law := aw_of (t3_in (List.mem_of_getElem? (i := 228) rfl)) rfl
theorem q3_229 : Cond.code yX5_town cX5_town 3 (some .int) ∈ wsL_law := aw_of (t3_in (List.mem_of_getElem? (i := 229) rfl)) rfl
theorem q3_230 : Cond.methodLink RL 84 yX5_bell ∈ wsL_law := aw_of (t3_in (List.mem_of_getElem? (i := 230) rfl)) rfl
theorem q3_231 : Cond.instanceMethod yX5_bell ∈ wsL_law := aw_of (t3_in (List.mem_of_getElem? (i := 231) rfl)) rfl
theorem q3_232 : Cond.selects RX5 yX5_bell yX5_bell ∈ wsL_law := aw_of (t3_in (List.mem_of_getElem? (i := 232) rfl)) rfl
theorem q3_233 : Cond.code yX5_bell cX5_bell 4 (some .int) ∈ wsL_law := aw_of (t3_in (List.mem_of_getElem? (i := 233) rfl)) rfl
theorem q3_234 : Cond.methodLink RX5 142 yX5_reason ∈ wsL_law := aw_of (t3_in (List.mem_of_getElem? (i := 234) rfl)) rfl
theorem q3_236 : Cond.instanceMethod yX5_reason ∈ wsL_law := aw_of (t3_in (List.mem_of_getElem? (i := 236) rfl)) rfl
theorem q3_237 : Cond.code yX5_reason cX5_reason 3 (some .int) ∈ wsL_law := aw_of (t3_in (List.mem_of_getElem? (i := 237) rfl)) rfl
theorem q3_238 : Cond.methodLink RL 88 yX5_count ∈ wsL_law := aw_of (t3_in (List.mem_of_getElem? (i := 238) rfl)) rfl
theorem q3_239 : Cond.instanceMethod yX5_count ∈ wsL_law := aw_of (t3_in (List.mem_of_getElem? (i := 239) rfl)) rfl
theorem q4_0 : Cond.selects RX5 yX5_count yX5_count ∈ wsL_law := aw_of (t4_in (List.mem_of_getElem? (i := 0) rfl)) rfl
theorem q4_1 : Cond.code yX5_count cX5_count 2 (some .int) ∈ wsL_law := aw_of (t4_in (List.mem_of_getElem? (i := 1) rfl)) rfl
theorem q4_2 : Cond.methodLink RX5 145 yX5_sum ∈ wsL_law := aw_of (t4_in (List.mem_of_getElem? (i := 2) rfl)) rfl
theorem q4_4 : Cond.instanceMethod yX5_sum ∈ wsL_law := aw_of (t4_in (List.mem_of_getElem? (i := 4) rfl)) rfl
theorem q4_5 : Cond.code yX5_sum cX5_sum 4 (some .int) ∈ wsL_law := aw_of (t4_in (List.mem_of_getElem? (i := 5) rfl)) rfl
theorem q4_6 : Cond.methodLink RX5 148 yX5_brokenRopes ∈ wsL_law := aw_of (t4_in (List.mem_of_getElem? (i := 6) rfl)) rfl
theorem q4_8 : Cond.instanceMethod yX5_brokenRopes ∈ wsL_law := aw_of (t4_in (List.mem_of_getElem? (i := 8) rfl)) rfl
theorem q4_9 : Cond.code yX5_brokenRopes cX5_brokenRopes 3 (some .int) ∈ wsL_law := aw_of (t4_in (List.mem_of_getElem? (i := 9) rfl)) rfl
theorem q4_10 : Cond.methodLink RX5 151 yX5_silentTowns ∈ wsL_law := aw_of (t4_in (List.mem_of_getElem? (i := 10) rfl)) rfl
theorem q4_12 : Cond.instanceMethod yX5_silentTowns ∈ wsL_law := aw_of (t4_in (List.mem_of_getElem? (i := 12) rfl)) rfl
theorem q4_13 : Cond.code yX5_silentTowns cX5_silentTowns 3 (some .int) ∈ wsL_law := aw_of (t4_in (List.mem_of_getElem? (i := 13) rfl)) rfl
theorem q4_14 : Cond.methodLink RL 92 yX5_loudness ∈ wsL_law := aw_of (t4_in (List.mem_of_getElem? (i := 14) rfl)) rfl
theorem q4_15 : Cond.instanceMethod yX5_loudness ∈ wsL_law := aw_of (t4_in (List.mem_of_getElem? (i := 15) rfl)) rfl
theorem q4_16 : Cond.selects RX5 yX5_loudness yX5_loudness ∈ wsL_law := aw_of (t4_in (List.mem_of_getElem? (i := 16) rfl)) rfl
theorem q4_17 : Cond.code yX5_loudness cX5_loudness 2 (some .int) ∈ wsL_law := aw_of (t4_in (List.mem_of_getElem? (i := 17) rfl)) rfl
theorem q4_18 : Cond.methodLink RL 96 yX5_heard ∈ wsL_law := aw_of (t4_in (List.mem_of_getElem? (i := 18) rfl)) rfl
theorem q4_19 : Cond.instanceMethod yX5_heard ∈ wsL_law := aw_of (t4_in (List.mem_of_getElem? (i := 19) rfl)) rfl
theorem q4_20 : Cond.selects RX5 yX5_heard yX5_heard ∈ wsL_law := aw_of (t4_in (List.mem_of_getElem? (i := 20) rfl)) rfl
theorem q4_21 : Cond.code yX5_heard cX5_heard 3 (some .int) ∈ wsL_law := aw_of (t4_in (List.mem_of_getElem? (i := 21) rfl)) rfl
theorem q4_22 : Cond.methodLink RL 100 yX5_winner ∈ wsL_law := aw_of (t4_in (List.mem_of_getElem? (i := 22) rfl)) rfl
theorem q4_23 : Cond.instanceMethod yX5_winner ∈ wsL_law := aw_of (t4_in (List.mem_of_getElem? (i := 23) rfl)) rfl
theorem q4_24 : Cond.selects RX5 yX5_winner yX5_winner ∈ wsL_law := aw_of (t4_in (List.mem_of_getElem? (i := 24) rfl)) rfl
theorem q4_25 : Cond.code yX5_winner cX5_winner 2 (some .int) ∈ wsL_law := aw_of (t4_in (List.mem_of_getElem? (i := 25) rfl)) rfl
theorem q4_26 : Cond.methodLink RL 104 yX5_ifPlanned ∈ wsL_law := aw_of (t4_in (List.mem_of_getElem? (i := 26) rfl)) rfl
theorem q4_27 : Cond.instanceMethod yX5_ifPlanned ∈ wsL_law := aw_of (t4_in (List.mem_of_getElem? (i := 27) rfl)) rfl
theorem q4_28 : Cond.selects RX5 yX5_ifPlanned yX5_ifPlanned ∈ wsL_law := aw_of (t4_in (List.mem_of_getElem? (i := 28) rfl)) rfl
theorem q4_29 : Cond.code yX5_ifPlanned cX5_ifPlanned 3 (some .int) ∈ wsL_law := aw_of (t4_in (List.mem_of_getElem? (i := 29) rfl)) rfl
theorem q4_30 : Cond.methodLink RX5 154 yX5_pointsWith ∈ wsL_law := aw_of (t4_in (List.mem_of_getElem? (i := 30) rfl)) rfl
theorem q4_32 : Cond.instanceMethod yX5_pointsWith ∈ wsL_law := aw_of (t4_in (List.mem_of_getElem? (i := 32) rfl)) rfl
theorem q4_33 : Cond.code yX5_pointsWith cX5_pointsWith 5 (some .int) ∈ wsL_law := aw_of (t4_in (List.mem_of_getElem? (i := 33) rfl)) rfl
theorem q4_34 : Cond.methodLink RL 108 yX5_bestPlan ∈ wsL_law := aw_of (t4_in (List.mem_of_getElem? (i := 34) rfl)) rfl
theorem q4_35 : Cond.instanceMethod yX5_bestPlan ∈ wsL_law := aw_of (t4_in (List.mem_of_getElem? (i := 35) rfl)) rfl
theorem q4_36 : Cond.selects RX5 yX5_bestPlan yX5_bestPlan ∈ wsL_law := aw_of (t4_in (List.mem_of_getElem? (i := 36) rfl)) rfl
theorem q4_37 : Cond.code yX5_bestPlan cX5_bestPlan 8 (some .int) ∈ wsL_law := aw_of (t4_in (List.mem_of_getElem? (i := 37) rfl)) rfl
theorem q4_38 : Cond.methodLink RL 112 yX5_pointsIn ∈ wsL_law := aw_of (t4_in (List.mem_of_getElem? (i := 38) rfl)) rfl
theorem q4_39 : Cond.instanceMethod yX5_pointsIn ∈ wsL_law := aw_of (t4_in (List.mem_of_getElem? (i := 39) rfl)) rfl
theorem q4_40 : Cond.selects RX5 yX5_pointsIn yX5_pointsIn ∈ wsL_law := aw_of (t4_in (List.mem_of_getElem? (i := 40) rfl)) rfl
theorem q4_41 : Cond.code yX5_pointsIn cX5_pointsIn 4 (some .int) ∈ wsL_law := aw_of (t4_in (List.mem_of_getElem? (i := 41) rfl)) rfl
theorem q4_42 : Cond.methodLink RX5 157 yX5_putAside ∈ wsL_law := aw_of (t4_in (List.mem_of_getElem? (i := 42) rfl)) rfl
theorem q4_44 : Cond.instanceMethod yX5_putAside ∈ wsL_law := aw_of (t4_in (List.mem_of_getElem? (i := 44) rfl)) rfl
theorem q4_45 : Cond.code yX5_putAside cX5_putAside 2 none ∈ wsL_law := aw_of (t4_in (List.mem_of_getElem? (i := 45) rfl)) rfl
theorem q4_46 : Cond.methodLink RX5 160 yX5_putBack ∈ wsL_law := aw_of (t4_in (List.mem_of_getElem? (i := 46) rfl)) rfl
theorem q4_48 : Cond.instanceMethod yX5_putBack ∈ wsL_law := aw_of (t4_in (List.mem_of_getElem? (i := 48) rfl)) rfl
theorem q4_49 : Cond.code yX5_putBack cX5_putBack 2 none ∈ wsL_law := aw_of (t4_in (List.mem_of_getElem? (i := 49) rfl)) rfl
theorem q4_50 : Cond.methodLink RL 117 yX5_share ∈ wsL_law := aw_of (t4_in (List.mem_of_getElem? (i := 50) rfl)) rfl
theorem q4_51 : Cond.instanceMethod yX5_share ∈ wsL_law := aw_of (t4_in (List.mem_of_getElem? (i := 51) rfl)) rfl
theorem q4_52 : Cond.selects RX5 yX5_share yX5_share ∈ wsL_law := aw_of (t4_in (List.mem_of_getElem? (i := 52) rfl)) rfl
theorem q4_53 : Cond.code yX5_share cX5_share 3 (some .double) ∈ wsL_law := aw_of (t4_in (List.mem_of_getElem? (i := 53) rfl)) rfl
theorem qs_0 : Cond.selects RX0 yX0_placeOf yX0_placeOf ∈ wsL_law := aw_of (List.mem_append_left _ (List.mem_of_getElem? (i := 0) rfl)) rfl
theorem qs_1 : Cond.selects RX3 yX3_fillSlot yX3_fillSlot ∈ wsL_law := aw_of (List.mem_append_left _ (List.mem_of_getElem? (i := 1) rfl)) rfl
theorem qs_2 : Cond.selects RX4 yX4_planError yX4_planError ∈ wsL_law := aw_of (List.mem_append_left _ (List.mem_of_getElem? (i := 2) rfl)) rfl
theorem qs_3 : Cond.selects RX4 yX4_changePlan yX4_changePlan ∈ wsL_law := aw_of (List.mem_append_left _ (List.mem_of_getElem? (i := 3) rfl)) rfl
theorem qs_4 : Cond.selects RX4 yX4_spliceError yX4_spliceError ∈ wsL_law := aw_of (List.mem_append_left _ (List.mem_of_getElem? (i := 4) rfl)) rfl
theorem qs_5 : Cond.selects RX4 yX4_mendRope yX4_mendRope ∈ wsL_law := aw_of (List.mem_append_left _ (List.mem_of_getElem? (i := 5) rfl)) rfl
theorem qs_6 : Cond.selects RX4 yX4_makeTurns yX4_makeTurns ∈ wsL_law := aw_of (List.mem_append_left _ (List.mem_of_getElem? (i := 6) rfl)) rfl
theorem qs_7 : Cond.selects RX1 yX1_ringIn yX1_ringIn ∈ wsL_law := aw_of (List.mem_append_left _ (List.mem_of_getElem? (i := 7) rfl)) rfl
theorem qs_8 : Cond.selects RX1 yX1_winnerIn yX1_winnerIn ∈ wsL_law := aw_of (List.mem_append_left _ (List.mem_of_getElem? (i := 8) rfl)) rfl
theorem qs_9 : Cond.selects RX3 yX3_givePoints yX3_givePoints ∈ wsL_law := aw_of (List.mem_append_left _ (List.mem_of_getElem? (i := 9) rfl)) rfl
theorem qs_10 : Cond.selects RX3 yX3_wearRopes yX3_wearRopes ∈ wsL_law := aw_of (List.mem_append_left _ (List.mem_of_getElem? (i := 10) rfl)) rfl
theorem qs_11 : Cond.selects RX3 yX3_tireRingers yX3_tireRingers ∈ wsL_law := aw_of (List.mem_append_left _ (List.mem_of_getElem? (i := 11) rfl)) rfl
theorem qs_12 : Cond.selects RX3 yX3_fallSilent yX3_fallSilent ∈ wsL_law := aw_of (List.mem_append_left _ (List.mem_of_getElem? (i := 12) rfl)) rfl
theorem qs_13 : Cond.selects RX4 yX4_carryOut yX4_carryOut ∈ wsL_law := aw_of (List.mem_append_left _ (List.mem_of_getElem? (i := 13) rfl)) rfl
theorem qs_14 : Cond.selects RX4 yX4_pointsWithPlan yX4_pointsWithPlan ∈ wsL_law := aw_of (List.mem_append_left _ (List.mem_of_getElem? (i := 14) rfl)) rfl
theorem qs_15 : Cond.selects RX5 yX5_put yX5_put ∈ wsL_law := aw_of (List.mem_append_left _ (List.mem_of_getElem? (i := 15) rfl)) rfl
theorem qs_16 : Cond.selects RX5 yX5_record yX5_record ∈ wsL_law := aw_of (List.mem_append_left _ (List.mem_of_getElem? (i := 16) rfl)) rfl
theorem qs_17 : Cond.selects RX5 yX5_of yX5_of ∈ wsL_law := aw_of (List.mem_append_left _ (List.mem_of_getElem? (i := 17) rfl)) rfl
theorem qs_18 : Cond.selects RX5 yX5_isBell yX5_isBell ∈ wsL_law := aw_of (List.mem_append_left _ (List.mem_of_getElem? (i := 18) rfl)) rfl
theorem qs_19 : Cond.selects RX5 yX5_isTaken yX5_isTaken ∈ wsL_law := aw_of (List.mem_append_left _ (List.mem_of_getElem? (i := 19) rfl)) rfl
theorem qs_20 : Cond.selects RX5 yX5_hasBells yX5_hasBells ∈ wsL_law := aw_of (List.mem_append_left _ (List.mem_of_getElem? (i := 20) rfl)) rfl
theorem qs_21 : Cond.selects RX5 yX5_allBells yX5_allBells ∈ wsL_law := aw_of (List.mem_append_left _ (List.mem_of_getElem? (i := 21) rfl)) rfl
theorem qs_22 : Cond.selects RX5 yX5_canSplice yX5_canSplice ∈ wsL_law := aw_of (List.mem_append_left _ (List.mem_of_getElem? (i := 22) rfl)) rfl
theorem qs_23 : Cond.selects RX5 yX5_spliceNow yX5_spliceNow ∈ wsL_law := aw_of (List.mem_append_left _ (List.mem_of_getElem? (i := 23) rfl)) rfl
theorem qs_24 : Cond.selects RX5 yX5_turnsNow yX5_turnsNow ∈ wsL_law := aw_of (List.mem_append_left _ (List.mem_of_getElem? (i := 24) rfl)) rfl
theorem qs_25 : Cond.selects RX5 yX5_turn yX5_turn ∈ wsL_law := aw_of (List.mem_append_left _ (List.mem_of_getElem? (i := 25) rfl)) rfl
theorem qs_26 : Cond.selects RX5 yX5_listen yX5_listen ∈ wsL_law := aw_of (List.mem_append_left _ (List.mem_of_getElem? (i := 26) rfl)) rfl
theorem qs_27 : Cond.selects RX5 yX5_rings yX5_rings ∈ wsL_law := aw_of (List.mem_append_left _ (List.mem_of_getElem? (i := 27) rfl)) rfl
theorem qs_28 : Cond.selects RX5 yX5_wanted yX5_wanted ∈ wsL_law := aw_of (List.mem_append_left _ (List.mem_of_getElem? (i := 28) rfl)) rfl
theorem qs_29 : Cond.selects RX5 yX5_takes yX5_takes ∈ wsL_law := aw_of (List.mem_append_left _ (List.mem_of_getElem? (i := 29) rfl)) rfl
theorem qs_30 : Cond.selects RX5 yX5_loudnessOf yX5_loudnessOf ∈ wsL_law := aw_of (List.mem_append_left _ (List.mem_of_getElem? (i := 30) rfl)) rfl
theorem qs_31 : Cond.selects RX5 yX5_loudestNow yX5_loudestNow ∈ wsL_law := aw_of (List.mem_append_left _ (List.mem_of_getElem? (i := 31) rfl)) rfl
theorem qs_32 : Cond.selects RX5 yX5_best yX5_best ∈ wsL_law := aw_of (List.mem_append_left _ (List.mem_of_getElem? (i := 32) rfl)) rfl
theorem qs_33 : Cond.selects RX5 yX5_heardIn yX5_heardIn ∈ wsL_law := aw_of (List.mem_append_left _ (List.mem_of_getElem? (i := 33) rfl)) rfl
theorem qs_34 : Cond.selects RX5 yX5_wearDown yX5_wearDown ∈ wsL_law := aw_of (List.mem_append_left _ (List.mem_of_getElem? (i := 34) rfl)) rfl
theorem qs_35 : Cond.selects RX5 yX5_isScript yX5_isScript ∈ wsL_law := aw_of (List.mem_append_left _ (List.mem_of_getElem? (i := 35) rfl)) rfl
theorem qs_36 : Cond.selects RX5 yX5_readOrder yX5_readOrder ∈ wsL_law := aw_of (List.mem_append_left _ (List.mem_of_getElem? (i := 36) rfl)) rfl
theorem qs_37 : Cond.selects RX5 yX5_takesSign yX5_takesSign ∈ wsL_law := aw_of (List.mem_append_left _ (List.mem_of_getElem? (i := 37) rfl)) rfl
theorem qs_38 : Cond.selects RX5 yX5_isDone yX5_isDone ∈ wsL_law := aw_of (List.mem_append_left _ (List.mem_of_getElem? (i := 38) rfl)) rfl
theorem qs_39 : Cond.selects RX5 yX5_reason yX5_reason ∈ wsL_law := aw_of (List.mem_append_left _ (List.mem_of_getElem? (i := 39) rfl)) rfl
theorem qs_40 : Cond.selects RX5 yX5_sum yX5_sum ∈ wsL_law := aw_of (List.mem_append_left _ (List.mem_of_getElem? (i := 40) rfl)) rfl
theorem qs_41 : Cond.selects RX5 yX5_brokenRopes yX5_brokenRopes ∈ wsL_law := aw_of (List.mem_append_left _ (List.mem_of_getElem? (i := 41) rfl)) rfl
theorem qs_42 : Cond.selects RX5 yX5_silentTowns yX5_silentTowns ∈ wsL_law := aw_of (List.mem_append_left _ (List.mem_of_getElem? (i := 42) rfl)) rfl
theorem qs_43 : Cond.selects RX5 yX5_pointsWith yX5_pointsWith ∈ wsL_law := aw_of (List.mem_append_left _ (List.mem_of_getElem? (i := 43) rfl)) rfl
theorem qs_44 : Cond.selects RX5 yX5_putAside yX5_putAside ∈ wsL_law := aw_of (List.mem_append_left _ (List.mem_of_getElem? (i := 44) rfl)) rfl
theorem qs_45 : Cond.selects RX5 yX5_putBack yX5_putBack ∈ wsL_law := aw_of (List.mem_append_left _ (List.mem_of_getElem? (i := 45) rfl)) rfl
theorem inX0 : ∀ w ∈ wsX00, w ∈ wsL_law := by decide +kernel
theorem inX1 : ∀ w ∈ wsX10, w ∈ wsL_law := by decide +kernel
theorem inX2 : ∀ w ∈ wsX20, w ∈ wsL_law := by decide +kernel
theorem inX3 : ∀ w ∈ wsX30, w ∈ wsL_law := by decide +kernel
theorem inX4 : ∀ w ∈ wsX40, w ∈ wsL_law := by decide +kernel
theorem inX5 : ∀ w ∈ wsX50, w ∈ wsL_law := by decide +kernel
