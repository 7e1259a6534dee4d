/-- the words that every method may use: the good ones of the tables -/
def wsL_law : List Cond := lw_tbl.filter goodWord
theorem aw_in : ∀ w ∈ wsL_law, w ∈ lw_tbl := fun _ h => (List.mem_filter.mp h).1
theorem aw_of {w : Cond} (h : w ∈ lw_tbl) (hg : goodWord w = true) : w ∈ wsL_law := List.mem_filter.mpr ⟨h, hg⟩
theorem t1_in {w : Cond} (h : w ∈ tables_1_1) : w ∈ lw_tbl := List.mem_append_right _ (List.mem_append_left _ h)
theorem t2_in {w : Cond} (h : w ∈ tables_1_2) : w ∈ lw_tbl := List.mem_append_right _ (List.mem_append_right _ h)
theorem q1_0 : Cond.initialized RL ∈ wsL_law := aw_of (t1_in (List.mem_of_getElem? (i := 0) rfl)) rfl
theorem q1_1 : Cond.initialized RX4 ∈ wsL_law := aw_of (t1_in (List.mem_of_getElem? (i := 1) rfl)) rfl
theorem q1_2 : Cond.initialized RX3 ∈ wsL_law := aw_of (t1_in (List.mem_of_getElem? (i := 2) rfl)) rfl
theorem q1_3 : Cond.initialized RX0 ∈ wsL_law := aw_of (t1_in (List.mem_of_getElem? (i := 3) rfl)) rfl
theorem q1_4 : Cond.initialized RX1 ∈ wsL_law := aw_of (t1_in (List.mem_of_getElem? (i := 4) rfl)) rfl
theorem q1_5 : Cond.initialized RX2 ∈ wsL_law := aw_of (t1_in (List.mem_of_getElem? (i := 5) rfl)) rfl
theorem q1_6 : Cond.initialized "java/lang/Math" ∈ wsL_law := aw_of (t1_in (List.mem_of_getElem? (i := 6) rfl)) rfl
theorem q1_7 : Cond.initialized "java/lang/System" ∈ wsL_law := aw_of (t1_in (List.mem_of_getElem? (i := 7) rfl)) rfl
theorem q1_8 : Cond.classLink RL 32 RX4 ∈ wsL_law := aw_of (t1_in (List.mem_of_getElem? (i := 8) rfl)) rfl
theorem q1_9 : Cond.instantiable RX4 7 ∈ wsL_law := aw_of (t1_in (List.mem_of_getElem? (i := 9) rfl)) rfl
theorem q1_10 : Cond.methodLink RL 108 yX4_init ∈ wsL_law := aw_of (t1_in (List.mem_of_getElem? (i := 10) rfl)) rfl
theorem q1_11 : Cond.instanceMethod yX4_init ∈ wsL_law := aw_of (t1_in (List.mem_of_getElem? (i := 11) rfl)) rfl
theorem q1_12 : Cond.code yX4_init cX4_init 1 none ∈ wsL_law := aw_of (t1_in (List.mem_of_getElem? (i := 12) rfl)) rfl
theorem q1_13 : Cond.methodLink RX4 1 ⟨"java/lang/Object", "<init>", "()V"⟩ ∈ wsL_law := aw_of (t1_in (List.mem_of_getElem? (i := 13) rfl)) rfl
theorem q1_14 : Cond.instanceMethod ⟨"java/lang/Object", "<init>", "()V"⟩ ∈ wsL_law := aw_of (t1_in (List.mem_of_getElem? (i := 14) rfl)) rfl
theorem q1_15 : Cond.code ⟨"java/lang/Object", "<init>", "()V"⟩ object_method_1_code 1 none ∈ wsL_law := aw_of (t1_in (List.mem_of_getElem? (i := 15) rfl)) rfl
theorem q1_16 : Cond.classLink RX4 7 RX3 ∈ wsL_law := aw_of (t1_in (List.mem_of_getElem? (i := 16) rfl)) rfl
theorem q1_17 : Cond.instantiable RX3 17 ∈ wsL_law := aw_of (t1_in (List.mem_of_getElem? (i := 17) rfl)) rfl
theorem q1_18 : Cond.methodLink RX4 9 yX3_init ∈ wsL_law := aw_of (t1_in (List.mem_of_getElem? (i := 18) rfl)) rfl
theorem q1_19 : Cond.instanceMethod yX3_init ∈ wsL_law := aw_of (t1_in (List.mem_of_getElem? (i := 19) rfl)) rfl
theorem q1_20 : Cond.code yX3_init cX3_init 2 none ∈ wsL_law := aw_of (t1_in (List.mem_of_getElem? (i := 20) rfl)) rfl
theorem q1_21 : Cond.methodLink RX3 3 ⟨"java/lang/Object", "<init>", "()V"⟩ ∈ wsL_law := aw_of (t1_in (List.mem_of_getElem? (i := 21) rfl)) rfl
theorem q1_22 : Cond.fieldLink RX3 9 "BellTowns$Valley" "milestones" "[I" ∈ wsL_law := aw_of (t1_in (List.mem_of_getElem? (i := 22) rfl)) rfl
theorem q1_23 : Cond.fieldLink RX1 61 "BellTowns$Valley" "milestones" "[I" ∈ wsL_law := aw_of (t1_in (List.mem_of_getElem? (i := 23) rfl)) rfl
theorem q1_24 : Cond.fieldLink RX4 80 "BellTowns$Valley" "milestones" "[I" ∈ wsL_law := aw_of (t1_in (List.mem_of_getElem? (i := 24) rfl)) rfl
theorem q1_25 : Cond.fieldLink RX3 15 "BellTowns$Valley" "ringers" "[I" ∈ wsL_law := aw_of (t1_in (List.mem_of_getElem? (i := 25) rfl)) rfl
theorem q1_26 : Cond.fieldLink RX4 83 "BellTowns$Valley" "ringers" "[I" ∈ wsL_law := aw_of (t1_in (List.mem_of_getElem? (i := 26) rfl)) rfl
theorem q1_27 : Cond.fieldLink RX3 18 "BellTowns$Valley" "tired" "[I" ∈ wsL_law := aw_of (t1_in (List.mem_of_getElem? (i := 27) rfl)) rfl
theorem q1_28 : Cond.fieldLink RX4 86 "BellTowns$Valley" "tired" "[I" ∈ wsL_law := aw_of (t1_in (List.mem_of_getElem? (i := 28) rfl)) rfl
theorem q1_29 : Cond.fieldLink RX3 21 "BellTowns$Valley" "bellCounts" "[I" ∈ wsL_law := aw_of (t1_in (List.mem_of_getElem? (i := 29) rfl)) rfl
theorem q1_30 : Cond.fieldLink RX4 51 "BellTowns$Valley" "bellCounts" "[I" ∈ wsL_law := aw_of (t1_in (List.mem_of_getElem? (i := 30) rfl)) rfl
theorem q1_31 : Cond.fieldLink RX3 24 "BellTowns$Valley" "plans" "[I" ∈ wsL_law := aw_of (t1_in (List.mem_of_getElem? (i := 31) rfl)) rfl
theorem q1_32 : Cond.fieldLink RX4 159 "BellTowns$Valley" "plans" "[I" ∈ wsL_law := aw_of (t1_in (List.mem_of_getElem? (i := 32) rfl)) rfl
theorem q1_33 : Cond.fieldLink RX3 27 "BellTowns$Valley" "feastDays" "[I" ∈ wsL_law := aw_of (t1_in (List.mem_of_getElem? (i := 33) rfl)) rfl
theorem q1_34 : Cond.fieldLink RX4 106 "BellTowns$Valley" "feastDays" "[I" ∈ wsL_law := aw_of (t1_in (List.mem_of_getElem? (i := 34) rfl)) rfl
theorem q1_35 : Cond.fieldLink RX3 30 "BellTowns$Valley" "silences" "[I" ∈ wsL_law := aw_of (t1_in (List.mem_of_getElem? (i := 35) rfl)) rfl
theorem q1_36 : Cond.fieldLink RX1 52 "BellTowns$Valley" "silences" "[I" ∈ wsL_law := aw_of (t1_in (List.mem_of_getElem? (i := 36) rfl)) rfl
theorem q1_37 : Cond.fieldLink RX4 162 "BellTowns$Valley" "silences" "[I" ∈ wsL_law := aw_of (t1_in (List.mem_of_getElem? (i := 37) rfl)) rfl
theorem q1_38 : Cond.fieldLink RX3 33 "BellTowns$Valley" "points" "[I" ∈ wsL_law := aw_of (t1_in (List.mem_of_getElem? (i := 38) rfl)) rfl
theorem q1_39 : Cond.fieldLink RX4 165 "BellTowns$Valley" "points" "[I" ∈ wsL_law := aw_of (t1_in (List.mem_of_getElem? (i := 39) rfl)) rfl
theorem q1_40 : Cond.fieldLink RX3 36 "BellTowns$Valley" "timesLoudest" "[I" ∈ wsL_law := aw_of (t1_in (List.mem_of_getElem? (i := 40) rfl)) rfl
theorem q1_41 : Cond.fieldLink RX4 168 "BellTowns$Valley" "timesLoudest" "[I" ∈ wsL_law := aw_of (t1_in (List.mem_of_getElem? (i := 41) rfl)) rfl
theorem q1_42 : Cond.fieldLink RX3 39 "BellTowns$Valley" "weights" "[I" ∈ wsL_law := aw_of (t1_in (List.mem_of_getElem? (i := 42) rfl)) rfl
theorem q1_43 : Cond.fieldLink RX4 67 "BellTowns$Valley" "weights" "[I" ∈ wsL_law := aw_of (t1_in (List.mem_of_getElem? (i := 43) rfl)) rfl
theorem q1_44 : Cond.fieldLink RX1 49 "BellTowns$Valley" "weights" "[I" ∈ wsL_law := aw_of (t1_in (List.mem_of_getElem? (i := 44) rfl)) rfl
theorem q1_45 : Cond.fieldLink RX3 42 "BellTowns$Valley" "wears" "[I" ∈ wsL_law := aw_of (t1_in (List.mem_of_getElem? (i := 45) rfl)) rfl
theorem q1_46 : Cond.fieldLink RX1 55 "BellTowns$Valley" "wears" "[I" ∈ wsL_law := aw_of (t1_in (List.mem_of_getElem? (i := 46) rfl)) rfl
theorem q1_47 : Cond.fieldLink RX4 171 "BellTowns$Valley" "wears" "[I" ∈ wsL_law := aw_of (t1_in (List.mem_of_getElem? (i := 47) rfl)) rfl
theorem q1_48 : Cond.fieldLink RX3 45 "BellTowns$Valley" "timesRung" "[I" ∈ wsL_law := aw_of (t1_in (List.mem_of_getElem? (i := 48) rfl)) rfl
theorem q1_49 : Cond.fieldLink RX4 177 "BellTowns$Valley" "timesRung" "[I" ∈ wsL_law := aw_of (t1_in (List.mem_of_getElem? (i := 49) rfl)) rfl
theorem q1_50 : Cond.fieldLink RX3 48 "BellTowns$Valley" "fade" "I" ∈ wsL_law := aw_of (t1_in (List.mem_of_getElem? (i := 50) rfl)) rfl
theorem q1_51 : Cond.fieldLink RX1 69 "BellTowns$Valley" "fade" "I" ∈ wsL_law := aw_of (t1_in (List.mem_of_getElem? (i := 51) rfl)) rfl
theorem q1_52 : Cond.fieldLink RX4 112 "BellTowns$Valley" "fade" "I" ∈ wsL_law := aw_of (t1_in (List.mem_of_getElem? (i := 52) rfl)) rfl
theorem q1_53 : Cond.fieldLink RX3 52 "BellTowns$Valley" "rest" "I" ∈ wsL_law := aw_of (t1_in (List.mem_of_getElem? (i := 53) rfl)) rfl
theorem q1_54 : Cond.fieldLink RX4 116 "BellTowns$Valley" "rest" "I" ∈ wsL_law := aw_of (t1_in (List.mem_of_getElem? (i := 54) rfl)) rfl
theorem q1_55 : Cond.fieldLink RX3 55 "BellTowns$Valley" "turn" "I" ∈ wsL_law := aw_of (t1_in (List.mem_of_getElem? (i := 55) rfl)) rfl
theorem q1_56 : Cond.fieldLink RX4 156 "BellTowns$Valley" "turn" "I" ∈ wsL_law := aw_of (t1_in (List.mem_of_getElem? (i := 56) rfl)) rfl
theorem q1_57 : Cond.fieldLink RX3 58 "BellTowns$Valley" "turnsWithoutLoudest" "I" ∈ wsL_law := aw_of (t1_in (List.mem_of_getElem? (i := 57) rfl)) rfl
theorem q1_58 : Cond.fieldLink RX4 198 "BellTowns$Valley" "turnsWithoutLoudest" "I" ∈ wsL_law := aw_of (t1_in (List.mem_of_getElem? (i := 58) rfl)) rfl
theorem q1_59 : Cond.fieldLink RX3 61 "BellTowns$Valley" "latestLoudest" "I" ∈ wsL_law := aw_of (t1_in (List.mem_of_getElem? (i := 59) rfl)) rfl
theorem q1_60 : Cond.fieldLink RX4 127 "BellTowns$Valley" "latestLoudest" "I" ∈ wsL_law := aw_of (t1_in (List.mem_of_getElem? (i := 60) rfl)) rfl
theorem q1_96 : Cond.arrayClass .int ∈ wsL_law := aw_of (t1_in (List.mem_of_getElem? (i := 96) rfl)) rfl
theorem q1_97 : Cond.classLink RX4 26 RX0 ∈ wsL_law := aw_of (t1_in (List.mem_of_getElem? (i := 97) rfl)) rfl
theorem q1_98 : Cond.instantiable RX0 3 ∈ wsL_law := aw_of (t1_in (List.mem_of_getElem? (i := 98) rfl)) rfl
theorem q1_99 : Cond.methodLink RX4 28 yX0_init ∈ wsL_law := aw_of (t1_in (List.mem_of_getElem? (i := 99) rfl)) rfl
theorem q1_100 : Cond.instanceMethod yX0_init ∈ wsL_law := aw_of (t1_in (List.mem_of_getElem? (i := 100) rfl)) rfl
theorem q1_101 : Cond.code yX0_init cX0_init 2 none ∈ wsL_law := aw_of (t1_in (List.mem_of_getElem? (i := 101) rfl)) rfl
theorem q1_102 : Cond.methodLink RX0 3 ⟨"java/lang/Object", "<init>", "()V"⟩ ∈ wsL_law := aw_of (t1_in (List.mem_of_getElem? (i := 102) rfl)) rfl
theorem q1_103 : Cond.classLink RX0 9 RX3 ∈ wsL_law := aw_of (t1_in (List.mem_of_getElem? (i := 103) rfl)) rfl
theorem q1_104 : Cond.arrayOver (.object "BellTowns$Valley") ∈ lw_tbl := t1_in (List.mem_of_getElem? (i := 104) rfl)
theorem q1_105 : Cond.methodLink RX0 24 yX3_init ∈ wsL_law := aw_of (t1_in (List.mem_of_getElem? (i := 105) rfl)) rfl
theorem q1_106 : Cond.fieldLink RX0 11 "BellTowns$History" "states" "[LBellTowns$Valley;" ∈ wsL_law := aw_of (t1_in (List.mem_of_getElem? (i := 106) rfl)) rfl
theorem q1_107 : Cond.fieldLink RX0 17 "BellTowns$History" "oldest" "I" ∈ wsL_law := aw_of (t1_in (List.mem_of_getElem? (i := 107) rfl)) rfl
theorem q1_108 : Cond.fieldLink RX0 21 "BellTowns$History" "size" "I" ∈ wsL_law := aw_of (t1_in (List.mem_of_getElem? (i := 108) rfl)) rfl
theorem q1_109 : Cond.fieldLink RX4 147 "BellTowns$History" "size" "I" ∈ wsL_law := aw_of (t1_in (List.mem_of_getElem? (i := 109) rfl)) rfl
theorem q1_117 : Cond.classLink RX4 33 RX1 ∈ wsL_law := aw_of (t1_in (List.mem_of_getElem? (i := 117) rfl)) rfl
theorem q1_118 : Cond.instantiable RX1 5 ∈ wsL_law := aw_of (t1_in (List.mem_of_getElem? (i := 118) rfl)) rfl
theorem q1_119 : Cond.methodLinkNest "BellTowns" 35 yX1_init "BellTowns" ∈ lw_tbl := t1_in (List.mem_of_getElem? (i := 119) rfl)
theorem q1_120 : Cond.instanceMethod yX1_init ∈ wsL_law := aw_of (t1_in (List.mem_of_getElem? (i := 120) rfl)) rfl
theorem q1_121 : Cond.code yX1_init cX1_init 1 none ∈ wsL_law := aw_of (t1_in (List.mem_of_getElem? (i := 121) rfl)) rfl
theorem q1_122 : Cond.methodLink RX1 3 ⟨"java/lang/Object", "<init>", "()V"⟩ ∈ wsL_law := aw_of (t1_in (List.mem_of_getElem? (i := 122) rfl)) rfl
theorem q1_123 : Cond.fieldLink RX1 9 "BellTowns$Ringing" "reasons" "[I" ∈ wsL_law := aw_of (t1_in (List.mem_of_getElem? (i := 123) rfl)) rfl
theorem q1_124 : Cond.fieldLink RX4 183 "BellTowns$Ringing" "reasons" "[I" ∈ wsL_law := aw_of (t1_in (List.mem_of_getElem? (i := 124) rfl)) rfl
theorem q1_125 : Cond.fieldLink RX3 115 "BellTowns$Ringing" "reasons" "[I" ∈ wsL_law := aw_of (t1_in (List.mem_of_getElem? (i := 125) rfl)) rfl
theorem q1_126 : Cond.fieldLink RX1 15 "BellTowns$Ringing" "volumes" "[I" ∈ wsL_law := aw_of (t1_in (List.mem_of_getElem? (i := 126) rfl)) rfl
theorem q1_127 : Cond.fieldLink RX4 201 "BellTowns$Ringing" "volumes" "[I" ∈ wsL_law := aw_of (t1_in (List.mem_of_getElem? (i := 127) rfl)) rfl
theorem q1_128 : Cond.fieldLink RX1 18 "BellTowns$Ringing" "ringersBusy" "[I" ∈ wsL_law := aw_of (t1_in (List.mem_of_getElem? (i := 128) rfl)) rfl
theorem q1_129 : Cond.fieldLink RX3 118 "BellTowns$Ringing" "ringersBusy" "[I" ∈ wsL_law := aw_of (t1_in (List.mem_of_getElem? (i := 129) rfl)) rfl
theorem q1_130 : Cond.fieldLink RX1 21 "BellTowns$Ringing" "winners" "[I" ∈ wsL_law := aw_of (t1_in (List.mem_of_getElem? (i := 130) rfl)) rfl
theorem q1_131 : Cond.fieldLink RX3 112 "BellTowns$Ringing" "winners" "[I" ∈ wsL_law := aw_of (t1_in (List.mem_of_getElem? (i := 131) rfl)) rfl
theorem q1_132 : Cond.fieldLink RX4 208 "BellTowns$Ringing" "winners" "[I" ∈ wsL_law := aw_of (t1_in (List.mem_of_getElem? (i := 132) rfl)) rfl
theorem q1_133 : Cond.fieldLink RX1 24 "BellTowns$Ringing" "loudest" "I" ∈ wsL_law := aw_of (t1_in (List.mem_of_getElem? (i := 133) rfl)) rfl
theorem q1_134 : Cond.fieldLink RX3 103 "BellTowns$Ringing" "loudest" "I" ∈ wsL_law := aw_of (t1_in (List.mem_of_getElem? (i := 134) rfl)) rfl
theorem q1_146 : Cond.classLink RX4 40 RX2 ∈ wsL_law := aw_of (t1_in (List.mem_of_getElem? (i := 146) rfl)) rfl
theorem q1_147 : Cond.instantiable RX2 2 ∈ wsL_law := aw_of (t1_in (List.mem_of_getElem? (i := 147) rfl)) rfl
theorem q1_148 : Cond.methodLinkNest "BellTowns" 42 yX2_init "BellTowns" ∈ lw_tbl := t1_in (List.mem_of_getElem? (i := 148) rfl)
theorem q1_149 : Cond.instanceMethod yX2_init ∈ wsL_law := aw_of (t1_in (List.mem_of_getElem? (i := 149) rfl)) rfl
theorem q1_150 : Cond.code yX2_init cX2_init 1 none ∈ wsL_law := aw_of (t1_in (List.mem_of_getElem? (i := 150) rfl)) rfl
theorem q1_151 : Cond.methodLink RX2 5 ⟨"java/lang/Object", "<init>", "()V"⟩ ∈ wsL_law := aw_of (t1_in (List.mem_of_getElem? (i := 151) rfl)) rfl
theorem q1_152 : Cond.fieldLink RX2 11 "BellTowns$Script" "signs" "[C" ∈ wsL_law := aw_of (t1_in (List.mem_of_getElem? (i := 152) rfl)) rfl
theorem q1_153 : Cond.fieldLink RX2 15 "BellTowns$Script" "length" "I" ∈ wsL_law := aw_of (t1_in (List.mem_of_getElem? (i := 153) rfl)) rfl
theorem q1_154 : Cond.fieldLink RX4 130 "BellTowns$Script" "length" "I" ∈ wsL_law := aw_of (t1_in (List.mem_of_getElem? (i := 154) rfl)) rfl
theorem q1_160 : Cond.arrayClass .char ∈ wsL_law := aw_of (t1_in (List.mem_of_getElem? (i := 160) rfl)) rfl
theorem q1_161 : Cond.fieldLink RX4 10 "BellTowns" "now" "LBellTowns$Valley;" ∈ wsL_law := aw_of (t1_in (List.mem_of_getElem? (i := 161) rfl)) rfl
theorem q1_162 : Cond.fieldLink RX4 16 "BellTowns" "trial" "LBellTowns$Valley;" ∈ wsL_law := aw_of (t1_in (List.mem_of_getElem? (i := 162) rfl)) rfl
theorem q1_163 : Cond.fieldLink RX4 19 "BellTowns" "snapshot" "LBellTowns$Valley;" ∈ wsL_law := aw_of (t1_in (List.mem_of_getElem? (i := 163) rfl)) rfl
theorem q1_164 : Cond.fieldLink RX4 22 "BellTowns" "snapshotTaken" "Z" ∈ wsL_law := aw_of (t1_in (List.mem_of_getElem? (i := 164) rfl)) rfl
theorem q1_165 : Cond.fieldLink RX4 29 "BellTowns" "history" "LBellTowns$History;" ∈ wsL_law := aw_of (t1_in (List.mem_of_getElem? (i := 165) rfl)) rfl
theorem q1_166 : Cond.fieldLink RX4 36 "BellTowns" "ringing" "LBellTowns$Ringing;" ∈ wsL_law := aw_of (t1_in (List.mem_of_getElem? (i := 166) rfl)) rfl
theorem q1_167 : Cond.fieldLink RX4 43 "BellTowns" "script" "LBellTowns$Script;" ∈ wsL_law := aw_of (t1_in (List.mem_of_getElem? (i := 167) rfl)) rfl
theorem q1_183 : Cond.methodLink RL 117 yL_cell ∈ wsL_law := aw_of (t1_in (List.mem_of_getElem? (i := 183) rfl)) rfl
theorem q1_184 : Cond.static yL_cell ∈ wsL_law := aw_of (t1_in (List.mem_of_getElem? (i := 184) rfl)) rfl
theorem q1_185 : Cond.code yL_cell cL_cell 2 (some .int) ∈ wsL_law := aw_of (t1_in (List.mem_of_getElem? (i := 185) rfl)) rfl
theorem q1_186 : Cond.constant "BellTownsLaw" 7 (763316881 : Int32) ∈ wsL_law := aw_of (t1_in (List.mem_of_getElem? (i := 186) rfl)) rfl
theorem q1_187 : Cond.methodLink RL 74 yL_low ∈ wsL_law := aw_of (t1_in (List.mem_of_getElem? (i := 187) rfl)) rfl
theorem q1_188 : Cond.static yL_low ∈ wsL_law := aw_of (t1_in (List.mem_of_getElem? (i := 188) rfl)) rfl
theorem q1_189 : Cond.code yL_low cL_low 2 (some .int) ∈ wsL_law := aw_of (t1_in (List.mem_of_getElem? (i := 189) rfl)) rfl
theorem q1_190 : Cond.constant "BellTownsLaw" 8 (2147483647 : Int32) ∈ wsL_law := aw_of (t1_in (List.mem_of_getElem? (i := 190) rfl)) rfl
theorem q1_191 : Cond.methodLink RL 109 yL_areTowns ∈ wsL_law := aw_of (t1_in (List.mem_of_getElem? (i := 191) rfl)) rfl
theorem q1_192 : Cond.static yL_areTowns ∈ wsL_law := aw_of (t1_in (List.mem_of_getElem? (i := 192) rfl)) rfl
theorem q1_193 : Cond.code yL_areTowns cL_areTowns 16 (some .boolean) ∈ wsL_law := aw_of (t1_in (List.mem_of_getElem? (i := 193) rfl)) rfl
theorem q1_194 : Cond.methodLink RL 31 yX4_town ∈ wsL_law := aw_of (t1_in (List.mem_of_getElem? (i := 194) rfl)) rfl
theorem q1_195 : Cond.instanceMethod yX4_town ∈ wsL_law := aw_of (t1_in (List.mem_of_getElem? (i := 195) rfl)) rfl
theorem q1_196 : Cond.selects RX4 yX4_town yX4_town ∈ wsL_law := aw_of (t1_in (List.mem_of_getElem? (i := 196) rfl)) rfl
theorem q1_197 : Cond.code yX4_town cX4_town 3 (some .int) ∈ wsL_law := aw_of (t1_in (List.mem_of_getElem? (i := 197) rfl)) rfl
theorem q1_198 : Cond.methodLink RX4 47 yX4_isTown ∈ wsL_law := aw_of (t1_in (List.mem_of_getElem? (i := 198) rfl)) rfl
theorem q1_199 : Cond.static yX4_isTown ∈ wsL_law := aw_of (t1_in (List.mem_of_getElem? (i := 199) rfl)) rfl
theorem q1_200 : Cond.code yX4_isTown cX4_isTown 1 (some .boolean) ∈ wsL_law := aw_of (t1_in (List.mem_of_getElem? (i := 200) rfl)) rfl
theorem q1_201 : Cond.methodLink RL 15 yL_rings ∈ wsL_law := aw_of (t1_in (List.mem_of_getElem? (i := 201) rfl)) rfl
theorem q1_202 : Cond.static yL_rings ∈ wsL_law := aw_of (t1_in (List.mem_of_getElem? (i := 202) rfl)) rfl
theorem q1_203 : Cond.code yL_rings cL_rings 11 (some .int) ∈ wsL_law := aw_of (t1_in (List.mem_of_getElem? (i := 203) rfl)) rfl
theorem q1_204 : Cond.methodLink RL 37 yX4_loudness ∈ wsL_law := aw_of (t1_in (List.mem_of_getElem? (i := 204) rfl)) rfl
theorem q1_205 : Cond.instanceMethod yX4_loudness ∈ wsL_law := aw_of (t1_in (List.mem_of_getElem? (i := 205) rfl)) rfl
theorem q1_206 : Cond.selects RX4 yX4_loudness yX4_loudness ∈ wsL_law := aw_of (t1_in (List.mem_of_getElem? (i := 206) rfl)) rfl
theorem q1_207 : Cond.code yX4_loudness cX4_loudness 2 (some .int) ∈ wsL_law := aw_of (t1_in (List.mem_of_getElem? (i := 207) rfl)) rfl
theorem q1_208 : Cond.methodLink RX4 180 yX1_foresee ∈ wsL_law := aw_of (t1_in (List.mem_of_getElem? (i := 208) rfl)) rfl
theorem q1_209 : Cond.instanceMethod yX1_foresee ∈ wsL_law := aw_of (t1_in (List.mem_of_getElem? (i := 209) rfl)) rfl
theorem q1_210 : Cond.selects RX1 yX1_foresee yX1_foresee ∈ wsL_law := aw_of (t1_in (List.mem_of_getElem? (i := 210) rfl)) rfl
theorem q1_211 : Cond.code yX1_foresee cX1_foresee 4 none ∈ wsL_law := aw_of (t1_in (List.mem_of_getElem? (i := 211) rfl)) rfl
theorem q1_212 : Cond.methodLink RX1 28 yX1_ringIn ∈ wsL_law := aw_of (t1_in (List.mem_of_getElem? (i := 212) rfl)) rfl
theorem q1_214 : Cond.instanceMethod yX1_ringIn ∈ wsL_law := aw_of (t1_in (List.mem_of_getElem? (i := 214) rfl)) rfl
theorem q1_215 : Cond.code yX1_ringIn cX1_ringIn 11 none ∈ wsL_law := aw_of (t1_in (List.mem_of_getElem? (i := 215) rfl)) rfl
theorem q1_216 : Cond.methodLink RX1 36 yX3_wantedBells ∈ wsL_law := aw_of (t1_in (List.mem_of_getElem? (i := 216) rfl)) rfl
theorem q1_217 : Cond.instanceMethod yX3_wantedBells ∈ wsL_law := aw_of (t1_in (List.mem_of_getElem? (i := 217) rfl)) rfl
theorem q1_218 : Cond.selects RX3 yX3_wantedBells yX3_wantedBells ∈ wsL_law := aw_of (t1_in (List.mem_of_getElem? (i := 218) rfl)) rfl
theorem q1_219 : Cond.code yX3_wantedBells cX3_wantedBells 2 (some .int) ∈ wsL_law := aw_of (t1_in (List.mem_of_getElem? (i := 219) rfl)) rfl
theorem q1_220 : Cond.methodLink RX3 89 yX3_everyBell ∈ wsL_law := aw_of (t1_in (List.mem_of_getElem? (i := 220) rfl)) rfl
theorem q1_221 : Cond.instanceMethod yX3_everyBell ∈ wsL_law := aw_of (t1_in (List.mem_of_getElem? (i := 221) rfl)) rfl
theorem q1_222 : Cond.selects RX3 yX3_everyBell yX3_everyBell ∈ wsL_law := aw_of (t1_in (List.mem_of_getElem? (i := 222) rfl)) rfl
theorem q1_223 : Cond.code yX3_everyBell cX3_everyBell 2 (some .int) ∈ wsL_law := aw_of (t1_in (List.mem_of_getElem? (i := 223) rfl)) rfl
theorem q1_224 : Cond.methodLink RX1 42 yX3_rested ∈ wsL_law := aw_of (t1_in (List.mem_of_getElem? (i := 224) rfl)) rfl
theorem q1_225 : Cond.instanceMethod yX3_rested ∈ wsL_law := aw_of (t1_in (List.mem_of_getElem? (i := 225) rfl)) rfl
theorem q1_226 : Cond.selects RX3 yX3_rested yX3_rested ∈ wsL_law := aw_of (t1_in (List.mem_of_getElem? (i := 226) rfl)) rfl
theorem q1_227 : Cond.code yX3_rested cX3_rested 2 (some .int) ∈ wsL_law := aw_of (t1_in (List.mem_of_getElem? (i := 227) rfl)) rfl
theorem q1_228 : Cond.methodLinkNest "BellTowns$Ringing" 45 yX4_slot "BellTowns" ∈ lw_tbl := t1_in (List.mem_of_getElem? (i := 228) rfl)
theorem q1_229 : Cond.static yX4_slot ∈ wsL_law := aw_of (t1_in (List.mem_of_getElem? (i := 229) rfl)) rfl
theorem q1_230 : Cond.code yX4_slot cX4_slot 2 (some .int) ∈ wsL_law := aw_of (t1_in (List.mem_of_getElem? (i := 230) rfl)) rfl
theorem q1_231 : Cond.methodLinkNest "BellTowns$Ringing" 58 yX4_ringersFor "BellTowns" ∈ lw_tbl := t1_in (List.mem_of_getElem? (i := 231) rfl)
theorem q1_232 : Cond.static yX4_ringersFor ∈ wsL_law := aw_of (t1_in (List.mem_of_getElem? (i := 232) rfl)) rfl
theorem q1_233 : Cond.code yX4_ringersFor cX4_ringersFor 1 (some .int) ∈ wsL_law := aw_of (t1_in (List.mem_of_getElem? (i := 233) rfl)) rfl
theorem q1_234 : Cond.methodLink RX1 32 yX1_winnerIn ∈ wsL_law := aw_of (t1_in (List.mem_of_getElem? (i := 234) rfl)) rfl
theorem q1_236 : Cond.instanceMethod yX1_winnerIn ∈ wsL_law := aw_of (t1_in (List.mem_of_getElem? (i := 236) rfl)) rfl
theorem q1_237 : Cond.code yX1_winnerIn cX1_winnerIn 7 (some .int) ∈ wsL_law := aw_of (t1_in (List.mem_of_getElem? (i := 237) rfl)) rfl
theorem q1_238 : Cond.methodLink RX1 75 yX1_soundIn ∈ wsL_law := aw_of (t1_in (List.mem_of_getElem? (i := 238) rfl)) rfl
theorem q1_239 : Cond.instanceMethod yX1_soundIn ∈ wsL_law := aw_of (t1_in (List.mem_of_getElem? (i := 239) rfl)) rfl
theorem q2_0 : Cond.selects RX1 yX1_soundIn yX1_soundIn ∈ wsL_law := aw_of (t2_in (List.mem_of_getElem? (i := 0) rfl)) rfl
theorem q2_1 : Cond.code yX1_soundIn cX1_soundIn 5 (some .int) ∈ wsL_law := aw_of (t2_in (List.mem_of_getElem? (i := 1) rfl)) rfl
theorem q2_2 : Cond.methodLink RX1 64 ⟨"java/lang/Math", "abs", "(I)I"⟩ ∈ wsL_law := aw_of (t2_in (List.mem_of_getElem? (i := 2) rfl)) rfl
theorem q2_3 : Cond.static ⟨"java/lang/Math", "abs", "(I)I"⟩ ∈ wsL_law := aw_of (t2_in (List.mem_of_getElem? (i := 3) rfl)) rfl
theorem q2_4 : Cond.code ⟨"java/lang/Math", "abs", "(I)I"⟩ prog_8_method_59_code 1 (some .int) ∈ wsL_law := aw_of (t2_in (List.mem_of_getElem? (i := 4) rfl)) rfl
theorem q2_5 : Cond.methodLink RX1 72 ⟨"java/lang/Math", "max", "(II)I"⟩ ∈ wsL_law := aw_of (t2_in (List.mem_of_getElem? (i := 5) rfl)) rfl
theorem q2_6 : Cond.static ⟨"java/lang/Math", "max", "(II)I"⟩ ∈ wsL_law := aw_of (t2_in (List.mem_of_getElem? (i := 6) rfl)) rfl
theorem q2_7 : Cond.code ⟨"java/lang/Math", "max", "(II)I"⟩ prog_8_method_65_code 2 (some .int) ∈ wsL_law := aw_of (t2_in (List.mem_of_getElem? (i := 7) rfl)) rfl
theorem q2_8 : Cond.methodLink RL 19 yL_loud ∈ wsL_law := aw_of (t2_in (List.mem_of_getElem? (i := 8) rfl)) rfl
theorem q2_9 : Cond.static yL_loud ∈ wsL_law := aw_of (t2_in (List.mem_of_getElem? (i := 9) rfl)) rfl
theorem q2_10 : Cond.code yL_loud cL_loud 5 (some .int) ∈ wsL_law := aw_of (t2_in (List.mem_of_getElem? (i := 10) rfl)) rfl
theorem q2_11 : Cond.methodLink RL 41 yX4_bell ∈ wsL_law := aw_of (t2_in (List.mem_of_getElem? (i := 11) rfl)) rfl
theorem q2_12 : Cond.instanceMethod yX4_bell ∈ wsL_law := aw_of (t2_in (List.mem_of_getElem? (i := 12) rfl)) rfl
theorem q2_13 : Cond.selects RX4 yX4_bell yX4_bell ∈ wsL_law := aw_of (t2_in (List.mem_of_getElem? (i := 13) rfl)) rfl
theorem q2_14 : Cond.code yX4_bell cX4_bell 5 (some .int) ∈ wsL_law := aw_of (t2_in (List.mem_of_getElem? (i := 14) rfl)) rfl
theorem q2_15 : Cond.methodLink RX4 63 yX3_hasBell ∈ wsL_law := aw_of (t2_in (List.mem_of_getElem? (i := 15) rfl)) rfl
theorem q2_16 : Cond.instanceMethod yX3_hasBell ∈ wsL_law := aw_of (t2_in (List.mem_of_getElem? (i := 16) rfl)) rfl
theorem q2_17 : Cond.selects RX3 yX3_hasBell yX3_hasBell ∈ wsL_law := aw_of (t2_in (List.mem_of_getElem? (i := 17) rfl)) rfl
theorem q2_18 : Cond.code yX3_hasBell cX3_hasBell 3 (some .boolean) ∈ wsL_law := aw_of (t2_in (List.mem_of_getElem? (i := 18) rfl)) rfl
theorem q2_19 : Cond.methodLinkNest "BellTowns$Valley" 77 yX4_isTown "BellTowns" ∈ lw_tbl := t2_in (List.mem_of_getElem? (i := 19) rfl)
theorem q2_20 : Cond.methodLink RX4 70 yX4_slot ∈ wsL_law := aw_of (t2_in (List.mem_of_getElem? (i := 20) rfl)) rfl
theorem q2_21 : Cond.methodLink RX4 174 yX4_ringersFor ∈ wsL_law := aw_of (t2_in (List.mem_of_getElem? (i := 21) rfl)) rfl
theorem q2_22 : Cond.methodLink RL 45 yX4_share ∈ wsL_law := aw_of (t2_in (List.mem_of_getElem? (i := 22) rfl)) rfl
theorem q2_23 : Cond.instanceMethod yX4_share ∈ wsL_law := aw_of (t2_in (List.mem_of_getElem? (i := 23) rfl)) rfl
theorem q2_24 : Cond.selects RX4 yX4_share yX4_share ∈ wsL_law := aw_of (t2_in (List.mem_of_getElem? (i := 24) rfl)) rfl
theorem q2_25 : Cond.code yX4_share cX4_share 3 (some .double) ∈ wsL_law := aw_of (t2_in (List.mem_of_getElem? (i := 25) rfl)) rfl
theorem q2_26 : Cond.methodLink RX4 195 yX3_allPoints ∈ wsL_law := aw_of (t2_in (List.mem_of_getElem? (i := 26) rfl)) rfl
theorem q2_27 : Cond.instanceMethod yX3_allPoints ∈ wsL_law := aw_of (t2_in (List.mem_of_getElem? (i := 27) rfl)) rfl
theorem q2_28 : Cond.selects RX3 yX3_allPoints yX3_allPoints ∈ wsL_law := aw_of (t2_in (List.mem_of_getElem? (i := 28) rfl)) rfl
theorem q2_29 : Cond.code yX3_allPoints cX3_allPoints 3 (some .int) ∈ wsL_law := aw_of (t2_in (List.mem_of_getElem? (i := 29) rfl)) rfl
theorem q2_30 : Cond.methodLink RL 49 yX4_count ∈ wsL_law := aw_of (t2_in (List.mem_of_getElem? (i := 30) rfl)) rfl
theorem q2_31 : Cond.instanceMethod yX4_count ∈ wsL_law := aw_of (t2_in (List.mem_of_getElem? (i := 31) rfl)) rfl
theorem q2_32 : Cond.selects RX4 yX4_count yX4_count ∈ wsL_law := aw_of (t2_in (List.mem_of_getElem? (i := 32) rfl)) rfl
theorem q2_33 : Cond.code yX4_count cX4_count 2 (some .int) ∈ wsL_law := aw_of (t2_in (List.mem_of_getElem? (i := 33) rfl)) rfl
theorem q2_34 : Cond.methodLink RX4 186 yX3_allBells ∈ wsL_law := aw_of (t2_in (List.mem_of_getElem? (i := 34) rfl)) rfl
theorem q2_35 : Cond.instanceMethod yX3_allBells ∈ wsL_law := aw_of (t2_in (List.mem_of_getElem? (i := 35) rfl)) rfl
theorem q2_36 : Cond.selects RX3 yX3_allBells yX3_allBells ∈ wsL_law := aw_of (t2_in (List.mem_of_getElem? (i := 36) rfl)) rfl
theorem q2_37 : Cond.code yX3_allBells cX3_allBells 3 (some .int) ∈ wsL_law := aw_of (t2_in (List.mem_of_getElem? (i := 37) rfl)) rfl
theorem q2_38 : Cond.methodLink RX4 189 yX3_brokenRopes ∈ wsL_law := aw_of (t2_in (List.mem_of_getElem? (i := 38) rfl)) rfl
theorem q2_39 : Cond.instanceMethod yX3_brokenRopes ∈ wsL_law := aw_of (t2_in (List.mem_of_getElem? (i := 39) rfl)) rfl
theorem q2_40 : Cond.selects RX3 yX3_brokenRopes yX3_brokenRopes ∈ wsL_law := aw_of (t2_in (List.mem_of_getElem? (i := 40) rfl)) rfl
theorem q2_41 : Cond.code yX3_brokenRopes cX3_brokenRopes 3 (some .int) ∈ wsL_law := aw_of (t2_in (List.mem_of_getElem? (i := 41) rfl)) rfl
theorem q2_42 : Cond.methodLink RX4 192 yX3_silentTowns ∈ wsL_law := aw_of (t2_in (List.mem_of_getElem? (i := 42) rfl)) rfl
theorem q2_43 : Cond.instanceMethod yX3_silentTowns ∈ wsL_law := aw_of (t2_in (List.mem_of_getElem? (i := 43) rfl)) rfl
theorem q2_44 : Cond.selects RX3 yX3_silentTowns yX3_silentTowns ∈ wsL_law := aw_of (t2_in (List.mem_of_getElem? (i := 44) rfl)) rfl
theorem q2_45 : Cond.code yX3_silentTowns cX3_silentTowns 3 (some .int) ∈ wsL_law := aw_of (t2_in (List.mem_of_getElem? (i := 45) rfl)) rfl
theorem q2_46 : Cond.methodLink RL 113 yL_areHeard ∈ wsL_law := aw_of (t2_in (List.mem_of_getElem? (i := 46) rfl)) rfl
theorem q2_47 : Cond.static yL_areHeard ∈ wsL_law := aw_of (t2_in (List.mem_of_getElem? (i := 47) rfl)) rfl
theorem q2_48 : Cond.code yL_areHeard cL_areHeard 9 (some .boolean) ∈ wsL_law := aw_of (t2_in (List.mem_of_getElem? (i := 48) rfl)) rfl
theorem q2_49 : Cond.methodLink RL 23 yL_listens ∈ wsL_law := aw_of (t2_in (List.mem_of_getElem? (i := 49) rfl)) rfl
theorem q2_50 : Cond.static yL_listens ∈ wsL_law := aw_of (t2_in (List.mem_of_getElem? (i := 50) rfl)) rfl
theorem q2_51 : Cond.code yL_listens cL_listens 6 none ∈ wsL_law := aw_of (t2_in (List.mem_of_getElem? (i := 51) rfl)) rfl
theorem q2_52 : Cond.methodLink RL 52 yX4_heard ∈ wsL_law := aw_of (t2_in (List.mem_of_getElem? (i := 52) rfl)) rfl
theorem q2_53 : Cond.instanceMethod yX4_heard ∈ wsL_law := aw_of (t2_in (List.mem_of_getElem? (i := 53) rfl)) rfl
theorem q2_54 : Cond.selects RX4 yX4_heard yX4_heard ∈ wsL_law := aw_of (t2_in (List.mem_of_getElem? (i := 54) rfl)) rfl
theorem q2_55 : Cond.code yX4_heard cX4_heard 3 (some .int) ∈ wsL_law := aw_of (t2_in (List.mem_of_getElem? (i := 55) rfl)) rfl
theorem q2_56 : Cond.methodLink RX4 204 yX1_soundIn ∈ wsL_law := aw_of (t2_in (List.mem_of_getElem? (i := 56) rfl)) rfl
theorem q2_57 : Cond.methodLink RL 55 yX4_winner ∈ wsL_law := aw_of (t2_in (List.mem_of_getElem? (i := 57) rfl)) rfl
theorem q2_58 : Cond.instanceMethod yX4_winner ∈ wsL_law := aw_of (t2_in (List.mem_of_getElem? (i := 58) rfl)) rfl
theorem q2_59 : Cond.selects RX4 yX4_winner yX4_winner ∈ wsL_law := aw_of (t2_in (List.mem_of_getElem? (i := 59) rfl)) rfl
theorem q2_60 : Cond.code yX4_winner cX4_winner 2 (some .int) ∈ wsL_law := aw_of (t2_in (List.mem_of_getElem? (i := 60) rfl)) rfl
theorem q2_61 : Cond.methodLink RL 27 yL_wins ∈ wsL_law := aw_of (t2_in (List.mem_of_getElem? (i := 61) rfl)) rfl
theorem q2_62 : Cond.static yL_wins ∈ wsL_law := aw_of (t2_in (List.mem_of_getElem? (i := 62) rfl)) rfl
theorem q2_63 : Cond.code yL_wins cL_wins 7 (some .int) ∈ wsL_law := aw_of (t2_in (List.mem_of_getElem? (i := 63) rfl)) rfl
theorem q2_64 : Cond.methodLink RL 9 yL_reaches ∈ wsL_law := aw_of (t2_in (List.mem_of_getElem? (i := 64) rfl)) rfl
theorem q2_65 : Cond.static yL_reaches ∈ wsL_law := aw_of (t2_in (List.mem_of_getElem? (i := 65) rfl)) rfl
theorem q2_66 : Cond.code yL_reaches cL_reaches 6 (some .int) ∈ wsL_law := aw_of (t2_in (List.mem_of_getElem? (i := 66) rfl)) rfl
theorem q2_67 : Cond.methodLink RL 125 yL_isPlanned ∈ wsL_law := aw_of (t2_in (List.mem_of_getElem? (i := 67) rfl)) rfl
theorem q2_68 : Cond.static yL_isPlanned ∈ wsL_law := aw_of (t2_in (List.mem_of_getElem? (i := 68) rfl)) rfl
theorem q2_69 : Cond.code yL_isPlanned cL_isPlanned 13 (some .boolean) ∈ wsL_law := aw_of (t2_in (List.mem_of_getElem? (i := 69) rfl)) rfl
theorem q2_70 : Cond.methodLink RL 58 yX4_ifPlanned ∈ wsL_law := aw_of (t2_in (List.mem_of_getElem? (i := 70) rfl)) rfl
theorem q2_71 : Cond.instanceMethod yX4_ifPlanned ∈ wsL_law := aw_of (t2_in (List.mem_of_getElem? (i := 71) rfl)) rfl
theorem q2_72 : Cond.selects RX4 yX4_ifPlanned yX4_ifPlanned ∈ wsL_law := aw_of (t2_in (List.mem_of_getElem? (i := 72) rfl)) rfl
theorem q2_73 : Cond.code yX4_ifPlanned cX4_ifPlanned 4 (some .int) ∈ wsL_law := aw_of (t2_in (List.mem_of_getElem? (i := 73) rfl)) rfl
theorem q2_74 : Cond.methodLink RX4 94 yX4_planError ∈ wsL_law := aw_of (t2_in (List.mem_of_getElem? (i := 74) rfl)) rfl
theorem q2_76 : Cond.instanceMethod yX4_planError ∈ wsL_law := aw_of (t2_in (List.mem_of_getElem? (i := 76) rfl)) rfl
theorem q2_77 : Cond.code yX4_planError cX4_planError 3 (some .int) ∈ wsL_law := aw_of (t2_in (List.mem_of_getElem? (i := 77) rfl)) rfl
theorem q2_78 : Cond.methodLink RX4 214 yX3_everyBell ∈ wsL_law := aw_of (t2_in (List.mem_of_getElem? (i := 78) rfl)) rfl
theorem q2_79 : Cond.methodLink RX4 153 yX3_copyFrom ∈ wsL_law := aw_of (t2_in (List.mem_of_getElem? (i := 79) rfl)) rfl
theorem q2_80 : Cond.instanceMethod yX3_copyFrom ∈ wsL_law := aw_of (t2_in (List.mem_of_getElem? (i := 80) rfl)) rfl
theorem q2_81 : Cond.selects RX3 yX3_copyFrom yX3_copyFrom ∈ wsL_law := aw_of (t2_in (List.mem_of_getElem? (i := 81) rfl)) rfl
theorem q2_82 : Cond.code yX3_copyFrom cX3_copyFrom 2 none ∈ wsL_law := aw_of (t2_in (List.mem_of_getElem? (i := 82) rfl)) rfl
theorem q2_83 : Cond.methodLink RX3 64 yX3_copyTowns ∈ wsL_law := aw_of (t2_in (List.mem_of_getElem? (i := 83) rfl)) rfl
theorem q2_84 : Cond.static yX3_copyTowns ∈ wsL_law := aw_of (t2_in (List.mem_of_getElem? (i := 84) rfl)) rfl
theorem q2_85 : Cond.code yX3_copyTowns cX3_copyTowns 2 none ∈ wsL_law := aw_of (t2_in (List.mem_of_getElem? (i := 85) rfl)) rfl
theorem q2_86 : Cond.methodLink RX3 71 ⟨"java/lang/System", "arraycopy", "(Ljava/lang/Object;ILjava/lang/Object;II)V"⟩ ∈ wsL_law := aw_of (t2_in (List.mem_of_getElem? (i := 86) rfl)) rfl
theorem q2_87 : Cond.static ⟨"java/lang/System", "arraycopy", "(Ljava/lang/Object;ILjava/lang/Object;II)V"⟩ ∈ wsL_law := aw_of (t2_in (List.mem_of_getElem? (i := 87) rfl)) rfl
theorem q2_88 : Cond.native ⟨"java/lang/System", "arraycopy", "(Ljava/lang/Object;ILjava/lang/Object;II)V"⟩ ∈ wsL_law := aw_of (t2_in (List.mem_of_getElem? (i := 88) rfl)) rfl
theorem q2_89 : Cond.methodLink RX3 68 yX3_copyBells ∈ wsL_law := aw_of (t2_in (List.mem_of_getElem? (i := 89) rfl)) rfl
theorem q2_90 : Cond.static yX3_copyBells ∈ wsL_law := aw_of (t2_in (List.mem_of_getElem? (i := 90) rfl)) rfl
theorem q2_91 : Cond.code yX3_copyBells cX3_copyBells 2 none ∈ wsL_law := aw_of (t2_in (List.mem_of_getElem? (i := 91) rfl)) rfl
theorem q2_92 : Cond.methodLink RX4 211 yX4_pointsWithPlan ∈ wsL_law := aw_of (t2_in (List.mem_of_getElem? (i := 92) rfl)) rfl
theorem q2_94 : Cond.instanceMethod yX4_pointsWithPlan ∈ wsL_law := aw_of (t2_in (List.mem_of_getElem? (i := 94) rfl)) rfl
theorem q2_95 : Cond.code yX4_pointsWithPlan cX4_pointsWithPlan 3 (some .int) ∈ wsL_law := aw_of (t2_in (List.mem_of_getElem? (i := 95) rfl)) rfl
theorem q2_96 : Cond.methodLink RX4 224 yX1_pointsOf ∈ wsL_law := aw_of (t2_in (List.mem_of_getElem? (i := 96) rfl)) rfl
theorem q2_97 : Cond.instanceMethod yX1_pointsOf ∈ wsL_law := aw_of (t2_in (List.mem_of_getElem? (i := 97) rfl)) rfl
theorem q2_98 : Cond.selects RX1 yX1_pointsOf yX1_pointsOf ∈ wsL_law := aw_of (t2_in (List.mem_of_getElem? (i := 98) rfl)) rfl
theorem q2_99 : Cond.code yX1_pointsOf cX1_pointsOf 4 (some .int) ∈ wsL_law := aw_of (t2_in (List.mem_of_getElem? (i := 99) rfl)) rfl
theorem q2_100 : Cond.methodLink RL 61 yX4_bestPlan ∈ wsL_law := aw_of (t2_in (List.mem_of_getElem? (i := 100) rfl)) rfl
theorem q2_101 : Cond.instanceMethod yX4_bestPlan ∈ wsL_law := aw_of (t2_in (List.mem_of_getElem? (i := 101) rfl)) rfl
theorem q2_102 : Cond.selects RX4 yX4_bestPlan yX4_bestPlan ∈ wsL_law := aw_of (t2_in (List.mem_of_getElem? (i := 102) rfl)) rfl
theorem q2_103 : Cond.code yX4_bestPlan cX4_bestPlan 8 (some .int) ∈ wsL_law := aw_of (t2_in (List.mem_of_getElem? (i := 103) rfl)) rfl
theorem q2_104 : Cond.methodLink RL 129 yL_would ∈ wsL_law := aw_of (t2_in (List.mem_of_getElem? (i := 104) rfl)) rfl
theorem q2_105 : Cond.static yL_would ∈ wsL_law := aw_of (t2_in (List.mem_of_getElem? (i := 105) rfl)) rfl
theorem q2_106 : Cond.code yL_would cL_would 13 (some .boolean) ∈ wsL_law := aw_of (t2_in (List.mem_of_getElem? (i := 106) rfl)) rfl
theorem q2_107 : Cond.methodLink RL 64 yL_copy ∈ wsL_law := aw_of (t2_in (List.mem_of_getElem? (i := 107) rfl)) rfl
theorem q2_108 : Cond.static yL_copy ∈ wsL_law := aw_of (t2_in (List.mem_of_getElem? (i := 108) rfl)) rfl
theorem q2_109 : Cond.code yL_copy cL_copy 3 none ∈ wsL_law := aw_of (t2_in (List.mem_of_getElem? (i := 109) rfl)) rfl
theorem q2_110 : Cond.methodLink RL 68 yL_turns ∈ wsL_law := aw_of (t2_in (List.mem_of_getElem? (i := 110) rfl)) rfl
theorem q2_111 : Cond.static yL_turns ∈ wsL_law := aw_of (t2_in (List.mem_of_getElem? (i := 111) rfl)) rfl
theorem q2_112 : Cond.code yL_turns cL_turns 12 none ∈ wsL_law := aw_of (t2_in (List.mem_of_getElem? (i := 112) rfl)) rfl
theorem q2_113 : Cond.methodLink RL 71 yX4_pointsIn ∈ wsL_law := aw_of (t2_in (List.mem_of_getElem? (i := 113) rfl)) rfl
theorem q2_114 : Cond.instanceMethod yX4_pointsIn ∈ wsL_law := aw_of (t2_in (List.mem_of_getElem? (i := 114) rfl)) rfl
theorem q2_115 : Cond.selects RX4 yX4_pointsIn yX4_pointsIn ∈ wsL_law := aw_of (t2_in (List.mem_of_getElem? (i := 115) rfl)) rfl
theorem q2_116 : Cond.code yX4_pointsIn cX4_pointsIn 4 (some .int) ∈ wsL_law := aw_of (t2_in (List.mem_of_getElem? (i := 116) rfl)) rfl
theorem q2_117 : Cond.methodLink RX4 119 yX4_turnsError ∈ wsL_law := aw_of (t2_in (List.mem_of_getElem? (i := 117) rfl)) rfl
theorem q2_118 : Cond.static yX4_turnsError ∈ wsL_law := aw_of (t2_in (List.mem_of_getElem? (i := 118) rfl)) rfl
theorem q2_119 : Cond.code yX4_turnsError cX4_turnsError 1 (some .int) ∈ wsL_law := aw_of (t2_in (List.mem_of_getElem? (i := 119) rfl)) rfl
theorem q2_120 : Cond.methodLink RX4 123 yX4_makeTurns ∈ wsL_law := aw_of (t2_in (List.mem_of_getElem? (i := 120) rfl)) rfl
theorem q2_122 : Cond.instanceMethod yX4_makeTurns ∈ wsL_law := aw_of (t2_in (List.mem_of_getElem? (i := 122) rfl)) rfl
theorem q2_123 : Cond.code yX4_makeTurns cX4_makeTurns 4 none ∈ wsL_law := aw_of (t2_in (List.mem_of_getElem? (i := 123) rfl)) rfl
theorem q2_124 : Cond.methodLink RX4 220 yX3_pass ∈ wsL_law := aw_of (t2_in (List.mem_of_getElem? (i := 124) rfl)) rfl
theorem q2_125 : Cond.instanceMethod yX3_pass ∈ wsL_law := aw_of (t2_in (List.mem_of_getElem? (i := 125) rfl)) rfl
theorem q2_126 : Cond.selects RX3 yX3_pass yX3_pass ∈ wsL_law := aw_of (t2_in (List.mem_of_getElem? (i := 126) rfl)) rfl
theorem q2_127 : Cond.code yX3_pass cX3_pass 2 none ∈ wsL_law := aw_of (t2_in (List.mem_of_getElem? (i := 127) rfl)) rfl
theorem q2_128 : Cond.methodLink RX3 93 yX3_givePoints ∈ wsL_law := aw_of (t2_in (List.mem_of_getElem? (i := 128) rfl)) rfl
theorem q2_130 : Cond.instanceMethod yX3_givePoints ∈ wsL_law := aw_of (t2_in (List.mem_of_getElem? (i := 130) rfl)) rfl
theorem q2_131 : Cond.code yX3_givePoints cX3_givePoints 4 none ∈ wsL_law := aw_of (t2_in (List.mem_of_getElem? (i := 131) rfl)) rfl
theorem q2_132 : Cond.methodLink RX3 97 yX3_wearRopes ∈ wsL_law := aw_of (t2_in (List.mem_of_getElem? (i := 132) rfl)) rfl
theorem q2_134 : Cond.instanceMethod yX3_wearRopes ∈ wsL_law := aw_of (t2_in (List.mem_of_getElem? (i := 134) rfl)) rfl
theorem q2_135 : Cond.code yX3_wearRopes cX3_wearRopes 3 none ∈ wsL_law := aw_of (t2_in (List.mem_of_getElem? (i := 135) rfl)) rfl
theorem q2_136 : Cond.methodLink RX3 100 yX3_tireRingers ∈ wsL_law := aw_of (t2_in (List.mem_of_getElem? (i := 136) rfl)) rfl
theorem q2_138 : Cond.instanceMethod yX3_tireRingers ∈ wsL_law := aw_of (t2_in (List.mem_of_getElem? (i := 138) rfl)) rfl
theorem q2_139 : Cond.code yX3_tireRingers cX3_tireRingers 3 none ∈ wsL_law := aw_of (t2_in (List.mem_of_getElem? (i := 139) rfl)) rfl
theorem q2_140 : Cond.methodLink RX3 108 yX3_fallSilent ∈ wsL_law := aw_of (t2_in (List.mem_of_getElem? (i := 140) rfl)) rfl
theorem q2_142 : Cond.instanceMethod yX3_fallSilent ∈ wsL_law := aw_of (t2_in (List.mem_of_getElem? (i := 142) rfl)) rfl
theorem q2_143 : Cond.code yX3_fallSilent cX3_fallSilent 3 none ∈ wsL_law := aw_of (t2_in (List.mem_of_getElem? (i := 143) rfl)) rfl
theorem q2_144 : Cond.methodLink RL 121 yL_acts ∈ wsL_law := aw_of (t2_in (List.mem_of_getElem? (i := 144) rfl)) rfl
theorem q2_145 : Cond.static yL_acts ∈ wsL_law := aw_of (t2_in (List.mem_of_getElem? (i := 145) rfl)) rfl
theorem q2_146 : Cond.code yL_acts cL_acts 16 (some .boolean) ∈ wsL_law := aw_of (t2_in (List.mem_of_getElem? (i := 146) rfl)) rfl
theorem q2_147 : Cond.methodLink RL 89 yL_bells ∈ wsL_law := aw_of (t2_in (List.mem_of_getElem? (i := 147) rfl)) rfl
theorem q2_148 : Cond.static yL_bells ∈ wsL_law := aw_of (t2_in (List.mem_of_getElem? (i := 148) rfl)) rfl
theorem q2_149 : Cond.code yL_bells cL_bells 13 (some .boolean) ∈ wsL_law := aw_of (t2_in (List.mem_of_getElem? (i := 149) rfl)) rfl
theorem q2_150 : Cond.methodLink RL 77 yX4_hang ∈ wsL_law := aw_of (t2_in (List.mem_of_getElem? (i := 150) rfl)) rfl
theorem q2_151 : Cond.instanceMethod yX4_hang ∈ wsL_law := aw_of (t2_in (List.mem_of_getElem? (i := 151) rfl)) rfl
theorem q2_152 : Cond.selects RX4 yX4_hang yX4_hang ∈ wsL_law := aw_of (t2_in (List.mem_of_getElem? (i := 152) rfl)) rfl
theorem q2_153 : Cond.code yX4_hang cX4_hang 3 (some .int) ∈ wsL_law := aw_of (t2_in (List.mem_of_getElem? (i := 153) rfl)) rfl
theorem q2_154 : Cond.methodLink RX4 55 yX0_record ∈ wsL_law := aw_of (t2_in (List.mem_of_getElem? (i := 154) rfl)) rfl
theorem q2_155 : Cond.instanceMethod yX0_record ∈ wsL_law := aw_of (t2_in (List.mem_of_getElem? (i := 155) rfl)) rfl
theorem q2_156 : Cond.selects RX0 yX0_record yX0_record ∈ wsL_law := aw_of (t2_in (List.mem_of_getElem? (i := 156) rfl)) rfl
theorem q2_157 : Cond.code yX0_record cX0_record 3 none ∈ wsL_law := aw_of (t2_in (List.mem_of_getElem? (i := 157) rfl)) rfl
theorem q2_158 : Cond.methodLink RX0 25 yX0_placeOf ∈ wsL_law := aw_of (t2_in (List.mem_of_getElem? (i := 158) rfl)) rfl
theorem q2_160 : Cond.instanceMethod yX0_placeOf ∈ wsL_law := aw_of (t2_in (List.mem_of_getElem? (i := 160) rfl)) rfl
theorem q2_161 : Cond.code yX0_placeOf cX0_placeOf 2 (some .int) ∈ wsL_law := aw_of (t2_in (List.mem_of_getElem? (i := 161) rfl)) rfl
theorem q2_162 : Cond.methodLink RX0 29 yX3_copyFrom ∈ wsL_law := aw_of (t2_in (List.mem_of_getElem? (i := 162) rfl)) rfl
theorem q2_163 : Cond.methodLink RX4 59 yX3_addBell ∈ wsL_law := aw_of (t2_in (List.mem_of_getElem? (i := 163) rfl)) rfl
theorem q2_164 : Cond.instanceMethod yX3_addBell ∈ wsL_law := aw_of (t2_in (List.mem_of_getElem? (i := 164) rfl)) rfl
theorem q2_165 : Cond.selects RX3 yX3_addBell yX3_addBell ∈ wsL_law := aw_of (t2_in (List.mem_of_getElem? (i := 165) rfl)) rfl
theorem q2_166 : Cond.code yX3_addBell cX3_addBell 4 (some .int) ∈ wsL_law := aw_of (t2_in (List.mem_of_getElem? (i := 166) rfl)) rfl
theorem q2_167 : Cond.methodLinkNest "BellTowns$Valley" 81 yX4_slot "BellTowns" ∈ lw_tbl := t2_in (List.mem_of_getElem? (i := 167) rfl)
theorem q2_168 : Cond.methodLink RX3 85 yX3_fillSlot ∈ wsL_law := aw_of (t2_in (List.mem_of_getElem? (i := 168) rfl)) rfl
theorem q2_170 : Cond.instanceMethod yX3_fillSlot ∈ wsL_law := aw_of (t2_in (List.mem_of_getElem? (i := 170) rfl)) rfl
theorem q2_171 : Cond.code yX3_fillSlot cX3_fillSlot 5 none ∈ wsL_law := aw_of (t2_in (List.mem_of_getElem? (i := 171) rfl)) rfl
theorem q2_172 : Cond.methodLink RL 80 yX4_melt ∈ wsL_law := aw_of (t2_in (List.mem_of_getElem? (i := 172) rfl)) rfl
theorem q2_173 : Cond.instanceMethod yX4_melt ∈ wsL_law := aw_of (t2_in (List.mem_of_getElem? (i := 173) rfl)) rfl
theorem q2_174 : Cond.selects RX4 yX4_melt yX4_melt ∈ wsL_law := aw_of (t2_in (List.mem_of_getElem? (i := 174) rfl)) rfl
theorem q2_175 : Cond.code yX4_melt cX4_melt 4 (some .int) ∈ wsL_law := aw_of (t2_in (List.mem_of_getElem? (i := 175) rfl)) rfl
theorem q2_176 : Cond.methodLink RX4 73 yX3_removeBell ∈ wsL_law := aw_of (t2_in (List.mem_of_getElem? (i := 176) rfl)) rfl
theorem q2_177 : Cond.instanceMethod yX3_removeBell ∈ wsL_law := aw_of (t2_in (List.mem_of_getElem? (i := 177) rfl)) rfl
theorem q2_178 : Cond.selects RX3 yX3_removeBell yX3_removeBell ∈ wsL_law := aw_of (t2_in (List.mem_of_getElem? (i := 178) rfl)) rfl
theorem q2_179 : Cond.code yX3_removeBell cX3_removeBell 6 none ∈ wsL_law := aw_of (t2_in (List.mem_of_getElem? (i := 179) rfl)) rfl
theorem q2_180 : Cond.methodLink RL 83 yX4_splice ∈ wsL_law := aw_of (t2_in (List.mem_of_getElem? (i := 180) rfl)) rfl
theorem q2_181 : Cond.instanceMethod yX4_splice ∈ wsL_law := aw_of (t2_in (List.mem_of_getElem? (i := 181) rfl)) rfl
theorem q2_182 : Cond.selects RX4 yX4_splice yX4_splice ∈ wsL_law := aw_of (t2_in (List.mem_of_getElem? (i := 182) rfl)) rfl
theorem q2_183 : Cond.code yX4_splice cX4_splice 4 (some .int) ∈ wsL_law := aw_of (t2_in (List.mem_of_getElem? (i := 183) rfl)) rfl
theorem q2_184 : Cond.methodLink RX4 100 yX4_spliceError ∈ wsL_law := aw_of (t2_in (List.mem_of_getElem? (i := 184) rfl)) rfl
theorem q2_186 : Cond.instanceMethod yX4_spliceError ∈ wsL_law := aw_of (t2_in (List.mem_of_getElem? (i := 186) rfl)) rfl
theorem q2_187 : Cond.code yX4_spliceError cX4_spliceError 3 (some .int) ∈ wsL_law := aw_of (t2_in (List.mem_of_getElem? (i := 187) rfl)) rfl
theorem q2_188 : Cond.methodLink RX4 217 yX3_rested ∈ wsL_law := aw_of (t2_in (List.mem_of_getElem? (i := 188) rfl)) rfl
theorem q2_189 : Cond.methodLink RX4 103 yX4_mendRope ∈ wsL_law := aw_of (t2_in (List.mem_of_getElem? (i := 189) rfl)) rfl
theorem q2_191 : Cond.instanceMethod yX4_mendRope ∈ wsL_law := aw_of (t2_in (List.mem_of_getElem? (i := 191) rfl)) rfl
theorem q2_192 : Cond.code yX4_mendRope cX4_mendRope 5 (some .int) ∈ wsL_law := aw_of (t2_in (List.mem_of_getElem? (i := 192) rfl)) rfl
theorem q2_193 : Cond.methodLink RL 93 yL_settles ∈ wsL_law := aw_of (t2_in (List.mem_of_getElem? (i := 193) rfl)) rfl
theorem q2_194 : Cond.static yL_settles ∈ wsL_law := aw_of (t2_in (List.mem_of_getElem? (i := 194) rfl)) rfl
theorem q2_195 : Cond.code yL_settles cL_settles 7 (some .boolean) ∈ wsL_law := aw_of (t2_in (List.mem_of_getElem? (i := 195) rfl)) rfl
theorem q2_196 : Cond.methodLink RL 86 yX4_settle ∈ wsL_law := aw_of (t2_in (List.mem_of_getElem? (i := 196) rfl)) rfl
theorem q2_197 : Cond.instanceMethod yX4_settle ∈ wsL_law := aw_of (t2_in (List.mem_of_getElem? (i := 197) rfl)) rfl
theorem q2_198 : Cond.selects RX4 yX4_settle yX4_settle ∈ wsL_law := aw_of (t2_in (List.mem_of_getElem? (i := 198) rfl)) rfl
theorem q2_199 : Cond.code yX4_settle cX4_settle 4 (some .int) ∈ wsL_law := aw_of (t2_in (List.mem_of_getElem? (i := 199) rfl)) rfl
theorem q2_200 : Cond.methodLink RX4 77 yX3_isTakenByAnother ∈ wsL_law := aw_of (t2_in (List.mem_of_getElem? (i := 200) rfl)) rfl
theorem q2_201 : Cond.instanceMethod yX3_isTakenByAnother ∈ wsL_law := aw_of (t2_in (List.mem_of_getElem? (i := 201) rfl)) rfl
theorem q2_202 : Cond.selects RX3 yX3_isTakenByAnother yX3_isTakenByAnother ∈ wsL_law := aw_of (t2_in (List.mem_of_getElem? (i := 202) rfl)) rfl
theorem q2_203 : Cond.code yX3_isTakenByAnother cX3_isTakenByAnother 4 (some .boolean) ∈ wsL_law := aw_of (t2_in (List.mem_of_getElem? (i := 203) rfl)) rfl
theorem q2_204 : Cond.methodLink RX4 89 ⟨"java/lang/Math", "min", "(II)I"⟩ ∈ wsL_law := aw_of (t2_in (List.mem_of_getElem? (i := 204) rfl)) rfl
theorem q2_205 : Cond.static ⟨"java/lang/Math", "min", "(II)I"⟩ ∈ wsL_law := aw_of (t2_in (List.mem_of_getElem? (i := 205) rfl)) rfl
theorem q2_206 : Cond.code ⟨"java/lang/Math", "min", "(II)I"⟩ prog_8_method_69_code 2 (some .int) ∈ wsL_law := aw_of (t2_in (List.mem_of_getElem? (i := 206) rfl)) rfl
theorem q2_207 : Cond.methodLink RL 97 yX4_plan ∈ wsL_law := aw_of (t2_in (List.mem_of_getElem? (i := 207) rfl)) rfl
theorem q2_208 : Cond.instanceMethod yX4_plan ∈ wsL_law := aw_of (t2_in (List.mem_of_getElem? (i := 208) rfl)) rfl
theorem q2_209 : Cond.selects RX4 yX4_plan yX4_plan ∈ wsL_law := aw_of (t2_in (List.mem_of_getElem? (i := 209) rfl)) rfl
theorem q2_210 : Cond.code yX4_plan cX4_plan 4 (some .int) ∈ wsL_law := aw_of (t2_in (List.mem_of_getElem? (i := 210) rfl)) rfl
theorem q2_211 : Cond.methodLink RX4 97 yX4_changePlan ∈ wsL_law := aw_of (t2_in (List.mem_of_getElem? (i := 211) rfl)) rfl
theorem q2_213 : Cond.instanceMethod yX4_changePlan ∈ wsL_law := aw_of (t2_in (List.mem_of_getElem? (i := 213) rfl)) rfl
theorem q2_214 : Cond.code yX4_changePlan cX4_changePlan 4 (some .int) ∈ wsL_law := aw_of (t2_in (List.mem_of_getElem? (i := 214) rfl)) rfl
theorem q2_215 : Cond.methodLink RL 100 yX4_feast ∈ wsL_law := aw_of (t2_in (List.mem_of_getElem? (i := 215) rfl)) rfl
theorem q2_216 : Cond.instanceMethod yX4_feast ∈ wsL_law := aw_of (t2_in (List.mem_of_getElem? (i := 216) rfl)) rfl
theorem q2_217 : Cond.selects RX4 yX4_feast yX4_feast ∈ wsL_law := aw_of (t2_in (List.mem_of_getElem? (i := 217) rfl)) rfl
theorem q2_218 : Cond.code yX4_feast cX4_feast 4 (some .int) ∈ wsL_law := aw_of (t2_in (List.mem_of_getElem? (i := 218) rfl)) rfl
theorem q2_219 : Cond.methodLink RL 103 yX4_set ∈ wsL_law := aw_of (t2_in (List.mem_of_getElem? (i := 219) rfl)) rfl
theorem q2_220 : Cond.instanceMethod yX4_set ∈ wsL_law := aw_of (t2_in (List.mem_of_getElem? (i := 220) rfl)) rfl
theorem q2_221 : Cond.selects RX4 yX4_set yX4_set ∈ wsL_law := aw_of (t2_in (List.mem_of_getElem? (i := 221) rfl)) rfl
theorem q2_222 : Cond.code yX4_set cX4_set 4 (some .int) ∈ wsL_law := aw_of (t2_in (List.mem_of_getElem? (i := 222) rfl)) rfl
theorem q2_223 : Cond.methodLink RX4 109 yX4_isInRange ∈ wsL_law := aw_of (t2_in (List.mem_of_getElem? (i := 223) rfl)) rfl
theorem q2_224 : Cond.static yX4_isInRange ∈ wsL_law := aw_of (t2_in (List.mem_of_getElem? (i := 224) rfl)) rfl
theorem q2_225 : Cond.code yX4_isInRange cX4_isInRange 2 (some .boolean) ∈ wsL_law := aw_of (t2_in (List.mem_of_getElem? (i := 225) rfl)) rfl
theorem q2_226 : Cond.methodLink RL 106 yX4_turns ∈ wsL_law := aw_of (t2_in (List.mem_of_getElem? (i := 226) rfl)) rfl
theorem q2_227 : Cond.instanceMethod yX4_turns ∈ wsL_law := aw_of (t2_in (List.mem_of_getElem? (i := 227) rfl)) rfl
theorem q2_228 : Cond.selects RX4 yX4_turns yX4_turns ∈ wsL_law := aw_of (t2_in (List.mem_of_getElem? (i := 228) rfl)) rfl
theorem q2_229 : Cond.code yX4_turns cX4_turns 3 (some .int) ∈ wsL_law := aw_of (t2_in (List.mem_of_getElem? (i := 229) rfl)) rfl
theorem qs_0 : Cond.selects RX1 yX1_ringIn yX1_ringIn ∈ wsL_law := aw_of (List.mem_append_left _ (List.mem_of_getElem? (i := 0) rfl)) rfl
theorem qs_1 : Cond.selects RX1 yX1_winnerIn yX1_winnerIn ∈ wsL_law := aw_of (List.mem_append_left _ (List.mem_of_getElem? (i := 1) rfl)) rfl
theorem qs_2 : Cond.selects RX4 yX4_planError yX4_planError ∈ wsL_law := aw_of (List.mem_append_left _ (List.mem_of_getElem? (i := 2) rfl)) rfl
theorem qs_3 : Cond.selects RX4 yX4_pointsWithPlan yX4_pointsWithPlan ∈ wsL_law := aw_of (List.mem_append_left _ (List.mem_of_getElem? (i := 3) rfl)) rfl
theorem qs_4 : Cond.selects RX4 yX4_makeTurns yX4_makeTurns ∈ wsL_law := aw_of (List.mem_append_left _ (List.mem_of_getElem? (i := 4) rfl)) rfl
theorem qs_5 : Cond.selects RX3 yX3_givePoints yX3_givePoints ∈ wsL_law := aw_of (List.mem_append_left _ (List.mem_of_getElem? (i := 5) rfl)) rfl
theorem qs_6 : Cond.selects RX3 yX3_wearRopes yX3_wearRopes ∈ wsL_law := aw_of (List.mem_append_left _ (List.mem_of_getElem? (i := 6) rfl)) rfl
theorem qs_7 : Cond.selects RX3 yX3_tireRingers yX3_tireRingers ∈ wsL_law := aw_of (List.mem_append_left _ (List.mem_of_getElem? (i := 7) rfl)) rfl
theorem qs_8 : Cond.selects RX3 yX3_fallSilent yX3_fallSilent ∈ wsL_law := aw_of (List.mem_append_left _ (List.mem_of_getElem? (i := 8) rfl)) rfl
theorem qs_9 : Cond.selects RX0 yX0_placeOf yX0_placeOf ∈ wsL_law := aw_of (List.mem_append_left _ (List.mem_of_getElem? (i := 9) rfl)) rfl
theorem qs_10 : Cond.selects RX3 yX3_fillSlot yX3_fillSlot ∈ wsL_law := aw_of (List.mem_append_left _ (List.mem_of_getElem? (i := 10) rfl)) rfl
theorem qs_11 : Cond.selects RX4 yX4_spliceError yX4_spliceError ∈ wsL_law := aw_of (List.mem_append_left _ (List.mem_of_getElem? (i := 11) rfl)) rfl
theorem qs_12 : Cond.selects RX4 yX4_mendRope yX4_mendRope ∈ wsL_law := aw_of (List.mem_append_left _ (List.mem_of_getElem? (i := 12) rfl)) rfl
theorem qs_13 : Cond.selects RX4 yX4_changePlan yX4_changePlan ∈ wsL_law := aw_of (List.mem_append_left _ (List.mem_of_getElem? (i := 13) rfl)) rfl
theorem inX0 : ∀ w ∈ wsX00, w ∈ wsL_law := by decide +kernel
theorem inX1 : ∀ w ∈ wsX10, w ∈ wsL_law := by decide +kernel
theorem inX2 : ∀ w ∈ wsX20, w ∈ wsL_law := by decide +kernel
theorem inX3 : ∀ w ∈ wsX30, w ∈ wsL_law := by decide +kernel
theorem inX4 : ∀ w ∈ wsX40, w ∈ wsL_law := by decide +kernel
