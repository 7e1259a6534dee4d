theorem ok_X0_placeOf : okV yX0_placeOf cX0_placeOf 2 (some .int) 1 := ⟨q1_198, q1_197, qs_0, q1_3, by decide +kernel⟩
theorem ok_X0_record : okV yX0_record cX0_record 3 none 1 := ⟨q1_194, q1_192, q1_193, q1_3, by decide +kernel⟩
theorem ok_X0_takeBack : okV yX0_takeBack cX0_takeBack 3 none 1 := ⟨q2_179, q2_177, q2_178, q1_3, by decide +kernel⟩
theorem ok_X1_foresee : okV yX1_foresee cX1_foresee 4 none 1 := ⟨q2_65, q2_63, q2_64, q1_4, by decide +kernel⟩
theorem ok_X1_pointsOf : okV yX1_pointsOf cX1_pointsOf 4 (some .int) 1 := ⟨q3_2, q3_0, q3_1, q1_4, by decide +kernel⟩
theorem ok_X1_ringIn : okV yX1_ringIn cX1_ringIn 11 none 2 := ⟨q2_69, q2_68, qs_7, q1_4, by decide +kernel⟩
theorem ok_X1_soundIn : okV yX1_soundIn cX1_soundIn 5 (some .int) 3 := ⟨q2_87, q2_85, q2_86, q1_4, by decide +kernel⟩
theorem ok_X1_winnerIn : okV yX1_winnerIn cX1_winnerIn 7 (some .int) 2 := ⟨q2_83, q2_82, qs_8, q1_4, by decide +kernel⟩
theorem ok_X2_add : okV yX2_add cX2_add 2 none 1 := ⟨q2_121, q2_119, q2_120, q1_5, by decide +kernel⟩
theorem ok_X2_after : okS yX2_after cX2_after 2 (some .int) 2 := ⟨q2_140, q2_139, q1_5, by decide +kernel⟩
theorem ok_X2_afterBells : okS yX2_afterBells cX2_afterBells 2 (some .int) 2 := ⟨q2_149, q2_148, q1_5, by decide +kernel⟩
theorem ok_X2_afterLetter : okS yX2_afterLetter cX2_afterLetter 1 (some .int) 1 := ⟨q2_143, q2_142, q1_5, by decide +kernel⟩
theorem ok_X2_beginsOrder : okV yX2_beginsOrder cX2_beginsOrder 2 (some .boolean) 1 := ⟨q2_157, q2_155, q2_156, q1_5, by decide +kernel⟩
theorem ok_X2_bellsFrom : okV yX2_bellsFrom cX2_bellsFrom 4 (some .int) 1 := ⟨q2_170, q2_168, q2_169, q1_5, by decide +kernel⟩
theorem ok_X2_digitAt : okV yX2_digitAt cX2_digitAt 2 (some .int) 1 := ⟨q2_166, q2_164, q2_165, q1_5, by decide +kernel⟩
theorem ok_X2_firstFault : okV yX2_firstFault cX2_firstFault 3 (some .int) 0 := ⟨q2_133, q2_131, q2_132, q1_5, by decide +kernel⟩
theorem ok_X2_isDigit : okS yX2_isDigit cX2_isDigit 3 (some .boolean) 3 := ⟨q2_146, q2_145, q1_5, by decide +kernel⟩
theorem ok_X2_signAt : okV yX2_signAt cX2_signAt 2 (some .int) 1 := ⟨q2_137, q2_135, q2_136, q1_5, by decide +kernel⟩
theorem ok_X3_addBell : okV yX3_addBell cX3_addBell 4 (some .int) 2 := ⟨q1_215, q1_213, q1_214, q1_2, by decide +kernel⟩
theorem ok_X3_allBells : okV yX3_allBells cX3_allBells 3 (some .int) 0 := ⟨q2_205, q2_203, q2_204, q1_2, by decide +kernel⟩
theorem ok_X3_allPoints : okV yX3_allPoints cX3_allPoints 3 (some .int) 0 := ⟨q2_217, q2_215, q2_216, q1_2, by decide +kernel⟩
theorem ok_X3_brokenRopes : okV yX3_brokenRopes cX3_brokenRopes 3 (some .int) 0 := ⟨q2_209, q2_207, q2_208, q1_2, by decide +kernel⟩
theorem ok_X3_copyBells : okS yX3_copyBells cX3_copyBells 2 none 2 := ⟨q1_211, q1_210, q1_2, by decide +kernel⟩
theorem ok_X3_copyFrom : okV yX3_copyFrom cX3_copyFrom 2 none 1 := ⟨q1_202, q1_200, q1_201, q1_2, by decide +kernel⟩
theorem ok_X3_copyTowns : okS yX3_copyTowns cX3_copyTowns 2 none 2 := ⟨q1_205, q1_204, q1_2, by decide +kernel⟩
theorem ok_X3_everyBell : okV yX3_everyBell cX3_everyBell 2 (some .int) 1 := ⟨q2_19, q2_17, q2_18, q1_2, by decide +kernel⟩
theorem ok_X3_fallSilent : okV yX3_fallSilent cX3_fallSilent 3 none 1 := ⟨q2_113, q2_112, qs_12, q1_2, by decide +kernel⟩
theorem ok_X3_fillSlot : okV yX3_fillSlot cX3_fillSlot 5 none 4 := ⟨q1_222, q1_221, qs_1, q1_2, by decide +kernel⟩
theorem ok_X3_givePoints : okV yX3_givePoints cX3_givePoints 4 none 1 := ⟨q2_101, q2_100, qs_9, q1_2, by decide +kernel⟩
theorem ok_X3_hasBell : okV yX3_hasBell cX3_hasBell 3 (some .boolean) 2 := ⟨q1_230, q1_228, q1_229, q1_2, by decide +kernel⟩
theorem ok_X3_isTakenByAnother : okV yX3_isTakenByAnother cX3_isTakenByAnother 4 (some .boolean) 2 := ⟨q2_4, q2_2, q2_3, q1_2, by decide +kernel⟩
theorem ok_X3_pass : okV yX3_pass cX3_pass 2 none 1 := ⟨q2_97, q2_95, q2_96, q1_2, by decide +kernel⟩
theorem ok_X3_removeBell : okV yX3_removeBell cX3_removeBell 6 none 2 := ⟨q1_236, q1_234, q1_235, q1_2, by decide +kernel⟩
theorem ok_X3_rested : okV yX3_rested cX3_rested 2 (some .int) 1 := ⟨q2_35, q2_33, q2_34, q1_2, by decide +kernel⟩
theorem ok_X3_silentTowns : okV yX3_silentTowns cX3_silentTowns 3 (some .int) 0 := ⟨q2_213, q2_211, q2_212, q1_2, by decide +kernel⟩
theorem ok_X3_tireRingers : okV yX3_tireRingers cX3_tireRingers 3 none 1 := ⟨q2_109, q2_108, qs_11, q1_2, by decide +kernel⟩
theorem ok_X3_wantedBells : okV yX3_wantedBells cX3_wantedBells 2 (some .int) 1 := ⟨q2_73, q2_71, q2_72, q1_2, by decide +kernel⟩
theorem ok_X3_wearRopes : okV yX3_wearRopes cX3_wearRopes 3 none 1 := ⟨q2_105, q2_104, qs_10, q1_2, by decide +kernel⟩
theorem ok_X4_append : okV yX4_append cX4_append 2 (some .int) 1 := ⟨q2_117, q2_115, q2_116, q1_1, by decide +kernel⟩
theorem ok_X4_bell : okV yX4_bell cX4_bell 5 (some .int) 3 := ⟨q2_196, q2_194, q2_195, q1_1, by decide +kernel⟩
theorem ok_X4_bestPlan : okV yX4_bestPlan cX4_bestPlan 8 (some .int) 1 := ⟨q3_6, q3_4, q3_5, q1_1, by decide +kernel⟩
theorem ok_X4_carryOut : okV yX4_carryOut cX4_carryOut 5 (some .boolean) 1 := ⟨q2_161, q2_160, qs_13, q1_1, by decide +kernel⟩
theorem ok_X4_changePlan : okV yX4_changePlan cX4_changePlan 4 (some .int) 2 := ⟨q2_23, q2_22, qs_3, q1_1, by decide +kernel⟩
theorem ok_X4_clearText : okV yX4_clearText cX4_clearText 2 (some .int) 0 := ⟨q2_125, q2_123, q2_124, q1_1, by decide +kernel⟩
theorem ok_X4_count : okV yX4_count cX4_count 2 (some .int) 1 := ⟨q2_201, q2_199, q2_200, q1_1, by decide +kernel⟩
theorem ok_X4_fault : okV yX4_fault cX4_fault 1 (some .int) 0 := ⟨q2_129, q2_127, q2_128, q1_1, by decide +kernel⟩
theorem ok_X4_feast : okV yX4_feast cX4_feast 4 (some .int) 2 := ⟨q2_43, q2_41, q2_42, q1_1, by decide +kernel⟩
theorem ok_X4_hang : okV yX4_hang cX4_hang 3 (some .int) 2 := ⟨q1_187, q1_185, q1_186, q1_1, by decide +kernel⟩
theorem ok_X4_heard : okV yX4_heard cX4_heard 3 (some .int) 2 := ⟨q2_225, q2_223, q2_224, q1_1, by decide +kernel⟩
theorem ok_X4_ifPlanned : okV yX4_ifPlanned cX4_ifPlanned 4 (some .int) 2 := ⟨q2_234, q2_232, q2_233, q1_1, by decide +kernel⟩
theorem ok_X4_isInRange : okS yX4_isInRange cX4_isInRange 2 (some .boolean) 2 := ⟨q2_50, q2_49, q1_1, by decide +kernel⟩
theorem ok_X4_isTown : okS yX4_isTown cX4_isTown 1 (some .boolean) 1 := ⟨q1_190, q1_189, q1_1, by decide +kernel⟩
theorem ok_X4_loudness : okV yX4_loudness cX4_loudness 2 (some .int) 1 := ⟨q2_221, q2_219, q2_220, q1_1, by decide +kernel⟩
theorem ok_X4_makeTurns : okV yX4_makeTurns cX4_makeTurns 4 none 2 := ⟨q2_61, q2_60, qs_6, q1_1, by decide +kernel⟩
theorem ok_X4_melt : okV yX4_melt cX4_melt 4 (some .int) 2 := ⟨q1_226, q1_224, q1_225, q1_1, by decide +kernel⟩
theorem ok_X4_mendRope : okV yX4_mendRope cX4_mendRope 5 (some .int) 2 := ⟨q2_39, q2_38, qs_5, q1_1, by decide +kernel⟩
theorem ok_X4_plan : okV yX4_plan cX4_plan 4 (some .int) 2 := ⟨q2_11, q2_9, q2_10, q1_1, by decide +kernel⟩
theorem ok_X4_planError : okV yX4_planError cX4_planError 3 (some .int) 2 := ⟨q2_15, q2_14, qs_2, q1_1, by decide +kernel⟩
theorem ok_X4_pointsIn : okV yX4_pointsIn cX4_pointsIn 4 (some .int) 2 := ⟨q3_10, q3_8, q3_9, q1_1, by decide +kernel⟩
theorem ok_X4_pointsWithPlan : okV yX4_pointsWithPlan cX4_pointsWithPlan 3 (some .int) 2 := ⟨q2_238, q2_237, qs_14, q1_1, by decide +kernel⟩
theorem ok_X4_restore : okV yX4_restore cX4_restore 1 (some .int) 0 := ⟨q2_188, q2_186, q2_187, q1_1, by decide +kernel⟩
theorem ok_X4_ringersFor : okS yX4_ringersFor cX4_ringersFor 1 (some .int) 1 := ⟨q2_79, q2_78, q1_1, by decide +kernel⟩
theorem ok_X4_run : okV yX4_run cX4_run 4 (some .int) 0 := ⟨q2_153, q2_151, q2_152, q1_1, by decide +kernel⟩
theorem ok_X4_save : okV yX4_save cX4_save 1 (some .int) 0 := ⟨q2_183, q2_181, q2_182, q1_1, by decide +kernel⟩
theorem ok_X4_set : okV yX4_set cX4_set 4 (some .int) 2 := ⟨q2_47, q2_45, q2_46, q1_1, by decide +kernel⟩
theorem ok_X4_settle : okV yX4_settle cX4_settle 4 (some .int) 3 := ⟨q2_0, q1_238, q1_239, q1_1, by decide +kernel⟩
theorem ok_X4_share : okV yX4_share cX4_share 3 (some .double) 1 := ⟨q3_14, q3_12, q3_13, q1_1, by decide +kernel⟩
theorem ok_X4_slot : okS yX4_slot cX4_slot 2 (some .int) 2 := ⟨q1_218, q1_217, q1_1, by decide +kernel⟩
theorem ok_X4_splice : okV yX4_splice cX4_splice 4 (some .int) 2 := ⟨q2_27, q2_25, q2_26, q1_1, by decide +kernel⟩
theorem ok_X4_spliceError : okV yX4_spliceError cX4_spliceError 3 (some .int) 2 := ⟨q2_31, q2_30, qs_4, q1_1, by decide +kernel⟩
theorem ok_X4_town : okV yX4_town cX4_town 3 (some .int) 2 := ⟨q2_192, q2_190, q2_191, q1_1, by decide +kernel⟩
theorem ok_X4_turns : okV yX4_turns cX4_turns 3 (some .int) 1 := ⟨q2_54, q2_52, q2_53, q1_1, by decide +kernel⟩
theorem ok_X4_turnsError : okS yX4_turnsError cX4_turnsError 1 (some .int) 1 := ⟨q2_57, q2_56, q1_1, by decide +kernel⟩
theorem ok_X4_undo : okV yX4_undo cX4_undo 1 (some .int) 0 := ⟨q2_175, q2_173, q2_174, q1_1, by decide +kernel⟩
theorem ok_X4_winner : okV yX4_winner cX4_winner 2 (some .int) 1 := ⟨q2_230, q2_228, q2_229, q1_1, by decide +kernel⟩
theorem ok_X5_allBells : okV yX5_allBells cX5_allBells 2 (some .int) 1 := ⟨q3_125, q3_124, qs_21, q1_6, by decide +kernel⟩
theorem ok_X5_append : okV yX5_append cX5_append 2 (some .int) 1 := ⟨q3_197, q3_195, q3_196, q1_6, by decide +kernel⟩
theorem ok_X5_bell : okV yX5_bell cX5_bell 4 (some .int) 3 := ⟨q3_233, q3_231, q3_232, q1_6, by decide +kernel⟩
theorem ok_X5_best : okV yX5_best cX5_best 6 (some .int) 1 := ⟨q3_185, q3_184, qs_32, q1_6, by decide +kernel⟩
theorem ok_X5_bestPlan : okV yX5_bestPlan cX5_bestPlan 8 (some .int) 1 := ⟨q4_37, q4_35, q4_36, q1_6, by decide +kernel⟩
theorem ok_X5_brokenRopes : okV yX5_brokenRopes cX5_brokenRopes 3 (some .int) 0 := ⟨q4_9, q4_8, qs_41, q1_6, by decide +kernel⟩
theorem ok_X5_canSplice : okV yX5_canSplice cX5_canSplice 3 (some .boolean) 2 := ⟨q3_133, q3_132, qs_22, q1_6, by decide +kernel⟩
theorem ok_X5_clearText : okV yX5_clearText cX5_clearText 2 (some .int) 0 := ⟨q3_201, q3_199, q3_200, q1_6, by decide +kernel⟩
theorem ok_X5_count : okV yX5_count cX5_count 2 (some .int) 1 := ⟨q4_1, q3_239, q4_0, q1_6, by decide +kernel⟩
theorem ok_X5_fault : okV yX5_fault cX5_fault 1 (some .int) 0 := ⟨q3_205, q3_203, q3_204, q1_6, by decide +kernel⟩
theorem ok_X5_feast : okV yX5_feast cX5_feast 4 (some .int) 2 := ⟨q3_141, q3_139, q3_140, q1_6, by decide +kernel⟩
theorem ok_X5_hang : okV yX5_hang cX5_hang 4 (some .int) 2 := ⟨q3_87, q3_85, q3_86, q1_6, by decide +kernel⟩
theorem ok_X5_hasBells : okV yX5_hasBells cX5_hasBells 3 (some .boolean) 2 := ⟨q3_121, q3_120, qs_20, q1_6, by decide +kernel⟩
theorem ok_X5_heard : okV yX5_heard cX5_heard 3 (some .int) 2 := ⟨q4_21, q4_19, q4_20, q1_6, by decide +kernel⟩
theorem ok_X5_heardIn : okV yX5_heardIn cX5_heardIn 5 (some .int) 2 := ⟨q3_189, q3_188, qs_33, q1_6, by decide +kernel⟩
theorem ok_X5_ifPlanned : okV yX5_ifPlanned cX5_ifPlanned 3 (some .int) 2 := ⟨q4_29, q4_27, q4_28, q1_6, by decide +kernel⟩
theorem ok_X5_in : okS yX5_in cX5_in 3 (some .boolean) 3 := ⟨q3_93, q3_92, q1_6, by decide +kernel⟩
theorem ok_X5_isBell : okV yX5_isBell cX5_isBell 3 (some .boolean) 2 := ⟨q3_105, q3_104, qs_18, q1_6, by decide +kernel⟩
theorem ok_X5_isDone : okV yX5_isDone cX5_isDone 3 (some .boolean) 1 := ⟨q3_225, q3_224, qs_38, q1_6, by decide +kernel⟩
theorem ok_X5_isScript : okV yX5_isScript cX5_isScript 2 (some .boolean) 0 := ⟨q3_209, q3_208, qs_35, q1_6, by decide +kernel⟩
theorem ok_X5_isTaken : okV yX5_isTaken cX5_isTaken 5 (some .boolean) 2 := ⟨q3_113, q3_112, qs_19, q1_6, by decide +kernel⟩
theorem ok_X5_isTown : okS yX5_isTown cX5_isTown 1 (some .boolean) 1 := ⟨q3_90, q3_89, q1_6, by decide +kernel⟩
theorem ok_X5_listen : okV yX5_listen cX5_listen 2 none 0 := ⟨q3_161, q3_160, qs_26, q1_6, by decide +kernel⟩
theorem ok_X5_loudestNow : okV yX5_loudestNow cX5_loudestNow 3 (some .int) 0 := ⟨q3_181, q3_180, qs_31, q1_6, by decide +kernel⟩
theorem ok_X5_loudness : okV yX5_loudness cX5_loudness 2 (some .int) 1 := ⟨q4_17, q4_15, q4_16, q1_6, by decide +kernel⟩
theorem ok_X5_loudnessOf : okV yX5_loudnessOf cX5_loudnessOf 5 (some .int) 2 := ⟨q3_177, q3_176, qs_30, q1_6, by decide +kernel⟩
theorem ok_X5_melt : okV yX5_melt cX5_melt 6 (some .int) 2 := ⟨q3_101, q3_99, q3_100, q1_6, by decide +kernel⟩
theorem ok_X5_of : okV yX5_of cX5_of 3 (some .int) 2 := ⟨q3_97, q3_96, qs_17, q1_6, by decide +kernel⟩
theorem ok_X5_plan : okV yX5_plan cX5_plan 4 (some .int) 2 := ⟨q3_117, q3_115, q3_116, q1_6, by decide +kernel⟩
theorem ok_X5_pointsIn : okV yX5_pointsIn cX5_pointsIn 4 (some .int) 2 := ⟨q4_41, q4_39, q4_40, q1_6, by decide +kernel⟩
theorem ok_X5_pointsWith : okV yX5_pointsWith cX5_pointsWith 5 (some .int) 2 := ⟨q4_33, q4_32, qs_43, q1_6, by decide +kernel⟩
theorem ok_X5_put : okV yX5_put cX5_put 4 none 3 := ⟨q3_24, q3_23, qs_15, q1_6, by decide +kernel⟩
theorem ok_X5_putAside : okV yX5_putAside cX5_putAside 2 none 0 := ⟨q4_45, q4_44, qs_44, q1_6, by decide +kernel⟩
theorem ok_X5_putBack : okV yX5_putBack cX5_putBack 2 none 0 := ⟨q4_49, q4_48, qs_45, q1_6, by decide +kernel⟩
theorem ok_X5_readOrder : okV yX5_readOrder cX5_readOrder 4 (some .boolean) 0 := ⟨q3_213, q3_212, qs_36, q1_6, by decide +kernel⟩
theorem ok_X5_reason : okV yX5_reason cX5_reason 3 (some .int) 2 := ⟨q3_237, q3_236, qs_39, q1_6, by decide +kernel⟩
theorem ok_X5_record : okV yX5_record cX5_record 2 none 0 := ⟨q3_83, q3_82, qs_16, q1_6, by decide +kernel⟩
theorem ok_X5_restore : okV yX5_restore cX5_restore 2 (some .int) 0 := ⟨q3_79, q3_77, q3_78, q1_6, by decide +kernel⟩
theorem ok_X5_rings : okV yX5_rings cX5_rings 7 (some .int) 2 := ⟨q3_165, q3_164, qs_27, q1_6, by decide +kernel⟩
theorem ok_X5_run : okV yX5_run cX5_run 2 (some .int) 0 := ⟨q3_221, q3_219, q3_220, q1_6, by decide +kernel⟩
theorem ok_X5_save : okV yX5_save cX5_save 2 (some .int) 0 := ⟨q3_75, q3_73, q3_74, q1_6, by decide +kernel⟩
theorem ok_X5_set : okV yX5_set cX5_set 4 (some .int) 2 := ⟨q3_145, q3_143, q3_144, q1_6, by decide +kernel⟩
theorem ok_X5_settle : okV yX5_settle cX5_settle 4 (some .int) 3 := ⟨q3_109, q3_107, q3_108, q1_6, by decide +kernel⟩
theorem ok_X5_share : okV yX5_share cX5_share 3 (some .double) 1 := ⟨q4_53, q4_51, q4_52, q1_6, by decide +kernel⟩
theorem ok_X5_silentTowns : okV yX5_silentTowns cX5_silentTowns 3 (some .int) 0 := ⟨q4_13, q4_12, qs_42, q1_6, by decide +kernel⟩
theorem ok_X5_splice : okV yX5_splice cX5_splice 3 (some .int) 2 := ⟨q3_129, q3_127, q3_128, q1_6, by decide +kernel⟩
theorem ok_X5_spliceNow : okV yX5_spliceNow cX5_spliceNow 4 (some .int) 2 := ⟨q3_137, q3_136, qs_23, q1_6, by decide +kernel⟩
theorem ok_X5_sum : okV yX5_sum cX5_sum 4 (some .int) 1 := ⟨q4_5, q4_4, qs_40, q1_6, by decide +kernel⟩
theorem ok_X5_takes : okV yX5_takes cX5_takes 3 (some .int) 2 := ⟨q3_173, q3_172, qs_29, q1_6, by decide +kernel⟩
theorem ok_X5_takesSign : okV yX5_takesSign cX5_takesSign 4 (some .boolean) 2 := ⟨q3_217, q3_216, qs_37, q1_6, by decide +kernel⟩
theorem ok_X5_town : okV yX5_town cX5_town 3 (some .int) 2 := ⟨q3_229, q3_227, q3_228, q1_6, by decide +kernel⟩
theorem ok_X5_turn : okV yX5_turn cX5_turn 4 none 0 := ⟨q3_157, q3_156, qs_25, q1_6, by decide +kernel⟩
theorem ok_X5_turns : okV yX5_turns cX5_turns 2 (some .int) 1 := ⟨q3_149, q3_147, q3_148, q1_6, by decide +kernel⟩
theorem ok_X5_turnsNow : okV yX5_turnsNow cX5_turnsNow 3 none 1 := ⟨q3_153, q3_152, qs_24, q1_6, by decide +kernel⟩
theorem ok_X5_undo : okV yX5_undo cX5_undo 2 (some .int) 0 := ⟨q3_71, q3_69, q3_70, q1_6, by decide +kernel⟩
theorem ok_X5_wanted : okV yX5_wanted cX5_wanted 3 (some .int) 2 := ⟨q3_169, q3_168, qs_28, q1_6, by decide +kernel⟩
theorem ok_X5_wearDown : okV yX5_wearDown cX5_wearDown 5 none 2 := ⟨q3_193, q3_192, qs_34, q1_6, by decide +kernel⟩
theorem ok_X5_winner : okV yX5_winner cX5_winner 2 (some .int) 1 := ⟨q4_25, q4_23, q4_24, q1_6, by decide +kernel⟩
set_option maxHeartbeats 4000000 in
set_option maxRecDepth 100000 in
theorem c_X4_isTown (l : Launch) (g : gx) (x : Int32)  : cR l g yX4_isTown cX4_isTown 1 (some .boolean) ({ frames := 0, cells := 0, slots := 0, locals := 0 } : Room) [.int x] [] (.int (bI (isT x))) := by
  refine cR.mk (by decide +kernel) (Nat.le_of_ble_eq_true rfl) ?_
  intro p e s m below meth c ls E hK hP hl
  obtain ⟨hx, hb, hr, hml, hts, hown, hlocks, hin⟩ := id E
  have hown : s.vm.findClass RX4 = some m.cls := hown
  have hl : lv_has ls 1 [(0, .int x)] := hl
  refine lv_iload_n hx hb dX4_isTown_0 rfl (lv_at hl 0 rfl) ?_
  refine lv_if_lt (tgt := 14) hx hb dX4_isTown_1 (by decide) (fun h_1 => ?_) (fun h_1 => ?_)
  · refine lv_iconst (v := 0) hx hb dX4_isTown_14 (by decide) ?_
    exact rZ_ret hx hb hr hlocks dX4_isTown_15 (by first | exact bI_t (by simp only [h_1, isT,  not_true_eq_false, not_false_eq_true, and_true, true_and, and_false, false_and, and_self, or_true, true_or, or_false, false_or, ne_eq, ite_true, ite_false, reduceIte]) | exact bI_f (by simp only [h_1, isT,  not_true_eq_false, not_false_eq_true, and_true, true_and, and_false, false_and, and_self, or_true, true_or, or_false, false_or, ne_eq, ite_true, ite_false, reduceIte]))
  · refine lv_iload_n hx hb dX4_isTown_4 rfl (lv_at hl 0 rfl) ?_
    refine lv_bipush (v := 6) hx hb dX4_isTown_5 (by decide) ?_
    refine lv_icmp_ge (tgt := 14) hx hb dX4_isTown_7 (by decide) (fun h_2 => ?_) (fun h_2 => ?_)
    · refine lv_iconst (v := 0) hx hb dX4_isTown_14 (by decide) ?_
      exact rZ_ret hx hb hr hlocks dX4_isTown_15 (by first | exact bI_t (by simp only [h_1, h_2, isT,  not_true_eq_false, not_false_eq_true, and_true, true_and, and_false, false_and, and_self, or_true, true_or, or_false, false_or, ne_eq, ite_true, ite_false, reduceIte]) | exact bI_f (by simp only [h_1, h_2, isT,  not_true_eq_false, not_false_eq_true, and_true, true_and, and_false, false_and, and_self, or_true, true_or, or_false, false_or, ne_eq, ite_true, ite_false, reduceIte]))
    · refine lv_iconst (v := 1) hx hb dX4_isTown_10 (by decide) ?_
      refine lv_goto (tgt := 15) hx hb dX4_isTown_11 (by decide) ?_
      exact rZ_ret hx hb hr hlocks dX4_isTown_15 (by first | exact bI_t (by simp only [h_1, h_2, isT,  not_true_eq_false, not_false_eq_true, and_true, true_and, and_false, false_and, and_self, or_true, true_or, or_false, false_or, ne_eq, ite_true, ite_false, reduceIte]) | exact bI_f (by simp only [h_1, h_2, isT,  not_true_eq_false, not_false_eq_true, and_true, true_and, and_false, false_and, and_self, or_true, true_or, or_false, false_or, ne_eq, ite_true, ite_false, reduceIte]))

set_option maxHeartbeats 4000000 in
set_option maxRecDepth 100000 in
theorem c_X4_slot (l : Launch) (g : gx) (t b : Nat)  : cR l g yX4_slot cX4_slot 2 (some .int) ({ frames := 0, cells := 0, slots := 0, locals := 0 } : Room) [.int (nI t), .int (nI b)] [] (.int (nI (t * 5 + b))) := by
  refine cR.mk (by decide +kernel) (Nat.le_of_ble_eq_true rfl) ?_
  intro p e s m below meth c ls E hK hP hl
  obtain ⟨hx, hb, hr, hml, hts, hown, hlocks, hin⟩ := id E
  have hown : s.vm.findClass RX4 = some m.cls := hown
  have hl : lv_has ls 2 [(0, .int (nI t)), (1, .int (nI b))] := hl
  refine lv_iload_n hx hb dX4_slot_0 rfl (lv_at hl 0 rfl) ?_
  refine lv_iconst (v := 5) hx hb dX4_slot_1 (by decide) ?_
  refine lv_imul hx hb dX4_slot_2 ?_
  refine b_top (y := nI (t * 5)) (pk_mul t 5) ?_
  refine lv_iload_n hx hb dX4_slot_3 rfl (lv_at hl 1 rfl) ?_
  refine lv_iadd hx hb dX4_slot_4 ?_
  refine b_top (y := nI ((t * 5) + b)) (nI_add (t * 5) b) ?_
  exact rI_ret hx hb hr hlocks dX4_slot_5 (rfl)

set_option maxHeartbeats 4000000 in
set_option maxRecDepth 100000 in
theorem c_X4_ringersFor (l : Launch) (g : gx) (x : Int32)  : cR l g yX4_ringersFor cX4_ringersFor 1 (some .int) ({ frames := 0, cells := 0, slots := 0, locals := 0 } : Room) [.int x] [] (.int (rF x)) := by
  refine cR.mk (by decide +kernel) (Nat.le_of_ble_eq_true rfl) ?_
  intro p e s m below meth c ls E hK hP hl
  obtain ⟨hx, hb, hr, hml, hts, hown, hlocks, hin⟩ := id E
  have hown : s.vm.findClass RX4 = some m.cls := hown
  have hl : lv_has ls 1 [(0, .int x)] := hl
  refine lv_iload_n hx hb dX4_ringersFor_0 rfl (lv_at hl 0 rfl) ?_
  refine lv_iconst (v := 1) hx hb dX4_ringersFor_1 (by decide) ?_
  refine lv_iadd hx hb dX4_ringersFor_2 ?_
  refine lv_iconst (v := 2) hx hb dX4_ringersFor_3 (by decide) ?_
  refine lv_idiv hx hb dX4_ringersFor_4 (by decide) ?_
  exact rI_ret hx hb hr hlocks dX4_ringersFor_5 (rfl)

set_option maxHeartbeats 4000000 in
set_option maxRecDepth 100000 in
theorem c_X4_isInRange (l : Launch) (g : gx) (x v : Int32)  : cR l g yX4_isInRange cX4_isInRange 2 (some .boolean) ({ frames := 0, cells := 0, slots := 0, locals := 0 } : Room) [.int x, .int v] [] (.int (bI (inR x v))) := by
  refine cR.mk (by decide +kernel) (Nat.le_of_ble_eq_true rfl) ?_
  intro p e s m below meth c ls E hK hP hl
  obtain ⟨hx, hb, hr, hml, hts, hown, hlocks, hin⟩ := id E
  have hown : s.vm.findClass RX4 = some m.cls := hown
  have hl : lv_has ls 2 [(0, .int x), (1, .int v)] := hl
  refine lv_iload_n hx hb dX4_isInRange_0 rfl (lv_at hl 0 rfl) ?_
  refine lv_if_ne (tgt := 20) hx hb dX4_isInRange_1 (by decide) (fun h_1 => ?_) (fun h_1 => ?_)
  · refine lv_iload_n hx hb dX4_isInRange_20 rfl (lv_at hl 1 rfl) ?_
    refine lv_iconst (v := 1) hx hb dX4_isInRange_21 (by decide) ?_
    refine lv_icmp_lt (tgt := 34) hx hb dX4_isInRange_22 (by decide) (fun h_2 => ?_) (fun h_2 => ?_)
    · refine lv_iconst (v := 0) hx hb dX4_isInRange_34 (by decide) ?_
      exact rZ_ret hx hb hr hlocks dX4_isInRange_35 (by first | exact bI_t (by simp only [h_1, h_2, inR,  not_true_eq_false, not_false_eq_true, and_true, true_and, and_false, false_and, and_self, or_true, true_or, or_false, false_or, ne_eq, ite_true, ite_false, reduceIte]) | exact bI_f (by simp only [h_1, h_2, inR,  not_true_eq_false, not_false_eq_true, and_true, true_and, and_false, false_and, and_self, or_true, true_or, or_false, false_or, ne_eq, ite_true, ite_false, reduceIte]))
    · refine lv_iload_n hx hb dX4_isInRange_25 rfl (lv_at hl 1 rfl) ?_
      refine lv_iconst (v := 3) hx hb dX4_isInRange_26 (by decide) ?_
      refine lv_icmp_gt (tgt := 34) hx hb dX4_isInRange_27 (by decide) (fun h_3 => ?_) (fun h_3 => ?_)
      · refine lv_iconst (v := 0) hx hb dX4_isInRange_34 (by decide) ?_
        exact rZ_ret hx hb hr hlocks dX4_isInRange_35 (by first | exact bI_t (by simp only [h_1, h_2, h_3, inR,  not_true_eq_false, not_false_eq_true, and_true, true_and, and_false, false_and, and_self, or_true, true_or, or_false, false_or, ne_eq, ite_true, ite_false, reduceIte]) | exact bI_f (by simp only [h_1, h_2, h_3, inR,  not_true_eq_false, not_false_eq_true, and_true, true_and, and_false, false_and, and_self, or_true, true_or, or_false, false_or, ne_eq, ite_true, ite_false, reduceIte]))
      · refine lv_iconst (v := 1) hx hb dX4_isInRange_30 (by decide) ?_
        refine lv_goto (tgt := 35) hx hb dX4_isInRange_31 (by decide) ?_
        exact rZ_ret hx hb hr hlocks dX4_isInRange_35 (by first | exact bI_t (by simp only [h_1, h_2, h_3, inR,  not_true_eq_false, not_false_eq_true, and_true, true_and, and_false, false_and, and_self, or_true, true_or, or_false, false_or, ne_eq, ite_true, ite_false, reduceIte]) | exact bI_f (by simp only [h_1, h_2, h_3, inR,  not_true_eq_false, not_false_eq_true, and_true, true_and, and_false, false_and, and_self, or_true, true_or, or_false, false_or, ne_eq, ite_true, ite_false, reduceIte]))
  · refine lv_iload_n hx hb dX4_isInRange_4 rfl (lv_at hl 1 rfl) ?_
    refine lv_if_lt (tgt := 18) hx hb dX4_isInRange_5 (by decide) (fun h_4 => ?_) (fun h_4 => ?_)
    · refine lv_iconst (v := 0) hx hb dX4_isInRange_18 (by decide) ?_
      exact rZ_ret hx hb hr hlocks dX4_isInRange_19 (by first | exact bI_t (by simp only [h_1, h_4, inR,  not_true_eq_false, not_false_eq_true, and_true, true_and, and_false, false_and, and_self, or_true, true_or, or_false, false_or, ne_eq, ite_true, ite_false, reduceIte]) | exact bI_f (by simp only [h_1, h_4, inR,  not_true_eq_false, not_false_eq_true, and_true, true_and, and_false, false_and, and_self, or_true, true_or, or_false, false_or, ne_eq, ite_true, ite_false, reduceIte]))
    · refine lv_iload_n hx hb dX4_isInRange_8 rfl (lv_at hl 1 rfl) ?_
      refine lv_bipush (v := 9) hx hb dX4_isInRange_9 (by decide) ?_
      refine lv_icmp_gt (tgt := 18) hx hb dX4_isInRange_11 (by decide) (fun h_5 => ?_) (fun h_5 => ?_)
      · refine lv_iconst (v := 0) hx hb dX4_isInRange_18 (by decide) ?_
        exact rZ_ret hx hb hr hlocks dX4_isInRange_19 (by first | exact bI_t (by simp only [h_1, h_4, h_5, inR,  not_true_eq_false, not_false_eq_true, and_true, true_and, and_false, false_and, and_self, or_true, true_or, or_false, false_or, ne_eq, ite_true, ite_false, reduceIte]) | exact bI_f (by simp only [h_1, h_4, h_5, inR,  not_true_eq_false, not_false_eq_true, and_true, true_and, and_false, false_and, and_self, or_true, true_or, or_false, false_or, ne_eq, ite_true, ite_false, reduceIte]))
      · refine lv_iconst (v := 1) hx hb dX4_isInRange_14 (by decide) ?_
        refine lv_goto (tgt := 19) hx hb dX4_isInRange_15 (by decide) ?_
        exact rZ_ret hx hb hr hlocks dX4_isInRange_19 (by first | exact bI_t (by simp only [h_1, h_4, h_5, inR,  not_true_eq_false, not_false_eq_true, and_true, true_and, and_false, false_and, and_self, or_true, true_or, or_false, false_or, ne_eq, ite_true, ite_false, reduceIte]) | exact bI_f (by simp only [h_1, h_4, h_5, inR,  not_true_eq_false, not_false_eq_true, and_true, true_and, and_false, false_and, and_self, or_true, true_or, or_false, false_or, ne_eq, ite_true, ite_false, reduceIte]))
