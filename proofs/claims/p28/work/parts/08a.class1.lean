theorem ok_X0_placeOf : okV yX0_placeOf cX0_placeOf 2 (some .int) 1 := ⟨q2_161, q2_160, qs_9, q1_3, by decide +kernel⟩
theorem ok_X0_record : okV yX0_record cX0_record 3 none 1 := ⟨q2_157, q2_155, q2_156, q1_3, by decide +kernel⟩
theorem ok_X1_foresee : okV yX1_foresee cX1_foresee 4 none 1 := ⟨q1_211, q1_209, q1_210, q1_4, by decide +kernel⟩
theorem ok_X1_pointsOf : okV yX1_pointsOf cX1_pointsOf 4 (some .int) 1 := ⟨q2_99, q2_97, q2_98, q1_4, by decide +kernel⟩
theorem ok_X1_ringIn : okV yX1_ringIn cX1_ringIn 11 none 2 := ⟨q1_215, q1_214, qs_0, q1_4, by decide +kernel⟩
theorem ok_X1_soundIn : okV yX1_soundIn cX1_soundIn 5 (some .int) 3 := ⟨q2_1, q1_239, q2_0, q1_4, by decide +kernel⟩
theorem ok_X1_winnerIn : okV yX1_winnerIn cX1_winnerIn 7 (some .int) 2 := ⟨q1_237, q1_236, qs_1, q1_4, by decide +kernel⟩
theorem ok_X3_addBell : okV yX3_addBell cX3_addBell 4 (some .int) 2 := ⟨q2_166, q2_164, q2_165, q1_2, by decide +kernel⟩
theorem ok_X3_allBells : okV yX3_allBells cX3_allBells 3 (some .int) 0 := ⟨q2_37, q2_35, q2_36, q1_2, by decide +kernel⟩
theorem ok_X3_allPoints : okV yX3_allPoints cX3_allPoints 3 (some .int) 0 := ⟨q2_29, q2_27, q2_28, q1_2, by decide +kernel⟩
theorem ok_X3_brokenRopes : okV yX3_brokenRopes cX3_brokenRopes 3 (some .int) 0 := ⟨q2_41, q2_39, q2_40, q1_2, by decide +kernel⟩
theorem ok_X3_copyBells : okS yX3_copyBells cX3_copyBells 2 none 2 := ⟨q2_91, q2_90, q1_2, by decide +kernel⟩
theorem ok_X3_copyFrom : okV yX3_copyFrom cX3_copyFrom 2 none 1 := ⟨q2_82, q2_80, q2_81, q1_2, by decide +kernel⟩
theorem ok_X3_copyTowns : okS yX3_copyTowns cX3_copyTowns 2 none 2 := ⟨q2_85, q2_84, q1_2, by decide +kernel⟩
theorem ok_X3_everyBell : okV yX3_everyBell cX3_everyBell 2 (some .int) 1 := ⟨q1_223, q1_221, q1_222, q1_2, by decide +kernel⟩
theorem ok_X3_fallSilent : okV yX3_fallSilent cX3_fallSilent 3 none 1 := ⟨q2_143, q2_142, qs_8, q1_2, by decide +kernel⟩
theorem ok_X3_fillSlot : okV yX3_fillSlot cX3_fillSlot 5 none 4 := ⟨q2_171, q2_170, qs_10, q1_2, by decide +kernel⟩
theorem ok_X3_givePoints : okV yX3_givePoints cX3_givePoints 4 none 1 := ⟨q2_131, q2_130, qs_5, q1_2, by decide +kernel⟩
theorem ok_X3_hasBell : okV yX3_hasBell cX3_hasBell 3 (some .boolean) 2 := ⟨q2_18, q2_16, q2_17, q1_2, by decide +kernel⟩
theorem ok_X3_isTakenByAnother : okV yX3_isTakenByAnother cX3_isTakenByAnother 4 (some .boolean) 2 := ⟨q2_203, q2_201, q2_202, q1_2, by decide +kernel⟩
theorem ok_X3_pass : okV yX3_pass cX3_pass 2 none 1 := ⟨q2_127, q2_125, q2_126, q1_2, by decide +kernel⟩
theorem ok_X3_removeBell : okV yX3_removeBell cX3_removeBell 6 none 2 := ⟨q2_179, q2_177, q2_178, q1_2, by decide +kernel⟩
theorem ok_X3_rested : okV yX3_rested cX3_rested 2 (some .int) 1 := ⟨q1_227, q1_225, q1_226, q1_2, by decide +kernel⟩
theorem ok_X3_silentTowns : okV yX3_silentTowns cX3_silentTowns 3 (some .int) 0 := ⟨q2_45, q2_43, q2_44, q1_2, by decide +kernel⟩
theorem ok_X3_tireRingers : okV yX3_tireRingers cX3_tireRingers 3 none 1 := ⟨q2_139, q2_138, qs_7, q1_2, by decide +kernel⟩
theorem ok_X3_wantedBells : okV yX3_wantedBells cX3_wantedBells 2 (some .int) 1 := ⟨q1_219, q1_217, q1_218, q1_2, by decide +kernel⟩
theorem ok_X3_wearRopes : okV yX3_wearRopes cX3_wearRopes 3 none 1 := ⟨q2_135, q2_134, qs_6, q1_2, by decide +kernel⟩
theorem ok_X4_bell : okV yX4_bell cX4_bell 5 (some .int) 3 := ⟨q2_14, q2_12, q2_13, q1_1, by decide +kernel⟩
theorem ok_X4_bestPlan : okV yX4_bestPlan cX4_bestPlan 8 (some .int) 1 := ⟨q2_103, q2_101, q2_102, q1_1, by decide +kernel⟩
theorem ok_X4_changePlan : okV yX4_changePlan cX4_changePlan 4 (some .int) 2 := ⟨q2_214, q2_213, qs_13, q1_1, by decide +kernel⟩
theorem ok_X4_count : okV yX4_count cX4_count 2 (some .int) 1 := ⟨q2_33, q2_31, q2_32, q1_1, by decide +kernel⟩
theorem ok_X4_feast : okV yX4_feast cX4_feast 4 (some .int) 2 := ⟨q2_218, q2_216, q2_217, q1_1, by decide +kernel⟩
theorem ok_X4_hang : okV yX4_hang cX4_hang 3 (some .int) 2 := ⟨q2_153, q2_151, q2_152, q1_1, by decide +kernel⟩
theorem ok_X4_heard : okV yX4_heard cX4_heard 3 (some .int) 2 := ⟨q2_55, q2_53, q2_54, q1_1, by decide +kernel⟩
theorem ok_X4_ifPlanned : okV yX4_ifPlanned cX4_ifPlanned 4 (some .int) 2 := ⟨q2_73, q2_71, q2_72, q1_1, by decide +kernel⟩
theorem ok_X4_isInRange : okS yX4_isInRange cX4_isInRange 2 (some .boolean) 2 := ⟨q2_225, q2_224, q1_1, by decide +kernel⟩
theorem ok_X4_isTown : okS yX4_isTown cX4_isTown 1 (some .boolean) 1 := ⟨q1_200, q1_199, q1_1, by decide +kernel⟩
theorem ok_X4_loudness : okV yX4_loudness cX4_loudness 2 (some .int) 1 := ⟨q1_207, q1_205, q1_206, q1_1, by decide +kernel⟩
theorem ok_X4_makeTurns : okV yX4_makeTurns cX4_makeTurns 4 none 2 := ⟨q2_123, q2_122, qs_4, q1_1, by decide +kernel⟩
theorem ok_X4_melt : okV yX4_melt cX4_melt 4 (some .int) 2 := ⟨q2_175, q2_173, q2_174, q1_1, by decide +kernel⟩
theorem ok_X4_mendRope : okV yX4_mendRope cX4_mendRope 5 (some .int) 2 := ⟨q2_192, q2_191, qs_12, q1_1, by decide +kernel⟩
theorem ok_X4_plan : okV yX4_plan cX4_plan 4 (some .int) 2 := ⟨q2_210, q2_208, q2_209, q1_1, by decide +kernel⟩
theorem ok_X4_planError : okV yX4_planError cX4_planError 3 (some .int) 2 := ⟨q2_77, q2_76, qs_2, q1_1, by decide +kernel⟩
theorem ok_X4_pointsIn : okV yX4_pointsIn cX4_pointsIn 4 (some .int) 2 := ⟨q2_116, q2_114, q2_115, q1_1, by decide +kernel⟩
theorem ok_X4_pointsWithPlan : okV yX4_pointsWithPlan cX4_pointsWithPlan 3 (some .int) 2 := ⟨q2_95, q2_94, qs_3, q1_1, by decide +kernel⟩
theorem ok_X4_ringersFor : okS yX4_ringersFor cX4_ringersFor 1 (some .int) 1 := ⟨q1_233, q1_232, q1_1, by decide +kernel⟩
theorem ok_X4_set : okV yX4_set cX4_set 4 (some .int) 2 := ⟨q2_222, q2_220, q2_221, q1_1, by decide +kernel⟩
theorem ok_X4_settle : okV yX4_settle cX4_settle 4 (some .int) 3 := ⟨q2_199, q2_197, q2_198, q1_1, by decide +kernel⟩
theorem ok_X4_share : okV yX4_share cX4_share 3 (some .double) 1 := ⟨q2_25, q2_23, q2_24, q1_1, by decide +kernel⟩
theorem ok_X4_slot : okS yX4_slot cX4_slot 2 (some .int) 2 := ⟨q1_230, q1_229, q1_1, by decide +kernel⟩
theorem ok_X4_splice : okV yX4_splice cX4_splice 4 (some .int) 2 := ⟨q2_183, q2_181, q2_182, q1_1, by decide +kernel⟩
theorem ok_X4_spliceError : okV yX4_spliceError cX4_spliceError 3 (some .int) 2 := ⟨q2_187, q2_186, qs_11, q1_1, by decide +kernel⟩
theorem ok_X4_town : okV yX4_town cX4_town 3 (some .int) 2 := ⟨q1_197, q1_195, q1_196, q1_1, by decide +kernel⟩
theorem ok_X4_turns : okV yX4_turns cX4_turns 3 (some .int) 1 := ⟨q2_229, q2_227, q2_228, q1_1, by decide +kernel⟩
theorem ok_X4_turnsError : okS yX4_turnsError cX4_turnsError 1 (some .int) 1 := ⟨q2_119, q2_118, q1_1, by decide +kernel⟩
theorem ok_X4_winner : okV yX4_winner cX4_winner 2 (some .int) 1 := ⟨q2_60, q2_58, q2_59, q1_1, by decide +kernel⟩
set_option maxHeartbeats 4000000 in
set_option maxRecDepth 100000 in
theorem c_X4_isTown (l : Launch) (g : gx) (x : Int32)  : cR l g yX4_isTown cX4_isTown 1 (some .boolean) ({ frames := 0, cells := 0, slots := 0, locals := 0 } : Room) [.int x] [] (.int (bI (isT x))) := by
  refine cR.mk (by decide +kernel) (Nat.le_of_ble_eq_true rfl) ?_
  intro p e s m below meth c ls E hK hP hl
  obtain ⟨hx, hb, hr, hml, hts, hown, hlocks, hin⟩ := id E
  have hown : s.vm.findClass RX4 = some m.cls := hown
  have hl : lv_has ls 1 [(0, .int x)] := hl
  refine lv_iload_n hx hb dX4_isTown_0 rfl (lv_at hl 0 rfl) ?_
  refine lv_if_lt (tgt := 14) hx hb dX4_isTown_1 (by decide) (fun h_1 => ?_) (fun h_1 => ?_)
  · refine lv_iconst (v := 0) hx hb dX4_isTown_14 (by decide) ?_
    exact rZ_ret hx hb hr hlocks dX4_isTown_15 (by first | exact bI_t (by simp only [h_1, isT,  not_true_eq_false, not_false_eq_true, and_true, true_and, and_false, false_and, and_self, or_true, true_or, or_false, false_or, ne_eq, ite_true, ite_false, reduceIte]) | exact bI_f (by simp only [h_1, isT,  not_true_eq_false, not_false_eq_true, and_true, true_and, and_false, false_and, and_self, or_true, true_or, or_false, false_or, ne_eq, ite_true, ite_false, reduceIte]))
  · refine lv_iload_n hx hb dX4_isTown_4 rfl (lv_at hl 0 rfl) ?_
    refine lv_bipush (v := 6) hx hb dX4_isTown_5 (by decide) ?_
    refine lv_icmp_ge (tgt := 14) hx hb dX4_isTown_7 (by decide) (fun h_2 => ?_) (fun h_2 => ?_)
    · refine lv_iconst (v := 0) hx hb dX4_isTown_14 (by decide) ?_
      exact rZ_ret hx hb hr hlocks dX4_isTown_15 (by first | exact bI_t (by simp only [h_1, h_2, isT,  not_true_eq_false, not_false_eq_true, and_true, true_and, and_false, false_and, and_self, or_true, true_or, or_false, false_or, ne_eq, ite_true, ite_false, reduceIte]) | exact bI_f (by simp only [h_1, h_2, isT,  not_true_eq_false, not_false_eq_true, and_true, true_and, and_false, false_and, and_self, or_true, true_or, or_false, false_or, ne_eq, ite_true, ite_false, reduceIte]))
    · refine lv_iconst (v := 1) hx hb dX4_isTown_10 (by decide) ?_
      refine lv_goto (tgt := 15) hx hb dX4_isTown_11 (by decide) ?_
      exact rZ_ret hx hb hr hlocks dX4_isTown_15 (by first | exact bI_t (by simp only [h_1, h_2, isT,  not_true_eq_false, not_false_eq_true, and_true, true_and, and_false, false_and, and_self, or_true, true_or, or_false, false_or, ne_eq, ite_true, ite_false, reduceIte]) | exact bI_f (by simp only [h_1, h_2, isT,  not_true_eq_false, not_false_eq_true, and_true, true_and, and_false, false_and, and_self, or_true, true_or, or_false, false_or, ne_eq, ite_true, ite_false, reduceIte]))

set_option maxHeartbeats 4000000 in
set_option maxRecDepth 100000 in
theorem c_X4_slot (l : Launch) (g : gx) (t b : Nat)  : cR l g yX4_slot cX4_slot 2 (some .int) ({ frames := 0, cells := 0, slots := 0, locals := 0 } : Room) [.int (nI t), .int (nI b)] [] (.int (nI (t * 5 + b))) := by
  refine cR.mk (by decide +kernel) (Nat.le_of_ble_eq_true rfl) ?_
  intro p e s m below meth c ls E hK hP hl
  obtain ⟨hx, hb, hr, hml, hts, hown, hlocks, hin⟩ := id E
  have hown : s.vm.findClass RX4 = some m.cls := hown
  have hl : lv_has ls 2 [(0, .int (nI t)), (1, .int (nI b))] := hl
  refine lv_iload_n hx hb dX4_slot_0 rfl (lv_at hl 0 rfl) ?_
  refine lv_iconst (v := 5) hx hb dX4_slot_1 (by decide) ?_
  refine lv_imul hx hb dX4_slot_2 ?_
  refine b_top (y := nI (t * 5)) (pk_mul t 5) ?_
  refine lv_iload_n hx hb dX4_slot_3 rfl (lv_at hl 1 rfl) ?_
  refine lv_iadd hx hb dX4_slot_4 ?_
  refine b_top (y := nI ((t * 5) + b)) (nI_add (t * 5) b) ?_
  exact rI_ret hx hb hr hlocks dX4_slot_5 (rfl)

set_option maxHeartbeats 4000000 in
set_option maxRecDepth 100000 in
theorem c_X4_ringersFor (l : Launch) (g : gx) (x : Int32)  : cR l g yX4_ringersFor cX4_ringersFor 1 (some .int) ({ frames := 0, cells := 0, slots := 0, locals := 0 } : Room) [.int x] [] (.int (rF x)) := by
  refine cR.mk (by decide +kernel) (Nat.le_of_ble_eq_true rfl) ?_
  intro p e s m below meth c ls E hK hP hl
  obtain ⟨hx, hb, hr, hml, hts, hown, hlocks, hin⟩ := id E
  have hown : s.vm.findClass RX4 = some m.cls := hown
  have hl : lv_has ls 1 [(0, .int x)] := hl
  refine lv_iload_n hx hb dX4_ringersFor_0 rfl (lv_at hl 0 rfl) ?_
  refine lv_iconst (v := 1) hx hb dX4_ringersFor_1 (by decide) ?_
  refine lv_iadd hx hb dX4_ringersFor_2 ?_
  refine lv_iconst (v := 2) hx hb dX4_ringersFor_3 (by decide) ?_
  refine lv_idiv hx hb dX4_ringersFor_4 (by decide) ?_
  exact rI_ret hx hb hr hlocks dX4_ringersFor_5 (rfl)

set_option maxHeartbeats 4000000 in
set_option maxRecDepth 100000 in
theorem c_X4_isInRange (l : Launch) (g : gx) (x v : Int32)  : cR l g yX4_isInRange cX4_isInRange 2 (some .boolean) ({ frames := 0, cells := 0, slots := 0, locals := 0 } : Room) [.int x, .int v] [] (.int (bI (inR x v))) := by
  refine cR.mk (by decide +kernel) (Nat.le_of_ble_eq_true rfl) ?_
  intro p e s m below meth c ls E hK hP hl
  obtain ⟨hx, hb, hr, hml, hts, hown, hlocks, hin⟩ := id E
  have hown : s.vm.findClass RX4 = some m.cls := hown
  have hl : lv_has ls 2 [(0, .int x), (1, .int v)] := hl
  refine lv_iload_n hx hb dX4_isInRange_0 rfl (lv_at hl 0 rfl) ?_
  refine lv_if_ne (tgt := 20) hx hb dX4_isInRange_1 (by decide) (fun h_1 => ?_) (fun h_1 => ?_)
  · refine lv_iload_n hx hb dX4_isInRange_20 rfl (lv_at hl 1 rfl) ?_
    refine lv_iconst (v := 1) hx hb dX4_isInRange_21 (by decide) ?_
    refine lv_icmp_lt (tgt := 34) hx hb dX4_isInRange_22 (by decide) (fun h_2 => ?_) (fun h_2 => ?_)
    · refine lv_iconst (v := 0) hx hb dX4_isInRange_34 (by decide) ?_
      exact rZ_ret hx hb hr hlocks dX4_isInRange_35 (by first | exact bI_t (by simp only [h_1, h_2, inR,  not_true_eq_false, not_false_eq_true, and_true, true_and, and_false, false_and, and_self, or_true, true_or, or_false, false_or, ne_eq, ite_true, ite_false, reduceIte]) | exact bI_f (by simp only [h_1, h_2, inR,  not_true_eq_false, not_false_eq_true, and_true, true_and, and_false, false_and, and_self, or_true, true_or, or_false, false_or, ne_eq, ite_true, ite_false, reduceIte]))
    · refine lv_iload_n hx hb dX4_isInRange_25 rfl (lv_at hl 1 rfl) ?_
      refine lv_iconst (v := 3) hx hb dX4_isInRange_26 (by decide) ?_
      refine lv_icmp_gt (tgt := 34) hx hb dX4_isInRange_27 (by decide) (fun h_3 => ?_) (fun h_3 => ?_)
      · refine lv_iconst (v := 0) hx hb dX4_isInRange_34 (by decide) ?_
        exact rZ_ret hx hb hr hlocks dX4_isInRange_35 (by first | exact bI_t (by simp only [h_1, h_2, h_3, inR,  not_true_eq_false, not_false_eq_true, and_true, true_and, and_false, false_and, and_self, or_true, true_or, or_false, false_or, ne_eq, ite_true, ite_false, reduceIte]) | exact bI_f (by simp only [h_1, h_2, h_3, inR,  not_true_eq_false, not_false_eq_true, and_true, true_and, and_false, false_and, and_self, or_true, true_or, or_false, false_or, ne_eq, ite_true, ite_false, reduceIte]))
      · refine lv_iconst (v := 1) hx hb dX4_isInRange_30 (by decide) ?_
        refine lv_goto (tgt := 35) hx hb dX4_isInRange_31 (by decide) ?_
        exact rZ_ret hx hb hr hlocks dX4_isInRange_35 (by first | exact bI_t (by simp only [h_1, h_2, h_3, inR,  not_true_eq_false, not_false_eq_true, and_true, true_and, and_false, false_and, and_self, or_true, true_or, or_false, false_or, ne_eq, ite_true, ite_false, reduceIte]) | exact bI_f (by simp only [h_1, h_2, h_3, inR,  not_true_eq_false, not_false_eq_true, and_true, true_and, and_false, false_and, and_self, or_true, true_or, or_false, false_or, ne_eq, ite_true, ite_false, reduceIte]))
  · refine lv_iload_n hx hb dX4_isInRange_4 rfl (lv_at hl 1 rfl) ?_
    refine lv_if_lt (tgt := 18) hx hb dX4_isInRange_5 (by decide) (fun h_4 => ?_) (fun h_4 => ?_)
    · refine lv_iconst (v := 0) hx hb dX4_isInRange_18 (by decide) ?_
      exact rZ_ret hx hb hr hlocks dX4_isInRange_19 (by first | exact bI_t (by simp only [h_1, h_4, inR,  not_true_eq_false, not_false_eq_true, and_true, true_and, and_false, false_and, and_self, or_true, true_or, or_false, false_or, ne_eq, ite_true, ite_false, reduceIte]) | exact bI_f (by simp only [h_1, h_4, inR,  not_true_eq_false, not_false_eq_true, and_true, true_and, and_false, false_and, and_self, or_true, true_or, or_false, false_or, ne_eq, ite_true, ite_false, reduceIte]))
    · refine lv_iload_n hx hb dX4_isInRange_8 rfl (lv_at hl 1 rfl) ?_
      refine lv_bipush (v := 9) hx hb dX4_isInRange_9 (by decide) ?_
      refine lv_icmp_gt (tgt := 18) hx hb dX4_isInRange_11 (by decide) (fun h_5 => ?_) (fun h_5 => ?_)
      · refine lv_iconst (v := 0) hx hb dX4_isInRange_18 (by decide) ?_
        exact rZ_ret hx hb hr hlocks dX4_isInRange_19 (by first | exact bI_t (by simp only [h_1, h_4, h_5, inR,  not_true_eq_false, not_false_eq_true, and_true, true_and, and_false, false_and, and_self, or_true, true_or, or_false, false_or, ne_eq, ite_true, ite_false, reduceIte]) | exact bI_f (by simp only [h_1, h_4, h_5, inR,  not_true_eq_false, not_false_eq_true, and_true, true_and, and_false, false_and, and_self, or_true, true_or, or_false, false_or, ne_eq, ite_true, ite_false, reduceIte]))
      · refine lv_iconst (v := 1) hx hb dX4_isInRange_14 (by decide) ?_
        refine lv_goto (tgt := 19) hx hb dX4_isInRange_15 (by decide) ?_
        exact rZ_ret hx hb hr hlocks dX4_isInRange_19 (by first | exact bI_t (by simp only [h_1, h_4, h_5, inR,  not_true_eq_false, not_false_eq_true, and_true, true_and, and_false, false_and, and_self, or_true, true_or, or_false, false_or, ne_eq, ite_true, ite_false, reduceIte]) | exact bI_f (by simp only [h_1, h_4, h_5, inR,  not_true_eq_false, not_false_eq_true, and_true, true_and, and_false, false_and, and_self, or_true, true_or, or_false, false_or, ne_eq, ite_true, ite_false, reduceIte]))
