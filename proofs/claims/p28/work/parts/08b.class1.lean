set_option maxHeartbeats 4000000 in
set_option maxRecDepth 100000 in
theorem c_X4_turnsError (l : Launch) (g : gx) (x : Int32)  : cR l g yX4_turnsError cX4_turnsError 1 (some .int) ({ frames := 0, cells := 0, slots := 0, locals := 0 } : Room) [.int x] [] (.int (tErr x)) := by
  refine cR.mk (by decide +kernel) (Nat.le_of_ble_eq_true rfl) ?_
  intro p e s m below meth c ls E hK hP hl
  obtain ⟨hx, hb, hr, hml, hts, hown, hlocks, hin⟩ := id E
  have hown : s.vm.findClass RX4 = some m.cls := hown
  have hl : lv_has ls 1 [(0, .int x)] := hl
  refine lv_iload_n hx hb dX4_turnsError_0 rfl (lv_at hl 0 rfl) ?_
  refine lv_iconst (v := 1) hx hb dX4_turnsError_1 (by decide) ?_
  refine lv_icmp_lt (tgt := 11) hx hb dX4_turnsError_2 (by decide) (fun h_1 => ?_) (fun h_1 => ?_)
  · refine lv_bipush (v := -2) hx hb dX4_turnsError_11 (by decide) ?_
    refine lv_goto (tgt := 17) hx hb dX4_turnsError_13 (by decide) ?_
    exact rI_ret hx hb hr hlocks dX4_turnsError_17 (by simp only [h_1, tErr,  not_true_eq_false, not_false_eq_true, and_true, true_and, and_false, false_and, and_self, or_true, true_or, or_false, false_or, ne_eq, ite_true, ite_false, reduceIte])
  · refine lv_iload_n hx hb dX4_turnsError_5 rfl (lv_at hl 0 rfl) ?_
    refine lv_bipush (v := 50) hx hb dX4_turnsError_6 (by decide) ?_
    refine lv_icmp_le (tgt := 16) hx hb dX4_turnsError_8 (by decide) (fun h_2 => ?_) (fun h_2 => ?_)
    · refine lv_iconst (v := 0) hx hb dX4_turnsError_16 (by decide) ?_
      exact rI_ret hx hb hr hlocks dX4_turnsError_17 (by simp only [h_1, h_2, tErr,  not_true_eq_false, not_false_eq_true, and_true, true_and, and_false, false_and, and_self, or_true, true_or, or_false, false_or, ne_eq, ite_true, ite_false, reduceIte])
    · refine lv_bipush (v := -2) hx hb dX4_turnsError_11 (by decide) ?_
      refine lv_goto (tgt := 17) hx hb dX4_turnsError_13 (by decide) ?_
      exact rI_ret hx hb hr hlocks dX4_turnsError_17 (by simp only [h_1, h_2, tErr,  not_true_eq_false, not_false_eq_true, and_true, true_and, and_false, false_and, and_self, or_true, true_or, or_false, false_or, ne_eq, ite_true, ite_false, reduceIte])

set_option maxHeartbeats 4000000 in
set_option maxRecDepth 100000 in
theorem c_X3_everyBell (l : Launch) (g : gx) (h : Nat) (a : Nat → Nat) (V : sV) (t : Nat) (ht : t < 6)  : cR l g yX3_everyBell cX3_everyBell 2 (some .int) ({ frames := 0, cells := 0, slots := 0, locals := 0 } : Room) [.ref h, .int (nI t)] [vB g h a V] (.int (evB V t)) := by
  refine cR.mk (by decide +kernel) (Nat.le_of_ble_eq_true rfl) ?_
  intro p e s m below meth c ls E hK hP hl
  obtain ⟨hx, hb, hr, hml, hts, hown, hlocks, hin⟩ := id E
  have hown : s.vm.findClass RX3 = some m.cls := hown
  have hl : lv_has ls 2 [(0, .ref h), (1, .int (nI t))] := hl
  refine lv_iconst (v := 1) hx hb dX3_everyBell_0 (by decide) ?_
  refine lv_aload_n hx hb dX3_everyBell_1 rfl (lv_at hl 0 rfl) ?_
  refine b_get (v := .ref (a 3)) hx hb hts inX3 hown hK hP 0 0 3 rfl rfl rfl (by decide) q1_29 rfl rfl dX3_everyBell_2 ?_
  refine lv_iload_n hx hb dX3_everyBell_5 rfl (lv_at hl 1 rfl) ?_
  refine b_iald (v := V 3 t) hx hb hK hP 0 4 (t) rfl rfl rfl (by omega) rfl rfl dX3_everyBell_6 ?_
  refine lv_ishl hx hb dX3_everyBell_7 ?_
  refine lv_iconst (v := 1) hx hb dX3_everyBell_8 (by decide) ?_
  refine lv_isub hx hb dX3_everyBell_9 ?_
  exact rI_ret hx hb hr hlocks dX3_everyBell_10 (rfl)

set_option maxHeartbeats 4000000 in
set_option maxRecDepth 100000 in
theorem c_X3_rested (l : Launch) (g : gx) (h : Nat) (a : Nat → Nat) (V : sV) (t : Nat) (ht : t < 6)  : cR l g yX3_rested cX3_rested 2 (some .int) ({ frames := 0, cells := 0, slots := 0, locals := 0 } : Room) [.ref h, .int (nI t)] [vB g h a V] (.int (resT V t)) := by
  refine cR.mk (by decide +kernel) (Nat.le_of_ble_eq_true rfl) ?_
  intro p e s m below meth c ls E hK hP hl
  obtain ⟨hx, hb, hr, hml, hts, hown, hlocks, hin⟩ := id E
  have hown : s.vm.findClass RX3 = some m.cls := hown
  have hl : lv_has ls 2 [(0, .ref h), (1, .int (nI t))] := hl
  refine lv_aload_n hx hb dX3_rested_0 rfl (lv_at hl 0 rfl) ?_
  refine b_get (v := .ref (a 1)) hx hb hts inX3 hown hK hP 0 0 1 rfl rfl rfl (by decide) q1_25 rfl rfl dX3_rested_1 ?_
  refine lv_iload_n hx hb dX3_rested_4 rfl (lv_at hl 1 rfl) ?_
  refine b_iald (v := V 1 t) hx hb hK hP 0 2 (t) rfl rfl rfl (by omega) rfl rfl dX3_rested_5 ?_
  refine lv_aload_n hx hb dX3_rested_6 rfl (lv_at hl 0 rfl) ?_
  refine b_get (v := .ref (a 2)) hx hb hts inX3 hown hK hP 0 0 2 rfl rfl rfl (by decide) q1_27 rfl rfl dX3_rested_7 ?_
  refine lv_iload_n hx hb dX3_rested_10 rfl (lv_at hl 1 rfl) ?_
  refine b_iald (v := V 2 t) hx hb hK hP 0 3 (t) rfl rfl rfl (by omega) rfl rfl dX3_rested_11 ?_
  refine lv_isub hx hb dX3_rested_12 ?_
  exact rI_ret hx hb hr hlocks dX3_rested_13 (rfl)

set_option maxHeartbeats 4000000 in
set_option maxRecDepth 100000 in
theorem c_X3_wantedBells (l : Launch) (g : gx) (h : Nat) (a : Nat → Nat) (V : sV) (t : Nat) (ht : t < 6)  : cR l g yX3_wantedBells cX3_wantedBells 2 (some .int) ({ frames := 1, cells := 0, slots := 0, locals := 21 } : Room) [.ref h, .int (nI t)] [vB g h a V] (.int (wantC V t)) := by
  refine cR.mk (by decide +kernel) (Nat.le_of_ble_eq_true rfl) ?_
  intro p e s m below meth c ls E hK hP hl
  obtain ⟨hx, hb, hr, hml, hts, hown, hlocks, hin⟩ := id E
  have hown : s.vm.findClass RX3 = some m.cls := hown
  have hl : lv_has ls 2 [(0, .ref h), (1, .int (nI t))] := hl
  refine lv_aload_n hx hb dX3_wantedBells_0 rfl (lv_at hl 0 rfl) ?_
  refine b_get (v := .int (V 12 2)) hx hb hts inX3 hown hK hP 0 0 14 rfl rfl rfl (by decide) q1_55 rfl rfl dX3_wantedBells_1 ?_
  refine lv_bipush (v := 7) hx hb dX3_wantedBells_4 (by decide) ?_
  refine lv_irem hx hb dX3_wantedBells_6 (by decide) ?_
  refine lv_aload_n hx hb dX3_wantedBells_7 rfl (lv_at hl 0 rfl) ?_
  refine b_get (v := .ref (a 5)) hx hb hts inX3 hown hK hP 0 0 5 rfl rfl rfl (by decide) q1_33 rfl rfl dX3_wantedBells_8 ?_
  refine lv_iload_n hx hb dX3_wantedBells_11 rfl (lv_at hl 1 rfl) ?_
  refine b_iald (v := V 5 t) hx hb hK hP 0 6 (t) rfl rfl rfl (by omega) rfl rfl dX3_wantedBells_12 ?_
  refine lv_icmp_ne (tgt := 24) hx hb dX3_wantedBells_13 (by decide) (fun h_1 => ?_) (fun h_1 => ?_)
  · refine lv_aload_n hx hb dX3_wantedBells_24 rfl (lv_at hl 0 rfl) ?_
    refine b_get (v := .ref (a 4)) hx hb hts inX3 hown hK hP 0 0 4 rfl rfl rfl (by decide) q1_31 rfl rfl dX3_wantedBells_25 ?_
    refine lv_iload_n hx hb dX3_wantedBells_28 rfl (lv_at hl 1 rfl) ?_
    refine b_iald (v := V 4 t) hx hb hK hP 0 5 (t) rfl rfl rfl (by omega) rfl rfl dX3_wantedBells_29 ?_
    exact rI_ret hx hb hr hlocks dX3_wantedBells_30 (by simp only [h_1, wantC,  not_true_eq_false, not_false_eq_true, and_true, true_and, and_false, false_and, and_self, or_true, true_or, or_false, false_or, ne_eq, ite_true, ite_false, reduceIte])
  · refine lv_aload_n hx hb dX3_wantedBells_16 rfl (lv_at hl 0 rfl) ?_
    refine lv_iload_n hx hb dX3_wantedBells_17 rfl (lv_at hl 1 rfl) ?_
    refine call_VR (As := [.int (nI t)]) (rest := []) E rfl hK hP (c_X3_everyBell l g h a V t (by omega)) ok_X3_everyBell rfl q1_220 [0] rfl (b_recv hK hP 0 0 rfl rfl rfl rfl) ⟨⟨rfl, rfl⟩, Nat.le_of_ble_eq_true rfl, Nat.le_of_ble_eq_true rfl⟩ hl.1 (Nat.le_of_ble_eq_true rfl) ⟨Nat.le_of_ble_eq_true rfl, Nat.le_of_ble_eq_true rfl⟩ rfl dX3_wantedBells_18 ?_
    refine lv_goto (tgt := 30) hx hb dX3_wantedBells_21 (by decide) ?_
    exact rI_ret hx hb hr hlocks dX3_wantedBells_30 (by simp only [h_1, wantC,  not_true_eq_false, not_false_eq_true, and_true, true_and, and_false, false_and, and_self, or_true, true_or, or_false, false_or, ne_eq, ite_true, ite_false, reduceIte])
