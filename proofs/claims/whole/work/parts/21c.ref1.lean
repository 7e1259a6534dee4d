set_option maxHeartbeats 4000000 in
set_option maxRecDepth 100000 in
theorem c_X5_takes (l : Launch) (g : gx) (h : Nat) (a : Nat → Nat) (V X : sV) (t b : Nat) (ht : t < 6) (hb5 : b < 5) : cR l g yX5_takes cX5_takes 3 (some .int) ({ frames := 1, cells := 0, slots := 0, locals := 22 } : Room) [.ref h, .int (nI t), .int (nI b)] [mV g h a V X] (.int (rF (V 9 (t * 5 + b)))) := by
  refine cR.mk (by decide +kernel) (Nat.le_of_ble_eq_true rfl) ?_
  intro p e s m below meth c ls E hK hP hl
  obtain ⟨hx, hb, hr, hml, hts, hown, hlocks, hin⟩ := id E
  have hown : s.vm.findClass RX5 = some m.cls := hown
  have hl : lv_has ls 3 [(0, .ref h), (1, .int (nI t)), (2, .int (nI b))] := hl
  refine lv_aload_n hx hb dX5_takes_0 rfl (lv_at hl 0 rfl) ?_
  refine lv_iload_n hx hb dX5_takes_1 rfl (lv_at hl 1 rfl) ?_
  refine lv_bipush (v := 9) hx hb dX5_takes_2 (by decide) ?_
  refine lv_iload_n hx hb dX5_takes_4 rfl (lv_at hl 2 rfl) ?_
  refine lv_iadd hx hb dX5_takes_5 ?_
  refine b_top (y := nI (9 + b)) (nI_add 9 b) ?_
  refine call_VR (As := [.int (nI t), .int (nI (9 + b))]) (rest := []) E rfl hK hP (c_X5_of_9 l g h a V X t b (by omega) (by omega)) ok_X5_of rfl q3_94 [0] rfl (b_recv hK hP 0 0 rfl rfl rfl rfl) ⟨⟨rfl, rfl⟩, Nat.le_of_ble_eq_true rfl, Nat.le_of_ble_eq_true rfl⟩ hl.1 (Nat.le_of_ble_eq_true rfl) ⟨Nat.le_of_ble_eq_true rfl, Nat.le_of_ble_eq_true rfl⟩ rfl dX5_takes_6 ?_
  refine lv_iconst (v := 1) hx hb dX5_takes_9 (by decide) ?_
  refine lv_iadd hx hb dX5_takes_10 ?_
  refine lv_iconst (v := 2) hx hb dX5_takes_11 (by decide) ?_
  refine lv_idiv hx hb dX5_takes_12 (by decide) ?_
  exact rI_ret hx hb hr hlocks dX5_takes_13 (rfl)

set_option maxHeartbeats 4000000 in
set_option maxRecDepth 100000 in
theorem c_X5_allBells (l : Launch) (g : gx) (h : Nat) (a : Nat → Nat) (V X : sV) (t : Nat) (ht : t < 6) : cR l g yX5_allBells cX5_allBells 2 (some .int) ({ frames := 1, cells := 0, slots := 0, locals := 22 } : Room) [.ref h, .int (nI t)] [mV g h a V X] (.int (evB V t)) := by
  refine cR.mk (by decide +kernel) (Nat.le_of_ble_eq_true rfl) ?_
  intro p e s m below meth c ls E hK hP hl
  obtain ⟨hx, hb, hr, hml, hts, hown, hlocks, hin⟩ := id E
  have hown : s.vm.findClass RX5 = some m.cls := hown
  have hl : lv_has ls 2 [(0, .ref h), (1, .int (nI t))] := hl
  refine lv_iconst (v := 1) hx hb dX5_allBells_0 (by decide) ?_
  refine lv_aload_n hx hb dX5_allBells_1 rfl (lv_at hl 0 rfl) ?_
  refine lv_iload_n hx hb dX5_allBells_2 rfl (lv_at hl 1 rfl) ?_
  refine lv_iconst (v := 3) hx hb dX5_allBells_3 (by decide) ?_
  refine call_VR (As := [.int (nI t), .int 3]) (rest := [.int 1]) E rfl hK hP (c_X5_of_k l g h a V X t 3 (by omega) (by omega)) ok_X5_of rfl q3_94 [0] rfl (b_recv hK hP 0 0 rfl rfl rfl rfl) ⟨⟨rfl, rfl⟩, Nat.le_of_ble_eq_true rfl, Nat.le_of_ble_eq_true rfl⟩ hl.1 (Nat.le_of_ble_eq_true rfl) ⟨Nat.le_of_ble_eq_true rfl, Nat.le_of_ble_eq_true rfl⟩ rfl dX5_allBells_4 ?_
  refine lv_ishl hx hb dX5_allBells_7 ?_
  refine lv_iconst (v := 1) hx hb dX5_allBells_8 (by decide) ?_
  refine lv_isub hx hb dX5_allBells_9 ?_
  exact rI_ret hx hb hr hlocks dX5_allBells_10 (rfl)

set_option maxHeartbeats 4000000 in
set_option maxRecDepth 100000 in
theorem c_X5_wanted (l : Launch) (g : gx) (h : Nat) (a : Nat → Nat) (V X : sV) (t : Nat) (pl : Int32) (ht : t < 6) : cR l g yX5_wanted cX5_wanted 3 (some .int) ({ frames := 2, cells := 0, slots := 0, locals := 43 } : Room) [.ref h, .int (nI t), .int pl] [mV g h a V X] (.int (wM V t pl)) := by
  refine cR.mk (by decide +kernel) (Nat.le_of_ble_eq_true rfl) ?_
  intro p e s m below meth c ls E hK hP hl
  obtain ⟨hx, hb, hr, hml, hts, hown, hlocks, hin⟩ := id E
  have hown : s.vm.findClass RX5 = some m.cls := hown
  have hl : lv_has ls 3 [(0, .ref h), (1, .int (nI t)), (2, .int pl)] := hl
  refine lv_aload_n hx hb dX5_wanted_0 rfl (lv_at hl 0 rfl) ?_
  refine lv_iload_n hx hb dX5_wanted_1 rfl (lv_at hl 1 rfl) ?_
  refine lv_bipush (v := 6) hx hb dX5_wanted_2 (by decide) ?_
  refine call_VR (As := [.int (nI t), .int 6]) (rest := []) E rfl hK hP (c_X5_of_k l g h a V X t 6 (by omega) (by omega)) ok_X5_of rfl q3_94 [0] rfl (b_recv hK hP 0 0 rfl rfl rfl rfl) ⟨⟨rfl, rfl⟩, Nat.le_of_ble_eq_true rfl, Nat.le_of_ble_eq_true rfl⟩ hl.1 (Nat.le_of_ble_eq_true rfl) ⟨Nat.le_of_ble_eq_true rfl, Nat.le_of_ble_eq_true rfl⟩ rfl dX5_wanted_4 ?_
  refine lv_if_le (tgt := 14) hx hb dX5_wanted_7 (by decide) (fun h_1 => ?_) (fun h_1 => ?_)
  · refine lv_aload_n hx hb dX5_wanted_14 rfl (lv_at hl 0 rfl) ?_
    refine b_get (v := .ref (a 0)) hx hb hts inX5 hown hK hP 0 0 0 rfl rfl rfl (by decide) q3_25 rfl rfl dX5_wanted_15 ?_
    refine lv_iconst (v := 2) hx hb dX5_wanted_18 (by decide) ?_
    refine b_iald (v := V 12 2) hx hb hK hP 0 1 (2) rfl rfl rfl (by omega) rfl rfl dX5_wanted_19 ?_
    refine lv_bipush (v := 7) hx hb dX5_wanted_20 (by decide) ?_
    refine lv_irem hx hb dX5_wanted_22 (by decide) ?_
    refine lv_aload_n hx hb dX5_wanted_23 rfl (lv_at hl 0 rfl) ?_
    refine lv_iload_n hx hb dX5_wanted_24 rfl (lv_at hl 1 rfl) ?_
    refine lv_iconst (v := 5) hx hb dX5_wanted_25 (by decide) ?_
    refine call_VR (As := [.int (nI t), .int 5]) (rest := [.int ((V 12 2) - (V 12 2) / 7 * 7)]) E rfl hK hP (c_X5_of_k l g h a V X t 5 (by omega) (by omega)) ok_X5_of rfl q3_94 [0] rfl (b_recv hK hP 0 0 rfl rfl rfl rfl) ⟨⟨rfl, rfl⟩, Nat.le_of_ble_eq_true rfl, Nat.le_of_ble_eq_true rfl⟩ hl.1 (Nat.le_of_ble_eq_true rfl) ⟨Nat.le_of_ble_eq_true rfl, Nat.le_of_ble_eq_true rfl⟩ rfl dX5_wanted_26 ?_
    refine lv_icmp_ne (tgt := 40) hx hb dX5_wanted_29 (by decide) (fun h_2 => ?_) (fun h_2 => ?_)
    · refine lv_iload_n hx hb dX5_wanted_40 rfl (lv_at hl 2 rfl) ?_
      exact rI_ret hx hb hr hlocks dX5_wanted_41 (by simp only [h_1, h_2, wM,  not_true_eq_false, not_false_eq_true, and_true, true_and, and_false, false_and, and_self, or_true, true_or, or_false, false_or, ne_eq, ite_true, ite_false, reduceIte])
    · refine lv_aload_n hx hb dX5_wanted_32 rfl (lv_at hl 0 rfl) ?_
      refine lv_iload_n hx hb dX5_wanted_33 rfl (lv_at hl 1 rfl) ?_
      refine call_VR (As := [.int (nI t)]) (rest := []) E rfl hK hP (c_X5_allBells l g h a V X t (by omega)) ok_X5_allBells rfl q3_122 [0] rfl (b_recv hK hP 0 0 rfl rfl rfl rfl) ⟨⟨rfl, rfl⟩, Nat.le_of_ble_eq_true rfl, Nat.le_of_ble_eq_true rfl⟩ hl.1 (Nat.le_of_ble_eq_true rfl) ⟨Nat.le_of_ble_eq_true rfl, Nat.le_of_ble_eq_true rfl⟩ rfl dX5_wanted_34 ?_
      refine lv_goto (tgt := 41) hx hb dX5_wanted_37 (by decide) ?_
      exact rI_ret hx hb hr hlocks dX5_wanted_41 (by simp only [h_1, h_2, wM,  not_true_eq_false, not_false_eq_true, and_true, true_and, and_false, false_and, and_self, or_true, true_or, or_false, false_or, ne_eq, ite_true, ite_false, reduceIte])
  · refine lv_iconst (v := 0) hx hb dX5_wanted_10 (by decide) ?_
    refine lv_goto (tgt := 41) hx hb dX5_wanted_11 (by decide) ?_
    exact rI_ret hx hb hr hlocks dX5_wanted_41 (by simp only [h_1, wM,  not_true_eq_false, not_false_eq_true, and_true, true_and, and_false, false_and, and_self, or_true, true_or, or_false, false_or, ne_eq, ite_true, ite_false, reduceIte])
