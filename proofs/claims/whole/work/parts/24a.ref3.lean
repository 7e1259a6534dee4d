theorem minI_le {x y : Int32} (h : x ≤ y) : minI x y = x := by unfold minI; rw [if_neg (Int32.not_lt.mpr h)]
theorem minI_gt {x y : Int32} (h : ¬ x ≤ y) : minI x y = y := by unfold minI; rw [if_pos (Int32.not_le.mp h)]
set_option maxHeartbeats 4000000 in
set_option maxRecDepth 100000 in
theorem c_X5_hasBells (l : Launch) (g : gx) (h : Nat) (a : Nat → Nat) (V X : sV) (t : Nat) (y : Int32) (ht : t < 6) : cR l g yX5_hasBells cX5_hasBells 3 (some .boolean) ({ frames := 2, cells := 0, slots := 0, locals := 43 } : Room) [.ref h, .int (nI t), .int y] [mV g h a V X] (.int (bI (hasM V t y))) := by
  refine cR.mk (by decide +kernel) (Nat.le_of_ble_eq_true rfl) ?_
  intro p e s m below meth c ls E hK hP hl
  obtain ⟨hx, hb, hr, hml, hts, hown, hlocks, hin⟩ := id E
  have hown : s.vm.findClass RX5 = some m.cls := hown
  have hl : lv_has ls 3 [(0, .ref h), (1, .int (nI t)), (2, .int y)] := hl
  refine lv_iload_n hx hb dX5_hasBells_0 rfl (lv_at hl 2 rfl) ?_
  refine lv_if_lt (tgt := 17) hx hb dX5_hasBells_1 (by decide) (fun h_1 => ?_) (fun h_1 => ?_)
  · refine lv_iconst (v := 0) hx hb dX5_hasBells_17 (by decide) ?_
    exact rZ_ret hx hb hr hlocks dX5_hasBells_18 (by first | exact bI_t (by simp only [h_1, hasM,  not_true_eq_false, not_false_eq_true, and_true, true_and, and_false, false_and, and_self, or_true, true_or, or_false, false_or, ne_eq, ite_true, ite_false, reduceIte]) | exact bI_f (by simp only [h_1, hasM,  not_true_eq_false, not_false_eq_true, and_true, true_and, and_false, false_and, and_self, or_true, true_or, or_false, false_or, ne_eq, ite_true, ite_false, reduceIte]))
  · refine lv_iload_n hx hb dX5_hasBells_4 rfl (lv_at hl 2 rfl) ?_
    refine lv_aload_n hx hb dX5_hasBells_5 rfl (lv_at hl 0 rfl) ?_
    refine lv_iload_n hx hb dX5_hasBells_6 rfl (lv_at hl 1 rfl) ?_
    refine call_VR (As := [.int (nI t)]) (rest := [.int y]) E rfl hK hP (c_X5_allBells l g h a V X t (by omega)) ok_X5_allBells rfl q3_122 [0] rfl (b_recv hK hP 0 0 rfl rfl rfl rfl) ⟨⟨rfl, rfl⟩, Nat.le_of_ble_eq_true rfl, Nat.le_of_ble_eq_true rfl⟩ hl.1 (Nat.le_of_ble_eq_true rfl) ⟨Nat.le_of_ble_eq_true rfl, Nat.le_of_ble_eq_true rfl⟩ rfl dX5_hasBells_7 ?_
    refine lv_icmp_gt (tgt := 17) hx hb dX5_hasBells_10 (by decide) (fun h_2 => ?_) (fun h_2 => ?_)
    · refine lv_iconst (v := 0) hx hb dX5_hasBells_17 (by decide) ?_
      exact rZ_ret hx hb hr hlocks dX5_hasBells_18 (by first | exact bI_t (by simp only [h_1, h_2, hasM,  not_true_eq_false, not_false_eq_true, and_true, true_and, and_false, false_and, and_self, or_true, true_or, or_false, false_or, ne_eq, ite_true, ite_false, reduceIte]) | exact bI_f (by simp only [h_1, h_2, hasM,  not_true_eq_false, not_false_eq_true, and_true, true_and, and_false, false_and, and_self, or_true, true_or, or_false, false_or, ne_eq, ite_true, ite_false, reduceIte]))
    · refine lv_iconst (v := 1) hx hb dX5_hasBells_13 (by decide) ?_
      refine lv_goto (tgt := 18) hx hb dX5_hasBells_14 (by decide) ?_
      exact rZ_ret hx hb hr hlocks dX5_hasBells_18 (by first | exact bI_t (by simp only [h_1, h_2, hasM,  not_true_eq_false, not_false_eq_true, and_true, true_and, and_false, false_and, and_self, or_true, true_or, or_false, false_or, ne_eq, ite_true, ite_false, reduceIte]) | exact bI_f (by simp only [h_1, h_2, hasM,  not_true_eq_false, not_false_eq_true, and_true, true_and, and_false, false_and, and_self, or_true, true_or, or_false, false_or, ne_eq, ite_true, ite_false, reduceIte]))

set_option maxHeartbeats 4000000 in
set_option maxRecDepth 100000 in
theorem c_X5_canSplice (l : Launch) (g : gx) (h : Nat) (a : Nat → Nat) (V X : sV) (t b : Nat) (ht : t < 6) (hb5 : b < 5) : cR l g yX5_canSplice cX5_canSplice 3 (some .boolean) ({ frames := 1, cells := 0, slots := 0, locals := 22 } : Room) [.ref h, .int (nI t), .int (nI b)] [mV g h a V X] (.int (bI (canM V t b))) := by
  refine cR.mk (by decide +kernel) (Nat.le_of_ble_eq_true rfl) ?_
  intro p e s m below meth c ls E hK hP hl
  obtain ⟨hx, hb, hr, hml, hts, hown, hlocks, hin⟩ := id E
  have hown : s.vm.findClass RX5 = some m.cls := hown
  have hl : lv_has ls 3 [(0, .ref h), (1, .int (nI t)), (2, .int (nI b))] := hl
  refine lv_aload_n hx hb dX5_canSplice_0 rfl (lv_at hl 0 rfl) ?_
  refine lv_iload_n hx hb dX5_canSplice_1 rfl (lv_at hl 1 rfl) ?_
  refine lv_bipush (v := 14) hx hb dX5_canSplice_2 (by decide) ?_
  refine lv_iload_n hx hb dX5_canSplice_4 rfl (lv_at hl 2 rfl) ?_
  refine lv_iadd hx hb dX5_canSplice_5 ?_
  refine b_top (y := nI (14 + b)) (nI_add 14 b) ?_
  refine call_VR (As := [.int (nI t), .int (nI (14 + b))]) (rest := []) E rfl hK hP (c_X5_of_10 l g h a V X t b (by omega) (by omega)) ok_X5_of rfl q3_94 [0] rfl (b_recv hK hP 0 0 rfl rfl rfl rfl) ⟨⟨rfl, rfl⟩, Nat.le_of_ble_eq_true rfl, Nat.le_of_ble_eq_true rfl⟩ hl.1 (Nat.le_of_ble_eq_true rfl) ⟨Nat.le_of_ble_eq_true rfl, Nat.le_of_ble_eq_true rfl⟩ rfl dX5_canSplice_6 ?_
  refine lv_if_le (tgt := 33) hx hb dX5_canSplice_9 (by decide) (fun h_1 => ?_) (fun h_1 => ?_)
  · refine lv_iconst (v := 0) hx hb dX5_canSplice_33 (by decide) ?_
    exact rZ_ret hx hb hr hlocks dX5_canSplice_34 (by first | exact bI_t (by simp only [h_1, canM,  not_true_eq_false, not_false_eq_true, and_true, true_and, and_false, false_and, and_self, or_true, true_or, or_false, false_or, ne_eq, ite_true, ite_false, reduceIte]) | exact bI_f (by simp only [h_1, canM,  not_true_eq_false, not_false_eq_true, and_true, true_and, and_false, false_and, and_self, or_true, true_or, or_false, false_or, ne_eq, ite_true, ite_false, reduceIte]))
  · refine lv_aload_n hx hb dX5_canSplice_12 rfl (lv_at hl 0 rfl) ?_
    refine lv_iload_n hx hb dX5_canSplice_13 rfl (lv_at hl 1 rfl) ?_
    refine lv_iconst (v := 1) hx hb dX5_canSplice_14 (by decide) ?_
    refine call_VR (As := [.int (nI t), .int 1]) (rest := []) E rfl hK hP (c_X5_of_k l g h a V X t 1 (by omega) (by omega)) ok_X5_of rfl q3_94 [0] rfl (b_recv hK hP 0 0 rfl rfl rfl rfl) ⟨⟨rfl, rfl⟩, Nat.le_of_ble_eq_true rfl, Nat.le_of_ble_eq_true rfl⟩ hl.1 (Nat.le_of_ble_eq_true rfl) ⟨Nat.le_of_ble_eq_true rfl, Nat.le_of_ble_eq_true rfl⟩ rfl dX5_canSplice_15 ?_
    refine lv_aload_n hx hb dX5_canSplice_18 rfl (lv_at hl 0 rfl) ?_
    refine lv_iload_n hx hb dX5_canSplice_19 rfl (lv_at hl 1 rfl) ?_
    refine lv_iconst (v := 2) hx hb dX5_canSplice_20 (by decide) ?_
    refine call_VR (As := [.int (nI t), .int 2]) (rest := [.int (V 1 t)]) E rfl hK hP (c_X5_of_k l g h a V X t 2 (by omega) (by omega)) ok_X5_of rfl q3_94 [0] rfl (b_recv hK hP 0 0 rfl rfl rfl rfl) ⟨⟨rfl, rfl⟩, Nat.le_of_ble_eq_true rfl, Nat.le_of_ble_eq_true rfl⟩ hl.1 (Nat.le_of_ble_eq_true rfl) ⟨Nat.le_of_ble_eq_true rfl, Nat.le_of_ble_eq_true rfl⟩ rfl dX5_canSplice_21 ?_
    refine lv_isub hx hb dX5_canSplice_24 ?_
    refine lv_iconst (v := 1) hx hb dX5_canSplice_25 (by decide) ?_
    refine lv_icmp_le (tgt := 33) hx hb dX5_canSplice_26 (by decide) (fun h_2 => ?_) (fun h_2 => ?_)
    · refine lv_iconst (v := 0) hx hb dX5_canSplice_33 (by decide) ?_
      exact rZ_ret hx hb hr hlocks dX5_canSplice_34 (by first | exact bI_t (by simp only [h_1, h_2, canM,  not_true_eq_false, not_false_eq_true, and_true, true_and, and_false, false_and, and_self, or_true, true_or, or_false, false_or, ne_eq, ite_true, ite_false, reduceIte]) | exact bI_f (by simp only [h_1, h_2, canM,  not_true_eq_false, not_false_eq_true, and_true, true_and, and_false, false_and, and_self, or_true, true_or, or_false, false_or, ne_eq, ite_true, ite_false, reduceIte]))
    · refine lv_iconst (v := 1) hx hb dX5_canSplice_29 (by decide) ?_
      refine lv_goto (tgt := 34) hx hb dX5_canSplice_30 (by decide) ?_
      exact rZ_ret hx hb hr hlocks dX5_canSplice_34 (by first | exact bI_t (by simp only [h_1, h_2, canM,  not_true_eq_false, not_false_eq_true, and_true, true_and, and_false, false_and, and_self, or_true, true_or, or_false, false_or, ne_eq, ite_true, ite_false, reduceIte]) | exact bI_f (by simp only [h_1, h_2, canM,  not_true_eq_false, not_false_eq_true, and_true, true_and, and_false, false_and, and_self, or_true, true_or, or_false, false_or, ne_eq, ite_true, ite_false, reduceIte]))

set_option maxHeartbeats 4000000 in
set_option maxRecDepth 100000 in
theorem c_X5_spliceNow (l : Launch) (g : gx) (h : Nat) (a : Nat → Nat) (V X : sV) (t b : Nat) (ht : t < 6) (hb5 : b < 5) : cU (S := Unit) l g yX5_spliceNow cX5_spliceNow 4 (some .int) ({ frames := 1, cells := 0, slots := 0, locals := 23 } : Room) [.ref h, .int (nI t), .int (nI b)] [mV g h a V X] (fun _ => some (.int (V 10 (t * 5 + b)))) (fun _ => True) (fun _ => [mV g h a (up2 (up2 V 10 (t * 5 + b) 0) 2 t (V 2 t + 2)) X]) := by
  refine cU.mk (by decide +kernel) (Nat.le_of_ble_eq_true rfl) ?_
  intro p e s m below meth c ls E hK hW hl
  obtain ⟨hx, hb, hr, hml, hts, hown, hlocks, hin⟩ := id E
  have hown : s.vm.findClass RX5 = some m.cls := hown
  have hP := hW.1
  have hl : lv_has ls 4 [(0, .ref h), (1, .int (nI t)), (2, .int (nI b))] := hl
  refine lv_aload_n hx hb dX5_spliceNow_0 rfl (lv_at hl 0 rfl) ?_
  refine lv_iload_n hx hb dX5_spliceNow_1 rfl (lv_at hl 1 rfl) ?_
  refine lv_bipush (v := 14) hx hb dX5_spliceNow_2 (by decide) ?_
  refine lv_iload_n hx hb dX5_spliceNow_4 rfl (lv_at hl 2 rfl) ?_
  refine lv_iadd hx hb dX5_spliceNow_5 ?_
  refine b_top (y := nI (14 + b)) (nI_add 14 b) ?_
  refine call_VR (As := [.int (nI t), .int (nI (14 + b))]) (rest := []) E rfl hK hP (c_X5_of_10 l g h a V X t b (by omega) (by omega)) ok_X5_of rfl q3_94 [0] rfl (b_recv hK hP 0 0 rfl rfl rfl rfl) ⟨⟨rfl, rfl⟩, Nat.le_of_ble_eq_true rfl, Nat.le_of_ble_eq_true rfl⟩ hl.1 (Nat.le_of_ble_eq_true rfl) ⟨Nat.le_of_ble_eq_true rfl, Nat.le_of_ble_eq_true rfl⟩ rfl dX5_spliceNow_6 ?_
  refine lv_istore_n (lv' := [(3, .int (V 10 (t * 5 + b))), (0, .ref h), (1, .int (nI t)), (2, .int (nI b))]) hx hb dX5_spliceNow_9 rfl hl (by decide) rfl (fun ls hl => ?_)
  refine lv_aload_n hx hb dX5_spliceNow_10 rfl (lv_at hl 1 rfl) ?_
  refine lv_iload_n hx hb dX5_spliceNow_11 rfl (lv_at hl 2 rfl) ?_
  refine lv_bipush (v := 14) hx hb dX5_spliceNow_12 (by decide) ?_
  refine lv_iload_n hx hb dX5_spliceNow_14 rfl (lv_at hl 3 rfl) ?_
  refine lv_iadd hx hb dX5_spliceNow_15 ?_
  refine b_top (y := nI (14 + b)) (nI_add 14 b) ?_
  refine lv_iconst (v := 0) hx hb dX5_spliceNow_16 (by decide) ?_
  refine call_VU (As := [.int (nI t), .int (nI (14 + b)), .int 0]) (rest := []) E rfl hK hW (c_X5_put_10 l g h a V X t b 0 (by omega) (by omega)) ok_X5_put rfl q3_21 [0] rfl (by decide) (b_recv hK hP 0 0 rfl rfl rfl rfl) ⟨⟨rfl, rfl⟩, Nat.le_of_ble_eq_true rfl, Nat.le_of_ble_eq_true rfl⟩ hl.1 (Nat.le_of_ble_eq_true rfl) ⟨Nat.le_of_ble_eq_true rfl, Nat.le_of_ble_eq_true rfl⟩ rfl dX5_spliceNow_17 (fun _u H locs _ hW => ?_)
  have hW : wd g _ s.heap [mV g h a (up2 V 10 (t * 5 + b) 0) X] H locs := hW
  have hP := hW.1
  refine lv_aload_n hx hb dX5_spliceNow_20 rfl (lv_at hl 1 rfl) ?_
  refine lv_iload_n hx hb dX5_spliceNow_21 rfl (lv_at hl 2 rfl) ?_
  refine lv_iconst (v := 2) hx hb dX5_spliceNow_22 (by decide) ?_
  refine lv_aload_n hx hb dX5_spliceNow_23 rfl (lv_at hl 1 rfl) ?_
  refine lv_iload_n hx hb dX5_spliceNow_24 rfl (lv_at hl 2 rfl) ?_
  refine lv_iconst (v := 2) hx hb dX5_spliceNow_25 (by decide) ?_
  refine call_VR (As := [.int (nI t), .int 2]) (rest := [.int 2, .int (nI t), .ref h]) E rfl hK hP (c_X5_of_k l g h a (up2 V 10 (t * 5 + b) 0) X t 2 (by omega) (by omega)) ok_X5_of rfl q3_94 [0] rfl (b_recv hK hP 0 0 rfl rfl rfl rfl) ⟨⟨rfl, rfl⟩, Nat.le_of_ble_eq_true rfl, Nat.le_of_ble_eq_true rfl⟩ hl.1 (Nat.le_of_ble_eq_true rfl) ⟨Nat.le_of_ble_eq_true rfl, Nat.le_of_ble_eq_true rfl⟩ rfl dX5_spliceNow_26 ?_
  refine b_top (y := V 2 t) rfl ?_
  refine lv_iconst (v := 2) hx hb dX5_spliceNow_29 (by decide) ?_
  refine lv_iadd hx hb dX5_spliceNow_30 ?_
  refine call_VU (As := [.int (nI t), .int 2, .int ((V 2 t) + 2)]) (rest := []) E rfl hK hW (c_X5_put_k l g h a (up2 V 10 (t * 5 + b) 0) X t 2 ((V 2 t) + 2) (by omega) (by omega)) ok_X5_put rfl q3_21 [0] rfl (by decide) (b_recv hK hP 0 0 rfl rfl rfl rfl) ⟨⟨rfl, rfl⟩, Nat.le_of_ble_eq_true rfl, Nat.le_of_ble_eq_true rfl⟩ hl.1 (Nat.le_of_ble_eq_true rfl) ⟨Nat.le_of_ble_eq_true rfl, Nat.le_of_ble_eq_true rfl⟩ rfl dX5_spliceNow_31 (fun _u H locs _ hW => ?_)
  have hW : wd g _ s.heap [mV g h a (up2 (up2 V 10 (t * 5 + b) 0) 2 t ((V 2 t) + 2)) X] H locs := hW
  have hP := hW.1
  refine lv_iload_n hx hb dX5_spliceNow_34 rfl (lv_at hl 0 rfl) ?_
  exact uI_ret () hW hx hb hr hlocks dX5_spliceNow_35 (rfl) trivial (rfl) (adr2 (L := [[h, a 0, a 1, a 2, a 3, a 4, a 5, a 6, a 7, a 8]]) rfl rfl)
