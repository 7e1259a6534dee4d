set_option maxHeartbeats 4000000 in
set_option maxRecDepth 100000 in
theorem c_X5_silentTowns (l : Launch) (g : gx) (h : Nat) (a : Nat → Nat) (V X : sV)  : cR l g yX5_silentTowns cX5_silentTowns 3 (some .int) ({ frames := 1, cells := 0, slots := 0, locals := 22 } : Room) [.ref h] [mV g h a V X] (.int (siM V 6)) := by
  refine cR.mk (by decide +kernel) (Nat.le_of_ble_eq_true rfl) ?_
  intro p e s m below meth c ls E hK hP hl
  obtain ⟨hx, hb, hr, hml, hts, hown, hlocks, hin⟩ := id E
  have hown : s.vm.findClass RX5 = some m.cls := hown
  have hl : lv_has ls 3 [(0, .ref h)] := hl
  refine lv_iconst (v := 0) hx hb dX5_silentTowns_0 (by decide) ?_
  refine lv_istore_n (lv' := [(1, .int 0), (0, .ref h)]) hx hb dX5_silentTowns_1 rfl hl (by decide) rfl (fun ls hl => ?_)
  refine lv_iconst (v := 0) hx hb dX5_silentTowns_2 (by decide) ?_
  refine lv_istore_n (lv' := [(2, .int 0), (1, .int 0), (0, .ref h)]) hx hb dX5_silentTowns_3 rfl hl (by decide) rfl (fun ls hl => ?_)
  refine loopN (fun i : Nat => ∀ ls : Array Slot, lv_has ls 3 [(0, .ref h), (1, .int (siM V i)), (2, .int (nI i))] → W p l e _ s m _ below meth c s.heap [] 0 0 _ (F0 m 4 ls [])) (6) (fun i hi ih_i => ?_) (0) (by omega)  ls (lv_sub hl [2, 1, 0] rfl) 
  intro  ls hl 
  refine lv_iload_n hx hb dX5_silentTowns_4 rfl (lv_at hl 2 rfl) ?_
  refine lv_bipush (v := 6) hx hb dX5_silentTowns_5 (by decide) ?_
  refine b_ge (tgt := 34) (i) (6) hx hb rfl rfl (by omega) (by omega) dX5_silentTowns_7 (by decide) (fun h_1 => ?_) (fun h_1 => ?_)
  · obtain rfl : i = 6 := by omega
    refine lv_iload_n hx hb dX5_silentTowns_34 rfl (lv_at hl 1 rfl) ?_
    exact rI_ret hx hb hr hlocks dX5_silentTowns_35 (rfl)
  · refine lv_iload_n hx hb dX5_silentTowns_10 rfl (lv_at hl 1 rfl) ?_
    refine lv_aload_n hx hb dX5_silentTowns_11 rfl (lv_at hl 0 rfl) ?_
    refine lv_iload_n hx hb dX5_silentTowns_12 rfl (lv_at hl 2 rfl) ?_
    refine lv_bipush (v := 6) hx hb dX5_silentTowns_13 (by decide) ?_
    refine call_VR (As := [.int (nI i), .int 6]) (rest := [.int (siM V i)]) E rfl hK hP (c_X5_of_k l g h a V X i 6 (by omega) (by omega)) ok_X5_of rfl q3_94 [0] rfl (b_recv hK hP 0 0 rfl rfl rfl rfl) ⟨⟨rfl, rfl⟩, Nat.le_of_ble_eq_true rfl, Nat.le_of_ble_eq_true rfl⟩ hl.1 (Nat.le_of_ble_eq_true rfl) ⟨Nat.le_of_ble_eq_true rfl, Nat.le_of_ble_eq_true rfl⟩ rfl dX5_silentTowns_15 ?_
    refine lv_if_le (tgt := 25) hx hb dX5_silentTowns_18 (by decide) (fun h_2 => ?_) (fun h_2 => ?_)
    · refine lv_iconst (v := 0) hx hb dX5_silentTowns_25 (by decide) ?_
      refine lv_iadd hx hb dX5_silentTowns_26 ?_
      refine lv_istore_n (lv' := [(1, .int ((siM V i) + 0)), (0, .ref h), (2, .int (nI i))]) hx hb dX5_silentTowns_27 rfl hl (by decide) rfl (fun ls hl => ?_)
      refine lv_iinc (v := nI (i + 1)) (lv' := [(2, .int (nI (i + 1))), (1, .int ((siM V i) + 0)), (0, .ref h)]) hx hb dX5_silentTowns_28 hl (k := 2) rfl (nI_add i 1) (by decide) rfl (fun ls hl => ?_)
      refine lv_goto (tgt := 4) hx hb dX5_silentTowns_31 (by decide) ?_
      have e_3 : siM V (i + 1) = (siM V i) + 0 := by first | (rw [siM, if_pos h_2]; done) | (rw [siM, if_neg h_2]; done)
      exact ih_i (by omega)  _ (by rw [e_3]; exact lv_sub hl [2, 1, 0] rfl) 
    · refine lv_iconst (v := 1) hx hb dX5_silentTowns_21 (by decide) ?_
      refine lv_goto (tgt := 26) hx hb dX5_silentTowns_22 (by decide) ?_
      refine lv_iadd hx hb dX5_silentTowns_26 ?_
      refine lv_istore_n (lv' := [(1, .int ((siM V i) + 1)), (0, .ref h), (2, .int (nI i))]) hx hb dX5_silentTowns_27 rfl hl (by decide) rfl (fun ls hl => ?_)
      refine lv_iinc (v := nI (i + 1)) (lv' := [(2, .int (nI (i + 1))), (1, .int ((siM V i) + 1)), (0, .ref h)]) hx hb dX5_silentTowns_28 hl (k := 2) rfl (nI_add i 1) (by decide) rfl (fun ls hl => ?_)
      refine lv_goto (tgt := 4) hx hb dX5_silentTowns_31 (by decide) ?_
      have e_4 : siM V (i + 1) = (siM V i) + 1 := by first | (rw [siM, if_pos h_2]; done) | (rw [siM, if_neg h_2]; done)
      exact ih_i (by omega)  _ (by rw [e_4]; exact lv_sub hl [2, 1, 0] rfl) 

set_option maxHeartbeats 4000000 in
set_option maxRecDepth 100000 in
theorem c_X5_count_o (l : Launch) (g : gx) (h : Nat) (a : Nat → Nat) (V X : sV) (w : Int32) (hw : w.toInt < 0 ∨ 10 < w.toInt) : cR l g yX5_count cX5_count 2 (some .int) ({ frames := 0, cells := 0, slots := 0, locals := 0 } : Room) [.ref h, .int w] [mV g h a V X] (.int (-2)) := by
  refine cR.mk (by decide +kernel) (Nat.le_of_ble_eq_true rfl) ?_
  intro p e s m below meth c ls E hK hP hl
  obtain ⟨hx, hb, hr, hml, hts, hown, hlocks, hin⟩ := id E
  have hown : s.vm.findClass RX5 = some m.cls := hown
  have hl : lv_has ls 2 [(0, .ref h), (1, .int w)] := hl
  refine lv_iload_n hx hb dX5_count_0 rfl (lv_at hl 1 rfl) ?_
  refine lv_tableOut (tgt := 124) hx hb dX5_count_1 hw (by decide) ?_
  refine lv_bipush (v := -2) hx hb dX5_count_124 (by decide) ?_
  exact rI_ret hx hb hr hlocks dX5_count_126 (rfl)

set_option maxHeartbeats 4000000 in
set_option maxRecDepth 100000 in
theorem c_X5_count_i (l : Launch) (g : gx) (h : Nat) (a : Nat → Nat) (V X : sV) (cq : Nat → Nat) (hc : ∀ t, t < 6 → V 3 t = nI (cq t) ∧ cq t ≤ 5) (n k j : Nat) (hn : X 9 0 = nI n) (hk : X 9 2 = nI k) (hj : j < 11) : cR l g yX5_count cX5_count 2 (some .int) ({ frames := 4, cells := 0, slots := 0, locals := 86 } : Room) [.ref h, .int (nI j)] [mV g h a V X] (.int (coM V n k j)) := by
  refine cR.mk (by decide +kernel) (Nat.le_of_ble_eq_true rfl) ?_
  intro p e s m below meth c ls E hK hP hl
  obtain ⟨hx, hb, hr, hml, hts, hown, hlocks, hin⟩ := id E
  have hown : s.vm.findClass RX5 = some m.cls := hown
  have hl : lv_has ls 2 [(0, .ref h), (1, .int (nI j))] := hl
  refine lv_iload_n hx hb dX5_count_0 rfl (lv_at hl 1 rfl) ?_
  rcases (show j = 0 ∨ j = 1 ∨ j = 2 ∨ j = 3 ∨ j = 4 ∨ j = 5 ∨ j = 6 ∨ j = 7 ∨ j = 8 ∨ j = 9 ∨ j = 10 by omega) with rfl | rfl | rfl | rfl | rfl | rfl | rfl | rfl | rfl | rfl | rfl
  · refine lv_tableIn (off := 59) (tgt := 60) hx hb dX5_count_1 (by decide) (by decide) rfl (by decide) ?_
    refine lv_aload_n hx hb dX5_count_60 rfl (lv_at hl 0 rfl) ?_
    refine b_get (v := .ref (a 0)) hx hb hts inX5 hown hK hP 0 0 0 rfl rfl rfl (by decide) q3_25 rfl rfl dX5_count_61 ?_
    refine lv_iconst (v := 2) hx hb dX5_count_64 (by decide) ?_
    refine b_iald (v := V 12 2) hx hb hK hP 0 1 (2) rfl rfl rfl (by omega) rfl rfl dX5_count_65 ?_
    exact rI_ret hx hb hr hlocks dX5_count_66 (rfl)
  · refine lv_tableIn (off := 66) (tgt := 67) hx hb dX5_count_1 (by decide) (by decide) rfl (by decide) ?_
    refine lv_aload_n hx hb dX5_count_67 rfl (lv_at hl 0 rfl) ?_
    refine lv_iconst (v := 3) hx hb dX5_count_68 (by decide) ?_
    refine call_VR (As := [.int 3]) (rest := []) E rfl hK hP (c_X5_sum l g h a V X 3 (by omega)) ok_X5_sum rfl q4_2 [0] rfl (b_recv hK hP 0 0 rfl rfl rfl rfl) ⟨⟨rfl, rfl⟩, Nat.le_of_ble_eq_true rfl, Nat.le_of_ble_eq_true rfl⟩ hl.1 (Nat.le_of_ble_eq_true rfl) ⟨Nat.le_of_ble_eq_true rfl, Nat.le_of_ble_eq_true rfl⟩ rfl dX5_count_69 ?_
    exact rI_ret hx hb hr hlocks dX5_count_72 (rfl)
  · refine lv_tableIn (off := 72) (tgt := 73) hx hb dX5_count_1 (by decide) (by decide) rfl (by decide) ?_
    refine lv_aload_n hx hb dX5_count_73 rfl (lv_at hl 0 rfl) ?_
    refine call_VR (As := []) (rest := []) E rfl hK hP (c_X5_brokenRopes l g h a V X cq hc) ok_X5_brokenRopes rfl q4_6 [0] rfl (b_recv hK hP 0 0 rfl rfl rfl rfl) ⟨⟨rfl, rfl⟩, Nat.le_of_ble_eq_true rfl, Nat.le_of_ble_eq_true rfl⟩ hl.1 (Nat.le_of_ble_eq_true rfl) ⟨Nat.le_of_ble_eq_true rfl, Nat.le_of_ble_eq_true rfl⟩ rfl dX5_count_74 ?_
    exact rI_ret hx hb hr hlocks dX5_count_77 (rfl)
  · refine lv_tableIn (off := 77) (tgt := 78) hx hb dX5_count_1 (by decide) (by decide) rfl (by decide) ?_
    refine lv_aload_n hx hb dX5_count_78 rfl (lv_at hl 0 rfl) ?_
    refine call_VR (As := []) (rest := []) E rfl hK hP (c_X5_silentTowns l g h a V X) ok_X5_silentTowns rfl q4_10 [0] rfl (b_recv hK hP 0 0 rfl rfl rfl rfl) ⟨⟨rfl, rfl⟩, Nat.le_of_ble_eq_true rfl, Nat.le_of_ble_eq_true rfl⟩ hl.1 (Nat.le_of_ble_eq_true rfl) ⟨Nat.le_of_ble_eq_true rfl, Nat.le_of_ble_eq_true rfl⟩ rfl dX5_count_79 ?_
    exact rI_ret hx hb hr hlocks dX5_count_82 (rfl)
  · refine lv_tableIn (off := 82) (tgt := 83) hx hb dX5_count_1 (by decide) (by decide) rfl (by decide) ?_
    refine lv_aload_n hx hb dX5_count_83 rfl (lv_at hl 0 rfl) ?_
    refine lv_bipush (v := 7) hx hb dX5_count_84 (by decide) ?_
    refine call_VR (As := [.int 7]) (rest := []) E rfl hK hP (c_X5_sum l g h a V X 7 (by omega)) ok_X5_sum rfl q4_2 [0] rfl (b_recv hK hP 0 0 rfl rfl rfl rfl) ⟨⟨rfl, rfl⟩, Nat.le_of_ble_eq_true rfl, Nat.le_of_ble_eq_true rfl⟩ hl.1 (Nat.le_of_ble_eq_true rfl) ⟨Nat.le_of_ble_eq_true rfl, Nat.le_of_ble_eq_true rfl⟩ rfl dX5_count_86 ?_
    exact rI_ret hx hb hr hlocks dX5_count_89 (rfl)
  · refine lv_tableIn (off := 89) (tgt := 90) hx hb dX5_count_1 (by decide) (by decide) rfl (by decide) ?_
    refine lv_aload_n hx hb dX5_count_90 rfl (lv_at hl 0 rfl) ?_
    refine b_get (v := .ref (a 0)) hx hb hts inX5 hown hK hP 0 0 0 rfl rfl rfl (by decide) q3_25 rfl rfl dX5_count_91 ?_
    refine lv_iconst (v := 4) hx hb dX5_count_94 (by decide) ?_
    refine b_iald (v := V 12 4) hx hb hK hP 0 1 (4) rfl rfl rfl (by omega) rfl rfl dX5_count_95 ?_
    exact rI_ret hx hb hr hlocks dX5_count_96 (rfl)
  · refine lv_tableIn (off := 96) (tgt := 97) hx hb dX5_count_1 (by decide) (by decide) rfl (by decide) ?_
    refine lv_aload_n hx hb dX5_count_97 rfl (lv_at hl 0 rfl) ?_
    refine b_get (v := .ref (a 0)) hx hb hts inX5 hown hK hP 0 0 0 rfl rfl rfl (by decide) q3_25 rfl rfl dX5_count_98 ?_
    refine lv_iconst (v := 3) hx hb dX5_count_101 (by decide) ?_
    refine b_iald (v := V 12 3) hx hb hK hP 0 1 (3) rfl rfl rfl (by omega) rfl rfl dX5_count_102 ?_
    exact rI_ret hx hb hr hlocks dX5_count_103 (rfl)
  · refine lv_tableIn (off := 103) (tgt := 104) hx hb dX5_count_1 (by decide) (by decide) rfl (by decide) ?_
    refine lv_aload_n hx hb dX5_count_104 rfl (lv_at hl 0 rfl) ?_
    refine b_get (v := .ref (a 0)) hx hb hts inX5 hown hK hP 0 0 0 rfl rfl rfl (by decide) q3_25 rfl rfl dX5_count_105 ?_
    refine lv_iload_n hx hb dX5_count_108 rfl (lv_at hl 1 rfl) ?_
    refine lv_bipush (v := 7) hx hb dX5_count_109 (by decide) ?_
    refine lv_isub hx hb dX5_count_111 ?_
    refine b_top (y := nI (7 - 7)) (pk_sub (a := 7) (b := 7) (by omega)) ?_
    refine b_iald (v := rowOf V (7 - 7)) hx hb hK hP 0 1 (7 - 7) rfl rfl rfl (by omega) rfl rfl dX5_count_112 ?_
    exact rI_ret hx hb hr hlocks dX5_count_113 (rfl)
  · refine lv_tableIn (off := 103) (tgt := 104) hx hb dX5_count_1 (by decide) (by decide) rfl (by decide) ?_
    refine lv_aload_n hx hb dX5_count_104 rfl (lv_at hl 0 rfl) ?_
    refine b_get (v := .ref (a 0)) hx hb hts inX5 hown hK hP 0 0 0 rfl rfl rfl (by decide) q3_25 rfl rfl dX5_count_105 ?_
    refine lv_iload_n hx hb dX5_count_108 rfl (lv_at hl 1 rfl) ?_
    refine lv_bipush (v := 7) hx hb dX5_count_109 (by decide) ?_
    refine lv_isub hx hb dX5_count_111 ?_
    refine b_top (y := nI (8 - 7)) (pk_sub (a := 8) (b := 7) (by omega)) ?_
    refine b_iald (v := rowOf V (8 - 7)) hx hb hK hP 0 1 (8 - 7) rfl rfl rfl (by omega) rfl rfl dX5_count_112 ?_
    exact rI_ret hx hb hr hlocks dX5_count_113 (rfl)
  · refine lv_tableIn (off := 113) (tgt := 114) hx hb dX5_count_1 (by decide) (by decide) rfl (by decide) ?_
    refine lv_aload_n hx hb dX5_count_114 rfl (lv_at hl 0 rfl) ?_
    refine b_get (v := .int (X 9 0)) hx hb hts inX5 hown hK hP 0 0 2 rfl rfl rfl (by decide) q3_27 rfl rfl dX5_count_115 ?_
    refine b_top (y := nI n) hn ?_
    exact rI_ret hx hb hr hlocks dX5_count_118 (rfl)
  · refine lv_tableIn (off := 118) (tgt := 119) hx hb dX5_count_1 (by decide) (by decide) rfl (by decide) ?_
    refine lv_aload_n hx hb dX5_count_119 rfl (lv_at hl 0 rfl) ?_
    refine b_get (v := .int (X 9 2)) hx hb hts inX5 hown hK hP 0 0 8 rfl rfl rfl (by decide) q3_33 rfl rfl dX5_count_120 ?_
    refine b_top (y := nI k) hk ?_
    exact rI_ret hx hb hr hlocks dX5_count_123 (rfl)
