set_option maxHeartbeats 4000000 in
set_option maxRecDepth 100000 in
theorem c_X5_sum (l : Launch) (g : gx) (h : Nat) (a : Nat → Nat) (V X : sV) (w : Nat) (hw : w < 9) : cR l g yX5_sum cX5_sum 4 (some .int) ({ frames := 1, cells := 0, slots := 0, locals := 22 } : Room) [.ref h, .int (nI w)] [mV g h a V X] (.int (sumF (V w) 6)) := by
  refine cR.mk (by decide +kernel) (Nat.le_of_ble_eq_true rfl) ?_
  intro p e s m below meth c ls E hK hP hl
  obtain ⟨hx, hb, hr, hml, hts, hown, hlocks, hin⟩ := id E
  have hown : s.vm.findClass RX5 = some m.cls := hown
  have hl : lv_has ls 4 [(0, .ref h), (1, .int (nI w))] := hl
  refine lv_iconst (v := 0) hx hb dX5_sum_0 (by decide) ?_
  refine lv_istore_n (lv' := [(2, .int 0), (0, .ref h), (1, .int (nI w))]) hx hb dX5_sum_1 rfl hl (by decide) rfl (fun ls hl => ?_)
  refine lv_iconst (v := 0) hx hb dX5_sum_2 (by decide) ?_
  refine lv_istore_n (lv' := [(3, .int 0), (2, .int 0), (0, .ref h), (1, .int (nI w))]) hx hb dX5_sum_3 rfl hl (by decide) rfl (fun ls hl => ?_)
  refine loopN (fun i : Nat => ∀ ls : Array Slot, lv_has ls 4 [(0, .ref h), (1, .int (nI w)), (2, .int (sumF (V w) i)), (3, .int (nI i))] → W p l e _ s m _ below meth c s.heap [] 0 0 _ (F0 m 4 ls [])) (6) (fun i hi ih_i => ?_) (0) (by omega)  ls (lv_sub hl [2, 3, 1, 0] rfl) 
  intro  ls hl 
  refine lv_iload_n hx hb dX5_sum_4 rfl (lv_at hl 3 rfl) ?_
  refine lv_bipush (v := 6) hx hb dX5_sum_5 (by decide) ?_
  refine b_ge (tgt := 25) (i) (6) hx hb rfl rfl (by omega) (by omega) dX5_sum_7 (by decide) (fun h_1 => ?_) (fun h_1 => ?_)
  · obtain rfl : i = 6 := by omega
    refine lv_iload_n hx hb dX5_sum_25 rfl (lv_at hl 2 rfl) ?_
    exact rI_ret hx hb hr hlocks dX5_sum_26 (rfl)
  · refine lv_iload_n hx hb dX5_sum_10 rfl (lv_at hl 2 rfl) ?_
    refine lv_aload_n hx hb dX5_sum_11 rfl (lv_at hl 0 rfl) ?_
    refine lv_iload_n hx hb dX5_sum_12 rfl (lv_at hl 3 rfl) ?_
    refine lv_iload_n hx hb dX5_sum_13 rfl (lv_at hl 1 rfl) ?_
    refine call_VR (As := [.int (nI i), .int (nI w)]) (rest := [.int (sumF (V w) i)]) E rfl hK hP (c_X5_of_k l g h a V X i w (by omega) (by omega)) ok_X5_of rfl q3_94 [0] rfl (b_recv hK hP 0 0 rfl rfl rfl rfl) ⟨⟨rfl, rfl⟩, Nat.le_of_ble_eq_true rfl, Nat.le_of_ble_eq_true rfl⟩ hl.1 (Nat.le_of_ble_eq_true rfl) ⟨Nat.le_of_ble_eq_true rfl, Nat.le_of_ble_eq_true rfl⟩ rfl dX5_sum_14 ?_
    refine lv_iadd hx hb dX5_sum_17 ?_
    refine lv_istore_n (lv' := [(2, .int ((sumF (V w) i) + (V w i))), (0, .ref h), (1, .int (nI w)), (3, .int (nI i))]) hx hb dX5_sum_18 rfl hl (by decide) rfl (fun ls hl => ?_)
    refine lv_iinc (v := nI (i + 1)) (lv' := [(3, .int (nI (i + 1))), (2, .int ((sumF (V w) i) + (V w i))), (0, .ref h), (1, .int (nI w))]) hx hb dX5_sum_19 hl (k := 3) rfl (nI_add i 1) (by decide) rfl (fun ls hl => ?_)
    refine lv_goto (tgt := 4) hx hb dX5_sum_22 (by decide) ?_
    have e_2 : sumF (V w) (i + 1) = (sumF (V w) i) + (V w i) := rfl
    exact ih_i (by omega)  _ (by rw [e_2]; exact lv_sub hl [2, 3, 1, 0] rfl) 

set_option maxHeartbeats 4000000 in
set_option maxRecDepth 100000 in
theorem c_X5_brokenRopes (l : Launch) (g : gx) (h : Nat) (a : Nat → Nat) (V X : sV) (cq : Nat → Nat) (hc : ∀ t, t < 6 → V 3 t = nI (cq t) ∧ cq t ≤ 5)  : cR l g yX5_brokenRopes cX5_brokenRopes 3 (some .int) ({ frames := 3, cells := 0, slots := 0, locals := 64 } : Room) [.ref h] [mV g h a V X] (.int (brM V 30)) := by
  refine cR.mk (by decide +kernel) (Nat.le_of_ble_eq_true rfl) ?_
  intro p e s m below meth c ls E hK hP hl
  obtain ⟨hx, hb, hr, hml, hts, hown, hlocks, hin⟩ := id E
  have hown : s.vm.findClass RX5 = some m.cls := hown
  have hl : lv_has ls 3 [(0, .ref h)] := hl
  refine lv_iconst (v := 0) hx hb dX5_brokenRopes_0 (by decide) ?_
  refine lv_istore_n (lv' := [(1, .int 0), (0, .ref h)]) hx hb dX5_brokenRopes_1 rfl hl (by decide) rfl (fun ls hl => ?_)
  refine lv_iconst (v := 0) hx hb dX5_brokenRopes_2 (by decide) ?_
  refine lv_istore_n (lv' := [(2, .int 0), (1, .int 0), (0, .ref h)]) hx hb dX5_brokenRopes_3 rfl hl (by decide) rfl (fun ls hl => ?_)
  refine loopN (fun j : Nat => ∀ ls : Array Slot, lv_has ls 3 [(0, .ref h), (1, .int (brM V j)), (2, .int (nI j))] → W p l e _ s m _ below meth c s.heap [] 0 0 _ (F0 m 4 ls [])) (30) (fun j hi ih_j => ?_) (0) (by omega)  ls (lv_sub hl [2, 1, 0] rfl) 
  intro  ls hl 
  refine lv_iload_n hx hb dX5_brokenRopes_4 rfl (lv_at hl 2 rfl) ?_
  refine lv_bipush (v := 30) hx hb dX5_brokenRopes_5 (by decide) ?_
  refine b_ge (tgt := 55) (j) (30) hx hb rfl rfl (by omega) (by omega) dX5_brokenRopes_7 (by decide) (fun h_1 => ?_) (fun h_1 => ?_)
  · obtain rfl : j = 30 := by omega
    refine lv_iload_n hx hb dX5_brokenRopes_55 rfl (lv_at hl 1 rfl) ?_
    exact rI_ret hx hb hr hlocks dX5_brokenRopes_56 (rfl)
  · refine lv_iload_n hx hb dX5_brokenRopes_10 rfl (lv_at hl 1 rfl) ?_
    refine lv_aload_n hx hb dX5_brokenRopes_11 rfl (lv_at hl 0 rfl) ?_
    refine lv_iload_n hx hb dX5_brokenRopes_12 rfl (lv_at hl 2 rfl) ?_
    refine lv_iconst (v := 5) hx hb dX5_brokenRopes_13 (by decide) ?_
    refine lv_idiv hx hb dX5_brokenRopes_14 (by decide) ?_
    refine b_top (y := nI (j / 5)) (pk_div (a := j) (d := 5) (by omega) (by omega) (by omega)) ?_
    refine lv_iload_n hx hb dX5_brokenRopes_15 rfl (lv_at hl 2 rfl) ?_
    refine lv_iconst (v := 5) hx hb dX5_brokenRopes_16 (by decide) ?_
    refine lv_irem hx hb dX5_brokenRopes_17 (by decide) ?_
    refine b_top (y := nI (j % 5)) (pk_rem (a := j) (d := 5) (by omega) (by omega) (by omega)) ?_
    refine call_VR (As := [.int (nI (j / 5)), .int (nI (j % 5))]) (rest := [.int (brM V j)]) E rfl hK hP (c_X5_isBell l g h a V X (nI (j / 5)) (nI (j % 5)) (j / 5) (cq (j / 5)) (fun _ => ⟨rfl, by omega⟩) (fun h9 => hc _ h9)) ok_X5_isBell rfl q3_102 [0] rfl (b_recv hK hP 0 0 rfl rfl rfl rfl) ⟨⟨rfl, rfl⟩, Nat.le_of_ble_eq_true rfl, Nat.le_of_ble_eq_true rfl⟩ hl.1 (Nat.le_of_ble_eq_true rfl) ⟨Nat.le_of_ble_eq_true rfl, Nat.le_of_ble_eq_true rfl⟩ rfl dX5_brokenRopes_18 ?_
    refine b_eq0 (tgt := 46) hx hb dX5_brokenRopes_21 (by decide) (fun h_2 => ?_) (fun h_2 => ?_)
    · refine lv_iconst (v := 0) hx hb dX5_brokenRopes_46 (by decide) ?_
      refine lv_iadd hx hb dX5_brokenRopes_47 ?_
      refine lv_istore_n (lv' := [(1, .int ((brM V j) + 0)), (0, .ref h), (2, .int (nI j))]) hx hb dX5_brokenRopes_48 rfl hl (by decide) rfl (fun ls hl => ?_)
      refine lv_iinc (v := nI (j + 1)) (lv' := [(2, .int (nI (j + 1))), (1, .int ((brM V j) + 0)), (0, .ref h)]) hx hb dX5_brokenRopes_49 hl (k := 2) rfl (nI_add j 1) (by decide) rfl (fun ls hl => ?_)
      refine lv_goto (tgt := 4) hx hb dX5_brokenRopes_52 (by decide) ?_
      have e_3 : brM V (j + 1) = (brM V j) + 0 := by first | (rw [brM, if_pos h_1, if_pos h_2]; done) | (rw [brM, if_pos h_1, if_neg h_2]; done) | (rw [brM, if_neg h_2]; done)
      exact ih_j (by omega)  _ (by rw [e_3]; exact lv_sub hl [2, 1, 0] rfl) 
    · refine lv_aload_n hx hb dX5_brokenRopes_24 rfl (lv_at hl 0 rfl) ?_
      refine lv_iload_n hx hb dX5_brokenRopes_25 rfl (lv_at hl 2 rfl) ?_
      refine lv_iconst (v := 5) hx hb dX5_brokenRopes_26 (by decide) ?_
      refine lv_idiv hx hb dX5_brokenRopes_27 (by decide) ?_
      refine b_top (y := nI (j / 5)) (pk_div (a := j) (d := 5) (by omega) (by omega) (by omega)) ?_
      refine lv_bipush (v := 14) hx hb dX5_brokenRopes_28 (by decide) ?_
      refine lv_iload_n hx hb dX5_brokenRopes_30 rfl (lv_at hl 2 rfl) ?_
      refine lv_iconst (v := 5) hx hb dX5_brokenRopes_31 (by decide) ?_
      refine lv_irem hx hb dX5_brokenRopes_32 (by decide) ?_
      refine b_top (y := nI (j % 5)) (pk_rem (a := j) (d := 5) (by omega) (by omega) (by omega)) ?_
      refine lv_iadd hx hb dX5_brokenRopes_33 ?_
      refine b_top (y := nI (14 + (j % 5))) (nI_add 14 (j % 5)) ?_
      refine call_VR (As := [.int (nI (j / 5)), .int (nI (14 + (j % 5)))]) (rest := [.int (brM V j)]) E rfl hK hP (c_X5_of_10 l g h a V X (j / 5) (j % 5) (by omega) (by omega)) ok_X5_of rfl q3_94 [0] rfl (b_recv hK hP 0 0 rfl rfl rfl rfl) ⟨⟨rfl, rfl⟩, Nat.le_of_ble_eq_true rfl, Nat.le_of_ble_eq_true rfl⟩ hl.1 (Nat.le_of_ble_eq_true rfl) ⟨Nat.le_of_ble_eq_true rfl, Nat.le_of_ble_eq_true rfl⟩ rfl dX5_brokenRopes_34 ?_
      refine lv_bipush (v := 6) hx hb dX5_brokenRopes_37 (by decide) ?_
      refine lv_icmp_ne (tgt := 46) hx hb dX5_brokenRopes_39 (by decide) (fun h_4 => ?_) (fun h_4 => ?_)
      · refine lv_iconst (v := 0) hx hb dX5_brokenRopes_46 (by decide) ?_
        refine lv_iadd hx hb dX5_brokenRopes_47 ?_
        refine lv_istore_n (lv' := [(1, .int ((brM V j) + 0)), (0, .ref h), (2, .int (nI j))]) hx hb dX5_brokenRopes_48 rfl hl (by decide) rfl (fun ls hl => ?_)
        refine lv_iinc (v := nI (j + 1)) (lv' := [(2, .int (nI (j + 1))), (1, .int ((brM V j) + 0)), (0, .ref h)]) hx hb dX5_brokenRopes_49 hl (k := 2) rfl (nI_add j 1) (by decide) rfl (fun ls hl => ?_)
        refine lv_goto (tgt := 4) hx hb dX5_brokenRopes_52 (by decide) ?_
        have e_5 : brM V (j + 1) = (brM V j) + 0 := by first | (rw [brM, if_pos h_2, if_pos h_4]; done) | (rw [brM, if_pos h_2, if_neg h_4]; done) | (rw [brM, if_neg h_4]; done)
        exact ih_j (by omega)  _ (by rw [e_5]; exact lv_sub hl [2, 1, 0] rfl) 
      · refine lv_iconst (v := 1) hx hb dX5_brokenRopes_42 (by decide) ?_
        refine lv_goto (tgt := 47) hx hb dX5_brokenRopes_43 (by decide) ?_
        refine lv_iadd hx hb dX5_brokenRopes_47 ?_
        refine lv_istore_n (lv' := [(1, .int ((brM V j) + 1)), (0, .ref h), (2, .int (nI j))]) hx hb dX5_brokenRopes_48 rfl hl (by decide) rfl (fun ls hl => ?_)
        refine lv_iinc (v := nI (j + 1)) (lv' := [(2, .int (nI (j + 1))), (1, .int ((brM V j) + 1)), (0, .ref h)]) hx hb dX5_brokenRopes_49 hl (k := 2) rfl (nI_add j 1) (by decide) rfl (fun ls hl => ?_)
        refine lv_goto (tgt := 4) hx hb dX5_brokenRopes_52 (by decide) ?_
        have e_6 : brM V (j + 1) = (brM V j) + 1 := by first | (rw [brM, if_pos h_2, if_pos h_4]; done) | (rw [brM, if_pos h_2, if_neg h_4]; done) | (rw [brM, if_neg h_4]; done)
        exact ih_j (by omega)  _ (by rw [e_6]; exact lv_sub hl [2, 1, 0] rfl) 
