set_option maxHeartbeats 4000000 in
set_option maxRecDepth 100000 in
theorem c_X5_wearDown (l : Launch) (g : gx) (h : Nat) (a : Nat → Nat) (V X : sV) (t : Nat) (bs : Int32) (c0 : Nat) (hc : V 3 t = nI c0) (hc5 : c0 ≤ 5) (ht : t < 6) : cU (S := Unit) l g yX5_wearDown cX5_wearDown 5 none ({ frames := 2, cells := 0, slots := 0, locals := 44 } : Room) [.ref h, .int (nI t), .int bs] [mV g h a V X] (fun _ => none) (fun _ => True) (fun _ => [mV g h a (wdF V t bs c0) X]) := by
  refine cU.mk (by decide +kernel) (Nat.le_of_ble_eq_true rfl) ?_
  intro p e s m below meth c ls E hK hW hl
  obtain ⟨hx, hb, hr, hml, hts, hown, hlocks, hin⟩ := id E
  have hown : s.vm.findClass RX5 = some m.cls := hown
  have hP := hW.1
  have hl : lv_has ls 5 [(0, .ref h), (1, .int (nI t)), (2, .int bs)] := hl
  refine lv_iconst (v := 0) hx hb dX5_wearDown_0 (by decide) ?_
  refine lv_istore_n (lv' := [(3, .int 0), (0, .ref h), (1, .int (nI t)), (2, .int bs)]) hx hb dX5_wearDown_1 rfl hl (by decide) rfl (fun ls hl => ?_)
  refine lv_iconst (v := 0) hx hb dX5_wearDown_2 (by decide) ?_
  refine lv_istore (lv' := [(4, .int 0), (3, .int 0), (0, .ref h), (1, .int (nI t)), (2, .int bs)]) hx hb dX5_wearDown_3 hl (by decide) rfl (fun ls hl => ?_)
  refine loopN (fun i : Nat => ∀ (H : Heap) (locs : List Loc) (ls : Array Slot), wd g (fun z9 => z9 ∈ adr [mV g h a V X]) s.heap [mV g h a ((wdV V t bs i).1) X] H locs → lv_has ls 5 [(0, .ref h), (1, .int (nI t)), (2, .int bs), (3, .int ((wdV V t bs i).2)), (4, .int (nI i))] → W p l e _ s m _ below meth c H locs 0 0 _ (F0 m 5 ls [])) (c0) (fun i hi ih_i => ?_) (0) (by omega)  s.heap [] ls hW (lv_sub hl [2, 3, 4, 1, 0] rfl) 
  intro  H locs ls hW hl 
  have hP := hW.1
  refine lv_iload hx hb dX5_wearDown_5 (lv_at hl 4 rfl) ?_
  refine lv_aload_n hx hb dX5_wearDown_7 rfl (lv_at hl 0 rfl) ?_
  refine lv_iload_n hx hb dX5_wearDown_8 rfl (lv_at hl 1 rfl) ?_
  refine lv_iconst (v := 3) hx hb dX5_wearDown_9 (by decide) ?_
  refine call_VR (As := [.int (nI t), .int 3]) (rest := [.int (nI i)]) E rfl hK hP (c_X5_of_k l g h a ((wdV V t bs i).1) X t 3 (by omega) (by omega)) ok_X5_of rfl q3_94 [0] rfl (b_recv hK hP 0 0 rfl rfl rfl rfl) ⟨⟨rfl, rfl⟩, Nat.le_of_ble_eq_true rfl, Nat.le_of_ble_eq_true rfl⟩ hl.1 (Nat.le_of_ble_eq_true rfl) ⟨Nat.le_of_ble_eq_true rfl, Nat.le_of_ble_eq_true rfl⟩ rfl dX5_wearDown_10 ?_
  refine b_top (y := (wdV V t bs i).1 3 t) rfl ?_
  refine b_top (y := nI c0) (by rw [wdV_k _ _ _ (by omega) (by omega)]; exact hc) ?_
  refine b_ge (tgt := 86) (i) (c0) hx hb rfl rfl (by omega) (by omega) dX5_wearDown_13 (by decide) (fun h_1 => ?_) (fun h_1 => ?_)
  · obtain rfl : i = c0 := by omega
    refine lv_aload_n hx hb dX5_wearDown_86 rfl (lv_at hl 0 rfl) ?_
    refine lv_iload_n hx hb dX5_wearDown_87 rfl (lv_at hl 1 rfl) ?_
    refine lv_iconst (v := 2) hx hb dX5_wearDown_88 (by decide) ?_
    refine lv_iload_n hx hb dX5_wearDown_89 rfl (lv_at hl 3 rfl) ?_
    refine lv_iconst (v := 2) hx hb dX5_wearDown_90 (by decide) ?_
    refine lv_idiv hx hb dX5_wearDown_91 (by decide) ?_
    refine call_VU (As := [.int (nI t), .int 2, .int (((wdV V t bs i).2) / 2)]) (rest := []) E rfl hK hW (c_X5_put_k l g h a ((wdV V t bs i).1) X t 2 (((wdV V t bs i).2) / 2) (by omega) (by omega)) ok_X5_put rfl q3_21 [0] rfl (by decide) (b_recv hK hP 0 0 rfl rfl rfl rfl) ⟨⟨rfl, rfl⟩, Nat.le_of_ble_eq_true rfl, Nat.le_of_ble_eq_true rfl⟩ hl.1 (Nat.le_of_ble_eq_true rfl) ⟨Nat.le_of_ble_eq_true rfl, Nat.le_of_ble_eq_true rfl⟩ rfl dX5_wearDown_92 (fun _u H locs _ hW => ?_)
    have hW : wd g _ s.heap [mV g h a (up2 ((wdV V t bs i).1) 2 t (((wdV V t bs i).2) / 2)) X] H locs := hW
    have hP := hW.1
    exact uV_ret () hW hx hb hr hlocks dX5_wearDown_95 trivial (rfl) (adr2 (L := [[h, a 0, a 1, a 2, a 3, a 4, a 5, a 6, a 7, a 8]]) rfl rfl)
  · refine lv_iload_n hx hb dX5_wearDown_16 rfl (lv_at hl 2 rfl) ?_
    refine lv_iload hx hb dX5_wearDown_17 (lv_at hl 4 rfl) ?_
    refine lv_ishr hx hb dX5_wearDown_19 ?_
    refine lv_iconst (v := 1) hx hb dX5_wearDown_20 (by decide) ?_
    refine lv_iand hx hb dX5_wearDown_21 ?_
    refine lv_iconst (v := 1) hx hb dX5_wearDown_22 (by decide) ?_
    refine lv_icmp_ne (tgt := 80) hx hb dX5_wearDown_23 (by decide) (fun h_2 => ?_) (fun h_2 => ?_)
    · refine lv_iinc (v := nI (i + 1)) (lv' := [(4, .int (nI (i + 1))), (0, .ref h), (1, .int (nI t)), (2, .int bs), (3, .int ((wdV V t bs i).2))]) hx hb dX5_wearDown_80 hl (k := 4) rfl (nI_add i 1) (by decide) rfl (fun ls hl => ?_)
      refine lv_goto (tgt := 5) hx hb dX5_wearDown_83 (by decide) ?_
      have e_3 : (wdV V t bs (i + 1)).2 = (wdV V t bs i).2 := by simp only [wdV, bitW]; simp only [h_1, h_2, not_true_eq_false, not_false_eq_true, ite_true, ite_false, reduceIte]
      have e_4 : ([mV g h a ((wdV V t bs (i + 1)).1) X] : List va_W) = [mV g h a ((wdV V t bs i).1) X] := by simp only [wdV, bitW]; simp only [h_1, h_2, not_true_eq_false, not_false_eq_true, ite_true, ite_false, reduceIte]
      exact ih_i (by omega)  _ _ _ (by rw [e_4]; exact hW) (by rw [e_3]; exact lv_sub hl [1, 2, 3, 4, 0] rfl) 
    · refine lv_aload_n hx hb dX5_wearDown_26 rfl (lv_at hl 0 rfl) ?_
      refine lv_iload_n hx hb dX5_wearDown_27 rfl (lv_at hl 1 rfl) ?_
      refine lv_bipush (v := 14) hx hb dX5_wearDown_28 (by decide) ?_
      refine lv_iload hx hb dX5_wearDown_30 (lv_at hl 4 rfl) ?_
      refine lv_iadd hx hb dX5_wearDown_32 ?_
      refine b_top (y := nI (14 + i)) (nI_add 14 i) ?_
      refine lv_aload_n hx hb dX5_wearDown_33 rfl (lv_at hl 0 rfl) ?_
      refine lv_iload_n hx hb dX5_wearDown_34 rfl (lv_at hl 1 rfl) ?_
      refine lv_bipush (v := 14) hx hb dX5_wearDown_35 (by decide) ?_
      refine lv_iload hx hb dX5_wearDown_37 (lv_at hl 4 rfl) ?_
      refine lv_iadd hx hb dX5_wearDown_39 ?_
      refine b_top (y := nI (14 + i)) (nI_add 14 i) ?_
      refine call_VR (As := [.int (nI t), .int (nI (14 + i))]) (rest := [.int (nI (14 + i)), .int (nI t), .ref h]) E rfl hK hP (c_X5_of_10 l g h a ((wdV V t bs i).1) X t i (by omega) (by omega)) ok_X5_of rfl q3_94 [0] rfl (b_recv hK hP 0 0 rfl rfl rfl rfl) ⟨⟨rfl, rfl⟩, Nat.le_of_ble_eq_true rfl, Nat.le_of_ble_eq_true rfl⟩ hl.1 (Nat.le_of_ble_eq_true rfl) ⟨Nat.le_of_ble_eq_true rfl, Nat.le_of_ble_eq_true rfl⟩ rfl dX5_wearDown_40 ?_
      refine b_top (y := (wdV V t bs i).1 10 (t * 5 + i)) rfl ?_
      refine lv_iconst (v := 1) hx hb dX5_wearDown_43 (by decide) ?_
      refine lv_iadd hx hb dX5_wearDown_44 ?_
      refine call_VU (As := [.int (nI t), .int (nI (14 + i)), .int (((wdV V t bs i).1 10 (t * 5 + i)) + 1)]) (rest := []) E rfl hK hW (c_X5_put_10 l g h a ((wdV V t bs i).1) X t i (((wdV V t bs i).1 10 (t * 5 + i)) + 1) (by omega) (by omega)) ok_X5_put rfl q3_21 [0] rfl (by decide) (b_recv hK hP 0 0 rfl rfl rfl rfl) ⟨⟨rfl, rfl⟩, Nat.le_of_ble_eq_true rfl, Nat.le_of_ble_eq_true rfl⟩ hl.1 (Nat.le_of_ble_eq_true rfl) ⟨Nat.le_of_ble_eq_true rfl, Nat.le_of_ble_eq_true rfl⟩ rfl dX5_wearDown_45 (fun _u H locs _ hW => ?_)
      have hW : wd g _ s.heap [mV g h a (up2 ((wdV V t bs i).1) 10 (t * 5 + i) (((wdV V t bs i).1 10 (t * 5 + i)) + 1)) X] H locs := hW
      have hP := hW.1
      refine lv_aload_n hx hb dX5_wearDown_48 rfl (lv_at hl 0 rfl) ?_
      refine lv_iload_n hx hb dX5_wearDown_49 rfl (lv_at hl 1 rfl) ?_
      refine lv_bipush (v := 19) hx hb dX5_wearDown_50 (by decide) ?_
      refine lv_iload hx hb dX5_wearDown_52 (lv_at hl 4 rfl) ?_
      refine lv_iadd hx hb dX5_wearDown_54 ?_
      refine b_top (y := nI (19 + i)) (nI_add 19 i) ?_
      refine lv_aload_n hx hb dX5_wearDown_55 rfl (lv_at hl 0 rfl) ?_
      refine lv_iload_n hx hb dX5_wearDown_56 rfl (lv_at hl 1 rfl) ?_
      refine lv_bipush (v := 19) hx hb dX5_wearDown_57 (by decide) ?_
      refine lv_iload hx hb dX5_wearDown_59 (lv_at hl 4 rfl) ?_
      refine lv_iadd hx hb dX5_wearDown_61 ?_
      refine b_top (y := nI (19 + i)) (nI_add 19 i) ?_
      refine call_VR (As := [.int (nI t), .int (nI (19 + i))]) (rest := [.int (nI (19 + i)), .int (nI t), .ref h]) E rfl hK hP (c_X5_of_11 l g h a (up2 ((wdV V t bs i).1) 10 (t * 5 + i) (((wdV V t bs i).1 10 (t * 5 + i)) + 1)) X t i (by omega) (by omega)) ok_X5_of rfl q3_94 [0] rfl (b_recv hK hP 0 0 rfl rfl rfl rfl) ⟨⟨rfl, rfl⟩, Nat.le_of_ble_eq_true rfl, Nat.le_of_ble_eq_true rfl⟩ hl.1 (Nat.le_of_ble_eq_true rfl) ⟨Nat.le_of_ble_eq_true rfl, Nat.le_of_ble_eq_true rfl⟩ rfl dX5_wearDown_62 ?_
      refine b_top (y := ((wdV V t bs i).1) 11 (t * 5 + i)) rfl ?_
      refine lv_iconst (v := 1) hx hb dX5_wearDown_65 (by decide) ?_
      refine lv_iadd hx hb dX5_wearDown_66 ?_
      refine call_VU (As := [.int (nI t), .int (nI (19 + i)), .int ((((wdV V t bs i).1) 11 (t * 5 + i)) + 1)]) (rest := []) E rfl hK hW (c_X5_put_11 l g h a (up2 ((wdV V t bs i).1) 10 (t * 5 + i) (((wdV V t bs i).1 10 (t * 5 + i)) + 1)) X t i ((((wdV V t bs i).1) 11 (t * 5 + i)) + 1) (by omega) (by omega)) ok_X5_put rfl q3_21 [0] rfl (by decide) (b_recv hK hP 0 0 rfl rfl rfl rfl) ⟨⟨rfl, rfl⟩, Nat.le_of_ble_eq_true rfl, Nat.le_of_ble_eq_true rfl⟩ hl.1 (Nat.le_of_ble_eq_true rfl) ⟨Nat.le_of_ble_eq_true rfl, Nat.le_of_ble_eq_true rfl⟩ rfl dX5_wearDown_67 (fun _u H locs _ hW => ?_)
      have hW : wd g _ s.heap [mV g h a (up2 (up2 ((wdV V t bs i).1) 10 (t * 5 + i) (((wdV V t bs i).1 10 (t * 5 + i)) + 1)) 11 (t * 5 + i) ((((wdV V t bs i).1) 11 (t * 5 + i)) + 1)) X] H locs := hW
      have hP := hW.1
      refine lv_iload_n hx hb dX5_wearDown_70 rfl (lv_at hl 3 rfl) ?_
      refine lv_aload_n hx hb dX5_wearDown_71 rfl (lv_at hl 0 rfl) ?_
      refine lv_iload_n hx hb dX5_wearDown_72 rfl (lv_at hl 1 rfl) ?_
      refine lv_iload hx hb dX5_wearDown_73 (lv_at hl 4 rfl) ?_
      refine call_VR (As := [.int (nI t), .int (nI i)]) (rest := [.int ((wdV V t bs i).2)]) E rfl hK hP (c_X5_takes l g h a (up2 (up2 ((wdV V t bs i).1) 10 (t * 5 + i) (((wdV V t bs i).1 10 (t * 5 + i)) + 1)) 11 (t * 5 + i) ((((wdV V t bs i).1) 11 (t * 5 + i)) + 1)) X t i (by omega) (by omega)) ok_X5_takes rfl q3_170 [0] rfl (b_recv hK hP 0 0 rfl rfl rfl rfl) ⟨⟨rfl, rfl⟩, Nat.le_of_ble_eq_true rfl, Nat.le_of_ble_eq_true rfl⟩ hl.1 (Nat.le_of_ble_eq_true rfl) ⟨Nat.le_of_ble_eq_true rfl, Nat.le_of_ble_eq_true rfl⟩ rfl dX5_wearDown_75 ?_
      refine lv_iadd hx hb dX5_wearDown_78 ?_
      refine lv_istore_n (lv' := [(3, .int (((wdV V t bs i).2) + (rF (((wdV V t bs i).1) 9 (t * 5 + i))))), (0, .ref h), (1, .int (nI t)), (2, .int bs), (4, .int (nI i))]) hx hb dX5_wearDown_79 rfl hl (by decide) rfl (fun ls hl => ?_)
      refine lv_iinc (v := nI (i + 1)) (lv' := [(4, .int (nI (i + 1))), (3, .int (((wdV V t bs i).2) + (rF (((wdV V t bs i).1) 9 (t * 5 + i))))), (0, .ref h), (1, .int (nI t)), (2, .int bs)]) hx hb dX5_wearDown_80 hl (k := 4) rfl (nI_add i 1) (by decide) rfl (fun ls hl => ?_)
      refine lv_goto (tgt := 5) hx hb dX5_wearDown_83 (by decide) ?_
      have e_5 : (wdV V t bs (i + 1)).2 = ((wdV V t bs i).2) + (rF (((wdV V t bs i).1) 9 (t * 5 + i))) := by simp only [wdV, bitW]; simp only [h_1, h_2, not_true_eq_false, not_false_eq_true, ite_true, ite_false, reduceIte]
      have e_6 : ([mV g h a ((wdV V t bs (i + 1)).1) X] : List va_W) = [mV g h a (up2 (up2 ((wdV V t bs i).1) 10 (t * 5 + i) (((wdV V t bs i).1 10 (t * 5 + i)) + 1)) 11 (t * 5 + i) ((((wdV V t bs i).1) 11 (t * 5 + i)) + 1)) X] := by simp only [wdV, bitW]; simp only [h_1, h_2, not_true_eq_false, not_false_eq_true, ite_true, ite_false, reduceIte]
      exact ih_i (by omega)  _ _ _ (by rw [e_6]; exact hW) (by rw [e_5]; exact lv_sub hl [2, 3, 4, 1, 0] rfl) 
