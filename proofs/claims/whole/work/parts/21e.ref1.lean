set_option maxHeartbeats 4000000 in
set_option maxRecDepth 100000 in
theorem c_X5_loudnessOf (l : Launch) (g : gx) (h : Nat) (a : Nat → Nat) (V X : sV) (t : Nat) (bs : Int32) (c0 : Nat) (hc : V 3 t = nI c0) (hc5 : c0 ≤ 5) (ht : t < 6) : cR l g yX5_loudnessOf cX5_loudnessOf 5 (some .int) ({ frames := 1, cells := 0, slots := 0, locals := 22 } : Room) [.ref h, .int (nI t), .int bs] [mV g h a V X] (.int (lsM V t bs c0)) := by
  refine cR.mk (by decide +kernel) (Nat.le_of_ble_eq_true rfl) ?_
  intro p e s m below meth c ls E hK hP hl
  obtain ⟨hx, hb, hr, hml, hts, hown, hlocks, hin⟩ := id E
  have hown : s.vm.findClass RX5 = some m.cls := hown
  have hl : lv_has ls 5 [(0, .ref h), (1, .int (nI t)), (2, .int bs)] := hl
  refine lv_iconst (v := 0) hx hb dX5_loudnessOf_0 (by decide) ?_
  refine lv_istore_n (lv' := [(3, .int 0), (0, .ref h), (1, .int (nI t)), (2, .int bs)]) hx hb dX5_loudnessOf_1 rfl hl (by decide) rfl (fun ls hl => ?_)
  refine lv_iconst (v := 0) hx hb dX5_loudnessOf_2 (by decide) ?_
  refine lv_istore (lv' := [(4, .int 0), (3, .int 0), (0, .ref h), (1, .int (nI t)), (2, .int bs)]) hx hb dX5_loudnessOf_3 hl (by decide) rfl (fun ls hl => ?_)
  refine loopN (fun i : Nat => ∀ ls : Array Slot, lv_has ls 5 [(0, .ref h), (1, .int (nI t)), (2, .int bs), (3, .int (lsM V t bs i)), (4, .int (nI i))] → W p l e _ s m _ below meth c s.heap [] 0 0 _ (F0 m 5 ls [])) (c0) (fun i hi ih_i => ?_) (0) (by omega)  ls (lv_sub hl [2, 3, 4, 1, 0] rfl) 
  intro  ls hl 
  refine lv_iload hx hb dX5_loudnessOf_5 (lv_at hl 4 rfl) ?_
  refine lv_aload_n hx hb dX5_loudnessOf_7 rfl (lv_at hl 0 rfl) ?_
  refine lv_iload_n hx hb dX5_loudnessOf_8 rfl (lv_at hl 1 rfl) ?_
  refine lv_iconst (v := 3) hx hb dX5_loudnessOf_9 (by decide) ?_
  refine call_VR (As := [.int (nI t), .int 3]) (rest := [.int (nI i)]) E rfl hK hP (c_X5_of_k l g h a V X t 3 (by omega) (by omega)) ok_X5_of rfl q3_94 [0] rfl (b_recv hK hP 0 0 rfl rfl rfl rfl) ⟨⟨rfl, rfl⟩, Nat.le_of_ble_eq_true rfl, Nat.le_of_ble_eq_true rfl⟩ hl.1 (Nat.le_of_ble_eq_true rfl) ⟨Nat.le_of_ble_eq_true rfl, Nat.le_of_ble_eq_true rfl⟩ rfl dX5_loudnessOf_10 ?_
  refine b_top (y := nI c0) hc ?_
  refine b_ge (tgt := 49) (i) (c0) hx hb rfl rfl (by omega) (by omega) dX5_loudnessOf_13 (by decide) (fun h_1 => ?_) (fun h_1 => ?_)
  · obtain rfl : i = c0 := by omega
    refine lv_iload_n hx hb dX5_loudnessOf_49 rfl (lv_at hl 3 rfl) ?_
    exact rI_ret hx hb hr hlocks dX5_loudnessOf_50 (rfl)
  · refine lv_iload_n hx hb dX5_loudnessOf_16 rfl (lv_at hl 3 rfl) ?_
    refine lv_iload_n hx hb dX5_loudnessOf_17 rfl (lv_at hl 2 rfl) ?_
    refine lv_iload hx hb dX5_loudnessOf_18 (lv_at hl 4 rfl) ?_
    refine lv_ishr hx hb dX5_loudnessOf_20 ?_
    refine lv_iconst (v := 1) hx hb dX5_loudnessOf_21 (by decide) ?_
    refine lv_iand hx hb dX5_loudnessOf_22 ?_
    refine lv_iconst (v := 1) hx hb dX5_loudnessOf_23 (by decide) ?_
    refine lv_icmp_ne (tgt := 40) hx hb dX5_loudnessOf_24 (by decide) (fun h_2 => ?_) (fun h_2 => ?_)
    · refine lv_iconst (v := 0) hx hb dX5_loudnessOf_40 (by decide) ?_
      refine lv_iadd hx hb dX5_loudnessOf_41 ?_
      refine lv_istore_n (lv' := [(3, .int ((lsM V t bs i) + 0)), (0, .ref h), (1, .int (nI t)), (2, .int bs), (4, .int (nI i))]) hx hb dX5_loudnessOf_42 rfl hl (by decide) rfl (fun ls hl => ?_)
      refine lv_iinc (v := nI (i + 1)) (lv' := [(4, .int (nI (i + 1))), (3, .int ((lsM V t bs i) + 0)), (0, .ref h), (1, .int (nI t)), (2, .int bs)]) hx hb dX5_loudnessOf_43 hl (k := 4) rfl (nI_add i 1) (by decide) rfl (fun ls hl => ?_)
      refine lv_goto (tgt := 5) hx hb dX5_loudnessOf_46 (by decide) ?_
      have e_3 : lsM V t bs (i + 1) = (lsM V t bs i) + 0 := by simp only [lsM, bitW]; simp only [h_1, h_2, not_true_eq_false, not_false_eq_true, ite_true, ite_false, reduceIte]
      exact ih_i (by omega)  _ (by rw [e_3]; exact lv_sub hl [2, 3, 4, 1, 0] rfl) 
    · refine lv_aload_n hx hb dX5_loudnessOf_27 rfl (lv_at hl 0 rfl) ?_
      refine lv_iload_n hx hb dX5_loudnessOf_28 rfl (lv_at hl 1 rfl) ?_
      refine lv_bipush (v := 9) hx hb dX5_loudnessOf_29 (by decide) ?_
      refine lv_iload hx hb dX5_loudnessOf_31 (lv_at hl 4 rfl) ?_
      refine lv_iadd hx hb dX5_loudnessOf_33 ?_
      refine b_top (y := nI (9 + i)) (nI_add 9 i) ?_
      refine call_VR (As := [.int (nI t), .int (nI (9 + i))]) (rest := [.int (lsM V t bs i)]) E rfl hK hP (c_X5_of_9 l g h a V X t i (by omega) (by omega)) ok_X5_of rfl q3_94 [0] rfl (b_recv hK hP 0 0 rfl rfl rfl rfl) ⟨⟨rfl, rfl⟩, Nat.le_of_ble_eq_true rfl, Nat.le_of_ble_eq_true rfl⟩ hl.1 (Nat.le_of_ble_eq_true rfl) ⟨Nat.le_of_ble_eq_true rfl, Nat.le_of_ble_eq_true rfl⟩ rfl dX5_loudnessOf_34 ?_
      refine lv_goto (tgt := 41) hx hb dX5_loudnessOf_37 (by decide) ?_
      refine lv_iadd hx hb dX5_loudnessOf_41 ?_
      refine lv_istore_n (lv' := [(3, .int ((lsM V t bs i) + (V 9 (t * 5 + i)))), (0, .ref h), (1, .int (nI t)), (2, .int bs), (4, .int (nI i))]) hx hb dX5_loudnessOf_42 rfl hl (by decide) rfl (fun ls hl => ?_)
      refine lv_iinc (v := nI (i + 1)) (lv' := [(4, .int (nI (i + 1))), (3, .int ((lsM V t bs i) + (V 9 (t * 5 + i)))), (0, .ref h), (1, .int (nI t)), (2, .int bs)]) hx hb dX5_loudnessOf_43 hl (k := 4) rfl (nI_add i 1) (by decide) rfl (fun ls hl => ?_)
      refine lv_goto (tgt := 5) hx hb dX5_loudnessOf_46 (by decide) ?_
      have e_4 : lsM V t bs (i + 1) = (lsM V t bs i) + (V 9 (t * 5 + i)) := by simp only [lsM, bitW]; simp only [h_1, h_2, not_true_eq_false, not_false_eq_true, ite_true, ite_false, reduceIte]
      exact ih_i (by omega)  _ (by rw [e_4]; exact lv_sub hl [2, 3, 4, 1, 0] rfl) 

set_option maxHeartbeats 4000000 in
set_option maxRecDepth 100000 in
theorem c_X5_listen (l : Launch) (g : gx) (h : Nat) (a : Nat → Nat) (V X : sV) (cq : Nat → Nat) (hc : ∀ t, t < 6 → V 3 t = nI (cq t) ∧ cq t ≤ 5)  : cU (S := Unit) l g yX5_listen cX5_listen 2 none ({ frames := 4, cells := 0, slots := 0, locals := 91 } : Room) [.ref h] [mV g h a V X] (fun _ => none) (fun _ => True) (fun _ => [mV g h a V (liX V cq X 6)]) := by
  refine cU.mk (by decide +kernel) (Nat.le_of_ble_eq_true rfl) ?_
  intro p e s m below meth c ls E hK hW hl
  obtain ⟨hx, hb, hr, hml, hts, hown, hlocks, hin⟩ := id E
  have hown : s.vm.findClass RX5 = some m.cls := hown
  have hP := hW.1
  have hl : lv_has ls 2 [(0, .ref h)] := hl
  refine lv_iconst (v := 0) hx hb dX5_listen_0 (by decide) ?_
  refine lv_istore_n (lv' := [(1, .int 0), (0, .ref h)]) hx hb dX5_listen_1 rfl hl (by decide) rfl (fun ls hl => ?_)
  refine loopN (fun i : Nat => ∀ (H : Heap) (locs : List Loc) (ls : Array Slot), wd g (fun z9 => z9 ∈ adr [mV g h a V X]) s.heap [mV g h a V (liX V cq X i)] H locs → lv_has ls 2 [(0, .ref h), (1, .int (nI i))] → W p l e _ s m _ below meth c H locs 0 0 _ (F0 m 2 ls [])) (6) (fun i hi ih_i => ?_) (0) (by omega)  s.heap [] ls hW (lv_sub hl [1, 0] rfl) 
  intro  H locs ls hW hl 
  have hP := hW.1
  refine lv_iload_n hx hb dX5_listen_2 rfl (lv_at hl 1 rfl) ?_
  refine lv_bipush (v := 6) hx hb dX5_listen_3 (by decide) ?_
  refine b_ge (tgt := 36) (i) (6) hx hb rfl rfl (by omega) (by omega) dX5_listen_5 (by decide) (fun h_1 => ?_) (fun h_1 => ?_)
  · obtain rfl : i = 6 := by omega
    obtain ⟨U_2, hU_2⟩ : ∃ z, z = (liX V cq X 6) := ⟨_, rfl⟩
    rw [← hU_2] at hW
    have hP := hW.1
    exact uV_ret () hW hx hb hr hlocks dX5_listen_36 trivial (by rw [hU_2]) (adr2 (L := [[h, a 0, a 1, a 2, a 3, a 4, a 5, a 6, a 7, a 8]]) rfl rfl)
  · refine lv_aload_n hx hb dX5_listen_8 rfl (lv_at hl 0 rfl) ?_
    refine b_get (v := .ref (a 4)) hx hb hts inX5 hown hK hP 0 0 6 rfl rfl rfl (by decide) q3_31 rfl rfl dX5_listen_9 ?_
    refine lv_iload_n hx hb dX5_listen_12 rfl (lv_at hl 1 rfl) ?_
    refine lv_aload_n hx hb dX5_listen_13 rfl (lv_at hl 0 rfl) ?_
    refine lv_iload_n hx hb dX5_listen_14 rfl (lv_at hl 1 rfl) ?_
    refine lv_aload_n hx hb dX5_listen_15 rfl (lv_at hl 0 rfl) ?_
    refine lv_iload_n hx hb dX5_listen_16 rfl (lv_at hl 1 rfl) ?_
    refine lv_aload_n hx hb dX5_listen_17 rfl (lv_at hl 0 rfl) ?_
    refine lv_iload_n hx hb dX5_listen_18 rfl (lv_at hl 1 rfl) ?_
    refine lv_iconst (v := 4) hx hb dX5_listen_19 (by decide) ?_
    refine call_VR (As := [.int (nI i), .int 4]) (rest := [.int (nI i), .ref h, .int (nI i), .ref h, .int (nI i), .ref (a 4)]) E rfl hK hP (c_X5_of_k l g h a V (liX V cq X i) i 4 (by omega) (by omega)) ok_X5_of rfl q3_94 [0] rfl (b_recv hK hP 0 0 rfl rfl rfl rfl) ⟨⟨rfl, rfl⟩, Nat.le_of_ble_eq_true rfl, Nat.le_of_ble_eq_true rfl⟩ hl.1 (Nat.le_of_ble_eq_true rfl) ⟨Nat.le_of_ble_eq_true rfl, Nat.le_of_ble_eq_true rfl⟩ rfl dX5_listen_20 ?_
    refine call_VR (As := [.int (nI i), .int (V 4 i)]) (rest := [.int (nI i), .ref h, .int (nI i), .ref (a 4)]) E rfl hK hP (c_X5_rings l g h a V (liX V cq X i) i (V 4 i) (cq i) (hc _ (by omega)).1 (hc _ (by omega)).2 (by omega)) ok_X5_rings rfl q3_162 [0] rfl (b_recv hK hP 0 0 rfl rfl rfl rfl) ⟨⟨rfl, rfl⟩, Nat.le_of_ble_eq_true rfl, Nat.le_of_ble_eq_true rfl⟩ hl.1 (Nat.le_of_ble_eq_true rfl) ⟨Nat.le_of_ble_eq_true rfl, Nat.le_of_ble_eq_true rfl⟩ rfl dX5_listen_23 ?_
    refine call_VR (As := [.int (nI i), .int ((rgM V i (V 4 i) (cq i)).1)]) (rest := [.int (nI i), .ref (a 4)]) E rfl hK hP (c_X5_loudnessOf l g h a V (liX V cq X i) i ((rgM V i (V 4 i) (cq i)).1) (cq i) (hc _ (by omega)).1 (hc _ (by omega)).2 (by omega)) ok_X5_loudnessOf rfl q3_174 [0] rfl (b_recv hK hP 0 0 rfl rfl rfl rfl) ⟨⟨rfl, rfl⟩, Nat.le_of_ble_eq_true rfl, Nat.le_of_ble_eq_true rfl⟩ hl.1 (Nat.le_of_ble_eq_true rfl) ⟨Nat.le_of_ble_eq_true rfl, Nat.le_of_ble_eq_true rfl⟩ rfl dX5_listen_26 ?_
    refine b_iast (B' := [mV g h a V (up2 (liX V cq X i) 4 i (lsM V i ((rgM V i (V 4 i) (cq i)).1) (cq i)))]) hx hb hK hW 0 5 (i) rfl rfl rfl (by omega) rfl rfl dX5_listen_29 (fun H locs hW => ?_)
    have hP := hW.1
    refine lv_iinc (v := nI (i + 1)) (lv' := [(1, .int (nI (i + 1))), (0, .ref h)]) hx hb dX5_listen_30 hl (k := 1) rfl (nI_add i 1) (by decide) rfl (fun ls hl => ?_)
    refine lv_goto (tgt := 2) hx hb dX5_listen_33 (by decide) ?_
    have e_3 : ([mV g h a V (liX V cq X (i + 1))] : List va_W) = [mV g h a V (up2 (liX V cq X i) 4 i (lsM V i ((rgM V i (V 4 i) (cq i)).1) (cq i)))] := rfl
    exact ih_i (by omega)  _ _ _ (by rw [e_3]; exact hW) (lv_sub hl [1, 0] rfl) 
