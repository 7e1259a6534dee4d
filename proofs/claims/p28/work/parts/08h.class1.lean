set_option maxHeartbeats 4000000 in
set_option maxRecDepth 100000 in
theorem c_X3_givePoints (l : Launch) (g : gx) (h : Nat) (a : Nat → Nat) (V : sV) (o : Nat) (oa : Nat → Nat) (N : sV)  : cU (S := Unit) l g yX3_givePoints cX3_givePoints 4 none ({ frames := 1, cells := 0, slots := 0, locals := 20 } : Room) [.ref h, .ref o] [vB g h a V, rB g o oa N] (fun _ => none) (fun _ => True) (fun _ => [vB g h a (gpV V N 6), rB g o oa N]) := by
  refine cU.mk (by decide +kernel) (Nat.le_of_ble_eq_true rfl) ?_
  intro p e s m below meth c ls E hK hW hl
  obtain ⟨hx, hb, hr, hml, hts, hown, hlocks, hin⟩ := id E
  have hown : s.vm.findClass RX3 = some m.cls := hown
  have hP := hW.1
  have hl : lv_has ls 4 [(0, .ref h), (1, .ref o)] := hl
  refine lv_iconst (v := 0) hx hb dX3_givePoints_0 (by decide) ?_
  refine lv_istore_n (lv' := [(2, .int 0), (0, .ref h), (1, .ref o)]) hx hb dX3_givePoints_1 rfl hl (by decide) rfl (fun ls hl => ?_)
  refine loopN (fun i : Nat => ∀ (H : Heap) (locs : List Loc) (ls : Array Slot), wd g (fun q => q ∈ adr [vB g h a V, rB g o oa N]) s.heap [vB g h a (gpV V N i), rB g o oa N] H locs → lv_has ls 4 [(0, .ref h), (1, .ref o), (2, .int (nI i))] → W p l e _ s m _ below meth c H locs 0 0 _ (F0 m 2 ls [])) (6) (fun i hi ih_i => ?_) (0) (by omega)  s.heap [] ls hW (lv_sub hl [1, 2, 0] rfl) 
  intro  H locs ls hW hl 
  have hP := hW.1
  refine lv_iload_n hx hb dX3_givePoints_2 rfl (lv_at hl 2 rfl) ?_
  refine lv_bipush (v := 6) hx hb dX3_givePoints_3 (by decide) ?_
  refine b_ge (tgt := 38) (i) (6) hx hb rfl rfl (by omega) (by omega) dX3_givePoints_5 (by decide) (fun h_1 => ?_) (fun h_1 => ?_)
  · obtain rfl : i = 6 := by omega
    obtain ⟨U_2, hU_2⟩ : ∃ z, z = (gpV V N 6) := ⟨_, rfl⟩
    rw [← hU_2] at hW
    have hP := hW.1
    exact uV_ret () hW hx hb hr hlocks dX3_givePoints_38 trivial (by rw [hU_2]) (adr2 (L := [[h, a 0, a 1, a 2, a 3, a 4, a 5, a 6, a 7, a 8, a 9, a 10, a 11], [o, oa 0, oa 1, oa 2, oa 3]]) rfl rfl)
  · refine lv_aload_n hx hb dX3_givePoints_8 rfl (lv_at hl 1 rfl) ?_
    refine b_get (v := .ref (oa 3)) hx hb hts inX1 hown hK hP 1 0 3 rfl rfl rfl (by decide) q1_131 rfl rfl dX3_givePoints_9 ?_
    refine lv_iload_n hx hb dX3_givePoints_12 rfl (lv_at hl 2 rfl) ?_
    refine b_iald (v := N 3 i) hx hb hK hP 1 4 (i) rfl rfl rfl (by omega) rfl rfl dX3_givePoints_13 ?_
    refine lv_istore_n (lv' := [(3, .int (N 3 i)), (0, .ref h), (1, .ref o), (2, .int (nI i))]) hx hb dX3_givePoints_14 rfl hl (by decide) rfl (fun ls hl => ?_)
    refine lv_iload_n hx hb dX3_givePoints_15 rfl (lv_at hl 0 rfl) ?_
    refine call_NR (As := [.int (N 3 i)]) (rest := []) E rfl hK hP (c_X4_isTown l g (N 3 i)) ok_X4_isTown rfl hK.2.2.2.2.2.1 [] rfl ⟨⟨rfl, rfl⟩, Nat.le_of_ble_eq_true rfl, Nat.le_of_ble_eq_true rfl⟩ hl.1 (Nat.le_of_ble_eq_true rfl) ⟨Nat.le_of_ble_eq_true rfl, Nat.le_of_ble_eq_true rfl⟩ rfl dX3_givePoints_16 ?_
    refine b_eq0 (tgt := 32) hx hb dX3_givePoints_19 (by decide) (fun h_3 => ?_) (fun h_3 => ?_)
    · refine lv_iinc (v := nI (i + 1)) (lv' := [(2, .int (nI (i + 1))), (3, .int (N 3 i)), (0, .ref h), (1, .ref o)]) hx hb dX3_givePoints_32 hl (k := 3) rfl (nI_add i 1) (by decide) rfl (fun ls hl => ?_)
      refine lv_goto (tgt := 2) hx hb dX3_givePoints_35 (by decide) ?_
      have e_4 : ([vB g h a (gpV V N (i + 1)), rB g o oa N] : List va_W) = [vB g h a (gpV V N i), rB g o oa N] := by rw [gpV]; first | rw [if_neg (by assumption)] | (rw [if_pos (by assumption), hwe, nI_clamp (by omega)])
      exact ih_i (by omega)  _ _ _ (by rw [e_4]; exact hW) (lv_sub hl [2, 3, 0] rfl) 
    · obtain ⟨w, hw, hwe⟩ := isT_nat h_3
      refine lv_aload_n hx hb dX3_givePoints_22 rfl (lv_at hl 1 rfl) ?_
      refine b_get (v := .ref (a 7)) hx hb hts inX3 hown hK hP 0 0 7 rfl rfl rfl (by decide) q1_38 rfl rfl dX3_givePoints_23 ?_
      refine lv_iload_n hx hb dX3_givePoints_26 rfl (lv_at hl 0 rfl) ?_
      refine lv_dup2_11 hx hb dX3_givePoints_27 rfl rfl ?_
      refine b_iald (v := (gpV V N i) 7 w) hx hb hK hP 0 8 (w) rfl rfl hwe (by omega) rfl rfl dX3_givePoints_28 ?_
      refine lv_iconst (v := 1) hx hb dX3_givePoints_29 (by decide) ?_
      refine lv_iadd hx hb dX3_givePoints_30 ?_
      refine b_iast (B' := [vB g h a (up2 (gpV V N i) 7 w (((gpV V N i) 7 w) + 1)), rB g o oa N]) hx hb hK hW 0 8 (w) rfl rfl hwe (by omega) rfl rfl dX3_givePoints_31 (fun H locs hW => ?_)
      have hP := hW.1
      refine lv_iinc (v := nI (i + 1)) (lv' := [(2, .int (nI (i + 1))), (3, .int (N 3 i)), (0, .ref h), (1, .ref o)]) hx hb dX3_givePoints_32 hl (k := 3) rfl (nI_add i 1) (by decide) rfl (fun ls hl => ?_)
      refine lv_goto (tgt := 2) hx hb dX3_givePoints_35 (by decide) ?_
      have e_5 : ([vB g h a (gpV V N (i + 1)), rB g o oa N] : List va_W) = [vB g h a (up2 (gpV V N i) 7 w (((gpV V N i) 7 w) + 1)), rB g o oa N] := by rw [gpV]; first | rw [if_neg (by assumption)] | (rw [if_pos (by assumption), hwe, nI_clamp (by omega)])
      exact ih_i (by omega)  _ _ _ (by rw [e_5]; exact hW) (lv_sub hl [2, 3, 0] rfl) 

set_option maxHeartbeats 4000000 in
set_option maxRecDepth 100000 in
theorem c_X3_wearRopes (l : Launch) (g : gx) (h : Nat) (a : Nat → Nat) (V : sV) (o : Nat) (oa : Nat → Nat) (N : sV)  : cU (S := Unit) l g yX3_wearRopes cX3_wearRopes 3 none ({ frames := 0, cells := 0, slots := 0, locals := 0 } : Room) [.ref h, .ref o] [vB g h a V, rB g o oa N] (fun _ => none) (fun _ => True) (fun _ => [vB g h a (wrV V N 30), rB g o oa N]) := by
  refine cU.mk (by decide +kernel) (Nat.le_of_ble_eq_true rfl) ?_
  intro p e s m below meth c ls E hK hW hl
  obtain ⟨hx, hb, hr, hml, hts, hown, hlocks, hin⟩ := id E
  have hown : s.vm.findClass RX3 = some m.cls := hown
  have hP := hW.1
  have hl : lv_has ls 3 [(0, .ref h), (1, .ref o)] := hl
  refine lv_iconst (v := 0) hx hb dX3_wearRopes_0 (by decide) ?_
  refine lv_istore_n (lv' := [(2, .int 0), (0, .ref h), (1, .ref o)]) hx hb dX3_wearRopes_1 rfl hl (by decide) rfl (fun ls hl => ?_)
  refine loopN (fun i : Nat => ∀ (H : Heap) (locs : List Loc) (ls : Array Slot), wd g (fun q => q ∈ adr [vB g h a V, rB g o oa N]) s.heap [vB g h a (wrV V N i), rB g o oa N] H locs → lv_has ls 3 [(0, .ref h), (1, .ref o), (2, .int (nI i))] → W p l e _ s m _ below meth c H locs 0 0 _ (F0 m 2 ls [])) (30) (fun i hi ih_i => ?_) (0) (by omega)  s.heap [] ls hW (lv_sub hl [1, 2, 0] rfl) 
  intro  H locs ls hW hl 
  have hP := hW.1
  refine lv_iload_n hx hb dX3_wearRopes_2 rfl (lv_at hl 2 rfl) ?_
  refine lv_bipush (v := 30) hx hb dX3_wearRopes_3 (by decide) ?_
  refine b_ge (tgt := 43) (i) (30) hx hb rfl rfl (by omega) (by omega) dX3_wearRopes_5 (by decide) (fun h_1 => ?_) (fun h_1 => ?_)
  · obtain rfl : i = 30 := by omega
    obtain ⟨U_2, hU_2⟩ : ∃ z, z = (wrV V N 30) := ⟨_, rfl⟩
    rw [← hU_2] at hW
    have hP := hW.1
    exact uV_ret () hW hx hb hr hlocks dX3_wearRopes_43 trivial (by rw [hU_2]) (adr2 (L := [[h, a 0, a 1, a 2, a 3, a 4, a 5, a 6, a 7, a 8, a 9, a 10, a 11], [o, oa 0, oa 1, oa 2, oa 3]]) rfl rfl)
  · refine lv_aload_n hx hb dX3_wearRopes_8 rfl (lv_at hl 1 rfl) ?_
    refine b_get (v := .ref (oa 0)) hx hb hts inX1 hown hK hP 1 0 0 rfl rfl rfl (by decide) q1_125 rfl rfl dX3_wearRopes_9 ?_
    refine lv_iload_n hx hb dX3_wearRopes_12 rfl (lv_at hl 2 rfl) ?_
    refine b_iald (v := N 0 i) hx hb hK hP 1 1 (i) rfl rfl rfl (by omega) rfl rfl dX3_wearRopes_13 ?_
    refine lv_if_ne (tgt := 37) hx hb dX3_wearRopes_14 (by decide) (fun h_3 => ?_) (fun h_3 => ?_)
    · refine lv_iinc (v := nI (i + 1)) (lv' := [(2, .int (nI (i + 1))), (0, .ref h), (1, .ref o)]) hx hb dX3_wearRopes_37 hl (k := 2) rfl (nI_add i 1) (by decide) rfl (fun ls hl => ?_)
      refine lv_goto (tgt := 2) hx hb dX3_wearRopes_40 (by decide) ?_
      have e_4 : ([vB g h a (wrV V N (i + 1)), rB g o oa N] : List va_W) = [vB g h a (wrV V N i), rB g o oa N] := by rw [wrV]; simp only [h_1, h_3, not_true_eq_false, not_false_eq_true, ite_true, ite_false, reduceIte]
      exact ih_i (by omega)  _ _ _ (by rw [e_4]; exact hW) (lv_sub hl [1, 2, 0] rfl) 
    · refine lv_aload_n hx hb dX3_wearRopes_17 rfl (lv_at hl 0 rfl) ?_
      refine b_get (v := .ref (a 10)) hx hb hts inX3 hown hK hP 0 0 10 rfl rfl rfl (by decide) q1_45 rfl rfl dX3_wearRopes_18 ?_
      refine lv_iload_n hx hb dX3_wearRopes_21 rfl (lv_at hl 2 rfl) ?_
      refine lv_dup2_11 hx hb dX3_wearRopes_22 rfl rfl ?_
      refine b_iald (v := (wrV V N i) 10 i) hx hb hK hP 0 11 (i) rfl rfl rfl (by omega) rfl rfl dX3_wearRopes_23 ?_
      refine lv_iconst (v := 1) hx hb dX3_wearRopes_24 (by decide) ?_
      refine lv_iadd hx hb dX3_wearRopes_25 ?_
      refine b_iast (B' := [vB g h a (up2 (wrV V N i) 10 i (((wrV V N i) 10 i) + 1)), rB g o oa N]) hx hb hK hW 0 11 (i) rfl rfl rfl (by omega) rfl rfl dX3_wearRopes_26 (fun H locs hW => ?_)
      have hP := hW.1
      refine lv_aload_n hx hb dX3_wearRopes_27 rfl (lv_at hl 0 rfl) ?_
      refine b_get (v := .ref (a 11)) hx hb hts inX3 hown hK hP 0 0 11 rfl rfl rfl (by decide) q1_48 rfl rfl dX3_wearRopes_28 ?_
      refine lv_iload_n hx hb dX3_wearRopes_31 rfl (lv_at hl 2 rfl) ?_
      refine lv_dup2_11 hx hb dX3_wearRopes_32 rfl rfl ?_
      refine b_iald (v := (wrV V N i) 11 i) hx hb hK hP 0 12 (i) rfl rfl rfl (by omega) rfl rfl dX3_wearRopes_33 ?_
      refine lv_iconst (v := 1) hx hb dX3_wearRopes_34 (by decide) ?_
      refine lv_iadd hx hb dX3_wearRopes_35 ?_
      refine b_iast (B' := [vB g h a (up2 (up2 (wrV V N i) 10 i (((wrV V N i) 10 i) + 1)) 11 i (((wrV V N i) 11 i) + 1)), rB g o oa N]) hx hb hK hW 0 12 (i) rfl rfl rfl (by omega) rfl rfl dX3_wearRopes_36 (fun H locs hW => ?_)
      have hP := hW.1
      refine lv_iinc (v := nI (i + 1)) (lv' := [(2, .int (nI (i + 1))), (0, .ref h), (1, .ref o)]) hx hb dX3_wearRopes_37 hl (k := 2) rfl (nI_add i 1) (by decide) rfl (fun ls hl => ?_)
      refine lv_goto (tgt := 2) hx hb dX3_wearRopes_40 (by decide) ?_
      have e_5 : ([vB g h a (wrV V N (i + 1)), rB g o oa N] : List va_W) = [vB g h a (up2 (up2 (wrV V N i) 10 i (((wrV V N i) 10 i) + 1)) 11 i (((wrV V N i) 11 i) + 1)), rB g o oa N] := by rw [wrV]; simp only [h_1, h_3, not_true_eq_false, not_false_eq_true, ite_true, ite_false, reduceIte]
      exact ih_i (by omega)  _ _ _ (by rw [e_5]; exact hW) (lv_sub hl [1, 2, 0] rfl) 
