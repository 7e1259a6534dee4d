set_option maxHeartbeats 4000000 in
set_option maxRecDepth 100000 in
theorem c_X3_tireRingers (l : Launch) (g : gx) (h : Nat) (a : Nat → Nat) (V : sV) (o : Nat) (oa : Nat → Nat) (N : sV)  : cU (S := Unit) l g yX3_tireRingers cX3_tireRingers 3 none ({ frames := 0, cells := 0, slots := 0, locals := 0 } : Room) [.ref h, .ref o] [vB g h a V, rB g o oa N] (fun _ => none) (fun _ => True) (fun _ => [vB g h a (trV V N 6), rB g o oa N]) := by
  refine cU.mk (by decide +kernel) (Nat.le_of_ble_eq_true rfl) ?_
  intro p e s m below meth c ls E hK hW hl
  obtain ⟨hx, hb, hr, hml, hts, hown, hlocks, hin⟩ := id E
  have hown : s.vm.findClass RX3 = some m.cls := hown
  have hP := hW.1
  have hl : lv_has ls 3 [(0, .ref h), (1, .ref o)] := hl
  refine lv_iconst (v := 0) hx hb dX3_tireRingers_0 (by decide) ?_
  refine lv_istore_n (lv' := [(2, .int 0), (0, .ref h), (1, .ref o)]) hx hb dX3_tireRingers_1 rfl hl (by decide) rfl (fun ls hl => ?_)
  refine loopN (fun i : Nat => ∀ (H : Heap) (locs : List Loc) (ls : Array Slot), wd g (fun q => q ∈ adr [vB g h a V, rB g o oa N]) s.heap [vB g h a (trV V N i), rB g o oa N] H locs → lv_has ls 3 [(0, .ref h), (1, .ref o), (2, .int (nI i))] → W p l e _ s m _ below meth c H locs 0 0 _ (F0 m 2 ls [])) (6) (fun i hi ih_i => ?_) (0) (by omega)  s.heap [] ls hW (lv_sub hl [1, 2, 0] rfl) 
  intro  H locs ls hW hl 
  have hP := hW.1
  refine lv_iload_n hx hb dX3_tireRingers_2 rfl (lv_at hl 2 rfl) ?_
  refine lv_bipush (v := 6) hx hb dX3_tireRingers_3 (by decide) ?_
  refine b_ge (tgt := 28) (i) (6) hx hb rfl rfl (by omega) (by omega) dX3_tireRingers_5 (by decide) (fun h_1 => ?_) (fun h_1 => ?_)
  · obtain rfl : i = 6 := by omega
    obtain ⟨U_2, hU_2⟩ : ∃ z, z = (trV V N 6) := ⟨_, rfl⟩
    rw [← hU_2] at hW
    have hP := hW.1
    exact uV_ret () hW hx hb hr hlocks dX3_tireRingers_28 trivial (by rw [hU_2]) (adr2 (L := [[h, a 0, a 1, a 2, a 3, a 4, a 5, a 6, a 7, a 8, a 9, a 10, a 11], [o, oa 0, oa 1, oa 2, oa 3]]) rfl rfl)
  · refine lv_aload_n hx hb dX3_tireRingers_8 rfl (lv_at hl 0 rfl) ?_
    refine b_get (v := .ref (a 2)) hx hb hts inX3 hown hK hP 0 0 2 rfl rfl rfl (by decide) q1_27 rfl rfl dX3_tireRingers_9 ?_
    refine lv_iload_n hx hb dX3_tireRingers_12 rfl (lv_at hl 2 rfl) ?_
    refine lv_aload_n hx hb dX3_tireRingers_13 rfl (lv_at hl 1 rfl) ?_
    refine b_get (v := .ref (oa 2)) hx hb hts inX1 hown hK hP 1 0 2 rfl rfl rfl (by decide) q1_129 rfl rfl dX3_tireRingers_14 ?_
    refine lv_iload_n hx hb dX3_tireRingers_17 rfl (lv_at hl 2 rfl) ?_
    refine b_iald (v := N 2 i) hx hb hK hP 1 3 (i) rfl rfl rfl (by omega) rfl rfl dX3_tireRingers_18 ?_
    refine lv_iconst (v := 2) hx hb dX3_tireRingers_19 (by decide) ?_
    refine lv_idiv hx hb dX3_tireRingers_20 (by decide) ?_
    refine b_iast (B' := [vB g h a (up2 (trV V N i) 2 i ((N 2 i) / 2)), rB g o oa N]) hx hb hK hW 0 3 (i) rfl rfl rfl (by omega) rfl rfl dX3_tireRingers_21 (fun H locs hW => ?_)
    have hP := hW.1
    refine lv_iinc (v := nI (i + 1)) (lv' := [(2, .int (nI (i + 1))), (0, .ref h), (1, .ref o)]) hx hb dX3_tireRingers_22 hl (k := 2) rfl (nI_add i 1) (by decide) rfl (fun ls hl => ?_)
    refine lv_goto (tgt := 2) hx hb dX3_tireRingers_25 (by decide) ?_
    have e_3 : ([vB g h a (trV V N (i + 1)), rB g o oa N] : List va_W) = [vB g h a (up2 (trV V N i) 2 i ((N 2 i) / 2)), rB g o oa N] := rfl
    exact ih_i (by omega)  _ _ _ (by rw [e_3]; exact hW) (lv_sub hl [1, 2, 0] rfl) 

set_option maxHeartbeats 4000000 in
set_option maxRecDepth 100000 in
theorem c_X3_fallSilent (l : Launch) (g : gx) (h : Nat) (a : Nat → Nat) (V : sV) (x : Int32)  : cU (S := Unit) l g yX3_fallSilent cX3_fallSilent 3 none ({ frames := 1, cells := 0, slots := 0, locals := 20 } : Room) [.ref h, .int x] [vB g h a V] (fun _ => none) (fun _ => True) (fun _ => [vB g h a (flV V x)]) := by
  refine cU.mk (by decide +kernel) (Nat.le_of_ble_eq_true rfl) ?_
  intro p e s m below meth c ls E hK hW hl
  obtain ⟨hx, hb, hr, hml, hts, hown, hlocks, hin⟩ := id E
  have hown : s.vm.findClass RX3 = some m.cls := hown
  have hP := hW.1
  have hl : lv_has ls 3 [(0, .ref h), (1, .int x)] := hl
  refine lv_iconst (v := 0) hx hb dX3_fallSilent_0 (by decide) ?_
  refine lv_istore_n (lv' := [(2, .int 0), (0, .ref h), (1, .int x)]) hx hb dX3_fallSilent_1 rfl hl (by decide) rfl (fun ls hl => ?_)
  refine loopN (fun i : Nat => ∀ (H : Heap) (locs : List Loc) (ls : Array Slot), wd g (fun q => q ∈ adr [vB g h a V]) s.heap [vB g h a (fsV V i)] H locs → lv_has ls 3 [(0, .ref h), (1, .int x), (2, .int (nI i))] → W p l e _ s m _ below meth c H locs 0 0 _ (F0 m 2 ls [])) (6) (fun i hi ih_i => ?_) (0) (by omega)  s.heap [] ls hW (lv_sub hl [1, 2, 0] rfl) 
  intro  H locs ls hW hl 
  have hP := hW.1
  refine lv_iload_n hx hb dX3_fallSilent_2 rfl (lv_at hl 2 rfl) ?_
  refine lv_bipush (v := 6) hx hb dX3_fallSilent_3 (by decide) ?_
  refine b_ge (tgt := 33) (i) (6) hx hb rfl rfl (by omega) (by omega) dX3_fallSilent_5 (by decide) (fun h_1 => ?_) (fun h_1 => ?_)
  · obtain rfl : i = 6 := by omega
    obtain ⟨U_2, hU_2⟩ : ∃ z, z = (fsV V 6) := ⟨_, rfl⟩
    rw [← hU_2] at hW
    have hP := hW.1
    refine lv_aload_n hx hb dX3_fallSilent_33 rfl (lv_at hl 0 rfl) ?_
    refine lv_iload_n hx hb dX3_fallSilent_34 rfl (lv_at hl 1 rfl) ?_
    refine b_put (B' := [vB g h a (up2 U_2 12 3 x)]) (v := .int x) hx hb hts inX3 tyX3_ok nmX3 hown hK hW 0 0 16 rfl rfl rfl (by decide) q1_59 rfl rfl rfl rfl (Nat.le_of_ble_eq_true rfl) rfl dX3_fallSilent_35 (fun H locs hW => ?_)
    have hP := hW.1
    refine lv_iload_n hx hb dX3_fallSilent_38 rfl (lv_at hl 1 rfl) ?_
    refine call_NR (As := [.int x]) (rest := []) E rfl hK hP (c_X4_isTown l g x) ok_X4_isTown rfl hK.2.2.2.2.2.1 [] rfl ⟨⟨rfl, rfl⟩, Nat.le_of_ble_eq_true rfl, Nat.le_of_ble_eq_true rfl⟩ hl.1 (Nat.le_of_ble_eq_true rfl) ⟨Nat.le_of_ble_eq_true rfl, Nat.le_of_ble_eq_true rfl⟩ rfl dX3_fallSilent_39 ?_
    refine b_eq0 (tgt := 68) hx hb dX3_fallSilent_42 (by decide) (fun h_3 => ?_) (fun h_3 => ?_)
    · refine lv_aload_n hx hb dX3_fallSilent_68 rfl (lv_at hl 0 rfl) ?_
      refine lv_dup hx hb dX3_fallSilent_69 rfl ?_
      refine b_get (v := .int (U_2 12 4)) hx hb hts inX3 hown hK hP 0 0 15 rfl rfl rfl (by decide) q1_57 rfl rfl dX3_fallSilent_70 ?_
      refine lv_iconst (v := 1) hx hb dX3_fallSilent_73 (by decide) ?_
      refine lv_iadd hx hb dX3_fallSilent_74 ?_
      refine b_put (B' := [vB g h a (up2 (up2 U_2 12 3 x) 12 4 ((U_2 12 4) + 1))]) (v := .int ((U_2 12 4) + 1)) hx hb hts inX3 tyX3_ok nmX3 hown hK hW 0 0 15 rfl rfl rfl (by decide) q1_57 rfl rfl rfl rfl (Nat.le_of_ble_eq_true rfl) rfl dX3_fallSilent_75 (fun H locs hW => ?_)
      have hP := hW.1
      exact uV_ret () hW hx hb hr hlocks dX3_fallSilent_78 trivial (by first | (rw [flV, if_neg (by assumption), hU_2]) | (rw [flV, if_pos hT, nI_clamp (by omega), hU_2])) (adr2 (L := [[h, a 0, a 1, a 2, a 3, a 4, a 5, a 6, a 7, a 8, a 9, a 10, a 11]]) rfl rfl)
    · have hT := h_3
      obtain ⟨w, hw, rfl⟩ := isT_nat h_3
      refine lv_aload_n hx hb dX3_fallSilent_45 rfl (lv_at hl 0 rfl) ?_
      refine b_get (v := .ref (a 6)) hx hb hts inX3 hown hK hP 0 0 6 rfl rfl rfl (by decide) q1_35 rfl rfl dX3_fallSilent_46 ?_
      refine lv_iload_n hx hb dX3_fallSilent_49 rfl (lv_at hl 1 rfl) ?_
      refine lv_aload_n hx hb dX3_fallSilent_50 rfl (lv_at hl 0 rfl) ?_
      refine b_get (v := .int (U_2 12 1)) hx hb hts inX3 hown hK hP 0 0 13 rfl rfl rfl (by decide) q1_53 rfl rfl dX3_fallSilent_51 ?_
      refine b_iast (B' := [vB g h a (up2 (up2 U_2 12 3 (nI w)) 6 w (U_2 12 1))]) hx hb hK hW 0 7 (w) rfl rfl rfl (by omega) rfl rfl dX3_fallSilent_54 (fun H locs hW => ?_)
      have hP := hW.1
      refine lv_aload_n hx hb dX3_fallSilent_55 rfl (lv_at hl 0 rfl) ?_
      refine b_get (v := .ref (a 8)) hx hb hts inX3 hown hK hP 0 0 8 rfl rfl rfl (by decide) q1_40 rfl rfl dX3_fallSilent_56 ?_
      refine lv_iload_n hx hb dX3_fallSilent_59 rfl (lv_at hl 1 rfl) ?_
      refine lv_dup2_11 hx hb dX3_fallSilent_60 rfl rfl ?_
      refine b_iald (v := U_2 8 w) hx hb hK hP 0 9 (w) rfl rfl rfl (by omega) rfl rfl dX3_fallSilent_61 ?_
      refine lv_iconst (v := 1) hx hb dX3_fallSilent_62 (by decide) ?_
      refine lv_iadd hx hb dX3_fallSilent_63 ?_
      refine b_iast (B' := [vB g h a (up2 (up2 (up2 U_2 12 3 (nI w)) 6 w (U_2 12 1)) 8 w ((U_2 8 w) + 1))]) hx hb hK hW 0 9 (w) rfl rfl rfl (by omega) rfl rfl dX3_fallSilent_64 (fun H locs hW => ?_)
      have hP := hW.1
      refine lv_goto (tgt := 78) hx hb dX3_fallSilent_65 (by decide) ?_
      exact uV_ret () hW hx hb hr hlocks dX3_fallSilent_78 trivial (by first | (rw [flV, if_neg (by assumption), hU_2]) | (rw [flV, if_pos hT, nI_clamp (by omega), hU_2])) (adr2 (L := [[h, a 0, a 1, a 2, a 3, a 4, a 5, a 6, a 7, a 8, a 9, a 10, a 11]]) rfl rfl)
  · refine lv_aload_n hx hb dX3_fallSilent_8 rfl (lv_at hl 0 rfl) ?_
    refine b_get (v := .ref (a 6)) hx hb hts inX3 hown hK hP 0 0 6 rfl rfl rfl (by decide) q1_35 rfl rfl dX3_fallSilent_9 ?_
    refine lv_iload_n hx hb dX3_fallSilent_12 rfl (lv_at hl 2 rfl) ?_
    refine b_iald (v := (fsV V i) 6 i) hx hb hK hP 0 7 (i) rfl rfl rfl (by omega) rfl rfl dX3_fallSilent_13 ?_
    refine lv_if_le (tgt := 27) hx hb dX3_fallSilent_14 (by decide) (fun h_4 => ?_) (fun h_4 => ?_)
    · refine lv_iinc (v := nI (i + 1)) (lv' := [(2, .int (nI (i + 1))), (0, .ref h), (1, .int x)]) hx hb dX3_fallSilent_27 hl (k := 2) rfl (nI_add i 1) (by decide) rfl (fun ls hl => ?_)
      refine lv_goto (tgt := 2) hx hb dX3_fallSilent_30 (by decide) ?_
      have e_5 : ([vB g h a (fsV V (i + 1))] : List va_W) = [vB g h a (fsV V i)] := by rw [fsV]; simp only [h_1, h_4, not_true_eq_false, not_false_eq_true, ite_true, ite_false, reduceIte]
      exact ih_i (by omega)  _ _ _ (by rw [e_5]; exact hW) (lv_sub hl [1, 2, 0] rfl) 
    · refine lv_aload_n hx hb dX3_fallSilent_17 rfl (lv_at hl 0 rfl) ?_
      refine b_get (v := .ref (a 6)) hx hb hts inX3 hown hK hP 0 0 6 rfl rfl rfl (by decide) q1_35 rfl rfl dX3_fallSilent_18 ?_
      refine lv_iload_n hx hb dX3_fallSilent_21 rfl (lv_at hl 2 rfl) ?_
      refine lv_dup2_11 hx hb dX3_fallSilent_22 rfl rfl ?_
      refine b_iald (v := (fsV V i) 6 i) hx hb hK hP 0 7 (i) rfl rfl rfl (by omega) rfl rfl dX3_fallSilent_23 ?_
      refine lv_iconst (v := 1) hx hb dX3_fallSilent_24 (by decide) ?_
      refine lv_isub hx hb dX3_fallSilent_25 ?_
      refine b_iast (B' := [vB g h a (up2 (fsV V i) 6 i (((fsV V i) 6 i) - 1))]) hx hb hK hW 0 7 (i) rfl rfl rfl (by omega) rfl rfl dX3_fallSilent_26 (fun H locs hW => ?_)
      have hP := hW.1
      refine lv_iinc (v := nI (i + 1)) (lv' := [(2, .int (nI (i + 1))), (0, .ref h), (1, .int x)]) hx hb dX3_fallSilent_27 hl (k := 2) rfl (nI_add i 1) (by decide) rfl (fun ls hl => ?_)
      refine lv_goto (tgt := 2) hx hb dX3_fallSilent_30 (by decide) ?_
      have e_6 : ([vB g h a (fsV V (i + 1))] : List va_W) = [vB g h a (up2 (fsV V i) 6 i (((fsV V i) 6 i) - 1))] := by rw [fsV]; simp only [h_1, h_4, not_true_eq_false, not_false_eq_true, ite_true, ite_false, reduceIte]
      exact ih_i (by omega)  _ _ _ (by rw [e_6]; exact hW) (lv_sub hl [1, 2, 0] rfl) 
