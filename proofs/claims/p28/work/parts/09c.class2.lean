set_option maxHeartbeats 4000000 in
set_option maxRecDepth 100000 in
theorem c_X1_foresee (l : Launch) (g : gx) (h : Nat) (a : Nat → Nat) (N : sV) (o : Nat) (oa : Nat → Nat) (V : sV)  : cU (S := Unit) l g yX1_foresee cX1_foresee 4 none ({ frames := 3, cells := 0, slots := 0, locals := 74 } : Room) [.ref h, .ref o] [rB g h a N, vB g o oa V] (fun _ => none) (fun _ => True) (fun _ => [rB g h a (forN V N), vB g o oa V]) := by
  refine cU.mk (by decide +kernel) (Nat.le_of_ble_eq_true rfl) ?_
  intro p e s m below meth c ls E hK hW hl
  obtain ⟨hx, hb, hr, hml, hts, hown, hlocks, hin⟩ := id E
  have hown : s.vm.findClass RX1 = some m.cls := hown
  have hP := hW.1
  have hl : lv_has ls 4 [(0, .ref h), (1, .ref o)] := hl
  refine lv_aload_n hx hb dX1_foresee_0 rfl (lv_at hl 0 rfl) ?_
  refine lv_bipush (v := -5) hx hb dX1_foresee_1 (by decide) ?_
  refine b_put (B' := [rB g h a (up2 N 4 0 (-5)), vB g o oa V]) (v := .int (-5)) hx hb hts inX1 tyX1_ok nmX1 hown hK hW 0 0 4 rfl rfl rfl (by decide) q1_133 rfl rfl rfl rfl (Nat.le_of_ble_eq_true rfl) rfl dX1_foresee_3 (fun H locs hW => ?_)
  have hP := hW.1
  refine lv_iconst (v := 0) hx hb dX1_foresee_6 (by decide) ?_
  refine lv_istore_n (lv' := [(2, .int 0), (0, .ref h), (1, .ref o)]) hx hb dX1_foresee_7 rfl hl (by decide) rfl (fun ls hl => ?_)
  refine lv_iconst (v := 0) hx hb dX1_foresee_8 (by decide) ?_
  refine lv_istore_n (lv' := [(3, .int 0), (2, .int 0), (0, .ref h), (1, .ref o)]) hx hb dX1_foresee_9 rfl hl (by decide) rfl (fun ls hl => ?_)
  refine loopN (fun i : Nat => ∀ (H : Heap) (locs : List Loc) (ls : Array Slot), wd g (fun q => q ∈ adr [rB g h a N, vB g o oa V]) s.heap [rB g h a (f1N V N i), vB g o oa V] H locs → lv_has ls 4 [(0, .ref h), (1, .ref o), (2, .int (moC V i)), (3, .int (nI i))] → W p l e _ s m _ below meth c H locs 0 0 _ (F0 m 10 ls [])) (6) (fun i hi ih_i => ?_) (0) (by omega)  H locs ls hW (lv_sub hl [2, 3, 1, 0] rfl) 
  intro  H locs ls hW hl 
  have hP := hW.1
  refine lv_iload_n hx hb dX1_foresee_10 rfl (lv_at hl 3 rfl) ?_
  refine lv_bipush (v := 6) hx hb dX1_foresee_11 (by decide) ?_
  refine b_ge (tgt := 50) (i) (6) hx hb rfl rfl (by omega) (by omega) dX1_foresee_13 (by decide) (fun h_1 => ?_) (fun h_1 => ?_)
  · obtain rfl : i = 6 := by omega
    obtain ⟨U1, hU1⟩ : ∃ z, z = (f1N V N 6) := ⟨_, rfl⟩
    rw [← hU1] at hW
    have hP := hW.1
    refine lv_iconst (v := 0) hx hb dX1_foresee_50 (by decide) ?_
    refine lv_istore_n (lv' := [(3, .int 0), (0, .ref h), (1, .ref o), (2, .int (moC V 6))]) hx hb dX1_foresee_51 rfl hl (by decide) rfl (fun ls hl => ?_)
    refine loopN (fun j : Nat => ∀ (H : Heap) (locs : List Loc) (ls : Array Slot), wd g (fun q => q ∈ adr [rB g h a N, vB g o oa V]) s.heap [rB g h a (f2N V U1 j), vB g o oa V] H locs → lv_has ls 4 [(0, .ref h), (1, .ref o), (3, .int (nI j))] → W p l e _ s m _ below meth c H locs 0 0 _ (F0 m 52 ls [])) (6) (fun j hj ih_j => ?_) (0) (by omega)  H locs ls hW (lv_sub hl [1, 2, 0] rfl) 
    intro  H locs ls hW hl 
    have hP := hW.1
    refine lv_iload_n hx hb dX1_foresee_52 rfl (lv_at hl 2 rfl) ?_
    refine lv_bipush (v := 6) hx hb dX1_foresee_53 (by decide) ?_
    refine b_ge (tgt := 76) (j) (6) hx hb rfl rfl (by omega) (by omega) dX1_foresee_55 (by decide) (fun h_2 => ?_) (fun h_2 => ?_)
    · obtain rfl : j = 6 := by omega
      obtain ⟨U_3, hU_3⟩ : ∃ z, z = (f2N V U1 6) := ⟨_, rfl⟩
      rw [← hU_3] at hW
      have hP := hW.1
      exact uV_ret () hW hx hb hr hlocks dX1_foresee_76 trivial (by rw [hU_3, hU1]) (adr2 (L := [[h, a 0, a 1, a 2, a 3], [o, oa 0, oa 1, oa 2, oa 3, oa 4, oa 5, oa 6, oa 7, oa 8, oa 9, oa 10, oa 11]]) rfl rfl)
    · refine lv_aload_n hx hb dX1_foresee_58 rfl (lv_at hl 0 rfl) ?_
      refine b_get (v := .ref (a 3)) hx hb hts inX1 hown hK hP 0 0 3 rfl rfl rfl (by decide) q1_130 rfl rfl dX1_foresee_59 ?_
      refine lv_iload_n hx hb dX1_foresee_62 rfl (lv_at hl 2 rfl) ?_
      refine lv_aload_n hx hb dX1_foresee_63 rfl (lv_at hl 0 rfl) ?_
      refine lv_aload_n hx hb dX1_foresee_64 rfl (lv_at hl 1 rfl) ?_
      refine lv_iload_n hx hb dX1_foresee_65 rfl (lv_at hl 2 rfl) ?_
      refine call_VR (As := [.ref o, .int (nI j)]) (rest := [.int (nI j), .ref (a 3)]) E rfl hK hP (c_X1_winnerIn l g h a (f2N V U1 j) o oa V j (by omega)) ok_X1_winnerIn rfl q1_234 [0, 1] rfl (b_recv hK hP 0 0 rfl rfl rfl rfl) ⟨⟨rfl, rfl⟩, Nat.le_of_ble_eq_true rfl, Nat.le_of_ble_eq_true rfl⟩ hl.1 (Nat.le_of_ble_eq_true rfl) ⟨Nat.le_of_ble_eq_true rfl, Nat.le_of_ble_eq_true rfl⟩ rfl dX1_foresee_66 ?_
      refine b_iast (B' := [rB g h a (up2 (f2N V U1 j) 3 j ((wmF V ((f2N V U1 j) 1) j 6).2)), vB g o oa V]) hx hb hK hW 0 4 (j) rfl rfl rfl (by omega) rfl rfl dX1_foresee_69 (fun H locs hW => ?_)
      have hP := hW.1
      refine lv_iinc (v := nI (j + 1)) (lv' := [(3, .int (nI (j + 1))), (0, .ref h), (1, .ref o)]) hx hb dX1_foresee_70 hl (k := 2) rfl (nI_add j 1) (by decide) rfl (fun ls hl => ?_)
      refine lv_goto (tgt := 52) hx hb dX1_foresee_73 (by decide) ?_
      have e_4 : ([rB g h a (f2N V U1 (j + 1)), vB g o oa V] : List va_W) = [rB g h a (up2 (f2N V U1 j) 3 j ((wmF V ((f2N V U1 j) 1) j 6).2)), vB g o oa V] := rfl
      exact ih_j (by omega)  _ _ _ (by rw [e_4]; exact hW) (lv_sub hl [1, 2, 0] rfl) 
  · refine lv_aload_n hx hb dX1_foresee_16 rfl (lv_at hl 0 rfl) ?_
    refine lv_aload_n hx hb dX1_foresee_17 rfl (lv_at hl 1 rfl) ?_
    refine lv_iload_n hx hb dX1_foresee_18 rfl (lv_at hl 3 rfl) ?_
    refine call_VU (As := [.ref o, .int (nI i)]) (rest := []) E rfl hK hW (c_X1_ringIn l g h a (f1N V N i) o oa V i (by omega)) ok_X1_ringIn rfl q1_212 [0, 1] rfl (by decide) (b_recv hK hP 0 0 rfl rfl rfl rfl) ⟨⟨rfl, rfl⟩, Nat.le_of_ble_eq_true rfl, Nat.le_of_ble_eq_true rfl⟩ hl.1 (Nat.le_of_ble_eq_true rfl) ⟨Nat.le_of_ble_eq_true rfl, Nat.le_of_ble_eq_true rfl⟩ rfl dX1_foresee_19 (fun _u H locs _ hW => ?_)
    have hW : wd g _ s.heap [rB g h a (up2 (up2 (riN V i (f1N V N i) 5) 1 i (vbC V i 5).1) 2 i (vbC V i 5).2), vB g o oa V] H locs := hW
    have hP := hW.1
    obtain ⟨U_5, hU_5⟩ : ∃ z, z = (riN V i (f1N V N i) 5) := ⟨_, rfl⟩
    rw [← hU_5] at hW
    have hP := hW.1
    refine lv_aload_n hx hb dX1_foresee_22 rfl (lv_at hl 0 rfl) ?_
    refine b_get (v := .ref (a 1)) hx hb hts inX1 hown hK hP 0 0 1 rfl rfl rfl (by decide) q1_126 rfl rfl dX1_foresee_23 ?_
    refine lv_iload_n hx hb dX1_foresee_26 rfl (lv_at hl 3 rfl) ?_
    refine b_iald (v := (vbC V i 5).1) hx hb hK hP 0 2 (i) rfl rfl rfl (by omega) rfl (up2_eq U_5 1 i (vbC V i 5).1) dX1_foresee_27 ?_
    refine lv_iload_n hx hb dX1_foresee_28 rfl (lv_at hl 2 rfl) ?_
    refine lv_icmp_le (tgt := 44) hx hb dX1_foresee_29 (by decide) (fun h_6 => ?_) (fun h_6 => ?_)
    · refine lv_iinc (v := nI (i + 1)) (lv' := [(3, .int (nI (i + 1))), (0, .ref h), (1, .ref o), (2, .int (moC V i))]) hx hb dX1_foresee_44 hl (k := 3) rfl (nI_add i 1) (by decide) rfl (fun ls hl => ?_)
      refine lv_goto (tgt := 10) hx hb dX1_foresee_47 (by decide) ?_
      have e_7 : moC V (i + 1) = moC V i := by simp only [h_1, h_6, moC, Int32.le_refl, not_true_eq_false, not_false_eq_true, ite_true, ite_false, reduceIte]
      have e_8 : ([rB g h a (f1N V N (i + 1)), vB g o oa V] : List va_W) = [rB g h a (up2 (up2 U_5 1 i (vbC V i 5).1) 2 i (vbC V i 5).2), vB g o oa V] := by rw [hU_5]; simp only [h_1, h_6, f1N, rinN, Int32.le_refl, not_true_eq_false, not_false_eq_true, ite_true, ite_false, reduceIte]
      exact ih_i (by omega)  _ _ _ (by rw [e_8]; exact hW) (by rw [e_7]; exact lv_sub hl [1, 2, 3, 0] rfl) 
    · refine lv_aload_n hx hb dX1_foresee_32 rfl (lv_at hl 0 rfl) ?_
      refine b_get (v := .ref (a 1)) hx hb hts inX1 hown hK hP 0 0 1 rfl rfl rfl (by decide) q1_126 rfl rfl dX1_foresee_33 ?_
      refine lv_iload_n hx hb dX1_foresee_36 rfl (lv_at hl 3 rfl) ?_
      refine b_iald (v := (vbC V i 5).1) hx hb hK hP 0 2 (i) rfl rfl rfl (by omega) rfl (up2_eq U_5 1 i (vbC V i 5).1) dX1_foresee_37 ?_
      refine lv_istore_n (lv' := [(2, .int ((vbC V i 5).1)), (0, .ref h), (1, .ref o), (3, .int (nI i))]) hx hb dX1_foresee_38 rfl hl (by decide) rfl (fun ls hl => ?_)
      refine lv_aload_n hx hb dX1_foresee_39 rfl (lv_at hl 1 rfl) ?_
      refine lv_iload_n hx hb dX1_foresee_40 rfl (lv_at hl 3 rfl) ?_
      refine b_put (B' := [rB g h a (up2 (up2 (up2 U_5 1 i (vbC V i 5).1) 2 i (vbC V i 5).2) 4 0 (nI i)), vB g o oa V]) (v := .int (nI i)) hx hb hts inX1 tyX1_ok nmX1 hown hK hW 0 0 4 rfl rfl rfl (by decide) q1_133 rfl rfl rfl rfl (Nat.le_of_ble_eq_true rfl) rfl dX1_foresee_41 (fun H locs hW => ?_)
      have hP := hW.1
      refine lv_iinc (v := nI (i + 1)) (lv' := [(3, .int (nI (i + 1))), (2, .int ((vbC V i 5).1)), (0, .ref h), (1, .ref o)]) hx hb dX1_foresee_44 hl (k := 3) rfl (nI_add i 1) (by decide) rfl (fun ls hl => ?_)
      refine lv_goto (tgt := 10) hx hb dX1_foresee_47 (by decide) ?_
      have e_9 : moC V (i + 1) = (vbC V i 5).1 := by simp only [h_1, h_6, moC, Int32.le_refl, not_true_eq_false, not_false_eq_true, ite_true, ite_false, reduceIte]
      have e_10 : ([rB g h a (f1N V N (i + 1)), vB g o oa V] : List va_W) = [rB g h a (up2 (up2 (up2 U_5 1 i (vbC V i 5).1) 2 i (vbC V i 5).2) 4 0 (nI i)), vB g o oa V] := by rw [hU_5]; simp only [h_1, h_6, f1N, rinN, Int32.le_refl, not_true_eq_false, not_false_eq_true, ite_true, ite_false, reduceIte]
      exact ih_i (by omega)  _ _ _ (by rw [e_10]; exact hW) (by rw [e_9]; exact lv_sub hl [2, 3, 1, 0] rfl) 
