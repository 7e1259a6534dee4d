set_option maxHeartbeats 4000000 in
set_option maxRecDepth 100000 in
theorem c_X1_soundIn (l : Launch) (g : gx) (h : Nat) (a : Nat → Nat) (N : sV) (o : Nat) (oa : Nat → Nat) (V : sV) (t e0 : Nat) (ht : t < 6) (he : e0 < 6)  : cR l g yX1_soundIn cX1_soundIn 5 (some .int) ({ frames := 1, cells := 0, slots := 0, locals := 24 } : Room) [.ref h, .ref o, .int (nI t), .int (nI e0)] [rB g h a N, vB g o oa V] (.int (sndF V (N 1) t e0)) := by
  refine cR.mk (by decide +kernel) (Nat.le_of_ble_eq_true rfl) ?_
  intro p e s m below meth c ls E hK hP hl
  obtain ⟨hx, hb, hr, hml, hts, hown, hlocks, hin⟩ := id E
  have hown : s.vm.findClass RX1 = some m.cls := hown
  have hl : lv_has ls 5 [(0, .ref h), (1, .ref o), (2, .int (nI t)), (3, .int (nI e0))] := hl
  refine lv_aload_n hx hb dX1_soundIn_0 rfl (lv_at hl 1 rfl) ?_
  refine b_get (v := .ref (oa 0)) hx hb hts inX3 hown hK hP 1 0 0 rfl rfl rfl (by decide) q1_23 rfl rfl dX1_soundIn_1 ?_
  refine lv_iload_n hx hb dX1_soundIn_4 rfl (lv_at hl 2 rfl) ?_
  refine b_iald (v := V 0 t) hx hb hK hP 1 1 (t) rfl rfl rfl (by omega) rfl rfl dX1_soundIn_5 ?_
  refine lv_aload_n hx hb dX1_soundIn_6 rfl (lv_at hl 1 rfl) ?_
  refine b_get (v := .ref (oa 0)) hx hb hts inX3 hown hK hP 1 0 0 rfl rfl rfl (by decide) q1_23 rfl rfl dX1_soundIn_7 ?_
  refine lv_iload_n hx hb dX1_soundIn_10 rfl (lv_at hl 3 rfl) ?_
  refine b_iald (v := V 0 e0) hx hb hK hP 1 1 (e0) rfl rfl rfl (by omega) rfl rfl dX1_soundIn_11 ?_
  refine lv_isub hx hb dX1_soundIn_12 ?_
  refine va_mabs hx hb (hml.trans hl.1.symm) hown (hts _ q2_2) (hts _ q2_3) (hts _ q1_6) (hts _ q2_4) (Nat.le_of_ble_eq_true rfl) (Nat.le_of_ble_eq_true rfl) (Nat.le_of_ble_eq_true rfl) (Nat.le_of_ble_eq_true rfl) dX1_soundIn_13 ?_
  refine lv_istore (lv' := [(4, .int (if 0 ≤ (V 0 t) - (V 0 e0) then (V 0 t) - (V 0 e0) else 0 - ((V 0 t) - (V 0 e0)))), (0, .ref h), (1, .ref o), (2, .int (nI t)), (3, .int (nI e0))]) hx hb dX1_soundIn_16 hl (by decide) rfl (fun ls hl => ?_)
  refine lv_iconst (v := 0) hx hb dX1_soundIn_18 (by decide) ?_
  refine lv_aload_n hx hb dX1_soundIn_19 rfl (lv_at hl 1 rfl) ?_
  refine b_get (v := .ref (a 1)) hx hb hts inX1 hown hK hP 0 0 1 rfl rfl rfl (by decide) q1_126 rfl rfl dX1_soundIn_20 ?_
  refine lv_iload_n hx hb dX1_soundIn_23 rfl (lv_at hl 3 rfl) ?_
  refine b_iald (v := N 1 t) hx hb hK hP 0 2 (t) rfl rfl rfl (by omega) rfl rfl dX1_soundIn_24 ?_
  refine lv_aload_n hx hb dX1_soundIn_25 rfl (lv_at hl 2 rfl) ?_
  refine b_get (v := .int (V 12 0)) hx hb hts inX3 hown hK hP 1 0 12 rfl rfl rfl (by decide) q1_51 rfl rfl dX1_soundIn_26 ?_
  refine lv_iload hx hb dX1_soundIn_29 (lv_at hl 0 rfl) ?_
  refine lv_imul hx hb dX1_soundIn_31 ?_
  refine lv_isub hx hb dX1_soundIn_32 ?_
  refine va_mmax hx hb (hml.trans hl.1.symm) hown (hts _ q2_5) (hts _ q2_6) (hts _ q1_6) (hts _ q2_7) (Nat.le_of_ble_eq_true rfl) (Nat.le_of_ble_eq_true rfl) (Nat.le_of_ble_eq_true rfl) (Nat.le_of_ble_eq_true rfl) dX1_soundIn_33 ?_
  exact rI_ret hx hb hr hlocks dX1_soundIn_36 (rfl)

set_option maxHeartbeats 4000000 in
set_option maxRecDepth 100000 in
theorem c_X1_winnerIn (l : Launch) (g : gx) (h : Nat) (a : Nat → Nat) (N : sV) (o : Nat) (oa : Nat → Nat) (V : sV) (e0 : Nat) (he : e0 < 6)  : cR l g yX1_winnerIn cX1_winnerIn 7 (some .int) ({ frames := 2, cells := 0, slots := 0, locals := 48 } : Room) [.ref h, .ref o, .int (nI e0)] [rB g h a N, vB g o oa V] (.int ((wmF V (N 1) e0 6).2)) := by
  refine cR.mk (by decide +kernel) (Nat.le_of_ble_eq_true rfl) ?_
  intro p e s m below meth c ls E hK hP hl
  obtain ⟨hx, hb, hr, hml, hts, hown, hlocks, hin⟩ := id E
  have hown : s.vm.findClass RX1 = some m.cls := hown
  have hl : lv_has ls 7 [(0, .ref h), (1, .ref o), (2, .int (nI e0))] := hl
  refine lv_iconst (v := 0) hx hb dX1_winnerIn_0 (by decide) ?_
  refine lv_istore_n (lv' := [(3, .int 0), (0, .ref h), (1, .ref o), (2, .int (nI e0))]) hx hb dX1_winnerIn_1 rfl hl (by decide) rfl (fun ls hl => ?_)
  refine lv_bipush (v := -5) hx hb dX1_winnerIn_2 (by decide) ?_
  refine lv_istore (lv' := [(4, .int (-5)), (3, .int 0), (0, .ref h), (1, .ref o), (2, .int (nI e0))]) hx hb dX1_winnerIn_4 hl (by decide) rfl (fun ls hl => ?_)
  refine lv_iconst (v := 0) hx hb dX1_winnerIn_6 (by decide) ?_
  refine lv_istore (lv' := [(5, .int 0), (4, .int (-5)), (3, .int 0), (0, .ref h), (1, .ref o), (2, .int (nI e0))]) hx hb dX1_winnerIn_7 hl (by decide) rfl (fun ls hl => ?_)
  refine loopN (fun i : Nat => ∀ ls : Array Slot, lv_has ls 7 [(0, .ref h), (1, .ref o), (2, .int (nI e0)), (3, .int ((wmF V (N 1) e0 i).1)), (4, .int ((wmF V (N 1) e0 i).2)), (5, .int (nI i))] → W p l e _ s m _ below meth c s.heap [] 0 0 _ (F0 m 9 ls [])) (6) (fun i hi ih_i => ?_) (0) (by omega)  ls (lv_sub hl [3, 4, 5, 2, 1, 0] rfl) 
  intro  ls hl 
  refine lv_iload hx hb dX1_winnerIn_9 (lv_at hl 5 rfl) ?_
  refine lv_bipush (v := 6) hx hb dX1_winnerIn_11 (by decide) ?_
  refine b_ge (tgt := 58) (i) (6) hx hb rfl rfl (by omega) (by omega) dX1_winnerIn_13 (by decide) (fun h_1 => ?_) (fun h_1 => ?_)
  · obtain rfl : i = 6 := by omega
    refine lv_iload hx hb dX1_winnerIn_58 (lv_at hl 4 rfl) ?_
    exact rI_ret hx hb hr hlocks dX1_winnerIn_60 (rfl)
  · refine lv_aload_n hx hb dX1_winnerIn_16 rfl (lv_at hl 0 rfl) ?_
    refine lv_aload_n hx hb dX1_winnerIn_17 rfl (lv_at hl 1 rfl) ?_
    refine lv_iload hx hb dX1_winnerIn_18 (lv_at hl 5 rfl) ?_
    refine lv_iload_n hx hb dX1_winnerIn_20 rfl (lv_at hl 2 rfl) ?_
    refine call_VR (As := [.ref o, .int (nI i), .int (nI e0)]) (rest := []) E rfl hK hP (c_X1_soundIn l g h a N o oa V i e0 (by omega) (by omega)) ok_X1_soundIn rfl q1_238 [0, 1] rfl (b_recv hK hP 0 0 rfl rfl rfl rfl) ⟨⟨rfl, rfl⟩, Nat.le_of_ble_eq_true rfl, Nat.le_of_ble_eq_true rfl⟩ hl.1 (Nat.le_of_ble_eq_true rfl) ⟨Nat.le_of_ble_eq_true rfl, Nat.le_of_ble_eq_true rfl⟩ rfl dX1_winnerIn_21 ?_
    refine lv_istore (lv' := [(6, .int (sndF V (N 1) i e0)), (0, .ref h), (1, .ref o), (2, .int (nI e0)), (3, .int ((wmF V (N 1) e0 i).1)), (4, .int ((wmF V (N 1) e0 i).2)), (5, .int (nI i))]) hx hb dX1_winnerIn_24 hl (by decide) rfl (fun ls hl => ?_)
    refine lv_iload hx hb dX1_winnerIn_26 (lv_at hl 0 rfl) ?_
    refine lv_iload_n hx hb dX1_winnerIn_28 rfl (lv_at hl 4 rfl) ?_
    refine lv_icmp_le (tgt := 42) hx hb dX1_winnerIn_29 (by decide) (fun h_2 => ?_) (fun h_2 => ?_)
    · refine lv_iload hx hb dX1_winnerIn_42 (lv_at hl 0 rfl) ?_
      refine lv_iload_n hx hb dX1_winnerIn_44 rfl (lv_at hl 4 rfl) ?_
      refine lv_icmp_ne (tgt := 52) hx hb dX1_winnerIn_45 (by decide) (fun h_3 => ?_) (fun h_3 => ?_)
      · refine lv_iinc (v := nI (i + 1)) (lv' := [(5, .int (nI (i + 1))), (6, .int (sndF V (N 1) i e0)), (0, .ref h), (1, .ref o), (2, .int (nI e0)), (3, .int ((wmF V (N 1) e0 i).1)), (4, .int ((wmF V (N 1) e0 i).2))]) hx hb dX1_winnerIn_52 hl (k := 6) rfl (nI_add i 1) (by decide) rfl (fun ls hl => ?_)
        refine lv_goto (tgt := 9) hx hb dX1_winnerIn_55 (by decide) ?_
        have e_4 : (wmF V (N 1) e0 (i + 1)).1 = (wmF V (N 1) e0 i).1 := by simp only [h_1, h_2, h_3, wmF, Int32.le_refl, not_true_eq_false, not_false_eq_true, ite_true, ite_false, reduceIte]
        have e_5 : (wmF V (N 1) e0 (i + 1)).2 = (wmF V (N 1) e0 i).2 := by simp only [h_1, h_2, h_3, wmF, Int32.le_refl, not_true_eq_false, not_false_eq_true, ite_true, ite_false, reduceIte]
        exact ih_i (by omega)  _ (by rw [e_4, e_5]; exact lv_sub hl [2, 3, 4, 5, 6, 0] rfl) 
      · refine lv_bipush (v := -5) hx hb dX1_winnerIn_48 (by decide) ?_
        refine lv_istore (lv' := [(4, .int (-5)), (6, .int (sndF V (N 1) i e0)), (0, .ref h), (1, .ref o), (2, .int (nI e0)), (3, .int ((wmF V (N 1) e0 i).1)), (5, .int (nI i))]) hx hb dX1_winnerIn_50 hl (by decide) rfl (fun ls hl => ?_)
        refine lv_iinc (v := nI (i + 1)) (lv' := [(5, .int (nI (i + 1))), (4, .int (-5)), (6, .int (sndF V (N 1) i e0)), (0, .ref h), (1, .ref o), (2, .int (nI e0)), (3, .int ((wmF V (N 1) e0 i).1))]) hx hb dX1_winnerIn_52 hl (k := 6) rfl (nI_add i 1) (by decide) rfl (fun ls hl => ?_)
        refine lv_goto (tgt := 9) hx hb dX1_winnerIn_55 (by decide) ?_
        have e_6 : (wmF V (N 1) e0 (i + 1)).1 = (wmF V (N 1) e0 i).1 := by simp only [h_1, h_2, h_3, wmF, Int32.le_refl, not_true_eq_false, not_false_eq_true, ite_true, ite_false, reduceIte]
        have e_7 : (wmF V (N 1) e0 (i + 1)).2 = -5 := by simp only [h_1, h_2, h_3, wmF, Int32.le_refl, not_true_eq_false, not_false_eq_true, ite_true, ite_false, reduceIte]
        exact ih_i (by omega)  _ (by rw [e_6, e_7]; exact lv_sub hl [3, 4, 5, 6, 1, 0] rfl) 
    · refine lv_iload hx hb dX1_winnerIn_32 (lv_at hl 0 rfl) ?_
      refine lv_istore_n (lv' := [(3, .int (sndF V (N 1) i e0)), (6, .int (sndF V (N 1) i e0)), (0, .ref h), (1, .ref o), (2, .int (nI e0)), (4, .int ((wmF V (N 1) e0 i).2)), (5, .int (nI i))]) hx hb dX1_winnerIn_34 rfl hl (by decide) rfl (fun ls hl => ?_)
      refine lv_iload hx hb dX1_winnerIn_35 (lv_at hl 6 rfl) ?_
      refine lv_istore (lv' := [(4, .int (nI i)), (3, .int (sndF V (N 1) i e0)), (6, .int (sndF V (N 1) i e0)), (0, .ref h), (1, .ref o), (2, .int (nI e0)), (5, .int (nI i))]) hx hb dX1_winnerIn_37 hl (by decide) rfl (fun ls hl => ?_)
      refine lv_goto (tgt := 52) hx hb dX1_winnerIn_39 (by decide) ?_
      refine lv_iinc (v := nI (i + 1)) (lv' := [(5, .int (nI (i + 1))), (4, .int (nI i)), (3, .int (sndF V (N 1) i e0)), (6, .int (sndF V (N 1) i e0)), (0, .ref h), (1, .ref o), (2, .int (nI e0))]) hx hb dX1_winnerIn_52 hl (k := 6) rfl (nI_add i 1) (by decide) rfl (fun ls hl => ?_)
      refine lv_goto (tgt := 9) hx hb dX1_winnerIn_55 (by decide) ?_
      have e_8 : (wmF V (N 1) e0 (i + 1)).1 = sndF V (N 1) i e0 := by simp only [h_1, h_2, wmF, Int32.le_refl, not_true_eq_false, not_false_eq_true, ite_true, ite_false, reduceIte]
      have e_9 : (wmF V (N 1) e0 (i + 1)).2 = nI i := by simp only [h_1, h_2, wmF, Int32.le_refl, not_true_eq_false, not_false_eq_true, ite_true, ite_false, reduceIte]
      exact ih_i (by omega)  _ (by rw [e_8, e_9]; exact lv_sub hl [4, 5, 6, 2, 1, 0] rfl) 
