set_option maxHeartbeats 4000000 in
set_option maxRecDepth 100000 in
theorem c_X3_allBells (l : Launch) (g : gx) (h : Nat) (a : Nat → Nat) (V : sV)  : cR l g yX3_allBells cX3_allBells 3 (some .int) ({ frames := 0, cells := 0, slots := 0, locals := 0 } : Room) [.ref h] [vB g h a V] (.int (sumF (V 3) 6)) := by
  refine cR.mk (by decide +kernel) (Nat.le_of_ble_eq_true rfl) ?_
  intro p e s m below meth c ls E hK hP hl
  obtain ⟨hx, hb, hr, hml, hts, hown, hlocks, hin⟩ := id E
  have hown : s.vm.findClass RX3 = some m.cls := hown
  have hl : lv_has ls 3 [(0, .ref h)] := hl
  refine lv_iconst (v := 0) hx hb dX3_allBells_0 (by decide) ?_
  refine lv_istore_n (lv' := [(1, .int 0), (0, .ref h)]) hx hb dX3_allBells_1 rfl hl (by decide) rfl (fun ls hl => ?_)
  refine lv_iconst (v := 0) hx hb dX3_allBells_2 (by decide) ?_
  refine lv_istore_n (lv' := [(2, .int 0), (1, .int 0), (0, .ref h)]) hx hb dX3_allBells_3 rfl hl (by decide) rfl (fun ls hl => ?_)
  refine loopN (fun i : Nat => ∀ ls : Array Slot, lv_has ls 3 [(0, .ref h), (1, .int (sumF (V 3) i)), (2, .int (nI i))] → W p l e _ s m _ below meth c s.heap [] 0 0 _ (F0 m 4 ls [])) (6) (fun i hi ih_i => ?_) (0) (by omega)  ls (lv_sub hl [2, 1, 0] rfl) 
  intro  ls hl 
  refine lv_iload_n hx hb dX3_allBells_4 rfl (lv_at hl 2 rfl) ?_
  refine lv_bipush (v := 6) hx hb dX3_allBells_5 (by decide) ?_
  refine b_ge (tgt := 25) (i) (6) hx hb rfl rfl (by omega) (by omega) dX3_allBells_7 (by decide) (fun h_1 => ?_) (fun h_1 => ?_)
  · obtain rfl : i = 6 := by omega
    refine lv_iload_n hx hb dX3_allBells_25 rfl (lv_at hl 1 rfl) ?_
    exact rI_ret hx hb hr hlocks dX3_allBells_26 (rfl)
  · refine lv_iload_n hx hb dX3_allBells_10 rfl (lv_at hl 1 rfl) ?_
    refine lv_aload_n hx hb dX3_allBells_11 rfl (lv_at hl 0 rfl) ?_
    refine b_get (v := .ref (a 3)) hx hb hts inX3 hown hK hP 0 0 3 rfl rfl rfl (by decide) q1_29 rfl rfl dX3_allBells_12 ?_
    refine lv_iload_n hx hb dX3_allBells_15 rfl (lv_at hl 2 rfl) ?_
    refine b_iald (v := V 3 i) hx hb hK hP 0 4 (i) rfl rfl rfl (by omega) rfl rfl dX3_allBells_16 ?_
    refine lv_iadd hx hb dX3_allBells_17 ?_
    refine lv_istore_n (lv' := [(1, .int ((sumF (V 3) i) + (V 3 i))), (0, .ref h), (2, .int (nI i))]) hx hb dX3_allBells_18 rfl hl (by decide) rfl (fun ls hl => ?_)
    refine lv_iinc (v := nI (i + 1)) (lv' := [(2, .int (nI (i + 1))), (1, .int ((sumF (V 3) i) + (V 3 i))), (0, .ref h)]) hx hb dX3_allBells_19 hl (k := 2) rfl (nI_add i 1) (by decide) rfl (fun ls hl => ?_)
    refine lv_goto (tgt := 4) hx hb dX3_allBells_22 (by decide) ?_
    have e_2 : sumF (V 3) (i + 1) = (sumF (V 3) i) + (V 3 i) := rfl
    exact ih_i (by omega)  _ (by rw [e_2]; exact lv_sub hl [2, 1, 0] rfl) 

set_option maxHeartbeats 4000000 in
set_option maxRecDepth 100000 in
theorem c_X3_allPoints (l : Launch) (g : gx) (h : Nat) (a : Nat → Nat) (V : sV)  : cR l g yX3_allPoints cX3_allPoints 3 (some .int) ({ frames := 0, cells := 0, slots := 0, locals := 0 } : Room) [.ref h] [vB g h a V] (.int (sumF (V 7) 6)) := by
  refine cR.mk (by decide +kernel) (Nat.le_of_ble_eq_true rfl) ?_
  intro p e s m below meth c ls E hK hP hl
  obtain ⟨hx, hb, hr, hml, hts, hown, hlocks, hin⟩ := id E
  have hown : s.vm.findClass RX3 = some m.cls := hown
  have hl : lv_has ls 3 [(0, .ref h)] := hl
  refine lv_iconst (v := 0) hx hb dX3_allPoints_0 (by decide) ?_
  refine lv_istore_n (lv' := [(1, .int 0), (0, .ref h)]) hx hb dX3_allPoints_1 rfl hl (by decide) rfl (fun ls hl => ?_)
  refine lv_iconst (v := 0) hx hb dX3_allPoints_2 (by decide) ?_
  refine lv_istore_n (lv' := [(2, .int 0), (1, .int 0), (0, .ref h)]) hx hb dX3_allPoints_3 rfl hl (by decide) rfl (fun ls hl => ?_)
  refine loopN (fun i : Nat => ∀ ls : Array Slot, lv_has ls 3 [(0, .ref h), (1, .int (sumF (V 7) i)), (2, .int (nI i))] → W p l e _ s m _ below meth c s.heap [] 0 0 _ (F0 m 4 ls [])) (6) (fun i hi ih_i => ?_) (0) (by omega)  ls (lv_sub hl [2, 1, 0] rfl) 
  intro  ls hl 
  refine lv_iload_n hx hb dX3_allPoints_4 rfl (lv_at hl 2 rfl) ?_
  refine lv_bipush (v := 6) hx hb dX3_allPoints_5 (by decide) ?_
  refine b_ge (tgt := 25) (i) (6) hx hb rfl rfl (by omega) (by omega) dX3_allPoints_7 (by decide) (fun h_1 => ?_) (fun h_1 => ?_)
  · obtain rfl : i = 6 := by omega
    refine lv_iload_n hx hb dX3_allPoints_25 rfl (lv_at hl 1 rfl) ?_
    exact rI_ret hx hb hr hlocks dX3_allPoints_26 (rfl)
  · refine lv_iload_n hx hb dX3_allPoints_10 rfl (lv_at hl 1 rfl) ?_
    refine lv_aload_n hx hb dX3_allPoints_11 rfl (lv_at hl 0 rfl) ?_
    refine b_get (v := .ref (a 7)) hx hb hts inX3 hown hK hP 0 0 7 rfl rfl rfl (by decide) q1_38 rfl rfl dX3_allPoints_12 ?_
    refine lv_iload_n hx hb dX3_allPoints_15 rfl (lv_at hl 2 rfl) ?_
    refine b_iald (v := V 7 i) hx hb hK hP 0 8 (i) rfl rfl rfl (by omega) rfl rfl dX3_allPoints_16 ?_
    refine lv_iadd hx hb dX3_allPoints_17 ?_
    refine lv_istore_n (lv' := [(1, .int ((sumF (V 7) i) + (V 7 i))), (0, .ref h), (2, .int (nI i))]) hx hb dX3_allPoints_18 rfl hl (by decide) rfl (fun ls hl => ?_)
    refine lv_iinc (v := nI (i + 1)) (lv' := [(2, .int (nI (i + 1))), (1, .int ((sumF (V 7) i) + (V 7 i))), (0, .ref h)]) hx hb dX3_allPoints_19 hl (k := 2) rfl (nI_add i 1) (by decide) rfl (fun ls hl => ?_)
    refine lv_goto (tgt := 4) hx hb dX3_allPoints_22 (by decide) ?_
    have e_2 : sumF (V 7) (i + 1) = (sumF (V 7) i) + (V 7 i) := rfl
    exact ih_i (by omega)  _ (by rw [e_2]; exact lv_sub hl [2, 1, 0] rfl) 
