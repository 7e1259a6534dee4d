set_option maxHeartbeats 4000000 in
set_option maxRecDepth 100000 in
theorem c_X3_brokenRopes (l : Launch) (g : gx) (h : Nat) (a : Nat → Nat) (V : sV)  : cR l g yX3_brokenRopes cX3_brokenRopes 3 (some .int) ({ frames := 0, cells := 0, slots := 0, locals := 0 } : Room) [.ref h] [vB g h a V] (.int (cntF (fun j => ¬ V 10 j < 6) 30)) := by
  refine cR.mk (by decide +kernel) (Nat.le_of_ble_eq_true rfl) ?_
  intro p e s m below meth c ls E hK hP hl
  obtain ⟨hx, hb, hr, hml, hts, hown, hlocks, hin⟩ := id E
  have hown : s.vm.findClass RX3 = some m.cls := hown
  have hl : lv_has ls 3 [(0, .ref h)] := hl
  refine lv_iconst (v := 0) hx hb dX3_brokenRopes_0 (by decide) ?_
  refine lv_istore_n (lv' := [(1, .int 0), (0, .ref h)]) hx hb dX3_brokenRopes_1 rfl hl (by decide) rfl (fun ls hl => ?_)
  refine lv_iconst (v := 0) hx hb dX3_brokenRopes_2 (by decide) ?_
  refine lv_istore_n (lv' := [(2, .int 0), (1, .int 0), (0, .ref h)]) hx hb dX3_brokenRopes_3 rfl hl (by decide) rfl (fun ls hl => ?_)
  refine loopN (fun i : Nat => ∀ ls : Array Slot, lv_has ls 3 [(0, .ref h), (1, .int (cntF (fun j => ¬ V 10 j < 6) i)), (2, .int (nI i))] → W p l e _ s m _ below meth c s.heap [] 0 0 _ (F0 m 4 ls [])) (30) (fun i hi ih_i => ?_) (0) (by omega)  ls (lv_sub hl [2, 1, 0] rfl) 
  intro  ls hl 
  refine lv_iload_n hx hb dX3_brokenRopes_4 rfl (lv_at hl 2 rfl) ?_
  refine lv_bipush (v := 30) hx hb dX3_brokenRopes_5 (by decide) ?_
  refine b_ge (tgt := 30) (i) (30) hx hb rfl rfl (by omega) (by omega) dX3_brokenRopes_7 (by decide) (fun h_1 => ?_) (fun h_1 => ?_)
  · obtain rfl : i = 30 := by omega
    refine lv_iload_n hx hb dX3_brokenRopes_30 rfl (lv_at hl 1 rfl) ?_
    exact rI_ret hx hb hr hlocks dX3_brokenRopes_31 (rfl)
  · refine lv_aload_n hx hb dX3_brokenRopes_10 rfl (lv_at hl 0 rfl) ?_
    refine b_get (v := .ref (a 10)) hx hb hts inX3 hown hK hP 0 0 10 rfl rfl rfl (by decide) q1_45 rfl rfl dX3_brokenRopes_11 ?_
    refine lv_iload_n hx hb dX3_brokenRopes_14 rfl (lv_at hl 2 rfl) ?_
    refine b_iald (v := V 10 i) hx hb hK hP 0 11 (i) rfl rfl rfl (by omega) rfl rfl dX3_brokenRopes_15 ?_
    refine lv_bipush (v := 6) hx hb dX3_brokenRopes_16 (by decide) ?_
    refine lv_icmp_lt (tgt := 24) hx hb dX3_brokenRopes_18 (by decide) (fun h_2 => ?_) (fun h_2 => ?_)
    · refine lv_iinc (v := nI (i + 1)) (lv' := [(2, .int (nI (i + 1))), (0, .ref h), (1, .int (cntF (fun j => ¬ V 10 j < 6) i))]) hx hb dX3_brokenRopes_24 hl (k := 2) rfl (nI_add i 1) (by decide) rfl (fun ls hl => ?_)
      refine lv_goto (tgt := 4) hx hb dX3_brokenRopes_27 (by decide) ?_
      have e_3 : cntF (fun j => ¬ V 10 j < 6) (i + 1) = cntF (fun j => ¬ V 10 j < 6) i := by rw [cntF]; simp only [h_1, h_2, not_true_eq_false, not_false_eq_true, ite_true, ite_false, reduceIte]
      exact ih_i (by omega)  _ (by rw [e_3]; exact lv_sub hl [1, 2, 0] rfl) 
    · refine lv_iinc (v := cntF (fun j => ¬ V 10 j < 6) i + 1) (lv' := [(1, .int (cntF (fun j => ¬ V 10 j < 6) i + 1)), (0, .ref h), (2, .int (nI i))]) hx hb dX3_brokenRopes_21 hl (k := 1) rfl rfl (by decide) rfl (fun ls hl => ?_)
      refine lv_iinc (v := nI (i + 1)) (lv' := [(2, .int (nI (i + 1))), (1, .int (cntF (fun j => ¬ V 10 j < 6) i + 1)), (0, .ref h)]) hx hb dX3_brokenRopes_24 hl (k := 2) rfl (nI_add i 1) (by decide) rfl (fun ls hl => ?_)
      refine lv_goto (tgt := 4) hx hb dX3_brokenRopes_27 (by decide) ?_
      have e_4 : cntF (fun j => ¬ V 10 j < 6) (i + 1) = cntF (fun j => ¬ V 10 j < 6) i + 1 := by rw [cntF]; simp only [h_1, h_2, not_true_eq_false, not_false_eq_true, ite_true, ite_false, reduceIte]
      exact ih_i (by omega)  _ (by rw [e_4]; exact lv_sub hl [2, 1, 0] rfl) 

set_option maxHeartbeats 4000000 in
set_option maxRecDepth 100000 in
theorem c_X3_silentTowns (l : Launch) (g : gx) (h : Nat) (a : Nat → Nat) (V : sV)  : cR l g yX3_silentTowns cX3_silentTowns 3 (some .int) ({ frames := 0, cells := 0, slots := 0, locals := 0 } : Room) [.ref h] [vB g h a V] (.int (cntF (fun j => ¬ V 6 j ≤ 0) 6)) := by
  refine cR.mk (by decide +kernel) (Nat.le_of_ble_eq_true rfl) ?_
  intro p e s m below meth c ls E hK hP hl
  obtain ⟨hx, hb, hr, hml, hts, hown, hlocks, hin⟩ := id E
  have hown : s.vm.findClass RX3 = some m.cls := hown
  have hl : lv_has ls 3 [(0, .ref h)] := hl
  refine lv_iconst (v := 0) hx hb dX3_silentTowns_0 (by decide) ?_
  refine lv_istore_n (lv' := [(1, .int 0), (0, .ref h)]) hx hb dX3_silentTowns_1 rfl hl (by decide) rfl (fun ls hl => ?_)
  refine lv_iconst (v := 0) hx hb dX3_silentTowns_2 (by decide) ?_
  refine lv_istore_n (lv' := [(2, .int 0), (1, .int 0), (0, .ref h)]) hx hb dX3_silentTowns_3 rfl hl (by decide) rfl (fun ls hl => ?_)
  refine loopN (fun i : Nat => ∀ ls : Array Slot, lv_has ls 3 [(0, .ref h), (1, .int (cntF (fun j => ¬ V 6 j ≤ 0) i)), (2, .int (nI i))] → W p l e _ s m _ below meth c s.heap [] 0 0 _ (F0 m 4 ls [])) (6) (fun i hi ih_i => ?_) (0) (by omega)  ls (lv_sub hl [2, 1, 0] rfl) 
  intro  ls hl 
  refine lv_iload_n hx hb dX3_silentTowns_4 rfl (lv_at hl 2 rfl) ?_
  refine lv_bipush (v := 6) hx hb dX3_silentTowns_5 (by decide) ?_
  refine b_ge (tgt := 28) (i) (6) hx hb rfl rfl (by omega) (by omega) dX3_silentTowns_7 (by decide) (fun h_1 => ?_) (fun h_1 => ?_)
  · obtain rfl : i = 6 := by omega
    refine lv_iload_n hx hb dX3_silentTowns_28 rfl (lv_at hl 1 rfl) ?_
    exact rI_ret hx hb hr hlocks dX3_silentTowns_29 (rfl)
  · refine lv_aload_n hx hb dX3_silentTowns_10 rfl (lv_at hl 0 rfl) ?_
    refine b_get (v := .ref (a 6)) hx hb hts inX3 hown hK hP 0 0 6 rfl rfl rfl (by decide) q1_35 rfl rfl dX3_silentTowns_11 ?_
    refine lv_iload_n hx hb dX3_silentTowns_14 rfl (lv_at hl 2 rfl) ?_
    refine b_iald (v := V 6 i) hx hb hK hP 0 7 (i) rfl rfl rfl (by omega) rfl rfl dX3_silentTowns_15 ?_
    refine lv_if_le (tgt := 22) hx hb dX3_silentTowns_16 (by decide) (fun h_2 => ?_) (fun h_2 => ?_)
    · refine lv_iinc (v := nI (i + 1)) (lv' := [(2, .int (nI (i + 1))), (0, .ref h), (1, .int (cntF (fun j => ¬ V 6 j ≤ 0) i))]) hx hb dX3_silentTowns_22 hl (k := 2) rfl (nI_add i 1) (by decide) rfl (fun ls hl => ?_)
      refine lv_goto (tgt := 4) hx hb dX3_silentTowns_25 (by decide) ?_
      have e_3 : cntF (fun j => ¬ V 6 j ≤ 0) (i + 1) = cntF (fun j => ¬ V 6 j ≤ 0) i := by rw [cntF]; simp only [h_1, h_2, not_true_eq_false, not_false_eq_true, ite_true, ite_false, reduceIte]
      exact ih_i (by omega)  _ (by rw [e_3]; exact lv_sub hl [1, 2, 0] rfl) 
    · refine lv_iinc (v := cntF (fun j => ¬ V 6 j ≤ 0) i + 1) (lv' := [(1, .int (cntF (fun j => ¬ V 6 j ≤ 0) i + 1)), (0, .ref h), (2, .int (nI i))]) hx hb dX3_silentTowns_19 hl (k := 1) rfl rfl (by decide) rfl (fun ls hl => ?_)
      refine lv_iinc (v := nI (i + 1)) (lv' := [(2, .int (nI (i + 1))), (1, .int (cntF (fun j => ¬ V 6 j ≤ 0) i + 1)), (0, .ref h)]) hx hb dX3_silentTowns_22 hl (k := 2) rfl (nI_add i 1) (by decide) rfl (fun ls hl => ?_)
      refine lv_goto (tgt := 4) hx hb dX3_silentTowns_25 (by decide) ?_
      have e_4 : cntF (fun j => ¬ V 6 j ≤ 0) (i + 1) = cntF (fun j => ¬ V 6 j ≤ 0) i + 1 := by rw [cntF]; simp only [h_1, h_2, not_true_eq_false, not_false_eq_true, ite_true, ite_false, reduceIte]
      exact ih_i (by omega)  _ (by rw [e_4]; exact lv_sub hl [2, 1, 0] rfl) 
