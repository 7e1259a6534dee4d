set_option maxHeartbeats 4000000 in
set_option maxRecDepth 100000 in
theorem c_X5_turnsNow (l : Launch) (g : gx) (h : Nat) (a : Nat → Nat) (V X : sV) (cq : Nat → Nat) (hc : ∀ t, t < 6 → V 3 t = nI (cq t) ∧ cq t ≤ 5) (m9 : Nat) (hm : m9 ≤ 50)  : cU (S := Unit) l g yX5_turnsNow cX5_turnsNow 3 none ({ frames := 6, cells := 0, slots := 0, locals := 135 } : Room) [.ref h, .int (nI m9)] [mV g h a V X] (fun _ => none) (fun _ => True) (fun _ => [mV g h a ((mtM V X cq m9).1) ((mtM V X cq m9).2)]) := by
  refine cU.mk (by decide +kernel) (Nat.le_of_ble_eq_true rfl) ?_
  intro p e s m below meth c ls E hK hW hl
  obtain ⟨hx, hb, hr, hml, hts, hown, hlocks, hin⟩ := id E
  have hown : s.vm.findClass RX5 = some m.cls := hown
  have hP := hW.1
  have hl : lv_has ls 3 [(0, .ref h), (1, .int (nI m9))] := hl
  refine lv_iconst (v := 0) hx hb dX5_turnsNow_0 (by decide) ?_
  refine lv_istore_n (lv' := [(2, .int 0), (0, .ref h), (1, .int (nI m9))]) hx hb dX5_turnsNow_1 rfl hl (by decide) rfl (fun ls hl => ?_)
  refine loopN (fun i : Nat => ∀ (H : Heap) (locs : List Loc) (ls : Array Slot), wd g (fun z9 => z9 ∈ adr [mV g h a V X]) s.heap [mV g h a ((mtM V X cq i).1) ((mtM V X cq i).2)] H locs → lv_has ls 3 [(0, .ref h), (1, .int (nI m9)), (2, .int (nI i))] → W p l e _ s m _ below meth c H locs 0 0 _ (F0 m 2 ls [])) (m9) (fun i hi ih_i => ?_) (0) (by omega)  s.heap [] ls hW (lv_sub hl [1, 2, 0] rfl) 
  intro  H locs ls hW hl 
  have hP := hW.1
  refine lv_iload_n hx hb dX5_turnsNow_2 rfl (lv_at hl 2 rfl) ?_
  refine lv_iload_n hx hb dX5_turnsNow_3 rfl (lv_at hl 1 rfl) ?_
  refine b_ge (tgt := 17) (i) (m9) hx hb rfl rfl (by omega) (by omega) dX5_turnsNow_4 (by decide) (fun h_1 => ?_) (fun h_1 => ?_)
  · obtain rfl : i = m9 := by omega
    exact uV_ret () hW hx hb hr hlocks dX5_turnsNow_17 trivial (rfl) (adr2 (L := [[h, a 0, a 1, a 2, a 3, a 4, a 5, a 6, a 7, a 8]]) rfl rfl)
  · refine lv_aload_n hx hb dX5_turnsNow_7 rfl (lv_at hl 0 rfl) ?_
    refine call_VU (As := []) (rest := []) E rfl hK hW (c_X5_turn l g h a ((mtM V X cq i).1) ((mtM V X cq i).2) cq (fun t9 ht9 => by rw [mtM_3]; exact hc t9 ht9)) ok_X5_turn rfl q3_154 [0] rfl (by decide) (b_recv hK hP 0 0 rfl rfl rfl rfl) ⟨⟨rfl, rfl⟩, Nat.le_of_ble_eq_true rfl, Nat.le_of_ble_eq_true rfl⟩ hl.1 (Nat.le_of_ble_eq_true rfl) ⟨Nat.le_of_ble_eq_true rfl, Nat.le_of_ble_eq_true rfl⟩ rfl dX5_turnsNow_8 (fun _u H locs _ hW => ?_)
    have hW : wd g _ s.heap [mV g h a (tuV ((mtM V X cq i).1) cq (liX ((mtM V X cq i).1) cq ((mtM V X cq i).2) 6 4)) (liX ((mtM V X cq i).1) cq ((mtM V X cq i).2) 6)] H locs := hW
    have hP := hW.1
    obtain ⟨U_2, hU_2⟩ : ∃ z, z = (tuV ((mtM V X cq i).1) cq (liX ((mtM V X cq i).1) cq ((mtM V X cq i).2) 6 4)) := ⟨_, rfl⟩
    rw [← hU_2] at hW
    obtain ⟨U_3, hU_3⟩ : ∃ z, z = (liX ((mtM V X cq i).1) cq ((mtM V X cq i).2) 6) := ⟨_, rfl⟩
    rw [← hU_3] at hW
    have hP := hW.1
    refine lv_iinc (v := nI (i + 1)) (lv' := [(2, .int (nI (i + 1))), (0, .ref h), (1, .int (nI m9))]) hx hb dX5_turnsNow_11 hl (k := 2) rfl (nI_add i 1) (by decide) rfl (fun ls hl => ?_)
    refine lv_goto (tgt := 2) hx hb dX5_turnsNow_14 (by decide) ?_
    have e_4 : ([mV g h a ((mtM V X cq (i + 1)).1) ((mtM V X cq (i + 1)).2)] : List va_W) = [mV g h a U_2 U_3] := by rw [hU_3, hU_2]; simp only [mtM, tuX]
    exact ih_i (by omega)  _ _ _ (by rw [e_4]; exact hW) (lv_sub hl [1, 2, 0] rfl) 

set_option maxHeartbeats 4000000 in
set_option maxRecDepth 100000 in
theorem c_X5_putAside (l : Launch) (g : gx) (h : Nat) (a : Nat → Nat) (V X : sV)  : cU (S := sV) l g yX5_putAside cX5_putAside 2 none ({ frames := 0, cells := 0, slots := 0, locals := 0 } : Room) [.ref h] [mV g h a V X] (fun _ => none) (fun u => (∀ k9, k9 ≠ 3 → u k9 = X k9) ∧ ∀ p9, p9 < 149 → u 3 p9 = rowOf V p9) (fun u => [mV g h a V u]) := by
  refine cU.mk (by decide +kernel) (Nat.le_of_ble_eq_true rfl) ?_
  intro p e s m below meth c ls E hK hW hl
  obtain ⟨hx, hb, hr, hml, hts, hown, hlocks, hin⟩ := id E
  have hown : s.vm.findClass RX5 = some m.cls := hown
  have hP := hW.1
  have hl : lv_has ls 2 [(0, .ref h)] := hl
  refine lv_iconst (v := 0) hx hb dX5_putAside_0 (by decide) ?_
  refine lv_istore_n (lv' := [(1, .int 0), (0, .ref h)]) hx hb dX5_putAside_1 rfl hl (by decide) rfl (fun ls hl => ?_)
  refine loopN (fun i : Nat => ∀ Y : sV, ∀ (H : Heap) (locs : List Loc) (ls : Array Slot), wd g (fun z9 => z9 ∈ adr [mV g h a V X]) s.heap [mV g h a V Y] H locs → lv_has ls 2 [(0, .ref h), (1, .int (nI i))] → ((∀ k9, k9 ≠ 3 → Y k9 = X k9) ∧ ∀ p9, p9 < 149 → Y 3 p9 = if p9 < i then rowOf V p9 else X 3 p9) → W p l e _ s m _ below meth c H locs 0 0 _ (F0 m 2 ls [])) (149) (fun i hi ih_i => ?_) (0) (by omega) (X) s.heap [] ls hW (lv_sub hl [1, 0] rfl) (⟨fun _ _ => rfl, fun p9 _ => by rw [if_neg (by omega)]⟩)
  intro Y H locs ls hW hl hY
  have hP := hW.1
  refine lv_iload_n hx hb dX5_putAside_2 rfl (lv_at hl 1 rfl) ?_
  refine lv_sipush (v := 149) hx hb dX5_putAside_3 (by decide) ?_
  refine b_ge (tgt := 27) (i) (149) hx hb rfl rfl (by omega) (by omega) dX5_putAside_6 (by decide) (fun h_1 => ?_) (fun h_1 => ?_)
  · obtain rfl : i = 149 := by omega
    exact uV_ret Y hW hx hb hr hlocks dX5_putAside_27 ⟨hY.1, fun p9 h9 => by rw [hY.2 p9 h9, if_pos h9]⟩ (rfl) (adr2 (L := [[h, a 0, a 1, a 2, a 3, a 4, a 5, a 6, a 7, a 8]]) rfl rfl)
  · refine lv_aload_n hx hb dX5_putAside_9 rfl (lv_at hl 0 rfl) ?_
    refine b_get (v := .ref (a 3)) hx hb hts inX5 hown hK hP 0 0 5 rfl rfl rfl (by decide) q3_30 rfl rfl dX5_putAside_10 ?_
    refine lv_iload_n hx hb dX5_putAside_13 rfl (lv_at hl 1 rfl) ?_
    refine lv_aload_n hx hb dX5_putAside_14 rfl (lv_at hl 0 rfl) ?_
    refine b_get (v := .ref (a 0)) hx hb hts inX5 hown hK hP 0 0 0 rfl rfl rfl (by decide) q3_25 rfl rfl dX5_putAside_15 ?_
    refine lv_iload_n hx hb dX5_putAside_18 rfl (lv_at hl 1 rfl) ?_
    refine b_iald (v := rowOf V i) hx hb hK hP 0 1 (i) rfl rfl rfl (by omega) rfl rfl dX5_putAside_19 ?_
    refine b_iast (B' := [mV g h a V (up2 Y 3 i (rowOf V i))]) hx hb hK hW 0 4 (i) rfl rfl rfl (by omega) rfl rfl dX5_putAside_20 (fun H locs hW => ?_)
    have hP := hW.1
    refine lv_iinc (v := nI (i + 1)) (lv' := [(1, .int (nI (i + 1))), (0, .ref h)]) hx hb dX5_putAside_21 hl (k := 1) rfl (nI_add i 1) (by decide) rfl (fun ls hl => ?_)
    refine lv_goto (tgt := 2) hx hb dX5_putAside_24 (by decide) ?_
    exact ih_i (by omega) ((up2 Y 3 i (rowOf V i))) _ _ _ hW (lv_sub hl [1, 0] rfl) (⟨fun k9 h9 => by rw [up2_k h9, hY.1 k9 h9], fun p9 h9 => by rw [up2_if]; by_cases e9 : p9 = i; (rw [if_pos ⟨rfl, e9⟩, if_pos (by omega), e9]); (rw [if_neg (by omega), hY.2 p9 h9]; by_cases e8 : p9 < i; (rw [if_pos e8, if_pos (by omega)]); (rw [if_neg e8, if_neg (by omega)]))⟩)
