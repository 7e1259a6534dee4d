set_option maxHeartbeats 4000000 in
set_option maxRecDepth 100000 in
theorem c_X5_putBack (l : Launch) (g : gx) (h : Nat) (a : Nat → Nat) (V X : sV) (W1 : sV) (hsrc : ∀ p9, p9 < 149 → X 3 (p9) = rowOf W1 p9)  : cU (S := Unit) l g yX5_putBack cX5_putBack 2 none ({ frames := 0, cells := 0, slots := 0, locals := 0 } : Room) [.ref h] [mV g h a V X] (fun _ => none) (fun _ => True) (fun _ => [mV g h a W1 X]) := by
  refine cU.mk (by decide +kernel) (Nat.le_of_ble_eq_true rfl) ?_
  intro p e s m below meth c ls E hK hW hl
  obtain ⟨hx, hb, hr, hml, hts, hown, hlocks, hin⟩ := id E
  have hown : s.vm.findClass RX5 = some m.cls := hown
  have hP := hW.1
  have hl : lv_has ls 2 [(0, .ref h)] := hl
  refine lv_iconst (v := 0) hx hb dX5_putBack_0 (by decide) ?_
  refine lv_istore_n (lv' := [(1, .int 0), (0, .ref h)]) hx hb dX5_putBack_1 rfl hl (by decide) rfl (fun ls hl => ?_)
  refine loopN (fun i : Nat => ∀ f : Nat → Int32, ∀ (H : Heap) (locs : List Loc) (ls : Array Slot), wd g (fun z9 => z9 ∈ adr [mV g h a V X]) s.heap [mG g h a f X] H locs → lv_has ls 2 [(0, .ref h), (1, .int (nI i))] → (∀ p9, p9 < i → f p9 = rowOf W1 p9) → W p l e _ s m _ below meth c H locs 0 0 _ (F0 m 2 ls [])) (149) (fun i hi ih_i => ?_) (0) (by omega) (rowOf V) s.heap [] ls hW (lv_sub hl [1, 0] rfl) (fun p9 h9 => absurd h9 (by omega))
  intro f H locs ls hW hl hf
  have hP := hW.1
  refine lv_iload_n hx hb dX5_putBack_2 rfl (lv_at hl 1 rfl) ?_
  refine lv_sipush (v := 149) hx hb dX5_putBack_3 (by decide) ?_
  refine b_ge (tgt := 27) (i) (149) hx hb rfl rfl (by omega) (by omega) dX5_putBack_6 (by decide) (fun h_1 => ?_) (fun h_1 => ?_)
  · obtain rfl : i = 149 := by omega
    have hW : wd g _ s.heap [mV g h a W1 X] H locs := wd_row hW 0 1 rfl rfl (f' := rowOf W1) hf rfl
    have hP := hW.1
    exact uV_ret () hW hx hb hr hlocks dX5_putBack_27 trivial (rfl) (adr2 (L := [[h, a 0, a 1, a 2, a 3, a 4, a 5, a 6, a 7, a 8]]) rfl rfl)
  · refine lv_aload_n hx hb dX5_putBack_9 rfl (lv_at hl 0 rfl) ?_
    refine b_get (v := .ref (a 0)) hx hb hts inX5 hown hK hP 0 0 0 rfl rfl rfl (by decide) q3_25 rfl rfl dX5_putBack_10 ?_
    refine lv_iload_n hx hb dX5_putBack_13 rfl (lv_at hl 1 rfl) ?_
    refine lv_aload_n hx hb dX5_putBack_14 rfl (lv_at hl 0 rfl) ?_
    refine b_get (v := .ref (a 3)) hx hb hts inX5 hown hK hP 0 0 5 rfl rfl rfl (by decide) q3_30 rfl rfl dX5_putBack_15 ?_
    refine lv_iload_n hx hb dX5_putBack_18 rfl (lv_at hl 1 rfl) ?_
    refine b_iald (v := X 3 i) hx hb hK hP 0 4 (i) rfl rfl rfl (by omega) rfl rfl dX5_putBack_19 ?_
    refine b_iast (B' := [mG g h a (upd f i (X 3 i)) X]) hx hb hK hW 0 1 (i) rfl rfl rfl (by omega) rfl rfl dX5_putBack_20 (fun H locs hW => ?_)
    have hP := hW.1
    refine lv_iinc (v := nI (i + 1)) (lv' := [(1, .int (nI (i + 1))), (0, .ref h)]) hx hb dX5_putBack_21 hl (k := 1) rfl (nI_add i 1) (by decide) rfl (fun ls hl => ?_)
    refine lv_goto (tgt := 2) hx hb dX5_putBack_24 (by decide) ?_
    exact ih_i (by omega) ((upd f i (X 3 i))) _ _ _ hW (lv_sub hl [1, 0] rfl) (fun p9 h9 => by unfold upd; by_cases e9 : p9 = i; (rw [if_pos e9, e9]; exact hsrc i (by omega)); (rw [if_neg e9]; exact hf p9 (by omega)))

set_option maxHeartbeats 4000000 in
set_option maxRecDepth 100000 in
theorem c_X5_save (l : Launch) (g : gx) (h : Nat) (a : Nat → Nat) (V X : sV)  : cU (S := sV) l g yX5_save cX5_save 2 (some .int) ({ frames := 0, cells := 0, slots := 0, locals := 0 } : Room) [.ref h] [mV g h a V X] (fun u => some (.int (V 12 2))) (fun u => (∀ k9, k9 ≠ 2 → k9 ≠ 9 → u k9 = X k9) ∧ (∀ j9, j9 ≠ 1 → u 9 j9 = X 9 j9) ∧ u 9 1 = 1 ∧ ∀ p9, p9 < 149 → u 2 p9 = rowOf V p9) (fun u => [mV g h a V u]) := by
  refine cU.mk (by decide +kernel) (Nat.le_of_ble_eq_true rfl) ?_
  intro p e s m below meth c ls E hK hW hl
  obtain ⟨hx, hb, hr, hml, hts, hown, hlocks, hin⟩ := id E
  have hown : s.vm.findClass RX5 = some m.cls := hown
  have hP := hW.1
  have hl : lv_has ls 2 [(0, .ref h)] := hl
  refine lv_iconst (v := 0) hx hb dX5_save_0 (by decide) ?_
  refine lv_istore_n (lv' := [(1, .int 0), (0, .ref h)]) hx hb dX5_save_1 rfl hl (by decide) rfl (fun ls hl => ?_)
  refine loopN (fun i : Nat => ∀ Y : sV, ∀ (H : Heap) (locs : List Loc) (ls : Array Slot), wd g (fun z9 => z9 ∈ adr [mV g h a V X]) s.heap [mV g h a V Y] H locs → lv_has ls 2 [(0, .ref h), (1, .int (nI i))] → ((∀ k9, k9 ≠ 2 → Y k9 = X k9) ∧ ∀ p9, p9 < 149 → Y 2 p9 = if p9 < i then rowOf V p9 else X 2 p9) → W p l e _ s m _ below meth c H locs 0 0 _ (F0 m 2 ls [])) (149) (fun i hi ih_i => ?_) (0) (by omega) (X) s.heap [] ls hW (lv_sub hl [1, 0] rfl) (⟨fun _ _ => rfl, fun p9 _ => by rw [if_neg (by omega)]⟩)
  intro Y H locs ls hW hl hY
  have hP := hW.1
  refine lv_iload_n hx hb dX5_save_2 rfl (lv_at hl 1 rfl) ?_
  refine lv_sipush (v := 149) hx hb dX5_save_3 (by decide) ?_
  refine b_ge (tgt := 27) (i) (149) hx hb rfl rfl (by omega) (by omega) dX5_save_6 (by decide) (fun h_1 => ?_) (fun h_1 => ?_)
  · obtain rfl : i = 149 := by omega
    refine lv_aload_n hx hb dX5_save_27 rfl (lv_at hl 0 rfl) ?_
    refine lv_iconst (v := 1) hx hb dX5_save_28 (by decide) ?_
    refine b_put (B' := [mV g h a V (up2 Y 9 1 1)]) (v := .int 1) hx hb hts inX5 tyX5_ok nmX5 hown hK hW 0 0 4 rfl rfl rfl (by decide) q3_29 rfl rfl rfl rfl (Nat.le_of_ble_eq_true rfl) rfl dX5_save_29 (fun H locs hW => ?_)
    have hP := hW.1
    refine lv_aload_n hx hb dX5_save_32 rfl (lv_at hl 0 rfl) ?_
    refine b_get (v := .ref (a 0)) hx hb hts inX5 hown hK hP 0 0 0 rfl rfl rfl (by decide) q3_25 rfl rfl dX5_save_33 ?_
    refine lv_iconst (v := 2) hx hb dX5_save_36 (by decide) ?_
    refine b_iald (v := V 12 2) hx hb hK hP 0 1 (2) rfl rfl rfl (by omega) rfl rfl dX5_save_37 ?_
    exact uI_ret (up2 Y 9 1 1) hW hx hb hr hlocks dX5_save_38 (rfl) ⟨fun k9 h9 h8 => by rw [up2_k h8, hY.1 k9 h9], fun j9 h9 => by rw [up2_ne (by omega), hY.1 9 (by omega)], up2_eq _ _ _ _, fun p9 h9 => by rw [up2_ne (by omega), hY.2 p9 h9, if_pos h9]⟩ (rfl) (adr2 (L := [[h, a 0, a 1, a 2, a 3, a 4, a 5, a 6, a 7, a 8]]) rfl rfl)
  · refine lv_aload_n hx hb dX5_save_9 rfl (lv_at hl 0 rfl) ?_
    refine b_get (v := .ref (a 2)) hx hb hts inX5 hown hK hP 0 0 3 rfl rfl rfl (by decide) q3_28 rfl rfl dX5_save_10 ?_
    refine lv_iload_n hx hb dX5_save_13 rfl (lv_at hl 1 rfl) ?_
    refine lv_aload_n hx hb dX5_save_14 rfl (lv_at hl 0 rfl) ?_
    refine b_get (v := .ref (a 0)) hx hb hts inX5 hown hK hP 0 0 0 rfl rfl rfl (by decide) q3_25 rfl rfl dX5_save_15 ?_
    refine lv_iload_n hx hb dX5_save_18 rfl (lv_at hl 1 rfl) ?_
    refine b_iald (v := rowOf V i) hx hb hK hP 0 1 (i) rfl rfl rfl (by omega) rfl rfl dX5_save_19 ?_
    refine b_iast (B' := [mV g h a V (up2 Y 2 i (rowOf V i))]) hx hb hK hW 0 3 (i) rfl rfl rfl (by omega) rfl rfl dX5_save_20 (fun H locs hW => ?_)
    have hP := hW.1
    refine lv_iinc (v := nI (i + 1)) (lv' := [(1, .int (nI (i + 1))), (0, .ref h)]) hx hb dX5_save_21 hl (k := 1) rfl (nI_add i 1) (by decide) rfl (fun ls hl => ?_)
    refine lv_goto (tgt := 2) hx hb dX5_save_24 (by decide) ?_
    exact ih_i (by omega) ((up2 Y 2 i (rowOf V i))) _ _ _ hW (lv_sub hl [1, 0] rfl) (⟨fun k9 h9 => by rw [up2_k h9, hY.1 k9 h9], fun p9 h9 => by rw [up2_if]; by_cases e9 : p9 = i; (rw [if_pos ⟨rfl, e9⟩, if_pos (by omega), e9]); (rw [if_neg (by omega), hY.2 p9 h9]; by_cases e8 : p9 < i; (rw [if_pos e8, if_pos (by omega)]); (rw [if_neg e8, if_neg (by omega)]))⟩)
