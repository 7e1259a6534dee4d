set_option maxHeartbeats 4000000 in
set_option maxRecDepth 100000 in
theorem c_X5_loudestNow (l : Launch) (g : gx) (h : Nat) (a : Nat → Nat) (V X : sV)  : cR l g yX5_loudestNow cX5_loudestNow 3 (some .int) ({ frames := 0, cells := 0, slots := 0, locals := 0 } : Room) [.ref h] [mV g h a V X] (.int (lnM (X 4) 6)) := by
  refine cR.mk (by decide +kernel) (Nat.le_of_ble_eq_true rfl) ?_
  intro p e s m below meth c ls E hK hP hl
  obtain ⟨hx, hb, hr, hml, hts, hown, hlocks, hin⟩ := id E
  have hown : s.vm.findClass RX5 = some m.cls := hown
  have hl : lv_has ls 3 [(0, .ref h)] := hl
  refine lv_bipush (v := -5) hx hb dX5_loudestNow_0 (by decide) ?_
  refine lv_istore_n (lv' := [(1, .int (-5)), (0, .ref h)]) hx hb dX5_loudestNow_2 rfl hl (by decide) rfl (fun ls hl => ?_)
  refine lv_iconst (v := 5) hx hb dX5_loudestNow_3 (by decide) ?_
  refine lv_istore_n (lv' := [(2, .int 5), (1, .int (-5)), (0, .ref h)]) hx hb dX5_loudestNow_4 rfl hl (by decide) rfl (fun ls hl => ?_)
  refine loopN (fun i : Nat => ∀ ls : Array Slot, lv_has ls 3 [(0, .ref h), (1, .int (lnM (X 4) i)), (2, .int (dT i))] → W p l e _ s m _ below meth c s.heap [] 0 0 _ (F0 m 5 ls [])) (6) (fun i hi ih_i => ?_) (0) (by omega)  ls (lv_sub hl [2, 1, 0] rfl) 
  intro  ls hl 
  refine lv_iload_n hx hb dX5_loudestNow_5 rfl (lv_at hl 2 rfl) ?_
  rcases (show i = 6 ∨ i < 6 by omega) with rfl | hi6
  · refine lv_if_lt (tgt := 51) hx hb dX5_loudestNow_6 (by decide) (fun _ => ?_) (fun h9 => absurd (by decide) h9)
    refine lv_iload_n hx hb dX5_loudestNow_51 rfl (lv_at hl 1 rfl) ?_
    exact rI_ret hx hb hr hlocks dX5_loudestNow_52 (rfl)
  · have hdT : dT i = nI (5 - i) := dT_nI hi6
    refine b_top (y := nI (5 - i)) hdT ?_
    refine lv_if_lt (tgt := 51) hx hb dX5_loudestNow_6 (by decide) (fun h9 => absurd h9 (nI_pos (by omega))) (fun _ => ?_)
    refine lv_aload_n hx hb dX5_loudestNow_9 rfl (lv_at hl 0 rfl) ?_
    refine b_get (v := .ref (a 4)) hx hb hts inX5 hown hK hP 0 0 6 rfl rfl rfl (by decide) q3_31 rfl rfl dX5_loudestNow_10 ?_
    refine lv_iload_n hx hb dX5_loudestNow_13 rfl (lv_at hl 2 rfl) ?_
    refine b_iald (v := X 4 (5 - i)) hx hb hK hP 0 5 (5 - i) rfl rfl hdT (by omega) rfl rfl dX5_loudestNow_14 ?_
    refine lv_if_le (tgt := 43) hx hb dX5_loudestNow_15 (by decide) (fun h_1 => ?_) (fun h_1 => ?_)
    · have hu := h_1
      refine lv_iload_n hx hb dX5_loudestNow_43 rfl (lv_at hl 1 rfl) ?_
      refine lv_istore_n (lv' := [(1, .int (lnM (X 4) i)), (0, .ref h), (2, .int (dT i))]) hx hb dX5_loudestNow_44 rfl hl (by decide) rfl (fun ls hl => ?_)
      refine lv_iinc (v := dT i + (-1)) (lv' := [(2, .int (dT i + (-1))), (1, .int (lnM (X 4) i)), (0, .ref h)]) hx hb dX5_loudestNow_45 hl (k := 2) rfl rfl (by decide) rfl (fun ls hl => ?_)
      refine lv_goto (tgt := 5) hx hb dX5_loudestNow_48 (by decide) ?_
      have e_2 : lnM (X 4) (i + 1) = lnM (X 4) i := by rw [lnM]; first | (rw [if_pos hu]; done) | (rw [if_neg hu, if_pos hf, hdT]; done) | (rw [if_neg hu, if_neg hf, if_pos (by rw [hwe, nI_clamp (by omega)]; exact h_1)]; done) | (rw [if_neg hu, if_neg hf, if_neg (by rw [hwe, nI_clamp (by omega)]; exact h_1), hdT]; done)
      have e_3 : dT (i + 1) = dT i + (-1) := by rw [dT_succ (by omega)]
      exact ih_i (by omega)  _ (by rw [e_2, e_3]; exact lv_sub hl [2, 1, 0] rfl) 
    · have hu := h_1
      refine lv_iload_n hx hb dX5_loudestNow_18 rfl (lv_at hl 1 rfl) ?_
      refine lv_bipush (v := -5) hx hb dX5_loudestNow_19 (by decide) ?_
      refine lv_icmp_eq (tgt := 39) hx hb dX5_loudestNow_21 (by decide) (fun h_4 => ?_) (fun h_4 => ?_)
      · have hf := h_4
        refine lv_iload_n hx hb dX5_loudestNow_39 rfl (lv_at hl 2 rfl) ?_
        refine lv_goto (tgt := 44) hx hb dX5_loudestNow_40 (by decide) ?_
        refine lv_istore_n (lv' := [(1, .int (dT i)), (0, .ref h), (2, .int (dT i))]) hx hb dX5_loudestNow_44 rfl hl (by decide) rfl (fun ls hl => ?_)
        refine lv_iinc (v := dT i + (-1)) (lv' := [(2, .int (dT i + (-1))), (1, .int (dT i)), (0, .ref h)]) hx hb dX5_loudestNow_45 hl (k := 2) rfl rfl (by decide) rfl (fun ls hl => ?_)
        refine lv_goto (tgt := 5) hx hb dX5_loudestNow_48 (by decide) ?_
        have e_5 : lnM (X 4) (i + 1) = dT i := by rw [lnM]; first | (rw [if_pos hu]; done) | (rw [if_neg hu, if_pos hf, hdT]; done) | (rw [if_neg hu, if_neg hf, if_pos (by rw [hwe, nI_clamp (by omega)]; exact h_4)]; done) | (rw [if_neg hu, if_neg hf, if_neg (by rw [hwe, nI_clamp (by omega)]; exact h_4), hdT]; done)
        have e_6 : dT (i + 1) = dT i + (-1) := by rw [dT_succ (by omega)]
        exact ih_i (by omega)  _ (by rw [e_5, e_6]; exact lv_sub hl [2, 1, 0] rfl) 
      · have hf := h_4
        obtain ⟨w, hw, hwe⟩ := (lnM_rng (X 4) i).resolve_left h_4
        refine lv_aload_n hx hb dX5_loudestNow_24 rfl (lv_at hl 0 rfl) ?_
        refine b_get (v := .ref (a 4)) hx hb hts inX5 hown hK hP 0 0 6 rfl rfl rfl (by decide) q3_31 rfl rfl dX5_loudestNow_25 ?_
        refine lv_iload_n hx hb dX5_loudestNow_28 rfl (lv_at hl 2 rfl) ?_
        refine b_iald (v := X 4 (5 - i)) hx hb hK hP 0 5 (5 - i) rfl rfl hdT (by omega) rfl rfl dX5_loudestNow_29 ?_
        refine lv_aload_n hx hb dX5_loudestNow_30 rfl (lv_at hl 0 rfl) ?_
        refine b_get (v := .ref (a 4)) hx hb hts inX5 hown hK hP 0 0 6 rfl rfl rfl (by decide) q3_31 rfl rfl dX5_loudestNow_31 ?_
        refine lv_iload_n hx hb dX5_loudestNow_34 rfl (lv_at hl 1 rfl) ?_
        refine b_iald (v := X 4 w) hx hb hK hP 0 5 (w) rfl rfl hwe (by omega) rfl rfl dX5_loudestNow_35 ?_
        refine lv_icmp_lt (tgt := 43) hx hb dX5_loudestNow_36 (by decide) (fun h_7 => ?_) (fun h_7 => ?_)
        · refine lv_iload_n hx hb dX5_loudestNow_43 rfl (lv_at hl 1 rfl) ?_
          refine lv_istore_n (lv' := [(1, .int (lnM (X 4) i)), (0, .ref h), (2, .int (dT i))]) hx hb dX5_loudestNow_44 rfl hl (by decide) rfl (fun ls hl => ?_)
          refine lv_iinc (v := dT i + (-1)) (lv' := [(2, .int (dT i + (-1))), (1, .int (lnM (X 4) i)), (0, .ref h)]) hx hb dX5_loudestNow_45 hl (k := 2) rfl rfl (by decide) rfl (fun ls hl => ?_)
          refine lv_goto (tgt := 5) hx hb dX5_loudestNow_48 (by decide) ?_
          have e_8 : lnM (X 4) (i + 1) = lnM (X 4) i := by rw [lnM]; first | (rw [if_pos hu]; done) | (rw [if_neg hu, if_pos hf, hdT]; done) | (rw [if_neg hu, if_neg hf, if_pos (by rw [hwe, nI_clamp (by omega)]; exact h_7)]; done) | (rw [if_neg hu, if_neg hf, if_neg (by rw [hwe, nI_clamp (by omega)]; exact h_7), hdT]; done)
          have e_9 : dT (i + 1) = dT i + (-1) := by rw [dT_succ (by omega)]
          exact ih_i (by omega)  _ (by rw [e_8, e_9]; exact lv_sub hl [2, 1, 0] rfl) 
        · refine lv_iload_n hx hb dX5_loudestNow_39 rfl (lv_at hl 2 rfl) ?_
          refine lv_goto (tgt := 44) hx hb dX5_loudestNow_40 (by decide) ?_
          refine lv_istore_n (lv' := [(1, .int (dT i)), (0, .ref h), (2, .int (dT i))]) hx hb dX5_loudestNow_44 rfl hl (by decide) rfl (fun ls hl => ?_)
          refine lv_iinc (v := dT i + (-1)) (lv' := [(2, .int (dT i + (-1))), (1, .int (dT i)), (0, .ref h)]) hx hb dX5_loudestNow_45 hl (k := 2) rfl rfl (by decide) rfl (fun ls hl => ?_)
          refine lv_goto (tgt := 5) hx hb dX5_loudestNow_48 (by decide) ?_
          have e_10 : lnM (X 4) (i + 1) = dT i := by rw [lnM]; first | (rw [if_pos hu]; done) | (rw [if_neg hu, if_pos hf, hdT]; done) | (rw [if_neg hu, if_neg hf, if_pos (by rw [hwe, nI_clamp (by omega)]; exact h_7)]; done) | (rw [if_neg hu, if_neg hf, if_neg (by rw [hwe, nI_clamp (by omega)]; exact h_7), hdT]; done)
          have e_11 : dT (i + 1) = dT i + (-1) := by rw [dT_succ (by omega)]
          exact ih_i (by omega)  _ (by rw [e_10, e_11]; exact lv_sub hl [2, 1, 0] rfl) 
