set_option maxHeartbeats 4000000 in
set_option maxRecDepth 100000 in
theorem c_X5_heardIn (l : Launch) (g : gx) (h : Nat) (a : Nat → Nat) (V X : sV) (t e0 : Nat) (ht : t < 6) (he : e0 < 6) : cR l g yX5_heardIn cX5_heardIn 5 (some .int) ({ frames := 1, cells := 0, slots := 0, locals := 22 } : Room) [.ref h, .int (nI t), .int (nI e0)] [mV g h a V X] (.int (hrM V (X 4) t e0)) := by
  refine cR.mk (by decide +kernel) (Nat.le_of_ble_eq_true rfl) ?_
  intro p e s m below meth c ls E hK hP hl
  obtain ⟨hx, hb, hr, hml, hts, hown, hlocks, hin⟩ := id E
  have hown : s.vm.findClass RX5 = some m.cls := hown
  have hl : lv_has ls 5 [(0, .ref h), (1, .int (nI t)), (2, .int (nI e0))] := hl
  refine lv_aload_n hx hb dX5_heardIn_0 rfl (lv_at hl 0 rfl) ?_
  refine lv_iload_n hx hb dX5_heardIn_1 rfl (lv_at hl 1 rfl) ?_
  refine lv_iconst (v := 0) hx hb dX5_heardIn_2 (by decide) ?_
  refine call_VR (As := [.int (nI t), .int 0]) (rest := []) E rfl hK hP (c_X5_of_k l g h a V X t 0 (by omega) (by omega)) ok_X5_of rfl q3_94 [0] rfl (b_recv hK hP 0 0 rfl rfl rfl rfl) ⟨⟨rfl, rfl⟩, Nat.le_of_ble_eq_true rfl, Nat.le_of_ble_eq_true rfl⟩ hl.1 (Nat.le_of_ble_eq_true rfl) ⟨Nat.le_of_ble_eq_true rfl, Nat.le_of_ble_eq_true rfl⟩ rfl dX5_heardIn_3 ?_
  refine lv_aload_n hx hb dX5_heardIn_6 rfl (lv_at hl 0 rfl) ?_
  refine lv_iload_n hx hb dX5_heardIn_7 rfl (lv_at hl 2 rfl) ?_
  refine lv_iconst (v := 0) hx hb dX5_heardIn_8 (by decide) ?_
  refine call_VR (As := [.int (nI e0), .int 0]) (rest := [.int (V 0 t)]) E rfl hK hP (c_X5_of_k l g h a V X e0 0 (by omega) (by omega)) ok_X5_of rfl q3_94 [0] rfl (b_recv hK hP 0 0 rfl rfl rfl rfl) ⟨⟨rfl, rfl⟩, Nat.le_of_ble_eq_true rfl, Nat.le_of_ble_eq_true rfl⟩ hl.1 (Nat.le_of_ble_eq_true rfl) ⟨Nat.le_of_ble_eq_true rfl, Nat.le_of_ble_eq_true rfl⟩ rfl dX5_heardIn_9 ?_
  refine lv_isub hx hb dX5_heardIn_12 ?_
  refine lv_istore_n (lv' := [(3, .int ((V 0 t) - (V 0 e0))), (0, .ref h), (1, .int (nI t)), (2, .int (nI e0))]) hx hb dX5_heardIn_13 rfl hl (by decide) rfl (fun ls hl => ?_)
  refine lv_aload_n hx hb dX5_heardIn_14 rfl (lv_at hl 1 rfl) ?_
  refine b_get (v := .ref (a 4)) hx hb hts inX5 hown hK hP 0 0 6 rfl rfl rfl (by decide) q3_31 rfl rfl dX5_heardIn_15 ?_
  refine lv_iload_n hx hb dX5_heardIn_18 rfl (lv_at hl 2 rfl) ?_
  refine b_iald (v := X 4 t) hx hb hK hP 0 5 (t) rfl rfl rfl (by omega) rfl rfl dX5_heardIn_19 ?_
  refine lv_aload_n hx hb dX5_heardIn_20 rfl (lv_at hl 1 rfl) ?_
  refine b_get (v := .ref (a 0)) hx hb hts inX5 hown hK hP 0 0 0 rfl rfl rfl (by decide) q3_25 rfl rfl dX5_heardIn_21 ?_
  refine lv_iconst (v := 0) hx hb dX5_heardIn_24 (by decide) ?_
  refine b_iald (v := V 12 0) hx hb hK hP 0 1 (0) rfl rfl rfl (by omega) rfl rfl dX5_heardIn_25 ?_
  refine lv_iload_n hx hb dX5_heardIn_26 rfl (lv_at hl 0 rfl) ?_
  refine lv_if_ge (tgt := 35) hx hb dX5_heardIn_27 (by decide) (fun h_1 => ?_) (fun h_1 => ?_)
  · refine lv_iload_n hx hb dX5_heardIn_35 rfl (lv_at hl 0 rfl) ?_
    refine lv_imul hx hb dX5_heardIn_36 ?_
    refine lv_isub hx hb dX5_heardIn_37 ?_
    refine lv_istore (lv' := [(4, .int ((X 4 t) - ((V 12 0) * ((V 0 t) - (V 0 e0))))), (3, .int ((V 0 t) - (V 0 e0))), (0, .ref h), (1, .int (nI t)), (2, .int (nI e0))]) hx hb dX5_heardIn_38 hl (by decide) rfl (fun ls hl => ?_)
    refine lv_iload hx hb dX5_heardIn_40 (lv_at hl 0 rfl) ?_
    refine lv_if_le (tgt := 50) hx hb dX5_heardIn_42 (by decide) (fun h_2 => ?_) (fun h_2 => ?_)
    · refine lv_iconst (v := 0) hx hb dX5_heardIn_50 (by decide) ?_
      exact rI_ret hx hb hr hlocks dX5_heardIn_51 (by simp only [h_1, h_2, hrM, abM,  not_true_eq_false, not_false_eq_true, and_true, true_and, and_false, false_and, and_self, or_true, true_or, or_false, false_or, ne_eq, ite_true, ite_false, reduceIte])
    · refine lv_iload hx hb dX5_heardIn_45 (lv_at hl 0 rfl) ?_
      refine lv_goto (tgt := 51) hx hb dX5_heardIn_47 (by decide) ?_
      exact rI_ret hx hb hr hlocks dX5_heardIn_51 (by simp only [h_1, h_2, hrM, abM,  not_true_eq_false, not_false_eq_true, and_true, true_and, and_false, false_and, and_self, or_true, true_or, or_false, false_or, ne_eq, ite_true, ite_false, reduceIte])
  · refine lv_iload_n hx hb dX5_heardIn_30 rfl (lv_at hl 0 rfl) ?_
    refine lv_ineg hx hb dX5_heardIn_31 ?_
    refine lv_goto (tgt := 36) hx hb dX5_heardIn_32 (by decide) ?_
    refine lv_imul hx hb dX5_heardIn_36 ?_
    refine lv_isub hx hb dX5_heardIn_37 ?_
    refine lv_istore (lv' := [(4, .int ((X 4 t) - ((V 12 0) * (-((V 0 t) - (V 0 e0)))))), (3, .int ((V 0 t) - (V 0 e0))), (0, .ref h), (1, .int (nI t)), (2, .int (nI e0))]) hx hb dX5_heardIn_38 hl (by decide) rfl (fun ls hl => ?_)
    refine lv_iload hx hb dX5_heardIn_40 (lv_at hl 0 rfl) ?_
    refine lv_if_le (tgt := 50) hx hb dX5_heardIn_42 (by decide) (fun h_3 => ?_) (fun h_3 => ?_)
    · refine lv_iconst (v := 0) hx hb dX5_heardIn_50 (by decide) ?_
      exact rI_ret hx hb hr hlocks dX5_heardIn_51 (by simp only [h_1, h_3, hrM, abM,  not_true_eq_false, not_false_eq_true, and_true, true_and, and_false, false_and, and_self, or_true, true_or, or_false, false_or, ne_eq, ite_true, ite_false, reduceIte])
    · refine lv_iload hx hb dX5_heardIn_45 (lv_at hl 0 rfl) ?_
      refine lv_goto (tgt := 51) hx hb dX5_heardIn_47 (by decide) ?_
      exact rI_ret hx hb hr hlocks dX5_heardIn_51 (by simp only [h_1, h_3, hrM, abM,  not_true_eq_false, not_false_eq_true, and_true, true_and, and_false, false_and, and_self, or_true, true_or, or_false, false_or, ne_eq, ite_true, ite_false, reduceIte])

set_option maxHeartbeats 4000000 in
set_option maxRecDepth 100000 in
theorem c_X5_best (l : Launch) (g : gx) (h : Nat) (a : Nat → Nat) (V X : sV) (e0 : Nat) (he : e0 < 6) : cR l g yX5_best cX5_best 6 (some .int) ({ frames := 2, cells := 0, slots := 0, locals := 46 } : Room) [.ref h, .int (nI e0)] [mV g h a V X] (.int ((bsM V (X 4) e0 6).2)) := by
  refine cR.mk (by decide +kernel) (Nat.le_of_ble_eq_true rfl) ?_
  intro p e s m below meth c ls E hK hP hl
  obtain ⟨hx, hb, hr, hml, hts, hown, hlocks, hin⟩ := id E
  have hown : s.vm.findClass RX5 = some m.cls := hown
  have hl : lv_has ls 6 [(0, .ref h), (1, .int (nI e0))] := hl
  refine lv_iconst (v := 0) hx hb dX5_best_0 (by decide) ?_
  refine lv_istore_n (lv' := [(2, .int 0), (0, .ref h), (1, .int (nI e0))]) hx hb dX5_best_1 rfl hl (by decide) rfl (fun ls hl => ?_)
  refine lv_bipush (v := -5) hx hb dX5_best_2 (by decide) ?_
  refine lv_istore_n (lv' := [(3, .int (-5)), (2, .int 0), (0, .ref h), (1, .int (nI e0))]) hx hb dX5_best_4 rfl hl (by decide) rfl (fun ls hl => ?_)
  refine lv_iconst (v := 0) hx hb dX5_best_5 (by decide) ?_
  refine lv_istore (lv' := [(4, .int 0), (3, .int (-5)), (2, .int 0), (0, .ref h), (1, .int (nI e0))]) hx hb dX5_best_6 hl (by decide) rfl (fun ls hl => ?_)
  refine loopN (fun i : Nat => ∀ ls : Array Slot, lv_has ls 6 [(0, .ref h), (1, .int (nI e0)), (2, .int ((bsM V (X 4) e0 i).1)), (3, .int ((bsM V (X 4) e0 i).2)), (4, .int (nI i))] → W p l e _ s m _ below meth c s.heap [] 0 0 _ (F0 m 8 ls [])) (6) (fun i hi ih_i => ?_) (0) (by omega)  ls (lv_sub hl [3, 4, 2, 1, 0] rfl) 
  intro  ls hl 
  refine lv_iload hx hb dX5_best_8 (lv_at hl 4 rfl) ?_
  refine lv_bipush (v := 6) hx hb dX5_best_10 (by decide) ?_
  refine b_ge (tgt := 67) (i) (6) hx hb rfl rfl (by omega) (by omega) dX5_best_12 (by decide) (fun h_1 => ?_) (fun h_1 => ?_)
  · obtain rfl : i = 6 := by omega
    refine lv_iload_n hx hb dX5_best_67 rfl (lv_at hl 3 rfl) ?_
    exact rI_ret hx hb hr hlocks dX5_best_68 (rfl)
  · refine lv_aload_n hx hb dX5_best_15 rfl (lv_at hl 0 rfl) ?_
    refine lv_iload hx hb dX5_best_16 (lv_at hl 4 rfl) ?_
    refine lv_iload_n hx hb dX5_best_18 rfl (lv_at hl 1 rfl) ?_
    refine call_VR (As := [.int (nI i), .int (nI e0)]) (rest := []) E rfl hK hP (c_X5_heardIn l g h a V X i e0 (by omega) (by omega)) ok_X5_heardIn rfl q3_186 [0] rfl (b_recv hK hP 0 0 rfl rfl rfl rfl) ⟨⟨rfl, rfl⟩, Nat.le_of_ble_eq_true rfl, Nat.le_of_ble_eq_true rfl⟩ hl.1 (Nat.le_of_ble_eq_true rfl) ⟨Nat.le_of_ble_eq_true rfl, Nat.le_of_ble_eq_true rfl⟩ rfl dX5_best_19 ?_
    refine lv_istore (lv' := [(5, .int (hrM V (X 4) i e0)), (0, .ref h), (1, .int (nI e0)), (2, .int ((bsM V (X 4) e0 i).1)), (3, .int ((bsM V (X 4) e0 i).2)), (4, .int (nI i))]) hx hb dX5_best_22 hl (by decide) rfl (fun ls hl => ?_)
    refine lv_iload hx hb dX5_best_24 (lv_at hl 0 rfl) ?_
    refine lv_iload_n hx hb dX5_best_26 rfl (lv_at hl 3 rfl) ?_
    refine lv_icmp_le (tgt := 35) hx hb dX5_best_27 (by decide) (fun h_2 => ?_) (fun h_2 => ?_)
    · have hle := h_2
      refine lv_iload hx hb dX5_best_35 (lv_at hl 0 rfl) ?_
      refine lv_iload_n hx hb dX5_best_37 rfl (lv_at hl 3 rfl) ?_
      refine lv_icmp_ne (tgt := 46) hx hb dX5_best_38 (by decide) (fun h_3 => ?_) (fun h_3 => ?_)
      · have heq := h_3
        refine lv_iload_n hx hb dX5_best_46 rfl (lv_at hl 4 rfl) ?_
        refine lv_istore_n (lv' := [(3, .int ((bsM V (X 4) e0 i).2)), (5, .int (hrM V (X 4) i e0)), (0, .ref h), (1, .int (nI e0)), (2, .int ((bsM V (X 4) e0 i).1)), (4, .int (nI i))]) hx hb dX5_best_47 rfl hl (by decide) rfl (fun ls hl => ?_)
        refine lv_iload hx hb dX5_best_48 (lv_at hl 1 rfl) ?_
        refine lv_iload_n hx hb dX5_best_50 rfl (lv_at hl 4 rfl) ?_
        refine lv_icmp_le (tgt := 59) hx hb dX5_best_51 (by decide) (fun h_4 => ?_) (fun h_4 => ?_)
        · refine lv_iload_n hx hb dX5_best_59 rfl (lv_at hl 4 rfl) ?_
          refine lv_istore_n (lv' := [(2, .int ((bsM V (X 4) e0 i).1)), (3, .int ((bsM V (X 4) e0 i).2)), (5, .int (hrM V (X 4) i e0)), (0, .ref h), (1, .int (nI e0)), (4, .int (nI i))]) hx hb dX5_best_60 rfl hl (by decide) rfl (fun ls hl => ?_)
          refine lv_iinc (v := nI (i + 1)) (lv' := [(4, .int (nI (i + 1))), (2, .int ((bsM V (X 4) e0 i).1)), (3, .int ((bsM V (X 4) e0 i).2)), (5, .int (hrM V (X 4) i e0)), (0, .ref h), (1, .int (nI e0))]) hx hb dX5_best_61 hl (k := 5) rfl (nI_add i 1) (by decide) rfl (fun ls hl => ?_)
          refine lv_goto (tgt := 8) hx hb dX5_best_64 (by decide) ?_
          have e_5 : (bsM V (X 4) e0 (i + 1)).1 = (bsM V (X 4) e0 i).1 := by rw [bsM]; first | (rw [if_pos hle, if_pos heq]; done) | (rw [if_pos hle, if_neg heq]; done) | (rw [if_neg hle]; done) | (rw [if_pos hle]; done)
          have e_6 : (bsM V (X 4) e0 (i + 1)).2 = (bsM V (X 4) e0 i).2 := by rw [bsM]; first | (rw [if_pos hle, if_pos heq]; done) | (rw [if_pos hle, if_neg heq]; done) | (rw [if_neg hle]; done) | (rw [if_pos hle]; done)
          exact ih_i (by omega)  _ (by rw [e_5, e_6]; exact lv_sub hl [4, 5, 1, 2, 0] rfl) 
        · exact absurd hle h_4
      · have heq := h_3
        refine lv_bipush (v := -5) hx hb dX5_best_41 (by decide) ?_
        refine lv_goto (tgt := 47) hx hb dX5_best_43 (by decide) ?_
        refine lv_istore_n (lv' := [(3, .int (-5)), (5, .int (hrM V (X 4) i e0)), (0, .ref h), (1, .int (nI e0)), (2, .int ((bsM V (X 4) e0 i).1)), (4, .int (nI i))]) hx hb dX5_best_47 rfl hl (by decide) rfl (fun ls hl => ?_)
        refine lv_iload hx hb dX5_best_48 (lv_at hl 1 rfl) ?_
        refine lv_iload_n hx hb dX5_best_50 rfl (lv_at hl 4 rfl) ?_
        refine lv_icmp_le (tgt := 59) hx hb dX5_best_51 (by decide) (fun h_7 => ?_) (fun h_7 => ?_)
        · refine lv_iload_n hx hb dX5_best_59 rfl (lv_at hl 4 rfl) ?_
          refine lv_istore_n (lv' := [(2, .int ((bsM V (X 4) e0 i).1)), (3, .int (-5)), (5, .int (hrM V (X 4) i e0)), (0, .ref h), (1, .int (nI e0)), (4, .int (nI i))]) hx hb dX5_best_60 rfl hl (by decide) rfl (fun ls hl => ?_)
          refine lv_iinc (v := nI (i + 1)) (lv' := [(4, .int (nI (i + 1))), (2, .int ((bsM V (X 4) e0 i).1)), (3, .int (-5)), (5, .int (hrM V (X 4) i e0)), (0, .ref h), (1, .int (nI e0))]) hx hb dX5_best_61 hl (k := 5) rfl (nI_add i 1) (by decide) rfl (fun ls hl => ?_)
          refine lv_goto (tgt := 8) hx hb dX5_best_64 (by decide) ?_
          have e_8 : (bsM V (X 4) e0 (i + 1)).1 = (bsM V (X 4) e0 i).1 := by rw [bsM]; first | (rw [if_pos hle, if_pos heq]; done) | (rw [if_pos hle, if_neg heq]; done) | (rw [if_neg hle]; done) | (rw [if_pos hle]; done)
          have e_9 : (bsM V (X 4) e0 (i + 1)).2 = -5 := by rw [bsM]; first | (rw [if_pos hle, if_pos heq]; done) | (rw [if_pos hle, if_neg heq]; done) | (rw [if_neg hle]; done) | (rw [if_pos hle]; done)
          exact ih_i (by omega)  _ (by rw [e_8, e_9]; exact lv_sub hl [4, 5, 1, 2, 0] rfl) 
        · exact absurd hle h_7
    · have hle := h_2
      refine lv_iload hx hb dX5_best_30 (lv_at hl 5 rfl) ?_
      refine lv_goto (tgt := 47) hx hb dX5_best_32 (by decide) ?_
      refine lv_istore_n (lv' := [(3, .int (nI i)), (5, .int (hrM V (X 4) i e0)), (0, .ref h), (1, .int (nI e0)), (2, .int ((bsM V (X 4) e0 i).1)), (4, .int (nI i))]) hx hb dX5_best_47 rfl hl (by decide) rfl (fun ls hl => ?_)
      refine lv_iload hx hb dX5_best_48 (lv_at hl 1 rfl) ?_
      refine lv_iload_n hx hb dX5_best_50 rfl (lv_at hl 4 rfl) ?_
      refine lv_icmp_le (tgt := 59) hx hb dX5_best_51 (by decide) (fun h_10 => ?_) (fun h_10 => ?_)
      · exact absurd h_10 hle
      · refine lv_iload hx hb dX5_best_54 (lv_at hl 1 rfl) ?_
        refine lv_goto (tgt := 60) hx hb dX5_best_56 (by decide) ?_
        refine lv_istore_n (lv' := [(2, .int (hrM V (X 4) i e0)), (3, .int (nI i)), (5, .int (hrM V (X 4) i e0)), (0, .ref h), (1, .int (nI e0)), (4, .int (nI i))]) hx hb dX5_best_60 rfl hl (by decide) rfl (fun ls hl => ?_)
        refine lv_iinc (v := nI (i + 1)) (lv' := [(4, .int (nI (i + 1))), (2, .int (hrM V (X 4) i e0)), (3, .int (nI i)), (5, .int (hrM V (X 4) i e0)), (0, .ref h), (1, .int (nI e0))]) hx hb dX5_best_61 hl (k := 5) rfl (nI_add i 1) (by decide) rfl (fun ls hl => ?_)
        refine lv_goto (tgt := 8) hx hb dX5_best_64 (by decide) ?_
        have e_11 : (bsM V (X 4) e0 (i + 1)).1 = hrM V (X 4) i e0 := by rw [bsM]; first | (rw [if_pos hle, if_pos heq]; done) | (rw [if_pos hle, if_neg heq]; done) | (rw [if_neg hle]; done) | (rw [if_pos hle]; done)
        have e_12 : (bsM V (X 4) e0 (i + 1)).2 = nI i := by rw [bsM]; first | (rw [if_pos hle, if_pos heq]; done) | (rw [if_pos hle, if_neg heq]; done) | (rw [if_neg hle]; done) | (rw [if_pos hle]; done)
        exact ih_i (by omega)  _ (by rw [e_11, e_12]; exact lv_sub hl [4, 5, 1, 2, 0] rfl) 
