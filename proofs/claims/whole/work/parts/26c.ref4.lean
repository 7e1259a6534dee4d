set_option maxHeartbeats 4000000 in
set_option maxRecDepth 100000 in
theorem c_X5_reason (l : Launch) (g : gx) (h : Nat) (a : Nat → Nat) (V X : sV) (t b : Nat) (c0 : Nat) (hc : V 3 t = nI c0) (hc5 : c0 ≤ 5) (ht : t < 6) (hb5 : b < 5) : cR l g yX5_reason cX5_reason 3 (some .int) ({ frames := 4, cells := 0, slots := 0, locals := 91 } : Room) [.ref h, .int (nI t), .int (nI b)] [mV g h a V X] (.int (rsM V t b c0)) := by
  refine cR.mk (by decide +kernel) (Nat.le_of_ble_eq_true rfl) ?_
  intro p e s m below meth c ls E hK hP hl
  obtain ⟨hx, hb, hr, hml, hts, hown, hlocks, hin⟩ := id E
  have hown : s.vm.findClass RX5 = some m.cls := hown
  have hl : lv_has ls 3 [(0, .ref h), (1, .int (nI t)), (2, .int (nI b))] := hl
  refine lv_aload_n hx hb dX5_reason_0 rfl (lv_at hl 0 rfl) ?_
  refine lv_iload_n hx hb dX5_reason_1 rfl (lv_at hl 1 rfl) ?_
  refine lv_bipush (v := 6) hx hb dX5_reason_2 (by decide) ?_
  refine call_VR (As := [.int (nI t), .int 6]) (rest := []) E rfl hK hP (c_X5_of_k l g h a V X t 6 (by omega) (by omega)) ok_X5_of rfl q3_94 [0] rfl (b_recv hK hP 0 0 rfl rfl rfl rfl) ⟨⟨rfl, rfl⟩, Nat.le_of_ble_eq_true rfl, Nat.le_of_ble_eq_true rfl⟩ hl.1 (Nat.le_of_ble_eq_true rfl) ⟨Nat.le_of_ble_eq_true rfl, Nat.le_of_ble_eq_true rfl⟩ rfl dX5_reason_4 ?_
  refine lv_if_le (tgt := 12) hx hb dX5_reason_7 (by decide) (fun h_1 => ?_) (fun h_1 => ?_)
  · refine lv_aload_n hx hb dX5_reason_12 rfl (lv_at hl 0 rfl) ?_
    refine lv_iload_n hx hb dX5_reason_13 rfl (lv_at hl 1 rfl) ?_
    refine lv_aload_n hx hb dX5_reason_14 rfl (lv_at hl 0 rfl) ?_
    refine lv_iload_n hx hb dX5_reason_15 rfl (lv_at hl 1 rfl) ?_
    refine lv_iconst (v := 4) hx hb dX5_reason_16 (by decide) ?_
    refine call_VR (As := [.int (nI t), .int 4]) (rest := [.int (nI t), .ref h]) E rfl hK hP (c_X5_of_k l g h a V X t 4 (by omega) (by omega)) ok_X5_of rfl q3_94 [0] rfl (b_recv hK hP 0 0 rfl rfl rfl rfl) ⟨⟨rfl, rfl⟩, Nat.le_of_ble_eq_true rfl, Nat.le_of_ble_eq_true rfl⟩ hl.1 (Nat.le_of_ble_eq_true rfl) ⟨Nat.le_of_ble_eq_true rfl, Nat.le_of_ble_eq_true rfl⟩ rfl dX5_reason_17 ?_
    refine call_VR (As := [.int (nI t), .int (V 4 t)]) (rest := []) E rfl hK hP (c_X5_wanted l g h a V X t (V 4 t) (by omega)) ok_X5_wanted rfl q3_166 [0] rfl (b_recv hK hP 0 0 rfl rfl rfl rfl) ⟨⟨rfl, rfl⟩, Nat.le_of_ble_eq_true rfl, Nat.le_of_ble_eq_true rfl⟩ hl.1 (Nat.le_of_ble_eq_true rfl) ⟨Nat.le_of_ble_eq_true rfl, Nat.le_of_ble_eq_true rfl⟩ rfl dX5_reason_20 ?_
    refine lv_iload_n hx hb dX5_reason_23 rfl (lv_at hl 2 rfl) ?_
    refine lv_ishr hx hb dX5_reason_24 ?_
    refine lv_iconst (v := 1) hx hb dX5_reason_25 (by decide) ?_
    refine lv_iand hx hb dX5_reason_26 ?_
    refine lv_if_ne (tgt := 32) hx hb dX5_reason_27 (by decide) (fun h_2 => ?_) (fun h_2 => ?_)
    · refine lv_aload_n hx hb dX5_reason_32 rfl (lv_at hl 0 rfl) ?_
      refine lv_iload_n hx hb dX5_reason_33 rfl (lv_at hl 1 rfl) ?_
      refine lv_bipush (v := 14) hx hb dX5_reason_34 (by decide) ?_
      refine lv_iload_n hx hb dX5_reason_36 rfl (lv_at hl 2 rfl) ?_
      refine lv_iadd hx hb dX5_reason_37 ?_
      refine b_top (y := nI (14 + b)) (nI_add 14 b) ?_
      refine call_VR (As := [.int (nI t), .int (nI (14 + b))]) (rest := []) E rfl hK hP (c_X5_of_10 l g h a V X t b (by omega) (by omega)) ok_X5_of rfl q3_94 [0] rfl (b_recv hK hP 0 0 rfl rfl rfl rfl) ⟨⟨rfl, rfl⟩, Nat.le_of_ble_eq_true rfl, Nat.le_of_ble_eq_true rfl⟩ hl.1 (Nat.le_of_ble_eq_true rfl) ⟨Nat.le_of_ble_eq_true rfl, Nat.le_of_ble_eq_true rfl⟩ rfl dX5_reason_38 ?_
      refine lv_bipush (v := 6) hx hb dX5_reason_41 (by decide) ?_
      refine lv_icmp_ne (tgt := 50) hx hb dX5_reason_43 (by decide) (fun h_3 => ?_) (fun h_3 => ?_)
      · refine lv_aload_n hx hb dX5_reason_50 rfl (lv_at hl 0 rfl) ?_
        refine lv_iload_n hx hb dX5_reason_51 rfl (lv_at hl 1 rfl) ?_
        refine lv_aload_n hx hb dX5_reason_52 rfl (lv_at hl 0 rfl) ?_
        refine lv_iload_n hx hb dX5_reason_53 rfl (lv_at hl 1 rfl) ?_
        refine lv_iconst (v := 4) hx hb dX5_reason_54 (by decide) ?_
        refine call_VR (As := [.int (nI t), .int 4]) (rest := [.int (nI t), .ref h]) E rfl hK hP (c_X5_of_k l g h a V X t 4 (by omega) (by omega)) ok_X5_of rfl q3_94 [0] rfl (b_recv hK hP 0 0 rfl rfl rfl rfl) ⟨⟨rfl, rfl⟩, Nat.le_of_ble_eq_true rfl, Nat.le_of_ble_eq_true rfl⟩ hl.1 (Nat.le_of_ble_eq_true rfl) ⟨Nat.le_of_ble_eq_true rfl, Nat.le_of_ble_eq_true rfl⟩ rfl dX5_reason_55 ?_
        refine call_VR (As := [.int (nI t), .int (V 4 t)]) (rest := []) E rfl hK hP (c_X5_rings l g h a V X t (V 4 t) c0 hc hc5 (by omega)) ok_X5_rings rfl q3_162 [0] rfl (b_recv hK hP 0 0 rfl rfl rfl rfl) ⟨⟨rfl, rfl⟩, Nat.le_of_ble_eq_true rfl, Nat.le_of_ble_eq_true rfl⟩ hl.1 (Nat.le_of_ble_eq_true rfl) ⟨Nat.le_of_ble_eq_true rfl, Nat.le_of_ble_eq_true rfl⟩ rfl dX5_reason_58 ?_
        refine lv_iload_n hx hb dX5_reason_61 rfl (lv_at hl 2 rfl) ?_
        refine lv_ishr hx hb dX5_reason_62 ?_
        refine lv_iconst (v := 1) hx hb dX5_reason_63 (by decide) ?_
        refine lv_iand hx hb dX5_reason_64 ?_
        refine lv_if_ne (tgt := 72) hx hb dX5_reason_65 (by decide) (fun h_4 => ?_) (fun h_4 => ?_)
        · refine lv_iconst (v := 0) hx hb dX5_reason_72 (by decide) ?_
          exact rI_ret hx hb hr hlocks dX5_reason_73 (by simp only [rsM]; simp only [h_1, h_2, h_3, h_4, not_true_eq_false, not_false_eq_true, ite_true, ite_false, reduceIte])
        · refine lv_iconst (v := 4) hx hb dX5_reason_68 (by decide) ?_
          refine lv_goto (tgt := 73) hx hb dX5_reason_69 (by decide) ?_
          exact rI_ret hx hb hr hlocks dX5_reason_73 (by simp only [rsM]; simp only [h_1, h_2, h_3, h_4, not_true_eq_false, not_false_eq_true, ite_true, ite_false, reduceIte])
      · refine lv_iconst (v := 3) hx hb dX5_reason_46 (by decide) ?_
        refine lv_goto (tgt := 73) hx hb dX5_reason_47 (by decide) ?_
        exact rI_ret hx hb hr hlocks dX5_reason_73 (by simp only [rsM]; simp only [h_1, h_2, h_3, not_true_eq_false, not_false_eq_true, ite_true, ite_false, reduceIte])
    · refine lv_iconst (v := 2) hx hb dX5_reason_30 (by decide) ?_
      exact rI_ret hx hb hr hlocks dX5_reason_31 (by simp only [rsM]; simp only [h_1, h_2, not_true_eq_false, not_false_eq_true, ite_true, ite_false, reduceIte])
  · refine lv_iconst (v := 1) hx hb dX5_reason_10 (by decide) ?_
    exact rI_ret hx hb hr hlocks dX5_reason_11 (by simp only [rsM]; simp only [h_1, not_true_eq_false, not_false_eq_true, ite_true, ite_false, reduceIte])

set_option maxHeartbeats 4000000 in
set_option maxRecDepth 100000 in
theorem c_X5_bell_o (l : Launch) (g : gx) (h : Nat) (a : Nat → Nat) (V X : sV) (x y w : Int32) (t b c0 : Nat) (hxy : hasB V x y → x = nI t ∧ t < 6 ∧ y = nI b ∧ b < 5) (hxt : isT x → x = nI t ∧ t < 6) (hc : t < 6 → V 3 t = nI c0 ∧ c0 ≤ 5) (hw : w.toInt < 0 ∨ 4 < w.toInt) : cR l g yX5_bell cX5_bell 4 (some .int) ({ frames := 3, cells := 0, slots := 0, locals := 64 } : Room) [.ref h, .int x, .int y, .int w] [mV g h a V X] (.int (if hasB V x y then -2 else -1)) := by
  refine cR.mk (by decide +kernel) (Nat.le_of_ble_eq_true rfl) ?_
  intro p e s m below meth c ls E hK hP hl
  obtain ⟨hx, hb, hr, hml, hts, hown, hlocks, hin⟩ := id E
  have hown : s.vm.findClass RX5 = some m.cls := hown
  have hl : lv_has ls 4 [(0, .ref h), (1, .int x), (2, .int y), (3, .int w)] := hl
  refine lv_aload_n hx hb dX5_bell_0 rfl (lv_at hl 0 rfl) ?_
  refine lv_iload_n hx hb dX5_bell_1 rfl (lv_at hl 1 rfl) ?_
  refine lv_iload_n hx hb dX5_bell_2 rfl (lv_at hl 2 rfl) ?_
  refine call_VR (As := [.int x, .int y]) (rest := []) E rfl hK hP (c_X5_isBell l g h a V X x y t c0 hxt hc) ok_X5_isBell rfl q3_102 [0] rfl (b_recv hK hP 0 0 rfl rfl rfl rfl) ⟨⟨rfl, rfl⟩, Nat.le_of_ble_eq_true rfl, Nat.le_of_ble_eq_true rfl⟩ hl.1 (Nat.le_of_ble_eq_true rfl) ⟨Nat.le_of_ble_eq_true rfl, Nat.le_of_ble_eq_true rfl⟩ rfl dX5_bell_3 ?_
  refine b_ne0 (tgt := 11) hx hb dX5_bell_6 (by decide) (fun h_1 => ?_) (fun h_1 => ?_)
  · have hHB := h_1
    obtain ⟨rfl, ht, rfl, hb5⟩ := hxy h_1
    obtain ⟨hc, hc5⟩ := hc ht
    refine lv_iload_n hx hb dX5_bell_11 rfl (lv_at hl 3 rfl) ?_
    refine lv_tableOut (tgt := 92) hx hb dX5_bell_12 hw (by decide) ?_
    refine lv_bipush (v := -2) hx hb dX5_bell_92 (by decide) ?_
    exact rI_ret hx hb hr hlocks dX5_bell_94 (by rw [if_pos hHB])
  · refine lv_iconst (v := -1) hx hb dX5_bell_9 (by decide) ?_
    exact rI_ret hx hb hr hlocks dX5_bell_10 (by rw [if_neg h_1])

set_option maxHeartbeats 4000000 in
set_option maxRecDepth 100000 in
theorem c_X5_bell_i (l : Launch) (g : gx) (h : Nat) (a : Nat → Nat) (V X : sV) (x y : Int32) (j t b c0 : Nat) (hxy : hasB V x y → x = nI t ∧ t < 6 ∧ y = nI b ∧ b < 5) (hxt : isT x → x = nI t ∧ t < 6) (hc : t < 6 → V 3 t = nI c0 ∧ c0 ≤ 5) (hj : j < 5) : cR l g yX5_bell cX5_bell 4 (some .int) ({ frames := 5, cells := 0, slots := 0, locals := 113 } : Room) [.ref h, .int x, .int y, .int (nI j)] [mV g h a V X] (.int (if hasB V x y then blM V t b c0 j else -1)) := by
  refine cR.mk (by decide +kernel) (Nat.le_of_ble_eq_true rfl) ?_
  intro p e s m below meth c ls E hK hP hl
  obtain ⟨hx, hb, hr, hml, hts, hown, hlocks, hin⟩ := id E
  have hown : s.vm.findClass RX5 = some m.cls := hown
  have hl : lv_has ls 4 [(0, .ref h), (1, .int x), (2, .int y), (3, .int (nI j))] := hl
  refine lv_aload_n hx hb dX5_bell_0 rfl (lv_at hl 0 rfl) ?_
  refine lv_iload_n hx hb dX5_bell_1 rfl (lv_at hl 1 rfl) ?_
  refine lv_iload_n hx hb dX5_bell_2 rfl (lv_at hl 2 rfl) ?_
  refine call_VR (As := [.int x, .int y]) (rest := []) E rfl hK hP (c_X5_isBell l g h a V X x y t c0 hxt hc) ok_X5_isBell rfl q3_102 [0] rfl (b_recv hK hP 0 0 rfl rfl rfl rfl) ⟨⟨rfl, rfl⟩, Nat.le_of_ble_eq_true rfl, Nat.le_of_ble_eq_true rfl⟩ hl.1 (Nat.le_of_ble_eq_true rfl) ⟨Nat.le_of_ble_eq_true rfl, Nat.le_of_ble_eq_true rfl⟩ rfl dX5_bell_3 ?_
  refine b_ne0 (tgt := 11) hx hb dX5_bell_6 (by decide) (fun h_1 => ?_) (fun h_1 => ?_)
  · have hHB := h_1
    obtain ⟨rfl, ht, rfl, hb5⟩ := hxy h_1
    obtain ⟨hc, hc5⟩ := hc ht
    refine lv_iload_n hx hb dX5_bell_11 rfl (lv_at hl 3 rfl) ?_
    rcases (show j = 0 ∨ j = 1 ∨ j = 2 ∨ j = 3 ∨ j = 4 by omega) with rfl | rfl | rfl | rfl | rfl
    · refine lv_tableIn (off := 36) (tgt := 48) hx hb dX5_bell_12 (by decide) (by decide) rfl (by decide) ?_
      refine lv_aload_n hx hb dX5_bell_48 rfl (lv_at hl 0 rfl) ?_
      refine lv_iload_n hx hb dX5_bell_49 rfl (lv_at hl 1 rfl) ?_
      refine lv_bipush (v := 9) hx hb dX5_bell_50 (by decide) ?_
      refine lv_iload_n hx hb dX5_bell_52 rfl (lv_at hl 2 rfl) ?_
      refine lv_iadd hx hb dX5_bell_53 ?_
      refine b_top (y := nI (9 + b)) (nI_add 9 b) ?_
      refine call_VR (As := [.int (nI t), .int (nI (9 + b))]) (rest := []) E rfl hK hP (c_X5_of_9 l g h a V X t b (by omega) (by omega)) ok_X5_of rfl q3_94 [0] rfl (b_recv hK hP 0 0 rfl rfl rfl rfl) ⟨⟨rfl, rfl⟩, Nat.le_of_ble_eq_true rfl, Nat.le_of_ble_eq_true rfl⟩ hl.1 (Nat.le_of_ble_eq_true rfl) ⟨Nat.le_of_ble_eq_true rfl, Nat.le_of_ble_eq_true rfl⟩ rfl dX5_bell_54 ?_
      exact rI_ret hx hb hr hlocks dX5_bell_57 (by rw [if_pos hHB]; rfl)
    · refine lv_tableIn (off := 46) (tgt := 58) hx hb dX5_bell_12 (by decide) (by decide) rfl (by decide) ?_
      refine lv_aload_n hx hb dX5_bell_58 rfl (lv_at hl 0 rfl) ?_
      refine lv_iload_n hx hb dX5_bell_59 rfl (lv_at hl 1 rfl) ?_
      refine lv_bipush (v := 14) hx hb dX5_bell_60 (by decide) ?_
      refine lv_iload_n hx hb dX5_bell_62 rfl (lv_at hl 2 rfl) ?_
      refine lv_iadd hx hb dX5_bell_63 ?_
      refine b_top (y := nI (14 + b)) (nI_add 14 b) ?_
      refine call_VR (As := [.int (nI t), .int (nI (14 + b))]) (rest := []) E rfl hK hP (c_X5_of_10 l g h a V X t b (by omega) (by omega)) ok_X5_of rfl q3_94 [0] rfl (b_recv hK hP 0 0 rfl rfl rfl rfl) ⟨⟨rfl, rfl⟩, Nat.le_of_ble_eq_true rfl, Nat.le_of_ble_eq_true rfl⟩ hl.1 (Nat.le_of_ble_eq_true rfl) ⟨Nat.le_of_ble_eq_true rfl, Nat.le_of_ble_eq_true rfl⟩ rfl dX5_bell_64 ?_
      exact rI_ret hx hb hr hlocks dX5_bell_67 (by rw [if_pos hHB]; rfl)
    · refine lv_tableIn (off := 56) (tgt := 68) hx hb dX5_bell_12 (by decide) (by decide) rfl (by decide) ?_
      refine lv_aload_n hx hb dX5_bell_68 rfl (lv_at hl 0 rfl) ?_
      refine lv_iload_n hx hb dX5_bell_69 rfl (lv_at hl 1 rfl) ?_
      refine lv_iload_n hx hb dX5_bell_70 rfl (lv_at hl 2 rfl) ?_
      refine call_VR (As := [.int (nI t), .int (nI b)]) (rest := []) E rfl hK hP (c_X5_takes l g h a V X t b (by omega) (by omega)) ok_X5_takes rfl q3_170 [0] rfl (b_recv hK hP 0 0 rfl rfl rfl rfl) ⟨⟨rfl, rfl⟩, Nat.le_of_ble_eq_true rfl, Nat.le_of_ble_eq_true rfl⟩ hl.1 (Nat.le_of_ble_eq_true rfl) ⟨Nat.le_of_ble_eq_true rfl, Nat.le_of_ble_eq_true rfl⟩ rfl dX5_bell_71 ?_
      exact rI_ret hx hb hr hlocks dX5_bell_74 (by rw [if_pos hHB]; rfl)
    · refine lv_tableIn (off := 63) (tgt := 75) hx hb dX5_bell_12 (by decide) (by decide) rfl (by decide) ?_
      refine lv_aload_n hx hb dX5_bell_75 rfl (lv_at hl 0 rfl) ?_
      refine lv_iload_n hx hb dX5_bell_76 rfl (lv_at hl 1 rfl) ?_
      refine lv_bipush (v := 19) hx hb dX5_bell_77 (by decide) ?_
      refine lv_iload_n hx hb dX5_bell_79 rfl (lv_at hl 2 rfl) ?_
      refine lv_iadd hx hb dX5_bell_80 ?_
      refine b_top (y := nI (19 + b)) (nI_add 19 b) ?_
      refine call_VR (As := [.int (nI t), .int (nI (19 + b))]) (rest := []) E rfl hK hP (c_X5_of_11 l g h a V X t b (by omega) (by omega)) ok_X5_of rfl q3_94 [0] rfl (b_recv hK hP 0 0 rfl rfl rfl rfl) ⟨⟨rfl, rfl⟩, Nat.le_of_ble_eq_true rfl, Nat.le_of_ble_eq_true rfl⟩ hl.1 (Nat.le_of_ble_eq_true rfl) ⟨Nat.le_of_ble_eq_true rfl, Nat.le_of_ble_eq_true rfl⟩ rfl dX5_bell_81 ?_
      exact rI_ret hx hb hr hlocks dX5_bell_84 (by rw [if_pos hHB]; rfl)
    · refine lv_tableIn (off := 73) (tgt := 85) hx hb dX5_bell_12 (by decide) (by decide) rfl (by decide) ?_
      refine lv_aload_n hx hb dX5_bell_85 rfl (lv_at hl 0 rfl) ?_
      refine lv_iload_n hx hb dX5_bell_86 rfl (lv_at hl 1 rfl) ?_
      refine lv_iload_n hx hb dX5_bell_87 rfl (lv_at hl 2 rfl) ?_
      refine call_VR (As := [.int (nI t), .int (nI b)]) (rest := []) E rfl hK hP (c_X5_reason l g h a V X t b c0 hc hc5 (by omega) (by omega)) ok_X5_reason rfl q3_234 [0] rfl (b_recv hK hP 0 0 rfl rfl rfl rfl) ⟨⟨rfl, rfl⟩, Nat.le_of_ble_eq_true rfl, Nat.le_of_ble_eq_true rfl⟩ hl.1 (Nat.le_of_ble_eq_true rfl) ⟨Nat.le_of_ble_eq_true rfl, Nat.le_of_ble_eq_true rfl⟩ rfl dX5_bell_88 ?_
      exact rI_ret hx hb hr hlocks dX5_bell_91 (by rw [if_pos hHB]; rfl)
  · refine lv_iconst (v := -1) hx hb dX5_bell_9 (by decide) ?_
    exact rI_ret hx hb hr hlocks dX5_bell_10 (by rw [if_neg h_1])
