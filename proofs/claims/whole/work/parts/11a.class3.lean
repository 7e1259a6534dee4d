set_option maxHeartbeats 4000000 in
set_option maxRecDepth 100000 in
theorem c_X2_signAt (l : Launch) (g : gx) (h a : Nat) (T : Nat → Nat) (n : Nat) (hn : n ≤ 60) (i : Nat) (hi : i < 1000)  : cR l g yX2_signAt cX2_signAt 2 (some .int) ({ frames := 0, cells := 0, slots := 0, locals := 0 } : Room) [.ref h, .int (nI i)] [tB g h a T n] (.int (nI (sg T n i))) := by
  refine cR.mk (by decide +kernel) (Nat.le_of_ble_eq_true rfl) ?_
  intro p e s m below meth c ls E hK hP hl
  obtain ⟨hx, hb, hr, hml, hts, hown, hlocks, hin⟩ := id E
  have hown : s.vm.findClass RX2 = some m.cls := hown
  have hl : lv_has ls 2 [(0, .ref h), (1, .int (nI i))] := hl
  refine lv_iload_n hx hb dX2_signAt_0 rfl (lv_at hl 1 rfl) ?_
  refine lv_if_lt (tgt := 27) hx hb dX2_signAt_1 (by decide) (fun h_1 => ?_) (fun h_1 => ?_)
  · exact absurd h_1 (nI_pos (by omega))
  · refine lv_iload_n hx hb dX2_signAt_4 rfl (lv_at hl 1 rfl) ?_
    refine lv_aload_n hx hb dX2_signAt_5 rfl (lv_at hl 0 rfl) ?_
    refine b_get (v := .int (nI n)) hx hb hts inX2 hown hK hP 0 0 1 rfl rfl rfl (by decide) q1_154 rfl rfl dX2_signAt_6 ?_
    refine b_ge (tgt := 27) (i) (n) hx hb rfl rfl (by omega) (by omega) dX2_signAt_9 (by decide) (fun h_2 => ?_) (fun h_2 => ?_)
    · refine lv_iconst (v := 0) hx hb dX2_signAt_27 (by decide) ?_
      exact rI_ret hx hb hr hlocks dX2_signAt_28 (by rw [sg]; first | rw [if_pos (by omega)] | (rw [if_neg (by omega)]; rfl))
    · refine lv_iload_n hx hb dX2_signAt_12 rfl (lv_at hl 1 rfl) ?_
      refine lv_bipush (v := 60) hx hb dX2_signAt_13 (by decide) ?_
      refine b_ge (tgt := 27) (i) (60) hx hb rfl rfl (by omega) (by omega) dX2_signAt_15 (by decide) (fun h_3 => ?_) (fun h_3 => ?_)
      · omega
      · refine lv_aload_n hx hb dX2_signAt_18 rfl (lv_at hl 0 rfl) ?_
        refine b_get (v := .ref a) hx hb hts inX2 hown hK hP 0 0 0 rfl rfl rfl (by decide) q1_153 rfl rfl dX2_signAt_19 ?_
        refine lv_iload_n hx hb dX2_signAt_22 rfl (lv_at hl 1 rfl) ?_
        refine b_cald (v := nI (T i)) hx hb hK hP 0 1 (i) rfl rfl rfl (by omega) rfl rfl dX2_signAt_23 ?_
        refine lv_goto (tgt := 28) hx hb dX2_signAt_24 (by decide) ?_
        exact rI_ret hx hb hr hlocks dX2_signAt_28 (by rw [sg]; first | rw [if_pos (by omega)] | (rw [if_neg (by omega)]; rfl))

set_option maxHeartbeats 4000000 in
set_option maxRecDepth 100000 in
theorem c_X2_digitAt (l : Launch) (g : gx) (h a : Nat) (T : Nat → Nat) (n : Nat) (hn : n ≤ 60) (i : Nat) (hi : i < 1000)  : cR l g yX2_digitAt cX2_digitAt 2 (some .int) ({ frames := 1, cells := 0, slots := 0, locals := 21 } : Room) [.ref h, .int (nI i)] [tB g h a T n] (.int (nI (sg T n i) - 48)) := by
  refine cR.mk (by decide +kernel) (Nat.le_of_ble_eq_true rfl) ?_
  intro p e s m below meth c ls E hK hP hl
  obtain ⟨hx, hb, hr, hml, hts, hown, hlocks, hin⟩ := id E
  have hown : s.vm.findClass RX2 = some m.cls := hown
  have hl : lv_has ls 2 [(0, .ref h), (1, .int (nI i))] := hl
  refine lv_aload_n hx hb dX2_digitAt_0 rfl (lv_at hl 0 rfl) ?_
  refine lv_iload_n hx hb dX2_digitAt_1 rfl (lv_at hl 1 rfl) ?_
  refine call_VR (As := [.int (nI i)]) (rest := []) E rfl hK hP (c_X2_signAt l g h a T n (by omega) i (by omega)) ok_X2_signAt rfl q2_134 [0] rfl (b_recv hK hP 0 0 rfl rfl rfl rfl) ⟨⟨rfl, rfl⟩, Nat.le_of_ble_eq_true rfl, Nat.le_of_ble_eq_true rfl⟩ hl.1 (Nat.le_of_ble_eq_true rfl) ⟨Nat.le_of_ble_eq_true rfl, Nat.le_of_ble_eq_true rfl⟩ rfl dX2_digitAt_2 ?_
  refine lv_bipush (v := 48) hx hb dX2_digitAt_5 (by decide) ?_
  refine lv_isub hx hb dX2_digitAt_7 ?_
  exact rI_ret hx hb hr hlocks dX2_digitAt_8 (rfl)

set_option maxHeartbeats 4000000 in
set_option maxRecDepth 100000 in
theorem c_X2_afterLetter (l : Launch) (g : gx) (c0 : Nat) (hc : c0 < 1000)  : cR l g yX2_afterLetter cX2_afterLetter 1 (some .int) ({ frames := 0, cells := 0, slots := 0, locals := 0 } : Room) [.int (nI c0)] [] (.int (oI (ltr c0))) := by
  refine cR.mk (by decide +kernel) (Nat.le_of_ble_eq_true rfl) ?_
  intro p e s m below meth c ls E hK hP hl
  obtain ⟨hx, hb, hr, hml, hts, hown, hlocks, hin⟩ := id E
  have hown : s.vm.findClass RX2 = some m.cls := hown
  have hl : lv_has ls 1 [(0, .int (nI c0))] := hl
  refine lv_iload_n hx hb dX2_afterLetter_0 rfl (lv_at hl 0 rfl) ?_
  rcases (show c0 = 112 ∨ c0 = 113 ∨ c0 = 114 ∨ c0 = 115 ∨ c0 = 116 ∨ (c0 < 112 ∨ 116 < c0) by omega) with hsw | hsw | hsw | hsw | hsw | hsw
  · obtain rfl := hsw
    refine lv_tableIn (off := 35) (tgt := 36) hx hb dX2_afterLetter_1 (by decide) (by decide) rfl (by decide) ?_
    refine lv_iconst (v := 1) hx hb dX2_afterLetter_36 (by decide) ?_
    exact rI_ret hx hb hr hlocks dX2_afterLetter_37 (rfl)
  · obtain rfl := hsw
    refine lv_tableIn (off := 41) (tgt := 42) hx hb dX2_afterLetter_1 (by decide) (by decide) rfl (by decide) ?_
    refine lv_iconst (v := -1) hx hb dX2_afterLetter_42 (by decide) ?_
    exact rI_ret hx hb hr hlocks dX2_afterLetter_43 (by first | rfl | (rw [ltr, if_neg (by omega), if_neg (by omega), if_neg (by omega)]; rfl))
  · obtain rfl := hsw
    refine lv_tableIn (off := 41) (tgt := 42) hx hb dX2_afterLetter_1 (by decide) (by decide) rfl (by decide) ?_
    refine lv_iconst (v := -1) hx hb dX2_afterLetter_42 (by decide) ?_
    exact rI_ret hx hb hr hlocks dX2_afterLetter_43 (by first | rfl | (rw [ltr, if_neg (by omega), if_neg (by omega), if_neg (by omega)]; rfl))
  · obtain rfl := hsw
    refine lv_tableIn (off := 37) (tgt := 38) hx hb dX2_afterLetter_1 (by decide) (by decide) rfl (by decide) ?_
    refine lv_iconst (v := 2) hx hb dX2_afterLetter_38 (by decide) ?_
    exact rI_ret hx hb hr hlocks dX2_afterLetter_39 (rfl)
  · obtain rfl := hsw
    refine lv_tableIn (off := 39) (tgt := 40) hx hb dX2_afterLetter_1 (by decide) (by decide) rfl (by decide) ?_
    refine lv_iconst (v := 4) hx hb dX2_afterLetter_40 (by decide) ?_
    exact rI_ret hx hb hr hlocks dX2_afterLetter_41 (rfl)
  · refine lv_tableOut (tgt := 42) hx hb dX2_afterLetter_1 (by rw [nI_toInt (by omega)]; omega) (by decide) ?_
    refine lv_iconst (v := -1) hx hb dX2_afterLetter_42 (by decide) ?_
    exact rI_ret hx hb hr hlocks dX2_afterLetter_43 (by first | rfl | (rw [ltr, if_neg (by omega), if_neg (by omega), if_neg (by omega)]; rfl))

set_option maxHeartbeats 4000000 in
set_option maxRecDepth 100000 in
theorem c_X2_isDigit (l : Launch) (g : gx) (c0 p1 p2 : Nat) (hc : c0 < 1000) (h1 : p1 < 100) (h2 : p2 < 100)  : cR l g yX2_isDigit cX2_isDigit 3 (some .boolean) ({ frames := 0, cells := 0, slots := 0, locals := 0 } : Room) [.int (nI c0), .int (nI p1), .int (nI p2)] [] (.int (bI (48 + p1 ≤ c0 ∧ c0 ≤ 48 + p2))) := by
  refine cR.mk (by decide +kernel) (Nat.le_of_ble_eq_true rfl) ?_
  intro p e s m below meth c ls E hK hP hl
  obtain ⟨hx, hb, hr, hml, hts, hown, hlocks, hin⟩ := id E
  have hown : s.vm.findClass RX2 = some m.cls := hown
  have hl : lv_has ls 3 [(0, .int (nI c0)), (1, .int (nI p1)), (2, .int (nI p2))] := hl
  refine lv_iload_n hx hb dX2_isDigit_0 rfl (lv_at hl 0 rfl) ?_
  refine lv_bipush (v := 48) hx hb dX2_isDigit_1 (by decide) ?_
  refine lv_iload_n hx hb dX2_isDigit_3 rfl (lv_at hl 1 rfl) ?_
  refine lv_iadd hx hb dX2_isDigit_4 ?_
  refine b_top (y := nI (48 + p1)) (nI_add 48 p1) ?_
  refine b_lt (tgt := 20) (c0) (48 + p1) hx hb rfl rfl (by omega) (by omega) dX2_isDigit_5 (by decide) (fun h_1 => ?_) (fun h_1 => ?_)
  · refine lv_iconst (v := 0) hx hb dX2_isDigit_20 (by decide) ?_
    exact rZ_ret hx hb hr hlocks dX2_isDigit_21 (by first | exact bI_t (by omega) | exact bI_f (by omega))
  · refine lv_iload_n hx hb dX2_isDigit_8 rfl (lv_at hl 0 rfl) ?_
    refine lv_bipush (v := 48) hx hb dX2_isDigit_9 (by decide) ?_
    refine lv_iload_n hx hb dX2_isDigit_11 rfl (lv_at hl 2 rfl) ?_
    refine lv_iadd hx hb dX2_isDigit_12 ?_
    refine b_top (y := nI (48 + p2)) (nI_add 48 p2) ?_
    refine b_gt (tgt := 20) (c0) (48 + p2) hx hb rfl rfl (by omega) (by omega) dX2_isDigit_13 (by decide) (fun h_2 => ?_) (fun h_2 => ?_)
    · refine lv_iconst (v := 0) hx hb dX2_isDigit_20 (by decide) ?_
      exact rZ_ret hx hb hr hlocks dX2_isDigit_21 (by first | exact bI_t (by omega) | exact bI_f (by omega))
    · refine lv_iconst (v := 1) hx hb dX2_isDigit_16 (by decide) ?_
      refine lv_goto (tgt := 21) hx hb dX2_isDigit_17 (by decide) ?_
      exact rZ_ret hx hb hr hlocks dX2_isDigit_21 (by first | exact bI_t (by omega) | exact bI_f (by omega))

set_option maxHeartbeats 4000000 in
set_option maxRecDepth 100000 in
theorem c_X2_afterBells (l : Launch) (g : gx) (k c0 : Nat) (hc : c0 < 1000) (hk : k ≤ 5)  : cR l g yX2_afterBells cX2_afterBells 2 (some .int) ({ frames := 1, cells := 0, slots := 0, locals := 22 } : Room) [.int (nI k), .int (nI c0)] [] (.int (oI (ab k c0))) := by
  refine cR.mk (by decide +kernel) (Nat.le_of_ble_eq_true rfl) ?_
  intro p e s m below meth c ls E hK hP hl
  obtain ⟨hx, hb, hr, hml, hts, hown, hlocks, hin⟩ := id E
  have hown : s.vm.findClass RX2 = some m.cls := hown
  have hl : lv_has ls 2 [(0, .int (nI k)), (1, .int (nI c0))] := hl
  refine lv_iload_n hx hb dX2_afterBells_0 rfl (lv_at hl 1 rfl) ?_
  refine lv_bipush (v := 59) hx hb dX2_afterBells_1 (by decide) ?_
  refine b_ne (tgt := 8) (c0) (59) hx hb rfl rfl (by omega) (by omega) dX2_afterBells_3 (by decide) (fun h_1 => ?_) (fun h_1 => ?_)
  · refine lv_iload_n hx hb dX2_afterBells_8 rfl (lv_at hl 1 rfl) ?_
    refine lv_iload_n hx hb dX2_afterBells_9 rfl (lv_at hl 0 rfl) ?_
    refine lv_iconst (v := 4) hx hb dX2_afterBells_10 (by decide) ?_
    refine call_SR (As := [.int (nI c0), .int (nI k), .int 4]) (rest := []) E rfl hK hP (c_X2_isDigit l g c0 k 4 (by omega) (by omega) (by omega)) ok_X2_isDigit rfl q2_144 [] rfl ⟨⟨rfl, rfl⟩, Nat.le_of_ble_eq_true rfl, Nat.le_of_ble_eq_true rfl⟩ hl.1 (Nat.le_of_ble_eq_true rfl) ⟨Nat.le_of_ble_eq_true rfl, Nat.le_of_ble_eq_true rfl⟩ rfl dX2_afterBells_11 ?_
    refine b_eq0 (tgt := 26) hx hb dX2_afterBells_14 (by decide) (fun h_2 => ?_) (fun h_2 => ?_)
    · refine lv_iconst (v := -1) hx hb dX2_afterBells_26 (by decide) ?_
      exact rI_ret hx hb hr hlocks dX2_afterBells_27 (by rw [ab, if_neg h_1, if_neg h_2]; rfl)
    · refine lv_iconst (v := 5) hx hb dX2_afterBells_17 (by decide) ?_
      refine lv_iload_n hx hb dX2_afterBells_18 rfl (lv_at hl 1 rfl) ?_
      refine lv_bipush (v := 48) hx hb dX2_afterBells_19 (by decide) ?_
      refine lv_isub hx hb dX2_afterBells_21 ?_
      refine b_top (y := nI (c0 - 48)) (pk_sub (a := c0) (b := 48) (by omega)) ?_
      refine lv_iadd hx hb dX2_afterBells_22 ?_
      refine b_top (y := nI (5 + (c0 - 48))) (nI_add 5 (c0 - 48)) ?_
      refine lv_iconst (v := 1) hx hb dX2_afterBells_23 (by decide) ?_
      refine lv_iadd hx hb dX2_afterBells_24 ?_
      refine b_top (y := nI ((5 + (c0 - 48)) + 1)) (nI_add (5 + (c0 - 48)) 1) ?_
      exact rI_ret hx hb hr hlocks dX2_afterBells_25 (by rw [ab, if_neg h_1, if_pos h_2]; rfl)
  · refine lv_iconst (v := 0) hx hb dX2_afterBells_6 (by decide) ?_
    exact rI_ret hx hb hr hlocks dX2_afterBells_7 (by rw [ab, if_pos h_1]; rfl)
