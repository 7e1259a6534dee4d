set_option maxHeartbeats 4000000 in
set_option maxRecDepth 100000 in
theorem c_X2_after (l : Launch) (g : gx) (d c0 : Nat) (hd : d ≤ 10) (hc : c0 < 1000)  : cR l g yX2_after cX2_after 2 (some .int) ({ frames := 2, cells := 0, slots := 0, locals := 43 } : Room) [.int (nI d), .int (nI c0)] [] (.int (oI (stp d c0))) := by
  refine cR.mk (by decide +kernel) (Nat.le_of_ble_eq_true rfl) ?_
  intro p e s m below meth c ls E hK hP hl
  obtain ⟨hx, hb, hr, hml, hts, hown, hlocks, hin⟩ := id E
  have hown : s.vm.findClass RX2 = some m.cls := hown
  have hl : lv_has ls 2 [(0, .int (nI d)), (1, .int (nI c0))] := hl
  refine lv_iload_n hx hb dX2_after_0 rfl (lv_at hl 0 rfl) ?_
  rcases (show d = 0 ∨ d = 1 ∨ d = 2 ∨ d = 3 ∨ d = 4 ∨ 5 ≤ d by omega) with hsw | hsw | hsw | hsw | hsw | hsw
  · obtain rfl := hsw
    refine lv_tableIn (off := 35) (tgt := 36) hx hb dX2_after_1 (by decide) (by decide) rfl (by decide) ?_
    refine lv_iload_n hx hb dX2_after_36 rfl (lv_at hl 1 rfl) ?_
    refine call_SR (As := [.int (nI c0)]) (rest := []) E rfl hK hP (c_X2_afterLetter l g c0 (by omega)) ok_X2_afterLetter rfl q2_141 [] rfl ⟨⟨rfl, rfl⟩, Nat.le_of_ble_eq_true rfl, Nat.le_of_ble_eq_true rfl⟩ hl.1 (Nat.le_of_ble_eq_true rfl) ⟨Nat.le_of_ble_eq_true rfl, Nat.le_of_ble_eq_true rfl⟩ rfl dX2_after_37 ?_
    exact rI_ret hx hb hr hlocks dX2_after_40 (rfl)
  · obtain rfl := hsw
    refine lv_tableIn (off := 40) (tgt := 41) hx hb dX2_after_1 (by decide) (by decide) rfl (by decide) ?_
    refine lv_iload_n hx hb dX2_after_41 rfl (lv_at hl 1 rfl) ?_
    refine lv_iconst (v := 0) hx hb dX2_after_42 (by decide) ?_
    refine lv_iconst (v := 5) hx hb dX2_after_43 (by decide) ?_
    refine call_SR (As := [.int (nI c0), .int 0, .int 5]) (rest := []) E rfl hK hP (c_X2_isDigit l g c0 0 5 (by omega) (by omega) (by omega)) ok_X2_isDigit rfl q2_144 [] rfl ⟨⟨rfl, rfl⟩, Nat.le_of_ble_eq_true rfl, Nat.le_of_ble_eq_true rfl⟩ hl.1 (Nat.le_of_ble_eq_true rfl) ⟨Nat.le_of_ble_eq_true rfl, Nat.le_of_ble_eq_true rfl⟩ rfl dX2_after_44 ?_
    refine b_eq0 (tgt := 54) hx hb dX2_after_47 (by decide) (fun h_1 => ?_) (fun h_1 => ?_)
    · refine lv_iconst (v := -1) hx hb dX2_after_54 (by decide) ?_
      exact rI_ret hx hb hr hlocks dX2_after_55 (by first | rfl | (rw [stp, if_pos h_1]; rfl) | (rw [stp, if_neg h_1]; rfl))
    · refine lv_iconst (v := 5) hx hb dX2_after_50 (by decide) ?_
      refine lv_goto (tgt := 55) hx hb dX2_after_51 (by decide) ?_
      exact rI_ret hx hb hr hlocks dX2_after_55 (by first | rfl | (rw [stp, if_pos h_1]; rfl) | (rw [stp, if_neg h_1]; rfl))
  · obtain rfl := hsw
    refine lv_tableIn (off := 55) (tgt := 56) hx hb dX2_after_1 (by decide) (by decide) rfl (by decide) ?_
    refine lv_iload_n hx hb dX2_after_56 rfl (lv_at hl 1 rfl) ?_
    refine lv_iconst (v := 0) hx hb dX2_after_57 (by decide) ?_
    refine lv_iconst (v := 5) hx hb dX2_after_58 (by decide) ?_
    refine call_SR (As := [.int (nI c0), .int 0, .int 5]) (rest := []) E rfl hK hP (c_X2_isDigit l g c0 0 5 (by omega) (by omega) (by omega)) ok_X2_isDigit rfl q2_144 [] rfl ⟨⟨rfl, rfl⟩, Nat.le_of_ble_eq_true rfl, Nat.le_of_ble_eq_true rfl⟩ hl.1 (Nat.le_of_ble_eq_true rfl) ⟨Nat.le_of_ble_eq_true rfl, Nat.le_of_ble_eq_true rfl⟩ rfl dX2_after_59 ?_
    refine b_eq0 (tgt := 69) hx hb dX2_after_62 (by decide) (fun h_2 => ?_) (fun h_2 => ?_)
    · refine lv_iconst (v := -1) hx hb dX2_after_69 (by decide) ?_
      exact rI_ret hx hb hr hlocks dX2_after_70 (by first | rfl | (rw [stp, if_pos h_2]; rfl) | (rw [stp, if_neg h_2]; rfl))
    · refine lv_iconst (v := 3) hx hb dX2_after_65 (by decide) ?_
      refine lv_goto (tgt := 70) hx hb dX2_after_66 (by decide) ?_
      exact rI_ret hx hb hr hlocks dX2_after_70 (by first | rfl | (rw [stp, if_pos h_2]; rfl) | (rw [stp, if_neg h_2]; rfl))
  · obtain rfl := hsw
    refine lv_tableIn (off := 70) (tgt := 71) hx hb dX2_after_1 (by decide) (by decide) rfl (by decide) ?_
    refine lv_iload_n hx hb dX2_after_71 rfl (lv_at hl 1 rfl) ?_
    refine lv_iconst (v := 0) hx hb dX2_after_72 (by decide) ?_
    refine lv_iconst (v := 4) hx hb dX2_after_73 (by decide) ?_
    refine call_SR (As := [.int (nI c0), .int 0, .int 4]) (rest := []) E rfl hK hP (c_X2_isDigit l g c0 0 4 (by omega) (by omega) (by omega)) ok_X2_isDigit rfl q2_144 [] rfl ⟨⟨rfl, rfl⟩, Nat.le_of_ble_eq_true rfl, Nat.le_of_ble_eq_true rfl⟩ hl.1 (Nat.le_of_ble_eq_true rfl) ⟨Nat.le_of_ble_eq_true rfl, Nat.le_of_ble_eq_true rfl⟩ rfl dX2_after_74 ?_
    refine b_eq0 (tgt := 85) hx hb dX2_after_77 (by decide) (fun h_3 => ?_) (fun h_3 => ?_)
    · refine lv_iconst (v := -1) hx hb dX2_after_85 (by decide) ?_
      exact rI_ret hx hb hr hlocks dX2_after_86 (by first | rfl | (rw [stp, if_pos h_3]; rfl) | (rw [stp, if_neg h_3]; rfl))
    · refine lv_bipush (v := 10) hx hb dX2_after_80 (by decide) ?_
      refine lv_goto (tgt := 86) hx hb dX2_after_82 (by decide) ?_
      exact rI_ret hx hb hr hlocks dX2_after_86 (by first | rfl | (rw [stp, if_pos h_3]; rfl) | (rw [stp, if_neg h_3]; rfl))
  · obtain rfl := hsw
    refine lv_tableIn (off := 86) (tgt := 87) hx hb dX2_after_1 (by decide) (by decide) rfl (by decide) ?_
    refine lv_iload_n hx hb dX2_after_87 rfl (lv_at hl 1 rfl) ?_
    refine lv_iconst (v := 1) hx hb dX2_after_88 (by decide) ?_
    refine lv_bipush (v := 9) hx hb dX2_after_89 (by decide) ?_
    refine call_SR (As := [.int (nI c0), .int 1, .int 9]) (rest := []) E rfl hK hP (c_X2_isDigit l g c0 1 9 (by omega) (by omega) (by omega)) ok_X2_isDigit rfl q2_144 [] rfl ⟨⟨rfl, rfl⟩, Nat.le_of_ble_eq_true rfl, Nat.le_of_ble_eq_true rfl⟩ hl.1 (Nat.le_of_ble_eq_true rfl) ⟨Nat.le_of_ble_eq_true rfl, Nat.le_of_ble_eq_true rfl⟩ rfl dX2_after_91 ?_
    refine b_eq0 (tgt := 102) hx hb dX2_after_94 (by decide) (fun h_4 => ?_) (fun h_4 => ?_)
    · refine lv_iconst (v := -1) hx hb dX2_after_102 (by decide) ?_
      exact rI_ret hx hb hr hlocks dX2_after_103 (by first | rfl | (rw [stp, if_pos h_4]; rfl) | (rw [stp, if_neg h_4]; rfl))
    · refine lv_bipush (v := 10) hx hb dX2_after_97 (by decide) ?_
      refine lv_goto (tgt := 103) hx hb dX2_after_99 (by decide) ?_
      exact rI_ret hx hb hr hlocks dX2_after_103 (by first | rfl | (rw [stp, if_pos h_4]; rfl) | (rw [stp, if_neg h_4]; rfl))
  · refine lv_tableOut (tgt := 104) hx hb dX2_after_1 (by rw [nI_toInt (by omega)]; omega) (by decide) ?_
    refine lv_iload_n hx hb dX2_after_104 rfl (lv_at hl 0 rfl) ?_
    refine lv_iconst (v := 5) hx hb dX2_after_105 (by decide) ?_
    refine lv_isub hx hb dX2_after_106 ?_
    refine b_top (y := nI (d - 5)) (pk_sub (a := d) (b := 5) (by omega)) ?_
    refine lv_iload_n hx hb dX2_after_107 rfl (lv_at hl 1 rfl) ?_
    refine call_SR (As := [.int (nI (d - 5)), .int (nI c0)]) (rest := []) E rfl hK hP (c_X2_afterBells l g (d - 5) c0 (by omega) (by omega)) ok_X2_afterBells rfl q2_147 [] rfl ⟨⟨rfl, rfl⟩, Nat.le_of_ble_eq_true rfl, Nat.le_of_ble_eq_true rfl⟩ hl.1 (Nat.le_of_ble_eq_true rfl) ⟨Nat.le_of_ble_eq_true rfl, Nat.le_of_ble_eq_true rfl⟩ rfl dX2_after_108 ?_
    exact rI_ret hx hb hr hlocks dX2_after_111 (by rw [stp_ge (by omega)])

set_option maxHeartbeats 4000000 in
set_option maxRecDepth 100000 in
theorem c_X2_beginsOrder (l : Launch) (g : gx) (h a : Nat) (T : Nat → Nat) (n : Nat) (hn : n ≤ 60) (hT : ∀ i, T i < 127) (i : Nat) (hi : i < 1000)  : cR l g yX2_beginsOrder cX2_beginsOrder 2 (some .boolean) ({ frames := 1, cells := 0, slots := 0, locals := 21 } : Room) [.ref h, .int (nI i)] [tB g h a T n] (.int (bI (¬ oI (ltr (sg T n i)) = -1))) := by
  refine cR.mk (by decide +kernel) (Nat.le_of_ble_eq_true rfl) ?_
  intro p e s m below meth c ls E hK hP hl
  obtain ⟨hx, hb, hr, hml, hts, hown, hlocks, hin⟩ := id E
  have hown : s.vm.findClass RX2 = some m.cls := hown
  have hl : lv_has ls 2 [(0, .ref h), (1, .int (nI i))] := hl
  have hsg := sg_lt (n := n) hT i
  refine lv_aload_n hx hb dX2_beginsOrder_0 rfl (lv_at hl 0 rfl) ?_
  refine lv_iload_n hx hb dX2_beginsOrder_1 rfl (lv_at hl 1 rfl) ?_
  refine call_VR (As := [.int (nI i)]) (rest := []) E rfl hK hP (c_X2_signAt l g h a T n (by omega) i (by omega)) ok_X2_signAt rfl q2_134 [0] rfl (b_recv hK hP 0 0 rfl rfl rfl rfl) ⟨⟨rfl, rfl⟩, Nat.le_of_ble_eq_true rfl, Nat.le_of_ble_eq_true rfl⟩ hl.1 (Nat.le_of_ble_eq_true rfl) ⟨Nat.le_of_ble_eq_true rfl, Nat.le_of_ble_eq_true rfl⟩ rfl dX2_beginsOrder_2 ?_
  refine call_SR (As := [.int (nI (sg T n i))]) (rest := []) E rfl hK hP (c_X2_afterLetter l g (sg T n i) (by omega)) ok_X2_afterLetter rfl q2_141 [] rfl ⟨⟨rfl, rfl⟩, Nat.le_of_ble_eq_true rfl, Nat.le_of_ble_eq_true rfl⟩ hl.1 (Nat.le_of_ble_eq_true rfl) ⟨Nat.le_of_ble_eq_true rfl, Nat.le_of_ble_eq_true rfl⟩ rfl dX2_beginsOrder_5 ?_
  refine lv_iconst (v := -1) hx hb dX2_beginsOrder_8 (by decide) ?_
  refine lv_icmp_eq (tgt := 16) hx hb dX2_beginsOrder_9 (by decide) (fun h_1 => ?_) (fun h_1 => ?_)
  · refine lv_iconst (v := 0) hx hb dX2_beginsOrder_16 (by decide) ?_
    exact rZ_ret hx hb hr hlocks dX2_beginsOrder_17 (by first | exact bI_t h_1 | exact bI_f (fun q => q h_1))
  · refine lv_iconst (v := 1) hx hb dX2_beginsOrder_12 (by decide) ?_
    refine lv_goto (tgt := 17) hx hb dX2_beginsOrder_13 (by decide) ?_
    exact rZ_ret hx hb hr hlocks dX2_beginsOrder_17 (by first | exact bI_t h_1 | exact bI_f (fun q => q h_1))

set_option maxHeartbeats 4000000 in
set_option maxRecDepth 100000 in
theorem c_X2_bellsFrom (l : Launch) (g : gx) (h a : Nat) (T : Nat → Nat) (n : Nat) (hn : n ≤ 60) (hT : ∀ i, T i < 127) (i0 : Nat) (hi : i0 < 500)  : cR l g yX2_bellsFrom cX2_bellsFrom 4 (some .int) ({ frames := 2, cells := 0, slots := 0, locals := 42 } : Room) [.ref h, .int (nI i0)] [tB g h a T n] (.int (bfN T n (n - i0) i0 0)) := by
  refine cR.mk (by decide +kernel) (Nat.le_of_ble_eq_true rfl) ?_
  intro p e s m below meth c ls E hK hP hl
  obtain ⟨hx, hb, hr, hml, hts, hown, hlocks, hin⟩ := id E
  have hown : s.vm.findClass RX2 = some m.cls := hown
  have hl : lv_has ls 4 [(0, .ref h), (1, .int (nI i0))] := hl
  refine lv_iconst (v := 0) hx hb dX2_bellsFrom_0 (by decide) ?_
  refine lv_istore_n (lv' := [(2, .int 0), (0, .ref h), (1, .int (nI i0))]) hx hb dX2_bellsFrom_1 rfl hl (by decide) rfl (fun ls hl => ?_)
  refine lv_iload_n hx hb dX2_bellsFrom_2 rfl (lv_at hl 2 rfl) ?_
  refine lv_istore_n (lv' := [(3, .int (nI i0)), (2, .int 0), (0, .ref h), (1, .int (nI i0))]) hx hb dX2_bellsFrom_3 rfl hl (by decide) rfl (fun ls hl => ?_)
  refine loopN (fun k : Nat => ∀ acc : Int32, ∀ ls : Array Slot, lv_has ls 4 [(0, .ref h), (1, .int (nI i0)), (2, .int acc), (3, .int (nI (i0 + k)))] → (bfN T n (n - i0 - k) (i0 + k) acc = bfN T n (n - i0) i0 0) → W p l e _ s m _ below meth c s.heap [] 0 0 _ (F0 m 4 ls [])) (n - i0) (fun k hi ih_k => ?_) (0) (by omega) (0) ls (lv_sub hl [2, 3, 1, 0] rfl) (rfl)
  intro acc ls hl hacc
  have hsg := sg_lt (n := n) hT (i0 + k)
  refine lv_iload_n hx hb dX2_bellsFrom_4 rfl (lv_at hl 3 rfl) ?_
  refine lv_aload_n hx hb dX2_bellsFrom_5 rfl (lv_at hl 0 rfl) ?_
  refine b_get (v := .int (nI n)) hx hb hts inX2 hown hK hP 0 0 1 rfl rfl rfl (by decide) q1_154 rfl rfl dX2_bellsFrom_6 ?_
  refine b_ge (tgt := 38) (i0 + k) (n) hx hb rfl rfl (by omega) (by omega) dX2_bellsFrom_9 (by decide) (fun h_1 => ?_) (fun h_1 => ?_)
  · refine lv_iload_n hx hb dX2_bellsFrom_38 rfl (lv_at hl 2 rfl) ?_
    exact rI_ret hx hb hr hlocks dX2_bellsFrom_39 (by rw [← hacc]; first | (rw [show n - i0 - k = 0 by omega]; rfl) | (rw [show n - i0 - k = (n - i0 - (k + 1)) + 1 by omega, bfN, if_pos h_1]))
  · refine lv_aload_n hx hb dX2_bellsFrom_12 rfl (lv_at hl 0 rfl) ?_
    refine lv_iload_n hx hb dX2_bellsFrom_13 rfl (lv_at hl 3 rfl) ?_
    refine call_VR (As := [.int (nI (i0 + k))]) (rest := []) E rfl hK hP (c_X2_signAt l g h a T n (by omega) (i0 + k) (by omega)) ok_X2_signAt rfl q2_134 [0] rfl (b_recv hK hP 0 0 rfl rfl rfl rfl) ⟨⟨rfl, rfl⟩, Nat.le_of_ble_eq_true rfl, Nat.le_of_ble_eq_true rfl⟩ hl.1 (Nat.le_of_ble_eq_true rfl) ⟨Nat.le_of_ble_eq_true rfl, Nat.le_of_ble_eq_true rfl⟩ rfl dX2_bellsFrom_14 ?_
    refine lv_bipush (v := 59) hx hb dX2_bellsFrom_17 (by decide) ?_
    refine b_eq (tgt := 38) (sg T n (i0 + k)) (59) hx hb rfl rfl (by omega) (by omega) dX2_bellsFrom_19 (by decide) (fun h_2 => ?_) (fun h_2 => ?_)
    · refine lv_iload_n hx hb dX2_bellsFrom_38 rfl (lv_at hl 2 rfl) ?_
      exact rI_ret hx hb hr hlocks dX2_bellsFrom_39 (by rw [← hacc]; first | (rw [show n - i0 - k = 0 by omega]; rfl) | (rw [show n - i0 - k = (n - i0 - (k + 1)) + 1 by omega, bfN, if_pos h_2]))
    · refine lv_iload_n hx hb dX2_bellsFrom_22 rfl (lv_at hl 2 rfl) ?_
      refine lv_iconst (v := 1) hx hb dX2_bellsFrom_23 (by decide) ?_
      refine lv_aload_n hx hb dX2_bellsFrom_24 rfl (lv_at hl 0 rfl) ?_
      refine lv_iload_n hx hb dX2_bellsFrom_25 rfl (lv_at hl 3 rfl) ?_
      refine call_VR (As := [.int (nI (i0 + k))]) (rest := [.int 1, .int acc]) E rfl hK hP (c_X2_digitAt l g h a T n (by omega) (i0 + k) (by omega)) ok_X2_digitAt rfl q2_171 [0] rfl (b_recv hK hP 0 0 rfl rfl rfl rfl) ⟨⟨rfl, rfl⟩, Nat.le_of_ble_eq_true rfl, Nat.le_of_ble_eq_true rfl⟩ hl.1 (Nat.le_of_ble_eq_true rfl) ⟨Nat.le_of_ble_eq_true rfl, Nat.le_of_ble_eq_true rfl⟩ rfl dX2_bellsFrom_26 ?_
      refine lv_ishl hx hb dX2_bellsFrom_29 ?_
      refine lv_ior hx hb dX2_bellsFrom_30 ?_
      refine lv_istore_n (lv' := [(2, .int (acc ||| (1 <<< ((nI (sg T n (i0 + k)) - 48) &&& 31)))), (0, .ref h), (1, .int (nI i0)), (3, .int (nI (i0 + k)))]) hx hb dX2_bellsFrom_31 rfl hl (by decide) rfl (fun ls hl => ?_)
      refine lv_iinc (v := nI (i0 + k + 1)) (lv' := [(3, .int (nI (i0 + k + 1))), (2, .int (acc ||| (1 <<< ((nI (sg T n (i0 + k)) - 48) &&& 31)))), (0, .ref h), (1, .int (nI i0))]) hx hb dX2_bellsFrom_32 hl (k := 3) rfl (nI_add (i0 + k) 1) (by decide) rfl (fun ls hl => ?_)
      refine lv_goto (tgt := 4) hx hb dX2_bellsFrom_35 (by decide) ?_
      exact ih_k (by omega) ((acc ||| (1 <<< ((nI (sg T n (i0 + k)) - 48) &&& 31)))) _ (lv_sub hl [2, 3, 1, 0] rfl) (by rw [← hacc, show n - i0 - k = (n - i0 - (k + 1)) + 1 by omega, bfN, if_neg h_2]; rfl)
