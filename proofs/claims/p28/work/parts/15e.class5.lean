set_option maxHeartbeats 4000000 in
set_option maxRecDepth 100000 in
theorem c_X4_bell_o (l : Launch) (g : gx) (h : Nat) (q : Nat → Nat) (z : Int32) (na : Nat → Nat) (V : sV) (ta : Nat → Nat) (TV : sV) (pa : Nat → Nat) (SV : sV) (hq : Nat) (hh : Nat → Nat) (o n : Nat) (aa : Nat → Nat → Nat) (HV : Nat → sV) (ra : Nat → Nat) (NN : sV) (sa : Nat) (T : Nat → Nat) (k : Nat) (x y w : Int32) (t b : Nat) (ho : o < 5) (hn : n ≤ 5) (hk : k ≤ 60) (hxy : hasB V x y → x = nI t ∧ t < 6 ∧ y = nI b ∧ b < 5) (hw : w.toInt < 0 ∨ 4 < w.toInt) : cR l g yX4_bell cX4_bell 5 (some .int) ({ frames := 2, cells := 0, slots := 0, locals := 42 } : Room) [.ref h, .int x, .int y, .int w] [bB h q z, vB g (q 0) na V, vB g (q 1) ta TV, vB g (q 2) pa SV, hB g (q 3) hq hh o n, vB g (hh 0) (aa 0) (HV 0), vB g (hh 1) (aa 1) (HV 1), vB g (hh 2) (aa 2) (HV 2), vB g (hh 3) (aa 3) (HV 3), vB g (hh 4) (aa 4) (HV 4), rB g (q 4) ra NN, tB g (q 5) sa T k] (.int (if hasB V x y then -2 else -1)) := by
  refine cR.mk (by decide +kernel) (Nat.le_of_ble_eq_true rfl) ?_
  intro p e s m below meth c ls E hK hP hl
  obtain ⟨hx, hb, hr, hml, hts, hown, hlocks, hin⟩ := id E
  have hown : s.vm.findClass RX4 = some m.cls := hown
  have hl : lv_has ls 5 [(0, .ref h), (1, .int x), (2, .int y), (3, .int w)] := hl
  refine lv_aload_n hx hb dX4_bell_0 rfl (lv_at hl 0 rfl) ?_
  refine b_get (v := .ref (q 0)) hx hb hts inX4 hown hK hP 0 0 0 rfl rfl rfl (by decide) q1_161 rfl rfl dX4_bell_1 ?_
  refine lv_iload_n hx hb dX4_bell_4 rfl (lv_at hl 1 rfl) ?_
  refine lv_iload_n hx hb dX4_bell_5 rfl (lv_at hl 2 rfl) ?_
  refine call_VR (As := [.int x, .int y]) (rest := []) E rfl hK hP (c_X3_hasBell l g (q 0) na V x y) ok_X3_hasBell rfl q2_15 [1] rfl (b_recv hK hP 1 0 rfl rfl rfl rfl) ⟨⟨rfl, rfl⟩, Nat.le_of_ble_eq_true rfl, Nat.le_of_ble_eq_true rfl⟩ hl.1 (Nat.le_of_ble_eq_true rfl) ⟨Nat.le_of_ble_eq_true rfl, Nat.le_of_ble_eq_true rfl⟩ rfl dX4_bell_6 ?_
  refine b_ne0 (tgt := 14) hx hb dX4_bell_9 (by decide) (fun h_1 => ?_) (fun h_1 => ?_)
  · have hHB := h_1
    obtain ⟨rfl, ht, rfl, hb5⟩ := hxy h_1
    refine lv_iload_n hx hb dX4_bell_14 rfl (lv_at hl 1 rfl) ?_
    refine lv_iload_n hx hb dX4_bell_15 rfl (lv_at hl 2 rfl) ?_
    refine call_SR (As := [.int (nI t), .int (nI b)]) (rest := []) E rfl hK hP (c_X4_slot l g t b) ok_X4_slot rfl q2_20 [] rfl ⟨⟨rfl, rfl⟩, Nat.le_of_ble_eq_true rfl, Nat.le_of_ble_eq_true rfl⟩ hl.1 (Nat.le_of_ble_eq_true rfl) ⟨Nat.le_of_ble_eq_true rfl, Nat.le_of_ble_eq_true rfl⟩ rfl dX4_bell_16 ?_
    refine lv_istore (lv' := [(4, .int (nI (t * 5 + b))), (0, .ref h), (1, .int (nI t)), (2, .int (nI b)), (3, .int w)]) hx hb dX4_bell_19 hl (by decide) rfl (fun ls hl => ?_)
    refine lv_iload_n hx hb dX4_bell_21 rfl (lv_at hl 4 rfl) ?_
    refine lv_tableOut (tgt := 125) hx hb dX4_bell_22 hw (by decide) ?_
    refine lv_bipush (v := -2) hx hb dX4_bell_125 (by decide) ?_
    exact rI_ret hx hb hr hlocks dX4_bell_127 (by rw [if_pos hHB])
  · refine lv_iconst (v := -1) hx hb dX4_bell_12 (by decide) ?_
    exact rI_ret hx hb hr hlocks dX4_bell_13 (by rw [if_neg h_1])

set_option maxHeartbeats 4000000 in
set_option maxRecDepth 100000 in
theorem c_X4_bell_i (l : Launch) (g : gx) (h : Nat) (q : Nat → Nat) (z : Int32) (na : Nat → Nat) (V : sV) (ta : Nat → Nat) (TV : sV) (pa : Nat → Nat) (SV : sV) (hq : Nat) (hh : Nat → Nat) (o n : Nat) (aa : Nat → Nat → Nat) (HV : Nat → sV) (ra : Nat → Nat) (NN : sV) (sa : Nat) (T : Nat → Nat) (k : Nat) (x y : Int32) (j t b : Nat) (ho : o < 5) (hn : n ≤ 5) (hk : k ≤ 60) (hxy : hasB V x y → x = nI t ∧ t < 6 ∧ y = nI b ∧ b < 5) (hj : j < 5) : cU (S := sV) l g yX4_bell cX4_bell 5 (some .int) ({ frames := 4, cells := 0, slots := 0, locals := 97 } : Room) [.ref h, .int x, .int y, .int (nI j)] [bB h q z, vB g (q 0) na V, vB g (q 1) ta TV, vB g (q 2) pa SV, hB g (q 3) hq hh o n, vB g (hh 0) (aa 0) (HV 0), vB g (hh 1) (aa 1) (HV 1), vB g (hh 2) (aa 2) (HV 2), vB g (hh 3) (aa 3) (HV 3), vB g (hh 4) (aa 4) (HV 4), rB g (q 4) ra NN, tB g (q 5) sa T k] (fun u => some (.int (if hasB V x y then blC V NN t b j else -1))) (fun u => True) (fun u => [bB h q z, vB g (q 0) na V, vB g (q 1) ta TV, vB g (q 2) pa SV, hB g (q 3) hq hh o n, vB g (hh 0) (aa 0) (HV 0), vB g (hh 1) (aa 1) (HV 1), vB g (hh 2) (aa 2) (HV 2), vB g (hh 3) (aa 3) (HV 3), vB g (hh 4) (aa 4) (HV 4), rB g (q 4) ra u, tB g (q 5) sa T k]) := by
  refine cU.mk (by decide +kernel) (Nat.le_of_ble_eq_true rfl) ?_
  intro p e s m below meth c ls E hK hW hl
  obtain ⟨hx, hb, hr, hml, hts, hown, hlocks, hin⟩ := id E
  have hown : s.vm.findClass RX4 = some m.cls := hown
  have hP := hW.1
  have hl : lv_has ls 5 [(0, .ref h), (1, .int x), (2, .int y), (3, .int (nI j))] := hl
  refine lv_aload_n hx hb dX4_bell_0 rfl (lv_at hl 0 rfl) ?_
  refine b_get (v := .ref (q 0)) hx hb hts inX4 hown hK hP 0 0 0 rfl rfl rfl (by decide) q1_161 rfl rfl dX4_bell_1 ?_
  refine lv_iload_n hx hb dX4_bell_4 rfl (lv_at hl 1 rfl) ?_
  refine lv_iload_n hx hb dX4_bell_5 rfl (lv_at hl 2 rfl) ?_
  refine call_VR (As := [.int x, .int y]) (rest := []) E rfl hK hP (c_X3_hasBell l g (q 0) na V x y) ok_X3_hasBell rfl q2_15 [1] rfl (b_recv hK hP 1 0 rfl rfl rfl rfl) ⟨⟨rfl, rfl⟩, Nat.le_of_ble_eq_true rfl, Nat.le_of_ble_eq_true rfl⟩ hl.1 (Nat.le_of_ble_eq_true rfl) ⟨Nat.le_of_ble_eq_true rfl, Nat.le_of_ble_eq_true rfl⟩ rfl dX4_bell_6 ?_
  refine b_ne0 (tgt := 14) hx hb dX4_bell_9 (by decide) (fun h_1 => ?_) (fun h_1 => ?_)
  · have hHB := h_1
    obtain ⟨rfl, ht, rfl, hb5⟩ := hxy h_1
    refine lv_iload_n hx hb dX4_bell_14 rfl (lv_at hl 1 rfl) ?_
    refine lv_iload_n hx hb dX4_bell_15 rfl (lv_at hl 2 rfl) ?_
    refine call_SR (As := [.int (nI t), .int (nI b)]) (rest := []) E rfl hK hP (c_X4_slot l g t b) ok_X4_slot rfl q2_20 [] rfl ⟨⟨rfl, rfl⟩, Nat.le_of_ble_eq_true rfl, Nat.le_of_ble_eq_true rfl⟩ hl.1 (Nat.le_of_ble_eq_true rfl) ⟨Nat.le_of_ble_eq_true rfl, Nat.le_of_ble_eq_true rfl⟩ rfl dX4_bell_16 ?_
    refine lv_istore (lv' := [(4, .int (nI (t * 5 + b))), (0, .ref h), (1, .int (nI t)), (2, .int (nI b)), (3, .int (nI j))]) hx hb dX4_bell_19 hl (by decide) rfl (fun ls hl => ?_)
    refine lv_iload_n hx hb dX4_bell_21 rfl (lv_at hl 4 rfl) ?_
    rcases (show j = 0 ∨ j = 1 ∨ j = 2 ∨ j = 3 ∨ j = 4 by omega) with rfl | rfl | rfl | rfl | rfl
    · refine lv_tableIn (off := 34) (tgt := 56) hx hb dX4_bell_22 (by decide) (by decide) rfl (by decide) ?_
      refine lv_aload_n hx hb dX4_bell_56 rfl (lv_at hl 1 rfl) ?_
      refine b_get (v := .ref (q 0)) hx hb hts inX4 hown hK hP 0 0 0 rfl rfl rfl (by decide) q1_161 rfl rfl dX4_bell_57 ?_
      refine b_get (v := .ref (na 9)) hx hb hts inX3 hown hK hP 1 0 9 rfl rfl rfl (by decide) q1_43 rfl rfl dX4_bell_60 ?_
      refine lv_iload hx hb dX4_bell_63 (lv_at hl 0 rfl) ?_
      refine b_iald (v := V 9 (t * 5 + b)) hx hb hK hP 1 10 (t * 5 + b) rfl rfl rfl (by omega) rfl rfl dX4_bell_65 ?_
      exact uI_ret NN hW hx hb hr hlocks dX4_bell_66 (by rw [if_pos hHB]; rfl) trivial (rfl) (adr2 (L := [[h], [q 0, na 0, na 1, na 2, na 3, na 4, na 5, na 6, na 7, na 8, na 9, na 10, na 11], [q 1, ta 0, ta 1, ta 2, ta 3, ta 4, ta 5, ta 6, ta 7, ta 8, ta 9, ta 10, ta 11], [q 2, pa 0, pa 1, pa 2, pa 3, pa 4, pa 5, pa 6, pa 7, pa 8, pa 9, pa 10, pa 11], [q 3, hq], [hh 0, (aa 0) 0, (aa 0) 1, (aa 0) 2, (aa 0) 3, (aa 0) 4, (aa 0) 5, (aa 0) 6, (aa 0) 7, (aa 0) 8, (aa 0) 9, (aa 0) 10, (aa 0) 11], [hh 1, (aa 1) 0, (aa 1) 1, (aa 1) 2, (aa 1) 3, (aa 1) 4, (aa 1) 5, (aa 1) 6, (aa 1) 7, (aa 1) 8, (aa 1) 9, (aa 1) 10, (aa 1) 11], [hh 2, (aa 2) 0, (aa 2) 1, (aa 2) 2, (aa 2) 3, (aa 2) 4, (aa 2) 5, (aa 2) 6, (aa 2) 7, (aa 2) 8, (aa 2) 9, (aa 2) 10, (aa 2) 11], [hh 3, (aa 3) 0, (aa 3) 1, (aa 3) 2, (aa 3) 3, (aa 3) 4, (aa 3) 5, (aa 3) 6, (aa 3) 7, (aa 3) 8, (aa 3) 9, (aa 3) 10, (aa 3) 11], [hh 4, (aa 4) 0, (aa 4) 1, (aa 4) 2, (aa 4) 3, (aa 4) 4, (aa 4) 5, (aa 4) 6, (aa 4) 7, (aa 4) 8, (aa 4) 9, (aa 4) 10, (aa 4) 11], [q 4, ra 0, ra 1, ra 2, ra 3], [q 5, sa]]) rfl rfl)
    · refine lv_tableIn (off := 45) (tgt := 67) hx hb dX4_bell_22 (by decide) (by decide) rfl (by decide) ?_
      refine lv_aload_n hx hb dX4_bell_67 rfl (lv_at hl 1 rfl) ?_
      refine b_get (v := .ref (q 0)) hx hb hts inX4 hown hK hP 0 0 0 rfl rfl rfl (by decide) q1_161 rfl rfl dX4_bell_68 ?_
      refine b_get (v := .ref (na 10)) hx hb hts inX3 hown hK hP 1 0 10 rfl rfl rfl (by decide) q1_47 rfl rfl dX4_bell_71 ?_
      refine lv_iload hx hb dX4_bell_74 (lv_at hl 0 rfl) ?_
      refine b_iald (v := V 10 (t * 5 + b)) hx hb hK hP 1 11 (t * 5 + b) rfl rfl rfl (by omega) rfl rfl dX4_bell_76 ?_
      exact uI_ret NN hW hx hb hr hlocks dX4_bell_77 (by rw [if_pos hHB]; rfl) trivial (rfl) (adr2 (L := [[h], [q 0, na 0, na 1, na 2, na 3, na 4, na 5, na 6, na 7, na 8, na 9, na 10, na 11], [q 1, ta 0, ta 1, ta 2, ta 3, ta 4, ta 5, ta 6, ta 7, ta 8, ta 9, ta 10, ta 11], [q 2, pa 0, pa 1, pa 2, pa 3, pa 4, pa 5, pa 6, pa 7, pa 8, pa 9, pa 10, pa 11], [q 3, hq], [hh 0, (aa 0) 0, (aa 0) 1, (aa 0) 2, (aa 0) 3, (aa 0) 4, (aa 0) 5, (aa 0) 6, (aa 0) 7, (aa 0) 8, (aa 0) 9, (aa 0) 10, (aa 0) 11], [hh 1, (aa 1) 0, (aa 1) 1, (aa 1) 2, (aa 1) 3, (aa 1) 4, (aa 1) 5, (aa 1) 6, (aa 1) 7, (aa 1) 8, (aa 1) 9, (aa 1) 10, (aa 1) 11], [hh 2, (aa 2) 0, (aa 2) 1, (aa 2) 2, (aa 2) 3, (aa 2) 4, (aa 2) 5, (aa 2) 6, (aa 2) 7, (aa 2) 8, (aa 2) 9, (aa 2) 10, (aa 2) 11], [hh 3, (aa 3) 0, (aa 3) 1, (aa 3) 2, (aa 3) 3, (aa 3) 4, (aa 3) 5, (aa 3) 6, (aa 3) 7, (aa 3) 8, (aa 3) 9, (aa 3) 10, (aa 3) 11], [hh 4, (aa 4) 0, (aa 4) 1, (aa 4) 2, (aa 4) 3, (aa 4) 4, (aa 4) 5, (aa 4) 6, (aa 4) 7, (aa 4) 8, (aa 4) 9, (aa 4) 10, (aa 4) 11], [q 4, ra 0, ra 1, ra 2, ra 3], [q 5, sa]]) rfl rfl)
    · refine lv_tableIn (off := 56) (tgt := 78) hx hb dX4_bell_22 (by decide) (by decide) rfl (by decide) ?_
      refine lv_aload_n hx hb dX4_bell_78 rfl (lv_at hl 1 rfl) ?_
      refine b_get (v := .ref (q 0)) hx hb hts inX4 hown hK hP 0 0 0 rfl rfl rfl (by decide) q1_161 rfl rfl dX4_bell_79 ?_
      refine b_get (v := .ref (na 9)) hx hb hts inX3 hown hK hP 1 0 9 rfl rfl rfl (by decide) q1_43 rfl rfl dX4_bell_82 ?_
      refine lv_iload hx hb dX4_bell_85 (lv_at hl 0 rfl) ?_
      refine b_iald (v := V 9 (t * 5 + b)) hx hb hK hP 1 10 (t * 5 + b) rfl rfl rfl (by omega) rfl rfl dX4_bell_87 ?_
      refine call_SR (As := [.int (V 9 (t * 5 + b))]) (rest := []) E rfl hK hP (c_X4_ringersFor l g (V 9 (t * 5 + b))) ok_X4_ringersFor rfl q2_21 [] rfl ⟨⟨rfl, rfl⟩, Nat.le_of_ble_eq_true rfl, Nat.le_of_ble_eq_true rfl⟩ hl.1 (Nat.le_of_ble_eq_true rfl) ⟨Nat.le_of_ble_eq_true rfl, Nat.le_of_ble_eq_true rfl⟩ rfl dX4_bell_88 ?_
      exact uI_ret NN hW hx hb hr hlocks dX4_bell_91 (by rw [if_pos hHB]; rfl) trivial (rfl) (adr2 (L := [[h], [q 0, na 0, na 1, na 2, na 3, na 4, na 5, na 6, na 7, na 8, na 9, na 10, na 11], [q 1, ta 0, ta 1, ta 2, ta 3, ta 4, ta 5, ta 6, ta 7, ta 8, ta 9, ta 10, ta 11], [q 2, pa 0, pa 1, pa 2, pa 3, pa 4, pa 5, pa 6, pa 7, pa 8, pa 9, pa 10, pa 11], [q 3, hq], [hh 0, (aa 0) 0, (aa 0) 1, (aa 0) 2, (aa 0) 3, (aa 0) 4, (aa 0) 5, (aa 0) 6, (aa 0) 7, (aa 0) 8, (aa 0) 9, (aa 0) 10, (aa 0) 11], [hh 1, (aa 1) 0, (aa 1) 1, (aa 1) 2, (aa 1) 3, (aa 1) 4, (aa 1) 5, (aa 1) 6, (aa 1) 7, (aa 1) 8, (aa 1) 9, (aa 1) 10, (aa 1) 11], [hh 2, (aa 2) 0, (aa 2) 1, (aa 2) 2, (aa 2) 3, (aa 2) 4, (aa 2) 5, (aa 2) 6, (aa 2) 7, (aa 2) 8, (aa 2) 9, (aa 2) 10, (aa 2) 11], [hh 3, (aa 3) 0, (aa 3) 1, (aa 3) 2, (aa 3) 3, (aa 3) 4, (aa 3) 5, (aa 3) 6, (aa 3) 7, (aa 3) 8, (aa 3) 9, (aa 3) 10, (aa 3) 11], [hh 4, (aa 4) 0, (aa 4) 1, (aa 4) 2, (aa 4) 3, (aa 4) 4, (aa 4) 5, (aa 4) 6, (aa 4) 7, (aa 4) 8, (aa 4) 9, (aa 4) 10, (aa 4) 11], [q 4, ra 0, ra 1, ra 2, ra 3], [q 5, sa]]) rfl rfl)
    · refine lv_tableIn (off := 70) (tgt := 92) hx hb dX4_bell_22 (by decide) (by decide) rfl (by decide) ?_
      refine lv_aload_n hx hb dX4_bell_92 rfl (lv_at hl 1 rfl) ?_
      refine b_get (v := .ref (q 0)) hx hb hts inX4 hown hK hP 0 0 0 rfl rfl rfl (by decide) q1_161 rfl rfl dX4_bell_93 ?_
      refine b_get (v := .ref (na 11)) hx hb hts inX3 hown hK hP 1 0 11 rfl rfl rfl (by decide) q1_49 rfl rfl dX4_bell_96 ?_
      refine lv_iload hx hb dX4_bell_99 (lv_at hl 0 rfl) ?_
      refine b_iald (v := V 11 (t * 5 + b)) hx hb hK hP 1 12 (t * 5 + b) rfl rfl rfl (by omega) rfl rfl dX4_bell_101 ?_
      exact uI_ret NN hW hx hb hr hlocks dX4_bell_102 (by rw [if_pos hHB]; rfl) trivial (rfl) (adr2 (L := [[h], [q 0, na 0, na 1, na 2, na 3, na 4, na 5, na 6, na 7, na 8, na 9, na 10, na 11], [q 1, ta 0, ta 1, ta 2, ta 3, ta 4, ta 5, ta 6, ta 7, ta 8, ta 9, ta 10, ta 11], [q 2, pa 0, pa 1, pa 2, pa 3, pa 4, pa 5, pa 6, pa 7, pa 8, pa 9, pa 10, pa 11], [q 3, hq], [hh 0, (aa 0) 0, (aa 0) 1, (aa 0) 2, (aa 0) 3, (aa 0) 4, (aa 0) 5, (aa 0) 6, (aa 0) 7, (aa 0) 8, (aa 0) 9, (aa 0) 10, (aa 0) 11], [hh 1, (aa 1) 0, (aa 1) 1, (aa 1) 2, (aa 1) 3, (aa 1) 4, (aa 1) 5, (aa 1) 6, (aa 1) 7, (aa 1) 8, (aa 1) 9, (aa 1) 10, (aa 1) 11], [hh 2, (aa 2) 0, (aa 2) 1, (aa 2) 2, (aa 2) 3, (aa 2) 4, (aa 2) 5, (aa 2) 6, (aa 2) 7, (aa 2) 8, (aa 2) 9, (aa 2) 10, (aa 2) 11], [hh 3, (aa 3) 0, (aa 3) 1, (aa 3) 2, (aa 3) 3, (aa 3) 4, (aa 3) 5, (aa 3) 6, (aa 3) 7, (aa 3) 8, (aa 3) 9, (aa 3) 10, (aa 3) 11], [hh 4, (aa 4) 0, (aa 4) 1, (aa 4) 2, (aa 4) 3, (aa 4) 4, (aa 4) 5, (aa 4) 6, (aa 4) 7, (aa 4) 8, (aa 4) 9, (aa 4) 10, (aa 4) 11], [q 4, ra 0, ra 1, ra 2, ra 3], [q 5, sa]]) rfl rfl)
    · refine lv_tableIn (off := 81) (tgt := 103) hx hb dX4_bell_22 (by decide) (by decide) rfl (by decide) ?_
      refine lv_aload_n hx hb dX4_bell_103 rfl (lv_at hl 1 rfl) ?_
      refine b_get (v := .ref (q 4)) hx hb hts inX4 hown hK hP 0 0 5 rfl rfl rfl (by decide) q1_166 rfl rfl dX4_bell_104 ?_
      refine lv_aload_n hx hb dX4_bell_107 rfl (lv_at hl 1 rfl) ?_
      refine b_get (v := .ref (q 0)) hx hb hts inX4 hown hK hP 0 0 0 rfl rfl rfl (by decide) q1_161 rfl rfl dX4_bell_108 ?_
      refine call_VU (As := [.ref (q 0)]) (rest := []) E rfl hK hW (c_X1_foresee l g (q 4) ra NN (q 0) na V) ok_X1_foresee rfl q1_208 [10, 1] rfl (by decide) (b_recv hK hP 10 0 rfl rfl rfl rfl) ⟨⟨rfl, rfl⟩, Nat.le_of_ble_eq_true rfl, Nat.le_of_ble_eq_true rfl⟩ hl.1 (Nat.le_of_ble_eq_true rfl) ⟨Nat.le_of_ble_eq_true rfl, Nat.le_of_ble_eq_true rfl⟩ rfl dX4_bell_111 (fun _u H locs _ hW => ?_)
      have hW : wd g _ s.heap [bB h q z, vB g (q 0) na V, vB g (q 1) ta TV, vB g (q 2) pa SV, hB g (q 3) hq hh o n, vB g (hh 0) (aa 0) (HV 0), vB g (hh 1) (aa 1) (HV 1), vB g (hh 2) (aa 2) (HV 2), vB g (hh 3) (aa 3) (HV 3), vB g (hh 4) (aa 4) (HV 4), rB g (q 4) ra (forN V NN), tB g (q 5) sa T k] H locs := hW
      have hP := hW.1
      obtain ⟨U_2, hU_2⟩ : ∃ z, z = (forN V NN) := ⟨_, rfl⟩
      rw [← hU_2] at hW
      have hP := hW.1
      refine lv_aload_n hx hb dX4_bell_114 rfl (lv_at hl 1 rfl) ?_
      refine b_get (v := .ref (q 4)) hx hb hts inX4 hown hK hP 0 0 5 rfl rfl rfl (by decide) q1_166 rfl rfl dX4_bell_115 ?_
      refine b_get (v := .ref (ra 0)) hx hb hts inX1 hown hK hP 10 0 0 rfl rfl rfl (by decide) q1_124 rfl rfl dX4_bell_118 ?_
      refine lv_iload hx hb dX4_bell_121 (lv_at hl 0 rfl) ?_
      refine b_iald (v := U_2 0 (t * 5 + b)) hx hb hK hP 10 1 (t * 5 + b) rfl rfl rfl (by omega) rfl rfl dX4_bell_123 ?_
      exact uI_ret U_2 hW hx hb hr hlocks dX4_bell_124 (by rw [if_pos hHB, hU_2]; rfl) trivial (by rw [hU_2]) (adr2 (L := [[h], [q 0, na 0, na 1, na 2, na 3, na 4, na 5, na 6, na 7, na 8, na 9, na 10, na 11], [q 1, ta 0, ta 1, ta 2, ta 3, ta 4, ta 5, ta 6, ta 7, ta 8, ta 9, ta 10, ta 11], [q 2, pa 0, pa 1, pa 2, pa 3, pa 4, pa 5, pa 6, pa 7, pa 8, pa 9, pa 10, pa 11], [q 3, hq], [hh 0, (aa 0) 0, (aa 0) 1, (aa 0) 2, (aa 0) 3, (aa 0) 4, (aa 0) 5, (aa 0) 6, (aa 0) 7, (aa 0) 8, (aa 0) 9, (aa 0) 10, (aa 0) 11], [hh 1, (aa 1) 0, (aa 1) 1, (aa 1) 2, (aa 1) 3, (aa 1) 4, (aa 1) 5, (aa 1) 6, (aa 1) 7, (aa 1) 8, (aa 1) 9, (aa 1) 10, (aa 1) 11], [hh 2, (aa 2) 0, (aa 2) 1, (aa 2) 2, (aa 2) 3, (aa 2) 4, (aa 2) 5, (aa 2) 6, (aa 2) 7, (aa 2) 8, (aa 2) 9, (aa 2) 10, (aa 2) 11], [hh 3, (aa 3) 0, (aa 3) 1, (aa 3) 2, (aa 3) 3, (aa 3) 4, (aa 3) 5, (aa 3) 6, (aa 3) 7, (aa 3) 8, (aa 3) 9, (aa 3) 10, (aa 3) 11], [hh 4, (aa 4) 0, (aa 4) 1, (aa 4) 2, (aa 4) 3, (aa 4) 4, (aa 4) 5, (aa 4) 6, (aa 4) 7, (aa 4) 8, (aa 4) 9, (aa 4) 10, (aa 4) 11], [q 4, ra 0, ra 1, ra 2, ra 3], [q 5, sa]]) rfl rfl)
  · refine lv_iconst (v := -1) hx hb dX4_bell_12 (by decide) ?_
    exact uI_ret NN hW hx hb hr hlocks dX4_bell_13 (by rw [if_neg h_1]) trivial (rfl) (adr2 (L := [[h], [q 0, na 0, na 1, na 2, na 3, na 4, na 5, na 6, na 7, na 8, na 9, na 10, na 11], [q 1, ta 0, ta 1, ta 2, ta 3, ta 4, ta 5, ta 6, ta 7, ta 8, ta 9, ta 10, ta 11], [q 2, pa 0, pa 1, pa 2, pa 3, pa 4, pa 5, pa 6, pa 7, pa 8, pa 9, pa 10, pa 11], [q 3, hq], [hh 0, (aa 0) 0, (aa 0) 1, (aa 0) 2, (aa 0) 3, (aa 0) 4, (aa 0) 5, (aa 0) 6, (aa 0) 7, (aa 0) 8, (aa 0) 9, (aa 0) 10, (aa 0) 11], [hh 1, (aa 1) 0, (aa 1) 1, (aa 1) 2, (aa 1) 3, (aa 1) 4, (aa 1) 5, (aa 1) 6, (aa 1) 7, (aa 1) 8, (aa 1) 9, (aa 1) 10, (aa 1) 11], [hh 2, (aa 2) 0, (aa 2) 1, (aa 2) 2, (aa 2) 3, (aa 2) 4, (aa 2) 5, (aa 2) 6, (aa 2) 7, (aa 2) 8, (aa 2) 9, (aa 2) 10, (aa 2) 11], [hh 3, (aa 3) 0, (aa 3) 1, (aa 3) 2, (aa 3) 3, (aa 3) 4, (aa 3) 5, (aa 3) 6, (aa 3) 7, (aa 3) 8, (aa 3) 9, (aa 3) 10, (aa 3) 11], [hh 4, (aa 4) 0, (aa 4) 1, (aa 4) 2, (aa 4) 3, (aa 4) 4, (aa 4) 5, (aa 4) 6, (aa 4) 7, (aa 4) 8, (aa 4) 9, (aa 4) 10, (aa 4) 11], [q 4, ra 0, ra 1, ra 2, ra 3], [q 5, sa]]) rfl rfl)

set_option maxHeartbeats 4000000 in
set_option maxRecDepth 100000 in
theorem c_X4_count_o (l : Launch) (g : gx) (h : Nat) (q : Nat → Nat) (z : Int32) (na : Nat → Nat) (V : sV) (ta : Nat → Nat) (TV : sV) (pa : Nat → Nat) (SV : sV) (hq : Nat) (hh : Nat → Nat) (o n : Nat) (aa : Nat → Nat → Nat) (HV : Nat → sV) (ra : Nat → Nat) (NN : sV) (sa : Nat) (T : Nat → Nat) (k : Nat) (w : Int32) (ho : o < 5) (hn : n ≤ 5) (hk : k ≤ 60) (hw : w.toInt < 0 ∨ 10 < w.toInt) : cR l g yX4_count cX4_count 2 (some .int) ({ frames := 0, cells := 0, slots := 0, locals := 0 } : Room) [.ref h, .int w] [bB h q z, vB g (q 0) na V, vB g (q 1) ta TV, vB g (q 2) pa SV, hB g (q 3) hq hh o n, vB g (hh 0) (aa 0) (HV 0), vB g (hh 1) (aa 1) (HV 1), vB g (hh 2) (aa 2) (HV 2), vB g (hh 3) (aa 3) (HV 3), vB g (hh 4) (aa 4) (HV 4), rB g (q 4) ra NN, tB g (q 5) sa T k] (.int (-2)) := by
  refine cR.mk (by decide +kernel) (Nat.le_of_ble_eq_true rfl) ?_
  intro p e s m below meth c ls E hK hP hl
  obtain ⟨hx, hb, hr, hml, hts, hown, hlocks, hin⟩ := id E
  have hown : s.vm.findClass RX4 = some m.cls := hown
  have hl : lv_has ls 2 [(0, .ref h), (1, .int w)] := hl
  refine lv_iload_n hx hb dX4_count_0 rfl (lv_at hl 1 rfl) ?_
  refine lv_tableOut (tgt := 148) hx hb dX4_count_1 hw (by decide) ?_
  refine lv_bipush (v := -2) hx hb dX4_count_148 (by decide) ?_
  exact rI_ret hx hb hr hlocks dX4_count_150 (rfl)

set_option maxHeartbeats 4000000 in
set_option maxRecDepth 100000 in
theorem c_X4_count_i (l : Launch) (g : gx) (h : Nat) (q : Nat → Nat) (z : Int32) (na : Nat → Nat) (V : sV) (ta : Nat → Nat) (TV : sV) (pa : Nat → Nat) (SV : sV) (hq : Nat) (hh : Nat → Nat) (o n : Nat) (aa : Nat → Nat → Nat) (HV : Nat → sV) (ra : Nat → Nat) (NN : sV) (sa : Nat) (T : Nat → Nat) (k : Nat) (j : Nat) (ho : o < 5) (hn : n ≤ 5) (hk : k ≤ 60) (hj : j < 11) : cR l g yX4_count cX4_count 2 (some .int) ({ frames := 1, cells := 0, slots := 0, locals := 22 } : Room) [.ref h, .int (nI j)] [bB h q z, vB g (q 0) na V, vB g (q 1) ta TV, vB g (q 2) pa SV, hB g (q 3) hq hh o n, vB g (hh 0) (aa 0) (HV 0), vB g (hh 1) (aa 1) (HV 1), vB g (hh 2) (aa 2) (HV 2), vB g (hh 3) (aa 3) (HV 3), vB g (hh 4) (aa 4) (HV 4), rB g (q 4) ra NN, tB g (q 5) sa T k] (.int (coC V n k j)) := by
  refine cR.mk (by decide +kernel) (Nat.le_of_ble_eq_true rfl) ?_
  intro p e s m below meth c ls E hK hP hl
  obtain ⟨hx, hb, hr, hml, hts, hown, hlocks, hin⟩ := id E
  have hown : s.vm.findClass RX4 = some m.cls := hown
  have hl : lv_has ls 2 [(0, .ref h), (1, .int (nI j))] := hl
  refine lv_iload_n hx hb dX4_count_0 rfl (lv_at hl 1 rfl) ?_
  rcases (show j = 0 ∨ j = 1 ∨ j = 2 ∨ j = 3 ∨ j = 4 ∨ j = 5 ∨ j = 6 ∨ j = 7 ∨ j = 8 ∨ j = 9 ∨ j = 10 by omega) with rfl | rfl | rfl | rfl | rfl | rfl | rfl | rfl | rfl | rfl | rfl
  · refine lv_tableIn (off := 59) (tgt := 60) hx hb dX4_count_1 (by decide) (by decide) rfl (by decide) ?_
    refine lv_aload_n hx hb dX4_count_60 rfl (lv_at hl 0 rfl) ?_
    refine b_get (v := .ref (q 0)) hx hb hts inX4 hown hK hP 0 0 0 rfl rfl rfl (by decide) q1_161 rfl rfl dX4_count_61 ?_
    refine b_get (v := .int (V 12 2)) hx hb hts inX3 hown hK hP 1 0 14 rfl rfl rfl (by decide) q1_56 rfl rfl dX4_count_64 ?_
    exact rI_ret hx hb hr hlocks dX4_count_67 (rfl)
  · refine lv_tableIn (off := 67) (tgt := 68) hx hb dX4_count_1 (by decide) (by decide) rfl (by decide) ?_
    refine lv_aload_n hx hb dX4_count_68 rfl (lv_at hl 0 rfl) ?_
    refine b_get (v := .ref (q 0)) hx hb hts inX4 hown hK hP 0 0 0 rfl rfl rfl (by decide) q1_161 rfl rfl dX4_count_69 ?_
    refine call_VR (As := []) (rest := []) E rfl hK hP (c_X3_allBells l g (q 0) na V) ok_X3_allBells rfl q2_34 [1] rfl (b_recv hK hP 1 0 rfl rfl rfl rfl) ⟨⟨rfl, rfl⟩, Nat.le_of_ble_eq_true rfl, Nat.le_of_ble_eq_true rfl⟩ hl.1 (Nat.le_of_ble_eq_true rfl) ⟨Nat.le_of_ble_eq_true rfl, Nat.le_of_ble_eq_true rfl⟩ rfl dX4_count_72 ?_
    exact rI_ret hx hb hr hlocks dX4_count_75 (rfl)
  · refine lv_tableIn (off := 75) (tgt := 76) hx hb dX4_count_1 (by decide) (by decide) rfl (by decide) ?_
    refine lv_aload_n hx hb dX4_count_76 rfl (lv_at hl 0 rfl) ?_
    refine b_get (v := .ref (q 0)) hx hb hts inX4 hown hK hP 0 0 0 rfl rfl rfl (by decide) q1_161 rfl rfl dX4_count_77 ?_
    refine call_VR (As := []) (rest := []) E rfl hK hP (c_X3_brokenRopes l g (q 0) na V) ok_X3_brokenRopes rfl q2_38 [1] rfl (b_recv hK hP 1 0 rfl rfl rfl rfl) ⟨⟨rfl, rfl⟩, Nat.le_of_ble_eq_true rfl, Nat.le_of_ble_eq_true rfl⟩ hl.1 (Nat.le_of_ble_eq_true rfl) ⟨Nat.le_of_ble_eq_true rfl, Nat.le_of_ble_eq_true rfl⟩ rfl dX4_count_80 ?_
    exact rI_ret hx hb hr hlocks dX4_count_83 (rfl)
  · refine lv_tableIn (off := 83) (tgt := 84) hx hb dX4_count_1 (by decide) (by decide) rfl (by decide) ?_
    refine lv_aload_n hx hb dX4_count_84 rfl (lv_at hl 0 rfl) ?_
    refine b_get (v := .ref (q 0)) hx hb hts inX4 hown hK hP 0 0 0 rfl rfl rfl (by decide) q1_161 rfl rfl dX4_count_85 ?_
    refine call_VR (As := []) (rest := []) E rfl hK hP (c_X3_silentTowns l g (q 0) na V) ok_X3_silentTowns rfl q2_42 [1] rfl (b_recv hK hP 1 0 rfl rfl rfl rfl) ⟨⟨rfl, rfl⟩, Nat.le_of_ble_eq_true rfl, Nat.le_of_ble_eq_true rfl⟩ hl.1 (Nat.le_of_ble_eq_true rfl) ⟨Nat.le_of_ble_eq_true rfl, Nat.le_of_ble_eq_true rfl⟩ rfl dX4_count_88 ?_
    exact rI_ret hx hb hr hlocks dX4_count_91 (rfl)
  · refine lv_tableIn (off := 91) (tgt := 92) hx hb dX4_count_1 (by decide) (by decide) rfl (by decide) ?_
    refine lv_aload_n hx hb dX4_count_92 rfl (lv_at hl 0 rfl) ?_
    refine b_get (v := .ref (q 0)) hx hb hts inX4 hown hK hP 0 0 0 rfl rfl rfl (by decide) q1_161 rfl rfl dX4_count_93 ?_
    refine call_VR (As := []) (rest := []) E rfl hK hP (c_X3_allPoints l g (q 0) na V) ok_X3_allPoints rfl q2_26 [1] rfl (b_recv hK hP 1 0 rfl rfl rfl rfl) ⟨⟨rfl, rfl⟩, Nat.le_of_ble_eq_true rfl, Nat.le_of_ble_eq_true rfl⟩ hl.1 (Nat.le_of_ble_eq_true rfl) ⟨Nat.le_of_ble_eq_true rfl, Nat.le_of_ble_eq_true rfl⟩ rfl dX4_count_96 ?_
    exact rI_ret hx hb hr hlocks dX4_count_99 (rfl)
  · refine lv_tableIn (off := 99) (tgt := 100) hx hb dX4_count_1 (by decide) (by decide) rfl (by decide) ?_
    refine lv_aload_n hx hb dX4_count_100 rfl (lv_at hl 0 rfl) ?_
    refine b_get (v := .ref (q 0)) hx hb hts inX4 hown hK hP 0 0 0 rfl rfl rfl (by decide) q1_161 rfl rfl dX4_count_101 ?_
    refine b_get (v := .int (V 12 4)) hx hb hts inX3 hown hK hP 1 0 15 rfl rfl rfl (by decide) q1_58 rfl rfl dX4_count_104 ?_
    exact rI_ret hx hb hr hlocks dX4_count_107 (rfl)
  · refine lv_tableIn (off := 107) (tgt := 108) hx hb dX4_count_1 (by decide) (by decide) rfl (by decide) ?_
    refine lv_aload_n hx hb dX4_count_108 rfl (lv_at hl 0 rfl) ?_
    refine b_get (v := .ref (q 0)) hx hb hts inX4 hown hK hP 0 0 0 rfl rfl rfl (by decide) q1_161 rfl rfl dX4_count_109 ?_
    refine b_get (v := .int (V 12 3)) hx hb hts inX3 hown hK hP 1 0 16 rfl rfl rfl (by decide) q1_60 rfl rfl dX4_count_112 ?_
    exact rI_ret hx hb hr hlocks dX4_count_115 (rfl)
  · refine lv_tableIn (off := 115) (tgt := 116) hx hb dX4_count_1 (by decide) (by decide) rfl (by decide) ?_
    refine lv_aload_n hx hb dX4_count_116 rfl (lv_at hl 0 rfl) ?_
    refine b_get (v := .ref (q 0)) hx hb hts inX4 hown hK hP 0 0 0 rfl rfl rfl (by decide) q1_161 rfl rfl dX4_count_117 ?_
    refine b_get (v := .int (V 12 0)) hx hb hts inX3 hown hK hP 1 0 12 rfl rfl rfl (by decide) q1_52 rfl rfl dX4_count_120 ?_
    exact rI_ret hx hb hr hlocks dX4_count_123 (rfl)
  · refine lv_tableIn (off := 123) (tgt := 124) hx hb dX4_count_1 (by decide) (by decide) rfl (by decide) ?_
    refine lv_aload_n hx hb dX4_count_124 rfl (lv_at hl 0 rfl) ?_
    refine b_get (v := .ref (q 0)) hx hb hts inX4 hown hK hP 0 0 0 rfl rfl rfl (by decide) q1_161 rfl rfl dX4_count_125 ?_
    refine b_get (v := .int (V 12 1)) hx hb hts inX3 hown hK hP 1 0 13 rfl rfl rfl (by decide) q1_54 rfl rfl dX4_count_128 ?_
    exact rI_ret hx hb hr hlocks dX4_count_131 (rfl)
  · refine lv_tableIn (off := 131) (tgt := 132) hx hb dX4_count_1 (by decide) (by decide) rfl (by decide) ?_
    refine lv_aload_n hx hb dX4_count_132 rfl (lv_at hl 0 rfl) ?_
    refine b_get (v := .ref (q 3)) hx hb hts inX4 hown hK hP 0 0 4 rfl rfl rfl (by decide) q1_165 rfl rfl dX4_count_133 ?_
    refine b_get (v := .int (nI n)) hx hb hts inX0 hown hK hP 4 0 2 rfl rfl rfl (by decide) q1_109 rfl rfl dX4_count_136 ?_
    exact rI_ret hx hb hr hlocks dX4_count_139 (rfl)
  · refine lv_tableIn (off := 139) (tgt := 140) hx hb dX4_count_1 (by decide) (by decide) rfl (by decide) ?_
    refine lv_aload_n hx hb dX4_count_140 rfl (lv_at hl 0 rfl) ?_
    refine b_get (v := .ref (q 5)) hx hb hts inX4 hown hK hP 0 0 6 rfl rfl rfl (by decide) q1_167 rfl rfl dX4_count_141 ?_
    refine b_get (v := .int (nI k)) hx hb hts inX2 hown hK hP 11 0 1 rfl rfl rfl (by decide) q1_154 rfl rfl dX4_count_144 ?_
    exact rI_ret hx hb hr hlocks dX4_count_147 (rfl)
