set_option maxHeartbeats 4000000 in
set_option maxRecDepth 100000 in
theorem c_X4_planError (l : Launch) (g : gx) (h : Nat) (q : Nat → Nat) (z : Int32) (na : Nat → Nat) (V : sV) (x : Int32) (t : Nat) (hxt : isT x → x = nI t ∧ t < 6) (m0 : Int32)  : cR l g yX4_planError cX4_planError 3 (some .int) ({ frames := 1, cells := 0, slots := 0, locals := 21 } : Room) [.ref h, .int x, .int m0] [bB h q z, vB g (q 0) na V] (.int (plE V x t m0)) := by
  refine cR.mk (by decide +kernel) (Nat.le_of_ble_eq_true rfl) ?_
  intro p e s m below meth c ls E hK hP hl
  obtain ⟨hx, hb, hr, hml, hts, hown, hlocks, hin⟩ := id E
  have hown : s.vm.findClass RX4 = some m.cls := hown
  have hl : lv_has ls 3 [(0, .ref h), (1, .int x), (2, .int m0)] := hl
  refine lv_iload_n hx hb dX4_planError_0 rfl (lv_at hl 1 rfl) ?_
  refine call_SR (As := [.int x]) (rest := []) E rfl hK hP (c_X4_isTown l g x) ok_X4_isTown rfl q1_198 [] rfl ⟨⟨rfl, rfl⟩, Nat.le_of_ble_eq_true rfl, Nat.le_of_ble_eq_true rfl⟩ hl.1 (Nat.le_of_ble_eq_true rfl) ⟨Nat.le_of_ble_eq_true rfl, Nat.le_of_ble_eq_true rfl⟩ rfl dX4_planError_1 ?_
  refine b_ne0 (tgt := 9) hx hb dX4_planError_4 (by decide) (fun h_1 => ?_) (fun h_1 => ?_)
  · obtain ⟨rfl, ht⟩ := hxt h_1
    refine lv_iload_n hx hb dX4_planError_9 rfl (lv_at hl 2 rfl) ?_
    refine lv_if_lt (tgt := 25) hx hb dX4_planError_10 (by decide) (fun h_2 => ?_) (fun h_2 => ?_)
    · refine lv_bipush (v := -2) hx hb dX4_planError_25 (by decide) ?_
      exact rI_ret hx hb hr hlocks dX4_planError_27 (by simp only [h_1, h_2, plE, isT,  not_true_eq_false, not_false_eq_true, and_true, true_and, and_false, false_and, and_self, or_true, true_or, or_false, false_or, ne_eq, ite_true, ite_false, reduceIte])
    · refine lv_iload_n hx hb dX4_planError_13 rfl (lv_at hl 2 rfl) ?_
      refine lv_aload_n hx hb dX4_planError_14 rfl (lv_at hl 0 rfl) ?_
      refine b_get (v := .ref (q 0)) hx hb hts inX4 hown hK hP 0 0 0 rfl rfl rfl (by decide) q1_161 rfl rfl dX4_planError_15 ?_
      refine lv_iload_n hx hb dX4_planError_18 rfl (lv_at hl 1 rfl) ?_
      refine call_VR (As := [.int (nI t)]) (rest := [.int m0]) E rfl hK hP (c_X3_everyBell l g (q 0) na V t (by omega)) ok_X3_everyBell rfl q2_78 [1] rfl (b_recv hK hP 1 0 rfl rfl rfl rfl) ⟨⟨rfl, rfl⟩, Nat.le_of_ble_eq_true rfl, Nat.le_of_ble_eq_true rfl⟩ hl.1 (Nat.le_of_ble_eq_true rfl) ⟨Nat.le_of_ble_eq_true rfl, Nat.le_of_ble_eq_true rfl⟩ rfl dX4_planError_19 ?_
      refine lv_icmp_le (tgt := 28) hx hb dX4_planError_22 (by decide) (fun h_3 => ?_) (fun h_3 => ?_)
      · refine lv_iconst (v := 0) hx hb dX4_planError_28 (by decide) ?_
        exact rI_ret hx hb hr hlocks dX4_planError_29 (by simp only [h_1, h_2, h_3, plE, isT,  not_true_eq_false, not_false_eq_true, and_true, true_and, and_false, false_and, and_self, or_true, true_or, or_false, false_or, ne_eq, ite_true, ite_false, reduceIte])
      · refine lv_bipush (v := -2) hx hb dX4_planError_25 (by decide) ?_
        exact rI_ret hx hb hr hlocks dX4_planError_27 (by simp only [h_1, h_2, h_3, plE, isT,  not_true_eq_false, not_false_eq_true, and_true, true_and, and_false, false_and, and_self, or_true, true_or, or_false, false_or, ne_eq, ite_true, ite_false, reduceIte])
  · refine lv_iconst (v := -1) hx hb dX4_planError_7 (by decide) ?_
    exact rI_ret hx hb hr hlocks dX4_planError_8 (by simp only [h_1, plE, isT,  not_true_eq_false, not_false_eq_true, and_true, true_and, and_false, false_and, and_self, or_true, true_or, or_false, false_or, ne_eq, ite_true, ite_false, reduceIte])

set_option maxHeartbeats 4000000 in
set_option maxRecDepth 100000 in
theorem c_X4_changePlan (l : Launch) (g : gx) (h : Nat) (q : Nat → Nat) (z : Int32) (na : Nat → Nat) (V : sV) (t : Nat) (ht : t < 6) (m0 : Int32)  : cU (S := Unit) l g yX4_changePlan cX4_changePlan 4 (some .int) ({ frames := 0, cells := 0, slots := 0, locals := 0 } : Room) [.ref h, .int (nI t), .int m0] [bB h q z, vB g (q 0) na V] (fun _ => some (.int (V 4 t))) (fun _ => True) (fun _ => [bB h q z, vB g (q 0) na (up2 V 4 t m0)]) := by
  refine cU.mk (by decide +kernel) (Nat.le_of_ble_eq_true rfl) ?_
  intro p e s m below meth c ls E hK hW hl
  obtain ⟨hx, hb, hr, hml, hts, hown, hlocks, hin⟩ := id E
  have hown : s.vm.findClass RX4 = some m.cls := hown
  have hP := hW.1
  have hl : lv_has ls 4 [(0, .ref h), (1, .int (nI t)), (2, .int m0)] := hl
  refine lv_aload_n hx hb dX4_changePlan_0 rfl (lv_at hl 0 rfl) ?_
  refine b_get (v := .ref (q 0)) hx hb hts inX4 hown hK hP 0 0 0 rfl rfl rfl (by decide) q1_161 rfl rfl dX4_changePlan_1 ?_
  refine b_get (v := .ref (na 4)) hx hb hts inX3 hown hK hP 1 0 4 rfl rfl rfl (by decide) q1_32 rfl rfl dX4_changePlan_4 ?_
  refine lv_iload_n hx hb dX4_changePlan_7 rfl (lv_at hl 1 rfl) ?_
  refine b_iald (v := V 4 t) hx hb hK hP 1 5 (t) rfl rfl rfl (by omega) rfl rfl dX4_changePlan_8 ?_
  refine lv_istore_n (lv' := [(3, .int (V 4 t)), (0, .ref h), (1, .int (nI t)), (2, .int m0)]) hx hb dX4_changePlan_9 rfl hl (by decide) rfl (fun ls hl => ?_)
  refine lv_aload_n hx hb dX4_changePlan_10 rfl (lv_at hl 1 rfl) ?_
  refine b_get (v := .ref (q 0)) hx hb hts inX4 hown hK hP 0 0 0 rfl rfl rfl (by decide) q1_161 rfl rfl dX4_changePlan_11 ?_
  refine b_get (v := .ref (na 4)) hx hb hts inX3 hown hK hP 1 0 4 rfl rfl rfl (by decide) q1_32 rfl rfl dX4_changePlan_14 ?_
  refine lv_iload_n hx hb dX4_changePlan_17 rfl (lv_at hl 2 rfl) ?_
  refine lv_iload_n hx hb dX4_changePlan_18 rfl (lv_at hl 3 rfl) ?_
  refine b_iast (B' := [bB h q z, vB g (q 0) na (up2 V 4 t m0)]) hx hb hK hW 1 5 (t) rfl rfl rfl (by omega) rfl rfl dX4_changePlan_19 (fun H locs hW => ?_)
  have hP := hW.1
  refine lv_iload_n hx hb dX4_changePlan_20 rfl (lv_at hl 0 rfl) ?_
  exact uI_ret () hW hx hb hr hlocks dX4_changePlan_21 (rfl) trivial (rfl) (adr2 (L := [[h], [q 0, na 0, na 1, na 2, na 3, na 4, na 5, na 6, na 7, na 8, na 9, na 10, na 11]]) rfl rfl)

set_option maxHeartbeats 4000000 in
set_option maxRecDepth 100000 in
theorem c_X4_spliceError (l : Launch) (g : gx) (h : Nat) (q : Nat → Nat) (z : Int32) (na : Nat → Nat) (V : sV) (x y : Int32) (t b : Nat) (hxy : hasB V x y → x = nI t ∧ t < 6 ∧ y = nI b ∧ b < 5)  : cR l g yX4_spliceError cX4_spliceError 3 (some .int) ({ frames := 2, cells := 0, slots := 0, locals := 42 } : Room) [.ref h, .int x, .int y] [bB h q z, vB g (q 0) na V] (.int (spE V x y t b)) := by
  refine cR.mk (by decide +kernel) (Nat.le_of_ble_eq_true rfl) ?_
  intro p e s m below meth c ls E hK hP hl
  obtain ⟨hx, hb, hr, hml, hts, hown, hlocks, hin⟩ := id E
  have hown : s.vm.findClass RX4 = some m.cls := hown
  have hl : lv_has ls 3 [(0, .ref h), (1, .int x), (2, .int y)] := hl
  refine lv_aload_n hx hb dX4_spliceError_0 rfl (lv_at hl 0 rfl) ?_
  refine b_get (v := .ref (q 0)) hx hb hts inX4 hown hK hP 0 0 0 rfl rfl rfl (by decide) q1_161 rfl rfl dX4_spliceError_1 ?_
  refine lv_iload_n hx hb dX4_spliceError_4 rfl (lv_at hl 1 rfl) ?_
  refine lv_iload_n hx hb dX4_spliceError_5 rfl (lv_at hl 2 rfl) ?_
  refine call_VR (As := [.int x, .int y]) (rest := []) E rfl hK hP (c_X3_hasBell l g (q 0) na V x y) ok_X3_hasBell rfl q2_15 [1] rfl (b_recv hK hP 1 0 rfl rfl rfl rfl) ⟨⟨rfl, rfl⟩, Nat.le_of_ble_eq_true rfl, Nat.le_of_ble_eq_true rfl⟩ hl.1 (Nat.le_of_ble_eq_true rfl) ⟨Nat.le_of_ble_eq_true rfl, Nat.le_of_ble_eq_true rfl⟩ rfl dX4_spliceError_6 ?_
  refine b_ne0 (tgt := 14) hx hb dX4_spliceError_9 (by decide) (fun h_1 => ?_) (fun h_1 => ?_)
  · have hHB := h_1
    obtain ⟨rfl, ht, rfl, hb5⟩ := hxy h_1
    refine lv_aload_n hx hb dX4_spliceError_14 rfl (lv_at hl 0 rfl) ?_
    refine b_get (v := .ref (q 0)) hx hb hts inX4 hown hK hP 0 0 0 rfl rfl rfl (by decide) q1_161 rfl rfl dX4_spliceError_15 ?_
    refine b_get (v := .ref (na 10)) hx hb hts inX3 hown hK hP 1 0 10 rfl rfl rfl (by decide) q1_47 rfl rfl dX4_spliceError_18 ?_
    refine lv_iload_n hx hb dX4_spliceError_21 rfl (lv_at hl 1 rfl) ?_
    refine lv_iload_n hx hb dX4_spliceError_22 rfl (lv_at hl 2 rfl) ?_
    refine call_SR (As := [.int (nI t), .int (nI b)]) (rest := [.ref (na 10)]) E rfl hK hP (c_X4_slot l g t b) ok_X4_slot rfl q2_20 [] rfl ⟨⟨rfl, rfl⟩, Nat.le_of_ble_eq_true rfl, Nat.le_of_ble_eq_true rfl⟩ hl.1 (Nat.le_of_ble_eq_true rfl) ⟨Nat.le_of_ble_eq_true rfl, Nat.le_of_ble_eq_true rfl⟩ rfl dX4_spliceError_23 ?_
    refine b_iald (v := V 10 (t * 5 + b)) hx hb hK hP 1 11 (t * 5 + b) rfl rfl rfl (by omega) rfl rfl dX4_spliceError_26 ?_
    refine lv_if_eq (tgt := 42) hx hb dX4_spliceError_27 (by decide) (fun h_2 => ?_) (fun h_2 => ?_)
    · refine lv_bipush (v := -4) hx hb dX4_spliceError_42 (by decide) ?_
      exact rI_ret hx hb hr hlocks dX4_spliceError_44 (by first | (simp only [spE, if_pos hHB]; simp only [h_1, h_2,  not_true_eq_false, not_false_eq_true, and_true, true_and, and_false, false_and, and_self, or_true, true_or, or_false, false_or, ne_eq, ite_true, ite_false, reduceIte]; done) | (simp only [spE, if_pos hHB, h_1, h_2, ite_true, ite_false, reduceIte]; done) | (simp only [spE, h_1, h_2, ite_true, ite_false, reduceIte]))
    · refine lv_aload_n hx hb dX4_spliceError_30 rfl (lv_at hl 0 rfl) ?_
      refine b_get (v := .ref (q 0)) hx hb hts inX4 hown hK hP 0 0 0 rfl rfl rfl (by decide) q1_161 rfl rfl dX4_spliceError_31 ?_
      refine lv_iload_n hx hb dX4_spliceError_34 rfl (lv_at hl 1 rfl) ?_
      refine call_VR (As := [.int (nI t)]) (rest := []) E rfl hK hP (c_X3_rested l g (q 0) na V t (by omega)) ok_X3_rested rfl q2_188 [1] rfl (b_recv hK hP 1 0 rfl rfl rfl rfl) ⟨⟨rfl, rfl⟩, Nat.le_of_ble_eq_true rfl, Nat.le_of_ble_eq_true rfl⟩ hl.1 (Nat.le_of_ble_eq_true rfl) ⟨Nat.le_of_ble_eq_true rfl, Nat.le_of_ble_eq_true rfl⟩ rfl dX4_spliceError_35 ?_
      refine lv_iconst (v := 2) hx hb dX4_spliceError_38 (by decide) ?_
      refine lv_icmp_ge (tgt := 45) hx hb dX4_spliceError_39 (by decide) (fun h_3 => ?_) (fun h_3 => ?_)
      · refine lv_iconst (v := 0) hx hb dX4_spliceError_45 (by decide) ?_
        exact rI_ret hx hb hr hlocks dX4_spliceError_46 (by first | (simp only [spE, if_pos hHB]; simp only [h_1, h_2, h_3,  not_true_eq_false, not_false_eq_true, and_true, true_and, and_false, false_and, and_self, or_true, true_or, or_false, false_or, ne_eq, ite_true, ite_false, reduceIte]; done) | (simp only [spE, if_pos hHB, h_1, h_2, h_3, ite_true, ite_false, reduceIte]; done) | (simp only [spE, h_1, h_2, h_3, ite_true, ite_false, reduceIte]))
      · refine lv_bipush (v := -4) hx hb dX4_spliceError_42 (by decide) ?_
        exact rI_ret hx hb hr hlocks dX4_spliceError_44 (by first | (simp only [spE, if_pos hHB]; simp only [h_1, h_2, h_3,  not_true_eq_false, not_false_eq_true, and_true, true_and, and_false, false_and, and_self, or_true, true_or, or_false, false_or, ne_eq, ite_true, ite_false, reduceIte]; done) | (simp only [spE, if_pos hHB, h_1, h_2, h_3, ite_true, ite_false, reduceIte]; done) | (simp only [spE, h_1, h_2, h_3, ite_true, ite_false, reduceIte]))
  · refine lv_iconst (v := -1) hx hb dX4_spliceError_12 (by decide) ?_
    exact rI_ret hx hb hr hlocks dX4_spliceError_13 (by first | (simp only [spE, if_pos hHB]; simp only [h_1,  not_true_eq_false, not_false_eq_true, and_true, true_and, and_false, false_and, and_self, or_true, true_or, or_false, false_or, ne_eq, ite_true, ite_false, reduceIte]; done) | (simp only [spE, if_pos hHB, h_1, ite_true, ite_false, reduceIte]; done) | (simp only [spE, h_1, ite_true, ite_false, reduceIte]))

set_option maxHeartbeats 4000000 in
set_option maxRecDepth 100000 in
theorem c_X4_mendRope (l : Launch) (g : gx) (h : Nat) (q : Nat → Nat) (z : Int32) (na : Nat → Nat) (V : sV) (t b : Nat) (ht : t < 6) (hb5 : b < 5)  : cU (S := Unit) l g yX4_mendRope cX4_mendRope 5 (some .int) ({ frames := 1, cells := 0, slots := 0, locals := 21 } : Room) [.ref h, .int (nI t), .int (nI b)] [bB h q z, vB g (q 0) na V] (fun _ => some (.int (V 10 (t * 5 + b)))) (fun _ => True) (fun _ => [bB h q z, vB g (q 0) na (up2 (up2 V 10 (t * 5 + b) 0) 2 t (V 2 t + 2))]) := by
  refine cU.mk (by decide +kernel) (Nat.le_of_ble_eq_true rfl) ?_
  intro p e s m below meth c ls E hK hW hl
  obtain ⟨hx, hb, hr, hml, hts, hown, hlocks, hin⟩ := id E
  have hown : s.vm.findClass RX4 = some m.cls := hown
  have hP := hW.1
  have hl : lv_has ls 5 [(0, .ref h), (1, .int (nI t)), (2, .int (nI b))] := hl
  refine lv_iload_n hx hb dX4_mendRope_0 rfl (lv_at hl 1 rfl) ?_
  refine lv_iload_n hx hb dX4_mendRope_1 rfl (lv_at hl 2 rfl) ?_
  refine call_SR (As := [.int (nI t), .int (nI b)]) (rest := []) E rfl hK hP (c_X4_slot l g t b) ok_X4_slot rfl q2_20 [] rfl ⟨⟨rfl, rfl⟩, Nat.le_of_ble_eq_true rfl, Nat.le_of_ble_eq_true rfl⟩ hl.1 (Nat.le_of_ble_eq_true rfl) ⟨Nat.le_of_ble_eq_true rfl, Nat.le_of_ble_eq_true rfl⟩ rfl dX4_mendRope_2 ?_
  refine lv_istore_n (lv' := [(3, .int (nI (t * 5 + b))), (0, .ref h), (1, .int (nI t)), (2, .int (nI b))]) hx hb dX4_mendRope_5 rfl hl (by decide) rfl (fun ls hl => ?_)
  refine lv_aload_n hx hb dX4_mendRope_6 rfl (lv_at hl 1 rfl) ?_
  refine b_get (v := .ref (q 0)) hx hb hts inX4 hown hK hP 0 0 0 rfl rfl rfl (by decide) q1_161 rfl rfl dX4_mendRope_7 ?_
  refine b_get (v := .ref (na 10)) hx hb hts inX3 hown hK hP 1 0 10 rfl rfl rfl (by decide) q1_47 rfl rfl dX4_mendRope_10 ?_
  refine lv_iload_n hx hb dX4_mendRope_13 rfl (lv_at hl 0 rfl) ?_
  refine b_iald (v := V 10 (t * 5 + b)) hx hb hK hP 1 11 (t * 5 + b) rfl rfl rfl (by omega) rfl rfl dX4_mendRope_14 ?_
  refine lv_istore (lv' := [(4, .int (V 10 (t * 5 + b))), (3, .int (nI (t * 5 + b))), (0, .ref h), (1, .int (nI t)), (2, .int (nI b))]) hx hb dX4_mendRope_15 hl (by decide) rfl (fun ls hl => ?_)
  refine lv_aload_n hx hb dX4_mendRope_17 rfl (lv_at hl 2 rfl) ?_
  refine b_get (v := .ref (q 0)) hx hb hts inX4 hown hK hP 0 0 0 rfl rfl rfl (by decide) q1_161 rfl rfl dX4_mendRope_18 ?_
  refine b_get (v := .ref (na 10)) hx hb hts inX3 hown hK hP 1 0 10 rfl rfl rfl (by decide) q1_47 rfl rfl dX4_mendRope_21 ?_
  refine lv_iload_n hx hb dX4_mendRope_24 rfl (lv_at hl 1 rfl) ?_
  refine lv_iconst (v := 0) hx hb dX4_mendRope_25 (by decide) ?_
  refine b_iast (B' := [bB h q z, vB g (q 0) na (up2 V 10 (t * 5 + b) 0)]) hx hb hK hW 1 11 (t * 5 + b) rfl rfl rfl (by omega) rfl rfl dX4_mendRope_26 (fun H locs hW => ?_)
  have hP := hW.1
  refine lv_aload_n hx hb dX4_mendRope_27 rfl (lv_at hl 2 rfl) ?_
  refine b_get (v := .ref (q 0)) hx hb hts inX4 hown hK hP 0 0 0 rfl rfl rfl (by decide) q1_161 rfl rfl dX4_mendRope_28 ?_
  refine b_get (v := .ref (na 2)) hx hb hts inX3 hown hK hP 1 0 2 rfl rfl rfl (by decide) q1_28 rfl rfl dX4_mendRope_31 ?_
  refine lv_iload_n hx hb dX4_mendRope_34 rfl (lv_at hl 3 rfl) ?_
  refine lv_dup2_11 hx hb dX4_mendRope_35 rfl rfl ?_
  refine b_iald (v := V 2 t) hx hb hK hP 1 3 (t) rfl rfl rfl (by omega) rfl rfl dX4_mendRope_36 ?_
  refine lv_iconst (v := 2) hx hb dX4_mendRope_37 (by decide) ?_
  refine lv_iadd hx hb dX4_mendRope_38 ?_
  refine b_iast (B' := [bB h q z, vB g (q 0) na (up2 (up2 V 10 (t * 5 + b) 0) 2 t ((V 2 t) + 2))]) hx hb hK hW 1 3 (t) rfl rfl rfl (by omega) rfl rfl dX4_mendRope_39 (fun H locs hW => ?_)
  have hP := hW.1
  refine lv_iload hx hb dX4_mendRope_40 (lv_at hl 0 rfl) ?_
  exact uI_ret () hW hx hb hr hlocks dX4_mendRope_42 (rfl) trivial (rfl) (adr2 (L := [[h], [q 0, na 0, na 1, na 2, na 3, na 4, na 5, na 6, na 7, na 8, na 9, na 10, na 11]]) rfl rfl)
