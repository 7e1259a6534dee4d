def dT (i : Nat) : Int32 := if i < 6 then nI (5 - i) else -1
theorem dT_nI {i : Nat} (h : i < 6) : dT i = nI (5 - i) := by rw [dT, if_pos h]
theorem dT_succ {i : Nat} (h : i < 6) : dT (i + 1) = dT i + (-1) := by
  rcases (show i = 0 ∨ i = 1 ∨ i = 2 ∨ i = 3 ∨ i = 4 ∨ i = 5 by omega) with rfl | rfl | rfl | rfl | rfl | rfl <;> decide
set_option maxHeartbeats 4000000 in
set_option maxRecDepth 100000 in
theorem c_X5_in (l : Launch) (g : gx) (v x y : Int32)  : cR l g yX5_in cX5_in 3 (some .boolean) ({ frames := 0, cells := 0, slots := 0, locals := 0 } : Room) [.int v, .int x, .int y] [] (.int (bI (inI v x y))) := by
  refine cR.mk (by decide +kernel) (Nat.le_of_ble_eq_true rfl) ?_
  intro p e s m below meth c ls E hK hP hl
  obtain ⟨hx, hb, hr, hml, hts, hown, hlocks, hin⟩ := id E
  have hown : s.vm.findClass RX5 = some m.cls := hown
  have hl : lv_has ls 3 [(0, .int v), (1, .int x), (2, .int y)] := hl
  refine lv_iload_n hx hb dX5_in_0 rfl (lv_at hl 0 rfl) ?_
  refine lv_iload_n hx hb dX5_in_1 rfl (lv_at hl 1 rfl) ?_
  refine lv_icmp_lt (tgt := 14) hx hb dX5_in_2 (by decide) (fun h_1 => ?_) (fun h_1 => ?_)
  · refine lv_iconst (v := 0) hx hb dX5_in_14 (by decide) ?_
    exact rZ_ret hx hb hr hlocks dX5_in_15 (by first | exact bI_t (by simp only [h_1, inI,  not_true_eq_false, not_false_eq_true, and_true, true_and, and_false, false_and, and_self, or_true, true_or, or_false, false_or, ne_eq, ite_true, ite_false, reduceIte]) | exact bI_f (by simp only [h_1, inI,  not_true_eq_false, not_false_eq_true, and_true, true_and, and_false, false_and, and_self, or_true, true_or, or_false, false_or, ne_eq, ite_true, ite_false, reduceIte]))
  · refine lv_iload_n hx hb dX5_in_5 rfl (lv_at hl 0 rfl) ?_
    refine lv_iload_n hx hb dX5_in_6 rfl (lv_at hl 2 rfl) ?_
    refine lv_icmp_gt (tgt := 14) hx hb dX5_in_7 (by decide) (fun h_2 => ?_) (fun h_2 => ?_)
    · refine lv_iconst (v := 0) hx hb dX5_in_14 (by decide) ?_
      exact rZ_ret hx hb hr hlocks dX5_in_15 (by first | exact bI_t (by simp only [h_1, h_2, inI,  not_true_eq_false, not_false_eq_true, and_true, true_and, and_false, false_and, and_self, or_true, true_or, or_false, false_or, ne_eq, ite_true, ite_false, reduceIte]) | exact bI_f (by simp only [h_1, h_2, inI,  not_true_eq_false, not_false_eq_true, and_true, true_and, and_false, false_and, and_self, or_true, true_or, or_false, false_or, ne_eq, ite_true, ite_false, reduceIte]))
    · refine lv_iconst (v := 1) hx hb dX5_in_10 (by decide) ?_
      refine lv_goto (tgt := 15) hx hb dX5_in_11 (by decide) ?_
      exact rZ_ret hx hb hr hlocks dX5_in_15 (by first | exact bI_t (by simp only [h_1, h_2, inI,  not_true_eq_false, not_false_eq_true, and_true, true_and, and_false, false_and, and_self, or_true, true_or, or_false, false_or, ne_eq, ite_true, ite_false, reduceIte]) | exact bI_f (by simp only [h_1, h_2, inI,  not_true_eq_false, not_false_eq_true, and_true, true_and, and_false, false_and, and_self, or_true, true_or, or_false, false_or, ne_eq, ite_true, ite_false, reduceIte]))

set_option maxHeartbeats 4000000 in
set_option maxRecDepth 100000 in
theorem c_X5_isTown (l : Launch) (g : gx) (x : Int32)  : cR l g yX5_isTown cX5_isTown 1 (some .boolean) ({ frames := 1, cells := 0, slots := 0, locals := 22 } : Room) [.int x] [] (.int (bI (isT x))) := by
  refine cR.mk (by decide +kernel) (Nat.le_of_ble_eq_true rfl) ?_
  intro p e s m below meth c ls E hK hP hl
  obtain ⟨hx, hb, hr, hml, hts, hown, hlocks, hin⟩ := id E
  have hown : s.vm.findClass RX5 = some m.cls := hown
  have hl : lv_has ls 1 [(0, .int x)] := hl
  refine lv_iload_n hx hb dX5_isTown_0 rfl (lv_at hl 0 rfl) ?_
  refine lv_iconst (v := 0) hx hb dX5_isTown_1 (by decide) ?_
  refine lv_iconst (v := 5) hx hb dX5_isTown_2 (by decide) ?_
  refine call_SR (As := [.int x, .int 0, .int 5]) (rest := []) E rfl hK hP (c_X5_in l g x 0 5) ok_X5_in rfl q3_91 [] rfl ⟨⟨rfl, rfl⟩, Nat.le_of_ble_eq_true rfl, Nat.le_of_ble_eq_true rfl⟩ hl.1 (Nat.le_of_ble_eq_true rfl) ⟨Nat.le_of_ble_eq_true rfl, Nat.le_of_ble_eq_true rfl⟩ rfl dX5_isTown_3 ?_
  exact rZ_ret hx hb hr hlocks dX5_isTown_6 (bI_iff (isT5 x))

set_option maxHeartbeats 4000000 in
set_option maxRecDepth 100000 in
theorem c_X5_of0 (l : Launch) (g : gx) (h : Nat) (a : Nat → Nat) (V X : sV) (t w : Nat) (ht : t < 6) (hw : w < 24) : cR l g yX5_of cX5_of 3 (some .int) ({ frames := 0, cells := 0, slots := 0, locals := 0 } : Room) [.ref h, .int (nI t), .int (nI w)] [mV g h a V X] (.int (rowOf V (5 + 24 * t + w))) := by
  refine cR.mk (by decide +kernel) (Nat.le_of_ble_eq_true rfl) ?_
  intro p e s m below meth c ls E hK hP hl
  obtain ⟨hx, hb, hr, hml, hts, hown, hlocks, hin⟩ := id E
  have hown : s.vm.findClass RX5 = some m.cls := hown
  have hl : lv_has ls 3 [(0, .ref h), (1, .int (nI t)), (2, .int (nI w))] := hl
  refine lv_aload_n hx hb dX5_of_0 rfl (lv_at hl 0 rfl) ?_
  refine b_get (v := .ref (a 0)) hx hb hts inX5 hown hK hP 0 0 0 rfl rfl rfl (by decide) q3_25 rfl rfl dX5_of_1 ?_
  refine lv_iconst (v := 5) hx hb dX5_of_4 (by decide) ?_
  refine lv_bipush (v := 24) hx hb dX5_of_5 (by decide) ?_
  refine lv_iload_n hx hb dX5_of_7 rfl (lv_at hl 1 rfl) ?_
  refine lv_imul hx hb dX5_of_8 ?_
  refine b_top (y := nI (24 * t)) (pk_mul 24 t) ?_
  refine lv_iadd hx hb dX5_of_9 ?_
  refine b_top (y := nI (5 + (24 * t))) (nI_add 5 (24 * t)) ?_
  refine lv_iload_n hx hb dX5_of_10 rfl (lv_at hl 2 rfl) ?_
  refine lv_iadd hx hb dX5_of_11 ?_
  refine b_top (y := nI ((5 + (24 * t)) + w)) (nI_add (5 + (24 * t)) w) ?_
  refine b_iald (v := rowOf V ((5 + (24 * t)) + w)) hx hb hK hP 0 1 ((5 + (24 * t)) + w) rfl rfl rfl (by omega) rfl rfl dX5_of_12 ?_
  exact rI_ret hx hb hr hlocks dX5_of_13 (rfl)

theorem c_X5_of_k (l : Launch) (g : gx) (h : Nat) (a : Nat → Nat) (V X : sV) (t w : Nat) (ht : t < 6) (hw : w < 9) : cR l g yX5_of cX5_of 3 (some .int) ({ frames := 0, cells := 0, slots := 0, locals := 0 } : Room) [.ref h, .int (nI t), .int (nI w)] [mV g h a V X] (.int (V w t)) := by
  have q := c_X5_of0 l g h a V X t w ht (by omega)
  rw [row_k V t hw] at q
  exact q

theorem c_X5_of_9 (l : Launch) (g : gx) (h : Nat) (a : Nat → Nat) (V X : sV) (t b : Nat) (ht : t < 6) (hb5 : b < 5) : cR l g yX5_of cX5_of 3 (some .int) ({ frames := 0, cells := 0, slots := 0, locals := 0 } : Room) [.ref h, .int (nI t), .int (nI (9 + b))] [mV g h a V X] (.int (V 9 (t * 5 + b))) := by
  have q := c_X5_of0 l g h a V X t (9 + b) ht (by omega)
  rw [show rowOf V (5 + 24 * t + (9 + b)) = V 9 (t * 5 + b) from row_b V t (i := 0) (by omega) hb5] at q
  exact q
theorem c_X5_of_10 (l : Launch) (g : gx) (h : Nat) (a : Nat → Nat) (V X : sV) (t b : Nat) (ht : t < 6) (hb5 : b < 5) : cR l g yX5_of cX5_of 3 (some .int) ({ frames := 0, cells := 0, slots := 0, locals := 0 } : Room) [.ref h, .int (nI t), .int (nI (14 + b))] [mV g h a V X] (.int (V 10 (t * 5 + b))) := by
  have q := c_X5_of0 l g h a V X t (14 + b) ht (by omega)
  rw [show rowOf V (5 + 24 * t + (14 + b)) = V 10 (t * 5 + b) from row_b V t (i := 1) (by omega) hb5] at q
  exact q
theorem c_X5_of_11 (l : Launch) (g : gx) (h : Nat) (a : Nat → Nat) (V X : sV) (t b : Nat) (ht : t < 6) (hb5 : b < 5) : cR l g yX5_of cX5_of 3 (some .int) ({ frames := 0, cells := 0, slots := 0, locals := 0 } : Room) [.ref h, .int (nI t), .int (nI (19 + b))] [mV g h a V X] (.int (V 11 (t * 5 + b))) := by
  have q := c_X5_of0 l g h a V X t (19 + b) ht (by omega)
  rw [show rowOf V (5 + 24 * t + (19 + b)) = V 11 (t * 5 + b) from row_b V t (i := 2) (by omega) hb5] at q
  exact q

set_option maxHeartbeats 4000000 in
set_option maxRecDepth 100000 in
theorem c_X5_put_k (l : Launch) (g : gx) (h : Nat) (a : Nat → Nat) (V X : sV) (t w : Nat) (x : Int32) (ht : t < 6) (hw : w < 9) : cU (S := Unit) l g yX5_put cX5_put 4 none ({ frames := 0, cells := 0, slots := 0, locals := 0 } : Room) [.ref h, .int (nI t), .int (nI w), .int x] [mV g h a V X] (fun _ => none) (fun _ => True) (fun _ => [mV g h a (up2 V w t x) X]) := by
  refine cU.mk (by decide +kernel) (Nat.le_of_ble_eq_true rfl) ?_
  intro p e s m below meth c ls E hK hW hl
  obtain ⟨hx, hb, hr, hml, hts, hown, hlocks, hin⟩ := id E
  have hown : s.vm.findClass RX5 = some m.cls := hown
  have hP := hW.1
  have hl : lv_has ls 4 [(0, .ref h), (1, .int (nI t)), (2, .int (nI w)), (3, .int x)] := hl
  refine lv_aload_n hx hb dX5_put_0 rfl (lv_at hl 0 rfl) ?_
  refine b_get (v := .ref (a 0)) hx hb hts inX5 hown hK hP 0 0 0 rfl rfl rfl (by decide) q3_25 rfl rfl dX5_put_1 ?_
  refine lv_iconst (v := 5) hx hb dX5_put_4 (by decide) ?_
  refine lv_bipush (v := 24) hx hb dX5_put_5 (by decide) ?_
  refine lv_iload_n hx hb dX5_put_7 rfl (lv_at hl 1 rfl) ?_
  refine lv_imul hx hb dX5_put_8 ?_
  refine b_top (y := nI (24 * t)) (pk_mul 24 t) ?_
  refine lv_iadd hx hb dX5_put_9 ?_
  refine b_top (y := nI (5 + (24 * t))) (nI_add 5 (24 * t)) ?_
  refine lv_iload_n hx hb dX5_put_10 rfl (lv_at hl 2 rfl) ?_
  refine lv_iadd hx hb dX5_put_11 ?_
  refine b_top (y := nI ((5 + (24 * t)) + w)) (nI_add (5 + (24 * t)) w) ?_
  refine lv_iload_n hx hb dX5_put_12 rfl (lv_at hl 3 rfl) ?_
  refine b_iastE (B' := [mV g h a (up2 V w t x) X]) hx hb hK hW 0 1 ((5 + (24 * t)) + w) rfl rfl rfl (by omega) rfl (row_put_k _ t hw _) rfl dX5_put_13 (fun H locs hW => ?_)
  have hP := hW.1
  exact uV_ret () hW hx hb hr hlocks dX5_put_14 trivial (rfl) (adr2 (L := [[h, a 0, a 1, a 2, a 3, a 4, a 5, a 6, a 7, a 8]]) rfl rfl)
