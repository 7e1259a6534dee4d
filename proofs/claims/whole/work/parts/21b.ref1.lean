set_option maxHeartbeats 4000000 in
set_option maxRecDepth 100000 in
theorem c_X5_put_9 (l : Launch) (g : gx) (h : Nat) (a : Nat → Nat) (V X : sV) (t b : Nat) (x : Int32) (ht : t < 6) (hb5 : b < 5) : cU (S := Unit) l g yX5_put cX5_put 4 none ({ frames := 0, cells := 0, slots := 0, locals := 0 } : Room) [.ref h, .int (nI t), .int (nI (9 + b)), .int x] [mV g h a V X] (fun _ => none) (fun _ => True) (fun _ => [mV g h a (up2 V 9 (t * 5 + b) x) X]) := by
  refine cU.mk (by decide +kernel) (Nat.le_of_ble_eq_true rfl) ?_
  intro p e s m below meth c ls E hK hW hl
  obtain ⟨hx, hb, hr, hml, hts, hown, hlocks, hin⟩ := id E
  have hown : s.vm.findClass RX5 = some m.cls := hown
  have hP := hW.1
  have hl : lv_has ls 4 [(0, .ref h), (1, .int (nI t)), (2, .int (nI (9 + b))), (3, .int x)] := hl
  refine lv_aload_n hx hb dX5_put_0 rfl (lv_at hl 0 rfl) ?_
  refine b_get (v := .ref (a 0)) hx hb hts inX5 hown hK hP 0 0 0 rfl rfl rfl (by decide) q3_25 rfl rfl dX5_put_1 ?_
  refine lv_iconst (v := 5) hx hb dX5_put_4 (by decide) ?_
  refine lv_bipush (v := 24) hx hb dX5_put_5 (by decide) ?_
  refine lv_iload_n hx hb dX5_put_7 rfl (lv_at hl 1 rfl) ?_
  refine lv_imul hx hb dX5_put_8 ?_
  refine b_top (y := nI (24 * t)) (pk_mul 24 t) ?_
  refine lv_iadd hx hb dX5_put_9 ?_
  refine b_top (y := nI (5 + (24 * t))) (nI_add 5 (24 * t)) ?_
  refine lv_iload_n hx hb dX5_put_10 rfl (lv_at hl 2 rfl) ?_
  refine lv_iadd hx hb dX5_put_11 ?_
  refine b_top (y := nI ((5 + (24 * t)) + (9 + b))) (nI_add (5 + (24 * t)) (9 + b)) ?_
  refine lv_iload_n hx hb dX5_put_12 rfl (lv_at hl 3 rfl) ?_
  refine b_iastE (B' := [mV g h a (up2 V 9 (t * 5 + b) x) X]) hx hb hK hW 0 1 ((5 + (24 * t)) + (9 + b)) rfl rfl rfl (by omega) rfl (row_put_b _ t (i := 0) (by omega) hb5 _) rfl dX5_put_13 (fun H locs hW => ?_)
  have hP := hW.1
  exact uV_ret () hW hx hb hr hlocks dX5_put_14 trivial (rfl) (adr2 (L := [[h, a 0, a 1, a 2, a 3, a 4, a 5, a 6, a 7, a 8]]) rfl rfl)

set_option maxHeartbeats 4000000 in
set_option maxRecDepth 100000 in
theorem c_X5_put_10 (l : Launch) (g : gx) (h : Nat) (a : Nat → Nat) (V X : sV) (t b : Nat) (x : Int32) (ht : t < 6) (hb5 : b < 5) : cU (S := Unit) l g yX5_put cX5_put 4 none ({ frames := 0, cells := 0, slots := 0, locals := 0 } : Room) [.ref h, .int (nI t), .int (nI (14 + b)), .int x] [mV g h a V X] (fun _ => none) (fun _ => True) (fun _ => [mV g h a (up2 V 10 (t * 5 + b) x) X]) := by
  refine cU.mk (by decide +kernel) (Nat.le_of_ble_eq_true rfl) ?_
  intro p e s m below meth c ls E hK hW hl
  obtain ⟨hx, hb, hr, hml, hts, hown, hlocks, hin⟩ := id E
  have hown : s.vm.findClass RX5 = some m.cls := hown
  have hP := hW.1
  have hl : lv_has ls 4 [(0, .ref h), (1, .int (nI t)), (2, .int (nI (14 + b))), (3, .int x)] := hl
  refine lv_aload_n hx hb dX5_put_0 rfl (lv_at hl 0 rfl) ?_
  refine b_get (v := .ref (a 0)) hx hb hts inX5 hown hK hP 0 0 0 rfl rfl rfl (by decide) q3_25 rfl rfl dX5_put_1 ?_
  refine lv_iconst (v := 5) hx hb dX5_put_4 (by decide) ?_
  refine lv_bipush (v := 24) hx hb dX5_put_5 (by decide) ?_
  refine lv_iload_n hx hb dX5_put_7 rfl (lv_at hl 1 rfl) ?_
  refine lv_imul hx hb dX5_put_8 ?_
  refine b_top (y := nI (24 * t)) (pk_mul 24 t) ?_
  refine lv_iadd hx hb dX5_put_9 ?_
  refine b_top (y := nI (5 + (24 * t))) (nI_add 5 (24 * t)) ?_
  refine lv_iload_n hx hb dX5_put_10 rfl (lv_at hl 2 rfl) ?_
  refine lv_iadd hx hb dX5_put_11 ?_
  refine b_top (y := nI ((5 + (24 * t)) + (14 + b))) (nI_add (5 + (24 * t)) (14 + b)) ?_
  refine lv_iload_n hx hb dX5_put_12 rfl (lv_at hl 3 rfl) ?_
  refine b_iastE (B' := [mV g h a (up2 V 10 (t * 5 + b) x) X]) hx hb hK hW 0 1 ((5 + (24 * t)) + (14 + b)) rfl rfl rfl (by omega) rfl (row_put_b _ t (i := 1) (by omega) hb5 _) rfl dX5_put_13 (fun H locs hW => ?_)
  have hP := hW.1
  exact uV_ret () hW hx hb hr hlocks dX5_put_14 trivial (rfl) (adr2 (L := [[h, a 0, a 1, a 2, a 3, a 4, a 5, a 6, a 7, a 8]]) rfl rfl)

set_option maxHeartbeats 4000000 in
set_option maxRecDepth 100000 in
theorem c_X5_put_11 (l : Launch) (g : gx) (h : Nat) (a : Nat → Nat) (V X : sV) (t b : Nat) (x : Int32) (ht : t < 6) (hb5 : b < 5) : cU (S := Unit) l g yX5_put cX5_put 4 none ({ frames := 0, cells := 0, slots := 0, locals := 0 } : Room) [.ref h, .int (nI t), .int (nI (19 + b)), .int x] [mV g h a V X] (fun _ => none) (fun _ => True) (fun _ => [mV g h a (up2 V 11 (t * 5 + b) x) X]) := by
  refine cU.mk (by decide +kernel) (Nat.le_of_ble_eq_true rfl) ?_
  intro p e s m below meth c ls E hK hW hl
  obtain ⟨hx, hb, hr, hml, hts, hown, hlocks, hin⟩ := id E
  have hown : s.vm.findClass RX5 = some m.cls := hown
  have hP := hW.1
  have hl : lv_has ls 4 [(0, .ref h), (1, .int (nI t)), (2, .int (nI (19 + b))), (3, .int x)] := hl
  refine lv_aload_n hx hb dX5_put_0 rfl (lv_at hl 0 rfl) ?_
  refine b_get (v := .ref (a 0)) hx hb hts inX5 hown hK hP 0 0 0 rfl rfl rfl (by decide) q3_25 rfl rfl dX5_put_1 ?_
  refine lv_iconst (v := 5) hx hb dX5_put_4 (by decide) ?_
  refine lv_bipush (v := 24) hx hb dX5_put_5 (by decide) ?_
  refine lv_iload_n hx hb dX5_put_7 rfl (lv_at hl 1 rfl) ?_
  refine lv_imul hx hb dX5_put_8 ?_
  refine b_top (y := nI (24 * t)) (pk_mul 24 t) ?_
  refine lv_iadd hx hb dX5_put_9 ?_
  refine b_top (y := nI (5 + (24 * t))) (nI_add 5 (24 * t)) ?_
  refine lv_iload_n hx hb dX5_put_10 rfl (lv_at hl 2 rfl) ?_
  refine lv_iadd hx hb dX5_put_11 ?_
  refine b_top (y := nI ((5 + (24 * t)) + (19 + b))) (nI_add (5 + (24 * t)) (19 + b)) ?_
  refine lv_iload_n hx hb dX5_put_12 rfl (lv_at hl 3 rfl) ?_
  refine b_iastE (B' := [mV g h a (up2 V 11 (t * 5 + b) x) X]) hx hb hK hW 0 1 ((5 + (24 * t)) + (19 + b)) rfl rfl rfl (by omega) rfl (row_put_b _ t (i := 2) (by omega) hb5 _) rfl dX5_put_13 (fun H locs hW => ?_)
  have hP := hW.1
  exact uV_ret () hW hx hb hr hlocks dX5_put_14 trivial (rfl) (adr2 (L := [[h, a 0, a 1, a 2, a 3, a 4, a 5, a 6, a 7, a 8]]) rfl rfl)
