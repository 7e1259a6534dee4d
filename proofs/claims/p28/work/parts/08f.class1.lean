set_option maxHeartbeats 4000000 in
set_option maxRecDepth 100000 in
theorem c_X3_fillSlot (l : Launch) (g : gx) (h : Nat) (a : Nat → Nat) (V : sV) (s0 : Nat) (w x r : Int32) (hs : s0 < 30)  : cU (S := Unit) l g yX3_fillSlot cX3_fillSlot 5 none ({ frames := 0, cells := 0, slots := 0, locals := 0 } : Room) [.ref h, .int (nI s0), .int w, .int x, .int r] [vB g h a V] (fun _ => none) (fun _ => True) (fun _ => [vB g h a (fillV V s0 w x r)]) := by
  refine cU.mk (by decide +kernel) (Nat.le_of_ble_eq_true rfl) ?_
  intro p e s m below meth c ls E hK hW hl
  obtain ⟨hx, hb, hr, hml, hts, hown, hlocks, hin⟩ := id E
  have hown : s.vm.findClass RX3 = some m.cls := hown
  have hP := hW.1
  have hl : lv_has ls 5 [(0, .ref h), (1, .int (nI s0)), (2, .int w), (3, .int x), (4, .int r)] := hl
  refine lv_aload_n hx hb dX3_fillSlot_0 rfl (lv_at hl 0 rfl) ?_
  refine b_get (v := .ref (a 9)) hx hb hts inX3 hown hK hP 0 0 9 rfl rfl rfl (by decide) q1_42 rfl rfl dX3_fillSlot_1 ?_
  refine lv_iload_n hx hb dX3_fillSlot_4 rfl (lv_at hl 1 rfl) ?_
  refine lv_iload_n hx hb dX3_fillSlot_5 rfl (lv_at hl 2 rfl) ?_
  refine b_iast (B' := [vB g h a (up2 V 9 s0 w)]) hx hb hK hW 0 10 (s0) rfl rfl rfl (by omega) rfl rfl dX3_fillSlot_6 (fun H locs hW => ?_)
  have hP := hW.1
  refine lv_aload_n hx hb dX3_fillSlot_7 rfl (lv_at hl 0 rfl) ?_
  refine b_get (v := .ref (a 10)) hx hb hts inX3 hown hK hP 0 0 10 rfl rfl rfl (by decide) q1_45 rfl rfl dX3_fillSlot_8 ?_
  refine lv_iload_n hx hb dX3_fillSlot_11 rfl (lv_at hl 1 rfl) ?_
  refine lv_iload_n hx hb dX3_fillSlot_12 rfl (lv_at hl 3 rfl) ?_
  refine b_iast (B' := [vB g h a (up2 (up2 V 9 s0 w) 10 s0 x)]) hx hb hK hW 0 11 (s0) rfl rfl rfl (by omega) rfl rfl dX3_fillSlot_13 (fun H locs hW => ?_)
  have hP := hW.1
  refine lv_aload_n hx hb dX3_fillSlot_14 rfl (lv_at hl 0 rfl) ?_
  refine b_get (v := .ref (a 11)) hx hb hts inX3 hown hK hP 0 0 11 rfl rfl rfl (by decide) q1_48 rfl rfl dX3_fillSlot_15 ?_
  refine lv_iload_n hx hb dX3_fillSlot_18 rfl (lv_at hl 1 rfl) ?_
  refine lv_iload hx hb dX3_fillSlot_19 (lv_at hl 4 rfl) ?_
  refine b_iast (B' := [vB g h a (up2 (up2 (up2 V 9 s0 w) 10 s0 x) 11 s0 r)]) hx hb hK hW 0 12 (s0) rfl rfl rfl (by omega) rfl rfl dX3_fillSlot_21 (fun H locs hW => ?_)
  have hP := hW.1
  exact uV_ret () hW hx hb hr hlocks dX3_fillSlot_22 trivial (rfl) (adr2 (L := [[h, a 0, a 1, a 2, a 3, a 4, a 5, a 6, a 7, a 8, a 9, a 10, a 11]]) rfl rfl)

set_option maxHeartbeats 4000000 in
set_option maxRecDepth 100000 in
theorem c_X3_addBell (l : Launch) (g : gx) (h : Nat) (a : Nat → Nat) (V : sV) (t c0 : Nat) (w : Int32) (ht : t < 6) (hc : V 3 t = nI c0) (hc5 : c0 < 5)  : cU (S := Unit) l g yX3_addBell cX3_addBell 4 (some .int) ({ frames := 1, cells := 0, slots := 0, locals := 24 } : Room) [.ref h, .int (nI t), .int w] [vB g h a V] (fun _ => some (.int (nI c0))) (fun _ => True) (fun _ => [vB g h a (addV V t c0 w)]) := by
  refine cU.mk (by decide +kernel) (Nat.le_of_ble_eq_true rfl) ?_
  intro p e s m below meth c ls E hK hW hl
  obtain ⟨hx, hb, hr, hml, hts, hown, hlocks, hin⟩ := id E
  have hown : s.vm.findClass RX3 = some m.cls := hown
  have hP := hW.1
  have hl : lv_has ls 4 [(0, .ref h), (1, .int (nI t)), (2, .int w)] := hl
  refine lv_aload_n hx hb dX3_addBell_0 rfl (lv_at hl 0 rfl) ?_
  refine b_get (v := .ref (a 3)) hx hb hts inX3 hown hK hP 0 0 3 rfl rfl rfl (by decide) q1_29 rfl rfl dX3_addBell_1 ?_
  refine lv_iload_n hx hb dX3_addBell_4 rfl (lv_at hl 1 rfl) ?_
  refine b_iald (v := V 3 t) hx hb hK hP 0 4 (t) rfl rfl rfl (by omega) rfl rfl dX3_addBell_5 ?_
  refine b_top (y := nI c0) hc ?_
  refine lv_istore_n (lv' := [(3, .int (nI c0)), (0, .ref h), (1, .int (nI t)), (2, .int w)]) hx hb dX3_addBell_6 rfl hl (by decide) rfl (fun ls hl => ?_)
  refine lv_aload_n hx hb dX3_addBell_7 rfl (lv_at hl 1 rfl) ?_
  refine lv_iload_n hx hb dX3_addBell_8 rfl (lv_at hl 2 rfl) ?_
  refine lv_iload_n hx hb dX3_addBell_9 rfl (lv_at hl 0 rfl) ?_
  refine call_NR (As := [.int (nI t), .int (nI c0)]) (rest := [.ref h]) E rfl hK hP (c_X4_slot l g t c0) ok_X4_slot rfl hK.2.2.2.2.2.2 [] rfl ⟨⟨rfl, rfl⟩, Nat.le_of_ble_eq_true rfl, Nat.le_of_ble_eq_true rfl⟩ hl.1 (Nat.le_of_ble_eq_true rfl) ⟨Nat.le_of_ble_eq_true rfl, Nat.le_of_ble_eq_true rfl⟩ rfl dX3_addBell_10 ?_
  refine lv_iload_n hx hb dX3_addBell_13 rfl (lv_at hl 3 rfl) ?_
  refine lv_iconst (v := 0) hx hb dX3_addBell_14 (by decide) ?_
  refine lv_iconst (v := 0) hx hb dX3_addBell_15 (by decide) ?_
  refine call_VU (As := [.int (nI (t * 5 + c0)), .int w, .int 0, .int 0]) (rest := []) E rfl hK hW (c_X3_fillSlot l g h a V (t * 5 + c0) w 0 0 (by omega)) ok_X3_fillSlot rfl q2_168 [0] rfl (by decide) (b_recv hK hP 0 0 rfl rfl rfl rfl) ⟨⟨rfl, rfl⟩, Nat.le_of_ble_eq_true rfl, Nat.le_of_ble_eq_true rfl⟩ hl.1 (Nat.le_of_ble_eq_true rfl) ⟨Nat.le_of_ble_eq_true rfl, Nat.le_of_ble_eq_true rfl⟩ rfl dX3_addBell_16 (fun _u H locs _ hW => ?_)
  have hW : wd g _ s.heap [vB g h a (up2 (up2 (up2 V 9 (t * 5 + c0) w) 10 (t * 5 + c0) 0) 11 (t * 5 + c0) 0)] H locs := hW
  have hP := hW.1
  refine lv_aload_n hx hb dX3_addBell_19 rfl (lv_at hl 1 rfl) ?_
  refine b_get (v := .ref (a 3)) hx hb hts inX3 hown hK hP 0 0 3 rfl rfl rfl (by decide) q1_29 rfl rfl dX3_addBell_20 ?_
  refine lv_iload_n hx hb dX3_addBell_23 rfl (lv_at hl 2 rfl) ?_
  refine lv_iload_n hx hb dX3_addBell_24 rfl (lv_at hl 0 rfl) ?_
  refine lv_iconst (v := 1) hx hb dX3_addBell_25 (by decide) ?_
  refine lv_iadd hx hb dX3_addBell_26 ?_
  refine b_top (y := nI (c0 + 1)) (nI_add c0 1) ?_
  refine b_iast (B' := [vB g h a (up2 (up2 (up2 (up2 V 9 (t * 5 + c0) w) 10 (t * 5 + c0) 0) 11 (t * 5 + c0) 0) 3 t (nI (c0 + 1)))]) hx hb hK hW 0 4 (t) rfl rfl rfl (by omega) rfl rfl dX3_addBell_27 (fun H locs hW => ?_)
  have hP := hW.1
  refine lv_iload_n hx hb dX3_addBell_28 rfl (lv_at hl 0 rfl) ?_
  exact uI_ret () hW hx hb hr hlocks dX3_addBell_29 (rfl) trivial (rfl) (adr2 (L := [[h, a 0, a 1, a 2, a 3, a 4, a 5, a 6, a 7, a 8, a 9, a 10, a 11]]) rfl rfl)
