set_option maxHeartbeats 4000000 in
set_option maxRecDepth 100000 in
theorem c_X3_copyTowns_5 (l : Launch) (g : gx) (o : Nat) (oa : Nat → Nat) (W1 : sV) (h : Nat) (a : Nat → Nat) (V : sV)  : cU (S := Unit) l g yX3_copyTowns cX3_copyTowns 2 none ({ frames := 1, cells := 0, slots := 0, locals := 60 } : Room) [.ref (oa 5), .ref (a 5)] [vB g o oa W1, vB g h a (cpV W1 V 5)] (fun _ => none) (fun _ => True) (fun _ => [vB g o oa W1, vB g h a (cpV W1 V 6)]) := by
  refine cU.mk (by decide +kernel) (Nat.le_of_ble_eq_true rfl) ?_
  intro p e s m below meth c ls E hK hW hl
  obtain ⟨hx, hb, hr, hml, hts, hown, hlocks, hin⟩ := id E
  have hown : s.vm.findClass RX3 = some m.cls := hown
  have hP := hW.1
  have hl : lv_has ls 2 [(0, .ref (oa 5)), (1, .ref (a 5))] := hl
  refine lv_aload_n hx hb dX3_copyTowns_0 rfl (lv_at hl 0 rfl) ?_
  refine lv_iconst (v := 0) hx hb dX3_copyTowns_1 (by decide) ?_
  refine lv_aload_n hx hb dX3_copyTowns_2 rfl (lv_at hl 1 rfl) ?_
  refine lv_iconst (v := 0) hx hb dX3_copyTowns_3 (by decide) ?_
  refine lv_bipush (v := 6) hx hb dX3_copyTowns_4 (by decide) ?_
  refine b_copy (B' := [vB g o oa W1, vB g h a (cpV W1 V 6)]) hx hb (hml.trans hl.1.symm) hown hts q2_86 q2_88 q2_87 q1_7 hK hW 0 6 1 6 rfl rfl rfl rfl rfl rfl (Nat.le_of_ble_eq_true rfl) (Nat.le_of_ble_eq_true rfl) rfl dX3_copyTowns_6 (fun H locs hW => ?_)
  have hP := hW.1
  exact uV_ret () hW hx hb hr hlocks dX3_copyTowns_9 trivial (rfl) (adr2 (L := [[o, oa 0, oa 1, oa 2, oa 3, oa 4, oa 5, oa 6, oa 7, oa 8, oa 9, oa 10, oa 11], [h, a 0, a 1, a 2, a 3, a 4, a 5, a 6, a 7, a 8, a 9, a 10, a 11]]) rfl rfl)

set_option maxHeartbeats 4000000 in
set_option maxRecDepth 100000 in
theorem c_X3_copyTowns_6 (l : Launch) (g : gx) (o : Nat) (oa : Nat → Nat) (W1 : sV) (h : Nat) (a : Nat → Nat) (V : sV)  : cU (S := Unit) l g yX3_copyTowns cX3_copyTowns 2 none ({ frames := 1, cells := 0, slots := 0, locals := 60 } : Room) [.ref (oa 6), .ref (a 6)] [vB g o oa W1, vB g h a (cpV W1 V 6)] (fun _ => none) (fun _ => True) (fun _ => [vB g o oa W1, vB g h a (cpV W1 V 7)]) := by
  refine cU.mk (by decide +kernel) (Nat.le_of_ble_eq_true rfl) ?_
  intro p e s m below meth c ls E hK hW hl
  obtain ⟨hx, hb, hr, hml, hts, hown, hlocks, hin⟩ := id E
  have hown : s.vm.findClass RX3 = some m.cls := hown
  have hP := hW.1
  have hl : lv_has ls 2 [(0, .ref (oa 6)), (1, .ref (a 6))] := hl
  refine lv_aload_n hx hb dX3_copyTowns_0 rfl (lv_at hl 0 rfl) ?_
  refine lv_iconst (v := 0) hx hb dX3_copyTowns_1 (by decide) ?_
  refine lv_aload_n hx hb dX3_copyTowns_2 rfl (lv_at hl 1 rfl) ?_
  refine lv_iconst (v := 0) hx hb dX3_copyTowns_3 (by decide) ?_
  refine lv_bipush (v := 6) hx hb dX3_copyTowns_4 (by decide) ?_
  refine b_copy (B' := [vB g o oa W1, vB g h a (cpV W1 V 7)]) hx hb (hml.trans hl.1.symm) hown hts q2_86 q2_88 q2_87 q1_7 hK hW 0 7 1 7 rfl rfl rfl rfl rfl rfl (Nat.le_of_ble_eq_true rfl) (Nat.le_of_ble_eq_true rfl) rfl dX3_copyTowns_6 (fun H locs hW => ?_)
  have hP := hW.1
  exact uV_ret () hW hx hb hr hlocks dX3_copyTowns_9 trivial (rfl) (adr2 (L := [[o, oa 0, oa 1, oa 2, oa 3, oa 4, oa 5, oa 6, oa 7, oa 8, oa 9, oa 10, oa 11], [h, a 0, a 1, a 2, a 3, a 4, a 5, a 6, a 7, a 8, a 9, a 10, a 11]]) rfl rfl)

set_option maxHeartbeats 4000000 in
set_option maxRecDepth 100000 in
theorem c_X3_copyTowns_7 (l : Launch) (g : gx) (o : Nat) (oa : Nat → Nat) (W1 : sV) (h : Nat) (a : Nat → Nat) (V : sV)  : cU (S := Unit) l g yX3_copyTowns cX3_copyTowns 2 none ({ frames := 1, cells := 0, slots := 0, locals := 60 } : Room) [.ref (oa 7), .ref (a 7)] [vB g o oa W1, vB g h a (cpV W1 V 7)] (fun _ => none) (fun _ => True) (fun _ => [vB g o oa W1, vB g h a (cpV W1 V 8)]) := by
  refine cU.mk (by decide +kernel) (Nat.le_of_ble_eq_true rfl) ?_
  intro p e s m below meth c ls E hK hW hl
  obtain ⟨hx, hb, hr, hml, hts, hown, hlocks, hin⟩ := id E
  have hown : s.vm.findClass RX3 = some m.cls := hown
  have hP := hW.1
  have hl : lv_has ls 2 [(0, .ref (oa 7)), (1, .ref (a 7))] := hl
  refine lv_aload_n hx hb dX3_copyTowns_0 rfl (lv_at hl 0 rfl) ?_
  refine lv_iconst (v := 0) hx hb dX3_copyTowns_1 (by decide) ?_
  refine lv_aload_n hx hb dX3_copyTowns_2 rfl (lv_at hl 1 rfl) ?_
  refine lv_iconst (v := 0) hx hb dX3_copyTowns_3 (by decide) ?_
  refine lv_bipush (v := 6) hx hb dX3_copyTowns_4 (by decide) ?_
  refine b_copy (B' := [vB g o oa W1, vB g h a (cpV W1 V 8)]) hx hb (hml.trans hl.1.symm) hown hts q2_86 q2_88 q2_87 q1_7 hK hW 0 8 1 8 rfl rfl rfl rfl rfl rfl (Nat.le_of_ble_eq_true rfl) (Nat.le_of_ble_eq_true rfl) rfl dX3_copyTowns_6 (fun H locs hW => ?_)
  have hP := hW.1
  exact uV_ret () hW hx hb hr hlocks dX3_copyTowns_9 trivial (rfl) (adr2 (L := [[o, oa 0, oa 1, oa 2, oa 3, oa 4, oa 5, oa 6, oa 7, oa 8, oa 9, oa 10, oa 11], [h, a 0, a 1, a 2, a 3, a 4, a 5, a 6, a 7, a 8, a 9, a 10, a 11]]) rfl rfl)

set_option maxHeartbeats 4000000 in
set_option maxRecDepth 100000 in
theorem c_X3_copyTowns_8 (l : Launch) (g : gx) (o : Nat) (oa : Nat → Nat) (W1 : sV) (h : Nat) (a : Nat → Nat) (V : sV)  : cU (S := Unit) l g yX3_copyTowns cX3_copyTowns 2 none ({ frames := 1, cells := 0, slots := 0, locals := 60 } : Room) [.ref (oa 8), .ref (a 8)] [vB g o oa W1, vB g h a (cpV W1 V 8)] (fun _ => none) (fun _ => True) (fun _ => [vB g o oa W1, vB g h a (cpV W1 V 9)]) := by
  refine cU.mk (by decide +kernel) (Nat.le_of_ble_eq_true rfl) ?_
  intro p e s m below meth c ls E hK hW hl
  obtain ⟨hx, hb, hr, hml, hts, hown, hlocks, hin⟩ := id E
  have hown : s.vm.findClass RX3 = some m.cls := hown
  have hP := hW.1
  have hl : lv_has ls 2 [(0, .ref (oa 8)), (1, .ref (a 8))] := hl
  refine lv_aload_n hx hb dX3_copyTowns_0 rfl (lv_at hl 0 rfl) ?_
  refine lv_iconst (v := 0) hx hb dX3_copyTowns_1 (by decide) ?_
  refine lv_aload_n hx hb dX3_copyTowns_2 rfl (lv_at hl 1 rfl) ?_
  refine lv_iconst (v := 0) hx hb dX3_copyTowns_3 (by decide) ?_
  refine lv_bipush (v := 6) hx hb dX3_copyTowns_4 (by decide) ?_
  refine b_copy (B' := [vB g o oa W1, vB g h a (cpV W1 V 9)]) hx hb (hml.trans hl.1.symm) hown hts q2_86 q2_88 q2_87 q1_7 hK hW 0 9 1 9 rfl rfl rfl rfl rfl rfl (Nat.le_of_ble_eq_true rfl) (Nat.le_of_ble_eq_true rfl) rfl dX3_copyTowns_6 (fun H locs hW => ?_)
  have hP := hW.1
  exact uV_ret () hW hx hb hr hlocks dX3_copyTowns_9 trivial (rfl) (adr2 (L := [[o, oa 0, oa 1, oa 2, oa 3, oa 4, oa 5, oa 6, oa 7, oa 8, oa 9, oa 10, oa 11], [h, a 0, a 1, a 2, a 3, a 4, a 5, a 6, a 7, a 8, a 9, a 10, a 11]]) rfl rfl)
