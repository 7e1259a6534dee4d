set_option maxHeartbeats 4000000 in
set_option maxRecDepth 100000 in
theorem c_X3_copyTowns_1 (l : Launch) (g : gx) (o : Nat) (oa : Nat → Nat) (W1 : sV) (h : Nat) (a : Nat → Nat) (V : sV)  : cU (S := Unit) l g yX3_copyTowns cX3_copyTowns 2 none ({ frames := 1, cells := 0, slots := 0, locals := 60 } : Room) [.ref (oa 1), .ref (a 1)] [vB g o oa W1, vB g h a (cpV W1 V 1)] (fun _ => none) (fun _ => True) (fun _ => [vB g o oa W1, vB g h a (cpV W1 V 2)]) := by
  refine cU.mk (by decide +kernel) (Nat.le_of_ble_eq_true rfl) ?_
  intro p e s m below meth c ls E hK hW hl
  obtain ⟨hx, hb, hr, hml, hts, hown, hlocks, hin⟩ := id E
  have hown : s.vm.findClass RX3 = some m.cls := hown
  have hP := hW.1
  have hl : lv_has ls 2 [(0, .ref (oa 1)), (1, .ref (a 1))] := hl
  refine lv_aload_n hx hb dX3_copyTowns_0 rfl (lv_at hl 0 rfl) ?_
  refine lv_iconst (v := 0) hx hb dX3_copyTowns_1 (by decide) ?_
  refine lv_aload_n hx hb dX3_copyTowns_2 rfl (lv_at hl 1 rfl) ?_
  refine lv_iconst (v := 0) hx hb dX3_copyTowns_3 (by decide) ?_
  refine lv_bipush (v := 6) hx hb dX3_copyTowns_4 (by decide) ?_
  refine b_copy (B' := [vB g o oa W1, vB g h a (cpV W1 V 2)]) hx hb (hml.trans hl.1.symm) hown hts q2_86 q2_88 q2_87 q1_7 hK hW 0 2 1 2 rfl rfl rfl rfl rfl rfl (Nat.le_of_ble_eq_true rfl) (Nat.le_of_ble_eq_true rfl) rfl dX3_copyTowns_6 (fun H locs hW => ?_)
  have hP := hW.1
  exact uV_ret () hW hx hb hr hlocks dX3_copyTowns_9 trivial (rfl) (adr2 (L := [[o, oa 0, oa 1, oa 2, oa 3, oa 4, oa 5, oa 6, oa 7, oa 8, oa 9, oa 10, oa 11], [h, a 0, a 1, a 2, a 3, a 4, a 5, a 6, a 7, a 8, a 9, a 10, a 11]]) rfl rfl)

set_option maxHeartbeats 4000000 in
set_option maxRecDepth 100000 in
theorem c_X3_copyTowns_2 (l : Launch) (g : gx) (o : Nat) (oa : Nat → Nat) (W1 : sV) (h : Nat) (a : Nat → Nat) (V : sV)  : cU (S := Unit) l g yX3_copyTowns cX3_copyTowns 2 none ({ frames := 1, cells := 0, slots := 0, locals := 60 } : Room) [.ref (oa 2), .ref (a 2)] [vB g o oa W1, vB g h a (cpV W1 V 2)] (fun _ => none) (fun _ => True) (fun _ => [vB g o oa W1, vB g h a (cpV W1 V 3)]) := by
  refine cU.mk (by decide +kernel) (Nat.le_of_ble_eq_true rfl) ?_
  intro p e s m below meth c ls E hK hW hl
  obtain ⟨hx, hb, hr, hml, hts, hown, hlocks, hin⟩ := id E
  have hown : s.vm.findClass RX3 = some m.cls := hown
  have hP := hW.1
  have hl : lv_has ls 2 [(0, .ref (oa 2)), (1, .ref (a 2))] := hl
  refine lv_aload_n hx hb dX3_copyTowns_0 rfl (lv_at hl 0 rfl) ?_
  refine lv_iconst (v := 0) hx hb dX3_copyTowns_1 (by decide) ?_
  refine lv_aload_n hx hb dX3_copyTowns_2 rfl (lv_at hl 1 rfl) ?_
  refine lv_iconst (v := 0) hx hb dX3_copyTowns_3 (by decide) ?_
  refine lv_bipush (v := 6) hx hb dX3_copyTowns_4 (by decide) ?_
  refine b_copy (B' := [vB g o oa W1, vB g h a (cpV W1 V 3)]) hx hb (hml.trans hl.1.symm) hown hts q2_86 q2_88 q2_87 q1_7 hK hW 0 3 1 3 rfl rfl rfl rfl rfl rfl (Nat.le_of_ble_eq_true rfl) (Nat.le_of_ble_eq_true rfl) rfl dX3_copyTowns_6 (fun H locs hW => ?_)
  have hP := hW.1
  exact uV_ret () hW hx hb hr hlocks dX3_copyTowns_9 trivial (rfl) (adr2 (L := [[o, oa 0, oa 1, oa 2, oa 3, oa 4, oa 5, oa 6, oa 7, oa 8, oa 9, oa 10, oa 11], [h, a 0, a 1, a 2, a 3, a 4, a 5, a 6, a 7, a 8, a 9, a 10, a 11]]) rfl rfl)

set_option maxHeartbeats 4000000 in
set_option maxRecDepth 100000 in
theorem c_X3_copyTowns_3 (l : Launch) (g : gx) (o : Nat) (oa : Nat → Nat) (W1 : sV) (h : Nat) (a : Nat → Nat) (V : sV)  : cU (S := Unit) l g yX3_copyTowns cX3_copyTowns 2 none ({ frames := 1, cells := 0, slots := 0, locals := 60 } : Room) [.ref (oa 3), .ref (a 3)] [vB g o oa W1, vB g h a (cpV W1 V 3)] (fun _ => none) (fun _ => True) (fun _ => [vB g o oa W1, vB g h a (cpV W1 V 4)]) := by
  refine cU.mk (by decide +kernel) (Nat.le_of_ble_eq_true rfl) ?_
  intro p e s m below meth c ls E hK hW hl
  obtain ⟨hx, hb, hr, hml, hts, hown, hlocks, hin⟩ := id E
  have hown : s.vm.findClass RX3 = some m.cls := hown
  have hP := hW.1
  have hl : lv_has ls 2 [(0, .ref (oa 3)), (1, .ref (a 3))] := hl
  refine lv_aload_n hx hb dX3_copyTowns_0 rfl (lv_at hl 0 rfl) ?_
  refine lv_iconst (v := 0) hx hb dX3_copyTowns_1 (by decide) ?_
  refine lv_aload_n hx hb dX3_copyTowns_2 rfl (lv_at hl 1 rfl) ?_
  refine lv_iconst (v := 0) hx hb dX3_copyTowns_3 (by decide) ?_
  refine lv_bipush (v := 6) hx hb dX3_copyTowns_4 (by decide) ?_
  refine b_copy (B' := [vB g o oa W1, vB g h a (cpV W1 V 4)]) hx hb (hml.trans hl.1.symm) hown hts q2_86 q2_88 q2_87 q1_7 hK hW 0 4 1 4 rfl rfl rfl rfl rfl rfl (Nat.le_of_ble_eq_true rfl) (Nat.le_of_ble_eq_true rfl) rfl dX3_copyTowns_6 (fun H locs hW => ?_)
  have hP := hW.1
  exact uV_ret () hW hx hb hr hlocks dX3_copyTowns_9 trivial (rfl) (adr2 (L := [[o, oa 0, oa 1, oa 2, oa 3, oa 4, oa 5, oa 6, oa 7, oa 8, oa 9, oa 10, oa 11], [h, a 0, a 1, a 2, a 3, a 4, a 5, a 6, a 7, a 8, a 9, a 10, a 11]]) rfl rfl)

set_option maxHeartbeats 4000000 in
set_option maxRecDepth 100000 in
theorem c_X3_copyTowns_4 (l : Launch) (g : gx) (o : Nat) (oa : Nat → Nat) (W1 : sV) (h : Nat) (a : Nat → Nat) (V : sV)  : cU (S := Unit) l g yX3_copyTowns cX3_copyTowns 2 none ({ frames := 1, cells := 0, slots := 0, locals := 60 } : Room) [.ref (oa 4), .ref (a 4)] [vB g o oa W1, vB g h a (cpV W1 V 4)] (fun _ => none) (fun _ => True) (fun _ => [vB g o oa W1, vB g h a (cpV W1 V 5)]) := by
  refine cU.mk (by decide +kernel) (Nat.le_of_ble_eq_true rfl) ?_
  intro p e s m below meth c ls E hK hW hl
  obtain ⟨hx, hb, hr, hml, hts, hown, hlocks, hin⟩ := id E
  have hown : s.vm.findClass RX3 = some m.cls := hown
  have hP := hW.1
  have hl : lv_has ls 2 [(0, .ref (oa 4)), (1, .ref (a 4))] := hl
  refine lv_aload_n hx hb dX3_copyTowns_0 rfl (lv_at hl 0 rfl) ?_
  refine lv_iconst (v := 0) hx hb dX3_copyTowns_1 (by decide) ?_
  refine lv_aload_n hx hb dX3_copyTowns_2 rfl (lv_at hl 1 rfl) ?_
  refine lv_iconst (v := 0) hx hb dX3_copyTowns_3 (by decide) ?_
  refine lv_bipush (v := 6) hx hb dX3_copyTowns_4 (by decide) ?_
  refine b_copy (B' := [vB g o oa W1, vB g h a (cpV W1 V 5)]) hx hb (hml.trans hl.1.symm) hown hts q2_86 q2_88 q2_87 q1_7 hK hW 0 5 1 5 rfl rfl rfl rfl rfl rfl (Nat.le_of_ble_eq_true rfl) (Nat.le_of_ble_eq_true rfl) rfl dX3_copyTowns_6 (fun H locs hW => ?_)
  have hP := hW.1
  exact uV_ret () hW hx hb hr hlocks dX3_copyTowns_9 trivial (rfl) (adr2 (L := [[o, oa 0, oa 1, oa 2, oa 3, oa 4, oa 5, oa 6, oa 7, oa 8, oa 9, oa 10, oa 11], [h, a 0, a 1, a 2, a 3, a 4, a 5, a 6, a 7, a 8, a 9, a 10, a 11]]) rfl rfl)
