set_option maxHeartbeats 4000000 in
set_option maxRecDepth 100000 in
theorem c_X3_copyBells_9 (l : Launch) (g : gx) (o : Nat) (oa : Nat → Nat) (W1 : sV) (h : Nat) (a : Nat → Nat) (V : sV)  : cU (S := Unit) l g yX3_copyBells cX3_copyBells 2 none ({ frames := 1, cells := 0, slots := 0, locals := 60 } : Room) [.ref (oa 9), .ref (a 9)] [vB g o oa W1, vB g h a (cpV W1 V 9)] (fun _ => none) (fun _ => True) (fun _ => [vB g o oa W1, vB g h a (cpV W1 V 10)]) := by
  refine cU.mk (by decide +kernel) (Nat.le_of_ble_eq_true rfl) ?_
  intro p e s m below meth c ls E hK hW hl
  obtain ⟨hx, hb, hr, hml, hts, hown, hlocks, hin⟩ := id E
  have hown : s.vm.findClass RX3 = some m.cls := hown
  have hP := hW.1
  have hl : lv_has ls 2 [(0, .ref (oa 9)), (1, .ref (a 9))] := hl
  refine lv_aload_n hx hb dX3_copyBells_0 rfl (lv_at hl 0 rfl) ?_
  refine lv_iconst (v := 0) hx hb dX3_copyBells_1 (by decide) ?_
  refine lv_aload_n hx hb dX3_copyBells_2 rfl (lv_at hl 1 rfl) ?_
  refine lv_iconst (v := 0) hx hb dX3_copyBells_3 (by decide) ?_
  refine lv_bipush (v := 30) hx hb dX3_copyBells_4 (by decide) ?_
  refine b_copy (B' := [vB g o oa W1, vB g h a (cpV W1 V 10)]) hx hb (hml.trans hl.1.symm) hown hts q2_86 q2_88 q2_87 q1_7 hK hW 0 10 1 10 rfl rfl rfl rfl rfl rfl (Nat.le_of_ble_eq_true rfl) (Nat.le_of_ble_eq_true rfl) rfl dX3_copyBells_6 (fun H locs hW => ?_)
  have hP := hW.1
  exact uV_ret () hW hx hb hr hlocks dX3_copyBells_9 trivial (rfl) (adr2 (L := [[o, oa 0, oa 1, oa 2, oa 3, oa 4, oa 5, oa 6, oa 7, oa 8, oa 9, oa 10, oa 11], [h, a 0, a 1, a 2, a 3, a 4, a 5, a 6, a 7, a 8, a 9, a 10, a 11]]) rfl rfl)

set_option maxHeartbeats 4000000 in
set_option maxRecDepth 100000 in
theorem c_X3_copyBells_10 (l : Launch) (g : gx) (o : Nat) (oa : Nat → Nat) (W1 : sV) (h : Nat) (a : Nat → Nat) (V : sV)  : cU (S := Unit) l g yX3_copyBells cX3_copyBells 2 none ({ frames := 1, cells := 0, slots := 0, locals := 60 } : Room) [.ref (oa 10), .ref (a 10)] [vB g o oa W1, vB g h a (cpV W1 V 10)] (fun _ => none) (fun _ => True) (fun _ => [vB g o oa W1, vB g h a (cpV W1 V 11)]) := by
  refine cU.mk (by decide +kernel) (Nat.le_of_ble_eq_true rfl) ?_
  intro p e s m below meth c ls E hK hW hl
  obtain ⟨hx, hb, hr, hml, hts, hown, hlocks, hin⟩ := id E
  have hown : s.vm.findClass RX3 = some m.cls := hown
  have hP := hW.1
  have hl : lv_has ls 2 [(0, .ref (oa 10)), (1, .ref (a 10))] := hl
  refine lv_aload_n hx hb dX3_copyBells_0 rfl (lv_at hl 0 rfl) ?_
  refine lv_iconst (v := 0) hx hb dX3_copyBells_1 (by decide) ?_
  refine lv_aload_n hx hb dX3_copyBells_2 rfl (lv_at hl 1 rfl) ?_
  refine lv_iconst (v := 0) hx hb dX3_copyBells_3 (by decide) ?_
  refine lv_bipush (v := 30) hx hb dX3_copyBells_4 (by decide) ?_
  refine b_copy (B' := [vB g o oa W1, vB g h a (cpV W1 V 11)]) hx hb (hml.trans hl.1.symm) hown hts q2_86 q2_88 q2_87 q1_7 hK hW 0 11 1 11 rfl rfl rfl rfl rfl rfl (Nat.le_of_ble_eq_true rfl) (Nat.le_of_ble_eq_true rfl) rfl dX3_copyBells_6 (fun H locs hW => ?_)
  have hP := hW.1
  exact uV_ret () hW hx hb hr hlocks dX3_copyBells_9 trivial (rfl) (adr2 (L := [[o, oa 0, oa 1, oa 2, oa 3, oa 4, oa 5, oa 6, oa 7, oa 8, oa 9, oa 10, oa 11], [h, a 0, a 1, a 2, a 3, a 4, a 5, a 6, a 7, a 8, a 9, a 10, a 11]]) rfl rfl)

set_option maxHeartbeats 4000000 in
set_option maxRecDepth 100000 in
theorem c_X3_copyBells_11 (l : Launch) (g : gx) (o : Nat) (oa : Nat → Nat) (W1 : sV) (h : Nat) (a : Nat → Nat) (V : sV)  : cU (S := Unit) l g yX3_copyBells cX3_copyBells 2 none ({ frames := 1, cells := 0, slots := 0, locals := 60 } : Room) [.ref (oa 11), .ref (a 11)] [vB g o oa W1, vB g h a (cpV W1 V 11)] (fun _ => none) (fun _ => True) (fun _ => [vB g o oa W1, vB g h a (cpV W1 V 12)]) := by
  refine cU.mk (by decide +kernel) (Nat.le_of_ble_eq_true rfl) ?_
  intro p e s m below meth c ls E hK hW hl
  obtain ⟨hx, hb, hr, hml, hts, hown, hlocks, hin⟩ := id E
  have hown : s.vm.findClass RX3 = some m.cls := hown
  have hP := hW.1
  have hl : lv_has ls 2 [(0, .ref (oa 11)), (1, .ref (a 11))] := hl
  refine lv_aload_n hx hb dX3_copyBells_0 rfl (lv_at hl 0 rfl) ?_
  refine lv_iconst (v := 0) hx hb dX3_copyBells_1 (by decide) ?_
  refine lv_aload_n hx hb dX3_copyBells_2 rfl (lv_at hl 1 rfl) ?_
  refine lv_iconst (v := 0) hx hb dX3_copyBells_3 (by decide) ?_
  refine lv_bipush (v := 30) hx hb dX3_copyBells_4 (by decide) ?_
  refine b_copy (B' := [vB g o oa W1, vB g h a (cpV W1 V 12)]) hx hb (hml.trans hl.1.symm) hown hts q2_86 q2_88 q2_87 q1_7 hK hW 0 12 1 12 rfl rfl rfl rfl rfl rfl (Nat.le_of_ble_eq_true rfl) (Nat.le_of_ble_eq_true rfl) rfl dX3_copyBells_6 (fun H locs hW => ?_)
  have hP := hW.1
  exact uV_ret () hW hx hb hr hlocks dX3_copyBells_9 trivial (rfl) (adr2 (L := [[o, oa 0, oa 1, oa 2, oa 3, oa 4, oa 5, oa 6, oa 7, oa 8, oa 9, oa 10, oa 11], [h, a 0, a 1, a 2, a 3, a 4, a 5, a 6, a 7, a 8, a 9, a 10, a 11]]) rfl rfl)

set_option maxHeartbeats 4000000 in
set_option maxRecDepth 100000 in
theorem c_X3_copyFrom (l : Launch) (g : gx) (h : Nat) (a : Nat → Nat) (V : sV) (o : Nat) (oa : Nat → Nat) (W1 : sV)  : cU (S := Unit) l g yX3_copyFrom cX3_copyFrom 2 none ({ frames := 2, cells := 0, slots := 0, locals := 81 } : Room) [.ref h, .ref o] [vB g h a V, vB g o oa W1] (fun _ => none) (fun _ => True) (fun _ => [vB g h a W1, vB g o oa W1]) := by
  refine cU.mk (by decide +kernel) (Nat.le_of_ble_eq_true rfl) ?_
  intro p e s m below meth c ls E hK hW hl
  obtain ⟨hx, hb, hr, hml, hts, hown, hlocks, hin⟩ := id E
  have hown : s.vm.findClass RX3 = some m.cls := hown
  have hP := hW.1
  have hl : lv_has ls 2 [(0, .ref h), (1, .ref o)] := hl
  have hW : wd g _ s.heap [vB g h a (cpV W1 V 0), vB g o oa W1] s.heap [] := hW
  have hP := hW.1
  refine lv_aload_n hx hb dX3_copyFrom_0 rfl (lv_at hl 1 rfl) ?_
  refine b_get (v := .ref (oa 0)) hx hb hts inX3 hown hK hP 1 0 0 rfl rfl rfl (by decide) q1_22 rfl rfl dX3_copyFrom_1 ?_
  refine lv_aload_n hx hb dX3_copyFrom_4 rfl (lv_at hl 0 rfl) ?_
  refine b_get (v := .ref (a 0)) hx hb hts inX3 hown hK hP 0 0 0 rfl rfl rfl (by decide) q1_22 rfl rfl dX3_copyFrom_5 ?_
  refine call_SU (As := [.ref (oa 0), .ref (a 0)]) (rest := []) E rfl hK hW (c_X3_copyTowns_0 l g o oa W1 h a V) ok_X3_copyTowns rfl q2_83 [1, 0] rfl (by decide) ⟨⟨rfl, rfl⟩, Nat.le_of_ble_eq_true rfl, Nat.le_of_ble_eq_true rfl⟩ hl.1 (Nat.le_of_ble_eq_true rfl) ⟨Nat.le_of_ble_eq_true rfl, Nat.le_of_ble_eq_true rfl⟩ rfl dX3_copyFrom_8 (fun _u H locs _ hW => ?_)
  have hW : wd g _ s.heap [vB g h a (cpV W1 V 1), vB g o oa W1] H locs := hW
  have hP := hW.1
  refine lv_aload_n hx hb dX3_copyFrom_11 rfl (lv_at hl 1 rfl) ?_
  refine b_get (v := .ref (oa 1)) hx hb hts inX3 hown hK hP 1 0 1 rfl rfl rfl (by decide) q1_25 rfl rfl dX3_copyFrom_12 ?_
  refine lv_aload_n hx hb dX3_copyFrom_15 rfl (lv_at hl 0 rfl) ?_
  refine b_get (v := .ref (a 1)) hx hb hts inX3 hown hK hP 0 0 1 rfl rfl rfl (by decide) q1_25 rfl rfl dX3_copyFrom_16 ?_
  refine call_SU (As := [.ref (oa 1), .ref (a 1)]) (rest := []) E rfl hK hW (c_X3_copyTowns_1 l g o oa W1 h a V) ok_X3_copyTowns rfl q2_83 [1, 0] rfl (by decide) ⟨⟨rfl, rfl⟩, Nat.le_of_ble_eq_true rfl, Nat.le_of_ble_eq_true rfl⟩ hl.1 (Nat.le_of_ble_eq_true rfl) ⟨Nat.le_of_ble_eq_true rfl, Nat.le_of_ble_eq_true rfl⟩ rfl dX3_copyFrom_19 (fun _u H locs _ hW => ?_)
  have hW : wd g _ s.heap [vB g h a (cpV W1 V 2), vB g o oa W1] H locs := hW
  have hP := hW.1
  refine lv_aload_n hx hb dX3_copyFrom_22 rfl (lv_at hl 1 rfl) ?_
  refine b_get (v := .ref (oa 2)) hx hb hts inX3 hown hK hP 1 0 2 rfl rfl rfl (by decide) q1_27 rfl rfl dX3_copyFrom_23 ?_
  refine lv_aload_n hx hb dX3_copyFrom_26 rfl (lv_at hl 0 rfl) ?_
  refine b_get (v := .ref (a 2)) hx hb hts inX3 hown hK hP 0 0 2 rfl rfl rfl (by decide) q1_27 rfl rfl dX3_copyFrom_27 ?_
  refine call_SU (As := [.ref (oa 2), .ref (a 2)]) (rest := []) E rfl hK hW (c_X3_copyTowns_2 l g o oa W1 h a V) ok_X3_copyTowns rfl q2_83 [1, 0] rfl (by decide) ⟨⟨rfl, rfl⟩, Nat.le_of_ble_eq_true rfl, Nat.le_of_ble_eq_true rfl⟩ hl.1 (Nat.le_of_ble_eq_true rfl) ⟨Nat.le_of_ble_eq_true rfl, Nat.le_of_ble_eq_true rfl⟩ rfl dX3_copyFrom_30 (fun _u H locs _ hW => ?_)
  have hW : wd g _ s.heap [vB g h a (cpV W1 V 3), vB g o oa W1] H locs := hW
  have hP := hW.1
  refine lv_aload_n hx hb dX3_copyFrom_33 rfl (lv_at hl 1 rfl) ?_
  refine b_get (v := .ref (oa 3)) hx hb hts inX3 hown hK hP 1 0 3 rfl rfl rfl (by decide) q1_29 rfl rfl dX3_copyFrom_34 ?_
  refine lv_aload_n hx hb dX3_copyFrom_37 rfl (lv_at hl 0 rfl) ?_
  refine b_get (v := .ref (a 3)) hx hb hts inX3 hown hK hP 0 0 3 rfl rfl rfl (by decide) q1_29 rfl rfl dX3_copyFrom_38 ?_
  refine call_SU (As := [.ref (oa 3), .ref (a 3)]) (rest := []) E rfl hK hW (c_X3_copyTowns_3 l g o oa W1 h a V) ok_X3_copyTowns rfl q2_83 [1, 0] rfl (by decide) ⟨⟨rfl, rfl⟩, Nat.le_of_ble_eq_true rfl, Nat.le_of_ble_eq_true rfl⟩ hl.1 (Nat.le_of_ble_eq_true rfl) ⟨Nat.le_of_ble_eq_true rfl, Nat.le_of_ble_eq_true rfl⟩ rfl dX3_copyFrom_41 (fun _u H locs _ hW => ?_)
  have hW : wd g _ s.heap [vB g h a (cpV W1 V 4), vB g o oa W1] H locs := hW
  have hP := hW.1
  refine lv_aload_n hx hb dX3_copyFrom_44 rfl (lv_at hl 1 rfl) ?_
  refine b_get (v := .ref (oa 4)) hx hb hts inX3 hown hK hP 1 0 4 rfl rfl rfl (by decide) q1_31 rfl rfl dX3_copyFrom_45 ?_
  refine lv_aload_n hx hb dX3_copyFrom_48 rfl (lv_at hl 0 rfl) ?_
  refine b_get (v := .ref (a 4)) hx hb hts inX3 hown hK hP 0 0 4 rfl rfl rfl (by decide) q1_31 rfl rfl dX3_copyFrom_49 ?_
  refine call_SU (As := [.ref (oa 4), .ref (a 4)]) (rest := []) E rfl hK hW (c_X3_copyTowns_4 l g o oa W1 h a V) ok_X3_copyTowns rfl q2_83 [1, 0] rfl (by decide) ⟨⟨rfl, rfl⟩, Nat.le_of_ble_eq_true rfl, Nat.le_of_ble_eq_true rfl⟩ hl.1 (Nat.le_of_ble_eq_true rfl) ⟨Nat.le_of_ble_eq_true rfl, Nat.le_of_ble_eq_true rfl⟩ rfl dX3_copyFrom_52 (fun _u H locs _ hW => ?_)
  have hW : wd g _ s.heap [vB g h a (cpV W1 V 5), vB g o oa W1] H locs := hW
  have hP := hW.1
  refine lv_aload_n hx hb dX3_copyFrom_55 rfl (lv_at hl 1 rfl) ?_
  refine b_get (v := .ref (oa 5)) hx hb hts inX3 hown hK hP 1 0 5 rfl rfl rfl (by decide) q1_33 rfl rfl dX3_copyFrom_56 ?_
  refine lv_aload_n hx hb dX3_copyFrom_59 rfl (lv_at hl 0 rfl) ?_
  refine b_get (v := .ref (a 5)) hx hb hts inX3 hown hK hP 0 0 5 rfl rfl rfl (by decide) q1_33 rfl rfl dX3_copyFrom_60 ?_
  refine call_SU (As := [.ref (oa 5), .ref (a 5)]) (rest := []) E rfl hK hW (c_X3_copyTowns_5 l g o oa W1 h a V) ok_X3_copyTowns rfl q2_83 [1, 0] rfl (by decide) ⟨⟨rfl, rfl⟩, Nat.le_of_ble_eq_true rfl, Nat.le_of_ble_eq_true rfl⟩ hl.1 (Nat.le_of_ble_eq_true rfl) ⟨Nat.le_of_ble_eq_true rfl, Nat.le_of_ble_eq_true rfl⟩ rfl dX3_copyFrom_63 (fun _u H locs _ hW => ?_)
  have hW : wd g _ s.heap [vB g h a (cpV W1 V 6), vB g o oa W1] H locs := hW
  have hP := hW.1
  refine lv_aload_n hx hb dX3_copyFrom_66 rfl (lv_at hl 1 rfl) ?_
  refine b_get (v := .ref (oa 6)) hx hb hts inX3 hown hK hP 1 0 6 rfl rfl rfl (by decide) q1_35 rfl rfl dX3_copyFrom_67 ?_
  refine lv_aload_n hx hb dX3_copyFrom_70 rfl (lv_at hl 0 rfl) ?_
  refine b_get (v := .ref (a 6)) hx hb hts inX3 hown hK hP 0 0 6 rfl rfl rfl (by decide) q1_35 rfl rfl dX3_copyFrom_71 ?_
  refine call_SU (As := [.ref (oa 6), .ref (a 6)]) (rest := []) E rfl hK hW (c_X3_copyTowns_6 l g o oa W1 h a V) ok_X3_copyTowns rfl q2_83 [1, 0] rfl (by decide) ⟨⟨rfl, rfl⟩, Nat.le_of_ble_eq_true rfl, Nat.le_of_ble_eq_true rfl⟩ hl.1 (Nat.le_of_ble_eq_true rfl) ⟨Nat.le_of_ble_eq_true rfl, Nat.le_of_ble_eq_true rfl⟩ rfl dX3_copyFrom_74 (fun _u H locs _ hW => ?_)
  have hW : wd g _ s.heap [vB g h a (cpV W1 V 7), vB g o oa W1] H locs := hW
  have hP := hW.1
  refine lv_aload_n hx hb dX3_copyFrom_77 rfl (lv_at hl 1 rfl) ?_
  refine b_get (v := .ref (oa 7)) hx hb hts inX3 hown hK hP 1 0 7 rfl rfl rfl (by decide) q1_38 rfl rfl dX3_copyFrom_78 ?_
  refine lv_aload_n hx hb dX3_copyFrom_81 rfl (lv_at hl 0 rfl) ?_
  refine b_get (v := .ref (a 7)) hx hb hts inX3 hown hK hP 0 0 7 rfl rfl rfl (by decide) q1_38 rfl rfl dX3_copyFrom_82 ?_
  refine call_SU (As := [.ref (oa 7), .ref (a 7)]) (rest := []) E rfl hK hW (c_X3_copyTowns_7 l g o oa W1 h a V) ok_X3_copyTowns rfl q2_83 [1, 0] rfl (by decide) ⟨⟨rfl, rfl⟩, Nat.le_of_ble_eq_true rfl, Nat.le_of_ble_eq_true rfl⟩ hl.1 (Nat.le_of_ble_eq_true rfl) ⟨Nat.le_of_ble_eq_true rfl, Nat.le_of_ble_eq_true rfl⟩ rfl dX3_copyFrom_85 (fun _u H locs _ hW => ?_)
  have hW : wd g _ s.heap [vB g h a (cpV W1 V 8), vB g o oa W1] H locs := hW
  have hP := hW.1
  refine lv_aload_n hx hb dX3_copyFrom_88 rfl (lv_at hl 1 rfl) ?_
  refine b_get (v := .ref (oa 8)) hx hb hts inX3 hown hK hP 1 0 8 rfl rfl rfl (by decide) q1_40 rfl rfl dX3_copyFrom_89 ?_
  refine lv_aload_n hx hb dX3_copyFrom_92 rfl (lv_at hl 0 rfl) ?_
  refine b_get (v := .ref (a 8)) hx hb hts inX3 hown hK hP 0 0 8 rfl rfl rfl (by decide) q1_40 rfl rfl dX3_copyFrom_93 ?_
  refine call_SU (As := [.ref (oa 8), .ref (a 8)]) (rest := []) E rfl hK hW (c_X3_copyTowns_8 l g o oa W1 h a V) ok_X3_copyTowns rfl q2_83 [1, 0] rfl (by decide) ⟨⟨rfl, rfl⟩, Nat.le_of_ble_eq_true rfl, Nat.le_of_ble_eq_true rfl⟩ hl.1 (Nat.le_of_ble_eq_true rfl) ⟨Nat.le_of_ble_eq_true rfl, Nat.le_of_ble_eq_true rfl⟩ rfl dX3_copyFrom_96 (fun _u H locs _ hW => ?_)
  have hW : wd g _ s.heap [vB g h a (cpV W1 V 9), vB g o oa W1] H locs := hW
  have hP := hW.1
  refine lv_aload_n hx hb dX3_copyFrom_99 rfl (lv_at hl 1 rfl) ?_
  refine b_get (v := .ref (oa 9)) hx hb hts inX3 hown hK hP 1 0 9 rfl rfl rfl (by decide) q1_42 rfl rfl dX3_copyFrom_100 ?_
  refine lv_aload_n hx hb dX3_copyFrom_103 rfl (lv_at hl 0 rfl) ?_
  refine b_get (v := .ref (a 9)) hx hb hts inX3 hown hK hP 0 0 9 rfl rfl rfl (by decide) q1_42 rfl rfl dX3_copyFrom_104 ?_
  refine call_SU (As := [.ref (oa 9), .ref (a 9)]) (rest := []) E rfl hK hW (c_X3_copyBells_9 l g o oa W1 h a V) ok_X3_copyBells rfl q2_89 [1, 0] rfl (by decide) ⟨⟨rfl, rfl⟩, Nat.le_of_ble_eq_true rfl, Nat.le_of_ble_eq_true rfl⟩ hl.1 (Nat.le_of_ble_eq_true rfl) ⟨Nat.le_of_ble_eq_true rfl, Nat.le_of_ble_eq_true rfl⟩ rfl dX3_copyFrom_107 (fun _u H locs _ hW => ?_)
  have hW : wd g _ s.heap [vB g h a (cpV W1 V 10), vB g o oa W1] H locs := hW
  have hP := hW.1
  refine lv_aload_n hx hb dX3_copyFrom_110 rfl (lv_at hl 1 rfl) ?_
  refine b_get (v := .ref (oa 10)) hx hb hts inX3 hown hK hP 1 0 10 rfl rfl rfl (by decide) q1_45 rfl rfl dX3_copyFrom_111 ?_
  refine lv_aload_n hx hb dX3_copyFrom_114 rfl (lv_at hl 0 rfl) ?_
  refine b_get (v := .ref (a 10)) hx hb hts inX3 hown hK hP 0 0 10 rfl rfl rfl (by decide) q1_45 rfl rfl dX3_copyFrom_115 ?_
  refine call_SU (As := [.ref (oa 10), .ref (a 10)]) (rest := []) E rfl hK hW (c_X3_copyBells_10 l g o oa W1 h a V) ok_X3_copyBells rfl q2_89 [1, 0] rfl (by decide) ⟨⟨rfl, rfl⟩, Nat.le_of_ble_eq_true rfl, Nat.le_of_ble_eq_true rfl⟩ hl.1 (Nat.le_of_ble_eq_true rfl) ⟨Nat.le_of_ble_eq_true rfl, Nat.le_of_ble_eq_true rfl⟩ rfl dX3_copyFrom_118 (fun _u H locs _ hW => ?_)
  have hW : wd g _ s.heap [vB g h a (cpV W1 V 11), vB g o oa W1] H locs := hW
  have hP := hW.1
  refine lv_aload_n hx hb dX3_copyFrom_121 rfl (lv_at hl 1 rfl) ?_
  refine b_get (v := .ref (oa 11)) hx hb hts inX3 hown hK hP 1 0 11 rfl rfl rfl (by decide) q1_48 rfl rfl dX3_copyFrom_122 ?_
  refine lv_aload_n hx hb dX3_copyFrom_125 rfl (lv_at hl 0 rfl) ?_
  refine b_get (v := .ref (a 11)) hx hb hts inX3 hown hK hP 0 0 11 rfl rfl rfl (by decide) q1_48 rfl rfl dX3_copyFrom_126 ?_
  refine call_SU (As := [.ref (oa 11), .ref (a 11)]) (rest := []) E rfl hK hW (c_X3_copyBells_11 l g o oa W1 h a V) ok_X3_copyBells rfl q2_89 [1, 0] rfl (by decide) ⟨⟨rfl, rfl⟩, Nat.le_of_ble_eq_true rfl, Nat.le_of_ble_eq_true rfl⟩ hl.1 (Nat.le_of_ble_eq_true rfl) ⟨Nat.le_of_ble_eq_true rfl, Nat.le_of_ble_eq_true rfl⟩ rfl dX3_copyFrom_129 (fun _u H locs _ hW => ?_)
  have hW : wd g _ s.heap [vB g h a (cpV W1 V 12), vB g o oa W1] H locs := hW
  have hP := hW.1
  refine lv_aload_n hx hb dX3_copyFrom_132 rfl (lv_at hl 0 rfl) ?_
  refine lv_aload_n hx hb dX3_copyFrom_133 rfl (lv_at hl 1 rfl) ?_
  refine b_get (v := .int (W1 12 0)) hx hb hts inX3 hown hK hP 1 0 12 rfl rfl rfl (by decide) q1_50 rfl rfl dX3_copyFrom_134 ?_
  refine b_put (B' := [vB g h a (up2 (cpV W1 V 12) 12 0 (W1 12 0)), vB g o oa W1]) (v := .int (W1 12 0)) hx hb hts inX3 tyX3_ok nmX3 hown hK hW 0 0 12 rfl rfl rfl (by decide) q1_50 rfl rfl rfl rfl (Nat.le_of_ble_eq_true rfl) rfl dX3_copyFrom_137 (fun H locs hW => ?_)
  have hP := hW.1
  refine lv_aload_n hx hb dX3_copyFrom_140 rfl (lv_at hl 0 rfl) ?_
  refine lv_aload_n hx hb dX3_copyFrom_141 rfl (lv_at hl 1 rfl) ?_
  refine b_get (v := .int (W1 12 1)) hx hb hts inX3 hown hK hP 1 0 13 rfl rfl rfl (by decide) q1_53 rfl rfl dX3_copyFrom_142 ?_
  refine b_put (B' := [vB g h a (up2 (up2 (cpV W1 V 12) 12 0 (W1 12 0)) 12 1 (W1 12 1)), vB g o oa W1]) (v := .int (W1 12 1)) hx hb hts inX3 tyX3_ok nmX3 hown hK hW 0 0 13 rfl rfl rfl (by decide) q1_53 rfl rfl rfl rfl (Nat.le_of_ble_eq_true rfl) rfl dX3_copyFrom_145 (fun H locs hW => ?_)
  have hP := hW.1
  refine lv_aload_n hx hb dX3_copyFrom_148 rfl (lv_at hl 0 rfl) ?_
  refine lv_aload_n hx hb dX3_copyFrom_149 rfl (lv_at hl 1 rfl) ?_
  refine b_get (v := .int (W1 12 2)) hx hb hts inX3 hown hK hP 1 0 14 rfl rfl rfl (by decide) q1_55 rfl rfl dX3_copyFrom_150 ?_
  refine b_put (B' := [vB g h a (up2 (up2 (up2 (cpV W1 V 12) 12 0 (W1 12 0)) 12 1 (W1 12 1)) 12 2 (W1 12 2)), vB g o oa W1]) (v := .int (W1 12 2)) hx hb hts inX3 tyX3_ok nmX3 hown hK hW 0 0 14 rfl rfl rfl (by decide) q1_55 rfl rfl rfl rfl (Nat.le_of_ble_eq_true rfl) rfl dX3_copyFrom_153 (fun H locs hW => ?_)
  have hP := hW.1
  refine lv_aload_n hx hb dX3_copyFrom_156 rfl (lv_at hl 0 rfl) ?_
  refine lv_aload_n hx hb dX3_copyFrom_157 rfl (lv_at hl 1 rfl) ?_
  refine b_get (v := .int (W1 12 4)) hx hb hts inX3 hown hK hP 1 0 15 rfl rfl rfl (by decide) q1_57 rfl rfl dX3_copyFrom_158 ?_
  refine b_put (B' := [vB g h a (up2 (up2 (up2 (up2 (cpV W1 V 12) 12 0 (W1 12 0)) 12 1 (W1 12 1)) 12 2 (W1 12 2)) 12 4 (W1 12 4)), vB g o oa W1]) (v := .int (W1 12 4)) hx hb hts inX3 tyX3_ok nmX3 hown hK hW 0 0 15 rfl rfl rfl (by decide) q1_57 rfl rfl rfl rfl (Nat.le_of_ble_eq_true rfl) rfl dX3_copyFrom_161 (fun H locs hW => ?_)
  have hP := hW.1
  refine lv_aload_n hx hb dX3_copyFrom_164 rfl (lv_at hl 0 rfl) ?_
  refine lv_aload_n hx hb dX3_copyFrom_165 rfl (lv_at hl 1 rfl) ?_
  refine b_get (v := .int (W1 12 3)) hx hb hts inX3 hown hK hP 1 0 16 rfl rfl rfl (by decide) q1_59 rfl rfl dX3_copyFrom_166 ?_
  refine b_put (B' := [vB g h a (up2 (up2 (up2 (up2 (up2 (cpV W1 V 12) 12 0 (W1 12 0)) 12 1 (W1 12 1)) 12 2 (W1 12 2)) 12 4 (W1 12 4)) 12 3 (W1 12 3)), vB g o oa W1]) (v := .int (W1 12 3)) hx hb hts inX3 tyX3_ok nmX3 hown hK hW 0 0 16 rfl rfl rfl (by decide) q1_59 rfl rfl rfl rfl (Nat.le_of_ble_eq_true rfl) rfl dX3_copyFrom_169 (fun H locs hW => ?_)
  have hP := hW.1
  exact uV_ret () hW hx hb hr hlocks dX3_copyFrom_172 trivial (rfl) (adr2 (L := [[h, a 0, a 1, a 2, a 3, a 4, a 5, a 6, a 7, a 8, a 9, a 10, a 11], [o, oa 0, oa 1, oa 2, oa 3, oa 4, oa 5, oa 6, oa 7, oa 8, oa 9, oa 10, oa 11]]) rfl rfl)
