set_option maxHeartbeats 4000000 in
set_option maxRecDepth 100000 in
theorem c_X3_pass (l : Launch) (g : gx) (h : Nat) (a : Nat → Nat) (V : sV) (o : Nat) (oa : Nat → Nat) (N : sV)  : cU (S := Unit) l g yX3_pass cX3_pass 2 none ({ frames := 2, cells := 0, slots := 0, locals := 43 } : Room) [.ref h, .ref o] [vB g h a V, rB g o oa N] (fun _ => none) (fun _ => True) (fun _ => [vB g h a (pasV V N), rB g o oa N]) := by
  refine cU.mk (by decide +kernel) (Nat.le_of_ble_eq_true rfl) ?_
  intro p e s m below meth c ls E hK hW hl
  obtain ⟨hx, hb, hr, hml, hts, hown, hlocks, hin⟩ := id E
  have hown : s.vm.findClass RX3 = some m.cls := hown
  have hP := hW.1
  have hl : lv_has ls 2 [(0, .ref h), (1, .ref o)] := hl
  refine lv_aload_n hx hb dX3_pass_0 rfl (lv_at hl 0 rfl) ?_
  refine lv_aload_n hx hb dX3_pass_1 rfl (lv_at hl 1 rfl) ?_
  refine call_VU (As := [.ref o]) (rest := []) E rfl hK hW (c_X3_givePoints l g h a V o oa N) ok_X3_givePoints rfl q2_128 [0, 1] rfl (by decide) (b_recv hK hP 0 0 rfl rfl rfl rfl) ⟨⟨rfl, rfl⟩, Nat.le_of_ble_eq_true rfl, Nat.le_of_ble_eq_true rfl⟩ hl.1 (Nat.le_of_ble_eq_true rfl) ⟨Nat.le_of_ble_eq_true rfl, Nat.le_of_ble_eq_true rfl⟩ rfl dX3_pass_2 (fun _u H locs _ hW => ?_)
  have hW : wd g _ s.heap [vB g h a (gpV V N 6), rB g o oa N] H locs := hW
  have hP := hW.1
  obtain ⟨U_1, hU_1⟩ : ∃ z, z = (gpV V N 6) := ⟨_, rfl⟩
  rw [← hU_1] at hW
  have hP := hW.1
  refine lv_aload_n hx hb dX3_pass_5 rfl (lv_at hl 0 rfl) ?_
  refine lv_aload_n hx hb dX3_pass_6 rfl (lv_at hl 1 rfl) ?_
  refine call_VU (As := [.ref o]) (rest := []) E rfl hK hW (c_X3_wearRopes l g h a U_1 o oa N) ok_X3_wearRopes rfl q2_132 [0, 1] rfl (by decide) (b_recv hK hP 0 0 rfl rfl rfl rfl) ⟨⟨rfl, rfl⟩, Nat.le_of_ble_eq_true rfl, Nat.le_of_ble_eq_true rfl⟩ hl.1 (Nat.le_of_ble_eq_true rfl) ⟨Nat.le_of_ble_eq_true rfl, Nat.le_of_ble_eq_true rfl⟩ rfl dX3_pass_7 (fun _u H locs _ hW => ?_)
  have hW : wd g _ s.heap [vB g h a (wrV U_1 N 30), rB g o oa N] H locs := hW
  have hP := hW.1
  obtain ⟨U_2, hU_2⟩ : ∃ z, z = (wrV U_1 N 30) := ⟨_, rfl⟩
  rw [← hU_2] at hW
  have hP := hW.1
  refine lv_aload_n hx hb dX3_pass_10 rfl (lv_at hl 0 rfl) ?_
  refine lv_aload_n hx hb dX3_pass_11 rfl (lv_at hl 1 rfl) ?_
  refine call_VU (As := [.ref o]) (rest := []) E rfl hK hW (c_X3_tireRingers l g h a U_2 o oa N) ok_X3_tireRingers rfl q2_136 [0, 1] rfl (by decide) (b_recv hK hP 0 0 rfl rfl rfl rfl) ⟨⟨rfl, rfl⟩, Nat.le_of_ble_eq_true rfl, Nat.le_of_ble_eq_true rfl⟩ hl.1 (Nat.le_of_ble_eq_true rfl) ⟨Nat.le_of_ble_eq_true rfl, Nat.le_of_ble_eq_true rfl⟩ rfl dX3_pass_12 (fun _u H locs _ hW => ?_)
  have hW : wd g _ s.heap [vB g h a (trV U_2 N 6), rB g o oa N] H locs := hW
  have hP := hW.1
  obtain ⟨U_3, hU_3⟩ : ∃ z, z = (trV U_2 N 6) := ⟨_, rfl⟩
  rw [← hU_3] at hW
  have hP := hW.1
  refine lv_aload_n hx hb dX3_pass_15 rfl (lv_at hl 0 rfl) ?_
  refine lv_aload_n hx hb dX3_pass_16 rfl (lv_at hl 1 rfl) ?_
  refine b_get (v := .int (N 4 0)) hx hb hts inX1 hown hK hP 1 0 4 rfl rfl rfl (by decide) q1_134 rfl rfl dX3_pass_17 ?_
  refine call_VU (As := [.int (N 4 0)]) (rest := []) E rfl hK hW (c_X3_fallSilent l g h a U_3 (N 4 0)) ok_X3_fallSilent rfl q2_140 [0] rfl (by decide) (b_recv hK hP 0 0 rfl rfl rfl rfl) ⟨⟨rfl, rfl⟩, Nat.le_of_ble_eq_true rfl, Nat.le_of_ble_eq_true rfl⟩ hl.1 (Nat.le_of_ble_eq_true rfl) ⟨Nat.le_of_ble_eq_true rfl, Nat.le_of_ble_eq_true rfl⟩ rfl dX3_pass_20 (fun _u H locs _ hW => ?_)
  have hW : wd g _ s.heap [vB g h a (flV U_3 (N 4 0)), rB g o oa N] H locs := hW
  have hP := hW.1
  obtain ⟨U_4, hU_4⟩ : ∃ z, z = (flV U_3 (N 4 0)) := ⟨_, rfl⟩
  rw [← hU_4] at hW
  have hP := hW.1
  refine lv_aload_n hx hb dX3_pass_23 rfl (lv_at hl 0 rfl) ?_
  refine lv_dup hx hb dX3_pass_24 rfl ?_
  refine b_get (v := .int (U_4 12 2)) hx hb hts inX3 hown hK hP 0 0 14 rfl rfl rfl (by decide) q1_55 rfl rfl dX3_pass_25 ?_
  refine lv_iconst (v := 1) hx hb dX3_pass_28 (by decide) ?_
  refine lv_iadd hx hb dX3_pass_29 ?_
  refine b_put (B' := [vB g h a (up2 U_4 12 2 ((U_4 12 2) + 1)), rB g o oa N]) (v := .int ((U_4 12 2) + 1)) hx hb hts inX3 tyX3_ok nmX3 hown hK hW 0 0 14 rfl rfl rfl (by decide) q1_55 rfl rfl rfl rfl (Nat.le_of_ble_eq_true rfl) rfl dX3_pass_30 (fun H locs hW => ?_)
  have hP := hW.1
  exact uV_ret () hW hx hb hr hlocks dX3_pass_33 trivial (by rw [hU_4, hU_3, hU_2, hU_1]; rfl) (adr2 (L := [[h, a 0, a 1, a 2, a 3, a 4, a 5, a 6, a 7, a 8, a 9, a 10, a 11], [o, oa 0, oa 1, oa 2, oa 3]]) rfl rfl)

set_option maxHeartbeats 4000000 in
set_option maxRecDepth 100000 in
theorem c_X3_copyTowns_0 (l : Launch) (g : gx) (o : Nat) (oa : Nat → Nat) (W1 : sV) (h : Nat) (a : Nat → Nat) (V : sV)  : cU (S := Unit) l g yX3_copyTowns cX3_copyTowns 2 none ({ frames := 1, cells := 0, slots := 0, locals := 60 } : Room) [.ref (oa 0), .ref (a 0)] [vB g o oa W1, vB g h a (cpV W1 V 0)] (fun _ => none) (fun _ => True) (fun _ => [vB g o oa W1, vB g h a (cpV W1 V 1)]) := by
  refine cU.mk (by decide +kernel) (Nat.le_of_ble_eq_true rfl) ?_
  intro p e s m below meth c ls E hK hW hl
  obtain ⟨hx, hb, hr, hml, hts, hown, hlocks, hin⟩ := id E
  have hown : s.vm.findClass RX3 = some m.cls := hown
  have hP := hW.1
  have hl : lv_has ls 2 [(0, .ref (oa 0)), (1, .ref (a 0))] := hl
  refine lv_aload_n hx hb dX3_copyTowns_0 rfl (lv_at hl 0 rfl) ?_
  refine lv_iconst (v := 0) hx hb dX3_copyTowns_1 (by decide) ?_
  refine lv_aload_n hx hb dX3_copyTowns_2 rfl (lv_at hl 1 rfl) ?_
  refine lv_iconst (v := 0) hx hb dX3_copyTowns_3 (by decide) ?_
  refine lv_bipush (v := 6) hx hb dX3_copyTowns_4 (by decide) ?_
  refine b_copy (B' := [vB g o oa W1, vB g h a (cpV W1 V 1)]) hx hb (hml.trans hl.1.symm) hown hts q2_86 q2_88 q2_87 q1_7 hK hW 0 1 1 1 rfl rfl rfl rfl rfl rfl (Nat.le_of_ble_eq_true rfl) (Nat.le_of_ble_eq_true rfl) rfl dX3_copyTowns_6 (fun H locs hW => ?_)
  have hP := hW.1
  exact uV_ret () hW hx hb hr hlocks dX3_copyTowns_9 trivial (rfl) (adr2 (L := [[o, oa 0, oa 1, oa 2, oa 3, oa 4, oa 5, oa 6, oa 7, oa 8, oa 9, oa 10, oa 11], [h, a 0, a 1, a 2, a 3, a 4, a 5, a 6, a 7, a 8, a 9, a 10, a 11]]) rfl rfl)
