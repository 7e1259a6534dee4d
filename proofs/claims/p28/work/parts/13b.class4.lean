set_option maxHeartbeats 4000000 in
set_option maxRecDepth 100000 in
theorem c_X4_makeTurns (l : Launch) (g : gx) (h : Nat) (q : Nat → Nat) (z : Int32) (o : Nat) (oa : Nat → Nat) (V : sV) (ra : Nat → Nat) (NN : sV) (m0 : Nat) (hm : m0 ≤ 50)  : cU (S := Unit) l g yX4_makeTurns cX4_makeTurns 4 none ({ frames := 4, cells := 0, slots := 0, locals := 97 } : Room) [.ref h, .ref o, .int (nI m0)] [bB h q z, vB g o oa V, rB g (q 4) ra NN] (fun _ => none) (fun _ => True) (fun _ => [bB h q z, vB g o oa ((mtV V NN m0).1), rB g (q 4) ra ((mtV V NN m0).2)]) := by
  refine cU.mk (by decide +kernel) (Nat.le_of_ble_eq_true rfl) ?_
  intro p e s m below meth c ls E hK hW hl
  obtain ⟨hx, hb, hr, hml, hts, hown, hlocks, hin⟩ := id E
  have hown : s.vm.findClass RX4 = some m.cls := hown
  have hP := hW.1
  have hl : lv_has ls 4 [(0, .ref h), (1, .ref o), (2, .int (nI m0))] := hl
  refine lv_iconst (v := 0) hx hb dX4_makeTurns_0 (by decide) ?_
  refine lv_istore_n (lv' := [(3, .int 0), (0, .ref h), (1, .ref o), (2, .int (nI m0))]) hx hb dX4_makeTurns_1 rfl hl (by decide) rfl (fun ls hl => ?_)
  refine loopN (fun i : Nat => ∀ (H : Heap) (locs : List Loc) (ls : Array Slot), wd g (fun z9 => z9 ∈ adr [bB h q z, vB g o oa V, rB g (q 4) ra NN]) s.heap [bB h q z, vB g o oa ((mtV V NN i).1), rB g (q 4) ra ((mtV V NN i).2)] H locs → lv_has ls 4 [(0, .ref h), (1, .ref o), (2, .int (nI m0)), (3, .int (nI i))] → W p l e _ s m _ below meth c H locs 0 0 _ (F0 m 2 ls [])) (m0) (fun i hi ih_i => ?_) (0) (by omega)  s.heap [] ls hW (lv_sub hl [1, 2, 3, 0] rfl) 
  intro  H locs ls hW hl 
  have hP := hW.1
  refine lv_iload_n hx hb dX4_makeTurns_2 rfl (lv_at hl 3 rfl) ?_
  refine lv_iload_n hx hb dX4_makeTurns_3 rfl (lv_at hl 2 rfl) ?_
  refine b_ge (tgt := 29) (i) (m0) hx hb rfl rfl (by omega) (by omega) dX4_makeTurns_4 (by decide) (fun h_1 => ?_) (fun h_1 => ?_)
  · obtain rfl : i = m0 := by omega
    exact uV_ret () hW hx hb hr hlocks dX4_makeTurns_29 trivial (rfl) (adr2 (L := [[h], [o, oa 0, oa 1, oa 2, oa 3, oa 4, oa 5, oa 6, oa 7, oa 8, oa 9, oa 10, oa 11], [q 4, ra 0, ra 1, ra 2, ra 3]]) rfl rfl)
  · refine lv_aload_n hx hb dX4_makeTurns_7 rfl (lv_at hl 0 rfl) ?_
    refine b_get (v := .ref (q 4)) hx hb hts inX4 hown hK hP 0 0 5 rfl rfl rfl (by decide) q1_166 rfl rfl dX4_makeTurns_8 ?_
    refine lv_aload_n hx hb dX4_makeTurns_11 rfl (lv_at hl 1 rfl) ?_
    refine call_VU (As := [.ref o]) (rest := []) E rfl hK hW (c_X1_foresee l g (q 4) ra ((mtV V NN i).2) o oa ((mtV V NN i).1)) ok_X1_foresee rfl q1_208 [2, 1] rfl (by decide) (b_recv hK hP 2 0 rfl rfl rfl rfl) ⟨⟨rfl, rfl⟩, Nat.le_of_ble_eq_true rfl, Nat.le_of_ble_eq_true rfl⟩ hl.1 (Nat.le_of_ble_eq_true rfl) ⟨Nat.le_of_ble_eq_true rfl, Nat.le_of_ble_eq_true rfl⟩ rfl dX4_makeTurns_12 (fun _u H locs _ hW => ?_)
    have hW : wd g _ s.heap [bB h q z, vB g o oa ((mtV V NN i).1), rB g (q 4) ra (forN ((mtV V NN i).1) ((mtV V NN i).2))] H locs := hW
    have hP := hW.1
    obtain ⟨U_2, hU_2⟩ : ∃ z, z = (forN ((mtV V NN i).1) ((mtV V NN i).2)) := ⟨_, rfl⟩
    rw [← hU_2] at hW
    have hP := hW.1
    refine lv_aload_n hx hb dX4_makeTurns_15 rfl (lv_at hl 1 rfl) ?_
    refine lv_aload_n hx hb dX4_makeTurns_16 rfl (lv_at hl 0 rfl) ?_
    refine b_get (v := .ref (q 4)) hx hb hts inX4 hown hK hP 0 0 5 rfl rfl rfl (by decide) q1_166 rfl rfl dX4_makeTurns_17 ?_
    refine call_VU (As := [.ref (q 4)]) (rest := []) E rfl hK hW (c_X3_pass l g o oa ((mtV V NN i).1) (q 4) ra U_2) ok_X3_pass rfl q2_124 [1, 2] rfl (by decide) (b_recv hK hP 1 0 rfl rfl rfl rfl) ⟨⟨rfl, rfl⟩, Nat.le_of_ble_eq_true rfl, Nat.le_of_ble_eq_true rfl⟩ hl.1 (Nat.le_of_ble_eq_true rfl) ⟨Nat.le_of_ble_eq_true rfl, Nat.le_of_ble_eq_true rfl⟩ rfl dX4_makeTurns_20 (fun _u H locs _ hW => ?_)
    have hW : wd g _ s.heap [bB h q z, vB g o oa (pasV ((mtV V NN i).1) U_2), rB g (q 4) ra U_2] H locs := hW
    have hP := hW.1
    obtain ⟨U_3, hU_3⟩ : ∃ z, z = (pasV ((mtV V NN i).1) U_2) := ⟨_, rfl⟩
    rw [← hU_3] at hW
    have hP := hW.1
    refine lv_iinc (v := nI (i + 1)) (lv' := [(3, .int (nI (i + 1))), (0, .ref h), (1, .ref o), (2, .int (nI m0))]) hx hb dX4_makeTurns_23 hl (k := 3) rfl (nI_add i 1) (by decide) rfl (fun ls hl => ?_)
    refine lv_goto (tgt := 2) hx hb dX4_makeTurns_26 (by decide) ?_
    have e_4 : ([bB h q z, vB g o oa ((mtV V NN (i + 1)).1), rB g (q 4) ra ((mtV V NN (i + 1)).2)] : List va_W) = [bB h q z, vB g o oa U_3, rB g (q 4) ra U_2] := by rw [hU_3, hU_2]; simp only [mtV]
    exact ih_i (by omega)  _ _ _ (by rw [e_4]; exact hW) (lv_sub hl [1, 2, 3, 0] rfl) 

set_option maxHeartbeats 4000000 in
set_option maxRecDepth 100000 in
theorem c_X4_pointsWithPlan (l : Launch) (g : gx) (h : Nat) (q : Nat → Nat) (z : Int32) (ta : Nat → Nat) (TV : sV) (ra : Nat → Nat) (NN : sV) (t : Nat) (ht : t < 6) (m0 : Int32)  : cU (S := Unit) l g yX4_pointsWithPlan cX4_pointsWithPlan 3 (some .int) ({ frames := 4, cells := 0, slots := 0, locals := 97 } : Room) [.ref h, .int (nI t), .int m0] [bB h q z, vB g (q 1) ta TV, rB g (q 4) ra NN] (fun _ => some (.int (cntF (fun e => forN (up2 TV 4 t m0) NN 3 e = nI t) 6))) (fun _ => True) (fun _ => [bB h q z, vB g (q 1) ta (up2 TV 4 t m0), rB g (q 4) ra (forN (up2 TV 4 t m0) NN)]) := by
  refine cU.mk (by decide +kernel) (Nat.le_of_ble_eq_true rfl) ?_
  intro p e s m below meth c ls E hK hW hl
  obtain ⟨hx, hb, hr, hml, hts, hown, hlocks, hin⟩ := id E
  have hown : s.vm.findClass RX4 = some m.cls := hown
  have hP := hW.1
  have hl : lv_has ls 3 [(0, .ref h), (1, .int (nI t)), (2, .int m0)] := hl
  refine lv_aload_n hx hb dX4_pointsWithPlan_0 rfl (lv_at hl 0 rfl) ?_
  refine b_get (v := .ref (q 1)) hx hb hts inX4 hown hK hP 0 0 1 rfl rfl rfl (by decide) q1_162 rfl rfl dX4_pointsWithPlan_1 ?_
  refine b_get (v := .ref (ta 4)) hx hb hts inX3 hown hK hP 1 0 4 rfl rfl rfl (by decide) q1_32 rfl rfl dX4_pointsWithPlan_4 ?_
  refine lv_iload_n hx hb dX4_pointsWithPlan_7 rfl (lv_at hl 1 rfl) ?_
  refine lv_iload_n hx hb dX4_pointsWithPlan_8 rfl (lv_at hl 2 rfl) ?_
  refine b_iast (B' := [bB h q z, vB g (q 1) ta (up2 TV 4 t m0), rB g (q 4) ra NN]) hx hb hK hW 1 5 (t) rfl rfl rfl (by omega) rfl rfl dX4_pointsWithPlan_9 (fun H locs hW => ?_)
  have hP := hW.1
  refine lv_aload_n hx hb dX4_pointsWithPlan_10 rfl (lv_at hl 0 rfl) ?_
  refine b_get (v := .ref (q 4)) hx hb hts inX4 hown hK hP 0 0 5 rfl rfl rfl (by decide) q1_166 rfl rfl dX4_pointsWithPlan_11 ?_
  refine lv_aload_n hx hb dX4_pointsWithPlan_14 rfl (lv_at hl 0 rfl) ?_
  refine b_get (v := .ref (q 1)) hx hb hts inX4 hown hK hP 0 0 1 rfl rfl rfl (by decide) q1_162 rfl rfl dX4_pointsWithPlan_15 ?_
  refine call_VU (As := [.ref (q 1)]) (rest := []) E rfl hK hW (c_X1_foresee l g (q 4) ra NN (q 1) ta (up2 TV 4 t m0)) ok_X1_foresee rfl q1_208 [2, 1] rfl (by decide) (b_recv hK hP 2 0 rfl rfl rfl rfl) ⟨⟨rfl, rfl⟩, Nat.le_of_ble_eq_true rfl, Nat.le_of_ble_eq_true rfl⟩ hl.1 (Nat.le_of_ble_eq_true rfl) ⟨Nat.le_of_ble_eq_true rfl, Nat.le_of_ble_eq_true rfl⟩ rfl dX4_pointsWithPlan_18 (fun _u H locs _ hW => ?_)
  have hW : wd g _ s.heap [bB h q z, vB g (q 1) ta (up2 TV 4 t m0), rB g (q 4) ra (forN (up2 TV 4 t m0) NN)] H locs := hW
  have hP := hW.1
  obtain ⟨U_1, hU_1⟩ : ∃ z, z = (forN (up2 TV 4 t m0) NN) := ⟨_, rfl⟩
  rw [← hU_1] at hW
  have hP := hW.1
  refine lv_aload_n hx hb dX4_pointsWithPlan_21 rfl (lv_at hl 0 rfl) ?_
  refine b_get (v := .ref (q 4)) hx hb hts inX4 hown hK hP 0 0 5 rfl rfl rfl (by decide) q1_166 rfl rfl dX4_pointsWithPlan_22 ?_
  refine lv_iload_n hx hb dX4_pointsWithPlan_25 rfl (lv_at hl 1 rfl) ?_
  refine call_VR (As := [.int (nI t)]) (rest := []) E rfl hK hP (c_X1_pointsOf l g (q 4) ra U_1 (nI t)) ok_X1_pointsOf rfl q2_96 [2] rfl (b_recv hK hP 2 0 rfl rfl rfl rfl) ⟨⟨rfl, rfl⟩, Nat.le_of_ble_eq_true rfl, Nat.le_of_ble_eq_true rfl⟩ hl.1 (Nat.le_of_ble_eq_true rfl) ⟨Nat.le_of_ble_eq_true rfl, Nat.le_of_ble_eq_true rfl⟩ rfl dX4_pointsWithPlan_26 ?_
  exact uI_ret () hW hx hb hr hlocks dX4_pointsWithPlan_29 (by rw [hU_1]) trivial (by rw [hU_1]) (adr2 (L := [[h], [q 1, ta 0, ta 1, ta 2, ta 3, ta 4, ta 5, ta 6, ta 7, ta 8, ta 9, ta 10, ta 11], [q 4, ra 0, ra 1, ra 2, ra 3]]) rfl rfl)
