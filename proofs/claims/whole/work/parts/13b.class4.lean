set_option maxHeartbeats 4000000 in
set_option maxRecDepth 100000 in
theorem c_X4_makeTurns (l : Launch) (g : gx) (h : Nat) (q : Nat → Nat) (z : Int32) (o : Nat) (oa : Nat → Nat) (V : sV) (ra : Nat → Nat) (NN : sV) (m0 : Nat) (hm : m0 ≤ 50)  : cU (S := Unit) l g yX4_makeTurns cX4_makeTurns 4 none ({ frames := 4, cells := 0, slots := 0, locals := 97 } : Room) [.ref h, .ref o, .int (nI m0)] [bB h q z, vB g o oa V, rB g (q 4) ra NN] (fun _ => none) (fun _ => True) (fun _ => [bB h q z, vB g o oa ((mtV V NN m0).1), rB g (q 4) ra ((mtV V NN m0).2)]) := by
  refine cU.mk (by decide +kernel) (Nat.le_of_ble_eq_true rfl) ?_
  intro p e s m below meth c ls E hK hW hl
  obtain ⟨hx, hb, hr, hml, hts, hown, hlocks, hin⟩ := id E
  have hown : s.vm.findClass RX4 = some m.cls := hown
  have hP := hW.1
  have hl : lv_has ls 4 [(0, .ref h), (1, .ref o), (2, .int (nI m0))] := hl
  refine lv_iconst (v := 0) hx hb dX4_makeTurns_0 (by decide) ?_
  refine lv_istore_n (lv' := [(3, .int 0), (0, .ref h), (1, .ref o), (2, .int (nI m0))]) hx hb dX4_makeTurns_1 rfl hl (by decide) rfl (fun ls hl => ?_)
  refine loopN (fun i : Nat => ∀ (H : Heap) (locs : List Loc) (ls : Array Slot), wd g (fun z9 => z9 ∈ adr [bB h q z, vB g o oa V, rB g (q 4) ra NN]) s.heap [bB h q z, vB g o oa ((mtV V NN i).1), rB g (q 4) ra ((mtV V NN i).2)] H locs → lv_has ls 4 [(0, .ref h), (1, .ref o), (2, .int (nI m0)), (3, .int (nI i))] → W p l e _ s m _ below meth c H locs 0 0 _ (F0 m 2 ls [])) (m0) (fun i hi ih_i => ?_) (0) (by omega)  s.heap [] ls hW (lv_sub hl [1, 2, 3, 0] rfl) 
  intro  H locs ls hW hl 
  have hP := hW.1
  refine lv_iload_n hx hb dX4_makeTurns_2 rfl (lv_at hl 3 rfl) ?_
  refine lv_iload_n hx hb dX4_makeTurns_3 rfl (lv_at hl 2 rfl) ?_
  refine b_ge (tgt := 29) (i) (m0) hx hb rfl rfl (by omega) (by omega) dX4_makeTurns_4 (by decide) (fun h_1 => ?_) (fun h_1 => ?_)
  · obtain rfl : i = m0 := by omega
    exact uV_ret () hW hx hb hr hlocks dX4_makeTurns_29 trivial (rfl) (adr2 (L := [[h], [o, oa 0, oa 1, oa 2, oa 3, oa 4, oa 5, oa 6, oa 7, oa 8, oa 9, oa 10, oa 11], [q 4, ra 0, ra 1, ra 2, ra 3]]) rfl rfl)
  · refine lv_aload_n hx hb dX4_makeTurns_7 rfl (lv_at hl 0 rfl) ?_
    refine b_get (v := .ref (q 4)) hx hb hts inX4 hown hK hP 0 0 5 rfl rfl rfl (by decide) q1_167 rfl rfl dX4_makeTurns_8 ?_
    refine lv_aload_n hx hb dX4_makeTurns_11 rfl (lv_at hl 1 rfl) ?_
    refine call_VU (As := [.ref o]) (rest := []) E rfl hK hW (c_X1_foresee l g (q 4) ra ((mtV V NN i).2) o oa ((mtV V NN i).1)) ok_X1_foresee rfl q2_62 [2, 1] rfl (by decide) (b_recv hK hP 2 0 rfl rfl rfl rfl) ⟨⟨rfl, rfl⟩, Nat.le_of_ble_eq_true rfl, Nat.le_of_ble_eq_true rfl⟩ hl.1 (Nat.le_of_ble_eq_true rfl) ⟨Nat.le_of_ble_eq_true rfl, Nat.le_of_ble_eq_true rfl⟩ rfl dX4_makeTurns_12 (fun _u H locs _ hW => ?_)
    have hW : wd g _ s.heap [bB h q z, vB g o oa ((mtV V NN i).1), rB g (q 4) ra (forN ((mtV V NN i).1) ((mtV V NN i).2))] H locs := hW
    have hP := hW.1
    obtain ⟨U_2, hU_2⟩ : ∃ z, z = (forN ((mtV V NN i).1) ((mtV V NN i).2)) := ⟨_, rfl⟩
    rw [← hU_2] at hW
    have hP := hW.1
    refine lv_aload_n hx hb dX4_makeTurns_15 rfl (lv_at hl 1 rfl) ?_
    refine lv_aload_n hx hb dX4_makeTurns_16 rfl (lv_at hl 0 rfl) ?_
    refine b_get (v := .ref (q 4)) hx hb hts inX4 hown hK hP 0 0 5 rfl rfl rfl (by decide) q1_167 rfl rfl dX4_makeTurns_17 ?_
    refine call_VU (As := [.ref (q 4)]) (rest := []) E rfl hK hW (c_X3_pass l g o oa ((mtV V NN i).1) (q 4) ra U_2) ok_X3_pass rfl q2_94 [1, 2] rfl (by decide) (b_recv hK hP 1 0 rfl rfl rfl rfl) ⟨⟨rfl, rfl⟩, Nat.le_of_ble_eq_true rfl, Nat.le_of_ble_eq_true rfl⟩ hl.1 (Nat.le_of_ble_eq_true rfl) ⟨Nat.le_of_ble_eq_true rfl, Nat.le_of_ble_eq_true rfl⟩ rfl dX4_makeTurns_20 (fun _u H locs _ hW => ?_)
    have hW : wd g _ s.heap [bB h q z, vB g o oa (pasV ((mtV V NN i).1) U_2), rB g (q 4) ra U_2] H locs := hW
    have hP := hW.1
    obtain ⟨U_3, hU_3⟩ : ∃ z, z = (pasV ((mtV V NN i).1) U_2) := ⟨_, rfl⟩
    rw [← hU_3] at hW
    have hP := hW.1
    refine lv_iinc (v := nI (i + 1)) (lv' := [(3, .int (nI (i + 1))), (0, .ref h), (1, .ref o), (2, .int (nI m0))]) hx hb dX4_makeTurns_23 hl (k := 3) rfl (nI_add i 1) (by decide) rfl (fun ls hl => ?_)
    refine lv_goto (tgt := 2) hx hb dX4_makeTurns_26 (by decide) ?_
    have e_4 : ([bB h q z, vB g o oa ((mtV V NN (i + 1)).1), rB g (q 4) ra ((mtV V NN (i + 1)).2)] : List va_W) = [bB h q z, vB g o oa U_3, rB g (q 4) ra U_2] := by rw [hU_3, hU_2]; simp only [mtV]
    exact ih_i (by omega)  _ _ _ (by rw [e_4]; exact hW) (lv_sub hl [1, 2, 3, 0] rfl) 

set_option maxHeartbeats 4000000 in
set_option maxRecDepth 100000 in
theorem c_X4_pointsWithPlan (l : Launch) (g : gx) (h : Nat) (q : Nat → Nat) (z : Int32) (ta : Nat → Nat) (TV : sV) (ra : Nat → Nat) (NN : sV) (t : Nat) (ht : t < 6) (m0 : Int32)  : cU (S := Unit) l g yX4_pointsWithPlan cX4_pointsWithPlan 3 (some .int) ({ frames := 4, cells := 0, slots := 0, locals := 97 } : Room) [.ref h, .int (nI t), .int m0] [bB h q z, vB g (q 1) ta TV, rB g (q 4) ra NN] (fun _ => some (.int (cntF (fun e => forN (up2 TV 4 t m0) NN 3 e = nI t) 6))) (fun _ => True) (fun _ => [bB h q z, vB g (q 1) ta (up2 TV 4 t m0), rB g (q 4) ra (forN (up2 TV 4 t m0) NN)]) := by
  refine cU.mk (by decide +kernel) (Nat.le_of_ble_eq_true rfl) ?_
  intro p e s m below meth c ls E hK hW hl
  obtain ⟨hx, hb, hr, hml, hts, hown, hlocks, hin⟩ := id E
  have hown : s.vm.findClass RX4 = some m.cls := hown
  have hP := hW.1
  have hl : lv_has ls 3 [(0, .ref h), (1, .int (nI t)), (2, .int m0)] := hl
  refine lv_aload_n hx hb dX4_pointsWithPlan_0 rfl (lv_at hl 0 rfl) ?_
  refine b_get (v := .ref (q 1)) hx hb hts inX4 hown hK hP 0 0 1 rfl rfl rfl (by decide) q1_163 rfl rfl dX4_pointsWithPlan_1 ?_
  refine b_get (v := .ref (ta 4)) hx hb hts inX3 hown hK hP 1 0 4 rfl rfl rfl (by decide) q1_33 rfl rfl dX4_pointsWithPlan_4 ?_
  refine lv_iload_n hx hb dX4_pointsWithPlan_7 rfl (lv_at hl 1 rfl) ?_
  refine lv_iload_n hx hb dX4_pointsWithPlan_8 rfl (lv_at hl 2 rfl) ?_
  refine b_iast (B' := [bB h q z, vB g (q 1) ta (up2 TV 4 t m0), rB g (q 4) ra NN]) hx hb hK hW 1 5 (t) rfl rfl rfl (by omega) rfl rfl dX4_pointsWithPlan_9 (fun H locs hW => ?_)
  have hP := hW.1
  refine lv_aload_n hx hb dX4_pointsWithPlan_10 rfl (lv_at hl 0 rfl) ?_
  refine b_get (v := .ref (q 4)) hx hb hts inX4 hown hK hP 0 0 5 rfl rfl rfl (by decide) q1_167 rfl rfl dX4_pointsWithPlan_11 ?_
  refine lv_aload_n hx hb dX4_pointsWithPlan_14 rfl (lv_at hl 0 rfl) ?_
  refine b_get (v := .ref (q 1)) hx hb hts inX4 hown hK hP 0 0 1 rfl rfl rfl (by decide) q1_163 rfl rfl dX4_pointsWithPlan_15 ?_
  refine call_VU (As := [.ref (q 1)]) (rest := []) E rfl hK hW (c_X1_foresee l g (q 4) ra NN (q 1) ta (up2 TV 4 t m0)) ok_X1_foresee rfl q2_62 [2, 1] rfl (by decide) (b_recv hK hP 2 0 rfl rfl rfl rfl) ⟨⟨rfl, rfl⟩, Nat.le_of_ble_eq_true rfl, Nat.le_of_ble_eq_true rfl⟩ hl.1 (Nat.le_of_ble_eq_true rfl) ⟨Nat.le_of_ble_eq_true rfl, Nat.le_of_ble_eq_true rfl⟩ rfl dX4_pointsWithPlan_18 (fun _u H locs _ hW => ?_)
  have hW : wd g _ s.heap [bB h q z, vB g (q 1) ta (up2 TV 4 t m0), rB g (q 4) ra (forN (up2 TV 4 t m0) NN)] H locs := hW
  have hP := hW.1
  obtain ⟨U_1, hU_1⟩ : ∃ z, z = (forN (up2 TV 4 t m0) NN) := ⟨_, rfl⟩
  rw [← hU_1] at hW
  have hP := hW.1
  refine lv_aload_n hx hb dX4_pointsWithPlan_21 rfl (lv_at hl 0 rfl) ?_
  refine b_get (v := .ref (q 4)) hx hb hts inX4 hown hK hP 0 0 5 rfl rfl rfl (by decide) q1_167 rfl rfl dX4_pointsWithPlan_22 ?_
  refine lv_iload_n hx hb dX4_pointsWithPlan_25 rfl (lv_at hl 1 rfl) ?_
  refine call_VR (As := [.int (nI t)]) (rest := []) E rfl hK hP (c_X1_pointsOf l g (q 4) ra U_1 (nI t)) ok_X1_pointsOf rfl q2_239 [2] rfl (b_recv hK hP 2 0 rfl rfl rfl rfl) ⟨⟨rfl, rfl⟩, Nat.le_of_ble_eq_true rfl, Nat.le_of_ble_eq_true rfl⟩ hl.1 (Nat.le_of_ble_eq_true rfl) ⟨Nat.le_of_ble_eq_true rfl, Nat.le_of_ble_eq_true rfl⟩ rfl dX4_pointsWithPlan_26 ?_
  exact uI_ret () hW hx hb hr hlocks dX4_pointsWithPlan_29 (by rw [hU_1]) trivial (by rw [hU_1]) (adr2 (L := [[h], [q 1, ta 0, ta 1, ta 2, ta 3, ta 4, ta 5, ta 6, ta 7, ta 8, ta 9, ta 10, ta 11], [q 4, ra 0, ra 1, ra 2, ra 3]]) rfl rfl)

set_option maxHeartbeats 4000000 in
set_option maxRecDepth 100000 in
theorem c_X4_carryOut (l : Launch) (g : gx) (h : Nat) (q : Nat → Nat) (z : Int32) (na : Nat → Nat) (V : sV) (ra : Nat → Nat) (NN : sV) (sa : Nat) (T : Nat → Nat) (k : Nat) (hk : k ≤ 60) (hT : ∀ i, T i < 127) (i : Nat) (hi : i < 60) (hL : ¬ oI (ltr (sg T k i)) = -1) (hok : okAt T k i)  : cU (S := Unit) l g yX4_carryOut cX4_carryOut 5 (some .boolean) ({ frames := 5, cells := 0, slots := 0, locals := 120 } : Room) [.ref h, .int (nI i)] [bB h q z, vB g (q 0) na V, rB g (q 4) ra NN, tB g (q 5) sa T k] (fun _ => some (.int (bI ((ordC T k i V NN).1 = true)))) (fun _ => True) (fun _ => [bB h q z, vB g (q 0) na ((ordC T k i V NN).2.1), rB g (q 4) ra ((ordC T k i V NN).2.2), tB g (q 5) sa T k]) := by
  refine cU.mk (by decide +kernel) (Nat.le_of_ble_eq_true rfl) ?_
  intro p e s m below meth c ls E hK hW hl
  obtain ⟨hx, hb, hr, hml, hts, hown, hlocks, hin⟩ := id E
  have hown : s.vm.findClass RX4 = some m.cls := hown
  have hP := hW.1
  have hl : lv_has ls 5 [(0, .ref h), (1, .int (nI i))] := hl
  have hsg := sg_lt (n := k) hT i
  have hsg1 := sg_lt (n := k) hT (i + 1)
  refine lv_aload_n hx hb dX4_carryOut_0 rfl (lv_at hl 0 rfl) ?_
  refine b_get (v := .ref (q 5)) hx hb hts inX4 hown hK hP 0 0 6 rfl rfl rfl (by decide) q1_168 rfl rfl dX4_carryOut_1 ?_
  refine lv_iload_n hx hb dX4_carryOut_4 rfl (lv_at hl 1 rfl) ?_
  refine call_VR (As := [.int (nI i)]) (rest := []) E rfl hK hP (c_X2_signAt l g (q 5) sa T k (by omega) i (by omega)) ok_X2_signAt rfl q2_162 [3] rfl (b_recv hK hP 3 0 rfl rfl rfl rfl) ⟨⟨rfl, rfl⟩, Nat.le_of_ble_eq_true rfl, Nat.le_of_ble_eq_true rfl⟩ hl.1 (Nat.le_of_ble_eq_true rfl) ⟨Nat.le_of_ble_eq_true rfl, Nat.le_of_ble_eq_true rfl⟩ rfl dX4_carryOut_5 ?_
  refine lv_istore_n (lv' := [(2, .int (nI (sg T k i))), (0, .ref h), (1, .int (nI i))]) hx hb dX4_carryOut_8 rfl hl (by decide) rfl (fun ls hl => ?_)
  refine lv_aload_n hx hb dX4_carryOut_9 rfl (lv_at hl 1 rfl) ?_
  refine b_get (v := .ref (q 5)) hx hb hts inX4 hown hK hP 0 0 6 rfl rfl rfl (by decide) q1_168 rfl rfl dX4_carryOut_10 ?_
  refine lv_iload_n hx hb dX4_carryOut_13 rfl (lv_at hl 2 rfl) ?_
  refine lv_iconst (v := 1) hx hb dX4_carryOut_14 (by decide) ?_
  refine lv_iadd hx hb dX4_carryOut_15 ?_
  refine b_top (y := nI (i + 1)) (nI_add i 1) ?_
  refine call_VR (As := [.int (nI (i + 1))]) (rest := []) E rfl hK hP (c_X2_digitAt l g (q 5) sa T k (by omega) (i + 1) (by omega)) ok_X2_digitAt rfl q2_163 [3] rfl (b_recv hK hP 3 0 rfl rfl rfl rfl) ⟨⟨rfl, rfl⟩, Nat.le_of_ble_eq_true rfl, Nat.le_of_ble_eq_true rfl⟩ hl.1 (Nat.le_of_ble_eq_true rfl) ⟨Nat.le_of_ble_eq_true rfl, Nat.le_of_ble_eq_true rfl⟩ rfl dX4_carryOut_16 ?_
  refine lv_istore_n (lv' := [(3, .int (nI (sg T k (i + 1)) - 48)), (2, .int (nI (sg T k i))), (0, .ref h), (1, .int (nI i))]) hx hb dX4_carryOut_19 rfl hl (by decide) rfl (fun ls hl => ?_)
  refine lv_iload_n hx hb dX4_carryOut_20 rfl (lv_at hl 1 rfl) ?_
  refine lv_bipush (v := 116) hx hb dX4_carryOut_21 (by decide) ?_
  refine b_ne (tgt := 37) (sg T k i) (116) hx hb rfl rfl (by omega) (by omega) dX4_carryOut_23 (by decide) (fun h_1 => ?_) (fun h_1 => ?_)
  · have h116 := h_1
    refine lv_iload_n hx hb dX4_carryOut_37 rfl (lv_at hl 1 rfl) ?_
    refine lv_bipush (v := 115) hx hb dX4_carryOut_38 (by decide) ?_
    refine b_ne (tgt := 77) (sg T k i) (115) hx hb rfl rfl (by omega) (by omega) dX4_carryOut_40 (by decide) (fun h_2 => ?_) (fun h_2 => ?_)
    · have h115 := h_2
      have h112 : sg T k i = 112 := by
        by_cases e : sg T k i = 112
        · exact e
        · exact absurd (by rw [ltr, if_neg e, if_neg (by assumption), if_neg (by assumption)]; rfl) hL
      obtain ⟨t, ht, hte⟩ := hok.2.2 h112
      have htt := dig48 hte (by omega)
      refine lv_aload_n hx hb dX4_carryOut_77 rfl (lv_at hl 2 rfl) ?_
      refine b_get (v := .ref (q 5)) hx hb hts inX4 hown hK hP 0 0 6 rfl rfl rfl (by decide) q1_168 rfl rfl dX4_carryOut_78 ?_
      refine lv_iload_n hx hb dX4_carryOut_81 rfl (lv_at hl 3 rfl) ?_
      refine lv_iconst (v := 2) hx hb dX4_carryOut_82 (by decide) ?_
      refine lv_iadd hx hb dX4_carryOut_83 ?_
      refine b_top (y := nI (i + 2)) (nI_add i 2) ?_
      refine call_VR (As := [.int (nI (i + 2))]) (rest := []) E rfl hK hP (c_X2_bellsFrom l g (q 5) sa T k (by omega) hT (i + 2) (by omega)) ok_X2_bellsFrom rfl q2_167 [3] rfl (b_recv hK hP 3 0 rfl rfl rfl rfl) ⟨⟨rfl, rfl⟩, Nat.le_of_ble_eq_true rfl, Nat.le_of_ble_eq_true rfl⟩ hl.1 (Nat.le_of_ble_eq_true rfl) ⟨Nat.le_of_ble_eq_true rfl, Nat.le_of_ble_eq_true rfl⟩ rfl dX4_carryOut_84 ?_
      refine lv_istore (lv' := [(4, .int (bfN T k (k - (i + 2)) (i + 2) 0)), (3, .int (nI (sg T k (i + 1)) - 48)), (2, .int (nI (sg T k i))), (0, .ref h), (1, .int (nI i))]) hx hb dX4_carryOut_87 hl (by decide) rfl (fun ls hl => ?_)
      refine lv_aload_n hx hb dX4_carryOut_89 rfl (lv_at hl 3 rfl) ?_
      refine lv_iload_n hx hb dX4_carryOut_90 rfl (lv_at hl 1 rfl) ?_
      refine b_top (y := nI t) htt ?_
      refine lv_iload hx hb dX4_carryOut_91 (lv_at hl 0 rfl) ?_
      refine call_VR (As := [.int (nI t), .int (bfN T k (k - (i + 2)) (i + 2) 0)]) (rest := []) E rfl hK hP (c_X4_planError l g h q z na V (nI t) t (fun _ => ⟨rfl, by omega⟩) (bfN T k (k - (i + 2)) (i + 2) 0)) ok_X4_planError rfl q2_12 [0, 1] rfl (b_recv hK hP 0 0 rfl rfl rfl rfl) ⟨⟨rfl, rfl⟩, Nat.le_of_ble_eq_true rfl, Nat.le_of_ble_eq_true rfl⟩ hl.1 (Nat.le_of_ble_eq_true rfl) ⟨Nat.le_of_ble_eq_true rfl, Nat.le_of_ble_eq_true rfl⟩ rfl dX4_carryOut_93 ?_
      refine lv_if_eq (tgt := 101) hx hb dX4_carryOut_96 (by decide) (fun h_3 => ?_) (fun h_3 => ?_)
      · refine lv_aload_n hx hb dX4_carryOut_101 rfl (lv_at hl 3 rfl) ?_
        refine lv_iload_n hx hb dX4_carryOut_102 rfl (lv_at hl 1 rfl) ?_
        refine b_top (y := nI t) htt ?_
        refine lv_iload hx hb dX4_carryOut_103 (lv_at hl 0 rfl) ?_
        refine call_VU (As := [.int (nI t), .int (bfN T k (k - (i + 2)) (i + 2) 0)]) (rest := []) E rfl hK hW (c_X4_changePlan l g h q z na V t (by omega) (bfN T k (k - (i + 2)) (i + 2) 0)) ok_X4_changePlan rfl q2_20 [0, 1] rfl (by decide) (b_recv hK hP 0 0 rfl rfl rfl rfl) ⟨⟨rfl, rfl⟩, Nat.le_of_ble_eq_true rfl, Nat.le_of_ble_eq_true rfl⟩ hl.1 (Nat.le_of_ble_eq_true rfl) ⟨Nat.le_of_ble_eq_true rfl, Nat.le_of_ble_eq_true rfl⟩ rfl dX4_carryOut_105 (fun _u H locs _ hW => ?_)
        have hW : wd g _ s.heap [bB h q z, vB g (q 0) na (up2 V 4 t (bfN T k (k - (i + 2)) (i + 2) 0)), rB g (q 4) ra NN, tB g (q 5) sa T k] H locs := hW
        have hP := hW.1
        refine lv_pop hx hb dX4_carryOut_108 rfl ?_
        refine lv_iconst (v := 1) hx hb dX4_carryOut_109 (by decide) ?_
        exact uZ_ret () hW hx hb hr hlocks dX4_carryOut_110 (by rfl) (bI_t (by rw [ordC, if_neg h116, if_neg h115, hte, Nat.add_sub_cancel_left, if_pos h_3])) trivial (by rw [ordC, if_neg h116, if_neg h115, hte, Nat.add_sub_cancel_left, if_pos h_3]) (adr2 (L := [[h], [q 0, na 0, na 1, na 2, na 3, na 4, na 5, na 6, na 7, na 8, na 9, na 10, na 11], [q 4, ra 0, ra 1, ra 2, ra 3], [q 5, sa]]) rfl rfl)
      · refine lv_iconst (v := 0) hx hb dX4_carryOut_99 (by decide) ?_
        exact uZ_ret () hW hx hb hr hlocks dX4_carryOut_100 (by rfl) (bI_f (by rw [ordC, if_neg h116, if_neg h115, hte, Nat.add_sub_cancel_left, if_neg h_3]; simp)) trivial (by rw [ordC, if_neg h116, if_neg h115, hte, Nat.add_sub_cancel_left, if_neg h_3]) (adr2 (L := [[h], [q 0, na 0, na 1, na 2, na 3, na 4, na 5, na 6, na 7, na 8, na 9, na 10, na 11], [q 4, ra 0, ra 1, ra 2, ra 3], [q 5, sa]]) rfl rfl)
    · have h115 := h_2
      obtain ⟨t, b, ht, hb5, hte, hbe⟩ := hok.2.1 h_2
      have htt := dig48 hte (by omega)
      have hbb := dig48 hbe (by omega)
      refine lv_aload_n hx hb dX4_carryOut_43 rfl (lv_at hl 2 rfl) ?_
      refine b_get (v := .ref (q 5)) hx hb hts inX4 hown hK hP 0 0 6 rfl rfl rfl (by decide) q1_168 rfl rfl dX4_carryOut_44 ?_
      refine lv_iload_n hx hb dX4_carryOut_47 rfl (lv_at hl 3 rfl) ?_
      refine lv_iconst (v := 2) hx hb dX4_carryOut_48 (by decide) ?_
      refine lv_iadd hx hb dX4_carryOut_49 ?_
      refine b_top (y := nI (i + 2)) (nI_add i 2) ?_
      refine call_VR (As := [.int (nI (i + 2))]) (rest := []) E rfl hK hP (c_X2_digitAt l g (q 5) sa T k (by omega) (i + 2) (by omega)) ok_X2_digitAt rfl q2_163 [3] rfl (b_recv hK hP 3 0 rfl rfl rfl rfl) ⟨⟨rfl, rfl⟩, Nat.le_of_ble_eq_true rfl, Nat.le_of_ble_eq_true rfl⟩ hl.1 (Nat.le_of_ble_eq_true rfl) ⟨Nat.le_of_ble_eq_true rfl, Nat.le_of_ble_eq_true rfl⟩ rfl dX4_carryOut_50 ?_
      refine lv_istore (lv' := [(4, .int (nI (sg T k (i + 2)) - 48)), (3, .int (nI (sg T k (i + 1)) - 48)), (2, .int (nI (sg T k i))), (0, .ref h), (1, .int (nI i))]) hx hb dX4_carryOut_53 hl (by decide) rfl (fun ls hl => ?_)
      refine lv_aload_n hx hb dX4_carryOut_55 rfl (lv_at hl 3 rfl) ?_
      refine lv_iload_n hx hb dX4_carryOut_56 rfl (lv_at hl 1 rfl) ?_
      refine b_top (y := nI t) htt ?_
      refine lv_iload hx hb dX4_carryOut_57 (lv_at hl 0 rfl) ?_
      refine b_top (y := nI b) hbb ?_
      refine call_VR (As := [.int (nI t), .int (nI b)]) (rest := []) E rfl hK hP (c_X4_spliceError l g h q z na V (nI t) (nI b) t b (fun _ => ⟨rfl, by omega, rfl, by omega⟩)) ok_X4_spliceError rfl q2_28 [0, 1] rfl (b_recv hK hP 0 0 rfl rfl rfl rfl) ⟨⟨rfl, rfl⟩, Nat.le_of_ble_eq_true rfl, Nat.le_of_ble_eq_true rfl⟩ hl.1 (Nat.le_of_ble_eq_true rfl) ⟨Nat.le_of_ble_eq_true rfl, Nat.le_of_ble_eq_true rfl⟩ rfl dX4_carryOut_59 ?_
      refine lv_if_eq (tgt := 67) hx hb dX4_carryOut_62 (by decide) (fun h_4 => ?_) (fun h_4 => ?_)
      · refine lv_aload_n hx hb dX4_carryOut_67 rfl (lv_at hl 3 rfl) ?_
        refine lv_iload_n hx hb dX4_carryOut_68 rfl (lv_at hl 1 rfl) ?_
        refine b_top (y := nI t) htt ?_
        refine lv_iload hx hb dX4_carryOut_69 (lv_at hl 0 rfl) ?_
        refine b_top (y := nI b) hbb ?_
        refine call_VU (As := [.int (nI t), .int (nI b)]) (rest := []) E rfl hK hW (c_X4_mendRope l g h q z na V t b (by omega) (by omega)) ok_X4_mendRope rfl q2_36 [0, 1] rfl (by decide) (b_recv hK hP 0 0 rfl rfl rfl rfl) ⟨⟨rfl, rfl⟩, Nat.le_of_ble_eq_true rfl, Nat.le_of_ble_eq_true rfl⟩ hl.1 (Nat.le_of_ble_eq_true rfl) ⟨Nat.le_of_ble_eq_true rfl, Nat.le_of_ble_eq_true rfl⟩ rfl dX4_carryOut_71 (fun _u H locs _ hW => ?_)
        have hW : wd g _ s.heap [bB h q z, vB g (q 0) na (up2 (up2 V 10 (t * 5 + b) 0) 2 t (V 2 t + 2)), rB g (q 4) ra NN, tB g (q 5) sa T k] H locs := hW
        have hP := hW.1
        refine lv_pop hx hb dX4_carryOut_74 rfl ?_
        refine lv_iconst (v := 1) hx hb dX4_carryOut_75 (by decide) ?_
        exact uZ_ret () hW hx hb hr hlocks dX4_carryOut_76 (by rfl) (bI_t (by rw [ordC, if_neg h116, if_pos h115, hte, hbe, Nat.add_sub_cancel_left, Nat.add_sub_cancel_left, if_pos h_4])) trivial (by rw [ordC, if_neg h116, if_pos h115, hte, hbe, Nat.add_sub_cancel_left, Nat.add_sub_cancel_left, if_pos h_4]) (adr2 (L := [[h], [q 0, na 0, na 1, na 2, na 3, na 4, na 5, na 6, na 7, na 8, na 9, na 10, na 11], [q 4, ra 0, ra 1, ra 2, ra 3], [q 5, sa]]) rfl rfl)
      · refine lv_iconst (v := 0) hx hb dX4_carryOut_65 (by decide) ?_
        exact uZ_ret () hW hx hb hr hlocks dX4_carryOut_66 (by rfl) (bI_f (by rw [ordC, if_neg h116, if_pos h115, hte, hbe, Nat.add_sub_cancel_left, Nat.add_sub_cancel_left, if_neg h_4]; simp)) trivial (by rw [ordC, if_neg h116, if_pos h115, hte, hbe, Nat.add_sub_cancel_left, Nat.add_sub_cancel_left, if_neg h_4]) (adr2 (L := [[h], [q 0, na 0, na 1, na 2, na 3, na 4, na 5, na 6, na 7, na 8, na 9, na 10, na 11], [q 4, ra 0, ra 1, ra 2, ra 3], [q 5, sa]]) rfl rfl)
  · have h116 := h_1
    obtain ⟨d, hd1, hd9, hde⟩ := hok.1 h_1
    have hdd := dig48 hde (by omega)
    refine lv_aload_n hx hb dX4_carryOut_26 rfl (lv_at hl 2 rfl) ?_
    refine lv_aload_n hx hb dX4_carryOut_27 rfl (lv_at hl 2 rfl) ?_
    refine b_get (v := .ref (q 0)) hx hb hts inX4 hown hK hP 0 0 0 rfl rfl rfl (by decide) q1_162 rfl rfl dX4_carryOut_28 ?_
    refine lv_iload_n hx hb dX4_carryOut_31 rfl (lv_at hl 0 rfl) ?_
    refine b_top (y := nI d) hdd ?_
    refine call_VU (As := [.ref (q 0), .int (nI d)]) (rest := []) E rfl hK hW (c_X4_makeTurns l g h q z (q 0) na V ra NN d (by omega)) ok_X4_makeTurns rfl q2_58 [0, 1, 2] rfl (by decide) (b_recv hK hP 0 0 rfl rfl rfl rfl) ⟨⟨rfl, rfl⟩, Nat.le_of_ble_eq_true rfl, Nat.le_of_ble_eq_true rfl⟩ hl.1 (Nat.le_of_ble_eq_true rfl) ⟨Nat.le_of_ble_eq_true rfl, Nat.le_of_ble_eq_true rfl⟩ rfl dX4_carryOut_32 (fun _u H locs _ hW => ?_)
    have hW : wd g _ s.heap [bB h q z, vB g (q 0) na ((mtV V NN d).1), rB g (q 4) ra ((mtV V NN d).2), tB g (q 5) sa T k] H locs := hW
    have hP := hW.1
    obtain ⟨U_5, hU_5⟩ : ∃ z, z = (mtV V NN d).1 := ⟨_, rfl⟩
    rw [← hU_5] at hW
    obtain ⟨U_6, hU_6⟩ : ∃ z, z = (mtV V NN d).2 := ⟨_, rfl⟩
    rw [← hU_6] at hW
    have hP := hW.1
    refine lv_iconst (v := 1) hx hb dX4_carryOut_35 (by decide) ?_
    exact uZ_ret () hW hx hb hr hlocks dX4_carryOut_36 (by rfl) (bI_t (by rw [ordC, if_pos h116])) trivial (by rw [ordC, if_pos h116, hde, Nat.add_sub_cancel_left, hU_6, hU_5]) (adr2 (L := [[h], [q 0, na 0, na 1, na 2, na 3, na 4, na 5, na 6, na 7, na 8, na 9, na 10, na 11], [q 4, ra 0, ra 1, ra 2, ra 3], [q 5, sa]]) rfl rfl)
