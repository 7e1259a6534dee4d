set_option maxHeartbeats 4000000 in
set_option maxRecDepth 100000 in
theorem c_X4_bestPlan (l : Launch) (g : gx) (h : Nat) (q : Nat → Nat) (z : Int32) (na : Nat → Nat) (V : sV) (ta : Nat → Nat) (TV : sV) (pa : Nat → Nat) (SV : sV) (hq : Nat) (hh : Nat → Nat) (o n : Nat) (aa : Nat → Nat → Nat) (HV : Nat → sV) (ra : Nat → Nat) (NN : sV) (sa : Nat) (T : Nat → Nat) (k : Nat) (x : Int32) (t c0 : Nat) (ho : o < 5) (hn : n ≤ 5) (hk : k ≤ 60) (hxt : isT x → x = nI t ∧ t < 6) (hc : t < 6 → V 3 t = nI c0 ∧ c0 ≤ 5) : cU (S := sV × sV) l g yX4_bestPlan cX4_bestPlan 8 (some .int) ({ frames := 5, cells := 0, slots := 0, locals := 119 } : Room) [.ref h, .int x] [bB h q z, vB g (q 0) na V, vB g (q 1) ta TV, vB g (q 2) pa SV, hB g (q 3) hq hh o n, vB g (hh 0) (aa 0) (HV 0), vB g (hh 1) (aa 1) (HV 1), vB g (hh 2) (aa 2) (HV 2), vB g (hh 3) (aa 3) (HV 3), vB g (hh 4) (aa 4) (HV 4), rB g (q 4) ra NN, tB g (q 5) sa T k] (fun u => some (.int (if isT x then (bpS V NN t (2 ^ c0 - 1)).1.1 else -1))) (fun u => True) (fun u => [bB h q z, vB g (q 0) na V, vB g (q 1) ta u.1, vB g (q 2) pa SV, hB g (q 3) hq hh o n, vB g (hh 0) (aa 0) (HV 0), vB g (hh 1) (aa 1) (HV 1), vB g (hh 2) (aa 2) (HV 2), vB g (hh 3) (aa 3) (HV 3), vB g (hh 4) (aa 4) (HV 4), rB g (q 4) ra u.2, tB g (q 5) sa T k]) := by
  refine cU.mk (by decide +kernel) (Nat.le_of_ble_eq_true rfl) ?_
  intro p e s m below meth c ls E hK hW hl
  obtain ⟨hx, hb, hr, hml, hts, hown, hlocks, hin⟩ := id E
  have hown : s.vm.findClass RX4 = some m.cls := hown
  have hP := hW.1
  have hl : lv_has ls 8 [(0, .ref h), (1, .int x)] := hl
  refine lv_iload_n hx hb dX4_bestPlan_0 rfl (lv_at hl 1 rfl) ?_
  refine call_SR (As := [.int x]) (rest := []) E rfl hK hP (c_X4_isTown l g x) ok_X4_isTown rfl q1_198 [] rfl ⟨⟨rfl, rfl⟩, Nat.le_of_ble_eq_true rfl, Nat.le_of_ble_eq_true rfl⟩ hl.1 (Nat.le_of_ble_eq_true rfl) ⟨Nat.le_of_ble_eq_true rfl, Nat.le_of_ble_eq_true rfl⟩ rfl dX4_bestPlan_1 ?_
  refine b_ne0 (tgt := 9) hx hb dX4_bestPlan_4 (by decide) (fun h_1 => ?_) (fun h_1 => ?_)
  · have hT1 := h_1
    obtain ⟨rfl, ht⟩ := hxt h_1
    obtain ⟨hc, hc5⟩ := hc ht
    have hM : 2 ^ c0 - 1 < 32 := by rcases (show c0 = 0 ∨ c0 = 1 ∨ c0 = 2 ∨ c0 = 3 ∨ c0 = 4 ∨ c0 = 5 by omega) with rfl | rfl | rfl | rfl | rfl | rfl <;> decide
    refine lv_aload_n hx hb dX4_bestPlan_9 rfl (lv_at hl 0 rfl) ?_
    refine b_get (v := .ref (q 1)) hx hb hts inX4 hown hK hP 0 0 1 rfl rfl rfl (by decide) q1_162 rfl rfl dX4_bestPlan_10 ?_
    refine lv_aload_n hx hb dX4_bestPlan_13 rfl (lv_at hl 0 rfl) ?_
    refine b_get (v := .ref (q 0)) hx hb hts inX4 hown hK hP 0 0 0 rfl rfl rfl (by decide) q1_161 rfl rfl dX4_bestPlan_14 ?_
    refine call_VU (As := [.ref (q 0)]) (rest := []) E rfl hK hW (c_X3_copyFrom l g (q 1) ta TV (q 0) na V) ok_X3_copyFrom rfl q2_79 [2, 1] rfl (by decide) (b_recv hK hP 2 0 rfl rfl rfl rfl) ⟨⟨rfl, rfl⟩, Nat.le_of_ble_eq_true rfl, Nat.le_of_ble_eq_true rfl⟩ hl.1 (Nat.le_of_ble_eq_true rfl) ⟨Nat.le_of_ble_eq_true rfl, Nat.le_of_ble_eq_true rfl⟩ rfl dX4_bestPlan_17 (fun _u H locs _ hW => ?_)
    have hW : wd g _ s.heap [bB h q z, vB g (q 0) na V, vB g (q 1) ta V, vB g (q 2) pa SV, hB g (q 3) hq hh o n, vB g (hh 0) (aa 0) (HV 0), vB g (hh 1) (aa 1) (HV 1), vB g (hh 2) (aa 2) (HV 2), vB g (hh 3) (aa 3) (HV 3), vB g (hh 4) (aa 4) (HV 4), rB g (q 4) ra NN, tB g (q 5) sa T k] H locs := hW
    have hP := hW.1
    refine lv_iconst (v := 0) hx hb dX4_bestPlan_20 (by decide) ?_
    refine lv_istore_n (lv' := [(2, .int 0), (0, .ref h), (1, .int (nI t))]) hx hb dX4_bestPlan_21 rfl hl (by decide) rfl (fun ls hl => ?_)
    refine lv_aload_n hx hb dX4_bestPlan_22 rfl (lv_at hl 1 rfl) ?_
    refine lv_iload_n hx hb dX4_bestPlan_23 rfl (lv_at hl 2 rfl) ?_
    refine lv_iload_n hx hb dX4_bestPlan_24 rfl (lv_at hl 0 rfl) ?_
    refine call_VU (As := [.int (nI t), .int 0]) (rest := []) E rfl hK hW (c_X4_pointsWithPlan l g h q z ta V ra NN t (by omega) 0) ok_X4_pointsWithPlan rfl q2_92 [0, 2, 10] rfl (by decide) (b_recv hK hP 0 0 rfl rfl rfl rfl) ⟨⟨rfl, rfl⟩, Nat.le_of_ble_eq_true rfl, Nat.le_of_ble_eq_true rfl⟩ hl.1 (Nat.le_of_ble_eq_true rfl) ⟨Nat.le_of_ble_eq_true rfl, Nat.le_of_ble_eq_true rfl⟩ rfl dX4_bestPlan_25 (fun _u H locs _ hW => ?_)
    have hW : wd g _ s.heap [bB h q z, vB g (q 0) na V, vB g (q 1) ta (up2 V 4 t 0), vB g (q 2) pa SV, hB g (q 3) hq hh o n, vB g (hh 0) (aa 0) (HV 0), vB g (hh 1) (aa 1) (HV 1), vB g (hh 2) (aa 2) (HV 2), vB g (hh 3) (aa 3) (HV 3), vB g (hh 4) (aa 4) (HV 4), rB g (q 4) ra (forN (up2 V 4 t 0) NN), tB g (q 5) sa T k] H locs := hW
    have hP := hW.1
    obtain ⟨U_2, hU_2⟩ : ∃ z, z = (forN (up2 V 4 t 0) NN) := ⟨_, rfl⟩
    rw [← hU_2] at hW
    have hP := hW.1
    rw [← hU_2]
    refine lv_istore_n (lv' := [(3, .int (cntF (fun e => U_2 3 e = nI t) 6)), (2, .int 0), (0, .ref h), (1, .int (nI t))]) hx hb dX4_bestPlan_28 rfl hl (by decide) rfl (fun ls hl => ?_)
    refine lv_aload_n hx hb dX4_bestPlan_29 rfl (lv_at hl 2 rfl) ?_
    refine b_get (v := .ref (q 4)) hx hb hts inX4 hown hK hP 0 0 5 rfl rfl rfl (by decide) q1_166 rfl rfl dX4_bestPlan_30 ?_
    refine b_get (v := .ref (ra 1)) hx hb hts inX1 hown hK hP 10 0 1 rfl rfl rfl (by decide) q1_127 rfl rfl dX4_bestPlan_33 ?_
    refine lv_iload_n hx hb dX4_bestPlan_36 rfl (lv_at hl 3 rfl) ?_
    refine b_iald (v := U_2 1 t) hx hb hK hP 10 2 (t) rfl rfl rfl (by omega) rfl rfl dX4_bestPlan_37 ?_
    refine lv_istore (lv' := [(4, .int (U_2 1 t)), (3, .int (cntF (fun e => U_2 3 e = nI t) 6)), (2, .int 0), (0, .ref h), (1, .int (nI t))]) hx hb dX4_bestPlan_38 hl (by decide) rfl (fun ls hl => ?_)
    refine lv_iconst (v := 1) hx hb dX4_bestPlan_40 (by decide) ?_
    refine lv_istore (lv' := [(5, .int 1), (4, .int (U_2 1 t)), (3, .int (cntF (fun e => U_2 3 e = nI t) 6)), (2, .int 0), (0, .ref h), (1, .int (nI t))]) hx hb dX4_bestPlan_41 hl (by decide) rfl (fun ls hl => ?_)
    have e_3 : bpS V NN t 0 = ((0, cntF (fun e => U_2 3 e = nI t) 6, U_2 1 t), (up2 V 4 t 0), U_2) := by rw [bpS, hU_2]
    refine loopN (fun i : Nat => ∀ (H : Heap) (locs : List Loc) (ls : Array Slot), wd g (fun z9 => z9 ∈ adr [bB h q z, vB g (q 0) na V, vB g (q 1) ta TV, vB g (q 2) pa SV, hB g (q 3) hq hh o n, vB g (hh 0) (aa 0) (HV 0), vB g (hh 1) (aa 1) (HV 1), vB g (hh 2) (aa 2) (HV 2), vB g (hh 3) (aa 3) (HV 3), vB g (hh 4) (aa 4) (HV 4), rB g (q 4) ra NN, tB g (q 5) sa T k]) s.heap [bB h q z, vB g (q 0) na V, vB g (q 1) ta ((bpS V NN t i).2.1), vB g (q 2) pa SV, hB g (q 3) hq hh o n, vB g (hh 0) (aa 0) (HV 0), vB g (hh 1) (aa 1) (HV 1), vB g (hh 2) (aa 2) (HV 2), vB g (hh 3) (aa 3) (HV 3), vB g (hh 4) (aa 4) (HV 4), rB g (q 4) ra ((bpS V NN t i).2.2), tB g (q 5) sa T k] H locs → lv_has ls 8 [(0, .ref h), (1, .int (nI t)), (2, .int ((bpS V NN t i).1.1)), (3, .int ((bpS V NN t i).1.2.1)), (4, .int ((bpS V NN t i).1.2.2)), (5, .int (nI (i + 1)))] → W p l e _ s m _ below meth c H locs 0 0 _ (F0 m 43 ls [])) (2 ^ c0 - 1) (fun i hi ih_i => ?_) (0) (by omega)  H locs ls (by rw [e_3]; exact hW) (by rw [e_3]; exact lv_sub hl [4, 5, 3, 2, 1, 0] rfl) 
    intro  H locs ls hW hl 
    have hP := hW.1
    refine lv_iload hx hb dX4_bestPlan_43 (lv_at hl 5 rfl) ?_
    refine lv_aload_n hx hb dX4_bestPlan_45 rfl (lv_at hl 0 rfl) ?_
    refine b_get (v := .ref (q 0)) hx hb hts inX4 hown hK hP 0 0 0 rfl rfl rfl (by decide) q1_161 rfl rfl dX4_bestPlan_46 ?_
    refine lv_iload_n hx hb dX4_bestPlan_49 rfl (lv_at hl 1 rfl) ?_
    refine call_VR (As := [.int (nI t)]) (rest := [.int (nI (i + 1))]) E rfl hK hP (c_X3_everyBell l g (q 0) na V t (by omega)) ok_X3_everyBell rfl q2_78 [1] rfl (b_recv hK hP 1 0 rfl rfl rfl rfl) ⟨⟨rfl, rfl⟩, Nat.le_of_ble_eq_true rfl, Nat.le_of_ble_eq_true rfl⟩ hl.1 (Nat.le_of_ble_eq_true rfl) ⟨Nat.le_of_ble_eq_true rfl, Nat.le_of_ble_eq_true rfl⟩ rfl dX4_bestPlan_50 ?_
    refine b_top (y := nI (2 ^ c0 - 1)) (evB_nat hc hc5) ?_
    refine b_gt (tgt := 111) (i + 1) (2 ^ c0 - 1) hx hb rfl rfl (by omega) (by omega) dX4_bestPlan_53 (by decide) (fun h_4 => ?_) (fun h_4 => ?_)
    · have hiM : i = 2 ^ c0 - 1 := by omega
      refine lv_iload_n hx hb dX4_bestPlan_111 rfl (lv_at hl 2 rfl) ?_
      exact uI_ret ((bpS V NN t i).2.1, (bpS V NN t i).2.2) hW hx hb hr hlocks dX4_bestPlan_112 (by rw [if_pos hT1, hiM]) trivial ((by exact rfl)) (adr2 (L := [[h], [q 0, na 0, na 1, na 2, na 3, na 4, na 5, na 6, na 7, na 8, na 9, na 10, na 11], [q 1, ta 0, ta 1, ta 2, ta 3, ta 4, ta 5, ta 6, ta 7, ta 8, ta 9, ta 10, ta 11], [q 2, pa 0, pa 1, pa 2, pa 3, pa 4, pa 5, pa 6, pa 7, pa 8, pa 9, pa 10, pa 11], [q 3, hq], [hh 0, (aa 0) 0, (aa 0) 1, (aa 0) 2, (aa 0) 3, (aa 0) 4, (aa 0) 5, (aa 0) 6, (aa 0) 7, (aa 0) 8, (aa 0) 9, (aa 0) 10, (aa 0) 11], [hh 1, (aa 1) 0, (aa 1) 1, (aa 1) 2, (aa 1) 3, (aa 1) 4, (aa 1) 5, (aa 1) 6, (aa 1) 7, (aa 1) 8, (aa 1) 9, (aa 1) 10, (aa 1) 11], [hh 2, (aa 2) 0, (aa 2) 1, (aa 2) 2, (aa 2) 3, (aa 2) 4, (aa 2) 5, (aa 2) 6, (aa 2) 7, (aa 2) 8, (aa 2) 9, (aa 2) 10, (aa 2) 11], [hh 3, (aa 3) 0, (aa 3) 1, (aa 3) 2, (aa 3) 3, (aa 3) 4, (aa 3) 5, (aa 3) 6, (aa 3) 7, (aa 3) 8, (aa 3) 9, (aa 3) 10, (aa 3) 11], [hh 4, (aa 4) 0, (aa 4) 1, (aa 4) 2, (aa 4) 3, (aa 4) 4, (aa 4) 5, (aa 4) 6, (aa 4) 7, (aa 4) 8, (aa 4) 9, (aa 4) 10, (aa 4) 11], [q 4, ra 0, ra 1, ra 2, ra 3], [q 5, sa]]) rfl rfl)
    · refine lv_aload_n hx hb dX4_bestPlan_56 rfl (lv_at hl 0 rfl) ?_
      refine lv_iload_n hx hb dX4_bestPlan_57 rfl (lv_at hl 1 rfl) ?_
      refine lv_iload hx hb dX4_bestPlan_58 (lv_at hl 5 rfl) ?_
      refine call_VU (As := [.int (nI t), .int (nI (i + 1))]) (rest := []) E rfl hK hW (c_X4_pointsWithPlan l g h q z ta ((bpS V NN t i).2.1) ra ((bpS V NN t i).2.2) t (by omega) (nI (i + 1))) ok_X4_pointsWithPlan rfl q2_92 [0, 2, 10] rfl (by decide) (b_recv hK hP 0 0 rfl rfl rfl rfl) ⟨⟨rfl, rfl⟩, Nat.le_of_ble_eq_true rfl, Nat.le_of_ble_eq_true rfl⟩ hl.1 (Nat.le_of_ble_eq_true rfl) ⟨Nat.le_of_ble_eq_true rfl, Nat.le_of_ble_eq_true rfl⟩ rfl dX4_bestPlan_60 (fun _u H locs _ hW => ?_)
      have hW : wd g _ s.heap [bB h q z, vB g (q 0) na V, vB g (q 1) ta (up2 ((bpS V NN t i).2.1) 4 t (nI (i + 1))), vB g (q 2) pa SV, hB g (q 3) hq hh o n, vB g (hh 0) (aa 0) (HV 0), vB g (hh 1) (aa 1) (HV 1), vB g (hh 2) (aa 2) (HV 2), vB g (hh 3) (aa 3) (HV 3), vB g (hh 4) (aa 4) (HV 4), rB g (q 4) ra (forN (up2 ((bpS V NN t i).2.1) 4 t (nI (i + 1))) ((bpS V NN t i).2.2)), tB g (q 5) sa T k] H locs := hW
      have hP := hW.1
      obtain ⟨U_5, hU_5⟩ : ∃ z, z = (forN (up2 ((bpS V NN t i).2.1) 4 t (nI (i + 1))) ((bpS V NN t i).2.2)) := ⟨_, rfl⟩
      rw [← hU_5] at hW
      have hP := hW.1
      rw [← hU_5]
      refine lv_istore (lv' := [(6, .int (cntF (fun e => U_5 3 e = nI t) 6)), (0, .ref h), (1, .int (nI t)), (2, .int ((bpS V NN t i).1.1)), (3, .int ((bpS V NN t i).1.2.1)), (4, .int ((bpS V NN t i).1.2.2)), (5, .int (nI (i + 1)))]) hx hb dX4_bestPlan_63 hl (by decide) rfl (fun ls hl => ?_)
      refine lv_aload_n hx hb dX4_bestPlan_65 rfl (lv_at hl 1 rfl) ?_
      refine b_get (v := .ref (q 4)) hx hb hts inX4 hown hK hP 0 0 5 rfl rfl rfl (by decide) q1_166 rfl rfl dX4_bestPlan_66 ?_
      refine b_get (v := .ref (ra 1)) hx hb hts inX1 hown hK hP 10 0 1 rfl rfl rfl (by decide) q1_127 rfl rfl dX4_bestPlan_69 ?_
      refine lv_iload_n hx hb dX4_bestPlan_72 rfl (lv_at hl 2 rfl) ?_
      refine b_iald (v := U_5 1 t) hx hb hK hP 10 2 (t) rfl rfl rfl (by omega) rfl rfl dX4_bestPlan_73 ?_
      refine lv_istore (lv' := [(7, .int (U_5 1 t)), (6, .int (cntF (fun e => U_5 3 e = nI t) 6)), (0, .ref h), (1, .int (nI t)), (2, .int ((bpS V NN t i).1.1)), (3, .int ((bpS V NN t i).1.2.1)), (4, .int ((bpS V NN t i).1.2.2)), (5, .int (nI (i + 1)))]) hx hb dX4_bestPlan_74 hl (by decide) rfl (fun ls hl => ?_)
      refine lv_iload hx hb dX4_bestPlan_76 (lv_at hl 1 rfl) ?_
      refine lv_iload_n hx hb dX4_bestPlan_78 rfl (lv_at hl 5 rfl) ?_
      refine lv_icmp_gt (tgt := 95) hx hb dX4_bestPlan_79 (by decide) (fun h_6 => ?_) (fun h_6 => ?_)
      · refine lv_iload hx hb dX4_bestPlan_95 (lv_at hl 7 rfl) ?_
        refine lv_istore_n (lv' := [(2, .int (nI (i + 1))), (7, .int (U_5 1 t)), (6, .int (cntF (fun e => U_5 3 e = nI t) 6)), (0, .ref h), (1, .int (nI t)), (3, .int ((bpS V NN t i).1.2.1)), (4, .int ((bpS V NN t i).1.2.2)), (5, .int (nI (i + 1)))]) hx hb dX4_bestPlan_97 rfl hl (by decide) rfl (fun ls hl => ?_)
        refine lv_iload hx hb dX4_bestPlan_98 (lv_at hl 2 rfl) ?_
        refine lv_istore_n (lv' := [(3, .int (cntF (fun e => U_5 3 e = nI t) 6)), (2, .int (nI (i + 1))), (7, .int (U_5 1 t)), (6, .int (cntF (fun e => U_5 3 e = nI t) 6)), (0, .ref h), (1, .int (nI t)), (4, .int ((bpS V NN t i).1.2.2)), (5, .int (nI (i + 1)))]) hx hb dX4_bestPlan_100 rfl hl (by decide) rfl (fun ls hl => ?_)
        refine lv_iload hx hb dX4_bestPlan_101 (lv_at hl 2 rfl) ?_
        refine lv_istore (lv' := [(4, .int (U_5 1 t)), (3, .int (cntF (fun e => U_5 3 e = nI t) 6)), (2, .int (nI (i + 1))), (7, .int (U_5 1 t)), (6, .int (cntF (fun e => U_5 3 e = nI t) 6)), (0, .ref h), (1, .int (nI t)), (5, .int (nI (i + 1)))]) hx hb dX4_bestPlan_103 hl (by decide) rfl (fun ls hl => ?_)
        refine lv_iinc (v := nI (i + 1 + 1)) (lv' := [(5, .int (nI (i + 1 + 1))), (4, .int (U_5 1 t)), (3, .int (cntF (fun e => U_5 3 e = nI t) 6)), (2, .int (nI (i + 1))), (7, .int (U_5 1 t)), (6, .int (cntF (fun e => U_5 3 e = nI t) 6)), (0, .ref h), (1, .int (nI t))]) hx hb dX4_bestPlan_105 hl (k := 7) rfl (nI_add (i + 1) 1) (by decide) rfl (fun ls hl => ?_)
        refine lv_goto (tgt := 43) hx hb dX4_bestPlan_108 (by decide) ?_
        have e_7 : bpS V NN t (i + 1) = ((nI (i + 1), cntF (fun e => U_5 3 e = nI t) 6, U_5 1 t), (up2 ((bpS V NN t i).2.1) 4 t (nI (i + 1))), U_5) := by rw [bpS]; simp only [← hU_5]; first | (rw [if_pos h_6]; done) | (rw [if_neg h_4, if_neg h_6]; done) | (rw [if_neg h_1, if_pos h_4, if_pos h_6]; done) | (rw [if_neg h_1, if_pos h_4, if_neg h_6]; done)
        exact ih_i (by omega) _ _ _ (by rw [e_7]; exact hW) (by rw [e_7]; exact lv_sub hl [6, 7, 3, 2, 1, 0] rfl) 
      · refine lv_iload hx hb dX4_bestPlan_82 (lv_at hl 1 rfl) ?_
        refine lv_iload_n hx hb dX4_bestPlan_84 rfl (lv_at hl 5 rfl) ?_
        refine lv_icmp_ne (tgt := 105) hx hb dX4_bestPlan_85 (by decide) (fun h_8 => ?_) (fun h_8 => ?_)
        · refine lv_iinc (v := nI (i + 1 + 1)) (lv' := [(5, .int (nI (i + 1 + 1))), (7, .int (U_5 1 t)), (6, .int (cntF (fun e => U_5 3 e = nI t) 6)), (0, .ref h), (1, .int (nI t)), (2, .int ((bpS V NN t i).1.1)), (3, .int ((bpS V NN t i).1.2.1)), (4, .int ((bpS V NN t i).1.2.2))]) hx hb dX4_bestPlan_105 hl (k := 7) rfl (nI_add (i + 1) 1) (by decide) rfl (fun ls hl => ?_)
          refine lv_goto (tgt := 43) hx hb dX4_bestPlan_108 (by decide) ?_
          have e_9 : bpS V NN t (i + 1) = (((bpS V NN t i).1.1, (bpS V NN t i).1.2.1, (bpS V NN t i).1.2.2), (up2 ((bpS V NN t i).2.1) 4 t (nI (i + 1))), U_5) := by rw [bpS]; simp only [← hU_5]; first | (rw [if_pos h_8]; done) | (rw [if_neg h_6, if_neg h_8]; done) | (rw [if_neg h_4, if_pos h_6, if_pos h_8]; done) | (rw [if_neg h_4, if_pos h_6, if_neg h_8]; done)
          exact ih_i (by omega) _ _ _ (by rw [e_9]; exact hW) (by rw [e_9]; exact lv_sub hl [3, 4, 5, 6, 7, 0] rfl) 
        · refine lv_iload hx hb dX4_bestPlan_88 (lv_at hl 0 rfl) ?_
          refine lv_iload hx hb dX4_bestPlan_90 (lv_at hl 6 rfl) ?_
          refine lv_icmp_ge (tgt := 105) hx hb dX4_bestPlan_92 (by decide) (fun h_10 => ?_) (fun h_10 => ?_)
          · refine lv_iinc (v := nI (i + 1 + 1)) (lv' := [(5, .int (nI (i + 1 + 1))), (7, .int (U_5 1 t)), (6, .int (cntF (fun e => U_5 3 e = nI t) 6)), (0, .ref h), (1, .int (nI t)), (2, .int ((bpS V NN t i).1.1)), (3, .int ((bpS V NN t i).1.2.1)), (4, .int ((bpS V NN t i).1.2.2))]) hx hb dX4_bestPlan_105 hl (k := 7) rfl (nI_add (i + 1) 1) (by decide) rfl (fun ls hl => ?_)
            refine lv_goto (tgt := 43) hx hb dX4_bestPlan_108 (by decide) ?_
            have e_11 : bpS V NN t (i + 1) = (((bpS V NN t i).1.1, (bpS V NN t i).1.2.1, (bpS V NN t i).1.2.2), (up2 ((bpS V NN t i).2.1) 4 t (nI (i + 1))), U_5) := by rw [bpS]; simp only [← hU_5]; first | (rw [if_pos h_10]; done) | (rw [if_neg h_8, if_neg h_10]; done) | (rw [if_neg h_6, if_pos h_8, if_pos h_10]; done) | (rw [if_neg h_6, if_pos h_8, if_neg h_10]; done)
            exact ih_i (by omega) _ _ _ (by rw [e_11]; exact hW) (by rw [e_11]; exact lv_sub hl [3, 4, 5, 6, 7, 0] rfl) 
          · refine lv_iload hx hb dX4_bestPlan_95 (lv_at hl 7 rfl) ?_
            refine lv_istore_n (lv' := [(2, .int (nI (i + 1))), (7, .int (U_5 1 t)), (6, .int (cntF (fun e => U_5 3 e = nI t) 6)), (0, .ref h), (1, .int (nI t)), (3, .int ((bpS V NN t i).1.2.1)), (4, .int ((bpS V NN t i).1.2.2)), (5, .int (nI (i + 1)))]) hx hb dX4_bestPlan_97 rfl hl (by decide) rfl (fun ls hl => ?_)
            refine lv_iload hx hb dX4_bestPlan_98 (lv_at hl 2 rfl) ?_
            refine lv_istore_n (lv' := [(3, .int (cntF (fun e => U_5 3 e = nI t) 6)), (2, .int (nI (i + 1))), (7, .int (U_5 1 t)), (6, .int (cntF (fun e => U_5 3 e = nI t) 6)), (0, .ref h), (1, .int (nI t)), (4, .int ((bpS V NN t i).1.2.2)), (5, .int (nI (i + 1)))]) hx hb dX4_bestPlan_100 rfl hl (by decide) rfl (fun ls hl => ?_)
            refine lv_iload hx hb dX4_bestPlan_101 (lv_at hl 2 rfl) ?_
            refine lv_istore (lv' := [(4, .int (U_5 1 t)), (3, .int (cntF (fun e => U_5 3 e = nI t) 6)), (2, .int (nI (i + 1))), (7, .int (U_5 1 t)), (6, .int (cntF (fun e => U_5 3 e = nI t) 6)), (0, .ref h), (1, .int (nI t)), (5, .int (nI (i + 1)))]) hx hb dX4_bestPlan_103 hl (by decide) rfl (fun ls hl => ?_)
            refine lv_iinc (v := nI (i + 1 + 1)) (lv' := [(5, .int (nI (i + 1 + 1))), (4, .int (U_5 1 t)), (3, .int (cntF (fun e => U_5 3 e = nI t) 6)), (2, .int (nI (i + 1))), (7, .int (U_5 1 t)), (6, .int (cntF (fun e => U_5 3 e = nI t) 6)), (0, .ref h), (1, .int (nI t))]) hx hb dX4_bestPlan_105 hl (k := 7) rfl (nI_add (i + 1) 1) (by decide) rfl (fun ls hl => ?_)
            refine lv_goto (tgt := 43) hx hb dX4_bestPlan_108 (by decide) ?_
            have e_12 : bpS V NN t (i + 1) = ((nI (i + 1), cntF (fun e => U_5 3 e = nI t) 6, U_5 1 t), (up2 ((bpS V NN t i).2.1) 4 t (nI (i + 1))), U_5) := by rw [bpS]; simp only [← hU_5]; first | (rw [if_pos h_10]; done) | (rw [if_neg h_8, if_neg h_10]; done) | (rw [if_neg h_6, if_pos h_8, if_pos h_10]; done) | (rw [if_neg h_6, if_pos h_8, if_neg h_10]; done)
            exact ih_i (by omega) _ _ _ (by rw [e_12]; exact hW) (by rw [e_12]; exact lv_sub hl [6, 7, 3, 2, 1, 0] rfl) 
  · refine lv_iconst (v := -1) hx hb dX4_bestPlan_7 (by decide) ?_
    exact uI_ret (TV, NN) hW hx hb hr hlocks dX4_bestPlan_8 (by rw [if_neg h_1]) trivial ((by exact rfl)) (adr2 (L := [[h], [q 0, na 0, na 1, na 2, na 3, na 4, na 5, na 6, na 7, na 8, na 9, na 10, na 11], [q 1, ta 0, ta 1, ta 2, ta 3, ta 4, ta 5, ta 6, ta 7, ta 8, ta 9, ta 10, ta 11], [q 2, pa 0, pa 1, pa 2, pa 3, pa 4, pa 5, pa 6, pa 7, pa 8, pa 9, pa 10, pa 11], [q 3, hq], [hh 0, (aa 0) 0, (aa 0) 1, (aa 0) 2, (aa 0) 3, (aa 0) 4, (aa 0) 5, (aa 0) 6, (aa 0) 7, (aa 0) 8, (aa 0) 9, (aa 0) 10, (aa 0) 11], [hh 1, (aa 1) 0, (aa 1) 1, (aa 1) 2, (aa 1) 3, (aa 1) 4, (aa 1) 5, (aa 1) 6, (aa 1) 7, (aa 1) 8, (aa 1) 9, (aa 1) 10, (aa 1) 11], [hh 2, (aa 2) 0, (aa 2) 1, (aa 2) 2, (aa 2) 3, (aa 2) 4, (aa 2) 5, (aa 2) 6, (aa 2) 7, (aa 2) 8, (aa 2) 9, (aa 2) 10, (aa 2) 11], [hh 3, (aa 3) 0, (aa 3) 1, (aa 3) 2, (aa 3) 3, (aa 3) 4, (aa 3) 5, (aa 3) 6, (aa 3) 7, (aa 3) 8, (aa 3) 9, (aa 3) 10, (aa 3) 11], [hh 4, (aa 4) 0, (aa 4) 1, (aa 4) 2, (aa 4) 3, (aa 4) 4, (aa 4) 5, (aa 4) 6, (aa 4) 7, (aa 4) 8, (aa 4) 9, (aa 4) 10, (aa 4) 11], [q 4, ra 0, ra 1, ra 2, ra 3], [q 5, sa]]) rfl rfl)
