set_option maxHeartbeats 4000000 in
set_option maxRecDepth 100000 in
theorem c_X4_turns (l : Launch) (g : gx) (h : Nat) (q : Nat → Nat) (z : Int32) (na : Nat → Nat) (V : sV) (ta : Nat → Nat) (TV : sV) (pa : Nat → Nat) (SV : sV) (hq : Nat) (hh : Nat → Nat) (o n : Nat) (aa : Nat → Nat → Nat) (HV : Nat → sV) (ra : Nat → Nat) (NN : sV) (sa : Nat) (T : Nat → Nat) (k : Nat) (x : Int32) (m0 : Nat) (ho : o < 5) (hn : n ≤ 5) (hk : k ≤ 60) (hxm : tErr x = 0 → x = nI m0 ∧ m0 ≤ 50) : cU (S := Bool) l g yX4_turns cX4_turns 3 (some .int) ({ frames := 5, cells := 0, slots := 0, locals := 124 } : Room) [.ref h, .int x] [bB h q z, vB g (q 0) na V, vB g (q 1) ta TV, vB g (q 2) pa SV, hB g (q 3) hq hh o n, vB g (hh 0) (aa 0) (HV 0), vB g (hh 1) (aa 1) (HV 1), vB g (hh 2) (aa 2) (HV 2), vB g (hh 3) (aa 3) (HV 3), vB g (hh 4) (aa 4) (HV 4), rB g (q 4) ra NN, tB g (q 5) sa T k] (fun u => some (.int (bif u then ((mtV V NN m0).1 12 3) else (tErr x)))) (fun u => bif u then tErr x = 0 else ¬ tErr x = 0) (fun u => [bB h q z, vB g (q 0) na (bif u then (mtV V NN m0).1 else V), vB g (q 1) ta TV, vB g (q 2) pa SV, hB g (q 3) hq hh (bif u then recO o n else o) (bif u then recS n else n), vB g (hh 0) (aa 0) ((bif u then recH o n HV V else HV) 0), vB g (hh 1) (aa 1) ((bif u then recH o n HV V else HV) 1), vB g (hh 2) (aa 2) ((bif u then recH o n HV V else HV) 2), vB g (hh 3) (aa 3) ((bif u then recH o n HV V else HV) 3), vB g (hh 4) (aa 4) ((bif u then recH o n HV V else HV) 4), rB g (q 4) ra (bif u then (mtV V NN m0).2 else NN), tB g (q 5) sa T k]) := by
  refine cU.mk (by decide +kernel) (Nat.le_of_ble_eq_true rfl) ?_
  intro p e s m below meth c ls E hK hW hl
  obtain ⟨hx, hb, hr, hml, hts, hown, hlocks, hin⟩ := id E
  have hown : s.vm.findClass RX4 = some m.cls := hown
  have hP := hW.1
  have hl : lv_has ls 3 [(0, .ref h), (1, .int x)] := hl
  refine lv_iload_n hx hb dX4_turns_0 rfl (lv_at hl 1 rfl) ?_
  refine call_SR (As := [.int x]) (rest := []) E rfl hK hP (c_X4_turnsError l g x) ok_X4_turnsError rfl q2_117 [] rfl ⟨⟨rfl, rfl⟩, Nat.le_of_ble_eq_true rfl, Nat.le_of_ble_eq_true rfl⟩ hl.1 (Nat.le_of_ble_eq_true rfl) ⟨Nat.le_of_ble_eq_true rfl, Nat.le_of_ble_eq_true rfl⟩ rfl dX4_turns_1 ?_
  refine lv_istore_n (lv' := [(2, .int (tErr x)), (0, .ref h), (1, .int x)]) hx hb dX4_turns_4 rfl hl (by decide) rfl (fun ls hl => ?_)
  refine lv_iload_n hx hb dX4_turns_5 rfl (lv_at hl 0 rfl) ?_
  refine lv_if_eq (tgt := 11) hx hb dX4_turns_6 (by decide) (fun h_1 => ?_) (fun h_1 => ?_)
  · have hP0 := h_1
    obtain ⟨rfl, hm⟩ := hxm h_1
    refine lv_aload_n hx hb dX4_turns_11 rfl (lv_at hl 1 rfl) ?_
    refine b_get (v := .ref (q 3)) hx hb hts inX4 hown hK hP 0 0 4 rfl rfl rfl (by decide) q1_165 rfl rfl dX4_turns_12 ?_
    refine lv_aload_n hx hb dX4_turns_15 rfl (lv_at hl 1 rfl) ?_
    refine b_get (v := .ref (q 0)) hx hb hts inX4 hown hK hP 0 0 0 rfl rfl rfl (by decide) q1_161 rfl rfl dX4_turns_16 ?_
    refine call_VU (As := [.ref (q 0)]) (rest := []) E rfl hK hW (c_X0_record l g (q 3) hq hh o n (by omega) (by omega) aa HV (q 0) na V) ok_X0_record rfl q2_154 [4, 1, 5, 6, 7, 8, 9] rfl (by decide) (b_recv hK hP 4 0 rfl rfl rfl rfl) ⟨⟨rfl, rfl⟩, Nat.le_of_ble_eq_true rfl, Nat.le_of_ble_eq_true rfl⟩ hl.1 (Nat.le_of_ble_eq_true rfl) ⟨Nat.le_of_ble_eq_true rfl, Nat.le_of_ble_eq_true rfl⟩ rfl dX4_turns_19 (fun _u H locs _ hW => ?_)
    have hW : wd g _ s.heap [bB h q z, vB g (q 0) na V, vB g (q 1) ta TV, vB g (q 2) pa SV, hB g (q 3) hq hh (recO o n) (recS n), vB g (hh 0) (aa 0) (recH o n HV V 0), vB g (hh 1) (aa 1) (recH o n HV V 1), vB g (hh 2) (aa 2) (recH o n HV V 2), vB g (hh 3) (aa 3) (recH o n HV V 3), vB g (hh 4) (aa 4) (recH o n HV V 4), rB g (q 4) ra NN, tB g (q 5) sa T k] H locs := hW
    have hP := hW.1
    refine lv_aload_n hx hb dX4_turns_22 rfl (lv_at hl 1 rfl) ?_
    refine lv_aload_n hx hb dX4_turns_23 rfl (lv_at hl 1 rfl) ?_
    refine b_get (v := .ref (q 0)) hx hb hts inX4 hown hK hP 0 0 0 rfl rfl rfl (by decide) q1_161 rfl rfl dX4_turns_24 ?_
    refine lv_iload_n hx hb dX4_turns_27 rfl (lv_at hl 2 rfl) ?_
    refine call_VU (As := [.ref (q 0), .int (nI m0)]) (rest := []) E rfl hK hW (c_X4_makeTurns l g h q z (q 0) na V ra NN m0 (by omega)) ok_X4_makeTurns rfl q2_120 [0, 1, 10] rfl (by decide) (b_recv hK hP 0 0 rfl rfl rfl rfl) ⟨⟨rfl, rfl⟩, Nat.le_of_ble_eq_true rfl, Nat.le_of_ble_eq_true rfl⟩ hl.1 (Nat.le_of_ble_eq_true rfl) ⟨Nat.le_of_ble_eq_true rfl, Nat.le_of_ble_eq_true rfl⟩ rfl dX4_turns_28 (fun _u H locs _ hW => ?_)
    have hW : wd g _ s.heap [bB h q z, vB g (q 0) na ((mtV V NN m0).1), vB g (q 1) ta TV, vB g (q 2) pa SV, hB g (q 3) hq hh (recO o n) (recS n), vB g (hh 0) (aa 0) (recH o n HV V 0), vB g (hh 1) (aa 1) (recH o n HV V 1), vB g (hh 2) (aa 2) (recH o n HV V 2), vB g (hh 3) (aa 3) (recH o n HV V 3), vB g (hh 4) (aa 4) (recH o n HV V 4), rB g (q 4) ra ((mtV V NN m0).2), tB g (q 5) sa T k] H locs := hW
    have hP := hW.1
    obtain ⟨U_2, hU_2⟩ : ∃ z, z = (mtV V NN m0).1 := ⟨_, rfl⟩
    rw [← hU_2] at hW
    obtain ⟨U_3, hU_3⟩ : ∃ z, z = (mtV V NN m0).2 := ⟨_, rfl⟩
    rw [← hU_3] at hW
    have hP := hW.1
    refine lv_aload_n hx hb dX4_turns_31 rfl (lv_at hl 1 rfl) ?_
    refine b_get (v := .ref (q 0)) hx hb hts inX4 hown hK hP 0 0 0 rfl rfl rfl (by decide) q1_161 rfl rfl dX4_turns_32 ?_
    refine b_get (v := .int (U_2 12 3)) hx hb hts inX3 hown hK hP 1 0 16 rfl rfl rfl (by decide) q1_60 rfl rfl dX4_turns_35 ?_
    have hE : tErr (nI m0) = 0 := hP0
    exact uI_ret true hW hx hb hr hlocks dX4_turns_38 (by simp only [cond_true, hU_3, hU_2]) hE (by simp only [cond_true, cond_false, hU_3, hU_2]) (adr2 (L := [[h], [q 0, na 0, na 1, na 2, na 3, na 4, na 5, na 6, na 7, na 8, na 9, na 10, na 11], [q 1, ta 0, ta 1, ta 2, ta 3, ta 4, ta 5, ta 6, ta 7, ta 8, ta 9, ta 10, ta 11], [q 2, pa 0, pa 1, pa 2, pa 3, pa 4, pa 5, pa 6, pa 7, pa 8, pa 9, pa 10, pa 11], [q 3, hq], [hh 0, (aa 0) 0, (aa 0) 1, (aa 0) 2, (aa 0) 3, (aa 0) 4, (aa 0) 5, (aa 0) 6, (aa 0) 7, (aa 0) 8, (aa 0) 9, (aa 0) 10, (aa 0) 11], [hh 1, (aa 1) 0, (aa 1) 1, (aa 1) 2, (aa 1) 3, (aa 1) 4, (aa 1) 5, (aa 1) 6, (aa 1) 7, (aa 1) 8, (aa 1) 9, (aa 1) 10, (aa 1) 11], [hh 2, (aa 2) 0, (aa 2) 1, (aa 2) 2, (aa 2) 3, (aa 2) 4, (aa 2) 5, (aa 2) 6, (aa 2) 7, (aa 2) 8, (aa 2) 9, (aa 2) 10, (aa 2) 11], [hh 3, (aa 3) 0, (aa 3) 1, (aa 3) 2, (aa 3) 3, (aa 3) 4, (aa 3) 5, (aa 3) 6, (aa 3) 7, (aa 3) 8, (aa 3) 9, (aa 3) 10, (aa 3) 11], [hh 4, (aa 4) 0, (aa 4) 1, (aa 4) 2, (aa 4) 3, (aa 4) 4, (aa 4) 5, (aa 4) 6, (aa 4) 7, (aa 4) 8, (aa 4) 9, (aa 4) 10, (aa 4) 11], [q 4, ra 0, ra 1, ra 2, ra 3], [q 5, sa]]) rfl rfl)
  · refine lv_iload_n hx hb dX4_turns_9 rfl (lv_at hl 0 rfl) ?_
    exact uI_ret false hW hx hb hr hlocks dX4_turns_10 (rfl) h_1 (by simp only [cond_true, cond_false]) (adr2 (L := [[h], [q 0, na 0, na 1, na 2, na 3, na 4, na 5, na 6, na 7, na 8, na 9, na 10, na 11], [q 1, ta 0, ta 1, ta 2, ta 3, ta 4, ta 5, ta 6, ta 7, ta 8, ta 9, ta 10, ta 11], [q 2, pa 0, pa 1, pa 2, pa 3, pa 4, pa 5, pa 6, pa 7, pa 8, pa 9, pa 10, pa 11], [q 3, hq], [hh 0, (aa 0) 0, (aa 0) 1, (aa 0) 2, (aa 0) 3, (aa 0) 4, (aa 0) 5, (aa 0) 6, (aa 0) 7, (aa 0) 8, (aa 0) 9, (aa 0) 10, (aa 0) 11], [hh 1, (aa 1) 0, (aa 1) 1, (aa 1) 2, (aa 1) 3, (aa 1) 4, (aa 1) 5, (aa 1) 6, (aa 1) 7, (aa 1) 8, (aa 1) 9, (aa 1) 10, (aa 1) 11], [hh 2, (aa 2) 0, (aa 2) 1, (aa 2) 2, (aa 2) 3, (aa 2) 4, (aa 2) 5, (aa 2) 6, (aa 2) 7, (aa 2) 8, (aa 2) 9, (aa 2) 10, (aa 2) 11], [hh 3, (aa 3) 0, (aa 3) 1, (aa 3) 2, (aa 3) 3, (aa 3) 4, (aa 3) 5, (aa 3) 6, (aa 3) 7, (aa 3) 8, (aa 3) 9, (aa 3) 10, (aa 3) 11], [hh 4, (aa 4) 0, (aa 4) 1, (aa 4) 2, (aa 4) 3, (aa 4) 4, (aa 4) 5, (aa 4) 6, (aa 4) 7, (aa 4) 8, (aa 4) 9, (aa 4) 10, (aa 4) 11], [q 4, ra 0, ra 1, ra 2, ra 3], [q 5, sa]]) rfl rfl)
