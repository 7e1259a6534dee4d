set_option maxHeartbeats 4000000 in
set_option maxRecDepth 100000 in
theorem c_X4_loudness (l : Launch) (g : gx) (h : Nat) (q : Nat → Nat) (z : Int32) (na : Nat → Nat) (V : sV) (ta : Nat → Nat) (TV : sV) (pa : Nat → Nat) (SV : sV) (hq : Nat) (hh : Nat → Nat) (o n : Nat) (aa : Nat → Nat → Nat) (HV : Nat → sV) (ra : Nat → Nat) (NN : sV) (sa : Nat) (T : Nat → Nat) (k : Nat) (x : Int32) (t : Nat) (ho : o < 5) (hn : n ≤ 5) (hk : k ≤ 60) (hxt : isT x → x = nI t ∧ t < 6) : cU (S := sV) l g yX4_loudness cX4_loudness 2 (some .int) ({ frames := 4, cells := 0, slots := 0, locals := 97 } : Room) [.ref h, .int x] [bB h q z, vB g (q 0) na V, vB g (q 1) ta TV, vB g (q 2) pa SV, hB g (q 3) hq hh o n, vB g (hh 0) (aa 0) (HV 0), vB g (hh 1) (aa 1) (HV 1), vB g (hh 2) (aa 2) (HV 2), vB g (hh 3) (aa 3) (HV 3), vB g (hh 4) (aa 4) (HV 4), rB g (q 4) ra NN, tB g (q 5) sa T k] (fun u => some (.int (if isT x then forN V NN 1 t else -1))) (fun u => True) (fun u => [bB h q z, vB g (q 0) na V, vB g (q 1) ta TV, vB g (q 2) pa SV, hB g (q 3) hq hh o n, vB g (hh 0) (aa 0) (HV 0), vB g (hh 1) (aa 1) (HV 1), vB g (hh 2) (aa 2) (HV 2), vB g (hh 3) (aa 3) (HV 3), vB g (hh 4) (aa 4) (HV 4), rB g (q 4) ra u, tB g (q 5) sa T k]) := by
  refine cU.mk (by decide +kernel) (Nat.le_of_ble_eq_true rfl) ?_
  intro p e s m below meth c ls E hK hW hl
  obtain ⟨hx, hb, hr, hml, hts, hown, hlocks, hin⟩ := id E
  have hown : s.vm.findClass RX4 = some m.cls := hown
  have hP := hW.1
  have hl : lv_has ls 2 [(0, .ref h), (1, .int x)] := hl
  refine lv_iload_n hx hb dX4_loudness_0 rfl (lv_at hl 1 rfl) ?_
  refine call_SR (As := [.int x]) (rest := []) E rfl hK hP (c_X4_isTown l g x) ok_X4_isTown rfl q1_198 [] rfl ⟨⟨rfl, rfl⟩, Nat.le_of_ble_eq_true rfl, Nat.le_of_ble_eq_true rfl⟩ hl.1 (Nat.le_of_ble_eq_true rfl) ⟨Nat.le_of_ble_eq_true rfl, Nat.le_of_ble_eq_true rfl⟩ rfl dX4_loudness_1 ?_
  refine b_ne0 (tgt := 9) hx hb dX4_loudness_4 (by decide) (fun h_1 => ?_) (fun h_1 => ?_)
  · obtain ⟨rfl, ht⟩ := hxt h_1
    refine lv_aload_n hx hb dX4_loudness_9 rfl (lv_at hl 0 rfl) ?_
    refine b_get (v := .ref (q 4)) hx hb hts inX4 hown hK hP 0 0 5 rfl rfl rfl (by decide) q1_166 rfl rfl dX4_loudness_10 ?_
    refine lv_aload_n hx hb dX4_loudness_13 rfl (lv_at hl 0 rfl) ?_
    refine b_get (v := .ref (q 0)) hx hb hts inX4 hown hK hP 0 0 0 rfl rfl rfl (by decide) q1_161 rfl rfl dX4_loudness_14 ?_
    refine call_VU (As := [.ref (q 0)]) (rest := []) E rfl hK hW (c_X1_foresee l g (q 4) ra NN (q 0) na V) ok_X1_foresee rfl q1_208 [10, 1] rfl (by decide) (b_recv hK hP 10 0 rfl rfl rfl rfl) ⟨⟨rfl, rfl⟩, Nat.le_of_ble_eq_true rfl, Nat.le_of_ble_eq_true rfl⟩ hl.1 (Nat.le_of_ble_eq_true rfl) ⟨Nat.le_of_ble_eq_true rfl, Nat.le_of_ble_eq_true rfl⟩ rfl dX4_loudness_17 (fun _u H locs _ hW => ?_)
    have hW : wd g _ s.heap [bB h q z, vB g (q 0) na V, vB g (q 1) ta TV, vB g (q 2) pa SV, hB g (q 3) hq hh o n, vB g (hh 0) (aa 0) (HV 0), vB g (hh 1) (aa 1) (HV 1), vB g (hh 2) (aa 2) (HV 2), vB g (hh 3) (aa 3) (HV 3), vB g (hh 4) (aa 4) (HV 4), rB g (q 4) ra (forN V NN), tB g (q 5) sa T k] H locs := hW
    have hP := hW.1
    obtain ⟨U_2, hU_2⟩ : ∃ z, z = (forN V NN) := ⟨_, rfl⟩
    rw [← hU_2] at hW
    have hP := hW.1
    refine lv_aload_n hx hb dX4_loudness_20 rfl (lv_at hl 0 rfl) ?_
    refine b_get (v := .ref (q 4)) hx hb hts inX4 hown hK hP 0 0 5 rfl rfl rfl (by decide) q1_166 rfl rfl dX4_loudness_21 ?_
    refine b_get (v := .ref (ra 1)) hx hb hts inX1 hown hK hP 10 0 1 rfl rfl rfl (by decide) q1_127 rfl rfl dX4_loudness_24 ?_
    refine lv_iload_n hx hb dX4_loudness_27 rfl (lv_at hl 1 rfl) ?_
    refine b_iald (v := U_2 1 t) hx hb hK hP 10 2 (t) rfl rfl rfl (by omega) rfl rfl dX4_loudness_28 ?_
    exact uI_ret U_2 hW hx hb hr hlocks dX4_loudness_29 (by rw [if_pos h_1, hU_2]) trivial (by rw [hU_2]) (adr2 (L := [[h], [q 0, na 0, na 1, na 2, na 3, na 4, na 5, na 6, na 7, na 8, na 9, na 10, na 11], [q 1, ta 0, ta 1, ta 2, ta 3, ta 4, ta 5, ta 6, ta 7, ta 8, ta 9, ta 10, ta 11], [q 2, pa 0, pa 1, pa 2, pa 3, pa 4, pa 5, pa 6, pa 7, pa 8, pa 9, pa 10, pa 11], [q 3, hq], [hh 0, (aa 0) 0, (aa 0) 1, (aa 0) 2, (aa 0) 3, (aa 0) 4, (aa 0) 5, (aa 0) 6, (aa 0) 7, (aa 0) 8, (aa 0) 9, (aa 0) 10, (aa 0) 11], [hh 1, (aa 1) 0, (aa 1) 1, (aa 1) 2, (aa 1) 3, (aa 1) 4, (aa 1) 5, (aa 1) 6, (aa 1) 7, (aa 1) 8, (aa 1) 9, (aa 1) 10, (aa 1) 11], [hh 2, (aa 2) 0, (aa 2) 1, (aa 2) 2, (aa 2) 3, (aa 2) 4, (aa 2) 5, (aa 2) 6, (aa 2) 7, (aa 2) 8, (aa 2) 9, (aa 2) 10, (aa 2) 11], [hh 3, (aa 3) 0, (aa 3) 1, (aa 3) 2, (aa 3) 3, (aa 3) 4, (aa 3) 5, (aa 3) 6, (aa 3) 7, (aa 3) 8, (aa 3) 9, (aa 3) 10, (aa 3) 11], [hh 4, (aa 4) 0, (aa 4) 1, (aa 4) 2, (aa 4) 3, (aa 4) 4, (aa 4) 5, (aa 4) 6, (aa 4) 7, (aa 4) 8, (aa 4) 9, (aa 4) 10, (aa 4) 11], [q 4, ra 0, ra 1, ra 2, ra 3], [q 5, sa]]) rfl rfl)
  · refine lv_iconst (v := -1) hx hb dX4_loudness_7 (by decide) ?_
    exact uI_ret NN hW hx hb hr hlocks dX4_loudness_8 (by rw [if_neg h_1]) trivial (rfl) (adr2 (L := [[h], [q 0, na 0, na 1, na 2, na 3, na 4, na 5, na 6, na 7, na 8, na 9, na 10, na 11], [q 1, ta 0, ta 1, ta 2, ta 3, ta 4, ta 5, ta 6, ta 7, ta 8, ta 9, ta 10, ta 11], [q 2, pa 0, pa 1, pa 2, pa 3, pa 4, pa 5, pa 6, pa 7, pa 8, pa 9, pa 10, pa 11], [q 3, hq], [hh 0, (aa 0) 0, (aa 0) 1, (aa 0) 2, (aa 0) 3, (aa 0) 4, (aa 0) 5, (aa 0) 6, (aa 0) 7, (aa 0) 8, (aa 0) 9, (aa 0) 10, (aa 0) 11], [hh 1, (aa 1) 0, (aa 1) 1, (aa 1) 2, (aa 1) 3, (aa 1) 4, (aa 1) 5, (aa 1) 6, (aa 1) 7, (aa 1) 8, (aa 1) 9, (aa 1) 10, (aa 1) 11], [hh 2, (aa 2) 0, (aa 2) 1, (aa 2) 2, (aa 2) 3, (aa 2) 4, (aa 2) 5, (aa 2) 6, (aa 2) 7, (aa 2) 8, (aa 2) 9, (aa 2) 10, (aa 2) 11], [hh 3, (aa 3) 0, (aa 3) 1, (aa 3) 2, (aa 3) 3, (aa 3) 4, (aa 3) 5, (aa 3) 6, (aa 3) 7, (aa 3) 8, (aa 3) 9, (aa 3) 10, (aa 3) 11], [hh 4, (aa 4) 0, (aa 4) 1, (aa 4) 2, (aa 4) 3, (aa 4) 4, (aa 4) 5, (aa 4) 6, (aa 4) 7, (aa 4) 8, (aa 4) 9, (aa 4) 10, (aa 4) 11], [q 4, ra 0, ra 1, ra 2, ra 3], [q 5, sa]]) rfl rfl)

set_option maxHeartbeats 4000000 in
set_option maxRecDepth 100000 in
theorem c_X4_winner (l : Launch) (g : gx) (h : Nat) (q : Nat → Nat) (z : Int32) (na : Nat → Nat) (V : sV) (ta : Nat → Nat) (TV : sV) (pa : Nat → Nat) (SV : sV) (hq : Nat) (hh : Nat → Nat) (o n : Nat) (aa : Nat → Nat → Nat) (HV : Nat → sV) (ra : Nat → Nat) (NN : sV) (sa : Nat) (T : Nat → Nat) (k : Nat) (x : Int32) (t : Nat) (ho : o < 5) (hn : n ≤ 5) (hk : k ≤ 60) (hxt : isT x → x = nI t ∧ t < 6) : cU (S := sV) l g yX4_winner cX4_winner 2 (some .int) ({ frames := 4, cells := 0, slots := 0, locals := 97 } : Room) [.ref h, .int x] [bB h q z, vB g (q 0) na V, vB g (q 1) ta TV, vB g (q 2) pa SV, hB g (q 3) hq hh o n, vB g (hh 0) (aa 0) (HV 0), vB g (hh 1) (aa 1) (HV 1), vB g (hh 2) (aa 2) (HV 2), vB g (hh 3) (aa 3) (HV 3), vB g (hh 4) (aa 4) (HV 4), rB g (q 4) ra NN, tB g (q 5) sa T k] (fun u => some (.int (if isT x then forN V NN 3 t else -1))) (fun u => True) (fun u => [bB h q z, vB g (q 0) na V, vB g (q 1) ta TV, vB g (q 2) pa SV, hB g (q 3) hq hh o n, vB g (hh 0) (aa 0) (HV 0), vB g (hh 1) (aa 1) (HV 1), vB g (hh 2) (aa 2) (HV 2), vB g (hh 3) (aa 3) (HV 3), vB g (hh 4) (aa 4) (HV 4), rB g (q 4) ra u, tB g (q 5) sa T k]) := by
  refine cU.mk (by decide +kernel) (Nat.le_of_ble_eq_true rfl) ?_
  intro p e s m below meth c ls E hK hW hl
  obtain ⟨hx, hb, hr, hml, hts, hown, hlocks, hin⟩ := id E
  have hown : s.vm.findClass RX4 = some m.cls := hown
  have hP := hW.1
  have hl : lv_has ls 2 [(0, .ref h), (1, .int x)] := hl
  refine lv_iload_n hx hb dX4_winner_0 rfl (lv_at hl 1 rfl) ?_
  refine call_SR (As := [.int x]) (rest := []) E rfl hK hP (c_X4_isTown l g x) ok_X4_isTown rfl q1_198 [] rfl ⟨⟨rfl, rfl⟩, Nat.le_of_ble_eq_true rfl, Nat.le_of_ble_eq_true rfl⟩ hl.1 (Nat.le_of_ble_eq_true rfl) ⟨Nat.le_of_ble_eq_true rfl, Nat.le_of_ble_eq_true rfl⟩ rfl dX4_winner_1 ?_
  refine b_ne0 (tgt := 9) hx hb dX4_winner_4 (by decide) (fun h_1 => ?_) (fun h_1 => ?_)
  · obtain ⟨rfl, ht⟩ := hxt h_1
    refine lv_aload_n hx hb dX4_winner_9 rfl (lv_at hl 0 rfl) ?_
    refine b_get (v := .ref (q 4)) hx hb hts inX4 hown hK hP 0 0 5 rfl rfl rfl (by decide) q1_166 rfl rfl dX4_winner_10 ?_
    refine lv_aload_n hx hb dX4_winner_13 rfl (lv_at hl 0 rfl) ?_
    refine b_get (v := .ref (q 0)) hx hb hts inX4 hown hK hP 0 0 0 rfl rfl rfl (by decide) q1_161 rfl rfl dX4_winner_14 ?_
    refine call_VU (As := [.ref (q 0)]) (rest := []) E rfl hK hW (c_X1_foresee l g (q 4) ra NN (q 0) na V) ok_X1_foresee rfl q1_208 [10, 1] rfl (by decide) (b_recv hK hP 10 0 rfl rfl rfl rfl) ⟨⟨rfl, rfl⟩, Nat.le_of_ble_eq_true rfl, Nat.le_of_ble_eq_true rfl⟩ hl.1 (Nat.le_of_ble_eq_true rfl) ⟨Nat.le_of_ble_eq_true rfl, Nat.le_of_ble_eq_true rfl⟩ rfl dX4_winner_17 (fun _u H locs _ hW => ?_)
    have hW : wd g _ s.heap [bB h q z, vB g (q 0) na V, vB g (q 1) ta TV, vB g (q 2) pa SV, hB g (q 3) hq hh o n, vB g (hh 0) (aa 0) (HV 0), vB g (hh 1) (aa 1) (HV 1), vB g (hh 2) (aa 2) (HV 2), vB g (hh 3) (aa 3) (HV 3), vB g (hh 4) (aa 4) (HV 4), rB g (q 4) ra (forN V NN), tB g (q 5) sa T k] H locs := hW
    have hP := hW.1
    obtain ⟨U_2, hU_2⟩ : ∃ z, z = (forN V NN) := ⟨_, rfl⟩
    rw [← hU_2] at hW
    have hP := hW.1
    refine lv_aload_n hx hb dX4_winner_20 rfl (lv_at hl 0 rfl) ?_
    refine b_get (v := .ref (q 4)) hx hb hts inX4 hown hK hP 0 0 5 rfl rfl rfl (by decide) q1_166 rfl rfl dX4_winner_21 ?_
    refine b_get (v := .ref (ra 3)) hx hb hts inX1 hown hK hP 10 0 3 rfl rfl rfl (by decide) q1_132 rfl rfl dX4_winner_24 ?_
    refine lv_iload_n hx hb dX4_winner_27 rfl (lv_at hl 1 rfl) ?_
    refine b_iald (v := U_2 3 t) hx hb hK hP 10 4 (t) rfl rfl rfl (by omega) rfl rfl dX4_winner_28 ?_
    exact uI_ret U_2 hW hx hb hr hlocks dX4_winner_29 (by rw [if_pos h_1, hU_2]) trivial (by rw [hU_2]) (adr2 (L := [[h], [q 0, na 0, na 1, na 2, na 3, na 4, na 5, na 6, na 7, na 8, na 9, na 10, na 11], [q 1, ta 0, ta 1, ta 2, ta 3, ta 4, ta 5, ta 6, ta 7, ta 8, ta 9, ta 10, ta 11], [q 2, pa 0, pa 1, pa 2, pa 3, pa 4, pa 5, pa 6, pa 7, pa 8, pa 9, pa 10, pa 11], [q 3, hq], [hh 0, (aa 0) 0, (aa 0) 1, (aa 0) 2, (aa 0) 3, (aa 0) 4, (aa 0) 5, (aa 0) 6, (aa 0) 7, (aa 0) 8, (aa 0) 9, (aa 0) 10, (aa 0) 11], [hh 1, (aa 1) 0, (aa 1) 1, (aa 1) 2, (aa 1) 3, (aa 1) 4, (aa 1) 5, (aa 1) 6, (aa 1) 7, (aa 1) 8, (aa 1) 9, (aa 1) 10, (aa 1) 11], [hh 2, (aa 2) 0, (aa 2) 1, (aa 2) 2, (aa 2) 3, (aa 2) 4, (aa 2) 5, (aa 2) 6, (aa 2) 7, (aa 2) 8, (aa 2) 9, (aa 2) 10, (aa 2) 11], [hh 3, (aa 3) 0, (aa 3) 1, (aa 3) 2, (aa 3) 3, (aa 3) 4, (aa 3) 5, (aa 3) 6, (aa 3) 7, (aa 3) 8, (aa 3) 9, (aa 3) 10, (aa 3) 11], [hh 4, (aa 4) 0, (aa 4) 1, (aa 4) 2, (aa 4) 3, (aa 4) 4, (aa 4) 5, (aa 4) 6, (aa 4) 7, (aa 4) 8, (aa 4) 9, (aa 4) 10, (aa 4) 11], [q 4, ra 0, ra 1, ra 2, ra 3], [q 5, sa]]) rfl rfl)
  · refine lv_iconst (v := -1) hx hb dX4_winner_7 (by decide) ?_
    exact uI_ret NN hW hx hb hr hlocks dX4_winner_8 (by rw [if_neg h_1]) trivial (rfl) (adr2 (L := [[h], [q 0, na 0, na 1, na 2, na 3, na 4, na 5, na 6, na 7, na 8, na 9, na 10, na 11], [q 1, ta 0, ta 1, ta 2, ta 3, ta 4, ta 5, ta 6, ta 7, ta 8, ta 9, ta 10, ta 11], [q 2, pa 0, pa 1, pa 2, pa 3, pa 4, pa 5, pa 6, pa 7, pa 8, pa 9, pa 10, pa 11], [q 3, hq], [hh 0, (aa 0) 0, (aa 0) 1, (aa 0) 2, (aa 0) 3, (aa 0) 4, (aa 0) 5, (aa 0) 6, (aa 0) 7, (aa 0) 8, (aa 0) 9, (aa 0) 10, (aa 0) 11], [hh 1, (aa 1) 0, (aa 1) 1, (aa 1) 2, (aa 1) 3, (aa 1) 4, (aa 1) 5, (aa 1) 6, (aa 1) 7, (aa 1) 8, (aa 1) 9, (aa 1) 10, (aa 1) 11], [hh 2, (aa 2) 0, (aa 2) 1, (aa 2) 2, (aa 2) 3, (aa 2) 4, (aa 2) 5, (aa 2) 6, (aa 2) 7, (aa 2) 8, (aa 2) 9, (aa 2) 10, (aa 2) 11], [hh 3, (aa 3) 0, (aa 3) 1, (aa 3) 2, (aa 3) 3, (aa 3) 4, (aa 3) 5, (aa 3) 6, (aa 3) 7, (aa 3) 8, (aa 3) 9, (aa 3) 10, (aa 3) 11], [hh 4, (aa 4) 0, (aa 4) 1, (aa 4) 2, (aa 4) 3, (aa 4) 4, (aa 4) 5, (aa 4) 6, (aa 4) 7, (aa 4) 8, (aa 4) 9, (aa 4) 10, (aa 4) 11], [q 4, ra 0, ra 1, ra 2, ra 3], [q 5, sa]]) rfl rfl)

set_option maxHeartbeats 4000000 in
set_option maxRecDepth 100000 in
theorem c_X4_heard (l : Launch) (g : gx) (h : Nat) (q : Nat → Nat) (z : Int32) (na : Nat → Nat) (V : sV) (ta : Nat → Nat) (TV : sV) (pa : Nat → Nat) (SV : sV) (hq : Nat) (hh : Nat → Nat) (o n : Nat) (aa : Nat → Nat → Nat) (HV : Nat → sV) (ra : Nat → Nat) (NN : sV) (sa : Nat) (T : Nat → Nat) (k : Nat) (x y : Int32) (t e0 : Nat) (ho : o < 5) (hn : n ≤ 5) (hk : k ≤ 60) (hxt : isT x → x = nI t ∧ t < 6) (hxe : isT y → y = nI e0 ∧ e0 < 6) : cU (S := sV) l g yX4_heard cX4_heard 3 (some .int) ({ frames := 4, cells := 0, slots := 0, locals := 97 } : Room) [.ref h, .int x, .int y] [bB h q z, vB g (q 0) na V, vB g (q 1) ta TV, vB g (q 2) pa SV, hB g (q 3) hq hh o n, vB g (hh 0) (aa 0) (HV 0), vB g (hh 1) (aa 1) (HV 1), vB g (hh 2) (aa 2) (HV 2), vB g (hh 3) (aa 3) (HV 3), vB g (hh 4) (aa 4) (HV 4), rB g (q 4) ra NN, tB g (q 5) sa T k] (fun u => some (.int (if isT x ∧ isT y then sndF V (forN V NN 1) t e0 else -1))) (fun u => True) (fun u => [bB h q z, vB g (q 0) na V, vB g (q 1) ta TV, vB g (q 2) pa SV, hB g (q 3) hq hh o n, vB g (hh 0) (aa 0) (HV 0), vB g (hh 1) (aa 1) (HV 1), vB g (hh 2) (aa 2) (HV 2), vB g (hh 3) (aa 3) (HV 3), vB g (hh 4) (aa 4) (HV 4), rB g (q 4) ra u, tB g (q 5) sa T k]) := by
  refine cU.mk (by decide +kernel) (Nat.le_of_ble_eq_true rfl) ?_
  intro p e s m below meth c ls E hK hW hl
  obtain ⟨hx, hb, hr, hml, hts, hown, hlocks, hin⟩ := id E
  have hown : s.vm.findClass RX4 = some m.cls := hown
  have hP := hW.1
  have hl : lv_has ls 3 [(0, .ref h), (1, .int x), (2, .int y)] := hl
  refine lv_iload_n hx hb dX4_heard_0 rfl (lv_at hl 1 rfl) ?_
  refine call_SR (As := [.int x]) (rest := []) E rfl hK hP (c_X4_isTown l g x) ok_X4_isTown rfl q1_198 [] rfl ⟨⟨rfl, rfl⟩, Nat.le_of_ble_eq_true rfl, Nat.le_of_ble_eq_true rfl⟩ hl.1 (Nat.le_of_ble_eq_true rfl) ⟨Nat.le_of_ble_eq_true rfl, Nat.le_of_ble_eq_true rfl⟩ rfl dX4_heard_1 ?_
  refine b_eq0 (tgt := 14) hx hb dX4_heard_4 (by decide) (fun h_1 => ?_) (fun h_1 => ?_)
  · refine lv_iconst (v := -1) hx hb dX4_heard_14 (by decide) ?_
    exact uI_ret NN hW hx hb hr hlocks dX4_heard_15 (by rw [if_neg]; exact fun q9 => by first | exact h_1 q9.1 | exact h_1 q9.2) trivial (rfl) (adr2 (L := [[h], [q 0, na 0, na 1, na 2, na 3, na 4, na 5, na 6, na 7, na 8, na 9, na 10, na 11], [q 1, ta 0, ta 1, ta 2, ta 3, ta 4, ta 5, ta 6, ta 7, ta 8, ta 9, ta 10, ta 11], [q 2, pa 0, pa 1, pa 2, pa 3, pa 4, pa 5, pa 6, pa 7, pa 8, pa 9, pa 10, pa 11], [q 3, hq], [hh 0, (aa 0) 0, (aa 0) 1, (aa 0) 2, (aa 0) 3, (aa 0) 4, (aa 0) 5, (aa 0) 6, (aa 0) 7, (aa 0) 8, (aa 0) 9, (aa 0) 10, (aa 0) 11], [hh 1, (aa 1) 0, (aa 1) 1, (aa 1) 2, (aa 1) 3, (aa 1) 4, (aa 1) 5, (aa 1) 6, (aa 1) 7, (aa 1) 8, (aa 1) 9, (aa 1) 10, (aa 1) 11], [hh 2, (aa 2) 0, (aa 2) 1, (aa 2) 2, (aa 2) 3, (aa 2) 4, (aa 2) 5, (aa 2) 6, (aa 2) 7, (aa 2) 8, (aa 2) 9, (aa 2) 10, (aa 2) 11], [hh 3, (aa 3) 0, (aa 3) 1, (aa 3) 2, (aa 3) 3, (aa 3) 4, (aa 3) 5, (aa 3) 6, (aa 3) 7, (aa 3) 8, (aa 3) 9, (aa 3) 10, (aa 3) 11], [hh 4, (aa 4) 0, (aa 4) 1, (aa 4) 2, (aa 4) 3, (aa 4) 4, (aa 4) 5, (aa 4) 6, (aa 4) 7, (aa 4) 8, (aa 4) 9, (aa 4) 10, (aa 4) 11], [q 4, ra 0, ra 1, ra 2, ra 3], [q 5, sa]]) rfl rfl)
  · have hT1 := h_1
    obtain ⟨rfl, ht⟩ := hxt h_1
    refine lv_iload_n hx hb dX4_heard_7 rfl (lv_at hl 2 rfl) ?_
    refine call_SR (As := [.int y]) (rest := []) E rfl hK hP (c_X4_isTown l g y) ok_X4_isTown rfl q1_198 [] rfl ⟨⟨rfl, rfl⟩, Nat.le_of_ble_eq_true rfl, Nat.le_of_ble_eq_true rfl⟩ hl.1 (Nat.le_of_ble_eq_true rfl) ⟨Nat.le_of_ble_eq_true rfl, Nat.le_of_ble_eq_true rfl⟩ rfl dX4_heard_8 ?_
    refine b_ne0 (tgt := 16) hx hb dX4_heard_11 (by decide) (fun h_2 => ?_) (fun h_2 => ?_)
    · have hT2 := h_2
      obtain ⟨rfl, he⟩ := hxe h_2
      refine lv_aload_n hx hb dX4_heard_16 rfl (lv_at hl 0 rfl) ?_
      refine b_get (v := .ref (q 4)) hx hb hts inX4 hown hK hP 0 0 5 rfl rfl rfl (by decide) q1_166 rfl rfl dX4_heard_17 ?_
      refine lv_aload_n hx hb dX4_heard_20 rfl (lv_at hl 0 rfl) ?_
      refine b_get (v := .ref (q 0)) hx hb hts inX4 hown hK hP 0 0 0 rfl rfl rfl (by decide) q1_161 rfl rfl dX4_heard_21 ?_
      refine call_VU (As := [.ref (q 0)]) (rest := []) E rfl hK hW (c_X1_foresee l g (q 4) ra NN (q 0) na V) ok_X1_foresee rfl q1_208 [10, 1] rfl (by decide) (b_recv hK hP 10 0 rfl rfl rfl rfl) ⟨⟨rfl, rfl⟩, Nat.le_of_ble_eq_true rfl, Nat.le_of_ble_eq_true rfl⟩ hl.1 (Nat.le_of_ble_eq_true rfl) ⟨Nat.le_of_ble_eq_true rfl, Nat.le_of_ble_eq_true rfl⟩ rfl dX4_heard_24 (fun _u H locs _ hW => ?_)
      have hW : wd g _ s.heap [bB h q z, vB g (q 0) na V, vB g (q 1) ta TV, vB g (q 2) pa SV, hB g (q 3) hq hh o n, vB g (hh 0) (aa 0) (HV 0), vB g (hh 1) (aa 1) (HV 1), vB g (hh 2) (aa 2) (HV 2), vB g (hh 3) (aa 3) (HV 3), vB g (hh 4) (aa 4) (HV 4), rB g (q 4) ra (forN V NN), tB g (q 5) sa T k] H locs := hW
      have hP := hW.1
      obtain ⟨U_3, hU_3⟩ : ∃ z, z = (forN V NN) := ⟨_, rfl⟩
      rw [← hU_3] at hW
      have hP := hW.1
      refine lv_aload_n hx hb dX4_heard_27 rfl (lv_at hl 0 rfl) ?_
      refine b_get (v := .ref (q 4)) hx hb hts inX4 hown hK hP 0 0 5 rfl rfl rfl (by decide) q1_166 rfl rfl dX4_heard_28 ?_
      refine lv_aload_n hx hb dX4_heard_31 rfl (lv_at hl 0 rfl) ?_
      refine b_get (v := .ref (q 0)) hx hb hts inX4 hown hK hP 0 0 0 rfl rfl rfl (by decide) q1_161 rfl rfl dX4_heard_32 ?_
      refine lv_iload_n hx hb dX4_heard_35 rfl (lv_at hl 1 rfl) ?_
      refine lv_iload_n hx hb dX4_heard_36 rfl (lv_at hl 2 rfl) ?_
      refine call_VR (As := [.ref (q 0), .int (nI t), .int (nI e0)]) (rest := []) E rfl hK hP (c_X1_soundIn l g (q 4) ra U_3 (q 0) na V t e0 (by omega) (by omega)) ok_X1_soundIn rfl q2_56 [10, 1] rfl (b_recv hK hP 10 0 rfl rfl rfl rfl) ⟨⟨rfl, rfl⟩, Nat.le_of_ble_eq_true rfl, Nat.le_of_ble_eq_true rfl⟩ hl.1 (Nat.le_of_ble_eq_true rfl) ⟨Nat.le_of_ble_eq_true rfl, Nat.le_of_ble_eq_true rfl⟩ rfl dX4_heard_37 ?_
      exact uI_ret U_3 hW hx hb hr hlocks dX4_heard_40 (by rw [if_pos ⟨hT1, hT2⟩, hU_3]) trivial (by rw [hU_3]) (adr2 (L := [[h], [q 0, na 0, na 1, na 2, na 3, na 4, na 5, na 6, na 7, na 8, na 9, na 10, na 11], [q 1, ta 0, ta 1, ta 2, ta 3, ta 4, ta 5, ta 6, ta 7, ta 8, ta 9, ta 10, ta 11], [q 2, pa 0, pa 1, pa 2, pa 3, pa 4, pa 5, pa 6, pa 7, pa 8, pa 9, pa 10, pa 11], [q 3, hq], [hh 0, (aa 0) 0, (aa 0) 1, (aa 0) 2, (aa 0) 3, (aa 0) 4, (aa 0) 5, (aa 0) 6, (aa 0) 7, (aa 0) 8, (aa 0) 9, (aa 0) 10, (aa 0) 11], [hh 1, (aa 1) 0, (aa 1) 1, (aa 1) 2, (aa 1) 3, (aa 1) 4, (aa 1) 5, (aa 1) 6, (aa 1) 7, (aa 1) 8, (aa 1) 9, (aa 1) 10, (aa 1) 11], [hh 2, (aa 2) 0, (aa 2) 1, (aa 2) 2, (aa 2) 3, (aa 2) 4, (aa 2) 5, (aa 2) 6, (aa 2) 7, (aa 2) 8, (aa 2) 9, (aa 2) 10, (aa 2) 11], [hh 3, (aa 3) 0, (aa 3) 1, (aa 3) 2, (aa 3) 3, (aa 3) 4, (aa 3) 5, (aa 3) 6, (aa 3) 7, (aa 3) 8, (aa 3) 9, (aa 3) 10, (aa 3) 11], [hh 4, (aa 4) 0, (aa 4) 1, (aa 4) 2, (aa 4) 3, (aa 4) 4, (aa 4) 5, (aa 4) 6, (aa 4) 7, (aa 4) 8, (aa 4) 9, (aa 4) 10, (aa 4) 11], [q 4, ra 0, ra 1, ra 2, ra 3], [q 5, sa]]) rfl rfl)
    · refine lv_iconst (v := -1) hx hb dX4_heard_14 (by decide) ?_
      exact uI_ret NN hW hx hb hr hlocks dX4_heard_15 (by rw [if_neg]; exact fun q9 => by first | exact h_2 q9.1 | exact h_2 q9.2) trivial (rfl) (adr2 (L := [[h], [q 0, na 0, na 1, na 2, na 3, na 4, na 5, na 6, na 7, na 8, na 9, na 10, na 11], [q 1, ta 0, ta 1, ta 2, ta 3, ta 4, ta 5, ta 6, ta 7, ta 8, ta 9, ta 10, ta 11], [q 2, pa 0, pa 1, pa 2, pa 3, pa 4, pa 5, pa 6, pa 7, pa 8, pa 9, pa 10, pa 11], [q 3, hq], [hh 0, (aa 0) 0, (aa 0) 1, (aa 0) 2, (aa 0) 3, (aa 0) 4, (aa 0) 5, (aa 0) 6, (aa 0) 7, (aa 0) 8, (aa 0) 9, (aa 0) 10, (aa 0) 11], [hh 1, (aa 1) 0, (aa 1) 1, (aa 1) 2, (aa 1) 3, (aa 1) 4, (aa 1) 5, (aa 1) 6, (aa 1) 7, (aa 1) 8, (aa 1) 9, (aa 1) 10, (aa 1) 11], [hh 2, (aa 2) 0, (aa 2) 1, (aa 2) 2, (aa 2) 3, (aa 2) 4, (aa 2) 5, (aa 2) 6, (aa 2) 7, (aa 2) 8, (aa 2) 9, (aa 2) 10, (aa 2) 11], [hh 3, (aa 3) 0, (aa 3) 1, (aa 3) 2, (aa 3) 3, (aa 3) 4, (aa 3) 5, (aa 3) 6, (aa 3) 7, (aa 3) 8, (aa 3) 9, (aa 3) 10, (aa 3) 11], [hh 4, (aa 4) 0, (aa 4) 1, (aa 4) 2, (aa 4) 3, (aa 4) 4, (aa 4) 5, (aa 4) 6, (aa 4) 7, (aa 4) 8, (aa 4) 9, (aa 4) 10, (aa 4) 11], [q 4, ra 0, ra 1, ra 2, ra 3], [q 5, sa]]) rfl rfl)

set_option maxHeartbeats 4000000 in
set_option maxRecDepth 100000 in
theorem c_X4_ifPlanned (l : Launch) (g : gx) (h : Nat) (q : Nat → Nat) (z : Int32) (na : Nat → Nat) (V : sV) (ta : Nat → Nat) (TV : sV) (pa : Nat → Nat) (SV : sV) (hq : Nat) (hh : Nat → Nat) (o n : Nat) (aa : Nat → Nat → Nat) (HV : Nat → sV) (ra : Nat → Nat) (NN : sV) (sa : Nat) (T : Nat → Nat) (k : Nat) (x m0 : Int32) (t : Nat) (ho : o < 5) (hn : n ≤ 5) (hk : k ≤ 60) (hxt : isT x → x = nI t ∧ t < 6) : cU (S := Bool × sV × sV) l g yX4_ifPlanned cX4_ifPlanned 4 (some .int) ({ frames := 5, cells := 0, slots := 0, locals := 119 } : Room) [.ref h, .int x, .int m0] [bB h q z, vB g (q 0) na V, vB g (q 1) ta TV, vB g (q 2) pa SV, hB g (q 3) hq hh o n, vB g (hh 0) (aa 0) (HV 0), vB g (hh 1) (aa 1) (HV 1), vB g (hh 2) (aa 2) (HV 2), vB g (hh 3) (aa 3) (HV 3), vB g (hh 4) (aa 4) (HV 4), rB g (q 4) ra NN, tB g (q 5) sa T k] (fun u => some (.int (bif u.1 then (cntF (fun e => forN (up2 V 4 t m0) NN 3 e = nI t) 6) else (plE V x t m0)))) (fun u => bif u.1 then plE V x t m0 = 0 else ¬ plE V x t m0 = 0) (fun u => [bB h q z, vB g (q 0) na V, vB g (q 1) ta u.2.1, vB g (q 2) pa SV, hB g (q 3) hq hh o n, vB g (hh 0) (aa 0) (HV 0), vB g (hh 1) (aa 1) (HV 1), vB g (hh 2) (aa 2) (HV 2), vB g (hh 3) (aa 3) (HV 3), vB g (hh 4) (aa 4) (HV 4), rB g (q 4) ra u.2.2, tB g (q 5) sa T k]) := by
  refine cU.mk (by decide +kernel) (Nat.le_of_ble_eq_true rfl) ?_
  intro p e s m below meth c ls E hK hW hl
  obtain ⟨hx, hb, hr, hml, hts, hown, hlocks, hin⟩ := id E
  have hown : s.vm.findClass RX4 = some m.cls := hown
  have hP := hW.1
  have hl : lv_has ls 4 [(0, .ref h), (1, .int x), (2, .int m0)] := hl
  refine lv_aload_n hx hb dX4_ifPlanned_0 rfl (lv_at hl 0 rfl) ?_
  refine lv_iload_n hx hb dX4_ifPlanned_1 rfl (lv_at hl 1 rfl) ?_
  refine lv_iload_n hx hb dX4_ifPlanned_2 rfl (lv_at hl 2 rfl) ?_
  refine call_VR (As := [.int x, .int m0]) (rest := []) E rfl hK hP (c_X4_planError l g h q z na V x t hxt m0) ok_X4_planError rfl q2_74 [0, 1] rfl (b_recv hK hP 0 0 rfl rfl rfl rfl) ⟨⟨rfl, rfl⟩, Nat.le_of_ble_eq_true rfl, Nat.le_of_ble_eq_true rfl⟩ hl.1 (Nat.le_of_ble_eq_true rfl) ⟨Nat.le_of_ble_eq_true rfl, Nat.le_of_ble_eq_true rfl⟩ rfl dX4_ifPlanned_3 ?_
  refine lv_istore_n (lv' := [(3, .int (plE V x t m0)), (0, .ref h), (1, .int x), (2, .int m0)]) hx hb dX4_ifPlanned_6 rfl hl (by decide) rfl (fun ls hl => ?_)
  refine lv_iload_n hx hb dX4_ifPlanned_7 rfl (lv_at hl 0 rfl) ?_
  refine lv_if_eq (tgt := 13) hx hb dX4_ifPlanned_8 (by decide) (fun h_1 => ?_) (fun h_1 => ?_)
  · have hP0 := h_1
    obtain ⟨rfl, ht⟩ := hxt (plE_T h_1)
    refine lv_aload_n hx hb dX4_ifPlanned_13 rfl (lv_at hl 1 rfl) ?_
    refine b_get (v := .ref (q 1)) hx hb hts inX4 hown hK hP 0 0 1 rfl rfl rfl (by decide) q1_162 rfl rfl dX4_ifPlanned_14 ?_
    refine lv_aload_n hx hb dX4_ifPlanned_17 rfl (lv_at hl 1 rfl) ?_
    refine b_get (v := .ref (q 0)) hx hb hts inX4 hown hK hP 0 0 0 rfl rfl rfl (by decide) q1_161 rfl rfl dX4_ifPlanned_18 ?_
    refine call_VU (As := [.ref (q 0)]) (rest := []) E rfl hK hW (c_X3_copyFrom l g (q 1) ta TV (q 0) na V) ok_X3_copyFrom rfl q2_79 [2, 1] rfl (by decide) (b_recv hK hP 2 0 rfl rfl rfl rfl) ⟨⟨rfl, rfl⟩, Nat.le_of_ble_eq_true rfl, Nat.le_of_ble_eq_true rfl⟩ hl.1 (Nat.le_of_ble_eq_true rfl) ⟨Nat.le_of_ble_eq_true rfl, Nat.le_of_ble_eq_true rfl⟩ rfl dX4_ifPlanned_21 (fun _u H locs _ hW => ?_)
    have hW : wd g _ s.heap [bB h q z, vB g (q 0) na V, vB g (q 1) ta V, vB g (q 2) pa SV, hB g (q 3) hq hh o n, vB g (hh 0) (aa 0) (HV 0), vB g (hh 1) (aa 1) (HV 1), vB g (hh 2) (aa 2) (HV 2), vB g (hh 3) (aa 3) (HV 3), vB g (hh 4) (aa 4) (HV 4), rB g (q 4) ra NN, tB g (q 5) sa T k] H locs := hW
    have hP := hW.1
    refine lv_aload_n hx hb dX4_ifPlanned_24 rfl (lv_at hl 1 rfl) ?_
    refine lv_iload_n hx hb dX4_ifPlanned_25 rfl (lv_at hl 2 rfl) ?_
    refine lv_iload_n hx hb dX4_ifPlanned_26 rfl (lv_at hl 3 rfl) ?_
    refine call_VU (As := [.int (nI t), .int m0]) (rest := []) E rfl hK hW (c_X4_pointsWithPlan l g h q z ta V ra NN t (by omega) m0) ok_X4_pointsWithPlan rfl q2_92 [0, 2, 10] rfl (by decide) (b_recv hK hP 0 0 rfl rfl rfl rfl) ⟨⟨rfl, rfl⟩, Nat.le_of_ble_eq_true rfl, Nat.le_of_ble_eq_true rfl⟩ hl.1 (Nat.le_of_ble_eq_true rfl) ⟨Nat.le_of_ble_eq_true rfl, Nat.le_of_ble_eq_true rfl⟩ rfl dX4_ifPlanned_27 (fun _u H locs _ hW => ?_)
    have hW : wd g _ s.heap [bB h q z, vB g (q 0) na V, vB g (q 1) ta (up2 V 4 t m0), vB g (q 2) pa SV, hB g (q 3) hq hh o n, vB g (hh 0) (aa 0) (HV 0), vB g (hh 1) (aa 1) (HV 1), vB g (hh 2) (aa 2) (HV 2), vB g (hh 3) (aa 3) (HV 3), vB g (hh 4) (aa 4) (HV 4), rB g (q 4) ra (forN (up2 V 4 t m0) NN), tB g (q 5) sa T k] H locs := hW
    have hP := hW.1
    obtain ⟨U_2, hU_2⟩ : ∃ z, z = (forN (up2 V 4 t m0) NN) := ⟨_, rfl⟩
    rw [← hU_2] at hW
    have hP := hW.1
    have hE : plE V (nI t) t m0 = 0 := hP0
    exact uI_ret (true, (up2 V 4 t m0), U_2) hW hx hb hr hlocks dX4_ifPlanned_30 (by simp only [cond_true, hU_2]) hE (rfl) (adr2 (L := [[h], [q 0, na 0, na 1, na 2, na 3, na 4, na 5, na 6, na 7, na 8, na 9, na 10, na 11], [q 1, ta 0, ta 1, ta 2, ta 3, ta 4, ta 5, ta 6, ta 7, ta 8, ta 9, ta 10, ta 11], [q 2, pa 0, pa 1, pa 2, pa 3, pa 4, pa 5, pa 6, pa 7, pa 8, pa 9, pa 10, pa 11], [q 3, hq], [hh 0, (aa 0) 0, (aa 0) 1, (aa 0) 2, (aa 0) 3, (aa 0) 4, (aa 0) 5, (aa 0) 6, (aa 0) 7, (aa 0) 8, (aa 0) 9, (aa 0) 10, (aa 0) 11], [hh 1, (aa 1) 0, (aa 1) 1, (aa 1) 2, (aa 1) 3, (aa 1) 4, (aa 1) 5, (aa 1) 6, (aa 1) 7, (aa 1) 8, (aa 1) 9, (aa 1) 10, (aa 1) 11], [hh 2, (aa 2) 0, (aa 2) 1, (aa 2) 2, (aa 2) 3, (aa 2) 4, (aa 2) 5, (aa 2) 6, (aa 2) 7, (aa 2) 8, (aa 2) 9, (aa 2) 10, (aa 2) 11], [hh 3, (aa 3) 0, (aa 3) 1, (aa 3) 2, (aa 3) 3, (aa 3) 4, (aa 3) 5, (aa 3) 6, (aa 3) 7, (aa 3) 8, (aa 3) 9, (aa 3) 10, (aa 3) 11], [hh 4, (aa 4) 0, (aa 4) 1, (aa 4) 2, (aa 4) 3, (aa 4) 4, (aa 4) 5, (aa 4) 6, (aa 4) 7, (aa 4) 8, (aa 4) 9, (aa 4) 10, (aa 4) 11], [q 4, ra 0, ra 1, ra 2, ra 3], [q 5, sa]]) rfl rfl)
  · refine lv_iload_n hx hb dX4_ifPlanned_11 rfl (lv_at hl 0 rfl) ?_
    exact uI_ret (false, TV, NN) hW hx hb hr hlocks dX4_ifPlanned_12 (rfl) h_1 (rfl) (adr2 (L := [[h], [q 0, na 0, na 1, na 2, na 3, na 4, na 5, na 6, na 7, na 8, na 9, na 10, na 11], [q 1, ta 0, ta 1, ta 2, ta 3, ta 4, ta 5, ta 6, ta 7, ta 8, ta 9, ta 10, ta 11], [q 2, pa 0, pa 1, pa 2, pa 3, pa 4, pa 5, pa 6, pa 7, pa 8, pa 9, pa 10, pa 11], [q 3, hq], [hh 0, (aa 0) 0, (aa 0) 1, (aa 0) 2, (aa 0) 3, (aa 0) 4, (aa 0) 5, (aa 0) 6, (aa 0) 7, (aa 0) 8, (aa 0) 9, (aa 0) 10, (aa 0) 11], [hh 1, (aa 1) 0, (aa 1) 1, (aa 1) 2, (aa 1) 3, (aa 1) 4, (aa 1) 5, (aa 1) 6, (aa 1) 7, (aa 1) 8, (aa 1) 9, (aa 1) 10, (aa 1) 11], [hh 2, (aa 2) 0, (aa 2) 1, (aa 2) 2, (aa 2) 3, (aa 2) 4, (aa 2) 5, (aa 2) 6, (aa 2) 7, (aa 2) 8, (aa 2) 9, (aa 2) 10, (aa 2) 11], [hh 3, (aa 3) 0, (aa 3) 1, (aa 3) 2, (aa 3) 3, (aa 3) 4, (aa 3) 5, (aa 3) 6, (aa 3) 7, (aa 3) 8, (aa 3) 9, (aa 3) 10, (aa 3) 11], [hh 4, (aa 4) 0, (aa 4) 1, (aa 4) 2, (aa 4) 3, (aa 4) 4, (aa 4) 5, (aa 4) 6, (aa 4) 7, (aa 4) 8, (aa 4) 9, (aa 4) 10, (aa 4) 11], [q 4, ra 0, ra 1, ra 2, ra 3], [q 5, sa]]) rfl rfl)

set_option maxHeartbeats 4000000 in
set_option maxRecDepth 100000 in
theorem c_X4_pointsIn (l : Launch) (g : gx) (h : Nat) (q : Nat → Nat) (z : Int32) (na : Nat → Nat) (V : sV) (ta : Nat → Nat) (TV : sV) (pa : Nat → Nat) (SV : sV) (hq : Nat) (hh : Nat → Nat) (o n : Nat) (aa : Nat → Nat → Nat) (HV : Nat → sV) (ra : Nat → Nat) (NN : sV) (sa : Nat) (T : Nat → Nat) (k : Nat) (x y : Int32) (t m0 : Nat) (ho : o < 5) (hn : n ≤ 5) (hk : k ≤ 60) (hxt : isT x → x = nI t ∧ t < 6) (hxm : tErr y = 0 → y = nI m0 ∧ m0 ≤ 50) : cU (S := Bool × sV × sV) l g yX4_pointsIn cX4_pointsIn 4 (some .int) ({ frames := 5, cells := 0, slots := 0, locals := 120 } : Room) [.ref h, .int x, .int y] [bB h q z, vB g (q 0) na V, vB g (q 1) ta TV, vB g (q 2) pa SV, hB g (q 3) hq hh o n, vB g (hh 0) (aa 0) (HV 0), vB g (hh 1) (aa 1) (HV 1), vB g (hh 2) (aa 2) (HV 2), vB g (hh 3) (aa 3) (HV 3), vB g (hh 4) (aa 4) (HV 4), rB g (q 4) ra NN, tB g (q 5) sa T k] (fun u => some (.int (bif u.1 then ((mtV V NN m0).1 7 t) else (piE x y)))) (fun u => bif u.1 then piE x y = 0 else ¬ piE x y = 0) (fun u => [bB h q z, vB g (q 0) na V, vB g (q 1) ta u.2.1, vB g (q 2) pa SV, hB g (q 3) hq hh o n, vB g (hh 0) (aa 0) (HV 0), vB g (hh 1) (aa 1) (HV 1), vB g (hh 2) (aa 2) (HV 2), vB g (hh 3) (aa 3) (HV 3), vB g (hh 4) (aa 4) (HV 4), rB g (q 4) ra u.2.2, tB g (q 5) sa T k]) := by
  refine cU.mk (by decide +kernel) (Nat.le_of_ble_eq_true rfl) ?_
  intro p e s m below meth c ls E hK hW hl
  obtain ⟨hx, hb, hr, hml, hts, hown, hlocks, hin⟩ := id E
  have hown : s.vm.findClass RX4 = some m.cls := hown
  have hP := hW.1
  have hl : lv_has ls 4 [(0, .ref h), (1, .int x), (2, .int y)] := hl
  refine lv_iload_n hx hb dX4_pointsIn_0 rfl (lv_at hl 1 rfl) ?_
  refine call_SR (As := [.int x]) (rest := []) E rfl hK hP (c_X4_isTown l g x) ok_X4_isTown rfl q1_198 [] rfl ⟨⟨rfl, rfl⟩, Nat.le_of_ble_eq_true rfl, Nat.le_of_ble_eq_true rfl⟩ hl.1 (Nat.le_of_ble_eq_true rfl) ⟨Nat.le_of_ble_eq_true rfl, Nat.le_of_ble_eq_true rfl⟩ rfl dX4_pointsIn_1 ?_
  refine b_ne0 (tgt := 9) hx hb dX4_pointsIn_4 (by decide) (fun h_1 => ?_) (fun h_1 => ?_)
  · have hT1 := h_1
    obtain ⟨rfl, ht⟩ := hxt h_1
    refine lv_iload_n hx hb dX4_pointsIn_9 rfl (lv_at hl 2 rfl) ?_
    refine call_SR (As := [.int y]) (rest := []) E rfl hK hP (c_X4_turnsError l g y) ok_X4_turnsError rfl q2_117 [] rfl ⟨⟨rfl, rfl⟩, Nat.le_of_ble_eq_true rfl, Nat.le_of_ble_eq_true rfl⟩ hl.1 (Nat.le_of_ble_eq_true rfl) ⟨Nat.le_of_ble_eq_true rfl, Nat.le_of_ble_eq_true rfl⟩ rfl dX4_pointsIn_10 ?_
    refine lv_istore_n (lv' := [(3, .int (tErr y)), (0, .ref h), (1, .int (nI t)), (2, .int y)]) hx hb dX4_pointsIn_13 rfl hl (by decide) rfl (fun ls hl => ?_)
    refine lv_iload_n hx hb dX4_pointsIn_14 rfl (lv_at hl 0 rfl) ?_
    refine lv_if_eq (tgt := 20) hx hb dX4_pointsIn_15 (by decide) (fun h_2 => ?_) (fun h_2 => ?_)
    · have hP0 := h_2
      obtain ⟨rfl, hm⟩ := hxm h_2
      refine lv_aload_n hx hb dX4_pointsIn_20 rfl (lv_at hl 1 rfl) ?_
      refine b_get (v := .ref (q 1)) hx hb hts inX4 hown hK hP 0 0 1 rfl rfl rfl (by decide) q1_162 rfl rfl dX4_pointsIn_21 ?_
      refine lv_aload_n hx hb dX4_pointsIn_24 rfl (lv_at hl 1 rfl) ?_
      refine b_get (v := .ref (q 0)) hx hb hts inX4 hown hK hP 0 0 0 rfl rfl rfl (by decide) q1_161 rfl rfl dX4_pointsIn_25 ?_
      refine call_VU (As := [.ref (q 0)]) (rest := []) E rfl hK hW (c_X3_copyFrom l g (q 1) ta TV (q 0) na V) ok_X3_copyFrom rfl q2_79 [2, 1] rfl (by decide) (b_recv hK hP 2 0 rfl rfl rfl rfl) ⟨⟨rfl, rfl⟩, Nat.le_of_ble_eq_true rfl, Nat.le_of_ble_eq_true rfl⟩ hl.1 (Nat.le_of_ble_eq_true rfl) ⟨Nat.le_of_ble_eq_true rfl, Nat.le_of_ble_eq_true rfl⟩ rfl dX4_pointsIn_28 (fun _u H locs _ hW => ?_)
      have hW : wd g _ s.heap [bB h q z, vB g (q 0) na V, vB g (q 1) ta V, vB g (q 2) pa SV, hB g (q 3) hq hh o n, vB g (hh 0) (aa 0) (HV 0), vB g (hh 1) (aa 1) (HV 1), vB g (hh 2) (aa 2) (HV 2), vB g (hh 3) (aa 3) (HV 3), vB g (hh 4) (aa 4) (HV 4), rB g (q 4) ra NN, tB g (q 5) sa T k] H locs := hW
      have hP := hW.1
      refine lv_aload_n hx hb dX4_pointsIn_31 rfl (lv_at hl 1 rfl) ?_
      refine lv_aload_n hx hb dX4_pointsIn_32 rfl (lv_at hl 1 rfl) ?_
      refine b_get (v := .ref (q 1)) hx hb hts inX4 hown hK hP 0 0 1 rfl rfl rfl (by decide) q1_162 rfl rfl dX4_pointsIn_33 ?_
      refine lv_iload_n hx hb dX4_pointsIn_36 rfl (lv_at hl 3 rfl) ?_
      refine call_VU (As := [.ref (q 1), .int (nI m0)]) (rest := []) E rfl hK hW (c_X4_makeTurns l g h q z (q 1) ta V ra NN m0 (by omega)) ok_X4_makeTurns rfl q2_120 [0, 2, 10] rfl (by decide) (b_recv hK hP 0 0 rfl rfl rfl rfl) ⟨⟨rfl, rfl⟩, Nat.le_of_ble_eq_true rfl, Nat.le_of_ble_eq_true rfl⟩ hl.1 (Nat.le_of_ble_eq_true rfl) ⟨Nat.le_of_ble_eq_true rfl, Nat.le_of_ble_eq_true rfl⟩ rfl dX4_pointsIn_37 (fun _u H locs _ hW => ?_)
      have hW : wd g _ s.heap [bB h q z, vB g (q 0) na V, vB g (q 1) ta ((mtV V NN m0).1), vB g (q 2) pa SV, hB g (q 3) hq hh o n, vB g (hh 0) (aa 0) (HV 0), vB g (hh 1) (aa 1) (HV 1), vB g (hh 2) (aa 2) (HV 2), vB g (hh 3) (aa 3) (HV 3), vB g (hh 4) (aa 4) (HV 4), rB g (q 4) ra ((mtV V NN m0).2), tB g (q 5) sa T k] H locs := hW
      have hP := hW.1
      obtain ⟨U_3, hU_3⟩ : ∃ z, z = (mtV V NN m0).1 := ⟨_, rfl⟩
      rw [← hU_3] at hW
      obtain ⟨U_4, hU_4⟩ : ∃ z, z = (mtV V NN m0).2 := ⟨_, rfl⟩
      rw [← hU_4] at hW
      have hP := hW.1
      refine lv_aload_n hx hb dX4_pointsIn_40 rfl (lv_at hl 1 rfl) ?_
      refine b_get (v := .ref (q 1)) hx hb hts inX4 hown hK hP 0 0 1 rfl rfl rfl (by decide) q1_162 rfl rfl dX4_pointsIn_41 ?_
      refine b_get (v := .ref (ta 7)) hx hb hts inX3 hown hK hP 2 0 7 rfl rfl rfl (by decide) q1_39 rfl rfl dX4_pointsIn_44 ?_
      refine lv_iload_n hx hb dX4_pointsIn_47 rfl (lv_at hl 2 rfl) ?_
      refine b_iald (v := U_3 7 t) hx hb hK hP 2 8 (t) rfl rfl rfl (by omega) rfl rfl dX4_pointsIn_48 ?_
      have hE : piE (nI t) (nI m0) = 0 := by rw [piE, if_pos hT1]; exact hP0
      exact uI_ret (true, U_3, U_4) hW hx hb hr hlocks dX4_pointsIn_49 (by simp only [cond_true, hU_4, hU_3]) hE (rfl) (adr2 (L := [[h], [q 0, na 0, na 1, na 2, na 3, na 4, na 5, na 6, na 7, na 8, na 9, na 10, na 11], [q 1, ta 0, ta 1, ta 2, ta 3, ta 4, ta 5, ta 6, ta 7, ta 8, ta 9, ta 10, ta 11], [q 2, pa 0, pa 1, pa 2, pa 3, pa 4, pa 5, pa 6, pa 7, pa 8, pa 9, pa 10, pa 11], [q 3, hq], [hh 0, (aa 0) 0, (aa 0) 1, (aa 0) 2, (aa 0) 3, (aa 0) 4, (aa 0) 5, (aa 0) 6, (aa 0) 7, (aa 0) 8, (aa 0) 9, (aa 0) 10, (aa 0) 11], [hh 1, (aa 1) 0, (aa 1) 1, (aa 1) 2, (aa 1) 3, (aa 1) 4, (aa 1) 5, (aa 1) 6, (aa 1) 7, (aa 1) 8, (aa 1) 9, (aa 1) 10, (aa 1) 11], [hh 2, (aa 2) 0, (aa 2) 1, (aa 2) 2, (aa 2) 3, (aa 2) 4, (aa 2) 5, (aa 2) 6, (aa 2) 7, (aa 2) 8, (aa 2) 9, (aa 2) 10, (aa 2) 11], [hh 3, (aa 3) 0, (aa 3) 1, (aa 3) 2, (aa 3) 3, (aa 3) 4, (aa 3) 5, (aa 3) 6, (aa 3) 7, (aa 3) 8, (aa 3) 9, (aa 3) 10, (aa 3) 11], [hh 4, (aa 4) 0, (aa 4) 1, (aa 4) 2, (aa 4) 3, (aa 4) 4, (aa 4) 5, (aa 4) 6, (aa 4) 7, (aa 4) 8, (aa 4) 9, (aa 4) 10, (aa 4) 11], [q 4, ra 0, ra 1, ra 2, ra 3], [q 5, sa]]) rfl rfl)
    · refine lv_iload_n hx hb dX4_pointsIn_18 rfl (lv_at hl 0 rfl) ?_
      exact uI_ret (false, TV, NN) hW hx hb hr hlocks dX4_pointsIn_19 (by rw [piE, if_pos hT1]; rfl) (by show ¬ piE _ _ = 0; rw [piE, if_pos hT1]; exact h_2) (rfl) (adr2 (L := [[h], [q 0, na 0, na 1, na 2, na 3, na 4, na 5, na 6, na 7, na 8, na 9, na 10, na 11], [q 1, ta 0, ta 1, ta 2, ta 3, ta 4, ta 5, ta 6, ta 7, ta 8, ta 9, ta 10, ta 11], [q 2, pa 0, pa 1, pa 2, pa 3, pa 4, pa 5, pa 6, pa 7, pa 8, pa 9, pa 10, pa 11], [q 3, hq], [hh 0, (aa 0) 0, (aa 0) 1, (aa 0) 2, (aa 0) 3, (aa 0) 4, (aa 0) 5, (aa 0) 6, (aa 0) 7, (aa 0) 8, (aa 0) 9, (aa 0) 10, (aa 0) 11], [hh 1, (aa 1) 0, (aa 1) 1, (aa 1) 2, (aa 1) 3, (aa 1) 4, (aa 1) 5, (aa 1) 6, (aa 1) 7, (aa 1) 8, (aa 1) 9, (aa 1) 10, (aa 1) 11], [hh 2, (aa 2) 0, (aa 2) 1, (aa 2) 2, (aa 2) 3, (aa 2) 4, (aa 2) 5, (aa 2) 6, (aa 2) 7, (aa 2) 8, (aa 2) 9, (aa 2) 10, (aa 2) 11], [hh 3, (aa 3) 0, (aa 3) 1, (aa 3) 2, (aa 3) 3, (aa 3) 4, (aa 3) 5, (aa 3) 6, (aa 3) 7, (aa 3) 8, (aa 3) 9, (aa 3) 10, (aa 3) 11], [hh 4, (aa 4) 0, (aa 4) 1, (aa 4) 2, (aa 4) 3, (aa 4) 4, (aa 4) 5, (aa 4) 6, (aa 4) 7, (aa 4) 8, (aa 4) 9, (aa 4) 10, (aa 4) 11], [q 4, ra 0, ra 1, ra 2, ra 3], [q 5, sa]]) rfl rfl)
  · refine lv_iconst (v := -1) hx hb dX4_pointsIn_7 (by decide) ?_
    have hE : piE x y = -1 := by rw [piE, if_neg h_1]
    exact uI_ret (false, TV, NN) hW hx hb hr hlocks dX4_pointsIn_8 (hE.symm) (by show ¬ _ = _; rw [hE]; decide) (rfl) (adr2 (L := [[h], [q 0, na 0, na 1, na 2, na 3, na 4, na 5, na 6, na 7, na 8, na 9, na 10, na 11], [q 1, ta 0, ta 1, ta 2, ta 3, ta 4, ta 5, ta 6, ta 7, ta 8, ta 9, ta 10, ta 11], [q 2, pa 0, pa 1, pa 2, pa 3, pa 4, pa 5, pa 6, pa 7, pa 8, pa 9, pa 10, pa 11], [q 3, hq], [hh 0, (aa 0) 0, (aa 0) 1, (aa 0) 2, (aa 0) 3, (aa 0) 4, (aa 0) 5, (aa 0) 6, (aa 0) 7, (aa 0) 8, (aa 0) 9, (aa 0) 10, (aa 0) 11], [hh 1, (aa 1) 0, (aa 1) 1, (aa 1) 2, (aa 1) 3, (aa 1) 4, (aa 1) 5, (aa 1) 6, (aa 1) 7, (aa 1) 8, (aa 1) 9, (aa 1) 10, (aa 1) 11], [hh 2, (aa 2) 0, (aa 2) 1, (aa 2) 2, (aa 2) 3, (aa 2) 4, (aa 2) 5, (aa 2) 6, (aa 2) 7, (aa 2) 8, (aa 2) 9, (aa 2) 10, (aa 2) 11], [hh 3, (aa 3) 0, (aa 3) 1, (aa 3) 2, (aa 3) 3, (aa 3) 4, (aa 3) 5, (aa 3) 6, (aa 3) 7, (aa 3) 8, (aa 3) 9, (aa 3) 10, (aa 3) 11], [hh 4, (aa 4) 0, (aa 4) 1, (aa 4) 2, (aa 4) 3, (aa 4) 4, (aa 4) 5, (aa 4) 6, (aa 4) 7, (aa 4) 8, (aa 4) 9, (aa 4) 10, (aa 4) 11], [q 4, ra 0, ra 1, ra 2, ra 3], [q 5, sa]]) rfl rfl)
