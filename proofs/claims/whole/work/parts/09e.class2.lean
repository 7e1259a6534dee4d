set_option maxHeartbeats 4000000 in
set_option maxRecDepth 100000 in
theorem c_X0_takeBack (l : Launch) (g : gx) (h q : Nat) (hh : Nat → Nat) (o n : Nat) (ho : o < 5) (hn : n ≤ 5) (aa : Nat → Nat → Nat) (HV : Nat → sV) (v : Nat) (va : Nat → Nat) (V : sV) (hn0 : 0 < n)  : cU (S := Unit) l g yX0_takeBack cX0_takeBack 3 none ({ frames := 3, cells := 0, slots := 0, locals := 102 } : Room) [.ref h, .ref v] [hB g h q hh o n, vB g v va V, vB g (hh 0) (aa 0) (HV 0), vB g (hh 1) (aa 1) (HV 1), vB g (hh 2) (aa 2) (HV 2), vB g (hh 3) (aa 3) (HV 3), vB g (hh 4) (aa 4) (HV 4)] (fun _ => none) (fun _ => True) (fun _ => [hB g h q hh o (n - 1), vB g v va (HV ((o + (n - 1)) % 5)), vB g (hh 0) (aa 0) (HV 0), vB g (hh 1) (aa 1) (HV 1), vB g (hh 2) (aa 2) (HV 2), vB g (hh 3) (aa 3) (HV 3), vB g (hh 4) (aa 4) (HV 4)]) := by
  refine cU.mk (by decide +kernel) (Nat.le_of_ble_eq_true rfl) ?_
  intro p e s m below meth c ls E hK hW hl
  obtain ⟨hx, hb, hr, hml, hts, hown, hlocks, hin⟩ := id E
  have hown : s.vm.findClass RX0 = some m.cls := hown
  have hP := hW.1
  have hl : lv_has ls 3 [(0, .ref h), (1, .ref v)] := hl
  refine lv_aload_n hx hb dX0_takeBack_0 rfl (lv_at hl 0 rfl) ?_
  refine b_get (v := .int (nI n)) hx hb hts inX0 hown hK hP 0 0 2 rfl rfl rfl (by decide) q1_109 rfl rfl dX0_takeBack_1 ?_
  refine lv_if_ne (tgt := 8) hx hb dX0_takeBack_4 (by decide) (fun h_1 => ?_) (fun h_1 => ?_)
  · refine lv_aload_n hx hb dX0_takeBack_8 rfl (lv_at hl 0 rfl) ?_
    refine lv_dup hx hb dX0_takeBack_9 rfl ?_
    refine b_get (v := .int (nI n)) hx hb hts inX0 hown hK hP 0 0 2 rfl rfl rfl (by decide) q1_109 rfl rfl dX0_takeBack_10 ?_
    refine lv_iconst (v := 1) hx hb dX0_takeBack_13 (by decide) ?_
    refine lv_isub hx hb dX0_takeBack_14 ?_
    refine b_top (y := nI (n - 1)) (pk_sub (a := n) (b := 1) (by omega)) ?_
    refine b_put (B' := [hB g h q hh o (n - 1), vB g v va V, vB g (hh 0) (aa 0) (HV 0), vB g (hh 1) (aa 1) (HV 1), vB g (hh 2) (aa 2) (HV 2), vB g (hh 3) (aa 3) (HV 3), vB g (hh 4) (aa 4) (HV 4)]) (v := .int (nI (n - 1))) hx hb hts inX0 tyX0_ok nmX0 hown hK hW 0 0 2 rfl rfl rfl (by decide) q1_109 rfl rfl rfl rfl (Nat.le_of_ble_eq_true rfl) rfl dX0_takeBack_15 (fun H locs hW => ?_)
    have hP := hW.1
    refine lv_aload_n hx hb dX0_takeBack_18 rfl (lv_at hl 0 rfl) ?_
    refine b_get (v := .ref q) hx hb hts inX0 hown hK hP 0 0 0 rfl rfl rfl (by decide) q1_107 rfl rfl dX0_takeBack_19 ?_
    refine lv_aload_n hx hb dX0_takeBack_22 rfl (lv_at hl 0 rfl) ?_
    refine lv_aload_n hx hb dX0_takeBack_23 rfl (lv_at hl 0 rfl) ?_
    refine b_get (v := .int (nI (n - 1))) hx hb hts inX0 hown hK hP 0 0 2 rfl rfl rfl (by decide) q1_109 rfl rfl dX0_takeBack_24 ?_
    refine call_VR (As := [.int (nI (n - 1))]) (rest := [.ref q]) E rfl hK hP (c_X0_placeOf l g h q hh o (n - 1) (n - 1) (by omega) (by omega)) ok_X0_placeOf rfl q1_195 [0] rfl (b_recv hK hP 0 0 rfl rfl rfl rfl) ⟨⟨rfl, rfl⟩, Nat.le_of_ble_eq_true rfl, Nat.le_of_ble_eq_true rfl⟩ hl.1 (Nat.le_of_ble_eq_true rfl) ⟨Nat.le_of_ble_eq_true rfl, Nat.le_of_ble_eq_true rfl⟩ rfl dX0_takeBack_27 ?_
    refine b_aald (v := hh ((o + (n - 1)) % 5)) hx hb hK hP 0 1 ((o + (n - 1)) % 5) rfl rfl rfl (by omega) rfl rfl dX0_takeBack_30 ?_
    obtain ⟨j, hj⟩ : ∃ j, j = (o + (n - 1)) % 5 := ⟨_, rfl⟩
    rw [← hj]
    have hj5 : j < 5 := by omega
    rcases (show j = 0 ∨ j = 1 ∨ j = 2 ∨ j = 3 ∨ j = 4 by omega) with rfl | rfl | rfl | rfl | rfl
    · refine lv_astore_n (lv' := [(2, .ref (hh 0)), (0, .ref h), (1, .ref v)]) hx hb dX0_takeBack_31 rfl hl (by decide) rfl (fun ls hl => ?_)
      refine lv_aload_n hx hb dX0_takeBack_32 rfl (lv_at hl 0 rfl) ?_
      refine lv_ifnull hx hb dX0_takeBack_33 ?_
      refine lv_aload_n hx hb dX0_takeBack_36 rfl (lv_at hl 2 rfl) ?_
      refine lv_aload_n hx hb dX0_takeBack_37 rfl (lv_at hl 0 rfl) ?_
      refine call_VU (As := [.ref (hh 0)]) (rest := []) E rfl hK hW (c_X3_copyFrom l g v va V (hh 0) (aa 0) (HV 0)) ok_X3_copyFrom rfl q1_199 [1, 2] rfl (by decide) (b_recv hK hP 1 0 rfl rfl rfl rfl) ⟨⟨rfl, rfl⟩, Nat.le_of_ble_eq_true rfl, Nat.le_of_ble_eq_true rfl⟩ hl.1 (Nat.le_of_ble_eq_true rfl) ⟨Nat.le_of_ble_eq_true rfl, Nat.le_of_ble_eq_true rfl⟩ rfl dX0_takeBack_38 (fun _u H locs _ hW => ?_)
      have hW : wd g _ s.heap [hB g h q hh o (n - 1), vB g v va (HV 0), vB g (hh 0) (aa 0) (HV 0), vB g (hh 1) (aa 1) (HV 1), vB g (hh 2) (aa 2) (HV 2), vB g (hh 3) (aa 3) (HV 3), vB g (hh 4) (aa 4) (HV 4)] H locs := hW
      have hP := hW.1
      exact uV_ret () hW hx hb hr hlocks dX0_takeBack_41 trivial (rfl) (adr2 (L := [[h, q], [v, va 0, va 1, va 2, va 3, va 4, va 5, va 6, va 7, va 8, va 9, va 10, va 11], [hh 0, (aa 0) 0, (aa 0) 1, (aa 0) 2, (aa 0) 3, (aa 0) 4, (aa 0) 5, (aa 0) 6, (aa 0) 7, (aa 0) 8, (aa 0) 9, (aa 0) 10, (aa 0) 11], [hh 1, (aa 1) 0, (aa 1) 1, (aa 1) 2, (aa 1) 3, (aa 1) 4, (aa 1) 5, (aa 1) 6, (aa 1) 7, (aa 1) 8, (aa 1) 9, (aa 1) 10, (aa 1) 11], [hh 2, (aa 2) 0, (aa 2) 1, (aa 2) 2, (aa 2) 3, (aa 2) 4, (aa 2) 5, (aa 2) 6, (aa 2) 7, (aa 2) 8, (aa 2) 9, (aa 2) 10, (aa 2) 11], [hh 3, (aa 3) 0, (aa 3) 1, (aa 3) 2, (aa 3) 3, (aa 3) 4, (aa 3) 5, (aa 3) 6, (aa 3) 7, (aa 3) 8, (aa 3) 9, (aa 3) 10, (aa 3) 11], [hh 4, (aa 4) 0, (aa 4) 1, (aa 4) 2, (aa 4) 3, (aa 4) 4, (aa 4) 5, (aa 4) 6, (aa 4) 7, (aa 4) 8, (aa 4) 9, (aa 4) 10, (aa 4) 11]]) rfl rfl)
    · refine lv_astore_n (lv' := [(2, .ref (hh 1)), (0, .ref h), (1, .ref v)]) hx hb dX0_takeBack_31 rfl hl (by decide) rfl (fun ls hl => ?_)
      refine lv_aload_n hx hb dX0_takeBack_32 rfl (lv_at hl 0 rfl) ?_
      refine lv_ifnull hx hb dX0_takeBack_33 ?_
      refine lv_aload_n hx hb dX0_takeBack_36 rfl (lv_at hl 2 rfl) ?_
      refine lv_aload_n hx hb dX0_takeBack_37 rfl (lv_at hl 0 rfl) ?_
      refine call_VU (As := [.ref (hh 1)]) (rest := []) E rfl hK hW (c_X3_copyFrom l g v va V (hh 1) (aa 1) (HV 1)) ok_X3_copyFrom rfl q1_199 [1, 3] rfl (by decide) (b_recv hK hP 1 0 rfl rfl rfl rfl) ⟨⟨rfl, rfl⟩, Nat.le_of_ble_eq_true rfl, Nat.le_of_ble_eq_true rfl⟩ hl.1 (Nat.le_of_ble_eq_true rfl) ⟨Nat.le_of_ble_eq_true rfl, Nat.le_of_ble_eq_true rfl⟩ rfl dX0_takeBack_38 (fun _u H locs _ hW => ?_)
      have hW : wd g _ s.heap [hB g h q hh o (n - 1), vB g v va (HV 1), vB g (hh 0) (aa 0) (HV 0), vB g (hh 1) (aa 1) (HV 1), vB g (hh 2) (aa 2) (HV 2), vB g (hh 3) (aa 3) (HV 3), vB g (hh 4) (aa 4) (HV 4)] H locs := hW
      have hP := hW.1
      exact uV_ret () hW hx hb hr hlocks dX0_takeBack_41 trivial (rfl) (adr2 (L := [[h, q], [v, va 0, va 1, va 2, va 3, va 4, va 5, va 6, va 7, va 8, va 9, va 10, va 11], [hh 0, (aa 0) 0, (aa 0) 1, (aa 0) 2, (aa 0) 3, (aa 0) 4, (aa 0) 5, (aa 0) 6, (aa 0) 7, (aa 0) 8, (aa 0) 9, (aa 0) 10, (aa 0) 11], [hh 1, (aa 1) 0, (aa 1) 1, (aa 1) 2, (aa 1) 3, (aa 1) 4, (aa 1) 5, (aa 1) 6, (aa 1) 7, (aa 1) 8, (aa 1) 9, (aa 1) 10, (aa 1) 11], [hh 2, (aa 2) 0, (aa 2) 1, (aa 2) 2, (aa 2) 3, (aa 2) 4, (aa 2) 5, (aa 2) 6, (aa 2) 7, (aa 2) 8, (aa 2) 9, (aa 2) 10, (aa 2) 11], [hh 3, (aa 3) 0, (aa 3) 1, (aa 3) 2, (aa 3) 3, (aa 3) 4, (aa 3) 5, (aa 3) 6, (aa 3) 7, (aa 3) 8, (aa 3) 9, (aa 3) 10, (aa 3) 11], [hh 4, (aa 4) 0, (aa 4) 1, (aa 4) 2, (aa 4) 3, (aa 4) 4, (aa 4) 5, (aa 4) 6, (aa 4) 7, (aa 4) 8, (aa 4) 9, (aa 4) 10, (aa 4) 11]]) rfl rfl)
    · refine lv_astore_n (lv' := [(2, .ref (hh 2)), (0, .ref h), (1, .ref v)]) hx hb dX0_takeBack_31 rfl hl (by decide) rfl (fun ls hl => ?_)
      refine lv_aload_n hx hb dX0_takeBack_32 rfl (lv_at hl 0 rfl) ?_
      refine lv_ifnull hx hb dX0_takeBack_33 ?_
      refine lv_aload_n hx hb dX0_takeBack_36 rfl (lv_at hl 2 rfl) ?_
      refine lv_aload_n hx hb dX0_takeBack_37 rfl (lv_at hl 0 rfl) ?_
      refine call_VU (As := [.ref (hh 2)]) (rest := []) E rfl hK hW (c_X3_copyFrom l g v va V (hh 2) (aa 2) (HV 2)) ok_X3_copyFrom rfl q1_199 [1, 4] rfl (by decide) (b_recv hK hP 1 0 rfl rfl rfl rfl) ⟨⟨rfl, rfl⟩, Nat.le_of_ble_eq_true rfl, Nat.le_of_ble_eq_true rfl⟩ hl.1 (Nat.le_of_ble_eq_true rfl) ⟨Nat.le_of_ble_eq_true rfl, Nat.le_of_ble_eq_true rfl⟩ rfl dX0_takeBack_38 (fun _u H locs _ hW => ?_)
      have hW : wd g _ s.heap [hB g h q hh o (n - 1), vB g v va (HV 2), vB g (hh 0) (aa 0) (HV 0), vB g (hh 1) (aa 1) (HV 1), vB g (hh 2) (aa 2) (HV 2), vB g (hh 3) (aa 3) (HV 3), vB g (hh 4) (aa 4) (HV 4)] H locs := hW
      have hP := hW.1
      exact uV_ret () hW hx hb hr hlocks dX0_takeBack_41 trivial (rfl) (adr2 (L := [[h, q], [v, va 0, va 1, va 2, va 3, va 4, va 5, va 6, va 7, va 8, va 9, va 10, va 11], [hh 0, (aa 0) 0, (aa 0) 1, (aa 0) 2, (aa 0) 3, (aa 0) 4, (aa 0) 5, (aa 0) 6, (aa 0) 7, (aa 0) 8, (aa 0) 9, (aa 0) 10, (aa 0) 11], [hh 1, (aa 1) 0, (aa 1) 1, (aa 1) 2, (aa 1) 3, (aa 1) 4, (aa 1) 5, (aa 1) 6, (aa 1) 7, (aa 1) 8, (aa 1) 9, (aa 1) 10, (aa 1) 11], [hh 2, (aa 2) 0, (aa 2) 1, (aa 2) 2, (aa 2) 3, (aa 2) 4, (aa 2) 5, (aa 2) 6, (aa 2) 7, (aa 2) 8, (aa 2) 9, (aa 2) 10, (aa 2) 11], [hh 3, (aa 3) 0, (aa 3) 1, (aa 3) 2, (aa 3) 3, (aa 3) 4, (aa 3) 5, (aa 3) 6, (aa 3) 7, (aa 3) 8, (aa 3) 9, (aa 3) 10, (aa 3) 11], [hh 4, (aa 4) 0, (aa 4) 1, (aa 4) 2, (aa 4) 3, (aa 4) 4, (aa 4) 5, (aa 4) 6, (aa 4) 7, (aa 4) 8, (aa 4) 9, (aa 4) 10, (aa 4) 11]]) rfl rfl)
    · refine lv_astore_n (lv' := [(2, .ref (hh 3)), (0, .ref h), (1, .ref v)]) hx hb dX0_takeBack_31 rfl hl (by decide) rfl (fun ls hl => ?_)
      refine lv_aload_n hx hb dX0_takeBack_32 rfl (lv_at hl 0 rfl) ?_
      refine lv_ifnull hx hb dX0_takeBack_33 ?_
      refine lv_aload_n hx hb dX0_takeBack_36 rfl (lv_at hl 2 rfl) ?_
      refine lv_aload_n hx hb dX0_takeBack_37 rfl (lv_at hl 0 rfl) ?_
      refine call_VU (As := [.ref (hh 3)]) (rest := []) E rfl hK hW (c_X3_copyFrom l g v va V (hh 3) (aa 3) (HV 3)) ok_X3_copyFrom rfl q1_199 [1, 5] rfl (by decide) (b_recv hK hP 1 0 rfl rfl rfl rfl) ⟨⟨rfl, rfl⟩, Nat.le_of_ble_eq_true rfl, Nat.le_of_ble_eq_true rfl⟩ hl.1 (Nat.le_of_ble_eq_true rfl) ⟨Nat.le_of_ble_eq_true rfl, Nat.le_of_ble_eq_true rfl⟩ rfl dX0_takeBack_38 (fun _u H locs _ hW => ?_)
      have hW : wd g _ s.heap [hB g h q hh o (n - 1), vB g v va (HV 3), vB g (hh 0) (aa 0) (HV 0), vB g (hh 1) (aa 1) (HV 1), vB g (hh 2) (aa 2) (HV 2), vB g (hh 3) (aa 3) (HV 3), vB g (hh 4) (aa 4) (HV 4)] H locs := hW
      have hP := hW.1
      exact uV_ret () hW hx hb hr hlocks dX0_takeBack_41 trivial (rfl) (adr2 (L := [[h, q], [v, va 0, va 1, va 2, va 3, va 4, va 5, va 6, va 7, va 8, va 9, va 10, va 11], [hh 0, (aa 0) 0, (aa 0) 1, (aa 0) 2, (aa 0) 3, (aa 0) 4, (aa 0) 5, (aa 0) 6, (aa 0) 7, (aa 0) 8, (aa 0) 9, (aa 0) 10, (aa 0) 11], [hh 1, (aa 1) 0, (aa 1) 1, (aa 1) 2, (aa 1) 3, (aa 1) 4, (aa 1) 5, (aa 1) 6, (aa 1) 7, (aa 1) 8, (aa 1) 9, (aa 1) 10, (aa 1) 11], [hh 2, (aa 2) 0, (aa 2) 1, (aa 2) 2, (aa 2) 3, (aa 2) 4, (aa 2) 5, (aa 2) 6, (aa 2) 7, (aa 2) 8, (aa 2) 9, (aa 2) 10, (aa 2) 11], [hh 3, (aa 3) 0, (aa 3) 1, (aa 3) 2, (aa 3) 3, (aa 3) 4, (aa 3) 5, (aa 3) 6, (aa 3) 7, (aa 3) 8, (aa 3) 9, (aa 3) 10, (aa 3) 11], [hh 4, (aa 4) 0, (aa 4) 1, (aa 4) 2, (aa 4) 3, (aa 4) 4, (aa 4) 5, (aa 4) 6, (aa 4) 7, (aa 4) 8, (aa 4) 9, (aa 4) 10, (aa 4) 11]]) rfl rfl)
    · refine lv_astore_n (lv' := [(2, .ref (hh 4)), (0, .ref h), (1, .ref v)]) hx hb dX0_takeBack_31 rfl hl (by decide) rfl (fun ls hl => ?_)
      refine lv_aload_n hx hb dX0_takeBack_32 rfl (lv_at hl 0 rfl) ?_
      refine lv_ifnull hx hb dX0_takeBack_33 ?_
      refine lv_aload_n hx hb dX0_takeBack_36 rfl (lv_at hl 2 rfl) ?_
      refine lv_aload_n hx hb dX0_takeBack_37 rfl (lv_at hl 0 rfl) ?_
      refine call_VU (As := [.ref (hh 4)]) (rest := []) E rfl hK hW (c_X3_copyFrom l g v va V (hh 4) (aa 4) (HV 4)) ok_X3_copyFrom rfl q1_199 [1, 6] rfl (by decide) (b_recv hK hP 1 0 rfl rfl rfl rfl) ⟨⟨rfl, rfl⟩, Nat.le_of_ble_eq_true rfl, Nat.le_of_ble_eq_true rfl⟩ hl.1 (Nat.le_of_ble_eq_true rfl) ⟨Nat.le_of_ble_eq_true rfl, Nat.le_of_ble_eq_true rfl⟩ rfl dX0_takeBack_38 (fun _u H locs _ hW => ?_)
      have hW : wd g _ s.heap [hB g h q hh o (n - 1), vB g v va (HV 4), vB g (hh 0) (aa 0) (HV 0), vB g (hh 1) (aa 1) (HV 1), vB g (hh 2) (aa 2) (HV 2), vB g (hh 3) (aa 3) (HV 3), vB g (hh 4) (aa 4) (HV 4)] H locs := hW
      have hP := hW.1
      exact uV_ret () hW hx hb hr hlocks dX0_takeBack_41 trivial (rfl) (adr2 (L := [[h, q], [v, va 0, va 1, va 2, va 3, va 4, va 5, va 6, va 7, va 8, va 9, va 10, va 11], [hh 0, (aa 0) 0, (aa 0) 1, (aa 0) 2, (aa 0) 3, (aa 0) 4, (aa 0) 5, (aa 0) 6, (aa 0) 7, (aa 0) 8, (aa 0) 9, (aa 0) 10, (aa 0) 11], [hh 1, (aa 1) 0, (aa 1) 1, (aa 1) 2, (aa 1) 3, (aa 1) 4, (aa 1) 5, (aa 1) 6, (aa 1) 7, (aa 1) 8, (aa 1) 9, (aa 1) 10, (aa 1) 11], [hh 2, (aa 2) 0, (aa 2) 1, (aa 2) 2, (aa 2) 3, (aa 2) 4, (aa 2) 5, (aa 2) 6, (aa 2) 7, (aa 2) 8, (aa 2) 9, (aa 2) 10, (aa 2) 11], [hh 3, (aa 3) 0, (aa 3) 1, (aa 3) 2, (aa 3) 3, (aa 3) 4, (aa 3) 5, (aa 3) 6, (aa 3) 7, (aa 3) 8, (aa 3) 9, (aa 3) 10, (aa 3) 11], [hh 4, (aa 4) 0, (aa 4) 1, (aa 4) 2, (aa 4) 3, (aa 4) 4, (aa 4) 5, (aa 4) 6, (aa 4) 7, (aa 4) 8, (aa 4) 9, (aa 4) 10, (aa 4) 11]]) rfl rfl)
  · exact absurd h_1 (nI_ne0 hn0 (by omega))
