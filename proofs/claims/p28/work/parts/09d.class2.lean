set_option maxHeartbeats 4000000 in
set_option maxRecDepth 100000 in
theorem c_X0_placeOf (l : Launch) (g : gx) (h q : Nat) (hh : Nat → Nat) (o n k : Nat) (ho : o < 5) (hk : k < 10)  : cR l g yX0_placeOf cX0_placeOf 2 (some .int) ({ frames := 0, cells := 0, slots := 0, locals := 0 } : Room) [.ref h, .int (nI k)] [hB g h q hh o n] (.int (nI ((o + k) % 5))) := by
  refine cR.mk (by decide +kernel) (Nat.le_of_ble_eq_true rfl) ?_
  intro p e s m below meth c ls E hK hP hl
  obtain ⟨hx, hb, hr, hml, hts, hown, hlocks, hin⟩ := id E
  have hown : s.vm.findClass RX0 = some m.cls := hown
  have hl : lv_has ls 2 [(0, .ref h), (1, .int (nI k))] := hl
  refine lv_aload_n hx hb dX0_placeOf_0 rfl (lv_at hl 0 rfl) ?_
  refine b_get (v := .int (nI o)) hx hb hts inX0 hown hK hP 0 0 1 rfl rfl rfl (by decide) q1_107 rfl rfl dX0_placeOf_1 ?_
  refine lv_iload_n hx hb dX0_placeOf_4 rfl (lv_at hl 1 rfl) ?_
  refine lv_iadd hx hb dX0_placeOf_5 ?_
  refine b_top (y := nI (o + k)) (nI_add o k) ?_
  refine lv_iconst (v := 5) hx hb dX0_placeOf_6 (by decide) ?_
  refine lv_irem hx hb dX0_placeOf_7 (by decide) ?_
  refine b_top (y := nI ((o + k) % 5)) (pk_rem (a := o + k) (d := 5) (by omega) (by omega) (by omega)) ?_
  exact rI_ret hx hb hr hlocks dX0_placeOf_8 (rfl)

set_option maxHeartbeats 4000000 in
set_option maxRecDepth 100000 in
theorem c_X0_record (l : Launch) (g : gx) (h q : Nat) (hh : Nat → Nat) (o n : Nat) (ho : o < 5) (hn : n ≤ 5) (aa : Nat → Nat → Nat) (HV : Nat → sV) (v : Nat) (va : Nat → Nat) (V : sV)  : cU (S := Unit) l g yX0_record cX0_record 3 none ({ frames := 3, cells := 0, slots := 0, locals := 102 } : Room) [.ref h, .ref v] [hB g h q hh o n, vB g v va V, vB g (hh 0) (aa 0) (HV 0), vB g (hh 1) (aa 1) (HV 1), vB g (hh 2) (aa 2) (HV 2), vB g (hh 3) (aa 3) (HV 3), vB g (hh 4) (aa 4) (HV 4)] (fun _ => none) (fun _ => True) (fun _ => [hB g h q hh (recO o n) (recS n), vB g v va V, vB g (hh 0) (aa 0) (recH o n HV V 0), vB g (hh 1) (aa 1) (recH o n HV V 1), vB g (hh 2) (aa 2) (recH o n HV V 2), vB g (hh 3) (aa 3) (recH o n HV V 3), vB g (hh 4) (aa 4) (recH o n HV V 4)]) := by
  refine cU.mk (by decide +kernel) (Nat.le_of_ble_eq_true rfl) ?_
  intro p e s m below meth c ls E hK hW hl
  obtain ⟨hx, hb, hr, hml, hts, hown, hlocks, hin⟩ := id E
  have hown : s.vm.findClass RX0 = some m.cls := hown
  have hP := hW.1
  have hl : lv_has ls 3 [(0, .ref h), (1, .ref v)] := hl
  refine lv_aload_n hx hb dX0_record_0 rfl (lv_at hl 0 rfl) ?_
  refine b_get (v := .ref q) hx hb hts inX0 hown hK hP 0 0 0 rfl rfl rfl (by decide) q1_106 rfl rfl dX0_record_1 ?_
  refine lv_aload_n hx hb dX0_record_4 rfl (lv_at hl 0 rfl) ?_
  refine lv_aload_n hx hb dX0_record_5 rfl (lv_at hl 0 rfl) ?_
  refine b_get (v := .int (nI n)) hx hb hts inX0 hown hK hP 0 0 2 rfl rfl rfl (by decide) q1_108 rfl rfl dX0_record_6 ?_
  refine call_VR (As := [.int (nI n)]) (rest := [.ref q]) E rfl hK hP (c_X0_placeOf l g h q hh o n n (by omega) (by omega)) ok_X0_placeOf rfl q2_158 [0] rfl (b_recv hK hP 0 0 rfl rfl rfl rfl) ⟨⟨rfl, rfl⟩, Nat.le_of_ble_eq_true rfl, Nat.le_of_ble_eq_true rfl⟩ hl.1 (Nat.le_of_ble_eq_true rfl) ⟨Nat.le_of_ble_eq_true rfl, Nat.le_of_ble_eq_true rfl⟩ rfl dX0_record_9 ?_
  refine b_aald (v := hh ((o + n) % 5)) hx hb hK hP 0 1 ((o + n) % 5) rfl rfl rfl (by omega) rfl rfl dX0_record_12 ?_
  obtain ⟨j, hj⟩ : ∃ j, j = (o + n) % 5 := ⟨_, rfl⟩
  rw [← hj]
  have hj5 : j < 5 := by omega
  rcases (show j = 0 ∨ j = 1 ∨ j = 2 ∨ j = 3 ∨ j = 4 by omega) with rfl | rfl | rfl | rfl | rfl
  · refine lv_astore_n (lv' := [(2, .ref (hh 0)), (0, .ref h), (1, .ref v)]) hx hb dX0_record_13 rfl hl (by decide) rfl (fun ls hl => ?_)
    refine lv_aload_n hx hb dX0_record_14 rfl (lv_at hl 0 rfl) ?_
    refine lv_ifnull hx hb dX0_record_15 ?_
    refine lv_aload_n hx hb dX0_record_18 rfl (lv_at hl 0 rfl) ?_
    refine lv_aload_n hx hb dX0_record_19 rfl (lv_at hl 2 rfl) ?_
    refine call_VU (As := [.ref v]) (rest := []) E rfl hK hW (c_X3_copyFrom l g (hh 0) (aa 0) (HV 0) v va V) ok_X3_copyFrom rfl q2_162 [2, 1] rfl (by decide) (b_recv hK hP 2 0 rfl rfl rfl rfl) ⟨⟨rfl, rfl⟩, Nat.le_of_ble_eq_true rfl, Nat.le_of_ble_eq_true rfl⟩ hl.1 (Nat.le_of_ble_eq_true rfl) ⟨Nat.le_of_ble_eq_true rfl, Nat.le_of_ble_eq_true rfl⟩ rfl dX0_record_20 (fun _u H locs _ hW => ?_)
    have hW : wd g _ s.heap [hB g h q hh o n, vB g v va V, vB g (hh 0) (aa 0) V, vB g (hh 1) (aa 1) (HV 1), vB g (hh 2) (aa 2) (HV 2), vB g (hh 3) (aa 3) (HV 3), vB g (hh 4) (aa 4) (HV 4)] H locs := hW
    have hP := hW.1
    refine lv_aload_n hx hb dX0_record_23 rfl (lv_at hl 1 rfl) ?_
    refine b_get (v := .int (nI n)) hx hb hts inX0 hown hK hP 0 0 2 rfl rfl rfl (by decide) q1_108 rfl rfl dX0_record_24 ?_
    refine lv_iconst (v := 5) hx hb dX0_record_27 (by decide) ?_
    refine b_ge (tgt := 44) (n) (5) hx hb rfl rfl (by omega) (by omega) dX0_record_28 (by decide) (fun h_1 => ?_) (fun h_1 => ?_)
    · refine lv_aload_n hx hb dX0_record_44 rfl (lv_at hl 1 rfl) ?_
      refine lv_aload_n hx hb dX0_record_45 rfl (lv_at hl 1 rfl) ?_
      refine lv_iconst (v := 1) hx hb dX0_record_46 (by decide) ?_
      refine call_VR (As := [.int 1]) (rest := [.ref h]) E rfl hK hP (c_X0_placeOf l g h q hh o n 1 (by omega) (by omega)) ok_X0_placeOf rfl q2_158 [0] rfl (b_recv hK hP 0 0 rfl rfl rfl rfl) ⟨⟨rfl, rfl⟩, Nat.le_of_ble_eq_true rfl, Nat.le_of_ble_eq_true rfl⟩ hl.1 (Nat.le_of_ble_eq_true rfl) ⟨Nat.le_of_ble_eq_true rfl, Nat.le_of_ble_eq_true rfl⟩ rfl dX0_record_47 ?_
      refine b_put (B' := [hB g h q hh ((o + 1) % 5) n, vB g v va V, vB g (hh 0) (aa 0) V, vB g (hh 1) (aa 1) (HV 1), vB g (hh 2) (aa 2) (HV 2), vB g (hh 3) (aa 3) (HV 3), vB g (hh 4) (aa 4) (HV 4)]) (v := .int (nI ((o + 1) % 5))) hx hb hts inX0 tyX0_ok nmX0 hown hK hW 0 0 1 rfl rfl rfl (by decide) q1_107 rfl rfl rfl rfl (Nat.le_of_ble_eq_true rfl) rfl dX0_record_50 (fun H locs hW => ?_)
      have hP := hW.1
      exact uV_ret () hW hx hb hr hlocks dX0_record_53 trivial (by simp only [recO, recS, recH, ← hj]; simp only [h_1, ite_true, ite_false, reduceIte, Nat.not_lt, Nat.not_le]; first | rfl | (rw [if_pos (by omega), if_pos (by omega)]; rfl) | (rw [if_neg (by omega), if_neg (by omega)]; rfl)) (adr2 (L := [[h, q], [v, va 0, va 1, va 2, va 3, va 4, va 5, va 6, va 7, va 8, va 9, va 10, va 11], [hh 0, (aa 0) 0, (aa 0) 1, (aa 0) 2, (aa 0) 3, (aa 0) 4, (aa 0) 5, (aa 0) 6, (aa 0) 7, (aa 0) 8, (aa 0) 9, (aa 0) 10, (aa 0) 11], [hh 1, (aa 1) 0, (aa 1) 1, (aa 1) 2, (aa 1) 3, (aa 1) 4, (aa 1) 5, (aa 1) 6, (aa 1) 7, (aa 1) 8, (aa 1) 9, (aa 1) 10, (aa 1) 11], [hh 2, (aa 2) 0, (aa 2) 1, (aa 2) 2, (aa 2) 3, (aa 2) 4, (aa 2) 5, (aa 2) 6, (aa 2) 7, (aa 2) 8, (aa 2) 9, (aa 2) 10, (aa 2) 11], [hh 3, (aa 3) 0, (aa 3) 1, (aa 3) 2, (aa 3) 3, (aa 3) 4, (aa 3) 5, (aa 3) 6, (aa 3) 7, (aa 3) 8, (aa 3) 9, (aa 3) 10, (aa 3) 11], [hh 4, (aa 4) 0, (aa 4) 1, (aa 4) 2, (aa 4) 3, (aa 4) 4, (aa 4) 5, (aa 4) 6, (aa 4) 7, (aa 4) 8, (aa 4) 9, (aa 4) 10, (aa 4) 11]]) rfl rfl)
    · refine lv_aload_n hx hb dX0_record_31 rfl (lv_at hl 1 rfl) ?_
      refine lv_dup hx hb dX0_record_32 rfl ?_
      refine b_get (v := .int (nI n)) hx hb hts inX0 hown hK hP 0 0 2 rfl rfl rfl (by decide) q1_108 rfl rfl dX0_record_33 ?_
      refine lv_iconst (v := 1) hx hb dX0_record_36 (by decide) ?_
      refine lv_iadd hx hb dX0_record_37 ?_
      refine b_top (y := nI (n + 1)) (nI_add n 1) ?_
      refine b_put (B' := [hB g h q hh o (n + 1), vB g v va V, vB g (hh 0) (aa 0) V, vB g (hh 1) (aa 1) (HV 1), vB g (hh 2) (aa 2) (HV 2), vB g (hh 3) (aa 3) (HV 3), vB g (hh 4) (aa 4) (HV 4)]) (v := .int (nI (n + 1))) hx hb hts inX0 tyX0_ok nmX0 hown hK hW 0 0 2 rfl rfl rfl (by decide) q1_108 rfl rfl rfl rfl (Nat.le_of_ble_eq_true rfl) rfl dX0_record_38 (fun H locs hW => ?_)
      have hP := hW.1
      refine lv_goto (tgt := 53) hx hb dX0_record_41 (by decide) ?_
      exact uV_ret () hW hx hb hr hlocks dX0_record_53 trivial (by simp only [recO, recS, recH, ← hj]; simp only [h_1, ite_true, ite_false, reduceIte, Nat.not_lt, Nat.not_le]; first | rfl | (rw [if_pos (by omega), if_pos (by omega)]; rfl) | (rw [if_neg (by omega), if_neg (by omega)]; rfl)) (adr2 (L := [[h, q], [v, va 0, va 1, va 2, va 3, va 4, va 5, va 6, va 7, va 8, va 9, va 10, va 11], [hh 0, (aa 0) 0, (aa 0) 1, (aa 0) 2, (aa 0) 3, (aa 0) 4, (aa 0) 5, (aa 0) 6, (aa 0) 7, (aa 0) 8, (aa 0) 9, (aa 0) 10, (aa 0) 11], [hh 1, (aa 1) 0, (aa 1) 1, (aa 1) 2, (aa 1) 3, (aa 1) 4, (aa 1) 5, (aa 1) 6, (aa 1) 7, (aa 1) 8, (aa 1) 9, (aa 1) 10, (aa 1) 11], [hh 2, (aa 2) 0, (aa 2) 1, (aa 2) 2, (aa 2) 3, (aa 2) 4, (aa 2) 5, (aa 2) 6, (aa 2) 7, (aa 2) 8, (aa 2) 9, (aa 2) 10, (aa 2) 11], [hh 3, (aa 3) 0, (aa 3) 1, (aa 3) 2, (aa 3) 3, (aa 3) 4, (aa 3) 5, (aa 3) 6, (aa 3) 7, (aa 3) 8, (aa 3) 9, (aa 3) 10, (aa 3) 11], [hh 4, (aa 4) 0, (aa 4) 1, (aa 4) 2, (aa 4) 3, (aa 4) 4, (aa 4) 5, (aa 4) 6, (aa 4) 7, (aa 4) 8, (aa 4) 9, (aa 4) 10, (aa 4) 11]]) rfl rfl)
  · refine lv_astore_n (lv' := [(2, .ref (hh 1)), (0, .ref h), (1, .ref v)]) hx hb dX0_record_13 rfl hl (by decide) rfl (fun ls hl => ?_)
    refine lv_aload_n hx hb dX0_record_14 rfl (lv_at hl 0 rfl) ?_
    refine lv_ifnull hx hb dX0_record_15 ?_
    refine lv_aload_n hx hb dX0_record_18 rfl (lv_at hl 0 rfl) ?_
    refine lv_aload_n hx hb dX0_record_19 rfl (lv_at hl 2 rfl) ?_
    refine call_VU (As := [.ref v]) (rest := []) E rfl hK hW (c_X3_copyFrom l g (hh 1) (aa 1) (HV 1) v va V) ok_X3_copyFrom rfl q2_162 [3, 1] rfl (by decide) (b_recv hK hP 3 0 rfl rfl rfl rfl) ⟨⟨rfl, rfl⟩, Nat.le_of_ble_eq_true rfl, Nat.le_of_ble_eq_true rfl⟩ hl.1 (Nat.le_of_ble_eq_true rfl) ⟨Nat.le_of_ble_eq_true rfl, Nat.le_of_ble_eq_true rfl⟩ rfl dX0_record_20 (fun _u H locs _ hW => ?_)
    have hW : wd g _ s.heap [hB g h q hh o n, vB g v va V, vB g (hh 0) (aa 0) (HV 0), vB g (hh 1) (aa 1) V, vB g (hh 2) (aa 2) (HV 2), vB g (hh 3) (aa 3) (HV 3), vB g (hh 4) (aa 4) (HV 4)] H locs := hW
    have hP := hW.1
    refine lv_aload_n hx hb dX0_record_23 rfl (lv_at hl 1 rfl) ?_
    refine b_get (v := .int (nI n)) hx hb hts inX0 hown hK hP 0 0 2 rfl rfl rfl (by decide) q1_108 rfl rfl dX0_record_24 ?_
    refine lv_iconst (v := 5) hx hb dX0_record_27 (by decide) ?_
    refine b_ge (tgt := 44) (n) (5) hx hb rfl rfl (by omega) (by omega) dX0_record_28 (by decide) (fun h_2 => ?_) (fun h_2 => ?_)
    · refine lv_aload_n hx hb dX0_record_44 rfl (lv_at hl 1 rfl) ?_
      refine lv_aload_n hx hb dX0_record_45 rfl (lv_at hl 1 rfl) ?_
      refine lv_iconst (v := 1) hx hb dX0_record_46 (by decide) ?_
      refine call_VR (As := [.int 1]) (rest := [.ref h]) E rfl hK hP (c_X0_placeOf l g h q hh o n 1 (by omega) (by omega)) ok_X0_placeOf rfl q2_158 [0] rfl (b_recv hK hP 0 0 rfl rfl rfl rfl) ⟨⟨rfl, rfl⟩, Nat.le_of_ble_eq_true rfl, Nat.le_of_ble_eq_true rfl⟩ hl.1 (Nat.le_of_ble_eq_true rfl) ⟨Nat.le_of_ble_eq_true rfl, Nat.le_of_ble_eq_true rfl⟩ rfl dX0_record_47 ?_
      refine b_put (B' := [hB g h q hh ((o + 1) % 5) n, vB g v va V, vB g (hh 0) (aa 0) (HV 0), vB g (hh 1) (aa 1) V, vB g (hh 2) (aa 2) (HV 2), vB g (hh 3) (aa 3) (HV 3), vB g (hh 4) (aa 4) (HV 4)]) (v := .int (nI ((o + 1) % 5))) hx hb hts inX0 tyX0_ok nmX0 hown hK hW 0 0 1 rfl rfl rfl (by decide) q1_107 rfl rfl rfl rfl (Nat.le_of_ble_eq_true rfl) rfl dX0_record_50 (fun H locs hW => ?_)
      have hP := hW.1
      exact uV_ret () hW hx hb hr hlocks dX0_record_53 trivial (by simp only [recO, recS, recH, ← hj]; simp only [h_2, ite_true, ite_false, reduceIte, Nat.not_lt, Nat.not_le]; first | rfl | (rw [if_pos (by omega), if_pos (by omega)]; rfl) | (rw [if_neg (by omega), if_neg (by omega)]; rfl)) (adr2 (L := [[h, q], [v, va 0, va 1, va 2, va 3, va 4, va 5, va 6, va 7, va 8, va 9, va 10, va 11], [hh 0, (aa 0) 0, (aa 0) 1, (aa 0) 2, (aa 0) 3, (aa 0) 4, (aa 0) 5, (aa 0) 6, (aa 0) 7, (aa 0) 8, (aa 0) 9, (aa 0) 10, (aa 0) 11], [hh 1, (aa 1) 0, (aa 1) 1, (aa 1) 2, (aa 1) 3, (aa 1) 4, (aa 1) 5, (aa 1) 6, (aa 1) 7, (aa 1) 8, (aa 1) 9, (aa 1) 10, (aa 1) 11], [hh 2, (aa 2) 0, (aa 2) 1, (aa 2) 2, (aa 2) 3, (aa 2) 4, (aa 2) 5, (aa 2) 6, (aa 2) 7, (aa 2) 8, (aa 2) 9, (aa 2) 10, (aa 2) 11], [hh 3, (aa 3) 0, (aa 3) 1, (aa 3) 2, (aa 3) 3, (aa 3) 4, (aa 3) 5, (aa 3) 6, (aa 3) 7, (aa 3) 8, (aa 3) 9, (aa 3) 10, (aa 3) 11], [hh 4, (aa 4) 0, (aa 4) 1, (aa 4) 2, (aa 4) 3, (aa 4) 4, (aa 4) 5, (aa 4) 6, (aa 4) 7, (aa 4) 8, (aa 4) 9, (aa 4) 10, (aa 4) 11]]) rfl rfl)
    · refine lv_aload_n hx hb dX0_record_31 rfl (lv_at hl 1 rfl) ?_
      refine lv_dup hx hb dX0_record_32 rfl ?_
      refine b_get (v := .int (nI n)) hx hb hts inX0 hown hK hP 0 0 2 rfl rfl rfl (by decide) q1_108 rfl rfl dX0_record_33 ?_
      refine lv_iconst (v := 1) hx hb dX0_record_36 (by decide) ?_
      refine lv_iadd hx hb dX0_record_37 ?_
      refine b_top (y := nI (n + 1)) (nI_add n 1) ?_
      refine b_put (B' := [hB g h q hh o (n + 1), vB g v va V, vB g (hh 0) (aa 0) (HV 0), vB g (hh 1) (aa 1) V, vB g (hh 2) (aa 2) (HV 2), vB g (hh 3) (aa 3) (HV 3), vB g (hh 4) (aa 4) (HV 4)]) (v := .int (nI (n + 1))) hx hb hts inX0 tyX0_ok nmX0 hown hK hW 0 0 2 rfl rfl rfl (by decide) q1_108 rfl rfl rfl rfl (Nat.le_of_ble_eq_true rfl) rfl dX0_record_38 (fun H locs hW => ?_)
      have hP := hW.1
      refine lv_goto (tgt := 53) hx hb dX0_record_41 (by decide) ?_
      exact uV_ret () hW hx hb hr hlocks dX0_record_53 trivial (by simp only [recO, recS, recH, ← hj]; simp only [h_2, ite_true, ite_false, reduceIte, Nat.not_lt, Nat.not_le]; first | rfl | (rw [if_pos (by omega), if_pos (by omega)]; rfl) | (rw [if_neg (by omega), if_neg (by omega)]; rfl)) (adr2 (L := [[h, q], [v, va 0, va 1, va 2, va 3, va 4, va 5, va 6, va 7, va 8, va 9, va 10, va 11], [hh 0, (aa 0) 0, (aa 0) 1, (aa 0) 2, (aa 0) 3, (aa 0) 4, (aa 0) 5, (aa 0) 6, (aa 0) 7, (aa 0) 8, (aa 0) 9, (aa 0) 10, (aa 0) 11], [hh 1, (aa 1) 0, (aa 1) 1, (aa 1) 2, (aa 1) 3, (aa 1) 4, (aa 1) 5, (aa 1) 6, (aa 1) 7, (aa 1) 8, (aa 1) 9, (aa 1) 10, (aa 1) 11], [hh 2, (aa 2) 0, (aa 2) 1, (aa 2) 2, (aa 2) 3, (aa 2) 4, (aa 2) 5, (aa 2) 6, (aa 2) 7, (aa 2) 8, (aa 2) 9, (aa 2) 10, (aa 2) 11], [hh 3, (aa 3) 0, (aa 3) 1, (aa 3) 2, (aa 3) 3, (aa 3) 4, (aa 3) 5, (aa 3) 6, (aa 3) 7, (aa 3) 8, (aa 3) 9, (aa 3) 10, (aa 3) 11], [hh 4, (aa 4) 0, (aa 4) 1, (aa 4) 2, (aa 4) 3, (aa 4) 4, (aa 4) 5, (aa 4) 6, (aa 4) 7, (aa 4) 8, (aa 4) 9, (aa 4) 10, (aa 4) 11]]) rfl rfl)
  · refine lv_astore_n (lv' := [(2, .ref (hh 2)), (0, .ref h), (1, .ref v)]) hx hb dX0_record_13 rfl hl (by decide) rfl (fun ls hl => ?_)
    refine lv_aload_n hx hb dX0_record_14 rfl (lv_at hl 0 rfl) ?_
    refine lv_ifnull hx hb dX0_record_15 ?_
    refine lv_aload_n hx hb dX0_record_18 rfl (lv_at hl 0 rfl) ?_
    refine lv_aload_n hx hb dX0_record_19 rfl (lv_at hl 2 rfl) ?_
    refine call_VU (As := [.ref v]) (rest := []) E rfl hK hW (c_X3_copyFrom l g (hh 2) (aa 2) (HV 2) v va V) ok_X3_copyFrom rfl q2_162 [4, 1] rfl (by decide) (b_recv hK hP 4 0 rfl rfl rfl rfl) ⟨⟨rfl, rfl⟩, Nat.le_of_ble_eq_true rfl, Nat.le_of_ble_eq_true rfl⟩ hl.1 (Nat.le_of_ble_eq_true rfl) ⟨Nat.le_of_ble_eq_true rfl, Nat.le_of_ble_eq_true rfl⟩ rfl dX0_record_20 (fun _u H locs _ hW => ?_)
    have hW : wd g _ s.heap [hB g h q hh o n, vB g v va V, vB g (hh 0) (aa 0) (HV 0), vB g (hh 1) (aa 1) (HV 1), vB g (hh 2) (aa 2) V, vB g (hh 3) (aa 3) (HV 3), vB g (hh 4) (aa 4) (HV 4)] H locs := hW
    have hP := hW.1
    refine lv_aload_n hx hb dX0_record_23 rfl (lv_at hl 1 rfl) ?_
    refine b_get (v := .int (nI n)) hx hb hts inX0 hown hK hP 0 0 2 rfl rfl rfl (by decide) q1_108 rfl rfl dX0_record_24 ?_
    refine lv_iconst (v := 5) hx hb dX0_record_27 (by decide) ?_
    refine b_ge (tgt := 44) (n) (5) hx hb rfl rfl (by omega) (by omega) dX0_record_28 (by decide) (fun h_3 => ?_) (fun h_3 => ?_)
    · refine lv_aload_n hx hb dX0_record_44 rfl (lv_at hl 1 rfl) ?_
      refine lv_aload_n hx hb dX0_record_45 rfl (lv_at hl 1 rfl) ?_
      refine lv_iconst (v := 1) hx hb dX0_record_46 (by decide) ?_
      refine call_VR (As := [.int 1]) (rest := [.ref h]) E rfl hK hP (c_X0_placeOf l g h q hh o n 1 (by omega) (by omega)) ok_X0_placeOf rfl q2_158 [0] rfl (b_recv hK hP 0 0 rfl rfl rfl rfl) ⟨⟨rfl, rfl⟩, Nat.le_of_ble_eq_true rfl, Nat.le_of_ble_eq_true rfl⟩ hl.1 (Nat.le_of_ble_eq_true rfl) ⟨Nat.le_of_ble_eq_true rfl, Nat.le_of_ble_eq_true rfl⟩ rfl dX0_record_47 ?_
      refine b_put (B' := [hB g h q hh ((o + 1) % 5) n, vB g v va V, vB g (hh 0) (aa 0) (HV 0), vB g (hh 1) (aa 1) (HV 1), vB g (hh 2) (aa 2) V, vB g (hh 3) (aa 3) (HV 3), vB g (hh 4) (aa 4) (HV 4)]) (v := .int (nI ((o + 1) % 5))) hx hb hts inX0 tyX0_ok nmX0 hown hK hW 0 0 1 rfl rfl rfl (by decide) q1_107 rfl rfl rfl rfl (Nat.le_of_ble_eq_true rfl) rfl dX0_record_50 (fun H locs hW => ?_)
      have hP := hW.1
      exact uV_ret () hW hx hb hr hlocks dX0_record_53 trivial (by simp only [recO, recS, recH, ← hj]; simp only [h_3, ite_true, ite_false, reduceIte, Nat.not_lt, Nat.not_le]; first | rfl | (rw [if_pos (by omega), if_pos (by omega)]; rfl) | (rw [if_neg (by omega), if_neg (by omega)]; rfl)) (adr2 (L := [[h, q], [v, va 0, va 1, va 2, va 3, va 4, va 5, va 6, va 7, va 8, va 9, va 10, va 11], [hh 0, (aa 0) 0, (aa 0) 1, (aa 0) 2, (aa 0) 3, (aa 0) 4, (aa 0) 5, (aa 0) 6, (aa 0) 7, (aa 0) 8, (aa 0) 9, (aa 0) 10, (aa 0) 11], [hh 1, (aa 1) 0, (aa 1) 1, (aa 1) 2, (aa 1) 3, (aa 1) 4, (aa 1) 5, (aa 1) 6, (aa 1) 7, (aa 1) 8, (aa 1) 9, (aa 1) 10, (aa 1) 11], [hh 2, (aa 2) 0, (aa 2) 1, (aa 2) 2, (aa 2) 3, (aa 2) 4, (aa 2) 5, (aa 2) 6, (aa 2) 7, (aa 2) 8, (aa 2) 9, (aa 2) 10, (aa 2) 11], [hh 3, (aa 3) 0, (aa 3) 1, (aa 3) 2, (aa 3) 3, (aa 3) 4, (aa 3) 5, (aa 3) 6, (aa 3) 7, (aa 3) 8, (aa 3) 9, (aa 3) 10, (aa 3) 11], [hh 4, (aa 4) 0, (aa 4) 1, (aa 4) 2, (aa 4) 3, (aa 4) 4, (aa 4) 5, (aa 4) 6, (aa 4) 7, (aa 4) 8, (aa 4) 9, (aa 4) 10, (aa 4) 11]]) rfl rfl)
    · refine lv_aload_n hx hb dX0_record_31 rfl (lv_at hl 1 rfl) ?_
      refine lv_dup hx hb dX0_record_32 rfl ?_
      refine b_get (v := .int (nI n)) hx hb hts inX0 hown hK hP 0 0 2 rfl rfl rfl (by decide) q1_108 rfl rfl dX0_record_33 ?_
      refine lv_iconst (v := 1) hx hb dX0_record_36 (by decide) ?_
      refine lv_iadd hx hb dX0_record_37 ?_
      refine b_top (y := nI (n + 1)) (nI_add n 1) ?_
      refine b_put (B' := [hB g h q hh o (n + 1), vB g v va V, vB g (hh 0) (aa 0) (HV 0), vB g (hh 1) (aa 1) (HV 1), vB g (hh 2) (aa 2) V, vB g (hh 3) (aa 3) (HV 3), vB g (hh 4) (aa 4) (HV 4)]) (v := .int (nI (n + 1))) hx hb hts inX0 tyX0_ok nmX0 hown hK hW 0 0 2 rfl rfl rfl (by decide) q1_108 rfl rfl rfl rfl (Nat.le_of_ble_eq_true rfl) rfl dX0_record_38 (fun H locs hW => ?_)
      have hP := hW.1
      refine lv_goto (tgt := 53) hx hb dX0_record_41 (by decide) ?_
      exact uV_ret () hW hx hb hr hlocks dX0_record_53 trivial (by simp only [recO, recS, recH, ← hj]; simp only [h_3, ite_true, ite_false, reduceIte, Nat.not_lt, Nat.not_le]; first | rfl | (rw [if_pos (by omega), if_pos (by omega)]; rfl) | (rw [if_neg (by omega), if_neg (by omega)]; rfl)) (adr2 (L := [[h, q], [v, va 0, va 1, va 2, va 3, va 4, va 5, va 6, va 7, va 8, va 9, va 10, va 11], [hh 0, (aa 0) 0, (aa 0) 1, (aa 0) 2, (aa 0) 3, (aa 0) 4, (aa 0) 5, (aa 0) 6, (aa 0) 7, (aa 0) 8, (aa 0) 9, (aa 0) 10, (aa 0) 11], [hh 1, (aa 1) 0, (aa 1) 1, (aa 1) 2, (aa 1) 3, (aa 1) 4, (aa 1) 5, (aa 1) 6, (aa 1) 7, (aa 1) 8, (aa 1) 9, (aa 1) 10, (aa 1) 11], [hh 2, (aa 2) 0, (aa 2) 1, (aa 2) 2, (aa 2) 3, (aa 2) 4, (aa 2) 5, (aa 2) 6, (aa 2) 7, (aa 2) 8, (aa 2) 9, (aa 2) 10, (aa 2) 11], [hh 3, (aa 3) 0, (aa 3) 1, (aa 3) 2, (aa 3) 3, (aa 3) 4, (aa 3) 5, (aa 3) 6, (aa 3) 7, (aa 3) 8, (aa 3) 9, (aa 3) 10, (aa 3) 11], [hh 4, (aa 4) 0, (aa 4) 1, (aa 4) 2, (aa 4) 3, (aa 4) 4, (aa 4) 5, (aa 4) 6, (aa 4) 7, (aa 4) 8, (aa 4) 9, (aa 4) 10, (aa 4) 11]]) rfl rfl)
  · refine lv_astore_n (lv' := [(2, .ref (hh 3)), (0, .ref h), (1, .ref v)]) hx hb dX0_record_13 rfl hl (by decide) rfl (fun ls hl => ?_)
    refine lv_aload_n hx hb dX0_record_14 rfl (lv_at hl 0 rfl) ?_
    refine lv_ifnull hx hb dX0_record_15 ?_
    refine lv_aload_n hx hb dX0_record_18 rfl (lv_at hl 0 rfl) ?_
    refine lv_aload_n hx hb dX0_record_19 rfl (lv_at hl 2 rfl) ?_
    refine call_VU (As := [.ref v]) (rest := []) E rfl hK hW (c_X3_copyFrom l g (hh 3) (aa 3) (HV 3) v va V) ok_X3_copyFrom rfl q2_162 [5, 1] rfl (by decide) (b_recv hK hP 5 0 rfl rfl rfl rfl) ⟨⟨rfl, rfl⟩, Nat.le_of_ble_eq_true rfl, Nat.le_of_ble_eq_true rfl⟩ hl.1 (Nat.le_of_ble_eq_true rfl) ⟨Nat.le_of_ble_eq_true rfl, Nat.le_of_ble_eq_true rfl⟩ rfl dX0_record_20 (fun _u H locs _ hW => ?_)
    have hW : wd g _ s.heap [hB g h q hh o n, vB g v va V, vB g (hh 0) (aa 0) (HV 0), vB g (hh 1) (aa 1) (HV 1), vB g (hh 2) (aa 2) (HV 2), vB g (hh 3) (aa 3) V, vB g (hh 4) (aa 4) (HV 4)] H locs := hW
    have hP := hW.1
    refine lv_aload_n hx hb dX0_record_23 rfl (lv_at hl 1 rfl) ?_
    refine b_get (v := .int (nI n)) hx hb hts inX0 hown hK hP 0 0 2 rfl rfl rfl (by decide) q1_108 rfl rfl dX0_record_24 ?_
    refine lv_iconst (v := 5) hx hb dX0_record_27 (by decide) ?_
    refine b_ge (tgt := 44) (n) (5) hx hb rfl rfl (by omega) (by omega) dX0_record_28 (by decide) (fun h_4 => ?_) (fun h_4 => ?_)
    · refine lv_aload_n hx hb dX0_record_44 rfl (lv_at hl 1 rfl) ?_
      refine lv_aload_n hx hb dX0_record_45 rfl (lv_at hl 1 rfl) ?_
      refine lv_iconst (v := 1) hx hb dX0_record_46 (by decide) ?_
      refine call_VR (As := [.int 1]) (rest := [.ref h]) E rfl hK hP (c_X0_placeOf l g h q hh o n 1 (by omega) (by omega)) ok_X0_placeOf rfl q2_158 [0] rfl (b_recv hK hP 0 0 rfl rfl rfl rfl) ⟨⟨rfl, rfl⟩, Nat.le_of_ble_eq_true rfl, Nat.le_of_ble_eq_true rfl⟩ hl.1 (Nat.le_of_ble_eq_true rfl) ⟨Nat.le_of_ble_eq_true rfl, Nat.le_of_ble_eq_true rfl⟩ rfl dX0_record_47 ?_
      refine b_put (B' := [hB g h q hh ((o + 1) % 5) n, vB g v va V, vB g (hh 0) (aa 0) (HV 0), vB g (hh 1) (aa 1) (HV 1), vB g (hh 2) (aa 2) (HV 2), vB g (hh 3) (aa 3) V, vB g (hh 4) (aa 4) (HV 4)]) (v := .int (nI ((o + 1) % 5))) hx hb hts inX0 tyX0_ok nmX0 hown hK hW 0 0 1 rfl rfl rfl (by decide) q1_107 rfl rfl rfl rfl (Nat.le_of_ble_eq_true rfl) rfl dX0_record_50 (fun H locs hW => ?_)
      have hP := hW.1
      exact uV_ret () hW hx hb hr hlocks dX0_record_53 trivial (by simp only [recO, recS, recH, ← hj]; simp only [h_4, ite_true, ite_false, reduceIte, Nat.not_lt, Nat.not_le]; first | rfl | (rw [if_pos (by omega), if_pos (by omega)]; rfl) | (rw [if_neg (by omega), if_neg (by omega)]; rfl)) (adr2 (L := [[h, q], [v, va 0, va 1, va 2, va 3, va 4, va 5, va 6, va 7, va 8, va 9, va 10, va 11], [hh 0, (aa 0) 0, (aa 0) 1, (aa 0) 2, (aa 0) 3, (aa 0) 4, (aa 0) 5, (aa 0) 6, (aa 0) 7, (aa 0) 8, (aa 0) 9, (aa 0) 10, (aa 0) 11], [hh 1, (aa 1) 0, (aa 1) 1, (aa 1) 2, (aa 1) 3, (aa 1) 4, (aa 1) 5, (aa 1) 6, (aa 1) 7, (aa 1) 8, (aa 1) 9, (aa 1) 10, (aa 1) 11], [hh 2, (aa 2) 0, (aa 2) 1, (aa 2) 2, (aa 2) 3, (aa 2) 4, (aa 2) 5, (aa 2) 6, (aa 2) 7, (aa 2) 8, (aa 2) 9, (aa 2) 10, (aa 2) 11], [hh 3, (aa 3) 0, (aa 3) 1, (aa 3) 2, (aa 3) 3, (aa 3) 4, (aa 3) 5, (aa 3) 6, (aa 3) 7, (aa 3) 8, (aa 3) 9, (aa 3) 10, (aa 3) 11], [hh 4, (aa 4) 0, (aa 4) 1, (aa 4) 2, (aa 4) 3, (aa 4) 4, (aa 4) 5, (aa 4) 6, (aa 4) 7, (aa 4) 8, (aa 4) 9, (aa 4) 10, (aa 4) 11]]) rfl rfl)
    · refine lv_aload_n hx hb dX0_record_31 rfl (lv_at hl 1 rfl) ?_
      refine lv_dup hx hb dX0_record_32 rfl ?_
      refine b_get (v := .int (nI n)) hx hb hts inX0 hown hK hP 0 0 2 rfl rfl rfl (by decide) q1_108 rfl rfl dX0_record_33 ?_
      refine lv_iconst (v := 1) hx hb dX0_record_36 (by decide) ?_
      refine lv_iadd hx hb dX0_record_37 ?_
      refine b_top (y := nI (n + 1)) (nI_add n 1) ?_
      refine b_put (B' := [hB g h q hh o (n + 1), vB g v va V, vB g (hh 0) (aa 0) (HV 0), vB g (hh 1) (aa 1) (HV 1), vB g (hh 2) (aa 2) (HV 2), vB g (hh 3) (aa 3) V, vB g (hh 4) (aa 4) (HV 4)]) (v := .int (nI (n + 1))) hx hb hts inX0 tyX0_ok nmX0 hown hK hW 0 0 2 rfl rfl rfl (by decide) q1_108 rfl rfl rfl rfl (Nat.le_of_ble_eq_true rfl) rfl dX0_record_38 (fun H locs hW => ?_)
      have hP := hW.1
      refine lv_goto (tgt := 53) hx hb dX0_record_41 (by decide) ?_
      exact uV_ret () hW hx hb hr hlocks dX0_record_53 trivial (by simp only [recO, recS, recH, ← hj]; simp only [h_4, ite_true, ite_false, reduceIte, Nat.not_lt, Nat.not_le]; first | rfl | (rw [if_pos (by omega), if_pos (by omega)]; rfl) | (rw [if_neg (by omega), if_neg (by omega)]; rfl)) (adr2 (L := [[h, q], [v, va 0, va 1, va 2, va 3, va 4, va 5, va 6, va 7, va 8, va 9, va 10, va 11], [hh 0, (aa 0) 0, (aa 0) 1, (aa 0) 2, (aa 0) 3, (aa 0) 4, (aa 0) 5, (aa 0) 6, (aa 0) 7, (aa 0) 8, (aa 0) 9, (aa 0) 10, (aa 0) 11], [hh 1, (aa 1) 0, (aa 1) 1, (aa 1) 2, (aa 1) 3, (aa 1) 4, (aa 1) 5, (aa 1) 6, (aa 1) 7, (aa 1) 8, (aa 1) 9, (aa 1) 10, (aa 1) 11], [hh 2, (aa 2) 0, (aa 2) 1, (aa 2) 2, (aa 2) 3, (aa 2) 4, (aa 2) 5, (aa 2) 6, (aa 2) 7, (aa 2) 8, (aa 2) 9, (aa 2) 10, (aa 2) 11], [hh 3, (aa 3) 0, (aa 3) 1, (aa 3) 2, (aa 3) 3, (aa 3) 4, (aa 3) 5, (aa 3) 6, (aa 3) 7, (aa 3) 8, (aa 3) 9, (aa 3) 10, (aa 3) 11], [hh 4, (aa 4) 0, (aa 4) 1, (aa 4) 2, (aa 4) 3, (aa 4) 4, (aa 4) 5, (aa 4) 6, (aa 4) 7, (aa 4) 8, (aa 4) 9, (aa 4) 10, (aa 4) 11]]) rfl rfl)
  · refine lv_astore_n (lv' := [(2, .ref (hh 4)), (0, .ref h), (1, .ref v)]) hx hb dX0_record_13 rfl hl (by decide) rfl (fun ls hl => ?_)
    refine lv_aload_n hx hb dX0_record_14 rfl (lv_at hl 0 rfl) ?_
    refine lv_ifnull hx hb dX0_record_15 ?_
    refine lv_aload_n hx hb dX0_record_18 rfl (lv_at hl 0 rfl) ?_
    refine lv_aload_n hx hb dX0_record_19 rfl (lv_at hl 2 rfl) ?_
    refine call_VU (As := [.ref v]) (rest := []) E rfl hK hW (c_X3_copyFrom l g (hh 4) (aa 4) (HV 4) v va V) ok_X3_copyFrom rfl q2_162 [6, 1] rfl (by decide) (b_recv hK hP 6 0 rfl rfl rfl rfl) ⟨⟨rfl, rfl⟩, Nat.le_of_ble_eq_true rfl, Nat.le_of_ble_eq_true rfl⟩ hl.1 (Nat.le_of_ble_eq_true rfl) ⟨Nat.le_of_ble_eq_true rfl, Nat.le_of_ble_eq_true rfl⟩ rfl dX0_record_20 (fun _u H locs _ hW => ?_)
    have hW : wd g _ s.heap [hB g h q hh o n, vB g v va V, vB g (hh 0) (aa 0) (HV 0), vB g (hh 1) (aa 1) (HV 1), vB g (hh 2) (aa 2) (HV 2), vB g (hh 3) (aa 3) (HV 3), vB g (hh 4) (aa 4) V] H locs := hW
    have hP := hW.1
    refine lv_aload_n hx hb dX0_record_23 rfl (lv_at hl 1 rfl) ?_
    refine b_get (v := .int (nI n)) hx hb hts inX0 hown hK hP 0 0 2 rfl rfl rfl (by decide) q1_108 rfl rfl dX0_record_24 ?_
    refine lv_iconst (v := 5) hx hb dX0_record_27 (by decide) ?_
    refine b_ge (tgt := 44) (n) (5) hx hb rfl rfl (by omega) (by omega) dX0_record_28 (by decide) (fun h_5 => ?_) (fun h_5 => ?_)
    · refine lv_aload_n hx hb dX0_record_44 rfl (lv_at hl 1 rfl) ?_
      refine lv_aload_n hx hb dX0_record_45 rfl (lv_at hl 1 rfl) ?_
      refine lv_iconst (v := 1) hx hb dX0_record_46 (by decide) ?_
      refine call_VR (As := [.int 1]) (rest := [.ref h]) E rfl hK hP (c_X0_placeOf l g h q hh o n 1 (by omega) (by omega)) ok_X0_placeOf rfl q2_158 [0] rfl (b_recv hK hP 0 0 rfl rfl rfl rfl) ⟨⟨rfl, rfl⟩, Nat.le_of_ble_eq_true rfl, Nat.le_of_ble_eq_true rfl⟩ hl.1 (Nat.le_of_ble_eq_true rfl) ⟨Nat.le_of_ble_eq_true rfl, Nat.le_of_ble_eq_true rfl⟩ rfl dX0_record_47 ?_
      refine b_put (B' := [hB g h q hh ((o + 1) % 5) n, vB g v va V, vB g (hh 0) (aa 0) (HV 0), vB g (hh 1) (aa 1) (HV 1), vB g (hh 2) (aa 2) (HV 2), vB g (hh 3) (aa 3) (HV 3), vB g (hh 4) (aa 4) V]) (v := .int (nI ((o + 1) % 5))) hx hb hts inX0 tyX0_ok nmX0 hown hK hW 0 0 1 rfl rfl rfl (by decide) q1_107 rfl rfl rfl rfl (Nat.le_of_ble_eq_true rfl) rfl dX0_record_50 (fun H locs hW => ?_)
      have hP := hW.1
      exact uV_ret () hW hx hb hr hlocks dX0_record_53 trivial (by simp only [recO, recS, recH, ← hj]; simp only [h_5, ite_true, ite_false, reduceIte, Nat.not_lt, Nat.not_le]; first | rfl | (rw [if_pos (by omega), if_pos (by omega)]; rfl) | (rw [if_neg (by omega), if_neg (by omega)]; rfl)) (adr2 (L := [[h, q], [v, va 0, va 1, va 2, va 3, va 4, va 5, va 6, va 7, va 8, va 9, va 10, va 11], [hh 0, (aa 0) 0, (aa 0) 1, (aa 0) 2, (aa 0) 3, (aa 0) 4, (aa 0) 5, (aa 0) 6, (aa 0) 7, (aa 0) 8, (aa 0) 9, (aa 0) 10, (aa 0) 11], [hh 1, (aa 1) 0, (aa 1) 1, (aa 1) 2, (aa 1) 3, (aa 1) 4, (aa 1) 5, (aa 1) 6, (aa 1) 7, (aa 1) 8, (aa 1) 9, (aa 1) 10, (aa 1) 11], [hh 2, (aa 2) 0, (aa 2) 1, (aa 2) 2, (aa 2) 3, (aa 2) 4, (aa 2) 5, (aa 2) 6, (aa 2) 7, (aa 2) 8, (aa 2) 9, (aa 2) 10, (aa 2) 11], [hh 3, (aa 3) 0, (aa 3) 1, (aa 3) 2, (aa 3) 3, (aa 3) 4, (aa 3) 5, (aa 3) 6, (aa 3) 7, (aa 3) 8, (aa 3) 9, (aa 3) 10, (aa 3) 11], [hh 4, (aa 4) 0, (aa 4) 1, (aa 4) 2, (aa 4) 3, (aa 4) 4, (aa 4) 5, (aa 4) 6, (aa 4) 7, (aa 4) 8, (aa 4) 9, (aa 4) 10, (aa 4) 11]]) rfl rfl)
    · refine lv_aload_n hx hb dX0_record_31 rfl (lv_at hl 1 rfl) ?_
      refine lv_dup hx hb dX0_record_32 rfl ?_
      refine b_get (v := .int (nI n)) hx hb hts inX0 hown hK hP 0 0 2 rfl rfl rfl (by decide) q1_108 rfl rfl dX0_record_33 ?_
      refine lv_iconst (v := 1) hx hb dX0_record_36 (by decide) ?_
      refine lv_iadd hx hb dX0_record_37 ?_
      refine b_top (y := nI (n + 1)) (nI_add n 1) ?_
      refine b_put (B' := [hB g h q hh o (n + 1), vB g v va V, vB g (hh 0) (aa 0) (HV 0), vB g (hh 1) (aa 1) (HV 1), vB g (hh 2) (aa 2) (HV 2), vB g (hh 3) (aa 3) (HV 3), vB g (hh 4) (aa 4) V]) (v := .int (nI (n + 1))) hx hb hts inX0 tyX0_ok nmX0 hown hK hW 0 0 2 rfl rfl rfl (by decide) q1_108 rfl rfl rfl rfl (Nat.le_of_ble_eq_true rfl) rfl dX0_record_38 (fun H locs hW => ?_)
      have hP := hW.1
      refine lv_goto (tgt := 53) hx hb dX0_record_41 (by decide) ?_
      exact uV_ret () hW hx hb hr hlocks dX0_record_53 trivial (by simp only [recO, recS, recH, ← hj]; simp only [h_5, ite_true, ite_false, reduceIte, Nat.not_lt, Nat.not_le]; first | rfl | (rw [if_pos (by omega), if_pos (by omega)]; rfl) | (rw [if_neg (by omega), if_neg (by omega)]; rfl)) (adr2 (L := [[h, q], [v, va 0, va 1, va 2, va 3, va 4, va 5, va 6, va 7, va 8, va 9, va 10, va 11], [hh 0, (aa 0) 0, (aa 0) 1, (aa 0) 2, (aa 0) 3, (aa 0) 4, (aa 0) 5, (aa 0) 6, (aa 0) 7, (aa 0) 8, (aa 0) 9, (aa 0) 10, (aa 0) 11], [hh 1, (aa 1) 0, (aa 1) 1, (aa 1) 2, (aa 1) 3, (aa 1) 4, (aa 1) 5, (aa 1) 6, (aa 1) 7, (aa 1) 8, (aa 1) 9, (aa 1) 10, (aa 1) 11], [hh 2, (aa 2) 0, (aa 2) 1, (aa 2) 2, (aa 2) 3, (aa 2) 4, (aa 2) 5, (aa 2) 6, (aa 2) 7, (aa 2) 8, (aa 2) 9, (aa 2) 10, (aa 2) 11], [hh 3, (aa 3) 0, (aa 3) 1, (aa 3) 2, (aa 3) 3, (aa 3) 4, (aa 3) 5, (aa 3) 6, (aa 3) 7, (aa 3) 8, (aa 3) 9, (aa 3) 10, (aa 3) 11], [hh 4, (aa 4) 0, (aa 4) 1, (aa 4) 2, (aa 4) 3, (aa 4) 4, (aa 4) 5, (aa 4) 6, (aa 4) 7, (aa 4) 8, (aa 4) 9, (aa 4) 10, (aa 4) 11]]) rfl rfl)
