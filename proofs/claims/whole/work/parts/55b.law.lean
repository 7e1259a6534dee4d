section LAW
variable {p : Program} {l : Launch} {e : Env} {s : State} {m : MethodId} {below : List Frame} {meth : Method} {c : Code} {b : Nat} {g : gx} {h : Nat} {q : Nat → Nat} {na ta pa : Nat → Nat} {hq : Nat} {hh : Nat → Nat} {aa : Nat → Nat → Nat} {ra : Nat → Nat} {sa h2 : Nat} {a2 : Nat → Nat} {i B L : Nat} {xs : Nat → Int32}
set_option maxHeartbeats 4000000 in
set_option maxRecDepth 100000 in
theorem cs_town (hE : ent p s m meth c yL_law code 8 (some .boolean) [.ref b]) (hKq : kq g s) (hX : va_X b L xs s s.heap) (hbl : b < s.heap.size) (hL : L ≤ 2048) (hi : i + 4 ≤ L) (hB : B ≤ 700000) (K : LwC p l e s m below meth c b g h q na ta pa hq hh aa ra sa h2 a2 i (B + 1200) 831) : LwC p l e s m below meth c b g h q na ta pa hq hh aa ra sa h2 a2 i B 513 := by
  intro d0 z V TV SV o n HV NN T k X H locs ls hd0 hR hW hl
  obtain ⟨hx, hb, hr, hml, hts, hown, hlocks, hin⟩ := id hE
  have E := ent_dr hE d0
  have hK : kx g (s.setDrawn d0) := (kq_dr hKq d0).1
  have hX : va_X b L xs (s.setDrawn d0) s.heap := hX
  have hbA : ¬ (fun q : Nat => s.heap.size ≤ q) b := Nat.not_le.mpr hbl
  obtain ⟨⟨cq, hV⟩, ho, hn5, hk, hT, hn9, hH, hSn, htx⟩ := id hR
  have hc : ∀ t, t < 6 → V 3 t = nI (cq t) ∧ cq t ≤ 5 := fun t ht => ⟨(hV.1 t ht).1, (hV.1 t ht).2.1⟩
  have hP := hW.1
  obtain ⟨x1, hx1⟩ : ∃ y : Int32, xs (i + 1) = y := ⟨_, rfl⟩
  obtain ⟨x2, hx2⟩ : ∃ y : Int32, xs (i + 2) = y := ⟨_, rfl⟩
  obtain ⟨t, ht, hxt⟩ := ex_t x1
  obtain ⟨j, hj, hxj⟩ := ex_in x2 0 8 (by omega) (by omega)
  by_cases hw : x2.toInt < 0 ∨ 8 < x2.toInt
  · skip
    refine lv_aload_n hx hb dL_law_513 rfl (lv_at hl 1 rfl) ?_
    refine lw_arg hx hb hX hbl hbA hW.2.2 hl 1 (by decide) hx1 (by omega) hL dL_law_514 dL_law_515 dL_law_516 dL_law_517 dL_law_518 ?_
    refine lw_arg hx hb hX hbl hbA hW.2.2 hl 2 (by decide) hx2 (by omega) hL dL_law_519 dL_law_520 dL_law_521 dL_law_522 dL_law_523 ?_
    refine call_VR (As := [.int x1, .int x2]) (rest := []) E rfl hK hP (c_X4_town_o l g h q z na V ta TV pa SV hq hh o n aa HV ra NN sa T k x1 x2 t ho hn5 hk hxt hw) ok_X4_town rfl q2_189 [0, 1, 2, 3, 4, 5, 6, 7, 8, 9, 10, 11] rfl (b_recv hK hP 0 0 rfl rfl rfl rfl) ⟨⟨rfl, rfl⟩, Nat.le_of_ble_eq_true rfl, Nat.le_of_ble_eq_true rfl⟩ hl.1 (Nat.le_of_ble_eq_true rfl) ⟨Nat.le_refl _, Nat.le_refl _⟩ rfl dL_law_524 ?_
    refine b_top (y := if isT x1 then -2 else -1) rfl ?_
    refine lv_aload_n hx hb dL_law_527 rfl (lv_at hl 2 rfl) ?_
    refine lw_arg hx hb hX hbl hbA hW.2.2 hl 1 (by decide) hx1 (by omega) hL dL_law_528 dL_law_529 dL_law_530 dL_law_531 dL_law_532 ?_
    refine lw_arg hx hb hX hbl hbA hW.2.2 hl 2 (by decide) hx2 (by omega) hL dL_law_533 dL_law_534 dL_law_535 dL_law_536 dL_law_537 ?_
    refine call_VR (As := [.int x1, .int x2]) (rest := [.int (if isT x1 then -2 else -1)]) E rfl hK hP (c_X5_town_o l g h2 a2 V X x1 x2 t hxt (fun q9 => hw.elim (fun w9 => q9.1 (Int32.lt_iff_toInt_lt.mpr w9)) (fun w9 => q9.2 (Int32.lt_iff_toInt_lt.mpr w9)))) ok_X5_town rfl q3_226 [12] rfl (b_recv hK hP 12 0 rfl rfl rfl rfl) ⟨⟨rfl, rfl⟩, Nat.le_of_ble_eq_true rfl, Nat.le_of_ble_eq_true rfl⟩ hl.1 (Nat.le_of_ble_eq_true rfl) ⟨Nat.le_refl _, Nat.le_refl _⟩ rfl dL_law_538 ?_
    refine lv_icmp_eq (tgt := 831) hx hb dL_law_541 (by decide) (fun _ => ?_) (fun q9 => absurd rfl q9)
    exact K d0 z V TV SV o n HV NN T k X H locs ls hd0 (hR.mono (by omega)) hW hl
  · have hin : inI x2 0 8 := ⟨fun q9 => hw (Or.inl (Int32.lt_iff_toInt_lt.mp q9)), fun q9 => hw (Or.inr (Int32.lt_iff_toInt_lt.mp q9))⟩
    obtain ⟨e9, hj2, -⟩ := hxj hin
    subst e9
    have hEq : (if isT x1 then V j t else -1) = (if isT x1 then V j t else -1) := rfl
    refine lv_aload_n hx hb dL_law_513 rfl (lv_at hl 1 rfl) ?_
    refine lw_arg hx hb hX hbl hbA hW.2.2 hl 1 (by decide) hx1 (by omega) hL dL_law_514 dL_law_515 dL_law_516 dL_law_517 dL_law_518 ?_
    refine lw_arg hx hb hX hbl hbA hW.2.2 hl 2 (by decide) hx2 (by omega) hL dL_law_519 dL_law_520 dL_law_521 dL_law_522 dL_law_523 ?_
    refine call_VR (As := [.int x1, .int (nI j)]) (rest := []) E rfl hK hP (c_X4_town_i l g h q z na V ta TV pa SV hq hh o n aa HV ra NN sa T k x1 j t ho hn5 hk hxt (by omega)) ok_X4_town rfl q2_189 [0, 1, 2, 3, 4, 5, 6, 7, 8, 9, 10, 11] rfl (b_recv hK hP 0 0 rfl rfl rfl rfl) ⟨⟨rfl, rfl⟩, Nat.le_of_ble_eq_true rfl, Nat.le_of_ble_eq_true rfl⟩ hl.1 (Nat.le_of_ble_eq_true rfl) ⟨Nat.le_refl _, Nat.le_refl _⟩ rfl dL_law_524 ?_
    refine b_top (y := if isT x1 then V j t else -1) rfl ?_
    refine lv_aload_n hx hb dL_law_527 rfl (lv_at hl 2 rfl) ?_
    refine lw_arg hx hb hX hbl hbA hW.2.2 hl 1 (by decide) hx1 (by omega) hL dL_law_528 dL_law_529 dL_law_530 dL_law_531 dL_law_532 ?_
    refine lw_arg hx hb hX hbl hbA hW.2.2 hl 2 (by decide) hx2 (by omega) hL dL_law_533 dL_law_534 dL_law_535 dL_law_536 dL_law_537 ?_
    refine call_VR (As := [.int x1, .int (nI j)]) (rest := [.int (if isT x1 then V j t else -1)]) E rfl hK hP (c_X5_town_i l g h2 a2 V X x1 j t hxt (by omega)) ok_X5_town rfl q3_226 [12] rfl (b_recv hK hP 12 0 rfl rfl rfl rfl) ⟨⟨rfl, rfl⟩, Nat.le_of_ble_eq_true rfl, Nat.le_of_ble_eq_true rfl⟩ hl.1 (Nat.le_of_ble_eq_true rfl) ⟨Nat.le_refl _, Nat.le_refl _⟩ rfl dL_law_538 ?_
    refine lv_icmp_eq (tgt := 831) hx hb dL_law_541 (by decide) (fun _ => ?_) (fun q9 => absurd hEq q9)
    exact K d0 z V TV SV o n HV NN T k X H locs ls hd0 (hR.mono (by omega)) hW hl
set_option maxHeartbeats 4000000 in
set_option maxRecDepth 100000 in
theorem cs_bell (hE : ent p s m meth c yL_law code 8 (some .boolean) [.ref b]) (hKq : kq g s) (hX : va_X b L xs s s.heap) (hbl : b < s.heap.size) (hL : L ≤ 2048) (hi : i + 4 ≤ L) (hB : B ≤ 700000) (K : LwC p l e s m below meth c b g h q na ta pa hq hh aa ra sa h2 a2 i (B + 1200) 831) : LwC p l e s m below meth c b g h q na ta pa hq hh aa ra sa h2 a2 i B 546 := by
  intro d0 z V TV SV o n HV NN T k X H locs ls hd0 hR hW hl
  obtain ⟨hx, hb, hr, hml, hts, hown, hlocks, hin⟩ := id hE
  have E := ent_dr hE d0
  have hK : kx g (s.setDrawn d0) := (kq_dr hKq d0).1
  have hX : va_X b L xs (s.setDrawn d0) s.heap := hX
  have hbA : ¬ (fun q : Nat => s.heap.size ≤ q) b := Nat.not_le.mpr hbl
  obtain ⟨⟨cq, hV⟩, ho, hn5, hk, hT, hn9, hH, hSn, htx⟩ := id hR
  have hc : ∀ t, t < 6 → V 3 t = nI (cq t) ∧ cq t ≤ 5 := fun t ht => ⟨(hV.1 t ht).1, (hV.1 t ht).2.1⟩
  have hP := hW.1
  obtain ⟨x1, hx1⟩ : ∃ y : Int32, xs (i + 1) = y := ⟨_, rfl⟩
  obtain ⟨x2, hx2⟩ : ∃ y : Int32, xs (i + 2) = y := ⟨_, rfl⟩
  obtain ⟨x3, hx3⟩ : ∃ y : Int32, xs (i + 3) = y := ⟨_, rfl⟩
  obtain ⟨t, b0, ht, hb5, hxt, hxy⟩ := ex_tb hV x1 x2
  obtain ⟨j, hj, hxj⟩ := ex_in x3 0 4 (by omega) (by omega)
  by_cases hw : x3.toInt < 0 ∨ 4 < x3.toInt
  · skip
    refine lv_aload_n hx hb dL_law_546 rfl (lv_at hl 1 rfl) ?_
    refine lw_arg hx hb hX hbl hbA hW.2.2 hl 1 (by decide) hx1 (by omega) hL dL_law_547 dL_law_548 dL_law_549 dL_law_550 dL_law_551 ?_
    refine lw_arg hx hb hX hbl hbA hW.2.2 hl 2 (by decide) hx2 (by omega) hL dL_law_552 dL_law_553 dL_law_554 dL_law_555 dL_law_556 ?_
    refine lw_arg hx hb hX hbl hbA hW.2.2 hl 3 (by decide) hx3 (by omega) hL dL_law_557 dL_law_558 dL_law_559 dL_law_560 dL_law_561 ?_
    refine call_VR (As := [.int x1, .int x2, .int x3]) (rest := []) E rfl hK hP (c_X4_bell_o l g h q z na V ta TV pa SV hq hh o n aa HV ra NN sa T k x1 x2 x3 t b0 ho hn5 hk (fun q9 => ⟨(hxy q9).1, ht, (hxy q9).2.2.1, hb5⟩) hw) ok_X4_bell rfl q2_193 [0, 1, 2, 3, 4, 5, 6, 7, 8, 9, 10, 11] rfl (b_recv hK hP 0 0 rfl rfl rfl rfl) ⟨⟨rfl, rfl⟩, Nat.le_of_ble_eq_true rfl, Nat.le_of_ble_eq_true rfl⟩ hl.1 (Nat.le_of_ble_eq_true rfl) ⟨Nat.le_refl _, Nat.le_refl _⟩ rfl dL_law_562 ?_
    refine b_top (y := if hasB V x1 x2 then -2 else -1) rfl ?_
    refine lv_aload_n hx hb dL_law_565 rfl (lv_at hl 2 rfl) ?_
    refine lw_arg hx hb hX hbl hbA hW.2.2 hl 1 (by decide) hx1 (by omega) hL dL_law_566 dL_law_567 dL_law_568 dL_law_569 dL_law_570 ?_
    refine lw_arg hx hb hX hbl hbA hW.2.2 hl 2 (by decide) hx2 (by omega) hL dL_law_571 dL_law_572 dL_law_573 dL_law_574 dL_law_575 ?_
    refine lw_arg hx hb hX hbl hbA hW.2.2 hl 3 (by decide) hx3 (by omega) hL dL_law_576 dL_law_577 dL_law_578 dL_law_579 dL_law_580 ?_
    refine call_VR (As := [.int x1, .int x2, .int x3]) (rest := [.int (if hasB V x1 x2 then -2 else -1)]) E rfl hK hP (c_X5_bell_o l g h2 a2 V X x1 x2 x3 t b0 (cq t) (fun q9 => ⟨(hxy q9).1, ht, (hxy q9).2.2.1, hb5⟩) hxt (fun _ => hc t ht) hw) ok_X5_bell rfl q3_230 [12] rfl (b_recv hK hP 12 0 rfl rfl rfl rfl) ⟨⟨rfl, rfl⟩, Nat.le_of_ble_eq_true rfl, Nat.le_of_ble_eq_true rfl⟩ hl.1 (Nat.le_of_ble_eq_true rfl) ⟨Nat.le_refl _, Nat.le_refl _⟩ rfl dL_law_581 ?_
    refine lv_icmp_eq (tgt := 831) hx hb dL_law_584 (by decide) (fun _ => ?_) (fun q9 => absurd rfl q9)
    exact K d0 z V TV SV o n HV NN T k X H locs ls hd0 (hR.mono (by omega)) hW hl
  · have hin : inI x3 0 4 := ⟨fun q9 => hw (Or.inl (Int32.lt_iff_toInt_lt.mp q9)), fun q9 => hw (Or.inr (Int32.lt_iff_toInt_lt.mp q9))⟩
    obtain ⟨e9, hj2, -⟩ := hxj hin
    subst e9
    have hEq : (if hasB V x1 x2 then blC V NN t b0 j else -1) = (if hasB V x1 x2 then blM V t b0 (cq t) j else -1) := by
      by_cases hB9 : hasB V x1 x2
      · rw [if_pos hB9, if_pos hB9]; exact bl_eq hV NN ht (hxy hB9).2.2.2 j
      · rw [if_neg hB9, if_neg hB9]
    refine lv_aload_n hx hb dL_law_546 rfl (lv_at hl 1 rfl) ?_
    refine lw_arg hx hb hX hbl hbA hW.2.2 hl 1 (by decide) hx1 (by omega) hL dL_law_547 dL_law_548 dL_law_549 dL_law_550 dL_law_551 ?_
    refine lw_arg hx hb hX hbl hbA hW.2.2 hl 2 (by decide) hx2 (by omega) hL dL_law_552 dL_law_553 dL_law_554 dL_law_555 dL_law_556 ?_
    refine lw_arg hx hb hX hbl hbA hW.2.2 hl 3 (by decide) hx3 (by omega) hL dL_law_557 dL_law_558 dL_law_559 dL_law_560 dL_law_561 ?_
    refine call_VU (As := [.int x1, .int x2, .int (nI j)]) (rest := []) E rfl hK hW (c_X4_bell_i l g h q z na V ta TV pa SV hq hh o n aa HV ra NN sa T k x1 x2 j t b0 ho hn5 hk (fun q9 => ⟨(hxy q9).1, ht, (hxy q9).2.2.1, hb5⟩) (by omega)) ok_X4_bell rfl q2_193 [0, 1, 2, 3, 4, 5, 6, 7, 8, 9, 10, 11] rfl (by decide) (b_recv hK hP 0 0 rfl rfl rfl rfl) ⟨⟨rfl, rfl⟩, Nat.le_of_ble_eq_true rfl, Nat.le_of_ble_eq_true rfl⟩ hl.1 (Nat.le_of_ble_eq_true rfl) ⟨Nat.le_refl _, Nat.le_refl _⟩ rfl dL_law_562 (fun u H locs hu hW => ?_)
    have hW : wd g _ s.heap (lwB g h q na ta pa hq hh aa ra sa h2 a2 z V TV SV o n HV u T k V X) H locs := hW
    have hP := hW.1
    refine b_top (y := if hasB V x1 x2 then blC V NN t b0 j else -1) rfl ?_
    refine lv_aload_n hx hb dL_law_565 rfl (lv_at hl 2 rfl) ?_
    refine lw_arg hx hb hX hbl hbA hW.2.2 hl 1 (by decide) hx1 (by omega) hL dL_law_566 dL_law_567 dL_law_568 dL_law_569 dL_law_570 ?_
    refine lw_arg hx hb hX hbl hbA hW.2.2 hl 2 (by decide) hx2 (by omega) hL dL_law_571 dL_law_572 dL_law_573 dL_law_574 dL_law_575 ?_
    refine lw_arg hx hb hX hbl hbA hW.2.2 hl 3 (by decide) hx3 (by omega) hL dL_law_576 dL_law_577 dL_law_578 dL_law_579 dL_law_580 ?_
    refine call_VR (As := [.int x1, .int x2, .int (nI j)]) (rest := [.int (if hasB V x1 x2 then blC V NN t b0 j else -1)]) E rfl hK hP (c_X5_bell_i l g h2 a2 V X x1 x2 j t b0 (cq t) (fun q9 => ⟨(hxy q9).1, ht, (hxy q9).2.2.1, hb5⟩) hxt (fun _ => hc t ht) (by omega)) ok_X5_bell rfl q3_230 [12] rfl (b_recv hK hP 12 0 rfl rfl rfl rfl) ⟨⟨rfl, rfl⟩, Nat.le_of_ble_eq_true rfl, Nat.le_of_ble_eq_true rfl⟩ hl.1 (Nat.le_of_ble_eq_true rfl) ⟨Nat.le_refl _, Nat.le_refl _⟩ rfl dL_law_581 ?_
    refine lv_icmp_eq (tgt := 831) hx hb dL_law_584 (by decide) (fun _ => ?_) (fun q9 => absurd hEq q9)
    exact K d0 z V TV SV o n HV u T k X H locs ls hd0 (hR.mono (by omega)) hW hl
set_option maxHeartbeats 4000000 in
set_option maxRecDepth 100000 in
theorem cs_count (hE : ent p s m meth c yL_law code 8 (some .boolean) [.ref b]) (hKq : kq g s) (hX : va_X b L xs s s.heap) (hbl : b < s.heap.size) (hL : L ≤ 2048) (hi : i + 4 ≤ L) (hB : B ≤ 700000) (K : LwC p l e s m below meth c b g h q na ta pa hq hh aa ra sa h2 a2 i (B + 1200) 831) : LwC p l e s m below meth c b g h q na ta pa hq hh aa ra sa h2 a2 i B 589 := by
  intro d0 z V TV SV o n HV NN T k X H locs ls hd0 hR hW hl
  obtain ⟨hx, hb, hr, hml, hts, hown, hlocks, hin⟩ := id hE
  have E := ent_dr hE d0
  have hK : kx g (s.setDrawn d0) := (kq_dr hKq d0).1
  have hX : va_X b L xs (s.setDrawn d0) s.heap := hX
  have hbA : ¬ (fun q : Nat => s.heap.size ≤ q) b := Nat.not_le.mpr hbl
  obtain ⟨⟨cq, hV⟩, ho, hn5, hk, hT, hn9, hH, hSn, htx⟩ := id hR
  have hc : ∀ t, t < 6 → V 3 t = nI (cq t) ∧ cq t ≤ 5 := fun t ht => ⟨(hV.1 t ht).1, (hV.1 t ht).2.1⟩
  have hP := hW.1
  obtain ⟨x1, hx1⟩ : ∃ y : Int32, xs (i + 1) = y := ⟨_, rfl⟩
  obtain ⟨j, hj, hxj⟩ := ex_in x1 0 10 (by omega) (by omega)
  by_cases hw : x1.toInt < 0 ∨ 10 < x1.toInt
  · skip
    refine lv_aload_n hx hb dL_law_589 rfl (lv_at hl 1 rfl) ?_
    refine lw_arg hx hb hX hbl hbA hW.2.2 hl 1 (by decide) hx1 (by omega) hL dL_law_590 dL_law_591 dL_law_592 dL_law_593 dL_law_594 ?_
    refine call_VR (As := [.int x1]) (rest := []) E rfl hK hP (c_X4_count_o l g h q z na V ta TV pa SV hq hh o n aa HV ra NN sa T k x1 ho hn5 hk hw) ok_X4_count rfl q2_198 [0, 1, 2, 3, 4, 5, 6, 7, 8, 9, 10, 11] rfl (b_recv hK hP 0 0 rfl rfl rfl rfl) ⟨⟨rfl, rfl⟩, Nat.le_of_ble_eq_true rfl, Nat.le_of_ble_eq_true rfl⟩ hl.1 (Nat.le_of_ble_eq_true rfl) ⟨Nat.le_refl _, Nat.le_refl _⟩ rfl dL_law_595 ?_
    refine b_top (y := -2) rfl ?_
    refine lv_aload_n hx hb dL_law_598 rfl (lv_at hl 2 rfl) ?_
    refine lw_arg hx hb hX hbl hbA hW.2.2 hl 1 (by decide) hx1 (by omega) hL dL_law_599 dL_law_600 dL_law_601 dL_law_602 dL_law_603 ?_
    refine call_VR (As := [.int x1]) (rest := [.int (-2)]) E rfl hK hP (c_X5_count_o l g h2 a2 V X x1 hw) ok_X5_count rfl q3_238 [12] rfl (b_recv hK hP 12 0 rfl rfl rfl rfl) ⟨⟨rfl, rfl⟩, Nat.le_of_ble_eq_true rfl, Nat.le_of_ble_eq_true rfl⟩ hl.1 (Nat.le_of_ble_eq_true rfl) ⟨Nat.le_refl _, Nat.le_refl _⟩ rfl dL_law_604 ?_
    refine lv_icmp_eq (tgt := 831) hx hb dL_law_607 (by decide) (fun _ => ?_) (fun q9 => absurd rfl q9)
    exact K d0 z V TV SV o n HV NN T k X H locs ls hd0 (hR.mono (by omega)) hW hl
  · have hin : inI x1 0 10 := ⟨fun q9 => hw (Or.inl (Int32.lt_iff_toInt_lt.mp q9)), fun q9 => hw (Or.inr (Int32.lt_iff_toInt_lt.mp q9))⟩
    obtain ⟨e9, hj2, -⟩ := hxj hin
    subst e9
    have hEq : coC V n k j = coM V n k j := co_eq hV n k j
    refine lv_aload_n hx hb dL_law_589 rfl (lv_at hl 1 rfl) ?_
    refine lw_arg hx hb hX hbl hbA hW.2.2 hl 1 (by decide) hx1 (by omega) hL dL_law_590 dL_law_591 dL_law_592 dL_law_593 dL_law_594 ?_
    refine call_VR (As := [.int (nI j)]) (rest := []) E rfl hK hP (c_X4_count_i l g h q z na V ta TV pa SV hq hh o n aa HV ra NN sa T k j ho hn5 hk (by omega)) ok_X4_count rfl q2_198 [0, 1, 2, 3, 4, 5, 6, 7, 8, 9, 10, 11] rfl (b_recv hK hP 0 0 rfl rfl rfl rfl) ⟨⟨rfl, rfl⟩, Nat.le_of_ble_eq_true rfl, Nat.le_of_ble_eq_true rfl⟩ hl.1 (Nat.le_of_ble_eq_true rfl) ⟨Nat.le_refl _, Nat.le_refl _⟩ rfl dL_law_595 ?_
    refine b_top (y := coC V n k j) rfl ?_
    refine lv_aload_n hx hb dL_law_598 rfl (lv_at hl 2 rfl) ?_
    refine lw_arg hx hb hX hbl hbA hW.2.2 hl 1 (by decide) hx1 (by omega) hL dL_law_599 dL_law_600 dL_law_601 dL_law_602 dL_law_603 ?_
    refine call_VR (As := [.int (nI j)]) (rest := [.int (coC V n k j)]) E rfl hK hP (c_X5_count_i l g h2 a2 V X cq hc n k j hn9 htx.1 (by omega)) ok_X5_count rfl q3_238 [12] rfl (b_recv hK hP 12 0 rfl rfl rfl rfl) ⟨⟨rfl, rfl⟩, Nat.le_of_ble_eq_true rfl, Nat.le_of_ble_eq_true rfl⟩ hl.1 (Nat.le_of_ble_eq_true rfl) ⟨Nat.le_refl _, Nat.le_refl _⟩ rfl dL_law_604 ?_
    refine lv_icmp_eq (tgt := 831) hx hb dL_law_607 (by decide) (fun _ => ?_) (fun q9 => absurd hEq q9)
    exact K d0 z V TV SV o n HV NN T k X H locs ls hd0 (hR.mono (by omega)) hW hl
end LAW
