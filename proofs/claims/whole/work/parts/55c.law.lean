section LAW
variable {p : Program} {l : Launch} {e : Env} {s : State} {m : MethodId} {below : List Frame} {meth : Method} {c : Code} {b : Nat} {g : gx} {h : Nat} {q : Nat → Nat} {na ta pa : Nat → Nat} {hq : Nat} {hh : Nat → Nat} {aa : Nat → Nat → Nat} {ra : Nat → Nat} {sa h2 : Nat} {a2 : Nat → Nat} {i B L : Nat} {xs : Nat → Int32}
set_option maxHeartbeats 4000000 in
set_option maxRecDepth 100000 in
theorem cs_loudness (hE : ent p s m meth c yL_law code 8 (some .boolean) [.ref b]) (hKq : kq g s) (hX : va_X b L xs s s.heap) (hbl : b < s.heap.size) (hL : L ≤ 2048) (hi : i + 4 ≤ L) (hB : B ≤ 700000) (K : LwC p l e s m below meth c b g h q na ta pa hq hh aa ra sa h2 a2 i (B + 1200) 831) : LwC p l e s m below meth c b g h q na ta pa hq hh aa ra sa h2 a2 i B 612 := by
  intro d0 z V TV SV o n HV NN T k X H locs ls hd0 hR hW hl
  obtain ⟨hx, hb, hr, hml, hts, hown, hlocks, hin⟩ := id hE
  have E := ent_dr hE d0
  have hK : kx g (s.setDrawn d0) := (kq_dr hKq d0).1
  have hX : va_X b L xs (s.setDrawn d0) s.heap := hX
  have hbA : ¬ (fun q : Nat => s.heap.size ≤ q) b := Nat.not_le.mpr hbl
  obtain ⟨⟨cq, hV⟩, ho, hn5, hk, hT, hn9, hH, hSn, htx⟩ := id hR
  have hc : ∀ t, t < 6 → V 3 t = nI (cq t) ∧ cq t ≤ 5 := fun t ht => ⟨(hV.1 t ht).1, (hV.1 t ht).2.1⟩
  have hP := hW.1
  obtain ⟨x1, hx1⟩ : ∃ y : Int32, xs (i + 1) = y := ⟨_, rfl⟩
  obtain ⟨t, ht, hxt⟩ := ex_t x1
  have hEq : (if isT x1 then forN V NN 1 t else -1) = (if isT x1 then lsM V t (rgM V t (V 4 t) (cq t)).1 (cq t) else -1) := by
    by_cases hT9 : isT x1
    · rw [if_pos hT9, if_pos hT9]; exact lo_eq hV.1 NN ht
    · rw [if_neg hT9, if_neg hT9]
  refine lv_aload_n hx hb dL_law_612 rfl (lv_at hl 1 rfl) ?_
  refine lw_arg hx hb hX hbl hbA hW.2.2 hl 1 (by decide) hx1 (by omega) hL dL_law_613 dL_law_614 dL_law_615 dL_law_616 dL_law_617 ?_
  refine call_VU (As := [.int x1]) (rest := []) E rfl hK hW (c_X4_loudness l g h q z na V ta TV pa SV hq hh o n aa HV ra NN sa T k x1 t ho hn5 hk hxt) ok_X4_loudness rfl q2_218 [0, 1, 2, 3, 4, 5, 6, 7, 8, 9, 10, 11] rfl (by decide) (b_recv hK hP 0 0 rfl rfl rfl rfl) ⟨⟨rfl, rfl⟩, Nat.le_of_ble_eq_true rfl, Nat.le_of_ble_eq_true rfl⟩ hl.1 (Nat.le_of_ble_eq_true rfl) ⟨Nat.le_refl _, Nat.le_refl _⟩ rfl dL_law_618 (fun u H locs hu hW => ?_)
  have hW : wd g _ s.heap (lwB g h q na ta pa hq hh aa ra sa h2 a2 z V TV SV o n HV u T k V X) H locs := hW
  have hP := hW.1
  refine b_top (y := if isT x1 then forN V NN 1 t else -1) rfl ?_
  refine lv_aload_n hx hb dL_law_621 rfl (lv_at hl 2 rfl) ?_
  refine lw_arg hx hb hX hbl hbA hW.2.2 hl 1 (by decide) hx1 (by omega) hL dL_law_622 dL_law_623 dL_law_624 dL_law_625 dL_law_626 ?_
  refine call_VR (As := [.int x1]) (rest := [.int (if isT x1 then forN V NN 1 t else -1)]) E rfl hK hP (c_X5_loudness l g h2 a2 V X x1 t (cq t) hxt (fun _ => hc t ht)) ok_X5_loudness rfl q4_14 [12] rfl (b_recv hK hP 12 0 rfl rfl rfl rfl) ⟨⟨rfl, rfl⟩, Nat.le_of_ble_eq_true rfl, Nat.le_of_ble_eq_true rfl⟩ hl.1 (Nat.le_of_ble_eq_true rfl) ⟨Nat.le_refl _, Nat.le_refl _⟩ rfl dL_law_627 ?_
  refine lv_icmp_eq (tgt := 831) hx hb dL_law_630 (by decide) (fun _ => ?_) (fun q9 => absurd hEq q9)
  exact K d0 z V TV SV o n HV u T k X H locs ls hd0 (hR.mono (by omega)) hW hl
set_option maxHeartbeats 4000000 in
set_option maxRecDepth 100000 in
theorem cs_heard (hE : ent p s m meth c yL_law code 8 (some .boolean) [.ref b]) (hKq : kq g s) (hX : va_X b L xs s s.heap) (hbl : b < s.heap.size) (hL : L ≤ 2048) (hi : i + 4 ≤ L) (hB : B ≤ 700000) (K : LwC p l e s m below meth c b g h q na ta pa hq hh aa ra sa h2 a2 i (B + 1200) 831) : LwC p l e s m below meth c b g h q na ta pa hq hh aa ra sa h2 a2 i B 635 := by
  intro d0 z V TV SV o n HV NN T k X H locs ls hd0 hR hW hl
  obtain ⟨hx, hb, hr, hml, hts, hown, hlocks, hin⟩ := id hE
  have E := ent_dr hE d0
  have hK : kx g (s.setDrawn d0) := (kq_dr hKq d0).1
  have hX : va_X b L xs (s.setDrawn d0) s.heap := hX
  have hbA : ¬ (fun q : Nat => s.heap.size ≤ q) b := Nat.not_le.mpr hbl
  obtain ⟨⟨cq, hV⟩, ho, hn5, hk, hT, hn9, hH, hSn, htx⟩ := id hR
  have hc : ∀ t, t < 6 → V 3 t = nI (cq t) ∧ cq t ≤ 5 := fun t ht => ⟨(hV.1 t ht).1, (hV.1 t ht).2.1⟩
  have hP := hW.1
  obtain ⟨x1, hx1⟩ : ∃ y : Int32, xs (i + 1) = y := ⟨_, rfl⟩
  obtain ⟨x2, hx2⟩ : ∃ y : Int32, xs (i + 2) = y := ⟨_, rfl⟩
  obtain ⟨t, ht, hxt⟩ := ex_t x1
  obtain ⟨t2, ht2, hxt2⟩ := ex_t x2
  have hEq : (if isT x1 ∧ isT x2 then sndF V (forN V NN 1) t t2 else -1) = (if isT x1 ∧ isT x2 then hrM V (liX V cq X 6 4) t t2 else -1) := by
    by_cases hT9 : isT x1 ∧ isT x2
    · rw [if_pos hT9, if_pos hT9]; exact he_eq hV.1 NN X ht
    · rw [if_neg hT9, if_neg hT9]
  refine lv_aload_n hx hb dL_law_635 rfl (lv_at hl 1 rfl) ?_
  refine lw_arg hx hb hX hbl hbA hW.2.2 hl 1 (by decide) hx1 (by omega) hL dL_law_636 dL_law_637 dL_law_638 dL_law_639 dL_law_640 ?_
  refine lw_arg hx hb hX hbl hbA hW.2.2 hl 2 (by decide) hx2 (by omega) hL dL_law_641 dL_law_642 dL_law_643 dL_law_644 dL_law_645 ?_
  refine call_VU (As := [.int x1, .int x2]) (rest := []) E rfl hK hW (c_X4_heard l g h q z na V ta TV pa SV hq hh o n aa HV ra NN sa T k x1 x2 t t2 ho hn5 hk hxt hxt2) ok_X4_heard rfl q2_222 [0, 1, 2, 3, 4, 5, 6, 7, 8, 9, 10, 11] rfl (by decide) (b_recv hK hP 0 0 rfl rfl rfl rfl) ⟨⟨rfl, rfl⟩, Nat.le_of_ble_eq_true rfl, Nat.le_of_ble_eq_true rfl⟩ hl.1 (Nat.le_of_ble_eq_true rfl) ⟨Nat.le_refl _, Nat.le_refl _⟩ rfl dL_law_646 (fun u H locs hu hW => ?_)
  have hW : wd g _ s.heap (lwB g h q na ta pa hq hh aa ra sa h2 a2 z V TV SV o n HV u T k V X) H locs := hW
  have hP := hW.1
  refine b_top (y := if isT x1 ∧ isT x2 then sndF V (forN V NN 1) t t2 else -1) rfl ?_
  refine lv_aload_n hx hb dL_law_649 rfl (lv_at hl 2 rfl) ?_
  refine lw_arg hx hb hX hbl hbA hW.2.2 hl 1 (by decide) hx1 (by omega) hL dL_law_650 dL_law_651 dL_law_652 dL_law_653 dL_law_654 ?_
  refine lw_arg hx hb hX hbl hbA hW.2.2 hl 2 (by decide) hx2 (by omega) hL dL_law_655 dL_law_656 dL_law_657 dL_law_658 dL_law_659 ?_
  refine call_VU (As := [.int x1, .int x2]) (rest := [.int (if isT x1 ∧ isT x2 then sndF V (forN V NN 1) t t2 else -1)]) E rfl hK hW (c_X5_heard l g h2 a2 V X x1 x2 t t2 cq hc hxt hxt2) ok_X5_heard rfl q4_18 [12] rfl (by decide) (b_recv hK hP 12 0 rfl rfl rfl rfl) ⟨⟨rfl, rfl⟩, Nat.le_of_ble_eq_true rfl, Nat.le_of_ble_eq_true rfl⟩ hl.1 (Nat.le_of_ble_eq_true rfl) ⟨Nat.le_refl _, Nat.le_refl _⟩ rfl dL_law_660 (fun u2 H locs hu2 hW => ?_)
  have hW : wd g _ s.heap (lwB g h q na ta pa hq hh aa ra sa h2 a2 z V TV SV o n HV u T k V u2) H locs := hW
  have hP := hW.1
  refine lv_icmp_eq (tgt := 831) hx hb dL_law_663 (by decide) (fun _ => ?_) (fun q9 => absurd hEq q9)
  exact K d0 z V TV SV o n HV u T k u2 H locs ls hd0 ((hR.not4 (fun k9 _ q4 => hu2 k9 q4)).mono (by omega)) hW hl
set_option maxHeartbeats 4000000 in
set_option maxRecDepth 100000 in
theorem cs_winner (hE : ent p s m meth c yL_law code 8 (some .boolean) [.ref b]) (hKq : kq g s) (hX : va_X b L xs s s.heap) (hbl : b < s.heap.size) (hL : L ≤ 2048) (hi : i + 4 ≤ L) (hB : B ≤ 700000) (K : LwC p l e s m below meth c b g h q na ta pa hq hh aa ra sa h2 a2 i (B + 1200) 831) : LwC p l e s m below meth c b g h q na ta pa hq hh aa ra sa h2 a2 i B 668 := by
  intro d0 z V TV SV o n HV NN T k X H locs ls hd0 hR hW hl
  obtain ⟨hx, hb, hr, hml, hts, hown, hlocks, hin⟩ := id hE
  have E := ent_dr hE d0
  have hK : kx g (s.setDrawn d0) := (kq_dr hKq d0).1
  have hX : va_X b L xs (s.setDrawn d0) s.heap := hX
  have hbA : ¬ (fun q : Nat => s.heap.size ≤ q) b := Nat.not_le.mpr hbl
  obtain ⟨⟨cq, hV⟩, ho, hn5, hk, hT, hn9, hH, hSn, htx⟩ := id hR
  have hc : ∀ t, t < 6 → V 3 t = nI (cq t) ∧ cq t ≤ 5 := fun t ht => ⟨(hV.1 t ht).1, (hV.1 t ht).2.1⟩
  have hP := hW.1
  obtain ⟨x1, hx1⟩ : ∃ y : Int32, xs (i + 1) = y := ⟨_, rfl⟩
  obtain ⟨t, ht, hxt⟩ := ex_t x1
  have hEq : (if isT x1 then forN V NN 3 t else -1) = (if isT x1 then (bsM V (liX V cq X 6 4) t 6).2 else -1) := by
    by_cases hT9 : isT x1
    · rw [if_pos hT9, if_pos hT9]; exact wi_eq hV.1 NN X ht
    · rw [if_neg hT9, if_neg hT9]
  refine lv_aload_n hx hb dL_law_668 rfl (lv_at hl 1 rfl) ?_
  refine lw_arg hx hb hX hbl hbA hW.2.2 hl 1 (by decide) hx1 (by omega) hL dL_law_669 dL_law_670 dL_law_671 dL_law_672 dL_law_673 ?_
  refine call_VU (As := [.int x1]) (rest := []) E rfl hK hW (c_X4_winner l g h q z na V ta TV pa SV hq hh o n aa HV ra NN sa T k x1 t ho hn5 hk hxt) ok_X4_winner rfl q2_227 [0, 1, 2, 3, 4, 5, 6, 7, 8, 9, 10, 11] rfl (by decide) (b_recv hK hP 0 0 rfl rfl rfl rfl) ⟨⟨rfl, rfl⟩, Nat.le_of_ble_eq_true rfl, Nat.le_of_ble_eq_true rfl⟩ hl.1 (Nat.le_of_ble_eq_true rfl) ⟨Nat.le_refl _, Nat.le_refl _⟩ rfl dL_law_674 (fun u H locs hu hW => ?_)
  have hW : wd g _ s.heap (lwB g h q na ta pa hq hh aa ra sa h2 a2 z V TV SV o n HV u T k V X) H locs := hW
  have hP := hW.1
  refine b_top (y := if isT x1 then forN V NN 3 t else -1) rfl ?_
  refine lv_aload_n hx hb dL_law_677 rfl (lv_at hl 2 rfl) ?_
  refine lw_arg hx hb hX hbl hbA hW.2.2 hl 1 (by decide) hx1 (by omega) hL dL_law_678 dL_law_679 dL_law_680 dL_law_681 dL_law_682 ?_
  refine call_VU (As := [.int x1]) (rest := [.int (if isT x1 then forN V NN 3 t else -1)]) E rfl hK hW (c_X5_winner l g h2 a2 V X x1 t cq hc hxt) ok_X5_winner rfl q4_22 [12] rfl (by decide) (b_recv hK hP 12 0 rfl rfl rfl rfl) ⟨⟨rfl, rfl⟩, Nat.le_of_ble_eq_true rfl, Nat.le_of_ble_eq_true rfl⟩ hl.1 (Nat.le_of_ble_eq_true rfl) ⟨Nat.le_refl _, Nat.le_refl _⟩ rfl dL_law_683 (fun u2 H locs hu2 hW => ?_)
  have hW : wd g _ s.heap (lwB g h q na ta pa hq hh aa ra sa h2 a2 z V TV SV o n HV u T k V u2) H locs := hW
  have hP := hW.1
  refine lv_icmp_eq (tgt := 831) hx hb dL_law_686 (by decide) (fun _ => ?_) (fun q9 => absurd hEq q9)
  exact K d0 z V TV SV o n HV u T k u2 H locs ls hd0 ((hR.not4 (fun k9 _ q4 => hu2 k9 q4)).mono (by omega)) hW hl
end LAW
