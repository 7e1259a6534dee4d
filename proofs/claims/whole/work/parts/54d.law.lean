section LAW
variable {p : Program} {l : Launch} {e : Env} {s : State} {m : MethodId} {below : List Frame} {meth : Method} {c : Code} {b : Nat} {g : gx} {h : Nat} {q : Nat → Nat} {na ta pa : Nat → Nat} {hq : Nat} {hh : Nat → Nat} {aa : Nat → Nat → Nat} {ra : Nat → Nat} {sa h2 : Nat} {a2 : Nat → Nat} {i B L : Nat} {xs : Nat → Int32}
set_option maxHeartbeats 4000000 in
set_option maxRecDepth 100000 in
theorem cs_clearText (hE : ent p s m meth c yL_law code 8 (some .boolean) [.ref b]) (hKq : kq g s) (hX : va_X b L xs s s.heap) (hbl : b < s.heap.size) (hL : L ≤ 2048) (hi : i + 4 ≤ L) (hB : B ≤ 700000) (K : LwC p l e s m below meth c b g h q na ta pa hq hh aa ra sa h2 a2 i (B + 1200) 831) : LwC p l e s m below meth c b g h q na ta pa hq hh aa ra sa h2 a2 i B 435 := by
  intro d0 z V TV SV o n HV NN T k X H locs ls hd0 hR hW hl
  obtain ⟨hx, hb, hr, hml, hts, hown, hlocks, hin⟩ := id hE
  have E := ent_dr hE d0
  have hK : kx g (s.setDrawn d0) := (kq_dr hKq d0).1
  have hX : va_X b L xs (s.setDrawn d0) s.heap := hX
  have hbA : ¬ (fun q : Nat => s.heap.size ≤ q) b := Nat.not_le.mpr hbl
  obtain ⟨⟨cq, hV⟩, ho, hn5, hk, hT, hn9, hH, hSn, htx⟩ := id hR
  have hc : ∀ t, t < 6 → V 3 t = nI (cq t) ∧ cq t ≤ 5 := fun t ht => ⟨(hV.1 t ht).1, (hV.1 t ht).2.1⟩
  have hP := hW.1
  refine lv_aload_n hx hb dL_law_435 rfl (lv_at hl 1 rfl) ?_
  refine call_VU (As := []) (rest := []) E rfl hK hW (c_X4_clearText l g h q z na V ta TV pa SV hq hh o n aa HV ra NN sa T k ho hn5 hk) ok_X4_clearText rfl q2_122 [0, 1, 2, 3, 4, 5, 6, 7, 8, 9, 10, 11] rfl (by decide) (b_recv hK hP 0 0 rfl rfl rfl rfl) ⟨⟨rfl, rfl⟩, Nat.le_of_ble_eq_true rfl, Nat.le_of_ble_eq_true rfl⟩ hl.1 (Nat.le_of_ble_eq_true rfl) ⟨Nat.le_refl _, Nat.le_refl _⟩ rfl dL_law_436 (fun u H locs hu hW => ?_)
  have hW : wd g _ s.heap (lwB g h q na ta pa hq hh aa ra sa h2 a2 z V TV SV o n HV NN T 0 V X) H locs := hW
  have hP := hW.1
  refine b_top (y := nI k) rfl ?_
  refine lv_aload_n hx hb dL_law_439 rfl (lv_at hl 2 rfl) ?_
  refine call_VU (As := []) (rest := [.int (nI k)]) E rfl hK hW (c_X5_clearText l g h2 a2 V X 0) ok_X5_clearText rfl q3_198 [12] rfl (by decide) (b_recv hK hP 12 0 rfl rfl rfl rfl) ⟨⟨rfl, rfl⟩, Nat.le_of_ble_eq_true rfl, Nat.le_of_ble_eq_true rfl⟩ hl.1 (Nat.le_of_ble_eq_true rfl) ⟨Nat.le_refl _, Nat.le_refl _⟩ rfl dL_law_440 (fun u2 H locs hu2 hW => ?_)
  have hW : wd g _ s.heap (lwB g h q na ta pa hq hh aa ra sa h2 a2 z V TV SV o n HV NN T 0 V (up2 X 9 2 0)) H locs := hW
  have hP := hW.1
  refine lv_icmp_eq (tgt := 831) hx hb dL_law_443 (by decide) (fun _ => ?_) (fun q9 => absurd htx.1.symm q9)
  exact K d0 z V TV SV o n HV NN T 0 (up2 X 9 2 0) H locs ls hd0 (hR.clr.mono (by omega)) hW hl
set_option maxHeartbeats 4000000 in
set_option maxRecDepth 100000 in
theorem cs_fault (hE : ent p s m meth c yL_law code 8 (some .boolean) [.ref b]) (hKq : kq g s) (hX : va_X b L xs s s.heap) (hbl : b < s.heap.size) (hL : L ≤ 2048) (hi : i + 4 ≤ L) (hB : B ≤ 700000) (K : LwC p l e s m below meth c b g h q na ta pa hq hh aa ra sa h2 a2 i (B + 1200) 831) : LwC p l e s m below meth c b g h q na ta pa hq hh aa ra sa h2 a2 i B 448 := by
  intro d0 z V TV SV o n HV NN T k X H locs ls hd0 hR hW hl
  obtain ⟨hx, hb, hr, hml, hts, hown, hlocks, hin⟩ := id hE
  have E := ent_dr hE d0
  have hK : kx g (s.setDrawn d0) := (kq_dr hKq d0).1
  have hX : va_X b L xs (s.setDrawn d0) s.heap := hX
  have hbA : ¬ (fun q : Nat => s.heap.size ≤ q) b := Nat.not_le.mpr hbl
  obtain ⟨⟨cq, hV⟩, ho, hn5, hk, hT, hn9, hH, hSn, htx⟩ := id hR
  have hc : ∀ t, t < 6 → V 3 t = nI (cq t) ∧ cq t ≤ 5 := fun t ht => ⟨(hV.1 t ht).1, (hV.1 t ht).2.1⟩
  have hP := hW.1
  refine lv_aload_n hx hb dL_law_448 rfl (lv_at hl 1 rfl) ?_
  refine call_VR (As := []) (rest := []) E rfl hK hP (c_X4_fault l g h q z na V ta TV pa SV hq hh o n aa HV ra NN sa T k ho hn5 hk hT) ok_X4_fault rfl q2_126 [0, 1, 2, 3, 4, 5, 6, 7, 8, 9, 10, 11] rfl (b_recv hK hP 0 0 rfl rfl rfl rfl) ⟨⟨rfl, rfl⟩, Nat.le_of_ble_eq_true rfl, Nat.le_of_ble_eq_true rfl⟩ hl.1 (Nat.le_of_ble_eq_true rfl) ⟨Nat.le_refl _, Nat.le_refl _⟩ rfl dL_law_449 ?_
  refine b_top (y := ffN T k k 0 0) rfl ?_
  refine lv_aload_n hx hb dL_law_452 rfl (lv_at hl 2 rfl) ?_
  refine call_VU (As := []) (rest := [.int (ffN T k k 0 0)]) E rfl hK hW (c_X5_fault l g h2 a2 V X T k hk hT htx) ok_X5_fault rfl q3_202 [12] rfl (by decide) (b_recv hK hP 12 0 rfl rfl rfl rfl) ⟨⟨rfl, rfl⟩, Nat.le_of_ble_eq_true rfl, Nat.le_of_ble_eq_true rfl⟩ hl.1 (Nat.le_of_ble_eq_true rfl) ⟨Nat.le_refl _, Nat.le_refl _⟩ rfl dL_law_453 (fun u2 H locs hu2 hW => ?_)
  have hW : wd g _ s.heap (lwB g h q na ta pa hq hh aa ra sa h2 a2 z V TV SV o n HV NN T k V u2.1) H locs := hW
  have hP := hW.1
  refine lv_icmp_eq (tgt := 831) hx hb dL_law_456 (by decide) (fun _ => ?_) (fun q9 => absurd (fault_eq hu2.1 hu2.2) q9)
  exact K d0 z V TV SV o n HV NN T k u2.1 H locs ls hd0 ((hR.isI hu2.1).mono (by omega)) hW hl
set_option maxHeartbeats 4000000 in
set_option maxRecDepth 100000 in
theorem cs_undo (hE : ent p s m meth c yL_law code 8 (some .boolean) [.ref b]) (hKq : kq g s) (hX : va_X b L xs s s.heap) (hbl : b < s.heap.size) (hL : L ≤ 2048) (hi : i + 4 ≤ L) (hB : B ≤ 700000) (K : LwC p l e s m below meth c b g h q na ta pa hq hh aa ra sa h2 a2 i (B + 1200) 831) : LwC p l e s m below meth c b g h q na ta pa hq hh aa ra sa h2 a2 i B 474 := by
  intro d0 z V TV SV o n HV NN T k X H locs ls hd0 hR hW hl
  obtain ⟨hx, hb, hr, hml, hts, hown, hlocks, hin⟩ := id hE
  have E := ent_dr hE d0
  have hK : kx g (s.setDrawn d0) := (kq_dr hKq d0).1
  have hX : va_X b L xs (s.setDrawn d0) s.heap := hX
  have hbA : ¬ (fun q : Nat => s.heap.size ≤ q) b := Nat.not_le.mpr hbl
  obtain ⟨⟨cq, hV⟩, ho, hn5, hk, hT, hn9, hH, hSn, htx⟩ := id hR
  have hc : ∀ t, t < 6 → V 3 t = nI (cq t) ∧ cq t ≤ 5 := fun t ht => ⟨(hV.1 t ht).1, (hV.1 t ht).2.1⟩
  have hP := hW.1
  rcases Nat.eq_zero_or_pos n with hn0 | hn0
  · skip
    refine lv_aload_n hx hb dL_law_474 rfl (lv_at hl 1 rfl) ?_
    refine call_VU (As := []) (rest := []) E rfl hK hW (c_X4_undo_0 l g h q z na V ta TV pa SV hq hh o n aa HV ra NN sa T k ho hn5 hk hn0) ok_X4_undo rfl q2_172 [0, 1, 2, 3, 4, 5, 6, 7, 8, 9, 10, 11] rfl (by decide) (b_recv hK hP 0 0 rfl rfl rfl rfl) ⟨⟨rfl, rfl⟩, Nat.le_of_ble_eq_true rfl, Nat.le_of_ble_eq_true rfl⟩ hl.1 (Nat.le_of_ble_eq_true rfl) ⟨Nat.le_refl _, Nat.le_refl _⟩ rfl dL_law_475 (fun u H locs hu hW => ?_)
    have hW : wd g _ s.heap (lwB g h q na ta pa hq hh aa ra sa h2 a2 z V TV SV o n HV NN T k V X) H locs := hW
    have hP := hW.1
    refine b_top (y := -5) rfl ?_
    refine lv_aload_n hx hb dL_law_478 rfl (lv_at hl 2 rfl) ?_
    refine call_VU (As := []) (rest := [.int (-5)]) E rfl hK hW (c_X5_undo_0 l g h2 a2 V X n hn9 hn0) ok_X5_undo rfl q3_68 [12] rfl (by decide) (b_recv hK hP 12 0 rfl rfl rfl rfl) ⟨⟨rfl, rfl⟩, Nat.le_of_ble_eq_true rfl, Nat.le_of_ble_eq_true rfl⟩ hl.1 (Nat.le_of_ble_eq_true rfl) ⟨Nat.le_refl _, Nat.le_refl _⟩ rfl dL_law_479 (fun u2 H locs hu2 hW => ?_)
    have hW : wd g _ s.heap (lwB g h q na ta pa hq hh aa ra sa h2 a2 z V TV SV o n HV NN T k V X) H locs := hW
    have hP := hW.1
    refine lv_icmp_eq (tgt := 831) hx hb dL_law_482 (by decide) (fun _ => ?_) (fun q9 => absurd rfl q9)
    exact K d0 z V TV SV o n HV NN T k X H locs ls hd0 (hR.mono (by omega)) hW hl
  · skip
    refine lv_aload_n hx hb dL_law_474 rfl (lv_at hl 1 rfl) ?_
    refine call_VU (As := []) (rest := []) E rfl hK hW (c_X4_undo_s l g h q z na V ta TV pa SV hq hh o n aa HV ra NN sa T k ho hn5 hk hn0) ok_X4_undo rfl q2_172 [0, 1, 2, 3, 4, 5, 6, 7, 8, 9, 10, 11] rfl (by decide) (b_recv hK hP 0 0 rfl rfl rfl rfl) ⟨⟨rfl, rfl⟩, Nat.le_of_ble_eq_true rfl, Nat.le_of_ble_eq_true rfl⟩ hl.1 (Nat.le_of_ble_eq_true rfl) ⟨Nat.le_refl _, Nat.le_refl _⟩ rfl dL_law_475 (fun u H locs hu hW => ?_)
    have hW : wd g _ s.heap (lwB g h q na ta pa hq hh aa ra sa h2 a2 z (HV ((o + (n - 1)) % 5)) TV SV o (n - 1) HV NN T k V X) H locs := hW
    have hP := hW.1
    refine b_top (y := nI (n - 1)) rfl ?_
    refine lv_aload_n hx hb dL_law_478 rfl (lv_at hl 2 rfl) ?_
    refine call_VU (As := []) (rest := [.int (nI (n - 1))]) E rfl hK hW (c_X5_undo_s l g h2 a2 V X n hn9 (HV ((o + (n - 1)) % 5)) (fun p9 hp9 => (hH (n - 1) (by omega)).2 p9 hp9) hn0 hn5) ok_X5_undo rfl q3_68 [12] rfl (by decide) (b_recv hK hP 12 0 rfl rfl rfl rfl) ⟨⟨rfl, rfl⟩, Nat.le_of_ble_eq_true rfl, Nat.le_of_ble_eq_true rfl⟩ hl.1 (Nat.le_of_ble_eq_true rfl) ⟨Nat.le_refl _, Nat.le_refl _⟩ rfl dL_law_479 (fun u2 H locs hu2 hW => ?_)
    have hW : wd g _ s.heap (lwB g h q na ta pa hq hh aa ra sa h2 a2 z (HV ((o + (n - 1)) % 5)) TV SV o (n - 1) HV NN T k (HV ((o + (n - 1)) % 5)) (up2 X 9 0 (nI (n - 1)))) H locs := hW
    have hP := hW.1
    refine lv_icmp_eq (tgt := 831) hx hb dL_law_482 (by decide) (fun _ => ?_) (fun q9 => absurd rfl q9)
    exact K d0 z (HV ((o + (n - 1)) % 5)) TV SV o (n - 1) HV NN T k (up2 X 9 0 (nI (n - 1))) H locs ls hd0 ((hR.undo hn0).mono (by omega)) hW hl
set_option maxHeartbeats 4000000 in
set_option maxRecDepth 100000 in
theorem cs_save (hE : ent p s m meth c yL_law code 8 (some .boolean) [.ref b]) (hKq : kq g s) (hX : va_X b L xs s s.heap) (hbl : b < s.heap.size) (hL : L ≤ 2048) (hi : i + 4 ≤ L) (hB : B ≤ 700000) (K : LwC p l e s m below meth c b g h q na ta pa hq hh aa ra sa h2 a2 i (B + 1200) 831) : LwC p l e s m below meth c b g h q na ta pa hq hh aa ra sa h2 a2 i B 487 := by
  intro d0 z V TV SV o n HV NN T k X H locs ls hd0 hR hW hl
  obtain ⟨hx, hb, hr, hml, hts, hown, hlocks, hin⟩ := id hE
  have E := ent_dr hE d0
  have hK : kx g (s.setDrawn d0) := (kq_dr hKq d0).1
  have hX : va_X b L xs (s.setDrawn d0) s.heap := hX
  have hbA : ¬ (fun q : Nat => s.heap.size ≤ q) b := Nat.not_le.mpr hbl
  obtain ⟨⟨cq, hV⟩, ho, hn5, hk, hT, hn9, hH, hSn, htx⟩ := id hR
  have hc : ∀ t, t < 6 → V 3 t = nI (cq t) ∧ cq t ≤ 5 := fun t ht => ⟨(hV.1 t ht).1, (hV.1 t ht).2.1⟩
  have hP := hW.1
  refine lv_aload_n hx hb dL_law_487 rfl (lv_at hl 1 rfl) ?_
  refine call_VU (As := []) (rest := []) E rfl hK hW (c_X4_save l g h q z na V ta TV pa SV hq hh o n aa HV ra NN sa T k ho hn5 hk) ok_X4_save rfl q2_180 [0, 1, 2, 3, 4, 5, 6, 7, 8, 9, 10, 11] rfl (by decide) (b_recv hK hP 0 0 rfl rfl rfl rfl) ⟨⟨rfl, rfl⟩, Nat.le_of_ble_eq_true rfl, Nat.le_of_ble_eq_true rfl⟩ hl.1 (Nat.le_of_ble_eq_true rfl) ⟨Nat.le_refl _, Nat.le_refl _⟩ rfl dL_law_488 (fun u H locs hu hW => ?_)
  have hW : wd g _ s.heap (lwB g h q na ta pa hq hh aa ra sa h2 a2 1 V TV V o n HV NN T k V X) H locs := hW
  have hP := hW.1
  refine b_top (y := V 12 2) rfl ?_
  refine lv_aload_n hx hb dL_law_491 rfl (lv_at hl 2 rfl) ?_
  refine call_VU (As := []) (rest := [.int (V 12 2)]) E rfl hK hW (c_X5_save l g h2 a2 V X) ok_X5_save rfl q3_72 [12] rfl (by decide) (b_recv hK hP 12 0 rfl rfl rfl rfl) ⟨⟨rfl, rfl⟩, Nat.le_of_ble_eq_true rfl, Nat.le_of_ble_eq_true rfl⟩ hl.1 (Nat.le_of_ble_eq_true rfl) ⟨Nat.le_refl _, Nat.le_refl _⟩ rfl dL_law_492 (fun u2 H locs hu2 hW => ?_)
  have hW : wd g _ s.heap (lwB g h q na ta pa hq hh aa ra sa h2 a2 1 V TV V o n HV NN T k V u2) H locs := hW
  have hP := hW.1
  refine lv_icmp_eq (tgt := 831) hx hb dL_law_495 (by decide) (fun _ => ?_) (fun q9 => absurd rfl q9)
  exact K d0 1 V TV V o n HV NN T k u2 H locs ls hd0 ((hR.save hu2.1 hu2.2.1 hu2.2.2.1 hu2.2.2.2).mono (by omega)) hW hl
set_option maxHeartbeats 4000000 in
set_option maxRecDepth 100000 in
theorem cs_restore (hE : ent p s m meth c yL_law code 8 (some .boolean) [.ref b]) (hKq : kq g s) (hX : va_X b L xs s s.heap) (hbl : b < s.heap.size) (hL : L ≤ 2048) (hi : i + 4 ≤ L) (hB : B ≤ 700000) (K : LwC p l e s m below meth c b g h q na ta pa hq hh aa ra sa h2 a2 i (B + 1200) 831) : LwC p l e s m below meth c b g h q na ta pa hq hh aa ra sa h2 a2 i B 500 := by
  intro d0 z V TV SV o n HV NN T k X H locs ls hd0 hR hW hl
  obtain ⟨hx, hb, hr, hml, hts, hown, hlocks, hin⟩ := id hE
  have E := ent_dr hE d0
  have hK : kx g (s.setDrawn d0) := (kq_dr hKq d0).1
  have hX : va_X b L xs (s.setDrawn d0) s.heap := hX
  have hbA : ¬ (fun q : Nat => s.heap.size ≤ q) b := Nat.not_le.mpr hbl
  obtain ⟨⟨cq, hV⟩, ho, hn5, hk, hT, hn9, hH, hSn, htx⟩ := id hR
  have hc : ∀ t, t < 6 → V 3 t = nI (cq t) ∧ cq t ≤ 5 := fun t ht => ⟨(hV.1 t ht).1, (hV.1 t ht).2.1⟩
  have hP := hW.1
  obtain ⟨W1, hsrc, hzX, hW1⟩ : ∃ W1 : sV, (∀ p9, p9 < 149 → X 2 p9 = rowOf W1 p9) ∧ z = X 9 1 ∧ (reE z = 0 → SV = W1 ∧ ∃ cq9, InvV SV cq9 B) := by
    rcases hSn with q9 | q9
    · exact ⟨unR (X 2), fun p9 _ => (row_un (X 2) p9).symm, q9.1.trans q9.2.symm, fun w9 => absurd w9 (by rw [q9.1]; decide)⟩
    · exact ⟨SV, q9.2.2.2, q9.1.trans q9.2.1.symm, fun _ => ⟨rfl, q9.2.2.1⟩⟩
  have hEq : reE z = reE (X 9 1) := congrArg reE hzX
  refine lv_aload_n hx hb dL_law_500 rfl (lv_at hl 1 rfl) ?_
  refine call_VU (As := []) (rest := []) E rfl hK hW (c_X4_restore l g h q z na V ta TV pa SV hq hh o n aa HV ra NN sa T k ho hn5 hk) ok_X4_restore rfl q2_185 [0, 1, 2, 3, 4, 5, 6, 7, 8, 9, 10, 11] rfl (by decide) (b_recv hK hP 0 0 rfl rfl rfl rfl) ⟨⟨rfl, rfl⟩, Nat.le_of_ble_eq_true rfl, Nat.le_of_ble_eq_true rfl⟩ hl.1 (Nat.le_of_ble_eq_true rfl) ⟨Nat.le_refl _, Nat.le_refl _⟩ rfl dL_law_501 (fun u H locs hu hW => ?_)
  cases u
  · have hu : ¬ reE z = 0 := hu
    have hW : wd g _ s.heap (lwB g h q na ta pa hq hh aa ra sa h2 a2 z V TV SV o n HV NN T k V X) H locs := hW
    have hP := hW.1
    refine b_top (y := reE z) rfl ?_
    refine lv_aload_n hx hb dL_law_504 rfl (lv_at hl 2 rfl) ?_
    refine call_VU (As := []) (rest := [.int (reE z)]) E rfl hK hW (c_X5_restore l g h2 a2 V X W1 hsrc n hn9 hn5) ok_X5_restore rfl q3_76 [12] rfl (by decide) (b_recv hK hP 12 0 rfl rfl rfl rfl) ⟨⟨rfl, rfl⟩, Nat.le_of_ble_eq_true rfl, Nat.le_of_ble_eq_true rfl⟩ hl.1 (Nat.le_of_ble_eq_true rfl) ⟨Nat.le_refl _, Nat.le_refl _⟩ rfl dL_law_505 (fun u H locs hu hW => ?_)
    obtain ⟨u1, u2⟩ := u
    cases u1
    · have hu2 : ¬ reE (X 9 1) = 0 ∧ u2 = X := hu
      obtain ⟨-, rfl⟩ := hu2
      have hW : wd g _ s.heap (lwB g h q na ta pa hq hh aa ra sa h2 a2 z V TV SV o n HV NN T k V u2) H locs := hW
      have hP := hW.1
      refine lv_icmp_eq (tgt := 831) hx hb dL_law_508 (by decide) (fun _ => ?_) (fun q9 => absurd hEq q9)
      exact K d0 z V TV SV o n HV NN T k u2 H locs ls hd0 (hR.mono (by omega)) hW hl
    · exact absurd (hEq.trans (show reE (X 9 1) = 0 ∧ _ from hu).1) (show ¬ reE z = 0 from by assumption)
  · have hu : reE z = 0 := hu
    have hW : wd g _ s.heap (lwB g h q na ta pa hq hh aa ra sa h2 a2 z SV TV SV (recO o n) (recS n) (recH o n HV V) NN T k V X) H locs := hW
    have hP := hW.1
    refine b_top (y := SV 12 2) rfl ?_
    refine lv_aload_n hx hb dL_law_504 rfl (lv_at hl 2 rfl) ?_
    refine call_VU (As := []) (rest := [.int (SV 12 2)]) E rfl hK hW (c_X5_restore l g h2 a2 V X W1 hsrc n hn9 hn5) ok_X5_restore rfl q3_76 [12] rfl (by decide) (b_recv hK hP 12 0 rfl rfl rfl rfl) ⟨⟨rfl, rfl⟩, Nat.le_of_ble_eq_true rfl, Nat.le_of_ble_eq_true rfl⟩ hl.1 (Nat.le_of_ble_eq_true rfl) ⟨Nat.le_refl _, Nat.le_refl _⟩ rfl dL_law_505 (fun u H locs hu hW => ?_)
    obtain ⟨u1, u2⟩ := u
    cases u1
    · exact absurd (hEq.symm.trans (show reE z = 0 from by assumption)) (show ¬ reE (X 9 1) = 0 ∧ _ from hu).1
    · have hu2 : reE (X 9 1) = 0 ∧ recP V X u2 n := hu
      obtain ⟨hVe, cq9, hI⟩ := hW1 (hEq.trans hu2.1)
      have hW : wd g _ s.heap (lwB g h q na ta pa hq hh aa ra sa h2 a2 z SV TV SV (recO o n) (recS n) (recH o n HV V) NN T k W1 u2) H locs := hW
      have hP := hW.1
      rw [← hVe] at hW
      refine lv_icmp_eq (tgt := 831) hx hb dL_law_508 (by decide) (fun _ => ?_) (fun q9 => absurd ((congrFun (congrFun hVe 12) 2)) q9)
      exact K d0 z SV TV SV (recO o n) (recS n) (recH o n HV V) NN T k u2 H locs ls hd0 ((hR.rec hu2.2 hI (by omega)).mono (by omega)) hW hl
end LAW
