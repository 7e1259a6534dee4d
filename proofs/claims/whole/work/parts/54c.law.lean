section LAW
variable {p : Program} {l : Launch} {e : Env} {s : State} {m : MethodId} {below : List Frame} {meth : Method} {c : Code} {b : Nat} {g : gx} {h : Nat} {q : Nat → Nat} {na ta pa : Nat → Nat} {hq : Nat} {hh : Nat → Nat} {aa : Nat → Nat → Nat} {ra : Nat → Nat} {sa h2 : Nat} {a2 : Nat → Nat} {i B L : Nat} {xs : Nat → Int32}
set_option maxHeartbeats 4000000 in
set_option maxRecDepth 100000 in
theorem cs_turns (hE : ent p s m meth c yL_law code 8 (some .boolean) [.ref b]) (hKq : kq g s) (hX : va_X b L xs s s.heap) (hbl : b < s.heap.size) (hL : L ≤ 2048) (hi : i + 4 ≤ L) (hB : B ≤ 700000) (K : LwC p l e s m below meth c b g h q na ta pa hq hh aa ra sa h2 a2 i (B + 1200) 831) : LwC p l e s m below meth c b g h q na ta pa hq hh aa ra sa h2 a2 i B 389 := by
  intro d0 z V TV SV o n HV NN T k X H locs ls hd0 hR hW hl
  obtain ⟨hx, hb, hr, hml, hts, hown, hlocks, hin⟩ := id hE
  have E := ent_dr hE d0
  have hK : kx g (s.setDrawn d0) := (kq_dr hKq d0).1
  have hX : va_X b L xs (s.setDrawn d0) s.heap := hX
  have hbA : ¬ (fun q : Nat => s.heap.size ≤ q) b := Nat.not_le.mpr hbl
  obtain ⟨⟨cq, hV⟩, ho, hn5, hk, hT, hn9, hH, hSn, htx⟩ := id hR
  have hc : ∀ t, t < 6 → V 3 t = nI (cq t) ∧ cq t ≤ 5 := fun t ht => ⟨(hV.1 t ht).1, (hV.1 t ht).2.1⟩
  have hP := hW.1
  obtain ⟨x1, hx1⟩ : ∃ y : Int32, xs (i + 1) = y := ⟨_, rfl⟩
  obtain ⟨m0, hm, hxm⟩ := ex_in x1 1 50 (by omega) (by omega)
  have hEq : tErr x1 = tuM x1 := tu_eq
  refine lv_aload_n hx hb dL_law_389 rfl (lv_at hl 1 rfl) ?_
  refine lw_arg hx hb hX hbl hbA hW.2.2 hl 1 (by decide) hx1 (by omega) hL dL_law_390 dL_law_391 dL_law_392 dL_law_393 dL_law_394 ?_
  refine call_VU (As := [.int x1]) (rest := []) E rfl hK hW (c_X4_turns l g h q z na V ta TV pa SV hq hh o n aa HV ra NN sa T k x1 m0 ho hn5 hk (fun q9 => ⟨(hxm (tuM_0 (tu_eq.symm.trans q9))).1, hm⟩)) ok_X4_turns rfl q2_51 [0, 1, 2, 3, 4, 5, 6, 7, 8, 9, 10, 11] rfl (by decide) (b_recv hK hP 0 0 rfl rfl rfl rfl) ⟨⟨rfl, rfl⟩, Nat.le_of_ble_eq_true rfl, Nat.le_of_ble_eq_true rfl⟩ hl.1 (Nat.le_of_ble_eq_true rfl) ⟨Nat.le_refl _, Nat.le_refl _⟩ rfl dL_law_395 (fun u H locs hu hW => ?_)
  cases u
  · have hu : ¬ tErr x1 = 0 := hu
    have hW : wd g _ s.heap (lwB g h q na ta pa hq hh aa ra sa h2 a2 z V TV SV o n HV NN T k V X) H locs := hW
    have hP := hW.1
    refine b_top (y := tErr x1) rfl ?_
    refine lv_aload_n hx hb dL_law_398 rfl (lv_at hl 2 rfl) ?_
    refine lw_arg hx hb hX hbl hbA hW.2.2 hl 1 (by decide) hx1 (by omega) hL dL_law_399 dL_law_400 dL_law_401 dL_law_402 dL_law_403 ?_
    refine call_VU (As := [.int x1]) (rest := [.int (tErr x1)]) E rfl hK hW (c_X5_turns l g h2 a2 V X x1 m0 cq hc n hn9 hn5 (fun q9 => ⟨(hxm q9).1, hm⟩)) ok_X5_turns rfl q3_146 [12] rfl (by decide) (b_recv hK hP 12 0 rfl rfl rfl rfl) ⟨⟨rfl, rfl⟩, Nat.le_of_ble_eq_true rfl, Nat.le_of_ble_eq_true rfl⟩ hl.1 (Nat.le_of_ble_eq_true rfl) ⟨Nat.le_refl _, Nat.le_refl _⟩ rfl dL_law_404 (fun u H locs hu hW => ?_)
    obtain ⟨u1, u2⟩ := u
    cases u1
    · have hu2 : ¬ tuM x1 = 0 ∧ u2 = X := hu
      obtain ⟨-, rfl⟩ := hu2
      have hW : wd g _ s.heap (lwB g h q na ta pa hq hh aa ra sa h2 a2 z V TV SV o n HV NN T k V u2) H locs := hW
      have hP := hW.1
      refine lv_icmp_eq (tgt := 831) hx hb dL_law_407 (by decide) (fun _ => ?_) (fun q9 => absurd hEq q9)
      exact K d0 z V TV SV o n HV NN T k u2 H locs ls hd0 (hR.mono (by omega)) hW hl
    · exact absurd (hEq.trans (show tuM x1 = 0 ∧ _ from hu).1) (show ¬ tErr x1 = 0 from by assumption)
  · have hu : tErr x1 = 0 := hu
    have hW : wd g _ s.heap (lwB g h q na ta pa hq hh aa ra sa h2 a2 z ((mtV V NN m0).1) TV SV (recO o n) (recS n) (recH o n HV V) ((mtV V NN m0).2) T k V X) H locs := hW
    have hP := hW.1
    refine b_top (y := (mtV V NN m0).1 12 3) rfl ?_
    refine lv_aload_n hx hb dL_law_398 rfl (lv_at hl 2 rfl) ?_
    refine lw_arg hx hb hX hbl hbA hW.2.2 hl 1 (by decide) hx1 (by omega) hL dL_law_399 dL_law_400 dL_law_401 dL_law_402 dL_law_403 ?_
    refine call_VU (As := [.int x1]) (rest := [.int ((mtV V NN m0).1 12 3)]) E rfl hK hW (c_X5_turns l g h2 a2 V X x1 m0 cq hc n hn9 hn5 (fun q9 => ⟨(hxm q9).1, hm⟩)) ok_X5_turns rfl q3_146 [12] rfl (by decide) (b_recv hK hP 12 0 rfl rfl rfl rfl) ⟨⟨rfl, rfl⟩, Nat.le_of_ble_eq_true rfl, Nat.le_of_ble_eq_true rfl⟩ hl.1 (Nat.le_of_ble_eq_true rfl) ⟨Nat.le_refl _, Nat.le_refl _⟩ rfl dL_law_404 (fun u H locs hu hW => ?_)
    obtain ⟨u1, u2⟩ := u
    cases u1
    · exact absurd (hEq.symm.trans (show tErr x1 = 0 from by assumption)) (show ¬ tuM x1 = 0 ∧ _ from hu).1
    · have hu2 : tuM x1 = 0 ∧ recP V X u2 n := hu
      have hVe : (mtV V NN m0).1 = (mtM V u2 cq m0).1 := turns_eq' NN hV (by omega) m0 hm
      have hI : InvV (mtV V NN m0).1 cq (B + 6 * m0) := by rw [hVe]; exact inv_mt hV (by omega) m0 hm
      have hW : wd g _ s.heap (lwB g h q na ta pa hq hh aa ra sa h2 a2 z ((mtV V NN m0).1) TV SV (recO o n) (recS n) (recH o n HV V) ((mtV V NN m0).2) T k ((mtM V u2 cq m0).1) ((mtM V u2 cq m0).2)) H locs := hW
      have hP := hW.1
      rw [← hVe] at hW
      refine lv_icmp_eq (tgt := 831) hx hb dL_law_407 (by decide) (fun _ => ?_) (fun q9 => absurd (congrFun (congrFun hVe 12) 3) q9)
      exact K d0 z ((mtV V NN m0).1) TV SV (recO o n) (recS n) (recH o n HV V) ((mtV V NN m0).2) T k ((mtM V u2 cq m0).2) H locs ls hd0 (((hR.rec hu2.2 hI (by omega)).not4 (fun k9 _ q4 => mtM_X V u2 cq q4 m0)).mono (by omega)) hW hl
set_option maxHeartbeats 4000000 in
set_option maxRecDepth 100000 in
theorem cs_append (hE : ent p s m meth c yL_law code 8 (some .boolean) [.ref b]) (hKq : kq g s) (hX : va_X b L xs s s.heap) (hbl : b < s.heap.size) (hL : L ≤ 2048) (hi : i + 4 ≤ L) (hB : B ≤ 700000) (K : LwC p l e s m below meth c b g h q na ta pa hq hh aa ra sa h2 a2 i (B + 1200) 831) : LwC p l e s m below meth c b g h q na ta pa hq hh aa ra sa h2 a2 i B 412 := by
  intro d0 z V TV SV o n HV NN T k X H locs ls hd0 hR hW hl
  obtain ⟨hx, hb, hr, hml, hts, hown, hlocks, hin⟩ := id hE
  have E := ent_dr hE d0
  have hK : kx g (s.setDrawn d0) := (kq_dr hKq d0).1
  have hX : va_X b L xs (s.setDrawn d0) s.heap := hX
  have hbA : ¬ (fun q : Nat => s.heap.size ≤ q) b := Nat.not_le.mpr hbl
  obtain ⟨⟨cq, hV⟩, ho, hn5, hk, hT, hn9, hH, hSn, htx⟩ := id hR
  have hc : ∀ t, t < 6 → V 3 t = nI (cq t) ∧ cq t ≤ 5 := fun t ht => ⟨(hV.1 t ht).1, (hV.1 t ht).2.1⟩
  have hP := hW.1
  obtain ⟨x1, hx1⟩ : ∃ y : Int32, xs (i + 1) = y := ⟨_, rfl⟩
  obtain ⟨c0, hc0, hxc⟩ := ex_in x1 32 126 (by omega) (by omega)
  have hEq : apE x1 k = apM x1 k := ap_eq hk
  refine lv_aload_n hx hb dL_law_412 rfl (lv_at hl 1 rfl) ?_
  refine lw_arg hx hb hX hbl hbA hW.2.2 hl 1 (by decide) hx1 (by omega) hL dL_law_413 dL_law_414 dL_law_415 dL_law_416 dL_law_417 ?_
  refine call_VU (As := [.int x1]) (rest := []) E rfl hK hW (c_X4_append l g h q z na V ta TV pa SV hq hh o n aa HV ra NN sa T k x1 c0 ho hn5 hk (fun q8 q9 => ⟨(hxc ⟨q8, Int32.not_lt.mpr q9⟩).1, by omega⟩)) ok_X4_append rfl q2_114 [0, 1, 2, 3, 4, 5, 6, 7, 8, 9, 10, 11] rfl (by decide) (b_recv hK hP 0 0 rfl rfl rfl rfl) ⟨⟨rfl, rfl⟩, Nat.le_of_ble_eq_true rfl, Nat.le_of_ble_eq_true rfl⟩ hl.1 (Nat.le_of_ble_eq_true rfl) ⟨Nat.le_refl _, Nat.le_refl _⟩ rfl dL_law_418 (fun u H locs hu hW => ?_)
  cases u
  · have hu : ¬ apE x1 k = 0 := hu
    have hW : wd g _ s.heap (lwB g h q na ta pa hq hh aa ra sa h2 a2 z V TV SV o n HV NN T k V X) H locs := hW
    have hP := hW.1
    refine b_top (y := apE x1 k) rfl ?_
    refine lv_aload_n hx hb dL_law_421 rfl (lv_at hl 2 rfl) ?_
    refine lw_arg hx hb hX hbl hbA hW.2.2 hl 1 (by decide) hx1 (by omega) hL dL_law_422 dL_law_423 dL_law_424 dL_law_425 dL_law_426 ?_
    refine call_VU (As := [.int x1]) (rest := [.int (apE x1 k)]) E rfl hK hW (c_X5_append l g h2 a2 V X x1 k htx.1 hk) ok_X5_append rfl q3_194 [12] rfl (by decide) (b_recv hK hP 12 0 rfl rfl rfl rfl) ⟨⟨rfl, rfl⟩, Nat.le_of_ble_eq_true rfl, Nat.le_of_ble_eq_true rfl⟩ hl.1 (Nat.le_of_ble_eq_true rfl) ⟨Nat.le_refl _, Nat.le_refl _⟩ rfl dL_law_427 (fun u H locs hu hW => ?_)
    obtain ⟨u1, u2⟩ := u
    cases u1
    · have hu2 : ¬ apM x1 k = 0 ∧ u2 = X := hu
      obtain ⟨-, rfl⟩ := hu2
      have hW : wd g _ s.heap (lwB g h q na ta pa hq hh aa ra sa h2 a2 z V TV SV o n HV NN T k V u2) H locs := hW
      have hP := hW.1
      refine lv_icmp_eq (tgt := 831) hx hb dL_law_430 (by decide) (fun _ => ?_) (fun q9 => absurd hEq q9)
      exact K d0 z V TV SV o n HV NN T k u2 H locs ls hd0 (hR.mono (by omega)) hW hl
    · exact absurd (hEq.trans (show apM x1 k = 0 ∧ _ from hu).1) (show ¬ apE x1 k = 0 from by assumption)
  · have hu : apE x1 k = 0 := hu
    have hW : wd g _ s.heap (lwB g h q na ta pa hq hh aa ra sa h2 a2 z V TV SV o n HV NN (upT T k c0) (k + 1) V X) H locs := hW
    have hP := hW.1
    refine b_top (y := nI (k + 1)) rfl ?_
    refine lv_aload_n hx hb dL_law_421 rfl (lv_at hl 2 rfl) ?_
    refine lw_arg hx hb hX hbl hbA hW.2.2 hl 1 (by decide) hx1 (by omega) hL dL_law_422 dL_law_423 dL_law_424 dL_law_425 dL_law_426 ?_
    refine call_VU (As := [.int x1]) (rest := [.int (nI (k + 1))]) E rfl hK hW (c_X5_append l g h2 a2 V X x1 k htx.1 hk) ok_X5_append rfl q3_194 [12] rfl (by decide) (b_recv hK hP 12 0 rfl rfl rfl rfl) ⟨⟨rfl, rfl⟩, Nat.le_of_ble_eq_true rfl, Nat.le_of_ble_eq_true rfl⟩ hl.1 (Nat.le_of_ble_eq_true rfl) ⟨Nat.le_refl _, Nat.le_refl _⟩ rfl dL_law_427 (fun u H locs hu hW => ?_)
    obtain ⟨u1, u2⟩ := u
    cases u1
    · exact absurd (hEq.symm.trans (show apE x1 k = 0 from by assumption)) (show ¬ apM x1 k = 0 ∧ _ from hu).1
    · have hu2 : apM x1 k = 0 ∧ u2 = up2 (up2 X 5 k x1) 9 2 (nI (k + 1)) := hu
      obtain ⟨f1, f2, f3⟩ := apE_0 (hEq.trans hu2.1)
      have hxe := (hxc ⟨f1, Int32.not_lt.mpr f2⟩).1
      have hRn : Rel z V SV o n HV (upT T k c0) (k + 1) u2 B := by
        rw [hu2.2, hxe]
        exact hR.app f3 (by omega)
      have hW : wd g _ s.heap (lwB g h q na ta pa hq hh aa ra sa h2 a2 z V TV SV o n HV NN (upT T k c0) (k + 1) V u2) H locs := hW
      have hP := hW.1
      refine lv_icmp_eq (tgt := 831) hx hb dL_law_430 (by decide) (fun _ => ?_) (fun q9 => absurd rfl q9)
      exact K d0 z V TV SV o n HV NN (upT T k c0) (k + 1) u2 H locs ls hd0 (hRn.mono (by omega)) hW hl
end LAW
