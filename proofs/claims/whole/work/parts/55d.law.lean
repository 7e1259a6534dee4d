section LAW
variable {p : Program} {l : Launch} {e : Env} {s : State} {m : MethodId} {below : List Frame} {meth : Method} {c : Code} {b : Nat} {g : gx} {h : Nat} {q : Nat → Nat} {na ta pa : Nat → Nat} {hq : Nat} {hh : Nat → Nat} {aa : Nat → Nat → Nat} {ra : Nat → Nat} {sa h2 : Nat} {a2 : Nat → Nat} {i B L : Nat} {xs : Nat → Int32}
set_option maxHeartbeats 4000000 in
set_option maxRecDepth 100000 in
theorem cs_bestPlan (hE : ent p s m meth c yL_law code 8 (some .boolean) [.ref b]) (hKq : kq g s) (hX : va_X b L xs s s.heap) (hbl : b < s.heap.size) (hL : L ≤ 2048) (hi : i + 4 ≤ L) (hB : B ≤ 700000) (K : LwC p l e s m below meth c b g h q na ta pa hq hh aa ra sa h2 a2 i (B + 1200) 831) : LwC p l e s m below meth c b g h q na ta pa hq hh aa ra sa h2 a2 i B 724 := by
  intro d0 z V TV SV o n HV NN T k X H locs ls hd0 hR hW hl
  obtain ⟨hx, hb, hr, hml, hts, hown, hlocks, hin⟩ := id hE
  have E := ent_dr hE d0
  have hK : kx g (s.setDrawn d0) := (kq_dr hKq d0).1
  have hX : va_X b L xs (s.setDrawn d0) s.heap := hX
  have hbA : ¬ (fun q : Nat => s.heap.size ≤ q) b := Nat.not_le.mpr hbl
  obtain ⟨⟨cq, hV⟩, ho, hn5, hk, hT, hn9, hH, hSn, htx⟩ := id hR
  have hc : ∀ t, t < 6 → V 3 t = nI (cq t) ∧ cq t ≤ 5 := fun t ht => ⟨(hV.1 t ht).1, (hV.1 t ht).2.1⟩
  have hP := hW.1
  obtain ⟨x1, hx1⟩ : ∃ y : Int32, xs (i + 1) = y := ⟨_, rfl⟩
  obtain ⟨t, ht, hxt⟩ := ex_t x1
  have hp1 : 1 ≤ 2 ^ cq t := Nat.one_le_two_pow
  have hEq : (if isT x1 then (bpS V NN t (2 ^ cq t - 1)).1.1 else -1) = (if isT x1 then (bpM V cq X t (2 ^ cq t)).1.1 else -1) := by
    by_cases hT9 : isT x1
    · rw [if_pos hT9, if_pos hT9]; exact (by have h9 := (bp_eq hV.1 ht NN X (2 ^ cq t - 1) (by omega)).2; rw [Nat.sub_add_cancel hp1] at h9; rw [h9])
    · rw [if_neg hT9, if_neg hT9]
  refine lv_aload_n hx hb dL_law_724 rfl (lv_at hl 1 rfl) ?_
  refine lw_arg hx hb hX hbl hbA hW.2.2 hl 1 (by decide) hx1 (by omega) hL dL_law_725 dL_law_726 dL_law_727 dL_law_728 dL_law_729 ?_
  refine call_VU (As := [.int x1]) (rest := []) E rfl hK hW (c_X4_bestPlan l g h q z na V ta TV pa SV hq hh o n aa HV ra NN sa T k x1 t (cq t) ho hn5 hk hxt (fun _ => hc t ht)) ok_X4_bestPlan rfl q3_3 [0, 1, 2, 3, 4, 5, 6, 7, 8, 9, 10, 11] rfl (by decide) (b_recv hK hP 0 0 rfl rfl rfl rfl) ⟨⟨rfl, rfl⟩, Nat.le_of_ble_eq_true rfl, Nat.le_of_ble_eq_true rfl⟩ hl.1 (Nat.le_of_ble_eq_true rfl) ⟨Nat.le_refl _, Nat.le_refl _⟩ rfl dL_law_730 (fun u H locs hu hW => ?_)
  have hW : wd g _ s.heap (lwB g h q na ta pa hq hh aa ra sa h2 a2 z V u.1 SV o n HV u.2 T k V X) H locs := hW
  have hP := hW.1
  refine b_top (y := if isT x1 then (bpS V NN t (2 ^ cq t - 1)).1.1 else -1) rfl ?_
  refine lv_aload_n hx hb dL_law_733 rfl (lv_at hl 2 rfl) ?_
  refine lw_arg hx hb hX hbl hbA hW.2.2 hl 1 (by decide) hx1 (by omega) hL dL_law_734 dL_law_735 dL_law_736 dL_law_737 dL_law_738 ?_
  refine call_VU (As := [.int x1]) (rest := [.int (if isT x1 then (bpS V NN t (2 ^ cq t - 1)).1.1 else -1)]) E rfl hK hW (c_X5_bestPlan l g h2 a2 V X x1 t cq hc hxt) ok_X5_bestPlan rfl q4_34 [12] rfl (by decide) (b_recv hK hP 12 0 rfl rfl rfl rfl) ⟨⟨rfl, rfl⟩, Nat.le_of_ble_eq_true rfl, Nat.le_of_ble_eq_true rfl⟩ hl.1 (Nat.le_of_ble_eq_true rfl) ⟨Nat.le_refl _, Nat.le_refl _⟩ rfl dL_law_739 (fun u2 H locs hu2 hW => ?_)
  have hW : wd g _ s.heap (lwB g h q na ta pa hq hh aa ra sa h2 a2 z V u.1 SV o n HV u.2 T k V u2) H locs := hW
  have hP := hW.1
  refine lv_icmp_eq (tgt := 831) hx hb dL_law_742 (by decide) (fun _ => ?_) (fun q9 => absurd hEq q9)
  exact K d0 z V u.1 SV o n HV u.2 T k u2 H locs ls hd0 ((hR.not4 (fun k9 _ q4 => hu2 k9 q4)).mono (by omega)) hW hl
set_option maxHeartbeats 4000000 in
set_option maxRecDepth 100000 in
theorem cs_ifPlanned (hE : ent p s m meth c yL_law code 8 (some .boolean) [.ref b]) (hKq : kq g s) (hX : va_X b L xs s s.heap) (hbl : b < s.heap.size) (hL : L ≤ 2048) (hi : i + 4 ≤ L) (hB : B ≤ 700000) (K : LwC p l e s m below meth c b g h q na ta pa hq hh aa ra sa h2 a2 i (B + 1200) 831) : LwC p l e s m below meth c b g h q na ta pa hq hh aa ra sa h2 a2 i B 691 := by
  intro d0 z V TV SV o n HV NN T k X H locs ls hd0 hR hW hl
  obtain ⟨hx, hb, hr, hml, hts, hown, hlocks, hin⟩ := id hE
  have E := ent_dr hE d0
  have hK : kx g (s.setDrawn d0) := (kq_dr hKq d0).1
  have hX : va_X b L xs (s.setDrawn d0) s.heap := hX
  have hbA : ¬ (fun q : Nat => s.heap.size ≤ q) b := Nat.not_le.mpr hbl
  obtain ⟨⟨cq, hV⟩, ho, hn5, hk, hT, hn9, hH, hSn, htx⟩ := id hR
  have hc : ∀ t, t < 6 → V 3 t = nI (cq t) ∧ cq t ≤ 5 := fun t ht => ⟨(hV.1 t ht).1, (hV.1 t ht).2.1⟩
  have hP := hW.1
  obtain ⟨x1, hx1⟩ : ∃ y : Int32, xs (i + 1) = y := ⟨_, rfl⟩
  obtain ⟨x2, hx2⟩ : ∃ y : Int32, xs (i + 2) = y := ⟨_, rfl⟩
  obtain ⟨t, ht, hxt⟩ := ex_t x1
  refine lv_aload_n hx hb dL_law_691 rfl (lv_at hl 1 rfl) ?_
  refine lw_arg hx hb hX hbl hbA hW.2.2 hl 1 (by decide) hx1 (by omega) hL dL_law_692 dL_law_693 dL_law_694 dL_law_695 dL_law_696 ?_
  refine lw_arg hx hb hX hbl hbA hW.2.2 hl 2 (by decide) hx2 (by omega) hL dL_law_697 dL_law_698 dL_law_699 dL_law_700 dL_law_701 ?_
  refine call_VU (As := [.int x1, .int x2]) (rest := []) E rfl hK hW (c_X4_ifPlanned l g h q z na V ta TV pa SV hq hh o n aa HV ra NN sa T k x1 x2 t ho hn5 hk hxt) ok_X4_ifPlanned rfl q2_231 [0, 1, 2, 3, 4, 5, 6, 7, 8, 9, 10, 11] rfl (by decide) (b_recv hK hP 0 0 rfl rfl rfl rfl) ⟨⟨rfl, rfl⟩, Nat.le_of_ble_eq_true rfl, Nat.le_of_ble_eq_true rfl⟩ hl.1 (Nat.le_of_ble_eq_true rfl) ⟨Nat.le_refl _, Nat.le_refl _⟩ rfl dL_law_702 (fun u H locs hu hW => ?_)
  obtain ⟨u1, TV2, NN2⟩ := u
  cases u1
  · have hu : ¬ plE V x1 t x2 = 0 := hu
    have hW : wd g _ s.heap (lwB g h q na ta pa hq hh aa ra sa h2 a2 z V TV2 SV o n HV NN2 T k V X) H locs := hW
    have hP := hW.1
    refine b_top (y := plE V x1 t x2) (cond_false _ _) ?_
    refine lv_aload_n hx hb dL_law_705 rfl (lv_at hl 2 rfl) ?_
    refine lw_arg hx hb hX hbl hbA hW.2.2 hl 1 (by decide) hx1 (by omega) hL dL_law_706 dL_law_707 dL_law_708 dL_law_709 dL_law_710 ?_
    refine lw_arg hx hb hX hbl hbA hW.2.2 hl 2 (by decide) hx2 (by omega) hL dL_law_711 dL_law_712 dL_law_713 dL_law_714 dL_law_715 ?_
    refine call_VU (As := [.int x1, .int x2]) (rest := [.int (plE V x1 t x2)]) E rfl hK hW (c_X5_ifPlanned l g h2 a2 V X x1 x2 t cq hc hxt) ok_X5_ifPlanned rfl q4_26 [12] rfl (by decide) (b_recv hK hP 12 0 rfl rfl rfl rfl) ⟨⟨rfl, rfl⟩, Nat.le_of_ble_eq_true rfl, Nat.le_of_ble_eq_true rfl⟩ hl.1 (Nat.le_of_ble_eq_true rfl) ⟨Nat.le_refl _, Nat.le_refl _⟩ rfl dL_law_716 (fun u2 H locs hu2 hW => ?_)
    have hW : wd g _ s.heap (lwB g h q na ta pa hq hh aa ra sa h2 a2 z V TV2 SV o n HV NN2 T k V u2) H locs := hW
    have hP := hW.1
    have hEq : plE V x1 t x2 = (if plM V x1 t x2 = 0 then pwM V (pwX V cq X t x2 4) t 6 else plM V x1 t x2) := (by rw [if_neg (fun q9 => hu (pl_eq.trans q9))]; exact pl_eq)
    refine lv_icmp_eq (tgt := 831) hx hb dL_law_719 (by decide) (fun _ => ?_) (fun q9 => absurd hEq q9)
    exact K d0 z V TV2 SV o n HV NN2 T k u2 H locs ls hd0 ((hR.not4 (fun k9 _ q4 => hu2 k9 q4)).mono (by omega)) hW hl
  · have hu : plE V x1 t x2 = 0 := hu
    have hW : wd g _ s.heap (lwB g h q na ta pa hq hh aa ra sa h2 a2 z V TV2 SV o n HV NN2 T k V X) H locs := hW
    have hP := hW.1
    refine b_top (y := cntF (fun e9 => forN (up2 V 4 t x2) NN 3 e9 = nI t) 6) (cond_true _ _) ?_
    refine lv_aload_n hx hb dL_law_705 rfl (lv_at hl 2 rfl) ?_
    refine lw_arg hx hb hX hbl hbA hW.2.2 hl 1 (by decide) hx1 (by omega) hL dL_law_706 dL_law_707 dL_law_708 dL_law_709 dL_law_710 ?_
    refine lw_arg hx hb hX hbl hbA hW.2.2 hl 2 (by decide) hx2 (by omega) hL dL_law_711 dL_law_712 dL_law_713 dL_law_714 dL_law_715 ?_
    refine call_VU (As := [.int x1, .int x2]) (rest := [.int (cntF (fun e9 => forN (up2 V 4 t x2) NN 3 e9 = nI t) 6)]) E rfl hK hW (c_X5_ifPlanned l g h2 a2 V X x1 x2 t cq hc hxt) ok_X5_ifPlanned rfl q4_26 [12] rfl (by decide) (b_recv hK hP 12 0 rfl rfl rfl rfl) ⟨⟨rfl, rfl⟩, Nat.le_of_ble_eq_true rfl, Nat.le_of_ble_eq_true rfl⟩ hl.1 (Nat.le_of_ble_eq_true rfl) ⟨Nat.le_refl _, Nat.le_refl _⟩ rfl dL_law_716 (fun u2 H locs hu2 hW => ?_)
    have hW : wd g _ s.heap (lwB g h q na ta pa hq hh aa ra sa h2 a2 z V TV2 SV o n HV NN2 T k V u2) H locs := hW
    have hP := hW.1
    have hEq : cntF (fun e9 => forN (up2 V 4 t x2) NN 3 e9 = nI t) 6 = (if plM V x1 t x2 = 0 then pwM V (pwX V cq X t x2 4) t 6 else plM V x1 t x2) := (by
      have hu9 : plM V x1 t x2 = 0 := pl_eq.symm.trans hu
      obtain ⟨p9, e9, hp9⟩ := plan_nat (hV.1 t ht) (plM_0 hu9)
      rw [if_pos hu9, e9]
      exact pw_eq hV.1 hp9 NN X 6 (Nat.le_refl _))
    refine lv_icmp_eq (tgt := 831) hx hb dL_law_719 (by decide) (fun _ => ?_) (fun q9 => absurd hEq q9)
    exact K d0 z V TV2 SV o n HV NN2 T k u2 H locs ls hd0 ((hR.not4 (fun k9 _ q4 => hu2 k9 q4)).mono (by omega)) hW hl
set_option maxHeartbeats 4000000 in
set_option maxRecDepth 100000 in
theorem cs_pointsIn (hE : ent p s m meth c yL_law code 8 (some .boolean) [.ref b]) (hKq : kq g s) (hX : va_X b L xs s s.heap) (hbl : b < s.heap.size) (hL : L ≤ 2048) (hi : i + 4 ≤ L) (hB : B ≤ 700000) (K : LwC p l e s m below meth c b g h q na ta pa hq hh aa ra sa h2 a2 i (B + 1200) 831) : LwC p l e s m below meth c b g h q na ta pa hq hh aa ra sa h2 a2 i B 747 := by
  intro d0 z V TV SV o n HV NN T k X H locs ls hd0 hR hW hl
  obtain ⟨hx, hb, hr, hml, hts, hown, hlocks, hin⟩ := id hE
  have E := ent_dr hE d0
  have hK : kx g (s.setDrawn d0) := (kq_dr hKq d0).1
  have hX : va_X b L xs (s.setDrawn d0) s.heap := hX
  have hbA : ¬ (fun q : Nat => s.heap.size ≤ q) b := Nat.not_le.mpr hbl
  obtain ⟨⟨cq, hV⟩, ho, hn5, hk, hT, hn9, hH, hSn, htx⟩ := id hR
  have hc : ∀ t, t < 6 → V 3 t = nI (cq t) ∧ cq t ≤ 5 := fun t ht => ⟨(hV.1 t ht).1, (hV.1 t ht).2.1⟩
  have hP := hW.1
  obtain ⟨x1, hx1⟩ : ∃ y : Int32, xs (i + 1) = y := ⟨_, rfl⟩
  obtain ⟨x2, hx2⟩ : ∃ y : Int32, xs (i + 2) = y := ⟨_, rfl⟩
  obtain ⟨t, ht, hxt⟩ := ex_t x1
  obtain ⟨m0, hm, hxm⟩ := ex_in x2 1 50 (by omega) (by omega)
  refine lv_aload_n hx hb dL_law_747 rfl (lv_at hl 1 rfl) ?_
  refine lw_arg hx hb hX hbl hbA hW.2.2 hl 1 (by decide) hx1 (by omega) hL dL_law_748 dL_law_749 dL_law_750 dL_law_751 dL_law_752 ?_
  refine lw_arg hx hb hX hbl hbA hW.2.2 hl 2 (by decide) hx2 (by omega) hL dL_law_753 dL_law_754 dL_law_755 dL_law_756 dL_law_757 ?_
  refine call_VU (As := [.int x1, .int x2]) (rest := []) E rfl hK hW (c_X4_pointsIn l g h q z na V ta TV pa SV hq hh o n aa HV ra NN sa T k x1 x2 t m0 ho hn5 hk hxt (fun q9 => ⟨(hxm (tuM_0 (tu_eq.symm.trans q9))).1, hm⟩)) ok_X4_pointsIn rfl q3_7 [0, 1, 2, 3, 4, 5, 6, 7, 8, 9, 10, 11] rfl (by decide) (b_recv hK hP 0 0 rfl rfl rfl rfl) ⟨⟨rfl, rfl⟩, Nat.le_of_ble_eq_true rfl, Nat.le_of_ble_eq_true rfl⟩ hl.1 (Nat.le_of_ble_eq_true rfl) ⟨Nat.le_refl _, Nat.le_refl _⟩ rfl dL_law_758 (fun u H locs hu hW => ?_)
  obtain ⟨u1, TV2, NN2⟩ := u
  cases u1
  · have hu : ¬ piE x1 x2 = 0 := hu
    have hW : wd g _ s.heap (lwB g h q na ta pa hq hh aa ra sa h2 a2 z V TV2 SV o n HV NN2 T k V X) H locs := hW
    have hP := hW.1
    refine b_top (y := piE x1 x2) (cond_false _ _) ?_
    refine lv_aload_n hx hb dL_law_761 rfl (lv_at hl 2 rfl) ?_
    refine lw_arg hx hb hX hbl hbA hW.2.2 hl 1 (by decide) hx1 (by omega) hL dL_law_762 dL_law_763 dL_law_764 dL_law_765 dL_law_766 ?_
    refine lw_arg hx hb hX hbl hbA hW.2.2 hl 2 (by decide) hx2 (by omega) hL dL_law_767 dL_law_768 dL_law_769 dL_law_770 dL_law_771 ?_
    refine call_VU (As := [.int x1, .int x2]) (rest := [.int (piE x1 x2)]) E rfl hK hW (c_X5_pointsIn l g h2 a2 V X x1 x2 t m0 cq hc hxt (fun q9 => ⟨(hxm q9).1, hm⟩)) ok_X5_pointsIn rfl q4_38 [12] rfl (by decide) (b_recv hK hP 12 0 rfl rfl rfl rfl) ⟨⟨rfl, rfl⟩, Nat.le_of_ble_eq_true rfl, Nat.le_of_ble_eq_true rfl⟩ hl.1 (Nat.le_of_ble_eq_true rfl) ⟨Nat.le_refl _, Nat.le_refl _⟩ rfl dL_law_772 (fun u2 H locs hu2 hW => ?_)
    have hW : wd g _ s.heap (lwB g h q na ta pa hq hh aa ra sa h2 a2 z V TV2 SV o n HV NN2 T k V u2.2) H locs := hW
    have hP := hW.1
    have hEq : piE x1 x2 = (if isT x1 then (if inI x2 1 50 then (mtM V u2.1 cq m0).1 7 t else -2) else -1) := piE_n hu
    refine lv_icmp_eq (tgt := 831) hx hb dL_law_775 (by decide) (fun _ => ?_) (fun q9 => absurd hEq q9)
    exact K d0 z V TV2 SV o n HV NN2 T k u2.2 H locs ls hd0 ((hR.not4 (fun k9 q3 q4 => hu2 k9 q3 q4)).mono (by omega)) hW hl
  · have hu : piE x1 x2 = 0 := hu
    have hW : wd g _ s.heap (lwB g h q na ta pa hq hh aa ra sa h2 a2 z V TV2 SV o n HV NN2 T k V X) H locs := hW
    have hP := hW.1
    refine b_top (y := (mtV V NN m0).1 7 t) (cond_true _ _) ?_
    refine lv_aload_n hx hb dL_law_761 rfl (lv_at hl 2 rfl) ?_
    refine lw_arg hx hb hX hbl hbA hW.2.2 hl 1 (by decide) hx1 (by omega) hL dL_law_762 dL_law_763 dL_law_764 dL_law_765 dL_law_766 ?_
    refine lw_arg hx hb hX hbl hbA hW.2.2 hl 2 (by decide) hx2 (by omega) hL dL_law_767 dL_law_768 dL_law_769 dL_law_770 dL_law_771 ?_
    refine call_VU (As := [.int x1, .int x2]) (rest := [.int ((mtV V NN m0).1 7 t)]) E rfl hK hW (c_X5_pointsIn l g h2 a2 V X x1 x2 t m0 cq hc hxt (fun q9 => ⟨(hxm q9).1, hm⟩)) ok_X5_pointsIn rfl q4_38 [12] rfl (by decide) (b_recv hK hP 12 0 rfl rfl rfl rfl) ⟨⟨rfl, rfl⟩, Nat.le_of_ble_eq_true rfl, Nat.le_of_ble_eq_true rfl⟩ hl.1 (Nat.le_of_ble_eq_true rfl) ⟨Nat.le_refl _, Nat.le_refl _⟩ rfl dL_law_772 (fun u2 H locs hu2 hW => ?_)
    have hW : wd g _ s.heap (lwB g h q na ta pa hq hh aa ra sa h2 a2 z V TV2 SV o n HV NN2 T k V u2.2) H locs := hW
    have hP := hW.1
    have hEq : (mtV V NN m0).1 7 t = (if isT x1 then (if inI x2 1 50 then (mtM V u2.1 cq m0).1 7 t else -2) else -1) := (by rw [if_pos (piE_0 hu).1, if_pos (piE_0 hu).2]; exact pi_eq (X := u2.1) NN hV (by omega) hm)
    refine lv_icmp_eq (tgt := 831) hx hb dL_law_775 (by decide) (fun _ => ?_) (fun q9 => absurd hEq q9)
    exact K d0 z V TV2 SV o n HV NN2 T k u2.2 H locs ls hd0 ((hR.not4 (fun k9 q3 q4 => hu2 k9 q3 q4)).mono (by omega)) hW hl
end LAW
