section LAW
variable {p : Program} {l : Launch} {e : Env} {s : State} {m : MethodId} {below : List Frame} {meth : Method} {c : Code} {b : Nat} {g : gx} {h : Nat} {q : Nat → Nat} {na ta pa : Nat → Nat} {hq : Nat} {hh : Nat → Nat} {aa : Nat → Nat → Nat} {ra : Nat → Nat} {sa h2 : Nat} {a2 : Nat → Nat} {i B L : Nat} {xs : Nat → Int32}
set_option maxHeartbeats 4000000 in
set_option maxRecDepth 100000 in
theorem cs_run (hE : ent p s m meth c yL_law code 8 (some .boolean) [.ref b]) (hKq : kq g s) (hX : va_X b L xs s s.heap) (hbl : b < s.heap.size) (hL : L ≤ 2048) (hi : i + 4 ≤ L) (hB : B ≤ 700000) (K : LwC p l e s m below meth c b g h q na ta pa hq hh aa ra sa h2 a2 i (B + 1200) 831) : LwC p l e s m below meth c b g h q na ta pa hq hh aa ra sa h2 a2 i B 461 := by
  intro d0 z V TV SV o n HV NN T k X H locs ls hd0 hR hW hl
  obtain ⟨hx, hb, hr, hml, hts, hown, hlocks, hin⟩ := id hE
  have E := ent_dr hE d0
  have hK : kx g (s.setDrawn d0) := (kq_dr hKq d0).1
  have hX : va_X b L xs (s.setDrawn d0) s.heap := hX
  have hbA : ¬ (fun q : Nat => s.heap.size ≤ q) b := Nat.not_le.mpr hbl
  obtain ⟨⟨cq, hV⟩, ho, hn5, hk, hT, hn9, hH, hSn, htx⟩ := id hR
  have hc : ∀ t, t < 6 → V 3 t = nI (cq t) ∧ cq t ≤ 5 := fun t ht => ⟨(hV.1 t ht).1, (hV.1 t ht).2.1⟩
  have hP := hW.1
  refine lv_aload_n hx hb dL_law_461 rfl (lv_at hl 1 rfl) ?_
  refine call_VU (As := []) (rest := []) E rfl hK hW (c_X4_run l g h q z na V ta TV pa SV hq hh o n aa HV ra NN sa T k ho hn5 hk hT (fun q9 => ok_all hk q9)) ok_X4_run rfl q2_150 [0, 1, 2, 3, 4, 5, 6, 7, 8, 9, 10, 11] rfl (by decide) (b_recv hK hP 0 0 rfl rfl rfl rfl) ⟨⟨rfl, rfl⟩, Nat.le_of_ble_eq_true rfl, Nat.le_of_ble_eq_true rfl⟩ hl.1 (Nat.le_of_ble_eq_true rfl) ⟨Nat.le_refl _, Nat.le_refl _⟩ rfl dL_law_462 (fun u H locs hu hW => ?_)
  obtain ⟨u1, N1⟩ := u
  cases u1
  · have hu : ¬ ffN T k k 0 0 = -5 := hu
    have hW : wd g _ s.heap (lwB g h q na ta pa hq hh aa ra sa h2 a2 z V TV SV o n HV N1 T k V X) H locs := hW
    have hP := hW.1
    refine b_top (y := -100 - ffN T k k 0 0) rfl ?_
    refine lv_aload_n hx hb dL_law_465 rfl (lv_at hl 2 rfl) ?_
    refine call_VU (As := []) (rest := [.int (-100 - ffN T k k 0 0)]) E rfl hK hW (c_X5_run l g h2 a2 V X T k hk hT cq hc n hn9 hn5 htx) ok_X5_run rfl q3_218 [12] rfl (by decide) (b_recv hK hP 12 0 rfl rfl rfl rfl) ⟨⟨rfl, rfl⟩, Nat.le_of_ble_eq_true rfl, Nat.le_of_ble_eq_true rfl⟩ hl.1 (Nat.le_of_ble_eq_true rfl) ⟨Nat.le_refl _, Nat.le_refl _⟩ rfl dL_law_466 (fun u2 H locs hu2 hW => ?_)
    obtain ⟨u1, ⟨X1, j⟩, X2, d⟩ := u2
    obtain ⟨hI1, hns, hu3⟩ := hu2
    have hI1 : isI X X1 T k j := hI1
    have hf : ffN T k k 0 0 = if scA T k j then -5 else nI (endA T k j) := fault_eq hI1 hns
    cases u1
    · have hs : ¬ scA T k j := hu3
      rw [if_neg hs] at hf
      have hW : wd g _ s.heap (lwB g h q na ta pa hq hh aa ra sa h2 a2 z V TV SV o n HV N1 T k V X1) H locs := hW
      have hP := hW.1
      refine lv_icmp_eq (tgt := 831) hx hb dL_law_469 (by decide) (fun _ => ?_) (fun q9 => absurd (congrArg (fun z9 : Int32 => -100 - z9) hf) q9)
      exact K d0 z V TV SV o n HV N1 T k X1 H locs ls hd0 ((hR.isI hI1).mono (by omega)) hW hl
    · have hs : scA T k j := hu3.1
      rw [if_pos hs] at hf
      exact absurd hf hu
  · have hu : ffN T k k 0 0 = -5 := hu
    have hW : wd g _ s.heap (lwB g h q na ta pa hq hh aa ra sa h2 a2 z ((runC T k k 0 0 V NN).2.1) TV SV (recO o n) (recS n) (recH o n HV V) N1 T k V X) H locs := hW
    have hP := hW.1
    refine b_top (y := (runC T k k 0 0 V NN).1) rfl ?_
    refine lv_aload_n hx hb dL_law_465 rfl (lv_at hl 2 rfl) ?_
    refine call_VU (As := []) (rest := [.int ((runC T k k 0 0 V NN).1)]) E rfl hK hW (c_X5_run l g h2 a2 V X T k hk hT cq hc n hn9 hn5 htx) ok_X5_run rfl q3_218 [12] rfl (by decide) (b_recv hK hP 12 0 rfl rfl rfl rfl) ⟨⟨rfl, rfl⟩, Nat.le_of_ble_eq_true rfl, Nat.le_of_ble_eq_true rfl⟩ hl.1 (Nat.le_of_ble_eq_true rfl) ⟨Nat.le_refl _, Nat.le_refl _⟩ rfl dL_law_466 (fun u2 H locs hu2 hW => ?_)
    obtain ⟨u1, ⟨X1, j⟩, X2, d⟩ := u2
    obtain ⟨hI1, hns, hu3⟩ := hu2
    have hI1 : isI X X1 T k j := hI1
    have hf : ffN T k k 0 0 = if scA T k j then -5 else nI (endA T k j) := fault_eq hI1 hns
    cases u1
    · have hs : ¬ scA T k j := hu3
      rw [if_neg hs] at hf
      exact absurd (hf.symm.trans hu) (end_ne hI1.2.2.1 hk)
    · obtain ⟨hs, hrec, hd1, hd2, hd3⟩ := hu3
      have hs : scA T k j := hs
      have hrec : recP V X1 X2 n := hrec
      have hd1 : d ≤ j + 1 := hd1
      have hj : j ≤ 20 := by have e1 : posA T k j ≤ k := hI1.2.2.1; have e2 : 3 * j ≤ posA T k j := hI1.2.2.2.1; omega
      have hp : ∀ z9, z9 ≤ j → posA T k z9 ≤ k := pos_le hI1.2.2.2.2.2.2.2
      have hsc : scr T k j := scr.of hI1 hs
      obtain ⟨hRe, hVe⟩ := run_eq (X := X2) (cq := cq) NN hV (by omega) hj hsc hp hd1 hd2 hd3
      have hI : InvV (runC T k k 0 0 V NN).2.1 cq (B + 54 * d) := by rw [hVe]; exact inv_rn hV (by omega) hj hsc.1 d hd1
      have hW : wd g _ s.heap (lwB g h q na ta pa hq hh aa ra sa h2 a2 z ((runC T k k 0 0 V NN).2.1) TV SV (recO o n) (recS n) (recH o n HV V) N1 T k ((rnM V X2 cq T k d).1) ((rnM V X2 cq T k d).2)) H locs := hW
      have hP := hW.1
      rw [← hVe] at hW
      refine lv_icmp_eq (tgt := 831) hx hb dL_law_469 (by decide) (fun _ => ?_) (fun q9 => absurd hRe q9)
      exact K d0 z ((runC T k k 0 0 V NN).2.1) TV SV (recO o n) (recS n) (recH o n HV V) N1 T k ((rnM V X2 cq T k d).2) H locs ls hd0 ((((hR.isI hI1).rec hrec hI (by omega)).not4 (fun k9 _ q4 => rnM_X V X2 cq T k q4 d)).mono (by omega)) hW hl
end LAW
