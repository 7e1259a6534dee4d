set_option maxHeartbeats 4000000 in
set_option maxRecDepth 100000 in
theorem c_X5_run (l : Launch) (g : gx) (h : Nat) (a : Nat → Nat) (V X : sV) (T : Nat → Nat) (k : Nat) (hk : k ≤ 60) (hT : ∀ i, T i < 127) (cq : Nat → Nat) (hc : ∀ t, t < 6 → V 3 t = nI (cq t) ∧ cq t ≤ 5) (n : Nat) (hn : X 9 0 = nI n) (hn5 : n ≤ 5) (htx : txP X T k) : cU (S := Bool × (sV × Nat) × sV × Nat) l g yX5_run cX5_run 2 (some .int) ({ frames := 8, cells := 0, slots := 0, locals := 179 } : Room) [.ref h] [mV g h a V X] (fun u => some (.int (bif u.1 then nI u.2.2.2 else -100 - nI (endA T k u.2.1.2)))) (fun u => isI X u.2.1.1 T k u.2.1.2 ∧ (okA T k u.2.1.2 → ¬ sepA T k u.2.1.2) ∧ (bif u.1 then (scA T k u.2.1.2 ∧ recP V u.2.1.1 u.2.2.1 n ∧ u.2.2.2 ≤ u.2.1.2 + 1 ∧ (∀ j, j < u.2.2.2 → dnA V u.2.2.1 cq T k j) ∧ (u.2.2.2 < u.2.1.2 + 1 → ¬ dnA V u.2.2.1 cq T k u.2.2.2)) else ¬ scA T k u.2.1.2)) (fun u => [mV g h a (bif u.1 then (rnM V u.2.2.1 cq T k u.2.2.2).1 else V) (bif u.1 then (rnM V u.2.2.1 cq T k u.2.2.2).2 else u.2.1.1)]) := by
  refine cU.mk (by decide +kernel) (Nat.le_of_ble_eq_true rfl) ?_
  intro p e s m below meth c ls E hK hW hl
  obtain ⟨hx, hb, hr, hml, hts, hown, hlocks, hin⟩ := id E
  have hown : s.vm.findClass RX5 = some m.cls := hown
  have hP := hW.1
  have hl : lv_has ls 2 [(0, .ref h)] := hl
  refine lv_aload_n hx hb dX5_run_0 rfl (lv_at hl 0 rfl) ?_
  refine call_VU (As := []) (rest := []) E rfl hK hW (c_X5_isScript l g h a V X T k hk hT htx) ok_X5_isScript rfl q3_206 [0] rfl (by decide) (b_recv hK hP 0 0 rfl rfl rfl rfl) ⟨⟨rfl, rfl⟩, Nat.le_of_ble_eq_true rfl, Nat.le_of_ble_eq_true rfl⟩ hl.1 (Nat.le_of_ble_eq_true rfl) ⟨Nat.le_of_ble_eq_true rfl, Nat.le_of_ble_eq_true rfl⟩ rfl dX5_run_1 (fun US H locs hUS hW => ?_)
  have hW : wd g _ s.heap [mV g h a V US.1] H locs := hW
  have hP := hW.1
  refine b_ne0 (tgt := 15) hx hb dX5_run_4 (by decide) (fun h_1 => ?_) (fun h_1 => ?_)
  · have hsc := h_1
    refine lv_aload_n hx hb dX5_run_15 rfl (lv_at hl 0 rfl) ?_
    refine call_VU (As := []) (rest := []) E rfl hK hW (c_X5_record l g h a V US.1 n ((hUS.1.2.1 0 (by omega) (by omega)).trans hn) hn5) ok_X5_record rfl q3_80 [0] rfl (by decide) (b_recv hK hP 0 0 rfl rfl rfl rfl) ⟨⟨rfl, rfl⟩, Nat.le_of_ble_eq_true rfl, Nat.le_of_ble_eq_true rfl⟩ hl.1 (Nat.le_of_ble_eq_true rfl) ⟨Nat.le_of_ble_eq_true rfl, Nat.le_of_ble_eq_true rfl⟩ rfl dX5_run_16 (fun UR H locs hUR hW => ?_)
    have hW : wd g _ s.heap [mV g h a V UR] H locs := hW
    have hP := hW.1
    have hN9 : ∀ z9, UR 9 z9 = if z9 = 0 then UR 9 0 else US.1 9 z9 := fun z9 => by by_cases e9 : z9 = 0; (rw [if_pos e9, e9]); (rw [if_neg e9, hUR.2.1 z9 e9])
    have hnum : numA T k US.2 = US.2 + 1 := by rw [numA, if_pos hsc.1]
    have h3p := hUS.1.2.2.2.1
    have hpk := hUS.1.2.2.1
    refine lv_iconst (v := 0) hx hb dX5_run_19 (by decide) ?_
    refine lv_istore_n (lv' := [(1, .int 0), (0, .ref h)]) hx hb dX5_run_20 rfl hl (by decide) rfl (fun ls hl => ?_)
    refine loopN (fun j : Nat => ∀ (H : Heap) (locs : List Loc) (ls : Array Slot), wd g (fun z9 => z9 ∈ adr [mV g h a V X]) s.heap [mV g h a ((rnM V UR cq T k j).1) ((rnM V UR cq T k j).2)] H locs → lv_has ls 2 [(0, .ref h), (1, .int (nI j))] → (∀ z9, z9 < j → dnA V UR cq T k z9) → W p l e _ s m _ below meth c H locs 0 0 _ (F0 m 21 ls [])) (US.2 + 1) (fun j hj ih_j => ?_) (0) (by omega)  H locs ls hW (lv_sub hl [1, 0] rfl) (fun z9 h9 => absurd h9 (Nat.not_lt_zero _))
    intro  H locs ls hW hl hd
    have hP := hW.1
    refine lv_iload_n hx hb dX5_run_21 rfl (lv_at hl 1 rfl) ?_
    refine lv_aload_n hx hb dX5_run_22 rfl (lv_at hl 0 rfl) ?_
    refine b_get (v := .int ((rnM V UR cq T k j).2 9 4)) hx hb hts inX5 hown hK hP 0 0 10 rfl rfl rfl (by decide) q3_35 rfl rfl dX5_run_23 ?_
    refine b_top (y := nI (US.2 + 1)) (by rw [rnM_X _ _ _ _ _ (by omega), hN9 4, if_neg (by omega), hUS.1.2.2.2.2.2.1, hnum]) ?_
    refine b_ge (tgt := 43) (j) ((US.2 + 1)) hx hb rfl rfl (by omega) (by omega) dX5_run_26 (by decide) (fun h_2 => ?_) (fun h_2 => ?_)
    · refine lv_iload_n hx hb dX5_run_43 rfl (lv_at hl 1 rfl) ?_
      exact uI_ret (true, US, UR, j) hW hx hb hr hlocks dX5_run_44 (rfl) ⟨hUS.1, hUS.2, hsc, hUR, hj, hd, fun q9 => by first | exact h_2 | exact absurd q9 (by show ¬ j < US.2 + 1; omega)⟩ (by first | exact rfl | (rw [rnM_no h_2]; rfl)) (adr2 (L := [[h, a 0, a 1, a 2, a 3, a 4, a 5, a 6, a 7, a 8]]) rfl rfl)
    · have hokj : okA T k j := by by_cases e9 : j = US.2; (rw [e9]; exact hsc.1); exact (hUS.1.2.2.2.2.2.2.2 j (by omega)).1
      have hor := rdR_ok hokj
      have hq9 := hUS.1.2.2.2.2.2.2.1 j (by omega)
      have hq7 : US.1 7 j = nI (T (posA T k j + 1) - 48) := hq9.2.1.trans (pk_sub (a := T (posA T k j + 1)) (b := 48) (by omega))
      have hq5 : ¬ T (posA T k j) = 116 → ¬ T (posA T k j) = 112 → (rdR T k (posA T k j)).2.2 = nI (T (posA T k j + 2) - 48) ∧ T (posA T k j + 2) - 48 < 5 := fun e8 e9 => by (rcases hor with q8 | q8 | q8); (exact absurd q8.1 e8); (exact absurd q8.1 e9); (exact ⟨q8.2.2.2.trans (pk_sub (a := T (posA T k j + 2)) (b := 48) (by omega)), by omega⟩)
      refine lv_aload_n hx hb dX5_run_29 rfl (lv_at hl 0 rfl) ?_
      refine lv_iload_n hx hb dX5_run_30 rfl (lv_at hl 1 rfl) ?_
      refine call_VU (As := [.int (nI j)]) (rest := []) E rfl hK hW (c_X5_isDone l g h a ((rnM V UR cq T k j).1) ((rnM V UR cq T k j).2) cq (fun t9 ht9 => by rw [rnM_3]; exact hc t9 ht9) j (T (posA T k j)) ((T (posA T k j + 1)) - 48) ((T (posA T k j + 2)) - 48) ((rdR T k (posA T k j)).2.2) (by omega) (by rw [rnM_X _ _ _ _ _ (by omega), hUR.1 6 (by omega) (by omega)]; exact hq9.1) (by rw [rnM_X _ _ _ _ _ (by omega), hUR.1 7 (by omega) (by omega)]; exact hq7) (by rw [rnM_X _ _ _ _ _ (by omega), hUR.1 8 (by omega) (by omega)]; exact hq9.2.2) (by have := hT (posA T k j); omega) (fun q9 => by omega) (by have := hT (posA T k j + 1); omega) hq5) ok_X5_isDone rfl q3_222 [0] rfl (by decide) (b_recv hK hP 0 0 rfl rfl rfl rfl) ⟨⟨rfl, rfl⟩, Nat.le_of_ble_eq_true rfl, Nat.le_of_ble_eq_true rfl⟩ hl.1 (Nat.le_of_ble_eq_true rfl) ⟨Nat.le_of_ble_eq_true rfl, Nat.le_of_ble_eq_true rfl⟩ rfl dX5_run_31 (fun _u H locs _ hW => ?_)
      have hW : wd g _ s.heap [mV g h a ((rnM V UR cq T k (j + 1)).1) ((rnM V UR cq T k (j + 1)).2)] H locs := hW
      have hP := hW.1
      refine b_eq0 (tgt := 43) hx hb dX5_run_34 (by decide) (fun h_3 => ?_) (fun h_3 => ?_)
      · refine lv_iload_n hx hb dX5_run_43 rfl (lv_at hl 1 rfl) ?_
        exact uI_ret (true, US, UR, j) hW hx hb hr hlocks dX5_run_44 (rfl) ⟨hUS.1, hUS.2, hsc, hUR, hj, hd, fun q9 => by first | exact h_3 | exact absurd q9 (by show ¬ j < US.2 + 1; omega)⟩ (by first | exact rfl | (rw [rnM_no h_3]; rfl)) (adr2 (L := [[h, a 0, a 1, a 2, a 3, a 4, a 5, a 6, a 7, a 8]]) rfl rfl)
      · refine lv_iinc (v := nI (j + 1)) (lv' := [(1, .int (nI (j + 1))), (0, .ref h)]) hx hb dX5_run_37 hl (k := 1) rfl (nI_add j 1) (by decide) rfl (fun ls hl => ?_)
        refine lv_goto (tgt := 21) hx hb dX5_run_40 (by decide) ?_
        exact ih_j (by omega)  _ _ _ hW (lv_sub hl [1, 0] rfl) (fun z9 h9 => by by_cases e9 : z9 = j; (rw [e9]; exact h_3); exact hd z9 (by omega))
  · have hsc := h_1
    refine lv_bipush (v := -100) hx hb dX5_run_7 (by decide) ?_
    refine lv_aload_n hx hb dX5_run_9 rfl (lv_at hl 0 rfl) ?_
    refine b_get (v := .int (US.1 9 3)) hx hb hts inX5 hown hK hP 0 0 9 rfl rfl rfl (by decide) q3_34 rfl rfl dX5_run_10 ?_
    refine lv_isub hx hb dX5_run_13 ?_
    exact uI_ret (false, US, X, 0) hW hx hb hr hlocks dX5_run_14 (by simp only [cond_false]; rw [hUS.1.2.2.2.2.1]) ⟨hUS.1, hUS.2, hsc⟩ (rfl) (adr2 (L := [[h, a 0, a 1, a 2, a 3, a 4, a 5, a 6, a 7, a 8]]) rfl rfl)
