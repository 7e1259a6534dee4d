set_option maxHeartbeats 4000000 in
set_option maxRecDepth 100000 in
theorem c_X1_init (l : Launch) (g : gx) (h sz : Nat) : cN (S := Nat → Nat) l g yX1_init cX1_init 1 ({ frames := 1, cells := 4, slots := 48, locals := 24 } : Room) [.ref h] [[(h, .inr (1, [.null, .null, .null, .null, .int 0]))]] sz (fun _ => True) (fun u => [rB g h u r0]) 4 48 := by
  refine cN.mk (by decide +kernel) (Nat.le_of_ble_eq_true rfl) ?_
  intro p e s m below meth c ls E hK hsz hW hl
  obtain ⟨hx, hb, hr, hml, hts, hown, hlocks, hin⟩ := id E
  have hown : s.vm.findClass RX1 = some m.cls := hown
  have hKq := hK
  have hK := hKq.1
  have hA : ∀ q9, s.heap.size ≤ q9 → frN [[(h, .inr (1, [.null, .null, .null, .null, .int 0]))]] sz q9 := fun q9 h9 => Or.inr (by rw [← hsz]; exact h9)
  obtain ⟨H, locs, hH, hlo9⟩ : ∃ (H : Heap) (locs : List Loc), H = s.heap ∧ locs = [] := ⟨_, _, rfl, rfl⟩
  have hW : wd g (frN [[(h, .inr (1, [.null, .null, .null, .null, .int 0]))]] sz) s.heap [[(h, .inr (1, [.null, .null, .null, .null, .int 0]))]] H locs := by rw [hH, hlo9]; exact hW
  rw [show W p l e _ s m _ below meth c s.heap [] 0 0 _ (F0 m 0 ls []) = W p l e _ s m _ below meth c H locs 0 0 _ (F0 m 0 ls []) by rw [hH, hlo9]]
  have hP := hW.1
  have hl : lv_has ls 1 [(0, .ref h)] := hl
  refine lv_aload_n hx hb dX1_init_0 rfl (lv_at hl 0 rfl) ?_
  refine W.objInit hx hb hown (hts _ q1_122) (hts _ q1_14) (hts _ q1_15) rfl (hl.1.trans hml.symm) rfl dX1_init_1 (Nat.le_of_ble_eq_true rfl) (Nat.le_of_ble_eq_true rfl) ?_
  show W p l e _ s m _ below meth c H locs _ _ _ (F0 m 4 ls [])
  refine lv_aload_n hx hb dX1_init_4 rfl (lv_at hl 0 rfl) ?_
  refine lv_bipush (v := 30) hx hb dX1_init_5 (by decide) ?_
  refine b_newi (Bs := []) (b0 := [(h, .inr (1, [.null, .null, .null, .null, .int 0]))]) (N := 30) hx hb hts hKq hW hA (by decide) (by decide +kernel) (Nat.le_of_ble_eq_true rfl) (Nat.le_of_ble_eq_true rfl) (Nat.le_of_ble_eq_true rfl) dX1_init_7 (fun q_1 H hW => ?_)
  have hW : wd g _ s.heap [[(h, .inr (1, [.null, .null, .null, .null, .int 0])), (q_1, .inl (g.2.1, 30, .inl (fun _ => 0)))]] H locs := hW
  have hP := hW.1
  refine b_putF (B' := [[(h, .inr (1, [.ref q_1, .null, .null, .null, .int 0])), (q_1, .inl (g.2.1, 30, .inl (fun _ => 0)))]]) (v := .ref q_1) hx hb hts inX1 tyX1_ok nmX1 hown hK hW 0 0 0 rfl rfl rfl (by decide) q1_123 rfl rfl (hin rfl) rfl rfl (Nat.le_of_ble_eq_true rfl) rfl dX1_init_9 (fun H locs hW => ?_)
  have hP := hW.1
  refine lv_aload_n hx hb dX1_init_12 rfl (lv_at hl 0 rfl) ?_
  refine lv_bipush (v := 6) hx hb dX1_init_13 (by decide) ?_
  refine b_newi (Bs := []) (b0 := [(h, .inr (1, [.ref q_1, .null, .null, .null, .int 0])), (q_1, .inl (g.2.1, 30, .inl (fun _ => 0)))]) (N := 6) hx hb hts hKq hW hA (by decide) (by decide +kernel) (Nat.le_of_ble_eq_true rfl) (Nat.le_of_ble_eq_true rfl) (Nat.le_of_ble_eq_true rfl) dX1_init_15 (fun q_2 H hW => ?_)
  have hW : wd g _ s.heap [[(h, .inr (1, [.ref q_1, .null, .null, .null, .int 0])), (q_1, .inl (g.2.1, 30, .inl (fun _ => 0))), (q_2, .inl (g.2.1, 6, .inl (fun _ => 0)))]] H locs := hW
  have hP := hW.1
  refine b_putF (B' := [[(h, .inr (1, [.ref q_1, .ref q_2, .null, .null, .int 0])), (q_1, .inl (g.2.1, 30, .inl (fun _ => 0))), (q_2, .inl (g.2.1, 6, .inl (fun _ => 0)))]]) (v := .ref q_2) hx hb hts inX1 tyX1_ok nmX1 hown hK hW 0 0 1 rfl rfl rfl (by decide) q1_126 rfl rfl (hin rfl) rfl rfl (Nat.le_of_ble_eq_true rfl) rfl dX1_init_17 (fun H locs hW => ?_)
  have hP := hW.1
  refine lv_aload_n hx hb dX1_init_20 rfl (lv_at hl 0 rfl) ?_
  refine lv_bipush (v := 6) hx hb dX1_init_21 (by decide) ?_
  refine b_newi (Bs := []) (b0 := [(h, .inr (1, [.ref q_1, .ref q_2, .null, .null, .int 0])), (q_1, .inl (g.2.1, 30, .inl (fun _ => 0))), (q_2, .inl (g.2.1, 6, .inl (fun _ => 0)))]) (N := 6) hx hb hts hKq hW hA (by decide) (by decide +kernel) (Nat.le_of_ble_eq_true rfl) (Nat.le_of_ble_eq_true rfl) (Nat.le_of_ble_eq_true rfl) dX1_init_23 (fun q_3 H hW => ?_)
  have hW : wd g _ s.heap [[(h, .inr (1, [.ref q_1, .ref q_2, .null, .null, .int 0])), (q_1, .inl (g.2.1, 30, .inl (fun _ => 0))), (q_2, .inl (g.2.1, 6, .inl (fun _ => 0))), (q_3, .inl (g.2.1, 6, .inl (fun _ => 0)))]] H locs := hW
  have hP := hW.1
  refine b_putF (B' := [[(h, .inr (1, [.ref q_1, .ref q_2, .ref q_3, .null, .int 0])), (q_1, .inl (g.2.1, 30, .inl (fun _ => 0))), (q_2, .inl (g.2.1, 6, .inl (fun _ => 0))), (q_3, .inl (g.2.1, 6, .inl (fun _ => 0)))]]) (v := .ref q_3) hx hb hts inX1 tyX1_ok nmX1 hown hK hW 0 0 2 rfl rfl rfl (by decide) q1_128 rfl rfl (hin rfl) rfl rfl (Nat.le_of_ble_eq_true rfl) rfl dX1_init_25 (fun H locs hW => ?_)
  have hP := hW.1
  refine lv_aload_n hx hb dX1_init_28 rfl (lv_at hl 0 rfl) ?_
  refine lv_bipush (v := 6) hx hb dX1_init_29 (by decide) ?_
  refine b_newi (Bs := []) (b0 := [(h, .inr (1, [.ref q_1, .ref q_2, .ref q_3, .null, .int 0])), (q_1, .inl (g.2.1, 30, .inl (fun _ => 0))), (q_2, .inl (g.2.1, 6, .inl (fun _ => 0))), (q_3, .inl (g.2.1, 6, .inl (fun _ => 0)))]) (N := 6) hx hb hts hKq hW hA (by decide) (by decide +kernel) (Nat.le_of_ble_eq_true rfl) (Nat.le_of_ble_eq_true rfl) (Nat.le_of_ble_eq_true rfl) dX1_init_31 (fun q_4 H hW => ?_)
  have hW : wd g _ s.heap [[(h, .inr (1, [.ref q_1, .ref q_2, .ref q_3, .null, .int 0])), (q_1, .inl (g.2.1, 30, .inl (fun _ => 0))), (q_2, .inl (g.2.1, 6, .inl (fun _ => 0))), (q_3, .inl (g.2.1, 6, .inl (fun _ => 0))), (q_4, .inl (g.2.1, 6, .inl (fun _ => 0)))]] H locs := hW
  have hP := hW.1
  refine b_putF (B' := [[(h, .inr (1, [.ref q_1, .ref q_2, .ref q_3, .ref q_4, .int 0])), (q_1, .inl (g.2.1, 30, .inl (fun _ => 0))), (q_2, .inl (g.2.1, 6, .inl (fun _ => 0))), (q_3, .inl (g.2.1, 6, .inl (fun _ => 0))), (q_4, .inl (g.2.1, 6, .inl (fun _ => 0)))]]) (v := .ref q_4) hx hb hts inX1 tyX1_ok nmX1 hown hK hW 0 0 3 rfl rfl rfl (by decide) q1_130 rfl rfl (hin rfl) rfl rfl (Nat.le_of_ble_eq_true rfl) rfl dX1_init_33 (fun H locs hW => ?_)
  have hP := hW.1
  refine lv_aload_n hx hb dX1_init_36 rfl (lv_at hl 0 rfl) ?_
  refine lv_bipush (v := -5) hx hb dX1_init_37 (by decide) ?_
  refine b_put (B' := [[(h, .inr (1, [.ref q_1, .ref q_2, .ref q_3, .ref q_4, .int (-5)])), (q_1, .inl (g.2.1, 30, .inl (fun _ => 0))), (q_2, .inl (g.2.1, 6, .inl (fun _ => 0))), (q_3, .inl (g.2.1, 6, .inl (fun _ => 0))), (q_4, .inl (g.2.1, 6, .inl (fun _ => 0)))]]) (v := .int (-5)) hx hb hts inX1 tyX1_ok nmX1 hown hK hW 0 0 4 rfl rfl rfl (by decide) q1_133 rfl rfl rfl rfl (Nat.le_of_ble_eq_true rfl) rfl dX1_init_39 (fun H locs hW => ?_)
  have hP := hW.1
  exact uN_ret (fun k9 => ([q_1, q_2, q_3, q_4] : List Nat).getD k9 0) hsz hW hx hb hr hlocks dX1_init_42 trivial (rfl)

set_option maxHeartbeats 4000000 in
set_option maxRecDepth 100000 in
theorem c_X2_init (l : Launch) (g : gx) (h sz : Nat) : cN (S := Nat) l g yX2_init cX2_init 1 ({ frames := 1, cells := 1, slots := 60, locals := 24 } : Room) [.ref h] [[(h, .inr (2, [.null, .int 0]))]] sz (fun _ => True) (fun u => [tB g h u (fun _ => 0) 0]) 1 60 := by
  refine cN.mk (by decide +kernel) (Nat.le_of_ble_eq_true rfl) ?_
  intro p e s m below meth c ls E hK hsz hW hl
  obtain ⟨hx, hb, hr, hml, hts, hown, hlocks, hin⟩ := id E
  have hown : s.vm.findClass RX2 = some m.cls := hown
  have hKq := hK
  have hK := hKq.1
  have hA : ∀ q9, s.heap.size ≤ q9 → frN [[(h, .inr (2, [.null, .int 0]))]] sz q9 := fun q9 h9 => Or.inr (by rw [← hsz]; exact h9)
  obtain ⟨H, locs, hH, hlo9⟩ : ∃ (H : Heap) (locs : List Loc), H = s.heap ∧ locs = [] := ⟨_, _, rfl, rfl⟩
  have hW : wd g (frN [[(h, .inr (2, [.null, .int 0]))]] sz) s.heap [[(h, .inr (2, [.null, .int 0]))]] H locs := by rw [hH, hlo9]; exact hW
  rw [show W p l e _ s m _ below meth c s.heap [] 0 0 _ (F0 m 0 ls []) = W p l e _ s m _ below meth c H locs 0 0 _ (F0 m 0 ls []) by rw [hH, hlo9]]
  have hP := hW.1
  have hl : lv_has ls 1 [(0, .ref h)] := hl
  refine lv_aload_n hx hb dX2_init_0 rfl (lv_at hl 0 rfl) ?_
  refine W.objInit hx hb hown (hts _ q1_151) (hts _ q1_14) (hts _ q1_15) rfl (hl.1.trans hml.symm) rfl dX2_init_1 (Nat.le_of_ble_eq_true rfl) (Nat.le_of_ble_eq_true rfl) ?_
  show W p l e _ s m _ below meth c H locs _ _ _ (F0 m 4 ls [])
  refine lv_aload_n hx hb dX2_init_4 rfl (lv_at hl 0 rfl) ?_
  refine lv_bipush (v := 60) hx hb dX2_init_5 (by decide) ?_
  refine b_newc (Bs := []) (b0 := [(h, .inr (2, [.null, .int 0]))]) (N := 60) hx hb hts hKq hW hA (by decide) (by decide +kernel) (Nat.le_of_ble_eq_true rfl) (Nat.le_of_ble_eq_true rfl) (Nat.le_of_ble_eq_true rfl) dX2_init_7 (fun q_1 H hW => ?_)
  have hW : wd g _ s.heap [[(h, .inr (2, [.null, .int 0])), (q_1, .inl (g.2.2.1, 60, .inl (fun _ => 0)))]] H locs := hW
  have hP := hW.1
  refine b_putF (B' := [[(h, .inr (2, [.ref q_1, .int 0])), (q_1, .inl (g.2.2.1, 60, .inl (fun _ => 0)))]]) (v := .ref q_1) hx hb hts inX2 tyX2_ok nmX2 hown hK hW 0 0 0 rfl rfl rfl (by decide) q1_152 rfl rfl (hin rfl) rfl rfl (Nat.le_of_ble_eq_true rfl) rfl dX2_init_9 (fun H locs hW => ?_)
  have hP := hW.1
  refine lv_aload_n hx hb dX2_init_12 rfl (lv_at hl 0 rfl) ?_
  refine lv_iconst (v := 0) hx hb dX2_init_13 (by decide) ?_
  refine b_put (B' := [[(h, .inr (2, [.ref q_1, .int 0])), (q_1, .inl (g.2.2.1, 60, .inl (fun _ => 0)))]]) (v := .int 0) hx hb hts inX2 tyX2_ok nmX2 hown hK hW 0 0 1 rfl rfl rfl (by decide) q1_153 rfl rfl rfl rfl (Nat.le_of_ble_eq_true rfl) rfl dX2_init_14 (fun H locs hW => ?_)
  have hP := hW.1
  exact uN_ret q_1 hsz hW hx hb hr hlocks dX2_init_17 trivial (rfl)

set_option maxHeartbeats 4000000 in
set_option maxRecDepth 100000 in
theorem c_X0_init (l : Launch) (g : gx) (h sz : Nat) : cN (S := Nat × (Nat → Nat) × (Nat → Nat → Nat)) l g yX0_init cX0_init 2 ({ frames := 2, cells := 66, slots := 810, locals := 45 } : Room) [.ref h] [[(h, .inr (0, [.null, .int 0, .int 0]))]] sz (fun _ => True) (fun u => [hB g h u.1 u.2.1 0 0, vB g (u.2.1 0) (u.2.2 0) (v0 6), vB g (u.2.1 1) (u.2.2 1) (v0 6), vB g (u.2.1 2) (u.2.2 2) (v0 6), vB g (u.2.1 3) (u.2.2 3) (v0 6), vB g (u.2.1 4) (u.2.2 4) (v0 6)]) 66 810 := by
  refine cN.mk (by decide +kernel) (Nat.le_of_ble_eq_true rfl) ?_
  intro p e s m below meth c ls E hK hsz hW hl
  obtain ⟨hx, hb, hr, hml, hts, hown, hlocks, hin⟩ := id E
  have hown : s.vm.findClass RX0 = some m.cls := hown
  have hKq := hK
  have hK := hKq.1
  have hA : ∀ q9, s.heap.size ≤ q9 → frN [[(h, .inr (0, [.null, .int 0, .int 0]))]] sz q9 := fun q9 h9 => Or.inr (by rw [← hsz]; exact h9)
  obtain ⟨H, locs, hH, hlo9⟩ : ∃ (H : Heap) (locs : List Loc), H = s.heap ∧ locs = [] := ⟨_, _, rfl, rfl⟩
  have hW : wd g (frN [[(h, .inr (0, [.null, .int 0, .int 0]))]] sz) s.heap [[(h, .inr (0, [.null, .int 0, .int 0]))]] H locs := by rw [hH, hlo9]; exact hW
  rw [show W p l e _ s m _ below meth c s.heap [] 0 0 _ (F0 m 0 ls []) = W p l e _ s m _ below meth c H locs 0 0 _ (F0 m 0 ls []) by rw [hH, hlo9]]
  have hP := hW.1
  have hl : lv_has ls 2 [(0, .ref h)] := hl
  refine lv_aload_n hx hb dX0_init_0 rfl (lv_at hl 0 rfl) ?_
  refine W.objInit hx hb hown (hts _ q1_102) (hts _ q1_14) (hts _ q1_15) rfl (hl.1.trans hml.symm) rfl dX0_init_1 (Nat.le_of_ble_eq_true rfl) (Nat.le_of_ble_eq_true rfl) ?_
  show W p l e _ s m _ below meth c H locs _ _ _ (F0 m 4 ls [])
  refine lv_aload_n hx hb dX0_init_4 rfl (lv_at hl 0 rfl) ?_
  refine lv_iconst (v := 5) hx hb dX0_init_5 (by decide) ?_
  refine b_newq (Bs := []) (b0 := [(h, .inr (0, [.null, .int 0, .int 0]))]) (N := 5) hx hb hts hown q1_103 hKq hW hA (by decide) (by decide +kernel) (Nat.le_of_ble_eq_true rfl) (Nat.le_of_ble_eq_true rfl) (Nat.le_of_ble_eq_true rfl) dX0_init_6 (fun q_1 H hW => ?_)
  have hW : wd g _ s.heap [[(h, .inr (0, [.null, .int 0, .int 0])), (q_1, .inl (g.2.2.2, 5, .inr (.inr (.inr (.inr (fun _ => none))))))]] H locs := hW
  have hP := hW.1
  refine b_putF (B' := [[(h, .inr (0, [.ref q_1, .int 0, .int 0])), (q_1, .inl (g.2.2.2, 5, .inr (.inr (.inr (.inr (fun _ => none))))))]]) (v := .ref q_1) hx hb hts inX0 tyX0_ok nmX0 hown hK hW 0 0 0 rfl rfl rfl (by decide) q1_106 rfl rfl (hin rfl) rfl rfl (Nat.le_of_ble_eq_true rfl) rfl dX0_init_9 (fun H locs hW => ?_)
  have hP := hW.1
  refine lv_aload_n hx hb dX0_init_12 rfl (lv_at hl 0 rfl) ?_
  refine lv_iconst (v := 0) hx hb dX0_init_13 (by decide) ?_
  refine b_put (B' := [[(h, .inr (0, [.ref q_1, .int 0, .int 0])), (q_1, .inl (g.2.2.2, 5, .inr (.inr (.inr (.inr (fun _ => none))))))]]) (v := .int 0) hx hb hts inX0 tyX0_ok nmX0 hown hK hW 0 0 1 rfl rfl rfl (by decide) q1_107 rfl rfl rfl rfl (Nat.le_of_ble_eq_true rfl) rfl dX0_init_14 (fun H locs hW => ?_)
  have hP := hW.1
  refine lv_aload_n hx hb dX0_init_17 rfl (lv_at hl 0 rfl) ?_
  refine lv_iconst (v := 0) hx hb dX0_init_18 (by decide) ?_
  refine b_put (B' := [[(h, .inr (0, [.ref q_1, .int 0, .int 0])), (q_1, .inl (g.2.2.2, 5, .inr (.inr (.inr (.inr (fun _ => none))))))]]) (v := .int 0) hx hb hts inX0 tyX0_ok nmX0 hown hK hW 0 0 2 rfl rfl rfl (by decide) q1_108 rfl rfl rfl rfl (Nat.le_of_ble_eq_true rfl) rfl dX0_init_19 (fun H locs hW => ?_)
  have hP := hW.1
  refine lv_iconst (v := 0) hx hb dX0_init_22 (by decide) ?_
  refine lv_istore_n (lv' := [(1, .int 0), (0, .ref h)]) hx hb dX0_init_23 rfl hl (by decide) rfl (fun ls hl => ?_)
  have hl : lv_has ls 2 [(1, .int (nI 0)), (0, .ref h)] := hl
  refine lv_iload_n hx hb dX0_init_24 rfl (lv_at hl 0 rfl) ?_
  refine lv_iconst (v := 5) hx hb dX0_init_25 (by decide) ?_
  refine b_ge (tgt := 48) (0) (5) hx hb rfl rfl (by omega) (by omega) dX0_init_26 (by decide) (fun h_2 => ?_) (fun h_2 => ?_)
  · exact absurd h_2 (by omega)
  · refine lv_aload_n hx hb dX0_init_29 rfl (lv_at hl 1 rfl) ?_
    refine b_get (v := .ref q_1) hx hb hts inX0 hown hK hP 0 0 0 rfl rfl rfl (by decide) q1_106 rfl rfl dX0_init_30 ?_
    refine lv_iload_n hx hb dX0_init_33 rfl (lv_at hl 0 rfl) ?_
    refine b_new (ci := 3) (fs := [.null, .null, .null, .null, .null, .null, .null, .null, .null, .null, .null, .null, .int 0, .int 0, .int 0, .int 0, .int 0]) (C := RX3) (T := TX3) (N := 17) hx hb hts inX3 tyX3_ok hown q1_103 q1_17 q1_2 hKq hW hA rfl (fun j9 hj9 => by rcases (show j9 = 0 ∨ j9 = 1 ∨ j9 = 2 ∨ j9 = 3 ∨ j9 = 4 ∨ j9 = 5 ∨ j9 = 6 ∨ j9 = 7 ∨ j9 = 8 ∨ j9 = 9 ∨ j9 = 10 ∨ j9 = 11 ∨ j9 = 12 ∨ j9 = 13 ∨ j9 = 14 ∨ j9 = 15 ∨ j9 = 16 by omega) with rfl | rfl | rfl | rfl | rfl | rfl | rfl | rfl | rfl | rfl | rfl | rfl | rfl | rfl | rfl | rfl | rfl <;> rfl) (Nat.le_of_ble_eq_true rfl) (Nat.le_of_ble_eq_true rfl) dX0_init_34 (fun q_3 H hW => ?_)
    have hW : wd g _ s.heap [[(h, .inr (0, [.ref q_1, .int 0, .int 0])), (q_1, .inl (g.2.2.2, 5, .inr (.inr (.inr (.inr (fun _ => none))))))], [(q_3, .inr (3, [.null, .null, .null, .null, .null, .null, .null, .null, .null, .null, .null, .null, .int 0, .int 0, .int 0, .int 0, .int 0]))]] H locs := hW
    have hP := hW.1
    refine lv_dup hx hb dX0_init_37 rfl ?_
    refine call_IN (Bs := [[(h, .inr (0, [.ref q_1, .int 0, .int 0])), (q_1, .inl (g.2.2.2, 5, .inr (.inr (.inr (.inr (fun _ => none))))))]]) (c0 := [(q_3, .inr (3, [.null, .null, .null, .null, .null, .null, .null, .null, .null, .null, .null, .null, .int 0, .int 0, .int 0, .int 0, .int 0]))]) (As := []) (rest := [.ref q_3, .int (nI 0), .ref q_1]) E rfl hKq hW hA (c_X3_init l g q_3 H.size) okI_X3_init rfl q1_105 ⟨⟨rfl, rfl⟩, Nat.le_of_ble_eq_true rfl, Nat.le_of_ble_eq_true rfl⟩ hl.1 (Nat.le_of_ble_eq_true rfl) ⟨Nat.le_of_ble_eq_true rfl, Nat.le_of_ble_eq_true rfl⟩ rfl dX0_init_38 (fun u_4 H locs _ hW => ?_)
    have hW : wd g _ s.heap [[(h, .inr (0, [.ref q_1, .int 0, .int 0])), (q_1, .inl (g.2.2.2, 5, .inr (.inr (.inr (.inr (fun _ => none))))))], vB g q_3 u_4 (v0 6)] H locs := hW
    have hP := hW.1
    refine b_aast (B' := [[(h, .inr (0, [.ref q_1, .int 0, .int 0])), (q_1, .inl (g.2.2.2, 5, .inr (.inr (.inr (.inr (va_up (fun _ => none) 0 (some q_3)))))))], vB g q_3 u_4 (v0 6)]) hx hb hK hW 0 1 1 0 (0) rfl rfl rfl rfl rfl (by omega) rfl rfl dX0_init_41 (fun H locs hW => ?_)
    have hP := hW.1
    refine lv_iinc (v := nI (0 + 1)) (lv' := [(1, .int (nI (0 + 1))), (0, .ref h)]) hx hb dX0_init_42 hl (k := 0) rfl (nI_add 0 1) (by decide) rfl (fun ls hl => ?_)
    refine lv_goto (tgt := 24) hx hb dX0_init_45 (by decide) ?_
    have hl : lv_has ls 2 [(1, .int (nI 1)), (0, .ref h)] := hl
    refine lv_iload_n hx hb dX0_init_24 rfl (lv_at hl 0 rfl) ?_
    refine lv_iconst (v := 5) hx hb dX0_init_25 (by decide) ?_
    refine b_ge (tgt := 48) (1) (5) hx hb rfl rfl (by omega) (by omega) dX0_init_26 (by decide) (fun h_5 => ?_) (fun h_5 => ?_)
    · exact absurd h_5 (by omega)
    · refine lv_aload_n hx hb dX0_init_29 rfl (lv_at hl 1 rfl) ?_
      refine b_get (v := .ref q_1) hx hb hts inX0 hown hK hP 0 0 0 rfl rfl rfl (by decide) q1_106 rfl rfl dX0_init_30 ?_
      refine lv_iload_n hx hb dX0_init_33 rfl (lv_at hl 0 rfl) ?_
      refine b_new (ci := 3) (fs := [.null, .null, .null, .null, .null, .null, .null, .null, .null, .null, .null, .null, .int 0, .int 0, .int 0, .int 0, .int 0]) (C := RX3) (T := TX3) (N := 17) hx hb hts inX3 tyX3_ok hown q1_103 q1_17 q1_2 hKq hW hA rfl (fun j9 hj9 => by rcases (show j9 = 0 ∨ j9 = 1 ∨ j9 = 2 ∨ j9 = 3 ∨ j9 = 4 ∨ j9 = 5 ∨ j9 = 6 ∨ j9 = 7 ∨ j9 = 8 ∨ j9 = 9 ∨ j9 = 10 ∨ j9 = 11 ∨ j9 = 12 ∨ j9 = 13 ∨ j9 = 14 ∨ j9 = 15 ∨ j9 = 16 by omega) with rfl | rfl | rfl | rfl | rfl | rfl | rfl | rfl | rfl | rfl | rfl | rfl | rfl | rfl | rfl | rfl | rfl <;> rfl) (Nat.le_of_ble_eq_true rfl) (Nat.le_of_ble_eq_true rfl) dX0_init_34 (fun q_6 H hW => ?_)
      have hW : wd g _ s.heap [[(h, .inr (0, [.ref q_1, .int 0, .int 0])), (q_1, .inl (g.2.2.2, 5, .inr (.inr (.inr (.inr (va_up (fun _ => none) 0 (some q_3)))))))], vB g q_3 u_4 (v0 6), [(q_6, .inr (3, [.null, .null, .null, .null, .null, .null, .null, .null, .null, .null, .null, .null, .int 0, .int 0, .int 0, .int 0, .int 0]))]] H locs := hW
      have hP := hW.1
      refine lv_dup hx hb dX0_init_37 rfl ?_
      refine call_IN (Bs := [[(h, .inr (0, [.ref q_1, .int 0, .int 0])), (q_1, .inl (g.2.2.2, 5, .inr (.inr (.inr (.inr (va_up (fun _ => none) 0 (some q_3)))))))], vB g q_3 u_4 (v0 6)]) (c0 := [(q_6, .inr (3, [.null, .null, .null, .null, .null, .null, .null, .null, .null, .null, .null, .null, .int 0, .int 0, .int 0, .int 0, .int 0]))]) (As := []) (rest := [.ref q_6, .int (nI 1), .ref q_1]) E rfl hKq hW hA (c_X3_init l g q_6 H.size) okI_X3_init rfl q1_105 ⟨⟨rfl, rfl⟩, Nat.le_of_ble_eq_true rfl, Nat.le_of_ble_eq_true rfl⟩ hl.1 (Nat.le_of_ble_eq_true rfl) ⟨Nat.le_of_ble_eq_true rfl, Nat.le_of_ble_eq_true rfl⟩ rfl dX0_init_38 (fun u_7 H locs _ hW => ?_)
      have hW : wd g _ s.heap [[(h, .inr (0, [.ref q_1, .int 0, .int 0])), (q_1, .inl (g.2.2.2, 5, .inr (.inr (.inr (.inr (va_up (fun _ => none) 0 (some q_3)))))))], vB g q_3 u_4 (v0 6), vB g q_6 u_7 (v0 6)] H locs := hW
      have hP := hW.1
      refine b_aast (B' := [[(h, .inr (0, [.ref q_1, .int 0, .int 0])), (q_1, .inl (g.2.2.2, 5, .inr (.inr (.inr (.inr (va_up (va_up (fun _ => none) 0 (some q_3)) 1 (some q_6)))))))], vB g q_3 u_4 (v0 6), vB g q_6 u_7 (v0 6)]) hx hb hK hW 0 1 2 0 (1) rfl rfl rfl rfl rfl (by omega) rfl rfl dX0_init_41 (fun H locs hW => ?_)
      have hP := hW.1
      refine lv_iinc (v := nI (1 + 1)) (lv' := [(1, .int (nI (1 + 1))), (0, .ref h)]) hx hb dX0_init_42 hl (k := 0) rfl (nI_add 1 1) (by decide) rfl (fun ls hl => ?_)
      refine lv_goto (tgt := 24) hx hb dX0_init_45 (by decide) ?_
      have hl : lv_has ls 2 [(1, .int (nI 2)), (0, .ref h)] := hl
      refine lv_iload_n hx hb dX0_init_24 rfl (lv_at hl 0 rfl) ?_
      refine lv_iconst (v := 5) hx hb dX0_init_25 (by decide) ?_
      refine b_ge (tgt := 48) (2) (5) hx hb rfl rfl (by omega) (by omega) dX0_init_26 (by decide) (fun h_8 => ?_) (fun h_8 => ?_)
      · exact absurd h_8 (by omega)
      · refine lv_aload_n hx hb dX0_init_29 rfl (lv_at hl 1 rfl) ?_
        refine b_get (v := .ref q_1) hx hb hts inX0 hown hK hP 0 0 0 rfl rfl rfl (by decide) q1_106 rfl rfl dX0_init_30 ?_
        refine lv_iload_n hx hb dX0_init_33 rfl (lv_at hl 0 rfl) ?_
        refine b_new (ci := 3) (fs := [.null, .null, .null, .null, .null, .null, .null, .null, .null, .null, .null, .null, .int 0, .int 0, .int 0, .int 0, .int 0]) (C := RX3) (T := TX3) (N := 17) hx hb hts inX3 tyX3_ok hown q1_103 q1_17 q1_2 hKq hW hA rfl (fun j9 hj9 => by rcases (show j9 = 0 ∨ j9 = 1 ∨ j9 = 2 ∨ j9 = 3 ∨ j9 = 4 ∨ j9 = 5 ∨ j9 = 6 ∨ j9 = 7 ∨ j9 = 8 ∨ j9 = 9 ∨ j9 = 10 ∨ j9 = 11 ∨ j9 = 12 ∨ j9 = 13 ∨ j9 = 14 ∨ j9 = 15 ∨ j9 = 16 by omega) with rfl | rfl | rfl | rfl | rfl | rfl | rfl | rfl | rfl | rfl | rfl | rfl | rfl | rfl | rfl | rfl | rfl <;> rfl) (Nat.le_of_ble_eq_true rfl) (Nat.le_of_ble_eq_true rfl) dX0_init_34 (fun q_9 H hW => ?_)
        have hW : wd g _ s.heap [[(h, .inr (0, [.ref q_1, .int 0, .int 0])), (q_1, .inl (g.2.2.2, 5, .inr (.inr (.inr (.inr (va_up (va_up (fun _ => none) 0 (some q_3)) 1 (some q_6)))))))], vB g q_3 u_4 (v0 6), vB g q_6 u_7 (v0 6), [(q_9, .inr (3, [.null, .null, .null, .null, .null, .null, .null, .null, .null, .null, .null, .null, .int 0, .int 0, .int 0, .int 0, .int 0]))]] H locs := hW
        have hP := hW.1
        refine lv_dup hx hb dX0_init_37 rfl ?_
        refine call_IN (Bs := [[(h, .inr (0, [.ref q_1, .int 0, .int 0])), (q_1, .inl (g.2.2.2, 5, .inr (.inr (.inr (.inr (va_up (va_up (fun _ => none) 0 (some q_3)) 1 (some q_6)))))))], vB g q_3 u_4 (v0 6), vB g q_6 u_7 (v0 6)]) (c0 := [(q_9, .inr (3, [.null, .null, .null, .null, .null, .null, .null, .null, .null, .null, .null, .null, .int 0, .int 0, .int 0, .int 0, .int 0]))]) (As := []) (rest := [.ref q_9, .int (nI 2), .ref q_1]) E rfl hKq hW hA (c_X3_init l g q_9 H.size) okI_X3_init rfl q1_105 ⟨⟨rfl, rfl⟩, Nat.le_of_ble_eq_true rfl, Nat.le_of_ble_eq_true rfl⟩ hl.1 (Nat.le_of_ble_eq_true rfl) ⟨Nat.le_of_ble_eq_true rfl, Nat.le_of_ble_eq_true rfl⟩ rfl dX0_init_38 (fun u_10 H locs _ hW => ?_)
        have hW : wd g _ s.heap [[(h, .inr (0, [.ref q_1, .int 0, .int 0])), (q_1, .inl (g.2.2.2, 5, .inr (.inr (.inr (.inr (va_up (va_up (fun _ => none) 0 (some q_3)) 1 (some q_6)))))))], vB g q_3 u_4 (v0 6), vB g q_6 u_7 (v0 6), vB g q_9 u_10 (v0 6)] H locs := hW
        have hP := hW.1
        refine b_aast (B' := [[(h, .inr (0, [.ref q_1, .int 0, .int 0])), (q_1, .inl (g.2.2.2, 5, .inr (.inr (.inr (.inr (va_up (va_up (va_up (fun _ => none) 0 (some q_3)) 1 (some q_6)) 2 (some q_9)))))))], vB g q_3 u_4 (v0 6), vB g q_6 u_7 (v0 6), vB g q_9 u_10 (v0 6)]) hx hb hK hW 0 1 3 0 (2) rfl rfl rfl rfl rfl (by omega) rfl rfl dX0_init_41 (fun H locs hW => ?_)
        have hP := hW.1
        refine lv_iinc (v := nI (2 + 1)) (lv' := [(1, .int (nI (2 + 1))), (0, .ref h)]) hx hb dX0_init_42 hl (k := 0) rfl (nI_add 2 1) (by decide) rfl (fun ls hl => ?_)
        refine lv_goto (tgt := 24) hx hb dX0_init_45 (by decide) ?_
        have hl : lv_has ls 2 [(1, .int (nI 3)), (0, .ref h)] := hl
        refine lv_iload_n hx hb dX0_init_24 rfl (lv_at hl 0 rfl) ?_
        refine lv_iconst (v := 5) hx hb dX0_init_25 (by decide) ?_
        refine b_ge (tgt := 48) (3) (5) hx hb rfl rfl (by omega) (by omega) dX0_init_26 (by decide) (fun h_11 => ?_) (fun h_11 => ?_)
        · exact absurd h_11 (by omega)
        · refine lv_aload_n hx hb dX0_init_29 rfl (lv_at hl 1 rfl) ?_
          refine b_get (v := .ref q_1) hx hb hts inX0 hown hK hP 0 0 0 rfl rfl rfl (by decide) q1_106 rfl rfl dX0_init_30 ?_
          refine lv_iload_n hx hb dX0_init_33 rfl (lv_at hl 0 rfl) ?_
          refine b_new (ci := 3) (fs := [.null, .null, .null, .null, .null, .null, .null, .null, .null, .null, .null, .null, .int 0, .int 0, .int 0, .int 0, .int 0]) (C := RX3) (T := TX3) (N := 17) hx hb hts inX3 tyX3_ok hown q1_103 q1_17 q1_2 hKq hW hA rfl (fun j9 hj9 => by rcases (show j9 = 0 ∨ j9 = 1 ∨ j9 = 2 ∨ j9 = 3 ∨ j9 = 4 ∨ j9 = 5 ∨ j9 = 6 ∨ j9 = 7 ∨ j9 = 8 ∨ j9 = 9 ∨ j9 = 10 ∨ j9 = 11 ∨ j9 = 12 ∨ j9 = 13 ∨ j9 = 14 ∨ j9 = 15 ∨ j9 = 16 by omega) with rfl | rfl | rfl | rfl | rfl | rfl | rfl | rfl | rfl | rfl | rfl | rfl | rfl | rfl | rfl | rfl | rfl <;> rfl) (Nat.le_of_ble_eq_true rfl) (Nat.le_of_ble_eq_true rfl) dX0_init_34 (fun q_12 H hW => ?_)
          have hW : wd g _ s.heap [[(h, .inr (0, [.ref q_1, .int 0, .int 0])), (q_1, .inl (g.2.2.2, 5, .inr (.inr (.inr (.inr (va_up (va_up (va_up (fun _ => none) 0 (some q_3)) 1 (some q_6)) 2 (some q_9)))))))], vB g q_3 u_4 (v0 6), vB g q_6 u_7 (v0 6), vB g q_9 u_10 (v0 6), [(q_12, .inr (3, [.null, .null, .null, .null, .null, .null, .null, .null, .null, .null, .null, .null, .int 0, .int 0, .int 0, .int 0, .int 0]))]] H locs := hW
          have hP := hW.1
          refine lv_dup hx hb dX0_init_37 rfl ?_
          refine call_IN (Bs := [[(h, .inr (0, [.ref q_1, .int 0, .int 0])), (q_1, .inl (g.2.2.2, 5, .inr (.inr (.inr (.inr (va_up (va_up (va_up (fun _ => none) 0 (some q_3)) 1 (some q_6)) 2 (some q_9)))))))], vB g q_3 u_4 (v0 6), vB g q_6 u_7 (v0 6), vB g q_9 u_10 (v0 6)]) (c0 := [(q_12, .inr (3, [.null, .null, .null, .null, .null, .null, .null, .null, .null, .null, .null, .null, .int 0, .int 0, .int 0, .int 0, .int 0]))]) (As := []) (rest := [.ref q_12, .int (nI 3), .ref q_1]) E rfl hKq hW hA (c_X3_init l g q_12 H.size) okI_X3_init rfl q1_105 ⟨⟨rfl, rfl⟩, Nat.le_of_ble_eq_true rfl, Nat.le_of_ble_eq_true rfl⟩ hl.1 (Nat.le_of_ble_eq_true rfl) ⟨Nat.le_of_ble_eq_true rfl, Nat.le_of_ble_eq_true rfl⟩ rfl dX0_init_38 (fun u_13 H locs _ hW => ?_)
          have hW : wd g _ s.heap [[(h, .inr (0, [.ref q_1, .int 0, .int 0])), (q_1, .inl (g.2.2.2, 5, .inr (.inr (.inr (.inr (va_up (va_up (va_up (fun _ => none) 0 (some q_3)) 1 (some q_6)) 2 (some q_9)))))))], vB g q_3 u_4 (v0 6), vB g q_6 u_7 (v0 6), vB g q_9 u_10 (v0 6), vB g q_12 u_13 (v0 6)] H locs := hW
          have hP := hW.1
          refine b_aast (B' := [[(h, .inr (0, [.ref q_1, .int 0, .int 0])), (q_1, .inl (g.2.2.2, 5, .inr (.inr (.inr (.inr (va_up (va_up (va_up (va_up (fun _ => none) 0 (some q_3)) 1 (some q_6)) 2 (some q_9)) 3 (some q_12)))))))], vB g q_3 u_4 (v0 6), vB g q_6 u_7 (v0 6), vB g q_9 u_10 (v0 6), vB g q_12 u_13 (v0 6)]) hx hb hK hW 0 1 4 0 (3) rfl rfl rfl rfl rfl (by omega) rfl rfl dX0_init_41 (fun H locs hW => ?_)
          have hP := hW.1
          refine lv_iinc (v := nI (3 + 1)) (lv' := [(1, .int (nI (3 + 1))), (0, .ref h)]) hx hb dX0_init_42 hl (k := 0) rfl (nI_add 3 1) (by decide) rfl (fun ls hl => ?_)
          refine lv_goto (tgt := 24) hx hb dX0_init_45 (by decide) ?_
          have hl : lv_has ls 2 [(1, .int (nI 4)), (0, .ref h)] := hl
          refine lv_iload_n hx hb dX0_init_24 rfl (lv_at hl 0 rfl) ?_
          refine lv_iconst (v := 5) hx hb dX0_init_25 (by decide) ?_
          refine b_ge (tgt := 48) (4) (5) hx hb rfl rfl (by omega) (by omega) dX0_init_26 (by decide) (fun h_14 => ?_) (fun h_14 => ?_)
          · exact absurd h_14 (by omega)
          · refine lv_aload_n hx hb dX0_init_29 rfl (lv_at hl 1 rfl) ?_
            refine b_get (v := .ref q_1) hx hb hts inX0 hown hK hP 0 0 0 rfl rfl rfl (by decide) q1_106 rfl rfl dX0_init_30 ?_
            refine lv_iload_n hx hb dX0_init_33 rfl (lv_at hl 0 rfl) ?_
            refine b_new (ci := 3) (fs := [.null, .null, .null, .null, .null, .null, .null, .null, .null, .null, .null, .null, .int 0, .int 0, .int 0, .int 0, .int 0]) (C := RX3) (T := TX3) (N := 17) hx hb hts inX3 tyX3_ok hown q1_103 q1_17 q1_2 hKq hW hA rfl (fun j9 hj9 => by rcases (show j9 = 0 ∨ j9 = 1 ∨ j9 = 2 ∨ j9 = 3 ∨ j9 = 4 ∨ j9 = 5 ∨ j9 = 6 ∨ j9 = 7 ∨ j9 = 8 ∨ j9 = 9 ∨ j9 = 10 ∨ j9 = 11 ∨ j9 = 12 ∨ j9 = 13 ∨ j9 = 14 ∨ j9 = 15 ∨ j9 = 16 by omega) with rfl | rfl | rfl | rfl | rfl | rfl | rfl | rfl | rfl | rfl | rfl | rfl | rfl | rfl | rfl | rfl | rfl <;> rfl) (Nat.le_of_ble_eq_true rfl) (Nat.le_of_ble_eq_true rfl) dX0_init_34 (fun q_15 H hW => ?_)
            have hW : wd g _ s.heap [[(h, .inr (0, [.ref q_1, .int 0, .int 0])), (q_1, .inl (g.2.2.2, 5, .inr (.inr (.inr (.inr (va_up (va_up (va_up (va_up (fun _ => none) 0 (some q_3)) 1 (some q_6)) 2 (some q_9)) 3 (some q_12)))))))], vB g q_3 u_4 (v0 6), vB g q_6 u_7 (v0 6), vB g q_9 u_10 (v0 6), vB g q_12 u_13 (v0 6), [(q_15, .inr (3, [.null, .null, .null, .null, .null, .null, .null, .null, .null, .null, .null, .null, .int 0, .int 0, .int 0, .int 0, .int 0]))]] H locs := hW
            have hP := hW.1
            refine lv_dup hx hb dX0_init_37 rfl ?_
            refine call_IN (Bs := [[(h, .inr (0, [.ref q_1, .int 0, .int 0])), (q_1, .inl (g.2.2.2, 5, .inr (.inr (.inr (.inr (va_up (va_up (va_up (va_up (fun _ => none) 0 (some q_3)) 1 (some q_6)) 2 (some q_9)) 3 (some q_12)))))))], vB g q_3 u_4 (v0 6), vB g q_6 u_7 (v0 6), vB g q_9 u_10 (v0 6), vB g q_12 u_13 (v0 6)]) (c0 := [(q_15, .inr (3, [.null, .null, .null, .null, .null, .null, .null, .null, .null, .null, .null, .null, .int 0, .int 0, .int 0, .int 0, .int 0]))]) (As := []) (rest := [.ref q_15, .int (nI 4), .ref q_1]) E rfl hKq hW hA (c_X3_init l g q_15 H.size) okI_X3_init rfl q1_105 ⟨⟨rfl, rfl⟩, Nat.le_of_ble_eq_true rfl, Nat.le_of_ble_eq_true rfl⟩ hl.1 (Nat.le_of_ble_eq_true rfl) ⟨Nat.le_of_ble_eq_true rfl, Nat.le_of_ble_eq_true rfl⟩ rfl dX0_init_38 (fun u_16 H locs _ hW => ?_)
            have hW : wd g _ s.heap [[(h, .inr (0, [.ref q_1, .int 0, .int 0])), (q_1, .inl (g.2.2.2, 5, .inr (.inr (.inr (.inr (va_up (va_up (va_up (va_up (fun _ => none) 0 (some q_3)) 1 (some q_6)) 2 (some q_9)) 3 (some q_12)))))))], vB g q_3 u_4 (v0 6), vB g q_6 u_7 (v0 6), vB g q_9 u_10 (v0 6), vB g q_12 u_13 (v0 6), vB g q_15 u_16 (v0 6)] H locs := hW
            have hP := hW.1
            refine b_aast (B' := [[(h, .inr (0, [.ref q_1, .int 0, .int 0])), (q_1, .inl (g.2.2.2, 5, .inr (.inr (.inr (.inr (va_up (va_up (va_up (va_up (va_up (fun _ => none) 0 (some q_3)) 1 (some q_6)) 2 (some q_9)) 3 (some q_12)) 4 (some q_15)))))))], vB g q_3 u_4 (v0 6), vB g q_6 u_7 (v0 6), vB g q_9 u_10 (v0 6), vB g q_12 u_13 (v0 6), vB g q_15 u_16 (v0 6)]) hx hb hK hW 0 1 5 0 (4) rfl rfl rfl rfl rfl (by omega) rfl rfl dX0_init_41 (fun H locs hW => ?_)
            have hP := hW.1
            refine lv_iinc (v := nI (4 + 1)) (lv' := [(1, .int (nI (4 + 1))), (0, .ref h)]) hx hb dX0_init_42 hl (k := 0) rfl (nI_add 4 1) (by decide) rfl (fun ls hl => ?_)
            refine lv_goto (tgt := 24) hx hb dX0_init_45 (by decide) ?_
            have hl : lv_has ls 2 [(1, .int (nI 5)), (0, .ref h)] := hl
            refine lv_iload_n hx hb dX0_init_24 rfl (lv_at hl 0 rfl) ?_
            refine lv_iconst (v := 5) hx hb dX0_init_25 (by decide) ?_
            refine b_ge (tgt := 48) (5) (5) hx hb rfl rfl (by omega) (by omega) dX0_init_26 (by decide) (fun h_17 => ?_) (fun h_17 => ?_)
            · have hW := wd_rowq hW 0 1 rfl rfl (f' := fun i9 => some ((fun k9 => ([q_3, q_6, q_9, q_12, q_15] : List Nat).getD k9 0) i9)) (fun j9 hj9 => by rcases (show j9 = 0 ∨ j9 = 1 ∨ j9 = 2 ∨ j9 = 3 ∨ j9 = 4 by omega) with rfl | rfl | rfl | rfl | rfl <;> rfl) rfl
              exact uN_ret (q_1, (fun k9 => ([q_3, q_6, q_9, q_12, q_15] : List Nat).getD k9 0), (fun k9 => ([u_4, u_7, u_10, u_13, u_16] : List (Nat → Nat)).getD k9 (fun _ => 0))) hsz hW hx hb hr hlocks dX0_init_48 trivial (rfl)
            · exact absurd h_17 (by omega)
