set_option maxHeartbeats 4000000 in
set_option maxRecDepth 100000 in
theorem c_X1_init (l : Launch) (g : gx) (h sz : Nat) : cN (S := Nat → Nat) l g yX1_init cX1_init 1 ({ frames := 1, cells := 4, slots := 48, locals := 24 } : Room) [.ref h] [[(h, .inr (1, [.null, .null, .null, .null, .int 0]))]] sz (fun _ => True) (fun u => [rB g h u r0]) 4 48 := by
  refine cN.mk (by decide +kernel) (Nat.le_of_ble_eq_true rfl) ?_
  intro p e s m below meth c ls E hK hsz hW hl
  obtain ⟨hx, hb, hr, hml, hts, hown, hlocks, hin⟩ := id E
  have hown : s.vm.findClass RX1 = some m.cls := hown
  have hKq := hK
  have hK := hKq.1
  have hA : ∀ q9, s.heap.size ≤ q9 → frN [[(h, .inr (1, [.null, .null, .null, .null, .int 0]))]] sz q9 := fun q9 h9 => Or.inr (by rw [← hsz]; exact h9)
  obtain ⟨H, locs, hH, hlo9⟩ : ∃ (H : Heap) (locs : List Loc), H = s.heap ∧ locs = [] := ⟨_, _, rfl, rfl⟩
  have hW : wd g (frN [[(h, .inr (1, [.null, .null, .null, .null, .int 0]))]] sz) s.heap [[(h, .inr (1, [.null, .null, .null, .null, .int 0]))]] H locs := by rw [hH, hlo9]; exact hW
  rw [show W p l e _ s m _ below meth c s.heap [] 0 0 _ (F0 m 0 ls []) = W p l e _ s m _ below meth c H locs 0 0 _ (F0 m 0 ls []) by rw [hH, hlo9]]
  have hP := hW.1
  have hl : lv_has ls 1 [(0, .ref h)] := hl
  refine lv_aload_n hx hb dX1_init_0 rfl (lv_at hl 0 rfl) ?_
  refine W.objInit hx hb hown (hts _ q1_123) (hts _ q1_15) (hts _ q1_16) rfl (hl.1.trans hml.symm) rfl dX1_init_1 (Nat.le_of_ble_eq_true rfl) (Nat.le_of_ble_eq_true rfl) ?_
  show W p l e _ s m _ below meth c H locs _ _ _ (F0 m 4 ls [])
  refine lv_aload_n hx hb dX1_init_4 rfl (lv_at hl 0 rfl) ?_
  refine lv_bipush (v := 30) hx hb dX1_init_5 (by decide) ?_
  refine b_newi (Bs := []) (b0 := [(h, .inr (1, [.null, .null, .null, .null, .int 0]))]) (N := 30) hx hb hts hKq hW hA (by decide) (by decide +kernel) (Nat.le_of_ble_eq_true rfl) (Nat.le_of_ble_eq_true rfl) (Nat.le_of_ble_eq_true rfl) dX1_init_7 (fun q_1 H hW => ?_)
  have hW : wd g _ s.heap [[(h, .inr (1, [.null, .null, .null, .null, .int 0])), (q_1, .inl (g.2.1, 30, .inl (fun _ => 0)))]] H locs := hW
  have hP := hW.1
  refine b_putF (B' := [[(h, .inr (1, [.ref q_1, .null, .null, .null, .int 0])), (q_1, .inl (g.2.1, 30, .inl (fun _ => 0)))]]) (v := .ref q_1) hx hb hts inX1 tyX1_ok nmX1 hown hK hW 0 0 0 rfl rfl rfl (by decide) q1_124 rfl rfl (hin rfl) rfl rfl (Nat.le_of_ble_eq_true rfl) rfl dX1_init_9 (fun H locs hW => ?_)
  have hP := hW.1
  refine lv_aload_n hx hb dX1_init_12 rfl (lv_at hl 0 rfl) ?_
  refine lv_bipush (v := 6) hx hb dX1_init_13 (by decide) ?_
  refine b_newi (Bs := []) (b0 := [(h, .inr (1, [.ref q_1, .null, .null, .null, .int 0])), (q_1, .inl (g.2.1, 30, .inl (fun _ => 0)))]) (N := 6) hx hb hts hKq hW hA (by decide) (by decide +kernel) (Nat.le_of_ble_eq_true rfl) (Nat.le_of_ble_eq_true rfl) (Nat.le_of_ble_eq_true rfl) dX1_init_15 (fun q_2 H hW => ?_)
  have hW : wd g _ s.heap [[(h, .inr (1, [.ref q_1, .null, .null, .null, .int 0])), (q_1, .inl (g.2.1, 30, .inl (fun _ => 0))), (q_2, .inl (g.2.1, 6, .inl (fun _ => 0)))]] H locs := hW
  have hP := hW.1
  refine b_putF (B' := [[(h, .inr (1, [.ref q_1, .ref q_2, .null, .null, .int 0])), (q_1, .inl (g.2.1, 30, .inl (fun _ => 0))), (q_2, .inl (g.2.1, 6, .inl (fun _ => 0)))]]) (v := .ref q_2) hx hb hts inX1 tyX1_ok nmX1 hown hK hW 0 0 1 rfl rfl rfl (by decide) q1_127 rfl rfl (hin rfl) rfl rfl (Nat.le_of_ble_eq_true rfl) rfl dX1_init_17 (fun H locs hW => ?_)
  have hP := hW.1
  refine lv_aload_n hx hb dX1_init_20 rfl (lv_at hl 0 rfl) ?_
  refine lv_bipush (v := 6) hx hb dX1_init_21 (by decide) ?_
  refine b_newi (Bs := []) (b0 := [(h, .inr (1, [.ref q_1, .ref q_2, .null, .null, .int 0])), (q_1, .inl (g.2.1, 30, .inl (fun _ => 0))), (q_2, .inl (g.2.1, 6, .inl (fun _ => 0)))]) (N := 6) hx hb hts hKq hW hA (by decide) (by decide +kernel) (Nat.le_of_ble_eq_true rfl) (Nat.le_of_ble_eq_true rfl) (Nat.le_of_ble_eq_true rfl) dX1_init_23 (fun q_3 H hW => ?_)
  have hW : wd g _ s.heap [[(h, .inr (1, [.ref q_1, .ref q_2, .null, .null, .int 0])), (q_1, .inl (g.2.1, 30, .inl (fun _ => 0))), (q_2, .inl (g.2.1, 6, .inl (fun _ => 0))), (q_3, .inl (g.2.1, 6, .inl (fun _ => 0)))]] H locs := hW
  have hP := hW.1
  refine b_putF (B' := [[(h, .inr (1, [.ref q_1, .ref q_2, .ref q_3, .null, .int 0])), (q_1, .inl (g.2.1, 30, .inl (fun _ => 0))), (q_2, .inl (g.2.1, 6, .inl (fun _ => 0))), (q_3, .inl (g.2.1, 6, .inl (fun _ => 0)))]]) (v := .ref q_3) hx hb hts inX1 tyX1_ok nmX1 hown hK hW 0 0 2 rfl rfl rfl (by decide) q1_129 rfl rfl (hin rfl) rfl rfl (Nat.le_of_ble_eq_true rfl) rfl dX1_init_25 (fun H locs hW => ?_)
  have hP := hW.1
  refine lv_aload_n hx hb dX1_init_28 rfl (lv_at hl 0 rfl) ?_
  refine lv_bipush (v := 6) hx hb dX1_init_29 (by decide) ?_
  refine b_newi (Bs := []) (b0 := [(h, .inr (1, [.ref q_1, .ref q_2, .ref q_3, .null, .int 0])), (q_1, .inl (g.2.1, 30, .inl (fun _ => 0))), (q_2, .inl (g.2.1, 6, .inl (fun _ => 0))), (q_3, .inl (g.2.1, 6, .inl (fun _ => 0)))]) (N := 6) hx hb hts hKq hW hA (by decide) (by decide +kernel) (Nat.le_of_ble_eq_true rfl) (Nat.le_of_ble_eq_true rfl) (Nat.le_of_ble_eq_true rfl) dX1_init_31 (fun q_4 H hW => ?_)
  have hW : wd g _ s.heap [[(h, .inr (1, [.ref q_1, .ref q_2, .ref q_3, .null, .int 0])), (q_1, .inl (g.2.1, 30, .inl (fun _ => 0))), (q_2, .inl (g.2.1, 6, .inl (fun _ => 0))), (q_3, .inl (g.2.1, 6, .inl (fun _ => 0))), (q_4, .inl (g.2.1, 6, .inl (fun _ => 0)))]] H locs := hW
  have hP := hW.1
  refine b_putF (B' := [[(h, .inr (1, [.ref q_1, .ref q_2, .ref q_3, .ref q_4, .int 0])), (q_1, .inl (g.2.1, 30, .inl (fun _ => 0))), (q_2, .inl (g.2.1, 6, .inl (fun _ => 0))), (q_3, .inl (g.2.1, 6, .inl (fun _ => 0))), (q_4, .inl (g.2.1, 6, .inl (fun _ => 0)))]]) (v := .ref q_4) hx hb hts inX1 tyX1_ok nmX1 hown hK hW 0 0 3 rfl rfl rfl (by decide) q1_131 rfl rfl (hin rfl) rfl rfl (Nat.le_of_ble_eq_true rfl) rfl dX1_init_33 (fun H locs hW => ?_)
  have hP := hW.1
  refine lv_aload_n hx hb dX1_init_36 rfl (lv_at hl 0 rfl) ?_
  refine lv_bipush (v := -5) hx hb dX1_init_37 (by decide) ?_
  refine b_put (B' := [[(h, .inr (1, [.ref q_1, .ref q_2, .ref q_3, .ref q_4, .int (-5)])), (q_1, .inl (g.2.1, 30, .inl (fun _ => 0))), (q_2, .inl (g.2.1, 6, .inl (fun _ => 0))), (q_3, .inl (g.2.1, 6, .inl (fun _ => 0))), (q_4, .inl (g.2.1, 6, .inl (fun _ => 0)))]]) (v := .int (-5)) hx hb hts inX1 tyX1_ok nmX1 hown hK hW 0 0 4 rfl rfl rfl (by decide) q1_134 rfl rfl rfl rfl (Nat.le_of_ble_eq_true rfl) rfl dX1_init_39 (fun H locs hW => ?_)
  have hP := hW.1
  exact uN_ret (fun k9 => ([q_1, q_2, q_3, q_4] : List Nat).getD k9 0) hsz hW hx hb hr hlocks dX1_init_42 trivial (rfl)

set_option maxHeartbeats 4000000 in
set_option maxRecDepth 100000 in
theorem c_X2_init (l : Launch) (g : gx) (h sz : Nat) : cN (S := Nat) l g yX2_init cX2_init 1 ({ frames := 1, cells := 1, slots := 60, locals := 24 } : Room) [.ref h] [[(h, .inr (2, [.null, .int 0]))]] sz (fun _ => True) (fun u => [tB g h u (fun _ => 0) 0]) 1 60 := by
  refine cN.mk (by decide +kernel) (Nat.le_of_ble_eq_true rfl) ?_
  intro p e s m below meth c ls E hK hsz hW hl
  obtain ⟨hx, hb, hr, hml, hts, hown, hlocks, hin⟩ := id E
  have hown : s.vm.findClass RX2 = some m.cls := hown
  have hKq := hK
  have hK := hKq.1
  have hA : ∀ q9, s.heap.size ≤ q9 → frN [[(h, .inr (2, [.null, .int 0]))]] sz q9 := fun q9 h9 => Or.inr (by rw [← hsz]; exact h9)
  obtain ⟨H, locs, hH, hlo9⟩ : ∃ (H : Heap) (locs : List Loc), H = s.heap ∧ locs = [] := ⟨_, _, rfl, rfl⟩
  have hW : wd g (frN [[(h, .inr (2, [.null, .int 0]))]] sz) s.heap [[(h, .inr (2, [.null, .int 0]))]] H locs := by rw [hH, hlo9]; exact hW
  rw [show W p l e _ s m _ below meth c s.heap [] 0 0 _ (F0 m 0 ls []) = W p l e _ s m _ below meth c H locs 0 0 _ (F0 m 0 ls []) by rw [hH, hlo9]]
  have hP := hW.1
  have hl : lv_has ls 1 [(0, .ref h)] := hl
  refine lv_aload_n hx hb dX2_init_0 rfl (lv_at hl 0 rfl) ?_
  refine W.objInit hx hb hown (hts _ q1_152) (hts _ q1_15) (hts _ q1_16) rfl (hl.1.trans hml.symm) rfl dX2_init_1 (Nat.le_of_ble_eq_true rfl) (Nat.le_of_ble_eq_true rfl) ?_
  show W p l e _ s m _ below meth c H locs _ _ _ (F0 m 4 ls [])
  refine lv_aload_n hx hb dX2_init_4 rfl (lv_at hl 0 rfl) ?_
  refine lv_bipush (v := 60) hx hb dX2_init_5 (by decide) ?_
  refine b_newc (Bs := []) (b0 := [(h, .inr (2, [.null, .int 0]))]) (N := 60) hx hb hts hKq hW hA (by decide) (by decide +kernel) (Nat.le_of_ble_eq_true rfl) (Nat.le_of_ble_eq_true rfl) (Nat.le_of_ble_eq_true rfl) dX2_init_7 (fun q_1 H hW => ?_)
  have hW : wd g _ s.heap [[(h, .inr (2, [.null, .int 0])), (q_1, .inl (g.2.2.1, 60, .inl (fun _ => 0)))]] H locs := hW
  have hP := hW.1
  refine b_putF (B' := [[(h, .inr (2, [.ref q_1, .int 0])), (q_1, .inl (g.2.2.1, 60, .inl (fun _ => 0)))]]) (v := .ref q_1) hx hb hts inX2 tyX2_ok nmX2 hown hK hW 0 0 0 rfl rfl rfl (by decide) q1_153 rfl rfl (hin rfl) rfl rfl (Nat.le_of_ble_eq_true rfl) rfl dX2_init_9 (fun H locs hW => ?_)
  have hP := hW.1
  refine lv_aload_n hx hb dX2_init_12 rfl (lv_at hl 0 rfl) ?_
  refine lv_iconst (v := 0) hx hb dX2_init_13 (by decide) ?_
  refine b_put (B' := [[(h, .inr (2, [.ref q_1, .int 0])), (q_1, .inl (g.2.2.1, 60, .inl (fun _ => 0)))]]) (v := .int 0) hx hb hts inX2 tyX2_ok nmX2 hown hK hW 0 0 1 rfl rfl rfl (by decide) q1_154 rfl rfl rfl rfl (Nat.le_of_ble_eq_true rfl) rfl dX2_init_14 (fun H locs hW => ?_)
  have hP := hW.1
  exact uN_ret q_1 hsz hW hx hb hr hlocks dX2_init_17 trivial (rfl)
