set_option maxHeartbeats 4000000 in
set_option maxRecDepth 100000 in
theorem c_X4_init (l : Launch) (g : gx) (h sz : Nat) : cN (S := (Nat → Nat) × (Nat → Nat) × (Nat → Nat) × (Nat → Nat) × (Nat × (Nat → Nat) × (Nat → Nat → Nat)) × (Nat → Nat) × Nat) l g yX4_init cX4_init 1 ({ frames := 3, cells := 113, slots := 1411, locals := 66 } : Room) [.ref h] [[(h, .inr (4, [.null, .null, .null, .int 0, .null, .null, .null]))]] sz (fun _ => True) (fun u => [bB h u.1 0, vB g (u.1 0) u.2.1 (v0 6), vB g (u.1 1) u.2.2.1 (v0 6), vB g (u.1 2) u.2.2.2.1 (v0 6), hB g (u.1 3) u.2.2.2.2.1.1 u.2.2.2.2.1.2.1 0 0, vB g (u.2.2.2.2.1.2.1 0) (u.2.2.2.2.1.2.2 0) (v0 6), vB g (u.2.2.2.2.1.2.1 1) (u.2.2.2.2.1.2.2 1) (v0 6), vB g (u.2.2.2.2.1.2.1 2) (u.2.2.2.2.1.2.2 2) (v0 6), vB g (u.2.2.2.2.1.2.1 3) (u.2.2.2.2.1.2.2 3) (v0 6), vB g (u.2.2.2.2.1.2.1 4) (u.2.2.2.2.1.2.2 4) (v0 6), rB g (u.1 4) u.2.2.2.2.2.1 r0, tB g (u.1 5) u.2.2.2.2.2.2 (fun _ => 0) 0]) 113 1411 := by
  refine cN.mk (by decide +kernel) (Nat.le_of_ble_eq_true rfl) ?_
  intro p e s m below meth c ls E hK hsz hW hl
  obtain ⟨hx, hb, hr, hml, hts, hown, hlocks, hin⟩ := id E
  have hown : s.vm.findClass RX4 = some m.cls := hown
  have hKq := hK
  have hK := hKq.1
  have hA : ∀ q9, s.heap.size ≤ q9 → frN [[(h, .inr (4, [.null, .null, .null, .int 0, .null, .null, .null]))]] sz q9 := fun q9 h9 => Or.inr (by rw [← hsz]; exact h9)
  obtain ⟨H, locs, hH, hlo9⟩ : ∃ (H : Heap) (locs : List Loc), H = s.heap ∧ locs = [] := ⟨_, _, rfl, rfl⟩
  have hW : wd g (frN [[(h, .inr (4, [.null, .null, .null, .int 0, .null, .null, .null]))]] sz) s.heap [[(h, .inr (4, [.null, .null, .null, .int 0, .null, .null, .null]))]] H locs := by rw [hH, hlo9]; exact hW
  rw [show W p l e _ s m _ below meth c s.heap [] 0 0 _ (F0 m 0 ls []) = W p l e _ s m _ below meth c H locs 0 0 _ (F0 m 0 ls []) by rw [hH, hlo9]]
  have hP := hW.1
  have hl : lv_has ls 1 [(0, .ref h)] := hl
  refine lv_aload_n hx hb dX4_init_0 rfl (lv_at hl 0 rfl) ?_
  refine W.objInit hx hb hown (hts _ q1_14) (hts _ q1_15) (hts _ q1_16) rfl (hl.1.trans hml.symm) rfl dX4_init_1 (Nat.le_of_ble_eq_true rfl) (Nat.le_of_ble_eq_true rfl) ?_
  show W p l e _ s m _ below meth c H locs _ _ _ (F0 m 4 ls [])
  refine lv_aload_n hx hb dX4_init_4 rfl (lv_at hl 0 rfl) ?_
  refine b_new (ci := 3) (fs := [.null, .null, .null, .null, .null, .null, .null, .null, .null, .null, .null, .null, .int 0, .int 0, .int 0, .int 0, .int 0]) (C := RX3) (T := TX3) (N := 17) hx hb hts inX3 tyX3_ok hown q1_17 q1_18 q1_2 hKq hW hA rfl (fun j9 hj9 => by rcases (show j9 = 0 ∨ j9 = 1 ∨ j9 = 2 ∨ j9 = 3 ∨ j9 = 4 ∨ j9 = 5 ∨ j9 = 6 ∨ j9 = 7 ∨ j9 = 8 ∨ j9 = 9 ∨ j9 = 10 ∨ j9 = 11 ∨ j9 = 12 ∨ j9 = 13 ∨ j9 = 14 ∨ j9 = 15 ∨ j9 = 16 by omega) with rfl | rfl | rfl | rfl | rfl | rfl | rfl | rfl | rfl | rfl | rfl | rfl | rfl | rfl | rfl | rfl | rfl <;> rfl) (Nat.le_of_ble_eq_true rfl) (Nat.le_of_ble_eq_true rfl) dX4_init_5 (fun q_1 H hW => ?_)
  have hW : wd g _ s.heap [[(h, .inr (4, [.null, .null, .null, .int 0, .null, .null, .null]))], [(q_1, .inr (3, [.null, .null, .null, .null, .null, .null, .null, .null, .null, .null, .null, .null, .int 0, .int 0, .int 0, .int 0, .int 0]))]] H locs := hW
  have hP := hW.1
  refine lv_dup hx hb dX4_init_8 rfl ?_
  refine call_IN (Bs := [[(h, .inr (4, [.null, .null, .null, .int 0, .null, .null, .null]))]]) (c0 := [(q_1, .inr (3, [.null, .null, .null, .null, .null, .null, .null, .null, .null, .null, .null, .null, .int 0, .int 0, .int 0, .int 0, .int 0]))]) (As := []) (rest := [.ref q_1, .ref h]) E rfl hKq hW hA (c_X3_init l g q_1 H.size) okI_X3_init rfl q1_19 ⟨⟨rfl, rfl⟩, Nat.le_of_ble_eq_true rfl, Nat.le_of_ble_eq_true rfl⟩ hl.1 (Nat.le_of_ble_eq_true rfl) ⟨Nat.le_of_ble_eq_true rfl, Nat.le_of_ble_eq_true rfl⟩ rfl dX4_init_9 (fun u_2 H locs _ hW => ?_)
  have hW : wd g _ s.heap [[(h, .inr (4, [.null, .null, .null, .int 0, .null, .null, .null]))], vB g q_1 u_2 (v0 6)] H locs := hW
  have hP := hW.1
  refine b_putF (B' := [[(h, .inr (4, [.ref q_1, .null, .null, .int 0, .null, .null, .null]))], vB g q_1 u_2 (v0 6)]) (v := .ref q_1) hx hb hts inX4 tyX4_ok nmX4 hown hK hW 0 0 0 rfl rfl rfl (by decide) q1_162 rfl rfl (hin rfl) rfl rfl (Nat.le_of_ble_eq_true rfl) rfl dX4_init_12 (fun H locs hW => ?_)
  have hP := hW.1
  refine lv_aload_n hx hb dX4_init_15 rfl (lv_at hl 0 rfl) ?_
  refine b_new (ci := 3) (fs := [.null, .null, .null, .null, .null, .null, .null, .null, .null, .null, .null, .null, .int 0, .int 0, .int 0, .int 0, .int 0]) (C := RX3) (T := TX3) (N := 17) hx hb hts inX3 tyX3_ok hown q1_17 q1_18 q1_2 hKq hW hA rfl (fun j9 hj9 => by rcases (show j9 = 0 ∨ j9 = 1 ∨ j9 = 2 ∨ j9 = 3 ∨ j9 = 4 ∨ j9 = 5 ∨ j9 = 6 ∨ j9 = 7 ∨ j9 = 8 ∨ j9 = 9 ∨ j9 = 10 ∨ j9 = 11 ∨ j9 = 12 ∨ j9 = 13 ∨ j9 = 14 ∨ j9 = 15 ∨ j9 = 16 by omega) with rfl | rfl | rfl | rfl | rfl | rfl | rfl | rfl | rfl | rfl | rfl | rfl | rfl | rfl | rfl | rfl | rfl <;> rfl) (Nat.le_of_ble_eq_true rfl) (Nat.le_of_ble_eq_true rfl) dX4_init_16 (fun q_3 H hW => ?_)
  have hW : wd g _ s.heap [[(h, .inr (4, [.ref q_1, .null, .null, .int 0, .null, .null, .null]))], vB g q_1 u_2 (v0 6), [(q_3, .inr (3, [.null, .null, .null, .null, .null, .null, .null, .null, .null, .null, .null, .null, .int 0, .int 0, .int 0, .int 0, .int 0]))]] H locs := hW
  have hP := hW.1
  refine lv_dup hx hb dX4_init_19 rfl ?_
  refine call_IN (Bs := [[(h, .inr (4, [.ref q_1, .null, .null, .int 0, .null, .null, .null]))], vB g q_1 u_2 (v0 6)]) (c0 := [(q_3, .inr (3, [.null, .null, .null, .null, .null, .null, .null, .null, .null, .null, .null, .null, .int 0, .int 0, .int 0, .int 0, .int 0]))]) (As := []) (rest := [.ref q_3, .ref h]) E rfl hKq hW hA (c_X3_init l g q_3 H.size) okI_X3_init rfl q1_19 ⟨⟨rfl, rfl⟩, Nat.le_of_ble_eq_true rfl, Nat.le_of_ble_eq_true rfl⟩ hl.1 (Nat.le_of_ble_eq_true rfl) ⟨Nat.le_of_ble_eq_true rfl, Nat.le_of_ble_eq_true rfl⟩ rfl dX4_init_20 (fun u_4 H locs _ hW => ?_)
  have hW : wd g _ s.heap [[(h, .inr (4, [.ref q_1, .null, .null, .int 0, .null, .null, .null]))], vB g q_1 u_2 (v0 6), vB g q_3 u_4 (v0 6)] H locs := hW
  have hP := hW.1
  refine b_putF (B' := [[(h, .inr (4, [.ref q_1, .ref q_3, .null, .int 0, .null, .null, .null]))], vB g q_1 u_2 (v0 6), vB g q_3 u_4 (v0 6)]) (v := .ref q_3) hx hb hts inX4 tyX4_ok nmX4 hown hK hW 0 0 1 rfl rfl rfl (by decide) q1_163 rfl rfl (hin rfl) rfl rfl (Nat.le_of_ble_eq_true rfl) rfl dX4_init_23 (fun H locs hW => ?_)
  have hP := hW.1
  refine lv_aload_n hx hb dX4_init_26 rfl (lv_at hl 0 rfl) ?_
  refine b_new (ci := 3) (fs := [.null, .null, .null, .null, .null, .null, .null, .null, .null, .null, .null, .null, .int 0, .int 0, .int 0, .int 0, .int 0]) (C := RX3) (T := TX3) (N := 17) hx hb hts inX3 tyX3_ok hown q1_17 q1_18 q1_2 hKq hW hA rfl (fun j9 hj9 => by rcases (show j9 = 0 ∨ j9 = 1 ∨ j9 = 2 ∨ j9 = 3 ∨ j9 = 4 ∨ j9 = 5 ∨ j9 = 6 ∨ j9 = 7 ∨ j9 = 8 ∨ j9 = 9 ∨ j9 = 10 ∨ j9 = 11 ∨ j9 = 12 ∨ j9 = 13 ∨ j9 = 14 ∨ j9 = 15 ∨ j9 = 16 by omega) with rfl | rfl | rfl | rfl | rfl | rfl | rfl | rfl | rfl | rfl | rfl | rfl | rfl | rfl | rfl | rfl | rfl <;> rfl) (Nat.le_of_ble_eq_true rfl) (Nat.le_of_ble_eq_true rfl) dX4_init_27 (fun q_5 H hW => ?_)
  have hW : wd g _ s.heap [[(h, .inr (4, [.ref q_1, .ref q_3, .null, .int 0, .null, .null, .null]))], vB g q_1 u_2 (v0 6), vB g q_3 u_4 (v0 6), [(q_5, .inr (3, [.null, .null, .null, .null, .null, .null, .null, .null, .null, .null, .null, .null, .int 0, .int 0, .int 0, .int 0, .int 0]))]] H locs := hW
  have hP := hW.1
  refine lv_dup hx hb dX4_init_30 rfl ?_
  refine call_IN (Bs := [[(h, .inr (4, [.ref q_1, .ref q_3, .null, .int 0, .null, .null, .null]))], vB g q_1 u_2 (v0 6), vB g q_3 u_4 (v0 6)]) (c0 := [(q_5, .inr (3, [.null, .null, .null, .null, .null, .null, .null, .null, .null, .null, .null, .null, .int 0, .int 0, .int 0, .int 0, .int 0]))]) (As := []) (rest := [.ref q_5, .ref h]) E rfl hKq hW hA (c_X3_init l g q_5 H.size) okI_X3_init rfl q1_19 ⟨⟨rfl, rfl⟩, Nat.le_of_ble_eq_true rfl, Nat.le_of_ble_eq_true rfl⟩ hl.1 (Nat.le_of_ble_eq_true rfl) ⟨Nat.le_of_ble_eq_true rfl, Nat.le_of_ble_eq_true rfl⟩ rfl dX4_init_31 (fun u_6 H locs _ hW => ?_)
  have hW : wd g _ s.heap [[(h, .inr (4, [.ref q_1, .ref q_3, .null, .int 0, .null, .null, .null]))], vB g q_1 u_2 (v0 6), vB g q_3 u_4 (v0 6), vB g q_5 u_6 (v0 6)] H locs := hW
  have hP := hW.1
  refine b_putF (B' := [[(h, .inr (4, [.ref q_1, .ref q_3, .ref q_5, .int 0, .null, .null, .null]))], vB g q_1 u_2 (v0 6), vB g q_3 u_4 (v0 6), vB g q_5 u_6 (v0 6)]) (v := .ref q_5) hx hb hts inX4 tyX4_ok nmX4 hown hK hW 0 0 2 rfl rfl rfl (by decide) q1_164 rfl rfl (hin rfl) rfl rfl (Nat.le_of_ble_eq_true rfl) rfl dX4_init_34 (fun H locs hW => ?_)
  have hP := hW.1
  refine lv_aload_n hx hb dX4_init_37 rfl (lv_at hl 0 rfl) ?_
  refine lv_iconst (v := 0) hx hb dX4_init_38 (by decide) ?_
  refine b_put (B' := [[(h, .inr (4, [.ref q_1, .ref q_3, .ref q_5, .int 0, .null, .null, .null]))], vB g q_1 u_2 (v0 6), vB g q_3 u_4 (v0 6), vB g q_5 u_6 (v0 6)]) (v := .int 0) hx hb hts inX4 tyX4_ok nmX4 hown hK hW 0 0 3 rfl rfl rfl (by decide) q1_165 rfl rfl rfl rfl (Nat.le_of_ble_eq_true rfl) rfl dX4_init_39 (fun H locs hW => ?_)
  have hP := hW.1
  refine lv_aload_n hx hb dX4_init_42 rfl (lv_at hl 0 rfl) ?_
  refine b_new (ci := 0) (fs := [.null, .int 0, .int 0]) (C := RX0) (T := TX0) (N := 3) hx hb hts inX0 tyX0_ok hown q1_98 q1_99 q1_3 hKq hW hA rfl (fun j9 hj9 => by rcases (show j9 = 0 ∨ j9 = 1 ∨ j9 = 2 by omega) with rfl | rfl | rfl <;> rfl) (Nat.le_of_ble_eq_true rfl) (Nat.le_of_ble_eq_true rfl) dX4_init_43 (fun q_7 H hW => ?_)
  have hW : wd g _ s.heap [[(h, .inr (4, [.ref q_1, .ref q_3, .ref q_5, .int 0, .null, .null, .null]))], vB g q_1 u_2 (v0 6), vB g q_3 u_4 (v0 6), vB g q_5 u_6 (v0 6), [(q_7, .inr (0, [.null, .int 0, .int 0]))]] H locs := hW
  have hP := hW.1
  refine lv_dup hx hb dX4_init_46 rfl ?_
  refine call_IN (Bs := [[(h, .inr (4, [.ref q_1, .ref q_3, .ref q_5, .int 0, .null, .null, .null]))], vB g q_1 u_2 (v0 6), vB g q_3 u_4 (v0 6), vB g q_5 u_6 (v0 6)]) (c0 := [(q_7, .inr (0, [.null, .int 0, .int 0]))]) (As := []) (rest := [.ref q_7, .ref h]) E rfl hKq hW hA (c_X0_init l g q_7 H.size) okI_X0_init rfl q1_100 ⟨⟨rfl, rfl⟩, Nat.le_of_ble_eq_true rfl, Nat.le_of_ble_eq_true rfl⟩ hl.1 (Nat.le_of_ble_eq_true rfl) ⟨Nat.le_of_ble_eq_true rfl, Nat.le_of_ble_eq_true rfl⟩ rfl dX4_init_47 (fun u_8 H locs _ hW => ?_)
  have hW : wd g _ s.heap [[(h, .inr (4, [.ref q_1, .ref q_3, .ref q_5, .int 0, .null, .null, .null]))], vB g q_1 u_2 (v0 6), vB g q_3 u_4 (v0 6), vB g q_5 u_6 (v0 6), hB g q_7 u_8.1 u_8.2.1 0 0, vB g (u_8.2.1 0) (u_8.2.2 0) (v0 6), vB g (u_8.2.1 1) (u_8.2.2 1) (v0 6), vB g (u_8.2.1 2) (u_8.2.2 2) (v0 6), vB g (u_8.2.1 3) (u_8.2.2 3) (v0 6), vB g (u_8.2.1 4) (u_8.2.2 4) (v0 6)] H locs := hW
  have hP := hW.1
  refine b_putF (B' := [[(h, .inr (4, [.ref q_1, .ref q_3, .ref q_5, .int 0, .ref q_7, .null, .null]))], vB g q_1 u_2 (v0 6), vB g q_3 u_4 (v0 6), vB g q_5 u_6 (v0 6), hB g q_7 u_8.1 u_8.2.1 0 0, vB g (u_8.2.1 0) (u_8.2.2 0) (v0 6), vB g (u_8.2.1 1) (u_8.2.2 1) (v0 6), vB g (u_8.2.1 2) (u_8.2.2 2) (v0 6), vB g (u_8.2.1 3) (u_8.2.2 3) (v0 6), vB g (u_8.2.1 4) (u_8.2.2 4) (v0 6)]) (v := .ref q_7) hx hb hts inX4 tyX4_ok nmX4 hown hK hW 0 0 4 rfl rfl rfl (by decide) q1_166 rfl rfl (hin rfl) rfl rfl (Nat.le_of_ble_eq_true rfl) rfl dX4_init_50 (fun H locs hW => ?_)
  have hP := hW.1
  refine lv_aload_n hx hb dX4_init_53 rfl (lv_at hl 0 rfl) ?_
  refine b_new (ci := 1) (fs := [.null, .null, .null, .null, .int 0]) (C := RX1) (T := TX1) (N := 5) hx hb hts inX1 tyX1_ok hown q1_118 q1_119 q1_4 hKq hW hA rfl (fun j9 hj9 => by rcases (show j9 = 0 ∨ j9 = 1 ∨ j9 = 2 ∨ j9 = 3 ∨ j9 = 4 by omega) with rfl | rfl | rfl | rfl | rfl <;> rfl) (Nat.le_of_ble_eq_true rfl) (Nat.le_of_ble_eq_true rfl) dX4_init_54 (fun q_9 H hW => ?_)
  have hW : wd g _ s.heap [[(h, .inr (4, [.ref q_1, .ref q_3, .ref q_5, .int 0, .ref q_7, .null, .null]))], vB g q_1 u_2 (v0 6), vB g q_3 u_4 (v0 6), vB g q_5 u_6 (v0 6), hB g q_7 u_8.1 u_8.2.1 0 0, vB g (u_8.2.1 0) (u_8.2.2 0) (v0 6), vB g (u_8.2.1 1) (u_8.2.2 1) (v0 6), vB g (u_8.2.1 2) (u_8.2.2 2) (v0 6), vB g (u_8.2.1 3) (u_8.2.2 3) (v0 6), vB g (u_8.2.1 4) (u_8.2.2 4) (v0 6), [(q_9, .inr (1, [.null, .null, .null, .null, .int 0]))]] H locs := hW
  have hP := hW.1
  refine lv_dup hx hb dX4_init_57 rfl ?_
  refine call_INN (Bs := [[(h, .inr (4, [.ref q_1, .ref q_3, .ref q_5, .int 0, .ref q_7, .null, .null]))], vB g q_1 u_2 (v0 6), vB g q_3 u_4 (v0 6), vB g q_5 u_6 (v0 6), hB g q_7 u_8.1 u_8.2.1 0 0, vB g (u_8.2.1 0) (u_8.2.2 0) (v0 6), vB g (u_8.2.1 1) (u_8.2.2 1) (v0 6), vB g (u_8.2.1 2) (u_8.2.2 2) (v0 6), vB g (u_8.2.1 3) (u_8.2.2 3) (v0 6), vB g (u_8.2.1 4) (u_8.2.2 4) (v0 6)]) (c0 := [(q_9, .inr (1, [.null, .null, .null, .null, .int 0]))]) (As := []) (rest := [.ref q_9, .ref h]) E rfl hKq hW hA (c_X1_init l g q_9 H.size) okI_X1_init rfl hK.2.1 ⟨⟨rfl, rfl⟩, Nat.le_of_ble_eq_true rfl, Nat.le_of_ble_eq_true rfl⟩ hl.1 (Nat.le_of_ble_eq_true rfl) ⟨Nat.le_of_ble_eq_true rfl, Nat.le_of_ble_eq_true rfl⟩ rfl dX4_init_58 (fun u_10 H locs _ hW => ?_)
  have hW : wd g _ s.heap [[(h, .inr (4, [.ref q_1, .ref q_3, .ref q_5, .int 0, .ref q_7, .null, .null]))], vB g q_1 u_2 (v0 6), vB g q_3 u_4 (v0 6), vB g q_5 u_6 (v0 6), hB g q_7 u_8.1 u_8.2.1 0 0, vB g (u_8.2.1 0) (u_8.2.2 0) (v0 6), vB g (u_8.2.1 1) (u_8.2.2 1) (v0 6), vB g (u_8.2.1 2) (u_8.2.2 2) (v0 6), vB g (u_8.2.1 3) (u_8.2.2 3) (v0 6), vB g (u_8.2.1 4) (u_8.2.2 4) (v0 6), rB g q_9 u_10 r0] H locs := hW
  have hP := hW.1
  refine b_putF (B' := [[(h, .inr (4, [.ref q_1, .ref q_3, .ref q_5, .int 0, .ref q_7, .ref q_9, .null]))], vB g q_1 u_2 (v0 6), vB g q_3 u_4 (v0 6), vB g q_5 u_6 (v0 6), hB g q_7 u_8.1 u_8.2.1 0 0, vB g (u_8.2.1 0) (u_8.2.2 0) (v0 6), vB g (u_8.2.1 1) (u_8.2.2 1) (v0 6), vB g (u_8.2.1 2) (u_8.2.2 2) (v0 6), vB g (u_8.2.1 3) (u_8.2.2 3) (v0 6), vB g (u_8.2.1 4) (u_8.2.2 4) (v0 6), rB g q_9 u_10 r0]) (v := .ref q_9) hx hb hts inX4 tyX4_ok nmX4 hown hK hW 0 0 5 rfl rfl rfl (by decide) q1_167 rfl rfl (hin rfl) rfl rfl (Nat.le_of_ble_eq_true rfl) rfl dX4_init_61 (fun H locs hW => ?_)
  have hP := hW.1
  refine lv_aload_n hx hb dX4_init_64 rfl (lv_at hl 0 rfl) ?_
  refine b_new (ci := 2) (fs := [.null, .int 0]) (C := RX2) (T := TX2) (N := 2) hx hb hts inX2 tyX2_ok hown q1_147 q1_148 q1_5 hKq hW hA rfl (fun j9 hj9 => by rcases (show j9 = 0 ∨ j9 = 1 by omega) with rfl | rfl <;> rfl) (Nat.le_of_ble_eq_true rfl) (Nat.le_of_ble_eq_true rfl) dX4_init_65 (fun q_11 H hW => ?_)
  have hW : wd g _ s.heap [[(h, .inr (4, [.ref q_1, .ref q_3, .ref q_5, .int 0, .ref q_7, .ref q_9, .null]))], vB g q_1 u_2 (v0 6), vB g q_3 u_4 (v0 6), vB g q_5 u_6 (v0 6), hB g q_7 u_8.1 u_8.2.1 0 0, vB g (u_8.2.1 0) (u_8.2.2 0) (v0 6), vB g (u_8.2.1 1) (u_8.2.2 1) (v0 6), vB g (u_8.2.1 2) (u_8.2.2 2) (v0 6), vB g (u_8.2.1 3) (u_8.2.2 3) (v0 6), vB g (u_8.2.1 4) (u_8.2.2 4) (v0 6), rB g q_9 u_10 r0, [(q_11, .inr (2, [.null, .int 0]))]] H locs := hW
  have hP := hW.1
  refine lv_dup hx hb dX4_init_68 rfl ?_
  refine call_INN (Bs := [[(h, .inr (4, [.ref q_1, .ref q_3, .ref q_5, .int 0, .ref q_7, .ref q_9, .null]))], vB g q_1 u_2 (v0 6), vB g q_3 u_4 (v0 6), vB g q_5 u_6 (v0 6), hB g q_7 u_8.1 u_8.2.1 0 0, vB g (u_8.2.1 0) (u_8.2.2 0) (v0 6), vB g (u_8.2.1 1) (u_8.2.2 1) (v0 6), vB g (u_8.2.1 2) (u_8.2.2 2) (v0 6), vB g (u_8.2.1 3) (u_8.2.2 3) (v0 6), vB g (u_8.2.1 4) (u_8.2.2 4) (v0 6), rB g q_9 u_10 r0]) (c0 := [(q_11, .inr (2, [.null, .int 0]))]) (As := []) (rest := [.ref q_11, .ref h]) E rfl hKq hW hA (c_X2_init l g q_11 H.size) okI_X2_init rfl hK.2.2.1 ⟨⟨rfl, rfl⟩, Nat.le_of_ble_eq_true rfl, Nat.le_of_ble_eq_true rfl⟩ hl.1 (Nat.le_of_ble_eq_true rfl) ⟨Nat.le_of_ble_eq_true rfl, Nat.le_of_ble_eq_true rfl⟩ rfl dX4_init_69 (fun u_12 H locs _ hW => ?_)
  have hW : wd g _ s.heap [[(h, .inr (4, [.ref q_1, .ref q_3, .ref q_5, .int 0, .ref q_7, .ref q_9, .null]))], vB g q_1 u_2 (v0 6), vB g q_3 u_4 (v0 6), vB g q_5 u_6 (v0 6), hB g q_7 u_8.1 u_8.2.1 0 0, vB g (u_8.2.1 0) (u_8.2.2 0) (v0 6), vB g (u_8.2.1 1) (u_8.2.2 1) (v0 6), vB g (u_8.2.1 2) (u_8.2.2 2) (v0 6), vB g (u_8.2.1 3) (u_8.2.2 3) (v0 6), vB g (u_8.2.1 4) (u_8.2.2 4) (v0 6), rB g q_9 u_10 r0, tB g q_11 u_12 (fun _ => 0) 0] H locs := hW
  have hP := hW.1
  refine b_putF (B' := [[(h, .inr (4, [.ref q_1, .ref q_3, .ref q_5, .int 0, .ref q_7, .ref q_9, .ref q_11]))], vB g q_1 u_2 (v0 6), vB g q_3 u_4 (v0 6), vB g q_5 u_6 (v0 6), hB g q_7 u_8.1 u_8.2.1 0 0, vB g (u_8.2.1 0) (u_8.2.2 0) (v0 6), vB g (u_8.2.1 1) (u_8.2.2 1) (v0 6), vB g (u_8.2.1 2) (u_8.2.2 2) (v0 6), vB g (u_8.2.1 3) (u_8.2.2 3) (v0 6), vB g (u_8.2.1 4) (u_8.2.2 4) (v0 6), rB g q_9 u_10 r0, tB g q_11 u_12 (fun _ => 0) 0]) (v := .ref q_11) hx hb hts inX4 tyX4_ok nmX4 hown hK hW 0 0 6 rfl rfl rfl (by decide) q1_168 rfl rfl (hin rfl) rfl rfl (Nat.le_of_ble_eq_true rfl) rfl dX4_init_72 (fun H locs hW => ?_)
  have hP := hW.1
  exact uN_ret ((fun k9 => ([q_1, q_3, q_5, q_7, q_9, q_11] : List Nat).getD k9 0), u_2, u_4, u_6, u_8, u_10, u_12) hsz hW hx hb hr hlocks dX4_init_75 trivial (rfl)

set_option maxHeartbeats 4000000 in
set_option maxRecDepth 100000 in
theorem c_X5_init (l : Launch) (g : gx) (h sz : Nat) : cN (S := Nat → Nat) l g yX5_init cX5_init 2 ({ frames := 1, cells := 9, slots := 1354, locals := 24 } : Room) [.ref h] [[(h, .inr (5, [.null, .null, .int 0, .null, .int 0, .null, .null, .null, .int 0, .int 0, .int 0, .null, .null, .null]))]] sz (fun _ => True) (fun u => [mV g h u (v0 6) zV]) 9 1354 := by
  refine cN.mk (by decide +kernel) (Nat.le_of_ble_eq_true rfl) ?_
  intro p e s m below meth c ls E hK hsz hW hl
  obtain ⟨hx, hb, hr, hml, hts, hown, hlocks, hin⟩ := id E
  have hown : s.vm.findClass RX5 = some m.cls := hown
  have hKq := hK
  have hK := hKq.1
  have hA : ∀ q9, s.heap.size ≤ q9 → frN [[(h, .inr (5, [.null, .null, .int 0, .null, .int 0, .null, .null, .null, .int 0, .int 0, .int 0, .null, .null, .null]))]] sz q9 := fun q9 h9 => Or.inr (by rw [← hsz]; exact h9)
  obtain ⟨H, locs, hH, hlo9⟩ : ∃ (H : Heap) (locs : List Loc), H = s.heap ∧ locs = [] := ⟨_, _, rfl, rfl⟩
  have hW : wd g (frN [[(h, .inr (5, [.null, .null, .int 0, .null, .int 0, .null, .null, .null, .int 0, .int 0, .int 0, .null, .null, .null]))]] sz) s.heap [[(h, .inr (5, [.null, .null, .int 0, .null, .int 0, .null, .null, .null, .int 0, .int 0, .int 0, .null, .null, .null]))]] H locs := by rw [hH, hlo9]; exact hW
  rw [show W p l e _ s m _ below meth c s.heap [] 0 0 _ (F0 m 0 ls []) = W p l e _ s m _ below meth c H locs 0 0 _ (F0 m 0 ls []) by rw [hH, hlo9]]
  have hP := hW.1
  have hl : lv_has ls 2 [(0, .ref h)] := hl
  refine lv_aload_n hx hb dX5_init_0 rfl (lv_at hl 0 rfl) ?_
  refine W.objInit hx hb hown (hts _ q3_20) (hts _ q1_15) (hts _ q1_16) rfl (hl.1.trans hml.symm) rfl dX5_init_1 (Nat.le_of_ble_eq_true rfl) (Nat.le_of_ble_eq_true rfl) ?_
  show W p l e _ s m _ below meth c H locs _ _ _ (F0 m 4 ls [])
  refine lv_aload_n hx hb dX5_init_4 rfl (lv_at hl 0 rfl) ?_
  refine lv_sipush (v := 149) hx hb dX5_init_5 (by decide) ?_
  refine b_newi (Bs := []) (b0 := [(h, .inr (5, [.null, .null, .int 0, .null, .int 0, .null, .null, .null, .int 0, .int 0, .int 0, .null, .null, .null]))]) (N := 149) hx hb hts hKq hW hA (by decide) (by decide +kernel) (Nat.le_of_ble_eq_true rfl) (Nat.le_of_ble_eq_true rfl) (Nat.le_of_ble_eq_true rfl) dX5_init_8 (fun q_1 H hW => ?_)
  have hW : wd g _ s.heap [[(h, .inr (5, [.null, .null, .int 0, .null, .int 0, .null, .null, .null, .int 0, .int 0, .int 0, .null, .null, .null])), (q_1, .inl (g.2.1, 149, .inl (fun _ => 0)))]] H locs := hW
  have hP := hW.1
  refine b_putF (B' := [[(h, .inr (5, [.ref q_1, .null, .int 0, .null, .int 0, .null, .null, .null, .int 0, .int 0, .int 0, .null, .null, .null])), (q_1, .inl (g.2.1, 149, .inl (fun _ => 0)))]]) (v := .ref q_1) hx hb hts inX5 tyX5_ok nmX5 hown hK hW 0 0 0 rfl rfl rfl (by decide) q3_25 rfl rfl (hin rfl) rfl rfl (Nat.le_of_ble_eq_true rfl) rfl dX5_init_10 (fun H locs hW => ?_)
  have hP := hW.1
  refine lv_aload_n hx hb dX5_init_13 rfl (lv_at hl 0 rfl) ?_
  refine lv_sipush (v := 745) hx hb dX5_init_14 (by decide) ?_
  refine b_newi (Bs := []) (b0 := [(h, .inr (5, [.ref q_1, .null, .int 0, .null, .int 0, .null, .null, .null, .int 0, .int 0, .int 0, .null, .null, .null])), (q_1, .inl (g.2.1, 149, .inl (fun _ => 0)))]) (N := 745) hx hb hts hKq hW hA (by decide) (by decide +kernel) (Nat.le_of_ble_eq_true rfl) (Nat.le_of_ble_eq_true rfl) (Nat.le_of_ble_eq_true rfl) dX5_init_17 (fun q_2 H hW => ?_)
  have hW : wd g _ s.heap [[(h, .inr (5, [.ref q_1, .null, .int 0, .null, .int 0, .null, .null, .null, .int 0, .int 0, .int 0, .null, .null, .null])), (q_1, .inl (g.2.1, 149, .inl (fun _ => 0))), (q_2, .inl (g.2.1, 745, .inl (fun _ => 0)))]] H locs := hW
  have hP := hW.1
  refine b_putF (B' := [[(h, .inr (5, [.ref q_1, .ref q_2, .int 0, .null, .int 0, .null, .null, .null, .int 0, .int 0, .int 0, .null, .null, .null])), (q_1, .inl (g.2.1, 149, .inl (fun _ => 0))), (q_2, .inl (g.2.1, 745, .inl (fun _ => 0)))]]) (v := .ref q_2) hx hb hts inX5 tyX5_ok nmX5 hown hK hW 0 0 1 rfl rfl rfl (by decide) q3_26 rfl rfl (hin rfl) rfl rfl (Nat.le_of_ble_eq_true rfl) rfl dX5_init_19 (fun H locs hW => ?_)
  have hP := hW.1
  refine lv_aload_n hx hb dX5_init_22 rfl (lv_at hl 0 rfl) ?_
  refine lv_sipush (v := 149) hx hb dX5_init_23 (by decide) ?_
  refine b_newi (Bs := []) (b0 := [(h, .inr (5, [.ref q_1, .ref q_2, .int 0, .null, .int 0, .null, .null, .null, .int 0, .int 0, .int 0, .null, .null, .null])), (q_1, .inl (g.2.1, 149, .inl (fun _ => 0))), (q_2, .inl (g.2.1, 745, .inl (fun _ => 0)))]) (N := 149) hx hb hts hKq hW hA (by decide) (by decide +kernel) (Nat.le_of_ble_eq_true rfl) (Nat.le_of_ble_eq_true rfl) (Nat.le_of_ble_eq_true rfl) dX5_init_26 (fun q_3 H hW => ?_)
  have hW : wd g _ s.heap [[(h, .inr (5, [.ref q_1, .ref q_2, .int 0, .null, .int 0, .null, .null, .null, .int 0, .int 0, .int 0, .null, .null, .null])), (q_1, .inl (g.2.1, 149, .inl (fun _ => 0))), (q_2, .inl (g.2.1, 745, .inl (fun _ => 0))), (q_3, .inl (g.2.1, 149, .inl (fun _ => 0)))]] H locs := hW
  have hP := hW.1
  refine b_putF (B' := [[(h, .inr (5, [.ref q_1, .ref q_2, .int 0, .ref q_3, .int 0, .null, .null, .null, .int 0, .int 0, .int 0, .null, .null, .null])), (q_1, .inl (g.2.1, 149, .inl (fun _ => 0))), (q_2, .inl (g.2.1, 745, .inl (fun _ => 0))), (q_3, .inl (g.2.1, 149, .inl (fun _ => 0)))]]) (v := .ref q_3) hx hb hts inX5 tyX5_ok nmX5 hown hK hW 0 0 3 rfl rfl rfl (by decide) q3_28 rfl rfl (hin rfl) rfl rfl (Nat.le_of_ble_eq_true rfl) rfl dX5_init_28 (fun H locs hW => ?_)
  have hP := hW.1
  refine lv_aload_n hx hb dX5_init_31 rfl (lv_at hl 0 rfl) ?_
  refine lv_sipush (v := 149) hx hb dX5_init_32 (by decide) ?_
  refine b_newi (Bs := []) (b0 := [(h, .inr (5, [.ref q_1, .ref q_2, .int 0, .ref q_3, .int 0, .null, .null, .null, .int 0, .int 0, .int 0, .null, .null, .null])), (q_1, .inl (g.2.1, 149, .inl (fun _ => 0))), (q_2, .inl (g.2.1, 745, .inl (fun _ => 0))), (q_3, .inl (g.2.1, 149, .inl (fun _ => 0)))]) (N := 149) hx hb hts hKq hW hA (by decide) (by decide +kernel) (Nat.le_of_ble_eq_true rfl) (Nat.le_of_ble_eq_true rfl) (Nat.le_of_ble_eq_true rfl) dX5_init_35 (fun q_4 H hW => ?_)
  have hW : wd g _ s.heap [[(h, .inr (5, [.ref q_1, .ref q_2, .int 0, .ref q_3, .int 0, .null, .null, .null, .int 0, .int 0, .int 0, .null, .null, .null])), (q_1, .inl (g.2.1, 149, .inl (fun _ => 0))), (q_2, .inl (g.2.1, 745, .inl (fun _ => 0))), (q_3, .inl (g.2.1, 149, .inl (fun _ => 0))), (q_4, .inl (g.2.1, 149, .inl (fun _ => 0)))]] H locs := hW
  have hP := hW.1
  refine b_putF (B' := [[(h, .inr (5, [.ref q_1, .ref q_2, .int 0, .ref q_3, .int 0, .ref q_4, .null, .null, .int 0, .int 0, .int 0, .null, .null, .null])), (q_1, .inl (g.2.1, 149, .inl (fun _ => 0))), (q_2, .inl (g.2.1, 745, .inl (fun _ => 0))), (q_3, .inl (g.2.1, 149, .inl (fun _ => 0))), (q_4, .inl (g.2.1, 149, .inl (fun _ => 0)))]]) (v := .ref q_4) hx hb hts inX5 tyX5_ok nmX5 hown hK hW 0 0 5 rfl rfl rfl (by decide) q3_30 rfl rfl (hin rfl) rfl rfl (Nat.le_of_ble_eq_true rfl) rfl dX5_init_37 (fun H locs hW => ?_)
  have hP := hW.1
  refine lv_aload_n hx hb dX5_init_40 rfl (lv_at hl 0 rfl) ?_
  refine lv_bipush (v := 6) hx hb dX5_init_41 (by decide) ?_
  refine b_newi (Bs := []) (b0 := [(h, .inr (5, [.ref q_1, .ref q_2, .int 0, .ref q_3, .int 0, .ref q_4, .null, .null, .int 0, .int 0, .int 0, .null, .null, .null])), (q_1, .inl (g.2.1, 149, .inl (fun _ => 0))), (q_2, .inl (g.2.1, 745, .inl (fun _ => 0))), (q_3, .inl (g.2.1, 149, .inl (fun _ => 0))), (q_4, .inl (g.2.1, 149, .inl (fun _ => 0)))]) (N := 6) hx hb hts hKq hW hA (by decide) (by decide +kernel) (Nat.le_of_ble_eq_true rfl) (Nat.le_of_ble_eq_true rfl) (Nat.le_of_ble_eq_true rfl) dX5_init_43 (fun q_5 H hW => ?_)
  have hW : wd g _ s.heap [[(h, .inr (5, [.ref q_1, .ref q_2, .int 0, .ref q_3, .int 0, .ref q_4, .null, .null, .int 0, .int 0, .int 0, .null, .null, .null])), (q_1, .inl (g.2.1, 149, .inl (fun _ => 0))), (q_2, .inl (g.2.1, 745, .inl (fun _ => 0))), (q_3, .inl (g.2.1, 149, .inl (fun _ => 0))), (q_4, .inl (g.2.1, 149, .inl (fun _ => 0))), (q_5, .inl (g.2.1, 6, .inl (fun _ => 0)))]] H locs := hW
  have hP := hW.1
  refine b_putF (B' := [[(h, .inr (5, [.ref q_1, .ref q_2, .int 0, .ref q_3, .int 0, .ref q_4, .ref q_5, .null, .int 0, .int 0, .int 0, .null, .null, .null])), (q_1, .inl (g.2.1, 149, .inl (fun _ => 0))), (q_2, .inl (g.2.1, 745, .inl (fun _ => 0))), (q_3, .inl (g.2.1, 149, .inl (fun _ => 0))), (q_4, .inl (g.2.1, 149, .inl (fun _ => 0))), (q_5, .inl (g.2.1, 6, .inl (fun _ => 0)))]]) (v := .ref q_5) hx hb hts inX5 tyX5_ok nmX5 hown hK hW 0 0 6 rfl rfl rfl (by decide) q3_31 rfl rfl (hin rfl) rfl rfl (Nat.le_of_ble_eq_true rfl) rfl dX5_init_45 (fun H locs hW => ?_)
  have hP := hW.1
  refine lv_aload_n hx hb dX5_init_48 rfl (lv_at hl 0 rfl) ?_
  refine lv_bipush (v := 60) hx hb dX5_init_49 (by decide) ?_
  refine b_newi (Bs := []) (b0 := [(h, .inr (5, [.ref q_1, .ref q_2, .int 0, .ref q_3, .int 0, .ref q_4, .ref q_5, .null, .int 0, .int 0, .int 0, .null, .null, .null])), (q_1, .inl (g.2.1, 149, .inl (fun _ => 0))), (q_2, .inl (g.2.1, 745, .inl (fun _ => 0))), (q_3, .inl (g.2.1, 149, .inl (fun _ => 0))), (q_4, .inl (g.2.1, 149, .inl (fun _ => 0))), (q_5, .inl (g.2.1, 6, .inl (fun _ => 0)))]) (N := 60) hx hb hts hKq hW hA (by decide) (by decide +kernel) (Nat.le_of_ble_eq_true rfl) (Nat.le_of_ble_eq_true rfl) (Nat.le_of_ble_eq_true rfl) dX5_init_51 (fun q_6 H hW => ?_)
  have hW : wd g _ s.heap [[(h, .inr (5, [.ref q_1, .ref q_2, .int 0, .ref q_3, .int 0, .ref q_4, .ref q_5, .null, .int 0, .int 0, .int 0, .null, .null, .null])), (q_1, .inl (g.2.1, 149, .inl (fun _ => 0))), (q_2, .inl (g.2.1, 745, .inl (fun _ => 0))), (q_3, .inl (g.2.1, 149, .inl (fun _ => 0))), (q_4, .inl (g.2.1, 149, .inl (fun _ => 0))), (q_5, .inl (g.2.1, 6, .inl (fun _ => 0))), (q_6, .inl (g.2.1, 60, .inl (fun _ => 0)))]] H locs := hW
  have hP := hW.1
  refine b_putF (B' := [[(h, .inr (5, [.ref q_1, .ref q_2, .int 0, .ref q_3, .int 0, .ref q_4, .ref q_5, .ref q_6, .int 0, .int 0, .int 0, .null, .null, .null])), (q_1, .inl (g.2.1, 149, .inl (fun _ => 0))), (q_2, .inl (g.2.1, 745, .inl (fun _ => 0))), (q_3, .inl (g.2.1, 149, .inl (fun _ => 0))), (q_4, .inl (g.2.1, 149, .inl (fun _ => 0))), (q_5, .inl (g.2.1, 6, .inl (fun _ => 0))), (q_6, .inl (g.2.1, 60, .inl (fun _ => 0)))]]) (v := .ref q_6) hx hb hts inX5 tyX5_ok nmX5 hown hK hW 0 0 7 rfl rfl rfl (by decide) q3_32 rfl rfl (hin rfl) rfl rfl (Nat.le_of_ble_eq_true rfl) rfl dX5_init_53 (fun H locs hW => ?_)
  have hP := hW.1
  refine lv_aload_n hx hb dX5_init_56 rfl (lv_at hl 0 rfl) ?_
  refine lv_bipush (v := 32) hx hb dX5_init_57 (by decide) ?_
  refine b_newi (Bs := []) (b0 := [(h, .inr (5, [.ref q_1, .ref q_2, .int 0, .ref q_3, .int 0, .ref q_4, .ref q_5, .ref q_6, .int 0, .int 0, .int 0, .null, .null, .null])), (q_1, .inl (g.2.1, 149, .inl (fun _ => 0))), (q_2, .inl (g.2.1, 745, .inl (fun _ => 0))), (q_3, .inl (g.2.1, 149, .inl (fun _ => 0))), (q_4, .inl (g.2.1, 149, .inl (fun _ => 0))), (q_5, .inl (g.2.1, 6, .inl (fun _ => 0))), (q_6, .inl (g.2.1, 60, .inl (fun _ => 0)))]) (N := 32) hx hb hts hKq hW hA (by decide) (by decide +kernel) (Nat.le_of_ble_eq_true rfl) (Nat.le_of_ble_eq_true rfl) (Nat.le_of_ble_eq_true rfl) dX5_init_59 (fun q_7 H hW => ?_)
  have hW : wd g _ s.heap [[(h, .inr (5, [.ref q_1, .ref q_2, .int 0, .ref q_3, .int 0, .ref q_4, .ref q_5, .ref q_6, .int 0, .int 0, .int 0, .null, .null, .null])), (q_1, .inl (g.2.1, 149, .inl (fun _ => 0))), (q_2, .inl (g.2.1, 745, .inl (fun _ => 0))), (q_3, .inl (g.2.1, 149, .inl (fun _ => 0))), (q_4, .inl (g.2.1, 149, .inl (fun _ => 0))), (q_5, .inl (g.2.1, 6, .inl (fun _ => 0))), (q_6, .inl (g.2.1, 60, .inl (fun _ => 0))), (q_7, .inl (g.2.1, 32, .inl (fun _ => 0)))]] H locs := hW
  have hP := hW.1
  refine b_putF (B' := [[(h, .inr (5, [.ref q_1, .ref q_2, .int 0, .ref q_3, .int 0, .ref q_4, .ref q_5, .ref q_6, .int 0, .int 0, .int 0, .ref q_7, .null, .null])), (q_1, .inl (g.2.1, 149, .inl (fun _ => 0))), (q_2, .inl (g.2.1, 745, .inl (fun _ => 0))), (q_3, .inl (g.2.1, 149, .inl (fun _ => 0))), (q_4, .inl (g.2.1, 149, .inl (fun _ => 0))), (q_5, .inl (g.2.1, 6, .inl (fun _ => 0))), (q_6, .inl (g.2.1, 60, .inl (fun _ => 0))), (q_7, .inl (g.2.1, 32, .inl (fun _ => 0)))]]) (v := .ref q_7) hx hb hts inX5 tyX5_ok nmX5 hown hK hW 0 0 11 rfl rfl rfl (by decide) q3_36 rfl rfl (hin rfl) rfl rfl (Nat.le_of_ble_eq_true rfl) rfl dX5_init_61 (fun H locs hW => ?_)
  have hP := hW.1
  refine lv_aload_n hx hb dX5_init_64 rfl (lv_at hl 0 rfl) ?_
  refine lv_bipush (v := 32) hx hb dX5_init_65 (by decide) ?_
  refine b_newi (Bs := []) (b0 := [(h, .inr (5, [.ref q_1, .ref q_2, .int 0, .ref q_3, .int 0, .ref q_4, .ref q_5, .ref q_6, .int 0, .int 0, .int 0, .ref q_7, .null, .null])), (q_1, .inl (g.2.1, 149, .inl (fun _ => 0))), (q_2, .inl (g.2.1, 745, .inl (fun _ => 0))), (q_3, .inl (g.2.1, 149, .inl (fun _ => 0))), (q_4, .inl (g.2.1, 149, .inl (fun _ => 0))), (q_5, .inl (g.2.1, 6, .inl (fun _ => 0))), (q_6, .inl (g.2.1, 60, .inl (fun _ => 0))), (q_7, .inl (g.2.1, 32, .inl (fun _ => 0)))]) (N := 32) hx hb hts hKq hW hA (by decide) (by decide +kernel) (Nat.le_of_ble_eq_true rfl) (Nat.le_of_ble_eq_true rfl) (Nat.le_of_ble_eq_true rfl) dX5_init_67 (fun q_8 H hW => ?_)
  have hW : wd g _ s.heap [[(h, .inr (5, [.ref q_1, .ref q_2, .int 0, .ref q_3, .int 0, .ref q_4, .ref q_5, .ref q_6, .int 0, .int 0, .int 0, .ref q_7, .null, .null])), (q_1, .inl (g.2.1, 149, .inl (fun _ => 0))), (q_2, .inl (g.2.1, 745, .inl (fun _ => 0))), (q_3, .inl (g.2.1, 149, .inl (fun _ => 0))), (q_4, .inl (g.2.1, 149, .inl (fun _ => 0))), (q_5, .inl (g.2.1, 6, .inl (fun _ => 0))), (q_6, .inl (g.2.1, 60, .inl (fun _ => 0))), (q_7, .inl (g.2.1, 32, .inl (fun _ => 0))), (q_8, .inl (g.2.1, 32, .inl (fun _ => 0)))]] H locs := hW
  have hP := hW.1
  refine b_putF (B' := [[(h, .inr (5, [.ref q_1, .ref q_2, .int 0, .ref q_3, .int 0, .ref q_4, .ref q_5, .ref q_6, .int 0, .int 0, .int 0, .ref q_7, .ref q_8, .null])), (q_1, .inl (g.2.1, 149, .inl (fun _ => 0))), (q_2, .inl (g.2.1, 745, .inl (fun _ => 0))), (q_3, .inl (g.2.1, 149, .inl (fun _ => 0))), (q_4, .inl (g.2.1, 149, .inl (fun _ => 0))), (q_5, .inl (g.2.1, 6, .inl (fun _ => 0))), (q_6, .inl (g.2.1, 60, .inl (fun _ => 0))), (q_7, .inl (g.2.1, 32, .inl (fun _ => 0))), (q_8, .inl (g.2.1, 32, .inl (fun _ => 0)))]]) (v := .ref q_8) hx hb hts inX5 tyX5_ok nmX5 hown hK hW 0 0 12 rfl rfl rfl (by decide) q3_37 rfl rfl (hin rfl) rfl rfl (Nat.le_of_ble_eq_true rfl) rfl dX5_init_69 (fun H locs hW => ?_)
  have hP := hW.1
  refine lv_aload_n hx hb dX5_init_72 rfl (lv_at hl 0 rfl) ?_
  refine lv_bipush (v := 32) hx hb dX5_init_73 (by decide) ?_
  refine b_newi (Bs := []) (b0 := [(h, .inr (5, [.ref q_1, .ref q_2, .int 0, .ref q_3, .int 0, .ref q_4, .ref q_5, .ref q_6, .int 0, .int 0, .int 0, .ref q_7, .ref q_8, .null])), (q_1, .inl (g.2.1, 149, .inl (fun _ => 0))), (q_2, .inl (g.2.1, 745, .inl (fun _ => 0))), (q_3, .inl (g.2.1, 149, .inl (fun _ => 0))), (q_4, .inl (g.2.1, 149, .inl (fun _ => 0))), (q_5, .inl (g.2.1, 6, .inl (fun _ => 0))), (q_6, .inl (g.2.1, 60, .inl (fun _ => 0))), (q_7, .inl (g.2.1, 32, .inl (fun _ => 0))), (q_8, .inl (g.2.1, 32, .inl (fun _ => 0)))]) (N := 32) hx hb hts hKq hW hA (by decide) (by decide +kernel) (Nat.le_of_ble_eq_true rfl) (Nat.le_of_ble_eq_true rfl) (Nat.le_of_ble_eq_true rfl) dX5_init_75 (fun q_9 H hW => ?_)
  have hW : wd g _ s.heap [[(h, .inr (5, [.ref q_1, .ref q_2, .int 0, .ref q_3, .int 0, .ref q_4, .ref q_5, .ref q_6, .int 0, .int 0, .int 0, .ref q_7, .ref q_8, .null])), (q_1, .inl (g.2.1, 149, .inl (fun _ => 0))), (q_2, .inl (g.2.1, 745, .inl (fun _ => 0))), (q_3, .inl (g.2.1, 149, .inl (fun _ => 0))), (q_4, .inl (g.2.1, 149, .inl (fun _ => 0))), (q_5, .inl (g.2.1, 6, .inl (fun _ => 0))), (q_6, .inl (g.2.1, 60, .inl (fun _ => 0))), (q_7, .inl (g.2.1, 32, .inl (fun _ => 0))), (q_8, .inl (g.2.1, 32, .inl (fun _ => 0))), (q_9, .inl (g.2.1, 32, .inl (fun _ => 0)))]] H locs := hW
  have hP := hW.1
  refine b_putF (B' := [[(h, .inr (5, [.ref q_1, .ref q_2, .int 0, .ref q_3, .int 0, .ref q_4, .ref q_5, .ref q_6, .int 0, .int 0, .int 0, .ref q_7, .ref q_8, .ref q_9])), (q_1, .inl (g.2.1, 149, .inl (fun _ => 0))), (q_2, .inl (g.2.1, 745, .inl (fun _ => 0))), (q_3, .inl (g.2.1, 149, .inl (fun _ => 0))), (q_4, .inl (g.2.1, 149, .inl (fun _ => 0))), (q_5, .inl (g.2.1, 6, .inl (fun _ => 0))), (q_6, .inl (g.2.1, 60, .inl (fun _ => 0))), (q_7, .inl (g.2.1, 32, .inl (fun _ => 0))), (q_8, .inl (g.2.1, 32, .inl (fun _ => 0))), (q_9, .inl (g.2.1, 32, .inl (fun _ => 0)))]]) (v := .ref q_9) hx hb hts inX5 tyX5_ok nmX5 hown hK hW 0 0 13 rfl rfl rfl (by decide) q3_38 rfl rfl (hin rfl) rfl rfl (Nat.le_of_ble_eq_true rfl) rfl dX5_init_77 (fun H locs hW => ?_)
  have hP := hW.1
  obtain ⟨a, ha⟩ : ∃ a : Nat → Nat, a = fun k9 => ([q_1, q_2, q_3, q_4, q_5, q_6, q_7, q_8, q_9] : List Nat).getD k9 0 := ⟨_, rfl⟩
  have hW := wd_row hW 0 1 rfl rfl (f' := rowOf zV) (fun j9 _ => (rowOf_z j9).symm) rfl
  have hW : wd g (frN [[(h, .inr (5, [.null, .null, .int 0, .null, .int 0, .null, .null, .null, .int 0, .int 0, .int 0, .null, .null, .null]))]] sz) s.heap [mV g h a zV zV] H locs := by rw [ha]; exact hW
  have hP := hW.1
  refine lv_aload_n hx hb dX5_init_80 rfl (lv_at hl 0 rfl) ?_
  refine b_get (v := .ref (a 0)) hx hb hts inX5 hown hK hP 0 0 0 rfl rfl rfl (by decide) q3_25 rfl rfl dX5_init_81 ?_
  refine lv_iconst (v := 0) hx hb dX5_init_84 (by decide) ?_
  refine lv_iconst (v := 1) hx hb dX5_init_85 (by decide) ?_
  refine b_iastE (B' := [mV g h a (up2 zV 12 0 1) zV]) hx hb hK hW 0 1 (0) rfl rfl rfl (by omega) rfl (row_put_s _ (by omega) _) rfl dX5_init_86 (fun H locs hW => ?_)
  have hP := hW.1
  refine lv_aload_n hx hb dX5_init_87 rfl (lv_at hl 0 rfl) ?_
  refine b_get (v := .ref (a 0)) hx hb hts inX5 hown hK hP 0 0 0 rfl rfl rfl (by decide) q3_25 rfl rfl dX5_init_88 ?_
  refine lv_iconst (v := 1) hx hb dX5_init_91 (by decide) ?_
  refine lv_iconst (v := 1) hx hb dX5_init_92 (by decide) ?_
  refine b_iastE (B' := [mV g h a (up2 (up2 zV 12 0 1) 12 1 1) zV]) hx hb hK hW 0 1 (1) rfl rfl rfl (by omega) rfl (row_put_s _ (by omega) _) rfl dX5_init_93 (fun H locs hW => ?_)
  have hP := hW.1
  refine lv_aload_n hx hb dX5_init_94 rfl (lv_at hl 0 rfl) ?_
  refine b_get (v := .ref (a 0)) hx hb hts inX5 hown hK hP 0 0 0 rfl rfl rfl (by decide) q3_25 rfl rfl dX5_init_95 ?_
  refine lv_iconst (v := 3) hx hb dX5_init_98 (by decide) ?_
  refine lv_bipush (v := -5) hx hb dX5_init_99 (by decide) ?_
  refine b_iastE (B' := [mV g h a (up2 (up2 (up2 zV 12 0 1) 12 1 1) 12 3 (-5)) zV]) hx hb hK hW 0 1 (3) rfl rfl rfl (by omega) rfl (row_put_s _ (by omega) _) rfl dX5_init_101 (fun H locs hW => ?_)
  have hP := hW.1
  refine lv_iconst (v := 0) hx hb dX5_init_102 (by decide) ?_
  refine lv_istore_n (lv' := [(1, .int 0), (0, .ref h)]) hx hb dX5_init_103 rfl hl (by decide) rfl (fun ls hl => ?_)
  have e_10 : [mV g h a (v0 0) zV] = [mV g h a (up2 (up2 (up2 zV 12 0 1) 12 1 1) 12 3 (-5)) zV] := by rw [v0_z]
  refine loopN (fun i : Nat => ∀ (H : Heap) (locs : List Loc) (ls : Array Slot), wd g (frN [[(h, .inr (5, [.null, .null, .int 0, .null, .int 0, .null, .null, .null, .int 0, .int 0, .int 0, .null, .null, .null]))]] sz) s.heap [mV g h a (v0 i) zV] H locs → lv_has ls 2 [(0, .ref h), (1, .int (nI i))] → W p l e _ s m _ below meth c H locs 9 1354 _ (F0 m 104 ls [])) (6) (fun i hi ih_i => ?_) (0) (by omega)  H locs ls (by rw [e_10]; exact hW) (lv_sub hl [1, 0] rfl) 
  intro  H locs ls hW hl 
  have hP := hW.1
  refine lv_iload_n hx hb dX5_init_104 rfl (lv_at hl 1 rfl) ?_
  refine lv_bipush (v := 6) hx hb dX5_init_105 (by decide) ?_
  refine b_ge (tgt := 140) (i) (6) hx hb rfl rfl (by omega) (by omega) dX5_init_107 (by decide) (fun h_11 => ?_) (fun h_11 => ?_)
  · obtain rfl : i = 6 := by omega
    exact uN_ret a hsz hW hx hb hr hlocks dX5_init_140 trivial (rfl)
  · refine lv_aload_n hx hb dX5_init_110 rfl (lv_at hl 0 rfl) ?_
    refine lv_iload_n hx hb dX5_init_111 rfl (lv_at hl 1 rfl) ?_
    refine lv_iconst (v := 0) hx hb dX5_init_112 (by decide) ?_
    refine lv_iconst (v := 4) hx hb dX5_init_113 (by decide) ?_
    refine lv_iload_n hx hb dX5_init_114 rfl (lv_at hl 1 rfl) ?_
    refine lv_imul hx hb dX5_init_115 ?_
    refine b_top (y := nI (4 * i)) (pk_mul 4 i) ?_
    refine call_VU (As := [.int (nI i), .int 0, .int (nI (4 * i))]) (rest := []) E rfl hK hW (c_X5_put_k l g h a (v0 i) zV i 0 (nI (4 * i)) (by omega) (by omega)) ok_X5_put rfl q3_21 [0] rfl (by decide) (b_recv hK hP 0 0 rfl rfl rfl rfl) ⟨⟨rfl, rfl⟩, Nat.le_of_ble_eq_true rfl, Nat.le_of_ble_eq_true rfl⟩ hl.1 (Nat.le_of_ble_eq_true rfl) ⟨Nat.le_of_ble_eq_true rfl, Nat.le_of_ble_eq_true rfl⟩ rfl dX5_init_116 (fun _u H locs _ hW => ?_)
    have hW : wd g _ s.heap [mV g h a (up2 (v0 i) 0 i (nI (4 * i))) zV] H locs := hW
    have hP := hW.1
    refine lv_aload_n hx hb dX5_init_119 rfl (lv_at hl 0 rfl) ?_
    refine lv_iload_n hx hb dX5_init_120 rfl (lv_at hl 1 rfl) ?_
    refine lv_iconst (v := 1) hx hb dX5_init_121 (by decide) ?_
    refine lv_bipush (v := 8) hx hb dX5_init_122 (by decide) ?_
    refine call_VU (As := [.int (nI i), .int 1, .int 8]) (rest := []) E rfl hK hW (c_X5_put_k l g h a (up2 (v0 i) 0 i (nI (4 * i))) zV i 1 8 (by omega) (by omega)) ok_X5_put rfl q3_21 [0] rfl (by decide) (b_recv hK hP 0 0 rfl rfl rfl rfl) ⟨⟨rfl, rfl⟩, Nat.le_of_ble_eq_true rfl, Nat.le_of_ble_eq_true rfl⟩ hl.1 (Nat.le_of_ble_eq_true rfl) ⟨Nat.le_of_ble_eq_true rfl, Nat.le_of_ble_eq_true rfl⟩ rfl dX5_init_124 (fun _u H locs _ hW => ?_)
    have hW : wd g _ s.heap [mV g h a (up2 (up2 (v0 i) 0 i (nI (4 * i))) 1 i 8) zV] H locs := hW
    have hP := hW.1
    refine lv_aload_n hx hb dX5_init_127 rfl (lv_at hl 0 rfl) ?_
    refine lv_iload_n hx hb dX5_init_128 rfl (lv_at hl 1 rfl) ?_
    refine lv_iconst (v := 5) hx hb dX5_init_129 (by decide) ?_
    refine lv_iload_n hx hb dX5_init_130 rfl (lv_at hl 1 rfl) ?_
    refine call_VU (As := [.int (nI i), .int 5, .int (nI i)]) (rest := []) E rfl hK hW (c_X5_put_k l g h a (up2 (up2 (v0 i) 0 i (nI (4 * i))) 1 i 8) zV i 5 (nI i) (by omega) (by omega)) ok_X5_put rfl q3_21 [0] rfl (by decide) (b_recv hK hP 0 0 rfl rfl rfl rfl) ⟨⟨rfl, rfl⟩, Nat.le_of_ble_eq_true rfl, Nat.le_of_ble_eq_true rfl⟩ hl.1 (Nat.le_of_ble_eq_true rfl) ⟨Nat.le_of_ble_eq_true rfl, Nat.le_of_ble_eq_true rfl⟩ rfl dX5_init_131 (fun _u H locs _ hW => ?_)
    have hW : wd g _ s.heap [mV g h a (up2 (up2 (up2 (v0 i) 0 i (nI (4 * i))) 1 i 8) 5 i (nI i)) zV] H locs := hW
    have hP := hW.1
    refine lv_iinc (v := nI (i + 1)) (lv' := [(1, .int (nI (i + 1))), (0, .ref h)]) hx hb dX5_init_134 hl (k := 1) rfl (nI_add i 1) (by decide) rfl (fun ls hl => ?_)
    refine lv_goto (tgt := 104) hx hb dX5_init_137 (by decide) ?_
    have e_12 : ([mV g h a (v0 (i + 1)) zV] : List va_W) = [mV g h a (up2 (up2 (up2 (v0 i) 0 i (nI (4 * i))) 1 i 8) 5 i (nI i)) zV] := by rw [v0_s]
    exact ih_i (by omega)  _ _ _ (by rw [e_12]; exact hW) (lv_sub hl [1, 0] rfl) 
