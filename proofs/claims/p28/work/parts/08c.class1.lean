set_option maxHeartbeats 4000000 in
set_option maxRecDepth 100000 in
theorem c_X3_hasBell (l : Launch) (g : gx) (h : Nat) (a : Nat → Nat) (V : sV) (x y : Int32)  : cR l g yX3_hasBell cX3_hasBell 3 (some .boolean) ({ frames := 1, cells := 0, slots := 0, locals := 20 } : Room) [.ref h, .int x, .int y] [vB g h a V] (.int (bI (hasB V x y))) := by
  refine cR.mk (by decide +kernel) (Nat.le_of_ble_eq_true rfl) ?_
  intro p e s m below meth c ls E hK hP hl
  obtain ⟨hx, hb, hr, hml, hts, hown, hlocks, hin⟩ := id E
  have hown : s.vm.findClass RX3 = some m.cls := hown
  have hl : lv_has ls 3 [(0, .ref h), (1, .int x), (2, .int y)] := hl
  refine lv_iload_n hx hb dX3_hasBell_0 rfl (lv_at hl 1 rfl) ?_
  refine call_NR (As := [.int x]) (rest := []) E rfl hK hP (c_X4_isTown l g x) ok_X4_isTown rfl hK.2.2.2.2.2.1 [] rfl ⟨⟨rfl, rfl⟩, Nat.le_of_ble_eq_true rfl, Nat.le_of_ble_eq_true rfl⟩ hl.1 (Nat.le_of_ble_eq_true rfl) ⟨Nat.le_of_ble_eq_true rfl, Nat.le_of_ble_eq_true rfl⟩ rfl dX3_hasBell_1 ?_
  refine b_eq0 (tgt := 25) hx hb dX3_hasBell_4 (by decide) (fun h_1 => ?_) (fun h_1 => ?_)
  · refine lv_iconst (v := 0) hx hb dX3_hasBell_25 (by decide) ?_
    exact rZ_ret hx hb hr hlocks dX3_hasBell_26 (by first | exact bI_t ⟨by assumption, by assumption, by rw [nI_clamp (by omega)]; assumption⟩ | exact bI_f (fun q => absurd q.1 (by assumption)) | exact bI_f (fun q => absurd (by assumption) q.2.1) | exact bI_f (fun q => absurd (by rw [nI_clamp (by omega)]; assumption) q.2.2))
  · obtain ⟨t, ht, rfl⟩ := isT_nat h_1
    refine lv_iload_n hx hb dX3_hasBell_7 rfl (lv_at hl 2 rfl) ?_
    refine lv_if_lt (tgt := 25) hx hb dX3_hasBell_8 (by decide) (fun h_2 => ?_) (fun h_2 => ?_)
    · refine lv_iconst (v := 0) hx hb dX3_hasBell_25 (by decide) ?_
      exact rZ_ret hx hb hr hlocks dX3_hasBell_26 (by first | exact bI_t ⟨by assumption, by assumption, by rw [nI_clamp (by omega)]; assumption⟩ | exact bI_f (fun q => absurd q.1 (by assumption)) | exact bI_f (fun q => absurd (by assumption) q.2.1) | exact bI_f (fun q => absurd (by rw [nI_clamp (by omega)]; assumption) q.2.2))
    · refine lv_iload_n hx hb dX3_hasBell_11 rfl (lv_at hl 2 rfl) ?_
      refine lv_aload_n hx hb dX3_hasBell_12 rfl (lv_at hl 0 rfl) ?_
      refine b_get (v := .ref (a 3)) hx hb hts inX3 hown hK hP 0 0 3 rfl rfl rfl (by decide) q1_29 rfl rfl dX3_hasBell_13 ?_
      refine lv_iload_n hx hb dX3_hasBell_16 rfl (lv_at hl 1 rfl) ?_
      refine b_iald (v := V 3 t) hx hb hK hP 0 4 (t) rfl rfl rfl (by omega) rfl rfl dX3_hasBell_17 ?_
      refine lv_icmp_ge (tgt := 25) hx hb dX3_hasBell_18 (by decide) (fun h_3 => ?_) (fun h_3 => ?_)
      · refine lv_iconst (v := 0) hx hb dX3_hasBell_25 (by decide) ?_
        exact rZ_ret hx hb hr hlocks dX3_hasBell_26 (by first | exact bI_t ⟨by assumption, by assumption, by rw [nI_clamp (by omega)]; assumption⟩ | exact bI_f (fun q => absurd q.1 (by assumption)) | exact bI_f (fun q => absurd (by assumption) q.2.1) | exact bI_f (fun q => absurd (by rw [nI_clamp (by omega)]; assumption) q.2.2))
      · refine lv_iconst (v := 1) hx hb dX3_hasBell_21 (by decide) ?_
        refine lv_goto (tgt := 26) hx hb dX3_hasBell_22 (by decide) ?_
        exact rZ_ret hx hb hr hlocks dX3_hasBell_26 (by first | exact bI_t ⟨by assumption, by assumption, by rw [nI_clamp (by omega)]; assumption⟩ | exact bI_f (fun q => absurd q.1 (by assumption)) | exact bI_f (fun q => absurd (by assumption) q.2.1) | exact bI_f (fun q => absurd (by rw [nI_clamp (by omega)]; assumption) q.2.2))

set_option maxHeartbeats 4000000 in
set_option maxRecDepth 100000 in
theorem c_X3_isTakenByAnother (l : Launch) (g : gx) (h : Nat) (a : Nat → Nat) (V : sV) (x : Int32) (t : Nat) (ht : t < 6)  : cR l g yX3_isTakenByAnother cX3_isTakenByAnother 4 (some .boolean) ({ frames := 0, cells := 0, slots := 0, locals := 0 } : Room) [.ref h, .int x, .int (nI t)] [vB g h a V] (.int (bI (takB V x t 6 = true))) := by
  refine cR.mk (by decide +kernel) (Nat.le_of_ble_eq_true rfl) ?_
  intro p e s m below meth c ls E hK hP hl
  obtain ⟨hx, hb, hr, hml, hts, hown, hlocks, hin⟩ := id E
  have hown : s.vm.findClass RX3 = some m.cls := hown
  have hl : lv_has ls 4 [(0, .ref h), (1, .int x), (2, .int (nI t))] := hl
  refine lv_iconst (v := 0) hx hb dX3_isTakenByAnother_0 (by decide) ?_
  refine lv_istore_n (lv' := [(3, .int 0), (0, .ref h), (1, .int x), (2, .int (nI t))]) hx hb dX3_isTakenByAnother_1 rfl hl (by decide) rfl (fun ls hl => ?_)
  refine loopN (fun i : Nat => ∀ ls : Array Slot, lv_has ls 4 [(0, .ref h), (1, .int x), (2, .int (nI t)), (3, .int (nI i))] → (takB V x t i = false) → W p l e _ s m _ below meth c s.heap [] 0 0 _ (F0 m 2 ls [])) (6) (fun i hi ih_i => ?_) (0) (by omega)  ls (lv_sub hl [1, 2, 3, 0] rfl) (rfl)
  intro  ls hl hno
  refine lv_iload_n hx hb dX3_isTakenByAnother_2 rfl (lv_at hl 3 rfl) ?_
  refine lv_bipush (v := 6) hx hb dX3_isTakenByAnother_3 (by decide) ?_
  refine b_ge (tgt := 31) (i) (6) hx hb rfl rfl (by omega) (by omega) dX3_isTakenByAnother_5 (by decide) (fun h_1 => ?_) (fun h_1 => ?_)
  · obtain rfl : i = 6 := by omega
    refine lv_iconst (v := 0) hx hb dX3_isTakenByAnother_31 (by decide) ?_
    exact rZ_ret hx hb hr hlocks dX3_isTakenByAnother_32 (bI_f (by rw [hno]; decide))
  · refine lv_iload_n hx hb dX3_isTakenByAnother_8 rfl (lv_at hl 3 rfl) ?_
    refine lv_iload_n hx hb dX3_isTakenByAnother_9 rfl (lv_at hl 2 rfl) ?_
    refine b_eq (tgt := 25) (i) (t) hx hb rfl rfl (by omega) (by omega) dX3_isTakenByAnother_10 (by decide) (fun h_2 => ?_) (fun h_2 => ?_)
    · refine lv_iinc (v := nI (i + 1)) (lv' := [(3, .int (nI (i + 1))), (0, .ref h), (1, .int x), (2, .int (nI t))]) hx hb dX3_isTakenByAnother_25 hl (k := 3) rfl (nI_add i 1) (by decide) rfl (fun ls hl => ?_)
      refine lv_goto (tgt := 2) hx hb dX3_isTakenByAnother_28 (by decide) ?_
      exact ih_i (by omega)  _ (lv_sub hl [1, 2, 3, 0] rfl) (by rw [takB, hno]; simp [h_1, h_2])
    · refine lv_aload_n hx hb dX3_isTakenByAnother_13 rfl (lv_at hl 0 rfl) ?_
      refine b_get (v := .ref (a 0)) hx hb hts inX3 hown hK hP 0 0 0 rfl rfl rfl (by decide) q1_22 rfl rfl dX3_isTakenByAnother_14 ?_
      refine lv_iload_n hx hb dX3_isTakenByAnother_17 rfl (lv_at hl 3 rfl) ?_
      refine b_iald (v := V 0 i) hx hb hK hP 0 1 (i) rfl rfl rfl (by omega) rfl rfl dX3_isTakenByAnother_18 ?_
      refine lv_iload_n hx hb dX3_isTakenByAnother_19 rfl (lv_at hl 1 rfl) ?_
      refine lv_icmp_ne (tgt := 25) hx hb dX3_isTakenByAnother_20 (by decide) (fun h_3 => ?_) (fun h_3 => ?_)
      · refine lv_iinc (v := nI (i + 1)) (lv' := [(3, .int (nI (i + 1))), (0, .ref h), (1, .int x), (2, .int (nI t))]) hx hb dX3_isTakenByAnother_25 hl (k := 3) rfl (nI_add i 1) (by decide) rfl (fun ls hl => ?_)
        refine lv_goto (tgt := 2) hx hb dX3_isTakenByAnother_28 (by decide) ?_
        exact ih_i (by omega)  _ (lv_sub hl [1, 2, 3, 0] rfl) (by rw [takB, hno]; simp [h_1, h_2, h_3])
      · refine lv_iconst (v := 1) hx hb dX3_isTakenByAnother_23 (by decide) ?_
        exact rZ_ret hx hb hr hlocks dX3_isTakenByAnother_24 (bI_t (takB_le (i := i + 1) (by rw [takB]; simp [h_1, h_2, h_3]) (by omega)))
