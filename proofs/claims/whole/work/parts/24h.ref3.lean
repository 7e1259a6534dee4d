set_option maxHeartbeats 4000000 in
set_option maxRecDepth 100000 in
theorem c_X5_restore (l : Launch) (g : gx) (h : Nat) (a : Nat → Nat) (V X : sV) (W1 : sV) (hsrc : ∀ p9, p9 < 149 → X 2 (p9) = rowOf W1 p9) (n : Nat) (hn : X 9 0 = nI n) (hn5 : n ≤ 5)  : cU (S := Bool × sV) l g yX5_restore cX5_restore 2 (some .int) ({ frames := 1, cells := 0, slots := 0, locals := 21 } : Room) [.ref h] [mV g h a V X] (fun u => some (.int (bif u.1 then (W1 12 2) else (reE (X 9 1))))) (fun u => bif u.1 then (reE (X 9 1) = 0 ∧ recP V X u.2 n) else (¬ reE (X 9 1) = 0 ∧ u.2 = X)) (fun u => [mV g h a (bif u.1 then W1 else V) u.2]) := by
  refine cU.mk (by decide +kernel) (Nat.le_of_ble_eq_true rfl) ?_
  intro p e s m below meth c ls E hK hW hl
  obtain ⟨hx, hb, hr, hml, hts, hown, hlocks, hin⟩ := id E
  have hown : s.vm.findClass RX5 = some m.cls := hown
  have hP := hW.1
  have hl : lv_has ls 2 [(0, .ref h)] := hl
  refine lv_aload_n hx hb dX5_restore_0 rfl (lv_at hl 0 rfl) ?_
  refine b_get (v := .int (X 9 1)) hx hb hts inX5 hown hK hP 0 0 4 rfl rfl rfl (by decide) q3_29 rfl rfl dX5_restore_1 ?_
  refine lv_if_ne (tgt := 10) hx hb dX5_restore_4 (by decide) (fun h_1 => ?_) (fun h_1 => ?_)
  · refine lv_aload_n hx hb dX5_restore_10 rfl (lv_at hl 0 rfl) ?_
    refine call_VU (As := []) (rest := []) E rfl hK hW (c_X5_record l g h a V X n hn hn5) ok_X5_record rfl q3_80 [0] rfl (by decide) (b_recv hK hP 0 0 rfl rfl rfl rfl) ⟨⟨rfl, rfl⟩, Nat.le_of_ble_eq_true rfl, Nat.le_of_ble_eq_true rfl⟩ hl.1 (Nat.le_of_ble_eq_true rfl) ⟨Nat.le_of_ble_eq_true rfl, Nat.le_of_ble_eq_true rfl⟩ rfl dX5_restore_11 (fun UR H locs hUR hW => ?_)
    have hW : wd g _ s.heap [mV g h a V UR] H locs := hW
    have hP := hW.1
    refine lv_iconst (v := 0) hx hb dX5_restore_14 (by decide) ?_
    refine lv_istore_n (lv' := [(1, .int 0), (0, .ref h)]) hx hb dX5_restore_15 rfl hl (by decide) rfl (fun ls hl => ?_)
    have hsrc : ∀ p9, p9 < 149 → UR 2 p9 = rowOf W1 p9 := fun p9 h9 => by rw [hUR.1 2 (by omega) (by omega)]; exact hsrc p9 h9
    refine loopN (fun i : Nat => ∀ f : Nat → Int32, ∀ (H : Heap) (locs : List Loc) (ls : Array Slot), wd g (fun z9 => z9 ∈ adr [mV g h a V X]) s.heap [mG g h a f UR] H locs → lv_has ls 2 [(0, .ref h), (1, .int (nI i))] → (∀ p9, p9 < i → f p9 = rowOf W1 p9) → W p l e _ s m _ below meth c H locs 0 0 _ (F0 m 16 ls [])) (149) (fun i hi ih_i => ?_) (0) (by omega) (rowOf V) H locs ls hW (lv_sub hl [1, 0] rfl) (fun p9 h9 => absurd h9 (by omega))
    intro f H locs ls hW hl hf
    have hP := hW.1
    refine lv_iload_n hx hb dX5_restore_16 rfl (lv_at hl 1 rfl) ?_
    refine lv_sipush (v := 149) hx hb dX5_restore_17 (by decide) ?_
    refine b_ge (tgt := 41) (i) (149) hx hb rfl rfl (by omega) (by omega) dX5_restore_20 (by decide) (fun h_2 => ?_) (fun h_2 => ?_)
    · obtain rfl : i = 149 := by omega
      have hW : wd g _ s.heap [mV g h a W1 UR] H locs := wd_row hW 0 1 rfl rfl (f' := rowOf W1) hf rfl
      have hP := hW.1
      refine lv_aload_n hx hb dX5_restore_41 rfl (lv_at hl 0 rfl) ?_
      refine b_get (v := .ref (a 0)) hx hb hts inX5 hown hK hP 0 0 0 rfl rfl rfl (by decide) q3_25 rfl rfl dX5_restore_42 ?_
      refine lv_iconst (v := 2) hx hb dX5_restore_45 (by decide) ?_
      refine b_iald (v := W1 12 2) hx hb hK hP 0 1 (2) rfl rfl rfl (by omega) rfl rfl dX5_restore_46 ?_
      have hE : reE (X 9 1) = 0 := by simp only [h_1, h_2, reE, not_true_eq_false, not_false_eq_true, and_true, true_and, and_false, false_and, and_self, or_true, true_or, or_false, false_or, ne_eq, ite_true, ite_false, reduceIte]
      exact uI_ret (true, UR) hW hx hb hr hlocks dX5_restore_47 (rfl) (show (reE (X 9 1) = 0) ∧ _ from ⟨hE, hUR⟩) (by simp only [cond_true, cond_false]) (adr2 (L := [[h, a 0, a 1, a 2, a 3, a 4, a 5, a 6, a 7, a 8]]) rfl rfl)
    · refine lv_aload_n hx hb dX5_restore_23 rfl (lv_at hl 0 rfl) ?_
      refine b_get (v := .ref (a 0)) hx hb hts inX5 hown hK hP 0 0 0 rfl rfl rfl (by decide) q3_25 rfl rfl dX5_restore_24 ?_
      refine lv_iload_n hx hb dX5_restore_27 rfl (lv_at hl 1 rfl) ?_
      refine lv_aload_n hx hb dX5_restore_28 rfl (lv_at hl 0 rfl) ?_
      refine b_get (v := .ref (a 2)) hx hb hts inX5 hown hK hP 0 0 3 rfl rfl rfl (by decide) q3_28 rfl rfl dX5_restore_29 ?_
      refine lv_iload_n hx hb dX5_restore_32 rfl (lv_at hl 1 rfl) ?_
      refine b_iald (v := UR 2 i) hx hb hK hP 0 3 (i) rfl rfl rfl (by omega) rfl rfl dX5_restore_33 ?_
      refine b_iast (B' := [mG g h a (upd f i (UR 2 i)) UR]) hx hb hK hW 0 1 (i) rfl rfl rfl (by omega) rfl rfl dX5_restore_34 (fun H locs hW => ?_)
      have hP := hW.1
      refine lv_iinc (v := nI (i + 1)) (lv' := [(1, .int (nI (i + 1))), (0, .ref h)]) hx hb dX5_restore_35 hl (k := 1) rfl (nI_add i 1) (by decide) rfl (fun ls hl => ?_)
      refine lv_goto (tgt := 16) hx hb dX5_restore_38 (by decide) ?_
      exact ih_i (by omega) ((upd f i (UR 2 i))) _ _ _ hW (lv_sub hl [1, 0] rfl) (fun p9 h9 => by unfold upd; by_cases e9 : p9 = i; (rw [if_pos e9, e9]; exact hsrc i (by omega)); (rw [if_neg e9]; exact hf p9 (by omega)))
  · refine lv_bipush (v := -4) hx hb dX5_restore_7 (by decide) ?_
    have hE : reE (X 9 1) = -4 := by simp only [h_1, reE, not_true_eq_false, not_false_eq_true, and_true, true_and, and_false, false_and, and_self, or_true, true_or, or_false, false_or, ne_eq, ite_true, ite_false, reduceIte]
    exact uI_ret (false, X) hW hx hb hr hlocks dX5_restore_9 (hE.symm) (show (¬ reE (X 9 1) = 0) ∧ (X = X) from ⟨by rw [hE]; decide, rfl⟩) (by simp only [cond_true, cond_false]) (adr2 (L := [[h, a 0, a 1, a 2, a 3, a 4, a 5, a 6, a 7, a 8]]) rfl rfl)
