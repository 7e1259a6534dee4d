set_option maxHeartbeats 4000000 in
set_option maxRecDepth 100000 in
theorem c_X5_clearText (l : Launch) (g : gx) (h : Nat) (a : Nat → Nat) (V X : sV) (k : Nat)  : cU (S := Unit) l g yX5_clearText cX5_clearText 2 (some .int) ({ frames := 0, cells := 0, slots := 0, locals := 0 } : Room) [.ref h] [mV g h a V X] (fun _ => some (.int (X 9 2))) (fun _ => True) (fun _ => [mV g h a V (up2 X 9 2 0)]) := by
  refine cU.mk (by decide +kernel) (Nat.le_of_ble_eq_true rfl) ?_
  intro p e s m below meth c ls E hK hW hl
  obtain ⟨hx, hb, hr, hml, hts, hown, hlocks, hin⟩ := id E
  have hown : s.vm.findClass RX5 = some m.cls := hown
  have hP := hW.1
  have hl : lv_has ls 2 [(0, .ref h)] := hl
  refine lv_aload_n hx hb dX5_clearText_0 rfl (lv_at hl 0 rfl) ?_
  refine b_get (v := .int (X 9 2)) hx hb hts inX5 hown hK hP 0 0 8 rfl rfl rfl (by decide) q3_33 rfl rfl dX5_clearText_1 ?_
  refine lv_istore_n (lv' := [(1, .int (X 9 2)), (0, .ref h)]) hx hb dX5_clearText_4 rfl hl (by decide) rfl (fun ls hl => ?_)
  refine lv_aload_n hx hb dX5_clearText_5 rfl (lv_at hl 1 rfl) ?_
  refine lv_iconst (v := 0) hx hb dX5_clearText_6 (by decide) ?_
  refine b_put (B' := [mV g h a V (up2 X 9 2 0)]) (v := .int 0) hx hb hts inX5 tyX5_ok nmX5 hown hK hW 0 0 8 rfl rfl rfl (by decide) q3_33 rfl rfl rfl rfl (Nat.le_of_ble_eq_true rfl) rfl dX5_clearText_7 (fun H locs hW => ?_)
  have hP := hW.1
  refine lv_iload_n hx hb dX5_clearText_10 rfl (lv_at hl 0 rfl) ?_
  exact uI_ret () hW hx hb hr hlocks dX5_clearText_11 (rfl) trivial (rfl) (adr2 (L := [[h, a 0, a 1, a 2, a 3, a 4, a 5, a 6, a 7, a 8]]) rfl rfl)

set_option maxHeartbeats 4000000 in
set_option maxRecDepth 100000 in
theorem c_X5_append (l : Launch) (g : gx) (h : Nat) (a : Nat → Nat) (V X : sV) (x : Int32) (k : Nat) (hk : X 9 2 = nI k) (hk60 : k ≤ 60)  : cU (S := Bool × sV) l g yX5_append cX5_append 2 (some .int) ({ frames := 1, cells := 0, slots := 0, locals := 22 } : Room) [.ref h, .int x] [mV g h a V X] (fun u => some (.int (bif u.1 then (nI (k + 1)) else (apM x k)))) (fun u => bif u.1 then (apM x k = 0 ∧ u.2 = up2 (up2 X 5 k x) 9 2 (nI (k + 1))) else (¬ apM x k = 0 ∧ u.2 = X)) (fun u => [mV g h a (bif u.1 then V else V) u.2]) := by
  refine cU.mk (by decide +kernel) (Nat.le_of_ble_eq_true rfl) ?_
  intro p e s m below meth c ls E hK hW hl
  obtain ⟨hx, hb, hr, hml, hts, hown, hlocks, hin⟩ := id E
  have hown : s.vm.findClass RX5 = some m.cls := hown
  have hP := hW.1
  have hl : lv_has ls 2 [(0, .ref h), (1, .int x)] := hl
  refine lv_iload_n hx hb dX5_append_0 rfl (lv_at hl 1 rfl) ?_
  refine lv_bipush (v := 32) hx hb dX5_append_1 (by decide) ?_
  refine lv_bipush (v := 126) hx hb dX5_append_3 (by decide) ?_
  refine call_SR (As := [.int x, .int 32, .int 126]) (rest := []) E rfl hK hP (c_X5_in l g x 32 126) ok_X5_in rfl q3_91 [] rfl ⟨⟨rfl, rfl⟩, Nat.le_of_ble_eq_true rfl, Nat.le_of_ble_eq_true rfl⟩ hl.1 (Nat.le_of_ble_eq_true rfl) ⟨Nat.le_of_ble_eq_true rfl, Nat.le_of_ble_eq_true rfl⟩ rfl dX5_append_5 ?_
  refine b_ne0 (tgt := 14) hx hb dX5_append_8 (by decide) (fun h_1 => ?_) (fun h_1 => ?_)
  · refine lv_aload_n hx hb dX5_append_14 rfl (lv_at hl 0 rfl) ?_
    refine b_get (v := .int (X 9 2)) hx hb hts inX5 hown hK hP 0 0 8 rfl rfl rfl (by decide) q3_33 rfl rfl dX5_append_15 ?_
    refine b_top (y := nI k) hk ?_
    refine lv_bipush (v := 60) hx hb dX5_append_18 (by decide) ?_
    refine b_ne (tgt := 26) (k) (60) hx hb rfl rfl (by omega) (by omega) dX5_append_20 (by decide) (fun h_2 => ?_) (fun h_2 => ?_)
    · refine lv_aload_n hx hb dX5_append_26 rfl (lv_at hl 0 rfl) ?_
      refine b_get (v := .ref (a 5)) hx hb hts inX5 hown hK hP 0 0 7 rfl rfl rfl (by decide) q3_32 rfl rfl dX5_append_27 ?_
      refine lv_aload_n hx hb dX5_append_30 rfl (lv_at hl 0 rfl) ?_
      refine b_get (v := .int (X 9 2)) hx hb hts inX5 hown hK hP 0 0 8 rfl rfl rfl (by decide) q3_33 rfl rfl dX5_append_31 ?_
      refine b_top (y := nI k) hk ?_
      refine lv_iload_n hx hb dX5_append_34 rfl (lv_at hl 1 rfl) ?_
      refine b_iast (B' := [mV g h a V (up2 X 5 k x)]) hx hb hK hW 0 6 (k) rfl rfl rfl (by omega) rfl rfl dX5_append_35 (fun H locs hW => ?_)
      have hP := hW.1
      refine lv_aload_n hx hb dX5_append_36 rfl (lv_at hl 0 rfl) ?_
      refine lv_dup hx hb dX5_append_37 rfl ?_
      refine b_get (v := .int (X 9 2)) hx hb hts inX5 hown hK hP 0 0 8 rfl rfl rfl (by decide) q3_33 rfl rfl dX5_append_38 ?_
      refine b_top (y := nI k) hk ?_
      refine lv_iconst (v := 1) hx hb dX5_append_41 (by decide) ?_
      refine lv_iadd hx hb dX5_append_42 ?_
      refine b_top (y := nI (k + 1)) (nI_add k 1) ?_
      refine b_put (B' := [mV g h a V (up2 (up2 X 5 k x) 9 2 (nI (k + 1)))]) (v := .int (nI (k + 1))) hx hb hts inX5 tyX5_ok nmX5 hown hK hW 0 0 8 rfl rfl rfl (by decide) q3_33 rfl rfl rfl rfl (Nat.le_of_ble_eq_true rfl) rfl dX5_append_43 (fun H locs hW => ?_)
      have hP := hW.1
      refine lv_aload_n hx hb dX5_append_46 rfl (lv_at hl 0 rfl) ?_
      refine b_get (v := .int (nI (k + 1))) hx hb hts inX5 hown hK hP 0 0 8 rfl rfl rfl (by decide) q3_33 rfl rfl dX5_append_47 ?_
      have hE : apM x k = 0 := by rw [apM, if_pos h_1, if_neg h_2]
      exact uI_ret (true, (up2 (up2 X 5 k x) 9 2 (nI (k + 1)))) hW hx hb hr hlocks dX5_append_50 (rfl) (show (apM x k = 0) ∧ _ from ⟨hE, rfl⟩) (by simp only [cond_true, cond_false]) (adr2 (L := [[h, a 0, a 1, a 2, a 3, a 4, a 5, a 6, a 7, a 8]]) rfl rfl)
    · refine lv_bipush (v := -3) hx hb dX5_append_23 (by decide) ?_
      have hE : apM x k = -3 := by rw [apM, if_pos h_1, if_pos h_2]
      exact uI_ret (false, X) hW hx hb hr hlocks dX5_append_25 (hE.symm) (show (¬ apM x k = 0) ∧ (X = X) from ⟨by rw [hE]; decide, rfl⟩) (by simp only [cond_true, cond_false]) (adr2 (L := [[h, a 0, a 1, a 2, a 3, a 4, a 5, a 6, a 7, a 8]]) rfl rfl)
  · refine lv_bipush (v := -2) hx hb dX5_append_11 (by decide) ?_
    have hE : apM x k = -2 := by rw [apM, if_neg h_1]
    exact uI_ret (false, X) hW hx hb hr hlocks dX5_append_13 (hE.symm) (show (¬ apM x k = 0) ∧ (X = X) from ⟨by rw [hE]; decide, rfl⟩) (by simp only [cond_true, cond_false]) (adr2 (L := [[h, a 0, a 1, a 2, a 3, a 4, a 5, a 6, a 7, a 8]]) rfl rfl)

set_option maxHeartbeats 4000000 in
set_option maxRecDepth 100000 in
theorem c_X5_undo_0 (l : Launch) (g : gx) (h : Nat) (a : Nat → Nat) (V X : sV) (n : Nat) (hn : X 9 0 = nI n) (hn0 : n = 0)  : cU (S := Unit) l g yX5_undo cX5_undo 2 (some .int) ({ frames := 0, cells := 0, slots := 0, locals := 0 } : Room) [.ref h] [mV g h a V X] (fun _ => some (.int (-5))) (fun _ => True) (fun _ => [mV g h a V X]) := by
  refine cU.mk (by decide +kernel) (Nat.le_of_ble_eq_true rfl) ?_
  intro p e s m below meth c ls E hK hW hl
  obtain ⟨hx, hb, hr, hml, hts, hown, hlocks, hin⟩ := id E
  have hown : s.vm.findClass RX5 = some m.cls := hown
  have hP := hW.1
  have hl : lv_has ls 2 [(0, .ref h)] := hl
  refine lv_aload_n hx hb dX5_undo_0 rfl (lv_at hl 0 rfl) ?_
  refine b_get (v := .int (X 9 0)) hx hb hts inX5 hown hK hP 0 0 2 rfl rfl rfl (by decide) q3_27 rfl rfl dX5_undo_1 ?_
  refine lv_if_ne (tgt := 10) hx hb dX5_undo_4 (by decide) (fun h_1 => ?_) (fun h_1 => ?_)
  · exact absurd (by rw [hn, hn0]; rfl) h_1
  · refine lv_bipush (v := -5) hx hb dX5_undo_7 (by decide) ?_
    exact uI_ret () hW hx hb hr hlocks dX5_undo_9 (rfl) trivial (rfl) (adr2 (L := [[h, a 0, a 1, a 2, a 3, a 4, a 5, a 6, a 7, a 8]]) rfl rfl)

set_option maxHeartbeats 4000000 in
set_option maxRecDepth 100000 in
theorem c_X5_undo_s (l : Launch) (g : gx) (h : Nat) (a : Nat → Nat) (V X : sV) (n : Nat) (hn : X 9 0 = nI n) (W1 : sV) (hsrc : ∀ p9, p9 < 149 → X 1 (149 * (n - 1) + p9) = rowOf W1 p9) (hn0 : 0 < n) (hn5 : n ≤ 5) : cU (S := Unit) l g yX5_undo cX5_undo 2 (some .int) ({ frames := 0, cells := 0, slots := 0, locals := 0 } : Room) [.ref h] [mV g h a V X] (fun _ => some (.int (nI (n - 1)))) (fun _ => True) (fun _ => [mV g h a W1 (up2 X 9 0 (nI (n - 1)))]) := by
  refine cU.mk (by decide +kernel) (Nat.le_of_ble_eq_true rfl) ?_
  intro p e s m below meth c ls E hK hW hl
  obtain ⟨hx, hb, hr, hml, hts, hown, hlocks, hin⟩ := id E
  have hown : s.vm.findClass RX5 = some m.cls := hown
  have hP := hW.1
  have hl : lv_has ls 2 [(0, .ref h)] := hl
  refine lv_aload_n hx hb dX5_undo_0 rfl (lv_at hl 0 rfl) ?_
  refine b_get (v := .int (X 9 0)) hx hb hts inX5 hown hK hP 0 0 2 rfl rfl rfl (by decide) q3_27 rfl rfl dX5_undo_1 ?_
  refine lv_if_ne (tgt := 10) hx hb dX5_undo_4 (by decide) (fun h_1 => ?_) (fun h_1 => ?_)
  · refine lv_aload_n hx hb dX5_undo_10 rfl (lv_at hl 0 rfl) ?_
    refine lv_dup hx hb dX5_undo_11 rfl ?_
    refine b_get (v := .int (X 9 0)) hx hb hts inX5 hown hK hP 0 0 2 rfl rfl rfl (by decide) q3_27 rfl rfl dX5_undo_12 ?_
    refine b_top (y := nI n) hn ?_
    refine lv_iconst (v := 1) hx hb dX5_undo_15 (by decide) ?_
    refine lv_isub hx hb dX5_undo_16 ?_
    refine b_top (y := nI (n - 1)) (pk_sub (a := n) (b := 1) (by omega)) ?_
    refine b_put (B' := [mV g h a V (up2 X 9 0 (nI (n - 1)))]) (v := .int (nI (n - 1))) hx hb hts inX5 tyX5_ok nmX5 hown hK hW 0 0 2 rfl rfl rfl (by decide) q3_27 rfl rfl rfl rfl (Nat.le_of_ble_eq_true rfl) rfl dX5_undo_17 (fun H locs hW => ?_)
    have hP := hW.1
    refine lv_iconst (v := 0) hx hb dX5_undo_20 (by decide) ?_
    refine lv_istore_n (lv' := [(1, .int 0), (0, .ref h)]) hx hb dX5_undo_21 rfl hl (by decide) rfl (fun ls hl => ?_)
    obtain ⟨Z, hZ⟩ : ∃ z, z = (up2 X 9 0 (nI (n - 1))) := ⟨_, rfl⟩
    rw [← hZ] at hW
    have hP := hW.1
    have hZ9 : Z 9 0 = nI (n - 1) := by rw [hZ]; exact up2_eq _ _ _ _
    have hsrc : ∀ p9, p9 < 149 → Z 1 (149 * (n - 1) + p9) = rowOf W1 p9 := fun p9 h9 => by rw [hZ, up2_ne (by omega)]; exact hsrc p9 h9
    refine loopN (fun i : Nat => ∀ f : Nat → Int32, ∀ (H : Heap) (locs : List Loc) (ls : Array Slot), wd g (fun z9 => z9 ∈ adr [mV g h a V X]) s.heap [mG g h a f Z] H locs → lv_has ls 2 [(0, .ref h), (1, .int (nI i))] → (∀ p9, p9 < i → f p9 = rowOf W1 p9) → W p l e _ s m _ below meth c H locs 0 0 _ (F0 m 22 ls [])) (149) (fun i hi ih_i => ?_) (0) (by omega) (rowOf V) H locs ls hW (lv_sub hl [1, 0] rfl) (fun p9 h9 => absurd h9 (by omega))
    intro f H locs ls hW hl hf
    have hP := hW.1
    refine lv_iload_n hx hb dX5_undo_22 rfl (lv_at hl 1 rfl) ?_
    refine lv_sipush (v := 149) hx hb dX5_undo_23 (by decide) ?_
    refine b_ge (tgt := 56) (i) (149) hx hb rfl rfl (by omega) (by omega) dX5_undo_26 (by decide) (fun h_2 => ?_) (fun h_2 => ?_)
    · obtain rfl : i = 149 := by omega
      have hW : wd g _ s.heap [mV g h a W1 Z] H locs := wd_row hW 0 1 rfl rfl (f' := rowOf W1) hf rfl
      have hP := hW.1
      refine lv_aload_n hx hb dX5_undo_56 rfl (lv_at hl 0 rfl) ?_
      refine b_get (v := .int (Z 9 0)) hx hb hts inX5 hown hK hP 0 0 2 rfl rfl rfl (by decide) q3_27 rfl rfl dX5_undo_57 ?_
      refine b_top (y := nI (n - 1)) hZ9 ?_
      exact uI_ret () hW hx hb hr hlocks dX5_undo_60 (rfl) trivial (by rw [hZ]) (adr2 (L := [[h, a 0, a 1, a 2, a 3, a 4, a 5, a 6, a 7, a 8]]) rfl rfl)
    · refine lv_aload_n hx hb dX5_undo_29 rfl (lv_at hl 0 rfl) ?_
      refine b_get (v := .ref (a 0)) hx hb hts inX5 hown hK hP 0 0 0 rfl rfl rfl (by decide) q3_25 rfl rfl dX5_undo_30 ?_
      refine lv_iload_n hx hb dX5_undo_33 rfl (lv_at hl 1 rfl) ?_
      refine lv_aload_n hx hb dX5_undo_34 rfl (lv_at hl 0 rfl) ?_
      refine b_get (v := .ref (a 1)) hx hb hts inX5 hown hK hP 0 0 1 rfl rfl rfl (by decide) q3_26 rfl rfl dX5_undo_35 ?_
      refine lv_sipush (v := 149) hx hb dX5_undo_38 (by decide) ?_
      refine lv_aload_n hx hb dX5_undo_41 rfl (lv_at hl 0 rfl) ?_
      refine b_get (v := .int (Z 9 0)) hx hb hts inX5 hown hK hP 0 0 2 rfl rfl rfl (by decide) q3_27 rfl rfl dX5_undo_42 ?_
      refine b_top (y := nI (n - 1)) hZ9 ?_
      refine lv_imul hx hb dX5_undo_45 ?_
      refine b_top (y := nI (149 * (n - 1))) (pk_mul 149 (n - 1)) ?_
      refine lv_iload_n hx hb dX5_undo_46 rfl (lv_at hl 1 rfl) ?_
      refine lv_iadd hx hb dX5_undo_47 ?_
      refine b_top (y := nI ((149 * (n - 1)) + i)) (nI_add (149 * (n - 1)) i) ?_
      refine b_iald (v := Z 1 ((149 * (n - 1)) + i)) hx hb hK hP 0 2 ((149 * (n - 1)) + i) rfl rfl rfl (by omega) rfl rfl dX5_undo_48 ?_
      refine b_iast (B' := [mG g h a (upd f i (Z 1 ((149 * (n - 1)) + i))) Z]) hx hb hK hW 0 1 (i) rfl rfl rfl (by omega) rfl rfl dX5_undo_49 (fun H locs hW => ?_)
      have hP := hW.1
      refine lv_iinc (v := nI (i + 1)) (lv' := [(1, .int (nI (i + 1))), (0, .ref h)]) hx hb dX5_undo_50 hl (k := 1) rfl (nI_add i 1) (by decide) rfl (fun ls hl => ?_)
      refine lv_goto (tgt := 22) hx hb dX5_undo_53 (by decide) ?_
      exact ih_i (by omega) ((upd f i (Z 1 ((149 * (n - 1)) + i)))) _ _ _ hW (lv_sub hl [1, 0] rfl) (fun p9 h9 => by unfold upd; by_cases e9 : p9 = i; (rw [if_pos e9, e9]; exact hsrc i (by omega)); (rw [if_neg e9]; exact hf p9 (by omega)))
  · exact absurd (hn.symm.trans h_1) (nI_ne0 hn0 (by omega))
