set_option maxHeartbeats 4000000 in
set_option maxRecDepth 100000 in
theorem c_X5_set (l : Launch) (g : gx) (h : Nat) (a : Nat → Nat) (V X : sV) (x v : Int32) (j : Nat) (n : Nat) (hn : X 9 0 = nI n) (hn5 : n ≤ 5) (hxj : inI x 0 1 → x = nI j ∧ j < 2) : cU (S := Bool × sV) l g yX5_set cX5_set 4 (some .int) ({ frames := 1, cells := 0, slots := 0, locals := 22 } : Room) [.ref h, .int x, .int v] [mV g h a V X] (fun u => some (.int (bif u.1 then (V 12 j) else (stM x v)))) (fun u => bif u.1 then (stM x v = 0 ∧ recP V X u.2 n) else (¬ stM x v = 0 ∧ u.2 = X)) (fun u => [mV g h a (bif u.1 then (up2 V 12 j v) else V) u.2]) := by
  refine cU.mk (by decide +kernel) (Nat.le_of_ble_eq_true rfl) ?_
  intro p e s m below meth c ls E hK hW hl
  obtain ⟨hx, hb, hr, hml, hts, hown, hlocks, hin⟩ := id E
  have hown : s.vm.findClass RX5 = some m.cls := hown
  have hP := hW.1
  have hl : lv_has ls 4 [(0, .ref h), (1, .int x), (2, .int v)] := hl
  refine lv_iload_n hx hb dX5_set_0 rfl (lv_at hl 1 rfl) ?_
  refine lv_iconst (v := 0) hx hb dX5_set_1 (by decide) ?_
  refine lv_iconst (v := 1) hx hb dX5_set_2 (by decide) ?_
  refine call_SR (As := [.int x, .int 0, .int 1]) (rest := []) E rfl hK hP (c_X5_in l g x 0 1) ok_X5_in rfl q3_91 [] rfl ⟨⟨rfl, rfl⟩, Nat.le_of_ble_eq_true rfl, Nat.le_of_ble_eq_true rfl⟩ hl.1 (Nat.le_of_ble_eq_true rfl) ⟨Nat.le_of_ble_eq_true rfl, Nat.le_of_ble_eq_true rfl⟩ rfl dX5_set_3 ?_
  refine b_ne0 (tgt := 11) hx hb dX5_set_6 (by decide) (fun h_1 => ?_) (fun h_1 => ?_)
  · refine lv_iload_n hx hb dX5_set_11 rfl (lv_at hl 1 rfl) ?_
    refine lv_if_ne (tgt := 28) hx hb dX5_set_12 (by decide) (fun h_2 => ?_) (fun h_2 => ?_)
    · have hx0 := h_2
      refine lv_iload_n hx hb dX5_set_28 rfl (lv_at hl 2 rfl) ?_
      refine lv_iconst (v := 1) hx hb dX5_set_29 (by decide) ?_
      refine lv_iconst (v := 3) hx hb dX5_set_30 (by decide) ?_
      refine call_SR (As := [.int v, .int 1, .int 3]) (rest := []) E rfl hK hP (c_X5_in l g v 1 3) ok_X5_in rfl q3_91 [] rfl ⟨⟨rfl, rfl⟩, Nat.le_of_ble_eq_true rfl, Nat.le_of_ble_eq_true rfl⟩ hl.1 (Nat.le_of_ble_eq_true rfl) ⟨Nat.le_of_ble_eq_true rfl, Nat.le_of_ble_eq_true rfl⟩ rfl dX5_set_31 ?_
      refine b_ne0 (tgt := 40) hx hb dX5_set_34 (by decide) (fun h_3 => ?_) (fun h_3 => ?_)
      · have hE0 : stM x v = 0 := by rw [stM, if_pos h_1, if_pos (by first | exact Or.inl ⟨hx0, h_3⟩ | exact Or.inr ⟨hx0, h_3⟩)]
        obtain ⟨rfl, hj⟩ := hxj h_1
        refine lv_aload_n hx hb dX5_set_40 rfl (lv_at hl 0 rfl) ?_
        refine call_VU (As := []) (rest := []) E rfl hK hW (c_X5_record l g h a V X n hn hn5) ok_X5_record rfl q3_80 [0] rfl (by decide) (b_recv hK hP 0 0 rfl rfl rfl rfl) ⟨⟨rfl, rfl⟩, Nat.le_of_ble_eq_true rfl, Nat.le_of_ble_eq_true rfl⟩ hl.1 (Nat.le_of_ble_eq_true rfl) ⟨Nat.le_of_ble_eq_true rfl, Nat.le_of_ble_eq_true rfl⟩ rfl dX5_set_41 (fun UR H locs hUR hW => ?_)
        have hW : wd g _ s.heap [mV g h a V UR] H locs := hW
        have hP := hW.1
        refine lv_aload_n hx hb dX5_set_44 rfl (lv_at hl 0 rfl) ?_
        refine b_get (v := .ref (a 0)) hx hb hts inX5 hown hK hP 0 0 0 rfl rfl rfl (by decide) q3_25 rfl rfl dX5_set_45 ?_
        refine lv_iload_n hx hb dX5_set_48 rfl (lv_at hl 1 rfl) ?_
        refine b_iald (v := rowOf V j) hx hb hK hP 0 1 (j) rfl rfl rfl (by omega) rfl rfl dX5_set_49 ?_
        refine b_top (y := V 12 j) (row_s V (by omega)) ?_
        refine lv_istore_n (lv' := [(3, .int (V 12 j)), (0, .ref h), (1, .int (nI j)), (2, .int v)]) hx hb dX5_set_50 rfl hl (by decide) rfl (fun ls hl => ?_)
        refine lv_aload_n hx hb dX5_set_51 rfl (lv_at hl 1 rfl) ?_
        refine b_get (v := .ref (a 0)) hx hb hts inX5 hown hK hP 0 0 0 rfl rfl rfl (by decide) q3_25 rfl rfl dX5_set_52 ?_
        refine lv_iload_n hx hb dX5_set_55 rfl (lv_at hl 2 rfl) ?_
        refine lv_iload_n hx hb dX5_set_56 rfl (lv_at hl 3 rfl) ?_
        refine b_iastE (B' := [mV g h a (up2 V 12 j v) UR]) hx hb hK hW 0 1 (j) rfl rfl rfl (by omega) rfl (row_put_s _ (by omega) _) rfl dX5_set_57 (fun H locs hW => ?_)
        have hP := hW.1
        refine lv_iload_n hx hb dX5_set_58 rfl (lv_at hl 0 rfl) ?_
        have hE : stM (nI j) v = 0 := hE0
        exact uI_ret (true, UR) hW hx hb hr hlocks dX5_set_59 (rfl) (show (stM (nI j) v = 0) ∧ _ from ⟨hE, hUR⟩) (by simp only [cond_true, cond_false]) (adr2 (L := [[h, a 0, a 1, a 2, a 3, a 4, a 5, a 6, a 7, a 8]]) rfl rfl)
      · refine lv_bipush (v := -2) hx hb dX5_set_37 (by decide) ?_
        have hE : stM x v = -2 := by rw [stM, if_pos h_1, if_neg (by first | exact fun q9 => q9.elim (fun r9 => h_3 r9.2) (fun r9 => r9.1 hx0) | exact fun q9 => q9.elim (fun r9 => hx0 r9.1) (fun r9 => h_3 r9.2))]
        exact uI_ret (false, X) hW hx hb hr hlocks dX5_set_39 (hE.symm) (show (¬ stM x v = 0) ∧ (X = X) from ⟨by rw [hE]; decide, rfl⟩) (by simp only [cond_true, cond_false]) (adr2 (L := [[h, a 0, a 1, a 2, a 3, a 4, a 5, a 6, a 7, a 8]]) rfl rfl)
    · have hx0 := h_2
      refine lv_iload_n hx hb dX5_set_15 rfl (lv_at hl 2 rfl) ?_
      refine lv_iconst (v := 0) hx hb dX5_set_16 (by decide) ?_
      refine lv_bipush (v := 9) hx hb dX5_set_17 (by decide) ?_
      refine call_SR (As := [.int v, .int 0, .int 9]) (rest := []) E rfl hK hP (c_X5_in l g v 0 9) ok_X5_in rfl q3_91 [] rfl ⟨⟨rfl, rfl⟩, Nat.le_of_ble_eq_true rfl, Nat.le_of_ble_eq_true rfl⟩ hl.1 (Nat.le_of_ble_eq_true rfl) ⟨Nat.le_of_ble_eq_true rfl, Nat.le_of_ble_eq_true rfl⟩ rfl dX5_set_19 ?_
      refine b_eq0 (tgt := 37) hx hb dX5_set_22 (by decide) (fun h_4 => ?_) (fun h_4 => ?_)
      · refine lv_bipush (v := -2) hx hb dX5_set_37 (by decide) ?_
        have hE : stM x v = -2 := by rw [stM, if_pos h_1, if_neg (by first | exact fun q9 => q9.elim (fun r9 => h_4 r9.2) (fun r9 => r9.1 hx0) | exact fun q9 => q9.elim (fun r9 => hx0 r9.1) (fun r9 => h_4 r9.2))]
        exact uI_ret (false, X) hW hx hb hr hlocks dX5_set_39 (hE.symm) (show (¬ stM x v = 0) ∧ (X = X) from ⟨by rw [hE]; decide, rfl⟩) (by simp only [cond_true, cond_false]) (adr2 (L := [[h, a 0, a 1, a 2, a 3, a 4, a 5, a 6, a 7, a 8]]) rfl rfl)
      · refine lv_goto (tgt := 40) hx hb dX5_set_25 (by decide) ?_
        have hE0 : stM x v = 0 := by rw [stM, if_pos h_1, if_pos (by first | exact Or.inl ⟨hx0, h_4⟩ | exact Or.inr ⟨hx0, h_4⟩)]
        obtain ⟨rfl, hj⟩ := hxj h_1
        refine lv_aload_n hx hb dX5_set_40 rfl (lv_at hl 0 rfl) ?_
        refine call_VU (As := []) (rest := []) E rfl hK hW (c_X5_record l g h a V X n hn hn5) ok_X5_record rfl q3_80 [0] rfl (by decide) (b_recv hK hP 0 0 rfl rfl rfl rfl) ⟨⟨rfl, rfl⟩, Nat.le_of_ble_eq_true rfl, Nat.le_of_ble_eq_true rfl⟩ hl.1 (Nat.le_of_ble_eq_true rfl) ⟨Nat.le_of_ble_eq_true rfl, Nat.le_of_ble_eq_true rfl⟩ rfl dX5_set_41 (fun UR H locs hUR hW => ?_)
        have hW : wd g _ s.heap [mV g h a V UR] H locs := hW
        have hP := hW.1
        refine lv_aload_n hx hb dX5_set_44 rfl (lv_at hl 0 rfl) ?_
        refine b_get (v := .ref (a 0)) hx hb hts inX5 hown hK hP 0 0 0 rfl rfl rfl (by decide) q3_25 rfl rfl dX5_set_45 ?_
        refine lv_iload_n hx hb dX5_set_48 rfl (lv_at hl 1 rfl) ?_
        refine b_iald (v := rowOf V j) hx hb hK hP 0 1 (j) rfl rfl rfl (by omega) rfl rfl dX5_set_49 ?_
        refine b_top (y := V 12 j) (row_s V (by omega)) ?_
        refine lv_istore_n (lv' := [(3, .int (V 12 j)), (0, .ref h), (1, .int (nI j)), (2, .int v)]) hx hb dX5_set_50 rfl hl (by decide) rfl (fun ls hl => ?_)
        refine lv_aload_n hx hb dX5_set_51 rfl (lv_at hl 1 rfl) ?_
        refine b_get (v := .ref (a 0)) hx hb hts inX5 hown hK hP 0 0 0 rfl rfl rfl (by decide) q3_25 rfl rfl dX5_set_52 ?_
        refine lv_iload_n hx hb dX5_set_55 rfl (lv_at hl 2 rfl) ?_
        refine lv_iload_n hx hb dX5_set_56 rfl (lv_at hl 3 rfl) ?_
        refine b_iastE (B' := [mV g h a (up2 V 12 j v) UR]) hx hb hK hW 0 1 (j) rfl rfl rfl (by omega) rfl (row_put_s _ (by omega) _) rfl dX5_set_57 (fun H locs hW => ?_)
        have hP := hW.1
        refine lv_iload_n hx hb dX5_set_58 rfl (lv_at hl 0 rfl) ?_
        have hE : stM (nI j) v = 0 := hE0
        exact uI_ret (true, UR) hW hx hb hr hlocks dX5_set_59 (rfl) (show (stM (nI j) v = 0) ∧ _ from ⟨hE, hUR⟩) (by simp only [cond_true, cond_false]) (adr2 (L := [[h, a 0, a 1, a 2, a 3, a 4, a 5, a 6, a 7, a 8]]) rfl rfl)
  · refine lv_iconst (v := -1) hx hb dX5_set_9 (by decide) ?_
    have hE : stM x v = -1 := by rw [stM, if_neg h_1]
    exact uI_ret (false, X) hW hx hb hr hlocks dX5_set_10 (hE.symm) (show (¬ stM x v = 0) ∧ (X = X) from ⟨by rw [hE]; decide, rfl⟩) (by simp only [cond_true, cond_false]) (adr2 (L := [[h, a 0, a 1, a 2, a 3, a 4, a 5, a 6, a 7, a 8]]) rfl rfl)

set_option maxHeartbeats 4000000 in
set_option maxRecDepth 100000 in
theorem c_X5_turns (l : Launch) (g : gx) (h : Nat) (a : Nat → Nat) (V X : sV) (x : Int32) (m9 : Nat) (cq : Nat → Nat) (hc : ∀ t, t < 6 → V 3 t = nI (cq t) ∧ cq t ≤ 5) (n : Nat) (hn : X 9 0 = nI n) (hn5 : n ≤ 5) (hxm : inI x 1 50 → x = nI m9 ∧ m9 ≤ 50) : cU (S := Bool × sV) l g yX5_turns cX5_turns 2 (some .int) ({ frames := 7, cells := 0, slots := 0, locals := 157 } : Room) [.ref h, .int x] [mV g h a V X] (fun u => some (.int (bif u.1 then (mtM V u.2 cq m9).1 12 3 else tuM x))) (fun u => bif u.1 then (tuM x = 0 ∧ recP V X u.2 n) else (¬ tuM x = 0 ∧ u.2 = X)) (fun u => [mV g h a (bif u.1 then (mtM V u.2 cq m9).1 else V) (bif u.1 then (mtM V u.2 cq m9).2 else X)]) := by
  refine cU.mk (by decide +kernel) (Nat.le_of_ble_eq_true rfl) ?_
  intro p e s m below meth c ls E hK hW hl
  obtain ⟨hx, hb, hr, hml, hts, hown, hlocks, hin⟩ := id E
  have hown : s.vm.findClass RX5 = some m.cls := hown
  have hP := hW.1
  have hl : lv_has ls 2 [(0, .ref h), (1, .int x)] := hl
  refine lv_iload_n hx hb dX5_turns_0 rfl (lv_at hl 1 rfl) ?_
  refine lv_iconst (v := 1) hx hb dX5_turns_1 (by decide) ?_
  refine lv_bipush (v := 50) hx hb dX5_turns_2 (by decide) ?_
  refine call_SR (As := [.int x, .int 1, .int 50]) (rest := []) E rfl hK hP (c_X5_in l g x 1 50) ok_X5_in rfl q3_91 [] rfl ⟨⟨rfl, rfl⟩, Nat.le_of_ble_eq_true rfl, Nat.le_of_ble_eq_true rfl⟩ hl.1 (Nat.le_of_ble_eq_true rfl) ⟨Nat.le_of_ble_eq_true rfl, Nat.le_of_ble_eq_true rfl⟩ rfl dX5_turns_4 ?_
  refine b_ne0 (tgt := 13) hx hb dX5_turns_7 (by decide) (fun h_1 => ?_) (fun h_1 => ?_)
  · have hE0 : tuM x = 0 := by rw [tuM, if_pos h_1]
    obtain ⟨rfl, hm⟩ := hxm h_1
    refine lv_aload_n hx hb dX5_turns_13 rfl (lv_at hl 0 rfl) ?_
    refine call_VU (As := []) (rest := []) E rfl hK hW (c_X5_record l g h a V X n hn hn5) ok_X5_record rfl q3_80 [0] rfl (by decide) (b_recv hK hP 0 0 rfl rfl rfl rfl) ⟨⟨rfl, rfl⟩, Nat.le_of_ble_eq_true rfl, Nat.le_of_ble_eq_true rfl⟩ hl.1 (Nat.le_of_ble_eq_true rfl) ⟨Nat.le_of_ble_eq_true rfl, Nat.le_of_ble_eq_true rfl⟩ rfl dX5_turns_14 (fun UR H locs hUR hW => ?_)
    have hW : wd g _ s.heap [mV g h a V UR] H locs := hW
    have hP := hW.1
    refine lv_aload_n hx hb dX5_turns_17 rfl (lv_at hl 0 rfl) ?_
    refine lv_iload_n hx hb dX5_turns_18 rfl (lv_at hl 1 rfl) ?_
    refine call_VU (As := [.int (nI m9)]) (rest := []) E rfl hK hW (c_X5_turnsNow l g h a V UR cq hc m9 (by omega)) ok_X5_turnsNow rfl q3_150 [0] rfl (by decide) (b_recv hK hP 0 0 rfl rfl rfl rfl) ⟨⟨rfl, rfl⟩, Nat.le_of_ble_eq_true rfl, Nat.le_of_ble_eq_true rfl⟩ hl.1 (Nat.le_of_ble_eq_true rfl) ⟨Nat.le_of_ble_eq_true rfl, Nat.le_of_ble_eq_true rfl⟩ rfl dX5_turns_19 (fun _u H locs _ hW => ?_)
    have hW : wd g _ s.heap [mV g h a ((mtM V UR cq m9).1) ((mtM V UR cq m9).2)] H locs := hW
    have hP := hW.1
    obtain ⟨U_2, hU_2⟩ : ∃ z, z = (mtM V UR cq m9).1 := ⟨_, rfl⟩
    rw [← hU_2] at hW
    obtain ⟨U_3, hU_3⟩ : ∃ z, z = (mtM V UR cq m9).2 := ⟨_, rfl⟩
    rw [← hU_3] at hW
    have hP := hW.1
    refine lv_aload_n hx hb dX5_turns_22 rfl (lv_at hl 0 rfl) ?_
    refine b_get (v := .ref (a 0)) hx hb hts inX5 hown hK hP 0 0 0 rfl rfl rfl (by decide) q3_25 rfl rfl dX5_turns_23 ?_
    refine lv_iconst (v := 3) hx hb dX5_turns_26 (by decide) ?_
    refine b_iald (v := U_2 12 3) hx hb hK hP 0 1 (3) rfl rfl rfl (by omega) rfl rfl dX5_turns_27 ?_
    have hE : tuM (nI m9) = 0 := hE0
    exact uI_ret (true, UR) hW hx hb hr hlocks dX5_turns_28 (by simp only [cond_true, hU_3, hU_2]) (show (tuM (nI m9) = 0) ∧ _ from ⟨hE, hUR⟩) (by simp only [cond_true, cond_false, hU_3, hU_2]) (adr2 (L := [[h, a 0, a 1, a 2, a 3, a 4, a 5, a 6, a 7, a 8]]) rfl rfl)
  · refine lv_bipush (v := -2) hx hb dX5_turns_10 (by decide) ?_
    have hE : tuM x = -2 := by rw [tuM, if_neg h_1]
    exact uI_ret (false, X) hW hx hb hr hlocks dX5_turns_12 (hE.symm) (show (¬ tuM x = 0) ∧ (X = X) from ⟨by rw [hE]; decide, rfl⟩) (by simp only [cond_true, cond_false]) (adr2 (L := [[h, a 0, a 1, a 2, a 3, a 4, a 5, a 6, a 7, a 8]]) rfl rfl)
