set_option maxHeartbeats 4000000 in
set_option maxRecDepth 100000 in
theorem c_X5_isScript (l : Launch) (g : gx) (h : Nat) (a : Nat → Nat) (V X : sV) (T : Nat → Nat) (k : Nat) (hk : k ≤ 60) (hT : ∀ i, T i < 127) (htx : txP X T k) : cU (S := sV × Nat) l g yX5_isScript cX5_isScript 2 (some .boolean) ({ frames := 3, cells := 0, slots := 0, locals := 68 } : Room) [.ref h] [mV g h a V X] (fun u => some (.int (bI (scA T k u.2)))) (fun u => isI X u.1 T k u.2 ∧ (okA T k u.2 → ¬ sepA T k u.2)) (fun u => [mV g h a V u.1]) := by
  refine cU.mk (by decide +kernel) (Nat.le_of_ble_eq_true rfl) ?_
  intro p e s m below meth c ls E hK hW hl
  obtain ⟨hx, hb, hr, hml, hts, hown, hlocks, hin⟩ := id E
  have hown : s.vm.findClass RX5 = some m.cls := hown
  have hP := hW.1
  have hl : lv_has ls 2 [(0, .ref h)] := hl
  refine lv_aload_n hx hb dX5_isScript_0 rfl (lv_at hl 0 rfl) ?_
  refine lv_iconst (v := 0) hx hb dX5_isScript_1 (by decide) ?_
  refine b_put (B' := [mV g h a V (up2 X 9 3 0)]) (v := .int 0) hx hb hts inX5 tyX5_ok nmX5 hown hK hW 0 0 9 rfl rfl rfl (by decide) q3_34 rfl rfl rfl rfl (Nat.le_of_ble_eq_true rfl) rfl dX5_isScript_2 (fun H locs hW => ?_)
  have hP := hW.1
  refine lv_aload_n hx hb dX5_isScript_5 rfl (lv_at hl 0 rfl) ?_
  refine lv_iconst (v := 0) hx hb dX5_isScript_6 (by decide) ?_
  refine b_put (B' := [mV g h a V (up2 (up2 X 9 3 0) 9 4 0)]) (v := .int 0) hx hb hts inX5 tyX5_ok nmX5 hown hK hW 0 0 10 rfl rfl rfl (by decide) q3_35 rfl rfl rfl rfl (Nat.le_of_ble_eq_true rfl) rfl dX5_isScript_7 (fun H locs hW => ?_)
  have hP := hW.1
  refine lv_aload_n hx hb dX5_isScript_10 rfl (lv_at hl 0 rfl) ?_
  refine call_VU (As := []) (rest := []) E rfl hK hW (c_X5_readOrder l g h a V (up2 (up2 X 9 3 0) 9 4 0) T k hk hT 0 0 ((htx.up (by decide) (fun q9 => by first | decide | exact absurd q9 (by decide))).up (by decide) (fun q9 => by first | decide | exact absurd q9 (by decide))) (by simp [up2_if]; rfl) (Nat.zero_le _) (up2_eq _ _ _ _) (by omega)) ok_X5_readOrder rfl q3_210 [0] rfl (by decide) (b_recv hK hP 0 0 rfl rfl rfl rfl) ⟨⟨rfl, rfl⟩, Nat.le_of_ble_eq_true rfl, Nat.le_of_ble_eq_true rfl⟩ hl.1 (Nat.le_of_ble_eq_true rfl) ⟨Nat.le_of_ble_eq_true rfl, Nat.le_of_ble_eq_true rfl⟩ rfl dX5_isScript_11 (fun UR H locs hUR hW => ?_)
  have hW : wd g _ s.heap [mV g h a V UR] H locs := hW
  have hP := hW.1
  refine lv_istore_n (lv' := [(1, .int (bI ((rdR T k 0).1 = true))), (0, .ref h)]) hx hb dX5_isScript_14 rfl hl (by decide) rfl (fun ls hl => ?_)
  refine loopN (fun i : Nat => ∀ Y : sV, ∀ (H : Heap) (locs : List Loc) (ls : Array Slot), wd g (fun z9 => z9 ∈ adr [mV g h a V X]) s.heap [mV g h a V Y] H locs → lv_has ls 2 [(0, .ref h), (1, .int (bI (okA T k i)))] → (isI X Y T k i) → W p l e _ s m _ below meth c H locs 0 0 _ (F0 m 15 ls [])) (20) (fun i hi ih_i => ?_) (0) (by omega) (UR) H locs ls hW (lv_sub hl [1, 0] rfl) (isI_0 (fun j9 h9 => by funext z9; simp [up2_if, h9]) (fun j9 h3 h4 => by simp [up2_if, h3, h4]) hUR)
  intro Y H locs ls hW hl hI
  have hP := hW.1
  have hE9 : posA T k i ≤ endA T k i ∧ endA T k i ≤ k ∧ (okA T k i → posA T k i + 2 ≤ endA T k i) := rdR_le (T := T) hI.2.2.1
  have hE8 := hI.2.2.2.1
  have htx9 : txP Y T k := ⟨(hI.2.1 2 (by omega) (by omega)).trans htx.1, fun i9 h9 => by rw [hI.1 5 (by omega) (by omega) (by omega) (by omega)]; exact htx.2 i9 h9⟩
  refine lv_iload_n hx hb dX5_isScript_15 rfl (lv_at hl 1 rfl) ?_
  refine b_eq0 (tgt := 38) hx hb dX5_isScript_16 (by decide) (fun h_1 => ?_) (fun h_1 => ?_)
  · have hok := h_1
    refine lv_iload_n hx hb dX5_isScript_38 rfl (lv_at hl 1 rfl) ?_
    refine b_eq0 (tgt := 57) hx hb dX5_isScript_39 (by decide) (fun h_2 => ?_) (fun h_2 => ?_)
    · refine lv_iconst (v := 0) hx hb dX5_isScript_57 (by decide) ?_
      exact uZ_ret (Y, i) hW hx hb hr hlocks dX5_isScript_58 (by rfl) ((bI_f (fun q9 => hok q9.1))) ⟨hI, fun q9 => absurd q9 hok⟩ (rfl) (adr2 (L := [[h, a 0, a 1, a 2, a 3, a 4, a 5, a 6, a 7, a 8]]) rfl rfl)
    · exact absurd h_2 hok
  · have hok := h_1
    have hE7 := hE9.2.2 hok
    refine lv_aload_n hx hb dX5_isScript_19 rfl (lv_at hl 0 rfl) ?_
    refine lv_bipush (v := 59) hx hb dX5_isScript_20 (by decide) ?_
    refine lv_bipush (v := 59) hx hb dX5_isScript_22 (by decide) ?_
    refine call_VU (As := [.int 59, .int 59]) (rest := []) E rfl hK hW (c_X5_takesSign l g h a V Y T k hk hT (endA T k i) 59 59 htx9 hI.2.2.2.2.1 hE9.2.1 (by omega) (by omega)) ok_X5_takesSign rfl q3_214 [0] rfl (by decide) (b_recv hK hP 0 0 rfl rfl rfl rfl) ⟨⟨rfl, rfl⟩, Nat.le_of_ble_eq_true rfl, Nat.le_of_ble_eq_true rfl⟩ hl.1 (Nat.le_of_ble_eq_true rfl) ⟨Nat.le_of_ble_eq_true rfl, Nat.le_of_ble_eq_true rfl⟩ rfl dX5_isScript_24 (fun _u H locs _ hW => ?_)
    have hW : wd g _ s.heap [mV g h a V (up2 Y 9 3 (nI (tkS T k (endA T k i) 59 59)))] H locs := hW
    have hP := hW.1
    refine b_eq0 (tgt := 38) hx hb dX5_isScript_27 (by decide) (fun h_3 => ?_) (fun h_3 => ?_)
    · have hs9 : tkS T k (endA T k i) 59 59 = endA T k i := if_neg h_3
      rw [hs9] at hW
      have hP := hW.1
      have hsep := h_3
      have hs8 : up2 Y 9 3 (nI (endA T k i)) = Y := up2_same hI.2.2.2.2.1
      rw [hs8] at hW
      have hP := hW.1
      refine lv_iload_n hx hb dX5_isScript_38 rfl (lv_at hl 1 rfl) ?_
      refine b_eq0 (tgt := 57) hx hb dX5_isScript_39 (by decide) (fun h_4 => ?_) (fun h_4 => ?_)
      · exact absurd hok h_4
      · refine lv_aload_n hx hb dX5_isScript_42 rfl (lv_at hl 0 rfl) ?_
        refine b_get (v := .int (Y 9 3)) hx hb hts inX5 hown hK hP 0 0 9 rfl rfl rfl (by decide) q3_34 rfl rfl dX5_isScript_43 ?_
        refine b_top (y := nI (endA T k i)) hI.2.2.2.2.1 ?_
        refine lv_aload_n hx hb dX5_isScript_46 rfl (lv_at hl 0 rfl) ?_
        refine b_get (v := .int (Y 9 2)) hx hb hts inX5 hown hK hP 0 0 8 rfl rfl rfl (by decide) q3_33 rfl rfl dX5_isScript_47 ?_
        refine b_top (y := nI k) htx9.1 ?_
        refine b_ne (tgt := 57) ((endA T k i)) (k) hx hb rfl rfl (by omega) (by omega) dX5_isScript_50 (by decide) (fun h_5 => ?_) (fun h_5 => ?_)
        · have hend := h_5
          refine lv_iconst (v := 0) hx hb dX5_isScript_57 (by decide) ?_
          exact uZ_ret (Y, i) hW hx hb hr hlocks dX5_isScript_58 (by rfl) ((bI_f (fun q9 => hend q9.2))) ⟨hI, fun q9 => hsep⟩ (rfl) (adr2 (L := [[h, a 0, a 1, a 2, a 3, a 4, a 5, a 6, a 7, a 8]]) rfl rfl)
        · have hend := h_5
          refine lv_iconst (v := 1) hx hb dX5_isScript_53 (by decide) ?_
          refine lv_goto (tgt := 58) hx hb dX5_isScript_54 (by decide) ?_
          exact uZ_ret (Y, i) hW hx hb hr hlocks dX5_isScript_58 (by rfl) ((bI_t ⟨hok, hend⟩)) ⟨hI, fun q9 => hsep⟩ (rfl) (adr2 (L := [[h, a 0, a 1, a 2, a 3, a 4, a 5, a 6, a 7, a 8]]) rfl rfl)
    · have hs9 : tkS T k (endA T k i) 59 59 = endA T k i + 1 := if_pos h_3
      rw [hs9] at hW
      have hP := hW.1
      have hsep := h_3
      have hle_6 : endA T k i + 1 ≤ k := by have q9 := (h_3).1; omega
      have hE6 := hsep.1
      refine lv_aload_n hx hb dX5_isScript_30 rfl (lv_at hl 0 rfl) ?_
      refine call_VU (As := []) (rest := []) E rfl hK hW (c_X5_readOrder l g h a V (up2 Y 9 3 (nI (endA T k i + 1))) T k hk hT (endA T k i + 1) (i + 1) (htx9.up (by decide) (fun q9 => by first | decide | exact absurd q9 (by decide))) (up2_eq _ _ _ _) (by omega) ((up2_ne (by omega)).trans (hI.2.2.2.2.2.1.trans (by rw [numA, if_pos hok]))) (by omega)) ok_X5_readOrder rfl q3_210 [0] rfl (by decide) (b_recv hK hP 0 0 rfl rfl rfl rfl) ⟨⟨rfl, rfl⟩, Nat.le_of_ble_eq_true rfl, Nat.le_of_ble_eq_true rfl⟩ hl.1 (Nat.le_of_ble_eq_true rfl) ⟨Nat.le_of_ble_eq_true rfl, Nat.le_of_ble_eq_true rfl⟩ rfl dX5_isScript_31 (fun UR H locs hUR hW => ?_)
      have hW : wd g _ s.heap [mV g h a V UR] H locs := hW
      have hP := hW.1
      refine lv_istore_n (lv' := [(1, .int (bI ((rdR T k (endA T k i + 1)).1 = true))), (0, .ref h)]) hx hb dX5_isScript_34 rfl hl (by decide) rfl (fun ls hl => ?_)
      refine lv_goto (tgt := 15) hx hb dX5_isScript_35 (by decide) ?_
      have e_7 : bI (okA T k (i + 1)) = bI ((rdR T k (endA T k i + 1)).1 = true) := rfl
      exact ih_i (by omega) (UR) _ _ _ hW (by rw [e_7]; exact lv_sub hl [1, 0] rfl) (isI_s hI hok hsep (fun j9 h9 => by funext z9; simp [up2_if, h9]) (fun j9 h3 h4 => by simp [up2_if, h3]) hUR)

set_option maxHeartbeats 4000000 in
set_option maxRecDepth 100000 in
theorem c_X5_fault (l : Launch) (g : gx) (h : Nat) (a : Nat → Nat) (V X : sV) (T : Nat → Nat) (k : Nat) (hk : k ≤ 60) (hT : ∀ i, T i < 127) (htx : txP X T k) : cU (S := sV × Nat) l g yX5_fault cX5_fault 1 (some .int) ({ frames := 4, cells := 0, slots := 0, locals := 89 } : Room) [.ref h] [mV g h a V X] (fun u => some (.int (if scA T k u.2 then -5 else nI (endA T k u.2)))) (fun u => isI X u.1 T k u.2 ∧ (okA T k u.2 → ¬ sepA T k u.2)) (fun u => [mV g h a V u.1]) := by
  refine cU.mk (by decide +kernel) (Nat.le_of_ble_eq_true rfl) ?_
  intro p e s m below meth c ls E hK hW hl
  obtain ⟨hx, hb, hr, hml, hts, hown, hlocks, hin⟩ := id E
  have hown : s.vm.findClass RX5 = some m.cls := hown
  have hP := hW.1
  have hl : lv_has ls 1 [(0, .ref h)] := hl
  refine lv_aload_n hx hb dX5_fault_0 rfl (lv_at hl 0 rfl) ?_
  refine call_VU (As := []) (rest := []) E rfl hK hW (c_X5_isScript l g h a V X T k hk hT htx) ok_X5_isScript rfl q3_206 [0] rfl (by decide) (b_recv hK hP 0 0 rfl rfl rfl rfl) ⟨⟨rfl, rfl⟩, Nat.le_of_ble_eq_true rfl, Nat.le_of_ble_eq_true rfl⟩ hl.1 (Nat.le_of_ble_eq_true rfl) ⟨Nat.le_of_ble_eq_true rfl, Nat.le_of_ble_eq_true rfl⟩ rfl dX5_fault_1 (fun US H locs hUS hW => ?_)
  have hW : wd g _ s.heap [mV g h a V US.1] H locs := hW
  have hP := hW.1
  refine b_eq0 (tgt := 12) hx hb dX5_fault_4 (by decide) (fun h_1 => ?_) (fun h_1 => ?_)
  · refine lv_aload_n hx hb dX5_fault_12 rfl (lv_at hl 0 rfl) ?_
    refine b_get (v := .int (US.1 9 3)) hx hb hts inX5 hown hK hP 0 0 9 rfl rfl rfl (by decide) q3_34 rfl rfl dX5_fault_13 ?_
    exact uI_ret US hW hx hb hr hlocks dX5_fault_16 (by first | (rw [if_pos h_1]; done) | (rw [if_neg h_1]; exact hUS.1.2.2.2.2.1)) hUS (rfl) (adr2 (L := [[h, a 0, a 1, a 2, a 3, a 4, a 5, a 6, a 7, a 8]]) rfl rfl)
  · refine lv_bipush (v := -5) hx hb dX5_fault_7 (by decide) ?_
    refine lv_goto (tgt := 16) hx hb dX5_fault_9 (by decide) ?_
    exact uI_ret US hW hx hb hr hlocks dX5_fault_16 (by first | (rw [if_pos h_1]; done) | (rw [if_neg h_1]; exact hUS.1.2.2.2.2.1)) hUS (rfl) (adr2 (L := [[h, a 0, a 1, a 2, a 3, a 4, a 5, a 6, a 7, a 8]]) rfl rfl)
