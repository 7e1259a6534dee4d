set_option maxHeartbeats 4000000 in
set_option maxRecDepth 100000 in
theorem c_X5_record (l : Launch) (g : gx) (h : Nat) (a : Nat → Nat) (V X : sV) (n : Nat) (hn : X 9 0 = nI n) (hn5 : n ≤ 5)  : cU (S := sV) l g yX5_record cX5_record 2 none ({ frames := 0, cells := 0, slots := 0, locals := 0 } : Room) [.ref h] [mV g h a V X] (fun _ => none) (fun u => recP V X u n) (fun u => [mV g h a V u]) := by
  refine cU.mk (by decide +kernel) (Nat.le_of_ble_eq_true rfl) ?_
  intro p e s m below meth c ls E hK hW hl
  obtain ⟨hx, hb, hr, hml, hts, hown, hlocks, hin⟩ := id E
  have hown : s.vm.findClass RX5 = some m.cls := hown
  have hP := hW.1
  have hl : lv_has ls 2 [(0, .ref h)] := hl
  refine lv_aload_n hx hb dX5_record_0 rfl (lv_at hl 0 rfl) ?_
  refine b_get (v := .int (X 9 0)) hx hb hts inX5 hown hK hP 0 0 2 rfl rfl rfl (by decide) q3_27 rfl rfl dX5_record_1 ?_
  refine b_top (y := nI n) hn ?_
  refine lv_iconst (v := 5) hx hb dX5_record_4 (by decide) ?_
  refine b_ne (tgt := 49) (n) (5) hx hb rfl rfl (by omega) (by omega) dX5_record_5 (by decide) (fun h_1 => ?_) (fun h_1 => ?_)
  · obtain ⟨Z, hZ⟩ : ∃ z, z = X := ⟨_, rfl⟩
    rw [← hZ] at hW
    have hP := hW.1
    obtain ⟨s0, hs0⟩ : ∃ z : Nat, z = n := ⟨_, rfl⟩
    have hs4 : s0 ≤ 4 := by omega
    have hZ9 : Z 9 0 = nI s0 := by rw [hZ, hs0]; exact hn
    refine lv_iconst (v := 0) hx hb dX5_record_49 (by decide) ?_
    refine lv_istore_n (lv' := [(1, .int 0), (0, .ref h)]) hx hb dX5_record_50 rfl hl (by decide) rfl (fun ls hl => ?_)
    refine loopN (fun j : Nat => ∀ Q : sV, ∀ (H : Heap) (locs : List Loc) (ls : Array Slot), wd g (fun z9 => z9 ∈ adr [mV g h a V X]) s.heap [mV g h a V Q] H locs → lv_has ls 2 [(0, .ref h), (1, .int (nI j))] → ((∀ k9, k9 ≠ 1 → Q k9 = Z k9) ∧ ∀ p9, p9 < 745 → Q 1 p9 = if 149 * s0 ≤ p9 ∧ p9 < 149 * s0 + j then rowOf V (p9 - 149 * s0) else Z 1 p9) → W p l e _ s m _ below meth c H locs 0 0 _ (F0 m 51 ls [])) (149) (fun j hj ih_j => ?_) (0) (by omega) (Z) s.heap [] ls hW (lv_sub hl [1, 0] rfl) (⟨fun _ _ => rfl, fun p9 _ => by rw [if_neg (by omega)]⟩)
    intro Q H locs ls hW hl hQ
    have hP := hW.1
    refine lv_iload_n hx hb dX5_record_51 rfl (lv_at hl 1 rfl) ?_
    refine lv_sipush (v := 149) hx hb dX5_record_52 (by decide) ?_
    refine b_ge (tgt := 85) (j) (149) hx hb rfl rfl (by omega) (by omega) dX5_record_55 (by decide) (fun h_2 => ?_) (fun h_2 => ?_)
    · obtain rfl : j = 149 := by omega
      refine lv_aload_n hx hb dX5_record_85 rfl (lv_at hl 0 rfl) ?_
      refine lv_dup hx hb dX5_record_86 rfl ?_
      refine b_get (v := .int (Q 9 0)) hx hb hts inX5 hown hK hP 0 0 2 rfl rfl rfl (by decide) q3_27 rfl rfl dX5_record_87 ?_
      refine b_top (y := nI s0) (by rw [hQ.1 9 (by omega)]; exact hZ9) ?_
      refine lv_iconst (v := 1) hx hb dX5_record_90 (by decide) ?_
      refine lv_iadd hx hb dX5_record_91 ?_
      refine b_top (y := nI (s0 + 1)) (nI_add s0 1) ?_
      refine b_put (B' := [mV g h a V (up2 Q 9 0 (nI (s0 + 1)))]) (v := .int (nI (s0 + 1))) hx hb hts inX5 tyX5_ok nmX5 hown hK hW 0 0 2 rfl rfl rfl (by decide) q3_27 rfl rfl rfl rfl (Nat.le_of_ble_eq_true rfl) rfl dX5_record_92 (fun H locs hW => ?_)
      have hP := hW.1
      exact uV_ret (up2 Q 9 0 (nI (s0 + 1))) hW hx hb hr hlocks dX5_record_95 ⟨fun k9 h1 h9 => by rw [up2_k h9, hQ.1 k9 h1, hZ], fun j9 h9 => by rw [up2_ne (by omega), hQ.1 9 (by omega), hZ], by rw [up2_eq, hs0, recS, if_pos (by omega)], fun p9 h9 => by rw [recS, if_pos (by omega)] at h9; rw [up2_ne (by omega), hQ.2 p9 (by omega), hs0, recS, if_pos (by omega : n < 5), Nat.add_sub_cancel, if_neg (by omega : ¬ n = 5)]; by_cases e9 : p9 < 149 * n; (rw [if_pos e9, if_neg (by omega), hZ]); (rw [if_neg e9, if_pos (by omega)])⟩ (by exact rfl) (adr2 (L := [[h, a 0, a 1, a 2, a 3, a 4, a 5, a 6, a 7, a 8]]) rfl rfl)
    · refine lv_aload_n hx hb dX5_record_58 rfl (lv_at hl 0 rfl) ?_
      refine b_get (v := .ref (a 1)) hx hb hts inX5 hown hK hP 0 0 1 rfl rfl rfl (by decide) q3_26 rfl rfl dX5_record_59 ?_
      refine lv_sipush (v := 149) hx hb dX5_record_62 (by decide) ?_
      refine lv_aload_n hx hb dX5_record_65 rfl (lv_at hl 0 rfl) ?_
      refine b_get (v := .int (Q 9 0)) hx hb hts inX5 hown hK hP 0 0 2 rfl rfl rfl (by decide) q3_27 rfl rfl dX5_record_66 ?_
      refine b_top (y := nI s0) (by rw [hQ.1 9 (by omega)]; exact hZ9) ?_
      refine lv_imul hx hb dX5_record_69 ?_
      refine b_top (y := nI (149 * s0)) (pk_mul 149 s0) ?_
      refine lv_iload_n hx hb dX5_record_70 rfl (lv_at hl 1 rfl) ?_
      refine lv_iadd hx hb dX5_record_71 ?_
      refine b_top (y := nI ((149 * s0) + j)) (nI_add (149 * s0) j) ?_
      refine lv_aload_n hx hb dX5_record_72 rfl (lv_at hl 0 rfl) ?_
      refine b_get (v := .ref (a 0)) hx hb hts inX5 hown hK hP 0 0 0 rfl rfl rfl (by decide) q3_25 rfl rfl dX5_record_73 ?_
      refine lv_iload_n hx hb dX5_record_76 rfl (lv_at hl 1 rfl) ?_
      refine b_iald (v := rowOf V j) hx hb hK hP 0 1 (j) rfl rfl rfl (by omega) rfl rfl dX5_record_77 ?_
      refine b_iast (B' := [mV g h a V (up2 Q 1 ((149 * s0) + j) (rowOf V j))]) hx hb hK hW 0 2 ((149 * s0) + j) rfl rfl rfl (by omega) rfl rfl dX5_record_78 (fun H locs hW => ?_)
      have hP := hW.1
      refine lv_iinc (v := nI (j + 1)) (lv' := [(1, .int (nI (j + 1))), (0, .ref h)]) hx hb dX5_record_79 hl (k := 1) rfl (nI_add j 1) (by decide) rfl (fun ls hl => ?_)
      refine lv_goto (tgt := 51) hx hb dX5_record_82 (by decide) ?_
      exact ih_j (by omega) ((up2 Q 1 ((149 * s0) + j) (rowOf V j))) _ _ _ hW (lv_sub hl [1, 0] rfl) (⟨fun k9 h9 => by rw [up2_k h9, hQ.1 k9 h9], fun p9 h9 => by rw [up2_if]; by_cases e9 : p9 = 149 * s0 + j; (rw [if_pos ⟨rfl, e9⟩, if_pos (by omega), e9, Nat.add_sub_cancel_left]); (rw [if_neg (by omega), hQ.2 p9 h9]; by_cases e8 : 149 * s0 ≤ p9 ∧ p9 < 149 * s0 + j; (rw [if_pos e8, if_pos (by omega)]); (rw [if_neg e8, if_neg (by omega)]))⟩)
  · obtain rfl : n = 5 := by omega
    refine lv_iconst (v := 0) hx hb dX5_record_8 (by decide) ?_
    refine lv_istore_n (lv' := [(1, .int 0), (0, .ref h)]) hx hb dX5_record_9 rfl hl (by decide) rfl (fun ls hl => ?_)
    refine loopN (fun i : Nat => ∀ Y : sV, ∀ (H : Heap) (locs : List Loc) (ls : Array Slot), wd g (fun z9 => z9 ∈ adr [mV g h a V X]) s.heap [mV g h a V Y] H locs → lv_has ls 2 [(0, .ref h), (1, .int (nI i))] → ((∀ k9, k9 ≠ 1 → Y k9 = X k9) ∧ ∀ p9, p9 < 745 → Y 1 p9 = if p9 < i then X 1 (p9 + 149) else X 1 p9) → W p l e _ s m _ below meth c H locs 0 0 _ (F0 m 10 ls [])) (596) (fun i hi ih_i => ?_) (0) (by omega) (X) s.heap [] ls hW (lv_sub hl [1, 0] rfl) (⟨fun _ _ => rfl, fun p9 _ => by rw [if_neg (by omega)]⟩)
    intro Y H locs ls hW hl hY
    have hP := hW.1
    refine lv_iload_n hx hb dX5_record_10 rfl (lv_at hl 1 rfl) ?_
    refine lv_sipush (v := 596) hx hb dX5_record_11 (by decide) ?_
    refine b_ge (tgt := 39) (i) (596) hx hb rfl rfl (by omega) (by omega) dX5_record_14 (by decide) (fun h_3 => ?_) (fun h_3 => ?_)
    · obtain rfl : i = 596 := by omega
      refine lv_aload_n hx hb dX5_record_39 rfl (lv_at hl 0 rfl) ?_
      refine lv_dup hx hb dX5_record_40 rfl ?_
      refine b_get (v := .int (Y 9 0)) hx hb hts inX5 hown hK hP 0 0 2 rfl rfl rfl (by decide) q3_27 rfl rfl dX5_record_41 ?_
      refine b_top (y := nI 5) (by rw [hY.1 9 (by omega)]; exact hn) ?_
      refine lv_iconst (v := 1) hx hb dX5_record_44 (by decide) ?_
      refine lv_isub hx hb dX5_record_45 ?_
      refine b_top (y := nI (5 - 1)) (pk_sub (a := 5) (b := 1) (by omega)) ?_
      refine b_put (B' := [mV g h a V (up2 Y 9 0 (nI (5 - 1)))]) (v := .int (nI (5 - 1))) hx hb hts inX5 tyX5_ok nmX5 hown hK hW 0 0 2 rfl rfl rfl (by decide) q3_27 rfl rfl rfl rfl (Nat.le_of_ble_eq_true rfl) rfl dX5_record_46 (fun H locs hW => ?_)
      have hP := hW.1
      obtain ⟨Z, hZ⟩ : ∃ z, z = (up2 Y 9 0 (nI (5 - 1))) := ⟨_, rfl⟩
      rw [← hZ] at hW
      have hP := hW.1
      obtain ⟨s0, hs0⟩ : ∃ z : Nat, z = 4 := ⟨_, rfl⟩
      have hs4 : s0 ≤ 4 := by omega
      have hZ9 : Z 9 0 = nI s0 := by rw [hZ, hs0]; exact up2_eq _ _ _ _
      refine lv_iconst (v := 0) hx hb dX5_record_49 (by decide) ?_
      refine lv_istore_n (lv' := [(1, .int 0), (0, .ref h)]) hx hb dX5_record_50 rfl hl (by decide) rfl (fun ls hl => ?_)
      refine loopN (fun j : Nat => ∀ Q : sV, ∀ (H : Heap) (locs : List Loc) (ls : Array Slot), wd g (fun z9 => z9 ∈ adr [mV g h a V X]) s.heap [mV g h a V Q] H locs → lv_has ls 2 [(0, .ref h), (1, .int (nI j))] → ((∀ k9, k9 ≠ 1 → Q k9 = Z k9) ∧ ∀ p9, p9 < 745 → Q 1 p9 = if 149 * s0 ≤ p9 ∧ p9 < 149 * s0 + j then rowOf V (p9 - 149 * s0) else Z 1 p9) → W p l e _ s m _ below meth c H locs 0 0 _ (F0 m 51 ls [])) (149) (fun j hj ih_j => ?_) (0) (by omega) (Z) H locs ls hW (lv_sub hl [1, 0] rfl) (⟨fun _ _ => rfl, fun p9 _ => by rw [if_neg (by omega)]⟩)
      intro Q H locs ls hW hl hQ
      have hP := hW.1
      refine lv_iload_n hx hb dX5_record_51 rfl (lv_at hl 1 rfl) ?_
      refine lv_sipush (v := 149) hx hb dX5_record_52 (by decide) ?_
      refine b_ge (tgt := 85) (j) (149) hx hb rfl rfl (by omega) (by omega) dX5_record_55 (by decide) (fun h_4 => ?_) (fun h_4 => ?_)
      · obtain rfl : j = 149 := by omega
        refine lv_aload_n hx hb dX5_record_85 rfl (lv_at hl 0 rfl) ?_
        refine lv_dup hx hb dX5_record_86 rfl ?_
        refine b_get (v := .int (Q 9 0)) hx hb hts inX5 hown hK hP 0 0 2 rfl rfl rfl (by decide) q3_27 rfl rfl dX5_record_87 ?_
        refine b_top (y := nI s0) (by rw [hQ.1 9 (by omega)]; exact hZ9) ?_
        refine lv_iconst (v := 1) hx hb dX5_record_90 (by decide) ?_
        refine lv_iadd hx hb dX5_record_91 ?_
        refine b_top (y := nI (s0 + 1)) (nI_add s0 1) ?_
        refine b_put (B' := [mV g h a V (up2 Q 9 0 (nI (s0 + 1)))]) (v := .int (nI (s0 + 1))) hx hb hts inX5 tyX5_ok nmX5 hown hK hW 0 0 2 rfl rfl rfl (by decide) q3_27 rfl rfl rfl rfl (Nat.le_of_ble_eq_true rfl) rfl dX5_record_92 (fun H locs hW => ?_)
        have hP := hW.1
        exact uV_ret (up2 Q 9 0 (nI (s0 + 1))) hW hx hb hr hlocks dX5_record_95 ⟨fun k9 h1 h9 => by rw [up2_k h9, hQ.1 k9 h1, hZ, up2_k h9, hY.1 k9 h1], fun j9 h9 => by rw [up2_ne (by omega), hQ.1 9 (by omega), hZ, up2_ne (by omega), hY.1 9 (by omega)], by rw [up2_eq, hs0]; rfl, fun p9 h9 => by have h8 : p9 < 745 := h9; rw [up2_ne (by omega), hQ.2 p9 h8, hs0]; show _ = if p9 < 149 * (5 - 1) then _ else rowOf V (p9 - 149 * (5 - 1)); by_cases e9 : p9 < 149 * (5 - 1); (rw [if_pos e9, if_neg (by omega), hZ, up2_ne (by omega), hY.2 p9 h8, if_pos (by omega), if_pos rfl]); (rw [if_neg e9, if_pos (by omega)])⟩ (by exact rfl) (adr2 (L := [[h, a 0, a 1, a 2, a 3, a 4, a 5, a 6, a 7, a 8]]) rfl rfl)
      · refine lv_aload_n hx hb dX5_record_58 rfl (lv_at hl 0 rfl) ?_
        refine b_get (v := .ref (a 1)) hx hb hts inX5 hown hK hP 0 0 1 rfl rfl rfl (by decide) q3_26 rfl rfl dX5_record_59 ?_
        refine lv_sipush (v := 149) hx hb dX5_record_62 (by decide) ?_
        refine lv_aload_n hx hb dX5_record_65 rfl (lv_at hl 0 rfl) ?_
        refine b_get (v := .int (Q 9 0)) hx hb hts inX5 hown hK hP 0 0 2 rfl rfl rfl (by decide) q3_27 rfl rfl dX5_record_66 ?_
        refine b_top (y := nI s0) (by rw [hQ.1 9 (by omega)]; exact hZ9) ?_
        refine lv_imul hx hb dX5_record_69 ?_
        refine b_top (y := nI (149 * s0)) (pk_mul 149 s0) ?_
        refine lv_iload_n hx hb dX5_record_70 rfl (lv_at hl 1 rfl) ?_
        refine lv_iadd hx hb dX5_record_71 ?_
        refine b_top (y := nI ((149 * s0) + j)) (nI_add (149 * s0) j) ?_
        refine lv_aload_n hx hb dX5_record_72 rfl (lv_at hl 0 rfl) ?_
        refine b_get (v := .ref (a 0)) hx hb hts inX5 hown hK hP 0 0 0 rfl rfl rfl (by decide) q3_25 rfl rfl dX5_record_73 ?_
        refine lv_iload_n hx hb dX5_record_76 rfl (lv_at hl 1 rfl) ?_
        refine b_iald (v := rowOf V j) hx hb hK hP 0 1 (j) rfl rfl rfl (by omega) rfl rfl dX5_record_77 ?_
        refine b_iast (B' := [mV g h a V (up2 Q 1 ((149 * s0) + j) (rowOf V j))]) hx hb hK hW 0 2 ((149 * s0) + j) rfl rfl rfl (by omega) rfl rfl dX5_record_78 (fun H locs hW => ?_)
        have hP := hW.1
        refine lv_iinc (v := nI (j + 1)) (lv' := [(1, .int (nI (j + 1))), (0, .ref h)]) hx hb dX5_record_79 hl (k := 1) rfl (nI_add j 1) (by decide) rfl (fun ls hl => ?_)
        refine lv_goto (tgt := 51) hx hb dX5_record_82 (by decide) ?_
        exact ih_j (by omega) ((up2 Q 1 ((149 * s0) + j) (rowOf V j))) _ _ _ hW (lv_sub hl [1, 0] rfl) (⟨fun k9 h9 => by rw [up2_k h9, hQ.1 k9 h9], fun p9 h9 => by rw [up2_if]; by_cases e9 : p9 = 149 * s0 + j; (rw [if_pos ⟨rfl, e9⟩, if_pos (by omega), e9, Nat.add_sub_cancel_left]); (rw [if_neg (by omega), hQ.2 p9 h9]; by_cases e8 : 149 * s0 ≤ p9 ∧ p9 < 149 * s0 + j; (rw [if_pos e8, if_pos (by omega)]); (rw [if_neg e8, if_neg (by omega)]))⟩)
    · refine lv_aload_n hx hb dX5_record_17 rfl (lv_at hl 0 rfl) ?_
      refine b_get (v := .ref (a 1)) hx hb hts inX5 hown hK hP 0 0 1 rfl rfl rfl (by decide) q3_26 rfl rfl dX5_record_18 ?_
      refine lv_iload_n hx hb dX5_record_21 rfl (lv_at hl 1 rfl) ?_
      refine lv_aload_n hx hb dX5_record_22 rfl (lv_at hl 0 rfl) ?_
      refine b_get (v := .ref (a 1)) hx hb hts inX5 hown hK hP 0 0 1 rfl rfl rfl (by decide) q3_26 rfl rfl dX5_record_23 ?_
      refine lv_iload_n hx hb dX5_record_26 rfl (lv_at hl 1 rfl) ?_
      refine lv_sipush (v := 149) hx hb dX5_record_27 (by decide) ?_
      refine lv_iadd hx hb dX5_record_30 ?_
      refine b_top (y := nI (i + 149)) (nI_add i 149) ?_
      refine b_iald (v := Y 1 (i + 149)) hx hb hK hP 0 2 (i + 149) rfl rfl rfl (by omega) rfl rfl dX5_record_31 ?_
      refine b_iast (B' := [mV g h a V (up2 Y 1 i (Y 1 (i + 149)))]) hx hb hK hW 0 2 (i) rfl rfl rfl (by omega) rfl rfl dX5_record_32 (fun H locs hW => ?_)
      have hP := hW.1
      refine lv_iinc (v := nI (i + 1)) (lv' := [(1, .int (nI (i + 1))), (0, .ref h)]) hx hb dX5_record_33 hl (k := 1) rfl (nI_add i 1) (by decide) rfl (fun ls hl => ?_)
      refine lv_goto (tgt := 10) hx hb dX5_record_36 (by decide) ?_
      exact ih_i (by omega) ((up2 Y 1 i (Y 1 (i + 149)))) _ _ _ hW (lv_sub hl [1, 0] rfl) (⟨fun k9 h9 => by rw [up2_k h9, hY.1 k9 h9], fun p9 h9 => by rw [up2_if]; by_cases e9 : p9 = i; (rw [if_pos ⟨rfl, e9⟩, if_pos (by omega), e9, hY.2 (i + 149) (by omega), if_neg (by omega)]); (rw [if_neg (by omega), hY.2 p9 h9]; by_cases e8 : p9 < i; (rw [if_pos e8, if_pos (by omega)]); (rw [if_neg e8, if_neg (by omega)]))⟩)
