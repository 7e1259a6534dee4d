set_option maxHeartbeats 4000000 in
set_option maxRecDepth 100000 in
theorem c_X5_turn (l : Launch) (g : gx) (h : Nat) (a : Nat → Nat) (V X : sV) (cq : Nat → Nat) (hc : ∀ t, t < 6 → V 3 t = nI (cq t) ∧ cq t ≤ 5)  : cU (S := Unit) l g yX5_turn cX5_turn 4 none ({ frames := 5, cells := 0, slots := 0, locals := 112 } : Room) [.ref h] [mV g h a V X] (fun _ => none) (fun _ => True) (fun _ => [mV g h a (tuV V cq (liX V cq X 6 4)) (liX V cq X 6)]) := by
  refine cU.mk (by decide +kernel) (Nat.le_of_ble_eq_true rfl) ?_
  intro p e s m below meth c ls E hK hW hl
  obtain ⟨hx, hb, hr, hml, hts, hown, hlocks, hin⟩ := id E
  have hown : s.vm.findClass RX5 = some m.cls := hown
  have hP := hW.1
  have hl : lv_has ls 4 [(0, .ref h)] := hl
  refine lv_aload_n hx hb dX5_turn_0 rfl (lv_at hl 0 rfl) ?_
  refine call_VU (As := []) (rest := []) E rfl hK hW (c_X5_listen l g h a V X cq hc) ok_X5_listen rfl q3_158 [0] rfl (by decide) (b_recv hK hP 0 0 rfl rfl rfl rfl) ⟨⟨rfl, rfl⟩, Nat.le_of_ble_eq_true rfl, Nat.le_of_ble_eq_true rfl⟩ hl.1 (Nat.le_of_ble_eq_true rfl) ⟨Nat.le_of_ble_eq_true rfl, Nat.le_of_ble_eq_true rfl⟩ rfl dX5_turn_1 (fun _u H locs _ hW => ?_)
  have hW : wd g _ s.heap [mV g h a V (liX V cq X 6)] H locs := hW
  have hP := hW.1
  obtain ⟨UX, hUX⟩ : ∃ z, z = (liX V cq X 6) := ⟨_, rfl⟩
  rw [← hUX] at hW
  have hP := hW.1
  refine lv_aload_n hx hb dX5_turn_4 rfl (lv_at hl 0 rfl) ?_
  refine call_VR (As := []) (rest := []) E rfl hK hP (c_X5_loudestNow l g h a V UX) ok_X5_loudestNow rfl q3_178 [0] rfl (b_recv hK hP 0 0 rfl rfl rfl rfl) ⟨⟨rfl, rfl⟩, Nat.le_of_ble_eq_true rfl, Nat.le_of_ble_eq_true rfl⟩ hl.1 (Nat.le_of_ble_eq_true rfl) ⟨Nat.le_of_ble_eq_true rfl, Nat.le_of_ble_eq_true rfl⟩ rfl dX5_turn_5 ?_
  refine lv_istore_n (lv' := [(1, .int (lnM (UX 4) 6)), (0, .ref h)]) hx hb dX5_turn_8 rfl hl (by decide) rfl (fun ls hl => ?_)
  refine lv_iconst (v := 0) hx hb dX5_turn_9 (by decide) ?_
  refine lv_istore_n (lv' := [(2, .int 0), (1, .int (lnM (UX 4) 6)), (0, .ref h)]) hx hb dX5_turn_10 rfl hl (by decide) rfl (fun ls hl => ?_)
  refine loopN (fun i : Nat => ∀ (H : Heap) (locs : List Loc) (ls : Array Slot), wd g (fun z9 => z9 ∈ adr [mV g h a V X]) s.heap [mV g h a (tpV V (UX 4) i) UX] H locs → lv_has ls 4 [(0, .ref h), (1, .int (lnM (UX 4) 6)), (2, .int (nI i))] → W p l e _ s m _ below meth c H locs 0 0 _ (F0 m 11 ls [])) (6) (fun i hi ih_i => ?_) (0) (by omega)  H locs ls hW (lv_sub hl [2, 1, 0] rfl) 
  intro  H locs ls hW hl 
  have hP := hW.1
  refine lv_iload_n hx hb dX5_turn_11 rfl (lv_at hl 2 rfl) ?_
  refine lv_bipush (v := 6) hx hb dX5_turn_12 (by decide) ?_
  refine b_ge (tgt := 51) (i) (6) hx hb rfl rfl (by omega) (by omega) dX5_turn_14 (by decide) (fun h_1 => ?_) (fun h_1 => ?_)
  · obtain rfl : i = 6 := by omega
    obtain ⟨UV, hUV⟩ : ∃ z, z = (tpV V (UX 4) 6) := ⟨_, rfl⟩
    rw [← hUV] at hW
    have hP := hW.1
    refine lv_iconst (v := 0) hx hb dX5_turn_51 (by decide) ?_
    refine lv_istore_n (lv' := [(2, .int 0), (0, .ref h), (1, .int (lnM (UX 4) 6))]) hx hb dX5_turn_52 rfl hl (by decide) rfl (fun ls hl => ?_)
    refine loopN (fun j : Nat => ∀ (H : Heap) (locs : List Loc) (ls : Array Slot), wd g (fun z9 => z9 ∈ adr [mV g h a V X]) s.heap [mV g h a (ttV UV cq j) UX] H locs → lv_has ls 4 [(0, .ref h), (1, .int (lnM (UX 4) 6)), (2, .int (nI j))] → W p l e _ s m _ below meth c H locs 0 0 _ (F0 m 53 ls [])) (6) (fun j hj ih_j => ?_) (0) (by omega)  H locs ls hW (lv_sub hl [1, 2, 0] rfl) 
    intro  H locs ls hW hl 
    have hP := hW.1
    refine lv_iload_n hx hb dX5_turn_53 rfl (lv_at hl 2 rfl) ?_
    refine lv_bipush (v := 6) hx hb dX5_turn_54 (by decide) ?_
    refine b_ge (tgt := 111) (j) (6) hx hb rfl rfl (by omega) (by omega) dX5_turn_56 (by decide) (fun h_2 => ?_) (fun h_2 => ?_)
    · obtain rfl : j = 6 := by omega
      obtain ⟨UT, hUT⟩ : ∃ z, z = (ttV UV cq 6) := ⟨_, rfl⟩
      rw [← hUT] at hW
      have hP := hW.1
      refine lv_iload_n hx hb dX5_turn_111 rfl (lv_at hl 1 rfl) ?_
      refine lv_bipush (v := -5) hx hb dX5_turn_112 (by decide) ?_
      refine lv_icmp_ne (tgt := 130) hx hb dX5_turn_114 (by decide) (fun h_3 => ?_) (fun h_3 => ?_)
      · have hL := h_3
        obtain ⟨w, hw, hwe⟩ := (lnM_rng (UX 4) 6).resolve_left h_3
        refine lv_aload_n hx hb dX5_turn_130 rfl (lv_at hl 0 rfl) ?_
        refine lv_iload_n hx hb dX5_turn_131 rfl (lv_at hl 1 rfl) ?_
        refine b_top (y := nI w) hwe ?_
        refine lv_bipush (v := 6) hx hb dX5_turn_132 (by decide) ?_
        refine lv_aload_n hx hb dX5_turn_134 rfl (lv_at hl 0 rfl) ?_
        refine b_get (v := .ref (a 0)) hx hb hts inX5 hown hK hP 0 0 0 rfl rfl rfl (by decide) q3_25 rfl rfl dX5_turn_135 ?_
        refine lv_iconst (v := 1) hx hb dX5_turn_138 (by decide) ?_
        refine b_iald (v := UT 12 1) hx hb hK hP 0 1 (1) rfl rfl rfl (by omega) rfl rfl dX5_turn_139 ?_
        refine call_VU (As := [.int (nI w), .int 6, .int (UT 12 1)]) (rest := []) E rfl hK hW (c_X5_put_k l g h a UT UX w 6 (UT 12 1) (by omega) (by omega)) ok_X5_put rfl q3_21 [0] rfl (by decide) (b_recv hK hP 0 0 rfl rfl rfl rfl) ⟨⟨rfl, rfl⟩, Nat.le_of_ble_eq_true rfl, Nat.le_of_ble_eq_true rfl⟩ hl.1 (Nat.le_of_ble_eq_true rfl) ⟨Nat.le_of_ble_eq_true rfl, Nat.le_of_ble_eq_true rfl⟩ rfl dX5_turn_140 (fun _u H locs _ hW => ?_)
        have hW : wd g _ s.heap [mV g h a (up2 UT 6 w (UT 12 1)) UX] H locs := hW
        have hP := hW.1
        refine lv_aload_n hx hb dX5_turn_143 rfl (lv_at hl 0 rfl) ?_
        refine lv_iload_n hx hb dX5_turn_144 rfl (lv_at hl 1 rfl) ?_
        refine b_top (y := nI w) hwe ?_
        refine lv_bipush (v := 8) hx hb dX5_turn_145 (by decide) ?_
        refine lv_aload_n hx hb dX5_turn_147 rfl (lv_at hl 0 rfl) ?_
        refine lv_iload_n hx hb dX5_turn_148 rfl (lv_at hl 1 rfl) ?_
        refine b_top (y := nI w) hwe ?_
        refine lv_bipush (v := 8) hx hb dX5_turn_149 (by decide) ?_
        refine call_VR (As := [.int (nI w), .int 8]) (rest := [.int 8, .int (nI w), .ref h]) E rfl hK hP (c_X5_of_k l g h a (up2 UT 6 w (UT 12 1)) UX w 8 (by omega) (by omega)) ok_X5_of rfl q3_94 [0] rfl (b_recv hK hP 0 0 rfl rfl rfl rfl) ⟨⟨rfl, rfl⟩, Nat.le_of_ble_eq_true rfl, Nat.le_of_ble_eq_true rfl⟩ hl.1 (Nat.le_of_ble_eq_true rfl) ⟨Nat.le_of_ble_eq_true rfl, Nat.le_of_ble_eq_true rfl⟩ rfl dX5_turn_151 ?_
        refine b_top (y := UT 8 w) rfl ?_
        refine lv_iconst (v := 1) hx hb dX5_turn_154 (by decide) ?_
        refine lv_iadd hx hb dX5_turn_155 ?_
        refine call_VU (As := [.int (nI w), .int 8, .int ((UT 8 w) + 1)]) (rest := []) E rfl hK hW (c_X5_put_k l g h a (up2 UT 6 w (UT 12 1)) UX w 8 ((UT 8 w) + 1) (by omega) (by omega)) ok_X5_put rfl q3_21 [0] rfl (by decide) (b_recv hK hP 0 0 rfl rfl rfl rfl) ⟨⟨rfl, rfl⟩, Nat.le_of_ble_eq_true rfl, Nat.le_of_ble_eq_true rfl⟩ hl.1 (Nat.le_of_ble_eq_true rfl) ⟨Nat.le_of_ble_eq_true rfl, Nat.le_of_ble_eq_true rfl⟩ rfl dX5_turn_156 (fun _u H locs _ hW => ?_)
        have hW : wd g _ s.heap [mV g h a (up2 (up2 UT 6 w (UT 12 1)) 8 w ((UT 8 w) + 1)) UX] H locs := hW
        have hP := hW.1
        refine lv_aload_n hx hb dX5_turn_159 rfl (lv_at hl 0 rfl) ?_
        refine b_get (v := .ref (a 0)) hx hb hts inX5 hown hK hP 0 0 0 rfl rfl rfl (by decide) q3_25 rfl rfl dX5_turn_160 ?_
        refine lv_iconst (v := 3) hx hb dX5_turn_163 (by decide) ?_
        refine lv_iload_n hx hb dX5_turn_164 rfl (lv_at hl 1 rfl) ?_
        refine b_iastE (B' := [mV g h a (up2 (up2 (up2 UT 6 w (UT 12 1)) 8 w ((UT 8 w) + 1)) 12 3 (lnM (UX 4) 6)) UX]) hx hb hK hW 0 1 (3) rfl rfl rfl (by omega) rfl (row_put_s _ (by omega) _) rfl dX5_turn_165 (fun H locs hW => ?_)
        have hP := hW.1
        refine lv_aload_n hx hb dX5_turn_166 rfl (lv_at hl 0 rfl) ?_
        refine b_get (v := .ref (a 0)) hx hb hts inX5 hown hK hP 0 0 0 rfl rfl rfl (by decide) q3_25 rfl rfl dX5_turn_167 ?_
        refine lv_iconst (v := 2) hx hb dX5_turn_170 (by decide) ?_
        refine lv_dup2_11 hx hb dX5_turn_171 rfl rfl ?_
        refine b_iald (v := UT 12 2) hx hb hK hP 0 1 (2) rfl rfl rfl (by omega) rfl rfl dX5_turn_172 ?_
        refine lv_iconst (v := 1) hx hb dX5_turn_173 (by decide) ?_
        refine lv_iadd hx hb dX5_turn_174 ?_
        refine b_iastE (B' := [mV g h a (up2 (up2 (up2 (up2 UT 6 w (UT 12 1)) 8 w ((UT 8 w) + 1)) 12 3 (lnM (UX 4) 6)) 12 2 ((UT 12 2) + 1)) UX]) hx hb hK hW 0 1 (2) rfl rfl rfl (by omega) rfl (row_put_s _ (by omega) _) rfl dX5_turn_175 (fun H locs hW => ?_)
        have hP := hW.1
        exact uV_ret () hW hx hb hr hlocks dX5_turn_176 trivial (by simp only [tuV, luV, ← hUX, ← hUV, ← hUT]; first | (rw [if_pos hL]; rfl) | (rw [if_neg hL, hwe, nI_clamp (by omega)]; rfl)) (adr2 (L := [[h, a 0, a 1, a 2, a 3, a 4, a 5, a 6, a 7, a 8]]) rfl rfl)
      · have hL := h_3
        refine lv_aload_n hx hb dX5_turn_117 rfl (lv_at hl 0 rfl) ?_
        refine b_get (v := .ref (a 0)) hx hb hts inX5 hown hK hP 0 0 0 rfl rfl rfl (by decide) q3_25 rfl rfl dX5_turn_118 ?_
        refine lv_iconst (v := 4) hx hb dX5_turn_121 (by decide) ?_
        refine lv_dup2_11 hx hb dX5_turn_122 rfl rfl ?_
        refine b_iald (v := UT 12 4) hx hb hK hP 0 1 (4) rfl rfl rfl (by omega) rfl rfl dX5_turn_123 ?_
        refine lv_iconst (v := 1) hx hb dX5_turn_124 (by decide) ?_
        refine lv_iadd hx hb dX5_turn_125 ?_
        refine b_iastE (B' := [mV g h a (up2 UT 12 4 ((UT 12 4) + 1)) UX]) hx hb hK hW 0 1 (4) rfl rfl rfl (by omega) rfl (row_put_s _ (by omega) _) rfl dX5_turn_126 (fun H locs hW => ?_)
        have hP := hW.1
        refine lv_goto (tgt := 159) hx hb dX5_turn_127 (by decide) ?_
        refine lv_aload_n hx hb dX5_turn_159 rfl (lv_at hl 0 rfl) ?_
        refine b_get (v := .ref (a 0)) hx hb hts inX5 hown hK hP 0 0 0 rfl rfl rfl (by decide) q3_25 rfl rfl dX5_turn_160 ?_
        refine lv_iconst (v := 3) hx hb dX5_turn_163 (by decide) ?_
        refine lv_iload_n hx hb dX5_turn_164 rfl (lv_at hl 1 rfl) ?_
        refine b_iastE (B' := [mV g h a (up2 (up2 UT 12 4 ((UT 12 4) + 1)) 12 3 (lnM (UX 4) 6)) UX]) hx hb hK hW 0 1 (3) rfl rfl rfl (by omega) rfl (row_put_s _ (by omega) _) rfl dX5_turn_165 (fun H locs hW => ?_)
        have hP := hW.1
        refine lv_aload_n hx hb dX5_turn_166 rfl (lv_at hl 0 rfl) ?_
        refine b_get (v := .ref (a 0)) hx hb hts inX5 hown hK hP 0 0 0 rfl rfl rfl (by decide) q3_25 rfl rfl dX5_turn_167 ?_
        refine lv_iconst (v := 2) hx hb dX5_turn_170 (by decide) ?_
        refine lv_dup2_11 hx hb dX5_turn_171 rfl rfl ?_
        refine b_iald (v := UT 12 2) hx hb hK hP 0 1 (2) rfl rfl rfl (by omega) rfl rfl dX5_turn_172 ?_
        refine lv_iconst (v := 1) hx hb dX5_turn_173 (by decide) ?_
        refine lv_iadd hx hb dX5_turn_174 ?_
        refine b_iastE (B' := [mV g h a (up2 (up2 (up2 UT 12 4 ((UT 12 4) + 1)) 12 3 (lnM (UX 4) 6)) 12 2 ((UT 12 2) + 1)) UX]) hx hb hK hW 0 1 (2) rfl rfl rfl (by omega) rfl (row_put_s _ (by omega) _) rfl dX5_turn_175 (fun H locs hW => ?_)
        have hP := hW.1
        exact uV_ret () hW hx hb hr hlocks dX5_turn_176 trivial (by simp only [tuV, luV, ← hUX, ← hUV, ← hUT]; first | (rw [if_pos hL]; rfl) | (rw [if_neg hL, hwe, nI_clamp (by omega)]; rfl)) (adr2 (L := [[h, a 0, a 1, a 2, a 3, a 4, a 5, a 6, a 7, a 8]]) rfl rfl)
    · refine lv_aload_n hx hb dX5_turn_59 rfl (lv_at hl 0 rfl) ?_
      refine lv_iload_n hx hb dX5_turn_60 rfl (lv_at hl 2 rfl) ?_
      refine lv_aload_n hx hb dX5_turn_61 rfl (lv_at hl 0 rfl) ?_
      refine lv_iload_n hx hb dX5_turn_62 rfl (lv_at hl 2 rfl) ?_
      refine lv_aload_n hx hb dX5_turn_63 rfl (lv_at hl 0 rfl) ?_
      refine lv_iload_n hx hb dX5_turn_64 rfl (lv_at hl 2 rfl) ?_
      refine lv_iconst (v := 4) hx hb dX5_turn_65 (by decide) ?_
      refine call_VR (As := [.int (nI j), .int 4]) (rest := [.int (nI j), .ref h, .int (nI j), .ref h]) E rfl hK hP (c_X5_of_k l g h a (ttV UV cq j) UX j 4 (by omega) (by omega)) ok_X5_of rfl q3_94 [0] rfl (b_recv hK hP 0 0 rfl rfl rfl rfl) ⟨⟨rfl, rfl⟩, Nat.le_of_ble_eq_true rfl, Nat.le_of_ble_eq_true rfl⟩ hl.1 (Nat.le_of_ble_eq_true rfl) ⟨Nat.le_of_ble_eq_true rfl, Nat.le_of_ble_eq_true rfl⟩ rfl dX5_turn_66 ?_
      refine call_VR (As := [.int (nI j), .int ((ttV UV cq j) 4 j)]) (rest := [.int (nI j), .ref h]) E rfl hK hP (c_X5_rings l g h a (ttV UV cq j) UX j ((ttV UV cq j) 4 j) (cq j) (by rw [ttV_3, hUV, tpV_k _ _ (by omega)]; exact (hc _ (by omega)).1) (hc _ (by omega)).2 (by omega)) ok_X5_rings rfl q3_162 [0] rfl (b_recv hK hP 0 0 rfl rfl rfl rfl) ⟨⟨rfl, rfl⟩, Nat.le_of_ble_eq_true rfl, Nat.le_of_ble_eq_true rfl⟩ hl.1 (Nat.le_of_ble_eq_true rfl) ⟨Nat.le_of_ble_eq_true rfl, Nat.le_of_ble_eq_true rfl⟩ rfl dX5_turn_69 ?_
      refine call_VU (As := [.int (nI j), .int ((rgM (ttV UV cq j) j ((ttV UV cq j) 4 j) (cq j)).1)]) (rest := []) E rfl hK hW (c_X5_wearDown l g h a (ttV UV cq j) UX j ((rgM (ttV UV cq j) j ((ttV UV cq j) 4 j) (cq j)).1) (cq j) (by rw [ttV_3, hUV, tpV_k _ _ (by omega)]; exact (hc _ (by omega)).1) (hc _ (by omega)).2 (by omega)) ok_X5_wearDown rfl q3_190 [0] rfl (by decide) (b_recv hK hP 0 0 rfl rfl rfl rfl) ⟨⟨rfl, rfl⟩, Nat.le_of_ble_eq_true rfl, Nat.le_of_ble_eq_true rfl⟩ hl.1 (Nat.le_of_ble_eq_true rfl) ⟨Nat.le_of_ble_eq_true rfl, Nat.le_of_ble_eq_true rfl⟩ rfl dX5_turn_72 (fun _u H locs _ hW => ?_)
      have hW : wd g _ s.heap [mV g h a (wdF (ttV UV cq j) j ((rgM (ttV UV cq j) j ((ttV UV cq j) 4 j) (cq j)).1) (cq j)) UX] H locs := hW
      have hP := hW.1
      obtain ⟨U_4, hU_4⟩ : ∃ z, z = (wdF (ttV UV cq j) j ((rgM (ttV UV cq j) j ((ttV UV cq j) 4 j) (cq j)).1) (cq j)) := ⟨_, rfl⟩
      rw [← hU_4] at hW
      have hP := hW.1
      refine lv_aload_n hx hb dX5_turn_75 rfl (lv_at hl 0 rfl) ?_
      refine lv_iload_n hx hb dX5_turn_76 rfl (lv_at hl 2 rfl) ?_
      refine lv_bipush (v := 6) hx hb dX5_turn_77 (by decide) ?_
      refine lv_aload_n hx hb dX5_turn_79 rfl (lv_at hl 0 rfl) ?_
      refine lv_iload_n hx hb dX5_turn_80 rfl (lv_at hl 2 rfl) ?_
      refine lv_bipush (v := 6) hx hb dX5_turn_81 (by decide) ?_
      refine call_VR (As := [.int (nI j), .int 6]) (rest := [.int 6, .int (nI j), .ref h]) E rfl hK hP (c_X5_of_k l g h a U_4 UX j 6 (by omega) (by omega)) ok_X5_of rfl q3_94 [0] rfl (b_recv hK hP 0 0 rfl rfl rfl rfl) ⟨⟨rfl, rfl⟩, Nat.le_of_ble_eq_true rfl, Nat.le_of_ble_eq_true rfl⟩ hl.1 (Nat.le_of_ble_eq_true rfl) ⟨Nat.le_of_ble_eq_true rfl, Nat.le_of_ble_eq_true rfl⟩ rfl dX5_turn_83 ?_
      refine lv_if_le (tgt := 101) hx hb dX5_turn_86 (by decide) (fun h_5 => ?_) (fun h_5 => ?_)
      · refine lv_iconst (v := 0) hx hb dX5_turn_101 (by decide) ?_
        refine call_VU (As := [.int (nI j), .int 6, .int 0]) (rest := []) E rfl hK hW (c_X5_put_k l g h a U_4 UX j 6 0 (by omega) (by omega)) ok_X5_put rfl q3_21 [0] rfl (by decide) (b_recv hK hP 0 0 rfl rfl rfl rfl) ⟨⟨rfl, rfl⟩, Nat.le_of_ble_eq_true rfl, Nat.le_of_ble_eq_true rfl⟩ hl.1 (Nat.le_of_ble_eq_true rfl) ⟨Nat.le_of_ble_eq_true rfl, Nat.le_of_ble_eq_true rfl⟩ rfl dX5_turn_102 (fun _u H locs _ hW => ?_)
        have hW : wd g _ s.heap [mV g h a (up2 U_4 6 j 0) UX] H locs := hW
        have hP := hW.1
        refine lv_iinc (v := nI (j + 1)) (lv' := [(2, .int (nI (j + 1))), (0, .ref h), (1, .int (lnM (UX 4) 6))]) hx hb dX5_turn_105 hl (k := 2) rfl (nI_add j 1) (by decide) rfl (fun ls hl => ?_)
        refine lv_goto (tgt := 53) hx hb dX5_turn_108 (by decide) ?_
        have e_6 : ([mV g h a (ttV UV cq (j + 1)) UX] : List va_W) = [mV g h a (up2 U_4 6 j 0) UX] := by subst hU_4; first | (rw [ttV, if_pos h_5]; done) | (rw [ttV, if_neg h_5]; done)
        exact ih_j (by omega)  _ _ _ (by rw [e_6]; exact hW) (lv_sub hl [1, 2, 0] rfl) 
      · refine lv_aload_n hx hb dX5_turn_89 rfl (lv_at hl 0 rfl) ?_
        refine lv_iload_n hx hb dX5_turn_90 rfl (lv_at hl 2 rfl) ?_
        refine lv_bipush (v := 6) hx hb dX5_turn_91 (by decide) ?_
        refine call_VR (As := [.int (nI j), .int 6]) (rest := [.int 6, .int (nI j), .ref h]) E rfl hK hP (c_X5_of_k l g h a U_4 UX j 6 (by omega) (by omega)) ok_X5_of rfl q3_94 [0] rfl (b_recv hK hP 0 0 rfl rfl rfl rfl) ⟨⟨rfl, rfl⟩, Nat.le_of_ble_eq_true rfl, Nat.le_of_ble_eq_true rfl⟩ hl.1 (Nat.le_of_ble_eq_true rfl) ⟨Nat.le_of_ble_eq_true rfl, Nat.le_of_ble_eq_true rfl⟩ rfl dX5_turn_93 ?_
        refine lv_iconst (v := 1) hx hb dX5_turn_96 (by decide) ?_
        refine lv_isub hx hb dX5_turn_97 ?_
        refine lv_goto (tgt := 102) hx hb dX5_turn_98 (by decide) ?_
        refine call_VU (As := [.int (nI j), .int 6, .int ((U_4 6 j) - 1)]) (rest := []) E rfl hK hW (c_X5_put_k l g h a U_4 UX j 6 ((U_4 6 j) - 1) (by omega) (by omega)) ok_X5_put rfl q3_21 [0] rfl (by decide) (b_recv hK hP 0 0 rfl rfl rfl rfl) ⟨⟨rfl, rfl⟩, Nat.le_of_ble_eq_true rfl, Nat.le_of_ble_eq_true rfl⟩ hl.1 (Nat.le_of_ble_eq_true rfl) ⟨Nat.le_of_ble_eq_true rfl, Nat.le_of_ble_eq_true rfl⟩ rfl dX5_turn_102 (fun _u H locs _ hW => ?_)
        have hW : wd g _ s.heap [mV g h a (up2 U_4 6 j ((U_4 6 j) - 1)) UX] H locs := hW
        have hP := hW.1
        refine lv_iinc (v := nI (j + 1)) (lv' := [(2, .int (nI (j + 1))), (0, .ref h), (1, .int (lnM (UX 4) 6))]) hx hb dX5_turn_105 hl (k := 2) rfl (nI_add j 1) (by decide) rfl (fun ls hl => ?_)
        refine lv_goto (tgt := 53) hx hb dX5_turn_108 (by decide) ?_
        have e_7 : ([mV g h a (ttV UV cq (j + 1)) UX] : List va_W) = [mV g h a (up2 U_4 6 j ((U_4 6 j) - 1)) UX] := by subst hU_4; first | (rw [ttV, if_pos h_5]; done) | (rw [ttV, if_neg h_5]; done)
        exact ih_j (by omega)  _ _ _ (by rw [e_7]; exact hW) (lv_sub hl [1, 2, 0] rfl) 
  · refine lv_aload_n hx hb dX5_turn_17 rfl (lv_at hl 0 rfl) ?_
    refine lv_iload_n hx hb dX5_turn_18 rfl (lv_at hl 2 rfl) ?_
    refine call_VR (As := [.int (nI i)]) (rest := []) E rfl hK hP (c_X5_best l g h a (tpV V (UX 4) i) UX i (by omega)) ok_X5_best rfl q3_182 [0] rfl (b_recv hK hP 0 0 rfl rfl rfl rfl) ⟨⟨rfl, rfl⟩, Nat.le_of_ble_eq_true rfl, Nat.le_of_ble_eq_true rfl⟩ hl.1 (Nat.le_of_ble_eq_true rfl) ⟨Nat.le_of_ble_eq_true rfl, Nat.le_of_ble_eq_true rfl⟩ rfl dX5_turn_19 ?_
    refine lv_istore_n (lv' := [(3, .int ((bsM (tpV V (UX 4) i) (UX 4) i 6).2)), (0, .ref h), (1, .int (lnM (UX 4) 6)), (2, .int (nI i))]) hx hb dX5_turn_22 rfl hl (by decide) rfl (fun ls hl => ?_)
    refine lv_iload_n hx hb dX5_turn_23 rfl (lv_at hl 0 rfl) ?_
    refine lv_bipush (v := -5) hx hb dX5_turn_24 (by decide) ?_
    refine lv_icmp_eq (tgt := 45) hx hb dX5_turn_26 (by decide) (fun h_8 => ?_) (fun h_8 => ?_)
    · refine lv_iinc (v := nI (i + 1)) (lv' := [(2, .int (nI (i + 1))), (3, .int ((bsM (tpV V (UX 4) i) (UX 4) i 6).2)), (0, .ref h), (1, .int (lnM (UX 4) 6))]) hx hb dX5_turn_45 hl (k := 3) rfl (nI_add i 1) (by decide) rfl (fun ls hl => ?_)
      refine lv_goto (tgt := 11) hx hb dX5_turn_48 (by decide) ?_
      have e_9 : ([mV g h a (tpV V (UX 4) (i + 1)) UX] : List va_W) = [mV g h a (tpV V (UX 4) i) UX] := by first | (rw [tpV, if_pos h_8]; done) | (rw [tpV, if_neg h_8, hwe, nI_clamp (by omega)]; done)
      exact ih_i (by omega)  _ _ _ (by rw [e_9]; exact hW) (lv_sub hl [2, 3, 0] rfl) 
    · obtain ⟨w, hw, hwe⟩ := (bsM_rng (tpV V (UX 4) i) (UX 4) i 6 (Nat.le_refl _)).resolve_left h_8
      refine lv_aload_n hx hb dX5_turn_29 rfl (lv_at hl 1 rfl) ?_
      refine lv_iload_n hx hb dX5_turn_30 rfl (lv_at hl 0 rfl) ?_
      refine b_top (y := nI w) hwe ?_
      refine lv_bipush (v := 7) hx hb dX5_turn_31 (by decide) ?_
      refine lv_aload_n hx hb dX5_turn_33 rfl (lv_at hl 1 rfl) ?_
      refine lv_iload_n hx hb dX5_turn_34 rfl (lv_at hl 0 rfl) ?_
      refine b_top (y := nI w) hwe ?_
      refine lv_bipush (v := 7) hx hb dX5_turn_35 (by decide) ?_
      refine call_VR (As := [.int (nI w), .int 7]) (rest := [.int 7, .int (nI w), .ref h]) E rfl hK hP (c_X5_of_k l g h a (tpV V (UX 4) i) UX w 7 (by omega) (by omega)) ok_X5_of rfl q3_94 [0] rfl (b_recv hK hP 0 0 rfl rfl rfl rfl) ⟨⟨rfl, rfl⟩, Nat.le_of_ble_eq_true rfl, Nat.le_of_ble_eq_true rfl⟩ hl.1 (Nat.le_of_ble_eq_true rfl) ⟨Nat.le_of_ble_eq_true rfl, Nat.le_of_ble_eq_true rfl⟩ rfl dX5_turn_37 ?_
      refine lv_iconst (v := 1) hx hb dX5_turn_40 (by decide) ?_
      refine lv_iadd hx hb dX5_turn_41 ?_
      refine call_VU (As := [.int (nI w), .int 7, .int (((tpV V (UX 4) i) 7 w) + 1)]) (rest := []) E rfl hK hW (c_X5_put_k l g h a (tpV V (UX 4) i) UX w 7 (((tpV V (UX 4) i) 7 w) + 1) (by omega) (by omega)) ok_X5_put rfl q3_21 [0] rfl (by decide) (b_recv hK hP 0 0 rfl rfl rfl rfl) ⟨⟨rfl, rfl⟩, Nat.le_of_ble_eq_true rfl, Nat.le_of_ble_eq_true rfl⟩ hl.1 (Nat.le_of_ble_eq_true rfl) ⟨Nat.le_of_ble_eq_true rfl, Nat.le_of_ble_eq_true rfl⟩ rfl dX5_turn_42 (fun _u H locs _ hW => ?_)
      have hW : wd g _ s.heap [mV g h a (up2 (tpV V (UX 4) i) 7 w (((tpV V (UX 4) i) 7 w) + 1)) UX] H locs := hW
      have hP := hW.1
      refine lv_iinc (v := nI (i + 1)) (lv' := [(2, .int (nI (i + 1))), (3, .int ((bsM (tpV V (UX 4) i) (UX 4) i 6).2)), (0, .ref h), (1, .int (lnM (UX 4) 6))]) hx hb dX5_turn_45 hl (k := 3) rfl (nI_add i 1) (by decide) rfl (fun ls hl => ?_)
      refine lv_goto (tgt := 11) hx hb dX5_turn_48 (by decide) ?_
      have e_10 : ([mV g h a (tpV V (UX 4) (i + 1)) UX] : List va_W) = [mV g h a (up2 (tpV V (UX 4) i) 7 w (((tpV V (UX 4) i) 7 w) + 1)) UX] := by first | (rw [tpV, if_pos h_8]; done) | (rw [tpV, if_neg h_8, hwe, nI_clamp (by omega)]; done)
      exact ih_i (by omega)  _ _ _ (by rw [e_10]; exact hW) (lv_sub hl [2, 3, 0] rfl) 
