set_option maxHeartbeats 4000000 in
set_option maxRecDepth 100000 in
theorem c_X5_winner (l : Launch) (g : gx) (h : Nat) (a : Nat → Nat) (V X : sV) (x : Int32) (t : Nat) (cq : Nat → Nat) (hc : ∀ t, t < 6 → V 3 t = nI (cq t) ∧ cq t ≤ 5) (hxt : isT x → x = nI t ∧ t < 6) : cU (S := sV) l g yX5_winner cX5_winner 2 (some .int) ({ frames := 5, cells := 0, slots := 0, locals := 112 } : Room) [.ref h, .int x] [mV g h a V X] (fun u => some (.int (if isT x then (bsM V (liX V cq X 6 4) t 6).2 else -1))) (fun u => ∀ k9, k9 ≠ 4 → u k9 = X k9) (fun u => [mV g h a V u]) := by
  refine cU.mk (by decide +kernel) (Nat.le_of_ble_eq_true rfl) ?_
  intro p e s m below meth c ls E hK hW hl
  obtain ⟨hx, hb, hr, hml, hts, hown, hlocks, hin⟩ := id E
  have hown : s.vm.findClass RX5 = some m.cls := hown
  have hP := hW.1
  have hl : lv_has ls 2 [(0, .ref h), (1, .int x)] := hl
  refine lv_iload_n hx hb dX5_winner_0 rfl (lv_at hl 1 rfl) ?_
  refine call_SR (As := [.int x]) (rest := []) E rfl hK hP (c_X5_isTown l g x) ok_X5_isTown rfl q3_88 [] rfl ⟨⟨rfl, rfl⟩, Nat.le_of_ble_eq_true rfl, Nat.le_of_ble_eq_true rfl⟩ hl.1 (Nat.le_of_ble_eq_true rfl) ⟨Nat.le_of_ble_eq_true rfl, Nat.le_of_ble_eq_true rfl⟩ rfl dX5_winner_1 ?_
  refine b_ne0 (tgt := 9) hx hb dX5_winner_4 (by decide) (fun h_1 => ?_) (fun h_1 => ?_)
  · have hT1 := h_1
    obtain ⟨rfl, ht⟩ := hxt h_1
    refine lv_aload_n hx hb dX5_winner_9 rfl (lv_at hl 0 rfl) ?_
    refine call_VU (As := []) (rest := []) E rfl hK hW (c_X5_listen l g h a V X cq hc) ok_X5_listen rfl q3_158 [0] rfl (by decide) (b_recv hK hP 0 0 rfl rfl rfl rfl) ⟨⟨rfl, rfl⟩, Nat.le_of_ble_eq_true rfl, Nat.le_of_ble_eq_true rfl⟩ hl.1 (Nat.le_of_ble_eq_true rfl) ⟨Nat.le_of_ble_eq_true rfl, Nat.le_of_ble_eq_true rfl⟩ rfl dX5_winner_10 (fun _u H locs _ hW => ?_)
    have hW : wd g _ s.heap [mV g h a V (liX V cq X 6)] H locs := hW
    have hP := hW.1
    obtain ⟨U_2, hU_2⟩ : ∃ z, z = (liX V cq X 6) := ⟨_, rfl⟩
    rw [← hU_2] at hW
    have hP := hW.1
    refine lv_aload_n hx hb dX5_winner_13 rfl (lv_at hl 0 rfl) ?_
    refine lv_iload_n hx hb dX5_winner_14 rfl (lv_at hl 1 rfl) ?_
    refine call_VR (As := [.int (nI t)]) (rest := []) E rfl hK hP (c_X5_best l g h a V U_2 t (by omega)) ok_X5_best rfl q3_182 [0] rfl (b_recv hK hP 0 0 rfl rfl rfl rfl) ⟨⟨rfl, rfl⟩, Nat.le_of_ble_eq_true rfl, Nat.le_of_ble_eq_true rfl⟩ hl.1 (Nat.le_of_ble_eq_true rfl) ⟨Nat.le_of_ble_eq_true rfl, Nat.le_of_ble_eq_true rfl⟩ rfl dX5_winner_15 ?_
    exact uI_ret U_2 hW hx hb hr hlocks dX5_winner_18 (by rw [if_pos hT1, hU_2]) (fun k9 h9 => by rw [hU_2]; exact liX_k _ _ _ h9 _) (by exact rfl) (adr2 (L := [[h, a 0, a 1, a 2, a 3, a 4, a 5, a 6, a 7, a 8]]) rfl rfl)
  · refine lv_iconst (v := -1) hx hb dX5_winner_7 (by decide) ?_
    exact uI_ret X hW hx hb hr hlocks dX5_winner_8 (by rw [if_neg h_1]) (fun _ _ => rfl) (by exact rfl) (adr2 (L := [[h, a 0, a 1, a 2, a 3, a 4, a 5, a 6, a 7, a 8]]) rfl rfl)

set_option maxHeartbeats 4000000 in
set_option maxRecDepth 100000 in
theorem c_X5_pointsWith (l : Launch) (g : gx) (h : Nat) (a : Nat → Nat) (V X : sV) (t : Nat) (pl : Int32) (cq : Nat → Nat) (hc : ∀ t, t < 6 → V 3 t = nI (cq t) ∧ cq t ≤ 5) (ht : t < 6) : cU (S := Unit) l g yX5_pointsWith cX5_pointsWith 5 (some .int) ({ frames := 5, cells := 0, slots := 0, locals := 112 } : Room) [.ref h, .int (nI t), .int pl] [mV g h a V X] (fun _ => some (.int (pwM V (pwX V cq X t pl 4) t 6))) (fun _ => True) (fun _ => [mV g h a V (pwX V cq X t pl)]) := by
  refine cU.mk (by decide +kernel) (Nat.le_of_ble_eq_true rfl) ?_
  intro p e s m below meth c ls E hK hW hl
  obtain ⟨hx, hb, hr, hml, hts, hown, hlocks, hin⟩ := id E
  have hown : s.vm.findClass RX5 = some m.cls := hown
  have hP := hW.1
  have hl : lv_has ls 5 [(0, .ref h), (1, .int (nI t)), (2, .int pl)] := hl
  refine lv_aload_n hx hb dX5_pointsWith_0 rfl (lv_at hl 0 rfl) ?_
  refine call_VU (As := []) (rest := []) E rfl hK hW (c_X5_listen l g h a V X cq hc) ok_X5_listen rfl q3_158 [0] rfl (by decide) (b_recv hK hP 0 0 rfl rfl rfl rfl) ⟨⟨rfl, rfl⟩, Nat.le_of_ble_eq_true rfl, Nat.le_of_ble_eq_true rfl⟩ hl.1 (Nat.le_of_ble_eq_true rfl) ⟨Nat.le_of_ble_eq_true rfl, Nat.le_of_ble_eq_true rfl⟩ rfl dX5_pointsWith_1 (fun _u H locs _ hW => ?_)
  have hW : wd g _ s.heap [mV g h a V (liX V cq X 6)] H locs := hW
  have hP := hW.1
  obtain ⟨U_1, hU_1⟩ : ∃ z, z = (liX V cq X 6) := ⟨_, rfl⟩
  rw [← hU_1] at hW
  have hP := hW.1
  refine lv_aload_n hx hb dX5_pointsWith_4 rfl (lv_at hl 0 rfl) ?_
  refine b_get (v := .ref (a 4)) hx hb hts inX5 hown hK hP 0 0 6 rfl rfl rfl (by decide) q3_31 rfl rfl dX5_pointsWith_5 ?_
  refine lv_iload_n hx hb dX5_pointsWith_8 rfl (lv_at hl 1 rfl) ?_
  refine lv_aload_n hx hb dX5_pointsWith_9 rfl (lv_at hl 0 rfl) ?_
  refine lv_iload_n hx hb dX5_pointsWith_10 rfl (lv_at hl 1 rfl) ?_
  refine lv_aload_n hx hb dX5_pointsWith_11 rfl (lv_at hl 0 rfl) ?_
  refine lv_iload_n hx hb dX5_pointsWith_12 rfl (lv_at hl 1 rfl) ?_
  refine lv_iload_n hx hb dX5_pointsWith_13 rfl (lv_at hl 2 rfl) ?_
  refine call_VR (As := [.int (nI t), .int pl]) (rest := [.int (nI t), .ref h, .int (nI t), .ref (a 4)]) E rfl hK hP (c_X5_rings l g h a V U_1 t pl (cq t) (hc _ (by omega)).1 (hc _ (by omega)).2 (by omega)) ok_X5_rings rfl q3_162 [0] rfl (b_recv hK hP 0 0 rfl rfl rfl rfl) ⟨⟨rfl, rfl⟩, Nat.le_of_ble_eq_true rfl, Nat.le_of_ble_eq_true rfl⟩ hl.1 (Nat.le_of_ble_eq_true rfl) ⟨Nat.le_of_ble_eq_true rfl, Nat.le_of_ble_eq_true rfl⟩ rfl dX5_pointsWith_14 ?_
  refine call_VR (As := [.int (nI t), .int ((rgM V t pl (cq t)).1)]) (rest := [.int (nI t), .ref (a 4)]) E rfl hK hP (c_X5_loudnessOf l g h a V U_1 t ((rgM V t pl (cq t)).1) (cq t) (hc _ (by omega)).1 (hc _ (by omega)).2 (by omega)) ok_X5_loudnessOf rfl q3_174 [0] rfl (b_recv hK hP 0 0 rfl rfl rfl rfl) ⟨⟨rfl, rfl⟩, Nat.le_of_ble_eq_true rfl, Nat.le_of_ble_eq_true rfl⟩ hl.1 (Nat.le_of_ble_eq_true rfl) ⟨Nat.le_of_ble_eq_true rfl, Nat.le_of_ble_eq_true rfl⟩ rfl dX5_pointsWith_17 ?_
  refine b_iast (B' := [mV g h a V (up2 U_1 4 t (lsM V t ((rgM V t pl (cq t)).1) (cq t)))]) hx hb hK hW 0 5 (t) rfl rfl rfl (by omega) rfl rfl dX5_pointsWith_20 (fun H locs hW => ?_)
  have hP := hW.1
  obtain ⟨XP, hXP⟩ : ∃ z, z = (up2 U_1 4 t (lsM V t ((rgM V t pl (cq t)).1) (cq t))) := ⟨_, rfl⟩
  rw [← hXP] at hW
  have hP := hW.1
  refine lv_iconst (v := 0) hx hb dX5_pointsWith_21 (by decide) ?_
  refine lv_istore_n (lv' := [(3, .int 0), (0, .ref h), (1, .int (nI t)), (2, .int pl)]) hx hb dX5_pointsWith_22 rfl hl (by decide) rfl (fun ls hl => ?_)
  refine lv_iconst (v := 0) hx hb dX5_pointsWith_23 (by decide) ?_
  refine lv_istore (lv' := [(4, .int 0), (3, .int 0), (0, .ref h), (1, .int (nI t)), (2, .int pl)]) hx hb dX5_pointsWith_24 hl (by decide) rfl (fun ls hl => ?_)
  refine loopN (fun i : Nat => ∀ (H : Heap) (locs : List Loc) (ls : Array Slot), wd g (fun z9 => z9 ∈ adr [mV g h a V X]) s.heap [mV g h a V XP] H locs → lv_has ls 5 [(0, .ref h), (1, .int (nI t)), (3, .int (pwM V (XP 4) t i)), (4, .int (nI i))] → W p l e _ s m _ below meth c H locs 0 0 _ (F0 m 26 ls [])) (6) (fun i hi ih_i => ?_) (0) (by omega)  H locs ls hW (lv_sub hl [2, 3, 1, 0] rfl) 
  intro  H locs ls hW hl 
  have hP := hW.1
  refine lv_iload hx hb dX5_pointsWith_26 (lv_at hl 3 rfl) ?_
  refine lv_bipush (v := 6) hx hb dX5_pointsWith_28 (by decide) ?_
  refine b_ge (tgt := 57) (i) (6) hx hb rfl rfl (by omega) (by omega) dX5_pointsWith_30 (by decide) (fun h_2 => ?_) (fun h_2 => ?_)
  · obtain rfl : i = 6 := by omega
    refine lv_iload_n hx hb dX5_pointsWith_57 rfl (lv_at hl 2 rfl) ?_
    exact uI_ret () hW hx hb hr hlocks dX5_pointsWith_58 (by rw [hXP, hU_1]) trivial (by rw [hXP, hU_1]) (adr2 (L := [[h, a 0, a 1, a 2, a 3, a 4, a 5, a 6, a 7, a 8]]) rfl rfl)
  · refine lv_iload_n hx hb dX5_pointsWith_33 rfl (lv_at hl 2 rfl) ?_
    refine lv_aload_n hx hb dX5_pointsWith_34 rfl (lv_at hl 0 rfl) ?_
    refine lv_iload hx hb dX5_pointsWith_35 (lv_at hl 3 rfl) ?_
    refine call_VR (As := [.int (nI i)]) (rest := [.int (pwM V (XP 4) t i)]) E rfl hK hP (c_X5_best l g h a V XP i (by omega)) ok_X5_best rfl q3_182 [0] rfl (b_recv hK hP 0 0 rfl rfl rfl rfl) ⟨⟨rfl, rfl⟩, Nat.le_of_ble_eq_true rfl, Nat.le_of_ble_eq_true rfl⟩ hl.1 (Nat.le_of_ble_eq_true rfl) ⟨Nat.le_of_ble_eq_true rfl, Nat.le_of_ble_eq_true rfl⟩ rfl dX5_pointsWith_37 ?_
    refine lv_iload_n hx hb dX5_pointsWith_40 rfl (lv_at hl 1 rfl) ?_
    refine lv_icmp_ne (tgt := 48) hx hb dX5_pointsWith_41 (by decide) (fun h_3 => ?_) (fun h_3 => ?_)
    · refine lv_iconst (v := 0) hx hb dX5_pointsWith_48 (by decide) ?_
      refine lv_iadd hx hb dX5_pointsWith_49 ?_
      refine lv_istore_n (lv' := [(3, .int ((pwM V (XP 4) t i) + 0)), (0, .ref h), (1, .int (nI t)), (4, .int (nI i))]) hx hb dX5_pointsWith_50 rfl hl (by decide) rfl (fun ls hl => ?_)
      refine lv_iinc (v := nI (i + 1)) (lv' := [(4, .int (nI (i + 1))), (3, .int ((pwM V (XP 4) t i) + 0)), (0, .ref h), (1, .int (nI t))]) hx hb dX5_pointsWith_51 hl (k := 3) rfl (nI_add i 1) (by decide) rfl (fun ls hl => ?_)
      refine lv_goto (tgt := 26) hx hb dX5_pointsWith_54 (by decide) ?_
      have e_4 : pwM V (XP 4) t (i + 1) = (pwM V (XP 4) t i) + 0 := by first | (rw [pwM, if_pos h_3]; done) | (rw [pwM, if_neg h_3]; done)
      exact ih_i (by omega)  _ _ _ hW (by rw [e_4]; exact lv_sub hl [2, 3, 1, 0] rfl) 
    · refine lv_iconst (v := 1) hx hb dX5_pointsWith_44 (by decide) ?_
      refine lv_goto (tgt := 49) hx hb dX5_pointsWith_45 (by decide) ?_
      refine lv_iadd hx hb dX5_pointsWith_49 ?_
      refine lv_istore_n (lv' := [(3, .int ((pwM V (XP 4) t i) + 1)), (0, .ref h), (1, .int (nI t)), (4, .int (nI i))]) hx hb dX5_pointsWith_50 rfl hl (by decide) rfl (fun ls hl => ?_)
      refine lv_iinc (v := nI (i + 1)) (lv' := [(4, .int (nI (i + 1))), (3, .int ((pwM V (XP 4) t i) + 1)), (0, .ref h), (1, .int (nI t))]) hx hb dX5_pointsWith_51 hl (k := 3) rfl (nI_add i 1) (by decide) rfl (fun ls hl => ?_)
      refine lv_goto (tgt := 26) hx hb dX5_pointsWith_54 (by decide) ?_
      have e_5 : pwM V (XP 4) t (i + 1) = (pwM V (XP 4) t i) + 1 := by first | (rw [pwM, if_pos h_3]; done) | (rw [pwM, if_neg h_3]; done)
      exact ih_i (by omega)  _ _ _ hW (by rw [e_5]; exact lv_sub hl [2, 3, 1, 0] rfl) 
