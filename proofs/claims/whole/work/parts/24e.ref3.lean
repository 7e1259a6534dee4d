set_option maxHeartbeats 4000000 in
set_option maxRecDepth 100000 in
theorem c_X5_plan (l : Launch) (g : gx) (h : Nat) (a : Nat → Nat) (V X : sV) (x y : Int32) (t : Nat) (n : Nat) (hn : X 9 0 = nI n) (hn5 : n ≤ 5) (hxt : isT x → x = nI t ∧ t < 6) : cU (S := Bool × sV) l g yX5_plan cX5_plan 4 (some .int) ({ frames := 3, cells := 0, slots := 0, locals := 65 } : Room) [.ref h, .int x, .int y] [mV g h a V X] (fun u => some (.int (bif u.1 then (V 4 t) else (plM V x t y)))) (fun u => bif u.1 then (plM V x t y = 0 ∧ recP V X u.2 n) else (¬ plM V x t y = 0 ∧ u.2 = X)) (fun u => [mV g h a (bif u.1 then (up2 V 4 t y) else V) u.2]) := by
  refine cU.mk (by decide +kernel) (Nat.le_of_ble_eq_true rfl) ?_
  intro p e s m below meth c ls E hK hW hl
  obtain ⟨hx, hb, hr, hml, hts, hown, hlocks, hin⟩ := id E
  have hown : s.vm.findClass RX5 = some m.cls := hown
  have hP := hW.1
  have hl : lv_has ls 4 [(0, .ref h), (1, .int x), (2, .int y)] := hl
  refine lv_iload_n hx hb dX5_plan_0 rfl (lv_at hl 1 rfl) ?_
  refine call_SR (As := [.int x]) (rest := []) E rfl hK hP (c_X5_isTown l g x) ok_X5_isTown rfl q3_88 [] rfl ⟨⟨rfl, rfl⟩, Nat.le_of_ble_eq_true rfl, Nat.le_of_ble_eq_true rfl⟩ hl.1 (Nat.le_of_ble_eq_true rfl) ⟨Nat.le_of_ble_eq_true rfl, Nat.le_of_ble_eq_true rfl⟩ rfl dX5_plan_1 ?_
  refine b_ne0 (tgt := 9) hx hb dX5_plan_4 (by decide) (fun h_1 => ?_) (fun h_1 => ?_)
  · have hT1 := h_1
    obtain ⟨rfl, ht⟩ := hxt h_1
    refine lv_aload_n hx hb dX5_plan_9 rfl (lv_at hl 0 rfl) ?_
    refine lv_iload_n hx hb dX5_plan_10 rfl (lv_at hl 1 rfl) ?_
    refine lv_iload_n hx hb dX5_plan_11 rfl (lv_at hl 2 rfl) ?_
    refine call_VR (As := [.int (nI t), .int y]) (rest := []) E rfl hK hP (c_X5_hasBells l g h a V X t y (by omega)) ok_X5_hasBells rfl q3_118 [0] rfl (b_recv hK hP 0 0 rfl rfl rfl rfl) ⟨⟨rfl, rfl⟩, Nat.le_of_ble_eq_true rfl, Nat.le_of_ble_eq_true rfl⟩ hl.1 (Nat.le_of_ble_eq_true rfl) ⟨Nat.le_of_ble_eq_true rfl, Nat.le_of_ble_eq_true rfl⟩ rfl dX5_plan_12 ?_
    refine b_ne0 (tgt := 21) hx hb dX5_plan_15 (by decide) (fun h_2 => ?_) (fun h_2 => ?_)
    · refine lv_aload_n hx hb dX5_plan_21 rfl (lv_at hl 0 rfl) ?_
      refine call_VU (As := []) (rest := []) E rfl hK hW (c_X5_record l g h a V X n hn hn5) ok_X5_record rfl q3_80 [0] rfl (by decide) (b_recv hK hP 0 0 rfl rfl rfl rfl) ⟨⟨rfl, rfl⟩, Nat.le_of_ble_eq_true rfl, Nat.le_of_ble_eq_true rfl⟩ hl.1 (Nat.le_of_ble_eq_true rfl) ⟨Nat.le_of_ble_eq_true rfl, Nat.le_of_ble_eq_true rfl⟩ rfl dX5_plan_22 (fun UR H locs hUR hW => ?_)
      have hW : wd g _ s.heap [mV g h a V UR] H locs := hW
      have hP := hW.1
      refine lv_aload_n hx hb dX5_plan_25 rfl (lv_at hl 0 rfl) ?_
      refine lv_iload_n hx hb dX5_plan_26 rfl (lv_at hl 1 rfl) ?_
      refine lv_iconst (v := 4) hx hb dX5_plan_27 (by decide) ?_
      refine call_VR (As := [.int (nI t), .int 4]) (rest := []) E rfl hK hP (c_X5_of_k l g h a V UR t 4 (by omega) (by omega)) ok_X5_of rfl q3_94 [0] rfl (b_recv hK hP 0 0 rfl rfl rfl rfl) ⟨⟨rfl, rfl⟩, Nat.le_of_ble_eq_true rfl, Nat.le_of_ble_eq_true rfl⟩ hl.1 (Nat.le_of_ble_eq_true rfl) ⟨Nat.le_of_ble_eq_true rfl, Nat.le_of_ble_eq_true rfl⟩ rfl dX5_plan_28 ?_
      refine lv_istore_n (lv' := [(3, .int (V 4 t)), (0, .ref h), (1, .int (nI t)), (2, .int y)]) hx hb dX5_plan_31 rfl hl (by decide) rfl (fun ls hl => ?_)
      refine lv_aload_n hx hb dX5_plan_32 rfl (lv_at hl 1 rfl) ?_
      refine lv_iload_n hx hb dX5_plan_33 rfl (lv_at hl 2 rfl) ?_
      refine lv_iconst (v := 4) hx hb dX5_plan_34 (by decide) ?_
      refine lv_iload_n hx hb dX5_plan_35 rfl (lv_at hl 3 rfl) ?_
      refine call_VU (As := [.int (nI t), .int 4, .int y]) (rest := []) E rfl hK hW (c_X5_put_k l g h a V UR t 4 y (by omega) (by omega)) ok_X5_put rfl q3_21 [0] rfl (by decide) (b_recv hK hP 0 0 rfl rfl rfl rfl) ⟨⟨rfl, rfl⟩, Nat.le_of_ble_eq_true rfl, Nat.le_of_ble_eq_true rfl⟩ hl.1 (Nat.le_of_ble_eq_true rfl) ⟨Nat.le_of_ble_eq_true rfl, Nat.le_of_ble_eq_true rfl⟩ rfl dX5_plan_36 (fun _u H locs _ hW => ?_)
      have hW : wd g _ s.heap [mV g h a (up2 V 4 t y) UR] H locs := hW
      have hP := hW.1
      refine lv_iload_n hx hb dX5_plan_39 rfl (lv_at hl 0 rfl) ?_
      have hE : plM V (nI t) t y = 0 := by rw [plM, if_pos hT1, if_pos h_2]
      exact uI_ret (true, UR) hW hx hb hr hlocks dX5_plan_40 (rfl) (show (plM V (nI t) t y = 0) ∧ _ from ⟨hE, hUR⟩) (by simp only [cond_true, cond_false]) (adr2 (L := [[h, a 0, a 1, a 2, a 3, a 4, a 5, a 6, a 7, a 8]]) rfl rfl)
    · refine lv_bipush (v := -2) hx hb dX5_plan_18 (by decide) ?_
      have hE : plM V (nI t) t y = -2 := by rw [plM, if_pos hT1, if_neg h_2]
      exact uI_ret (false, X) hW hx hb hr hlocks dX5_plan_20 (hE.symm) (show (¬ plM V (nI t) t y = 0) ∧ (X = X) from ⟨by rw [hE]; decide, rfl⟩) (by simp only [cond_true, cond_false]) (adr2 (L := [[h, a 0, a 1, a 2, a 3, a 4, a 5, a 6, a 7, a 8]]) rfl rfl)
  · refine lv_iconst (v := -1) hx hb dX5_plan_7 (by decide) ?_
    have hE : plM V x t y = -1 := by rw [plM, if_neg h_1]
    exact uI_ret (false, X) hW hx hb hr hlocks dX5_plan_8 (hE.symm) (show (¬ plM V x t y = 0) ∧ (X = X) from ⟨by rw [hE]; decide, rfl⟩) (by simp only [cond_true, cond_false]) (adr2 (L := [[h, a 0, a 1, a 2, a 3, a 4, a 5, a 6, a 7, a 8]]) rfl rfl)

set_option maxHeartbeats 4000000 in
set_option maxRecDepth 100000 in
theorem c_X5_splice (l : Launch) (g : gx) (h : Nat) (a : Nat → Nat) (V X : sV) (x y : Int32) (t b c0 : Nat) (n : Nat) (hn : X 9 0 = nI n) (hn5 : n ≤ 5) (hxy : hasB V x y → x = nI t ∧ t < 6 ∧ y = nI b ∧ b < 5) (hxt : isT x → x = nI t ∧ t < 6) (hc : t < 6 → V 3 t = nI c0 ∧ c0 ≤ 5) : cU (S := Bool × sV) l g yX5_splice cX5_splice 3 (some .int) ({ frames := 3, cells := 0, slots := 0, locals := 64 } : Room) [.ref h, .int x, .int y] [mV g h a V X] (fun u => some (.int (bif u.1 then (V 10 (t * 5 + b)) else (spM V x y t b)))) (fun u => bif u.1 then (spM V x y t b = 0 ∧ recP V X u.2 n) else (¬ spM V x y t b = 0 ∧ u.2 = X)) (fun u => [mV g h a (bif u.1 then (up2 (up2 V 10 (t * 5 + b) 0) 2 t (V 2 t + 2)) else V) u.2]) := by
  refine cU.mk (by decide +kernel) (Nat.le_of_ble_eq_true rfl) ?_
  intro p e s m below meth c ls E hK hW hl
  obtain ⟨hx, hb, hr, hml, hts, hown, hlocks, hin⟩ := id E
  have hown : s.vm.findClass RX5 = some m.cls := hown
  have hP := hW.1
  have hl : lv_has ls 3 [(0, .ref h), (1, .int x), (2, .int y)] := hl
  refine lv_aload_n hx hb dX5_splice_0 rfl (lv_at hl 0 rfl) ?_
  refine lv_iload_n hx hb dX5_splice_1 rfl (lv_at hl 1 rfl) ?_
  refine lv_iload_n hx hb dX5_splice_2 rfl (lv_at hl 2 rfl) ?_
  refine call_VR (As := [.int x, .int y]) (rest := []) E rfl hK hP (c_X5_isBell l g h a V X x y t c0 hxt hc) ok_X5_isBell rfl q3_102 [0] rfl (b_recv hK hP 0 0 rfl rfl rfl rfl) ⟨⟨rfl, rfl⟩, Nat.le_of_ble_eq_true rfl, Nat.le_of_ble_eq_true rfl⟩ hl.1 (Nat.le_of_ble_eq_true rfl) ⟨Nat.le_of_ble_eq_true rfl, Nat.le_of_ble_eq_true rfl⟩ rfl dX5_splice_3 ?_
  refine b_ne0 (tgt := 11) hx hb dX5_splice_6 (by decide) (fun h_1 => ?_) (fun h_1 => ?_)
  · have hHB := h_1
    obtain ⟨rfl, ht, rfl, hb5⟩ := hxy h_1
    refine lv_aload_n hx hb dX5_splice_11 rfl (lv_at hl 0 rfl) ?_
    refine lv_iload_n hx hb dX5_splice_12 rfl (lv_at hl 1 rfl) ?_
    refine lv_iload_n hx hb dX5_splice_13 rfl (lv_at hl 2 rfl) ?_
    refine call_VR (As := [.int (nI t), .int (nI b)]) (rest := []) E rfl hK hP (c_X5_canSplice l g h a V X t b (by omega) (by omega)) ok_X5_canSplice rfl q3_130 [0] rfl (b_recv hK hP 0 0 rfl rfl rfl rfl) ⟨⟨rfl, rfl⟩, Nat.le_of_ble_eq_true rfl, Nat.le_of_ble_eq_true rfl⟩ hl.1 (Nat.le_of_ble_eq_true rfl) ⟨Nat.le_of_ble_eq_true rfl, Nat.le_of_ble_eq_true rfl⟩ rfl dX5_splice_14 ?_
    refine b_ne0 (tgt := 23) hx hb dX5_splice_17 (by decide) (fun h_2 => ?_) (fun h_2 => ?_)
    · refine lv_aload_n hx hb dX5_splice_23 rfl (lv_at hl 0 rfl) ?_
      refine call_VU (As := []) (rest := []) E rfl hK hW (c_X5_record l g h a V X n hn hn5) ok_X5_record rfl q3_80 [0] rfl (by decide) (b_recv hK hP 0 0 rfl rfl rfl rfl) ⟨⟨rfl, rfl⟩, Nat.le_of_ble_eq_true rfl, Nat.le_of_ble_eq_true rfl⟩ hl.1 (Nat.le_of_ble_eq_true rfl) ⟨Nat.le_of_ble_eq_true rfl, Nat.le_of_ble_eq_true rfl⟩ rfl dX5_splice_24 (fun UR H locs hUR hW => ?_)
      have hW : wd g _ s.heap [mV g h a V UR] H locs := hW
      have hP := hW.1
      refine lv_aload_n hx hb dX5_splice_27 rfl (lv_at hl 0 rfl) ?_
      refine lv_iload_n hx hb dX5_splice_28 rfl (lv_at hl 1 rfl) ?_
      refine lv_iload_n hx hb dX5_splice_29 rfl (lv_at hl 2 rfl) ?_
      refine call_VU (As := [.int (nI t), .int (nI b)]) (rest := []) E rfl hK hW (c_X5_spliceNow l g h a V UR t b (by omega) (by omega)) ok_X5_spliceNow rfl q3_134 [0] rfl (by decide) (b_recv hK hP 0 0 rfl rfl rfl rfl) ⟨⟨rfl, rfl⟩, Nat.le_of_ble_eq_true rfl, Nat.le_of_ble_eq_true rfl⟩ hl.1 (Nat.le_of_ble_eq_true rfl) ⟨Nat.le_of_ble_eq_true rfl, Nat.le_of_ble_eq_true rfl⟩ rfl dX5_splice_30 (fun _u H locs _ hW => ?_)
      have hW : wd g _ s.heap [mV g h a (up2 (up2 V 10 (t * 5 + b) 0) 2 t (V 2 t + 2)) UR] H locs := hW
      have hP := hW.1
      have hE : spM V (nI t) (nI b) t b = 0 := by rw [spM, if_pos hHB, if_pos h_2]
      exact uI_ret (true, UR) hW hx hb hr hlocks dX5_splice_33 (rfl) (show (spM V (nI t) (nI b) t b = 0) ∧ _ from ⟨hE, hUR⟩) (by simp only [cond_true, cond_false]) (adr2 (L := [[h, a 0, a 1, a 2, a 3, a 4, a 5, a 6, a 7, a 8]]) rfl rfl)
    · refine lv_bipush (v := -4) hx hb dX5_splice_20 (by decide) ?_
      have hE : spM V (nI t) (nI b) t b = -4 := by rw [spM, if_pos hHB, if_neg h_2]
      exact uI_ret (false, X) hW hx hb hr hlocks dX5_splice_22 (hE.symm) (show (¬ spM V (nI t) (nI b) t b = 0) ∧ (X = X) from ⟨by rw [hE]; decide, rfl⟩) (by simp only [cond_true, cond_false]) (adr2 (L := [[h, a 0, a 1, a 2, a 3, a 4, a 5, a 6, a 7, a 8]]) rfl rfl)
  · refine lv_iconst (v := -1) hx hb dX5_splice_9 (by decide) ?_
    have hE : spM V x y t b = -1 := by rw [spM, if_neg h_1]
    exact uI_ret (false, X) hW hx hb hr hlocks dX5_splice_10 (hE.symm) (show (¬ spM V x y t b = 0) ∧ (X = X) from ⟨by rw [hE]; decide, rfl⟩) (by simp only [cond_true, cond_false]) (adr2 (L := [[h, a 0, a 1, a 2, a 3, a 4, a 5, a 6, a 7, a 8]]) rfl rfl)

set_option maxHeartbeats 4000000 in
set_option maxRecDepth 100000 in
theorem c_X5_feast (l : Launch) (g : gx) (h : Nat) (a : Nat → Nat) (V X : sV) (x d : Int32) (t : Nat) (n : Nat) (hn : X 9 0 = nI n) (hn5 : n ≤ 5) (hxt : isT x → x = nI t ∧ t < 6) : cU (S := Bool × sV) l g yX5_feast cX5_feast 4 (some .int) ({ frames := 2, cells := 0, slots := 0, locals := 42 } : Room) [.ref h, .int x, .int d] [mV g h a V X] (fun u => some (.int (bif u.1 then (V 5 t) else (feM x d)))) (fun u => bif u.1 then (feM x d = 0 ∧ recP V X u.2 n) else (¬ feM x d = 0 ∧ u.2 = X)) (fun u => [mV g h a (bif u.1 then (up2 V 5 t d) else V) u.2]) := by
  refine cU.mk (by decide +kernel) (Nat.le_of_ble_eq_true rfl) ?_
  intro p e s m below meth c ls E hK hW hl
  obtain ⟨hx, hb, hr, hml, hts, hown, hlocks, hin⟩ := id E
  have hown : s.vm.findClass RX5 = some m.cls := hown
  have hP := hW.1
  have hl : lv_has ls 4 [(0, .ref h), (1, .int x), (2, .int d)] := hl
  refine lv_iload_n hx hb dX5_feast_0 rfl (lv_at hl 1 rfl) ?_
  refine call_SR (As := [.int x]) (rest := []) E rfl hK hP (c_X5_isTown l g x) ok_X5_isTown rfl q3_88 [] rfl ⟨⟨rfl, rfl⟩, Nat.le_of_ble_eq_true rfl, Nat.le_of_ble_eq_true rfl⟩ hl.1 (Nat.le_of_ble_eq_true rfl) ⟨Nat.le_of_ble_eq_true rfl, Nat.le_of_ble_eq_true rfl⟩ rfl dX5_feast_1 ?_
  refine b_ne0 (tgt := 9) hx hb dX5_feast_4 (by decide) (fun h_1 => ?_) (fun h_1 => ?_)
  · have hT1 := h_1
    obtain ⟨rfl, ht⟩ := hxt h_1
    refine lv_iload_n hx hb dX5_feast_9 rfl (lv_at hl 2 rfl) ?_
    refine lv_iconst (v := 0) hx hb dX5_feast_10 (by decide) ?_
    refine lv_bipush (v := 6) hx hb dX5_feast_11 (by decide) ?_
    refine call_SR (As := [.int d, .int 0, .int 6]) (rest := []) E rfl hK hP (c_X5_in l g d 0 6) ok_X5_in rfl q3_91 [] rfl ⟨⟨rfl, rfl⟩, Nat.le_of_ble_eq_true rfl, Nat.le_of_ble_eq_true rfl⟩ hl.1 (Nat.le_of_ble_eq_true rfl) ⟨Nat.le_of_ble_eq_true rfl, Nat.le_of_ble_eq_true rfl⟩ rfl dX5_feast_13 ?_
    refine b_ne0 (tgt := 22) hx hb dX5_feast_16 (by decide) (fun h_2 => ?_) (fun h_2 => ?_)
    · refine lv_aload_n hx hb dX5_feast_22 rfl (lv_at hl 0 rfl) ?_
      refine call_VU (As := []) (rest := []) E rfl hK hW (c_X5_record l g h a V X n hn hn5) ok_X5_record rfl q3_80 [0] rfl (by decide) (b_recv hK hP 0 0 rfl rfl rfl rfl) ⟨⟨rfl, rfl⟩, Nat.le_of_ble_eq_true rfl, Nat.le_of_ble_eq_true rfl⟩ hl.1 (Nat.le_of_ble_eq_true rfl) ⟨Nat.le_of_ble_eq_true rfl, Nat.le_of_ble_eq_true rfl⟩ rfl dX5_feast_23 (fun UR H locs hUR hW => ?_)
      have hW : wd g _ s.heap [mV g h a V UR] H locs := hW
      have hP := hW.1
      refine lv_aload_n hx hb dX5_feast_26 rfl (lv_at hl 0 rfl) ?_
      refine lv_iload_n hx hb dX5_feast_27 rfl (lv_at hl 1 rfl) ?_
      refine lv_iconst (v := 5) hx hb dX5_feast_28 (by decide) ?_
      refine call_VR (As := [.int (nI t), .int 5]) (rest := []) E rfl hK hP (c_X5_of_k l g h a V UR t 5 (by omega) (by omega)) ok_X5_of rfl q3_94 [0] rfl (b_recv hK hP 0 0 rfl rfl rfl rfl) ⟨⟨rfl, rfl⟩, Nat.le_of_ble_eq_true rfl, Nat.le_of_ble_eq_true rfl⟩ hl.1 (Nat.le_of_ble_eq_true rfl) ⟨Nat.le_of_ble_eq_true rfl, Nat.le_of_ble_eq_true rfl⟩ rfl dX5_feast_29 ?_
      refine lv_istore_n (lv' := [(3, .int (V 5 t)), (0, .ref h), (1, .int (nI t)), (2, .int d)]) hx hb dX5_feast_32 rfl hl (by decide) rfl (fun ls hl => ?_)
      refine lv_aload_n hx hb dX5_feast_33 rfl (lv_at hl 1 rfl) ?_
      refine lv_iload_n hx hb dX5_feast_34 rfl (lv_at hl 2 rfl) ?_
      refine lv_iconst (v := 5) hx hb dX5_feast_35 (by decide) ?_
      refine lv_iload_n hx hb dX5_feast_36 rfl (lv_at hl 3 rfl) ?_
      refine call_VU (As := [.int (nI t), .int 5, .int d]) (rest := []) E rfl hK hW (c_X5_put_k l g h a V UR t 5 d (by omega) (by omega)) ok_X5_put rfl q3_21 [0] rfl (by decide) (b_recv hK hP 0 0 rfl rfl rfl rfl) ⟨⟨rfl, rfl⟩, Nat.le_of_ble_eq_true rfl, Nat.le_of_ble_eq_true rfl⟩ hl.1 (Nat.le_of_ble_eq_true rfl) ⟨Nat.le_of_ble_eq_true rfl, Nat.le_of_ble_eq_true rfl⟩ rfl dX5_feast_37 (fun _u H locs _ hW => ?_)
      have hW : wd g _ s.heap [mV g h a (up2 V 5 t d) UR] H locs := hW
      have hP := hW.1
      refine lv_iload_n hx hb dX5_feast_40 rfl (lv_at hl 0 rfl) ?_
      have hE : feM (nI t) d = 0 := by rw [feM, if_pos hT1, if_pos h_2]
      exact uI_ret (true, UR) hW hx hb hr hlocks dX5_feast_41 (rfl) (show (feM (nI t) d = 0) ∧ _ from ⟨hE, hUR⟩) (by simp only [cond_true, cond_false]) (adr2 (L := [[h, a 0, a 1, a 2, a 3, a 4, a 5, a 6, a 7, a 8]]) rfl rfl)
    · refine lv_bipush (v := -2) hx hb dX5_feast_19 (by decide) ?_
      have hE : feM (nI t) d = -2 := by rw [feM, if_pos hT1, if_neg h_2]
      exact uI_ret (false, X) hW hx hb hr hlocks dX5_feast_21 (hE.symm) (show (¬ feM (nI t) d = 0) ∧ (X = X) from ⟨by rw [hE]; decide, rfl⟩) (by simp only [cond_true, cond_false]) (adr2 (L := [[h, a 0, a 1, a 2, a 3, a 4, a 5, a 6, a 7, a 8]]) rfl rfl)
  · refine lv_iconst (v := -1) hx hb dX5_feast_7 (by decide) ?_
    have hE : feM x d = -1 := by rw [feM, if_neg h_1]
    exact uI_ret (false, X) hW hx hb hr hlocks dX5_feast_8 (hE.symm) (show (¬ feM x d = 0) ∧ (X = X) from ⟨by rw [hE]; decide, rfl⟩) (by simp only [cond_true, cond_false]) (adr2 (L := [[h, a 0, a 1, a 2, a 3, a 4, a 5, a 6, a 7, a 8]]) rfl rfl)
