set_option maxHeartbeats 4000000 in
set_option maxRecDepth 100000 in
theorem c_X5_town_o (l : Launch) (g : gx) (h : Nat) (a : Nat → Nat) (V X : sV) (x w : Int32) (t : Nat) (hxt : isT x → x = nI t ∧ t < 6) (hw : ¬ inI w 0 8) : cR l g yX5_town cX5_town 3 (some .int) ({ frames := 2, cells := 0, slots := 0, locals := 42 } : Room) [.ref h, .int x, .int w] [mV g h a V X] (.int (if isT x then -2 else -1)) := by
  refine cR.mk (by decide +kernel) (Nat.le_of_ble_eq_true rfl) ?_
  intro p e s m below meth c ls E hK hP hl
  obtain ⟨hx, hb, hr, hml, hts, hown, hlocks, hin⟩ := id E
  have hown : s.vm.findClass RX5 = some m.cls := hown
  have hl : lv_has ls 3 [(0, .ref h), (1, .int x), (2, .int w)] := hl
  refine lv_iload_n hx hb dX5_town_0 rfl (lv_at hl 1 rfl) ?_
  refine call_SR (As := [.int x]) (rest := []) E rfl hK hP (c_X5_isTown l g x) ok_X5_isTown rfl q3_88 [] rfl ⟨⟨rfl, rfl⟩, Nat.le_of_ble_eq_true rfl, Nat.le_of_ble_eq_true rfl⟩ hl.1 (Nat.le_of_ble_eq_true rfl) ⟨Nat.le_of_ble_eq_true rfl, Nat.le_of_ble_eq_true rfl⟩ rfl dX5_town_1 ?_
  refine b_ne0 (tgt := 9) hx hb dX5_town_4 (by decide) (fun h_1 => ?_) (fun h_1 => ?_)
  · have hT1 := h_1
    obtain ⟨rfl, ht⟩ := hxt h_1
    refine lv_iload_n hx hb dX5_town_9 rfl (lv_at hl 2 rfl) ?_
    refine lv_iconst (v := 0) hx hb dX5_town_10 (by decide) ?_
    refine lv_bipush (v := 8) hx hb dX5_town_11 (by decide) ?_
    refine call_SR (As := [.int w, .int 0, .int 8]) (rest := []) E rfl hK hP (c_X5_in l g w 0 8) ok_X5_in rfl q3_91 [] rfl ⟨⟨rfl, rfl⟩, Nat.le_of_ble_eq_true rfl, Nat.le_of_ble_eq_true rfl⟩ hl.1 (Nat.le_of_ble_eq_true rfl) ⟨Nat.le_of_ble_eq_true rfl, Nat.le_of_ble_eq_true rfl⟩ rfl dX5_town_13 ?_
    refine b_eq0 (tgt := 28) hx hb dX5_town_16 (by decide) (fun h_2 => ?_) (fun h_2 => ?_)
    · refine lv_bipush (v := -2) hx hb dX5_town_28 (by decide) ?_
      exact rI_ret hx hb hr hlocks dX5_town_30 (by rw [if_pos hT1])
    · exact absurd h_2 hw
  · refine lv_iconst (v := -1) hx hb dX5_town_7 (by decide) ?_
    exact rI_ret hx hb hr hlocks dX5_town_8 (by rw [if_neg h_1])

set_option maxHeartbeats 4000000 in
set_option maxRecDepth 100000 in
theorem c_X5_town_i (l : Launch) (g : gx) (h : Nat) (a : Nat → Nat) (V X : sV) (x : Int32) (j t : Nat) (hxt : isT x → x = nI t ∧ t < 6) (hj : j < 9) : cR l g yX5_town cX5_town 3 (some .int) ({ frames := 2, cells := 0, slots := 0, locals := 42 } : Room) [.ref h, .int x, .int (nI j)] [mV g h a V X] (.int (if isT x then V j t else -1)) := by
  refine cR.mk (by decide +kernel) (Nat.le_of_ble_eq_true rfl) ?_
  intro p e s m below meth c ls E hK hP hl
  obtain ⟨hx, hb, hr, hml, hts, hown, hlocks, hin⟩ := id E
  have hown : s.vm.findClass RX5 = some m.cls := hown
  have hl : lv_has ls 3 [(0, .ref h), (1, .int x), (2, .int (nI j))] := hl
  refine lv_iload_n hx hb dX5_town_0 rfl (lv_at hl 1 rfl) ?_
  refine call_SR (As := [.int x]) (rest := []) E rfl hK hP (c_X5_isTown l g x) ok_X5_isTown rfl q3_88 [] rfl ⟨⟨rfl, rfl⟩, Nat.le_of_ble_eq_true rfl, Nat.le_of_ble_eq_true rfl⟩ hl.1 (Nat.le_of_ble_eq_true rfl) ⟨Nat.le_of_ble_eq_true rfl, Nat.le_of_ble_eq_true rfl⟩ rfl dX5_town_1 ?_
  refine b_ne0 (tgt := 9) hx hb dX5_town_4 (by decide) (fun h_1 => ?_) (fun h_1 => ?_)
  · have hT1 := h_1
    obtain ⟨rfl, ht⟩ := hxt h_1
    refine lv_iload_n hx hb dX5_town_9 rfl (lv_at hl 2 rfl) ?_
    refine lv_iconst (v := 0) hx hb dX5_town_10 (by decide) ?_
    refine lv_bipush (v := 8) hx hb dX5_town_11 (by decide) ?_
    refine call_SR (As := [.int (nI j), .int 0, .int 8]) (rest := []) E rfl hK hP (c_X5_in l g (nI j) 0 8) ok_X5_in rfl q3_91 [] rfl ⟨⟨rfl, rfl⟩, Nat.le_of_ble_eq_true rfl, Nat.le_of_ble_eq_true rfl⟩ hl.1 (Nat.le_of_ble_eq_true rfl) ⟨Nat.le_of_ble_eq_true rfl, Nat.le_of_ble_eq_true rfl⟩ rfl dX5_town_13 ?_
    refine b_eq0 (tgt := 28) hx hb dX5_town_16 (by decide) (fun h_2 => ?_) (fun h_2 => ?_)
    · exact absurd (inI_8 hj) h_2
    · refine lv_aload_n hx hb dX5_town_19 rfl (lv_at hl 0 rfl) ?_
      refine lv_iload_n hx hb dX5_town_20 rfl (lv_at hl 1 rfl) ?_
      refine lv_iload_n hx hb dX5_town_21 rfl (lv_at hl 2 rfl) ?_
      refine call_VR (As := [.int (nI t), .int (nI j)]) (rest := []) E rfl hK hP (c_X5_of_k l g h a V X t j (by omega) (by omega)) ok_X5_of rfl q3_94 [0] rfl (b_recv hK hP 0 0 rfl rfl rfl rfl) ⟨⟨rfl, rfl⟩, Nat.le_of_ble_eq_true rfl, Nat.le_of_ble_eq_true rfl⟩ hl.1 (Nat.le_of_ble_eq_true rfl) ⟨Nat.le_of_ble_eq_true rfl, Nat.le_of_ble_eq_true rfl⟩ rfl dX5_town_22 ?_
      refine lv_goto (tgt := 30) hx hb dX5_town_25 (by decide) ?_
      exact rI_ret hx hb hr hlocks dX5_town_30 (by rw [if_pos hT1])
  · refine lv_iconst (v := -1) hx hb dX5_town_7 (by decide) ?_
    exact rI_ret hx hb hr hlocks dX5_town_8 (by rw [if_neg h_1])

set_option maxHeartbeats 4000000 in
set_option maxRecDepth 100000 in
theorem c_X5_loudness (l : Launch) (g : gx) (h : Nat) (a : Nat → Nat) (V X : sV) (x : Int32) (t : Nat) (c0 : Nat) (hxt : isT x → x = nI t ∧ t < 6) (hc : t < 6 → V 3 t = nI c0 ∧ c0 ≤ 5) : cR l g yX5_loudness cX5_loudness 2 (some .int) ({ frames := 4, cells := 0, slots := 0, locals := 91 } : Room) [.ref h, .int x] [mV g h a V X] (.int (if isT x then lsM V t (rgM V t (V 4 t) c0).1 c0 else -1)) := by
  refine cR.mk (by decide +kernel) (Nat.le_of_ble_eq_true rfl) ?_
  intro p e s m below meth c ls E hK hP hl
  obtain ⟨hx, hb, hr, hml, hts, hown, hlocks, hin⟩ := id E
  have hown : s.vm.findClass RX5 = some m.cls := hown
  have hl : lv_has ls 2 [(0, .ref h), (1, .int x)] := hl
  refine lv_iload_n hx hb dX5_loudness_0 rfl (lv_at hl 1 rfl) ?_
  refine call_SR (As := [.int x]) (rest := []) E rfl hK hP (c_X5_isTown l g x) ok_X5_isTown rfl q3_88 [] rfl ⟨⟨rfl, rfl⟩, Nat.le_of_ble_eq_true rfl, Nat.le_of_ble_eq_true rfl⟩ hl.1 (Nat.le_of_ble_eq_true rfl) ⟨Nat.le_of_ble_eq_true rfl, Nat.le_of_ble_eq_true rfl⟩ rfl dX5_loudness_1 ?_
  refine b_eq0 (tgt := 26) hx hb dX5_loudness_4 (by decide) (fun h_1 => ?_) (fun h_1 => ?_)
  · refine lv_iconst (v := -1) hx hb dX5_loudness_26 (by decide) ?_
    exact rI_ret hx hb hr hlocks dX5_loudness_27 (by first | (rw [if_neg h_1]; done) | (rw [if_pos h_1]; done))
  · have hT1 := h_1
    obtain ⟨rfl, ht⟩ := hxt h_1
    obtain ⟨hc, hc5⟩ := hc ht
    refine lv_aload_n hx hb dX5_loudness_7 rfl (lv_at hl 0 rfl) ?_
    refine lv_iload_n hx hb dX5_loudness_8 rfl (lv_at hl 1 rfl) ?_
    refine lv_aload_n hx hb dX5_loudness_9 rfl (lv_at hl 0 rfl) ?_
    refine lv_iload_n hx hb dX5_loudness_10 rfl (lv_at hl 1 rfl) ?_
    refine lv_aload_n hx hb dX5_loudness_11 rfl (lv_at hl 0 rfl) ?_
    refine lv_iload_n hx hb dX5_loudness_12 rfl (lv_at hl 1 rfl) ?_
    refine lv_iconst (v := 4) hx hb dX5_loudness_13 (by decide) ?_
    refine call_VR (As := [.int (nI t), .int 4]) (rest := [.int (nI t), .ref h, .int (nI t), .ref h]) E rfl hK hP (c_X5_of_k l g h a V X t 4 (by omega) (by omega)) ok_X5_of rfl q3_94 [0] rfl (b_recv hK hP 0 0 rfl rfl rfl rfl) ⟨⟨rfl, rfl⟩, Nat.le_of_ble_eq_true rfl, Nat.le_of_ble_eq_true rfl⟩ hl.1 (Nat.le_of_ble_eq_true rfl) ⟨Nat.le_of_ble_eq_true rfl, Nat.le_of_ble_eq_true rfl⟩ rfl dX5_loudness_14 ?_
    refine call_VR (As := [.int (nI t), .int (V 4 t)]) (rest := [.int (nI t), .ref h]) E rfl hK hP (c_X5_rings l g h a V X t (V 4 t) c0 hc hc5 (by omega)) ok_X5_rings rfl q3_162 [0] rfl (b_recv hK hP 0 0 rfl rfl rfl rfl) ⟨⟨rfl, rfl⟩, Nat.le_of_ble_eq_true rfl, Nat.le_of_ble_eq_true rfl⟩ hl.1 (Nat.le_of_ble_eq_true rfl) ⟨Nat.le_of_ble_eq_true rfl, Nat.le_of_ble_eq_true rfl⟩ rfl dX5_loudness_17 ?_
    refine call_VR (As := [.int (nI t), .int ((rgM V t (V 4 t) c0).1)]) (rest := []) E rfl hK hP (c_X5_loudnessOf l g h a V X t ((rgM V t (V 4 t) c0).1) c0 hc hc5 (by omega)) ok_X5_loudnessOf rfl q3_174 [0] rfl (b_recv hK hP 0 0 rfl rfl rfl rfl) ⟨⟨rfl, rfl⟩, Nat.le_of_ble_eq_true rfl, Nat.le_of_ble_eq_true rfl⟩ hl.1 (Nat.le_of_ble_eq_true rfl) ⟨Nat.le_of_ble_eq_true rfl, Nat.le_of_ble_eq_true rfl⟩ rfl dX5_loudness_20 ?_
    refine lv_goto (tgt := 27) hx hb dX5_loudness_23 (by decide) ?_
    exact rI_ret hx hb hr hlocks dX5_loudness_27 (by first | (rw [if_neg h_1]; done) | (rw [if_pos h_1]; done))

set_option maxHeartbeats 4000000 in
set_option maxRecDepth 100000 in
theorem c_X5_heard (l : Launch) (g : gx) (h : Nat) (a : Nat → Nat) (V X : sV) (x y : Int32) (t e0 : Nat) (cq : Nat → Nat) (hc : ∀ t, t < 6 → V 3 t = nI (cq t) ∧ cq t ≤ 5) (hxt : isT x → x = nI t ∧ t < 6) (hxe : isT y → y = nI e0 ∧ e0 < 6) : cU (S := sV) l g yX5_heard cX5_heard 3 (some .int) ({ frames := 5, cells := 0, slots := 0, locals := 112 } : Room) [.ref h, .int x, .int y] [mV g h a V X] (fun u => some (.int (if isT x ∧ isT y then hrM V (liX V cq X 6 4) t e0 else -1))) (fun u => ∀ k9, k9 ≠ 4 → u k9 = X k9) (fun u => [mV g h a V u]) := by
  refine cU.mk (by decide +kernel) (Nat.le_of_ble_eq_true rfl) ?_
  intro p e s m below meth c ls E hK hW hl
  obtain ⟨hx, hb, hr, hml, hts, hown, hlocks, hin⟩ := id E
  have hown : s.vm.findClass RX5 = some m.cls := hown
  have hP := hW.1
  have hl : lv_has ls 3 [(0, .ref h), (1, .int x), (2, .int y)] := hl
  refine lv_iload_n hx hb dX5_heard_0 rfl (lv_at hl 1 rfl) ?_
  refine call_SR (As := [.int x]) (rest := []) E rfl hK hP (c_X5_isTown l g x) ok_X5_isTown rfl q3_88 [] rfl ⟨⟨rfl, rfl⟩, Nat.le_of_ble_eq_true rfl, Nat.le_of_ble_eq_true rfl⟩ hl.1 (Nat.le_of_ble_eq_true rfl) ⟨Nat.le_of_ble_eq_true rfl, Nat.le_of_ble_eq_true rfl⟩ rfl dX5_heard_1 ?_
  refine b_eq0 (tgt := 14) hx hb dX5_heard_4 (by decide) (fun h_1 => ?_) (fun h_1 => ?_)
  · refine lv_iconst (v := -1) hx hb dX5_heard_14 (by decide) ?_
    exact uI_ret X hW hx hb hr hlocks dX5_heard_15 (by rw [if_neg]; exact fun q9 => by first | exact h_1 q9.1 | exact h_1 q9.2) (fun _ _ => rfl) (by exact rfl) (adr2 (L := [[h, a 0, a 1, a 2, a 3, a 4, a 5, a 6, a 7, a 8]]) rfl rfl)
  · have hT1 := h_1
    obtain ⟨rfl, ht⟩ := hxt h_1
    refine lv_iload_n hx hb dX5_heard_7 rfl (lv_at hl 2 rfl) ?_
    refine call_SR (As := [.int y]) (rest := []) E rfl hK hP (c_X5_isTown l g y) ok_X5_isTown rfl q3_88 [] rfl ⟨⟨rfl, rfl⟩, Nat.le_of_ble_eq_true rfl, Nat.le_of_ble_eq_true rfl⟩ hl.1 (Nat.le_of_ble_eq_true rfl) ⟨Nat.le_of_ble_eq_true rfl, Nat.le_of_ble_eq_true rfl⟩ rfl dX5_heard_8 ?_
    refine b_ne0 (tgt := 16) hx hb dX5_heard_11 (by decide) (fun h_2 => ?_) (fun h_2 => ?_)
    · have hT2 := h_2
      obtain ⟨rfl, he⟩ := hxe h_2
      refine lv_aload_n hx hb dX5_heard_16 rfl (lv_at hl 0 rfl) ?_
      refine call_VU (As := []) (rest := []) E rfl hK hW (c_X5_listen l g h a V X cq hc) ok_X5_listen rfl q3_158 [0] rfl (by decide) (b_recv hK hP 0 0 rfl rfl rfl rfl) ⟨⟨rfl, rfl⟩, Nat.le_of_ble_eq_true rfl, Nat.le_of_ble_eq_true rfl⟩ hl.1 (Nat.le_of_ble_eq_true rfl) ⟨Nat.le_of_ble_eq_true rfl, Nat.le_of_ble_eq_true rfl⟩ rfl dX5_heard_17 (fun _u H locs _ hW => ?_)
      have hW : wd g _ s.heap [mV g h a V (liX V cq X 6)] H locs := hW
      have hP := hW.1
      obtain ⟨U_3, hU_3⟩ : ∃ z, z = (liX V cq X 6) := ⟨_, rfl⟩
      rw [← hU_3] at hW
      have hP := hW.1
      refine lv_aload_n hx hb dX5_heard_20 rfl (lv_at hl 0 rfl) ?_
      refine lv_iload_n hx hb dX5_heard_21 rfl (lv_at hl 1 rfl) ?_
      refine lv_iload_n hx hb dX5_heard_22 rfl (lv_at hl 2 rfl) ?_
      refine call_VR (As := [.int (nI t), .int (nI e0)]) (rest := []) E rfl hK hP (c_X5_heardIn l g h a V U_3 t e0 (by omega) (by omega)) ok_X5_heardIn rfl q3_186 [0] rfl (b_recv hK hP 0 0 rfl rfl rfl rfl) ⟨⟨rfl, rfl⟩, Nat.le_of_ble_eq_true rfl, Nat.le_of_ble_eq_true rfl⟩ hl.1 (Nat.le_of_ble_eq_true rfl) ⟨Nat.le_of_ble_eq_true rfl, Nat.le_of_ble_eq_true rfl⟩ rfl dX5_heard_23 ?_
      exact uI_ret U_3 hW hx hb hr hlocks dX5_heard_26 (by rw [if_pos ⟨hT1, hT2⟩, hU_3]) (fun k9 h9 => by rw [hU_3]; exact liX_k _ _ _ h9 _) (by exact rfl) (adr2 (L := [[h, a 0, a 1, a 2, a 3, a 4, a 5, a 6, a 7, a 8]]) rfl rfl)
    · refine lv_iconst (v := -1) hx hb dX5_heard_14 (by decide) ?_
      exact uI_ret X hW hx hb hr hlocks dX5_heard_15 (by rw [if_neg]; exact fun q9 => by first | exact h_2 q9.1 | exact h_2 q9.2) (fun _ _ => rfl) (by exact rfl) (adr2 (L := [[h, a 0, a 1, a 2, a 3, a 4, a 5, a 6, a 7, a 8]]) rfl rfl)
