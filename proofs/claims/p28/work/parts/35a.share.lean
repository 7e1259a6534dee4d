set_option maxHeartbeats 4000000 in
set_option maxRecDepth 100000 in
theorem c_X4_share (l : Launch) (g : gx) (h : Nat) (q : Nat → Nat) (z : Int32) (na : Nat → Nat) (V : sV) (ta : Nat → Nat) (TV : sV) (pa : Nat → Nat) (SV : sV) (hq : Nat) (hh : Nat → Nat) (o n : Nat) (aa : Nat → Nat → Nat) (HV : Nat → sV) (ra : Nat → Nat) (NN : sV) (sa : Nat) (T : Nat → Nat) (k : Nat) (x : Int32) (t : Nat) (ho : o < 5) (hn : n ≤ 5) (hk : k ≤ 60) (hxt : isT x → x = nI t ∧ t < 6) : cD l g yX4_share cX4_share 3 ({ frames := 1, cells := 0, slots := 0, locals := 22 } : Room) [.ref h, .int x] [bB h q z, vB g (q 0) na V, vB g (q 1) ta TV, vB g (q 2) pa SV, hB g (q 3) hq hh o n, vB g (hh 0) (aa 0) (HV 0), vB g (hh 1) (aa 1) (HV 1), vB g (hh 2) (aa 2) (HV 2), vB g (hh 3) (aa 3) (HV 3), vB g (hh 4) (aa 4) (HV 4), rB g (q 4) ra NN, tB g (q 5) sa T k] (fun r => (isT x ∧ ¬ sumF (V 7) 6 = 0 → alike64 r (FP.ddiv (FP.i2d (V 7 t)) (FP.i2d (sumF (V 7) 6))) = true) ∧ (¬ (isT x ∧ ¬ sumF (V 7) 6 = 0) → r = FP.dconst0)) := by
  refine cD.mk (by decide +kernel) (Nat.le_of_ble_eq_true rfl) ?_
  intro p e s0 s d0 H m below meth c ls hs hd0 hH E hK hP hl
  obtain ⟨hx, hb, hr, hml, hts, hown, hlocks, hin⟩ := id E
  have hown : s.vm.findClass RX4 = some m.cls := hown
  have hl : lv_has ls 3 [(0, .ref h), (1, .int x)] := hl
  refine lv_aload_n hx hb dX4_share_0 rfl (lv_at hl 0 rfl) ?_
  refine b_get (v := .ref (q 0)) hx hb hts inX4 hown hK hP 0 0 0 rfl rfl rfl (by decide) q1_161 rfl rfl dX4_share_1 ?_
  refine call_VR (As := []) (rest := []) E rfl hK hP (c_X3_allPoints l g (q 0) na V) ok_X3_allPoints rfl q2_26 [1] rfl (b_recv hK hP 1 0 rfl rfl rfl rfl) ⟨⟨rfl, rfl⟩, Nat.le_of_ble_eq_true rfl, Nat.le_of_ble_eq_true rfl⟩ hl.1 (Nat.le_of_ble_eq_true rfl) ⟨Nat.le_of_ble_eq_true rfl, Nat.le_of_ble_eq_true rfl⟩ rfl dX4_share_4 ?_
  refine lv_istore_n (lv' := [(2, .int (sumF (V 7) 6)), (0, .ref h), (1, .int x)]) hx hb dX4_share_7 rfl hl (by decide) rfl (fun ls hl => ?_)
  refine lv_iload_n hx hb dX4_share_8 rfl (lv_at hl 2 rfl) ?_
  refine call_SR (As := [.int x]) (rest := []) E rfl hK hP (c_X4_isTown l g x) ok_X4_isTown rfl q1_198 [] rfl ⟨⟨rfl, rfl⟩, Nat.le_of_ble_eq_true rfl, Nat.le_of_ble_eq_true rfl⟩ hl.1 (Nat.le_of_ble_eq_true rfl) ⟨Nat.le_of_ble_eq_true rfl, Nat.le_of_ble_eq_true rfl⟩ rfl dX4_share_9 ?_
  refine b_eq0 (tgt := 19) hx hb dX4_share_12 (by decide) (fun h_1 => ?_) (fun h_1 => ?_)
  · refine lv_dconst0 hx hb dX4_share_19 ?_
    exact d_ret hs hd0 hH hx hb hr hlocks dX4_share_20 (⟨fun q9 => by first | exact hal | exact absurd q9.1 h_1 | exact absurd h_1 q9.2 | exact absurd q9.2 (fun z9 => z9 h_1), fun q9 => by first | rfl | exact absurd ⟨hT1, h_1⟩ q9 | exact absurd ⟨hT1, Int32.not_le.mpr (Int32.not_le.mp h_1)⟩ q9⟩)
  · have hT1 := h_1
    obtain ⟨rfl, ht⟩ := hxt h_1
    refine lv_iload_n hx hb dX4_share_15 rfl (lv_at hl 0 rfl) ?_
    refine lv_if_ne (tgt := 21) hx hb dX4_share_16 (by decide) (fun h_2 => ?_) (fun h_2 => ?_)
    · refine lv_aload_n hx hb dX4_share_21 rfl (lv_at hl 1 rfl) ?_
      refine b_get (v := .ref (q 0)) hx hb hts inX4 hown hK hP 0 0 0 rfl rfl rfl (by decide) q1_161 rfl rfl dX4_share_22 ?_
      refine b_get (v := .ref (na 7)) hx hb hts inX3 hown hK hP 1 0 7 rfl rfl rfl (by decide) q1_39 rfl rfl dX4_share_25 ?_
      refine lv_iload_n hx hb dX4_share_28 rfl (lv_at hl 2 rfl) ?_
      refine b_iald (v := V 7 t) hx hb hK hP 1 8 (t) rfl rfl rfl (by omega) rfl rfl dX4_share_29 ?_
      refine lv_i2d hx hb dX4_share_30 ?_
      refine lv_iload_n hx hb dX4_share_31 rfl (lv_at hl 0 rfl) ?_
      refine lv_i2d hx hb dX4_share_32 ?_
      refine b_ddiv hs hd0 hx hb dX4_share_33 (fun r d1 s hs hd0 hal => ?_)
      exact d_ret hs hd0 hH hx hb hr hlocks dX4_share_34 (⟨fun q9 => by first | exact hal | exact absurd q9.1 h_2 | exact absurd h_2 q9.2 | exact absurd q9.2 (fun z9 => z9 h_2), fun q9 => by first | rfl | exact absurd ⟨hT1, h_2⟩ q9 | exact absurd ⟨hT1, Int32.not_le.mpr (Int32.not_le.mp h_2)⟩ q9⟩)
    · refine lv_dconst0 hx hb dX4_share_19 ?_
      exact d_ret hs hd0 hH hx hb hr hlocks dX4_share_20 (⟨fun q9 => by first | exact hal | exact absurd q9.1 h_2 | exact absurd h_2 q9.2 | exact absurd q9.2 (fun z9 => z9 h_2), fun q9 => by first | rfl | exact absurd ⟨hT1, h_2⟩ q9 | exact absurd ⟨hT1, Int32.not_le.mpr (Int32.not_le.mp h_2)⟩ q9⟩)
