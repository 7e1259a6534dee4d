set_option maxHeartbeats 4000000 in
set_option maxRecDepth 100000 in
theorem c_X2_firstFault (l : Launch) (g : gx) (h a : Nat) (T : Nat → Nat) (n : Nat) (hn : n ≤ 60) (hT : ∀ i, T i < 127)  : cR l g yX2_firstFault cX2_firstFault 3 (some .int) ({ frames := 3, cells := 0, slots := 0, locals := 64 } : Room) [.ref h] [tB g h a T n] (.int (ffN T n n 0 0)) := by
  refine cR.mk (by decide +kernel) (Nat.le_of_ble_eq_true rfl) ?_
  intro p e s m below meth c ls E hK hP hl
  obtain ⟨hx, hb, hr, hml, hts, hown, hlocks, hin⟩ := id E
  have hown : s.vm.findClass RX2 = some m.cls := hown
  have hl : lv_has ls 3 [(0, .ref h)] := hl
  refine lv_iconst (v := 0) hx hb dX2_firstFault_0 (by decide) ?_
  refine lv_istore_n (lv' := [(1, .int 0), (0, .ref h)]) hx hb dX2_firstFault_1 rfl hl (by decide) rfl (fun ls hl => ?_)
  refine lv_iconst (v := 0) hx hb dX2_firstFault_2 (by decide) ?_
  refine lv_istore_n (lv' := [(2, .int 0), (1, .int 0), (0, .ref h)]) hx hb dX2_firstFault_3 rfl hl (by decide) rfl (fun ls hl => ?_)
  refine loopN (fun k : Nat => ∀ dd : Nat, ∀ ls : Array Slot, lv_has ls 3 [(0, .ref h), (1, .int (nI dd)), (2, .int (nI k))] → (dd ≤ 10) → (ffN T n (n - k) k dd = ffN T n n 0 0) → W p l e _ s m _ below meth c s.heap [] 0 0 _ (F0 m 4 ls [])) (n) (fun k hi ih_k => ?_) (0) (by omega) (0) ls (lv_sub hl [2, 1, 0] rfl) (by omega) (rfl)
  intro dd ls hl hd hf
  have hsg := sg_lt (n := n) hT k
  refine lv_iload_n hx hb dX2_firstFault_4 rfl (lv_at hl 2 rfl) ?_
  refine lv_aload_n hx hb dX2_firstFault_5 rfl (lv_at hl 0 rfl) ?_
  refine b_get (v := .int (nI n)) hx hb hts inX2 hown hK hP 0 0 1 rfl rfl rfl (by decide) q1_154 rfl rfl dX2_firstFault_6 ?_
  refine b_ge (tgt := 35) (k) (n) hx hb rfl rfl (by omega) (by omega) dX2_firstFault_9 (by decide) (fun h_1 => ?_) (fun h_1 => ?_)
  · refine lv_iload_n hx hb dX2_firstFault_35 rfl (lv_at hl 1 rfl) ?_
    refine lv_iconst (v := 5) hx hb dX2_firstFault_36 (by decide) ?_
    refine b_lt (tgt := 45) (dd) (5) hx hb rfl rfl (by omega) (by omega) dX2_firstFault_37 (by decide) (fun h_2 => ?_) (fun h_2 => ?_)
    · refine lv_aload_n hx hb dX2_firstFault_45 rfl (lv_at hl 0 rfl) ?_
      refine b_get (v := .int (nI n)) hx hb hts inX2 hown hK hP 0 0 1 rfl rfl rfl (by decide) q1_154 rfl rfl dX2_firstFault_46 ?_
      exact rI_ret hx hb hr hlocks dX2_firstFault_49 (by rw [← hf, show n - k = 0 by omega, ffN]; first | rw [if_pos h_2] | rw [if_neg (by omega)])
    · refine lv_bipush (v := -5) hx hb dX2_firstFault_40 (by decide) ?_
      refine lv_goto (tgt := 49) hx hb dX2_firstFault_42 (by decide) ?_
      exact rI_ret hx hb hr hlocks dX2_firstFault_49 (by rw [← hf, show n - k = 0 by omega, ffN]; first | rw [if_pos h_2] | rw [if_neg (by omega)])
  · refine lv_iload_n hx hb dX2_firstFault_12 rfl (lv_at hl 1 rfl) ?_
    refine lv_aload_n hx hb dX2_firstFault_13 rfl (lv_at hl 0 rfl) ?_
    refine lv_iload_n hx hb dX2_firstFault_14 rfl (lv_at hl 2 rfl) ?_
    refine call_VR (As := [.int (nI k)]) (rest := [.int (nI dd)]) E rfl hK hP (c_X2_signAt l g h a T n (by omega) k (by omega)) ok_X2_signAt rfl q2_134 [0] rfl (b_recv hK hP 0 0 rfl rfl rfl rfl) ⟨⟨rfl, rfl⟩, Nat.le_of_ble_eq_true rfl, Nat.le_of_ble_eq_true rfl⟩ hl.1 (Nat.le_of_ble_eq_true rfl) ⟨Nat.le_of_ble_eq_true rfl, Nat.le_of_ble_eq_true rfl⟩ rfl dX2_firstFault_15 ?_
    refine call_SR (As := [.int (nI dd), .int (nI (sg T n k))]) (rest := []) E rfl hK hP (c_X2_after l g dd (sg T n k) (by omega) (by omega)) ok_X2_after rfl q2_138 [] rfl ⟨⟨rfl, rfl⟩, Nat.le_of_ble_eq_true rfl, Nat.le_of_ble_eq_true rfl⟩ hl.1 (Nat.le_of_ble_eq_true rfl) ⟨Nat.le_of_ble_eq_true rfl, Nat.le_of_ble_eq_true rfl⟩ rfl dX2_firstFault_18 ?_
    refine lv_istore_n (lv' := [(1, .int (oI (stp dd (sg T n k)))), (0, .ref h), (2, .int (nI k))]) hx hb dX2_firstFault_21 rfl hl (by decide) rfl (fun ls hl => ?_)
    refine lv_iload_n hx hb dX2_firstFault_22 rfl (lv_at hl 0 rfl) ?_
    refine lv_iconst (v := -1) hx hb dX2_firstFault_23 (by decide) ?_
    refine lv_icmp_ne (tgt := 29) hx hb dX2_firstFault_24 (by decide) (fun h_3 => ?_) (fun h_3 => ?_)
    · obtain ⟨dd', hdd⟩ := stp_some h_3
      refine lv_iinc (v := nI (k + 1)) (lv' := [(2, .int (nI (k + 1))), (1, .int (oI (stp dd (sg T n k)))), (0, .ref h)]) hx hb dX2_firstFault_29 hl (k := 2) rfl (nI_add k 1) (by decide) rfl (fun ls hl => ?_)
      refine lv_goto (tgt := 4) hx hb dX2_firstFault_32 (by decide) ?_
      have e_4 : nI dd' = oI (stp dd (sg T n k)) := by rw [hdd]; rfl
      exact ih_k (by omega) (dd') _ (by rw [e_4]; exact lv_sub hl [2, 1, 0] rfl) (stp_le hdd) (by rw [← hf, show n - k = (n - (k + 1)) + 1 by omega, ffN_some hdd])
    · refine lv_iload_n hx hb dX2_firstFault_27 rfl (lv_at hl 2 rfl) ?_
      exact rI_ret hx hb hr hlocks dX2_firstFault_28 (by rw [← hf, show n - k = (n - (k + 1)) + 1 by omega, ffN_none (stp_none h_3)])

set_option maxHeartbeats 4000000 in
set_option maxRecDepth 100000 in
theorem c_X2_add (l : Launch) (g : gx) (h a : Nat) (T : Nat → Nat) (n : Nat) (hn : n < 60) (c0 : Nat) (hc : c0 < 127)  : cU (S := Unit) l g yX2_add cX2_add 2 none ({ frames := 0, cells := 0, slots := 0, locals := 0 } : Room) [.ref h, .int (nI c0)] [tB g h a T n] (fun _ => none) (fun _ => True) (fun _ => [tB g h a (upT T n c0) (n + 1)]) := by
  refine cU.mk (by decide +kernel) (Nat.le_of_ble_eq_true rfl) ?_
  intro p e s m below meth c ls E hK hW hl
  obtain ⟨hx, hb, hr, hml, hts, hown, hlocks, hin⟩ := id E
  have hown : s.vm.findClass RX2 = some m.cls := hown
  have hP := hW.1
  have hl : lv_has ls 2 [(0, .ref h), (1, .int (nI c0))] := hl
  refine lv_aload_n hx hb dX2_add_0 rfl (lv_at hl 0 rfl) ?_
  refine b_get (v := .int (nI n)) hx hb hts inX2 hown hK hP 0 0 1 rfl rfl rfl (by decide) q1_154 rfl rfl dX2_add_1 ?_
  refine lv_if_lt (tgt := 36) hx hb dX2_add_4 (by decide) (fun h_1 => ?_) (fun h_1 => ?_)
  · exact absurd h_1 (nI_pos (by omega))
  · refine lv_aload_n hx hb dX2_add_7 rfl (lv_at hl 0 rfl) ?_
    refine b_get (v := .int (nI n)) hx hb hts inX2 hown hK hP 0 0 1 rfl rfl rfl (by decide) q1_154 rfl rfl dX2_add_8 ?_
    refine lv_bipush (v := 60) hx hb dX2_add_11 (by decide) ?_
    refine b_ge (tgt := 36) (n) (60) hx hb rfl rfl (by omega) (by omega) dX2_add_13 (by decide) (fun h_2 => ?_) (fun h_2 => ?_)
    · omega
    · refine lv_aload_n hx hb dX2_add_16 rfl (lv_at hl 0 rfl) ?_
      refine b_get (v := .ref a) hx hb hts inX2 hown hK hP 0 0 0 rfl rfl rfl (by decide) q1_153 rfl rfl dX2_add_17 ?_
      refine lv_aload_n hx hb dX2_add_20 rfl (lv_at hl 0 rfl) ?_
      refine b_get (v := .int (nI n)) hx hb hts inX2 hown hK hP 0 0 1 rfl rfl rfl (by decide) q1_154 rfl rfl dX2_add_21 ?_
      refine lv_iload_n hx hb dX2_add_24 rfl (lv_at hl 1 rfl) ?_
      refine b_cast (B' := [sB g h a (upd (fun i => nI (T i)) n (nI c0)) n]) hx hb hK hW 0 1 (n) rfl rfl rfl (by omega) rfl (charN (by omega)) rfl dX2_add_25 (fun H locs hW => ?_)
      have hP := hW.1
      refine lv_aload_n hx hb dX2_add_26 rfl (lv_at hl 0 rfl) ?_
      refine lv_dup hx hb dX2_add_27 rfl ?_
      refine b_get (v := .int (nI n)) hx hb hts inX2 hown hK hP 0 0 1 rfl rfl rfl (by decide) q1_154 rfl rfl dX2_add_28 ?_
      refine lv_iconst (v := 1) hx hb dX2_add_31 (by decide) ?_
      refine lv_iadd hx hb dX2_add_32 ?_
      refine b_top (y := nI (n + 1)) (nI_add n 1) ?_
      refine b_put (B' := [sB g h a (upd (fun i => nI (T i)) n (nI c0)) (n + 1)]) (v := .int (nI (n + 1))) hx hb hts inX2 tyX2_ok nmX2 hown hK hW 0 0 1 rfl rfl rfl (by decide) q1_154 rfl rfl rfl rfl (Nat.le_of_ble_eq_true rfl) rfl dX2_add_33 (fun H locs hW => ?_)
      have hP := hW.1
      exact uV_ret () hW hx hb hr hlocks dX2_add_36 trivial (by rw [upT_eq]) (adr2 (L := [[h, a]]) rfl rfl)
