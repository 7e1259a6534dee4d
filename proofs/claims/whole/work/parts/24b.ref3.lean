set_option maxHeartbeats 4000000 in
set_option maxRecDepth 100000 in
theorem c_X5_isTaken (l : Launch) (g : gx) (h : Nat) (a : Nat → Nat) (V X : sV) (t : Nat) (x : Int32) (ht : t < 6) : cR l g yX5_isTaken cX5_isTaken 5 (some .boolean) ({ frames := 1, cells := 0, slots := 0, locals := 22 } : Room) [.ref h, .int (nI t), .int x] [mV g h a V X] (.int (bI (takB V x t 6 = true))) := by
  refine cR.mk (by decide +kernel) (Nat.le_of_ble_eq_true rfl) ?_
  intro p e s m below meth c ls E hK hP hl
  obtain ⟨hx, hb, hr, hml, hts, hown, hlocks, hin⟩ := id E
  have hown : s.vm.findClass RX5 = some m.cls := hown
  have hl : lv_has ls 5 [(0, .ref h), (1, .int (nI t)), (2, .int x)] := hl
  refine lv_iconst (v := 0) hx hb dX5_isTaken_0 (by decide) ?_
  refine lv_istore_n (lv' := [(3, .int 0), (0, .ref h), (1, .int (nI t)), (2, .int x)]) hx hb dX5_isTaken_1 rfl hl (by decide) rfl (fun ls hl => ?_)
  refine lv_iconst (v := 0) hx hb dX5_isTaken_2 (by decide) ?_
  refine lv_istore (lv' := [(4, .int 0), (3, .int 0), (0, .ref h), (1, .int (nI t)), (2, .int x)]) hx hb dX5_isTaken_3 hl (by decide) rfl (fun ls hl => ?_)
  refine loopN (fun i : Nat => ∀ ls : Array Slot, lv_has ls 5 [(0, .ref h), (1, .int (nI t)), (2, .int x), (3, .int (bI (takB V x t i = true))), (4, .int (nI i))] → W p l e _ s m _ below meth c s.heap [] 0 0 _ (F0 m 5 ls [])) (6) (fun i hi ih_i => ?_) (0) (by omega)  ls (lv_sub hl [2, 3, 4, 1, 0] rfl) 
  intro  ls hl 
  refine lv_iload hx hb dX5_isTaken_5 (lv_at hl 4 rfl) ?_
  refine lv_bipush (v := 6) hx hb dX5_isTaken_7 (by decide) ?_
  refine b_ge (tgt := 45) (i) (6) hx hb rfl rfl (by omega) (by omega) dX5_isTaken_9 (by decide) (fun h_1 => ?_) (fun h_1 => ?_)
  · obtain rfl : i = 6 := by omega
    refine lv_iload_n hx hb dX5_isTaken_45 rfl (lv_at hl 3 rfl) ?_
    exact rZ_ret hx hb hr hlocks dX5_isTaken_46 (rfl)
  · refine lv_iload_n hx hb dX5_isTaken_12 rfl (lv_at hl 3 rfl) ?_
    refine b_ne0 (tgt := 33) hx hb dX5_isTaken_13 (by decide) (fun h_2 => ?_) (fun h_2 => ?_)
    · refine lv_iconst (v := 1) hx hb dX5_isTaken_33 (by decide) ?_
      refine lv_goto (tgt := 38) hx hb dX5_isTaken_34 (by decide) ?_
      refine lv_istore_n (lv' := [(3, .int 1), (0, .ref h), (1, .int (nI t)), (2, .int x), (4, .int (nI i))]) hx hb dX5_isTaken_38 rfl hl (by decide) rfl (fun ls hl => ?_)
      refine lv_iinc (v := nI (i + 1)) (lv' := [(4, .int (nI (i + 1))), (3, .int 1), (0, .ref h), (1, .int (nI t)), (2, .int x)]) hx hb dX5_isTaken_39 hl (k := 4) rfl (nI_add i 1) (by decide) rfl (fun ls hl => ?_)
      refine lv_goto (tgt := 5) hx hb dX5_isTaken_42 (by decide) ?_
      have e_3 : bI (takB V x t (i + 1) = true) = 1 := by first | exact (bI_t (by rw [takB, h_2, Bool.true_or])).symm | exact (bI_t (by rw [takB, decide_eq_true h_1, decide_eq_true h_2, Bool.and_self, Bool.or_true])).symm | exact (bI_f (fun q9 => by rw [takB, Bool.or_eq_true, Bool.and_eq_true, decide_eq_true_eq, decide_eq_true_eq] at q9; exact q9.elim h_1 (fun r9 => r9.1 h_2))).symm | exact (bI_f (fun q9 => by rw [takB, Bool.or_eq_true, Bool.and_eq_true, decide_eq_true_eq, decide_eq_true_eq] at q9; exact q9.elim NOPATH (fun r9 => h_2 r9.2))).symm
      exact ih_i (by omega)  _ (by rw [e_3]; exact lv_sub hl [2, 3, 4, 1, 0] rfl) 
    · refine lv_iload hx hb dX5_isTaken_16 (lv_at hl 4 rfl) ?_
      refine lv_iload_n hx hb dX5_isTaken_18 rfl (lv_at hl 1 rfl) ?_
      refine b_eq (tgt := 37) (i) (t) hx hb rfl rfl (by omega) (by omega) dX5_isTaken_19 (by decide) (fun h_4 => ?_) (fun h_4 => ?_)
      · refine lv_iconst (v := 0) hx hb dX5_isTaken_37 (by decide) ?_
        refine lv_istore_n (lv' := [(3, .int 0), (0, .ref h), (1, .int (nI t)), (2, .int x), (4, .int (nI i))]) hx hb dX5_isTaken_38 rfl hl (by decide) rfl (fun ls hl => ?_)
        refine lv_iinc (v := nI (i + 1)) (lv' := [(4, .int (nI (i + 1))), (3, .int 0), (0, .ref h), (1, .int (nI t)), (2, .int x)]) hx hb dX5_isTaken_39 hl (k := 4) rfl (nI_add i 1) (by decide) rfl (fun ls hl => ?_)
        refine lv_goto (tgt := 5) hx hb dX5_isTaken_42 (by decide) ?_
        have e_5 : bI (takB V x t (i + 1) = true) = 0 := by first | exact (bI_t (by rw [takB, h_4, Bool.true_or])).symm | exact (bI_t (by rw [takB, decide_eq_true h_2, decide_eq_true h_4, Bool.and_self, Bool.or_true])).symm | exact (bI_f (fun q9 => by rw [takB, Bool.or_eq_true, Bool.and_eq_true, decide_eq_true_eq, decide_eq_true_eq] at q9; exact q9.elim h_2 (fun r9 => r9.1 h_4))).symm | exact (bI_f (fun q9 => by rw [takB, Bool.or_eq_true, Bool.and_eq_true, decide_eq_true_eq, decide_eq_true_eq] at q9; exact q9.elim h_1 (fun r9 => h_4 r9.2))).symm
        exact ih_i (by omega)  _ (by rw [e_5]; exact lv_sub hl [2, 3, 4, 1, 0] rfl) 
      · refine lv_aload_n hx hb dX5_isTaken_22 rfl (lv_at hl 0 rfl) ?_
        refine lv_iload hx hb dX5_isTaken_23 (lv_at hl 4 rfl) ?_
        refine lv_iconst (v := 0) hx hb dX5_isTaken_25 (by decide) ?_
        refine call_VR (As := [.int (nI i), .int 0]) (rest := []) E rfl hK hP (c_X5_of_k l g h a V X i 0 (by omega) (by omega)) ok_X5_of rfl q3_94 [0] rfl (b_recv hK hP 0 0 rfl rfl rfl rfl) ⟨⟨rfl, rfl⟩, Nat.le_of_ble_eq_true rfl, Nat.le_of_ble_eq_true rfl⟩ hl.1 (Nat.le_of_ble_eq_true rfl) ⟨Nat.le_of_ble_eq_true rfl, Nat.le_of_ble_eq_true rfl⟩ rfl dX5_isTaken_26 ?_
        refine lv_iload_n hx hb dX5_isTaken_29 rfl (lv_at hl 2 rfl) ?_
        refine lv_icmp_ne (tgt := 37) hx hb dX5_isTaken_30 (by decide) (fun h_6 => ?_) (fun h_6 => ?_)
        · refine lv_iconst (v := 0) hx hb dX5_isTaken_37 (by decide) ?_
          refine lv_istore_n (lv' := [(3, .int 0), (0, .ref h), (1, .int (nI t)), (2, .int x), (4, .int (nI i))]) hx hb dX5_isTaken_38 rfl hl (by decide) rfl (fun ls hl => ?_)
          refine lv_iinc (v := nI (i + 1)) (lv' := [(4, .int (nI (i + 1))), (3, .int 0), (0, .ref h), (1, .int (nI t)), (2, .int x)]) hx hb dX5_isTaken_39 hl (k := 4) rfl (nI_add i 1) (by decide) rfl (fun ls hl => ?_)
          refine lv_goto (tgt := 5) hx hb dX5_isTaken_42 (by decide) ?_
          have e_7 : bI (takB V x t (i + 1) = true) = 0 := by first | exact (bI_t (by rw [takB, h_6, Bool.true_or])).symm | exact (bI_t (by rw [takB, decide_eq_true h_4, decide_eq_true h_6, Bool.and_self, Bool.or_true])).symm | exact (bI_f (fun q9 => by rw [takB, Bool.or_eq_true, Bool.and_eq_true, decide_eq_true_eq, decide_eq_true_eq] at q9; exact q9.elim h_4 (fun r9 => r9.1 h_6))).symm | exact (bI_f (fun q9 => by rw [takB, Bool.or_eq_true, Bool.and_eq_true, decide_eq_true_eq, decide_eq_true_eq] at q9; exact q9.elim h_2 (fun r9 => h_6 r9.2))).symm
          exact ih_i (by omega)  _ (by rw [e_7]; exact lv_sub hl [2, 3, 4, 1, 0] rfl) 
        · refine lv_iconst (v := 1) hx hb dX5_isTaken_33 (by decide) ?_
          refine lv_goto (tgt := 38) hx hb dX5_isTaken_34 (by decide) ?_
          refine lv_istore_n (lv' := [(3, .int 1), (0, .ref h), (1, .int (nI t)), (2, .int x), (4, .int (nI i))]) hx hb dX5_isTaken_38 rfl hl (by decide) rfl (fun ls hl => ?_)
          refine lv_iinc (v := nI (i + 1)) (lv' := [(4, .int (nI (i + 1))), (3, .int 1), (0, .ref h), (1, .int (nI t)), (2, .int x)]) hx hb dX5_isTaken_39 hl (k := 4) rfl (nI_add i 1) (by decide) rfl (fun ls hl => ?_)
          refine lv_goto (tgt := 5) hx hb dX5_isTaken_42 (by decide) ?_
          have e_8 : bI (takB V x t (i + 1) = true) = 1 := by first | exact (bI_t (by rw [takB, h_6, Bool.true_or])).symm | exact (bI_t (by rw [takB, decide_eq_true h_4, decide_eq_true h_6, Bool.and_self, Bool.or_true])).symm | exact (bI_f (fun q9 => by rw [takB, Bool.or_eq_true, Bool.and_eq_true, decide_eq_true_eq, decide_eq_true_eq] at q9; exact q9.elim h_4 (fun r9 => r9.1 h_6))).symm | exact (bI_f (fun q9 => by rw [takB, Bool.or_eq_true, Bool.and_eq_true, decide_eq_true_eq, decide_eq_true_eq] at q9; exact q9.elim h_2 (fun r9 => h_6 r9.2))).symm
          exact ih_i (by omega)  _ (by rw [e_8]; exact lv_sub hl [2, 3, 4, 1, 0] rfl) 

set_option maxHeartbeats 4000000 in
set_option maxRecDepth 100000 in
theorem c_X5_hang (l : Launch) (g : gx) (h : Nat) (a : Nat → Nat) (V X : sV) (x w : Int32) (t c0 : Nat) (n : Nat) (hn : X 9 0 = nI n) (hn5 : n ≤ 5) (hxt : isT x → x = nI t ∧ t < 6) (hc : t < 6 → V 3 t = nI c0 ∧ c0 ≤ 5) : cU (S := Bool × sV) l g yX5_hang cX5_hang 4 (some .int) ({ frames := 2, cells := 0, slots := 0, locals := 42 } : Room) [.ref h, .int x, .int w] [mV g h a V X] (fun u => some (.int (bif u.1 then (nI c0) else (hnM x w c0)))) (fun u => bif u.1 then (hnM x w c0 = 0 ∧ recP V X u.2 n) else (¬ hnM x w c0 = 0 ∧ u.2 = X)) (fun u => [mV g h a (bif u.1 then (addV V t c0 w) else V) u.2]) := by
  refine cU.mk (by decide +kernel) (Nat.le_of_ble_eq_true rfl) ?_
  intro p e s m below meth c ls E hK hW hl
  obtain ⟨hx, hb, hr, hml, hts, hown, hlocks, hin⟩ := id E
  have hown : s.vm.findClass RX5 = some m.cls := hown
  have hP := hW.1
  have hl : lv_has ls 4 [(0, .ref h), (1, .int x), (2, .int w)] := hl
  refine lv_iload_n hx hb dX5_hang_0 rfl (lv_at hl 1 rfl) ?_
  refine call_SR (As := [.int x]) (rest := []) E rfl hK hP (c_X5_isTown l g x) ok_X5_isTown rfl q3_88 [] rfl ⟨⟨rfl, rfl⟩, Nat.le_of_ble_eq_true rfl, Nat.le_of_ble_eq_true rfl⟩ hl.1 (Nat.le_of_ble_eq_true rfl) ⟨Nat.le_of_ble_eq_true rfl, Nat.le_of_ble_eq_true rfl⟩ rfl dX5_hang_1 ?_
  refine b_ne0 (tgt := 9) hx hb dX5_hang_4 (by decide) (fun h_1 => ?_) (fun h_1 => ?_)
  · have hT1 := h_1
    obtain ⟨rfl, ht⟩ := hxt h_1
    obtain ⟨hc, hc5⟩ := hc ht
    refine lv_iload_n hx hb dX5_hang_9 rfl (lv_at hl 2 rfl) ?_
    refine lv_iconst (v := 1) hx hb dX5_hang_10 (by decide) ?_
    refine lv_bipush (v := 9) hx hb dX5_hang_11 (by decide) ?_
    refine call_SR (As := [.int w, .int 1, .int 9]) (rest := []) E rfl hK hP (c_X5_in l g w 1 9) ok_X5_in rfl q3_91 [] rfl ⟨⟨rfl, rfl⟩, Nat.le_of_ble_eq_true rfl, Nat.le_of_ble_eq_true rfl⟩ hl.1 (Nat.le_of_ble_eq_true rfl) ⟨Nat.le_of_ble_eq_true rfl, Nat.le_of_ble_eq_true rfl⟩ rfl dX5_hang_13 ?_
    refine b_ne0 (tgt := 22) hx hb dX5_hang_16 (by decide) (fun h_2 => ?_) (fun h_2 => ?_)
    · refine lv_aload_n hx hb dX5_hang_22 rfl (lv_at hl 0 rfl) ?_
      refine lv_iload_n hx hb dX5_hang_23 rfl (lv_at hl 1 rfl) ?_
      refine lv_iconst (v := 3) hx hb dX5_hang_24 (by decide) ?_
      refine call_VR (As := [.int (nI t), .int 3]) (rest := []) E rfl hK hP (c_X5_of_k l g h a V X t 3 (by omega) (by omega)) ok_X5_of rfl q3_94 [0] rfl (b_recv hK hP 0 0 rfl rfl rfl rfl) ⟨⟨rfl, rfl⟩, Nat.le_of_ble_eq_true rfl, Nat.le_of_ble_eq_true rfl⟩ hl.1 (Nat.le_of_ble_eq_true rfl) ⟨Nat.le_of_ble_eq_true rfl, Nat.le_of_ble_eq_true rfl⟩ rfl dX5_hang_25 ?_
      refine b_top (y := nI c0) hc ?_
      refine lv_iconst (v := 5) hx hb dX5_hang_28 (by decide) ?_
      refine b_ne (tgt := 35) (c0) (5) hx hb rfl rfl (by omega) (by omega) dX5_hang_29 (by decide) (fun h_3 => ?_) (fun h_3 => ?_)
      · refine lv_aload_n hx hb dX5_hang_35 rfl (lv_at hl 0 rfl) ?_
        refine call_VU (As := []) (rest := []) E rfl hK hW (c_X5_record l g h a V X n hn hn5) ok_X5_record rfl q3_80 [0] rfl (by decide) (b_recv hK hP 0 0 rfl rfl rfl rfl) ⟨⟨rfl, rfl⟩, Nat.le_of_ble_eq_true rfl, Nat.le_of_ble_eq_true rfl⟩ hl.1 (Nat.le_of_ble_eq_true rfl) ⟨Nat.le_of_ble_eq_true rfl, Nat.le_of_ble_eq_true rfl⟩ rfl dX5_hang_36 (fun UR H locs hUR hW => ?_)
        have hW : wd g _ s.heap [mV g h a V UR] H locs := hW
        have hP := hW.1
        refine lv_aload_n hx hb dX5_hang_39 rfl (lv_at hl 0 rfl) ?_
        refine lv_iload_n hx hb dX5_hang_40 rfl (lv_at hl 1 rfl) ?_
        refine lv_iconst (v := 3) hx hb dX5_hang_41 (by decide) ?_
        refine call_VR (As := [.int (nI t), .int 3]) (rest := []) E rfl hK hP (c_X5_of_k l g h a V UR t 3 (by omega) (by omega)) ok_X5_of rfl q3_94 [0] rfl (b_recv hK hP 0 0 rfl rfl rfl rfl) ⟨⟨rfl, rfl⟩, Nat.le_of_ble_eq_true rfl, Nat.le_of_ble_eq_true rfl⟩ hl.1 (Nat.le_of_ble_eq_true rfl) ⟨Nat.le_of_ble_eq_true rfl, Nat.le_of_ble_eq_true rfl⟩ rfl dX5_hang_42 ?_
        refine b_top (y := nI c0) hc ?_
        refine lv_istore_n (lv' := [(3, .int (nI c0)), (0, .ref h), (1, .int (nI t)), (2, .int w)]) hx hb dX5_hang_45 rfl hl (by decide) rfl (fun ls hl => ?_)
        refine lv_aload_n hx hb dX5_hang_46 rfl (lv_at hl 1 rfl) ?_
        refine lv_iload_n hx hb dX5_hang_47 rfl (lv_at hl 2 rfl) ?_
        refine lv_bipush (v := 9) hx hb dX5_hang_48 (by decide) ?_
        refine lv_iload_n hx hb dX5_hang_50 rfl (lv_at hl 0 rfl) ?_
        refine lv_iadd hx hb dX5_hang_51 ?_
        refine b_top (y := nI (9 + c0)) (nI_add 9 c0) ?_
        refine lv_iload_n hx hb dX5_hang_52 rfl (lv_at hl 3 rfl) ?_
        refine call_VU (As := [.int (nI t), .int (nI (9 + c0)), .int w]) (rest := []) E rfl hK hW (c_X5_put_9 l g h a V UR t c0 w (by omega) (by omega)) ok_X5_put rfl q3_21 [0] rfl (by decide) (b_recv hK hP 0 0 rfl rfl rfl rfl) ⟨⟨rfl, rfl⟩, Nat.le_of_ble_eq_true rfl, Nat.le_of_ble_eq_true rfl⟩ hl.1 (Nat.le_of_ble_eq_true rfl) ⟨Nat.le_of_ble_eq_true rfl, Nat.le_of_ble_eq_true rfl⟩ rfl dX5_hang_53 (fun _u H locs _ hW => ?_)
        have hW : wd g _ s.heap [mV g h a (up2 V 9 (t * 5 + c0) w) UR] H locs := hW
        have hP := hW.1
        refine lv_aload_n hx hb dX5_hang_56 rfl (lv_at hl 1 rfl) ?_
        refine lv_iload_n hx hb dX5_hang_57 rfl (lv_at hl 2 rfl) ?_
        refine lv_bipush (v := 14) hx hb dX5_hang_58 (by decide) ?_
        refine lv_iload_n hx hb dX5_hang_60 rfl (lv_at hl 0 rfl) ?_
        refine lv_iadd hx hb dX5_hang_61 ?_
        refine b_top (y := nI (14 + c0)) (nI_add 14 c0) ?_
        refine lv_iconst (v := 0) hx hb dX5_hang_62 (by decide) ?_
        refine call_VU (As := [.int (nI t), .int (nI (14 + c0)), .int 0]) (rest := []) E rfl hK hW (c_X5_put_10 l g h a (up2 V 9 (t * 5 + c0) w) UR t c0 0 (by omega) (by omega)) ok_X5_put rfl q3_21 [0] rfl (by decide) (b_recv hK hP 0 0 rfl rfl rfl rfl) ⟨⟨rfl, rfl⟩, Nat.le_of_ble_eq_true rfl, Nat.le_of_ble_eq_true rfl⟩ hl.1 (Nat.le_of_ble_eq_true rfl) ⟨Nat.le_of_ble_eq_true rfl, Nat.le_of_ble_eq_true rfl⟩ rfl dX5_hang_63 (fun _u H locs _ hW => ?_)
        have hW : wd g _ s.heap [mV g h a (up2 (up2 V 9 (t * 5 + c0) w) 10 (t * 5 + c0) 0) UR] H locs := hW
        have hP := hW.1
        refine lv_aload_n hx hb dX5_hang_66 rfl (lv_at hl 1 rfl) ?_
        refine lv_iload_n hx hb dX5_hang_67 rfl (lv_at hl 2 rfl) ?_
        refine lv_bipush (v := 19) hx hb dX5_hang_68 (by decide) ?_
        refine lv_iload_n hx hb dX5_hang_70 rfl (lv_at hl 0 rfl) ?_
        refine lv_iadd hx hb dX5_hang_71 ?_
        refine b_top (y := nI (19 + c0)) (nI_add 19 c0) ?_
        refine lv_iconst (v := 0) hx hb dX5_hang_72 (by decide) ?_
        refine call_VU (As := [.int (nI t), .int (nI (19 + c0)), .int 0]) (rest := []) E rfl hK hW (c_X5_put_11 l g h a (up2 (up2 V 9 (t * 5 + c0) w) 10 (t * 5 + c0) 0) UR t c0 0 (by omega) (by omega)) ok_X5_put rfl q3_21 [0] rfl (by decide) (b_recv hK hP 0 0 rfl rfl rfl rfl) ⟨⟨rfl, rfl⟩, Nat.le_of_ble_eq_true rfl, Nat.le_of_ble_eq_true rfl⟩ hl.1 (Nat.le_of_ble_eq_true rfl) ⟨Nat.le_of_ble_eq_true rfl, Nat.le_of_ble_eq_true rfl⟩ rfl dX5_hang_73 (fun _u H locs _ hW => ?_)
        have hW : wd g _ s.heap [mV g h a (up2 (up2 (up2 V 9 (t * 5 + c0) w) 10 (t * 5 + c0) 0) 11 (t * 5 + c0) 0) UR] H locs := hW
        have hP := hW.1
        refine lv_aload_n hx hb dX5_hang_76 rfl (lv_at hl 1 rfl) ?_
        refine lv_iload_n hx hb dX5_hang_77 rfl (lv_at hl 2 rfl) ?_
        refine lv_iconst (v := 3) hx hb dX5_hang_78 (by decide) ?_
        refine lv_iload_n hx hb dX5_hang_79 rfl (lv_at hl 0 rfl) ?_
        refine lv_iconst (v := 1) hx hb dX5_hang_80 (by decide) ?_
        refine lv_iadd hx hb dX5_hang_81 ?_
        refine b_top (y := nI (c0 + 1)) (nI_add c0 1) ?_
        refine call_VU (As := [.int (nI t), .int 3, .int (nI (c0 + 1))]) (rest := []) E rfl hK hW (c_X5_put_k l g h a (up2 (up2 (up2 V 9 (t * 5 + c0) w) 10 (t * 5 + c0) 0) 11 (t * 5 + c0) 0) UR t 3 (nI (c0 + 1)) (by omega) (by omega)) ok_X5_put rfl q3_21 [0] rfl (by decide) (b_recv hK hP 0 0 rfl rfl rfl rfl) ⟨⟨rfl, rfl⟩, Nat.le_of_ble_eq_true rfl, Nat.le_of_ble_eq_true rfl⟩ hl.1 (Nat.le_of_ble_eq_true rfl) ⟨Nat.le_of_ble_eq_true rfl, Nat.le_of_ble_eq_true rfl⟩ rfl dX5_hang_82 (fun _u H locs _ hW => ?_)
        have hW : wd g _ s.heap [mV g h a (up2 (up2 (up2 (up2 V 9 (t * 5 + c0) w) 10 (t * 5 + c0) 0) 11 (t * 5 + c0) 0) 3 t (nI (c0 + 1))) UR] H locs := hW
        have hP := hW.1
        refine lv_iload_n hx hb dX5_hang_85 rfl (lv_at hl 0 rfl) ?_
        have hE : hnM (nI t) w c0 = 0 := by rw [hnM, if_pos hT1, if_pos h_2, if_neg h_3]
        exact uI_ret (true, UR) hW hx hb hr hlocks dX5_hang_86 (rfl) (show (hnM (nI t) w c0 = 0) ∧ _ from ⟨hE, hUR⟩) (by simp only [cond_true, cond_false]) (adr2 (L := [[h, a 0, a 1, a 2, a 3, a 4, a 5, a 6, a 7, a 8]]) rfl rfl)
      · refine lv_bipush (v := -3) hx hb dX5_hang_32 (by decide) ?_
        have hE : hnM (nI t) w c0 = -3 := by rw [hnM, if_pos hT1, if_pos h_2, if_pos h_3]
        exact uI_ret (false, X) hW hx hb hr hlocks dX5_hang_34 (hE.symm) (show (¬ hnM (nI t) w c0 = 0) ∧ (X = X) from ⟨by rw [hE]; decide, rfl⟩) (by simp only [cond_true, cond_false]) (adr2 (L := [[h, a 0, a 1, a 2, a 3, a 4, a 5, a 6, a 7, a 8]]) rfl rfl)
    · refine lv_bipush (v := -2) hx hb dX5_hang_19 (by decide) ?_
      have hE : hnM (nI t) w c0 = -2 := by rw [hnM, if_pos hT1, if_neg h_2]
      exact uI_ret (false, X) hW hx hb hr hlocks dX5_hang_21 (hE.symm) (show (¬ hnM (nI t) w c0 = 0) ∧ (X = X) from ⟨by rw [hE]; decide, rfl⟩) (by simp only [cond_true, cond_false]) (adr2 (L := [[h, a 0, a 1, a 2, a 3, a 4, a 5, a 6, a 7, a 8]]) rfl rfl)
  · refine lv_iconst (v := -1) hx hb dX5_hang_7 (by decide) ?_
    have hE : hnM x w c0 = -1 := by rw [hnM, if_neg h_1]
    exact uI_ret (false, X) hW hx hb hr hlocks dX5_hang_8 (hE.symm) (show (¬ hnM x w c0 = 0) ∧ (X = X) from ⟨by rw [hE]; decide, rfl⟩) (by simp only [cond_true, cond_false]) (adr2 (L := [[h, a 0, a 1, a 2, a 3, a 4, a 5, a 6, a 7, a 8]]) rfl rfl)
