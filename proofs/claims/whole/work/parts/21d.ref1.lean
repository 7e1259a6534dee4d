set_option maxHeartbeats 4000000 in
set_option maxRecDepth 100000 in
theorem c_X5_isBell (l : Launch) (g : gx) (h : Nat) (a : Nat → Nat) (V X : sV) (x y : Int32) (t c0 : Nat) (hxt : isT x → x = nI t ∧ t < 6) (hc : t < 6 → V 3 t = nI c0 ∧ c0 ≤ 5) : cR l g yX5_isBell cX5_isBell 3 (some .boolean) ({ frames := 2, cells := 0, slots := 0, locals := 42 } : Room) [.ref h, .int x, .int y] [mV g h a V X] (.int (bI (hasB V x y))) := by
  refine cR.mk (by decide +kernel) (Nat.le_of_ble_eq_true rfl) ?_
  intro p e s m below meth c ls E hK hP hl
  obtain ⟨hx, hb, hr, hml, hts, hown, hlocks, hin⟩ := id E
  have hown : s.vm.findClass RX5 = some m.cls := hown
  have hl : lv_has ls 3 [(0, .ref h), (1, .int x), (2, .int y)] := hl
  refine lv_iload_n hx hb dX5_isBell_0 rfl (lv_at hl 1 rfl) ?_
  refine call_SR (As := [.int x]) (rest := []) E rfl hK hP (c_X5_isTown l g x) ok_X5_isTown rfl q3_88 [] rfl ⟨⟨rfl, rfl⟩, Nat.le_of_ble_eq_true rfl, Nat.le_of_ble_eq_true rfl⟩ hl.1 (Nat.le_of_ble_eq_true rfl) ⟨Nat.le_of_ble_eq_true rfl, Nat.le_of_ble_eq_true rfl⟩ rfl dX5_isBell_1 ?_
  refine b_eq0 (tgt := 27) hx hb dX5_isBell_4 (by decide) (fun h_1 => ?_) (fun h_1 => ?_)
  · refine lv_iconst (v := 0) hx hb dX5_isBell_27 (by decide) ?_
    exact rZ_ret hx hb hr hlocks dX5_isBell_28 (by first | exact bI_t ⟨hT1, by rw [nI_clamp (by omega), hc]; exact (ltc1 hc5 _).mp h_1⟩ | exact bI_f (fun q => absurd q.1 h_1) | exact bI_f (fun q => h_1 ((ltc1 hc5 _).mpr (by have q2 := q.2; rw [nI_clamp (by omega), hc] at q2; exact q2))))
  · have hT1 := h_1
    obtain ⟨rfl, ht⟩ := hxt h_1
    obtain ⟨hc, hc5⟩ := hc ht
    refine lv_iload_n hx hb dX5_isBell_7 rfl (lv_at hl 2 rfl) ?_
    refine lv_iconst (v := 0) hx hb dX5_isBell_8 (by decide) ?_
    refine lv_aload_n hx hb dX5_isBell_9 rfl (lv_at hl 0 rfl) ?_
    refine lv_iload_n hx hb dX5_isBell_10 rfl (lv_at hl 1 rfl) ?_
    refine lv_iconst (v := 3) hx hb dX5_isBell_11 (by decide) ?_
    refine call_VR (As := [.int (nI t), .int 3]) (rest := [.int 0, .int y]) E rfl hK hP (c_X5_of_k l g h a V X t 3 (by omega) (by omega)) ok_X5_of rfl q3_94 [0] rfl (b_recv hK hP 0 0 rfl rfl rfl rfl) ⟨⟨rfl, rfl⟩, Nat.le_of_ble_eq_true rfl, Nat.le_of_ble_eq_true rfl⟩ hl.1 (Nat.le_of_ble_eq_true rfl) ⟨Nat.le_of_ble_eq_true rfl, Nat.le_of_ble_eq_true rfl⟩ rfl dX5_isBell_12 ?_
    refine b_top (y := nI c0) hc ?_
    refine lv_iconst (v := 1) hx hb dX5_isBell_15 (by decide) ?_
    refine lv_isub hx hb dX5_isBell_16 ?_
    refine call_SR (As := [.int y, .int 0, .int ((nI c0) - 1)]) (rest := []) E rfl hK hP (c_X5_in l g y 0 ((nI c0) - 1)) ok_X5_in rfl q3_91 [] rfl ⟨⟨rfl, rfl⟩, Nat.le_of_ble_eq_true rfl, Nat.le_of_ble_eq_true rfl⟩ hl.1 (Nat.le_of_ble_eq_true rfl) ⟨Nat.le_of_ble_eq_true rfl, Nat.le_of_ble_eq_true rfl⟩ rfl dX5_isBell_17 ?_
    refine b_eq0 (tgt := 27) hx hb dX5_isBell_20 (by decide) (fun h_2 => ?_) (fun h_2 => ?_)
    · refine lv_iconst (v := 0) hx hb dX5_isBell_27 (by decide) ?_
      exact rZ_ret hx hb hr hlocks dX5_isBell_28 (by first | exact bI_t ⟨hT1, by rw [nI_clamp (by omega), hc]; exact (ltc1 hc5 _).mp h_2⟩ | exact bI_f (fun q => absurd q.1 h_2) | exact bI_f (fun q => h_2 ((ltc1 hc5 _).mpr (by have q2 := q.2; rw [nI_clamp (by omega), hc] at q2; exact q2))))
    · refine lv_iconst (v := 1) hx hb dX5_isBell_23 (by decide) ?_
      refine lv_goto (tgt := 28) hx hb dX5_isBell_24 (by decide) ?_
      exact rZ_ret hx hb hr hlocks dX5_isBell_28 (by first | exact bI_t ⟨hT1, by rw [nI_clamp (by omega), hc]; exact (ltc1 hc5 _).mp h_2⟩ | exact bI_f (fun q => absurd q.1 h_2) | exact bI_f (fun q => h_2 ((ltc1 hc5 _).mpr (by have q2 := q.2; rw [nI_clamp (by omega), hc] at q2; exact q2))))

set_option maxHeartbeats 4000000 in
set_option maxRecDepth 100000 in
theorem c_X5_rings (l : Launch) (g : gx) (h : Nat) (a : Nat → Nat) (V X : sV) (t : Nat) (pl : Int32) (c0 : Nat) (hc : V 3 t = nI c0) (hc5 : c0 ≤ 5) (ht : t < 6) : cR l g yX5_rings cX5_rings 7 (some .int) ({ frames := 3, cells := 0, slots := 0, locals := 65 } : Room) [.ref h, .int (nI t), .int pl] [mV g h a V X] (.int ((rgM V t pl c0).1)) := by
  refine cR.mk (by decide +kernel) (Nat.le_of_ble_eq_true rfl) ?_
  intro p e s m below meth c ls E hK hP hl
  obtain ⟨hx, hb, hr, hml, hts, hown, hlocks, hin⟩ := id E
  have hown : s.vm.findClass RX5 = some m.cls := hown
  have hl : lv_has ls 7 [(0, .ref h), (1, .int (nI t)), (2, .int pl)] := hl
  refine lv_aload_n hx hb dX5_rings_0 rfl (lv_at hl 0 rfl) ?_
  refine lv_iload_n hx hb dX5_rings_1 rfl (lv_at hl 1 rfl) ?_
  refine lv_iload_n hx hb dX5_rings_2 rfl (lv_at hl 2 rfl) ?_
  refine call_VR (As := [.int (nI t), .int pl]) (rest := []) E rfl hK hP (c_X5_wanted l g h a V X t pl (by omega)) ok_X5_wanted rfl q3_166 [0] rfl (b_recv hK hP 0 0 rfl rfl rfl rfl) ⟨⟨rfl, rfl⟩, Nat.le_of_ble_eq_true rfl, Nat.le_of_ble_eq_true rfl⟩ hl.1 (Nat.le_of_ble_eq_true rfl) ⟨Nat.le_of_ble_eq_true rfl, Nat.le_of_ble_eq_true rfl⟩ rfl dX5_rings_3 ?_
  refine lv_istore_n (lv' := [(3, .int (wM V t pl)), (0, .ref h), (1, .int (nI t)), (2, .int pl)]) hx hb dX5_rings_6 rfl hl (by decide) rfl (fun ls hl => ?_)
  refine lv_aload_n hx hb dX5_rings_7 rfl (lv_at hl 1 rfl) ?_
  refine lv_iload_n hx hb dX5_rings_8 rfl (lv_at hl 2 rfl) ?_
  refine lv_iconst (v := 1) hx hb dX5_rings_9 (by decide) ?_
  refine call_VR (As := [.int (nI t), .int 1]) (rest := []) E rfl hK hP (c_X5_of_k l g h a V X t 1 (by omega) (by omega)) ok_X5_of rfl q3_94 [0] rfl (b_recv hK hP 0 0 rfl rfl rfl rfl) ⟨⟨rfl, rfl⟩, Nat.le_of_ble_eq_true rfl, Nat.le_of_ble_eq_true rfl⟩ hl.1 (Nat.le_of_ble_eq_true rfl) ⟨Nat.le_of_ble_eq_true rfl, Nat.le_of_ble_eq_true rfl⟩ rfl dX5_rings_10 ?_
  refine lv_aload_n hx hb dX5_rings_13 rfl (lv_at hl 1 rfl) ?_
  refine lv_iload_n hx hb dX5_rings_14 rfl (lv_at hl 2 rfl) ?_
  refine lv_iconst (v := 2) hx hb dX5_rings_15 (by decide) ?_
  refine call_VR (As := [.int (nI t), .int 2]) (rest := [.int (V 1 t)]) E rfl hK hP (c_X5_of_k l g h a V X t 2 (by omega) (by omega)) ok_X5_of rfl q3_94 [0] rfl (b_recv hK hP 0 0 rfl rfl rfl rfl) ⟨⟨rfl, rfl⟩, Nat.le_of_ble_eq_true rfl, Nat.le_of_ble_eq_true rfl⟩ hl.1 (Nat.le_of_ble_eq_true rfl) ⟨Nat.le_of_ble_eq_true rfl, Nat.le_of_ble_eq_true rfl⟩ rfl dX5_rings_16 ?_
  refine lv_isub hx hb dX5_rings_19 ?_
  refine lv_istore (lv' := [(4, .int ((V 1 t) - (V 2 t))), (3, .int (wM V t pl)), (0, .ref h), (1, .int (nI t)), (2, .int pl)]) hx hb dX5_rings_20 hl (by decide) rfl (fun ls hl => ?_)
  refine lv_iconst (v := 0) hx hb dX5_rings_22 (by decide) ?_
  refine lv_istore (lv' := [(5, .int 0), (4, .int ((V 1 t) - (V 2 t))), (3, .int (wM V t pl)), (0, .ref h), (1, .int (nI t)), (2, .int pl)]) hx hb dX5_rings_23 hl (by decide) rfl (fun ls hl => ?_)
  refine lv_iconst (v := 0) hx hb dX5_rings_25 (by decide) ?_
  refine lv_istore (lv' := [(6, .int 0), (5, .int 0), (4, .int ((V 1 t) - (V 2 t))), (3, .int (wM V t pl)), (0, .ref h), (1, .int (nI t)), (2, .int pl)]) hx hb dX5_rings_26 hl (by decide) rfl (fun ls hl => ?_)
  refine loopN (fun i : Nat => ∀ ls : Array Slot, lv_has ls 7 [(0, .ref h), (1, .int (nI t)), (3, .int (wM V t pl)), (4, .int ((rgM V t pl i).2)), (5, .int ((rgM V t pl i).1)), (6, .int (nI i))] → W p l e _ s m _ below meth c s.heap [] 0 0 _ (F0 m 28 ls [])) (c0) (fun i hi ih_i => ?_) (0) (by omega)  ls (lv_sub hl [4, 5, 3, 2, 1, 0] rfl) 
  intro  ls hl 
  refine lv_iload hx hb dX5_rings_28 (lv_at hl 5 rfl) ?_
  refine lv_aload_n hx hb dX5_rings_30 rfl (lv_at hl 0 rfl) ?_
  refine lv_iload_n hx hb dX5_rings_31 rfl (lv_at hl 1 rfl) ?_
  refine lv_iconst (v := 3) hx hb dX5_rings_32 (by decide) ?_
  refine call_VR (As := [.int (nI t), .int 3]) (rest := [.int (nI i)]) E rfl hK hP (c_X5_of_k l g h a V X t 3 (by omega) (by omega)) ok_X5_of rfl q3_94 [0] rfl (b_recv hK hP 0 0 rfl rfl rfl rfl) ⟨⟨rfl, rfl⟩, Nat.le_of_ble_eq_true rfl, Nat.le_of_ble_eq_true rfl⟩ hl.1 (Nat.le_of_ble_eq_true rfl) ⟨Nat.le_of_ble_eq_true rfl, Nat.le_of_ble_eq_true rfl⟩ rfl dX5_rings_33 ?_
  refine b_top (y := nI c0) hc ?_
  refine b_ge (tgt := 103) (i) (c0) hx hb rfl rfl (by omega) (by omega) dX5_rings_36 (by decide) (fun h_1 => ?_) (fun h_1 => ?_)
  · obtain rfl : i = c0 := by omega
    refine lv_iload hx hb dX5_rings_103 (lv_at hl 4 rfl) ?_
    exact rI_ret hx hb hr hlocks dX5_rings_105 (rfl)
  · refine lv_iload_n hx hb dX5_rings_39 rfl (lv_at hl 2 rfl) ?_
    refine lv_iload hx hb dX5_rings_40 (lv_at hl 5 rfl) ?_
    refine lv_ishr hx hb dX5_rings_42 ?_
    refine lv_iconst (v := 1) hx hb dX5_rings_43 (by decide) ?_
    refine lv_iand hx hb dX5_rings_44 ?_
    refine lv_iconst (v := 1) hx hb dX5_rings_45 (by decide) ?_
    refine lv_icmp_ne (tgt := 97) hx hb dX5_rings_46 (by decide) (fun h_2 => ?_) (fun h_2 => ?_)
    · refine lv_iinc (v := nI (i + 1)) (lv' := [(6, .int (nI (i + 1))), (0, .ref h), (1, .int (nI t)), (3, .int (wM V t pl)), (4, .int ((rgM V t pl i).2)), (5, .int ((rgM V t pl i).1))]) hx hb dX5_rings_97 hl (k := 5) rfl (nI_add i 1) (by decide) rfl (fun ls hl => ?_)
      refine lv_goto (tgt := 28) hx hb dX5_rings_100 (by decide) ?_
      have e_3 : (rgM V t pl (i + 1)).2 = (rgM V t pl i).2 := by simp only [rgM, bitW]; simp only [h_1, h_2, not_true_eq_false, not_false_eq_true, ite_true, ite_false, reduceIte]
      have e_4 : (rgM V t pl (i + 1)).1 = (rgM V t pl i).1 := by simp only [rgM, bitW]; simp only [h_1, h_2, not_true_eq_false, not_false_eq_true, ite_true, ite_false, reduceIte]
      exact ih_i (by omega)  _ (by rw [e_3, e_4]; exact lv_sub hl [1, 2, 3, 4, 5, 0] rfl) 
    · refine lv_aload_n hx hb dX5_rings_49 rfl (lv_at hl 0 rfl) ?_
      refine lv_iload_n hx hb dX5_rings_50 rfl (lv_at hl 1 rfl) ?_
      refine lv_bipush (v := 14) hx hb dX5_rings_51 (by decide) ?_
      refine lv_iload hx hb dX5_rings_53 (lv_at hl 5 rfl) ?_
      refine lv_iadd hx hb dX5_rings_55 ?_
      refine b_top (y := nI (14 + i)) (nI_add 14 i) ?_
      refine call_VR (As := [.int (nI t), .int (nI (14 + i))]) (rest := []) E rfl hK hP (c_X5_of_10 l g h a V X t i (by omega) (by omega)) ok_X5_of rfl q3_94 [0] rfl (b_recv hK hP 0 0 rfl rfl rfl rfl) ⟨⟨rfl, rfl⟩, Nat.le_of_ble_eq_true rfl, Nat.le_of_ble_eq_true rfl⟩ hl.1 (Nat.le_of_ble_eq_true rfl) ⟨Nat.le_of_ble_eq_true rfl, Nat.le_of_ble_eq_true rfl⟩ rfl dX5_rings_56 ?_
      refine lv_bipush (v := 6) hx hb dX5_rings_59 (by decide) ?_
      refine lv_icmp_ge (tgt := 97) hx hb dX5_rings_61 (by decide) (fun h_5 => ?_) (fun h_5 => ?_)
      · refine lv_iinc (v := nI (i + 1)) (lv' := [(6, .int (nI (i + 1))), (0, .ref h), (1, .int (nI t)), (3, .int (wM V t pl)), (4, .int ((rgM V t pl i).2)), (5, .int ((rgM V t pl i).1))]) hx hb dX5_rings_97 hl (k := 5) rfl (nI_add i 1) (by decide) rfl (fun ls hl => ?_)
        refine lv_goto (tgt := 28) hx hb dX5_rings_100 (by decide) ?_
        have e_6 : (rgM V t pl (i + 1)).2 = (rgM V t pl i).2 := by simp only [rgM, bitW]; simp only [h_1, h_2, h_5, not_true_eq_false, not_false_eq_true, ite_true, ite_false, reduceIte]
        have e_7 : (rgM V t pl (i + 1)).1 = (rgM V t pl i).1 := by simp only [rgM, bitW]; simp only [h_1, h_2, h_5, not_true_eq_false, not_false_eq_true, ite_true, ite_false, reduceIte]
        exact ih_i (by omega)  _ (by rw [e_6, e_7]; exact lv_sub hl [1, 2, 3, 4, 5, 0] rfl) 
      · refine lv_aload_n hx hb dX5_rings_64 rfl (lv_at hl 0 rfl) ?_
        refine lv_iload_n hx hb dX5_rings_65 rfl (lv_at hl 1 rfl) ?_
        refine lv_iload hx hb dX5_rings_66 (lv_at hl 5 rfl) ?_
        refine call_VR (As := [.int (nI t), .int (nI i)]) (rest := []) E rfl hK hP (c_X5_takes l g h a V X t i (by omega) (by omega)) ok_X5_takes rfl q3_170 [0] rfl (b_recv hK hP 0 0 rfl rfl rfl rfl) ⟨⟨rfl, rfl⟩, Nat.le_of_ble_eq_true rfl, Nat.le_of_ble_eq_true rfl⟩ hl.1 (Nat.le_of_ble_eq_true rfl) ⟨Nat.le_of_ble_eq_true rfl, Nat.le_of_ble_eq_true rfl⟩ rfl dX5_rings_68 ?_
        refine lv_iload hx hb dX5_rings_71 (lv_at hl 3 rfl) ?_
        refine lv_icmp_gt (tgt := 97) hx hb dX5_rings_73 (by decide) (fun h_8 => ?_) (fun h_8 => ?_)
        · refine lv_iinc (v := nI (i + 1)) (lv' := [(6, .int (nI (i + 1))), (0, .ref h), (1, .int (nI t)), (3, .int (wM V t pl)), (4, .int ((rgM V t pl i).2)), (5, .int ((rgM V t pl i).1))]) hx hb dX5_rings_97 hl (k := 5) rfl (nI_add i 1) (by decide) rfl (fun ls hl => ?_)
          refine lv_goto (tgt := 28) hx hb dX5_rings_100 (by decide) ?_
          have e_9 : (rgM V t pl (i + 1)).2 = (rgM V t pl i).2 := by simp only [rgM, bitW]; simp only [h_1, h_2, h_5, h_8, not_true_eq_false, not_false_eq_true, ite_true, ite_false, reduceIte]
          have e_10 : (rgM V t pl (i + 1)).1 = (rgM V t pl i).1 := by simp only [rgM, bitW]; simp only [h_1, h_2, h_5, h_8, not_true_eq_false, not_false_eq_true, ite_true, ite_false, reduceIte]
          exact ih_i (by omega)  _ (by rw [e_9, e_10]; exact lv_sub hl [1, 2, 3, 4, 5, 0] rfl) 
        · refine lv_iload hx hb dX5_rings_76 (lv_at hl 4 rfl) ?_
          refine lv_iconst (v := 1) hx hb dX5_rings_78 (by decide) ?_
          refine lv_iload hx hb dX5_rings_79 (lv_at hl 5 rfl) ?_
          refine lv_ishl hx hb dX5_rings_81 ?_
          refine lv_ior hx hb dX5_rings_82 ?_
          refine lv_istore (lv' := [(5, .int (((rgM V t pl i).1) ||| ((1 : Int32) <<< ((nI i) &&& 31)))), (0, .ref h), (1, .int (nI t)), (3, .int (wM V t pl)), (4, .int ((rgM V t pl i).2)), (6, .int (nI i))]) hx hb dX5_rings_83 hl (by decide) rfl (fun ls hl => ?_)
          refine lv_iload hx hb dX5_rings_85 (lv_at hl 4 rfl) ?_
          refine lv_aload_n hx hb dX5_rings_87 rfl (lv_at hl 1 rfl) ?_
          refine lv_iload_n hx hb dX5_rings_88 rfl (lv_at hl 2 rfl) ?_
          refine lv_iload hx hb dX5_rings_89 (lv_at hl 5 rfl) ?_
          refine call_VR (As := [.int (nI t), .int (nI i)]) (rest := [.int ((rgM V t pl i).2)]) E rfl hK hP (c_X5_takes l g h a V X t i (by omega) (by omega)) ok_X5_takes rfl q3_170 [0] rfl (b_recv hK hP 0 0 rfl rfl rfl rfl) ⟨⟨rfl, rfl⟩, Nat.le_of_ble_eq_true rfl, Nat.le_of_ble_eq_true rfl⟩ hl.1 (Nat.le_of_ble_eq_true rfl) ⟨Nat.le_of_ble_eq_true rfl, Nat.le_of_ble_eq_true rfl⟩ rfl dX5_rings_91 ?_
          refine lv_isub hx hb dX5_rings_94 ?_
          refine lv_istore (lv' := [(4, .int (((rgM V t pl i).2) - (rF (V 9 (t * 5 + i))))), (5, .int (((rgM V t pl i).1) ||| ((1 : Int32) <<< ((nI i) &&& 31)))), (0, .ref h), (1, .int (nI t)), (3, .int (wM V t pl)), (6, .int (nI i))]) hx hb dX5_rings_95 hl (by decide) rfl (fun ls hl => ?_)
          refine lv_iinc (v := nI (i + 1)) (lv' := [(6, .int (nI (i + 1))), (4, .int (((rgM V t pl i).2) - (rF (V 9 (t * 5 + i))))), (5, .int (((rgM V t pl i).1) ||| ((1 : Int32) <<< ((nI i) &&& 31)))), (0, .ref h), (1, .int (nI t)), (3, .int (wM V t pl))]) hx hb dX5_rings_97 hl (k := 5) rfl (nI_add i 1) (by decide) rfl (fun ls hl => ?_)
          refine lv_goto (tgt := 28) hx hb dX5_rings_100 (by decide) ?_
          have e_11 : (rgM V t pl (i + 1)).2 = ((rgM V t pl i).2) - (rF (V 9 (t * 5 + i))) := by simp only [rgM, bitW]; simp only [h_1, h_2, h_5, h_8, not_true_eq_false, not_false_eq_true, ite_true, ite_false, reduceIte]
          have e_12 : (rgM V t pl (i + 1)).1 = ((rgM V t pl i).1) ||| ((1 : Int32) <<< ((nI i) &&& 31)) := by simp only [rgM, bitW]; simp only [h_1, h_2, h_5, h_8, not_true_eq_false, not_false_eq_true, ite_true, ite_false, reduceIte]
          exact ih_i (by omega)  _ (by rw [e_11, e_12]; exact lv_sub hl [3, 4, 5, 1, 2, 0] rfl) 
