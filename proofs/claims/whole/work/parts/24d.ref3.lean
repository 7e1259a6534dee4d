set_option maxHeartbeats 4000000 in
set_option maxRecDepth 100000 in
theorem c_X5_settle (l : Launch) (g : gx) (h : Nat) (a : Nat → Nat) (V X : sV) (x mi ri : Int32) (t : Nat) (n : Nat) (hn : X 9 0 = nI n) (hn5 : n ≤ 5) (hxt : isT x → x = nI t ∧ t < 6) : cU (S := Bool × sV) l g yX5_settle cX5_settle 4 (some .int) ({ frames := 2, cells := 0, slots := 0, locals := 46 } : Room) [.ref h, .int x, .int mi, .int ri] [mV g h a V X] (fun u => some (.int (bif u.1 then (minI (V 2 t) ri) else (seM V x mi ri t)))) (fun u => bif u.1 then (seM V x mi ri t = 0 ∧ recP V X u.2 n) else (¬ seM V x mi ri t = 0 ∧ u.2 = X)) (fun u => [mV g h a (bif u.1 then (up2 (up2 (up2 V 0 t mi) 1 t ri) 2 t (minI (V 2 t) ri)) else V) u.2]) := by
  refine cU.mk (by decide +kernel) (Nat.le_of_ble_eq_true rfl) ?_
  intro p e s m below meth c ls E hK hW hl
  obtain ⟨hx, hb, hr, hml, hts, hown, hlocks, hin⟩ := id E
  have hown : s.vm.findClass RX5 = some m.cls := hown
  have hP := hW.1
  have hl : lv_has ls 4 [(0, .ref h), (1, .int x), (2, .int mi), (3, .int ri)] := hl
  refine lv_iload_n hx hb dX5_settle_0 rfl (lv_at hl 1 rfl) ?_
  refine call_SR (As := [.int x]) (rest := []) E rfl hK hP (c_X5_isTown l g x) ok_X5_isTown rfl q3_88 [] rfl ⟨⟨rfl, rfl⟩, Nat.le_of_ble_eq_true rfl, Nat.le_of_ble_eq_true rfl⟩ hl.1 (Nat.le_of_ble_eq_true rfl) ⟨Nat.le_of_ble_eq_true rfl, Nat.le_of_ble_eq_true rfl⟩ rfl dX5_settle_1 ?_
  refine b_ne0 (tgt := 9) hx hb dX5_settle_4 (by decide) (fun h_1 => ?_) (fun h_1 => ?_)
  · have hT1 := h_1
    obtain ⟨rfl, ht⟩ := hxt h_1
    refine lv_iload_n hx hb dX5_settle_9 rfl (lv_at hl 2 rfl) ?_
    refine lv_iconst (v := 0) hx hb dX5_settle_10 (by decide) ?_
    refine lv_bipush (v := 40) hx hb dX5_settle_11 (by decide) ?_
    refine call_SR (As := [.int mi, .int 0, .int 40]) (rest := []) E rfl hK hP (c_X5_in l g mi 0 40) ok_X5_in rfl q3_91 [] rfl ⟨⟨rfl, rfl⟩, Nat.le_of_ble_eq_true rfl, Nat.le_of_ble_eq_true rfl⟩ hl.1 (Nat.le_of_ble_eq_true rfl) ⟨Nat.le_of_ble_eq_true rfl, Nat.le_of_ble_eq_true rfl⟩ rfl dX5_settle_13 ?_
    refine b_eq0 (tgt := 29) hx hb dX5_settle_16 (by decide) (fun h_2 => ?_) (fun h_2 => ?_)
    · refine lv_bipush (v := -2) hx hb dX5_settle_29 (by decide) ?_
      have hE : seM V (nI t) mi ri t = -2 := by rw [seM, if_pos hT1]; first | (rw [if_pos h_1, if_neg h_2]; done) | (rw [if_neg h_2]; done)
      exact uI_ret (false, X) hW hx hb hr hlocks dX5_settle_31 (hE.symm) (show (¬ seM V (nI t) mi ri t = 0) ∧ (X = X) from ⟨by rw [hE]; decide, rfl⟩) (by simp only [cond_true, cond_false]) (adr2 (L := [[h, a 0, a 1, a 2, a 3, a 4, a 5, a 6, a 7, a 8]]) rfl rfl)
    · refine lv_iload_n hx hb dX5_settle_19 rfl (lv_at hl 3 rfl) ?_
      refine lv_iconst (v := 1) hx hb dX5_settle_20 (by decide) ?_
      refine lv_bipush (v := 20) hx hb dX5_settle_21 (by decide) ?_
      refine call_SR (As := [.int ri, .int 1, .int 20]) (rest := []) E rfl hK hP (c_X5_in l g ri 1 20) ok_X5_in rfl q3_91 [] rfl ⟨⟨rfl, rfl⟩, Nat.le_of_ble_eq_true rfl, Nat.le_of_ble_eq_true rfl⟩ hl.1 (Nat.le_of_ble_eq_true rfl) ⟨Nat.le_of_ble_eq_true rfl, Nat.le_of_ble_eq_true rfl⟩ rfl dX5_settle_23 ?_
      refine b_ne0 (tgt := 32) hx hb dX5_settle_26 (by decide) (fun h_3 => ?_) (fun h_3 => ?_)
      · refine lv_aload_n hx hb dX5_settle_32 rfl (lv_at hl 0 rfl) ?_
        refine lv_iload_n hx hb dX5_settle_33 rfl (lv_at hl 1 rfl) ?_
        refine lv_iload_n hx hb dX5_settle_34 rfl (lv_at hl 2 rfl) ?_
        refine call_VR (As := [.int (nI t), .int mi]) (rest := []) E rfl hK hP (c_X5_isTaken l g h a V X t mi (by omega)) ok_X5_isTaken rfl q3_110 [0] rfl (b_recv hK hP 0 0 rfl rfl rfl rfl) ⟨⟨rfl, rfl⟩, Nat.le_of_ble_eq_true rfl, Nat.le_of_ble_eq_true rfl⟩ hl.1 (Nat.le_of_ble_eq_true rfl) ⟨Nat.le_of_ble_eq_true rfl, Nat.le_of_ble_eq_true rfl⟩ rfl dX5_settle_35 ?_
        refine b_eq0 (tgt := 44) hx hb dX5_settle_38 (by decide) (fun h_4 => ?_) (fun h_4 => ?_)
        · refine lv_aload_n hx hb dX5_settle_44 rfl (lv_at hl 0 rfl) ?_
          refine call_VU (As := []) (rest := []) E rfl hK hW (c_X5_record l g h a V X n hn hn5) ok_X5_record rfl q3_80 [0] rfl (by decide) (b_recv hK hP 0 0 rfl rfl rfl rfl) ⟨⟨rfl, rfl⟩, Nat.le_of_ble_eq_true rfl, Nat.le_of_ble_eq_true rfl⟩ hl.1 (Nat.le_of_ble_eq_true rfl) ⟨Nat.le_of_ble_eq_true rfl, Nat.le_of_ble_eq_true rfl⟩ rfl dX5_settle_45 (fun UR H locs hUR hW => ?_)
          have hW : wd g _ s.heap [mV g h a V UR] H locs := hW
          have hP := hW.1
          refine lv_aload_n hx hb dX5_settle_48 rfl (lv_at hl 0 rfl) ?_
          refine lv_iload_n hx hb dX5_settle_49 rfl (lv_at hl 1 rfl) ?_
          refine lv_iconst (v := 0) hx hb dX5_settle_50 (by decide) ?_
          refine lv_iload_n hx hb dX5_settle_51 rfl (lv_at hl 2 rfl) ?_
          refine call_VU (As := [.int (nI t), .int 0, .int mi]) (rest := []) E rfl hK hW (c_X5_put_k l g h a V UR t 0 mi (by omega) (by omega)) ok_X5_put rfl q3_21 [0] rfl (by decide) (b_recv hK hP 0 0 rfl rfl rfl rfl) ⟨⟨rfl, rfl⟩, Nat.le_of_ble_eq_true rfl, Nat.le_of_ble_eq_true rfl⟩ hl.1 (Nat.le_of_ble_eq_true rfl) ⟨Nat.le_of_ble_eq_true rfl, Nat.le_of_ble_eq_true rfl⟩ rfl dX5_settle_52 (fun _u H locs _ hW => ?_)
          have hW : wd g _ s.heap [mV g h a (up2 V 0 t mi) UR] H locs := hW
          have hP := hW.1
          refine lv_aload_n hx hb dX5_settle_55 rfl (lv_at hl 0 rfl) ?_
          refine lv_iload_n hx hb dX5_settle_56 rfl (lv_at hl 1 rfl) ?_
          refine lv_iconst (v := 1) hx hb dX5_settle_57 (by decide) ?_
          refine lv_iload_n hx hb dX5_settle_58 rfl (lv_at hl 3 rfl) ?_
          refine call_VU (As := [.int (nI t), .int 1, .int ri]) (rest := []) E rfl hK hW (c_X5_put_k l g h a (up2 V 0 t mi) UR t 1 ri (by omega) (by omega)) ok_X5_put rfl q3_21 [0] rfl (by decide) (b_recv hK hP 0 0 rfl rfl rfl rfl) ⟨⟨rfl, rfl⟩, Nat.le_of_ble_eq_true rfl, Nat.le_of_ble_eq_true rfl⟩ hl.1 (Nat.le_of_ble_eq_true rfl) ⟨Nat.le_of_ble_eq_true rfl, Nat.le_of_ble_eq_true rfl⟩ rfl dX5_settle_59 (fun _u H locs _ hW => ?_)
          have hW : wd g _ s.heap [mV g h a (up2 (up2 V 0 t mi) 1 t ri) UR] H locs := hW
          have hP := hW.1
          refine lv_aload_n hx hb dX5_settle_62 rfl (lv_at hl 0 rfl) ?_
          refine lv_iload_n hx hb dX5_settle_63 rfl (lv_at hl 1 rfl) ?_
          refine lv_iconst (v := 2) hx hb dX5_settle_64 (by decide) ?_
          refine lv_aload_n hx hb dX5_settle_65 rfl (lv_at hl 0 rfl) ?_
          refine lv_iload_n hx hb dX5_settle_66 rfl (lv_at hl 1 rfl) ?_
          refine lv_iconst (v := 2) hx hb dX5_settle_67 (by decide) ?_
          refine call_VR (As := [.int (nI t), .int 2]) (rest := [.int 2, .int (nI t), .ref h]) E rfl hK hP (c_X5_of_k l g h a (up2 (up2 V 0 t mi) 1 t ri) UR t 2 (by omega) (by omega)) ok_X5_of rfl q3_94 [0] rfl (b_recv hK hP 0 0 rfl rfl rfl rfl) ⟨⟨rfl, rfl⟩, Nat.le_of_ble_eq_true rfl, Nat.le_of_ble_eq_true rfl⟩ hl.1 (Nat.le_of_ble_eq_true rfl) ⟨Nat.le_of_ble_eq_true rfl, Nat.le_of_ble_eq_true rfl⟩ rfl dX5_settle_68 ?_
          refine b_top (y := V 2 t) rfl ?_
          refine lv_iload_n hx hb dX5_settle_71 rfl (lv_at hl 3 rfl) ?_
          refine lv_icmp_le (tgt := 79) hx hb dX5_settle_72 (by decide) (fun h_5 => ?_) (fun h_5 => ?_)
          · have hmin := h_5
            refine lv_aload_n hx hb dX5_settle_79 rfl (lv_at hl 0 rfl) ?_
            refine lv_iload_n hx hb dX5_settle_80 rfl (lv_at hl 1 rfl) ?_
            refine lv_iconst (v := 2) hx hb dX5_settle_81 (by decide) ?_
            refine call_VR (As := [.int (nI t), .int 2]) (rest := [.int 2, .int (nI t), .ref h]) E rfl hK hP (c_X5_of_k l g h a (up2 (up2 V 0 t mi) 1 t ri) UR t 2 (by omega) (by omega)) ok_X5_of rfl q3_94 [0] rfl (b_recv hK hP 0 0 rfl rfl rfl rfl) ⟨⟨rfl, rfl⟩, Nat.le_of_ble_eq_true rfl, Nat.le_of_ble_eq_true rfl⟩ hl.1 (Nat.le_of_ble_eq_true rfl) ⟨Nat.le_of_ble_eq_true rfl, Nat.le_of_ble_eq_true rfl⟩ rfl dX5_settle_82 ?_
            refine b_top (y := V 2 t) rfl ?_
            refine call_VU (As := [.int (nI t), .int 2, .int (V 2 t)]) (rest := []) E rfl hK hW (c_X5_put_k l g h a (up2 (up2 V 0 t mi) 1 t ri) UR t 2 (V 2 t) (by omega) (by omega)) ok_X5_put rfl q3_21 [0] rfl (by decide) (b_recv hK hP 0 0 rfl rfl rfl rfl) ⟨⟨rfl, rfl⟩, Nat.le_of_ble_eq_true rfl, Nat.le_of_ble_eq_true rfl⟩ hl.1 (Nat.le_of_ble_eq_true rfl) ⟨Nat.le_of_ble_eq_true rfl, Nat.le_of_ble_eq_true rfl⟩ rfl dX5_settle_85 (fun _u H locs _ hW => ?_)
            have hW : wd g _ s.heap [mV g h a (up2 (up2 (up2 V 0 t mi) 1 t ri) 2 t (V 2 t)) UR] H locs := hW
            have hP := hW.1
            refine lv_aload_n hx hb dX5_settle_88 rfl (lv_at hl 0 rfl) ?_
            refine lv_iload_n hx hb dX5_settle_89 rfl (lv_at hl 1 rfl) ?_
            refine lv_iconst (v := 2) hx hb dX5_settle_90 (by decide) ?_
            refine call_VR (As := [.int (nI t), .int 2]) (rest := []) E rfl hK hP (c_X5_of_k l g h a (up2 (up2 (up2 V 0 t mi) 1 t ri) 2 t (V 2 t)) UR t 2 (by omega) (by omega)) ok_X5_of rfl q3_94 [0] rfl (b_recv hK hP 0 0 rfl rfl rfl rfl) ⟨⟨rfl, rfl⟩, Nat.le_of_ble_eq_true rfl, Nat.le_of_ble_eq_true rfl⟩ hl.1 (Nat.le_of_ble_eq_true rfl) ⟨Nat.le_of_ble_eq_true rfl, Nat.le_of_ble_eq_true rfl⟩ rfl dX5_settle_91 ?_
            refine b_top (y := (V 2 t)) (up2_eq (up2 (up2 V 0 t mi) 1 t ri) 2 t (V 2 t)) ?_
            have hE : seM V (nI t) mi ri t = 0 := by rw [seM, if_pos hT1, if_pos h_2, if_pos h_3, if_neg h_4]
            exact uI_ret (true, UR) hW hx hb hr hlocks dX5_settle_94 (by simp only [cond_true]; first | exact (minI_le hmin).symm | exact (minI_gt hmin).symm) (show (seM V (nI t) mi ri t = 0) ∧ _ from ⟨hE, hUR⟩) (by simp only [cond_true]; first | rw [minI_le hmin] | rw [minI_gt hmin]) (adr2 (L := [[h, a 0, a 1, a 2, a 3, a 4, a 5, a 6, a 7, a 8]]) rfl rfl)
          · have hmin := h_5
            refine lv_iload_n hx hb dX5_settle_75 rfl (lv_at hl 3 rfl) ?_
            refine lv_goto (tgt := 85) hx hb dX5_settle_76 (by decide) ?_
            refine call_VU (As := [.int (nI t), .int 2, .int ri]) (rest := []) E rfl hK hW (c_X5_put_k l g h a (up2 (up2 V 0 t mi) 1 t ri) UR t 2 ri (by omega) (by omega)) ok_X5_put rfl q3_21 [0] rfl (by decide) (b_recv hK hP 0 0 rfl rfl rfl rfl) ⟨⟨rfl, rfl⟩, Nat.le_of_ble_eq_true rfl, Nat.le_of_ble_eq_true rfl⟩ hl.1 (Nat.le_of_ble_eq_true rfl) ⟨Nat.le_of_ble_eq_true rfl, Nat.le_of_ble_eq_true rfl⟩ rfl dX5_settle_85 (fun _u H locs _ hW => ?_)
            have hW : wd g _ s.heap [mV g h a (up2 (up2 (up2 V 0 t mi) 1 t ri) 2 t ri) UR] H locs := hW
            have hP := hW.1
            refine lv_aload_n hx hb dX5_settle_88 rfl (lv_at hl 0 rfl) ?_
            refine lv_iload_n hx hb dX5_settle_89 rfl (lv_at hl 1 rfl) ?_
            refine lv_iconst (v := 2) hx hb dX5_settle_90 (by decide) ?_
            refine call_VR (As := [.int (nI t), .int 2]) (rest := []) E rfl hK hP (c_X5_of_k l g h a (up2 (up2 (up2 V 0 t mi) 1 t ri) 2 t ri) UR t 2 (by omega) (by omega)) ok_X5_of rfl q3_94 [0] rfl (b_recv hK hP 0 0 rfl rfl rfl rfl) ⟨⟨rfl, rfl⟩, Nat.le_of_ble_eq_true rfl, Nat.le_of_ble_eq_true rfl⟩ hl.1 (Nat.le_of_ble_eq_true rfl) ⟨Nat.le_of_ble_eq_true rfl, Nat.le_of_ble_eq_true rfl⟩ rfl dX5_settle_91 ?_
            refine b_top (y := ri) (up2_eq (up2 (up2 V 0 t mi) 1 t ri) 2 t ri) ?_
            have hE : seM V (nI t) mi ri t = 0 := by rw [seM, if_pos hT1, if_pos h_2, if_pos h_3, if_neg h_4]
            exact uI_ret (true, UR) hW hx hb hr hlocks dX5_settle_94 (by simp only [cond_true]; first | exact (minI_le hmin).symm | exact (minI_gt hmin).symm) (show (seM V (nI t) mi ri t = 0) ∧ _ from ⟨hE, hUR⟩) (by simp only [cond_true]; first | rw [minI_le hmin] | rw [minI_gt hmin]) (adr2 (L := [[h, a 0, a 1, a 2, a 3, a 4, a 5, a 6, a 7, a 8]]) rfl rfl)
        · refine lv_bipush (v := -4) hx hb dX5_settle_41 (by decide) ?_
          have hE : seM V (nI t) mi ri t = -4 := by rw [seM, if_pos hT1, if_pos h_2, if_pos h_3, if_pos h_4]
          exact uI_ret (false, X) hW hx hb hr hlocks dX5_settle_43 (hE.symm) (show (¬ seM V (nI t) mi ri t = 0) ∧ (X = X) from ⟨by rw [hE]; decide, rfl⟩) (by simp only [cond_true, cond_false]) (adr2 (L := [[h, a 0, a 1, a 2, a 3, a 4, a 5, a 6, a 7, a 8]]) rfl rfl)
      · refine lv_bipush (v := -2) hx hb dX5_settle_29 (by decide) ?_
        have hE : seM V (nI t) mi ri t = -2 := by rw [seM, if_pos hT1]; first | (rw [if_pos h_2, if_neg h_3]; done) | (rw [if_neg h_3]; done)
        exact uI_ret (false, X) hW hx hb hr hlocks dX5_settle_31 (hE.symm) (show (¬ seM V (nI t) mi ri t = 0) ∧ (X = X) from ⟨by rw [hE]; decide, rfl⟩) (by simp only [cond_true, cond_false]) (adr2 (L := [[h, a 0, a 1, a 2, a 3, a 4, a 5, a 6, a 7, a 8]]) rfl rfl)
  · refine lv_iconst (v := -1) hx hb dX5_settle_7 (by decide) ?_
    have hE : seM V x mi ri t = -1 := by rw [seM, if_neg h_1]
    exact uI_ret (false, X) hW hx hb hr hlocks dX5_settle_8 (hE.symm) (show (¬ seM V x mi ri t = 0) ∧ (X = X) from ⟨by rw [hE]; decide, rfl⟩) (by simp only [cond_true, cond_false]) (adr2 (L := [[h, a 0, a 1, a 2, a 3, a 4, a 5, a 6, a 7, a 8]]) rfl rfl)
