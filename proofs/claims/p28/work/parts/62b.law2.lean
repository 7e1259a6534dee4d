set_option maxHeartbeats 4000000 in
set_option maxRecDepth 100000 in
theorem c_L_wins (l : Launch) (g : gx) (at_ an al : Nat) (V : sV) (u : Nat → Int32) (e0 : Nat) (he : e0 < 6)  : cR l g yL_wins cL_wins 7 (some .int) ({ frames := 1, cells := 0, slots := 0, locals := 25 } : Room) [.ref at_, .ref an, .ref al, .int (nI e0)] [aR g at_ 54 (rT V), aR g an 5 (V 12), aR g al 6 u] (.int (wnL V u e0 6)) := by
  refine cR.mk (by decide +kernel) (Nat.le_of_ble_eq_true rfl) ?_
  intro p e s m below meth c ls E hK hP hl
  obtain ⟨hx, hb, hr, hml, hts, hown, hlocks, hin⟩ := id E
  have hown : s.vm.findClass RL = some m.cls := hown
  have hl : lv_has ls 7 [(0, .ref at_), (1, .ref an), (2, .ref al), (3, .int (nI e0))] := hl
  refine lv_iconst (v := 0) hx hb dL_wins_0 (by decide) ?_
  refine lv_istore (lv' := [(4, .int 0), (0, .ref at_), (1, .ref an), (2, .ref al), (3, .int (nI e0))]) hx hb dL_wins_1 hl (by decide) rfl (fun ls hl => ?_)
  refine loopN (fun k : Nat => ∀ ls : Array Slot, lv_has ls 7 [(0, .ref at_), (1, .ref an), (2, .ref al), (3, .int (nI e0)), (4, .int (nI k))] → (∀ k9, k9 < k → ¬ isJ V u e0 k9 6) → W p l e _ s m _ below meth c s.heap [] 0 0 _ (F0 m 3 ls [])) (6) (fun k hik ih_k => ?_) (0) (by omega)  ls (lv_sub hl [1, 2, 3, 4, 0] rfl) (fun k9 h9 => absurd h9 (Nat.not_lt_zero _))
  intro  ls hl hno
  refine lv_iload hx hb dL_wins_3 (lv_at hl 4 rfl) ?_
  refine lv_bipush (v := 6) hx hb dL_wins_5 (by decide) ?_
  refine b_ge (tgt := 99) (k) (6) hx hb rfl rfl (by omega) (by omega) dL_wins_7 (by decide) (fun h_1 => ?_) (fun h_1 => ?_)
  · obtain rfl : k = 6 := by omega
    refine lv_bipush (v := -5) hx hb dL_wins_99 (by decide) ?_
    exact rI_ret hx hb hr hlocks dL_wins_101 ((wnL_no 6 hno).symm)
  · refine lv_aload_n hx hb dL_wins_10 rfl (lv_at hl 0 rfl) ?_
    refine lv_aload_n hx hb dL_wins_11 rfl (lv_at hl 1 rfl) ?_
    refine lv_aload_n hx hb dL_wins_12 rfl (lv_at hl 2 rfl) ?_
    refine lv_iload hx hb dL_wins_13 (lv_at hl 4 rfl) ?_
    refine lv_iload_n hx hb dL_wins_15 rfl (lv_at hl 3 rfl) ?_
    refine call_SR (As := [.ref at_, .ref an, .ref al, .int (nI k), .int (nI e0)]) (rest := []) E rfl hK hP (c_L_reaches l g at_ an al V u k e0 (by omega) (by omega)) ok_L_reaches rfl q2_64 [0, 1, 2] rfl ⟨⟨rfl, rfl⟩, Nat.le_of_ble_eq_true rfl, Nat.le_of_ble_eq_true rfl⟩ hl.1 (Nat.le_of_ble_eq_true rfl) ⟨Nat.le_of_ble_eq_true rfl, Nat.le_of_ble_eq_true rfl⟩ rfl dL_wins_16 ?_
    refine lv_if_le (tgt := 26) hx hb dL_wins_19 (by decide) (fun h_2 => ?_) (fun h_2 => ?_)
    · refine lv_iconst (v := 0) hx hb dL_wins_26 (by decide) ?_
      refine lv_istore (lv' := [(5, .int 0), (0, .ref at_), (1, .ref an), (2, .ref al), (3, .int (nI e0)), (4, .int (nI k))]) hx hb dL_wins_27 hl (by decide) rfl (fun ls hl => ?_)
      refine lv_iconst (v := 0) hx hb dL_wins_29 (by decide) ?_
      refine lv_istore (lv' := [(6, .int 0), (5, .int 0), (0, .ref at_), (1, .ref an), (2, .ref al), (3, .int (nI e0)), (4, .int (nI k))]) hx hb dL_wins_30 hl (by decide) rfl (fun ls hl => ?_)
      have e_3 : bI (isJ V u e0 k 0) = 0 := isJ_00 h_2
      refine loopN (fun j : Nat => ∀ ls : Array Slot, lv_has ls 7 [(0, .ref at_), (1, .ref an), (2, .ref al), (3, .int (nI e0)), (4, .int (nI k)), (5, .int (bI (isJ V u e0 k j))), (6, .int (nI j))] → W p l e _ s m _ below meth c s.heap [] 0 0 _ (F0 m 32 ls [])) (6) (fun j hij ih_j => ?_) (0) (by omega)  ls (by rw [e_3]; exact lv_sub hl [2, 3, 4, 5, 6, 1, 0] rfl) 
      intro  ls hl 
      refine lv_iload hx hb dL_wins_32 (lv_at hl 6 rfl) ?_
      refine lv_bipush (v := 6) hx hb dL_wins_34 (by decide) ?_
      refine b_ge (tgt := 85) (j) (6) hx hb rfl rfl (by omega) (by omega) dL_wins_36 (by decide) (fun h_4 => ?_) (fun h_4 => ?_)
      · obtain rfl : j = 6 := by omega
        refine lv_iload hx hb dL_wins_85 (lv_at hl 5 rfl) ?_
        refine b_eq0 (tgt := 93) hx hb dL_wins_87 (by decide) (fun h_5 => ?_) (fun h_5 => ?_)
        · refine lv_iinc (v := nI (k + 1)) (lv' := [(4, .int (nI (k + 1))), (0, .ref at_), (1, .ref an), (2, .ref al), (3, .int (nI e0)), (5, .int (bI (isJ V u e0 k 6))), (6, .int (nI 6))]) hx hb dL_wins_93 hl (k := 4) rfl (nI_add k 1) (by decide) rfl (fun ls hl => ?_)
          refine lv_goto (tgt := 3) hx hb dL_wins_96 (by decide) ?_
          exact ih_k (by omega)  _ (lv_sub hl [1, 2, 3, 4, 0] rfl) (fun k9 h9 => by rcases (show k9 = k ∨ k9 < k by omega) with rfl | h8 <;> first | exact h_5 | exact hno k9 h8)
        · refine lv_iload hx hb dL_wins_90 (lv_at hl 4 rfl) ?_
          exact rI_ret hx hb hr hlocks dL_wins_92 ((wnL_yes (by omega) hno h_5 6 (by omega)).symm)
      · refine lv_iload hx hb dL_wins_39 (lv_at hl 5 rfl) ?_
        refine b_eq0 (tgt := 76) hx hb dL_wins_41 (by decide) (fun h_6 => ?_) (fun h_6 => ?_)
        · refine lv_iconst (v := 0) hx hb dL_wins_76 (by decide) ?_
          refine lv_istore (lv' := [(5, .int 0), (0, .ref at_), (1, .ref an), (2, .ref al), (3, .int (nI e0)), (4, .int (nI k)), (6, .int (nI j))]) hx hb dL_wins_77 hl (by decide) rfl (fun ls hl => ?_)
          refine lv_iinc (v := nI (j + 1)) (lv' := [(6, .int (nI (j + 1))), (5, .int 0), (0, .ref at_), (1, .ref an), (2, .ref al), (3, .int (nI e0)), (4, .int (nI k))]) hx hb dL_wins_79 hl (k := 6) rfl (nI_add j 1) (by decide) rfl (fun ls hl => ?_)
          refine lv_goto (tgt := 32) hx hb dL_wins_82 (by decide) ?_
          have e_7 : bI (isJ V u e0 k (j + 1)) = 0 := by first | exact isJ_s0a h_6 | exact isJ_s1 h_4 (Or.inl h_6) | exact isJ_s0b h_4 (Int32.not_lt.mpr h_6) | exact isJ_s1 h_2 (Or.inr (Int32.not_le.mp h_6))
          exact ih_j (by omega)  _ (by rw [e_7]; exact lv_sub hl [2, 3, 4, 5, 6, 1, 0] rfl) 
        · refine lv_iload hx hb dL_wins_44 (lv_at hl 6 rfl) ?_
          refine lv_iload hx hb dL_wins_46 (lv_at hl 4 rfl) ?_
          refine b_eq (tgt := 72) (j) (k) hx hb rfl rfl (by omega) (by omega) dL_wins_48 (by decide) (fun h_8 => ?_) (fun h_8 => ?_)
          · refine lv_iconst (v := 1) hx hb dL_wins_72 (by decide) ?_
            refine lv_goto (tgt := 77) hx hb dL_wins_73 (by decide) ?_
            refine lv_istore (lv' := [(5, .int 1), (0, .ref at_), (1, .ref an), (2, .ref al), (3, .int (nI e0)), (4, .int (nI k)), (6, .int (nI j))]) hx hb dL_wins_77 hl (by decide) rfl (fun ls hl => ?_)
            refine lv_iinc (v := nI (j + 1)) (lv' := [(6, .int (nI (j + 1))), (5, .int 1), (0, .ref at_), (1, .ref an), (2, .ref al), (3, .int (nI e0)), (4, .int (nI k))]) hx hb dL_wins_79 hl (k := 6) rfl (nI_add j 1) (by decide) rfl (fun ls hl => ?_)
            refine lv_goto (tgt := 32) hx hb dL_wins_82 (by decide) ?_
            have e_9 : bI (isJ V u e0 k (j + 1)) = 1 := by first | exact isJ_s0a h_8 | exact isJ_s1 h_6 (Or.inl h_8) | exact isJ_s0b h_6 (Int32.not_lt.mpr h_8) | exact isJ_s1 h_4 (Or.inr (Int32.not_le.mp h_8))
            exact ih_j (by omega)  _ (by rw [e_9]; exact lv_sub hl [2, 3, 4, 5, 6, 1, 0] rfl) 
          · refine lv_aload_n hx hb dL_wins_51 rfl (lv_at hl 0 rfl) ?_
            refine lv_aload_n hx hb dL_wins_52 rfl (lv_at hl 1 rfl) ?_
            refine lv_aload_n hx hb dL_wins_53 rfl (lv_at hl 2 rfl) ?_
            refine lv_iload hx hb dL_wins_54 (lv_at hl 6 rfl) ?_
            refine lv_iload_n hx hb dL_wins_56 rfl (lv_at hl 3 rfl) ?_
            refine call_SR (As := [.ref at_, .ref an, .ref al, .int (nI j), .int (nI e0)]) (rest := []) E rfl hK hP (c_L_reaches l g at_ an al V u j e0 (by omega) (by omega)) ok_L_reaches rfl q2_64 [0, 1, 2] rfl ⟨⟨rfl, rfl⟩, Nat.le_of_ble_eq_true rfl, Nat.le_of_ble_eq_true rfl⟩ hl.1 (Nat.le_of_ble_eq_true rfl) ⟨Nat.le_of_ble_eq_true rfl, Nat.le_of_ble_eq_true rfl⟩ rfl dL_wins_57 ?_
            refine lv_aload_n hx hb dL_wins_60 rfl (lv_at hl 0 rfl) ?_
            refine lv_aload_n hx hb dL_wins_61 rfl (lv_at hl 1 rfl) ?_
            refine lv_aload_n hx hb dL_wins_62 rfl (lv_at hl 2 rfl) ?_
            refine lv_iload hx hb dL_wins_63 (lv_at hl 4 rfl) ?_
            refine lv_iload_n hx hb dL_wins_65 rfl (lv_at hl 3 rfl) ?_
            refine call_SR (As := [.ref at_, .ref an, .ref al, .int (nI k), .int (nI e0)]) (rest := [.int (rcL V u j e0)]) E rfl hK hP (c_L_reaches l g at_ an al V u k e0 (by omega) (by omega)) ok_L_reaches rfl q2_64 [0, 1, 2] rfl ⟨⟨rfl, rfl⟩, Nat.le_of_ble_eq_true rfl, Nat.le_of_ble_eq_true rfl⟩ hl.1 (Nat.le_of_ble_eq_true rfl) ⟨Nat.le_of_ble_eq_true rfl, Nat.le_of_ble_eq_true rfl⟩ rfl dL_wins_66 ?_
            refine lv_icmp_ge (tgt := 76) hx hb dL_wins_69 (by decide) (fun h_10 => ?_) (fun h_10 => ?_)
            · refine lv_iconst (v := 0) hx hb dL_wins_76 (by decide) ?_
              refine lv_istore (lv' := [(5, .int 0), (0, .ref at_), (1, .ref an), (2, .ref al), (3, .int (nI e0)), (4, .int (nI k)), (6, .int (nI j))]) hx hb dL_wins_77 hl (by decide) rfl (fun ls hl => ?_)
              refine lv_iinc (v := nI (j + 1)) (lv' := [(6, .int (nI (j + 1))), (5, .int 0), (0, .ref at_), (1, .ref an), (2, .ref al), (3, .int (nI e0)), (4, .int (nI k))]) hx hb dL_wins_79 hl (k := 6) rfl (nI_add j 1) (by decide) rfl (fun ls hl => ?_)
              refine lv_goto (tgt := 32) hx hb dL_wins_82 (by decide) ?_
              have e_11 : bI (isJ V u e0 k (j + 1)) = 0 := by first | exact isJ_s0a h_10 | exact isJ_s1 h_8 (Or.inl h_10) | exact isJ_s0b h_8 (Int32.not_lt.mpr h_10) | exact isJ_s1 h_6 (Or.inr (Int32.not_le.mp h_10))
              exact ih_j (by omega)  _ (by rw [e_11]; exact lv_sub hl [2, 3, 4, 5, 6, 1, 0] rfl) 
            · refine lv_iconst (v := 1) hx hb dL_wins_72 (by decide) ?_
              refine lv_goto (tgt := 77) hx hb dL_wins_73 (by decide) ?_
              refine lv_istore (lv' := [(5, .int 1), (0, .ref at_), (1, .ref an), (2, .ref al), (3, .int (nI e0)), (4, .int (nI k)), (6, .int (nI j))]) hx hb dL_wins_77 hl (by decide) rfl (fun ls hl => ?_)
              refine lv_iinc (v := nI (j + 1)) (lv' := [(6, .int (nI (j + 1))), (5, .int 1), (0, .ref at_), (1, .ref an), (2, .ref al), (3, .int (nI e0)), (4, .int (nI k))]) hx hb dL_wins_79 hl (k := 6) rfl (nI_add j 1) (by decide) rfl (fun ls hl => ?_)
              refine lv_goto (tgt := 32) hx hb dL_wins_82 (by decide) ?_
              have e_12 : bI (isJ V u e0 k (j + 1)) = 1 := by first | exact isJ_s0a h_10 | exact isJ_s1 h_8 (Or.inl h_10) | exact isJ_s0b h_8 (Int32.not_lt.mpr h_10) | exact isJ_s1 h_6 (Or.inr (Int32.not_le.mp h_10))
              exact ih_j (by omega)  _ (by rw [e_12]; exact lv_sub hl [2, 3, 4, 5, 6, 1, 0] rfl) 
    · refine lv_iconst (v := 1) hx hb dL_wins_22 (by decide) ?_
      refine lv_goto (tgt := 27) hx hb dL_wins_23 (by decide) ?_
      refine lv_istore (lv' := [(5, .int 1), (0, .ref at_), (1, .ref an), (2, .ref al), (3, .int (nI e0)), (4, .int (nI k))]) hx hb dL_wins_27 hl (by decide) rfl (fun ls hl => ?_)
      refine lv_iconst (v := 0) hx hb dL_wins_29 (by decide) ?_
      refine lv_istore (lv' := [(6, .int 0), (5, .int 1), (0, .ref at_), (1, .ref an), (2, .ref al), (3, .int (nI e0)), (4, .int (nI k))]) hx hb dL_wins_30 hl (by decide) rfl (fun ls hl => ?_)
      have e_13 : bI (isJ V u e0 k 0) = 1 := isJ_01 h_2
      refine loopN (fun j : Nat => ∀ ls : Array Slot, lv_has ls 7 [(0, .ref at_), (1, .ref an), (2, .ref al), (3, .int (nI e0)), (4, .int (nI k)), (5, .int (bI (isJ V u e0 k j))), (6, .int (nI j))] → W p l e _ s m _ below meth c s.heap [] 0 0 _ (F0 m 32 ls [])) (6) (fun j hij ih_j => ?_) (0) (by omega)  ls (by rw [e_13]; exact lv_sub hl [2, 3, 4, 5, 6, 1, 0] rfl) 
      intro  ls hl 
      refine lv_iload hx hb dL_wins_32 (lv_at hl 6 rfl) ?_
      refine lv_bipush (v := 6) hx hb dL_wins_34 (by decide) ?_
      refine b_ge (tgt := 85) (j) (6) hx hb rfl rfl (by omega) (by omega) dL_wins_36 (by decide) (fun h_14 => ?_) (fun h_14 => ?_)
      · obtain rfl : j = 6 := by omega
        refine lv_iload hx hb dL_wins_85 (lv_at hl 5 rfl) ?_
        refine b_eq0 (tgt := 93) hx hb dL_wins_87 (by decide) (fun h_15 => ?_) (fun h_15 => ?_)
        · refine lv_iinc (v := nI (k + 1)) (lv' := [(4, .int (nI (k + 1))), (0, .ref at_), (1, .ref an), (2, .ref al), (3, .int (nI e0)), (5, .int (bI (isJ V u e0 k 6))), (6, .int (nI 6))]) hx hb dL_wins_93 hl (k := 4) rfl (nI_add k 1) (by decide) rfl (fun ls hl => ?_)
          refine lv_goto (tgt := 3) hx hb dL_wins_96 (by decide) ?_
          exact ih_k (by omega)  _ (lv_sub hl [1, 2, 3, 4, 0] rfl) (fun k9 h9 => by rcases (show k9 = k ∨ k9 < k by omega) with rfl | h8 <;> first | exact h_15 | exact hno k9 h8)
        · refine lv_iload hx hb dL_wins_90 (lv_at hl 4 rfl) ?_
          exact rI_ret hx hb hr hlocks dL_wins_92 ((wnL_yes (by omega) hno h_15 6 (by omega)).symm)
      · refine lv_iload hx hb dL_wins_39 (lv_at hl 5 rfl) ?_
        refine b_eq0 (tgt := 76) hx hb dL_wins_41 (by decide) (fun h_16 => ?_) (fun h_16 => ?_)
        · refine lv_iconst (v := 0) hx hb dL_wins_76 (by decide) ?_
          refine lv_istore (lv' := [(5, .int 0), (0, .ref at_), (1, .ref an), (2, .ref al), (3, .int (nI e0)), (4, .int (nI k)), (6, .int (nI j))]) hx hb dL_wins_77 hl (by decide) rfl (fun ls hl => ?_)
          refine lv_iinc (v := nI (j + 1)) (lv' := [(6, .int (nI (j + 1))), (5, .int 0), (0, .ref at_), (1, .ref an), (2, .ref al), (3, .int (nI e0)), (4, .int (nI k))]) hx hb dL_wins_79 hl (k := 6) rfl (nI_add j 1) (by decide) rfl (fun ls hl => ?_)
          refine lv_goto (tgt := 32) hx hb dL_wins_82 (by decide) ?_
          have e_17 : bI (isJ V u e0 k (j + 1)) = 0 := by first | exact isJ_s0a h_16 | exact isJ_s1 h_14 (Or.inl h_16) | exact isJ_s0b h_14 (Int32.not_lt.mpr h_16) | exact isJ_s1 h_2 (Or.inr (Int32.not_le.mp h_16))
          exact ih_j (by omega)  _ (by rw [e_17]; exact lv_sub hl [2, 3, 4, 5, 6, 1, 0] rfl) 
        · refine lv_iload hx hb dL_wins_44 (lv_at hl 6 rfl) ?_
          refine lv_iload hx hb dL_wins_46 (lv_at hl 4 rfl) ?_
          refine b_eq (tgt := 72) (j) (k) hx hb rfl rfl (by omega) (by omega) dL_wins_48 (by decide) (fun h_18 => ?_) (fun h_18 => ?_)
          · refine lv_iconst (v := 1) hx hb dL_wins_72 (by decide) ?_
            refine lv_goto (tgt := 77) hx hb dL_wins_73 (by decide) ?_
            refine lv_istore (lv' := [(5, .int 1), (0, .ref at_), (1, .ref an), (2, .ref al), (3, .int (nI e0)), (4, .int (nI k)), (6, .int (nI j))]) hx hb dL_wins_77 hl (by decide) rfl (fun ls hl => ?_)
            refine lv_iinc (v := nI (j + 1)) (lv' := [(6, .int (nI (j + 1))), (5, .int 1), (0, .ref at_), (1, .ref an), (2, .ref al), (3, .int (nI e0)), (4, .int (nI k))]) hx hb dL_wins_79 hl (k := 6) rfl (nI_add j 1) (by decide) rfl (fun ls hl => ?_)
            refine lv_goto (tgt := 32) hx hb dL_wins_82 (by decide) ?_
            have e_19 : bI (isJ V u e0 k (j + 1)) = 1 := by first | exact isJ_s0a h_18 | exact isJ_s1 h_16 (Or.inl h_18) | exact isJ_s0b h_16 (Int32.not_lt.mpr h_18) | exact isJ_s1 h_14 (Or.inr (Int32.not_le.mp h_18))
            exact ih_j (by omega)  _ (by rw [e_19]; exact lv_sub hl [2, 3, 4, 5, 6, 1, 0] rfl) 
          · refine lv_aload_n hx hb dL_wins_51 rfl (lv_at hl 0 rfl) ?_
            refine lv_aload_n hx hb dL_wins_52 rfl (lv_at hl 1 rfl) ?_
            refine lv_aload_n hx hb dL_wins_53 rfl (lv_at hl 2 rfl) ?_
            refine lv_iload hx hb dL_wins_54 (lv_at hl 6 rfl) ?_
            refine lv_iload_n hx hb dL_wins_56 rfl (lv_at hl 3 rfl) ?_
            refine call_SR (As := [.ref at_, .ref an, .ref al, .int (nI j), .int (nI e0)]) (rest := []) E rfl hK hP (c_L_reaches l g at_ an al V u j e0 (by omega) (by omega)) ok_L_reaches rfl q2_64 [0, 1, 2] rfl ⟨⟨rfl, rfl⟩, Nat.le_of_ble_eq_true rfl, Nat.le_of_ble_eq_true rfl⟩ hl.1 (Nat.le_of_ble_eq_true rfl) ⟨Nat.le_of_ble_eq_true rfl, Nat.le_of_ble_eq_true rfl⟩ rfl dL_wins_57 ?_
            refine lv_aload_n hx hb dL_wins_60 rfl (lv_at hl 0 rfl) ?_
            refine lv_aload_n hx hb dL_wins_61 rfl (lv_at hl 1 rfl) ?_
            refine lv_aload_n hx hb dL_wins_62 rfl (lv_at hl 2 rfl) ?_
            refine lv_iload hx hb dL_wins_63 (lv_at hl 4 rfl) ?_
            refine lv_iload_n hx hb dL_wins_65 rfl (lv_at hl 3 rfl) ?_
            refine call_SR (As := [.ref at_, .ref an, .ref al, .int (nI k), .int (nI e0)]) (rest := [.int (rcL V u j e0)]) E rfl hK hP (c_L_reaches l g at_ an al V u k e0 (by omega) (by omega)) ok_L_reaches rfl q2_64 [0, 1, 2] rfl ⟨⟨rfl, rfl⟩, Nat.le_of_ble_eq_true rfl, Nat.le_of_ble_eq_true rfl⟩ hl.1 (Nat.le_of_ble_eq_true rfl) ⟨Nat.le_of_ble_eq_true rfl, Nat.le_of_ble_eq_true rfl⟩ rfl dL_wins_66 ?_
            refine lv_icmp_ge (tgt := 76) hx hb dL_wins_69 (by decide) (fun h_20 => ?_) (fun h_20 => ?_)
            · refine lv_iconst (v := 0) hx hb dL_wins_76 (by decide) ?_
              refine lv_istore (lv' := [(5, .int 0), (0, .ref at_), (1, .ref an), (2, .ref al), (3, .int (nI e0)), (4, .int (nI k)), (6, .int (nI j))]) hx hb dL_wins_77 hl (by decide) rfl (fun ls hl => ?_)
              refine lv_iinc (v := nI (j + 1)) (lv' := [(6, .int (nI (j + 1))), (5, .int 0), (0, .ref at_), (1, .ref an), (2, .ref al), (3, .int (nI e0)), (4, .int (nI k))]) hx hb dL_wins_79 hl (k := 6) rfl (nI_add j 1) (by decide) rfl (fun ls hl => ?_)
              refine lv_goto (tgt := 32) hx hb dL_wins_82 (by decide) ?_
              have e_21 : bI (isJ V u e0 k (j + 1)) = 0 := by first | exact isJ_s0a h_20 | exact isJ_s1 h_18 (Or.inl h_20) | exact isJ_s0b h_18 (Int32.not_lt.mpr h_20) | exact isJ_s1 h_16 (Or.inr (Int32.not_le.mp h_20))
              exact ih_j (by omega)  _ (by rw [e_21]; exact lv_sub hl [2, 3, 4, 5, 6, 1, 0] rfl) 
            · refine lv_iconst (v := 1) hx hb dL_wins_72 (by decide) ?_
              refine lv_goto (tgt := 77) hx hb dL_wins_73 (by decide) ?_
              refine lv_istore (lv' := [(5, .int 1), (0, .ref at_), (1, .ref an), (2, .ref al), (3, .int (nI e0)), (4, .int (nI k)), (6, .int (nI j))]) hx hb dL_wins_77 hl (by decide) rfl (fun ls hl => ?_)
              refine lv_iinc (v := nI (j + 1)) (lv' := [(6, .int (nI (j + 1))), (5, .int 1), (0, .ref at_), (1, .ref an), (2, .ref al), (3, .int (nI e0)), (4, .int (nI k))]) hx hb dL_wins_79 hl (k := 6) rfl (nI_add j 1) (by decide) rfl (fun ls hl => ?_)
              refine lv_goto (tgt := 32) hx hb dL_wins_82 (by decide) ?_
              have e_22 : bI (isJ V u e0 k (j + 1)) = 1 := by first | exact isJ_s0a h_20 | exact isJ_s1 h_18 (Or.inl h_20) | exact isJ_s0b h_18 (Int32.not_lt.mpr h_20) | exact isJ_s1 h_16 (Or.inr (Int32.not_le.mp h_20))
              exact ih_j (by omega)  _ (by rw [e_22]; exact lv_sub hl [2, 3, 4, 5, 6, 1, 0] rfl) 

set_option maxHeartbeats 4000000 in
set_option maxRecDepth 100000 in
theorem c_L_listens (l : Launch) (g : gx) (at_ aw ar an al : Nat) (V : sV) (u : Nat → Int32) (cq : Nat → Nat) (hc : ∀ t, t < 6 → V 3 t = nI (cq t) ∧ cq t ≤ 5)  : cU (S := Unit) l g yL_listens cL_listens 6 none ({ frames := 1, cells := 0, slots := 0, locals := 30 } : Room) [.ref at_, .ref aw, .ref ar, .ref an, .ref al] [aR g at_ 54 (rT V), aR g aw 30 (V 9), aR g ar 30 (V 10), aR g an 5 (V 12), aR g al 6 u] (fun _ => none) (fun _ => True) (fun _ => [aR g at_ 54 (rT V), aR g aw 30 (V 9), aR g ar 30 (V 10), aR g an 5 (V 12), aR g al 6 (ldL V cq)]) := by
  refine cU.mk (by decide +kernel) (Nat.le_of_ble_eq_true rfl) ?_
  intro p e s m below meth c ls E hK hW hl
  obtain ⟨hx, hb, hr, hml, hts, hown, hlocks, hin⟩ := id E
  have hown : s.vm.findClass RL = some m.cls := hown
  have hP := hW.1
  have hl : lv_has ls 6 [(0, .ref at_), (1, .ref aw), (2, .ref ar), (3, .ref an), (4, .ref al)] := hl
  refine lv_iconst (v := 0) hx hb dL_listens_0 (by decide) ?_
  refine lv_istore (lv' := [(5, .int 0), (0, .ref at_), (1, .ref aw), (2, .ref ar), (3, .ref an), (4, .ref al)]) hx hb dL_listens_1 hl (by decide) rfl (fun ls hl => ?_)
  refine loopN (fun i : Nat => ∀ (H : Heap) (locs : List Loc) (ls : Array Slot), wd g (fun z9 => z9 ∈ adr [aR g at_ 54 (rT V), aR g aw 30 (V 9), aR g ar 30 (V 10), aR g an 5 (V 12), aR g al 6 u]) s.heap [aR g at_ 54 (rT V), aR g aw 30 (V 9), aR g ar 30 (V 10), aR g an 5 (V 12), aR g al 6 (liL V cq u i)] H locs → lv_has ls 6 [(0, .ref at_), (1, .ref aw), (2, .ref ar), (3, .ref an), (4, .ref al), (5, .int (nI i))] → W p l e _ s m _ below meth c H locs 0 0 _ (F0 m 3 ls [])) (6) (fun i hi ih_i => ?_) (0) (by omega)  s.heap [] ls hW (lv_sub hl [1, 2, 3, 4, 5, 0] rfl) 
  intro  H locs ls hW hl 
  have hP := hW.1
  refine lv_iload hx hb dL_listens_3 (lv_at hl 5 rfl) ?_
  refine lv_bipush (v := 6) hx hb dL_listens_5 (by decide) ?_
  refine b_ge (tgt := 45) (i) (6) hx hb rfl rfl (by omega) (by omega) dL_listens_7 (by decide) (fun h_1 => ?_) (fun h_1 => ?_)
  · obtain rfl : i = 6 := by omega
    have hW := wd_row hW 4 0 rfl rfl (f' := ldL V cq) (fun j9 hj9 => liL_at V cq u j9 6 hj9) rfl
    exact uV_ret () hW hx hb hr hlocks dL_listens_45 trivial (rfl) (adr2 (L := [[at_], [aw], [ar], [an], [al]]) rfl rfl)
  · refine lv_aload hx hb dL_listens_10 (lv_at hl 4 rfl) ?_
    refine lv_iload hx hb dL_listens_12 (lv_at hl 5 rfl) ?_
    refine lv_aload_n hx hb dL_listens_14 rfl (lv_at hl 1 rfl) ?_
    refine lv_iload hx hb dL_listens_15 (lv_at hl 5 rfl) ?_
    refine lv_aload_n hx hb dL_listens_17 rfl (lv_at hl 0 rfl) ?_
    refine lv_aload_n hx hb dL_listens_18 rfl (lv_at hl 1 rfl) ?_
    refine lv_aload_n hx hb dL_listens_19 rfl (lv_at hl 2 rfl) ?_
    refine lv_aload_n hx hb dL_listens_20 rfl (lv_at hl 3 rfl) ?_
    refine lv_iload hx hb dL_listens_21 (lv_at hl 5 rfl) ?_
    refine lv_aload_n hx hb dL_listens_23 rfl (lv_at hl 0 rfl) ?_
    refine lv_bipush (v := 9) hx hb dL_listens_24 (by decide) ?_
    refine lv_iload hx hb dL_listens_26 (lv_at hl 5 rfl) ?_
    refine lv_imul hx hb dL_listens_28 ?_
    refine b_top (y := nI (9 * i)) (pk_mul 9 i) ?_
    refine lv_iconst (v := 4) hx hb dL_listens_29 (by decide) ?_
    refine lv_iadd hx hb dL_listens_30 ?_
    refine b_top (y := nI ((9 * i) + 4)) (nI_add (9 * i) 4) ?_
    refine b_iald (v := V 4 i) hx hb hK hP 0 0 ((9 * i) + 4) rfl rfl rfl (by omega) rfl ((rT_at _ (by omega)).trans rfl) dL_listens_31 ?_
    refine call_SR (As := [.ref at_, .ref aw, .ref ar, .ref an, .int (nI i), .int (V 4 i)]) (rest := [.int (nI i), .ref aw, .int (nI i), .ref al]) E rfl hK hP (c_L_rings l g at_ aw ar an V i (V 4 i) (by omega) (cq i) (hc _ (by omega)).1 (hc _ (by omega)).2) ok_L_rings rfl q1_201 [0, 1, 2, 3] rfl ⟨⟨rfl, rfl⟩, Nat.le_of_ble_eq_true rfl, Nat.le_of_ble_eq_true rfl⟩ hl.1 (Nat.le_of_ble_eq_true rfl) ⟨Nat.le_of_ble_eq_true rfl, Nat.le_of_ble_eq_true rfl⟩ rfl dL_listens_32 ?_
    refine call_SR (As := [.ref aw, .int (nI i), .int ((rgL V i (V 4 i) (cq i)).1)]) (rest := [.int (nI i), .ref al]) E rfl hK hP (c_L_loud l g aw V i ((rgL V i (V 4 i) (cq i)).1) (by omega)) ok_L_loud rfl q2_8 [1] rfl ⟨⟨rfl, rfl⟩, Nat.le_of_ble_eq_true rfl, Nat.le_of_ble_eq_true rfl⟩ hl.1 (Nat.le_of_ble_eq_true rfl) ⟨Nat.le_of_ble_eq_true rfl, Nat.le_of_ble_eq_true rfl⟩ rfl dL_listens_35 ?_
    refine b_iastE (B' := [aR g at_ 54 (rT V), aR g aw 30 (V 9), aR g ar 30 (V 10), aR g an 5 (V 12), aR g al 6 (upd (liL V cq u i) i (loL V i ((rgL V i (V 4 i) (cq i)).1) 5))]) hx hb hK hW 4 0 (i) rfl rfl rfl (by omega) rfl rfl rfl dL_listens_38 (fun H locs hW => ?_)
    have hP := hW.1
    refine lv_iinc (v := nI (i + 1)) (lv' := [(5, .int (nI (i + 1))), (0, .ref at_), (1, .ref aw), (2, .ref ar), (3, .ref an), (4, .ref al)]) hx hb dL_listens_39 hl (k := 5) rfl (nI_add i 1) (by decide) rfl (fun ls hl => ?_)
    refine lv_goto (tgt := 3) hx hb dL_listens_42 (by decide) ?_
    have e_2 : ([aR g at_ 54 (rT V), aR g aw 30 (V 9), aR g ar 30 (V 10), aR g an 5 (V 12), aR g al 6 (liL V cq u (i + 1))] : List va_W) = [aR g at_ 54 (rT V), aR g aw 30 (V 9), aR g ar 30 (V 10), aR g an 5 (V 12), aR g al 6 (upd (liL V cq u i) i (loL V i ((rgL V i (V 4 i) (cq i)).1) 5))] := rfl
    exact ih_i (by omega)  _ _ _ (by rw [e_2]; exact hW) (lv_sub hl [1, 2, 3, 4, 5, 0] rfl) 

set_option maxHeartbeats 4000000 in
set_option maxRecDepth 100000 in
theorem c_L_copy_54 (l : Launch) (g : gx) (a1 a2 : Nat) (f f0 : Nat → Int32)  : cU (S := Unit) l g yL_copy cL_copy 3 none ({ frames := 0, cells := 0, slots := 0, locals := 0 } : Room) [.ref a1, .ref a2] [aR g a1 54 f, aR g a2 54 f0] (fun _ => none) (fun _ => True) (fun _ => [aR g a1 54 f, aR g a2 54 f]) := by
  refine cU.mk (by decide +kernel) (Nat.le_of_ble_eq_true rfl) ?_
  intro p e s m below meth c ls E hK hW hl
  obtain ⟨hx, hb, hr, hml, hts, hown, hlocks, hin⟩ := id E
  have hown : s.vm.findClass RL = some m.cls := hown
  have hP := hW.1
  have hl : lv_has ls 3 [(0, .ref a1), (1, .ref a2)] := hl
  refine lv_iconst (v := 0) hx hb dL_copy_0 (by decide) ?_
  refine lv_istore_n (lv' := [(2, .int 0), (0, .ref a1), (1, .ref a2)]) hx hb dL_copy_1 rfl hl (by decide) rfl (fun ls hl => ?_)
  have e_1 : [aR g a1 54 f, aR g a2 54 (cpF f f0 0)] = [aR g a1 54 f, aR g a2 54 f0] := by rw [cpF_0]
  refine loopN (fun i : Nat => ∀ (H : Heap) (locs : List Loc) (ls : Array Slot), wd g (fun z9 => z9 ∈ adr [aR g a1 54 f, aR g a2 54 f0]) s.heap [aR g a1 54 f, aR g a2 54 (cpF f f0 i)] H locs → lv_has ls 3 [(0, .ref a1), (1, .ref a2), (2, .int (nI i))] → W p l e _ s m _ below meth c H locs 0 0 _ (F0 m 2 ls [])) (54) (fun i hi ih_i => ?_) (0) (by omega)  s.heap [] ls (by rw [e_1]; exact hW) (lv_sub hl [1, 2, 0] rfl) 
  intro  H locs ls hW hl 
  have hP := hW.1
  refine lv_iload_n hx hb dL_copy_2 rfl (lv_at hl 2 rfl) ?_
  refine lv_aload_n hx hb dL_copy_3 rfl (lv_at hl 0 rfl) ?_
  refine b_alen hx hb hK hP 0 0 rfl rfl dL_copy_4 ?_
  refine b_ge (tgt := 20) (i) (54) hx hb rfl rfl (by omega) (by omega) dL_copy_5 (by decide) (fun h_2 => ?_) (fun h_2 => ?_)
  · obtain rfl : i = 54 := by omega
    have hW := wd_row hW 1 0 rfl rfl (f' := f) (fun j9 hj9 => if_pos hj9) rfl
    exact uV_ret () hW hx hb hr hlocks dL_copy_20 trivial (rfl) (adr2 (L := [[a1], [a2]]) rfl rfl)
  · refine lv_aload_n hx hb dL_copy_8 rfl (lv_at hl 1 rfl) ?_
    refine lv_iload_n hx hb dL_copy_9 rfl (lv_at hl 2 rfl) ?_
    refine lv_aload_n hx hb dL_copy_10 rfl (lv_at hl 0 rfl) ?_
    refine lv_iload_n hx hb dL_copy_11 rfl (lv_at hl 2 rfl) ?_
    refine b_iald (v := f i) hx hb hK hP 0 0 (i) rfl rfl rfl (by omega) rfl rfl dL_copy_12 ?_
    refine b_iastE (B' := [aR g a1 54 f, aR g a2 54 (upd (cpF f f0 i) i (f i))]) hx hb hK hW 1 0 (i) rfl rfl rfl (by omega) rfl rfl rfl dL_copy_13 (fun H locs hW => ?_)
    have hP := hW.1
    refine lv_iinc (v := nI (i + 1)) (lv' := [(2, .int (nI (i + 1))), (0, .ref a1), (1, .ref a2)]) hx hb dL_copy_14 hl (k := 2) rfl (nI_add i 1) (by decide) rfl (fun ls hl => ?_)
    refine lv_goto (tgt := 2) hx hb dL_copy_17 (by decide) ?_
    have e_3 : ([aR g a1 54 f, aR g a2 54 (cpF f f0 (i + 1))] : List va_W) = [aR g a1 54 f, aR g a2 54 (upd (cpF f f0 i) i (f i))] := by rw [cpF_s]
    exact ih_i (by omega)  _ _ _ (by rw [e_3]; exact hW) (lv_sub hl [1, 2, 0] rfl) 

set_option maxHeartbeats 4000000 in
set_option maxRecDepth 100000 in
theorem c_L_copy_30 (l : Launch) (g : gx) (a1 a2 : Nat) (f f0 : Nat → Int32)  : cU (S := Unit) l g yL_copy cL_copy 3 none ({ frames := 0, cells := 0, slots := 0, locals := 0 } : Room) [.ref a1, .ref a2] [aR g a1 30 f, aR g a2 30 f0] (fun _ => none) (fun _ => True) (fun _ => [aR g a1 30 f, aR g a2 30 f]) := by
  refine cU.mk (by decide +kernel) (Nat.le_of_ble_eq_true rfl) ?_
  intro p e s m below meth c ls E hK hW hl
  obtain ⟨hx, hb, hr, hml, hts, hown, hlocks, hin⟩ := id E
  have hown : s.vm.findClass RL = some m.cls := hown
  have hP := hW.1
  have hl : lv_has ls 3 [(0, .ref a1), (1, .ref a2)] := hl
  refine lv_iconst (v := 0) hx hb dL_copy_0 (by decide) ?_
  refine lv_istore_n (lv' := [(2, .int 0), (0, .ref a1), (1, .ref a2)]) hx hb dL_copy_1 rfl hl (by decide) rfl (fun ls hl => ?_)
  have e_1 : [aR g a1 30 f, aR g a2 30 (cpF f f0 0)] = [aR g a1 30 f, aR g a2 30 f0] := by rw [cpF_0]
  refine loopN (fun i : Nat => ∀ (H : Heap) (locs : List Loc) (ls : Array Slot), wd g (fun z9 => z9 ∈ adr [aR g a1 30 f, aR g a2 30 f0]) s.heap [aR g a1 30 f, aR g a2 30 (cpF f f0 i)] H locs → lv_has ls 3 [(0, .ref a1), (1, .ref a2), (2, .int (nI i))] → W p l e _ s m _ below meth c H locs 0 0 _ (F0 m 2 ls [])) (30) (fun i hi ih_i => ?_) (0) (by omega)  s.heap [] ls (by rw [e_1]; exact hW) (lv_sub hl [1, 2, 0] rfl) 
  intro  H locs ls hW hl 
  have hP := hW.1
  refine lv_iload_n hx hb dL_copy_2 rfl (lv_at hl 2 rfl) ?_
  refine lv_aload_n hx hb dL_copy_3 rfl (lv_at hl 0 rfl) ?_
  refine b_alen hx hb hK hP 0 0 rfl rfl dL_copy_4 ?_
  refine b_ge (tgt := 20) (i) (30) hx hb rfl rfl (by omega) (by omega) dL_copy_5 (by decide) (fun h_2 => ?_) (fun h_2 => ?_)
  · obtain rfl : i = 30 := by omega
    have hW := wd_row hW 1 0 rfl rfl (f' := f) (fun j9 hj9 => if_pos hj9) rfl
    exact uV_ret () hW hx hb hr hlocks dL_copy_20 trivial (rfl) (adr2 (L := [[a1], [a2]]) rfl rfl)
  · refine lv_aload_n hx hb dL_copy_8 rfl (lv_at hl 1 rfl) ?_
    refine lv_iload_n hx hb dL_copy_9 rfl (lv_at hl 2 rfl) ?_
    refine lv_aload_n hx hb dL_copy_10 rfl (lv_at hl 0 rfl) ?_
    refine lv_iload_n hx hb dL_copy_11 rfl (lv_at hl 2 rfl) ?_
    refine b_iald (v := f i) hx hb hK hP 0 0 (i) rfl rfl rfl (by omega) rfl rfl dL_copy_12 ?_
    refine b_iastE (B' := [aR g a1 30 f, aR g a2 30 (upd (cpF f f0 i) i (f i))]) hx hb hK hW 1 0 (i) rfl rfl rfl (by omega) rfl rfl rfl dL_copy_13 (fun H locs hW => ?_)
    have hP := hW.1
    refine lv_iinc (v := nI (i + 1)) (lv' := [(2, .int (nI (i + 1))), (0, .ref a1), (1, .ref a2)]) hx hb dL_copy_14 hl (k := 2) rfl (nI_add i 1) (by decide) rfl (fun ls hl => ?_)
    refine lv_goto (tgt := 2) hx hb dL_copy_17 (by decide) ?_
    have e_3 : ([aR g a1 30 f, aR g a2 30 (cpF f f0 (i + 1))] : List va_W) = [aR g a1 30 f, aR g a2 30 (upd (cpF f f0 i) i (f i))] := by rw [cpF_s]
    exact ih_i (by omega)  _ _ _ (by rw [e_3]; exact hW) (lv_sub hl [1, 2, 0] rfl) 

set_option maxHeartbeats 4000000 in
set_option maxRecDepth 100000 in
theorem c_L_copy_5 (l : Launch) (g : gx) (a1 a2 : Nat) (f f0 : Nat → Int32)  : cU (S := Unit) l g yL_copy cL_copy 3 none ({ frames := 0, cells := 0, slots := 0, locals := 0 } : Room) [.ref a1, .ref a2] [aR g a1 5 f, aR g a2 5 f0] (fun _ => none) (fun _ => True) (fun _ => [aR g a1 5 f, aR g a2 5 f]) := by
  refine cU.mk (by decide +kernel) (Nat.le_of_ble_eq_true rfl) ?_
  intro p e s m below meth c ls E hK hW hl
  obtain ⟨hx, hb, hr, hml, hts, hown, hlocks, hin⟩ := id E
  have hown : s.vm.findClass RL = some m.cls := hown
  have hP := hW.1
  have hl : lv_has ls 3 [(0, .ref a1), (1, .ref a2)] := hl
  refine lv_iconst (v := 0) hx hb dL_copy_0 (by decide) ?_
  refine lv_istore_n (lv' := [(2, .int 0), (0, .ref a1), (1, .ref a2)]) hx hb dL_copy_1 rfl hl (by decide) rfl (fun ls hl => ?_)
  have e_1 : [aR g a1 5 f, aR g a2 5 (cpF f f0 0)] = [aR g a1 5 f, aR g a2 5 f0] := by rw [cpF_0]
  refine loopN (fun i : Nat => ∀ (H : Heap) (locs : List Loc) (ls : Array Slot), wd g (fun z9 => z9 ∈ adr [aR g a1 5 f, aR g a2 5 f0]) s.heap [aR g a1 5 f, aR g a2 5 (cpF f f0 i)] H locs → lv_has ls 3 [(0, .ref a1), (1, .ref a2), (2, .int (nI i))] → W p l e _ s m _ below meth c H locs 0 0 _ (F0 m 2 ls [])) (5) (fun i hi ih_i => ?_) (0) (by omega)  s.heap [] ls (by rw [e_1]; exact hW) (lv_sub hl [1, 2, 0] rfl) 
  intro  H locs ls hW hl 
  have hP := hW.1
  refine lv_iload_n hx hb dL_copy_2 rfl (lv_at hl 2 rfl) ?_
  refine lv_aload_n hx hb dL_copy_3 rfl (lv_at hl 0 rfl) ?_
  refine b_alen hx hb hK hP 0 0 rfl rfl dL_copy_4 ?_
  refine b_ge (tgt := 20) (i) (5) hx hb rfl rfl (by omega) (by omega) dL_copy_5 (by decide) (fun h_2 => ?_) (fun h_2 => ?_)
  · obtain rfl : i = 5 := by omega
    have hW := wd_row hW 1 0 rfl rfl (f' := f) (fun j9 hj9 => if_pos hj9) rfl
    exact uV_ret () hW hx hb hr hlocks dL_copy_20 trivial (rfl) (adr2 (L := [[a1], [a2]]) rfl rfl)
  · refine lv_aload_n hx hb dL_copy_8 rfl (lv_at hl 1 rfl) ?_
    refine lv_iload_n hx hb dL_copy_9 rfl (lv_at hl 2 rfl) ?_
    refine lv_aload_n hx hb dL_copy_10 rfl (lv_at hl 0 rfl) ?_
    refine lv_iload_n hx hb dL_copy_11 rfl (lv_at hl 2 rfl) ?_
    refine b_iald (v := f i) hx hb hK hP 0 0 (i) rfl rfl rfl (by omega) rfl rfl dL_copy_12 ?_
    refine b_iastE (B' := [aR g a1 5 f, aR g a2 5 (upd (cpF f f0 i) i (f i))]) hx hb hK hW 1 0 (i) rfl rfl rfl (by omega) rfl rfl rfl dL_copy_13 (fun H locs hW => ?_)
    have hP := hW.1
    refine lv_iinc (v := nI (i + 1)) (lv' := [(2, .int (nI (i + 1))), (0, .ref a1), (1, .ref a2)]) hx hb dL_copy_14 hl (k := 2) rfl (nI_add i 1) (by decide) rfl (fun ls hl => ?_)
    refine lv_goto (tgt := 2) hx hb dL_copy_17 (by decide) ?_
    have e_3 : ([aR g a1 5 f, aR g a2 5 (cpF f f0 (i + 1))] : List va_W) = [aR g a1 5 f, aR g a2 5 (upd (cpF f f0 i) i (f i))] := by rw [cpF_s]
    exact ih_i (by omega)  _ _ _ (by rw [e_3]; exact hW) (lv_sub hl [1, 2, 0] rfl) 
