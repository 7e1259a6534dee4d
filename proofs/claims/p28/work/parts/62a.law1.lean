theorem ok_L_acts : okS yL_acts cL_acts 16 (some .boolean) 8 := ⟨q2_146, q2_145, q1_0, by decide +kernel⟩
theorem ok_L_areHeard : okS yL_areHeard cL_areHeard 9 (some .boolean) 5 := ⟨q2_48, q2_47, q1_0, by decide +kernel⟩
theorem ok_L_areTowns : okS yL_areTowns cL_areTowns 16 (some .boolean) 6 := ⟨q1_193, q1_192, q1_0, by decide +kernel⟩
theorem ok_L_bells : okS yL_bells cL_bells 13 (some .boolean) 8 := ⟨q2_149, q2_148, q1_0, by decide +kernel⟩
theorem ok_L_cell : okS yL_cell cL_cell 2 (some .int) 2 := ⟨q1_185, q1_184, q1_0, by decide +kernel⟩
theorem ok_L_copy : okS yL_copy cL_copy 3 none 2 := ⟨q2_109, q2_108, q1_0, by decide +kernel⟩
theorem ok_L_isPlanned : okS yL_isPlanned cL_isPlanned 13 (some .boolean) 6 := ⟨q2_69, q2_68, q1_0, by decide +kernel⟩
theorem ok_L_listens : okS yL_listens cL_listens 6 none 5 := ⟨q2_51, q2_50, q1_0, by decide +kernel⟩
theorem ok_L_loud : okS yL_loud cL_loud 5 (some .int) 3 := ⟨q2_10, q2_9, q1_0, by decide +kernel⟩
theorem ok_L_low : okS yL_low cL_low 2 (some .int) 2 := ⟨q1_189, q1_188, q1_0, by decide +kernel⟩
theorem ok_L_reaches : okS yL_reaches cL_reaches 6 (some .int) 5 := ⟨q2_66, q2_65, q1_0, by decide +kernel⟩
theorem ok_L_rings : okS yL_rings cL_rings 11 (some .int) 6 := ⟨q1_203, q1_202, q1_0, by decide +kernel⟩
theorem ok_L_settles : okS yL_settles cL_settles 7 (some .boolean) 4 := ⟨q2_195, q2_194, q1_0, by decide +kernel⟩
theorem ok_L_turns : okS yL_turns cL_turns 12 none 5 := ⟨q2_112, q2_111, q1_0, by decide +kernel⟩
theorem ok_L_wins : okS yL_wins cL_wins 7 (some .int) 4 := ⟨q2_63, q2_62, q1_0, by decide +kernel⟩
theorem ok_L_would : okS yL_would cL_would 13 (some .boolean) 8 := ⟨q2_106, q2_105, q1_0, by decide +kernel⟩
set_option maxHeartbeats 4000000 in
set_option maxRecDepth 100000 in
theorem c_L_low (l : Launch) (g : gx) (x : Int32) (n : Nat) (hn0 : 0 < n) (hn1 : n < 2 ^ 31)  : cR l g yL_low cL_low 2 (some .int) ({ frames := 0, cells := 0, slots := 0, locals := 0 } : Room) [.int x, .int (nI n)] [] (.int (nI (lowN x n))) := by
  refine cR.mk (by decide +kernel) (Nat.le_of_ble_eq_true rfl) ?_
  intro p e s m below meth c ls E hK hP hl
  obtain ⟨hx, hb, hr, hml, hts, hown, hlocks, hin⟩ := id E
  have hown : s.vm.findClass RL = some m.cls := hown
  have hl : lv_has ls 2 [(0, .int x), (1, .int (nI n))] := hl
  refine lv_iload_n hx hb dL_low_0 rfl (lv_at hl 0 rfl) ?_
  refine lv_ldc (v := 2147483647) hx hb hown (hts _ q1_190) dL_low_1 ?_
  refine lv_iand hx hb dL_low_3 ?_
  refine lv_iload_n hx hb dL_low_4 rfl (lv_at hl 1 rfl) ?_
  refine lv_irem hx hb dL_low_5 (lwI_ne0 hn0 hn1) ?_
  exact rI_ret hx hb hr hlocks dL_low_6 (low_eq x hn0 hn1)

set_option maxHeartbeats 4000000 in
set_option maxRecDepth 100000 in
theorem c_L_rings (l : Launch) (g : gx) (at_ aw ar an : Nat) (V : sV) (k : Nat) (pl : Int32) (hk : k < 6) (c0 : Nat) (hc : V 3 k = nI c0) (hc5 : c0 ≤ 5)  : cR l g yL_rings cL_rings 11 (some .int) ({ frames := 0, cells := 0, slots := 0, locals := 0 } : Room) [.ref at_, .ref aw, .ref ar, .ref an, .int (nI k), .int pl] [aR g at_ 54 (rT V), aR g aw 30 (V 9), aR g ar 30 (V 10), aR g an 5 (V 12)] (.int ((rgL V k pl c0).1)) := by
  refine cR.mk (by decide +kernel) (Nat.le_of_ble_eq_true rfl) ?_
  intro p e s m below meth c ls E hK hP hl
  obtain ⟨hx, hb, hr, hml, hts, hown, hlocks, hin⟩ := id E
  have hown : s.vm.findClass RL = some m.cls := hown
  have hl : lv_has ls 11 [(0, .ref at_), (1, .ref aw), (2, .ref ar), (3, .ref an), (4, .int (nI k)), (5, .int pl)] := hl
  refine lv_aload_n hx hb dL_rings_0 rfl (lv_at hl 0 rfl) ?_
  refine lv_bipush (v := 9) hx hb dL_rings_1 (by decide) ?_
  refine lv_iload hx hb dL_rings_3 (lv_at hl 4 rfl) ?_
  refine lv_imul hx hb dL_rings_5 ?_
  refine b_top (y := nI (9 * k)) (pk_mul 9 k) ?_
  refine lv_iconst (v := 1) hx hb dL_rings_6 (by decide) ?_
  refine lv_iadd hx hb dL_rings_7 ?_
  refine b_top (y := nI ((9 * k) + 1)) (nI_add (9 * k) 1) ?_
  refine b_iald (v := V 1 k) hx hb hK hP 0 0 ((9 * k) + 1) rfl rfl rfl (by omega) rfl ((rT_at _ (by omega)).trans rfl) dL_rings_8 ?_
  refine lv_aload_n hx hb dL_rings_9 rfl (lv_at hl 0 rfl) ?_
  refine lv_bipush (v := 9) hx hb dL_rings_10 (by decide) ?_
  refine lv_iload hx hb dL_rings_12 (lv_at hl 4 rfl) ?_
  refine lv_imul hx hb dL_rings_14 ?_
  refine b_top (y := nI (9 * k)) (pk_mul 9 k) ?_
  refine lv_iconst (v := 2) hx hb dL_rings_15 (by decide) ?_
  refine lv_iadd hx hb dL_rings_16 ?_
  refine b_top (y := nI ((9 * k) + 2)) (nI_add (9 * k) 2) ?_
  refine b_iald (v := V 2 k) hx hb hK hP 0 0 ((9 * k) + 2) rfl rfl rfl (by omega) rfl ((rT_at _ (by omega)).trans rfl) dL_rings_17 ?_
  refine lv_isub hx hb dL_rings_18 ?_
  refine lv_istore (lv' := [(6, .int ((V 1 k) - (V 2 k))), (0, .ref at_), (1, .ref aw), (2, .ref ar), (3, .ref an), (4, .int (nI k)), (5, .int pl)]) hx hb dL_rings_19 hl (by decide) rfl (fun ls hl => ?_)
  refine lv_iconst (v := 0) hx hb dL_rings_21 (by decide) ?_
  refine lv_istore (lv' := [(7, .int 0), (6, .int ((V 1 k) - (V 2 k))), (0, .ref at_), (1, .ref aw), (2, .ref ar), (3, .ref an), (4, .int (nI k)), (5, .int pl)]) hx hb dL_rings_22 hl (by decide) rfl (fun ls hl => ?_)
  refine lv_iconst (v := 0) hx hb dL_rings_24 (by decide) ?_
  refine lv_istore (lv' := [(8, .int 0), (7, .int 0), (6, .int ((V 1 k) - (V 2 k))), (0, .ref at_), (1, .ref aw), (2, .ref ar), (3, .ref an), (4, .int (nI k)), (5, .int pl)]) hx hb dL_rings_25 hl (by decide) rfl (fun ls hl => ?_)
  refine loopN (fun i : Nat => ∀ ls : Array Slot, lv_has ls 11 [(0, .ref at_), (1, .ref aw), (2, .ref ar), (3, .ref an), (4, .int (nI k)), (5, .int pl), (6, .int ((rgL V k pl i).2)), (7, .int ((rgL V k pl i).1)), (8, .int (nI i))] → W p l e _ s m _ below meth c s.heap [] 0 0 _ (F0 m 27 ls [])) (c0) (fun i hi ih_i => ?_) (0) (by omega)  ls (lv_sub hl [3, 4, 5, 6, 7, 8, 2, 1, 0] rfl) 
  intro  ls hl 
  refine lv_iload hx hb dL_rings_27 (lv_at hl 8 rfl) ?_
  refine lv_aload_n hx hb dL_rings_29 rfl (lv_at hl 0 rfl) ?_
  refine lv_bipush (v := 9) hx hb dL_rings_30 (by decide) ?_
  refine lv_iload hx hb dL_rings_32 (lv_at hl 4 rfl) ?_
  refine lv_imul hx hb dL_rings_34 ?_
  refine b_top (y := nI (9 * k)) (pk_mul 9 k) ?_
  refine lv_iconst (v := 3) hx hb dL_rings_35 (by decide) ?_
  refine lv_iadd hx hb dL_rings_36 ?_
  refine b_top (y := nI ((9 * k) + 3)) (nI_add (9 * k) 3) ?_
  refine b_iald (v := V 3 k) hx hb hK hP 0 0 ((9 * k) + 3) rfl rfl rfl (by omega) rfl ((rT_at _ (by omega)).trans rfl) dL_rings_37 ?_
  refine b_top (y := nI c0) hc ?_
  refine b_ge (tgt := 163) (i) (c0) hx hb rfl rfl (by omega) (by omega) dL_rings_38 (by decide) (fun h_1 => ?_) (fun h_1 => ?_)
  · obtain rfl : i = c0 := by omega
    refine lv_iload hx hb dL_rings_163 (lv_at hl 7 rfl) ?_
    exact rI_ret hx hb hr hlocks dL_rings_165 (by first | rfl | (rw [rgL_sil hs6, rgL_sil hs6]))
  · refine lv_aload_n hx hb dL_rings_41 rfl (lv_at hl 0 rfl) ?_
    refine lv_bipush (v := 9) hx hb dL_rings_42 (by decide) ?_
    refine lv_iload hx hb dL_rings_44 (lv_at hl 4 rfl) ?_
    refine lv_imul hx hb dL_rings_46 ?_
    refine b_top (y := nI (9 * k)) (pk_mul 9 k) ?_
    refine lv_bipush (v := 6) hx hb dL_rings_47 (by decide) ?_
    refine lv_iadd hx hb dL_rings_49 ?_
    refine b_top (y := nI ((9 * k) + 6)) (nI_add (9 * k) 6) ?_
    refine b_iald (v := V 6 k) hx hb hK hP 0 0 ((9 * k) + 6) rfl rfl rfl (by omega) rfl ((rT_at _ (by omega)).trans rfl) dL_rings_50 ?_
    refine lv_if_ne (tgt := 163) hx hb dL_rings_51 (by decide) (fun h_2 => ?_) (fun h_2 => ?_)
    · have hs6 := h_2
      refine lv_iload hx hb dL_rings_163 (lv_at hl 7 rfl) ?_
      exact rI_ret hx hb hr hlocks dL_rings_165 (by first | rfl | (rw [rgL_sil hs6, rgL_sil hs6]))
    · have hs6 := h_2
      refine lv_aload_n hx hb dL_rings_54 rfl (lv_at hl 1 rfl) ?_
      refine lv_iconst (v := 5) hx hb dL_rings_55 (by decide) ?_
      refine lv_iload hx hb dL_rings_56 (lv_at hl 4 rfl) ?_
      refine lv_imul hx hb dL_rings_58 ?_
      refine b_top (y := nI (5 * k)) (pk_mul 5 k) ?_
      refine lv_iload hx hb dL_rings_59 (lv_at hl 8 rfl) ?_
      refine lv_iadd hx hb dL_rings_61 ?_
      refine b_top (y := nI ((5 * k) + i)) (nI_add (5 * k) i) ?_
      refine b_iald (v := V 9 (k * 5 + i)) hx hb hK hP 1 0 ((5 * k) + i) rfl rfl rfl (by omega) rfl ((congrArg (V 9) (show (5 * k) + i = k * 5 + i by omega)).trans rfl) dL_rings_62 ?_
      refine lv_iconst (v := 2) hx hb dL_rings_63 (by decide) ?_
      refine lv_idiv hx hb dL_rings_64 (by decide) ?_
      refine lv_aload_n hx hb dL_rings_65 rfl (lv_at hl 1 rfl) ?_
      refine lv_iconst (v := 5) hx hb dL_rings_66 (by decide) ?_
      refine lv_iload hx hb dL_rings_67 (lv_at hl 4 rfl) ?_
      refine lv_imul hx hb dL_rings_69 ?_
      refine b_top (y := nI (5 * k)) (pk_mul 5 k) ?_
      refine lv_iload hx hb dL_rings_70 (lv_at hl 8 rfl) ?_
      refine lv_iadd hx hb dL_rings_72 ?_
      refine b_top (y := nI ((5 * k) + i)) (nI_add (5 * k) i) ?_
      refine b_iald (v := V 9 (k * 5 + i)) hx hb hK hP 1 0 ((5 * k) + i) rfl rfl rfl (by omega) rfl ((congrArg (V 9) (show (5 * k) + i = k * 5 + i by omega)).trans rfl) dL_rings_73 ?_
      refine lv_iconst (v := 2) hx hb dL_rings_74 (by decide) ?_
      refine lv_irem hx hb dL_rings_75 (by decide) ?_
      refine lv_iadd hx hb dL_rings_76 ?_
      refine lv_istore (lv' := [(9, .int (((V 9 (k * 5 + i)) / 2) + ((V 9 (k * 5 + i)) - (V 9 (k * 5 + i)) / 2 * 2))), (0, .ref at_), (1, .ref aw), (2, .ref ar), (3, .ref an), (4, .int (nI k)), (5, .int pl), (6, .int ((rgL V k pl i).2)), (7, .int ((rgL V k pl i).1)), (8, .int (nI i))]) hx hb dL_rings_77 hl (by decide) rfl (fun ls hl => ?_)
      refine lv_aload_n hx hb dL_rings_79 rfl (lv_at hl 4 rfl) ?_
      refine lv_iconst (v := 2) hx hb dL_rings_80 (by decide) ?_
      refine b_iald (v := V 12 2) hx hb hK hP 3 0 (2) rfl rfl rfl (by omega) rfl rfl dL_rings_81 ?_
      refine lv_bipush (v := 7) hx hb dL_rings_82 (by decide) ?_
      refine lv_irem hx hb dL_rings_84 (by decide) ?_
      refine lv_aload_n hx hb dL_rings_85 rfl (lv_at hl 1 rfl) ?_
      refine lv_bipush (v := 9) hx hb dL_rings_86 (by decide) ?_
      refine lv_iload hx hb dL_rings_88 (lv_at hl 5 rfl) ?_
      refine lv_imul hx hb dL_rings_90 ?_
      refine b_top (y := nI (9 * k)) (pk_mul 9 k) ?_
      refine lv_iconst (v := 5) hx hb dL_rings_91 (by decide) ?_
      refine lv_iadd hx hb dL_rings_92 ?_
      refine b_top (y := nI ((9 * k) + 5)) (nI_add (9 * k) 5) ?_
      refine b_iald (v := V 5 k) hx hb hK hP 0 0 ((9 * k) + 5) rfl rfl rfl (by omega) rfl ((rT_at _ (by omega)).trans rfl) dL_rings_93 ?_
      refine lv_icmp_eq (tgt := 108) hx hb dL_rings_94 (by decide) (fun h_3 => ?_) (fun h_3 => ?_)
      · have hwt := h_3
        refine lv_iconst (v := 1) hx hb dL_rings_108 (by decide) ?_
        refine lv_goto (tgt := 113) hx hb dL_rings_109 (by decide) ?_
        refine lv_istore (lv' := [(10, .int 1), (9, .int (((V 9 (k * 5 + i)) / 2) + ((V 9 (k * 5 + i)) - (V 9 (k * 5 + i)) / 2 * 2))), (0, .ref at_), (1, .ref aw), (2, .ref ar), (3, .ref an), (4, .int (nI k)), (5, .int pl), (6, .int ((rgL V k pl i).2)), (7, .int ((rgL V k pl i).1)), (8, .int (nI i))]) hx hb dL_rings_113 hl (by decide) rfl (fun ls hl => ?_)
        refine lv_iload hx hb dL_rings_115 (lv_at hl 0 rfl) ?_
        refine lv_if_eq (tgt := 157) hx hb dL_rings_117 (by decide) (fun h_4 => ?_) (fun h_4 => ?_)
        · exact absurd h_4 (by decide)
        · refine lv_aload_n hx hb dL_rings_120 rfl (lv_at hl 4 rfl) ?_
          refine lv_iconst (v := 5) hx hb dL_rings_121 (by decide) ?_
          refine lv_iload hx hb dL_rings_122 (lv_at hl 6 rfl) ?_
          refine lv_imul hx hb dL_rings_124 ?_
          refine b_top (y := nI (5 * k)) (pk_mul 5 k) ?_
          refine lv_iload hx hb dL_rings_125 (lv_at hl 10 rfl) ?_
          refine lv_iadd hx hb dL_rings_127 ?_
          refine b_top (y := nI ((5 * k) + i)) (nI_add (5 * k) i) ?_
          refine b_iald (v := V 10 (k * 5 + i)) hx hb hK hP 2 0 ((5 * k) + i) rfl rfl rfl (by omega) rfl ((congrArg (V 10) (show (5 * k) + i = k * 5 + i by omega)).trans rfl) dL_rings_128 ?_
          refine lv_bipush (v := 6) hx hb dL_rings_129 (by decide) ?_
          refine lv_icmp_eq (tgt := 157) hx hb dL_rings_131 (by decide) (fun h_5 => ?_) (fun h_5 => ?_)
          · refine lv_iinc (v := nI (i + 1)) (lv' := [(8, .int (nI (i + 1))), (10, .int 1), (9, .int (((V 9 (k * 5 + i)) / 2) + ((V 9 (k * 5 + i)) - (V 9 (k * 5 + i)) / 2 * 2))), (0, .ref at_), (1, .ref aw), (2, .ref ar), (3, .ref an), (4, .int (nI k)), (5, .int pl), (6, .int ((rgL V k pl i).2)), (7, .int ((rgL V k pl i).1))]) hx hb dL_rings_157 hl (k := 10) rfl (nI_add i 1) (by decide) rfl (fun ls hl => ?_)
            refine lv_goto (tgt := 27) hx hb dL_rings_160 (by decide) ?_
            have e_6 : (rgL V k pl (i + 1)).2 = (rgL V k pl i).2 := by first | (rw [rgL_yes hs6 (Or.inl hwt) h_3 h_5]; done) | (rw [rgL_yes hs6 (Or.inr hwt) h_3 h_5]; done) | (rw [rgL_no (Or.inr (Or.inr h_5))]; done) | (rw [rgL_no (Or.inr (Or.inl h_5))]; done) | (rw [rgL_no (Or.inl (fun q9 => q9.elim hwf h_5))]; done)
            have e_7 : (rgL V k pl (i + 1)).1 = (rgL V k pl i).1 := by first | (rw [rgL_yes hs6 (Or.inl hwt) h_3 h_5]; done) | (rw [rgL_yes hs6 (Or.inr hwt) h_3 h_5]; done) | (rw [rgL_no (Or.inr (Or.inr h_5))]; done) | (rw [rgL_no (Or.inr (Or.inl h_5))]; done) | (rw [rgL_no (Or.inl (fun q9 => q9.elim hwf h_5))]; done)
            exact ih_i (by omega)  _ (by rw [e_6, e_7]; exact lv_sub hl [3, 4, 5, 6, 7, 8, 9, 10, 0] rfl) 
          · refine lv_iload hx hb dL_rings_134 (lv_at hl 8 rfl) ?_
            refine lv_iload hx hb dL_rings_136 (lv_at hl 1 rfl) ?_
            refine lv_icmp_lt (tgt := 157) hx hb dL_rings_138 (by decide) (fun h_8 => ?_) (fun h_8 => ?_)
            · refine lv_iinc (v := nI (i + 1)) (lv' := [(8, .int (nI (i + 1))), (10, .int 1), (9, .int (((V 9 (k * 5 + i)) / 2) + ((V 9 (k * 5 + i)) - (V 9 (k * 5 + i)) / 2 * 2))), (0, .ref at_), (1, .ref aw), (2, .ref ar), (3, .ref an), (4, .int (nI k)), (5, .int pl), (6, .int ((rgL V k pl i).2)), (7, .int ((rgL V k pl i).1))]) hx hb dL_rings_157 hl (k := 10) rfl (nI_add i 1) (by decide) rfl (fun ls hl => ?_)
              refine lv_goto (tgt := 27) hx hb dL_rings_160 (by decide) ?_
              have e_9 : (rgL V k pl (i + 1)).2 = (rgL V k pl i).2 := by first | (rw [rgL_yes hs6 (Or.inl hwt) h_5 h_8]; done) | (rw [rgL_yes hs6 (Or.inr hwt) h_5 h_8]; done) | (rw [rgL_no (Or.inr (Or.inr h_8))]; done) | (rw [rgL_no (Or.inr (Or.inl h_8))]; done) | (rw [rgL_no (Or.inl (fun q9 => q9.elim hwf h_8))]; done)
              have e_10 : (rgL V k pl (i + 1)).1 = (rgL V k pl i).1 := by first | (rw [rgL_yes hs6 (Or.inl hwt) h_5 h_8]; done) | (rw [rgL_yes hs6 (Or.inr hwt) h_5 h_8]; done) | (rw [rgL_no (Or.inr (Or.inr h_8))]; done) | (rw [rgL_no (Or.inr (Or.inl h_8))]; done) | (rw [rgL_no (Or.inl (fun q9 => q9.elim hwf h_8))]; done)
              exact ih_i (by omega)  _ (by rw [e_9, e_10]; exact lv_sub hl [3, 4, 5, 6, 7, 8, 9, 10, 0] rfl) 
            · refine lv_iload hx hb dL_rings_141 (lv_at hl 9 rfl) ?_
              refine lv_iconst (v := 1) hx hb dL_rings_143 (by decide) ?_
              refine lv_iload hx hb dL_rings_144 (lv_at hl 10 rfl) ?_
              refine lv_ishl hx hb dL_rings_146 ?_
              refine lv_iadd hx hb dL_rings_147 ?_
              refine lv_istore (lv' := [(7, .int (((rgL V k pl i).1) + ((1 : Int32) <<< ((nI i) &&& 31)))), (10, .int 1), (9, .int (((V 9 (k * 5 + i)) / 2) + ((V 9 (k * 5 + i)) - (V 9 (k * 5 + i)) / 2 * 2))), (0, .ref at_), (1, .ref aw), (2, .ref ar), (3, .ref an), (4, .int (nI k)), (5, .int pl), (6, .int ((rgL V k pl i).2)), (8, .int (nI i))]) hx hb dL_rings_148 hl (by decide) rfl (fun ls hl => ?_)
              refine lv_iload hx hb dL_rings_150 (lv_at hl 9 rfl) ?_
              refine lv_iload hx hb dL_rings_152 (lv_at hl 2 rfl) ?_
              refine lv_isub hx hb dL_rings_154 ?_
              refine lv_istore (lv' := [(6, .int (((rgL V k pl i).2) - (((V 9 (k * 5 + i)) / 2) + ((V 9 (k * 5 + i)) - (V 9 (k * 5 + i)) / 2 * 2)))), (7, .int (((rgL V k pl i).1) + ((1 : Int32) <<< ((nI i) &&& 31)))), (10, .int 1), (9, .int (((V 9 (k * 5 + i)) / 2) + ((V 9 (k * 5 + i)) - (V 9 (k * 5 + i)) / 2 * 2))), (0, .ref at_), (1, .ref aw), (2, .ref ar), (3, .ref an), (4, .int (nI k)), (5, .int pl), (8, .int (nI i))]) hx hb dL_rings_155 hl (by decide) rfl (fun ls hl => ?_)
              refine lv_iinc (v := nI (i + 1)) (lv' := [(8, .int (nI (i + 1))), (6, .int (((rgL V k pl i).2) - (((V 9 (k * 5 + i)) / 2) + ((V 9 (k * 5 + i)) - (V 9 (k * 5 + i)) / 2 * 2)))), (7, .int (((rgL V k pl i).1) + ((1 : Int32) <<< ((nI i) &&& 31)))), (10, .int 1), (9, .int (((V 9 (k * 5 + i)) / 2) + ((V 9 (k * 5 + i)) - (V 9 (k * 5 + i)) / 2 * 2))), (0, .ref at_), (1, .ref aw), (2, .ref ar), (3, .ref an), (4, .int (nI k)), (5, .int pl)]) hx hb dL_rings_157 hl (k := 10) rfl (nI_add i 1) (by decide) rfl (fun ls hl => ?_)
              refine lv_goto (tgt := 27) hx hb dL_rings_160 (by decide) ?_
              have e_11 : (rgL V k pl (i + 1)).2 = ((rgL V k pl i).2) - (((V 9 (k * 5 + i)) / 2) + ((V 9 (k * 5 + i)) - (V 9 (k * 5 + i)) / 2 * 2)) := by first | (rw [rgL_yes hs6 (Or.inl hwt) h_5 h_8]; done) | (rw [rgL_yes hs6 (Or.inr hwt) h_5 h_8]; done) | (rw [rgL_no (Or.inr (Or.inr h_8))]; done) | (rw [rgL_no (Or.inr (Or.inl h_8))]; done) | (rw [rgL_no (Or.inl (fun q9 => q9.elim hwf h_8))]; done)
              have e_12 : (rgL V k pl (i + 1)).1 = ((rgL V k pl i).1) + ((1 : Int32) <<< ((nI i) &&& 31)) := by first | (rw [rgL_yes hs6 (Or.inl hwt) h_5 h_8]; done) | (rw [rgL_yes hs6 (Or.inr hwt) h_5 h_8]; done) | (rw [rgL_no (Or.inr (Or.inr h_8))]; done) | (rw [rgL_no (Or.inr (Or.inl h_8))]; done) | (rw [rgL_no (Or.inl (fun q9 => q9.elim hwf h_8))]; done)
              exact ih_i (by omega)  _ (by rw [e_11, e_12]; exact lv_sub hl [5, 6, 7, 8, 9, 10, 1, 2, 0] rfl) 
      · have hwf := h_3
        refine lv_iload hx hb dL_rings_97 (lv_at hl 6 rfl) ?_
        refine lv_iload hx hb dL_rings_99 (lv_at hl 9 rfl) ?_
        refine lv_ishr hx hb dL_rings_101 ?_
        refine lv_iconst (v := 1) hx hb dL_rings_102 (by decide) ?_
        refine lv_iand hx hb dL_rings_103 ?_
        refine lv_iconst (v := 1) hx hb dL_rings_104 (by decide) ?_
        refine lv_icmp_ne (tgt := 112) hx hb dL_rings_105 (by decide) (fun h_13 => ?_) (fun h_13 => ?_)
        · refine lv_iconst (v := 0) hx hb dL_rings_112 (by decide) ?_
          refine lv_istore (lv' := [(10, .int 0), (9, .int (((V 9 (k * 5 + i)) / 2) + ((V 9 (k * 5 + i)) - (V 9 (k * 5 + i)) / 2 * 2))), (0, .ref at_), (1, .ref aw), (2, .ref ar), (3, .ref an), (4, .int (nI k)), (5, .int pl), (6, .int ((rgL V k pl i).2)), (7, .int ((rgL V k pl i).1)), (8, .int (nI i))]) hx hb dL_rings_113 hl (by decide) rfl (fun ls hl => ?_)
          refine lv_iload hx hb dL_rings_115 (lv_at hl 0 rfl) ?_
          refine lv_if_eq (tgt := 157) hx hb dL_rings_117 (by decide) (fun h_14 => ?_) (fun h_14 => ?_)
          · refine lv_iinc (v := nI (i + 1)) (lv' := [(8, .int (nI (i + 1))), (10, .int 0), (9, .int (((V 9 (k * 5 + i)) / 2) + ((V 9 (k * 5 + i)) - (V 9 (k * 5 + i)) / 2 * 2))), (0, .ref at_), (1, .ref aw), (2, .ref ar), (3, .ref an), (4, .int (nI k)), (5, .int pl), (6, .int ((rgL V k pl i).2)), (7, .int ((rgL V k pl i).1))]) hx hb dL_rings_157 hl (k := 10) rfl (nI_add i 1) (by decide) rfl (fun ls hl => ?_)
            refine lv_goto (tgt := 27) hx hb dL_rings_160 (by decide) ?_
            have e_15 : (rgL V k pl (i + 1)).2 = (rgL V k pl i).2 := by first | (rw [rgL_yes hs6 (Or.inl hwt) h_3 h_13]; done) | (rw [rgL_yes hs6 (Or.inr hwt) h_3 h_13]; done) | (rw [rgL_no (Or.inr (Or.inr h_13))]; done) | (rw [rgL_no (Or.inr (Or.inl h_13))]; done) | (rw [rgL_no (Or.inl (fun q9 => q9.elim hwf h_13))]; done)
            have e_16 : (rgL V k pl (i + 1)).1 = (rgL V k pl i).1 := by first | (rw [rgL_yes hs6 (Or.inl hwt) h_3 h_13]; done) | (rw [rgL_yes hs6 (Or.inr hwt) h_3 h_13]; done) | (rw [rgL_no (Or.inr (Or.inr h_13))]; done) | (rw [rgL_no (Or.inr (Or.inl h_13))]; done) | (rw [rgL_no (Or.inl (fun q9 => q9.elim hwf h_13))]; done)
            exact ih_i (by omega)  _ (by rw [e_15, e_16]; exact lv_sub hl [3, 4, 5, 6, 7, 8, 9, 10, 0] rfl) 
          · exact absurd h_14 (by decide)
        · have hwt := h_13
          refine lv_iconst (v := 1) hx hb dL_rings_108 (by decide) ?_
          refine lv_goto (tgt := 113) hx hb dL_rings_109 (by decide) ?_
          refine lv_istore (lv' := [(10, .int 1), (9, .int (((V 9 (k * 5 + i)) / 2) + ((V 9 (k * 5 + i)) - (V 9 (k * 5 + i)) / 2 * 2))), (0, .ref at_), (1, .ref aw), (2, .ref ar), (3, .ref an), (4, .int (nI k)), (5, .int pl), (6, .int ((rgL V k pl i).2)), (7, .int ((rgL V k pl i).1)), (8, .int (nI i))]) hx hb dL_rings_113 hl (by decide) rfl (fun ls hl => ?_)
          refine lv_iload hx hb dL_rings_115 (lv_at hl 0 rfl) ?_
          refine lv_if_eq (tgt := 157) hx hb dL_rings_117 (by decide) (fun h_17 => ?_) (fun h_17 => ?_)
          · exact absurd h_17 (by decide)
          · refine lv_aload_n hx hb dL_rings_120 rfl (lv_at hl 4 rfl) ?_
            refine lv_iconst (v := 5) hx hb dL_rings_121 (by decide) ?_
            refine lv_iload hx hb dL_rings_122 (lv_at hl 6 rfl) ?_
            refine lv_imul hx hb dL_rings_124 ?_
            refine b_top (y := nI (5 * k)) (pk_mul 5 k) ?_
            refine lv_iload hx hb dL_rings_125 (lv_at hl 10 rfl) ?_
            refine lv_iadd hx hb dL_rings_127 ?_
            refine b_top (y := nI ((5 * k) + i)) (nI_add (5 * k) i) ?_
            refine b_iald (v := V 10 (k * 5 + i)) hx hb hK hP 2 0 ((5 * k) + i) rfl rfl rfl (by omega) rfl ((congrArg (V 10) (show (5 * k) + i = k * 5 + i by omega)).trans rfl) dL_rings_128 ?_
            refine lv_bipush (v := 6) hx hb dL_rings_129 (by decide) ?_
            refine lv_icmp_eq (tgt := 157) hx hb dL_rings_131 (by decide) (fun h_18 => ?_) (fun h_18 => ?_)
            · refine lv_iinc (v := nI (i + 1)) (lv' := [(8, .int (nI (i + 1))), (10, .int 1), (9, .int (((V 9 (k * 5 + i)) / 2) + ((V 9 (k * 5 + i)) - (V 9 (k * 5 + i)) / 2 * 2))), (0, .ref at_), (1, .ref aw), (2, .ref ar), (3, .ref an), (4, .int (nI k)), (5, .int pl), (6, .int ((rgL V k pl i).2)), (7, .int ((rgL V k pl i).1))]) hx hb dL_rings_157 hl (k := 10) rfl (nI_add i 1) (by decide) rfl (fun ls hl => ?_)
              refine lv_goto (tgt := 27) hx hb dL_rings_160 (by decide) ?_
              have e_19 : (rgL V k pl (i + 1)).2 = (rgL V k pl i).2 := by first | (rw [rgL_yes hs6 (Or.inl hwt) h_13 h_18]; done) | (rw [rgL_yes hs6 (Or.inr hwt) h_13 h_18]; done) | (rw [rgL_no (Or.inr (Or.inr h_18))]; done) | (rw [rgL_no (Or.inr (Or.inl h_18))]; done) | (rw [rgL_no (Or.inl (fun q9 => q9.elim hwf h_18))]; done)
              have e_20 : (rgL V k pl (i + 1)).1 = (rgL V k pl i).1 := by first | (rw [rgL_yes hs6 (Or.inl hwt) h_13 h_18]; done) | (rw [rgL_yes hs6 (Or.inr hwt) h_13 h_18]; done) | (rw [rgL_no (Or.inr (Or.inr h_18))]; done) | (rw [rgL_no (Or.inr (Or.inl h_18))]; done) | (rw [rgL_no (Or.inl (fun q9 => q9.elim hwf h_18))]; done)
              exact ih_i (by omega)  _ (by rw [e_19, e_20]; exact lv_sub hl [3, 4, 5, 6, 7, 8, 9, 10, 0] rfl) 
            · refine lv_iload hx hb dL_rings_134 (lv_at hl 8 rfl) ?_
              refine lv_iload hx hb dL_rings_136 (lv_at hl 1 rfl) ?_
              refine lv_icmp_lt (tgt := 157) hx hb dL_rings_138 (by decide) (fun h_21 => ?_) (fun h_21 => ?_)
              · refine lv_iinc (v := nI (i + 1)) (lv' := [(8, .int (nI (i + 1))), (10, .int 1), (9, .int (((V 9 (k * 5 + i)) / 2) + ((V 9 (k * 5 + i)) - (V 9 (k * 5 + i)) / 2 * 2))), (0, .ref at_), (1, .ref aw), (2, .ref ar), (3, .ref an), (4, .int (nI k)), (5, .int pl), (6, .int ((rgL V k pl i).2)), (7, .int ((rgL V k pl i).1))]) hx hb dL_rings_157 hl (k := 10) rfl (nI_add i 1) (by decide) rfl (fun ls hl => ?_)
                refine lv_goto (tgt := 27) hx hb dL_rings_160 (by decide) ?_
                have e_22 : (rgL V k pl (i + 1)).2 = (rgL V k pl i).2 := by first | (rw [rgL_yes hs6 (Or.inl hwt) h_18 h_21]; done) | (rw [rgL_yes hs6 (Or.inr hwt) h_18 h_21]; done) | (rw [rgL_no (Or.inr (Or.inr h_21))]; done) | (rw [rgL_no (Or.inr (Or.inl h_21))]; done) | (rw [rgL_no (Or.inl (fun q9 => q9.elim hwf h_21))]; done)
                have e_23 : (rgL V k pl (i + 1)).1 = (rgL V k pl i).1 := by first | (rw [rgL_yes hs6 (Or.inl hwt) h_18 h_21]; done) | (rw [rgL_yes hs6 (Or.inr hwt) h_18 h_21]; done) | (rw [rgL_no (Or.inr (Or.inr h_21))]; done) | (rw [rgL_no (Or.inr (Or.inl h_21))]; done) | (rw [rgL_no (Or.inl (fun q9 => q9.elim hwf h_21))]; done)
                exact ih_i (by omega)  _ (by rw [e_22, e_23]; exact lv_sub hl [3, 4, 5, 6, 7, 8, 9, 10, 0] rfl) 
              · refine lv_iload hx hb dL_rings_141 (lv_at hl 9 rfl) ?_
                refine lv_iconst (v := 1) hx hb dL_rings_143 (by decide) ?_
                refine lv_iload hx hb dL_rings_144 (lv_at hl 10 rfl) ?_
                refine lv_ishl hx hb dL_rings_146 ?_
                refine lv_iadd hx hb dL_rings_147 ?_
                refine lv_istore (lv' := [(7, .int (((rgL V k pl i).1) + ((1 : Int32) <<< ((nI i) &&& 31)))), (10, .int 1), (9, .int (((V 9 (k * 5 + i)) / 2) + ((V 9 (k * 5 + i)) - (V 9 (k * 5 + i)) / 2 * 2))), (0, .ref at_), (1, .ref aw), (2, .ref ar), (3, .ref an), (4, .int (nI k)), (5, .int pl), (6, .int ((rgL V k pl i).2)), (8, .int (nI i))]) hx hb dL_rings_148 hl (by decide) rfl (fun ls hl => ?_)
                refine lv_iload hx hb dL_rings_150 (lv_at hl 9 rfl) ?_
                refine lv_iload hx hb dL_rings_152 (lv_at hl 2 rfl) ?_
                refine lv_isub hx hb dL_rings_154 ?_
                refine lv_istore (lv' := [(6, .int (((rgL V k pl i).2) - (((V 9 (k * 5 + i)) / 2) + ((V 9 (k * 5 + i)) - (V 9 (k * 5 + i)) / 2 * 2)))), (7, .int (((rgL V k pl i).1) + ((1 : Int32) <<< ((nI i) &&& 31)))), (10, .int 1), (9, .int (((V 9 (k * 5 + i)) / 2) + ((V 9 (k * 5 + i)) - (V 9 (k * 5 + i)) / 2 * 2))), (0, .ref at_), (1, .ref aw), (2, .ref ar), (3, .ref an), (4, .int (nI k)), (5, .int pl), (8, .int (nI i))]) hx hb dL_rings_155 hl (by decide) rfl (fun ls hl => ?_)
                refine lv_iinc (v := nI (i + 1)) (lv' := [(8, .int (nI (i + 1))), (6, .int (((rgL V k pl i).2) - (((V 9 (k * 5 + i)) / 2) + ((V 9 (k * 5 + i)) - (V 9 (k * 5 + i)) / 2 * 2)))), (7, .int (((rgL V k pl i).1) + ((1 : Int32) <<< ((nI i) &&& 31)))), (10, .int 1), (9, .int (((V 9 (k * 5 + i)) / 2) + ((V 9 (k * 5 + i)) - (V 9 (k * 5 + i)) / 2 * 2))), (0, .ref at_), (1, .ref aw), (2, .ref ar), (3, .ref an), (4, .int (nI k)), (5, .int pl)]) hx hb dL_rings_157 hl (k := 10) rfl (nI_add i 1) (by decide) rfl (fun ls hl => ?_)
                refine lv_goto (tgt := 27) hx hb dL_rings_160 (by decide) ?_
                have e_24 : (rgL V k pl (i + 1)).2 = ((rgL V k pl i).2) - (((V 9 (k * 5 + i)) / 2) + ((V 9 (k * 5 + i)) - (V 9 (k * 5 + i)) / 2 * 2)) := by first | (rw [rgL_yes hs6 (Or.inl hwt) h_18 h_21]; done) | (rw [rgL_yes hs6 (Or.inr hwt) h_18 h_21]; done) | (rw [rgL_no (Or.inr (Or.inr h_21))]; done) | (rw [rgL_no (Or.inr (Or.inl h_21))]; done) | (rw [rgL_no (Or.inl (fun q9 => q9.elim hwf h_21))]; done)
                have e_25 : (rgL V k pl (i + 1)).1 = ((rgL V k pl i).1) + ((1 : Int32) <<< ((nI i) &&& 31)) := by first | (rw [rgL_yes hs6 (Or.inl hwt) h_18 h_21]; done) | (rw [rgL_yes hs6 (Or.inr hwt) h_18 h_21]; done) | (rw [rgL_no (Or.inr (Or.inr h_21))]; done) | (rw [rgL_no (Or.inr (Or.inl h_21))]; done) | (rw [rgL_no (Or.inl (fun q9 => q9.elim hwf h_21))]; done)
                exact ih_i (by omega)  _ (by rw [e_24, e_25]; exact lv_sub hl [5, 6, 7, 8, 9, 10, 1, 2, 0] rfl) 

set_option maxHeartbeats 4000000 in
set_option maxRecDepth 100000 in
theorem c_L_loud (l : Launch) (g : gx) (aw : Nat) (V : sV) (k : Nat) (bs : Int32) (hk : k < 6)  : cR l g yL_loud cL_loud 5 (some .int) ({ frames := 0, cells := 0, slots := 0, locals := 0 } : Room) [.ref aw, .int (nI k), .int bs] [aR g aw 30 (V 9)] (.int (loL V k bs 5)) := by
  refine cR.mk (by decide +kernel) (Nat.le_of_ble_eq_true rfl) ?_
  intro p e s m below meth c ls E hK hP hl
  obtain ⟨hx, hb, hr, hml, hts, hown, hlocks, hin⟩ := id E
  have hown : s.vm.findClass RL = some m.cls := hown
  have hl : lv_has ls 5 [(0, .ref aw), (1, .int (nI k)), (2, .int bs)] := hl
  refine lv_iconst (v := 0) hx hb dL_loud_0 (by decide) ?_
  refine lv_istore_n (lv' := [(3, .int 0), (0, .ref aw), (1, .int (nI k)), (2, .int bs)]) hx hb dL_loud_1 rfl hl (by decide) rfl (fun ls hl => ?_)
  refine lv_iconst (v := 0) hx hb dL_loud_2 (by decide) ?_
  refine lv_istore (lv' := [(4, .int 0), (3, .int 0), (0, .ref aw), (1, .int (nI k)), (2, .int bs)]) hx hb dL_loud_3 hl (by decide) rfl (fun ls hl => ?_)
  refine loopN (fun i : Nat => ∀ ls : Array Slot, lv_has ls 5 [(0, .ref aw), (1, .int (nI k)), (2, .int bs), (3, .int (loL V k bs i)), (4, .int (nI i))] → W p l e _ s m _ below meth c s.heap [] 0 0 _ (F0 m 5 ls [])) (5) (fun i hi ih_i => ?_) (0) (by omega)  ls (lv_sub hl [2, 3, 4, 1, 0] rfl) 
  intro  ls hl 
  refine lv_iload hx hb dL_loud_5 (lv_at hl 4 rfl) ?_
  refine lv_iconst (v := 5) hx hb dL_loud_7 (by decide) ?_
  refine b_ge (tgt := 35) (i) (5) hx hb rfl rfl (by omega) (by omega) dL_loud_8 (by decide) (fun h_1 => ?_) (fun h_1 => ?_)
  · obtain rfl : i = 5 := by omega
    refine lv_iload_n hx hb dL_loud_35 rfl (lv_at hl 3 rfl) ?_
    exact rI_ret hx hb hr hlocks dL_loud_36 (rfl)
  · refine lv_iload_n hx hb dL_loud_11 rfl (lv_at hl 3 rfl) ?_
    refine lv_aload_n hx hb dL_loud_12 rfl (lv_at hl 0 rfl) ?_
    refine lv_iconst (v := 5) hx hb dL_loud_13 (by decide) ?_
    refine lv_iload_n hx hb dL_loud_14 rfl (lv_at hl 1 rfl) ?_
    refine lv_imul hx hb dL_loud_15 ?_
    refine b_top (y := nI (5 * k)) (pk_mul 5 k) ?_
    refine lv_iload hx hb dL_loud_16 (lv_at hl 4 rfl) ?_
    refine lv_iadd hx hb dL_loud_18 ?_
    refine b_top (y := nI ((5 * k) + i)) (nI_add (5 * k) i) ?_
    refine b_iald (v := V 9 (k * 5 + i)) hx hb hK hP 0 0 ((5 * k) + i) rfl rfl rfl (by omega) rfl ((congrArg (V 9) (show (5 * k) + i = k * 5 + i by omega)).trans rfl) dL_loud_19 ?_
    refine lv_iload_n hx hb dL_loud_20 rfl (lv_at hl 2 rfl) ?_
    refine lv_iload hx hb dL_loud_21 (lv_at hl 4 rfl) ?_
    refine lv_ishr hx hb dL_loud_23 ?_
    refine lv_iconst (v := 1) hx hb dL_loud_24 (by decide) ?_
    refine lv_iand hx hb dL_loud_25 ?_
    refine lv_imul hx hb dL_loud_26 ?_
    refine lv_iadd hx hb dL_loud_27 ?_
    refine lv_istore_n (lv' := [(3, .int ((loL V k bs i) + ((V 9 (k * 5 + i)) * ((bs >>> ((nI i) &&& 31)) &&& 1)))), (0, .ref aw), (1, .int (nI k)), (2, .int bs), (4, .int (nI i))]) hx hb dL_loud_28 rfl hl (by decide) rfl (fun ls hl => ?_)
    refine lv_iinc (v := nI (i + 1)) (lv' := [(4, .int (nI (i + 1))), (3, .int ((loL V k bs i) + ((V 9 (k * 5 + i)) * ((bs >>> ((nI i) &&& 31)) &&& 1)))), (0, .ref aw), (1, .int (nI k)), (2, .int bs)]) hx hb dL_loud_29 hl (k := 4) rfl (nI_add i 1) (by decide) rfl (fun ls hl => ?_)
    refine lv_goto (tgt := 5) hx hb dL_loud_32 (by decide) ?_
    have e_2 : loL V k bs (i + 1) = (loL V k bs i) + ((V 9 (k * 5 + i)) * ((bs >>> ((nI i) &&& 31)) &&& 1)) := rfl
    exact ih_i (by omega)  _ (by rw [e_2]; exact lv_sub hl [2, 3, 4, 1, 0] rfl) 

set_option maxHeartbeats 4000000 in
set_option maxRecDepth 100000 in
theorem c_L_reaches (l : Launch) (g : gx) (at_ an al : Nat) (V : sV) (u : Nat → Int32) (k e0 : Nat) (hk : k < 6) (he : e0 < 6)  : cR l g yL_reaches cL_reaches 6 (some .int) ({ frames := 0, cells := 0, slots := 0, locals := 0 } : Room) [.ref at_, .ref an, .ref al, .int (nI k), .int (nI e0)] [aR g at_ 54 (rT V), aR g an 5 (V 12), aR g al 6 u] (.int (rcL V u k e0)) := by
  refine cR.mk (by decide +kernel) (Nat.le_of_ble_eq_true rfl) ?_
  intro p e s m below meth c ls E hK hP hl
  obtain ⟨hx, hb, hr, hml, hts, hown, hlocks, hin⟩ := id E
  have hown : s.vm.findClass RL = some m.cls := hown
  have hl : lv_has ls 6 [(0, .ref at_), (1, .ref an), (2, .ref al), (3, .int (nI k)), (4, .int (nI e0))] := hl
  refine lv_aload_n hx hb dL_reaches_0 rfl (lv_at hl 0 rfl) ?_
  refine lv_bipush (v := 9) hx hb dL_reaches_1 (by decide) ?_
  refine lv_iload_n hx hb dL_reaches_3 rfl (lv_at hl 3 rfl) ?_
  refine lv_imul hx hb dL_reaches_4 ?_
  refine b_top (y := nI (9 * k)) (pk_mul 9 k) ?_
  refine b_iald (v := V 0 k) hx hb hK hP 0 0 (9 * k) rfl rfl rfl (by omega) rfl ((rT_at0 _ _).trans rfl) dL_reaches_5 ?_
  refine lv_aload_n hx hb dL_reaches_6 rfl (lv_at hl 0 rfl) ?_
  refine lv_bipush (v := 9) hx hb dL_reaches_7 (by decide) ?_
  refine lv_iload hx hb dL_reaches_9 (lv_at hl 4 rfl) ?_
  refine lv_imul hx hb dL_reaches_11 ?_
  refine b_top (y := nI (9 * e0)) (pk_mul 9 e0) ?_
  refine b_iald (v := V 0 e0) hx hb hK hP 0 0 (9 * e0) rfl rfl rfl (by omega) rfl ((rT_at0 _ _).trans rfl) dL_reaches_12 ?_
  refine lv_icmp_le (tgt := 33) hx hb dL_reaches_13 (by decide) (fun h_1 => ?_) (fun h_1 => ?_)
  · refine lv_aload_n hx hb dL_reaches_33 rfl (lv_at hl 0 rfl) ?_
    refine lv_bipush (v := 9) hx hb dL_reaches_34 (by decide) ?_
    refine lv_iload hx hb dL_reaches_36 (lv_at hl 4 rfl) ?_
    refine lv_imul hx hb dL_reaches_38 ?_
    refine b_top (y := nI (9 * e0)) (pk_mul 9 e0) ?_
    refine b_iald (v := V 0 e0) hx hb hK hP 0 0 (9 * e0) rfl rfl rfl (by omega) rfl ((rT_at0 _ _).trans rfl) dL_reaches_39 ?_
    refine lv_aload_n hx hb dL_reaches_40 rfl (lv_at hl 0 rfl) ?_
    refine lv_bipush (v := 9) hx hb dL_reaches_41 (by decide) ?_
    refine lv_iload_n hx hb dL_reaches_43 rfl (lv_at hl 3 rfl) ?_
    refine lv_imul hx hb dL_reaches_44 ?_
    refine b_top (y := nI (9 * k)) (pk_mul 9 k) ?_
    refine b_iald (v := V 0 k) hx hb hK hP 0 0 (9 * k) rfl rfl rfl (by omega) rfl ((rT_at0 _ _).trans rfl) dL_reaches_45 ?_
    refine lv_isub hx hb dL_reaches_46 ?_
    refine lv_istore (lv' := [(5, .int ((V 0 e0) - (V 0 k))), (0, .ref at_), (1, .ref an), (2, .ref al), (3, .int (nI k)), (4, .int (nI e0))]) hx hb dL_reaches_47 hl (by decide) rfl (fun ls hl => ?_)
    refine lv_aload_n hx hb dL_reaches_49 rfl (lv_at hl 3 rfl) ?_
    refine lv_iload_n hx hb dL_reaches_50 rfl (lv_at hl 4 rfl) ?_
    refine b_iald (v := u k) hx hb hK hP 2 0 (k) rfl rfl rfl (by omega) rfl rfl dL_reaches_51 ?_
    refine lv_aload_n hx hb dL_reaches_52 rfl (lv_at hl 2 rfl) ?_
    refine lv_iconst (v := 0) hx hb dL_reaches_53 (by decide) ?_
    refine b_iald (v := V 12 0) hx hb hK hP 1 0 (0) rfl rfl rfl (by omega) rfl rfl dL_reaches_54 ?_
    refine lv_iload hx hb dL_reaches_55 (lv_at hl 0 rfl) ?_
    refine lv_imul hx hb dL_reaches_57 ?_
    refine lv_icmp_le (tgt := 74) hx hb dL_reaches_58 (by decide) (fun h_2 => ?_) (fun h_2 => ?_)
    · refine lv_iconst (v := 0) hx hb dL_reaches_74 (by decide) ?_
      exact rI_ret hx hb hr hlocks dL_reaches_75 (by simp only [rcL, miL]; simp only [h_1, h_2, Int32.not_lt, Int32.not_le, not_true_eq_false, not_false_eq_true, ite_true, ite_false, reduceIte])
    · refine lv_aload_n hx hb dL_reaches_61 rfl (lv_at hl 3 rfl) ?_
      refine lv_iload_n hx hb dL_reaches_62 rfl (lv_at hl 4 rfl) ?_
      refine b_iald (v := u k) hx hb hK hP 2 0 (k) rfl rfl rfl (by omega) rfl rfl dL_reaches_63 ?_
      refine lv_aload_n hx hb dL_reaches_64 rfl (lv_at hl 2 rfl) ?_
      refine lv_iconst (v := 0) hx hb dL_reaches_65 (by decide) ?_
      refine b_iald (v := V 12 0) hx hb hK hP 1 0 (0) rfl rfl rfl (by omega) rfl rfl dL_reaches_66 ?_
      refine lv_iload hx hb dL_reaches_67 (lv_at hl 0 rfl) ?_
      refine lv_imul hx hb dL_reaches_69 ?_
      refine lv_isub hx hb dL_reaches_70 ?_
      refine lv_goto (tgt := 75) hx hb dL_reaches_71 (by decide) ?_
      exact rI_ret hx hb hr hlocks dL_reaches_75 (by simp only [rcL, miL]; simp only [h_1, h_2, Int32.not_lt, Int32.not_le, not_true_eq_false, not_false_eq_true, ite_true, ite_false, reduceIte])
  · refine lv_aload_n hx hb dL_reaches_16 rfl (lv_at hl 0 rfl) ?_
    refine lv_bipush (v := 9) hx hb dL_reaches_17 (by decide) ?_
    refine lv_iload_n hx hb dL_reaches_19 rfl (lv_at hl 3 rfl) ?_
    refine lv_imul hx hb dL_reaches_20 ?_
    refine b_top (y := nI (9 * k)) (pk_mul 9 k) ?_
    refine b_iald (v := V 0 k) hx hb hK hP 0 0 (9 * k) rfl rfl rfl (by omega) rfl ((rT_at0 _ _).trans rfl) dL_reaches_21 ?_
    refine lv_aload_n hx hb dL_reaches_22 rfl (lv_at hl 0 rfl) ?_
    refine lv_bipush (v := 9) hx hb dL_reaches_23 (by decide) ?_
    refine lv_iload hx hb dL_reaches_25 (lv_at hl 4 rfl) ?_
    refine lv_imul hx hb dL_reaches_27 ?_
    refine b_top (y := nI (9 * e0)) (pk_mul 9 e0) ?_
    refine b_iald (v := V 0 e0) hx hb hK hP 0 0 (9 * e0) rfl rfl rfl (by omega) rfl ((rT_at0 _ _).trans rfl) dL_reaches_28 ?_
    refine lv_isub hx hb dL_reaches_29 ?_
    refine lv_goto (tgt := 47) hx hb dL_reaches_30 (by decide) ?_
    refine lv_istore (lv' := [(5, .int ((V 0 k) - (V 0 e0))), (0, .ref at_), (1, .ref an), (2, .ref al), (3, .int (nI k)), (4, .int (nI e0))]) hx hb dL_reaches_47 hl (by decide) rfl (fun ls hl => ?_)
    refine lv_aload_n hx hb dL_reaches_49 rfl (lv_at hl 3 rfl) ?_
    refine lv_iload_n hx hb dL_reaches_50 rfl (lv_at hl 4 rfl) ?_
    refine b_iald (v := u k) hx hb hK hP 2 0 (k) rfl rfl rfl (by omega) rfl rfl dL_reaches_51 ?_
    refine lv_aload_n hx hb dL_reaches_52 rfl (lv_at hl 2 rfl) ?_
    refine lv_iconst (v := 0) hx hb dL_reaches_53 (by decide) ?_
    refine b_iald (v := V 12 0) hx hb hK hP 1 0 (0) rfl rfl rfl (by omega) rfl rfl dL_reaches_54 ?_
    refine lv_iload hx hb dL_reaches_55 (lv_at hl 0 rfl) ?_
    refine lv_imul hx hb dL_reaches_57 ?_
    refine lv_icmp_le (tgt := 74) hx hb dL_reaches_58 (by decide) (fun h_3 => ?_) (fun h_3 => ?_)
    · refine lv_iconst (v := 0) hx hb dL_reaches_74 (by decide) ?_
      exact rI_ret hx hb hr hlocks dL_reaches_75 (by simp only [rcL, miL]; simp only [h_1, h_3, Int32.not_lt, Int32.not_le, not_true_eq_false, not_false_eq_true, ite_true, ite_false, reduceIte])
    · refine lv_aload_n hx hb dL_reaches_61 rfl (lv_at hl 3 rfl) ?_
      refine lv_iload_n hx hb dL_reaches_62 rfl (lv_at hl 4 rfl) ?_
      refine b_iald (v := u k) hx hb hK hP 2 0 (k) rfl rfl rfl (by omega) rfl rfl dL_reaches_63 ?_
      refine lv_aload_n hx hb dL_reaches_64 rfl (lv_at hl 2 rfl) ?_
      refine lv_iconst (v := 0) hx hb dL_reaches_65 (by decide) ?_
      refine b_iald (v := V 12 0) hx hb hK hP 1 0 (0) rfl rfl rfl (by omega) rfl rfl dL_reaches_66 ?_
      refine lv_iload hx hb dL_reaches_67 (lv_at hl 0 rfl) ?_
      refine lv_imul hx hb dL_reaches_69 ?_
      refine lv_isub hx hb dL_reaches_70 ?_
      refine lv_goto (tgt := 75) hx hb dL_reaches_71 (by decide) ?_
      exact rI_ret hx hb hr hlocks dL_reaches_75 (by simp only [rcL, miL]; simp only [h_1, h_3, Int32.not_lt, Int32.not_le, not_true_eq_false, not_false_eq_true, ite_true, ite_false, reduceIte])
