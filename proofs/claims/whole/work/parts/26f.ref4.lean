set_option maxHeartbeats 4000000 in
set_option maxRecDepth 100000 in
theorem c_X5_ifPlanned (l : Launch) (g : gx) (h : Nat) (a : Nat → Nat) (V X : sV) (x y : Int32) (t : Nat) (cq : Nat → Nat) (hc : ∀ t, t < 6 → V 3 t = nI (cq t) ∧ cq t ≤ 5) (hxt : isT x → x = nI t ∧ t < 6) : cU (S := sV) l g yX5_ifPlanned cX5_ifPlanned 3 (some .int) ({ frames := 6, cells := 0, slots := 0, locals := 136 } : Room) [.ref h, .int x, .int y] [mV g h a V X] (fun u => some (.int (if plM V x t y = 0 then pwM V (pwX V cq X t y 4) t 6 else plM V x t y))) (fun u => ∀ k9, k9 ≠ 4 → u k9 = X k9) (fun u => [mV g h a V u]) := by
  refine cU.mk (by decide +kernel) (Nat.le_of_ble_eq_true rfl) ?_
  intro p e s m below meth c ls E hK hW hl
  obtain ⟨hx, hb, hr, hml, hts, hown, hlocks, hin⟩ := id E
  have hown : s.vm.findClass RX5 = some m.cls := hown
  have hP := hW.1
  have hl : lv_has ls 3 [(0, .ref h), (1, .int x), (2, .int y)] := hl
  refine lv_iload_n hx hb dX5_ifPlanned_0 rfl (lv_at hl 1 rfl) ?_
  refine call_SR (As := [.int x]) (rest := []) E rfl hK hP (c_X5_isTown l g x) ok_X5_isTown rfl q3_88 [] rfl ⟨⟨rfl, rfl⟩, Nat.le_of_ble_eq_true rfl, Nat.le_of_ble_eq_true rfl⟩ hl.1 (Nat.le_of_ble_eq_true rfl) ⟨Nat.le_of_ble_eq_true rfl, Nat.le_of_ble_eq_true rfl⟩ rfl dX5_ifPlanned_1 ?_
  refine b_ne0 (tgt := 9) hx hb dX5_ifPlanned_4 (by decide) (fun h_1 => ?_) (fun h_1 => ?_)
  · have hT1 := h_1
    obtain ⟨rfl, ht⟩ := hxt h_1
    refine lv_aload_n hx hb dX5_ifPlanned_9 rfl (lv_at hl 0 rfl) ?_
    refine lv_iload_n hx hb dX5_ifPlanned_10 rfl (lv_at hl 1 rfl) ?_
    refine lv_iload_n hx hb dX5_ifPlanned_11 rfl (lv_at hl 2 rfl) ?_
    refine call_VR (As := [.int (nI t), .int y]) (rest := []) E rfl hK hP (c_X5_hasBells l g h a V X t y (by omega)) ok_X5_hasBells rfl q3_118 [0] rfl (b_recv hK hP 0 0 rfl rfl rfl rfl) ⟨⟨rfl, rfl⟩, Nat.le_of_ble_eq_true rfl, Nat.le_of_ble_eq_true rfl⟩ hl.1 (Nat.le_of_ble_eq_true rfl) ⟨Nat.le_of_ble_eq_true rfl, Nat.le_of_ble_eq_true rfl⟩ rfl dX5_ifPlanned_12 ?_
    refine b_eq0 (tgt := 27) hx hb dX5_ifPlanned_15 (by decide) (fun h_2 => ?_) (fun h_2 => ?_)
    · refine lv_bipush (v := -2) hx hb dX5_ifPlanned_27 (by decide) ?_
      exact uI_ret X hW hx hb hr hlocks dX5_ifPlanned_29 (by rw [plM, if_pos hT1]; first | (rw [if_neg h_2, if_neg (by decide)]; done) | (rw [if_pos h_2, if_pos rfl]; first | done | simp only [])) (fun _ _ => rfl) (by exact rfl) (adr2 (L := [[h, a 0, a 1, a 2, a 3, a 4, a 5, a 6, a 7, a 8]]) rfl rfl)
    · refine lv_aload_n hx hb dX5_ifPlanned_18 rfl (lv_at hl 0 rfl) ?_
      refine lv_iload_n hx hb dX5_ifPlanned_19 rfl (lv_at hl 1 rfl) ?_
      refine lv_iload_n hx hb dX5_ifPlanned_20 rfl (lv_at hl 2 rfl) ?_
      refine call_VU (As := [.int (nI t), .int y]) (rest := []) E rfl hK hW (c_X5_pointsWith l g h a V X t y cq hc (by omega)) ok_X5_pointsWith rfl q4_30 [0] rfl (by decide) (b_recv hK hP 0 0 rfl rfl rfl rfl) ⟨⟨rfl, rfl⟩, Nat.le_of_ble_eq_true rfl, Nat.le_of_ble_eq_true rfl⟩ hl.1 (Nat.le_of_ble_eq_true rfl) ⟨Nat.le_of_ble_eq_true rfl, Nat.le_of_ble_eq_true rfl⟩ rfl dX5_ifPlanned_21 (fun _u H locs _ hW => ?_)
      have hW : wd g _ s.heap [mV g h a V (pwX V cq X t y)] H locs := hW
      have hP := hW.1
      obtain ⟨U_3, hU_3⟩ : ∃ z, z = (pwX V cq X t y) := ⟨_, rfl⟩
      rw [← hU_3] at hW
      have hP := hW.1
      rw [← hU_3]
      refine lv_goto (tgt := 29) hx hb dX5_ifPlanned_24 (by decide) ?_
      exact uI_ret U_3 hW hx hb hr hlocks dX5_ifPlanned_29 (by rw [plM, if_pos hT1]; first | (rw [if_neg h_2, if_neg (by decide)]; done) | (rw [if_pos h_2, if_pos rfl]; first | done | simp only [hU_3])) (fun k9 h9 => by rw [hU_3]; exact pwX_k _ _ _ _ _ h9) (by exact rfl) (adr2 (L := [[h, a 0, a 1, a 2, a 3, a 4, a 5, a 6, a 7, a 8]]) rfl rfl)
  · refine lv_iconst (v := -1) hx hb dX5_ifPlanned_7 (by decide) ?_
    exact uI_ret X hW hx hb hr hlocks dX5_ifPlanned_8 (by rw [plM, if_neg h_1, if_neg (by decide)]) (fun _ _ => rfl) (by exact rfl) (adr2 (L := [[h, a 0, a 1, a 2, a 3, a 4, a 5, a 6, a 7, a 8]]) rfl rfl)

set_option maxHeartbeats 4000000 in
set_option maxRecDepth 100000 in
theorem c_X5_bestPlan (l : Launch) (g : gx) (h : Nat) (a : Nat → Nat) (V X : sV) (x : Int32) (t : Nat) (cq : Nat → Nat) (hc : ∀ t, t < 6 → V 3 t = nI (cq t) ∧ cq t ≤ 5) (hxt : isT x → x = nI t ∧ t < 6) : cU (S := sV) l g yX5_bestPlan cX5_bestPlan 8 (some .int) ({ frames := 6, cells := 0, slots := 0, locals := 136 } : Room) [.ref h, .int x] [mV g h a V X] (fun u => some (.int (if isT x then (bpM V cq X t (2 ^ cq t)).1.1 else -1))) (fun u => ∀ k9, k9 ≠ 4 → u k9 = X k9) (fun u => [mV g h a V u]) := by
  refine cU.mk (by decide +kernel) (Nat.le_of_ble_eq_true rfl) ?_
  intro p e s m below meth c ls E hK hW hl
  obtain ⟨hx, hb, hr, hml, hts, hown, hlocks, hin⟩ := id E
  have hown : s.vm.findClass RX5 = some m.cls := hown
  have hP := hW.1
  have hl : lv_has ls 8 [(0, .ref h), (1, .int x)] := hl
  refine lv_iload_n hx hb dX5_bestPlan_0 rfl (lv_at hl 1 rfl) ?_
  refine call_SR (As := [.int x]) (rest := []) E rfl hK hP (c_X5_isTown l g x) ok_X5_isTown rfl q3_88 [] rfl ⟨⟨rfl, rfl⟩, Nat.le_of_ble_eq_true rfl, Nat.le_of_ble_eq_true rfl⟩ hl.1 (Nat.le_of_ble_eq_true rfl) ⟨Nat.le_of_ble_eq_true rfl, Nat.le_of_ble_eq_true rfl⟩ rfl dX5_bestPlan_1 ?_
  refine b_ne0 (tgt := 9) hx hb dX5_bestPlan_4 (by decide) (fun h_1 => ?_) (fun h_1 => ?_)
  · have hT1 := h_1
    obtain ⟨rfl, ht⟩ := hxt h_1
    have hM : 0 < 2 ^ cq t ∧ 2 ^ cq t ≤ 32 := by have q9 := (hc t ht).2; rcases (show cq t = 0 ∨ cq t = 1 ∨ cq t = 2 ∨ cq t = 3 ∨ cq t = 4 ∨ cq t = 5 by omega) with q | q | q | q | q | q <;> rw [q] <;> decide
    refine lv_iconst (v := 0) hx hb dX5_bestPlan_9 (by decide) ?_
    refine lv_istore_n (lv' := [(2, .int 0), (0, .ref h), (1, .int (nI t))]) hx hb dX5_bestPlan_10 rfl hl (by decide) rfl (fun ls hl => ?_)
    refine lv_bipush (v := -5) hx hb dX5_bestPlan_11 (by decide) ?_
    refine lv_istore_n (lv' := [(3, .int (-5)), (2, .int 0), (0, .ref h), (1, .int (nI t))]) hx hb dX5_bestPlan_13 rfl hl (by decide) rfl (fun ls hl => ?_)
    refine lv_iconst (v := 0) hx hb dX5_bestPlan_14 (by decide) ?_
    refine lv_istore (lv' := [(4, .int 0), (3, .int (-5)), (2, .int 0), (0, .ref h), (1, .int (nI t))]) hx hb dX5_bestPlan_15 hl (by decide) rfl (fun ls hl => ?_)
    refine lv_iconst (v := 0) hx hb dX5_bestPlan_17 (by decide) ?_
    refine lv_istore (lv' := [(5, .int 0), (4, .int 0), (3, .int (-5)), (2, .int 0), (0, .ref h), (1, .int (nI t))]) hx hb dX5_bestPlan_18 hl (by decide) rfl (fun ls hl => ?_)
    refine loopN (fun i : Nat => ∀ (H : Heap) (locs : List Loc) (ls : Array Slot), wd g (fun z9 => z9 ∈ adr [mV g h a V X]) s.heap [mV g h a V ((bpM V cq X t i).2)] H locs → lv_has ls 8 [(0, .ref h), (1, .int (nI t)), (2, .int ((bpM V cq X t i).1.1)), (3, .int ((bpM V cq X t i).1.2.1)), (4, .int ((bpM V cq X t i).1.2.2)), (5, .int (nI i))] → W p l e _ s m _ below meth c H locs 0 0 _ (F0 m 20 ls [])) (2 ^ cq t) (fun i hi ih_i => ?_) (0) (by omega)  s.heap [] ls hW (lv_sub hl [4, 5, 3, 2, 1, 0] rfl) 
    intro  H locs ls hW hl 
    have hP := hW.1
    refine lv_iload hx hb dX5_bestPlan_20 (lv_at hl 5 rfl) ?_
    refine lv_aload_n hx hb dX5_bestPlan_22 rfl (lv_at hl 0 rfl) ?_
    refine lv_iload_n hx hb dX5_bestPlan_23 rfl (lv_at hl 1 rfl) ?_
    refine call_VR (As := [.int (nI t)]) (rest := [.int (nI i)]) E rfl hK hP (c_X5_allBells l g h a V ((bpM V cq X t i).2) t (by omega)) ok_X5_allBells rfl q3_122 [0] rfl (b_recv hK hP 0 0 rfl rfl rfl rfl) ⟨⟨rfl, rfl⟩, Nat.le_of_ble_eq_true rfl, Nat.le_of_ble_eq_true rfl⟩ hl.1 (Nat.le_of_ble_eq_true rfl) ⟨Nat.le_of_ble_eq_true rfl, Nat.le_of_ble_eq_true rfl⟩ rfl dX5_bestPlan_24 ?_
    refine b_top (y := nI (2 ^ cq t - 1)) (evB_nat (hc t ht).1 (hc t ht).2) ?_
    refine b_gt (tgt := 117) (i) (2 ^ cq t - 1) hx hb rfl rfl (by omega) (by omega) dX5_bestPlan_27 (by decide) (fun h_2 => ?_) (fun h_2 => ?_)
    · have hiM : i = 2 ^ cq t := by omega
      refine lv_iload_n hx hb dX5_bestPlan_117 rfl (lv_at hl 2 rfl) ?_
      exact uI_ret (bpM V cq X t i).2 hW hx hb hr hlocks dX5_bestPlan_118 (by rw [if_pos hT1, hiM]) (fun k9 h9 => bpM_X _ _ _ _ h9 _) (by exact rfl) (adr2 (L := [[h, a 0, a 1, a 2, a 3, a 4, a 5, a 6, a 7, a 8]]) rfl rfl)
    · refine lv_aload_n hx hb dX5_bestPlan_30 rfl (lv_at hl 0 rfl) ?_
      refine lv_iload_n hx hb dX5_bestPlan_31 rfl (lv_at hl 1 rfl) ?_
      refine lv_iload hx hb dX5_bestPlan_32 (lv_at hl 5 rfl) ?_
      refine call_VU (As := [.int (nI t), .int (nI i)]) (rest := []) E rfl hK hW (c_X5_pointsWith l g h a V ((bpM V cq X t i).2) t (nI i) cq hc (by omega)) ok_X5_pointsWith rfl q4_30 [0] rfl (by decide) (b_recv hK hP 0 0 rfl rfl rfl rfl) ⟨⟨rfl, rfl⟩, Nat.le_of_ble_eq_true rfl, Nat.le_of_ble_eq_true rfl⟩ hl.1 (Nat.le_of_ble_eq_true rfl) ⟨Nat.le_of_ble_eq_true rfl, Nat.le_of_ble_eq_true rfl⟩ rfl dX5_bestPlan_34 (fun _u H locs _ hW => ?_)
      have hW : wd g _ s.heap [mV g h a V (pwX V cq ((bpM V cq X t i).2) t (nI i))] H locs := hW
      have hP := hW.1
      obtain ⟨U_3, hU_3⟩ : ∃ z, z = (pwX V cq ((bpM V cq X t i).2) t (nI i)) := ⟨_, rfl⟩
      rw [← hU_3] at hW
      have hP := hW.1
      rw [← hU_3]
      refine lv_istore (lv' := [(6, .int (pwM V (U_3 4) t 6)), (0, .ref h), (1, .int (nI t)), (2, .int ((bpM V cq X t i).1.1)), (3, .int ((bpM V cq X t i).1.2.1)), (4, .int ((bpM V cq X t i).1.2.2)), (5, .int (nI i))]) hx hb dX5_bestPlan_37 hl (by decide) rfl (fun ls hl => ?_)
      refine lv_iload hx hb dX5_bestPlan_39 (lv_at hl 0 rfl) ?_
      refine lv_iload_n hx hb dX5_bestPlan_41 rfl (lv_at hl 4 rfl) ?_
      refine lv_icmp_gt (tgt := 62) hx hb dX5_bestPlan_42 (by decide) (fun h_4 => ?_) (fun h_4 => ?_)
      · refine lv_iconst (v := 1) hx hb dX5_bestPlan_62 (by decide) ?_
        refine lv_goto (tgt := 67) hx hb dX5_bestPlan_63 (by decide) ?_
        refine lv_istore (lv' := [(7, .int 1), (6, .int (pwM V (U_3 4) t 6)), (0, .ref h), (1, .int (nI t)), (2, .int ((bpM V cq X t i).1.1)), (3, .int ((bpM V cq X t i).1.2.1)), (4, .int ((bpM V cq X t i).1.2.2)), (5, .int (nI i))]) hx hb dX5_bestPlan_67 hl (by decide) rfl (fun ls hl => ?_)
        refine lv_iload hx hb dX5_bestPlan_69 (lv_at hl 0 rfl) ?_
        refine lv_if_eq (tgt := 79) hx hb dX5_bestPlan_71 (by decide) (fun h_5 => ?_) (fun h_5 => ?_)
        · exact absurd h_5 (by decide)
        · refine lv_iload hx hb dX5_bestPlan_74 (lv_at hl 7 rfl) ?_
          refine lv_goto (tgt := 80) hx hb dX5_bestPlan_76 (by decide) ?_
          refine lv_istore_n (lv' := [(2, .int (nI i)), (7, .int 1), (6, .int (pwM V (U_3 4) t 6)), (0, .ref h), (1, .int (nI t)), (3, .int ((bpM V cq X t i).1.2.1)), (4, .int ((bpM V cq X t i).1.2.2)), (5, .int (nI i))]) hx hb dX5_bestPlan_80 rfl hl (by decide) rfl (fun ls hl => ?_)
          refine lv_iload hx hb dX5_bestPlan_81 (lv_at hl 1 rfl) ?_
          refine lv_if_eq (tgt := 91) hx hb dX5_bestPlan_83 (by decide) (fun h_6 => ?_) (fun h_6 => ?_)
          · exact absurd h_6 (by decide)
          · refine lv_iload hx hb dX5_bestPlan_86 (lv_at hl 2 rfl) ?_
            refine lv_goto (tgt := 92) hx hb dX5_bestPlan_88 (by decide) ?_
            refine lv_istore_n (lv' := [(3, .int (pwM V (U_3 4) t 6)), (2, .int (nI i)), (7, .int 1), (6, .int (pwM V (U_3 4) t 6)), (0, .ref h), (1, .int (nI t)), (4, .int ((bpM V cq X t i).1.2.2)), (5, .int (nI i))]) hx hb dX5_bestPlan_92 rfl hl (by decide) rfl (fun ls hl => ?_)
            refine lv_iload hx hb dX5_bestPlan_93 (lv_at hl 2 rfl) ?_
            refine lv_if_eq (tgt := 107) hx hb dX5_bestPlan_95 (by decide) (fun h_7 => ?_) (fun h_7 => ?_)
            · exact absurd h_7 (by decide)
            · refine lv_aload_n hx hb dX5_bestPlan_98 rfl (lv_at hl 4 rfl) ?_
              refine b_get (v := .ref (a 4)) hx hb hts inX5 hown hK hP 0 0 6 rfl rfl rfl (by decide) q3_31 rfl rfl dX5_bestPlan_99 ?_
              refine lv_iload_n hx hb dX5_bestPlan_102 rfl (lv_at hl 5 rfl) ?_
              refine b_iald (v := U_3 4 t) hx hb hK hP 0 5 (t) rfl rfl rfl (by omega) rfl rfl dX5_bestPlan_103 ?_
              refine lv_goto (tgt := 109) hx hb dX5_bestPlan_104 (by decide) ?_
              refine lv_istore (lv' := [(4, .int (U_3 4 t)), (3, .int (pwM V (U_3 4) t 6)), (2, .int (nI i)), (7, .int 1), (6, .int (pwM V (U_3 4) t 6)), (0, .ref h), (1, .int (nI t)), (5, .int (nI i))]) hx hb dX5_bestPlan_109 hl (by decide) rfl (fun ls hl => ?_)
              refine lv_iinc (v := nI (i + 1)) (lv' := [(5, .int (nI (i + 1))), (4, .int (U_3 4 t)), (3, .int (pwM V (U_3 4) t 6)), (2, .int (nI i)), (7, .int 1), (6, .int (pwM V (U_3 4) t 6)), (0, .ref h), (1, .int (nI t))]) hx hb dX5_bestPlan_111 hl (k := 7) rfl (nI_add i 1) (by decide) rfl (fun ls hl => ?_)
              refine lv_goto (tgt := 20) hx hb dX5_bestPlan_114 (by decide) ?_
              have e_8 : bpM V cq X t (i + 1) = ((nI i, pwM V (U_3 4) t 6, U_3 4 t), U_3) := by rw [bpM]; simp only [← hU_3]; first | (rw [if_pos h_4]; done) | (rw [if_neg h_2, if_neg h_4]; done) | (rw [if_neg h_1, if_pos h_2, if_pos h_4]; done) | (rw [if_neg h_1, if_pos h_2, if_neg h_4]; done)
              exact ih_i (by omega) _ _ _ (by rw [e_8]; exact hW) (by rw [e_8]; exact lv_sub hl [6, 7, 3, 2, 1, 0] rfl) 
      · refine lv_iload hx hb dX5_bestPlan_45 (lv_at hl 0 rfl) ?_
        refine lv_iload_n hx hb dX5_bestPlan_47 rfl (lv_at hl 4 rfl) ?_
        refine lv_icmp_ne (tgt := 66) hx hb dX5_bestPlan_48 (by decide) (fun h_9 => ?_) (fun h_9 => ?_)
        · refine lv_iconst (v := 0) hx hb dX5_bestPlan_66 (by decide) ?_
          refine lv_istore (lv' := [(7, .int 0), (6, .int (pwM V (U_3 4) t 6)), (0, .ref h), (1, .int (nI t)), (2, .int ((bpM V cq X t i).1.1)), (3, .int ((bpM V cq X t i).1.2.1)), (4, .int ((bpM V cq X t i).1.2.2)), (5, .int (nI i))]) hx hb dX5_bestPlan_67 hl (by decide) rfl (fun ls hl => ?_)
          refine lv_iload hx hb dX5_bestPlan_69 (lv_at hl 0 rfl) ?_
          refine lv_if_eq (tgt := 79) hx hb dX5_bestPlan_71 (by decide) (fun h_10 => ?_) (fun h_10 => ?_)
          · refine lv_iload_n hx hb dX5_bestPlan_79 rfl (lv_at hl 4 rfl) ?_
            refine lv_istore_n (lv' := [(2, .int ((bpM V cq X t i).1.1)), (7, .int 0), (6, .int (pwM V (U_3 4) t 6)), (0, .ref h), (1, .int (nI t)), (3, .int ((bpM V cq X t i).1.2.1)), (4, .int ((bpM V cq X t i).1.2.2)), (5, .int (nI i))]) hx hb dX5_bestPlan_80 rfl hl (by decide) rfl (fun ls hl => ?_)
            refine lv_iload hx hb dX5_bestPlan_81 (lv_at hl 1 rfl) ?_
            refine lv_if_eq (tgt := 91) hx hb dX5_bestPlan_83 (by decide) (fun h_11 => ?_) (fun h_11 => ?_)
            · refine lv_iload_n hx hb dX5_bestPlan_91 rfl (lv_at hl 5 rfl) ?_
              refine lv_istore_n (lv' := [(3, .int ((bpM V cq X t i).1.2.1)), (2, .int ((bpM V cq X t i).1.1)), (7, .int 0), (6, .int (pwM V (U_3 4) t 6)), (0, .ref h), (1, .int (nI t)), (4, .int ((bpM V cq X t i).1.2.2)), (5, .int (nI i))]) hx hb dX5_bestPlan_92 rfl hl (by decide) rfl (fun ls hl => ?_)
              refine lv_iload hx hb dX5_bestPlan_93 (lv_at hl 2 rfl) ?_
              refine lv_if_eq (tgt := 107) hx hb dX5_bestPlan_95 (by decide) (fun h_12 => ?_) (fun h_12 => ?_)
              · refine lv_iload hx hb dX5_bestPlan_107 (lv_at hl 6 rfl) ?_
                refine lv_istore (lv' := [(4, .int ((bpM V cq X t i).1.2.2)), (3, .int ((bpM V cq X t i).1.2.1)), (2, .int ((bpM V cq X t i).1.1)), (7, .int 0), (6, .int (pwM V (U_3 4) t 6)), (0, .ref h), (1, .int (nI t)), (5, .int (nI i))]) hx hb dX5_bestPlan_109 hl (by decide) rfl (fun ls hl => ?_)
                refine lv_iinc (v := nI (i + 1)) (lv' := [(5, .int (nI (i + 1))), (4, .int ((bpM V cq X t i).1.2.2)), (3, .int ((bpM V cq X t i).1.2.1)), (2, .int ((bpM V cq X t i).1.1)), (7, .int 0), (6, .int (pwM V (U_3 4) t 6)), (0, .ref h), (1, .int (nI t))]) hx hb dX5_bestPlan_111 hl (k := 7) rfl (nI_add i 1) (by decide) rfl (fun ls hl => ?_)
                refine lv_goto (tgt := 20) hx hb dX5_bestPlan_114 (by decide) ?_
                have e_13 : bpM V cq X t (i + 1) = (((bpM V cq X t i).1.1, (bpM V cq X t i).1.2.1, (bpM V cq X t i).1.2.2), U_3) := by rw [bpM]; simp only [← hU_3]; first | (rw [if_pos h_9]; done) | (rw [if_neg h_4, if_neg h_9]; done) | (rw [if_neg h_2, if_pos h_4, if_pos h_9]; done) | (rw [if_neg h_2, if_pos h_4, if_neg h_9]; done)
                exact ih_i (by omega) _ _ _ (by rw [e_13]; exact hW) (by rw [e_13]; exact lv_sub hl [6, 7, 3, 2, 1, 0] rfl) 
              · exact absurd h_12 (by decide)
            · exact absurd h_11 (by decide)
          · exact absurd h_10 (by decide)
        · refine lv_aload_n hx hb dX5_bestPlan_51 rfl (lv_at hl 1 rfl) ?_
          refine b_get (v := .ref (a 4)) hx hb hts inX5 hown hK hP 0 0 6 rfl rfl rfl (by decide) q3_31 rfl rfl dX5_bestPlan_52 ?_
          refine lv_iload_n hx hb dX5_bestPlan_55 rfl (lv_at hl 2 rfl) ?_
          refine b_iald (v := U_3 4 t) hx hb hK hP 0 5 (t) rfl rfl rfl (by omega) rfl rfl dX5_bestPlan_56 ?_
          refine lv_iload hx hb dX5_bestPlan_57 (lv_at hl 5 rfl) ?_
          refine lv_icmp_ge (tgt := 66) hx hb dX5_bestPlan_59 (by decide) (fun h_14 => ?_) (fun h_14 => ?_)
          · refine lv_iconst (v := 0) hx hb dX5_bestPlan_66 (by decide) ?_
            refine lv_istore (lv' := [(7, .int 0), (6, .int (pwM V (U_3 4) t 6)), (0, .ref h), (1, .int (nI t)), (2, .int ((bpM V cq X t i).1.1)), (3, .int ((bpM V cq X t i).1.2.1)), (4, .int ((bpM V cq X t i).1.2.2)), (5, .int (nI i))]) hx hb dX5_bestPlan_67 hl (by decide) rfl (fun ls hl => ?_)
            refine lv_iload hx hb dX5_bestPlan_69 (lv_at hl 0 rfl) ?_
            refine lv_if_eq (tgt := 79) hx hb dX5_bestPlan_71 (by decide) (fun h_15 => ?_) (fun h_15 => ?_)
            · refine lv_iload_n hx hb dX5_bestPlan_79 rfl (lv_at hl 4 rfl) ?_
              refine lv_istore_n (lv' := [(2, .int ((bpM V cq X t i).1.1)), (7, .int 0), (6, .int (pwM V (U_3 4) t 6)), (0, .ref h), (1, .int (nI t)), (3, .int ((bpM V cq X t i).1.2.1)), (4, .int ((bpM V cq X t i).1.2.2)), (5, .int (nI i))]) hx hb dX5_bestPlan_80 rfl hl (by decide) rfl (fun ls hl => ?_)
              refine lv_iload hx hb dX5_bestPlan_81 (lv_at hl 1 rfl) ?_
              refine lv_if_eq (tgt := 91) hx hb dX5_bestPlan_83 (by decide) (fun h_16 => ?_) (fun h_16 => ?_)
              · refine lv_iload_n hx hb dX5_bestPlan_91 rfl (lv_at hl 5 rfl) ?_
                refine lv_istore_n (lv' := [(3, .int ((bpM V cq X t i).1.2.1)), (2, .int ((bpM V cq X t i).1.1)), (7, .int 0), (6, .int (pwM V (U_3 4) t 6)), (0, .ref h), (1, .int (nI t)), (4, .int ((bpM V cq X t i).1.2.2)), (5, .int (nI i))]) hx hb dX5_bestPlan_92 rfl hl (by decide) rfl (fun ls hl => ?_)
                refine lv_iload hx hb dX5_bestPlan_93 (lv_at hl 2 rfl) ?_
                refine lv_if_eq (tgt := 107) hx hb dX5_bestPlan_95 (by decide) (fun h_17 => ?_) (fun h_17 => ?_)
                · refine lv_iload hx hb dX5_bestPlan_107 (lv_at hl 6 rfl) ?_
                  refine lv_istore (lv' := [(4, .int ((bpM V cq X t i).1.2.2)), (3, .int ((bpM V cq X t i).1.2.1)), (2, .int ((bpM V cq X t i).1.1)), (7, .int 0), (6, .int (pwM V (U_3 4) t 6)), (0, .ref h), (1, .int (nI t)), (5, .int (nI i))]) hx hb dX5_bestPlan_109 hl (by decide) rfl (fun ls hl => ?_)
                  refine lv_iinc (v := nI (i + 1)) (lv' := [(5, .int (nI (i + 1))), (4, .int ((bpM V cq X t i).1.2.2)), (3, .int ((bpM V cq X t i).1.2.1)), (2, .int ((bpM V cq X t i).1.1)), (7, .int 0), (6, .int (pwM V (U_3 4) t 6)), (0, .ref h), (1, .int (nI t))]) hx hb dX5_bestPlan_111 hl (k := 7) rfl (nI_add i 1) (by decide) rfl (fun ls hl => ?_)
                  refine lv_goto (tgt := 20) hx hb dX5_bestPlan_114 (by decide) ?_
                  have e_18 : bpM V cq X t (i + 1) = (((bpM V cq X t i).1.1, (bpM V cq X t i).1.2.1, (bpM V cq X t i).1.2.2), U_3) := by rw [bpM]; simp only [← hU_3]; first | (rw [if_pos h_14]; done) | (rw [if_neg h_9, if_neg h_14]; done) | (rw [if_neg h_4, if_pos h_9, if_pos h_14]; done) | (rw [if_neg h_4, if_pos h_9, if_neg h_14]; done)
                  exact ih_i (by omega) _ _ _ (by rw [e_18]; exact hW) (by rw [e_18]; exact lv_sub hl [6, 7, 3, 2, 1, 0] rfl) 
                · exact absurd h_17 (by decide)
              · exact absurd h_16 (by decide)
            · exact absurd h_15 (by decide)
          · refine lv_iconst (v := 1) hx hb dX5_bestPlan_62 (by decide) ?_
            refine lv_goto (tgt := 67) hx hb dX5_bestPlan_63 (by decide) ?_
            refine lv_istore (lv' := [(7, .int 1), (6, .int (pwM V (U_3 4) t 6)), (0, .ref h), (1, .int (nI t)), (2, .int ((bpM V cq X t i).1.1)), (3, .int ((bpM V cq X t i).1.2.1)), (4, .int ((bpM V cq X t i).1.2.2)), (5, .int (nI i))]) hx hb dX5_bestPlan_67 hl (by decide) rfl (fun ls hl => ?_)
            refine lv_iload hx hb dX5_bestPlan_69 (lv_at hl 0 rfl) ?_
            refine lv_if_eq (tgt := 79) hx hb dX5_bestPlan_71 (by decide) (fun h_19 => ?_) (fun h_19 => ?_)
            · exact absurd h_19 (by decide)
            · refine lv_iload hx hb dX5_bestPlan_74 (lv_at hl 7 rfl) ?_
              refine lv_goto (tgt := 80) hx hb dX5_bestPlan_76 (by decide) ?_
              refine lv_istore_n (lv' := [(2, .int (nI i)), (7, .int 1), (6, .int (pwM V (U_3 4) t 6)), (0, .ref h), (1, .int (nI t)), (3, .int ((bpM V cq X t i).1.2.1)), (4, .int ((bpM V cq X t i).1.2.2)), (5, .int (nI i))]) hx hb dX5_bestPlan_80 rfl hl (by decide) rfl (fun ls hl => ?_)
              refine lv_iload hx hb dX5_bestPlan_81 (lv_at hl 1 rfl) ?_
              refine lv_if_eq (tgt := 91) hx hb dX5_bestPlan_83 (by decide) (fun h_20 => ?_) (fun h_20 => ?_)
              · exact absurd h_20 (by decide)
              · refine lv_iload hx hb dX5_bestPlan_86 (lv_at hl 2 rfl) ?_
                refine lv_goto (tgt := 92) hx hb dX5_bestPlan_88 (by decide) ?_
                refine lv_istore_n (lv' := [(3, .int (pwM V (U_3 4) t 6)), (2, .int (nI i)), (7, .int 1), (6, .int (pwM V (U_3 4) t 6)), (0, .ref h), (1, .int (nI t)), (4, .int ((bpM V cq X t i).1.2.2)), (5, .int (nI i))]) hx hb dX5_bestPlan_92 rfl hl (by decide) rfl (fun ls hl => ?_)
                refine lv_iload hx hb dX5_bestPlan_93 (lv_at hl 2 rfl) ?_
                refine lv_if_eq (tgt := 107) hx hb dX5_bestPlan_95 (by decide) (fun h_21 => ?_) (fun h_21 => ?_)
                · exact absurd h_21 (by decide)
                · refine lv_aload_n hx hb dX5_bestPlan_98 rfl (lv_at hl 4 rfl) ?_
                  refine b_get (v := .ref (a 4)) hx hb hts inX5 hown hK hP 0 0 6 rfl rfl rfl (by decide) q3_31 rfl rfl dX5_bestPlan_99 ?_
                  refine lv_iload_n hx hb dX5_bestPlan_102 rfl (lv_at hl 5 rfl) ?_
                  refine b_iald (v := U_3 4 t) hx hb hK hP 0 5 (t) rfl rfl rfl (by omega) rfl rfl dX5_bestPlan_103 ?_
                  refine lv_goto (tgt := 109) hx hb dX5_bestPlan_104 (by decide) ?_
                  refine lv_istore (lv' := [(4, .int (U_3 4 t)), (3, .int (pwM V (U_3 4) t 6)), (2, .int (nI i)), (7, .int 1), (6, .int (pwM V (U_3 4) t 6)), (0, .ref h), (1, .int (nI t)), (5, .int (nI i))]) hx hb dX5_bestPlan_109 hl (by decide) rfl (fun ls hl => ?_)
                  refine lv_iinc (v := nI (i + 1)) (lv' := [(5, .int (nI (i + 1))), (4, .int (U_3 4 t)), (3, .int (pwM V (U_3 4) t 6)), (2, .int (nI i)), (7, .int 1), (6, .int (pwM V (U_3 4) t 6)), (0, .ref h), (1, .int (nI t))]) hx hb dX5_bestPlan_111 hl (k := 7) rfl (nI_add i 1) (by decide) rfl (fun ls hl => ?_)
                  refine lv_goto (tgt := 20) hx hb dX5_bestPlan_114 (by decide) ?_
                  have e_22 : bpM V cq X t (i + 1) = ((nI i, pwM V (U_3 4) t 6, U_3 4 t), U_3) := by rw [bpM]; simp only [← hU_3]; first | (rw [if_pos h_14]; done) | (rw [if_neg h_9, if_neg h_14]; done) | (rw [if_neg h_4, if_pos h_9, if_pos h_14]; done) | (rw [if_neg h_4, if_pos h_9, if_neg h_14]; done)
                  exact ih_i (by omega) _ _ _ (by rw [e_22]; exact hW) (by rw [e_22]; exact lv_sub hl [6, 7, 3, 2, 1, 0] rfl) 
  · refine lv_iconst (v := -1) hx hb dX5_bestPlan_7 (by decide) ?_
    exact uI_ret X hW hx hb hr hlocks dX5_bestPlan_8 (by rw [if_neg h_1]) (fun _ _ => rfl) (by exact rfl) (adr2 (L := [[h, a 0, a 1, a 2, a 3, a 4, a 5, a 6, a 7, a 8]]) rfl rfl)
