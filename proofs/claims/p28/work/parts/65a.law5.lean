set_option maxHeartbeats 4000000 in
set_option maxRecDepth 100000 in
theorem c_L_areTowns (l : Launch) (g : gx) (h : Nat) (q : Nat → Nat) (z : Int32) (na : Nat → Nat) (V : sV) (ta : Nat → Nat) (TV : sV) (pa : Nat → Nat) (SV : sV) (hq : Nat) (hh : Nat → Nat) (o n : Nat) (aa : Nat → Nat → Nat) (HV : Nat → sV) (ra : Nat → Nat) (NN : sV) (sa : Nat) (at_ aw ar ag an : Nat) (cq : Nat → Nat) (hc : ∀ t, t < 6 → V 3 t = nI (cq t) ∧ cq t ≤ 5) (ho : o < 5) (hn : n ≤ 5) (LK : LKn V cq) : cB (S := sV) l g yL_areTowns cL_areTowns 16 (some .boolean) ({ frames := 5, cells := 0, slots := 0, locals := 121 } : Room) [.ref h, .ref at_, .ref aw, .ref ar, .ref ag, .ref an] [bB h q z, vB g (q 0) na V, vB g (q 1) ta TV, vB g (q 2) pa SV, hB g (q 3) hq hh o n, vB g (hh 0) (aa 0) (HV 0), vB g (hh 1) (aa 1) (HV 1), vB g (hh 2) (aa 2) (HV 2), vB g (hh 3) (aa 3) (HV 3), vB g (hh 4) (aa 4) (HV 4), rB g (q 4) ra NN, tB g (q 5) sa (fun _ => 0) 0, aR g at_ 54 (rT V), aR g aw 30 (V 9), aR g ar 30 (V 10), aR g ag 30 (V 11), aR g an 5 (V 12)] (fun u9 => some (.int (1 : Int32))) (fun u9 => True) (fun u9 => [bB h q z, vB g (q 0) na V, vB g (q 1) ta TV, vB g (q 2) pa SV, hB g (q 3) hq hh o n, vB g (hh 0) (aa 0) (HV 0), vB g (hh 1) (aa 1) (HV 1), vB g (hh 2) (aa 2) (HV 2), vB g (hh 3) (aa 3) (HV 3), vB g (hh 4) (aa 4) (HV 4), rB g (q 4) ra u9, tB g (q 5) sa (fun _ => 0) 0, aR g at_ 54 (rT V), aR g aw 30 (V 9), aR g ar 30 (V 10), aR g ag 30 (V 11), aR g an 5 (V 12)]) := by
  refine cB.mk (by decide +kernel) (Nat.le_of_ble_eq_true rfl) ?_
  intro p e s0 d0 m below meth c ls hd0 E0 hK0 hW hl
  obtain ⟨hx, hb, hr, hml, hts0, hown0, hlocks, hin⟩ := id E0
  obtain ⟨s, hs⟩ : ∃ z, z = s0.setDrawn d0 := ⟨_, rfl⟩
  rw [← hs]
  have E : ent p s m meth c yL_areTowns cL_areTowns 16 (some .boolean) [.ref h, .ref at_, .ref aw, .ref ar, .ref ag, .ref an] := by rw [hs]; exact ent_dr E0 d0
  have hK : kx g s := by rw [hs]; exact kx_dr hK0 d0
  have hts := E.2.2.2.2.1
  have hown : s.vm.findClass RL = some m.cls := E.2.2.2.2.2.1
  obtain ⟨H, locs, hH, hlo9⟩ : ∃ (H : Heap) (locs : List Loc), H = s0.heap ∧ locs = [] := ⟨_, _, rfl, rfl⟩
  have hW : wd g (fun z9 => z9 ∈ adr [bB h q z, vB g (q 0) na V, vB g (q 1) ta TV, vB g (q 2) pa SV, hB g (q 3) hq hh o n, vB g (hh 0) (aa 0) (HV 0), vB g (hh 1) (aa 1) (HV 1), vB g (hh 2) (aa 2) (HV 2), vB g (hh 3) (aa 3) (HV 3), vB g (hh 4) (aa 4) (HV 4), rB g (q 4) ra NN, tB g (q 5) sa (fun _ => 0) 0, aR g at_ 54 (rT V), aR g aw 30 (V 9), aR g ar 30 (V 10), aR g ag 30 (V 11), aR g an 5 (V 12)]) s0.heap [bB h q z, vB g (q 0) na V, vB g (q 1) ta TV, vB g (q 2) pa SV, hB g (q 3) hq hh o n, vB g (hh 0) (aa 0) (HV 0), vB g (hh 1) (aa 1) (HV 1), vB g (hh 2) (aa 2) (HV 2), vB g (hh 3) (aa 3) (HV 3), vB g (hh 4) (aa 4) (HV 4), rB g (q 4) ra NN, tB g (q 5) sa (fun _ => 0) 0, aR g at_ 54 (rT V), aR g aw 30 (V 9), aR g ar 30 (V 10), aR g ag 30 (V 11), aR g an 5 (V 12)] H locs := by rw [hH, hlo9]; exact hW
  rw [show W p l e _ s m _ below meth c s0.heap [] 0 0 _ (F0 m 0 ls []) = W p l e _ s m _ below meth c H locs 0 0 _ (F0 m 0 ls []) by rw [hH, hlo9]]
  have hP := hW.1
  have hl : lv_has ls 16 [(0, .ref h), (1, .ref at_), (2, .ref aw), (3, .ref ar), (4, .ref ag), (5, .ref an)] := hl
  refine lv_iconst (v := 0) hx hb dL_areTowns_0 (by decide) ?_
  refine lv_istore (lv' := [(6, .int 0), (0, .ref h), (1, .ref at_), (2, .ref aw), (3, .ref ar), (4, .ref ag), (5, .ref an)]) hx hb dL_areTowns_1 hl (by decide) rfl (fun ls hl => ?_)
  refine lv_iconst (v := 0) hx hb dL_areTowns_3 (by decide) ?_
  refine lv_istore (lv' := [(7, .int 0), (6, .int 0), (0, .ref h), (1, .ref at_), (2, .ref aw), (3, .ref ar), (4, .ref ag), (5, .ref an)]) hx hb dL_areTowns_4 hl (by decide) rfl (fun ls hl => ?_)
  refine lv_iconst (v := 0) hx hb dL_areTowns_6 (by decide) ?_
  refine lv_istore (lv' := [(8, .int 0), (7, .int 0), (6, .int 0), (0, .ref h), (1, .ref at_), (2, .ref aw), (3, .ref ar), (4, .ref ag), (5, .ref an)]) hx hb dL_areTowns_7 hl (by decide) rfl (fun ls hl => ?_)
  refine lv_iconst (v := 0) hx hb dL_areTowns_9 (by decide) ?_
  refine lv_istore (lv' := [(9, .int 0), (8, .int 0), (7, .int 0), (6, .int 0), (0, .ref h), (1, .ref at_), (2, .ref aw), (3, .ref ar), (4, .ref ag), (5, .ref an)]) hx hb dL_areTowns_10 hl (by decide) rfl (fun ls hl => ?_)
  refine lv_aload_n hx hb dL_areTowns_12 rfl (lv_at hl 4 rfl) ?_
  refine lv_bipush (v := 6) hx hb dL_areTowns_13 (by decide) ?_
  refine lv_iconst (v := 0) hx hb dL_areTowns_15 (by decide) ?_
  refine call_VR (As := [.int 6, .int 0]) (rest := []) E rfl hK hP (c_X4_town_i l g h q z na V ta TV pa SV hq hh o n aa HV ra NN sa (fun _ => 0) 0 6 0 0 ho hn (Nat.zero_le _) (fun q9 => absurd q9 (by decide)) (by omega)) ok_X4_town rfl q1_194 [0, 1, 2, 3, 4, 5, 6, 7, 8, 9, 10, 11] rfl (b_recv hK hP 0 0 rfl rfl rfl rfl) ⟨⟨rfl, rfl⟩, Nat.le_of_ble_eq_true rfl, Nat.le_of_ble_eq_true rfl⟩ hl.1 (Nat.le_of_ble_eq_true rfl) ⟨Nat.le_of_ble_eq_true rfl, Nat.le_of_ble_eq_true rfl⟩ rfl dL_areTowns_16 ?_
  refine b_top (y := -1) (if_neg (by decide)) ?_
  refine lv_iconst (v := -1) hx hb dL_areTowns_19 (by decide) ?_
  refine lv_icmp_ne (tgt := 39) hx hb dL_areTowns_20 (by decide) (fun h_1 => ?_) (fun h_1 => ?_)
  · exact absurd rfl h_1
  · refine lv_aload_n hx hb dL_areTowns_23 rfl (lv_at hl 4 rfl) ?_
    refine lv_iconst (v := 0) hx hb dL_areTowns_24 (by decide) ?_
    refine lv_bipush (v := 9) hx hb dL_areTowns_25 (by decide) ?_
    refine call_VR (As := [.int 0, .int 9]) (rest := []) E rfl hK hP (c_X4_town_o l g h q z na V ta TV pa SV hq hh o n aa HV ra NN sa (fun _ => 0) 0 0 9 0 ho hn (Nat.zero_le _) (fun _ => ⟨rfl, by omega⟩) (Or.inr (by decide))) ok_X4_town rfl q1_194 [0, 1, 2, 3, 4, 5, 6, 7, 8, 9, 10, 11] rfl (b_recv hK hP 0 0 rfl rfl rfl rfl) ⟨⟨rfl, rfl⟩, Nat.le_of_ble_eq_true rfl, Nat.le_of_ble_eq_true rfl⟩ hl.1 (Nat.le_of_ble_eq_true rfl) ⟨Nat.le_of_ble_eq_true rfl, Nat.le_of_ble_eq_true rfl⟩ rfl dL_areTowns_27 ?_
    refine b_top (y := -2) (if_pos (by decide)) ?_
    refine lv_bipush (v := -2) hx hb dL_areTowns_30 (by decide) ?_
    refine lv_icmp_ne (tgt := 39) hx hb dL_areTowns_32 (by decide) (fun h_2 => ?_) (fun h_2 => ?_)
    · exact absurd rfl h_2
    · refine lv_iconst (v := 1) hx hb dL_areTowns_35 (by decide) ?_
      refine lv_goto (tgt := 40) hx hb dL_areTowns_36 (by decide) ?_
      refine lv_istore (lv' := [(10, .int 1), (9, .int 0), (8, .int 0), (7, .int 0), (6, .int 0), (0, .ref h), (1, .ref at_), (2, .ref aw), (3, .ref ar), (4, .ref ag), (5, .ref an)]) hx hb dL_areTowns_40 hl (by decide) rfl (fun ls hl => ?_)
      refine lv_iconst (v := 0) hx hb dL_areTowns_42 (by decide) ?_
      refine lv_istore (lv' := [(11, .int 0), (10, .int 1), (9, .int 0), (8, .int 0), (7, .int 0), (6, .int 0), (0, .ref h), (1, .ref at_), (2, .ref aw), (3, .ref ar), (4, .ref ag), (5, .ref an)]) hx hb dL_areTowns_43 hl (by decide) rfl (fun ls hl => ?_)
      refine loopN (fun k : Nat => ∀ NX : sV, ∀ (H : Heap) (locs : List Loc) (ls : Array Slot), wd g (fun z9 => z9 ∈ adr [bB h q z, vB g (q 0) na V, vB g (q 1) ta TV, vB g (q 2) pa SV, hB g (q 3) hq hh o n, vB g (hh 0) (aa 0) (HV 0), vB g (hh 1) (aa 1) (HV 1), vB g (hh 2) (aa 2) (HV 2), vB g (hh 3) (aa 3) (HV 3), vB g (hh 4) (aa 4) (HV 4), rB g (q 4) ra NN, tB g (q 5) sa (fun _ => 0) 0, aR g at_ 54 (rT V), aR g aw 30 (V 9), aR g ar 30 (V 10), aR g ag 30 (V 11), aR g an 5 (V 12)]) s0.heap [bB h q z, vB g (q 0) na V, vB g (q 1) ta TV, vB g (q 2) pa SV, hB g (q 3) hq hh o n, vB g (hh 0) (aa 0) (HV 0), vB g (hh 1) (aa 1) (HV 1), vB g (hh 2) (aa 2) (HV 2), vB g (hh 3) (aa 3) (HV 3), vB g (hh 4) (aa 4) (HV 4), rB g (q 4) ra NX, tB g (q 5) sa (fun _ => 0) 0, aR g at_ 54 (rT V), aR g aw 30 (V 9), aR g ar 30 (V 10), aR g ag 30 (V 11), aR g an 5 (V 12)] H locs → lv_has ls 16 [(0, .ref h), (1, .ref at_), (2, .ref aw), (3, .ref ar), (4, .ref ag), (5, .ref an), (6, .int (sumF (V 3) k)), (7, .int (brO V cq k)), (8, .int (siL V k)), (9, .int (sumF (V 7) k)), (10, .int 1), (11, .int (nI k))] → W p l e _ s m _ below meth c H locs 0 0 _ (F0 m 45 ls [])) (6) (fun k hik ih_k => ?_) (0) (by omega) (NN) H locs ls hW (lv_sub hl [6, 7, 8, 9, 10, 11, 5, 4, 3, 2, 1, 0] rfl) 
      intro NX H locs ls hW hl 
      have hP := hW.1
      refine lv_iload hx hb dL_areTowns_45 (lv_at hl 11 rfl) ?_
      refine lv_bipush (v := 6) hx hb dL_areTowns_47 (by decide) ?_
      refine b_ge (tgt := 514) (k) (6) hx hb rfl rfl (by omega) (by omega) dL_areTowns_49 (by decide) (fun h_3 => ?_) (fun h_3 => ?_)
      · obtain rfl : k = 6 := by omega
        refine lv_iconst (v := 0) hx hb dL_areTowns_514 (by decide) ?_
        refine lv_istore (lv' := [(11, .int 0), (0, .ref h), (1, .ref at_), (2, .ref aw), (3, .ref ar), (4, .ref ag), (5, .ref an), (6, .int (sumF (V 3) 6)), (7, .int (brO V cq 6)), (8, .int (siL V 6)), (9, .int (sumF (V 7) 6)), (10, .int 1)]) hx hb dL_areTowns_515 hl (by decide) rfl (fun ls hl => ?_)
        refine loopN (fun k : Nat => ∀ d0 : Drawn, ∀ s : State, ∀ (H : Heap) (locs : List Loc) (ls : Array Slot), wd g (fun z9 => z9 ∈ adr [bB h q z, vB g (q 0) na V, vB g (q 1) ta TV, vB g (q 2) pa SV, hB g (q 3) hq hh o n, vB g (hh 0) (aa 0) (HV 0), vB g (hh 1) (aa 1) (HV 1), vB g (hh 2) (aa 2) (HV 2), vB g (hh 3) (aa 3) (HV 3), vB g (hh 4) (aa 4) (HV 4), rB g (q 4) ra NN, tB g (q 5) sa (fun _ => 0) 0, aR g at_ 54 (rT V), aR g aw 30 (V 9), aR g ar 30 (V 10), aR g ag 30 (V 11), aR g an 5 (V 12)]) s0.heap [bB h q z, vB g (q 0) na V, vB g (q 1) ta TV, vB g (q 2) pa SV, hB g (q 3) hq hh o n, vB g (hh 0) (aa 0) (HV 0), vB g (hh 1) (aa 1) (HV 1), vB g (hh 2) (aa 2) (HV 2), vB g (hh 3) (aa 3) (HV 3), vB g (hh 4) (aa 4) (HV 4), rB g (q 4) ra NX, tB g (q 5) sa (fun _ => 0) 0, aR g at_ 54 (rT V), aR g aw 30 (V 9), aR g ar 30 (V 10), aR g ag 30 (V 11), aR g an 5 (V 12)] H locs → lv_has ls 16 [(0, .ref h), (1, .ref at_), (2, .ref aw), (3, .ref ar), (4, .ref ag), (5, .ref an), (6, .int (sumF (V 3) 6)), (7, .int (brO V cq 6)), (8, .int (siL V 6)), (9, .int (sumF (V 7) 6)), (10, .int 1), (11, .int (nI k))] → (s = s0.setDrawn d0) → (s0.drawn.sameBut d0 lw_cs) → W p l e _ s m _ below meth c H locs 0 0 _ (F0 m 517 ls [])) (6) (fun k hik ih_k => ?_) (0) (by omega) (d0) (s) H locs ls hW (lv_sub hl [1, 2, 3, 4, 5, 6, 7, 8, 9, 10, 11, 0] rfl) (hs) (hd0)
        intro d0 s H locs ls hW hl hs hd0
        have hP := hW.1
        refine lv_iload hx hb dL_areTowns_517 (lv_at hl 11 rfl) ?_
        refine lv_bipush (v := 6) hx hb dL_areTowns_519 (by decide) ?_
        refine b_ge (tgt := 576) (k) (6) hx hb rfl rfl (by omega) (by omega) dL_areTowns_521 (by decide) (fun h_4 => ?_) (fun h_4 => ?_)
        · obtain rfl : k = 6 := by omega
          have E : ent p s m meth c yL_areTowns cL_areTowns 16 (some .boolean) [.ref h, .ref at_, .ref aw, .ref ar, .ref ag, .ref an] := by rw [hs]; exact ent_dr E0 d0
          have hK : kx g s := by rw [hs]; exact kx_dr hK0 d0
          have hts := E.2.2.2.2.1
          have hown : s.vm.findClass RL = some m.cls := E.2.2.2.2.2.1
          refine lv_iload hx hb dL_areTowns_576 (lv_at hl 10 rfl) ?_
          refine lv_if_eq (tgt := 699) hx hb dL_areTowns_578 (by decide) (fun h_5 => ?_) (fun h_5 => ?_)
          · exact absurd h_5 (by decide)
          · refine lv_aload_n hx hb dL_areTowns_581 rfl (lv_at hl 0 rfl) ?_
            refine lv_iconst (v := 0) hx hb dL_areTowns_582 (by decide) ?_
            refine call_VR (As := [.int 0]) (rest := []) E rfl hK hP (c_X4_count_i l g h q z na V ta TV pa SV hq hh o n aa HV ra NX sa (fun _ => 0) 0 0 ho hn (Nat.zero_le _) (by omega)) ok_X4_count rfl q2_30 [0, 1, 2, 3, 4, 5, 6, 7, 8, 9, 10, 11] rfl (b_recv hK hP 0 0 rfl rfl rfl rfl) ⟨⟨rfl, rfl⟩, Nat.le_of_ble_eq_true rfl, Nat.le_of_ble_eq_true rfl⟩ hl.1 (Nat.le_of_ble_eq_true rfl) ⟨Nat.le_of_ble_eq_true rfl, Nat.le_of_ble_eq_true rfl⟩ rfl dL_areTowns_583 ?_
            refine b_top (y := V 12 2) rfl ?_
            refine lv_aload hx hb dL_areTowns_586 (lv_at hl 5 rfl) ?_
            refine lv_iconst (v := 2) hx hb dL_areTowns_588 (by decide) ?_
            refine b_iald (v := V 12 2) hx hb hK hP 16 0 (2) rfl rfl rfl (by omega) rfl rfl dL_areTowns_589 ?_
            refine lv_icmp_ne (tgt := 699) hx hb dL_areTowns_590 (by decide) (fun h_6 => ?_) (fun h_6 => ?_)
            · exact absurd rfl h_6
            · refine lv_aload_n hx hb dL_areTowns_593 rfl (lv_at hl 0 rfl) ?_
              refine lv_iconst (v := 1) hx hb dL_areTowns_594 (by decide) ?_
              refine call_VR (As := [.int 1]) (rest := []) E rfl hK hP (c_X4_count_i l g h q z na V ta TV pa SV hq hh o n aa HV ra NX sa (fun _ => 0) 0 1 ho hn (Nat.zero_le _) (by omega)) ok_X4_count rfl q2_30 [0, 1, 2, 3, 4, 5, 6, 7, 8, 9, 10, 11] rfl (b_recv hK hP 0 0 rfl rfl rfl rfl) ⟨⟨rfl, rfl⟩, Nat.le_of_ble_eq_true rfl, Nat.le_of_ble_eq_true rfl⟩ hl.1 (Nat.le_of_ble_eq_true rfl) ⟨Nat.le_of_ble_eq_true rfl, Nat.le_of_ble_eq_true rfl⟩ rfl dL_areTowns_595 ?_
              refine b_top (y := sumF (V 3) 6) rfl ?_
              refine lv_iload hx hb dL_areTowns_598 (lv_at hl 6 rfl) ?_
              refine lv_icmp_ne (tgt := 699) hx hb dL_areTowns_600 (by decide) (fun h_7 => ?_) (fun h_7 => ?_)
              · exact absurd rfl h_7
              · refine lv_aload_n hx hb dL_areTowns_603 rfl (lv_at hl 0 rfl) ?_
                refine lv_iconst (v := 2) hx hb dL_areTowns_604 (by decide) ?_
                refine call_VR (As := [.int 2]) (rest := []) E rfl hK hP (c_X4_count_i l g h q z na V ta TV pa SV hq hh o n aa HV ra NX sa (fun _ => 0) 0 2 ho hn (Nat.zero_le _) (by omega)) ok_X4_count rfl q2_30 [0, 1, 2, 3, 4, 5, 6, 7, 8, 9, 10, 11] rfl (b_recv hK hP 0 0 rfl rfl rfl rfl) ⟨⟨rfl, rfl⟩, Nat.le_of_ble_eq_true rfl, Nat.le_of_ble_eq_true rfl⟩ hl.1 (Nat.le_of_ble_eq_true rfl) ⟨Nat.le_of_ble_eq_true rfl, Nat.le_of_ble_eq_true rfl⟩ rfl dL_areTowns_605 ?_
                refine b_top (y := brO V cq 6) LK.2.2.2.2.1 ?_
                refine lv_iload hx hb dL_areTowns_608 (lv_at hl 7 rfl) ?_
                refine lv_icmp_ne (tgt := 699) hx hb dL_areTowns_610 (by decide) (fun h_8 => ?_) (fun h_8 => ?_)
                · exact absurd rfl h_8
                · refine lv_aload_n hx hb dL_areTowns_613 rfl (lv_at hl 0 rfl) ?_
                  refine lv_iconst (v := 3) hx hb dL_areTowns_614 (by decide) ?_
                  refine call_VR (As := [.int 3]) (rest := []) E rfl hK hP (c_X4_count_i l g h q z na V ta TV pa SV hq hh o n aa HV ra NX sa (fun _ => 0) 0 3 ho hn (Nat.zero_le _) (by omega)) ok_X4_count rfl q2_30 [0, 1, 2, 3, 4, 5, 6, 7, 8, 9, 10, 11] rfl (b_recv hK hP 0 0 rfl rfl rfl rfl) ⟨⟨rfl, rfl⟩, Nat.le_of_ble_eq_true rfl, Nat.le_of_ble_eq_true rfl⟩ hl.1 (Nat.le_of_ble_eq_true rfl) ⟨Nat.le_of_ble_eq_true rfl, Nat.le_of_ble_eq_true rfl⟩ rfl dL_areTowns_615 ?_
                  refine b_top (y := siL V 6) LK.2.2.2.2.2.1 ?_
                  refine lv_iload hx hb dL_areTowns_618 (lv_at hl 8 rfl) ?_
                  refine lv_icmp_ne (tgt := 699) hx hb dL_areTowns_620 (by decide) (fun h_9 => ?_) (fun h_9 => ?_)
                  · exact absurd rfl h_9
                  · refine lv_aload_n hx hb dL_areTowns_623 rfl (lv_at hl 0 rfl) ?_
                    refine lv_iconst (v := 4) hx hb dL_areTowns_624 (by decide) ?_
                    refine call_VR (As := [.int 4]) (rest := []) E rfl hK hP (c_X4_count_i l g h q z na V ta TV pa SV hq hh o n aa HV ra NX sa (fun _ => 0) 0 4 ho hn (Nat.zero_le _) (by omega)) ok_X4_count rfl q2_30 [0, 1, 2, 3, 4, 5, 6, 7, 8, 9, 10, 11] rfl (b_recv hK hP 0 0 rfl rfl rfl rfl) ⟨⟨rfl, rfl⟩, Nat.le_of_ble_eq_true rfl, Nat.le_of_ble_eq_true rfl⟩ hl.1 (Nat.le_of_ble_eq_true rfl) ⟨Nat.le_of_ble_eq_true rfl, Nat.le_of_ble_eq_true rfl⟩ rfl dL_areTowns_625 ?_
                    refine b_top (y := sumF (V 7) 6) rfl ?_
                    refine lv_iload hx hb dL_areTowns_628 (lv_at hl 9 rfl) ?_
                    refine lv_icmp_ne (tgt := 699) hx hb dL_areTowns_630 (by decide) (fun h_10 => ?_) (fun h_10 => ?_)
                    · exact absurd rfl h_10
                    · refine lv_aload_n hx hb dL_areTowns_633 rfl (lv_at hl 0 rfl) ?_
                      refine lv_iconst (v := 5) hx hb dL_areTowns_634 (by decide) ?_
                      refine call_VR (As := [.int 5]) (rest := []) E rfl hK hP (c_X4_count_i l g h q z na V ta TV pa SV hq hh o n aa HV ra NX sa (fun _ => 0) 0 5 ho hn (Nat.zero_le _) (by omega)) ok_X4_count rfl q2_30 [0, 1, 2, 3, 4, 5, 6, 7, 8, 9, 10, 11] rfl (b_recv hK hP 0 0 rfl rfl rfl rfl) ⟨⟨rfl, rfl⟩, Nat.le_of_ble_eq_true rfl, Nat.le_of_ble_eq_true rfl⟩ hl.1 (Nat.le_of_ble_eq_true rfl) ⟨Nat.le_of_ble_eq_true rfl, Nat.le_of_ble_eq_true rfl⟩ rfl dL_areTowns_635 ?_
                      refine b_top (y := V 12 4) rfl ?_
                      refine lv_aload hx hb dL_areTowns_638 (lv_at hl 5 rfl) ?_
                      refine lv_iconst (v := 4) hx hb dL_areTowns_640 (by decide) ?_
                      refine b_iald (v := V 12 4) hx hb hK hP 16 0 (4) rfl rfl rfl (by omega) rfl rfl dL_areTowns_641 ?_
                      refine lv_icmp_ne (tgt := 699) hx hb dL_areTowns_642 (by decide) (fun h_11 => ?_) (fun h_11 => ?_)
                      · exact absurd rfl h_11
                      · refine lv_aload_n hx hb dL_areTowns_645 rfl (lv_at hl 0 rfl) ?_
                        refine lv_bipush (v := 6) hx hb dL_areTowns_646 (by decide) ?_
                        refine call_VR (As := [.int 6]) (rest := []) E rfl hK hP (c_X4_count_i l g h q z na V ta TV pa SV hq hh o n aa HV ra NX sa (fun _ => 0) 0 6 ho hn (Nat.zero_le _) (by omega)) ok_X4_count rfl q2_30 [0, 1, 2, 3, 4, 5, 6, 7, 8, 9, 10, 11] rfl (b_recv hK hP 0 0 rfl rfl rfl rfl) ⟨⟨rfl, rfl⟩, Nat.le_of_ble_eq_true rfl, Nat.le_of_ble_eq_true rfl⟩ hl.1 (Nat.le_of_ble_eq_true rfl) ⟨Nat.le_of_ble_eq_true rfl, Nat.le_of_ble_eq_true rfl⟩ rfl dL_areTowns_648 ?_
                        refine b_top (y := V 12 3) rfl ?_
                        refine lv_aload hx hb dL_areTowns_651 (lv_at hl 5 rfl) ?_
                        refine lv_iconst (v := 3) hx hb dL_areTowns_653 (by decide) ?_
                        refine b_iald (v := V 12 3) hx hb hK hP 16 0 (3) rfl rfl rfl (by omega) rfl rfl dL_areTowns_654 ?_
                        refine lv_icmp_ne (tgt := 699) hx hb dL_areTowns_655 (by decide) (fun h_12 => ?_) (fun h_12 => ?_)
                        · exact absurd rfl h_12
                        · refine lv_aload_n hx hb dL_areTowns_658 rfl (lv_at hl 0 rfl) ?_
                          refine lv_bipush (v := 7) hx hb dL_areTowns_659 (by decide) ?_
                          refine call_VR (As := [.int 7]) (rest := []) E rfl hK hP (c_X4_count_i l g h q z na V ta TV pa SV hq hh o n aa HV ra NX sa (fun _ => 0) 0 7 ho hn (Nat.zero_le _) (by omega)) ok_X4_count rfl q2_30 [0, 1, 2, 3, 4, 5, 6, 7, 8, 9, 10, 11] rfl (b_recv hK hP 0 0 rfl rfl rfl rfl) ⟨⟨rfl, rfl⟩, Nat.le_of_ble_eq_true rfl, Nat.le_of_ble_eq_true rfl⟩ hl.1 (Nat.le_of_ble_eq_true rfl) ⟨Nat.le_of_ble_eq_true rfl, Nat.le_of_ble_eq_true rfl⟩ rfl dL_areTowns_661 ?_
                          refine b_top (y := V 12 0) rfl ?_
                          refine lv_aload hx hb dL_areTowns_664 (lv_at hl 5 rfl) ?_
                          refine lv_iconst (v := 0) hx hb dL_areTowns_666 (by decide) ?_
                          refine b_iald (v := V 12 0) hx hb hK hP 16 0 (0) rfl rfl rfl (by omega) rfl rfl dL_areTowns_667 ?_
                          refine lv_icmp_ne (tgt := 699) hx hb dL_areTowns_668 (by decide) (fun h_13 => ?_) (fun h_13 => ?_)
                          · exact absurd rfl h_13
                          · refine lv_aload_n hx hb dL_areTowns_671 rfl (lv_at hl 0 rfl) ?_
                            refine lv_bipush (v := 8) hx hb dL_areTowns_672 (by decide) ?_
                            refine call_VR (As := [.int 8]) (rest := []) E rfl hK hP (c_X4_count_i l g h q z na V ta TV pa SV hq hh o n aa HV ra NX sa (fun _ => 0) 0 8 ho hn (Nat.zero_le _) (by omega)) ok_X4_count rfl q2_30 [0, 1, 2, 3, 4, 5, 6, 7, 8, 9, 10, 11] rfl (b_recv hK hP 0 0 rfl rfl rfl rfl) ⟨⟨rfl, rfl⟩, Nat.le_of_ble_eq_true rfl, Nat.le_of_ble_eq_true rfl⟩ hl.1 (Nat.le_of_ble_eq_true rfl) ⟨Nat.le_of_ble_eq_true rfl, Nat.le_of_ble_eq_true rfl⟩ rfl dL_areTowns_674 ?_
                            refine b_top (y := V 12 1) rfl ?_
                            refine lv_aload hx hb dL_areTowns_677 (lv_at hl 5 rfl) ?_
                            refine lv_iconst (v := 1) hx hb dL_areTowns_679 (by decide) ?_
                            refine b_iald (v := V 12 1) hx hb hK hP 16 0 (1) rfl rfl rfl (by omega) rfl rfl dL_areTowns_680 ?_
                            refine lv_icmp_ne (tgt := 699) hx hb dL_areTowns_681 (by decide) (fun h_14 => ?_) (fun h_14 => ?_)
                            · exact absurd rfl h_14
                            · refine lv_aload_n hx hb dL_areTowns_684 rfl (lv_at hl 0 rfl) ?_
                              refine lv_bipush (v := 11) hx hb dL_areTowns_685 (by decide) ?_
                              refine call_VR (As := [.int 11]) (rest := []) E rfl hK hP (c_X4_count_o l g h q z na V ta TV pa SV hq hh o n aa HV ra NX sa (fun _ => 0) 0 11 ho hn (Nat.zero_le _) (Or.inr (by decide))) ok_X4_count rfl q2_30 [0, 1, 2, 3, 4, 5, 6, 7, 8, 9, 10, 11] rfl (b_recv hK hP 0 0 rfl rfl rfl rfl) ⟨⟨rfl, rfl⟩, Nat.le_of_ble_eq_true rfl, Nat.le_of_ble_eq_true rfl⟩ hl.1 (Nat.le_of_ble_eq_true rfl) ⟨Nat.le_of_ble_eq_true rfl, Nat.le_of_ble_eq_true rfl⟩ rfl dL_areTowns_687 ?_
                              refine lv_bipush (v := -2) hx hb dL_areTowns_690 (by decide) ?_
                              refine lv_icmp_ne (tgt := 699) hx hb dL_areTowns_692 (by decide) (fun h_15 => ?_) (fun h_15 => ?_)
                              · exact absurd rfl h_15
                              · refine lv_iconst (v := 1) hx hb dL_areTowns_695 (by decide) ?_
                                refine lv_goto (tgt := 700) hx hb dL_areTowns_696 (by decide) ?_
                                subst hs
                                refine W.endD hd0 ?_
                                exact uZ_ret NX hW hx hb hr hlocks dL_areTowns_700 (by rfl) (rfl) trivial (rfl) (adr2 (L := [[h], [q 0, na 0, na 1, na 2, na 3, na 4, na 5, na 6, na 7, na 8, na 9, na 10, na 11], [q 1, ta 0, ta 1, ta 2, ta 3, ta 4, ta 5, ta 6, ta 7, ta 8, ta 9, ta 10, ta 11], [q 2, pa 0, pa 1, pa 2, pa 3, pa 4, pa 5, pa 6, pa 7, pa 8, pa 9, pa 10, pa 11], [q 3, hq], [hh 0, aa 0 0, aa 0 1, aa 0 2, aa 0 3, aa 0 4, aa 0 5, aa 0 6, aa 0 7, aa 0 8, aa 0 9, aa 0 10, aa 0 11], [hh 1, aa 1 0, aa 1 1, aa 1 2, aa 1 3, aa 1 4, aa 1 5, aa 1 6, aa 1 7, aa 1 8, aa 1 9, aa 1 10, aa 1 11], [hh 2, aa 2 0, aa 2 1, aa 2 2, aa 2 3, aa 2 4, aa 2 5, aa 2 6, aa 2 7, aa 2 8, aa 2 9, aa 2 10, aa 2 11], [hh 3, aa 3 0, aa 3 1, aa 3 2, aa 3 3, aa 3 4, aa 3 5, aa 3 6, aa 3 7, aa 3 8, aa 3 9, aa 3 10, aa 3 11], [hh 4, aa 4 0, aa 4 1, aa 4 2, aa 4 3, aa 4 4, aa 4 5, aa 4 6, aa 4 7, aa 4 8, aa 4 9, aa 4 10, aa 4 11], [q 4, ra 0, ra 1, ra 2, ra 3], [q 5, sa], [at_], [aw], [ar], [ag], [an]]) rfl rfl)
        · refine lv_iload hx hb dL_areTowns_524 (lv_at hl 10 rfl) ?_
          refine lv_if_eq (tgt := 567) hx hb dL_areTowns_526 (by decide) (fun h_16 => ?_) (fun h_16 => ?_)
          · exact absurd h_16 (by decide)
          · have E : ent p s m meth c yL_areTowns cL_areTowns 16 (some .boolean) [.ref h, .ref at_, .ref aw, .ref ar, .ref ag, .ref an] := by rw [hs]; exact ent_dr E0 d0
            have hK : kx g s := by rw [hs]; exact kx_dr hK0 d0
            have hts := E.2.2.2.2.1
            have hown : s.vm.findClass RL = some m.cls := E.2.2.2.2.2.1
            refine lv_aload_n hx hb dL_areTowns_529 rfl (lv_at hl 0 rfl) ?_
            refine lv_iload hx hb dL_areTowns_530 (lv_at hl 11 rfl) ?_
            subst hs
            refine call_VD (As := [.int (nI k)]) (rest := []) hd0 E rfl hK hP (c_X4_share l g h q z na V ta TV pa SV hq hh o n aa HV ra NX sa (fun _ => 0) 0 (nI k) k ho hn (Nat.zero_le _) (fun _ => ⟨rfl, by omega⟩)) ok_X4_share rfl q2_22 [0, 1, 2, 3, 4, 5, 6, 7, 8, 9, 10, 11] rfl (b_recv hK hP 0 0 rfl rfl rfl rfl) ⟨⟨rfl, rfl⟩, Nat.le_of_ble_eq_true rfl, Nat.le_of_ble_eq_true rfl⟩ hl.1 (Nat.le_of_ble_eq_true rfl) ⟨Nat.le_of_ble_eq_true rfl, Nat.le_of_ble_eq_true rfl⟩ rfl dL_areTowns_532 (fun r_17 d0 hd0 hsh => ?_)
            obtain ⟨s, hs⟩ : ∃ z, z = s0.setDrawn d0 := ⟨_, rfl⟩
            rw [← hs]
            have E : ent p s m meth c yL_areTowns cL_areTowns 16 (some .boolean) [.ref h, .ref at_, .ref aw, .ref ar, .ref ag, .ref an] := by rw [hs]; exact ent_dr E0 d0
            have hK : kx g s := by rw [hs]; exact kx_dr hK0 d0
            have hts := E.2.2.2.2.1
            have hown : s.vm.findClass RL = some m.cls := E.2.2.2.2.2.1
            refine lv_iload hx hb dL_areTowns_535 (lv_at hl 9 rfl) ?_
            refine lv_if_ne (tgt := 544) hx hb dL_areTowns_537 (by decide) (fun h_18 => ?_) (fun h_18 => ?_)
            · have hz := h_18
              refine lv_aload_n hx hb dL_areTowns_544 rfl (lv_at hl 1 rfl) ?_
              refine lv_bipush (v := 9) hx hb dL_areTowns_545 (by decide) ?_
              refine lv_iload hx hb dL_areTowns_547 (lv_at hl 11 rfl) ?_
              refine lv_imul hx hb dL_areTowns_549 ?_
              refine b_top (y := nI (9 * k)) (pk_mul 9 k) ?_
              refine lv_bipush (v := 7) hx hb dL_areTowns_550 (by decide) ?_
              refine lv_iadd hx hb dL_areTowns_552 ?_
              refine b_top (y := nI ((9 * k) + 7)) (nI_add (9 * k) 7) ?_
              refine b_iald (v := V 7 k) hx hb hK hP 12 0 ((9 * k) + 7) rfl rfl rfl (by omega) rfl ((rT_at _ (by omega)).trans rfl) dL_areTowns_553 ?_
              refine lv_i2d hx hb dL_areTowns_554 ?_
              refine lv_iload hx hb dL_areTowns_555 (lv_at hl 9 rfl) ?_
              refine lv_i2d hx hb dL_areTowns_557 ?_
              refine b_ddiv hs hd0 hx hb dL_areTowns_558 (fun r_19 d0 s hs hd0 hal_20 => ?_)
              have E : ent p s m meth c yL_areTowns cL_areTowns 16 (some .boolean) [.ref h, .ref at_, .ref aw, .ref ar, .ref ag, .ref an] := by rw [hs]; exact ent_dr E0 d0
              have hK : kx g s := by rw [hs]; exact kx_dr hK0 d0
              have hts := E.2.2.2.2.1
              have hown : s.vm.findClass RL = some m.cls := E.2.2.2.2.2.1
              refine lv_dcmp hx hb dL_areTowns_559 ?_
              refine lv_if_ne (tgt := 567) hx hb dL_areTowns_560 (by decide) (fun h_21 => ?_) (fun h_21 => ?_)
              · exact absurd (sh_cmp (hsh.1 ⟨isT_nI (by omega), hz⟩) hal_20 (LK.2.2.2.2.2.2 _ (by omega) hz)) h_21
              · refine lv_iconst (v := 1) hx hb dL_areTowns_563 (by decide) ?_
                refine lv_goto (tgt := 568) hx hb dL_areTowns_564 (by decide) ?_
                refine lv_istore (lv' := [(10, .int 1), (0, .ref h), (1, .ref at_), (2, .ref aw), (3, .ref ar), (4, .ref ag), (5, .ref an), (6, .int (sumF (V 3) 6)), (7, .int (brO V cq 6)), (8, .int (siL V 6)), (9, .int (sumF (V 7) 6)), (11, .int (nI k))]) hx hb dL_areTowns_568 hl (by decide) rfl (fun ls hl => ?_)
                refine lv_iinc (v := nI (k + 1)) (lv' := [(11, .int (nI (k + 1))), (10, .int 1), (0, .ref h), (1, .ref at_), (2, .ref aw), (3, .ref ar), (4, .ref ag), (5, .ref an), (6, .int (sumF (V 3) 6)), (7, .int (brO V cq 6)), (8, .int (siL V 6)), (9, .int (sumF (V 7) 6))]) hx hb dL_areTowns_570 hl (k := 11) rfl (nI_add k 1) (by decide) rfl (fun ls hl => ?_)
                refine lv_goto (tgt := 517) hx hb dL_areTowns_573 (by decide) ?_
                exact ih_k (by omega) (d0) (s) _ _ _ hW (lv_sub hl [2, 3, 4, 5, 6, 7, 8, 9, 10, 11, 1, 0] rfl) (hs) (hd0)
            · have hz := h_18
              refine lv_dconst0 hx hb dL_areTowns_540 ?_
              refine lv_goto (tgt := 559) hx hb dL_areTowns_541 (by decide) ?_
              refine lv_dcmp hx hb dL_areTowns_559 ?_
              refine lv_if_ne (tgt := 567) hx hb dL_areTowns_560 (by decide) (fun h_22 => ?_) (fun h_22 => ?_)
              · exact absurd (sh_cmp0 (hsh.2 (fun q9 => q9.2 hz))) h_22
              · refine lv_iconst (v := 1) hx hb dL_areTowns_563 (by decide) ?_
                refine lv_goto (tgt := 568) hx hb dL_areTowns_564 (by decide) ?_
                refine lv_istore (lv' := [(10, .int 1), (0, .ref h), (1, .ref at_), (2, .ref aw), (3, .ref ar), (4, .ref ag), (5, .ref an), (6, .int (sumF (V 3) 6)), (7, .int (brO V cq 6)), (8, .int (siL V 6)), (9, .int (sumF (V 7) 6)), (11, .int (nI k))]) hx hb dL_areTowns_568 hl (by decide) rfl (fun ls hl => ?_)
                refine lv_iinc (v := nI (k + 1)) (lv' := [(11, .int (nI (k + 1))), (10, .int 1), (0, .ref h), (1, .ref at_), (2, .ref aw), (3, .ref ar), (4, .ref ag), (5, .ref an), (6, .int (sumF (V 3) 6)), (7, .int (brO V cq 6)), (8, .int (siL V 6)), (9, .int (sumF (V 7) 6))]) hx hb dL_areTowns_570 hl (k := 11) rfl (nI_add k 1) (by decide) rfl (fun ls hl => ?_)
                refine lv_goto (tgt := 517) hx hb dL_areTowns_573 (by decide) ?_
                exact ih_k (by omega) (d0) (s) _ _ _ hW (lv_sub hl [2, 3, 4, 5, 6, 7, 8, 9, 10, 11, 1, 0] rfl) (hs) (hd0)
      · refine lv_iload hx hb dL_areTowns_52 (lv_at hl 10 rfl) ?_
        refine lv_if_eq (tgt := 514) hx hb dL_areTowns_54 (by decide) (fun h_23 => ?_) (fun h_23 => ?_)
        · exact absurd h_23 (by decide)
        · refine lv_iconst (v := 0) hx hb dL_areTowns_57 (by decide) ?_
          refine lv_istore (lv' := [(12, .int 0), (0, .ref h), (1, .ref at_), (2, .ref aw), (3, .ref ar), (4, .ref ag), (5, .ref an), (6, .int (sumF (V 3) k)), (7, .int (brO V cq k)), (8, .int (siL V k)), (9, .int (sumF (V 7) k)), (10, .int 1), (11, .int (nI k))]) hx hb dL_areTowns_58 hl (by decide) rfl (fun ls hl => ?_)
          refine loopN (fun w9 : Nat => ∀ (H : Heap) (locs : List Loc) (ls : Array Slot), wd g (fun z9 => z9 ∈ adr [bB h q z, vB g (q 0) na V, vB g (q 1) ta TV, vB g (q 2) pa SV, hB g (q 3) hq hh o n, vB g (hh 0) (aa 0) (HV 0), vB g (hh 1) (aa 1) (HV 1), vB g (hh 2) (aa 2) (HV 2), vB g (hh 3) (aa 3) (HV 3), vB g (hh 4) (aa 4) (HV 4), rB g (q 4) ra NN, tB g (q 5) sa (fun _ => 0) 0, aR g at_ 54 (rT V), aR g aw 30 (V 9), aR g ar 30 (V 10), aR g ag 30 (V 11), aR g an 5 (V 12)]) s0.heap [bB h q z, vB g (q 0) na V, vB g (q 1) ta TV, vB g (q 2) pa SV, hB g (q 3) hq hh o n, vB g (hh 0) (aa 0) (HV 0), vB g (hh 1) (aa 1) (HV 1), vB g (hh 2) (aa 2) (HV 2), vB g (hh 3) (aa 3) (HV 3), vB g (hh 4) (aa 4) (HV 4), rB g (q 4) ra NX, tB g (q 5) sa (fun _ => 0) 0, aR g at_ 54 (rT V), aR g aw 30 (V 9), aR g ar 30 (V 10), aR g ag 30 (V 11), aR g an 5 (V 12)] H locs → lv_has ls 16 [(0, .ref h), (1, .ref at_), (2, .ref aw), (3, .ref ar), (4, .ref ag), (5, .ref an), (6, .int (sumF (V 3) k)), (7, .int (brO V cq k)), (8, .int (siL V k)), (9, .int (sumF (V 7) k)), (10, .int 1), (11, .int (nI k)), (12, .int (nI w9))] → W p l e _ s m _ below meth c H locs 0 0 _ (F0 m 60 ls [])) (9) (fun w9 hiw ih_w9 => ?_) (0) (by omega)  H locs ls hW (lv_sub hl [1, 2, 3, 4, 5, 6, 7, 8, 9, 10, 11, 12, 0] rfl) 
          intro  H locs ls hW hl 
          have hP := hW.1
          refine lv_iload hx hb dL_areTowns_60 (lv_at hl 12 rfl) ?_
          refine lv_bipush (v := 9) hx hb dL_areTowns_62 (by decide) ?_
          refine b_ge (tgt := 106) (w9) (9) hx hb rfl rfl (by omega) (by omega) dL_areTowns_64 (by decide) (fun h_24 => ?_) (fun h_24 => ?_)
          · obtain rfl : w9 = 9 := by omega
            refine lv_aload_n hx hb dL_areTowns_106 rfl (lv_at hl 1 rfl) ?_
            refine lv_aload_n hx hb dL_areTowns_107 rfl (lv_at hl 2 rfl) ?_
            refine lv_aload_n hx hb dL_areTowns_108 rfl (lv_at hl 3 rfl) ?_
            refine lv_aload hx hb dL_areTowns_109 (lv_at hl 5 rfl) ?_
            refine lv_iload hx hb dL_areTowns_111 (lv_at hl 11 rfl) ?_
            refine lv_aload_n hx hb dL_areTowns_113 rfl (lv_at hl 1 rfl) ?_
            refine lv_bipush (v := 9) hx hb dL_areTowns_114 (by decide) ?_
            refine lv_iload hx hb dL_areTowns_116 (lv_at hl 11 rfl) ?_
            refine lv_imul hx hb dL_areTowns_118 ?_
            refine b_top (y := nI (9 * k)) (pk_mul 9 k) ?_
            refine lv_iconst (v := 4) hx hb dL_areTowns_119 (by decide) ?_
            refine lv_iadd hx hb dL_areTowns_120 ?_
            refine b_top (y := nI ((9 * k) + 4)) (nI_add (9 * k) 4) ?_
            refine b_iald (v := V 4 k) hx hb hK hP 12 0 ((9 * k) + 4) rfl rfl rfl (by omega) rfl ((rT_at _ (by omega)).trans rfl) dL_areTowns_121 ?_
            refine call_SR (As := [.ref at_, .ref aw, .ref ar, .ref an, .int (nI k), .int (V 4 k)]) (rest := []) E rfl hK hP (c_L_rings l g at_ aw ar an V k (V 4 k) (by omega) (cq k) (hc _ (by omega)).1 (hc _ (by omega)).2) ok_L_rings rfl q1_201 [12, 13, 14, 16] rfl ⟨⟨rfl, rfl⟩, Nat.le_of_ble_eq_true rfl, Nat.le_of_ble_eq_true rfl⟩ hl.1 (Nat.le_of_ble_eq_true rfl) ⟨Nat.le_of_ble_eq_true rfl, Nat.le_of_ble_eq_true rfl⟩ rfl dL_areTowns_122 ?_
            obtain ⟨bs, hbs⟩ : ∃ z, z = (rgL V k (V 4 k) (cq k)).1 := ⟨_, rfl⟩
            refine b_top (y := bs) hbs.symm ?_
            have hnb : ¬ hasB V (nI k) (V 3 k) := fun q9 => q9.2.2 (by rw [nI_clamp (by omega)]; exact Int32.le_refl _)
            refine lv_istore (lv' := [(12, .int bs), (0, .ref h), (1, .ref at_), (2, .ref aw), (3, .ref ar), (4, .ref ag), (5, .ref an), (6, .int (sumF (V 3) k)), (7, .int (brO V cq k)), (8, .int (siL V k)), (9, .int (sumF (V 7) k)), (10, .int 1), (11, .int (nI k))]) hx hb dL_areTowns_125 hl (by decide) rfl (fun ls hl => ?_)
            refine lv_iload hx hb dL_areTowns_127 (lv_at hl 11 rfl) ?_
            refine lv_if_eq (tgt := 173) hx hb dL_areTowns_129 (by decide) (fun h_25 => ?_) (fun h_25 => ?_)
            · exact absurd h_25 (by decide)
            · refine lv_aload_n hx hb dL_areTowns_132 rfl (lv_at hl 1 rfl) ?_
              refine lv_iload hx hb dL_areTowns_133 (lv_at hl 12 rfl) ?_
              refine call_VU (As := [.int (nI k)]) (rest := []) E rfl hK hW (c_X4_loudness l g h q z na V ta TV pa SV hq hh o n aa HV ra NX sa (fun _ => 0) 0 (nI k) k ho hn (Nat.zero_le _) (fun _ => ⟨rfl, by omega⟩)) ok_X4_loudness rfl q1_204 [0, 1, 2, 3, 4, 5, 6, 7, 8, 9, 10, 11] rfl (by decide) (b_recv hK hP 0 0 rfl rfl rfl rfl) ⟨⟨rfl, rfl⟩, Nat.le_of_ble_eq_true rfl, Nat.le_of_ble_eq_true rfl⟩ hl.1 (Nat.le_of_ble_eq_true rfl) ⟨Nat.le_of_ble_eq_true rfl, Nat.le_of_ble_eq_true rfl⟩ rfl dL_areTowns_135 (fun u_26 H locs _ hW => ?_)
              have hW : wd g _ s0.heap [bB h q z, vB g (q 0) na V, vB g (q 1) ta TV, vB g (q 2) pa SV, hB g (q 3) hq hh o n, vB g (hh 0) (aa 0) (HV 0), vB g (hh 1) (aa 1) (HV 1), vB g (hh 2) (aa 2) (HV 2), vB g (hh 3) (aa 3) (HV 3), vB g (hh 4) (aa 4) (HV 4), rB g (q 4) ra u_26, tB g (q 5) sa (fun _ => 0) 0, aR g at_ 54 (rT V), aR g aw 30 (V 9), aR g ar 30 (V 10), aR g ag 30 (V 11), aR g an 5 (V 12)] H locs := hW
              have hP := hW.1
              refine b_top (y := loL V k bs 5) ((if_pos (isT_nI (by omega))).trans ((LK.2.2.1 _ _ (by omega)).trans (by rw [hbs]))) ?_
              refine lv_aload_n hx hb dL_areTowns_138 rfl (lv_at hl 3 rfl) ?_
              refine lv_iload hx hb dL_areTowns_139 (lv_at hl 12 rfl) ?_
              refine lv_iload hx hb dL_areTowns_141 (lv_at hl 0 rfl) ?_
              refine call_SR (As := [.ref aw, .int (nI k), .int bs]) (rest := [.int (loL V k bs 5)]) E rfl hK hP (c_L_loud l g aw V k bs (by omega)) ok_L_loud rfl q2_8 [13] rfl ⟨⟨rfl, rfl⟩, Nat.le_of_ble_eq_true rfl, Nat.le_of_ble_eq_true rfl⟩ hl.1 (Nat.le_of_ble_eq_true rfl) ⟨Nat.le_of_ble_eq_true rfl, Nat.le_of_ble_eq_true rfl⟩ rfl dL_areTowns_143 ?_
              refine lv_icmp_ne (tgt := 173) hx hb dL_areTowns_146 (by decide) (fun h_27 => ?_) (fun h_27 => ?_)
              · exact absurd rfl h_27
              · refine lv_aload_n hx hb dL_areTowns_149 rfl (lv_at hl 1 rfl) ?_
                refine lv_iload hx hb dL_areTowns_150 (lv_at hl 12 rfl) ?_
                refine lv_aload_n hx hb dL_areTowns_152 rfl (lv_at hl 2 rfl) ?_
                refine lv_bipush (v := 9) hx hb dL_areTowns_153 (by decide) ?_
                refine lv_iload hx hb dL_areTowns_155 (lv_at hl 12 rfl) ?_
                refine lv_imul hx hb dL_areTowns_157 ?_
                refine b_top (y := nI (9 * k)) (pk_mul 9 k) ?_
                refine lv_iconst (v := 3) hx hb dL_areTowns_158 (by decide) ?_
                refine lv_iadd hx hb dL_areTowns_159 ?_
                refine b_top (y := nI ((9 * k) + 3)) (nI_add (9 * k) 3) ?_
                refine b_iald (v := V 3 k) hx hb hK hP 12 0 ((9 * k) + 3) rfl rfl rfl (by omega) rfl ((rT_at _ (by omega)).trans rfl) dL_areTowns_160 ?_
                refine lv_iconst (v := 0) hx hb dL_areTowns_161 (by decide) ?_
                refine call_VU (As := [.int (nI k), .int (V 3 k), .int 0]) (rest := []) E rfl hK hW (c_X4_bell_i l g h q z na V ta TV pa SV hq hh o n aa HV ra u_26 sa (fun _ => 0) 0 (nI k) (V 3 k) 0 k 0 ho hn (Nat.zero_le _) (fun q9 => absurd q9 hnb) (by omega)) ok_X4_bell rfl q2_11 [0, 1, 2, 3, 4, 5, 6, 7, 8, 9, 10, 11] rfl (by decide) (b_recv hK hP 0 0 rfl rfl rfl rfl) ⟨⟨rfl, rfl⟩, Nat.le_of_ble_eq_true rfl, Nat.le_of_ble_eq_true rfl⟩ hl.1 (Nat.le_of_ble_eq_true rfl) ⟨Nat.le_of_ble_eq_true rfl, Nat.le_of_ble_eq_true rfl⟩ rfl dL_areTowns_162 (fun u_28 H locs _ hW => ?_)
                have hW : wd g _ s0.heap [bB h q z, vB g (q 0) na V, vB g (q 1) ta TV, vB g (q 2) pa SV, hB g (q 3) hq hh o n, vB g (hh 0) (aa 0) (HV 0), vB g (hh 1) (aa 1) (HV 1), vB g (hh 2) (aa 2) (HV 2), vB g (hh 3) (aa 3) (HV 3), vB g (hh 4) (aa 4) (HV 4), rB g (q 4) ra u_28, tB g (q 5) sa (fun _ => 0) 0, aR g at_ 54 (rT V), aR g aw 30 (V 9), aR g ar 30 (V 10), aR g ag 30 (V 11), aR g an 5 (V 12)] H locs := hW
                have hP := hW.1
                refine b_top (y := -1) (if_neg hnb) ?_
                refine lv_iconst (v := -1) hx hb dL_areTowns_165 (by decide) ?_
                refine lv_icmp_ne (tgt := 173) hx hb dL_areTowns_166 (by decide) (fun h_29 => ?_) (fun h_29 => ?_)
                · exact absurd rfl h_29
                · refine lv_iconst (v := 1) hx hb dL_areTowns_169 (by decide) ?_
                  refine lv_goto (tgt := 174) hx hb dL_areTowns_170 (by decide) ?_
                  refine lv_istore (lv' := [(10, .int 1), (12, .int bs), (0, .ref h), (1, .ref at_), (2, .ref aw), (3, .ref ar), (4, .ref ag), (5, .ref an), (6, .int (sumF (V 3) k)), (7, .int (brO V cq k)), (8, .int (siL V k)), (9, .int (sumF (V 7) k)), (11, .int (nI k))]) hx hb dL_areTowns_174 hl (by decide) rfl (fun ls hl => ?_)
                  refine lv_iconst (v := 0) hx hb dL_areTowns_176 (by decide) ?_
                  refine lv_istore (lv' := [(13, .int 0), (10, .int 1), (12, .int bs), (0, .ref h), (1, .ref at_), (2, .ref aw), (3, .ref ar), (4, .ref ag), (5, .ref an), (6, .int (sumF (V 3) k)), (7, .int (brO V cq k)), (8, .int (siL V k)), (9, .int (sumF (V 7) k)), (11, .int (nI k))]) hx hb dL_areTowns_177 hl (by decide) rfl (fun ls hl => ?_)
                  refine loopN (fun i : Nat => ∀ NY : sV, ∀ (H : Heap) (locs : List Loc) (ls : Array Slot), wd g (fun z9 => z9 ∈ adr [bB h q z, vB g (q 0) na V, vB g (q 1) ta TV, vB g (q 2) pa SV, hB g (q 3) hq hh o n, vB g (hh 0) (aa 0) (HV 0), vB g (hh 1) (aa 1) (HV 1), vB g (hh 2) (aa 2) (HV 2), vB g (hh 3) (aa 3) (HV 3), vB g (hh 4) (aa 4) (HV 4), rB g (q 4) ra NN, tB g (q 5) sa (fun _ => 0) 0, aR g at_ 54 (rT V), aR g aw 30 (V 9), aR g ar 30 (V 10), aR g ag 30 (V 11), aR g an 5 (V 12)]) s0.heap [bB h q z, vB g (q 0) na V, vB g (q 1) ta TV, vB g (q 2) pa SV, hB g (q 3) hq hh o n, vB g (hh 0) (aa 0) (HV 0), vB g (hh 1) (aa 1) (HV 1), vB g (hh 2) (aa 2) (HV 2), vB g (hh 3) (aa 3) (HV 3), vB g (hh 4) (aa 4) (HV 4), rB g (q 4) ra NY, tB g (q 5) sa (fun _ => 0) 0, aR g at_ 54 (rT V), aR g aw 30 (V 9), aR g ar 30 (V 10), aR g ag 30 (V 11), aR g an 5 (V 12)] H locs → lv_has ls 16 [(0, .ref h), (1, .ref at_), (2, .ref aw), (3, .ref ar), (4, .ref ag), (5, .ref an), (6, .int (sumF (V 3) k)), (7, .int (brI V k (brO V cq k) i)), (8, .int (siL V k)), (9, .int (sumF (V 7) k)), (10, .int 1), (11, .int (nI k)), (12, .int bs), (13, .int (nI i))] → W p l e _ s m _ below meth c H locs 0 0 _ (F0 m 179 ls [])) (cq k) (fun i hii ih_i => ?_) (0) (by omega) (u_28) H locs ls hW (lv_sub hl [3, 4, 5, 6, 7, 8, 9, 10, 11, 12, 1, 13, 2, 0] rfl) 
                  intro NY H locs ls hW hl 
                  have hP := hW.1
                  refine lv_iload hx hb dL_areTowns_179 (lv_at hl 13 rfl) ?_
                  refine lv_aload_n hx hb dL_areTowns_181 rfl (lv_at hl 1 rfl) ?_
                  refine lv_bipush (v := 9) hx hb dL_areTowns_182 (by decide) ?_
                  refine lv_iload hx hb dL_areTowns_184 (lv_at hl 11 rfl) ?_
                  refine lv_imul hx hb dL_areTowns_186 ?_
                  refine b_top (y := nI (9 * k)) (pk_mul 9 k) ?_
                  refine lv_iconst (v := 3) hx hb dL_areTowns_187 (by decide) ?_
                  refine lv_iadd hx hb dL_areTowns_188 ?_
                  refine b_top (y := nI ((9 * k) + 3)) (nI_add (9 * k) 3) ?_
                  refine b_iald (v := V 3 k) hx hb hK hP 12 0 ((9 * k) + 3) rfl rfl rfl (by omega) rfl ((rT_at _ (by omega)).trans rfl) dL_areTowns_189 ?_
                  refine b_top (y := nI (cq k)) (hc _ (by omega)).1 ?_
                  have hc5 := (hc k (by omega)).2
                  refine b_ge (tgt := 456) (i) ((cq k)) hx hb rfl rfl (by omega) (by omega) dL_areTowns_190 (by decide) (fun h_30 => ?_) (fun h_30 => ?_)
                  · have hicq : i = cq k := by omega
                    rw [hicq] at hl
                    refine lv_iload hx hb dL_areTowns_456 (lv_at hl 6 rfl) ?_
                    refine lv_aload_n hx hb dL_areTowns_458 rfl (lv_at hl 1 rfl) ?_
                    refine lv_bipush (v := 9) hx hb dL_areTowns_459 (by decide) ?_
                    refine lv_iload hx hb dL_areTowns_461 (lv_at hl 11 rfl) ?_
                    refine lv_imul hx hb dL_areTowns_463 ?_
                    refine b_top (y := nI (9 * k)) (pk_mul 9 k) ?_
                    refine lv_iconst (v := 3) hx hb dL_areTowns_464 (by decide) ?_
                    refine lv_iadd hx hb dL_areTowns_465 ?_
                    refine b_top (y := nI ((9 * k) + 3)) (nI_add (9 * k) 3) ?_
                    refine b_iald (v := V 3 k) hx hb hK hP 12 0 ((9 * k) + 3) rfl rfl rfl (by omega) rfl ((rT_at _ (by omega)).trans rfl) dL_areTowns_466 ?_
                    refine lv_iadd hx hb dL_areTowns_467 ?_
                    refine lv_istore (lv' := [(6, .int ((sumF (V 3) k) + (V 3 k))), (0, .ref h), (1, .ref at_), (2, .ref aw), (3, .ref ar), (4, .ref ag), (5, .ref an), (7, .int (brI V k (brO V cq k) (cq k))), (8, .int (siL V k)), (9, .int (sumF (V 7) k)), (10, .int 1), (11, .int (nI k)), (12, .int bs), (13, .int (nI (cq k)))]) hx hb dL_areTowns_468 hl (by decide) rfl (fun ls hl => ?_)
                    refine lv_iload hx hb dL_areTowns_470 (lv_at hl 8 rfl) ?_
                    refine lv_aload_n hx hb dL_areTowns_472 rfl (lv_at hl 2 rfl) ?_
                    refine lv_bipush (v := 9) hx hb dL_areTowns_473 (by decide) ?_
                    refine lv_iload hx hb dL_areTowns_475 (lv_at hl 11 rfl) ?_
                    refine lv_imul hx hb dL_areTowns_477 ?_
                    refine b_top (y := nI (9 * k)) (pk_mul 9 k) ?_
                    refine lv_bipush (v := 6) hx hb dL_areTowns_478 (by decide) ?_
                    refine lv_iadd hx hb dL_areTowns_480 ?_
                    refine b_top (y := nI ((9 * k) + 6)) (nI_add (9 * k) 6) ?_
                    refine b_iald (v := V 6 k) hx hb hK hP 12 0 ((9 * k) + 6) rfl rfl rfl (by omega) rfl ((rT_at _ (by omega)).trans rfl) dL_areTowns_481 ?_
                    refine lv_if_le (tgt := 489) hx hb dL_areTowns_482 (by decide) (fun h_31 => ?_) (fun h_31 => ?_)
                    · refine lv_iconst (v := 0) hx hb dL_areTowns_489 (by decide) ?_
                      refine lv_iadd hx hb dL_areTowns_490 ?_
                      refine lv_istore (lv' := [(8, .int ((siL V k) + 0)), (6, .int ((sumF (V 3) k) + (V 3 k))), (0, .ref h), (1, .ref at_), (2, .ref aw), (3, .ref ar), (4, .ref ag), (5, .ref an), (7, .int (brI V k (brO V cq k) (cq k))), (9, .int (sumF (V 7) k)), (10, .int 1), (11, .int (nI k)), (12, .int bs), (13, .int (nI (cq k)))]) hx hb dL_areTowns_491 hl (by decide) rfl (fun ls hl => ?_)
                      refine lv_iload hx hb dL_areTowns_493 (lv_at hl 9 rfl) ?_
                      refine lv_aload_n hx hb dL_areTowns_495 rfl (lv_at hl 3 rfl) ?_
                      refine lv_bipush (v := 9) hx hb dL_areTowns_496 (by decide) ?_
                      refine lv_iload hx hb dL_areTowns_498 (lv_at hl 11 rfl) ?_
                      refine lv_imul hx hb dL_areTowns_500 ?_
                      refine b_top (y := nI (9 * k)) (pk_mul 9 k) ?_
                      refine lv_bipush (v := 7) hx hb dL_areTowns_501 (by decide) ?_
                      refine lv_iadd hx hb dL_areTowns_503 ?_
                      refine b_top (y := nI ((9 * k) + 7)) (nI_add (9 * k) 7) ?_
                      refine b_iald (v := V 7 k) hx hb hK hP 12 0 ((9 * k) + 7) rfl rfl rfl (by omega) rfl ((rT_at _ (by omega)).trans rfl) dL_areTowns_504 ?_
                      refine lv_iadd hx hb dL_areTowns_505 ?_
                      refine lv_istore (lv' := [(9, .int ((sumF (V 7) k) + (V 7 k))), (8, .int ((siL V k) + 0)), (6, .int ((sumF (V 3) k) + (V 3 k))), (0, .ref h), (1, .ref at_), (2, .ref aw), (3, .ref ar), (4, .ref ag), (5, .ref an), (7, .int (brI V k (brO V cq k) (cq k))), (10, .int 1), (11, .int (nI k)), (12, .int bs), (13, .int (nI (cq k)))]) hx hb dL_areTowns_506 hl (by decide) rfl (fun ls hl => ?_)
                      refine lv_iinc (v := nI (k + 1)) (lv' := [(11, .int (nI (k + 1))), (9, .int ((sumF (V 7) k) + (V 7 k))), (8, .int ((siL V k) + 0)), (6, .int ((sumF (V 3) k) + (V 3 k))), (0, .ref h), (1, .ref at_), (2, .ref aw), (3, .ref ar), (4, .ref ag), (5, .ref an), (7, .int (brI V k (brO V cq k) (cq k))), (10, .int 1), (12, .int bs), (13, .int (nI (cq k)))]) hx hb dL_areTowns_508 hl (k := 11) rfl (nI_add k 1) (by decide) rfl (fun ls hl => ?_)
                      refine lv_goto (tgt := 45) hx hb dL_areTowns_511 (by decide) ?_
                      have e_32 : sumF (V 3) (k + 1) = (sumF (V 3) k) + (V 3 k) := by first | rfl | (rw [siL, if_pos h_31]; done) | (rw [siL, if_neg h_31]; done)
                      have e_33 : brO V cq (k + 1) = brI V k (brO V cq k) (cq k) := by first | rfl | (rw [siL, if_pos h_31]; done) | (rw [siL, if_neg h_31]; done)
                      have e_34 : siL V (k + 1) = (siL V k) + 0 := by first | rfl | (rw [siL, if_pos h_31]; done) | (rw [siL, if_neg h_31]; done)
                      have e_35 : sumF (V 7) (k + 1) = (sumF (V 7) k) + (V 7 k) := by first | rfl | (rw [siL, if_pos h_31]; done) | (rw [siL, if_neg h_31]; done)
                      exact ih_k (by omega) (NY) _ _ _ hW (by rw [e_32, e_33, e_34, e_35]; exact lv_sub hl [4, 5, 6, 7, 8, 9, 3, 10, 2, 1, 11, 0] rfl) 
                    · refine lv_iconst (v := 1) hx hb dL_areTowns_485 (by decide) ?_
                      refine lv_goto (tgt := 490) hx hb dL_areTowns_486 (by decide) ?_
                      refine lv_iadd hx hb dL_areTowns_490 ?_
                      refine lv_istore (lv' := [(8, .int ((siL V k) + 1)), (6, .int ((sumF (V 3) k) + (V 3 k))), (0, .ref h), (1, .ref at_), (2, .ref aw), (3, .ref ar), (4, .ref ag), (5, .ref an), (7, .int (brI V k (brO V cq k) (cq k))), (9, .int (sumF (V 7) k)), (10, .int 1), (11, .int (nI k)), (12, .int bs), (13, .int (nI (cq k)))]) hx hb dL_areTowns_491 hl (by decide) rfl (fun ls hl => ?_)
                      refine lv_iload hx hb dL_areTowns_493 (lv_at hl 9 rfl) ?_
                      refine lv_aload_n hx hb dL_areTowns_495 rfl (lv_at hl 3 rfl) ?_
                      refine lv_bipush (v := 9) hx hb dL_areTowns_496 (by decide) ?_
                      refine lv_iload hx hb dL_areTowns_498 (lv_at hl 11 rfl) ?_
                      refine lv_imul hx hb dL_areTowns_500 ?_
                      refine b_top (y := nI (9 * k)) (pk_mul 9 k) ?_
                      refine lv_bipush (v := 7) hx hb dL_areTowns_501 (by decide) ?_
                      refine lv_iadd hx hb dL_areTowns_503 ?_
                      refine b_top (y := nI ((9 * k) + 7)) (nI_add (9 * k) 7) ?_
                      refine b_iald (v := V 7 k) hx hb hK hP 12 0 ((9 * k) + 7) rfl rfl rfl (by omega) rfl ((rT_at _ (by omega)).trans rfl) dL_areTowns_504 ?_
                      refine lv_iadd hx hb dL_areTowns_505 ?_
                      refine lv_istore (lv' := [(9, .int ((sumF (V 7) k) + (V 7 k))), (8, .int ((siL V k) + 1)), (6, .int ((sumF (V 3) k) + (V 3 k))), (0, .ref h), (1, .ref at_), (2, .ref aw), (3, .ref ar), (4, .ref ag), (5, .ref an), (7, .int (brI V k (brO V cq k) (cq k))), (10, .int 1), (11, .int (nI k)), (12, .int bs), (13, .int (nI (cq k)))]) hx hb dL_areTowns_506 hl (by decide) rfl (fun ls hl => ?_)
                      refine lv_iinc (v := nI (k + 1)) (lv' := [(11, .int (nI (k + 1))), (9, .int ((sumF (V 7) k) + (V 7 k))), (8, .int ((siL V k) + 1)), (6, .int ((sumF (V 3) k) + (V 3 k))), (0, .ref h), (1, .ref at_), (2, .ref aw), (3, .ref ar), (4, .ref ag), (5, .ref an), (7, .int (brI V k (brO V cq k) (cq k))), (10, .int 1), (12, .int bs), (13, .int (nI (cq k)))]) hx hb dL_areTowns_508 hl (k := 11) rfl (nI_add k 1) (by decide) rfl (fun ls hl => ?_)
                      refine lv_goto (tgt := 45) hx hb dL_areTowns_511 (by decide) ?_
                      have e_36 : sumF (V 3) (k + 1) = (sumF (V 3) k) + (V 3 k) := by first | rfl | (rw [siL, if_pos h_31]; done) | (rw [siL, if_neg h_31]; done)
                      have e_37 : brO V cq (k + 1) = brI V k (brO V cq k) (cq k) := by first | rfl | (rw [siL, if_pos h_31]; done) | (rw [siL, if_neg h_31]; done)
                      have e_38 : siL V (k + 1) = (siL V k) + 1 := by first | rfl | (rw [siL, if_pos h_31]; done) | (rw [siL, if_neg h_31]; done)
                      have e_39 : sumF (V 7) (k + 1) = (sumF (V 7) k) + (V 7 k) := by first | rfl | (rw [siL, if_pos h_31]; done) | (rw [siL, if_neg h_31]; done)
                      exact ih_k (by omega) (NY) _ _ _ hW (by rw [e_36, e_37, e_38, e_39]; exact lv_sub hl [4, 5, 6, 7, 8, 9, 3, 10, 2, 1, 11, 0] rfl) 
                  · have hbi : hasB V (nI k) (nI i) := (hasB_nat (by omega) (by omega) (hc k (by omega)).1 hc5).mpr (by omega)
                    refine lv_iload hx hb dL_areTowns_193 (lv_at hl 10 rfl) ?_
                    refine lv_if_eq (tgt := 456) hx hb dL_areTowns_195 (by decide) (fun h_40 => ?_) (fun h_40 => ?_)
                    · exact absurd h_40 (by decide)
                    · refine b_join (n := 16) (L := [(0, .ref h), (1, .ref at_), (2, .ref aw), (3, .ref ar), (4, .ref ag), (5, .ref an), (6, .int (sumF (V 3) k)), (7, .int (brI V k (brO V cq k) i)), (8, .int (siL V k)), (9, .int (sumF (V 7) k)), (10, .int 1), (11, .int (nI k)), (12, .int bs), (13, .int (nI i)), (15, .int (rsL V k bs i))]) (pcJ := 302) (fun ls hl => ?_) (fun jn_41 => ?_)
                      · refine lv_aload_n hx hb dL_areTowns_302 rfl (lv_at hl 0 rfl) ?_
                        refine lv_iload hx hb dL_areTowns_303 (lv_at hl 11 rfl) ?_
                        refine lv_iload hx hb dL_areTowns_305 (lv_at hl 13 rfl) ?_
                        refine lv_iconst (v := 0) hx hb dL_areTowns_307 (by decide) ?_
                        refine call_VU (As := [.int (nI k), .int (nI i), .int 0]) (rest := []) E rfl hK hW (c_X4_bell_i l g h q z na V ta TV pa SV hq hh o n aa HV ra NY sa (fun _ => 0) 0 (nI k) (nI i) 0 k i ho hn (Nat.zero_le _) (fun _ => ⟨rfl, by omega, rfl, by omega⟩) (by omega)) ok_X4_bell rfl q2_11 [0, 1, 2, 3, 4, 5, 6, 7, 8, 9, 10, 11] rfl (by decide) (b_recv hK hP 0 0 rfl rfl rfl rfl) ⟨⟨rfl, rfl⟩, Nat.le_of_ble_eq_true rfl, Nat.le_of_ble_eq_true rfl⟩ hl.1 (Nat.le_of_ble_eq_true rfl) ⟨Nat.le_of_ble_eq_true rfl, Nat.le_of_ble_eq_true rfl⟩ rfl dL_areTowns_308 (fun u_42 H locs _ hW => ?_)
                        have hW : wd g _ s0.heap [bB h q z, vB g (q 0) na V, vB g (q 1) ta TV, vB g (q 2) pa SV, hB g (q 3) hq hh o n, vB g (hh 0) (aa 0) (HV 0), vB g (hh 1) (aa 1) (HV 1), vB g (hh 2) (aa 2) (HV 2), vB g (hh 3) (aa 3) (HV 3), vB g (hh 4) (aa 4) (HV 4), rB g (q 4) ra u_42, tB g (q 5) sa (fun _ => 0) 0, aR g at_ 54 (rT V), aR g aw 30 (V 9), aR g ar 30 (V 10), aR g ag 30 (V 11), aR g an 5 (V 12)] H locs := hW
                        have hP := hW.1
                        refine b_top (y := V 9 (k * 5 + i)) ((if_pos hbi).trans rfl) ?_
                        refine lv_aload_n hx hb dL_areTowns_311 rfl (lv_at hl 2 rfl) ?_
                        refine lv_iconst (v := 5) hx hb dL_areTowns_312 (by decide) ?_
                        refine lv_iload hx hb dL_areTowns_313 (lv_at hl 11 rfl) ?_
                        refine lv_imul hx hb dL_areTowns_315 ?_
                        refine b_top (y := nI (5 * k)) (pk_mul 5 k) ?_
                        refine lv_iload hx hb dL_areTowns_316 (lv_at hl 13 rfl) ?_
                        refine lv_iadd hx hb dL_areTowns_318 ?_
                        refine b_top (y := nI ((5 * k) + i)) (nI_add (5 * k) i) ?_
                        refine b_iald (v := V 9 (k * 5 + i)) hx hb hK hP 13 0 ((5 * k) + i) rfl rfl rfl (by omega) rfl ((congrArg (V 9) (show (5 * k) + i = k * 5 + i by omega)).trans rfl) dL_areTowns_319 ?_
                        refine lv_icmp_ne (tgt := 423) hx hb dL_areTowns_320 (by decide) (fun h_43 => ?_) (fun h_43 => ?_)
                        · exact absurd rfl h_43
                        · refine lv_aload_n hx hb dL_areTowns_323 rfl (lv_at hl 0 rfl) ?_
                          refine lv_iload hx hb dL_areTowns_324 (lv_at hl 11 rfl) ?_
                          refine lv_iload hx hb dL_areTowns_326 (lv_at hl 13 rfl) ?_
                          refine lv_iconst (v := 1) hx hb dL_areTowns_328 (by decide) ?_
                          refine call_VU (As := [.int (nI k), .int (nI i), .int 1]) (rest := []) E rfl hK hW (c_X4_bell_i l g h q z na V ta TV pa SV hq hh o n aa HV ra u_42 sa (fun _ => 0) 0 (nI k) (nI i) 1 k i ho hn (Nat.zero_le _) (fun _ => ⟨rfl, by omega, rfl, by omega⟩) (by omega)) ok_X4_bell rfl q2_11 [0, 1, 2, 3, 4, 5, 6, 7, 8, 9, 10, 11] rfl (by decide) (b_recv hK hP 0 0 rfl rfl rfl rfl) ⟨⟨rfl, rfl⟩, Nat.le_of_ble_eq_true rfl, Nat.le_of_ble_eq_true rfl⟩ hl.1 (Nat.le_of_ble_eq_true rfl) ⟨Nat.le_of_ble_eq_true rfl, Nat.le_of_ble_eq_true rfl⟩ rfl dL_areTowns_329 (fun u_44 H locs _ hW => ?_)
                          have hW : wd g _ s0.heap [bB h q z, vB g (q 0) na V, vB g (q 1) ta TV, vB g (q 2) pa SV, hB g (q 3) hq hh o n, vB g (hh 0) (aa 0) (HV 0), vB g (hh 1) (aa 1) (HV 1), vB g (hh 2) (aa 2) (HV 2), vB g (hh 3) (aa 3) (HV 3), vB g (hh 4) (aa 4) (HV 4), rB g (q 4) ra u_44, tB g (q 5) sa (fun _ => 0) 0, aR g at_ 54 (rT V), aR g aw 30 (V 9), aR g ar 30 (V 10), aR g ag 30 (V 11), aR g an 5 (V 12)] H locs := hW
                          have hP := hW.1
                          refine b_top (y := V 10 (k * 5 + i)) ((if_pos hbi).trans rfl) ?_
                          refine lv_aload_n hx hb dL_areTowns_332 rfl (lv_at hl 3 rfl) ?_
                          refine lv_iconst (v := 5) hx hb dL_areTowns_333 (by decide) ?_
                          refine lv_iload hx hb dL_areTowns_334 (lv_at hl 11 rfl) ?_
                          refine lv_imul hx hb dL_areTowns_336 ?_
                          refine b_top (y := nI (5 * k)) (pk_mul 5 k) ?_
                          refine lv_iload hx hb dL_areTowns_337 (lv_at hl 13 rfl) ?_
                          refine lv_iadd hx hb dL_areTowns_339 ?_
                          refine b_top (y := nI ((5 * k) + i)) (nI_add (5 * k) i) ?_
                          refine b_iald (v := V 10 (k * 5 + i)) hx hb hK hP 14 0 ((5 * k) + i) rfl rfl rfl (by omega) rfl ((congrArg (V 10) (show (5 * k) + i = k * 5 + i by omega)).trans rfl) dL_areTowns_340 ?_
                          refine lv_icmp_ne (tgt := 423) hx hb dL_areTowns_341 (by decide) (fun h_45 => ?_) (fun h_45 => ?_)
                          · exact absurd rfl h_45
                          · refine lv_aload_n hx hb dL_areTowns_344 rfl (lv_at hl 0 rfl) ?_
                            refine lv_iload hx hb dL_areTowns_345 (lv_at hl 11 rfl) ?_
                            refine lv_iload hx hb dL_areTowns_347 (lv_at hl 13 rfl) ?_
                            refine lv_iconst (v := 2) hx hb dL_areTowns_349 (by decide) ?_
                            refine call_VU (As := [.int (nI k), .int (nI i), .int 2]) (rest := []) E rfl hK hW (c_X4_bell_i l g h q z na V ta TV pa SV hq hh o n aa HV ra u_44 sa (fun _ => 0) 0 (nI k) (nI i) 2 k i ho hn (Nat.zero_le _) (fun _ => ⟨rfl, by omega, rfl, by omega⟩) (by omega)) ok_X4_bell rfl q2_11 [0, 1, 2, 3, 4, 5, 6, 7, 8, 9, 10, 11] rfl (by decide) (b_recv hK hP 0 0 rfl rfl rfl rfl) ⟨⟨rfl, rfl⟩, Nat.le_of_ble_eq_true rfl, Nat.le_of_ble_eq_true rfl⟩ hl.1 (Nat.le_of_ble_eq_true rfl) ⟨Nat.le_of_ble_eq_true rfl, Nat.le_of_ble_eq_true rfl⟩ rfl dL_areTowns_350 (fun u_46 H locs _ hW => ?_)
                            have hW : wd g _ s0.heap [bB h q z, vB g (q 0) na V, vB g (q 1) ta TV, vB g (q 2) pa SV, hB g (q 3) hq hh o n, vB g (hh 0) (aa 0) (HV 0), vB g (hh 1) (aa 1) (HV 1), vB g (hh 2) (aa 2) (HV 2), vB g (hh 3) (aa 3) (HV 3), vB g (hh 4) (aa 4) (HV 4), rB g (q 4) ra u_46, tB g (q 5) sa (fun _ => 0) 0, aR g at_ 54 (rT V), aR g aw 30 (V 9), aR g ar 30 (V 10), aR g ag 30 (V 11), aR g an 5 (V 12)] H locs := hW
                            have hP := hW.1
                            refine b_top (y := rF (V 9 (k * 5 + i))) ((if_pos hbi).trans rfl) ?_
                            refine lv_aload_n hx hb dL_areTowns_353 rfl (lv_at hl 2 rfl) ?_
                            refine lv_iconst (v := 5) hx hb dL_areTowns_354 (by decide) ?_
                            refine lv_iload hx hb dL_areTowns_355 (lv_at hl 11 rfl) ?_
                            refine lv_imul hx hb dL_areTowns_357 ?_
                            refine b_top (y := nI (5 * k)) (pk_mul 5 k) ?_
                            refine lv_iload hx hb dL_areTowns_358 (lv_at hl 13 rfl) ?_
                            refine lv_iadd hx hb dL_areTowns_360 ?_
                            refine b_top (y := nI ((5 * k) + i)) (nI_add (5 * k) i) ?_
                            refine b_iald (v := V 9 (k * 5 + i)) hx hb hK hP 13 0 ((5 * k) + i) rfl rfl rfl (by omega) rfl ((congrArg (V 9) (show (5 * k) + i = k * 5 + i by omega)).trans rfl) dL_areTowns_361 ?_
                            refine lv_iconst (v := 1) hx hb dL_areTowns_362 (by decide) ?_
                            refine lv_iadd hx hb dL_areTowns_363 ?_
                            refine lv_iconst (v := 2) hx hb dL_areTowns_364 (by decide) ?_
                            refine lv_idiv hx hb dL_areTowns_365 (by decide) ?_
                            refine lv_icmp_ne (tgt := 423) hx hb dL_areTowns_366 (by decide) (fun h_47 => ?_) (fun h_47 => ?_)
                            · exact absurd rfl h_47
                            · refine lv_aload_n hx hb dL_areTowns_369 rfl (lv_at hl 0 rfl) ?_
                              refine lv_iload hx hb dL_areTowns_370 (lv_at hl 11 rfl) ?_
                              refine lv_iload hx hb dL_areTowns_372 (lv_at hl 13 rfl) ?_
                              refine lv_iconst (v := 3) hx hb dL_areTowns_374 (by decide) ?_
                              refine call_VU (As := [.int (nI k), .int (nI i), .int 3]) (rest := []) E rfl hK hW (c_X4_bell_i l g h q z na V ta TV pa SV hq hh o n aa HV ra u_46 sa (fun _ => 0) 0 (nI k) (nI i) 3 k i ho hn (Nat.zero_le _) (fun _ => ⟨rfl, by omega, rfl, by omega⟩) (by omega)) ok_X4_bell rfl q2_11 [0, 1, 2, 3, 4, 5, 6, 7, 8, 9, 10, 11] rfl (by decide) (b_recv hK hP 0 0 rfl rfl rfl rfl) ⟨⟨rfl, rfl⟩, Nat.le_of_ble_eq_true rfl, Nat.le_of_ble_eq_true rfl⟩ hl.1 (Nat.le_of_ble_eq_true rfl) ⟨Nat.le_of_ble_eq_true rfl, Nat.le_of_ble_eq_true rfl⟩ rfl dL_areTowns_375 (fun u_48 H locs _ hW => ?_)
                              have hW : wd g _ s0.heap [bB h q z, vB g (q 0) na V, vB g (q 1) ta TV, vB g (q 2) pa SV, hB g (q 3) hq hh o n, vB g (hh 0) (aa 0) (HV 0), vB g (hh 1) (aa 1) (HV 1), vB g (hh 2) (aa 2) (HV 2), vB g (hh 3) (aa 3) (HV 3), vB g (hh 4) (aa 4) (HV 4), rB g (q 4) ra u_48, tB g (q 5) sa (fun _ => 0) 0, aR g at_ 54 (rT V), aR g aw 30 (V 9), aR g ar 30 (V 10), aR g ag 30 (V 11), aR g an 5 (V 12)] H locs := hW
                              have hP := hW.1
                              refine b_top (y := V 11 (k * 5 + i)) ((if_pos hbi).trans rfl) ?_
                              refine lv_aload hx hb dL_areTowns_378 (lv_at hl 4 rfl) ?_
                              refine lv_iconst (v := 5) hx hb dL_areTowns_380 (by decide) ?_
                              refine lv_iload hx hb dL_areTowns_381 (lv_at hl 11 rfl) ?_
                              refine lv_imul hx hb dL_areTowns_383 ?_
                              refine b_top (y := nI (5 * k)) (pk_mul 5 k) ?_
                              refine lv_iload hx hb dL_areTowns_384 (lv_at hl 13 rfl) ?_
                              refine lv_iadd hx hb dL_areTowns_386 ?_
                              refine b_top (y := nI ((5 * k) + i)) (nI_add (5 * k) i) ?_
                              refine b_iald (v := V 11 (k * 5 + i)) hx hb hK hP 15 0 ((5 * k) + i) rfl rfl rfl (by omega) rfl ((congrArg (V 11) (show (5 * k) + i = k * 5 + i by omega)).trans rfl) dL_areTowns_387 ?_
                              refine lv_icmp_ne (tgt := 423) hx hb dL_areTowns_388 (by decide) (fun h_49 => ?_) (fun h_49 => ?_)
                              · exact absurd rfl h_49
                              · refine lv_aload_n hx hb dL_areTowns_391 rfl (lv_at hl 0 rfl) ?_
                                refine lv_iload hx hb dL_areTowns_392 (lv_at hl 11 rfl) ?_
                                refine lv_iload hx hb dL_areTowns_394 (lv_at hl 13 rfl) ?_
                                refine lv_iconst (v := 4) hx hb dL_areTowns_396 (by decide) ?_
                                refine call_VU (As := [.int (nI k), .int (nI i), .int 4]) (rest := []) E rfl hK hW (c_X4_bell_i l g h q z na V ta TV pa SV hq hh o n aa HV ra u_48 sa (fun _ => 0) 0 (nI k) (nI i) 4 k i ho hn (Nat.zero_le _) (fun _ => ⟨rfl, by omega, rfl, by omega⟩) (by omega)) ok_X4_bell rfl q2_11 [0, 1, 2, 3, 4, 5, 6, 7, 8, 9, 10, 11] rfl (by decide) (b_recv hK hP 0 0 rfl rfl rfl rfl) ⟨⟨rfl, rfl⟩, Nat.le_of_ble_eq_true rfl, Nat.le_of_ble_eq_true rfl⟩ hl.1 (Nat.le_of_ble_eq_true rfl) ⟨Nat.le_of_ble_eq_true rfl, Nat.le_of_ble_eq_true rfl⟩ rfl dL_areTowns_397 (fun u_50 H locs _ hW => ?_)
                                have hW : wd g _ s0.heap [bB h q z, vB g (q 0) na V, vB g (q 1) ta TV, vB g (q 2) pa SV, hB g (q 3) hq hh o n, vB g (hh 0) (aa 0) (HV 0), vB g (hh 1) (aa 1) (HV 1), vB g (hh 2) (aa 2) (HV 2), vB g (hh 3) (aa 3) (HV 3), vB g (hh 4) (aa 4) (HV 4), rB g (q 4) ra u_50, tB g (q 5) sa (fun _ => 0) 0, aR g at_ 54 (rT V), aR g aw 30 (V 9), aR g ar 30 (V 10), aR g ag 30 (V 11), aR g an 5 (V 12)] H locs := hW
                                have hP := hW.1
                                refine b_top (y := rsL V k bs i) ((if_pos hbi).trans ((LK.2.2.2.1 _ _ _ (by omega) (by omega)).trans (by rw [hbs]))) ?_
                                refine lv_iload hx hb dL_areTowns_400 (lv_at hl 14 rfl) ?_
                                refine lv_icmp_ne (tgt := 423) hx hb dL_areTowns_402 (by decide) (fun h_51 => ?_) (fun h_51 => ?_)
                                · exact absurd rfl h_51
                                · refine lv_aload_n hx hb dL_areTowns_405 rfl (lv_at hl 0 rfl) ?_
                                  refine lv_iload hx hb dL_areTowns_406 (lv_at hl 11 rfl) ?_
                                  refine lv_iload hx hb dL_areTowns_408 (lv_at hl 13 rfl) ?_
                                  refine lv_iconst (v := 5) hx hb dL_areTowns_410 (by decide) ?_
                                  refine call_VR (As := [.int (nI k), .int (nI i), .int 5]) (rest := []) E rfl hK hP (c_X4_bell_o l g h q z na V ta TV pa SV hq hh o n aa HV ra u_50 sa (fun _ => 0) 0 (nI k) (nI i) 5 k i ho hn (Nat.zero_le _) (fun _ => ⟨rfl, by omega, rfl, by omega⟩) (Or.inr (by decide))) ok_X4_bell rfl q2_11 [0, 1, 2, 3, 4, 5, 6, 7, 8, 9, 10, 11] rfl (b_recv hK hP 0 0 rfl rfl rfl rfl) ⟨⟨rfl, rfl⟩, Nat.le_of_ble_eq_true rfl, Nat.le_of_ble_eq_true rfl⟩ hl.1 (Nat.le_of_ble_eq_true rfl) ⟨Nat.le_of_ble_eq_true rfl, Nat.le_of_ble_eq_true rfl⟩ rfl dL_areTowns_411 ?_
                                  refine b_top (y := -2) (if_pos hbi) ?_
                                  refine lv_bipush (v := -2) hx hb dL_areTowns_414 (by decide) ?_
                                  refine lv_icmp_ne (tgt := 423) hx hb dL_areTowns_416 (by decide) (fun h_53 => ?_) (fun h_53 => ?_)
                                  · exact absurd rfl h_53
                                  · refine lv_iconst (v := 1) hx hb dL_areTowns_419 (by decide) ?_
                                    refine lv_goto (tgt := 424) hx hb dL_areTowns_420 (by decide) ?_
                                    refine lv_istore (lv' := [(10, .int 1), (0, .ref h), (1, .ref at_), (2, .ref aw), (3, .ref ar), (4, .ref ag), (5, .ref an), (6, .int (sumF (V 3) k)), (7, .int (brI V k (brO V cq k) i)), (8, .int (siL V k)), (9, .int (sumF (V 7) k)), (11, .int (nI k)), (12, .int bs), (13, .int (nI i)), (15, .int (rsL V k bs i))]) hx hb dL_areTowns_424 hl (by decide) rfl (fun ls hl => ?_)
                                    refine lv_iload hx hb dL_areTowns_426 (lv_at hl 8 rfl) ?_
                                    refine lv_aload_n hx hb dL_areTowns_428 rfl (lv_at hl 4 rfl) ?_
                                    refine lv_iconst (v := 5) hx hb dL_areTowns_429 (by decide) ?_
                                    refine lv_iload hx hb dL_areTowns_430 (lv_at hl 11 rfl) ?_
                                    refine lv_imul hx hb dL_areTowns_432 ?_
                                    refine b_top (y := nI (5 * k)) (pk_mul 5 k) ?_
                                    refine lv_iload hx hb dL_areTowns_433 (lv_at hl 13 rfl) ?_
                                    refine lv_iadd hx hb dL_areTowns_435 ?_
                                    refine b_top (y := nI ((5 * k) + i)) (nI_add (5 * k) i) ?_
                                    refine b_iald (v := V 10 (k * 5 + i)) hx hb hK hP 14 0 ((5 * k) + i) rfl rfl rfl (by omega) rfl ((congrArg (V 10) (show (5 * k) + i = k * 5 + i by omega)).trans rfl) dL_areTowns_436 ?_
                                    refine lv_bipush (v := 6) hx hb dL_areTowns_437 (by decide) ?_
                                    refine lv_icmp_ne (tgt := 446) hx hb dL_areTowns_439 (by decide) (fun h_54 => ?_) (fun h_54 => ?_)
                                    · refine lv_iconst (v := 0) hx hb dL_areTowns_446 (by decide) ?_
                                      refine lv_iadd hx hb dL_areTowns_447 ?_
                                      refine lv_istore (lv' := [(7, .int ((brI V k (brO V cq k) i) + 0)), (10, .int 1), (0, .ref h), (1, .ref at_), (2, .ref aw), (3, .ref ar), (4, .ref ag), (5, .ref an), (6, .int (sumF (V 3) k)), (8, .int (siL V k)), (9, .int (sumF (V 7) k)), (11, .int (nI k)), (12, .int bs), (13, .int (nI i)), (15, .int (rsL V k bs i))]) hx hb dL_areTowns_448 hl (by decide) rfl (fun ls hl => ?_)
                                      refine lv_iinc (v := nI (i + 1)) (lv' := [(13, .int (nI (i + 1))), (7, .int ((brI V k (brO V cq k) i) + 0)), (10, .int 1), (0, .ref h), (1, .ref at_), (2, .ref aw), (3, .ref ar), (4, .ref ag), (5, .ref an), (6, .int (sumF (V 3) k)), (8, .int (siL V k)), (9, .int (sumF (V 7) k)), (11, .int (nI k)), (12, .int bs), (15, .int (rsL V k bs i))]) hx hb dL_areTowns_450 hl (k := 13) rfl (nI_add i 1) (by decide) rfl (fun ls hl => ?_)
                                      refine lv_goto (tgt := 179) hx hb dL_areTowns_453 (by decide) ?_
                                      have e_55 : brI V k (brO V cq k) (i + 1) = (brI V k (brO V cq k) i) + 0 := by rw [brI]; first | (rw [if_pos h_54]; done) | (rw [if_neg h_54]; done)
                                      exact ih_i (by omega) (u_50) _ _ _ hW (by rw [e_55]; exact lv_sub hl [3, 4, 5, 6, 7, 8, 9, 1, 10, 11, 2, 12, 13, 0] rfl) 
                                    · refine lv_iconst (v := 1) hx hb dL_areTowns_442 (by decide) ?_
                                      refine lv_goto (tgt := 447) hx hb dL_areTowns_443 (by decide) ?_
                                      refine lv_iadd hx hb dL_areTowns_447 ?_
                                      refine lv_istore (lv' := [(7, .int ((brI V k (brO V cq k) i) + 1)), (10, .int 1), (0, .ref h), (1, .ref at_), (2, .ref aw), (3, .ref ar), (4, .ref ag), (5, .ref an), (6, .int (sumF (V 3) k)), (8, .int (siL V k)), (9, .int (sumF (V 7) k)), (11, .int (nI k)), (12, .int bs), (13, .int (nI i)), (15, .int (rsL V k bs i))]) hx hb dL_areTowns_448 hl (by decide) rfl (fun ls hl => ?_)
                                      refine lv_iinc (v := nI (i + 1)) (lv' := [(13, .int (nI (i + 1))), (7, .int ((brI V k (brO V cq k) i) + 1)), (10, .int 1), (0, .ref h), (1, .ref at_), (2, .ref aw), (3, .ref ar), (4, .ref ag), (5, .ref an), (6, .int (sumF (V 3) k)), (8, .int (siL V k)), (9, .int (sumF (V 7) k)), (11, .int (nI k)), (12, .int bs), (15, .int (rsL V k bs i))]) hx hb dL_areTowns_450 hl (k := 13) rfl (nI_add i 1) (by decide) rfl (fun ls hl => ?_)
                                      refine lv_goto (tgt := 179) hx hb dL_areTowns_453 (by decide) ?_
                                      have e_56 : brI V k (brO V cq k) (i + 1) = (brI V k (brO V cq k) i) + 1 := by rw [brI]; first | (rw [if_pos h_54]; done) | (rw [if_neg h_54]; done)
                                      exact ih_i (by omega) (u_50) _ _ _ hW (by rw [e_56]; exact lv_sub hl [3, 4, 5, 6, 7, 8, 9, 1, 10, 11, 2, 12, 13, 0] rfl) 
                      refine lv_aload hx hb dL_areTowns_198 (lv_at hl 5 rfl) ?_
                      refine lv_iconst (v := 2) hx hb dL_areTowns_200 (by decide) ?_
                      refine b_iald (v := V 12 2) hx hb hK hP 16 0 (2) rfl rfl rfl (by omega) rfl rfl dL_areTowns_201 ?_
                      refine lv_bipush (v := 7) hx hb dL_areTowns_202 (by decide) ?_
                      refine lv_irem hx hb dL_areTowns_204 (by decide) ?_
                      refine lv_aload_n hx hb dL_areTowns_205 rfl (lv_at hl 1 rfl) ?_
                      refine lv_bipush (v := 9) hx hb dL_areTowns_206 (by decide) ?_
                      refine lv_iload hx hb dL_areTowns_208 (lv_at hl 11 rfl) ?_
                      refine lv_imul hx hb dL_areTowns_210 ?_
                      refine b_top (y := nI (9 * k)) (pk_mul 9 k) ?_
                      refine lv_iconst (v := 5) hx hb dL_areTowns_211 (by decide) ?_
                      refine lv_iadd hx hb dL_areTowns_212 ?_
                      refine b_top (y := nI ((9 * k) + 5)) (nI_add (9 * k) 5) ?_
                      refine b_iald (v := V 5 k) hx hb hK hP 12 0 ((9 * k) + 5) rfl rfl rfl (by omega) rfl ((rT_at _ (by omega)).trans rfl) dL_areTowns_213 ?_
                      refine lv_icmp_eq (tgt := 235) hx hb dL_areTowns_214 (by decide) (fun h_57 => ?_) (fun h_57 => ?_)
                      · have hqw : feL V k ∨ bitW (V 4 k) i := Or.inl h_57
                        refine lv_iconst (v := 1) hx hb dL_areTowns_235 (by decide) ?_
                        refine lv_goto (tgt := 240) hx hb dL_areTowns_236 (by decide) ?_
                        refine lv_istore (lv' := [(14, .int 1), (0, .ref h), (1, .ref at_), (2, .ref aw), (3, .ref ar), (4, .ref ag), (5, .ref an), (6, .int (sumF (V 3) k)), (7, .int (brI V k (brO V cq k) i)), (8, .int (siL V k)), (9, .int (sumF (V 7) k)), (10, .int 1), (11, .int (nI k)), (12, .int bs), (13, .int (nI i))]) hx hb dL_areTowns_240 hl (by decide) rfl (fun ls hl => ?_)
                        refine lv_aload_n hx hb dL_areTowns_242 rfl (lv_at hl 2 rfl) ?_
                        refine lv_bipush (v := 9) hx hb dL_areTowns_243 (by decide) ?_
                        refine lv_iload hx hb dL_areTowns_245 (lv_at hl 12 rfl) ?_
                        refine lv_imul hx hb dL_areTowns_247 ?_
                        refine b_top (y := nI (9 * k)) (pk_mul 9 k) ?_
                        refine lv_bipush (v := 6) hx hb dL_areTowns_248 (by decide) ?_
                        refine lv_iadd hx hb dL_areTowns_250 ?_
                        refine b_top (y := nI ((9 * k) + 6)) (nI_add (9 * k) 6) ?_
                        refine b_iald (v := V 6 k) hx hb hK hP 12 0 ((9 * k) + 6) rfl rfl rfl (by omega) rfl ((rT_at _ (by omega)).trans rfl) dL_areTowns_251 ?_
                        refine lv_if_le (tgt := 259) hx hb dL_areTowns_252 (by decide) (fun h_58 => ?_) (fun h_58 => ?_)
                        · have hq6 := h_58
                          refine lv_iload hx hb dL_areTowns_259 (lv_at hl 0 rfl) ?_
                          refine lv_if_ne (tgt := 268) hx hb dL_areTowns_261 (by decide) (fun h_59 => ?_) (fun h_59 => ?_)
                          · refine lv_aload_n hx hb dL_areTowns_268 rfl (lv_at hl 4 rfl) ?_
                            refine lv_iconst (v := 5) hx hb dL_areTowns_269 (by decide) ?_
                            refine lv_iload hx hb dL_areTowns_270 (lv_at hl 12 rfl) ?_
                            refine lv_imul hx hb dL_areTowns_272 ?_
                            refine b_top (y := nI (5 * k)) (pk_mul 5 k) ?_
                            refine lv_iload hx hb dL_areTowns_273 (lv_at hl 14 rfl) ?_
                            refine lv_iadd hx hb dL_areTowns_275 ?_
                            refine b_top (y := nI ((5 * k) + i)) (nI_add (5 * k) i) ?_
                            refine b_iald (v := V 10 (k * 5 + i)) hx hb hK hP 14 0 ((5 * k) + i) rfl rfl rfl (by omega) rfl ((congrArg (V 10) (show (5 * k) + i = k * 5 + i by omega)).trans rfl) dL_areTowns_276 ?_
                            refine lv_iconst (v := 5) hx hb dL_areTowns_277 (by decide) ?_
                            refine lv_icmp_le (tgt := 285) hx hb dL_areTowns_278 (by decide) (fun h_60 => ?_) (fun h_60 => ?_)
                            · have hqr := h_60
                              refine lv_iload hx hb dL_areTowns_285 (lv_at hl 13 rfl) ?_
                              refine lv_iload hx hb dL_areTowns_287 (lv_at hl 14 rfl) ?_
                              refine lv_ishr hx hb dL_areTowns_289 ?_
                              refine lv_iconst (v := 1) hx hb dL_areTowns_290 (by decide) ?_
                              refine lv_iand hx hb dL_areTowns_291 ?_
                              refine lv_if_ne (tgt := 299) hx hb dL_areTowns_292 (by decide) (fun h_61 => ?_) (fun h_61 => ?_)
                              · have hqb := h_61
                                refine lv_iconst (v := 0) hx hb dL_areTowns_299 (by decide) ?_
                                refine b_top (y := rsL V k bs i) (by show 0 = rsL V k bs i; unfold rsL; first | (rw [if_pos hq6]; done) | (rw [if_neg (fun q9 => q9 hq6), if_pos hqw]; done) | (rw [if_neg (fun q9 => q9 hq6), if_neg (fun q9 => q9 hqw), if_pos hqr]; done) | (rw [if_neg (fun q9 => q9 hq6), if_neg (fun q9 => q9 hqw), if_neg (fun q9 => q9 hqr), if_pos hqb]; done) | (rw [if_neg (fun q9 => q9 hq6), if_neg (fun q9 => q9 hqw), if_neg (fun q9 => q9 hqr), if_neg hqb]; done)) ?_
                                refine lv_istore (lv' := [(15, .int (rsL V k bs i)), (14, .int 1), (0, .ref h), (1, .ref at_), (2, .ref aw), (3, .ref ar), (4, .ref ag), (5, .ref an), (6, .int (sumF (V 3) k)), (7, .int (brI V k (brO V cq k) i)), (8, .int (siL V k)), (9, .int (sumF (V 7) k)), (10, .int 1), (11, .int (nI k)), (12, .int bs), (13, .int (nI i))]) hx hb dL_areTowns_300 hl (by decide) rfl (fun ls hl => ?_)
                                exact jn_41 _ (lv_sub hl [2, 3, 4, 5, 6, 7, 8, 9, 10, 11, 12, 13, 14, 15, 0] rfl)
                              · have hqb := h_61
                                refine lv_iconst (v := 4) hx hb dL_areTowns_295 (by decide) ?_
                                refine lv_goto (tgt := 300) hx hb dL_areTowns_296 (by decide) ?_
                                refine b_top (y := rsL V k bs i) (by show 4 = rsL V k bs i; unfold rsL; first | (rw [if_pos hq6]; done) | (rw [if_neg (fun q9 => q9 hq6), if_pos hqw]; done) | (rw [if_neg (fun q9 => q9 hq6), if_neg (fun q9 => q9 hqw), if_pos hqr]; done) | (rw [if_neg (fun q9 => q9 hq6), if_neg (fun q9 => q9 hqw), if_neg (fun q9 => q9 hqr), if_pos hqb]; done) | (rw [if_neg (fun q9 => q9 hq6), if_neg (fun q9 => q9 hqw), if_neg (fun q9 => q9 hqr), if_neg hqb]; done)) ?_
                                refine lv_istore (lv' := [(15, .int (rsL V k bs i)), (14, .int 1), (0, .ref h), (1, .ref at_), (2, .ref aw), (3, .ref ar), (4, .ref ag), (5, .ref an), (6, .int (sumF (V 3) k)), (7, .int (brI V k (brO V cq k) i)), (8, .int (siL V k)), (9, .int (sumF (V 7) k)), (10, .int 1), (11, .int (nI k)), (12, .int bs), (13, .int (nI i))]) hx hb dL_areTowns_300 hl (by decide) rfl (fun ls hl => ?_)
                                exact jn_41 _ (lv_sub hl [2, 3, 4, 5, 6, 7, 8, 9, 10, 11, 12, 13, 14, 15, 0] rfl)
                            · have hqr := h_60
                              refine lv_iconst (v := 3) hx hb dL_areTowns_281 (by decide) ?_
                              refine lv_goto (tgt := 300) hx hb dL_areTowns_282 (by decide) ?_
                              refine b_top (y := rsL V k bs i) (by show 3 = rsL V k bs i; unfold rsL; first | (rw [if_pos hq6]; done) | (rw [if_neg (fun q9 => q9 hq6), if_pos hqw]; done) | (rw [if_neg (fun q9 => q9 hq6), if_neg (fun q9 => q9 hqw), if_pos hqr]; done) | (rw [if_neg (fun q9 => q9 hq6), if_neg (fun q9 => q9 hqw), if_neg (fun q9 => q9 hqr), if_pos hqb]; done) | (rw [if_neg (fun q9 => q9 hq6), if_neg (fun q9 => q9 hqw), if_neg (fun q9 => q9 hqr), if_neg hqb]; done)) ?_
                              refine lv_istore (lv' := [(15, .int (rsL V k bs i)), (14, .int 1), (0, .ref h), (1, .ref at_), (2, .ref aw), (3, .ref ar), (4, .ref ag), (5, .ref an), (6, .int (sumF (V 3) k)), (7, .int (brI V k (brO V cq k) i)), (8, .int (siL V k)), (9, .int (sumF (V 7) k)), (10, .int 1), (11, .int (nI k)), (12, .int bs), (13, .int (nI i))]) hx hb dL_areTowns_300 hl (by decide) rfl (fun ls hl => ?_)
                              exact jn_41 _ (lv_sub hl [2, 3, 4, 5, 6, 7, 8, 9, 10, 11, 12, 13, 14, 15, 0] rfl)
                          · exact absurd h_59 (by decide)
                        · have hq6 := h_58
                          refine lv_iconst (v := 1) hx hb dL_areTowns_255 (by decide) ?_
                          refine lv_goto (tgt := 300) hx hb dL_areTowns_256 (by decide) ?_
                          refine b_top (y := rsL V k bs i) (by show 1 = rsL V k bs i; unfold rsL; first | (rw [if_pos hq6]; done) | (rw [if_neg (fun q9 => q9 hq6), if_pos hqw]; done) | (rw [if_neg (fun q9 => q9 hq6), if_neg (fun q9 => q9 hqw), if_pos hqr]; done) | (rw [if_neg (fun q9 => q9 hq6), if_neg (fun q9 => q9 hqw), if_neg (fun q9 => q9 hqr), if_pos hqb]; done) | (rw [if_neg (fun q9 => q9 hq6), if_neg (fun q9 => q9 hqw), if_neg (fun q9 => q9 hqr), if_neg hqb]; done)) ?_
                          refine lv_istore (lv' := [(15, .int (rsL V k bs i)), (14, .int 1), (0, .ref h), (1, .ref at_), (2, .ref aw), (3, .ref ar), (4, .ref ag), (5, .ref an), (6, .int (sumF (V 3) k)), (7, .int (brI V k (brO V cq k) i)), (8, .int (siL V k)), (9, .int (sumF (V 7) k)), (10, .int 1), (11, .int (nI k)), (12, .int bs), (13, .int (nI i))]) hx hb dL_areTowns_300 hl (by decide) rfl (fun ls hl => ?_)
                          exact jn_41 _ (lv_sub hl [2, 3, 4, 5, 6, 7, 8, 9, 10, 11, 12, 13, 14, 15, 0] rfl)
                      · have hqf := h_57
                        refine lv_aload_n hx hb dL_areTowns_217 rfl (lv_at hl 1 rfl) ?_
                        refine lv_bipush (v := 9) hx hb dL_areTowns_218 (by decide) ?_
                        refine lv_iload hx hb dL_areTowns_220 (lv_at hl 11 rfl) ?_
                        refine lv_imul hx hb dL_areTowns_222 ?_
                        refine b_top (y := nI (9 * k)) (pk_mul 9 k) ?_
                        refine lv_iconst (v := 4) hx hb dL_areTowns_223 (by decide) ?_
                        refine lv_iadd hx hb dL_areTowns_224 ?_
                        refine b_top (y := nI ((9 * k) + 4)) (nI_add (9 * k) 4) ?_
                        refine b_iald (v := V 4 k) hx hb hK hP 12 0 ((9 * k) + 4) rfl rfl rfl (by omega) rfl ((rT_at _ (by omega)).trans rfl) dL_areTowns_225 ?_
                        refine lv_iload hx hb dL_areTowns_226 (lv_at hl 13 rfl) ?_
                        refine lv_ishr hx hb dL_areTowns_228 ?_
                        refine lv_iconst (v := 1) hx hb dL_areTowns_229 (by decide) ?_
                        refine lv_iand hx hb dL_areTowns_230 ?_
                        refine lv_iconst (v := 1) hx hb dL_areTowns_231 (by decide) ?_
                        refine lv_icmp_ne (tgt := 239) hx hb dL_areTowns_232 (by decide) (fun h_62 => ?_) (fun h_62 => ?_)
                        · have hqw : ¬ (feL V k ∨ bitW (V 4 k) i) := fun q9 => q9.elim hqf h_62
                          refine lv_iconst (v := 0) hx hb dL_areTowns_239 (by decide) ?_
                          refine lv_istore (lv' := [(14, .int 0), (0, .ref h), (1, .ref at_), (2, .ref aw), (3, .ref ar), (4, .ref ag), (5, .ref an), (6, .int (sumF (V 3) k)), (7, .int (brI V k (brO V cq k) i)), (8, .int (siL V k)), (9, .int (sumF (V 7) k)), (10, .int 1), (11, .int (nI k)), (12, .int bs), (13, .int (nI i))]) hx hb dL_areTowns_240 hl (by decide) rfl (fun ls hl => ?_)
                          refine lv_aload_n hx hb dL_areTowns_242 rfl (lv_at hl 2 rfl) ?_
                          refine lv_bipush (v := 9) hx hb dL_areTowns_243 (by decide) ?_
                          refine lv_iload hx hb dL_areTowns_245 (lv_at hl 12 rfl) ?_
                          refine lv_imul hx hb dL_areTowns_247 ?_
                          refine b_top (y := nI (9 * k)) (pk_mul 9 k) ?_
                          refine lv_bipush (v := 6) hx hb dL_areTowns_248 (by decide) ?_
                          refine lv_iadd hx hb dL_areTowns_250 ?_
                          refine b_top (y := nI ((9 * k) + 6)) (nI_add (9 * k) 6) ?_
                          refine b_iald (v := V 6 k) hx hb hK hP 12 0 ((9 * k) + 6) rfl rfl rfl (by omega) rfl ((rT_at _ (by omega)).trans rfl) dL_areTowns_251 ?_
                          refine lv_if_le (tgt := 259) hx hb dL_areTowns_252 (by decide) (fun h_63 => ?_) (fun h_63 => ?_)
                          · have hq6 := h_63
                            refine lv_iload hx hb dL_areTowns_259 (lv_at hl 0 rfl) ?_
                            refine lv_if_ne (tgt := 268) hx hb dL_areTowns_261 (by decide) (fun h_64 => ?_) (fun h_64 => ?_)
                            · exact absurd h_64 (by decide)
                            · refine lv_iconst (v := 2) hx hb dL_areTowns_264 (by decide) ?_
                              refine lv_goto (tgt := 300) hx hb dL_areTowns_265 (by decide) ?_
                              refine b_top (y := rsL V k bs i) (by show 2 = rsL V k bs i; unfold rsL; first | (rw [if_pos hq6]; done) | (rw [if_neg (fun q9 => q9 hq6), if_pos hqw]; done) | (rw [if_neg (fun q9 => q9 hq6), if_neg (fun q9 => q9 hqw), if_pos hqr]; done) | (rw [if_neg (fun q9 => q9 hq6), if_neg (fun q9 => q9 hqw), if_neg (fun q9 => q9 hqr), if_pos hqb]; done) | (rw [if_neg (fun q9 => q9 hq6), if_neg (fun q9 => q9 hqw), if_neg (fun q9 => q9 hqr), if_neg hqb]; done)) ?_
                              refine lv_istore (lv' := [(15, .int (rsL V k bs i)), (14, .int 0), (0, .ref h), (1, .ref at_), (2, .ref aw), (3, .ref ar), (4, .ref ag), (5, .ref an), (6, .int (sumF (V 3) k)), (7, .int (brI V k (brO V cq k) i)), (8, .int (siL V k)), (9, .int (sumF (V 7) k)), (10, .int 1), (11, .int (nI k)), (12, .int bs), (13, .int (nI i))]) hx hb dL_areTowns_300 hl (by decide) rfl (fun ls hl => ?_)
                              exact jn_41 _ (lv_sub hl [2, 3, 4, 5, 6, 7, 8, 9, 10, 11, 12, 13, 14, 15, 0] rfl)
                          · have hq6 := h_63
                            refine lv_iconst (v := 1) hx hb dL_areTowns_255 (by decide) ?_
                            refine lv_goto (tgt := 300) hx hb dL_areTowns_256 (by decide) ?_
                            refine b_top (y := rsL V k bs i) (by show 1 = rsL V k bs i; unfold rsL; first | (rw [if_pos hq6]; done) | (rw [if_neg (fun q9 => q9 hq6), if_pos hqw]; done) | (rw [if_neg (fun q9 => q9 hq6), if_neg (fun q9 => q9 hqw), if_pos hqr]; done) | (rw [if_neg (fun q9 => q9 hq6), if_neg (fun q9 => q9 hqw), if_neg (fun q9 => q9 hqr), if_pos hqb]; done) | (rw [if_neg (fun q9 => q9 hq6), if_neg (fun q9 => q9 hqw), if_neg (fun q9 => q9 hqr), if_neg hqb]; done)) ?_
                            refine lv_istore (lv' := [(15, .int (rsL V k bs i)), (14, .int 0), (0, .ref h), (1, .ref at_), (2, .ref aw), (3, .ref ar), (4, .ref ag), (5, .ref an), (6, .int (sumF (V 3) k)), (7, .int (brI V k (brO V cq k) i)), (8, .int (siL V k)), (9, .int (sumF (V 7) k)), (10, .int 1), (11, .int (nI k)), (12, .int bs), (13, .int (nI i))]) hx hb dL_areTowns_300 hl (by decide) rfl (fun ls hl => ?_)
                            exact jn_41 _ (lv_sub hl [2, 3, 4, 5, 6, 7, 8, 9, 10, 11, 12, 13, 14, 15, 0] rfl)
                        · have hqw : feL V k ∨ bitW (V 4 k) i := Or.inr h_62
                          refine lv_iconst (v := 1) hx hb dL_areTowns_235 (by decide) ?_
                          refine lv_goto (tgt := 240) hx hb dL_areTowns_236 (by decide) ?_
                          refine lv_istore (lv' := [(14, .int 1), (0, .ref h), (1, .ref at_), (2, .ref aw), (3, .ref ar), (4, .ref ag), (5, .ref an), (6, .int (sumF (V 3) k)), (7, .int (brI V k (brO V cq k) i)), (8, .int (siL V k)), (9, .int (sumF (V 7) k)), (10, .int 1), (11, .int (nI k)), (12, .int bs), (13, .int (nI i))]) hx hb dL_areTowns_240 hl (by decide) rfl (fun ls hl => ?_)
                          refine lv_aload_n hx hb dL_areTowns_242 rfl (lv_at hl 2 rfl) ?_
                          refine lv_bipush (v := 9) hx hb dL_areTowns_243 (by decide) ?_
                          refine lv_iload hx hb dL_areTowns_245 (lv_at hl 12 rfl) ?_
                          refine lv_imul hx hb dL_areTowns_247 ?_
                          refine b_top (y := nI (9 * k)) (pk_mul 9 k) ?_
                          refine lv_bipush (v := 6) hx hb dL_areTowns_248 (by decide) ?_
                          refine lv_iadd hx hb dL_areTowns_250 ?_
                          refine b_top (y := nI ((9 * k) + 6)) (nI_add (9 * k) 6) ?_
                          refine b_iald (v := V 6 k) hx hb hK hP 12 0 ((9 * k) + 6) rfl rfl rfl (by omega) rfl ((rT_at _ (by omega)).trans rfl) dL_areTowns_251 ?_
                          refine lv_if_le (tgt := 259) hx hb dL_areTowns_252 (by decide) (fun h_65 => ?_) (fun h_65 => ?_)
                          · have hq6 := h_65
                            refine lv_iload hx hb dL_areTowns_259 (lv_at hl 0 rfl) ?_
                            refine lv_if_ne (tgt := 268) hx hb dL_areTowns_261 (by decide) (fun h_66 => ?_) (fun h_66 => ?_)
                            · refine lv_aload_n hx hb dL_areTowns_268 rfl (lv_at hl 4 rfl) ?_
                              refine lv_iconst (v := 5) hx hb dL_areTowns_269 (by decide) ?_
                              refine lv_iload hx hb dL_areTowns_270 (lv_at hl 12 rfl) ?_
                              refine lv_imul hx hb dL_areTowns_272 ?_
                              refine b_top (y := nI (5 * k)) (pk_mul 5 k) ?_
                              refine lv_iload hx hb dL_areTowns_273 (lv_at hl 14 rfl) ?_
                              refine lv_iadd hx hb dL_areTowns_275 ?_
                              refine b_top (y := nI ((5 * k) + i)) (nI_add (5 * k) i) ?_
                              refine b_iald (v := V 10 (k * 5 + i)) hx hb hK hP 14 0 ((5 * k) + i) rfl rfl rfl (by omega) rfl ((congrArg (V 10) (show (5 * k) + i = k * 5 + i by omega)).trans rfl) dL_areTowns_276 ?_
                              refine lv_iconst (v := 5) hx hb dL_areTowns_277 (by decide) ?_
                              refine lv_icmp_le (tgt := 285) hx hb dL_areTowns_278 (by decide) (fun h_67 => ?_) (fun h_67 => ?_)
                              · have hqr := h_67
                                refine lv_iload hx hb dL_areTowns_285 (lv_at hl 13 rfl) ?_
                                refine lv_iload hx hb dL_areTowns_287 (lv_at hl 14 rfl) ?_
                                refine lv_ishr hx hb dL_areTowns_289 ?_
                                refine lv_iconst (v := 1) hx hb dL_areTowns_290 (by decide) ?_
                                refine lv_iand hx hb dL_areTowns_291 ?_
                                refine lv_if_ne (tgt := 299) hx hb dL_areTowns_292 (by decide) (fun h_68 => ?_) (fun h_68 => ?_)
                                · have hqb := h_68
                                  refine lv_iconst (v := 0) hx hb dL_areTowns_299 (by decide) ?_
                                  refine b_top (y := rsL V k bs i) (by show 0 = rsL V k bs i; unfold rsL; first | (rw [if_pos hq6]; done) | (rw [if_neg (fun q9 => q9 hq6), if_pos hqw]; done) | (rw [if_neg (fun q9 => q9 hq6), if_neg (fun q9 => q9 hqw), if_pos hqr]; done) | (rw [if_neg (fun q9 => q9 hq6), if_neg (fun q9 => q9 hqw), if_neg (fun q9 => q9 hqr), if_pos hqb]; done) | (rw [if_neg (fun q9 => q9 hq6), if_neg (fun q9 => q9 hqw), if_neg (fun q9 => q9 hqr), if_neg hqb]; done)) ?_
                                  refine lv_istore (lv' := [(15, .int (rsL V k bs i)), (14, .int 1), (0, .ref h), (1, .ref at_), (2, .ref aw), (3, .ref ar), (4, .ref ag), (5, .ref an), (6, .int (sumF (V 3) k)), (7, .int (brI V k (brO V cq k) i)), (8, .int (siL V k)), (9, .int (sumF (V 7) k)), (10, .int 1), (11, .int (nI k)), (12, .int bs), (13, .int (nI i))]) hx hb dL_areTowns_300 hl (by decide) rfl (fun ls hl => ?_)
                                  exact jn_41 _ (lv_sub hl [2, 3, 4, 5, 6, 7, 8, 9, 10, 11, 12, 13, 14, 15, 0] rfl)
                                · have hqb := h_68
                                  refine lv_iconst (v := 4) hx hb dL_areTowns_295 (by decide) ?_
                                  refine lv_goto (tgt := 300) hx hb dL_areTowns_296 (by decide) ?_
                                  refine b_top (y := rsL V k bs i) (by show 4 = rsL V k bs i; unfold rsL; first | (rw [if_pos hq6]; done) | (rw [if_neg (fun q9 => q9 hq6), if_pos hqw]; done) | (rw [if_neg (fun q9 => q9 hq6), if_neg (fun q9 => q9 hqw), if_pos hqr]; done) | (rw [if_neg (fun q9 => q9 hq6), if_neg (fun q9 => q9 hqw), if_neg (fun q9 => q9 hqr), if_pos hqb]; done) | (rw [if_neg (fun q9 => q9 hq6), if_neg (fun q9 => q9 hqw), if_neg (fun q9 => q9 hqr), if_neg hqb]; done)) ?_
                                  refine lv_istore (lv' := [(15, .int (rsL V k bs i)), (14, .int 1), (0, .ref h), (1, .ref at_), (2, .ref aw), (3, .ref ar), (4, .ref ag), (5, .ref an), (6, .int (sumF (V 3) k)), (7, .int (brI V k (brO V cq k) i)), (8, .int (siL V k)), (9, .int (sumF (V 7) k)), (10, .int 1), (11, .int (nI k)), (12, .int bs), (13, .int (nI i))]) hx hb dL_areTowns_300 hl (by decide) rfl (fun ls hl => ?_)
                                  exact jn_41 _ (lv_sub hl [2, 3, 4, 5, 6, 7, 8, 9, 10, 11, 12, 13, 14, 15, 0] rfl)
                              · have hqr := h_67
                                refine lv_iconst (v := 3) hx hb dL_areTowns_281 (by decide) ?_
                                refine lv_goto (tgt := 300) hx hb dL_areTowns_282 (by decide) ?_
                                refine b_top (y := rsL V k bs i) (by show 3 = rsL V k bs i; unfold rsL; first | (rw [if_pos hq6]; done) | (rw [if_neg (fun q9 => q9 hq6), if_pos hqw]; done) | (rw [if_neg (fun q9 => q9 hq6), if_neg (fun q9 => q9 hqw), if_pos hqr]; done) | (rw [if_neg (fun q9 => q9 hq6), if_neg (fun q9 => q9 hqw), if_neg (fun q9 => q9 hqr), if_pos hqb]; done) | (rw [if_neg (fun q9 => q9 hq6), if_neg (fun q9 => q9 hqw), if_neg (fun q9 => q9 hqr), if_neg hqb]; done)) ?_
                                refine lv_istore (lv' := [(15, .int (rsL V k bs i)), (14, .int 1), (0, .ref h), (1, .ref at_), (2, .ref aw), (3, .ref ar), (4, .ref ag), (5, .ref an), (6, .int (sumF (V 3) k)), (7, .int (brI V k (brO V cq k) i)), (8, .int (siL V k)), (9, .int (sumF (V 7) k)), (10, .int 1), (11, .int (nI k)), (12, .int bs), (13, .int (nI i))]) hx hb dL_areTowns_300 hl (by decide) rfl (fun ls hl => ?_)
                                exact jn_41 _ (lv_sub hl [2, 3, 4, 5, 6, 7, 8, 9, 10, 11, 12, 13, 14, 15, 0] rfl)
                            · exact absurd h_66 (by decide)
                          · have hq6 := h_65
                            refine lv_iconst (v := 1) hx hb dL_areTowns_255 (by decide) ?_
                            refine lv_goto (tgt := 300) hx hb dL_areTowns_256 (by decide) ?_
                            refine b_top (y := rsL V k bs i) (by show 1 = rsL V k bs i; unfold rsL; first | (rw [if_pos hq6]; done) | (rw [if_neg (fun q9 => q9 hq6), if_pos hqw]; done) | (rw [if_neg (fun q9 => q9 hq6), if_neg (fun q9 => q9 hqw), if_pos hqr]; done) | (rw [if_neg (fun q9 => q9 hq6), if_neg (fun q9 => q9 hqw), if_neg (fun q9 => q9 hqr), if_pos hqb]; done) | (rw [if_neg (fun q9 => q9 hq6), if_neg (fun q9 => q9 hqw), if_neg (fun q9 => q9 hqr), if_neg hqb]; done)) ?_
                            refine lv_istore (lv' := [(15, .int (rsL V k bs i)), (14, .int 1), (0, .ref h), (1, .ref at_), (2, .ref aw), (3, .ref ar), (4, .ref ag), (5, .ref an), (6, .int (sumF (V 3) k)), (7, .int (brI V k (brO V cq k) i)), (8, .int (siL V k)), (9, .int (sumF (V 7) k)), (10, .int 1), (11, .int (nI k)), (12, .int bs), (13, .int (nI i))]) hx hb dL_areTowns_300 hl (by decide) rfl (fun ls hl => ?_)
                            exact jn_41 _ (lv_sub hl [2, 3, 4, 5, 6, 7, 8, 9, 10, 11, 12, 13, 14, 15, 0] rfl)
          · refine lv_iload hx hb dL_areTowns_67 (lv_at hl 10 rfl) ?_
            refine lv_if_eq (tgt := 97) hx hb dL_areTowns_69 (by decide) (fun h_69 => ?_) (fun h_69 => ?_)
            · exact absurd h_69 (by decide)
            · refine lv_aload_n hx hb dL_areTowns_72 rfl (lv_at hl 0 rfl) ?_
              refine lv_iload hx hb dL_areTowns_73 (lv_at hl 11 rfl) ?_
              refine lv_iload hx hb dL_areTowns_75 (lv_at hl 12 rfl) ?_
              refine call_VR (As := [.int (nI k), .int (nI w9)]) (rest := []) E rfl hK hP (c_X4_town_i l g h q z na V ta TV pa SV hq hh o n aa HV ra NX sa (fun _ => 0) 0 (nI k) w9 k ho hn (Nat.zero_le _) (fun _ => ⟨rfl, by omega⟩) (by omega)) ok_X4_town rfl q1_194 [0, 1, 2, 3, 4, 5, 6, 7, 8, 9, 10, 11] rfl (b_recv hK hP 0 0 rfl rfl rfl rfl) ⟨⟨rfl, rfl⟩, Nat.le_of_ble_eq_true rfl, Nat.le_of_ble_eq_true rfl⟩ hl.1 (Nat.le_of_ble_eq_true rfl) ⟨Nat.le_of_ble_eq_true rfl, Nat.le_of_ble_eq_true rfl⟩ rfl dL_areTowns_77 ?_
              refine b_top (y := V w9 k) (if_pos (isT_nI (by omega))) ?_
              refine lv_aload_n hx hb dL_areTowns_80 rfl (lv_at hl 1 rfl) ?_
              refine lv_bipush (v := 9) hx hb dL_areTowns_81 (by decide) ?_
              refine lv_iload hx hb dL_areTowns_83 (lv_at hl 11 rfl) ?_
              refine lv_imul hx hb dL_areTowns_85 ?_
              refine b_top (y := nI (9 * k)) (pk_mul 9 k) ?_
              refine lv_iload hx hb dL_areTowns_86 (lv_at hl 12 rfl) ?_
              refine lv_iadd hx hb dL_areTowns_88 ?_
              refine b_top (y := nI ((9 * k) + w9)) (nI_add (9 * k) w9) ?_
              refine b_iald (v := V w9 k) hx hb hK hP 12 0 ((9 * k) + w9) rfl rfl rfl (by omega) rfl ((rT_at _ (by omega)).trans rfl) dL_areTowns_89 ?_
              refine lv_icmp_ne (tgt := 97) hx hb dL_areTowns_90 (by decide) (fun h_70 => ?_) (fun h_70 => ?_)
              · exact absurd rfl h_70
              · refine lv_iconst (v := 1) hx hb dL_areTowns_93 (by decide) ?_
                refine lv_goto (tgt := 98) hx hb dL_areTowns_94 (by decide) ?_
                refine lv_istore (lv' := [(10, .int 1), (0, .ref h), (1, .ref at_), (2, .ref aw), (3, .ref ar), (4, .ref ag), (5, .ref an), (6, .int (sumF (V 3) k)), (7, .int (brO V cq k)), (8, .int (siL V k)), (9, .int (sumF (V 7) k)), (11, .int (nI k)), (12, .int (nI w9))]) hx hb dL_areTowns_98 hl (by decide) rfl (fun ls hl => ?_)
                refine lv_iinc (v := nI (w9 + 1)) (lv' := [(12, .int (nI (w9 + 1))), (10, .int 1), (0, .ref h), (1, .ref at_), (2, .ref aw), (3, .ref ar), (4, .ref ag), (5, .ref an), (6, .int (sumF (V 3) k)), (7, .int (brO V cq k)), (8, .int (siL V k)), (9, .int (sumF (V 7) k)), (11, .int (nI k))]) hx hb dL_areTowns_100 hl (k := 12) rfl (nI_add w9 1) (by decide) rfl (fun ls hl => ?_)
                refine lv_goto (tgt := 60) hx hb dL_areTowns_103 (by decide) ?_
                exact ih_w9 (by omega)  _ _ _ hW (lv_sub hl [2, 3, 4, 5, 6, 7, 8, 9, 10, 11, 1, 12, 0] rfl) 
