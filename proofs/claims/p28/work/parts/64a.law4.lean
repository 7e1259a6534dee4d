set_option maxHeartbeats 4000000 in
set_option maxRecDepth 100000 in
theorem c_L_areHeard (l : Launch) (g : gx) (sz : Nat) (h : Nat) (q : Nat → Nat) (z : Int32) (na : Nat → Nat) (V : sV) (ta : Nat → Nat) (TV : sV) (pa : Nat → Nat) (SV : sV) (hq : Nat) (hh : Nat → Nat) (o n : Nat) (aa : Nat → Nat → Nat) (HV : Nat → sV) (ra : Nat → Nat) (NN : sV) (sa : Nat) (at_ aw ar an : Nat) (cq : Nat → Nat) (hc : ∀ t, t < 6 → V 3 t = nI (cq t) ∧ cq t ≤ 5) (ho : o < 5) (hn : n ≤ 5) (LK : LKn V cq) : cA (S := sV) l g yL_areHeard cL_areHeard 9 (some .boolean) ({ frames := 5, cells := 1, slots := 6, locals := 119 } : Room) [.ref h, .ref at_, .ref aw, .ref ar, .ref an] [bB h q z, vB g (q 0) na V, vB g (q 1) ta TV, vB g (q 2) pa SV, hB g (q 3) hq hh o n, vB g (hh 0) (aa 0) (HV 0), vB g (hh 1) (aa 1) (HV 1), vB g (hh 2) (aa 2) (HV 2), vB g (hh 3) (aa 3) (HV 3), vB g (hh 4) (aa 4) (HV 4), rB g (q 4) ra NN, tB g (q 5) sa (fun _ => 0) 0, aR g at_ 54 (rT V), aR g aw 30 (V 9), aR g ar 30 (V 10), aR g an 5 (V 12)] sz (fun u9 => some (.int (1 : Int32))) (fun u9 => True) (fun u9 => [bB h q z, vB g (q 0) na V, vB g (q 1) ta TV, vB g (q 2) pa SV, hB g (q 3) hq hh o n, vB g (hh 0) (aa 0) (HV 0), vB g (hh 1) (aa 1) (HV 1), vB g (hh 2) (aa 2) (HV 2), vB g (hh 3) (aa 3) (HV 3), vB g (hh 4) (aa 4) (HV 4), rB g (q 4) ra u9, tB g (q 5) sa (fun _ => 0) 0, aR g at_ 54 (rT V), aR g aw 30 (V 9), aR g ar 30 (V 10), aR g an 5 (V 12)]) 1 6 := by
  refine cA.mk (by decide +kernel) (Nat.le_of_ble_eq_true rfl) ?_
  intro p e s m below meth c ls E hK hsz hW hl
  obtain ⟨hx, hb, hr, hml, hts, hown, hlocks, hin⟩ := id E
  have hown : s.vm.findClass RL = some m.cls := hown
  have hKq := hK
  have hK := hKq.1
  have hA : ∀ q9, s.heap.size ≤ q9 → frN [bB h q z, vB g (q 0) na V, vB g (q 1) ta TV, vB g (q 2) pa SV, hB g (q 3) hq hh o n, vB g (hh 0) (aa 0) (HV 0), vB g (hh 1) (aa 1) (HV 1), vB g (hh 2) (aa 2) (HV 2), vB g (hh 3) (aa 3) (HV 3), vB g (hh 4) (aa 4) (HV 4), rB g (q 4) ra NN, tB g (q 5) sa (fun _ => 0) 0, aR g at_ 54 (rT V), aR g aw 30 (V 9), aR g ar 30 (V 10), aR g an 5 (V 12)] sz q9 := fun q9 h9 => Or.inr (by rw [← hsz]; exact h9)
  obtain ⟨H, locs, hH, hlo9⟩ : ∃ (H : Heap) (locs : List Loc), H = s.heap ∧ locs = [] := ⟨_, _, rfl, rfl⟩
  have hW : wd g (frN [bB h q z, vB g (q 0) na V, vB g (q 1) ta TV, vB g (q 2) pa SV, hB g (q 3) hq hh o n, vB g (hh 0) (aa 0) (HV 0), vB g (hh 1) (aa 1) (HV 1), vB g (hh 2) (aa 2) (HV 2), vB g (hh 3) (aa 3) (HV 3), vB g (hh 4) (aa 4) (HV 4), rB g (q 4) ra NN, tB g (q 5) sa (fun _ => 0) 0, aR g at_ 54 (rT V), aR g aw 30 (V 9), aR g ar 30 (V 10), aR g an 5 (V 12)] sz) s.heap [bB h q z, vB g (q 0) na V, vB g (q 1) ta TV, vB g (q 2) pa SV, hB g (q 3) hq hh o n, vB g (hh 0) (aa 0) (HV 0), vB g (hh 1) (aa 1) (HV 1), vB g (hh 2) (aa 2) (HV 2), vB g (hh 3) (aa 3) (HV 3), vB g (hh 4) (aa 4) (HV 4), rB g (q 4) ra NN, tB g (q 5) sa (fun _ => 0) 0, aR g at_ 54 (rT V), aR g aw 30 (V 9), aR g ar 30 (V 10), aR g an 5 (V 12)] H locs := by rw [hH, hlo9]; exact hW
  rw [show W p l e _ s m _ below meth c s.heap [] 0 0 _ (F0 m 0 ls []) = W p l e _ s m _ below meth c H locs 0 0 _ (F0 m 0 ls []) by rw [hH, hlo9]]
  have hP := hW.1
  have hl : lv_has ls 9 [(0, .ref h), (1, .ref at_), (2, .ref aw), (3, .ref ar), (4, .ref an)] := hl
  refine lv_bipush (v := 6) hx hb dL_areHeard_0 (by decide) ?_
  refine b_newB (N := 6) hx hb hts hKq hW hA (by decide) (by decide) (by decide) (Nat.le_of_ble_eq_true rfl) (Nat.le_of_ble_eq_true rfl) dL_areHeard_2 (fun al_1 H hW => ?_)
  have hW : wd g (frN [bB h q z, vB g (q 0) na V, vB g (q 1) ta TV, vB g (q 2) pa SV, hB g (q 3) hq hh o n, vB g (hh 0) (aa 0) (HV 0), vB g (hh 1) (aa 1) (HV 1), vB g (hh 2) (aa 2) (HV 2), vB g (hh 3) (aa 3) (HV 3), vB g (hh 4) (aa 4) (HV 4), rB g (q 4) ra NN, tB g (q 5) sa (fun _ => 0) 0, aR g at_ 54 (rT V), aR g aw 30 (V 9), aR g ar 30 (V 10), aR g an 5 (V 12)] sz) s.heap [bB h q z, vB g (q 0) na V, vB g (q 1) ta TV, vB g (q 2) pa SV, hB g (q 3) hq hh o n, vB g (hh 0) (aa 0) (HV 0), vB g (hh 1) (aa 1) (HV 1), vB g (hh 2) (aa 2) (HV 2), vB g (hh 3) (aa 3) (HV 3), vB g (hh 4) (aa 4) (HV 4), rB g (q 4) ra NN, tB g (q 5) sa (fun _ => 0) 0, aR g at_ 54 (rT V), aR g aw 30 (V 9), aR g ar 30 (V 10), aR g an 5 (V 12), aR g al_1 6 (fun _ => 0)] H locs := hW
  have hP := hW.1
  refine lv_astore (lv' := [(5, .ref al_1), (0, .ref h), (1, .ref at_), (2, .ref aw), (3, .ref ar), (4, .ref an)]) hx hb dL_areHeard_4 hl (by decide) rfl (fun ls hl => ?_)
  refine lv_aload_n hx hb dL_areHeard_6 rfl (lv_at hl 2 rfl) ?_
  refine lv_aload_n hx hb dL_areHeard_7 rfl (lv_at hl 3 rfl) ?_
  refine lv_aload_n hx hb dL_areHeard_8 rfl (lv_at hl 4 rfl) ?_
  refine lv_aload hx hb dL_areHeard_9 (lv_at hl 5 rfl) ?_
  refine lv_aload hx hb dL_areHeard_11 (lv_at hl 0 rfl) ?_
  refine call_SU (As := [.ref at_, .ref aw, .ref ar, .ref an, .ref al_1]) (rest := []) E rfl hK hW (c_L_listens l g at_ aw ar an al_1 V (fun _ => 0) cq hc) ok_L_listens rfl q2_49 [12, 13, 14, 15, 16] rfl (by decide) ⟨⟨rfl, rfl⟩, Nat.le_of_ble_eq_true rfl, Nat.le_of_ble_eq_true rfl⟩ hl.1 (Nat.le_of_ble_eq_true rfl) ⟨Nat.le_of_ble_eq_true rfl, Nat.le_of_ble_eq_true rfl⟩ rfl dL_areHeard_13 (fun _u H locs _ hW => ?_)
  have hW : wd g _ s.heap [bB h q z, vB g (q 0) na V, vB g (q 1) ta TV, vB g (q 2) pa SV, hB g (q 3) hq hh o n, vB g (hh 0) (aa 0) (HV 0), vB g (hh 1) (aa 1) (HV 1), vB g (hh 2) (aa 2) (HV 2), vB g (hh 3) (aa 3) (HV 3), vB g (hh 4) (aa 4) (HV 4), rB g (q 4) ra NN, tB g (q 5) sa (fun _ => 0) 0, aR g at_ 54 (rT V), aR g aw 30 (V 9), aR g ar 30 (V 10), aR g an 5 (V 12), aR g al_1 6 (ldL V cq)] H locs := hW
  have hP := hW.1
  obtain ⟨u, hu⟩ : ∃ z, z = ldL V cq := ⟨_, rfl⟩
  rw [← hu] at hW
  have hP := hW.1
  refine lv_aload_n hx hb dL_areHeard_16 rfl (lv_at hl 1 rfl) ?_
  refine lv_bipush (v := 6) hx hb dL_areHeard_17 (by decide) ?_
  refine lv_iconst (v := 0) hx hb dL_areHeard_19 (by decide) ?_
  refine call_VU (As := [.int 6, .int 0]) (rest := []) E rfl hK hW (c_X4_heard l g h q z na V ta TV pa SV hq hh o n aa HV ra NN sa (fun _ => 0) 0 6 0 0 0 ho hn (Nat.zero_le _) (fun q9 => absurd q9 (by decide)) (fun _ => ⟨rfl, by omega⟩)) ok_X4_heard rfl q2_52 [0, 1, 2, 3, 4, 5, 6, 7, 8, 9, 10, 11] rfl (by decide) (b_recv hK hP 0 0 rfl rfl rfl rfl) ⟨⟨rfl, rfl⟩, Nat.le_of_ble_eq_true rfl, Nat.le_of_ble_eq_true rfl⟩ hl.1 (Nat.le_of_ble_eq_true rfl) ⟨Nat.le_of_ble_eq_true rfl, Nat.le_of_ble_eq_true rfl⟩ rfl dL_areHeard_20 (fun u_2 H locs _ hW => ?_)
  have hW : wd g _ s.heap [bB h q z, vB g (q 0) na V, vB g (q 1) ta TV, vB g (q 2) pa SV, hB g (q 3) hq hh o n, vB g (hh 0) (aa 0) (HV 0), vB g (hh 1) (aa 1) (HV 1), vB g (hh 2) (aa 2) (HV 2), vB g (hh 3) (aa 3) (HV 3), vB g (hh 4) (aa 4) (HV 4), rB g (q 4) ra u_2, tB g (q 5) sa (fun _ => 0) 0, aR g at_ 54 (rT V), aR g aw 30 (V 9), aR g ar 30 (V 10), aR g an 5 (V 12), aR g al_1 6 u] H locs := hW
  have hP := hW.1
  refine b_top (y := -1) (if_neg (fun q9 => absurd q9.1 (by decide))) ?_
  refine lv_iconst (v := -1) hx hb dL_areHeard_23 (by decide) ?_
  refine lv_icmp_ne (tgt := 40) hx hb dL_areHeard_24 (by decide) (fun h_3 => ?_) (fun h_3 => ?_)
  · exact absurd rfl h_3
  · refine lv_aload_n hx hb dL_areHeard_27 rfl (lv_at hl 1 rfl) ?_
    refine lv_iconst (v := -1) hx hb dL_areHeard_28 (by decide) ?_
    refine call_VU (As := [.int (-1)]) (rest := []) E rfl hK hW (c_X4_winner l g h q z na V ta TV pa SV hq hh o n aa HV ra u_2 sa (fun _ => 0) 0 (-1) 0 ho hn (Nat.zero_le _) (fun q9 => absurd q9 (by decide))) ok_X4_winner rfl q2_57 [0, 1, 2, 3, 4, 5, 6, 7, 8, 9, 10, 11] rfl (by decide) (b_recv hK hP 0 0 rfl rfl rfl rfl) ⟨⟨rfl, rfl⟩, Nat.le_of_ble_eq_true rfl, Nat.le_of_ble_eq_true rfl⟩ hl.1 (Nat.le_of_ble_eq_true rfl) ⟨Nat.le_of_ble_eq_true rfl, Nat.le_of_ble_eq_true rfl⟩ rfl dL_areHeard_29 (fun u_4 H locs _ hW => ?_)
    have hW : wd g _ s.heap [bB h q z, vB g (q 0) na V, vB g (q 1) ta TV, vB g (q 2) pa SV, hB g (q 3) hq hh o n, vB g (hh 0) (aa 0) (HV 0), vB g (hh 1) (aa 1) (HV 1), vB g (hh 2) (aa 2) (HV 2), vB g (hh 3) (aa 3) (HV 3), vB g (hh 4) (aa 4) (HV 4), rB g (q 4) ra u_4, tB g (q 5) sa (fun _ => 0) 0, aR g at_ 54 (rT V), aR g aw 30 (V 9), aR g ar 30 (V 10), aR g an 5 (V 12), aR g al_1 6 u] H locs := hW
    have hP := hW.1
    refine b_top (y := -1) (if_neg (fun q9 => absurd q9 (by decide))) ?_
    refine lv_iconst (v := -1) hx hb dL_areHeard_32 (by decide) ?_
    refine lv_icmp_ne (tgt := 40) hx hb dL_areHeard_33 (by decide) (fun h_5 => ?_) (fun h_5 => ?_)
    · exact absurd rfl h_5
    · refine lv_iconst (v := 1) hx hb dL_areHeard_36 (by decide) ?_
      refine lv_goto (tgt := 41) hx hb dL_areHeard_37 (by decide) ?_
      refine lv_istore (lv' := [(6, .int 1), (5, .ref al_1), (0, .ref h), (1, .ref at_), (2, .ref aw), (3, .ref ar), (4, .ref an)]) hx hb dL_areHeard_41 hl (by decide) rfl (fun ls hl => ?_)
      refine lv_iconst (v := 0) hx hb dL_areHeard_43 (by decide) ?_
      refine lv_istore (lv' := [(7, .int 0), (6, .int 1), (5, .ref al_1), (0, .ref h), (1, .ref at_), (2, .ref aw), (3, .ref ar), (4, .ref an)]) hx hb dL_areHeard_44 hl (by decide) rfl (fun ls hl => ?_)
      refine loopN (fun e0 : Nat => ∀ NX : sV, ∀ (H : Heap) (locs : List Loc) (ls : Array Slot), wd g (frN [bB h q z, vB g (q 0) na V, vB g (q 1) ta TV, vB g (q 2) pa SV, hB g (q 3) hq hh o n, vB g (hh 0) (aa 0) (HV 0), vB g (hh 1) (aa 1) (HV 1), vB g (hh 2) (aa 2) (HV 2), vB g (hh 3) (aa 3) (HV 3), vB g (hh 4) (aa 4) (HV 4), rB g (q 4) ra NN, tB g (q 5) sa (fun _ => 0) 0, aR g at_ 54 (rT V), aR g aw 30 (V 9), aR g ar 30 (V 10), aR g an 5 (V 12)] sz) s.heap [bB h q z, vB g (q 0) na V, vB g (q 1) ta TV, vB g (q 2) pa SV, hB g (q 3) hq hh o n, vB g (hh 0) (aa 0) (HV 0), vB g (hh 1) (aa 1) (HV 1), vB g (hh 2) (aa 2) (HV 2), vB g (hh 3) (aa 3) (HV 3), vB g (hh 4) (aa 4) (HV 4), rB g (q 4) ra NX, tB g (q 5) sa (fun _ => 0) 0, aR g at_ 54 (rT V), aR g aw 30 (V 9), aR g ar 30 (V 10), aR g an 5 (V 12), aR g al_1 6 u] H locs → lv_has ls 9 [(0, .ref h), (1, .ref at_), (2, .ref aw), (3, .ref ar), (4, .ref an), (5, .ref al_1), (6, .int 1), (7, .int (nI e0))] → W p l e _ s m _ below meth c H locs (1) (6) _ (F0 m 46 ls [])) (6) (fun e0 hie ih_e0 => ?_) (0) (by omega) (u_4) H locs ls hW (lv_sub hl [3, 4, 5, 6, 7, 2, 1, 0] rfl) 
      intro NX H locs ls hW hl 
      have hP := hW.1
      refine lv_iload hx hb dL_areHeard_46 (lv_at hl 7 rfl) ?_
      refine lv_bipush (v := 6) hx hb dL_areHeard_48 (by decide) ?_
      refine b_ge (tgt := 141) (e0) (6) hx hb rfl rfl (by omega) (by omega) dL_areHeard_50 (by decide) (fun h_6 => ?_) (fun h_6 => ?_)
      · obtain rfl : e0 = 6 := by omega
        refine lv_iload hx hb dL_areHeard_141 (lv_at hl 6 rfl) ?_
        exact aZ_ret (B := [bB h q z, vB g (q 0) na V, vB g (q 1) ta TV, vB g (q 2) pa SV, hB g (q 3) hq hh o n, vB g (hh 0) (aa 0) (HV 0), vB g (hh 1) (aa 1) (HV 1), vB g (hh 2) (aa 2) (HV 2), vB g (hh 3) (aa 3) (HV 3), vB g (hh 4) (aa 4) (HV 4), rB g (q 4) ra NX, tB g (q 5) sa (fun _ => 0) 0, aR g at_ 54 (rT V), aR g aw 30 (V 9), aR g ar 30 (V 10), aR g an 5 (V 12)]) NX [aR g al_1 6 u] hsz hW hx hb hr hlocks dL_areHeard_143 (by rfl) (rfl) trivial (rfl) (adr2 (L := [[h], [q 0, na 0, na 1, na 2, na 3, na 4, na 5, na 6, na 7, na 8, na 9, na 10, na 11], [q 1, ta 0, ta 1, ta 2, ta 3, ta 4, ta 5, ta 6, ta 7, ta 8, ta 9, ta 10, ta 11], [q 2, pa 0, pa 1, pa 2, pa 3, pa 4, pa 5, pa 6, pa 7, pa 8, pa 9, pa 10, pa 11], [q 3, hq], [hh 0, aa 0 0, aa 0 1, aa 0 2, aa 0 3, aa 0 4, aa 0 5, aa 0 6, aa 0 7, aa 0 8, aa 0 9, aa 0 10, aa 0 11], [hh 1, aa 1 0, aa 1 1, aa 1 2, aa 1 3, aa 1 4, aa 1 5, aa 1 6, aa 1 7, aa 1 8, aa 1 9, aa 1 10, aa 1 11], [hh 2, aa 2 0, aa 2 1, aa 2 2, aa 2 3, aa 2 4, aa 2 5, aa 2 6, aa 2 7, aa 2 8, aa 2 9, aa 2 10, aa 2 11], [hh 3, aa 3 0, aa 3 1, aa 3 2, aa 3 3, aa 3 4, aa 3 5, aa 3 6, aa 3 7, aa 3 8, aa 3 9, aa 3 10, aa 3 11], [hh 4, aa 4 0, aa 4 1, aa 4 2, aa 4 3, aa 4 4, aa 4 5, aa 4 6, aa 4 7, aa 4 8, aa 4 9, aa 4 10, aa 4 11], [q 4, ra 0, ra 1, ra 2, ra 3], [q 5, sa], [at_], [aw], [ar], [an]]) rfl rfl)
      · refine lv_iload hx hb dL_areHeard_53 (lv_at hl 6 rfl) ?_
        refine lv_if_eq (tgt := 81) hx hb dL_areHeard_55 (by decide) (fun h_7 => ?_) (fun h_7 => ?_)
        · exact absurd h_7 (by decide)
        · refine lv_aload_n hx hb dL_areHeard_58 rfl (lv_at hl 0 rfl) ?_
          refine lv_iload hx hb dL_areHeard_59 (lv_at hl 7 rfl) ?_
          refine call_VU (As := [.int (nI e0)]) (rest := []) E rfl hK hW (c_X4_winner l g h q z na V ta TV pa SV hq hh o n aa HV ra NX sa (fun _ => 0) 0 (nI e0) e0 ho hn (Nat.zero_le _) (fun _ => ⟨rfl, by omega⟩)) ok_X4_winner rfl q2_57 [0, 1, 2, 3, 4, 5, 6, 7, 8, 9, 10, 11] rfl (by decide) (b_recv hK hP 0 0 rfl rfl rfl rfl) ⟨⟨rfl, rfl⟩, Nat.le_of_ble_eq_true rfl, Nat.le_of_ble_eq_true rfl⟩ hl.1 (Nat.le_of_ble_eq_true rfl) ⟨Nat.le_of_ble_eq_true rfl, Nat.le_of_ble_eq_true rfl⟩ rfl dL_areHeard_61 (fun u_8 H locs _ hW => ?_)
          have hW : wd g _ s.heap [bB h q z, vB g (q 0) na V, vB g (q 1) ta TV, vB g (q 2) pa SV, hB g (q 3) hq hh o n, vB g (hh 0) (aa 0) (HV 0), vB g (hh 1) (aa 1) (HV 1), vB g (hh 2) (aa 2) (HV 2), vB g (hh 3) (aa 3) (HV 3), vB g (hh 4) (aa 4) (HV 4), rB g (q 4) ra u_8, tB g (q 5) sa (fun _ => 0) 0, aR g at_ 54 (rT V), aR g aw 30 (V 9), aR g ar 30 (V 10), aR g an 5 (V 12), aR g al_1 6 u] H locs := hW
          have hP := hW.1
          refine b_top (y := wnL V u e0 6) ((if_pos (isT_nI (by omega))).trans ((LK.1 _ _ (by omega)).trans (by rw [hu]))) ?_
          refine lv_aload_n hx hb dL_areHeard_64 rfl (lv_at hl 1 rfl) ?_
          refine lv_aload hx hb dL_areHeard_65 (lv_at hl 4 rfl) ?_
          refine lv_aload hx hb dL_areHeard_67 (lv_at hl 5 rfl) ?_
          refine lv_iload hx hb dL_areHeard_69 (lv_at hl 7 rfl) ?_
          refine call_SR (As := [.ref at_, .ref an, .ref al_1, .int (nI e0)]) (rest := [.int (wnL V u e0 6)]) E rfl hK hP (c_L_wins l g at_ an al_1 V u e0 (by omega)) ok_L_wins rfl q2_61 [12, 15, 16] rfl ⟨⟨rfl, rfl⟩, Nat.le_of_ble_eq_true rfl, Nat.le_of_ble_eq_true rfl⟩ hl.1 (Nat.le_of_ble_eq_true rfl) ⟨Nat.le_of_ble_eq_true rfl, Nat.le_of_ble_eq_true rfl⟩ rfl dL_areHeard_71 ?_
          refine lv_icmp_ne (tgt := 81) hx hb dL_areHeard_74 (by decide) (fun h_9 => ?_) (fun h_9 => ?_)
          · exact absurd rfl h_9
          · refine lv_iconst (v := 1) hx hb dL_areHeard_77 (by decide) ?_
            refine lv_goto (tgt := 82) hx hb dL_areHeard_78 (by decide) ?_
            refine lv_istore (lv' := [(6, .int 1), (0, .ref h), (1, .ref at_), (2, .ref aw), (3, .ref ar), (4, .ref an), (5, .ref al_1), (7, .int (nI e0))]) hx hb dL_areHeard_82 hl (by decide) rfl (fun ls hl => ?_)
            refine lv_iconst (v := 0) hx hb dL_areHeard_84 (by decide) ?_
            refine lv_istore (lv' := [(8, .int 0), (6, .int 1), (0, .ref h), (1, .ref at_), (2, .ref aw), (3, .ref ar), (4, .ref an), (5, .ref al_1), (7, .int (nI e0))]) hx hb dL_areHeard_85 hl (by decide) rfl (fun ls hl => ?_)
            refine loopN (fun k : Nat => ∀ NY : sV, ∀ (H : Heap) (locs : List Loc) (ls : Array Slot), wd g (frN [bB h q z, vB g (q 0) na V, vB g (q 1) ta TV, vB g (q 2) pa SV, hB g (q 3) hq hh o n, vB g (hh 0) (aa 0) (HV 0), vB g (hh 1) (aa 1) (HV 1), vB g (hh 2) (aa 2) (HV 2), vB g (hh 3) (aa 3) (HV 3), vB g (hh 4) (aa 4) (HV 4), rB g (q 4) ra NN, tB g (q 5) sa (fun _ => 0) 0, aR g at_ 54 (rT V), aR g aw 30 (V 9), aR g ar 30 (V 10), aR g an 5 (V 12)] sz) s.heap [bB h q z, vB g (q 0) na V, vB g (q 1) ta TV, vB g (q 2) pa SV, hB g (q 3) hq hh o n, vB g (hh 0) (aa 0) (HV 0), vB g (hh 1) (aa 1) (HV 1), vB g (hh 2) (aa 2) (HV 2), vB g (hh 3) (aa 3) (HV 3), vB g (hh 4) (aa 4) (HV 4), rB g (q 4) ra NY, tB g (q 5) sa (fun _ => 0) 0, aR g at_ 54 (rT V), aR g aw 30 (V 9), aR g ar 30 (V 10), aR g an 5 (V 12), aR g al_1 6 u] H locs → lv_has ls 9 [(0, .ref h), (1, .ref at_), (2, .ref aw), (3, .ref ar), (4, .ref an), (5, .ref al_1), (6, .int 1), (7, .int (nI e0)), (8, .int (nI k))] → W p l e _ s m _ below meth c H locs (1) (6) _ (F0 m 87 ls [])) (6) (fun k hik ih_k => ?_) (0) (by omega) (u_8) H locs ls hW (lv_sub hl [2, 3, 4, 5, 6, 7, 1, 8, 0] rfl) 
            intro NY H locs ls hW hl 
            have hP := hW.1
            refine lv_iload hx hb dL_areHeard_87 (lv_at hl 8 rfl) ?_
            refine lv_bipush (v := 6) hx hb dL_areHeard_89 (by decide) ?_
            refine b_ge (tgt := 135) (k) (6) hx hb rfl rfl (by omega) (by omega) dL_areHeard_91 (by decide) (fun h_10 => ?_) (fun h_10 => ?_)
            · obtain rfl : k = 6 := by omega
              refine lv_iinc (v := nI (e0 + 1)) (lv' := [(7, .int (nI (e0 + 1))), (0, .ref h), (1, .ref at_), (2, .ref aw), (3, .ref ar), (4, .ref an), (5, .ref al_1), (6, .int 1), (8, .int (nI 6))]) hx hb dL_areHeard_135 hl (k := 7) rfl (nI_add e0 1) (by decide) rfl (fun ls hl => ?_)
              refine lv_goto (tgt := 46) hx hb dL_areHeard_138 (by decide) ?_
              exact ih_e0 (by omega) (NY) _ _ _ hW (lv_sub hl [1, 2, 3, 4, 5, 6, 7, 0] rfl) 
            · refine lv_iload hx hb dL_areHeard_94 (lv_at hl 6 rfl) ?_
              refine lv_if_eq (tgt := 126) hx hb dL_areHeard_96 (by decide) (fun h_11 => ?_) (fun h_11 => ?_)
              · exact absurd h_11 (by decide)
              · refine lv_aload_n hx hb dL_areHeard_99 rfl (lv_at hl 0 rfl) ?_
                refine lv_iload hx hb dL_areHeard_100 (lv_at hl 8 rfl) ?_
                refine lv_iload hx hb dL_areHeard_102 (lv_at hl 7 rfl) ?_
                refine call_VU (As := [.int (nI k), .int (nI e0)]) (rest := []) E rfl hK hW (c_X4_heard l g h q z na V ta TV pa SV hq hh o n aa HV ra NY sa (fun _ => 0) 0 (nI k) (nI e0) k e0 ho hn (Nat.zero_le _) (fun _ => ⟨rfl, by omega⟩) (fun _ => ⟨rfl, by omega⟩)) ok_X4_heard rfl q2_52 [0, 1, 2, 3, 4, 5, 6, 7, 8, 9, 10, 11] rfl (by decide) (b_recv hK hP 0 0 rfl rfl rfl rfl) ⟨⟨rfl, rfl⟩, Nat.le_of_ble_eq_true rfl, Nat.le_of_ble_eq_true rfl⟩ hl.1 (Nat.le_of_ble_eq_true rfl) ⟨Nat.le_of_ble_eq_true rfl, Nat.le_of_ble_eq_true rfl⟩ rfl dL_areHeard_104 (fun u_12 H locs _ hW => ?_)
                have hW : wd g _ s.heap [bB h q z, vB g (q 0) na V, vB g (q 1) ta TV, vB g (q 2) pa SV, hB g (q 3) hq hh o n, vB g (hh 0) (aa 0) (HV 0), vB g (hh 1) (aa 1) (HV 1), vB g (hh 2) (aa 2) (HV 2), vB g (hh 3) (aa 3) (HV 3), vB g (hh 4) (aa 4) (HV 4), rB g (q 4) ra u_12, tB g (q 5) sa (fun _ => 0) 0, aR g at_ 54 (rT V), aR g aw 30 (V 9), aR g ar 30 (V 10), aR g an 5 (V 12), aR g al_1 6 u] H locs := hW
                have hP := hW.1
                refine b_top (y := rcL V u k e0) ((if_pos ⟨isT_nI (by omega), isT_nI (by omega)⟩).trans ((LK.2.1 _ _ _ (by omega) (by omega)).trans (by rw [hu]))) ?_
                refine lv_aload_n hx hb dL_areHeard_107 rfl (lv_at hl 1 rfl) ?_
                refine lv_aload hx hb dL_areHeard_108 (lv_at hl 4 rfl) ?_
                refine lv_aload hx hb dL_areHeard_110 (lv_at hl 5 rfl) ?_
                refine lv_iload hx hb dL_areHeard_112 (lv_at hl 8 rfl) ?_
                refine lv_iload hx hb dL_areHeard_114 (lv_at hl 7 rfl) ?_
                refine call_SR (As := [.ref at_, .ref an, .ref al_1, .int (nI k), .int (nI e0)]) (rest := [.int (rcL V u k e0)]) E rfl hK hP (c_L_reaches l g at_ an al_1 V u k e0 (by omega) (by omega)) ok_L_reaches rfl q2_64 [12, 15, 16] rfl ⟨⟨rfl, rfl⟩, Nat.le_of_ble_eq_true rfl, Nat.le_of_ble_eq_true rfl⟩ hl.1 (Nat.le_of_ble_eq_true rfl) ⟨Nat.le_of_ble_eq_true rfl, Nat.le_of_ble_eq_true rfl⟩ rfl dL_areHeard_116 ?_
                refine lv_icmp_ne (tgt := 126) hx hb dL_areHeard_119 (by decide) (fun h_13 => ?_) (fun h_13 => ?_)
                · exact absurd rfl h_13
                · refine lv_iconst (v := 1) hx hb dL_areHeard_122 (by decide) ?_
                  refine lv_goto (tgt := 127) hx hb dL_areHeard_123 (by decide) ?_
                  refine lv_istore (lv' := [(6, .int 1), (0, .ref h), (1, .ref at_), (2, .ref aw), (3, .ref ar), (4, .ref an), (5, .ref al_1), (7, .int (nI e0)), (8, .int (nI k))]) hx hb dL_areHeard_127 hl (by decide) rfl (fun ls hl => ?_)
                  refine lv_iinc (v := nI (k + 1)) (lv' := [(8, .int (nI (k + 1))), (6, .int 1), (0, .ref h), (1, .ref at_), (2, .ref aw), (3, .ref ar), (4, .ref an), (5, .ref al_1), (7, .int (nI e0))]) hx hb dL_areHeard_129 hl (k := 8) rfl (nI_add k 1) (by decide) rfl (fun ls hl => ?_)
                  refine lv_goto (tgt := 87) hx hb dL_areHeard_132 (by decide) ?_
                  exact ih_k (by omega) (u_12) _ _ _ hW (lv_sub hl [2, 3, 4, 5, 6, 7, 1, 8, 0] rfl) 
