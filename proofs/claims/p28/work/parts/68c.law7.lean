set_option maxHeartbeats 4000000 in
set_option maxRecDepth 100000 in
theorem c_L_bells_2 (l : Launch) (g : gx) (h : Nat) (q : Nat → Nat) (z : Int32) (na : Nat → Nat) (V : sV) (ta : Nat → Nat) (TV : sV) (pa : Nat → Nat) (SV : sV) (hq : Nat) (hh : Nat → Nat) (o n : Nat) (aa : Nat → Nat → Nat) (HV : Nat → sV) (ra : Nat → Nat) (NN : sV) (sa : Nat) (at_ aw ar ag : Nat) (cq : Nat → Nat) (B k : Nat) (x : Int32) (ho : o < 5) (hn : n ≤ 5) (LIh : LI V cq B) (hk : k < 6) : cU (S := sV × (Nat → Nat) × Nat × Nat × (Nat → sV)) l g yL_bells cL_bells 13 (some .boolean) ({ frames := 5, cells := 0, slots := 0, locals := 147 } : Room) [.ref h, .ref at_, .ref aw, .ref ar, .ref ag, .int (nI k), .int 2, .int x] [bB h q z, vB g (q 0) na V, vB g (q 1) ta TV, vB g (q 2) pa SV, hB g (q 3) hq hh o n, vB g (hh 0) (aa 0) (HV 0), vB g (hh 1) (aa 1) (HV 1), vB g (hh 2) (aa 2) (HV 2), vB g (hh 3) (aa 3) (HV 3), vB g (hh 4) (aa 4) (HV 4), rB g (q 4) ra NN, tB g (q 5) sa (fun _ => 0) 0, aR g at_ 54 (rT V), aR g aw 30 (V 9), aR g ar 30 (V 10), aR g ag 30 (V 11)] (fun u9 => some (.int (1 : Int32))) (fun u9 => LI u9.1 u9.2.1 B ∧ u9.2.2.1 < 5 ∧ u9.2.2.2.1 ≤ 5 ∧ ∀ j, u9.1 12 j = V 12 j) (fun u9 => [bB h q z, vB g (q 0) na u9.1, vB g (q 1) ta TV, vB g (q 2) pa SV, hB g (q 3) hq hh u9.2.2.1 u9.2.2.2.1, vB g (hh 0) (aa 0) (u9.2.2.2.2 0), vB g (hh 1) (aa 1) (u9.2.2.2.2 1), vB g (hh 2) (aa 2) (u9.2.2.2.2 2), vB g (hh 3) (aa 3) (u9.2.2.2.2 3), vB g (hh 4) (aa 4) (u9.2.2.2.2 4), rB g (q 4) ra NN, tB g (q 5) sa (fun _ => 0) 0, aR g at_ 54 (rT u9.1), aR g aw 30 (u9.1 9), aR g ar 30 (u9.1 10), aR g ag 30 (u9.1 11)]) := by
  refine cU.mk (by decide +kernel) (Nat.le_of_ble_eq_true rfl) ?_
  intro p e s m below meth c ls E hK hW hl
  obtain ⟨hx, hb, hr, hml, hts, hown, hlocks, hin⟩ := id E
  have hown : s.vm.findClass RL = some m.cls := hown
  have hP := hW.1
  have hl : lv_has ls 13 [(0, .ref h), (1, .ref at_), (2, .ref aw), (3, .ref ar), (4, .ref ag), (5, .int (nI k)), (6, .int 2), (7, .int x)] := hl
  refine lv_aload_n hx hb dL_bells_0 rfl (lv_at hl 1 rfl) ?_
  refine lv_bipush (v := 9) hx hb dL_bells_1 (by decide) ?_
  refine lv_iload hx hb dL_bells_3 (lv_at hl 5 rfl) ?_
  refine lv_imul hx hb dL_bells_5 ?_
  refine b_top (y := nI (9 * k)) (pk_mul 9 k) ?_
  refine lv_iconst (v := 3) hx hb dL_bells_6 (by decide) ?_
  refine lv_iadd hx hb dL_bells_7 ?_
  refine b_top (y := nI ((9 * k) + 3)) (nI_add (9 * k) 3) ?_
  refine b_iald (v := V 3 k) hx hb hK hP 12 0 ((9 * k) + 3) rfl rfl rfl (by omega) rfl ((rT_at _ (by omega)).trans rfl) dL_bells_8 ?_
  refine b_top (y := nI (cq k)) (LIh.cnt k hk).1 ?_
  have hc5 := (LIh.cnt k hk).2
  refine lv_istore (lv' := [(8, .int (nI (cq k))), (0, .ref h), (1, .ref at_), (2, .ref aw), (3, .ref ar), (4, .ref ag), (5, .int (nI k)), (6, .int 2), (7, .int x)]) hx hb dL_bells_9 hl (by decide) rfl (fun ls hl => ?_)
  refine lv_iload hx hb dL_bells_11 (lv_at hl 7 rfl) ?_
  refine lv_if_ne (tgt := 116) hx hb dL_bells_13 (by decide) (fun h_1 => ?_) (fun h_1 => ?_)
  · refine lv_iload hx hb dL_bells_116 (lv_at hl 8 rfl) ?_
    refine lv_iconst (v := 5) hx hb dL_bells_118 (by decide) ?_
    refine call_SR (As := [.int x, .int 5]) (rest := []) E rfl hK hP (c_L_low l g x 5 (by first | omega | assumption) (by first | omega | assumption)) ok_L_low rfl q1_187 [] rfl ⟨⟨rfl, rfl⟩, Nat.le_of_ble_eq_true rfl, Nat.le_of_ble_eq_true rfl⟩ hl.1 (Nat.le_of_ble_eq_true rfl) ⟨Nat.le_of_ble_eq_true rfl, Nat.le_of_ble_eq_true rfl⟩ rfl dL_bells_119 ?_
    obtain ⟨b0, hb0⟩ : ∃ z, z = lowN x 5 := ⟨_, rfl⟩
    have hb05 : b0 < 5 := by rw [hb0]; exact lowN_lt _ (by decide)
    refine b_top (y := nI b0) (by rw [hb0]) ?_
    refine lv_istore (lv' := [(9, .int (nI b0)), (8, .int (nI (cq k))), (0, .ref h), (1, .ref at_), (2, .ref aw), (3, .ref ar), (4, .ref ag), (5, .int (nI k)), (6, .int 2), (7, .int x)]) hx hb dL_bells_122 hl (by decide) rfl (fun ls hl => ?_)
    refine lv_iload hx hb dL_bells_124 (lv_at hl 0 rfl) ?_
    refine lv_iload hx hb dL_bells_126 (lv_at hl 1 rfl) ?_
    refine b_lt (tgt := 161) (b0) ((cq k)) hx hb rfl rfl (by omega) (by omega) dL_bells_128 (by decide) (fun h_2 => ?_) (fun h_2 => ?_)
    · have hib : b0 < cq k := by omega
      refine lv_iload hx hb dL_bells_161 (lv_at hl 8 rfl) ?_
      refine lv_iconst (v := 1) hx hb dL_bells_163 (by decide) ?_
      refine b_ne (tgt := 284) (2) (1) hx hb rfl rfl (by omega) (by omega) dL_bells_164 (by decide) (fun h_3 => ?_) (fun h_3 => ?_)
      · refine lv_aload_n hx hb dL_bells_284 rfl (lv_at hl 4 rfl) ?_
        refine lv_iconst (v := 5) hx hb dL_bells_285 (by decide) ?_
        refine lv_iload hx hb dL_bells_286 (lv_at hl 7 rfl) ?_
        refine lv_imul hx hb dL_bells_288 ?_
        refine b_top (y := nI (5 * k)) (pk_mul 5 k) ?_
        refine lv_iload hx hb dL_bells_289 (lv_at hl 0 rfl) ?_
        refine lv_iadd hx hb dL_bells_291 ?_
        refine b_top (y := nI ((5 * k) + b0)) (nI_add (5 * k) b0) ?_
        refine b_iald (v := V 9 (k * 5 + b0)) hx hb hK hP 13 0 ((5 * k) + b0) rfl rfl rfl (by omega) rfl ((congrArg (V 9) (show (5 * k) + b0 = k * 5 + b0 by omega)).trans rfl) dL_bells_292 ?_
        refine lv_istore (lv' := [(10, .int (V 9 (k * 5 + b0))), (9, .int (nI b0)), (8, .int (nI (cq k))), (0, .ref h), (1, .ref at_), (2, .ref aw), (3, .ref ar), (4, .ref ag), (5, .int (nI k)), (6, .int 2), (7, .int x)]) hx hb dL_bells_293 hl (by decide) rfl (fun ls hl => ?_)
        refine lv_iconst (v := 0) hx hb dL_bells_295 (by decide) ?_
        refine lv_istore (lv' := [(11, .int 0), (10, .int (V 9 (k * 5 + b0))), (9, .int (nI b0)), (8, .int (nI (cq k))), (0, .ref h), (1, .ref at_), (2, .ref aw), (3, .ref ar), (4, .ref ag), (5, .int (nI k)), (6, .int 2), (7, .int x)]) hx hb dL_bells_296 hl (by decide) rfl (fun ls hl => ?_)
        refine lv_iconst (v := 0) hx hb dL_bells_298 (by decide) ?_
        refine lv_istore (lv' := [(12, .int 0), (11, .int 0), (10, .int (V 9 (k * 5 + b0))), (9, .int (nI b0)), (8, .int (nI (cq k))), (0, .ref h), (1, .ref at_), (2, .ref aw), (3, .ref ar), (4, .ref ag), (5, .int (nI k)), (6, .int 2), (7, .int x)]) hx hb dL_bells_299 hl (by decide) rfl (fun ls hl => ?_)
        refine loopN (fun j : Nat => ∀ (H : Heap) (locs : List Loc) (ls : Array Slot), wd g (fun z9 => z9 ∈ adr [bB h q z, vB g (q 0) na V, vB g (q 1) ta TV, vB g (q 2) pa SV, hB g (q 3) hq hh o n, vB g (hh 0) (aa 0) (HV 0), vB g (hh 1) (aa 1) (HV 1), vB g (hh 2) (aa 2) (HV 2), vB g (hh 3) (aa 3) (HV 3), vB g (hh 4) (aa 4) (HV 4), rB g (q 4) ra NN, tB g (q 5) sa (fun _ => 0) 0, aR g at_ 54 (rT V), aR g aw 30 (V 9), aR g ar 30 (V 10), aR g ag 30 (V 11)]) s.heap [bB h q z, vB g (q 0) na V, vB g (q 1) ta TV, vB g (q 2) pa SV, hB g (q 3) hq hh o n, vB g (hh 0) (aa 0) (HV 0), vB g (hh 1) (aa 1) (HV 1), vB g (hh 2) (aa 2) (HV 2), vB g (hh 3) (aa 3) (HV 3), vB g (hh 4) (aa 4) (HV 4), rB g (q 4) ra NN, tB g (q 5) sa (fun _ => 0) 0, aR g at_ 54 (rT V), aR g aw 30 (V 9), aR g ar 30 (V 10), aR g ag 30 (V 11)] H locs → lv_has ls 13 [(0, .ref h), (1, .ref at_), (2, .ref aw), (3, .ref ar), (4, .ref ag), (5, .int (nI k)), (6, .int 2), (7, .int x), (8, .int (nI (cq k))), (9, .int (nI b0)), (10, .int (V 9 (k * 5 + b0))), (11, .int (pnL V k b0 j)), (12, .int (nI j))] → W p l e _ s m _ below meth c H locs 0 0 _ (F0 m 301 ls [])) (cq k) (fun j hij ih_j => ?_) (0) (by omega)  s.heap [] ls hW (lv_sub hl [5, 6, 7, 8, 9, 10, 11, 12, 4, 3, 2, 1, 0] rfl) 
        intro  H locs ls hW hl 
        have hP := hW.1
        refine lv_iload hx hb dL_bells_301 (lv_at hl 12 rfl) ?_
        refine lv_iload hx hb dL_bells_303 (lv_at hl 8 rfl) ?_
        refine b_ge (tgt := 361) (j) ((cq k)) hx hb rfl rfl (by omega) (by omega) dL_bells_305 (by decide) (fun h_4 => ?_) (fun h_4 => ?_)
        · have hje : j = cq k := by omega
          rw [hje] at hl
          refine lv_iload hx hb dL_bells_361 (lv_at hl 9 rfl) ?_
          refine lv_istore (lv' := [(12, .int (nI b0)), (0, .ref h), (1, .ref at_), (2, .ref aw), (3, .ref ar), (4, .ref ag), (5, .int (nI k)), (6, .int 2), (7, .int x), (8, .int (nI (cq k))), (9, .int (nI b0)), (10, .int (V 9 (k * 5 + b0))), (11, .int (pnL V k b0 (cq k)))]) hx hb dL_bells_363 hl (by decide) rfl (fun ls hl => ?_)
          refine loopN (fun m9 : Nat => ∀ (H : Heap) (locs : List Loc) (ls : Array Slot), wd g (fun z9 => z9 ∈ adr [bB h q z, vB g (q 0) na V, vB g (q 1) ta TV, vB g (q 2) pa SV, hB g (q 3) hq hh o n, vB g (hh 0) (aa 0) (HV 0), vB g (hh 1) (aa 1) (HV 1), vB g (hh 2) (aa 2) (HV 2), vB g (hh 3) (aa 3) (HV 3), vB g (hh 4) (aa 4) (HV 4), rB g (q 4) ra NN, tB g (q 5) sa (fun _ => 0) 0, aR g at_ 54 (rT V), aR g aw 30 (V 9), aR g ar 30 (V 10), aR g ag 30 (V 11)]) s.heap [bB h q z, vB g (q 0) na V, vB g (q 1) ta TV, vB g (q 2) pa SV, hB g (q 3) hq hh o n, vB g (hh 0) (aa 0) (HV 0), vB g (hh 1) (aa 1) (HV 1), vB g (hh 2) (aa 2) (HV 2), vB g (hh 3) (aa 3) (HV 3), vB g (hh 4) (aa 4) (HV 4), rB g (q 4) ra NN, tB g (q 5) sa (fun _ => 0) 0, aR g at_ 54 (rT (mlL V k b0 m9)), aR g aw 30 ((mlL V k b0 m9) 9), aR g ar 30 ((mlL V k b0 m9) 10), aR g ag 30 ((mlL V k b0 m9) 11)] H locs → lv_has ls 13 [(0, .ref h), (1, .ref at_), (2, .ref aw), (3, .ref ar), (4, .ref ag), (5, .int (nI k)), (6, .int 2), (7, .int x), (8, .int (nI (cq k))), (9, .int (nI b0)), (10, .int (V 9 (k * 5 + b0))), (11, .int (pnL V k b0 (cq k))), (12, .int (nI (b0 + m9)))] → W p l e _ s m _ below meth c H locs 0 0 _ (F0 m 365 ls [])) (5 - b0) (fun m9 him ih_m9 => ?_) (0) (by omega)  H locs ls hW (lv_sub hl [1, 2, 3, 4, 5, 6, 7, 8, 9, 10, 11, 12, 0] rfl) 
          intro  H locs ls hW hl 
          have hP := hW.1
          refine lv_iload hx hb dL_bells_365 (lv_at hl 12 rfl) ?_
          refine lv_iconst (v := 5) hx hb dL_bells_367 (by decide) ?_
          refine b_ge (tgt := 469) (b0 + m9) (5) hx hb rfl rfl (by omega) (by omega) dL_bells_368 (by decide) (fun h_5 => ?_) (fun h_5 => ?_)
          · have hme : m9 = 5 - b0 := by omega
            rw [hme] at hW
            rw [hme] at hl
            have hP := hW.1
            refine lv_aload_n hx hb dL_bells_469 rfl (lv_at hl 1 rfl) ?_
            refine lv_bipush (v := 9) hx hb dL_bells_470 (by decide) ?_
            refine lv_iload hx hb dL_bells_472 (lv_at hl 5 rfl) ?_
            refine lv_imul hx hb dL_bells_474 ?_
            refine b_top (y := nI (9 * k)) (pk_mul 9 k) ?_
            refine lv_iconst (v := 3) hx hb dL_bells_475 (by decide) ?_
            refine lv_iadd hx hb dL_bells_476 ?_
            refine b_top (y := nI ((9 * k) + 3)) (nI_add (9 * k) 3) ?_
            refine lv_dup2_11 hx hb dL_bells_477 rfl rfl ?_
            refine b_iald (v := (mlL V k b0 (5 - b0)) 3 k) hx hb hK hP 12 0 ((9 * k) + 3) rfl rfl rfl (by omega) rfl ((rT_at _ (by omega)).trans rfl) dL_bells_478 ?_
            refine lv_iconst (v := 1) hx hb dL_bells_479 (by decide) ?_
            refine lv_isub hx hb dL_bells_480 ?_
            refine b_iastE (B' := [bB h q z, vB g (q 0) na V, vB g (q 1) ta TV, vB g (q 2) pa SV, hB g (q 3) hq hh o n, vB g (hh 0) (aa 0) (HV 0), vB g (hh 1) (aa 1) (HV 1), vB g (hh 2) (aa 2) (HV 2), vB g (hh 3) (aa 3) (HV 3), vB g (hh 4) (aa 4) (HV 4), rB g (q 4) ra NN, tB g (q 5) sa (fun _ => 0) 0, aR g at_ 54 (rT (up2 (mlL V k b0 (5 - b0)) 3 k (((mlL V k b0 (5 - b0)) 3 k) - 1))), aR g aw 30 ((up2 (mlL V k b0 (5 - b0)) 3 k (((mlL V k b0 (5 - b0)) 3 k) - 1)) 9), aR g ar 30 ((up2 (mlL V k b0 (5 - b0)) 3 k (((mlL V k b0 (5 - b0)) 3 k) - 1)) 10), aR g ag 30 ((up2 (mlL V k b0 (5 - b0)) 3 k (((mlL V k b0 (5 - b0)) 3 k) - 1)) 11)]) hx hb hK hW 12 0 ((9 * k) + 3) rfl rfl rfl (by omega) rfl (rT_put _ (by omega) _) rfl dL_bells_481 (fun H locs hW => ?_)
            have hP := hW.1
            refine lv_aload_n hx hb dL_bells_482 rfl (lv_at hl 1 rfl) ?_
            refine lv_bipush (v := 9) hx hb dL_bells_483 (by decide) ?_
            refine lv_iload hx hb dL_bells_485 (lv_at hl 5 rfl) ?_
            refine lv_imul hx hb dL_bells_487 ?_
            refine b_top (y := nI (9 * k)) (pk_mul 9 k) ?_
            refine lv_iconst (v := 4) hx hb dL_bells_488 (by decide) ?_
            refine lv_iadd hx hb dL_bells_489 ?_
            refine b_top (y := nI ((9 * k) + 4)) (nI_add (9 * k) 4) ?_
            refine lv_iload hx hb dL_bells_490 (lv_at hl 11 rfl) ?_
            refine b_iastE (B' := [bB h q z, vB g (q 0) na V, vB g (q 1) ta TV, vB g (q 2) pa SV, hB g (q 3) hq hh o n, vB g (hh 0) (aa 0) (HV 0), vB g (hh 1) (aa 1) (HV 1), vB g (hh 2) (aa 2) (HV 2), vB g (hh 3) (aa 3) (HV 3), vB g (hh 4) (aa 4) (HV 4), rB g (q 4) ra NN, tB g (q 5) sa (fun _ => 0) 0, aR g at_ 54 (rT (up2 (up2 (mlL V k b0 (5 - b0)) 3 k (((mlL V k b0 (5 - b0)) 3 k) - 1)) 4 k (pnL V k b0 (cq k)))), aR g aw 30 ((up2 (up2 (mlL V k b0 (5 - b0)) 3 k (((mlL V k b0 (5 - b0)) 3 k) - 1)) 4 k (pnL V k b0 (cq k))) 9), aR g ar 30 ((up2 (up2 (mlL V k b0 (5 - b0)) 3 k (((mlL V k b0 (5 - b0)) 3 k) - 1)) 4 k (pnL V k b0 (cq k))) 10), aR g ag 30 ((up2 (up2 (mlL V k b0 (5 - b0)) 3 k (((mlL V k b0 (5 - b0)) 3 k) - 1)) 4 k (pnL V k b0 (cq k))) 11)]) hx hb hK hW 12 0 ((9 * k) + 4) rfl rfl rfl (by omega) rfl (rT_put _ (by omega) _) rfl dL_bells_492 (fun H locs hW => ?_)
            have hP := hW.1
            refine lv_aload_n hx hb dL_bells_493 rfl (lv_at hl 0 rfl) ?_
            refine lv_iload hx hb dL_bells_494 (lv_at hl 5 rfl) ?_
            refine lv_iload hx hb dL_bells_496 (lv_at hl 9 rfl) ?_
            refine call_VU (As := [.int (nI k), .int (nI b0)]) (rest := []) E rfl hK hW (c_X4_melt l g h q z na V ta TV pa SV hq hh o n aa HV ra NN sa (fun _ => 0) 0 (nI k) (nI b0) k b0 (cq k) ho hn (Nat.zero_le _) (fun _ => ⟨rfl, hk, rfl, hib, LIh.cnt k hk⟩)) ok_X4_melt rfl q2_172 [0, 1, 2, 3, 4, 5, 6, 7, 8, 9, 10, 11] rfl (by decide) (b_recv hK hP 0 0 rfl rfl rfl rfl) ⟨⟨rfl, rfl⟩, Nat.le_of_ble_eq_true rfl, Nat.le_of_ble_eq_true rfl⟩ hl.1 (Nat.le_of_ble_eq_true rfl) ⟨Nat.le_of_ble_eq_true rfl, Nat.le_of_ble_eq_true rfl⟩ rfl dL_bells_498 (fun u_6 H locs hu_6 hW => ?_)
            obtain rfl : u_6 = true := by
              cases u_6 with
              | true => rfl
              | false => exact absurd (meE_yes (hb_yes LIh hk hib)) (show ¬ _ = 0 from hu_6)
            have hW : wd g _ s.heap [bB h q z, vB g (q 0) na (remV V k b0 (cq k)), vB g (q 1) ta TV, vB g (q 2) pa SV, hB g (q 3) hq hh (recO o n) (recS n), vB g (hh 0) (aa 0) (recH o n HV V 0), vB g (hh 1) (aa 1) (recH o n HV V 1), vB g (hh 2) (aa 2) (recH o n HV V 2), vB g (hh 3) (aa 3) (recH o n HV V 3), vB g (hh 4) (aa 4) (recH o n HV V 4), rB g (q 4) ra NN, tB g (q 5) sa (fun _ => 0) 0, aR g at_ 54 (rT (up2 (up2 (mlL V k b0 (5 - b0)) 3 k (((mlL V k b0 (5 - b0)) 3 k) - 1)) 4 k (pnL V k b0 (cq k)))), aR g aw 30 ((up2 (up2 (mlL V k b0 (5 - b0)) 3 k (((mlL V k b0 (5 - b0)) 3 k) - 1)) 4 k (pnL V k b0 (cq k))) 9), aR g ar 30 ((up2 (up2 (mlL V k b0 (5 - b0)) 3 k (((mlL V k b0 (5 - b0)) 3 k) - 1)) 4 k (pnL V k b0 (cq k))) 10), aR g ag 30 ((up2 (up2 (mlL V k b0 (5 - b0)) 3 k (((mlL V k b0 (5 - b0)) 3 k) - 1)) 4 k (pnL V k b0 (cq k))) 11)] H locs := hW
            have hP := hW.1
            refine b_top (y := V 9 (k * 5 + b0)) (cond_true _ _) ?_
            refine lv_iload hx hb dL_bells_501 (lv_at hl 10 rfl) ?_
            refine lv_icmp_ne (tgt := 510) hx hb dL_bells_503 (by decide) (fun h_7 => ?_) (fun h_7 => ?_)
            · exact absurd rfl h_7
            · refine lv_iconst (v := 1) hx hb dL_bells_506 (by decide) ?_
              refine lv_goto (tgt := 511) hx hb dL_bells_507 (by decide) ?_
              exact uZ_ret ((remV V k b0 (cq k)), cqP cq k (cq k - 1), recO o n, recS n, recH o n HV V) hW hx hb hr hlocks dL_bells_511 (by rfl) (rfl) ⟨li_rem LIh hk hib, rec_o ho hn, rec_n hn, rem_12 LIh hk hib⟩ (by rw [rem_law LIh hk hib]) (adr2 (L := [[h], [q 0, na 0, na 1, na 2, na 3, na 4, na 5, na 6, na 7, na 8, na 9, na 10, na 11], [q 1, ta 0, ta 1, ta 2, ta 3, ta 4, ta 5, ta 6, ta 7, ta 8, ta 9, ta 10, ta 11], [q 2, pa 0, pa 1, pa 2, pa 3, pa 4, pa 5, pa 6, pa 7, pa 8, pa 9, pa 10, pa 11], [q 3, hq], [hh 0, aa 0 0, aa 0 1, aa 0 2, aa 0 3, aa 0 4, aa 0 5, aa 0 6, aa 0 7, aa 0 8, aa 0 9, aa 0 10, aa 0 11], [hh 1, aa 1 0, aa 1 1, aa 1 2, aa 1 3, aa 1 4, aa 1 5, aa 1 6, aa 1 7, aa 1 8, aa 1 9, aa 1 10, aa 1 11], [hh 2, aa 2 0, aa 2 1, aa 2 2, aa 2 3, aa 2 4, aa 2 5, aa 2 6, aa 2 7, aa 2 8, aa 2 9, aa 2 10, aa 2 11], [hh 3, aa 3 0, aa 3 1, aa 3 2, aa 3 3, aa 3 4, aa 3 5, aa 3 6, aa 3 7, aa 3 8, aa 3 9, aa 3 10, aa 3 11], [hh 4, aa 4 0, aa 4 1, aa 4 2, aa 4 3, aa 4 4, aa 4 5, aa 4 6, aa 4 7, aa 4 8, aa 4 9, aa 4 10, aa 4 11], [q 4, ra 0, ra 1, ra 2, ra 3], [q 5, sa], [at_], [aw], [ar], [ag]]) rfl rfl)
          · refine lv_aload_n hx hb dL_bells_371 rfl (lv_at hl 2 rfl) ?_
            refine lv_iconst (v := 5) hx hb dL_bells_372 (by decide) ?_
            refine lv_iload hx hb dL_bells_373 (lv_at hl 5 rfl) ?_
            refine lv_imul hx hb dL_bells_375 ?_
            refine b_top (y := nI (5 * k)) (pk_mul 5 k) ?_
            refine lv_iload hx hb dL_bells_376 (lv_at hl 12 rfl) ?_
            refine lv_iadd hx hb dL_bells_378 ?_
            refine b_top (y := nI ((5 * k) + (b0 + m9))) (nI_add (5 * k) (b0 + m9)) ?_
            refine lv_iload hx hb dL_bells_379 (lv_at hl 12 rfl) ?_
            refine lv_iconst (v := 4) hx hb dL_bells_381 (by decide) ?_
            refine b_ge (tgt := 399) (b0 + m9) (4) hx hb rfl rfl (by omega) (by omega) dL_bells_382 (by decide) (fun h_8 => ?_) (fun h_8 => ?_)
            · have hj4 : ¬ b0 + m9 < 4 := by omega
              refine lv_iconst (v := 0) hx hb dL_bells_399 (by decide) ?_
              refine b_iastE (B' := [bB h q z, vB g (q 0) na V, vB g (q 1) ta TV, vB g (q 2) pa SV, hB g (q 3) hq hh o n, vB g (hh 0) (aa 0) (HV 0), vB g (hh 1) (aa 1) (HV 1), vB g (hh 2) (aa 2) (HV 2), vB g (hh 3) (aa 3) (HV 3), vB g (hh 4) (aa 4) (HV 4), rB g (q 4) ra NN, tB g (q 5) sa (fun _ => 0) 0, aR g at_ 54 (rT (up2 (mlL V k b0 m9) 9 (k * 5 + (b0 + m9)) 0)), aR g aw 30 ((up2 (mlL V k b0 m9) 9 (k * 5 + (b0 + m9)) 0) 9), aR g ar 30 ((up2 (mlL V k b0 m9) 9 (k * 5 + (b0 + m9)) 0) 10), aR g ag 30 ((up2 (mlL V k b0 m9) 9 (k * 5 + (b0 + m9)) 0) 11)]) hx hb hK hW 13 0 ((5 * k) + (b0 + m9)) rfl rfl rfl (by omega) rfl (r5_put _ _ _ _ _) (by rw [show rT (up2 (mlL V k b0 m9) 9 (k * 5 + (b0 + m9)) 0) = rT (mlL V k b0 m9) from rT_ge (by decide)]; rfl) dL_bells_400 (fun H locs hW => ?_)
              have hP := hW.1
              refine lv_aload_n hx hb dL_bells_401 rfl (lv_at hl 3 rfl) ?_
              refine lv_iconst (v := 5) hx hb dL_bells_402 (by decide) ?_
              refine lv_iload hx hb dL_bells_403 (lv_at hl 5 rfl) ?_
              refine lv_imul hx hb dL_bells_405 ?_
              refine b_top (y := nI (5 * k)) (pk_mul 5 k) ?_
              refine lv_iload hx hb dL_bells_406 (lv_at hl 12 rfl) ?_
              refine lv_iadd hx hb dL_bells_408 ?_
              refine b_top (y := nI ((5 * k) + (b0 + m9))) (nI_add (5 * k) (b0 + m9)) ?_
              refine lv_iload hx hb dL_bells_409 (lv_at hl 12 rfl) ?_
              refine lv_iconst (v := 4) hx hb dL_bells_411 (by decide) ?_
              refine b_ge (tgt := 429) (b0 + m9) (4) hx hb rfl rfl (by omega) (by omega) dL_bells_412 (by decide) (fun h_9 => ?_) (fun h_9 => ?_)
              · refine lv_iconst (v := 0) hx hb dL_bells_429 (by decide) ?_
                refine b_iastE (B' := [bB h q z, vB g (q 0) na V, vB g (q 1) ta TV, vB g (q 2) pa SV, hB g (q 3) hq hh o n, vB g (hh 0) (aa 0) (HV 0), vB g (hh 1) (aa 1) (HV 1), vB g (hh 2) (aa 2) (HV 2), vB g (hh 3) (aa 3) (HV 3), vB g (hh 4) (aa 4) (HV 4), rB g (q 4) ra NN, tB g (q 5) sa (fun _ => 0) 0, aR g at_ 54 (rT (up2 (up2 (mlL V k b0 m9) 9 (k * 5 + (b0 + m9)) 0) 10 (k * 5 + (b0 + m9)) 0)), aR g aw 30 ((up2 (up2 (mlL V k b0 m9) 9 (k * 5 + (b0 + m9)) 0) 10 (k * 5 + (b0 + m9)) 0) 9), aR g ar 30 ((up2 (up2 (mlL V k b0 m9) 9 (k * 5 + (b0 + m9)) 0) 10 (k * 5 + (b0 + m9)) 0) 10), aR g ag 30 ((up2 (up2 (mlL V k b0 m9) 9 (k * 5 + (b0 + m9)) 0) 10 (k * 5 + (b0 + m9)) 0) 11)]) hx hb hK hW 14 0 ((5 * k) + (b0 + m9)) rfl rfl rfl (by omega) rfl (r5_put _ _ _ _ _) (by rw [show rT (up2 (up2 (mlL V k b0 m9) 9 (k * 5 + (b0 + m9)) 0) 10 (k * 5 + (b0 + m9)) 0) = rT (up2 (mlL V k b0 m9) 9 (k * 5 + (b0 + m9)) 0) from rT_ge (by decide)]; rfl) dL_bells_430 (fun H locs hW => ?_)
                have hP := hW.1
                refine lv_aload hx hb dL_bells_431 (lv_at hl 4 rfl) ?_
                refine lv_iconst (v := 5) hx hb dL_bells_433 (by decide) ?_
                refine lv_iload hx hb dL_bells_434 (lv_at hl 5 rfl) ?_
                refine lv_imul hx hb dL_bells_436 ?_
                refine b_top (y := nI (5 * k)) (pk_mul 5 k) ?_
                refine lv_iload hx hb dL_bells_437 (lv_at hl 12 rfl) ?_
                refine lv_iadd hx hb dL_bells_439 ?_
                refine b_top (y := nI ((5 * k) + (b0 + m9))) (nI_add (5 * k) (b0 + m9)) ?_
                refine lv_iload hx hb dL_bells_440 (lv_at hl 12 rfl) ?_
                refine lv_iconst (v := 4) hx hb dL_bells_442 (by decide) ?_
                refine b_ge (tgt := 461) (b0 + m9) (4) hx hb rfl rfl (by omega) (by omega) dL_bells_443 (by decide) (fun h_10 => ?_) (fun h_10 => ?_)
                · refine lv_iconst (v := 0) hx hb dL_bells_461 (by decide) ?_
                  refine b_iastE (B' := [bB h q z, vB g (q 0) na V, vB g (q 1) ta TV, vB g (q 2) pa SV, hB g (q 3) hq hh o n, vB g (hh 0) (aa 0) (HV 0), vB g (hh 1) (aa 1) (HV 1), vB g (hh 2) (aa 2) (HV 2), vB g (hh 3) (aa 3) (HV 3), vB g (hh 4) (aa 4) (HV 4), rB g (q 4) ra NN, tB g (q 5) sa (fun _ => 0) 0, aR g at_ 54 (rT (up2 (up2 (up2 (mlL V k b0 m9) 9 (k * 5 + (b0 + m9)) 0) 10 (k * 5 + (b0 + m9)) 0) 11 (k * 5 + (b0 + m9)) 0)), aR g aw 30 ((up2 (up2 (up2 (mlL V k b0 m9) 9 (k * 5 + (b0 + m9)) 0) 10 (k * 5 + (b0 + m9)) 0) 11 (k * 5 + (b0 + m9)) 0) 9), aR g ar 30 ((up2 (up2 (up2 (mlL V k b0 m9) 9 (k * 5 + (b0 + m9)) 0) 10 (k * 5 + (b0 + m9)) 0) 11 (k * 5 + (b0 + m9)) 0) 10), aR g ag 30 ((up2 (up2 (up2 (mlL V k b0 m9) 9 (k * 5 + (b0 + m9)) 0) 10 (k * 5 + (b0 + m9)) 0) 11 (k * 5 + (b0 + m9)) 0) 11)]) hx hb hK hW 15 0 ((5 * k) + (b0 + m9)) rfl rfl rfl (by omega) rfl (r5_put _ _ _ _ _) (by rw [show rT (up2 (up2 (up2 (mlL V k b0 m9) 9 (k * 5 + (b0 + m9)) 0) 10 (k * 5 + (b0 + m9)) 0) 11 (k * 5 + (b0 + m9)) 0) = rT (up2 (up2 (mlL V k b0 m9) 9 (k * 5 + (b0 + m9)) 0) 10 (k * 5 + (b0 + m9)) 0) from rT_ge (by decide)]; rfl) dL_bells_462 (fun H locs hW => ?_)
                  have hP := hW.1
                  refine lv_iinc (v := nI (b0 + m9 + 1)) (lv' := [(12, .int (nI (b0 + m9 + 1))), (0, .ref h), (1, .ref at_), (2, .ref aw), (3, .ref ar), (4, .ref ag), (5, .int (nI k)), (6, .int 2), (7, .int x), (8, .int (nI (cq k))), (9, .int (nI b0)), (10, .int (V 9 (k * 5 + b0))), (11, .int (pnL V k b0 (cq k)))]) hx hb dL_bells_463 hl (k := 12) rfl (nI_add (b0 + m9) 1) (by decide) rfl (fun ls hl => ?_)
                  refine lv_goto (tgt := 365) hx hb dL_bells_466 (by decide) ?_
                  have e_11 : ([bB h q z, vB g (q 0) na V, vB g (q 1) ta TV, vB g (q 2) pa SV, hB g (q 3) hq hh o n, vB g (hh 0) (aa 0) (HV 0), vB g (hh 1) (aa 1) (HV 1), vB g (hh 2) (aa 2) (HV 2), vB g (hh 3) (aa 3) (HV 3), vB g (hh 4) (aa 4) (HV 4), rB g (q 4) ra NN, tB g (q 5) sa (fun _ => 0) 0, aR g at_ 54 (rT (mlL V k b0 (m9 + 1))), aR g aw 30 ((mlL V k b0 (m9 + 1)) 9), aR g ar 30 ((mlL V k b0 (m9 + 1)) 10), aR g ag 30 ((mlL V k b0 (m9 + 1)) 11)] : List va_W) = [bB h q z, vB g (q 0) na V, vB g (q 1) ta TV, vB g (q 2) pa SV, hB g (q 3) hq hh o n, vB g (hh 0) (aa 0) (HV 0), vB g (hh 1) (aa 1) (HV 1), vB g (hh 2) (aa 2) (HV 2), vB g (hh 3) (aa 3) (HV 3), vB g (hh 4) (aa 4) (HV 4), rB g (q 4) ra NN, tB g (q 5) sa (fun _ => 0) 0, aR g at_ 54 (rT (up2 (up2 (up2 (mlL V k b0 m9) 9 (k * 5 + (b0 + m9)) 0) 10 (k * 5 + (b0 + m9)) 0) 11 (k * 5 + (b0 + m9)) 0)), aR g aw 30 ((up2 (up2 (up2 (mlL V k b0 m9) 9 (k * 5 + (b0 + m9)) 0) 10 (k * 5 + (b0 + m9)) 0) 11 (k * 5 + (b0 + m9)) 0) 9), aR g ar 30 ((up2 (up2 (up2 (mlL V k b0 m9) 9 (k * 5 + (b0 + m9)) 0) 10 (k * 5 + (b0 + m9)) 0) 11 (k * 5 + (b0 + m9)) 0) 10), aR g ag 30 ((up2 (up2 (up2 (mlL V k b0 m9) 9 (k * 5 + (b0 + m9)) 0) 10 (k * 5 + (b0 + m9)) 0) 11 (k * 5 + (b0 + m9)) 0) 11)] := by rw [mlL]; first | (rw [if_pos hj4]; done) | (rw [if_neg hj4]; done)
                  exact ih_m9 (by omega)  _ _ _ (by rw [e_11]; exact hW) (lv_sub hl [1, 2, 3, 4, 5, 6, 7, 8, 9, 10, 11, 12, 0] rfl) 
                · exact absurd h_10 (by omega)
              · exact absurd h_9 (by omega)
            · have hj4 : b0 + m9 < 4 := by omega
              refine lv_aload_n hx hb dL_bells_385 rfl (lv_at hl 2 rfl) ?_
              refine lv_iconst (v := 5) hx hb dL_bells_386 (by decide) ?_
              refine lv_iload hx hb dL_bells_387 (lv_at hl 5 rfl) ?_
              refine lv_imul hx hb dL_bells_389 ?_
              refine b_top (y := nI (5 * k)) (pk_mul 5 k) ?_
              refine lv_iload hx hb dL_bells_390 (lv_at hl 12 rfl) ?_
              refine lv_iadd hx hb dL_bells_392 ?_
              refine b_top (y := nI ((5 * k) + (b0 + m9))) (nI_add (5 * k) (b0 + m9)) ?_
              refine lv_iconst (v := 1) hx hb dL_bells_393 (by decide) ?_
              refine lv_iadd hx hb dL_bells_394 ?_
              refine b_top (y := nI (((5 * k) + (b0 + m9)) + 1)) (nI_add ((5 * k) + (b0 + m9)) 1) ?_
              refine b_iald (v := (mlL V k b0 m9) 9 (k * 5 + ((b0 + m9) + 1))) hx hb hK hP 13 0 (((5 * k) + (b0 + m9)) + 1) rfl rfl rfl (by omega) rfl ((congrArg ((mlL V k b0 m9) 9) (show ((5 * k) + (b0 + m9)) + 1 = k * 5 + ((b0 + m9) + 1) by omega)).trans rfl) dL_bells_395 ?_
              refine lv_goto (tgt := 400) hx hb dL_bells_396 (by decide) ?_
              refine b_iastE (B' := [bB h q z, vB g (q 0) na V, vB g (q 1) ta TV, vB g (q 2) pa SV, hB g (q 3) hq hh o n, vB g (hh 0) (aa 0) (HV 0), vB g (hh 1) (aa 1) (HV 1), vB g (hh 2) (aa 2) (HV 2), vB g (hh 3) (aa 3) (HV 3), vB g (hh 4) (aa 4) (HV 4), rB g (q 4) ra NN, tB g (q 5) sa (fun _ => 0) 0, aR g at_ 54 (rT (up2 (mlL V k b0 m9) 9 (k * 5 + (b0 + m9)) ((mlL V k b0 m9) 9 (k * 5 + ((b0 + m9) + 1))))), aR g aw 30 ((up2 (mlL V k b0 m9) 9 (k * 5 + (b0 + m9)) ((mlL V k b0 m9) 9 (k * 5 + ((b0 + m9) + 1)))) 9), aR g ar 30 ((up2 (mlL V k b0 m9) 9 (k * 5 + (b0 + m9)) ((mlL V k b0 m9) 9 (k * 5 + ((b0 + m9) + 1)))) 10), aR g ag 30 ((up2 (mlL V k b0 m9) 9 (k * 5 + (b0 + m9)) ((mlL V k b0 m9) 9 (k * 5 + ((b0 + m9) + 1)))) 11)]) hx hb hK hW 13 0 ((5 * k) + (b0 + m9)) rfl rfl rfl (by omega) rfl (r5_put _ _ _ _ _) (by rw [show rT (up2 (mlL V k b0 m9) 9 (k * 5 + (b0 + m9)) ((mlL V k b0 m9) 9 (k * 5 + ((b0 + m9) + 1)))) = rT (mlL V k b0 m9) from rT_ge (by decide)]; rfl) dL_bells_400 (fun H locs hW => ?_)
              have hP := hW.1
              refine lv_aload_n hx hb dL_bells_401 rfl (lv_at hl 3 rfl) ?_
              refine lv_iconst (v := 5) hx hb dL_bells_402 (by decide) ?_
              refine lv_iload hx hb dL_bells_403 (lv_at hl 5 rfl) ?_
              refine lv_imul hx hb dL_bells_405 ?_
              refine b_top (y := nI (5 * k)) (pk_mul 5 k) ?_
              refine lv_iload hx hb dL_bells_406 (lv_at hl 12 rfl) ?_
              refine lv_iadd hx hb dL_bells_408 ?_
              refine b_top (y := nI ((5 * k) + (b0 + m9))) (nI_add (5 * k) (b0 + m9)) ?_
              refine lv_iload hx hb dL_bells_409 (lv_at hl 12 rfl) ?_
              refine lv_iconst (v := 4) hx hb dL_bells_411 (by decide) ?_
              refine b_ge (tgt := 429) (b0 + m9) (4) hx hb rfl rfl (by omega) (by omega) dL_bells_412 (by decide) (fun h_12 => ?_) (fun h_12 => ?_)
              · exact absurd h_12 (by omega)
              · refine lv_aload_n hx hb dL_bells_415 rfl (lv_at hl 3 rfl) ?_
                refine lv_iconst (v := 5) hx hb dL_bells_416 (by decide) ?_
                refine lv_iload hx hb dL_bells_417 (lv_at hl 5 rfl) ?_
                refine lv_imul hx hb dL_bells_419 ?_
                refine b_top (y := nI (5 * k)) (pk_mul 5 k) ?_
                refine lv_iload hx hb dL_bells_420 (lv_at hl 12 rfl) ?_
                refine lv_iadd hx hb dL_bells_422 ?_
                refine b_top (y := nI ((5 * k) + (b0 + m9))) (nI_add (5 * k) (b0 + m9)) ?_
                refine lv_iconst (v := 1) hx hb dL_bells_423 (by decide) ?_
                refine lv_iadd hx hb dL_bells_424 ?_
                refine b_top (y := nI (((5 * k) + (b0 + m9)) + 1)) (nI_add ((5 * k) + (b0 + m9)) 1) ?_
                refine b_iald (v := (mlL V k b0 m9) 10 (k * 5 + ((b0 + m9) + 1))) hx hb hK hP 14 0 (((5 * k) + (b0 + m9)) + 1) rfl rfl rfl (by omega) rfl ((congrArg ((up2 (mlL V k b0 m9) 9 (k * 5 + (b0 + m9)) ((mlL V k b0 m9) 9 (k * 5 + ((b0 + m9) + 1)))) 10) (show ((5 * k) + (b0 + m9)) + 1 = k * 5 + ((b0 + m9) + 1) by omega)).trans rfl) dL_bells_425 ?_
                refine lv_goto (tgt := 430) hx hb dL_bells_426 (by decide) ?_
                refine b_iastE (B' := [bB h q z, vB g (q 0) na V, vB g (q 1) ta TV, vB g (q 2) pa SV, hB g (q 3) hq hh o n, vB g (hh 0) (aa 0) (HV 0), vB g (hh 1) (aa 1) (HV 1), vB g (hh 2) (aa 2) (HV 2), vB g (hh 3) (aa 3) (HV 3), vB g (hh 4) (aa 4) (HV 4), rB g (q 4) ra NN, tB g (q 5) sa (fun _ => 0) 0, aR g at_ 54 (rT (up2 (up2 (mlL V k b0 m9) 9 (k * 5 + (b0 + m9)) ((mlL V k b0 m9) 9 (k * 5 + ((b0 + m9) + 1)))) 10 (k * 5 + (b0 + m9)) ((mlL V k b0 m9) 10 (k * 5 + ((b0 + m9) + 1))))), aR g aw 30 ((up2 (up2 (mlL V k b0 m9) 9 (k * 5 + (b0 + m9)) ((mlL V k b0 m9) 9 (k * 5 + ((b0 + m9) + 1)))) 10 (k * 5 + (b0 + m9)) ((mlL V k b0 m9) 10 (k * 5 + ((b0 + m9) + 1)))) 9), aR g ar 30 ((up2 (up2 (mlL V k b0 m9) 9 (k * 5 + (b0 + m9)) ((mlL V k b0 m9) 9 (k * 5 + ((b0 + m9) + 1)))) 10 (k * 5 + (b0 + m9)) ((mlL V k b0 m9) 10 (k * 5 + ((b0 + m9) + 1)))) 10), aR g ag 30 ((up2 (up2 (mlL V k b0 m9) 9 (k * 5 + (b0 + m9)) ((mlL V k b0 m9) 9 (k * 5 + ((b0 + m9) + 1)))) 10 (k * 5 + (b0 + m9)) ((mlL V k b0 m9) 10 (k * 5 + ((b0 + m9) + 1)))) 11)]) hx hb hK hW 14 0 ((5 * k) + (b0 + m9)) rfl rfl rfl (by omega) rfl (r5_put _ _ _ _ _) (by rw [show rT (up2 (up2 (mlL V k b0 m9) 9 (k * 5 + (b0 + m9)) ((mlL V k b0 m9) 9 (k * 5 + ((b0 + m9) + 1)))) 10 (k * 5 + (b0 + m9)) ((mlL V k b0 m9) 10 (k * 5 + ((b0 + m9) + 1)))) = rT (up2 (mlL V k b0 m9) 9 (k * 5 + (b0 + m9)) ((mlL V k b0 m9) 9 (k * 5 + ((b0 + m9) + 1)))) from rT_ge (by decide)]; rfl) dL_bells_430 (fun H locs hW => ?_)
                have hP := hW.1
                refine lv_aload hx hb dL_bells_431 (lv_at hl 4 rfl) ?_
                refine lv_iconst (v := 5) hx hb dL_bells_433 (by decide) ?_
                refine lv_iload hx hb dL_bells_434 (lv_at hl 5 rfl) ?_
                refine lv_imul hx hb dL_bells_436 ?_
                refine b_top (y := nI (5 * k)) (pk_mul 5 k) ?_
                refine lv_iload hx hb dL_bells_437 (lv_at hl 12 rfl) ?_
                refine lv_iadd hx hb dL_bells_439 ?_
                refine b_top (y := nI ((5 * k) + (b0 + m9))) (nI_add (5 * k) (b0 + m9)) ?_
                refine lv_iload hx hb dL_bells_440 (lv_at hl 12 rfl) ?_
                refine lv_iconst (v := 4) hx hb dL_bells_442 (by decide) ?_
                refine b_ge (tgt := 461) (b0 + m9) (4) hx hb rfl rfl (by omega) (by omega) dL_bells_443 (by decide) (fun h_13 => ?_) (fun h_13 => ?_)
                · exact absurd h_13 (by omega)
                · refine lv_aload hx hb dL_bells_446 (lv_at hl 4 rfl) ?_
                  refine lv_iconst (v := 5) hx hb dL_bells_448 (by decide) ?_
                  refine lv_iload hx hb dL_bells_449 (lv_at hl 5 rfl) ?_
                  refine lv_imul hx hb dL_bells_451 ?_
                  refine b_top (y := nI (5 * k)) (pk_mul 5 k) ?_
                  refine lv_iload hx hb dL_bells_452 (lv_at hl 12 rfl) ?_
                  refine lv_iadd hx hb dL_bells_454 ?_
                  refine b_top (y := nI ((5 * k) + (b0 + m9))) (nI_add (5 * k) (b0 + m9)) ?_
                  refine lv_iconst (v := 1) hx hb dL_bells_455 (by decide) ?_
                  refine lv_iadd hx hb dL_bells_456 ?_
                  refine b_top (y := nI (((5 * k) + (b0 + m9)) + 1)) (nI_add ((5 * k) + (b0 + m9)) 1) ?_
                  refine b_iald (v := (mlL V k b0 m9) 11 (k * 5 + ((b0 + m9) + 1))) hx hb hK hP 15 0 (((5 * k) + (b0 + m9)) + 1) rfl rfl rfl (by omega) rfl ((congrArg ((up2 (up2 (mlL V k b0 m9) 9 (k * 5 + (b0 + m9)) ((mlL V k b0 m9) 9 (k * 5 + ((b0 + m9) + 1)))) 10 (k * 5 + (b0 + m9)) ((mlL V k b0 m9) 10 (k * 5 + ((b0 + m9) + 1)))) 11) (show ((5 * k) + (b0 + m9)) + 1 = k * 5 + ((b0 + m9) + 1) by omega)).trans rfl) dL_bells_457 ?_
                  refine lv_goto (tgt := 462) hx hb dL_bells_458 (by decide) ?_
                  refine b_iastE (B' := [bB h q z, vB g (q 0) na V, vB g (q 1) ta TV, vB g (q 2) pa SV, hB g (q 3) hq hh o n, vB g (hh 0) (aa 0) (HV 0), vB g (hh 1) (aa 1) (HV 1), vB g (hh 2) (aa 2) (HV 2), vB g (hh 3) (aa 3) (HV 3), vB g (hh 4) (aa 4) (HV 4), rB g (q 4) ra NN, tB g (q 5) sa (fun _ => 0) 0, aR g at_ 54 (rT (up2 (up2 (up2 (mlL V k b0 m9) 9 (k * 5 + (b0 + m9)) ((mlL V k b0 m9) 9 (k * 5 + ((b0 + m9) + 1)))) 10 (k * 5 + (b0 + m9)) ((mlL V k b0 m9) 10 (k * 5 + ((b0 + m9) + 1)))) 11 (k * 5 + (b0 + m9)) ((mlL V k b0 m9) 11 (k * 5 + ((b0 + m9) + 1))))), aR g aw 30 ((up2 (up2 (up2 (mlL V k b0 m9) 9 (k * 5 + (b0 + m9)) ((mlL V k b0 m9) 9 (k * 5 + ((b0 + m9) + 1)))) 10 (k * 5 + (b0 + m9)) ((mlL V k b0 m9) 10 (k * 5 + ((b0 + m9) + 1)))) 11 (k * 5 + (b0 + m9)) ((mlL V k b0 m9) 11 (k * 5 + ((b0 + m9) + 1)))) 9), aR g ar 30 ((up2 (up2 (up2 (mlL V k b0 m9) 9 (k * 5 + (b0 + m9)) ((mlL V k b0 m9) 9 (k * 5 + ((b0 + m9) + 1)))) 10 (k * 5 + (b0 + m9)) ((mlL V k b0 m9) 10 (k * 5 + ((b0 + m9) + 1)))) 11 (k * 5 + (b0 + m9)) ((mlL V k b0 m9) 11 (k * 5 + ((b0 + m9) + 1)))) 10), aR g ag 30 ((up2 (up2 (up2 (mlL V k b0 m9) 9 (k * 5 + (b0 + m9)) ((mlL V k b0 m9) 9 (k * 5 + ((b0 + m9) + 1)))) 10 (k * 5 + (b0 + m9)) ((mlL V k b0 m9) 10 (k * 5 + ((b0 + m9) + 1)))) 11 (k * 5 + (b0 + m9)) ((mlL V k b0 m9) 11 (k * 5 + ((b0 + m9) + 1)))) 11)]) hx hb hK hW 15 0 ((5 * k) + (b0 + m9)) rfl rfl rfl (by omega) rfl (r5_put _ _ _ _ _) (by rw [show rT (up2 (up2 (up2 (mlL V k b0 m9) 9 (k * 5 + (b0 + m9)) ((mlL V k b0 m9) 9 (k * 5 + ((b0 + m9) + 1)))) 10 (k * 5 + (b0 + m9)) ((mlL V k b0 m9) 10 (k * 5 + ((b0 + m9) + 1)))) 11 (k * 5 + (b0 + m9)) ((mlL V k b0 m9) 11 (k * 5 + ((b0 + m9) + 1)))) = rT (up2 (up2 (mlL V k b0 m9) 9 (k * 5 + (b0 + m9)) ((mlL V k b0 m9) 9 (k * 5 + ((b0 + m9) + 1)))) 10 (k * 5 + (b0 + m9)) ((mlL V k b0 m9) 10 (k * 5 + ((b0 + m9) + 1)))) from rT_ge (by decide)]; rfl) dL_bells_462 (fun H locs hW => ?_)
                  have hP := hW.1
                  refine lv_iinc (v := nI (b0 + m9 + 1)) (lv' := [(12, .int (nI (b0 + m9 + 1))), (0, .ref h), (1, .ref at_), (2, .ref aw), (3, .ref ar), (4, .ref ag), (5, .int (nI k)), (6, .int 2), (7, .int x), (8, .int (nI (cq k))), (9, .int (nI b0)), (10, .int (V 9 (k * 5 + b0))), (11, .int (pnL V k b0 (cq k)))]) hx hb dL_bells_463 hl (k := 12) rfl (nI_add (b0 + m9) 1) (by decide) rfl (fun ls hl => ?_)
                  refine lv_goto (tgt := 365) hx hb dL_bells_466 (by decide) ?_
                  have e_14 : ([bB h q z, vB g (q 0) na V, vB g (q 1) ta TV, vB g (q 2) pa SV, hB g (q 3) hq hh o n, vB g (hh 0) (aa 0) (HV 0), vB g (hh 1) (aa 1) (HV 1), vB g (hh 2) (aa 2) (HV 2), vB g (hh 3) (aa 3) (HV 3), vB g (hh 4) (aa 4) (HV 4), rB g (q 4) ra NN, tB g (q 5) sa (fun _ => 0) 0, aR g at_ 54 (rT (mlL V k b0 (m9 + 1))), aR g aw 30 ((mlL V k b0 (m9 + 1)) 9), aR g ar 30 ((mlL V k b0 (m9 + 1)) 10), aR g ag 30 ((mlL V k b0 (m9 + 1)) 11)] : List va_W) = [bB h q z, vB g (q 0) na V, vB g (q 1) ta TV, vB g (q 2) pa SV, hB g (q 3) hq hh o n, vB g (hh 0) (aa 0) (HV 0), vB g (hh 1) (aa 1) (HV 1), vB g (hh 2) (aa 2) (HV 2), vB g (hh 3) (aa 3) (HV 3), vB g (hh 4) (aa 4) (HV 4), rB g (q 4) ra NN, tB g (q 5) sa (fun _ => 0) 0, aR g at_ 54 (rT (up2 (up2 (up2 (mlL V k b0 m9) 9 (k * 5 + (b0 + m9)) ((mlL V k b0 m9) 9 (k * 5 + ((b0 + m9) + 1)))) 10 (k * 5 + (b0 + m9)) ((mlL V k b0 m9) 10 (k * 5 + ((b0 + m9) + 1)))) 11 (k * 5 + (b0 + m9)) ((mlL V k b0 m9) 11 (k * 5 + ((b0 + m9) + 1))))), aR g aw 30 ((up2 (up2 (up2 (mlL V k b0 m9) 9 (k * 5 + (b0 + m9)) ((mlL V k b0 m9) 9 (k * 5 + ((b0 + m9) + 1)))) 10 (k * 5 + (b0 + m9)) ((mlL V k b0 m9) 10 (k * 5 + ((b0 + m9) + 1)))) 11 (k * 5 + (b0 + m9)) ((mlL V k b0 m9) 11 (k * 5 + ((b0 + m9) + 1)))) 9), aR g ar 30 ((up2 (up2 (up2 (mlL V k b0 m9) 9 (k * 5 + (b0 + m9)) ((mlL V k b0 m9) 9 (k * 5 + ((b0 + m9) + 1)))) 10 (k * 5 + (b0 + m9)) ((mlL V k b0 m9) 10 (k * 5 + ((b0 + m9) + 1)))) 11 (k * 5 + (b0 + m9)) ((mlL V k b0 m9) 11 (k * 5 + ((b0 + m9) + 1)))) 10), aR g ag 30 ((up2 (up2 (up2 (mlL V k b0 m9) 9 (k * 5 + (b0 + m9)) ((mlL V k b0 m9) 9 (k * 5 + ((b0 + m9) + 1)))) 10 (k * 5 + (b0 + m9)) ((mlL V k b0 m9) 10 (k * 5 + ((b0 + m9) + 1)))) 11 (k * 5 + (b0 + m9)) ((mlL V k b0 m9) 11 (k * 5 + ((b0 + m9) + 1)))) 11)] := by rw [mlL]; first | (rw [if_pos hj4]; done) | (rw [if_neg hj4]; done)
                  exact ih_m9 (by omega)  _ _ _ (by rw [e_14]; exact hW) (lv_sub hl [1, 2, 3, 4, 5, 6, 7, 8, 9, 10, 11, 12, 0] rfl) 
        · refine lv_iload hx hb dL_bells_308 (lv_at hl 11 rfl) ?_
          refine lv_iload hx hb dL_bells_310 (lv_at hl 12 rfl) ?_
          refine lv_iload hx hb dL_bells_312 (lv_at hl 9 rfl) ?_
          refine b_ne (tgt := 321) (j) (b0) hx hb rfl rfl (by omega) (by omega) dL_bells_314 (by decide) (fun h_15 => ?_) (fun h_15 => ?_)
          · refine lv_aload_n hx hb dL_bells_321 rfl (lv_at hl 1 rfl) ?_
            refine lv_bipush (v := 9) hx hb dL_bells_322 (by decide) ?_
            refine lv_iload hx hb dL_bells_324 (lv_at hl 5 rfl) ?_
            refine lv_imul hx hb dL_bells_326 ?_
            refine b_top (y := nI (9 * k)) (pk_mul 9 k) ?_
            refine lv_iconst (v := 4) hx hb dL_bells_327 (by decide) ?_
            refine lv_iadd hx hb dL_bells_328 ?_
            refine b_top (y := nI ((9 * k) + 4)) (nI_add (9 * k) 4) ?_
            refine b_iald (v := V 4 k) hx hb hK hP 12 0 ((9 * k) + 4) rfl rfl rfl (by omega) rfl ((rT_at _ (by omega)).trans rfl) dL_bells_329 ?_
            refine lv_iload hx hb dL_bells_330 (lv_at hl 12 rfl) ?_
            refine lv_ishr hx hb dL_bells_332 ?_
            refine lv_iconst (v := 1) hx hb dL_bells_333 (by decide) ?_
            refine lv_iand hx hb dL_bells_334 ?_
            refine lv_iload hx hb dL_bells_335 (lv_at hl 12 rfl) ?_
            refine lv_iload hx hb dL_bells_337 (lv_at hl 9 rfl) ?_
            refine b_ge (tgt := 347) (j) (b0) hx hb rfl rfl (by omega) (by omega) dL_bells_339 (by decide) (fun h_16 => ?_) (fun h_16 => ?_)
            · refine lv_iload hx hb dL_bells_347 (lv_at hl 12 rfl) ?_
              refine lv_iconst (v := 1) hx hb dL_bells_349 (by decide) ?_
              refine lv_isub hx hb dL_bells_350 ?_
              refine b_top (y := nI (j - 1)) (pk_sub (a := j) (b := 1) (by omega)) ?_
              refine lv_ishl hx hb dL_bells_351 ?_
              refine lv_iadd hx hb dL_bells_352 ?_
              refine lv_istore (lv' := [(11, .int ((pnL V k b0 j) + ((((V 4 k) >>> ((nI j) &&& 31)) &&& 1) <<< ((nI (j - 1)) &&& 31)))), (0, .ref h), (1, .ref at_), (2, .ref aw), (3, .ref ar), (4, .ref ag), (5, .int (nI k)), (6, .int 2), (7, .int x), (8, .int (nI (cq k))), (9, .int (nI b0)), (10, .int (V 9 (k * 5 + b0))), (12, .int (nI j))]) hx hb dL_bells_353 hl (by decide) rfl (fun ls hl => ?_)
              refine lv_iinc (v := nI (j + 1)) (lv' := [(12, .int (nI (j + 1))), (11, .int ((pnL V k b0 j) + ((((V 4 k) >>> ((nI j) &&& 31)) &&& 1) <<< ((nI (j - 1)) &&& 31)))), (0, .ref h), (1, .ref at_), (2, .ref aw), (3, .ref ar), (4, .ref ag), (5, .int (nI k)), (6, .int 2), (7, .int x), (8, .int (nI (cq k))), (9, .int (nI b0)), (10, .int (V 9 (k * 5 + b0)))]) hx hb dL_bells_355 hl (k := 12) rfl (nI_add j 1) (by decide) rfl (fun ls hl => ?_)
              refine lv_goto (tgt := 301) hx hb dL_bells_358 (by decide) ?_
              have e_17 : pnL V k b0 (j + 1) = (pnL V k b0 j) + ((((V 4 k) >>> ((nI j) &&& 31)) &&& 1) <<< ((nI (j - 1)) &&& 31)) := by rw [pnL]; first | (rw [if_pos h_16]; done) | (rw [if_neg h_15, if_pos h_16]; done) | (rw [if_neg h_15, if_neg (Nat.not_lt.mpr h_16)]; done)
              exact ih_j (by omega)  _ _ _ hW (by rw [e_17]; exact lv_sub hl [2, 3, 4, 5, 6, 7, 8, 9, 10, 11, 12, 1, 0] rfl) 
            · refine lv_iload hx hb dL_bells_342 (lv_at hl 12 rfl) ?_
              refine lv_goto (tgt := 351) hx hb dL_bells_344 (by decide) ?_
              refine lv_ishl hx hb dL_bells_351 ?_
              refine lv_iadd hx hb dL_bells_352 ?_
              refine lv_istore (lv' := [(11, .int ((pnL V k b0 j) + ((((V 4 k) >>> ((nI j) &&& 31)) &&& 1) <<< ((nI j) &&& 31)))), (0, .ref h), (1, .ref at_), (2, .ref aw), (3, .ref ar), (4, .ref ag), (5, .int (nI k)), (6, .int 2), (7, .int x), (8, .int (nI (cq k))), (9, .int (nI b0)), (10, .int (V 9 (k * 5 + b0))), (12, .int (nI j))]) hx hb dL_bells_353 hl (by decide) rfl (fun ls hl => ?_)
              refine lv_iinc (v := nI (j + 1)) (lv' := [(12, .int (nI (j + 1))), (11, .int ((pnL V k b0 j) + ((((V 4 k) >>> ((nI j) &&& 31)) &&& 1) <<< ((nI j) &&& 31)))), (0, .ref h), (1, .ref at_), (2, .ref aw), (3, .ref ar), (4, .ref ag), (5, .int (nI k)), (6, .int 2), (7, .int x), (8, .int (nI (cq k))), (9, .int (nI b0)), (10, .int (V 9 (k * 5 + b0)))]) hx hb dL_bells_355 hl (k := 12) rfl (nI_add j 1) (by decide) rfl (fun ls hl => ?_)
              refine lv_goto (tgt := 301) hx hb dL_bells_358 (by decide) ?_
              have e_18 : pnL V k b0 (j + 1) = (pnL V k b0 j) + ((((V 4 k) >>> ((nI j) &&& 31)) &&& 1) <<< ((nI j) &&& 31)) := by rw [pnL]; first | (rw [if_pos h_16]; done) | (rw [if_neg h_15, if_pos h_16]; done) | (rw [if_neg h_15, if_neg (Nat.not_lt.mpr h_16)]; done)
              exact ih_j (by omega)  _ _ _ hW (by rw [e_18]; exact lv_sub hl [2, 3, 4, 5, 6, 7, 8, 9, 10, 11, 12, 1, 0] rfl) 
          · refine lv_iconst (v := 0) hx hb dL_bells_317 (by decide) ?_
            refine lv_goto (tgt := 352) hx hb dL_bells_318 (by decide) ?_
            refine lv_iadd hx hb dL_bells_352 ?_
            refine lv_istore (lv' := [(11, .int ((pnL V k b0 j) + 0)), (0, .ref h), (1, .ref at_), (2, .ref aw), (3, .ref ar), (4, .ref ag), (5, .int (nI k)), (6, .int 2), (7, .int x), (8, .int (nI (cq k))), (9, .int (nI b0)), (10, .int (V 9 (k * 5 + b0))), (12, .int (nI j))]) hx hb dL_bells_353 hl (by decide) rfl (fun ls hl => ?_)
            refine lv_iinc (v := nI (j + 1)) (lv' := [(12, .int (nI (j + 1))), (11, .int ((pnL V k b0 j) + 0)), (0, .ref h), (1, .ref at_), (2, .ref aw), (3, .ref ar), (4, .ref ag), (5, .int (nI k)), (6, .int 2), (7, .int x), (8, .int (nI (cq k))), (9, .int (nI b0)), (10, .int (V 9 (k * 5 + b0)))]) hx hb dL_bells_355 hl (k := 12) rfl (nI_add j 1) (by decide) rfl (fun ls hl => ?_)
            refine lv_goto (tgt := 301) hx hb dL_bells_358 (by decide) ?_
            have e_19 : pnL V k b0 (j + 1) = (pnL V k b0 j) + 0 := by rw [pnL]; first | (rw [if_pos h_15]; done) | (rw [if_neg h_4, if_pos h_15]; done) | (rw [if_neg h_4, if_neg (Nat.not_lt.mpr h_15)]; done)
            exact ih_j (by omega)  _ _ _ hW (by rw [e_19]; exact lv_sub hl [2, 3, 4, 5, 6, 7, 8, 9, 10, 11, 12, 1, 0] rfl) 
      · exact absurd h_3 (by decide)
    · have hnb := hb_no LIh hk hb05 (show cq k ≤ b0 by omega)
      refine lv_aload_n hx hb dL_bells_131 rfl (lv_at hl 2 rfl) ?_
      refine lv_iload hx hb dL_bells_132 (lv_at hl 7 rfl) ?_
      refine lv_iload hx hb dL_bells_134 (lv_at hl 0 rfl) ?_
      refine call_VU (As := [.int (nI k), .int (nI b0)]) (rest := []) E rfl hK hW (c_X4_melt l g h q z na V ta TV pa SV hq hh o n aa HV ra NN sa (fun _ => 0) 0 (nI k) (nI b0) k 0 (cq k) ho hn (Nat.zero_le _) (fun q9 => absurd q9 hnb)) ok_X4_melt rfl q2_172 [0, 1, 2, 3, 4, 5, 6, 7, 8, 9, 10, 11] rfl (by decide) (b_recv hK hP 0 0 rfl rfl rfl rfl) ⟨⟨rfl, rfl⟩, Nat.le_of_ble_eq_true rfl, Nat.le_of_ble_eq_true rfl⟩ hl.1 (Nat.le_of_ble_eq_true rfl) ⟨Nat.le_of_ble_eq_true rfl, Nat.le_of_ble_eq_true rfl⟩ rfl dL_bells_136 (fun u_20 H locs hu_20 hW => ?_)
      obtain rfl : u_20 = false := by
        cases u_20 with
        | false => rfl
        | true => exact absurd ((meE_no hnb).symm.trans (show _ = 0 from hu_20)) (by decide)
      have hW : wd g _ s.heap [bB h q z, vB g (q 0) na V, vB g (q 1) ta TV, vB g (q 2) pa SV, hB g (q 3) hq hh o n, vB g (hh 0) (aa 0) (HV 0), vB g (hh 1) (aa 1) (HV 1), vB g (hh 2) (aa 2) (HV 2), vB g (hh 3) (aa 3) (HV 3), vB g (hh 4) (aa 4) (HV 4), rB g (q 4) ra NN, tB g (q 5) sa (fun _ => 0) 0, aR g at_ 54 (rT V), aR g aw 30 (V 9), aR g ar 30 (V 10), aR g ag 30 (V 11)] H locs := hW
      have hP := hW.1
      refine b_top (y := -1) ((cond_false _ _).trans (meE_no hnb)) ?_
      refine lv_iconst (v := -1) hx hb dL_bells_139 (by decide) ?_
      refine lv_icmp_ne (tgt := 159) hx hb dL_bells_140 (by decide) (fun h_21 => ?_) (fun h_21 => ?_)
      · exact absurd rfl h_21
      · refine lv_aload_n hx hb dL_bells_143 rfl (lv_at hl 2 rfl) ?_
        refine lv_iload hx hb dL_bells_144 (lv_at hl 7 rfl) ?_
        refine lv_iload hx hb dL_bells_146 (lv_at hl 0 rfl) ?_
        refine call_VU (As := [.int (nI k), .int (nI b0)]) (rest := []) E rfl hK hW (c_X4_splice l g h q z na V ta TV pa SV hq hh o n aa HV ra NN sa (fun _ => 0) 0 (nI k) (nI b0) k b0 ho hn (Nat.zero_le _) (fun q9 => absurd q9 hnb)) ok_X4_splice rfl q2_180 [0, 1, 2, 3, 4, 5, 6, 7, 8, 9, 10, 11] rfl (by decide) (b_recv hK hP 0 0 rfl rfl rfl rfl) ⟨⟨rfl, rfl⟩, Nat.le_of_ble_eq_true rfl, Nat.le_of_ble_eq_true rfl⟩ hl.1 (Nat.le_of_ble_eq_true rfl) ⟨Nat.le_of_ble_eq_true rfl, Nat.le_of_ble_eq_true rfl⟩ rfl dL_bells_148 (fun u_22 H locs hu_22 hW => ?_)
        obtain rfl : u_22 = false := by
          cases u_22 with
          | false => rfl
          | true => exact absurd ((spE_no hnb).symm.trans (show _ = 0 from hu_22)) (by decide)
        have hW : wd g _ s.heap [bB h q z, vB g (q 0) na V, vB g (q 1) ta TV, vB g (q 2) pa SV, hB g (q 3) hq hh o n, vB g (hh 0) (aa 0) (HV 0), vB g (hh 1) (aa 1) (HV 1), vB g (hh 2) (aa 2) (HV 2), vB g (hh 3) (aa 3) (HV 3), vB g (hh 4) (aa 4) (HV 4), rB g (q 4) ra NN, tB g (q 5) sa (fun _ => 0) 0, aR g at_ 54 (rT V), aR g aw 30 (V 9), aR g ar 30 (V 10), aR g ag 30 (V 11)] H locs := hW
        have hP := hW.1
        refine b_top (y := -1) ((cond_false _ _).trans (spE_no hnb)) ?_
        refine lv_iconst (v := -1) hx hb dL_bells_151 (by decide) ?_
        refine lv_icmp_ne (tgt := 159) hx hb dL_bells_152 (by decide) (fun h_23 => ?_) (fun h_23 => ?_)
        · exact absurd rfl h_23
        · refine lv_iconst (v := 1) hx hb dL_bells_155 (by decide) ?_
          refine lv_goto (tgt := 160) hx hb dL_bells_156 (by decide) ?_
          exact uZ_ret (V, cq, o, n, HV) hW hx hb hr hlocks dL_bells_160 (by rfl) (rfl) ⟨LIh, ho, hn, fun _ => rfl⟩ (rfl) (adr2 (L := [[h], [q 0, na 0, na 1, na 2, na 3, na 4, na 5, na 6, na 7, na 8, na 9, na 10, na 11], [q 1, ta 0, ta 1, ta 2, ta 3, ta 4, ta 5, ta 6, ta 7, ta 8, ta 9, ta 10, ta 11], [q 2, pa 0, pa 1, pa 2, pa 3, pa 4, pa 5, pa 6, pa 7, pa 8, pa 9, pa 10, pa 11], [q 3, hq], [hh 0, aa 0 0, aa 0 1, aa 0 2, aa 0 3, aa 0 4, aa 0 5, aa 0 6, aa 0 7, aa 0 8, aa 0 9, aa 0 10, aa 0 11], [hh 1, aa 1 0, aa 1 1, aa 1 2, aa 1 3, aa 1 4, aa 1 5, aa 1 6, aa 1 7, aa 1 8, aa 1 9, aa 1 10, aa 1 11], [hh 2, aa 2 0, aa 2 1, aa 2 2, aa 2 3, aa 2 4, aa 2 5, aa 2 6, aa 2 7, aa 2 8, aa 2 9, aa 2 10, aa 2 11], [hh 3, aa 3 0, aa 3 1, aa 3 2, aa 3 3, aa 3 4, aa 3 5, aa 3 6, aa 3 7, aa 3 8, aa 3 9, aa 3 10, aa 3 11], [hh 4, aa 4 0, aa 4 1, aa 4 2, aa 4 3, aa 4 4, aa 4 5, aa 4 6, aa 4 7, aa 4 8, aa 4 9, aa 4 10, aa 4 11], [q 4, ra 0, ra 1, ra 2, ra 3], [q 5, sa], [at_], [aw], [ar], [ag]]) rfl rfl)
  · exact absurd h_1 (by decide)
