set_option maxHeartbeats 4000000 in
set_option maxRecDepth 100000 in
theorem c_L_bells_0 (l : Launch) (g : gx) (h : Nat) (q : Nat → Nat) (z : Int32) (na : Nat → Nat) (V : sV) (ta : Nat → Nat) (TV : sV) (pa : Nat → Nat) (SV : sV) (hq : Nat) (hh : Nat → Nat) (o n : Nat) (aa : Nat → Nat → Nat) (HV : Nat → sV) (ra : Nat → Nat) (NN : sV) (sa : Nat) (at_ aw ar ag : Nat) (cq : Nat → Nat) (B k : Nat) (x : Int32) (ho : o < 5) (hn : n ≤ 5) (LIh : LI V cq B) (hk : k < 6) : cU (S := sV × (Nat → Nat) × Nat × Nat × (Nat → sV)) l g yL_bells cL_bells 13 (some .boolean) ({ frames := 5, cells := 0, slots := 0, locals := 146 } : Room) [.ref h, .ref at_, .ref aw, .ref ar, .ref ag, .int (nI k), .int 0, .int x] [bB h q z, vB g (q 0) na V, vB g (q 1) ta TV, vB g (q 2) pa SV, hB g (q 3) hq hh o n, vB g (hh 0) (aa 0) (HV 0), vB g (hh 1) (aa 1) (HV 1), vB g (hh 2) (aa 2) (HV 2), vB g (hh 3) (aa 3) (HV 3), vB g (hh 4) (aa 4) (HV 4), rB g (q 4) ra NN, tB g (q 5) sa (fun _ => 0) 0, aR g at_ 54 (rT V), aR g aw 30 (V 9), aR g ar 30 (V 10), aR g ag 30 (V 11)] (fun u9 => some (.int (1 : Int32))) (fun u9 => LI u9.1 u9.2.1 B ∧ u9.2.2.1 < 5 ∧ u9.2.2.2.1 ≤ 5 ∧ ∀ j, u9.1 12 j = V 12 j) (fun u9 => [bB h q z, vB g (q 0) na u9.1, vB g (q 1) ta TV, vB g (q 2) pa SV, hB g (q 3) hq hh u9.2.2.1 u9.2.2.2.1, vB g (hh 0) (aa 0) (u9.2.2.2.2 0), vB g (hh 1) (aa 1) (u9.2.2.2.2 1), vB g (hh 2) (aa 2) (u9.2.2.2.2 2), vB g (hh 3) (aa 3) (u9.2.2.2.2 3), vB g (hh 4) (aa 4) (u9.2.2.2.2 4), rB g (q 4) ra NN, tB g (q 5) sa (fun _ => 0) 0, aR g at_ 54 (rT u9.1), aR g aw 30 (u9.1 9), aR g ar 30 (u9.1 10), aR g ag 30 (u9.1 11)]) := by
  refine cU.mk (by decide +kernel) (Nat.le_of_ble_eq_true rfl) ?_
  intro p e s m below meth c ls E hK hW hl
  obtain ⟨hx, hb, hr, hml, hts, hown, hlocks, hin⟩ := id E
  have hown : s.vm.findClass RL = some m.cls := hown
  have hP := hW.1
  have hl : lv_has ls 13 [(0, .ref h), (1, .ref at_), (2, .ref aw), (3, .ref ar), (4, .ref ag), (5, .int (nI k)), (6, .int 0), (7, .int x)] := hl
  refine lv_aload_n hx hb dL_bells_0 rfl (lv_at hl 1 rfl) ?_
  refine lv_bipush (v := 9) hx hb dL_bells_1 (by decide) ?_
  refine lv_iload hx hb dL_bells_3 (lv_at hl 5 rfl) ?_
  refine lv_imul hx hb dL_bells_5 ?_
  refine b_top (y := nI (9 * k)) (pk_mul 9 k) ?_
  refine lv_iconst (v := 3) hx hb dL_bells_6 (by decide) ?_
  refine lv_iadd hx hb dL_bells_7 ?_
  refine b_top (y := nI ((9 * k) + 3)) (nI_add (9 * k) 3) ?_
  refine b_iald (v := V 3 k) hx hb hK hP 12 0 ((9 * k) + 3) rfl rfl rfl (by omega) rfl ((rT_at _ (by omega)).trans rfl) dL_bells_8 ?_
  refine b_top (y := nI (cq k)) (LIh.cnt k hk).1 ?_
  have hc5 := (LIh.cnt k hk).2
  refine lv_istore (lv' := [(8, .int (nI (cq k))), (0, .ref h), (1, .ref at_), (2, .ref aw), (3, .ref ar), (4, .ref ag), (5, .int (nI k)), (6, .int 0), (7, .int x)]) hx hb dL_bells_9 hl (by decide) rfl (fun ls hl => ?_)
  refine lv_iload hx hb dL_bells_11 (lv_at hl 7 rfl) ?_
  refine lv_if_ne (tgt := 116) hx hb dL_bells_13 (by decide) (fun h_1 => ?_) (fun h_1 => ?_)
  · exact absurd h_1 (by decide)
  · refine lv_iconst (v := 1) hx hb dL_bells_16 (by decide) ?_
    refine lv_iload hx hb dL_bells_17 (lv_at hl 8 rfl) ?_
    refine lv_bipush (v := 9) hx hb dL_bells_19 (by decide) ?_
    refine call_SR (As := [.int x, .int 9]) (rest := [.int 1]) E rfl hK hP (c_L_low l g x 9 (by first | omega | assumption) (by first | omega | assumption)) ok_L_low rfl q1_187 [] rfl ⟨⟨rfl, rfl⟩, Nat.le_of_ble_eq_true rfl, Nat.le_of_ble_eq_true rfl⟩ hl.1 (Nat.le_of_ble_eq_true rfl) ⟨Nat.le_of_ble_eq_true rfl, Nat.le_of_ble_eq_true rfl⟩ rfl dL_bells_21 ?_
    obtain ⟨w0, hw0⟩ : ∃ z, z = lowN x 9 := ⟨_, rfl⟩
    have hw09 : w0 < 9 := by rw [hw0]; exact lowN_lt _ (by decide)
    refine b_top (y := nI w0) (by rw [hw0]) ?_
    refine lv_iadd hx hb dL_bells_24 ?_
    refine b_top (y := nI (1 + w0)) (nI_add 1 w0) ?_
    refine lv_istore (lv' := [(9, .int (nI (1 + w0))), (8, .int (nI (cq k))), (0, .ref h), (1, .ref at_), (2, .ref aw), (3, .ref ar), (4, .ref ag), (5, .int (nI k)), (6, .int 0), (7, .int x)]) hx hb dL_bells_25 hl (by decide) rfl (fun ls hl => ?_)
    refine lv_iload hx hb dL_bells_27 (lv_at hl 1 rfl) ?_
    refine lv_iconst (v := 5) hx hb dL_bells_29 (by decide) ?_
    refine b_ne (tgt := 52) ((cq k)) (5) hx hb rfl rfl (by omega) (by omega) dL_bells_30 (by decide) (fun h_2 => ?_) (fun h_2 => ?_)
    · refine lv_aload_n hx hb dL_bells_52 rfl (lv_at hl 4 rfl) ?_
      refine lv_iconst (v := 5) hx hb dL_bells_53 (by decide) ?_
      refine lv_iload hx hb dL_bells_54 (lv_at hl 7 rfl) ?_
      refine lv_imul hx hb dL_bells_56 ?_
      refine b_top (y := nI (5 * k)) (pk_mul 5 k) ?_
      refine lv_iload hx hb dL_bells_57 (lv_at hl 1 rfl) ?_
      refine lv_iadd hx hb dL_bells_59 ?_
      refine b_top (y := nI ((5 * k) + (cq k))) (nI_add (5 * k) (cq k)) ?_
      refine lv_iload hx hb dL_bells_60 (lv_at hl 0 rfl) ?_
      refine b_iastE (B' := [bB h q z, vB g (q 0) na V, vB g (q 1) ta TV, vB g (q 2) pa SV, hB g (q 3) hq hh o n, vB g (hh 0) (aa 0) (HV 0), vB g (hh 1) (aa 1) (HV 1), vB g (hh 2) (aa 2) (HV 2), vB g (hh 3) (aa 3) (HV 3), vB g (hh 4) (aa 4) (HV 4), rB g (q 4) ra NN, tB g (q 5) sa (fun _ => 0) 0, aR g at_ 54 (rT (up2 V 9 (k * 5 + (cq k)) (nI (1 + w0)))), aR g aw 30 ((up2 V 9 (k * 5 + (cq k)) (nI (1 + w0))) 9), aR g ar 30 ((up2 V 9 (k * 5 + (cq k)) (nI (1 + w0))) 10), aR g ag 30 ((up2 V 9 (k * 5 + (cq k)) (nI (1 + w0))) 11)]) hx hb hK hW 13 0 ((5 * k) + (cq k)) rfl rfl rfl (by omega) rfl (r5_put _ _ _ _ _) (by rw [show rT (up2 V 9 (k * 5 + (cq k)) (nI (1 + w0))) = rT V from rT_ge (by decide)]; rfl) dL_bells_62 (fun H locs hW => ?_)
      have hP := hW.1
      refine lv_aload_n hx hb dL_bells_63 rfl (lv_at hl 5 rfl) ?_
      refine lv_iconst (v := 5) hx hb dL_bells_64 (by decide) ?_
      refine lv_iload hx hb dL_bells_65 (lv_at hl 7 rfl) ?_
      refine lv_imul hx hb dL_bells_67 ?_
      refine b_top (y := nI (5 * k)) (pk_mul 5 k) ?_
      refine lv_iload hx hb dL_bells_68 (lv_at hl 1 rfl) ?_
      refine lv_iadd hx hb dL_bells_70 ?_
      refine b_top (y := nI ((5 * k) + (cq k))) (nI_add (5 * k) (cq k)) ?_
      refine lv_iconst (v := 0) hx hb dL_bells_71 (by decide) ?_
      refine b_iastE (B' := [bB h q z, vB g (q 0) na V, vB g (q 1) ta TV, vB g (q 2) pa SV, hB g (q 3) hq hh o n, vB g (hh 0) (aa 0) (HV 0), vB g (hh 1) (aa 1) (HV 1), vB g (hh 2) (aa 2) (HV 2), vB g (hh 3) (aa 3) (HV 3), vB g (hh 4) (aa 4) (HV 4), rB g (q 4) ra NN, tB g (q 5) sa (fun _ => 0) 0, aR g at_ 54 (rT (up2 (up2 V 9 (k * 5 + (cq k)) (nI (1 + w0))) 10 (k * 5 + (cq k)) 0)), aR g aw 30 ((up2 (up2 V 9 (k * 5 + (cq k)) (nI (1 + w0))) 10 (k * 5 + (cq k)) 0) 9), aR g ar 30 ((up2 (up2 V 9 (k * 5 + (cq k)) (nI (1 + w0))) 10 (k * 5 + (cq k)) 0) 10), aR g ag 30 ((up2 (up2 V 9 (k * 5 + (cq k)) (nI (1 + w0))) 10 (k * 5 + (cq k)) 0) 11)]) hx hb hK hW 14 0 ((5 * k) + (cq k)) rfl rfl rfl (by omega) rfl (r5_put _ _ _ _ _) (by rw [show rT (up2 (up2 V 9 (k * 5 + (cq k)) (nI (1 + w0))) 10 (k * 5 + (cq k)) 0) = rT (up2 V 9 (k * 5 + (cq k)) (nI (1 + w0))) from rT_ge (by decide)]; rfl) dL_bells_72 (fun H locs hW => ?_)
      have hP := hW.1
      refine lv_aload hx hb dL_bells_73 (lv_at hl 6 rfl) ?_
      refine lv_iconst (v := 5) hx hb dL_bells_75 (by decide) ?_
      refine lv_iload hx hb dL_bells_76 (lv_at hl 7 rfl) ?_
      refine lv_imul hx hb dL_bells_78 ?_
      refine b_top (y := nI (5 * k)) (pk_mul 5 k) ?_
      refine lv_iload hx hb dL_bells_79 (lv_at hl 1 rfl) ?_
      refine lv_iadd hx hb dL_bells_81 ?_
      refine b_top (y := nI ((5 * k) + (cq k))) (nI_add (5 * k) (cq k)) ?_
      refine lv_iconst (v := 0) hx hb dL_bells_82 (by decide) ?_
      refine b_iastE (B' := [bB h q z, vB g (q 0) na V, vB g (q 1) ta TV, vB g (q 2) pa SV, hB g (q 3) hq hh o n, vB g (hh 0) (aa 0) (HV 0), vB g (hh 1) (aa 1) (HV 1), vB g (hh 2) (aa 2) (HV 2), vB g (hh 3) (aa 3) (HV 3), vB g (hh 4) (aa 4) (HV 4), rB g (q 4) ra NN, tB g (q 5) sa (fun _ => 0) 0, aR g at_ 54 (rT (up2 (up2 (up2 V 9 (k * 5 + (cq k)) (nI (1 + w0))) 10 (k * 5 + (cq k)) 0) 11 (k * 5 + (cq k)) 0)), aR g aw 30 ((up2 (up2 (up2 V 9 (k * 5 + (cq k)) (nI (1 + w0))) 10 (k * 5 + (cq k)) 0) 11 (k * 5 + (cq k)) 0) 9), aR g ar 30 ((up2 (up2 (up2 V 9 (k * 5 + (cq k)) (nI (1 + w0))) 10 (k * 5 + (cq k)) 0) 11 (k * 5 + (cq k)) 0) 10), aR g ag 30 ((up2 (up2 (up2 V 9 (k * 5 + (cq k)) (nI (1 + w0))) 10 (k * 5 + (cq k)) 0) 11 (k * 5 + (cq k)) 0) 11)]) hx hb hK hW 15 0 ((5 * k) + (cq k)) rfl rfl rfl (by omega) rfl (r5_put _ _ _ _ _) (by rw [show rT (up2 (up2 (up2 V 9 (k * 5 + (cq k)) (nI (1 + w0))) 10 (k * 5 + (cq k)) 0) 11 (k * 5 + (cq k)) 0) = rT (up2 (up2 V 9 (k * 5 + (cq k)) (nI (1 + w0))) 10 (k * 5 + (cq k)) 0) from rT_ge (by decide)]; rfl) dL_bells_83 (fun H locs hW => ?_)
      have hP := hW.1
      refine lv_aload_n hx hb dL_bells_84 rfl (lv_at hl 3 rfl) ?_
      refine lv_bipush (v := 9) hx hb dL_bells_85 (by decide) ?_
      refine lv_iload hx hb dL_bells_87 (lv_at hl 7 rfl) ?_
      refine lv_imul hx hb dL_bells_89 ?_
      refine b_top (y := nI (9 * k)) (pk_mul 9 k) ?_
      refine lv_iconst (v := 3) hx hb dL_bells_90 (by decide) ?_
      refine lv_iadd hx hb dL_bells_91 ?_
      refine b_top (y := nI ((9 * k) + 3)) (nI_add (9 * k) 3) ?_
      refine lv_dup2_11 hx hb dL_bells_92 rfl rfl ?_
      refine b_iald (v := V 3 k) hx hb hK hP 12 0 ((9 * k) + 3) rfl rfl rfl (by omega) rfl ((rT_at _ (by omega)).trans rfl) dL_bells_93 ?_
      refine lv_iconst (v := 1) hx hb dL_bells_94 (by decide) ?_
      refine lv_iadd hx hb dL_bells_95 ?_
      refine b_iastE (B' := [bB h q z, vB g (q 0) na V, vB g (q 1) ta TV, vB g (q 2) pa SV, hB g (q 3) hq hh o n, vB g (hh 0) (aa 0) (HV 0), vB g (hh 1) (aa 1) (HV 1), vB g (hh 2) (aa 2) (HV 2), vB g (hh 3) (aa 3) (HV 3), vB g (hh 4) (aa 4) (HV 4), rB g (q 4) ra NN, tB g (q 5) sa (fun _ => 0) 0, aR g at_ 54 (rT (up2 (up2 (up2 (up2 V 9 (k * 5 + (cq k)) (nI (1 + w0))) 10 (k * 5 + (cq k)) 0) 11 (k * 5 + (cq k)) 0) 3 k ((V 3 k) + 1))), aR g aw 30 ((up2 (up2 (up2 (up2 V 9 (k * 5 + (cq k)) (nI (1 + w0))) 10 (k * 5 + (cq k)) 0) 11 (k * 5 + (cq k)) 0) 3 k ((V 3 k) + 1)) 9), aR g ar 30 ((up2 (up2 (up2 (up2 V 9 (k * 5 + (cq k)) (nI (1 + w0))) 10 (k * 5 + (cq k)) 0) 11 (k * 5 + (cq k)) 0) 3 k ((V 3 k) + 1)) 10), aR g ag 30 ((up2 (up2 (up2 (up2 V 9 (k * 5 + (cq k)) (nI (1 + w0))) 10 (k * 5 + (cq k)) 0) 11 (k * 5 + (cq k)) 0) 3 k ((V 3 k) + 1)) 11)]) hx hb hK hW 12 0 ((9 * k) + 3) rfl rfl rfl (by omega) rfl (rT_put _ (by omega) _) rfl dL_bells_96 (fun H locs hW => ?_)
      have hP := hW.1
      refine lv_aload_n hx hb dL_bells_97 rfl (lv_at hl 2 rfl) ?_
      refine lv_iload hx hb dL_bells_98 (lv_at hl 7 rfl) ?_
      refine lv_iload hx hb dL_bells_100 (lv_at hl 0 rfl) ?_
      refine call_VU (As := [.int (nI k), .int (nI (1 + w0))]) (rest := []) E rfl hK hW (c_X4_hang l g h q z na V ta TV pa SV hq hh o n aa HV ra NN sa (fun _ => 0) 0 (nI k) (nI (1 + w0)) k ho hn (Nat.zero_le _) (fun _ => ⟨rfl, hk⟩) (cq k) (fun _ => LIh.cnt k hk)) ok_X4_hang rfl q2_150 [0, 1, 2, 3, 4, 5, 6, 7, 8, 9, 10, 11] rfl (by decide) (b_recv hK hP 0 0 rfl rfl rfl rfl) ⟨⟨rfl, rfl⟩, Nat.le_of_ble_eq_true rfl, Nat.le_of_ble_eq_true rfl⟩ hl.1 (Nat.le_of_ble_eq_true rfl) ⟨Nat.le_of_ble_eq_true rfl, Nat.le_of_ble_eq_true rfl⟩ rfl dL_bells_102 (fun u_3 H locs hu_3 hW => ?_)
      obtain rfl : u_3 = true := by
        cases u_3 with
        | true => rfl
        | false => exact absurd ((hnE_nat hk (by omega) (by omega)).trans (if_pos (by omega))) (show ¬ _ = 0 from hu_3)
      have hW : wd g _ s.heap [bB h q z, vB g (q 0) na (addV V k (cq k) (nI (1 + w0))), vB g (q 1) ta TV, vB g (q 2) pa SV, hB g (q 3) hq hh (recO o n) (recS n), vB g (hh 0) (aa 0) (recH o n HV V 0), vB g (hh 1) (aa 1) (recH o n HV V 1), vB g (hh 2) (aa 2) (recH o n HV V 2), vB g (hh 3) (aa 3) (recH o n HV V 3), vB g (hh 4) (aa 4) (recH o n HV V 4), rB g (q 4) ra NN, tB g (q 5) sa (fun _ => 0) 0, aR g at_ 54 (rT (up2 (up2 (up2 (up2 V 9 (k * 5 + (cq k)) (nI (1 + w0))) 10 (k * 5 + (cq k)) 0) 11 (k * 5 + (cq k)) 0) 3 k ((V 3 k) + 1))), aR g aw 30 ((up2 (up2 (up2 (up2 V 9 (k * 5 + (cq k)) (nI (1 + w0))) 10 (k * 5 + (cq k)) 0) 11 (k * 5 + (cq k)) 0) 3 k ((V 3 k) + 1)) 9), aR g ar 30 ((up2 (up2 (up2 (up2 V 9 (k * 5 + (cq k)) (nI (1 + w0))) 10 (k * 5 + (cq k)) 0) 11 (k * 5 + (cq k)) 0) 3 k ((V 3 k) + 1)) 10), aR g ag 30 ((up2 (up2 (up2 (up2 V 9 (k * 5 + (cq k)) (nI (1 + w0))) 10 (k * 5 + (cq k)) 0) 11 (k * 5 + (cq k)) 0) 3 k ((V 3 k) + 1)) 11)] H locs := hW
      have hP := hW.1
      refine b_top (y := nI (cq k)) (cond_true _ _) ?_
      refine lv_iload hx hb dL_bells_105 (lv_at hl 1 rfl) ?_
      refine b_ne (tgt := 114) (cq k) ((cq k)) hx hb rfl rfl (by omega) (by omega) dL_bells_107 (by decide) (fun h_4 => ?_) (fun h_4 => ?_)
      · exact absurd rfl h_4
      · refine lv_iconst (v := 1) hx hb dL_bells_110 (by decide) ?_
        refine lv_goto (tgt := 115) hx hb dL_bells_111 (by decide) ?_
        exact uZ_ret ((addV V k (cq k) (nI (1 + w0))), cqP cq k (cq k + 1), recO o n, recS n, recH o n HV V) hW hx hb hr hlocks dL_bells_115 (by rfl) (rfl) ⟨li_add LIh hk (by omega) (by omega), rec_o ho hn, rec_n hn, fun _ => rfl⟩ (by rw [add_law (LIh.cnt k hk).1]) (adr2 (L := [[h], [q 0, na 0, na 1, na 2, na 3, na 4, na 5, na 6, na 7, na 8, na 9, na 10, na 11], [q 1, ta 0, ta 1, ta 2, ta 3, ta 4, ta 5, ta 6, ta 7, ta 8, ta 9, ta 10, ta 11], [q 2, pa 0, pa 1, pa 2, pa 3, pa 4, pa 5, pa 6, pa 7, pa 8, pa 9, pa 10, pa 11], [q 3, hq], [hh 0, aa 0 0, aa 0 1, aa 0 2, aa 0 3, aa 0 4, aa 0 5, aa 0 6, aa 0 7, aa 0 8, aa 0 9, aa 0 10, aa 0 11], [hh 1, aa 1 0, aa 1 1, aa 1 2, aa 1 3, aa 1 4, aa 1 5, aa 1 6, aa 1 7, aa 1 8, aa 1 9, aa 1 10, aa 1 11], [hh 2, aa 2 0, aa 2 1, aa 2 2, aa 2 3, aa 2 4, aa 2 5, aa 2 6, aa 2 7, aa 2 8, aa 2 9, aa 2 10, aa 2 11], [hh 3, aa 3 0, aa 3 1, aa 3 2, aa 3 3, aa 3 4, aa 3 5, aa 3 6, aa 3 7, aa 3 8, aa 3 9, aa 3 10, aa 3 11], [hh 4, aa 4 0, aa 4 1, aa 4 2, aa 4 3, aa 4 4, aa 4 5, aa 4 6, aa 4 7, aa 4 8, aa 4 9, aa 4 10, aa 4 11], [q 4, ra 0, ra 1, ra 2, ra 3], [q 5, sa], [at_], [aw], [ar], [ag]]) rfl rfl)
    · have hfull : cq k = 5 := h_2
      refine lv_aload_n hx hb dL_bells_33 rfl (lv_at hl 2 rfl) ?_
      refine lv_iload hx hb dL_bells_34 (lv_at hl 7 rfl) ?_
      refine lv_iload hx hb dL_bells_36 (lv_at hl 0 rfl) ?_
      refine call_VU (As := [.int (nI k), .int (nI (1 + w0))]) (rest := []) E rfl hK hW (c_X4_hang l g h q z na V ta TV pa SV hq hh o n aa HV ra NN sa (fun _ => 0) 0 (nI k) (nI (1 + w0)) k ho hn (Nat.zero_le _) (fun _ => ⟨rfl, hk⟩) (cq k) (fun _ => LIh.cnt k hk)) ok_X4_hang rfl q2_150 [0, 1, 2, 3, 4, 5, 6, 7, 8, 9, 10, 11] rfl (by decide) (b_recv hK hP 0 0 rfl rfl rfl rfl) ⟨⟨rfl, rfl⟩, Nat.le_of_ble_eq_true rfl, Nat.le_of_ble_eq_true rfl⟩ hl.1 (Nat.le_of_ble_eq_true rfl) ⟨Nat.le_of_ble_eq_true rfl, Nat.le_of_ble_eq_true rfl⟩ rfl dL_bells_38 (fun u_5 H locs hu_5 hW => ?_)
      obtain rfl : u_5 = false := by
        cases u_5 with
        | false => rfl
        | true => exact absurd (((hnE_nat hk (by omega) (by omega)).trans (if_neg (by omega))).symm.trans (show _ = 0 from hu_5)) (by decide)
      have hW : wd g _ s.heap [bB h q z, vB g (q 0) na V, vB g (q 1) ta TV, vB g (q 2) pa SV, hB g (q 3) hq hh o n, vB g (hh 0) (aa 0) (HV 0), vB g (hh 1) (aa 1) (HV 1), vB g (hh 2) (aa 2) (HV 2), vB g (hh 3) (aa 3) (HV 3), vB g (hh 4) (aa 4) (HV 4), rB g (q 4) ra NN, tB g (q 5) sa (fun _ => 0) 0, aR g at_ 54 (rT V), aR g aw 30 (V 9), aR g ar 30 (V 10), aR g ag 30 (V 11)] H locs := hW
      have hP := hW.1
      refine b_top (y := -3) ((cond_false _ _).trans ((hnE_nat hk (by omega) (by omega)).trans (if_neg (by omega)))) ?_
      refine lv_bipush (v := -3) hx hb dL_bells_41 (by decide) ?_
      refine lv_icmp_ne (tgt := 50) hx hb dL_bells_43 (by decide) (fun h_6 => ?_) (fun h_6 => ?_)
      · exact absurd rfl h_6
      · refine lv_iconst (v := 1) hx hb dL_bells_46 (by decide) ?_
        refine lv_goto (tgt := 51) hx hb dL_bells_47 (by decide) ?_
        exact uZ_ret (V, cq, o, n, HV) hW hx hb hr hlocks dL_bells_51 (by rfl) (rfl) ⟨LIh, ho, hn, fun _ => rfl⟩ (rfl) (adr2 (L := [[h], [q 0, na 0, na 1, na 2, na 3, na 4, na 5, na 6, na 7, na 8, na 9, na 10, na 11], [q 1, ta 0, ta 1, ta 2, ta 3, ta 4, ta 5, ta 6, ta 7, ta 8, ta 9, ta 10, ta 11], [q 2, pa 0, pa 1, pa 2, pa 3, pa 4, pa 5, pa 6, pa 7, pa 8, pa 9, pa 10, pa 11], [q 3, hq], [hh 0, aa 0 0, aa 0 1, aa 0 2, aa 0 3, aa 0 4, aa 0 5, aa 0 6, aa 0 7, aa 0 8, aa 0 9, aa 0 10, aa 0 11], [hh 1, aa 1 0, aa 1 1, aa 1 2, aa 1 3, aa 1 4, aa 1 5, aa 1 6, aa 1 7, aa 1 8, aa 1 9, aa 1 10, aa 1 11], [hh 2, aa 2 0, aa 2 1, aa 2 2, aa 2 3, aa 2 4, aa 2 5, aa 2 6, aa 2 7, aa 2 8, aa 2 9, aa 2 10, aa 2 11], [hh 3, aa 3 0, aa 3 1, aa 3 2, aa 3 3, aa 3 4, aa 3 5, aa 3 6, aa 3 7, aa 3 8, aa 3 9, aa 3 10, aa 3 11], [hh 4, aa 4 0, aa 4 1, aa 4 2, aa 4 3, aa 4 4, aa 4 5, aa 4 6, aa 4 7, aa 4 8, aa 4 9, aa 4 10, aa 4 11], [q 4, ra 0, ra 1, ra 2, ra 3], [q 5, sa], [at_], [aw], [ar], [ag]]) rfl rfl)
