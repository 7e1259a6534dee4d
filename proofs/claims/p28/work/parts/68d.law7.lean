set_option maxHeartbeats 4000000 in
set_option maxRecDepth 100000 in
theorem c_L_settles (l : Launch) (g : gx) (h : Nat) (q : Nat → Nat) (z : Int32) (na : Nat → Nat) (V : sV) (ta : Nat → Nat) (TV : sV) (pa : Nat → Nat) (SV : sV) (hq : Nat) (hh : Nat → Nat) (o n : Nat) (aa : Nat → Nat → Nat) (HV : Nat → sV) (ra : Nat → Nat) (NN : sV) (sa : Nat) (at_ : Nat) (cq : Nat → Nat) (B k : Nat) (x : Int32) (ho : o < 5) (hn : n ≤ 5) (LIh : LI V cq B) (hk : k < 6) : cU (S := sV × (Nat → Nat) × Nat × Nat × (Nat → sV)) l g yL_settles cL_settles 7 (some .boolean) ({ frames := 5, cells := 0, slots := 0, locals := 147 } : Room) [.ref h, .ref at_, .int (nI k), .int x] [bB h q z, vB g (q 0) na V, vB g (q 1) ta TV, vB g (q 2) pa SV, hB g (q 3) hq hh o n, vB g (hh 0) (aa 0) (HV 0), vB g (hh 1) (aa 1) (HV 1), vB g (hh 2) (aa 2) (HV 2), vB g (hh 3) (aa 3) (HV 3), vB g (hh 4) (aa 4) (HV 4), rB g (q 4) ra NN, tB g (q 5) sa (fun _ => 0) 0, aR g at_ 54 (rT V)] (fun u9 => some (.int (1 : Int32))) (fun u9 => LI u9.1 u9.2.1 B ∧ u9.2.2.1 < 5 ∧ u9.2.2.2.1 ≤ 5 ∧ ∀ r j, 9 ≤ r → u9.1 r j = V r j) (fun u9 => [bB h q z, vB g (q 0) na u9.1, vB g (q 1) ta TV, vB g (q 2) pa SV, hB g (q 3) hq hh u9.2.2.1 u9.2.2.2.1, vB g (hh 0) (aa 0) (u9.2.2.2.2 0), vB g (hh 1) (aa 1) (u9.2.2.2.2 1), vB g (hh 2) (aa 2) (u9.2.2.2.2 2), vB g (hh 3) (aa 3) (u9.2.2.2.2 3), vB g (hh 4) (aa 4) (u9.2.2.2.2 4), rB g (q 4) ra NN, tB g (q 5) sa (fun _ => 0) 0, aR g at_ 54 (rT u9.1)]) := by
  refine cU.mk (by decide +kernel) (Nat.le_of_ble_eq_true rfl) ?_
  intro p e s m below meth c ls E hK hW hl
  obtain ⟨hx, hb, hr, hml, hts, hown, hlocks, hin⟩ := id E
  have hown : s.vm.findClass RL = some m.cls := hown
  have hP := hW.1
  have hl : lv_has ls 7 [(0, .ref h), (1, .ref at_), (2, .int (nI k)), (3, .int x)] := hl
  refine lv_iload_n hx hb dL_settles_0 rfl (lv_at hl 3 rfl) ?_
  refine lv_bipush (v := 41) hx hb dL_settles_1 (by decide) ?_
  refine call_SR (As := [.int x, .int 41]) (rest := []) E rfl hK hP (c_L_low l g x 41 (by first | omega | assumption) (by first | omega | assumption)) ok_L_low rfl q1_187 [] rfl ⟨⟨rfl, rfl⟩, Nat.le_of_ble_eq_true rfl, Nat.le_of_ble_eq_true rfl⟩ hl.1 (Nat.le_of_ble_eq_true rfl) ⟨Nat.le_of_ble_eq_true rfl, Nat.le_of_ble_eq_true rfl⟩ rfl dL_settles_3 ?_
  obtain ⟨mi, hmi⟩ : ∃ z, z = lowN x 41 := ⟨_, rfl⟩
  have hmi5 : mi < 41 := by rw [hmi]; exact lowN_lt _ (by decide)
  refine b_top (y := nI mi) (by rw [hmi]) ?_
  refine lv_istore (lv' := [(4, .int (nI mi)), (0, .ref h), (1, .ref at_), (2, .int (nI k)), (3, .int x)]) hx hb dL_settles_6 hl (by decide) rfl (fun ls hl => ?_)
  refine lv_iconst (v := 1) hx hb dL_settles_8 (by decide) ?_
  refine lv_iload_n hx hb dL_settles_9 rfl (lv_at hl 4 rfl) ?_
  refine lv_bipush (v := 6) hx hb dL_settles_10 (by decide) ?_
  refine lv_ishr hx hb dL_settles_12 ?_
  refine lv_bipush (v := 20) hx hb dL_settles_13 (by decide) ?_
  refine call_SR (As := [.int (x >>> ((6 : Int32) &&& 31)), .int 20]) (rest := [.int 1]) E rfl hK hP (c_L_low l g (x >>> ((6 : Int32) &&& 31)) 20 (by first | omega | assumption) (by first | omega | assumption)) ok_L_low rfl q1_187 [] rfl ⟨⟨rfl, rfl⟩, Nat.le_of_ble_eq_true rfl, Nat.le_of_ble_eq_true rfl⟩ hl.1 (Nat.le_of_ble_eq_true rfl) ⟨Nat.le_of_ble_eq_true rfl, Nat.le_of_ble_eq_true rfl⟩ rfl dL_settles_15 ?_
  obtain ⟨r0, hr0⟩ : ∃ z, z = lowN (x >>> ((6 : Int32) &&& 31)) 20 := ⟨_, rfl⟩
  have hr020 : r0 < 20 := by rw [hr0]; exact lowN_lt _ (by decide)
  refine b_top (y := nI r0) (by rw [hr0]) ?_
  refine lv_iadd hx hb dL_settles_18 ?_
  refine b_top (y := nI (1 + r0)) (nI_add 1 r0) ?_
  obtain ⟨ri, hri⟩ : ∃ z, z = 1 + r0 := ⟨_, rfl⟩
  refine b_top (y := nI ri) (by rw [hri]) ?_
  refine lv_istore (lv' := [(5, .int (nI ri)), (4, .int (nI mi)), (0, .ref h), (1, .ref at_), (2, .int (nI k)), (3, .int x)]) hx hb dL_settles_19 hl (by decide) rfl (fun ls hl => ?_)
  refine lv_iconst (v := 0) hx hb dL_settles_21 (by decide) ?_
  refine lv_istore (lv' := [(6, .int 0), (5, .int (nI ri)), (4, .int (nI mi)), (0, .ref h), (1, .ref at_), (2, .int (nI k)), (3, .int x)]) hx hb dL_settles_22 hl (by decide) rfl (fun ls hl => ?_)
  refine loopN (fun j : Nat => ∀ (H : Heap) (locs : List Loc) (ls : Array Slot), wd g (fun z9 => z9 ∈ adr [bB h q z, vB g (q 0) na V, vB g (q 1) ta TV, vB g (q 2) pa SV, hB g (q 3) hq hh o n, vB g (hh 0) (aa 0) (HV 0), vB g (hh 1) (aa 1) (HV 1), vB g (hh 2) (aa 2) (HV 2), vB g (hh 3) (aa 3) (HV 3), vB g (hh 4) (aa 4) (HV 4), rB g (q 4) ra NN, tB g (q 5) sa (fun _ => 0) 0, aR g at_ 54 (rT V)]) s.heap [bB h q z, vB g (q 0) na V, vB g (q 1) ta TV, vB g (q 2) pa SV, hB g (q 3) hq hh o n, vB g (hh 0) (aa 0) (HV 0), vB g (hh 1) (aa 1) (HV 1), vB g (hh 2) (aa 2) (HV 2), vB g (hh 3) (aa 3) (HV 3), vB g (hh 4) (aa 4) (HV 4), rB g (q 4) ra NN, tB g (q 5) sa (fun _ => 0) 0, aR g at_ 54 (rT V)] H locs → lv_has ls 7 [(0, .ref h), (1, .ref at_), (2, .int (nI k)), (3, .int x), (4, .int (nI mi)), (5, .int (nI ri)), (6, .int (nI j))] → (∀ j9, j9 < j → j9 ≠ k → ¬ V 0 j9 = nI mi) → W p l e _ s m _ below meth c H locs 0 0 _ (F0 m 24 ls [])) (6) (fun j hij ih_j => ?_) (0) (by omega)  s.heap [] ls hW (lv_sub hl [3, 4, 5, 6, 2, 1, 0] rfl) (fun j9 h9 => absurd h9 (Nat.not_lt_zero _))
  intro  H locs ls hW hl hno
  have hP := hW.1
  refine lv_iload hx hb dL_settles_24 (lv_at hl 6 rfl) ?_
  refine lv_bipush (v := 6) hx hb dL_settles_26 (by decide) ?_
  refine b_ge (tgt := 75) (j) (6) hx hb rfl rfl (by omega) (by omega) dL_settles_28 (by decide) (fun h_1 => ?_) (fun h_1 => ?_)
  · obtain rfl : j = 6 := by omega
    refine lv_aload_n hx hb dL_settles_75 rfl (lv_at hl 1 rfl) ?_
    refine lv_bipush (v := 9) hx hb dL_settles_76 (by decide) ?_
    refine lv_iload_n hx hb dL_settles_78 rfl (lv_at hl 2 rfl) ?_
    refine lv_imul hx hb dL_settles_79 ?_
    refine b_top (y := nI (9 * k)) (pk_mul 9 k) ?_
    refine lv_iload hx hb dL_settles_80 (lv_at hl 4 rfl) ?_
    refine b_iastE (B' := [bB h q z, vB g (q 0) na V, vB g (q 1) ta TV, vB g (q 2) pa SV, hB g (q 3) hq hh o n, vB g (hh 0) (aa 0) (HV 0), vB g (hh 1) (aa 1) (HV 1), vB g (hh 2) (aa 2) (HV 2), vB g (hh 3) (aa 3) (HV 3), vB g (hh 4) (aa 4) (HV 4), rB g (q 4) ra NN, tB g (q 5) sa (fun _ => 0) 0, aR g at_ 54 (rT (up2 V 0 k (nI mi)))]) hx hb hK hW 12 0 (9 * k) rfl rfl rfl (by omega) rfl (rT_put0 _ _ _) rfl dL_settles_82 (fun H locs hW => ?_)
    have hP := hW.1
    refine lv_aload_n hx hb dL_settles_83 rfl (lv_at hl 1 rfl) ?_
    refine lv_bipush (v := 9) hx hb dL_settles_84 (by decide) ?_
    refine lv_iload_n hx hb dL_settles_86 rfl (lv_at hl 2 rfl) ?_
    refine lv_imul hx hb dL_settles_87 ?_
    refine b_top (y := nI (9 * k)) (pk_mul 9 k) ?_
    refine lv_iconst (v := 1) hx hb dL_settles_88 (by decide) ?_
    refine lv_iadd hx hb dL_settles_89 ?_
    refine b_top (y := nI ((9 * k) + 1)) (nI_add (9 * k) 1) ?_
    refine lv_iload hx hb dL_settles_90 (lv_at hl 5 rfl) ?_
    refine b_iastE (B' := [bB h q z, vB g (q 0) na V, vB g (q 1) ta TV, vB g (q 2) pa SV, hB g (q 3) hq hh o n, vB g (hh 0) (aa 0) (HV 0), vB g (hh 1) (aa 1) (HV 1), vB g (hh 2) (aa 2) (HV 2), vB g (hh 3) (aa 3) (HV 3), vB g (hh 4) (aa 4) (HV 4), rB g (q 4) ra NN, tB g (q 5) sa (fun _ => 0) 0, aR g at_ 54 (rT (up2 (up2 V 0 k (nI mi)) 1 k (nI ri)))]) hx hb hK hW 12 0 ((9 * k) + 1) rfl rfl rfl (by omega) rfl (rT_put _ (by omega) _) rfl dL_settles_92 (fun H locs hW => ?_)
    have hP := hW.1
    refine lv_aload_n hx hb dL_settles_93 rfl (lv_at hl 1 rfl) ?_
    refine lv_bipush (v := 9) hx hb dL_settles_94 (by decide) ?_
    refine lv_iload_n hx hb dL_settles_96 rfl (lv_at hl 2 rfl) ?_
    refine lv_imul hx hb dL_settles_97 ?_
    refine b_top (y := nI (9 * k)) (pk_mul 9 k) ?_
    refine lv_iconst (v := 2) hx hb dL_settles_98 (by decide) ?_
    refine lv_iadd hx hb dL_settles_99 ?_
    refine b_top (y := nI ((9 * k) + 2)) (nI_add (9 * k) 2) ?_
    refine lv_iload hx hb dL_settles_100 (lv_at hl 5 rfl) ?_
    refine lv_aload_n hx hb dL_settles_102 rfl (lv_at hl 1 rfl) ?_
    refine lv_bipush (v := 9) hx hb dL_settles_103 (by decide) ?_
    refine lv_iload_n hx hb dL_settles_105 rfl (lv_at hl 2 rfl) ?_
    refine lv_imul hx hb dL_settles_106 ?_
    refine b_top (y := nI (9 * k)) (pk_mul 9 k) ?_
    refine lv_iconst (v := 2) hx hb dL_settles_107 (by decide) ?_
    refine lv_iadd hx hb dL_settles_108 ?_
    refine b_top (y := nI ((9 * k) + 2)) (nI_add (9 * k) 2) ?_
    refine b_iald (v := V 2 k) hx hb hK hP 12 0 ((9 * k) + 2) rfl rfl rfl (by omega) rfl ((rT_at _ (by omega)).trans rfl) dL_settles_109 ?_
    refine lv_icmp_ge (tgt := 118) hx hb dL_settles_110 (by decide) (fun h_2 => ?_) (fun h_2 => ?_)
    · have hmin : V 2 k = minI (V 2 k) (nI ri) := (if_neg (Int32.not_lt.mpr h_2)).symm
      have hVL : up2 (up2 (up2 V 0 k (nI mi)) 1 k (nI ri)) 2 k (V 2 k) = up2 (up2 (up2 V 0 k (nI mi)) 1 k (nI ri)) 2 k (minI (V 2 k) (nI ri)) := congrArg (up2 (up2 (up2 V 0 k (nI mi)) 1 k (nI ri)) 2 k) hmin
      refine lv_aload_n hx hb dL_settles_118 rfl (lv_at hl 1 rfl) ?_
      refine lv_bipush (v := 9) hx hb dL_settles_119 (by decide) ?_
      refine lv_iload_n hx hb dL_settles_121 rfl (lv_at hl 2 rfl) ?_
      refine lv_imul hx hb dL_settles_122 ?_
      refine b_top (y := nI (9 * k)) (pk_mul 9 k) ?_
      refine lv_iconst (v := 2) hx hb dL_settles_123 (by decide) ?_
      refine lv_iadd hx hb dL_settles_124 ?_
      refine b_top (y := nI ((9 * k) + 2)) (nI_add (9 * k) 2) ?_
      refine b_iald (v := V 2 k) hx hb hK hP 12 0 ((9 * k) + 2) rfl rfl rfl (by omega) rfl ((rT_at _ (by omega)).trans rfl) dL_settles_125 ?_
      refine b_iastE (B' := [bB h q z, vB g (q 0) na V, vB g (q 1) ta TV, vB g (q 2) pa SV, hB g (q 3) hq hh o n, vB g (hh 0) (aa 0) (HV 0), vB g (hh 1) (aa 1) (HV 1), vB g (hh 2) (aa 2) (HV 2), vB g (hh 3) (aa 3) (HV 3), vB g (hh 4) (aa 4) (HV 4), rB g (q 4) ra NN, tB g (q 5) sa (fun _ => 0) 0, aR g at_ 54 (rT (up2 (up2 (up2 V 0 k (nI mi)) 1 k (nI ri)) 2 k (V 2 k)))]) hx hb hK hW 12 0 ((9 * k) + 2) rfl rfl rfl (by omega) rfl (rT_put _ (by omega) _) rfl dL_settles_126 (fun H locs hW => ?_)
      have hP := hW.1
      refine lv_aload_n hx hb dL_settles_127 rfl (lv_at hl 0 rfl) ?_
      refine lv_iload_n hx hb dL_settles_128 rfl (lv_at hl 2 rfl) ?_
      refine lv_iload hx hb dL_settles_129 (lv_at hl 4 rfl) ?_
      refine lv_iload hx hb dL_settles_131 (lv_at hl 5 rfl) ?_
      refine call_VU (As := [.int (nI k), .int (nI mi), .int (nI ri)]) (rest := []) E rfl hK hW (c_X4_settle l g h q z na V ta TV pa SV hq hh o n aa HV ra NN sa (fun _ => 0) 0 (nI k) (nI mi) (nI ri) k ho hn (Nat.zero_le _) (fun _ => ⟨rfl, hk⟩)) ok_X4_settle rfl q2_196 [0, 1, 2, 3, 4, 5, 6, 7, 8, 9, 10, 11] rfl (by decide) (b_recv hK hP 0 0 rfl rfl rfl rfl) ⟨⟨rfl, rfl⟩, Nat.le_of_ble_eq_true rfl, Nat.le_of_ble_eq_true rfl⟩ hl.1 (Nat.le_of_ble_eq_true rfl) ⟨Nat.le_of_ble_eq_true rfl, Nat.le_of_ble_eq_true rfl⟩ rfl dL_settles_133 (fun u_3 H locs hu_3 hW => ?_)
      obtain rfl : u_3 = true := by
        cases u_3 with
        | true => rfl
        | false => exact absurd ((seE_nat hk (by omega) (by omega) (by omega)).trans (if_neg (by rw [tak_no 6 hno]; decide))) (show ¬ _ = 0 from hu_3)
      have hW : wd g _ s.heap [bB h q z, vB g (q 0) na (up2 (up2 (up2 V 0 k (nI mi)) 1 k (nI ri)) 2 k (minI (V 2 k) (nI ri))), vB g (q 1) ta TV, vB g (q 2) pa SV, hB g (q 3) hq hh (recO o n) (recS n), vB g (hh 0) (aa 0) (recH o n HV V 0), vB g (hh 1) (aa 1) (recH o n HV V 1), vB g (hh 2) (aa 2) (recH o n HV V 2), vB g (hh 3) (aa 3) (recH o n HV V 3), vB g (hh 4) (aa 4) (recH o n HV V 4), rB g (q 4) ra NN, tB g (q 5) sa (fun _ => 0) 0, aR g at_ 54 (rT (up2 (up2 (up2 V 0 k (nI mi)) 1 k (nI ri)) 2 k (V 2 k)))] H locs := hW
      have hP := hW.1
      refine b_top (y := minI (V 2 k) (nI ri)) (cond_true _ _) ?_
      refine lv_aload_n hx hb dL_settles_136 rfl (lv_at hl 1 rfl) ?_
      refine lv_bipush (v := 9) hx hb dL_settles_137 (by decide) ?_
      refine lv_iload_n hx hb dL_settles_139 rfl (lv_at hl 2 rfl) ?_
      refine lv_imul hx hb dL_settles_140 ?_
      refine b_top (y := nI (9 * k)) (pk_mul 9 k) ?_
      refine lv_iconst (v := 2) hx hb dL_settles_141 (by decide) ?_
      refine lv_iadd hx hb dL_settles_142 ?_
      refine b_top (y := nI ((9 * k) + 2)) (nI_add (9 * k) 2) ?_
      refine b_iald (v := (V 2 k)) hx hb hK hP 12 0 ((9 * k) + 2) rfl rfl rfl (by omega) rfl ((rT_at _ (by omega)).trans (up2_eq (up2 (up2 V 0 k (nI mi)) 1 k (nI ri)) 2 k (V 2 k))) dL_settles_143 ?_
      refine lv_icmp_ne (tgt := 151) hx hb dL_settles_144 (by decide) (fun h_4 => ?_) (fun h_4 => ?_)
      · exact absurd hmin.symm h_4
      · refine lv_iconst (v := 1) hx hb dL_settles_147 (by decide) ?_
        refine lv_goto (tgt := 152) hx hb dL_settles_148 (by decide) ?_
        exact uZ_ret ((up2 (up2 (up2 V 0 k (nI mi)) 1 k (nI ri)) 2 k (minI (V 2 k) (nI ri))), cq, recO o n, recS n, recH o n HV V) hW hx hb hr hlocks dL_settles_152 (by rfl) (rfl) ⟨li_set0 (mi := mi) (ri := ri) LIh hk (by omega) (by omega), rec_o ho hn, rec_n hn, fun r9 j9 h9 => by show up2 (up2 (up2 V 0 k (nI mi)) 1 k (nI ri)) 2 k (minI (V 2 k) (nI ri)) r9 j9 = V r9 j9; rw [up2_ne (by omega), up2_ne (by omega), up2_ne (by omega)]⟩ (by rw [hVL]) (adr2 (L := [[h], [q 0, na 0, na 1, na 2, na 3, na 4, na 5, na 6, na 7, na 8, na 9, na 10, na 11], [q 1, ta 0, ta 1, ta 2, ta 3, ta 4, ta 5, ta 6, ta 7, ta 8, ta 9, ta 10, ta 11], [q 2, pa 0, pa 1, pa 2, pa 3, pa 4, pa 5, pa 6, pa 7, pa 8, pa 9, pa 10, pa 11], [q 3, hq], [hh 0, aa 0 0, aa 0 1, aa 0 2, aa 0 3, aa 0 4, aa 0 5, aa 0 6, aa 0 7, aa 0 8, aa 0 9, aa 0 10, aa 0 11], [hh 1, aa 1 0, aa 1 1, aa 1 2, aa 1 3, aa 1 4, aa 1 5, aa 1 6, aa 1 7, aa 1 8, aa 1 9, aa 1 10, aa 1 11], [hh 2, aa 2 0, aa 2 1, aa 2 2, aa 2 3, aa 2 4, aa 2 5, aa 2 6, aa 2 7, aa 2 8, aa 2 9, aa 2 10, aa 2 11], [hh 3, aa 3 0, aa 3 1, aa 3 2, aa 3 3, aa 3 4, aa 3 5, aa 3 6, aa 3 7, aa 3 8, aa 3 9, aa 3 10, aa 3 11], [hh 4, aa 4 0, aa 4 1, aa 4 2, aa 4 3, aa 4 4, aa 4 5, aa 4 6, aa 4 7, aa 4 8, aa 4 9, aa 4 10, aa 4 11], [q 4, ra 0, ra 1, ra 2, ra 3], [q 5, sa], [at_]]) rfl rfl)
    · have hmin : nI ri = minI (V 2 k) (nI ri) := (if_pos (Int32.not_le.mp h_2)).symm
      have hVL : up2 (up2 (up2 V 0 k (nI mi)) 1 k (nI ri)) 2 k (nI ri) = up2 (up2 (up2 V 0 k (nI mi)) 1 k (nI ri)) 2 k (minI (V 2 k) (nI ri)) := congrArg (up2 (up2 (up2 V 0 k (nI mi)) 1 k (nI ri)) 2 k) hmin
      refine lv_iload hx hb dL_settles_113 (lv_at hl 5 rfl) ?_
      refine lv_goto (tgt := 126) hx hb dL_settles_115 (by decide) ?_
      refine b_iastE (B' := [bB h q z, vB g (q 0) na V, vB g (q 1) ta TV, vB g (q 2) pa SV, hB g (q 3) hq hh o n, vB g (hh 0) (aa 0) (HV 0), vB g (hh 1) (aa 1) (HV 1), vB g (hh 2) (aa 2) (HV 2), vB g (hh 3) (aa 3) (HV 3), vB g (hh 4) (aa 4) (HV 4), rB g (q 4) ra NN, tB g (q 5) sa (fun _ => 0) 0, aR g at_ 54 (rT (up2 (up2 (up2 V 0 k (nI mi)) 1 k (nI ri)) 2 k (nI ri)))]) hx hb hK hW 12 0 ((9 * k) + 2) rfl rfl rfl (by omega) rfl (rT_put _ (by omega) _) rfl dL_settles_126 (fun H locs hW => ?_)
      have hP := hW.1
      refine lv_aload_n hx hb dL_settles_127 rfl (lv_at hl 0 rfl) ?_
      refine lv_iload_n hx hb dL_settles_128 rfl (lv_at hl 2 rfl) ?_
      refine lv_iload hx hb dL_settles_129 (lv_at hl 4 rfl) ?_
      refine lv_iload hx hb dL_settles_131 (lv_at hl 5 rfl) ?_
      refine call_VU (As := [.int (nI k), .int (nI mi), .int (nI ri)]) (rest := []) E rfl hK hW (c_X4_settle l g h q z na V ta TV pa SV hq hh o n aa HV ra NN sa (fun _ => 0) 0 (nI k) (nI mi) (nI ri) k ho hn (Nat.zero_le _) (fun _ => ⟨rfl, hk⟩)) ok_X4_settle rfl q2_196 [0, 1, 2, 3, 4, 5, 6, 7, 8, 9, 10, 11] rfl (by decide) (b_recv hK hP 0 0 rfl rfl rfl rfl) ⟨⟨rfl, rfl⟩, Nat.le_of_ble_eq_true rfl, Nat.le_of_ble_eq_true rfl⟩ hl.1 (Nat.le_of_ble_eq_true rfl) ⟨Nat.le_of_ble_eq_true rfl, Nat.le_of_ble_eq_true rfl⟩ rfl dL_settles_133 (fun u_5 H locs hu_5 hW => ?_)
      obtain rfl : u_5 = true := by
        cases u_5 with
        | true => rfl
        | false => exact absurd ((seE_nat hk (by omega) (by omega) (by omega)).trans (if_neg (by rw [tak_no 6 hno]; decide))) (show ¬ _ = 0 from hu_5)
      have hW : wd g _ s.heap [bB h q z, vB g (q 0) na (up2 (up2 (up2 V 0 k (nI mi)) 1 k (nI ri)) 2 k (minI (V 2 k) (nI ri))), vB g (q 1) ta TV, vB g (q 2) pa SV, hB g (q 3) hq hh (recO o n) (recS n), vB g (hh 0) (aa 0) (recH o n HV V 0), vB g (hh 1) (aa 1) (recH o n HV V 1), vB g (hh 2) (aa 2) (recH o n HV V 2), vB g (hh 3) (aa 3) (recH o n HV V 3), vB g (hh 4) (aa 4) (recH o n HV V 4), rB g (q 4) ra NN, tB g (q 5) sa (fun _ => 0) 0, aR g at_ 54 (rT (up2 (up2 (up2 V 0 k (nI mi)) 1 k (nI ri)) 2 k (nI ri)))] H locs := hW
      have hP := hW.1
      refine b_top (y := minI (V 2 k) (nI ri)) (cond_true _ _) ?_
      refine lv_aload_n hx hb dL_settles_136 rfl (lv_at hl 1 rfl) ?_
      refine lv_bipush (v := 9) hx hb dL_settles_137 (by decide) ?_
      refine lv_iload_n hx hb dL_settles_139 rfl (lv_at hl 2 rfl) ?_
      refine lv_imul hx hb dL_settles_140 ?_
      refine b_top (y := nI (9 * k)) (pk_mul 9 k) ?_
      refine lv_iconst (v := 2) hx hb dL_settles_141 (by decide) ?_
      refine lv_iadd hx hb dL_settles_142 ?_
      refine b_top (y := nI ((9 * k) + 2)) (nI_add (9 * k) 2) ?_
      refine b_iald (v := (nI ri)) hx hb hK hP 12 0 ((9 * k) + 2) rfl rfl rfl (by omega) rfl ((rT_at _ (by omega)).trans (up2_eq (up2 (up2 V 0 k (nI mi)) 1 k (nI ri)) 2 k (nI ri))) dL_settles_143 ?_
      refine lv_icmp_ne (tgt := 151) hx hb dL_settles_144 (by decide) (fun h_6 => ?_) (fun h_6 => ?_)
      · exact absurd hmin.symm h_6
      · refine lv_iconst (v := 1) hx hb dL_settles_147 (by decide) ?_
        refine lv_goto (tgt := 152) hx hb dL_settles_148 (by decide) ?_
        exact uZ_ret ((up2 (up2 (up2 V 0 k (nI mi)) 1 k (nI ri)) 2 k (minI (V 2 k) (nI ri))), cq, recO o n, recS n, recH o n HV V) hW hx hb hr hlocks dL_settles_152 (by rfl) (rfl) ⟨li_set0 (mi := mi) (ri := ri) LIh hk (by omega) (by omega), rec_o ho hn, rec_n hn, fun r9 j9 h9 => by show up2 (up2 (up2 V 0 k (nI mi)) 1 k (nI ri)) 2 k (minI (V 2 k) (nI ri)) r9 j9 = V r9 j9; rw [up2_ne (by omega), up2_ne (by omega), up2_ne (by omega)]⟩ (by rw [hVL]) (adr2 (L := [[h], [q 0, na 0, na 1, na 2, na 3, na 4, na 5, na 6, na 7, na 8, na 9, na 10, na 11], [q 1, ta 0, ta 1, ta 2, ta 3, ta 4, ta 5, ta 6, ta 7, ta 8, ta 9, ta 10, ta 11], [q 2, pa 0, pa 1, pa 2, pa 3, pa 4, pa 5, pa 6, pa 7, pa 8, pa 9, pa 10, pa 11], [q 3, hq], [hh 0, aa 0 0, aa 0 1, aa 0 2, aa 0 3, aa 0 4, aa 0 5, aa 0 6, aa 0 7, aa 0 8, aa 0 9, aa 0 10, aa 0 11], [hh 1, aa 1 0, aa 1 1, aa 1 2, aa 1 3, aa 1 4, aa 1 5, aa 1 6, aa 1 7, aa 1 8, aa 1 9, aa 1 10, aa 1 11], [hh 2, aa 2 0, aa 2 1, aa 2 2, aa 2 3, aa 2 4, aa 2 5, aa 2 6, aa 2 7, aa 2 8, aa 2 9, aa 2 10, aa 2 11], [hh 3, aa 3 0, aa 3 1, aa 3 2, aa 3 3, aa 3 4, aa 3 5, aa 3 6, aa 3 7, aa 3 8, aa 3 9, aa 3 10, aa 3 11], [hh 4, aa 4 0, aa 4 1, aa 4 2, aa 4 3, aa 4 4, aa 4 5, aa 4 6, aa 4 7, aa 4 8, aa 4 9, aa 4 10, aa 4 11], [q 4, ra 0, ra 1, ra 2, ra 3], [q 5, sa], [at_]]) rfl rfl)
  · refine lv_iload hx hb dL_settles_31 (lv_at hl 6 rfl) ?_
    refine lv_iload_n hx hb dL_settles_33 rfl (lv_at hl 2 rfl) ?_
    refine b_eq (tgt := 69) (j) (k) hx hb rfl rfl (by omega) (by omega) dL_settles_34 (by decide) (fun h_7 => ?_) (fun h_7 => ?_)
    · refine lv_iinc (v := nI (j + 1)) (lv' := [(6, .int (nI (j + 1))), (0, .ref h), (1, .ref at_), (2, .int (nI k)), (3, .int x), (4, .int (nI mi)), (5, .int (nI ri))]) hx hb dL_settles_69 hl (k := 6) rfl (nI_add j 1) (by decide) rfl (fun ls hl => ?_)
      refine lv_goto (tgt := 24) hx hb dL_settles_72 (by decide) ?_
      exact ih_j (by omega)  _ _ _ hW (lv_sub hl [1, 2, 3, 4, 5, 6, 0] rfl) (fun j9 h9 h8 => by rcases (show j9 = j ∨ j9 < j by omega) with rfl | h7 <;> first | exact h_7 | exact absurd h_7 h8 | exact hno j9 h7 h8)
    · refine lv_aload_n hx hb dL_settles_37 rfl (lv_at hl 1 rfl) ?_
      refine lv_bipush (v := 9) hx hb dL_settles_38 (by decide) ?_
      refine lv_iload hx hb dL_settles_40 (lv_at hl 6 rfl) ?_
      refine lv_imul hx hb dL_settles_42 ?_
      refine b_top (y := nI (9 * j)) (pk_mul 9 j) ?_
      refine b_iald (v := V 0 j) hx hb hK hP 12 0 (9 * j) rfl rfl rfl (by omega) rfl ((rT_at0 _ _).trans rfl) dL_settles_43 ?_
      refine lv_iload hx hb dL_settles_44 (lv_at hl 4 rfl) ?_
      refine lv_icmp_ne (tgt := 69) hx hb dL_settles_46 (by decide) (fun h_8 => ?_) (fun h_8 => ?_)
      · refine lv_iinc (v := nI (j + 1)) (lv' := [(6, .int (nI (j + 1))), (0, .ref h), (1, .ref at_), (2, .int (nI k)), (3, .int x), (4, .int (nI mi)), (5, .int (nI ri))]) hx hb dL_settles_69 hl (k := 6) rfl (nI_add j 1) (by decide) rfl (fun ls hl => ?_)
        refine lv_goto (tgt := 24) hx hb dL_settles_72 (by decide) ?_
        exact ih_j (by omega)  _ _ _ hW (lv_sub hl [1, 2, 3, 4, 5, 6, 0] rfl) (fun j9 h9 h8 => by rcases (show j9 = j ∨ j9 < j by omega) with rfl | h7 <;> first | exact h_8 | exact absurd h_8 h8 | exact hno j9 h7 h8)
      · have htk := tak_yes (x := nI mi) (show j < 6 by omega) h_7 h_8
        refine lv_aload_n hx hb dL_settles_49 rfl (lv_at hl 0 rfl) ?_
        refine lv_iload_n hx hb dL_settles_50 rfl (lv_at hl 2 rfl) ?_
        refine lv_iload hx hb dL_settles_51 (lv_at hl 4 rfl) ?_
        refine lv_iload hx hb dL_settles_53 (lv_at hl 5 rfl) ?_
        refine call_VU (As := [.int (nI k), .int (nI mi), .int (nI ri)]) (rest := []) E rfl hK hW (c_X4_settle l g h q z na V ta TV pa SV hq hh o n aa HV ra NN sa (fun _ => 0) 0 (nI k) (nI mi) (nI ri) k ho hn (Nat.zero_le _) (fun _ => ⟨rfl, hk⟩)) ok_X4_settle rfl q2_196 [0, 1, 2, 3, 4, 5, 6, 7, 8, 9, 10, 11] rfl (by decide) (b_recv hK hP 0 0 rfl rfl rfl rfl) ⟨⟨rfl, rfl⟩, Nat.le_of_ble_eq_true rfl, Nat.le_of_ble_eq_true rfl⟩ hl.1 (Nat.le_of_ble_eq_true rfl) ⟨Nat.le_of_ble_eq_true rfl, Nat.le_of_ble_eq_true rfl⟩ rfl dL_settles_55 (fun u_9 H locs hu_9 hW => ?_)
        obtain rfl : u_9 = false := by
          cases u_9 with
          | false => rfl
          | true => exact absurd (((seE_nat hk (by omega) (by omega) (by omega)).trans (if_pos htk)).symm.trans (show _ = 0 from hu_9)) (by decide)
        have hW : wd g _ s.heap [bB h q z, vB g (q 0) na V, vB g (q 1) ta TV, vB g (q 2) pa SV, hB g (q 3) hq hh o n, vB g (hh 0) (aa 0) (HV 0), vB g (hh 1) (aa 1) (HV 1), vB g (hh 2) (aa 2) (HV 2), vB g (hh 3) (aa 3) (HV 3), vB g (hh 4) (aa 4) (HV 4), rB g (q 4) ra NN, tB g (q 5) sa (fun _ => 0) 0, aR g at_ 54 (rT V)] H locs := hW
        have hP := hW.1
        refine b_top (y := -4) ((cond_false _ _).trans ((seE_nat hk (by omega) (by omega) (by omega)).trans (if_pos htk))) ?_
        refine lv_bipush (v := -4) hx hb dL_settles_58 (by decide) ?_
        refine lv_icmp_ne (tgt := 67) hx hb dL_settles_60 (by decide) (fun h_10 => ?_) (fun h_10 => ?_)
        · exact absurd rfl h_10
        · refine lv_iconst (v := 1) hx hb dL_settles_63 (by decide) ?_
          refine lv_goto (tgt := 68) hx hb dL_settles_64 (by decide) ?_
          exact uZ_ret (V, cq, o, n, HV) hW hx hb hr hlocks dL_settles_68 (by rfl) (rfl) ⟨LIh, ho, hn, fun r9 j9 h9 => rfl⟩ (rfl) (adr2 (L := [[h], [q 0, na 0, na 1, na 2, na 3, na 4, na 5, na 6, na 7, na 8, na 9, na 10, na 11], [q 1, ta 0, ta 1, ta 2, ta 3, ta 4, ta 5, ta 6, ta 7, ta 8, ta 9, ta 10, ta 11], [q 2, pa 0, pa 1, pa 2, pa 3, pa 4, pa 5, pa 6, pa 7, pa 8, pa 9, pa 10, pa 11], [q 3, hq], [hh 0, aa 0 0, aa 0 1, aa 0 2, aa 0 3, aa 0 4, aa 0 5, aa 0 6, aa 0 7, aa 0 8, aa 0 9, aa 0 10, aa 0 11], [hh 1, aa 1 0, aa 1 1, aa 1 2, aa 1 3, aa 1 4, aa 1 5, aa 1 6, aa 1 7, aa 1 8, aa 1 9, aa 1 10, aa 1 11], [hh 2, aa 2 0, aa 2 1, aa 2 2, aa 2 3, aa 2 4, aa 2 5, aa 2 6, aa 2 7, aa 2 8, aa 2 9, aa 2 10, aa 2 11], [hh 3, aa 3 0, aa 3 1, aa 3 2, aa 3 3, aa 3 4, aa 3 5, aa 3 6, aa 3 7, aa 3 8, aa 3 9, aa 3 10, aa 3 11], [hh 4, aa 4 0, aa 4 1, aa 4 2, aa 4 3, aa 4 4, aa 4 5, aa 4 6, aa 4 7, aa 4 8, aa 4 9, aa 4 10, aa 4 11], [q 4, ra 0, ra 1, ra 2, ra 3], [q 5, sa], [at_]]) rfl rfl)
