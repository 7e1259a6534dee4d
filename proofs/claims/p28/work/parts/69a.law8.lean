set_option maxHeartbeats 4000000 in
set_option maxRecDepth 100000 in
theorem c_L_acts (l : Launch) (g : gx) (sz : Nat) (h : Nat) (q : Nat → Nat) (z : Int32) (na : Nat → Nat) (V : sV) (ta : Nat → Nat) (TV : sV) (pa : Nat → Nat) (SV : sV) (hq : Nat) (hh : Nat → Nat) (o n : Nat) (aa : Nat → Nat → Nat) (HV : Nat → sV) (ra : Nat → Nat) (NN : sV) (sa : Nat) (at_ aw ar ag an : Nat) (cq : Nat → Nat) (B kd : Nat) (x : Int32) (ho : o < 5) (hn : n ≤ 5) (LIh : LI V cq B) (hBm : B ≤ 700000) (hkd : kd < 16) : cA (S := sV × (Nat → Nat) × Nat × Nat × (Nat → sV) × sV) l g yL_acts cL_acts 16 (some .boolean) ({ frames := 6, cells := 50, slots := 300, locals := 179 } : Room) [.ref h, .ref at_, .ref aw, .ref ar, .ref ag, .ref an, .int (nI kd), .int x] [bB h q z, vB g (q 0) na V, vB g (q 1) ta TV, vB g (q 2) pa SV, hB g (q 3) hq hh o n, vB g (hh 0) (aa 0) (HV 0), vB g (hh 1) (aa 1) (HV 1), vB g (hh 2) (aa 2) (HV 2), vB g (hh 3) (aa 3) (HV 3), vB g (hh 4) (aa 4) (HV 4), rB g (q 4) ra NN, tB g (q 5) sa (fun _ => 0) 0, aR g at_ 54 (rT V), aR g aw 30 (V 9), aR g ar 30 (V 10), aR g ag 30 (V 11), aR g an 5 (V 12)] sz (fun u9 => some (.int (1 : Int32))) (fun u9 => LI u9.1 u9.2.1 (B + 300) ∧ u9.2.2.1 < 5 ∧ u9.2.2.2.1 ≤ 5) (fun u9 => [bB h q z, vB g (q 0) na u9.1, vB g (q 1) ta TV, vB g (q 2) pa SV, hB g (q 3) hq hh u9.2.2.1 u9.2.2.2.1, vB g (hh 0) (aa 0) (u9.2.2.2.2.1 0), vB g (hh 1) (aa 1) (u9.2.2.2.2.1 1), vB g (hh 2) (aa 2) (u9.2.2.2.2.1 2), vB g (hh 3) (aa 3) (u9.2.2.2.2.1 3), vB g (hh 4) (aa 4) (u9.2.2.2.2.1 4), rB g (q 4) ra u9.2.2.2.2.2, tB g (q 5) sa (fun _ => 0) 0, aR g at_ 54 (rT u9.1), aR g aw 30 (u9.1 9), aR g ar 30 (u9.1 10), aR g ag 30 (u9.1 11), aR g an 5 (u9.1 12)]) 50 300 := by
  refine cA.mk (by decide +kernel) (Nat.le_of_ble_eq_true rfl) ?_
  intro p e s m below meth c ls E hK hsz hW hl
  obtain ⟨hx, hb, hr, hml, hts, hown, hlocks, hin⟩ := id E
  have hown : s.vm.findClass RL = some m.cls := hown
  have hKq := hK
  have hK := hKq.1
  have hA : ∀ q9, s.heap.size ≤ q9 → frN [bB h q z, vB g (q 0) na V, vB g (q 1) ta TV, vB g (q 2) pa SV, hB g (q 3) hq hh o n, vB g (hh 0) (aa 0) (HV 0), vB g (hh 1) (aa 1) (HV 1), vB g (hh 2) (aa 2) (HV 2), vB g (hh 3) (aa 3) (HV 3), vB g (hh 4) (aa 4) (HV 4), rB g (q 4) ra NN, tB g (q 5) sa (fun _ => 0) 0, aR g at_ 54 (rT V), aR g aw 30 (V 9), aR g ar 30 (V 10), aR g ag 30 (V 11), aR g an 5 (V 12)] sz q9 := fun q9 h9 => Or.inr (by rw [← hsz]; exact h9)
  obtain ⟨H, locs, hH, hlo9⟩ : ∃ (H : Heap) (locs : List Loc), H = s.heap ∧ locs = [] := ⟨_, _, rfl, rfl⟩
  have hW : wd g (frN [bB h q z, vB g (q 0) na V, vB g (q 1) ta TV, vB g (q 2) pa SV, hB g (q 3) hq hh o n, vB g (hh 0) (aa 0) (HV 0), vB g (hh 1) (aa 1) (HV 1), vB g (hh 2) (aa 2) (HV 2), vB g (hh 3) (aa 3) (HV 3), vB g (hh 4) (aa 4) (HV 4), rB g (q 4) ra NN, tB g (q 5) sa (fun _ => 0) 0, aR g at_ 54 (rT V), aR g aw 30 (V 9), aR g ar 30 (V 10), aR g ag 30 (V 11), aR g an 5 (V 12)] sz) s.heap [bB h q z, vB g (q 0) na V, vB g (q 1) ta TV, vB g (q 2) pa SV, hB g (q 3) hq hh o n, vB g (hh 0) (aa 0) (HV 0), vB g (hh 1) (aa 1) (HV 1), vB g (hh 2) (aa 2) (HV 2), vB g (hh 3) (aa 3) (HV 3), vB g (hh 4) (aa 4) (HV 4), rB g (q 4) ra NN, tB g (q 5) sa (fun _ => 0) 0, aR g at_ 54 (rT V), aR g aw 30 (V 9), aR g ar 30 (V 10), aR g ag 30 (V 11), aR g an 5 (V 12)] H locs := by rw [hH, hlo9]; exact hW
  rw [show W p l e _ s m _ below meth c s.heap [] 0 0 _ (F0 m 0 ls []) = W p l e _ s m _ below meth c H locs 0 0 _ (F0 m 0 ls []) by rw [hH, hlo9]]
  have hP := hW.1
  have hl : lv_has ls 16 [(0, .ref h), (1, .ref at_), (2, .ref aw), (3, .ref ar), (4, .ref ag), (5, .ref an), (6, .int (nI kd)), (7, .int x)] := hl
  refine lv_iload hx hb dL_acts_0 (lv_at hl 7 rfl) ?_
  refine lv_bipush (v := 6) hx hb dL_acts_2 (by decide) ?_
  refine call_SR (As := [.int x, .int 6]) (rest := []) E rfl hK hP (c_L_low l g x 6 (by first | omega | assumption) (by first | omega | assumption)) ok_L_low rfl q1_187 [] rfl ⟨⟨rfl, rfl⟩, Nat.le_of_ble_eq_true rfl, Nat.le_of_ble_eq_true rfl⟩ hl.1 (Nat.le_of_ble_eq_true rfl) ⟨Nat.le_of_ble_eq_true rfl, Nat.le_of_ble_eq_true rfl⟩ rfl dL_acts_4 ?_
  obtain ⟨t0, ht0⟩ : ∃ z, z = lowN x 6 := ⟨_, rfl⟩
  have ht05 : t0 < 6 := by rw [ht0]; exact lowN_lt _ (by decide)
  refine b_top (y := nI t0) (by rw [ht0]) ?_
  refine lv_istore (lv' := [(8, .int (nI t0)), (0, .ref h), (1, .ref at_), (2, .ref aw), (3, .ref ar), (4, .ref ag), (5, .ref an), (6, .int (nI kd)), (7, .int x)]) hx hb dL_acts_7 hl (by decide) rfl (fun ls hl => ?_)
  refine lv_iload hx hb dL_acts_9 (lv_at hl 7 rfl) ?_
  by_cases h11 : kd < 11
  · rcases (show kd = 0 ∨ kd = 1 ∨ kd = 2 ∨ kd = 3 ∨ kd = 4 ∨ kd = 5 ∨ kd = 6 ∨ kd = 7 ∨ kd = 8 ∨ kd = 9 ∨ kd = 10 by omega) with rfl | rfl | rfl | rfl | rfl | rfl | rfl | rfl | rfl | rfl | rfl
    · refine lv_tableIn (off := 57) (tgt := 68) hx hb dL_acts_11 (by decide) (by decide) (by decide) (by decide) ?_
      refine lv_aload_n hx hb dL_acts_68 rfl (lv_at hl 1 rfl) ?_
      refine lv_aload_n hx hb dL_acts_69 rfl (lv_at hl 2 rfl) ?_
      refine lv_aload_n hx hb dL_acts_70 rfl (lv_at hl 3 rfl) ?_
      refine lv_aload_n hx hb dL_acts_71 rfl (lv_at hl 4 rfl) ?_
      refine lv_aload hx hb dL_acts_72 (lv_at hl 5 rfl) ?_
      refine lv_iload hx hb dL_acts_74 (lv_at hl 0 rfl) ?_
      refine lv_iconst (v := 0) hx hb dL_acts_76 (by decide) ?_
      refine lv_iload hx hb dL_acts_77 (lv_at hl 8 rfl) ?_
      refine lv_iconst (v := 3) hx hb dL_acts_79 (by decide) ?_
      refine lv_ishr hx hb dL_acts_80 ?_
      refine call_SU (As := [.ref h, .ref at_, .ref aw, .ref ar, .ref ag, .int (nI t0), .int 0, .int (x >>> ((3 : Int32) &&& 31))]) (rest := []) E rfl hK hW (c_L_bells_0 l g h q z na V ta TV pa SV hq hh o n aa HV ra NN sa at_ aw ar ag cq B t0 (x >>> ((3 : Int32) &&& 31)) ho hn LIh ht05) ok_L_bells rfl q2_147 [0, 1, 2, 3, 4, 5, 6, 7, 8, 9, 10, 11, 12, 13, 14, 15] rfl (by decide) ⟨⟨rfl, rfl⟩, Nat.le_of_ble_eq_true rfl, Nat.le_of_ble_eq_true rfl⟩ hl.1 (Nat.le_of_ble_eq_true rfl) ⟨Nat.le_of_ble_eq_true rfl, Nat.le_of_ble_eq_true rfl⟩ rfl dL_acts_81 (fun u_1 H locs hu_1 hW => ?_)
      obtain ⟨V1, cq1, o1, n1, HV1⟩ := u_1
      obtain ⟨hL1, ho1, hn1, h12⟩ := hu_1
      have hL1 : LI V1 cq1 B := hL1
      have h12 : ∀ j, V1 12 j = V 12 j := h12
      have hW : wd g _ s.heap [bB h q z, vB g (q 0) na V1, vB g (q 1) ta TV, vB g (q 2) pa SV, hB g (q 3) hq hh o1 n1, vB g (hh 0) (aa 0) (HV1 0), vB g (hh 1) (aa 1) (HV1 1), vB g (hh 2) (aa 2) (HV1 2), vB g (hh 3) (aa 3) (HV1 3), vB g (hh 4) (aa 4) (HV1 4), rB g (q 4) ra NN, tB g (q 5) sa (fun _ => 0) 0, aR g at_ 54 (rT V1), aR g aw 30 (V1 9), aR g ar 30 (V1 10), aR g ag 30 (V1 11), aR g an 5 (V 12)] H locs := hW
      have hP := hW.1
      refine b_top (y := 1) rfl ?_
      rw [show V 12 = V1 12 from (funext h12).symm] at hW
      have hW : wd g _ s.heap [bB h q z, vB g (q 0) na V1, vB g (q 1) ta TV, vB g (q 2) pa SV, hB g (q 3) hq hh o1 n1, vB g (hh 0) (aa 0) (HV1 0), vB g (hh 1) (aa 1) (HV1 1), vB g (hh 2) (aa 2) (HV1 2), vB g (hh 3) (aa 3) (HV1 3), vB g (hh 4) (aa 4) (HV1 4), rB g (q 4) ra NN, tB g (q 5) sa (fun _ => 0) 0, aR g at_ 54 (rT V1), aR g aw 30 (V1 9), aR g ar 30 (V1 10), aR g ag 30 (V1 11), aR g an 5 (V1 12)] H locs := hW
      have hP := hW.1
      refine W.widen (k := 50) (n := 300) (Nat.le_of_ble_eq_true rfl) (Nat.le_of_ble_eq_true rfl) ?_
      exact aZ_ret (B := [bB h q z, vB g (q 0) na V1, vB g (q 1) ta TV, vB g (q 2) pa SV, hB g (q 3) hq hh o1 n1, vB g (hh 0) (aa 0) (HV1 0), vB g (hh 1) (aa 1) (HV1 1), vB g (hh 2) (aa 2) (HV1 2), vB g (hh 3) (aa 3) (HV1 3), vB g (hh 4) (aa 4) (HV1 4), rB g (q 4) ra NN, tB g (q 5) sa (fun _ => 0) 0, aR g at_ 54 (rT V1), aR g aw 30 (V1 9), aR g ar 30 (V1 10), aR g ag 30 (V1 11), aR g an 5 (V1 12)]) (V1, cq1, o1, n1, HV1, NN) [] hsz hW hx hb hr hlocks dL_acts_84 (by rfl) (rfl) ⟨hL1.mono (by omega), ho1, hn1⟩ (rfl) (adr2 (L := [[h], [q 0, na 0, na 1, na 2, na 3, na 4, na 5, na 6, na 7, na 8, na 9, na 10, na 11], [q 1, ta 0, ta 1, ta 2, ta 3, ta 4, ta 5, ta 6, ta 7, ta 8, ta 9, ta 10, ta 11], [q 2, pa 0, pa 1, pa 2, pa 3, pa 4, pa 5, pa 6, pa 7, pa 8, pa 9, pa 10, pa 11], [q 3, hq], [hh 0, aa 0 0, aa 0 1, aa 0 2, aa 0 3, aa 0 4, aa 0 5, aa 0 6, aa 0 7, aa 0 8, aa 0 9, aa 0 10, aa 0 11], [hh 1, aa 1 0, aa 1 1, aa 1 2, aa 1 3, aa 1 4, aa 1 5, aa 1 6, aa 1 7, aa 1 8, aa 1 9, aa 1 10, aa 1 11], [hh 2, aa 2 0, aa 2 1, aa 2 2, aa 2 3, aa 2 4, aa 2 5, aa 2 6, aa 2 7, aa 2 8, aa 2 9, aa 2 10, aa 2 11], [hh 3, aa 3 0, aa 3 1, aa 3 2, aa 3 3, aa 3 4, aa 3 5, aa 3 6, aa 3 7, aa 3 8, aa 3 9, aa 3 10, aa 3 11], [hh 4, aa 4 0, aa 4 1, aa 4 2, aa 4 3, aa 4 4, aa 4 5, aa 4 6, aa 4 7, aa 4 8, aa 4 9, aa 4 10, aa 4 11], [q 4, ra 0, ra 1, ra 2, ra 3], [q 5, sa], [at_], [aw], [ar], [ag], [an]]) rfl rfl)
    · refine lv_tableIn (off := 57) (tgt := 68) hx hb dL_acts_11 (by decide) (by decide) (by decide) (by decide) ?_
      refine lv_aload_n hx hb dL_acts_68 rfl (lv_at hl 1 rfl) ?_
      refine lv_aload_n hx hb dL_acts_69 rfl (lv_at hl 2 rfl) ?_
      refine lv_aload_n hx hb dL_acts_70 rfl (lv_at hl 3 rfl) ?_
      refine lv_aload_n hx hb dL_acts_71 rfl (lv_at hl 4 rfl) ?_
      refine lv_aload hx hb dL_acts_72 (lv_at hl 5 rfl) ?_
      refine lv_iload hx hb dL_acts_74 (lv_at hl 0 rfl) ?_
      refine lv_iconst (v := 0) hx hb dL_acts_76 (by decide) ?_
      refine lv_iload hx hb dL_acts_77 (lv_at hl 8 rfl) ?_
      refine lv_iconst (v := 3) hx hb dL_acts_79 (by decide) ?_
      refine lv_ishr hx hb dL_acts_80 ?_
      refine call_SU (As := [.ref h, .ref at_, .ref aw, .ref ar, .ref ag, .int (nI t0), .int 0, .int (x >>> ((3 : Int32) &&& 31))]) (rest := []) E rfl hK hW (c_L_bells_0 l g h q z na V ta TV pa SV hq hh o n aa HV ra NN sa at_ aw ar ag cq B t0 (x >>> ((3 : Int32) &&& 31)) ho hn LIh ht05) ok_L_bells rfl q2_147 [0, 1, 2, 3, 4, 5, 6, 7, 8, 9, 10, 11, 12, 13, 14, 15] rfl (by decide) ⟨⟨rfl, rfl⟩, Nat.le_of_ble_eq_true rfl, Nat.le_of_ble_eq_true rfl⟩ hl.1 (Nat.le_of_ble_eq_true rfl) ⟨Nat.le_of_ble_eq_true rfl, Nat.le_of_ble_eq_true rfl⟩ rfl dL_acts_81 (fun u_2 H locs hu_2 hW => ?_)
      obtain ⟨V1, cq1, o1, n1, HV1⟩ := u_2
      obtain ⟨hL1, ho1, hn1, h12⟩ := hu_2
      have hL1 : LI V1 cq1 B := hL1
      have h12 : ∀ j, V1 12 j = V 12 j := h12
      have hW : wd g _ s.heap [bB h q z, vB g (q 0) na V1, vB g (q 1) ta TV, vB g (q 2) pa SV, hB g (q 3) hq hh o1 n1, vB g (hh 0) (aa 0) (HV1 0), vB g (hh 1) (aa 1) (HV1 1), vB g (hh 2) (aa 2) (HV1 2), vB g (hh 3) (aa 3) (HV1 3), vB g (hh 4) (aa 4) (HV1 4), rB g (q 4) ra NN, tB g (q 5) sa (fun _ => 0) 0, aR g at_ 54 (rT V1), aR g aw 30 (V1 9), aR g ar 30 (V1 10), aR g ag 30 (V1 11), aR g an 5 (V 12)] H locs := hW
      have hP := hW.1
      refine b_top (y := 1) rfl ?_
      rw [show V 12 = V1 12 from (funext h12).symm] at hW
      have hW : wd g _ s.heap [bB h q z, vB g (q 0) na V1, vB g (q 1) ta TV, vB g (q 2) pa SV, hB g (q 3) hq hh o1 n1, vB g (hh 0) (aa 0) (HV1 0), vB g (hh 1) (aa 1) (HV1 1), vB g (hh 2) (aa 2) (HV1 2), vB g (hh 3) (aa 3) (HV1 3), vB g (hh 4) (aa 4) (HV1 4), rB g (q 4) ra NN, tB g (q 5) sa (fun _ => 0) 0, aR g at_ 54 (rT V1), aR g aw 30 (V1 9), aR g ar 30 (V1 10), aR g ag 30 (V1 11), aR g an 5 (V1 12)] H locs := hW
      have hP := hW.1
      refine W.widen (k := 50) (n := 300) (Nat.le_of_ble_eq_true rfl) (Nat.le_of_ble_eq_true rfl) ?_
      exact aZ_ret (B := [bB h q z, vB g (q 0) na V1, vB g (q 1) ta TV, vB g (q 2) pa SV, hB g (q 3) hq hh o1 n1, vB g (hh 0) (aa 0) (HV1 0), vB g (hh 1) (aa 1) (HV1 1), vB g (hh 2) (aa 2) (HV1 2), vB g (hh 3) (aa 3) (HV1 3), vB g (hh 4) (aa 4) (HV1 4), rB g (q 4) ra NN, tB g (q 5) sa (fun _ => 0) 0, aR g at_ 54 (rT V1), aR g aw 30 (V1 9), aR g ar 30 (V1 10), aR g ag 30 (V1 11), aR g an 5 (V1 12)]) (V1, cq1, o1, n1, HV1, NN) [] hsz hW hx hb hr hlocks dL_acts_84 (by rfl) (rfl) ⟨hL1.mono (by omega), ho1, hn1⟩ (rfl) (adr2 (L := [[h], [q 0, na 0, na 1, na 2, na 3, na 4, na 5, na 6, na 7, na 8, na 9, na 10, na 11], [q 1, ta 0, ta 1, ta 2, ta 3, ta 4, ta 5, ta 6, ta 7, ta 8, ta 9, ta 10, ta 11], [q 2, pa 0, pa 1, pa 2, pa 3, pa 4, pa 5, pa 6, pa 7, pa 8, pa 9, pa 10, pa 11], [q 3, hq], [hh 0, aa 0 0, aa 0 1, aa 0 2, aa 0 3, aa 0 4, aa 0 5, aa 0 6, aa 0 7, aa 0 8, aa 0 9, aa 0 10, aa 0 11], [hh 1, aa 1 0, aa 1 1, aa 1 2, aa 1 3, aa 1 4, aa 1 5, aa 1 6, aa 1 7, aa 1 8, aa 1 9, aa 1 10, aa 1 11], [hh 2, aa 2 0, aa 2 1, aa 2 2, aa 2 3, aa 2 4, aa 2 5, aa 2 6, aa 2 7, aa 2 8, aa 2 9, aa 2 10, aa 2 11], [hh 3, aa 3 0, aa 3 1, aa 3 2, aa 3 3, aa 3 4, aa 3 5, aa 3 6, aa 3 7, aa 3 8, aa 3 9, aa 3 10, aa 3 11], [hh 4, aa 4 0, aa 4 1, aa 4 2, aa 4 3, aa 4 4, aa 4 5, aa 4 6, aa 4 7, aa 4 8, aa 4 9, aa 4 10, aa 4 11], [q 4, ra 0, ra 1, ra 2, ra 3], [q 5, sa], [at_], [aw], [ar], [ag], [an]]) rfl rfl)
    · refine lv_tableIn (off := 74) (tgt := 85) hx hb dL_acts_11 (by decide) (by decide) (by decide) (by decide) ?_
      refine lv_aload_n hx hb dL_acts_85 rfl (lv_at hl 1 rfl) ?_
      refine lv_aload_n hx hb dL_acts_86 rfl (lv_at hl 2 rfl) ?_
      refine lv_aload_n hx hb dL_acts_87 rfl (lv_at hl 3 rfl) ?_
      refine lv_aload_n hx hb dL_acts_88 rfl (lv_at hl 4 rfl) ?_
      refine lv_aload hx hb dL_acts_89 (lv_at hl 5 rfl) ?_
      refine lv_iload hx hb dL_acts_91 (lv_at hl 0 rfl) ?_
      refine lv_iconst (v := 2) hx hb dL_acts_93 (by decide) ?_
      refine lv_iload hx hb dL_acts_94 (lv_at hl 8 rfl) ?_
      refine lv_iconst (v := 3) hx hb dL_acts_96 (by decide) ?_
      refine lv_ishr hx hb dL_acts_97 ?_
      refine call_SU (As := [.ref h, .ref at_, .ref aw, .ref ar, .ref ag, .int (nI t0), .int 2, .int (x >>> ((3 : Int32) &&& 31))]) (rest := []) E rfl hK hW (c_L_bells_2 l g h q z na V ta TV pa SV hq hh o n aa HV ra NN sa at_ aw ar ag cq B t0 (x >>> ((3 : Int32) &&& 31)) ho hn LIh ht05) ok_L_bells rfl q2_147 [0, 1, 2, 3, 4, 5, 6, 7, 8, 9, 10, 11, 12, 13, 14, 15] rfl (by decide) ⟨⟨rfl, rfl⟩, Nat.le_of_ble_eq_true rfl, Nat.le_of_ble_eq_true rfl⟩ hl.1 (Nat.le_of_ble_eq_true rfl) ⟨Nat.le_of_ble_eq_true rfl, Nat.le_of_ble_eq_true rfl⟩ rfl dL_acts_98 (fun u_3 H locs hu_3 hW => ?_)
      obtain ⟨V1, cq1, o1, n1, HV1⟩ := u_3
      obtain ⟨hL1, ho1, hn1, h12⟩ := hu_3
      have hL1 : LI V1 cq1 B := hL1
      have h12 : ∀ j, V1 12 j = V 12 j := h12
      have hW : wd g _ s.heap [bB h q z, vB g (q 0) na V1, vB g (q 1) ta TV, vB g (q 2) pa SV, hB g (q 3) hq hh o1 n1, vB g (hh 0) (aa 0) (HV1 0), vB g (hh 1) (aa 1) (HV1 1), vB g (hh 2) (aa 2) (HV1 2), vB g (hh 3) (aa 3) (HV1 3), vB g (hh 4) (aa 4) (HV1 4), rB g (q 4) ra NN, tB g (q 5) sa (fun _ => 0) 0, aR g at_ 54 (rT V1), aR g aw 30 (V1 9), aR g ar 30 (V1 10), aR g ag 30 (V1 11), aR g an 5 (V 12)] H locs := hW
      have hP := hW.1
      refine b_top (y := 1) rfl ?_
      rw [show V 12 = V1 12 from (funext h12).symm] at hW
      have hW : wd g _ s.heap [bB h q z, vB g (q 0) na V1, vB g (q 1) ta TV, vB g (q 2) pa SV, hB g (q 3) hq hh o1 n1, vB g (hh 0) (aa 0) (HV1 0), vB g (hh 1) (aa 1) (HV1 1), vB g (hh 2) (aa 2) (HV1 2), vB g (hh 3) (aa 3) (HV1 3), vB g (hh 4) (aa 4) (HV1 4), rB g (q 4) ra NN, tB g (q 5) sa (fun _ => 0) 0, aR g at_ 54 (rT V1), aR g aw 30 (V1 9), aR g ar 30 (V1 10), aR g ag 30 (V1 11), aR g an 5 (V1 12)] H locs := hW
      have hP := hW.1
      refine W.widen (k := 50) (n := 300) (Nat.le_of_ble_eq_true rfl) (Nat.le_of_ble_eq_true rfl) ?_
      exact aZ_ret (B := [bB h q z, vB g (q 0) na V1, vB g (q 1) ta TV, vB g (q 2) pa SV, hB g (q 3) hq hh o1 n1, vB g (hh 0) (aa 0) (HV1 0), vB g (hh 1) (aa 1) (HV1 1), vB g (hh 2) (aa 2) (HV1 2), vB g (hh 3) (aa 3) (HV1 3), vB g (hh 4) (aa 4) (HV1 4), rB g (q 4) ra NN, tB g (q 5) sa (fun _ => 0) 0, aR g at_ 54 (rT V1), aR g aw 30 (V1 9), aR g ar 30 (V1 10), aR g ag 30 (V1 11), aR g an 5 (V1 12)]) (V1, cq1, o1, n1, HV1, NN) [] hsz hW hx hb hr hlocks dL_acts_101 (by rfl) (rfl) ⟨hL1.mono (by omega), ho1, hn1⟩ (rfl) (adr2 (L := [[h], [q 0, na 0, na 1, na 2, na 3, na 4, na 5, na 6, na 7, na 8, na 9, na 10, na 11], [q 1, ta 0, ta 1, ta 2, ta 3, ta 4, ta 5, ta 6, ta 7, ta 8, ta 9, ta 10, ta 11], [q 2, pa 0, pa 1, pa 2, pa 3, pa 4, pa 5, pa 6, pa 7, pa 8, pa 9, pa 10, pa 11], [q 3, hq], [hh 0, aa 0 0, aa 0 1, aa 0 2, aa 0 3, aa 0 4, aa 0 5, aa 0 6, aa 0 7, aa 0 8, aa 0 9, aa 0 10, aa 0 11], [hh 1, aa 1 0, aa 1 1, aa 1 2, aa 1 3, aa 1 4, aa 1 5, aa 1 6, aa 1 7, aa 1 8, aa 1 9, aa 1 10, aa 1 11], [hh 2, aa 2 0, aa 2 1, aa 2 2, aa 2 3, aa 2 4, aa 2 5, aa 2 6, aa 2 7, aa 2 8, aa 2 9, aa 2 10, aa 2 11], [hh 3, aa 3 0, aa 3 1, aa 3 2, aa 3 3, aa 3 4, aa 3 5, aa 3 6, aa 3 7, aa 3 8, aa 3 9, aa 3 10, aa 3 11], [hh 4, aa 4 0, aa 4 1, aa 4 2, aa 4 3, aa 4 4, aa 4 5, aa 4 6, aa 4 7, aa 4 8, aa 4 9, aa 4 10, aa 4 11], [q 4, ra 0, ra 1, ra 2, ra 3], [q 5, sa], [at_], [aw], [ar], [ag], [an]]) rfl rfl)
    · refine lv_tableIn (off := 91) (tgt := 102) hx hb dL_acts_11 (by decide) (by decide) (by decide) (by decide) ?_
      refine lv_aload_n hx hb dL_acts_102 rfl (lv_at hl 1 rfl) ?_
      refine lv_aload_n hx hb dL_acts_103 rfl (lv_at hl 2 rfl) ?_
      refine lv_aload_n hx hb dL_acts_104 rfl (lv_at hl 3 rfl) ?_
      refine lv_aload_n hx hb dL_acts_105 rfl (lv_at hl 4 rfl) ?_
      refine lv_aload hx hb dL_acts_106 (lv_at hl 5 rfl) ?_
      refine lv_iload hx hb dL_acts_108 (lv_at hl 0 rfl) ?_
      refine lv_iconst (v := 1) hx hb dL_acts_110 (by decide) ?_
      refine lv_iload hx hb dL_acts_111 (lv_at hl 8 rfl) ?_
      refine lv_iconst (v := 3) hx hb dL_acts_113 (by decide) ?_
      refine lv_ishr hx hb dL_acts_114 ?_
      refine call_SU (As := [.ref h, .ref at_, .ref aw, .ref ar, .ref ag, .int (nI t0), .int 1, .int (x >>> ((3 : Int32) &&& 31))]) (rest := []) E rfl hK hW (c_L_bells_1 l g h q z na V ta TV pa SV hq hh o n aa HV ra NN sa at_ aw ar ag cq B t0 (x >>> ((3 : Int32) &&& 31)) ho hn LIh ht05) ok_L_bells rfl q2_147 [0, 1, 2, 3, 4, 5, 6, 7, 8, 9, 10, 11, 12, 13, 14, 15] rfl (by decide) ⟨⟨rfl, rfl⟩, Nat.le_of_ble_eq_true rfl, Nat.le_of_ble_eq_true rfl⟩ hl.1 (Nat.le_of_ble_eq_true rfl) ⟨Nat.le_of_ble_eq_true rfl, Nat.le_of_ble_eq_true rfl⟩ rfl dL_acts_115 (fun u_4 H locs hu_4 hW => ?_)
      obtain ⟨V1, cq1, o1, n1, HV1⟩ := u_4
      obtain ⟨hL1, ho1, hn1, h12⟩ := hu_4
      have hL1 : LI V1 cq1 B := hL1
      have h12 : ∀ j, V1 12 j = V 12 j := h12
      have hW : wd g _ s.heap [bB h q z, vB g (q 0) na V1, vB g (q 1) ta TV, vB g (q 2) pa SV, hB g (q 3) hq hh o1 n1, vB g (hh 0) (aa 0) (HV1 0), vB g (hh 1) (aa 1) (HV1 1), vB g (hh 2) (aa 2) (HV1 2), vB g (hh 3) (aa 3) (HV1 3), vB g (hh 4) (aa 4) (HV1 4), rB g (q 4) ra NN, tB g (q 5) sa (fun _ => 0) 0, aR g at_ 54 (rT V1), aR g aw 30 (V1 9), aR g ar 30 (V1 10), aR g ag 30 (V1 11), aR g an 5 (V 12)] H locs := hW
      have hP := hW.1
      refine b_top (y := 1) rfl ?_
      rw [show V 12 = V1 12 from (funext h12).symm] at hW
      have hW : wd g _ s.heap [bB h q z, vB g (q 0) na V1, vB g (q 1) ta TV, vB g (q 2) pa SV, hB g (q 3) hq hh o1 n1, vB g (hh 0) (aa 0) (HV1 0), vB g (hh 1) (aa 1) (HV1 1), vB g (hh 2) (aa 2) (HV1 2), vB g (hh 3) (aa 3) (HV1 3), vB g (hh 4) (aa 4) (HV1 4), rB g (q 4) ra NN, tB g (q 5) sa (fun _ => 0) 0, aR g at_ 54 (rT V1), aR g aw 30 (V1 9), aR g ar 30 (V1 10), aR g ag 30 (V1 11), aR g an 5 (V1 12)] H locs := hW
      have hP := hW.1
      refine W.widen (k := 50) (n := 300) (Nat.le_of_ble_eq_true rfl) (Nat.le_of_ble_eq_true rfl) ?_
      exact aZ_ret (B := [bB h q z, vB g (q 0) na V1, vB g (q 1) ta TV, vB g (q 2) pa SV, hB g (q 3) hq hh o1 n1, vB g (hh 0) (aa 0) (HV1 0), vB g (hh 1) (aa 1) (HV1 1), vB g (hh 2) (aa 2) (HV1 2), vB g (hh 3) (aa 3) (HV1 3), vB g (hh 4) (aa 4) (HV1 4), rB g (q 4) ra NN, tB g (q 5) sa (fun _ => 0) 0, aR g at_ 54 (rT V1), aR g aw 30 (V1 9), aR g ar 30 (V1 10), aR g ag 30 (V1 11), aR g an 5 (V1 12)]) (V1, cq1, o1, n1, HV1, NN) [] hsz hW hx hb hr hlocks dL_acts_118 (by rfl) (rfl) ⟨hL1.mono (by omega), ho1, hn1⟩ (rfl) (adr2 (L := [[h], [q 0, na 0, na 1, na 2, na 3, na 4, na 5, na 6, na 7, na 8, na 9, na 10, na 11], [q 1, ta 0, ta 1, ta 2, ta 3, ta 4, ta 5, ta 6, ta 7, ta 8, ta 9, ta 10, ta 11], [q 2, pa 0, pa 1, pa 2, pa 3, pa 4, pa 5, pa 6, pa 7, pa 8, pa 9, pa 10, pa 11], [q 3, hq], [hh 0, aa 0 0, aa 0 1, aa 0 2, aa 0 3, aa 0 4, aa 0 5, aa 0 6, aa 0 7, aa 0 8, aa 0 9, aa 0 10, aa 0 11], [hh 1, aa 1 0, aa 1 1, aa 1 2, aa 1 3, aa 1 4, aa 1 5, aa 1 6, aa 1 7, aa 1 8, aa 1 9, aa 1 10, aa 1 11], [hh 2, aa 2 0, aa 2 1, aa 2 2, aa 2 3, aa 2 4, aa 2 5, aa 2 6, aa 2 7, aa 2 8, aa 2 9, aa 2 10, aa 2 11], [hh 3, aa 3 0, aa 3 1, aa 3 2, aa 3 3, aa 3 4, aa 3 5, aa 3 6, aa 3 7, aa 3 8, aa 3 9, aa 3 10, aa 3 11], [hh 4, aa 4 0, aa 4 1, aa 4 2, aa 4 3, aa 4 4, aa 4 5, aa 4 6, aa 4 7, aa 4 8, aa 4 9, aa 4 10, aa 4 11], [q 4, ra 0, ra 1, ra 2, ra 3], [q 5, sa], [at_], [aw], [ar], [ag], [an]]) rfl rfl)
    · refine lv_tableIn (off := 91) (tgt := 102) hx hb dL_acts_11 (by decide) (by decide) (by decide) (by decide) ?_
      refine lv_aload_n hx hb dL_acts_102 rfl (lv_at hl 1 rfl) ?_
      refine lv_aload_n hx hb dL_acts_103 rfl (lv_at hl 2 rfl) ?_
      refine lv_aload_n hx hb dL_acts_104 rfl (lv_at hl 3 rfl) ?_
      refine lv_aload_n hx hb dL_acts_105 rfl (lv_at hl 4 rfl) ?_
      refine lv_aload hx hb dL_acts_106 (lv_at hl 5 rfl) ?_
      refine lv_iload hx hb dL_acts_108 (lv_at hl 0 rfl) ?_
      refine lv_iconst (v := 1) hx hb dL_acts_110 (by decide) ?_
      refine lv_iload hx hb dL_acts_111 (lv_at hl 8 rfl) ?_
      refine lv_iconst (v := 3) hx hb dL_acts_113 (by decide) ?_
      refine lv_ishr hx hb dL_acts_114 ?_
      refine call_SU (As := [.ref h, .ref at_, .ref aw, .ref ar, .ref ag, .int (nI t0), .int 1, .int (x >>> ((3 : Int32) &&& 31))]) (rest := []) E rfl hK hW (c_L_bells_1 l g h q z na V ta TV pa SV hq hh o n aa HV ra NN sa at_ aw ar ag cq B t0 (x >>> ((3 : Int32) &&& 31)) ho hn LIh ht05) ok_L_bells rfl q2_147 [0, 1, 2, 3, 4, 5, 6, 7, 8, 9, 10, 11, 12, 13, 14, 15] rfl (by decide) ⟨⟨rfl, rfl⟩, Nat.le_of_ble_eq_true rfl, Nat.le_of_ble_eq_true rfl⟩ hl.1 (Nat.le_of_ble_eq_true rfl) ⟨Nat.le_of_ble_eq_true rfl, Nat.le_of_ble_eq_true rfl⟩ rfl dL_acts_115 (fun u_5 H locs hu_5 hW => ?_)
      obtain ⟨V1, cq1, o1, n1, HV1⟩ := u_5
      obtain ⟨hL1, ho1, hn1, h12⟩ := hu_5
      have hL1 : LI V1 cq1 B := hL1
      have h12 : ∀ j, V1 12 j = V 12 j := h12
      have hW : wd g _ s.heap [bB h q z, vB g (q 0) na V1, vB g (q 1) ta TV, vB g (q 2) pa SV, hB g (q 3) hq hh o1 n1, vB g (hh 0) (aa 0) (HV1 0), vB g (hh 1) (aa 1) (HV1 1), vB g (hh 2) (aa 2) (HV1 2), vB g (hh 3) (aa 3) (HV1 3), vB g (hh 4) (aa 4) (HV1 4), rB g (q 4) ra NN, tB g (q 5) sa (fun _ => 0) 0, aR g at_ 54 (rT V1), aR g aw 30 (V1 9), aR g ar 30 (V1 10), aR g ag 30 (V1 11), aR g an 5 (V 12)] H locs := hW
      have hP := hW.1
      refine b_top (y := 1) rfl ?_
      rw [show V 12 = V1 12 from (funext h12).symm] at hW
      have hW : wd g _ s.heap [bB h q z, vB g (q 0) na V1, vB g (q 1) ta TV, vB g (q 2) pa SV, hB g (q 3) hq hh o1 n1, vB g (hh 0) (aa 0) (HV1 0), vB g (hh 1) (aa 1) (HV1 1), vB g (hh 2) (aa 2) (HV1 2), vB g (hh 3) (aa 3) (HV1 3), vB g (hh 4) (aa 4) (HV1 4), rB g (q 4) ra NN, tB g (q 5) sa (fun _ => 0) 0, aR g at_ 54 (rT V1), aR g aw 30 (V1 9), aR g ar 30 (V1 10), aR g ag 30 (V1 11), aR g an 5 (V1 12)] H locs := hW
      have hP := hW.1
      refine W.widen (k := 50) (n := 300) (Nat.le_of_ble_eq_true rfl) (Nat.le_of_ble_eq_true rfl) ?_
      exact aZ_ret (B := [bB h q z, vB g (q 0) na V1, vB g (q 1) ta TV, vB g (q 2) pa SV, hB g (q 3) hq hh o1 n1, vB g (hh 0) (aa 0) (HV1 0), vB g (hh 1) (aa 1) (HV1 1), vB g (hh 2) (aa 2) (HV1 2), vB g (hh 3) (aa 3) (HV1 3), vB g (hh 4) (aa 4) (HV1 4), rB g (q 4) ra NN, tB g (q 5) sa (fun _ => 0) 0, aR g at_ 54 (rT V1), aR g aw 30 (V1 9), aR g ar 30 (V1 10), aR g ag 30 (V1 11), aR g an 5 (V1 12)]) (V1, cq1, o1, n1, HV1, NN) [] hsz hW hx hb hr hlocks dL_acts_118 (by rfl) (rfl) ⟨hL1.mono (by omega), ho1, hn1⟩ (rfl) (adr2 (L := [[h], [q 0, na 0, na 1, na 2, na 3, na 4, na 5, na 6, na 7, na 8, na 9, na 10, na 11], [q 1, ta 0, ta 1, ta 2, ta 3, ta 4, ta 5, ta 6, ta 7, ta 8, ta 9, ta 10, ta 11], [q 2, pa 0, pa 1, pa 2, pa 3, pa 4, pa 5, pa 6, pa 7, pa 8, pa 9, pa 10, pa 11], [q 3, hq], [hh 0, aa 0 0, aa 0 1, aa 0 2, aa 0 3, aa 0 4, aa 0 5, aa 0 6, aa 0 7, aa 0 8, aa 0 9, aa 0 10, aa 0 11], [hh 1, aa 1 0, aa 1 1, aa 1 2, aa 1 3, aa 1 4, aa 1 5, aa 1 6, aa 1 7, aa 1 8, aa 1 9, aa 1 10, aa 1 11], [hh 2, aa 2 0, aa 2 1, aa 2 2, aa 2 3, aa 2 4, aa 2 5, aa 2 6, aa 2 7, aa 2 8, aa 2 9, aa 2 10, aa 2 11], [hh 3, aa 3 0, aa 3 1, aa 3 2, aa 3 3, aa 3 4, aa 3 5, aa 3 6, aa 3 7, aa 3 8, aa 3 9, aa 3 10, aa 3 11], [hh 4, aa 4 0, aa 4 1, aa 4 2, aa 4 3, aa 4 4, aa 4 5, aa 4 6, aa 4 7, aa 4 8, aa 4 9, aa 4 10, aa 4 11], [q 4, ra 0, ra 1, ra 2, ra 3], [q 5, sa], [at_], [aw], [ar], [ag], [an]]) rfl rfl)
    · refine lv_tableIn (off := 108) (tgt := 119) hx hb dL_acts_11 (by decide) (by decide) (by decide) (by decide) ?_
      refine lv_aload_n hx hb dL_acts_119 rfl (lv_at hl 1 rfl) ?_
      refine lv_aload_n hx hb dL_acts_120 rfl (lv_at hl 2 rfl) ?_
      refine lv_iload hx hb dL_acts_121 (lv_at hl 0 rfl) ?_
      refine lv_iload hx hb dL_acts_123 (lv_at hl 8 rfl) ?_
      refine lv_iconst (v := 3) hx hb dL_acts_125 (by decide) ?_
      refine lv_ishr hx hb dL_acts_126 ?_
      refine call_SU (As := [.ref h, .ref at_, .int (nI t0), .int (x >>> ((3 : Int32) &&& 31))]) (rest := []) E rfl hK hW (c_L_settles l g h q z na V ta TV pa SV hq hh o n aa HV ra NN sa at_ cq B t0 (x >>> ((3 : Int32) &&& 31)) ho hn LIh ht05) ok_L_settles rfl q2_193 [0, 1, 2, 3, 4, 5, 6, 7, 8, 9, 10, 11, 12] rfl (by decide) ⟨⟨rfl, rfl⟩, Nat.le_of_ble_eq_true rfl, Nat.le_of_ble_eq_true rfl⟩ hl.1 (Nat.le_of_ble_eq_true rfl) ⟨Nat.le_of_ble_eq_true rfl, Nat.le_of_ble_eq_true rfl⟩ rfl dL_acts_127 (fun u_6 H locs hu_6 hW => ?_)
      obtain ⟨V1, cq1, o1, n1, HV1⟩ := u_6
      obtain ⟨hL1, ho1, hn1, h12⟩ := hu_6
      have hL1 : LI V1 cq1 B := hL1
      have h12 : ∀ r j, 9 ≤ r → V1 r j = V r j := h12
      have hW : wd g _ s.heap [bB h q z, vB g (q 0) na V1, vB g (q 1) ta TV, vB g (q 2) pa SV, hB g (q 3) hq hh o1 n1, vB g (hh 0) (aa 0) (HV1 0), vB g (hh 1) (aa 1) (HV1 1), vB g (hh 2) (aa 2) (HV1 2), vB g (hh 3) (aa 3) (HV1 3), vB g (hh 4) (aa 4) (HV1 4), rB g (q 4) ra NN, tB g (q 5) sa (fun _ => 0) 0, aR g at_ 54 (rT V1), aR g aw 30 (V 9), aR g ar 30 (V 10), aR g ag 30 (V 11), aR g an 5 (V 12)] H locs := hW
      have hP := hW.1
      refine b_top (y := 1) rfl ?_
      rw [show V 9 = V1 9 from (funext fun j9 => h12 9 j9 (by decide)).symm] at hW
      rw [show V 10 = V1 10 from (funext fun j9 => h12 10 j9 (by decide)).symm] at hW
      rw [show V 11 = V1 11 from (funext fun j9 => h12 11 j9 (by decide)).symm] at hW
      rw [show V 12 = V1 12 from (funext fun j9 => h12 12 j9 (by decide)).symm] at hW
      have hW : wd g _ s.heap [bB h q z, vB g (q 0) na V1, vB g (q 1) ta TV, vB g (q 2) pa SV, hB g (q 3) hq hh o1 n1, vB g (hh 0) (aa 0) (HV1 0), vB g (hh 1) (aa 1) (HV1 1), vB g (hh 2) (aa 2) (HV1 2), vB g (hh 3) (aa 3) (HV1 3), vB g (hh 4) (aa 4) (HV1 4), rB g (q 4) ra NN, tB g (q 5) sa (fun _ => 0) 0, aR g at_ 54 (rT V1), aR g aw 30 (V1 9), aR g ar 30 (V1 10), aR g ag 30 (V1 11), aR g an 5 (V1 12)] H locs := hW
      have hP := hW.1
      refine W.widen (k := 50) (n := 300) (Nat.le_of_ble_eq_true rfl) (Nat.le_of_ble_eq_true rfl) ?_
      exact aZ_ret (B := [bB h q z, vB g (q 0) na V1, vB g (q 1) ta TV, vB g (q 2) pa SV, hB g (q 3) hq hh o1 n1, vB g (hh 0) (aa 0) (HV1 0), vB g (hh 1) (aa 1) (HV1 1), vB g (hh 2) (aa 2) (HV1 2), vB g (hh 3) (aa 3) (HV1 3), vB g (hh 4) (aa 4) (HV1 4), rB g (q 4) ra NN, tB g (q 5) sa (fun _ => 0) 0, aR g at_ 54 (rT V1), aR g aw 30 (V1 9), aR g ar 30 (V1 10), aR g ag 30 (V1 11), aR g an 5 (V1 12)]) (V1, cq1, o1, n1, HV1, NN) [] hsz hW hx hb hr hlocks dL_acts_130 (by rfl) (rfl) ⟨hL1.mono (by omega), ho1, hn1⟩ (rfl) (adr2 (L := [[h], [q 0, na 0, na 1, na 2, na 3, na 4, na 5, na 6, na 7, na 8, na 9, na 10, na 11], [q 1, ta 0, ta 1, ta 2, ta 3, ta 4, ta 5, ta 6, ta 7, ta 8, ta 9, ta 10, ta 11], [q 2, pa 0, pa 1, pa 2, pa 3, pa 4, pa 5, pa 6, pa 7, pa 8, pa 9, pa 10, pa 11], [q 3, hq], [hh 0, aa 0 0, aa 0 1, aa 0 2, aa 0 3, aa 0 4, aa 0 5, aa 0 6, aa 0 7, aa 0 8, aa 0 9, aa 0 10, aa 0 11], [hh 1, aa 1 0, aa 1 1, aa 1 2, aa 1 3, aa 1 4, aa 1 5, aa 1 6, aa 1 7, aa 1 8, aa 1 9, aa 1 10, aa 1 11], [hh 2, aa 2 0, aa 2 1, aa 2 2, aa 2 3, aa 2 4, aa 2 5, aa 2 6, aa 2 7, aa 2 8, aa 2 9, aa 2 10, aa 2 11], [hh 3, aa 3 0, aa 3 1, aa 3 2, aa 3 3, aa 3 4, aa 3 5, aa 3 6, aa 3 7, aa 3 8, aa 3 9, aa 3 10, aa 3 11], [hh 4, aa 4 0, aa 4 1, aa 4 2, aa 4 3, aa 4 4, aa 4 5, aa 4 6, aa 4 7, aa 4 8, aa 4 9, aa 4 10, aa 4 11], [q 4, ra 0, ra 1, ra 2, ra 3], [q 5, sa], [at_], [aw], [ar], [ag], [an]]) rfl rfl)
    · refine lv_tableIn (off := 120) (tgt := 131) hx hb dL_acts_11 (by decide) (by decide) (by decide) (by decide) ?_
      refine lv_iload hx hb dL_acts_131 (lv_at hl 8 rfl) ?_
      refine lv_iconst (v := 3) hx hb dL_acts_133 (by decide) ?_
      refine lv_ishr hx hb dL_acts_134 ?_
      refine lv_iconst (v := 1) hx hb dL_acts_135 (by decide) ?_
      refine lv_aload_n hx hb dL_acts_136 rfl (lv_at hl 2 rfl) ?_
      refine lv_bipush (v := 9) hx hb dL_acts_137 (by decide) ?_
      refine lv_iload hx hb dL_acts_139 (lv_at hl 0 rfl) ?_
      refine lv_imul hx hb dL_acts_141 ?_
      refine b_top (y := nI (9 * t0)) (pk_mul 9 t0) ?_
      refine lv_iconst (v := 3) hx hb dL_acts_142 (by decide) ?_
      refine lv_iadd hx hb dL_acts_143 ?_
      refine b_top (y := nI ((9 * t0) + 3)) (nI_add (9 * t0) 3) ?_
      refine b_iald (v := V 3 t0) hx hb hK hP 12 0 ((9 * t0) + 3) rfl rfl rfl (by omega) rfl ((rT_at _ (by omega)).trans rfl) dL_acts_144 ?_
      refine lv_ishl hx hb dL_acts_145 ?_
      refine b_top (y := nI (2 ^ cq t0)) (sh1_nat (LIh.cnt t0 ht05).1 (LIh.cnt t0 ht05).2) ?_
      have h01 : 0 < 2 ^ cq t0 := Nat.pos_of_ne_zero (by simp)
      have h32 := p32 (LIh.cnt t0 ht05).2
      refine call_SR (As := [.int (x >>> ((3 : Int32) &&& 31)), .int (nI (2 ^ cq t0))]) (rest := []) E rfl hK hP (c_L_low l g (x >>> ((3 : Int32) &&& 31)) (2 ^ cq t0) (by first | omega | assumption) (by first | omega | assumption)) ok_L_low rfl q1_187 [] rfl ⟨⟨rfl, rfl⟩, Nat.le_of_ble_eq_true rfl, Nat.le_of_ble_eq_true rfl⟩ hl.1 (Nat.le_of_ble_eq_true rfl) ⟨Nat.le_of_ble_eq_true rfl, Nat.le_of_ble_eq_true rfl⟩ rfl dL_acts_146 ?_
      obtain ⟨p0, hp0⟩ : ∃ z, z = lowN (x >>> ((3 : Int32) &&& 31)) (2 ^ cq t0) := ⟨_, rfl⟩
      have hp00 : p0 < 2 ^ cq t0 := by rw [hp0]; exact lowN_lt _ h01
      refine b_top (y := nI p0) (by rw [hp0]) ?_
      have hp0 := hp00
      refine lv_istore (lv' := [(9, .int (nI p0)), (8, .int (nI t0)), (0, .ref h), (1, .ref at_), (2, .ref aw), (3, .ref ar), (4, .ref ag), (5, .ref an), (6, .int (nI 6)), (7, .int x)]) hx hb dL_acts_149 hl (by decide) rfl (fun ls hl => ?_)
      refine lv_aload_n hx hb dL_acts_151 rfl (lv_at hl 3 rfl) ?_
      refine lv_bipush (v := 9) hx hb dL_acts_152 (by decide) ?_
      refine lv_iload hx hb dL_acts_154 (lv_at hl 1 rfl) ?_
      refine lv_imul hx hb dL_acts_156 ?_
      refine b_top (y := nI (9 * t0)) (pk_mul 9 t0) ?_
      refine lv_iconst (v := 4) hx hb dL_acts_157 (by decide) ?_
      refine lv_iadd hx hb dL_acts_158 ?_
      refine b_top (y := nI ((9 * t0) + 4)) (nI_add (9 * t0) 4) ?_
      refine b_iald (v := V 4 t0) hx hb hK hP 12 0 ((9 * t0) + 4) rfl rfl rfl (by omega) rfl ((rT_at _ (by omega)).trans rfl) dL_acts_159 ?_
      refine lv_istore (lv' := [(10, .int (V 4 t0)), (9, .int (nI p0)), (8, .int (nI t0)), (0, .ref h), (1, .ref at_), (2, .ref aw), (3, .ref ar), (4, .ref ag), (5, .ref an), (6, .int (nI 6)), (7, .int x)]) hx hb dL_acts_160 hl (by decide) rfl (fun ls hl => ?_)
      refine lv_aload_n hx hb dL_acts_162 rfl (lv_at hl 4 rfl) ?_
      refine lv_bipush (v := 9) hx hb dL_acts_163 (by decide) ?_
      refine lv_iload hx hb dL_acts_165 (lv_at hl 2 rfl) ?_
      refine lv_imul hx hb dL_acts_167 ?_
      refine b_top (y := nI (9 * t0)) (pk_mul 9 t0) ?_
      refine lv_iconst (v := 4) hx hb dL_acts_168 (by decide) ?_
      refine lv_iadd hx hb dL_acts_169 ?_
      refine b_top (y := nI ((9 * t0) + 4)) (nI_add (9 * t0) 4) ?_
      refine lv_iload hx hb dL_acts_170 (lv_at hl 1 rfl) ?_
      refine b_iastE (B' := [bB h q z, vB g (q 0) na V, vB g (q 1) ta TV, vB g (q 2) pa SV, hB g (q 3) hq hh o n, vB g (hh 0) (aa 0) (HV 0), vB g (hh 1) (aa 1) (HV 1), vB g (hh 2) (aa 2) (HV 2), vB g (hh 3) (aa 3) (HV 3), vB g (hh 4) (aa 4) (HV 4), rB g (q 4) ra NN, tB g (q 5) sa (fun _ => 0) 0, aR g at_ 54 (rT (up2 V 4 t0 (nI p0))), aR g aw 30 ((up2 V 4 t0 (nI p0)) 9), aR g ar 30 ((up2 V 4 t0 (nI p0)) 10), aR g ag 30 ((up2 V 4 t0 (nI p0)) 11), aR g an 5 ((up2 V 4 t0 (nI p0)) 12)]) hx hb hK hW 12 0 ((9 * t0) + 4) rfl rfl rfl (by omega) rfl (rT_put _ (by omega) _) rfl dL_acts_172 (fun H locs hW => ?_)
      have hP := hW.1
      refine lv_aload_n hx hb dL_acts_173 rfl (lv_at hl 3 rfl) ?_
      refine lv_iload hx hb dL_acts_174 (lv_at hl 2 rfl) ?_
      refine lv_iload hx hb dL_acts_176 (lv_at hl 1 rfl) ?_
      refine call_VU (As := [.int (nI t0), .int (nI p0)]) (rest := []) E rfl hK hW (c_X4_plan l g h q z na V ta TV pa SV hq hh o n aa HV ra NN sa (fun _ => 0) 0 (nI t0) (nI p0) t0 ho hn (Nat.zero_le _) (fun _ => ⟨rfl, ht05⟩)) ok_X4_plan rfl q2_207 [0, 1, 2, 3, 4, 5, 6, 7, 8, 9, 10, 11] rfl (by decide) (b_recv hK hP 0 0 rfl rfl rfl rfl) ⟨⟨rfl, rfl⟩, Nat.le_of_ble_eq_true rfl, Nat.le_of_ble_eq_true rfl⟩ hl.1 (Nat.le_of_ble_eq_true rfl) ⟨Nat.le_of_ble_eq_true rfl, Nat.le_of_ble_eq_true rfl⟩ rfl dL_acts_178 (fun u_7 H locs hu_7 hW => ?_)
      obtain rfl : u_7 = true := by
        cases u_7 with
        | true => rfl
        | false => exact absurd (plE_nat ht05 (LIh.cnt t0 ht05).1 (LIh.cnt t0 ht05).2 hp0) (show ¬ _ = 0 from hu_7)
      have hW : wd g _ s.heap [bB h q z, vB g (q 0) na (up2 V 4 t0 (nI p0)), vB g (q 1) ta TV, vB g (q 2) pa SV, hB g (q 3) hq hh (recO o n) (recS n), vB g (hh 0) (aa 0) (recH o n HV V 0), vB g (hh 1) (aa 1) (recH o n HV V 1), vB g (hh 2) (aa 2) (recH o n HV V 2), vB g (hh 3) (aa 3) (recH o n HV V 3), vB g (hh 4) (aa 4) (recH o n HV V 4), rB g (q 4) ra NN, tB g (q 5) sa (fun _ => 0) 0, aR g at_ 54 (rT (up2 V 4 t0 (nI p0))), aR g aw 30 ((up2 V 4 t0 (nI p0)) 9), aR g ar 30 ((up2 V 4 t0 (nI p0)) 10), aR g ag 30 ((up2 V 4 t0 (nI p0)) 11), aR g an 5 ((up2 V 4 t0 (nI p0)) 12)] H locs := hW
      have hP := hW.1
      refine b_top (y := V 4 t0) (cond_true _ _) ?_
      refine lv_iload hx hb dL_acts_181 (lv_at hl 0 rfl) ?_
      refine lv_icmp_ne (tgt := 190) hx hb dL_acts_183 (by decide) (fun h_8 => ?_) (fun h_8 => ?_)
      · exact absurd rfl h_8
      · refine lv_iconst (v := 1) hx hb dL_acts_186 (by decide) ?_
        refine lv_goto (tgt := 191) hx hb dL_acts_187 (by decide) ?_
        refine W.widen (k := 50) (n := 300) (Nat.le_of_ble_eq_true rfl) (Nat.le_of_ble_eq_true rfl) ?_
        exact aZ_ret (B := [bB h q z, vB g (q 0) na (up2 V 4 t0 (nI p0)), vB g (q 1) ta TV, vB g (q 2) pa SV, hB g (q 3) hq hh (recO o n) (recS n), vB g (hh 0) (aa 0) (recH o n HV V 0), vB g (hh 1) (aa 1) (recH o n HV V 1), vB g (hh 2) (aa 2) (recH o n HV V 2), vB g (hh 3) (aa 3) (recH o n HV V 3), vB g (hh 4) (aa 4) (recH o n HV V 4), rB g (q 4) ra NN, tB g (q 5) sa (fun _ => 0) 0, aR g at_ 54 (rT (up2 V 4 t0 (nI p0))), aR g aw 30 ((up2 V 4 t0 (nI p0)) 9), aR g ar 30 ((up2 V 4 t0 (nI p0)) 10), aR g ag 30 ((up2 V 4 t0 (nI p0)) 11), aR g an 5 ((up2 V 4 t0 (nI p0)) 12)]) ((up2 V 4 t0 (nI p0)), cq, recO o n, recS n, recH o n HV V, NN) [] hsz hW hx hb hr hlocks dL_acts_191 (by rfl) (rfl) ⟨(li_plan LIh ht05 hp0).mono (by omega), rec_o ho hn, rec_n hn⟩ (rfl) (adr2 (L := [[h], [q 0, na 0, na 1, na 2, na 3, na 4, na 5, na 6, na 7, na 8, na 9, na 10, na 11], [q 1, ta 0, ta 1, ta 2, ta 3, ta 4, ta 5, ta 6, ta 7, ta 8, ta 9, ta 10, ta 11], [q 2, pa 0, pa 1, pa 2, pa 3, pa 4, pa 5, pa 6, pa 7, pa 8, pa 9, pa 10, pa 11], [q 3, hq], [hh 0, aa 0 0, aa 0 1, aa 0 2, aa 0 3, aa 0 4, aa 0 5, aa 0 6, aa 0 7, aa 0 8, aa 0 9, aa 0 10, aa 0 11], [hh 1, aa 1 0, aa 1 1, aa 1 2, aa 1 3, aa 1 4, aa 1 5, aa 1 6, aa 1 7, aa 1 8, aa 1 9, aa 1 10, aa 1 11], [hh 2, aa 2 0, aa 2 1, aa 2 2, aa 2 3, aa 2 4, aa 2 5, aa 2 6, aa 2 7, aa 2 8, aa 2 9, aa 2 10, aa 2 11], [hh 3, aa 3 0, aa 3 1, aa 3 2, aa 3 3, aa 3 4, aa 3 5, aa 3 6, aa 3 7, aa 3 8, aa 3 9, aa 3 10, aa 3 11], [hh 4, aa 4 0, aa 4 1, aa 4 2, aa 4 3, aa 4 4, aa 4 5, aa 4 6, aa 4 7, aa 4 8, aa 4 9, aa 4 10, aa 4 11], [q 4, ra 0, ra 1, ra 2, ra 3], [q 5, sa], [at_], [aw], [ar], [ag], [an]]) rfl rfl)
    · refine lv_tableIn (off := 120) (tgt := 131) hx hb dL_acts_11 (by decide) (by decide) (by decide) (by decide) ?_
      refine lv_iload hx hb dL_acts_131 (lv_at hl 8 rfl) ?_
      refine lv_iconst (v := 3) hx hb dL_acts_133 (by decide) ?_
      refine lv_ishr hx hb dL_acts_134 ?_
      refine lv_iconst (v := 1) hx hb dL_acts_135 (by decide) ?_
      refine lv_aload_n hx hb dL_acts_136 rfl (lv_at hl 2 rfl) ?_
      refine lv_bipush (v := 9) hx hb dL_acts_137 (by decide) ?_
      refine lv_iload hx hb dL_acts_139 (lv_at hl 0 rfl) ?_
      refine lv_imul hx hb dL_acts_141 ?_
      refine b_top (y := nI (9 * t0)) (pk_mul 9 t0) ?_
      refine lv_iconst (v := 3) hx hb dL_acts_142 (by decide) ?_
      refine lv_iadd hx hb dL_acts_143 ?_
      refine b_top (y := nI ((9 * t0) + 3)) (nI_add (9 * t0) 3) ?_
      refine b_iald (v := V 3 t0) hx hb hK hP 12 0 ((9 * t0) + 3) rfl rfl rfl (by omega) rfl ((rT_at _ (by omega)).trans rfl) dL_acts_144 ?_
      refine lv_ishl hx hb dL_acts_145 ?_
      refine b_top (y := nI (2 ^ cq t0)) (sh1_nat (LIh.cnt t0 ht05).1 (LIh.cnt t0 ht05).2) ?_
      have h01 : 0 < 2 ^ cq t0 := Nat.pos_of_ne_zero (by simp)
      have h32 := p32 (LIh.cnt t0 ht05).2
      refine call_SR (As := [.int (x >>> ((3 : Int32) &&& 31)), .int (nI (2 ^ cq t0))]) (rest := []) E rfl hK hP (c_L_low l g (x >>> ((3 : Int32) &&& 31)) (2 ^ cq t0) (by first | omega | assumption) (by first | omega | assumption)) ok_L_low rfl q1_187 [] rfl ⟨⟨rfl, rfl⟩, Nat.le_of_ble_eq_true rfl, Nat.le_of_ble_eq_true rfl⟩ hl.1 (Nat.le_of_ble_eq_true rfl) ⟨Nat.le_of_ble_eq_true rfl, Nat.le_of_ble_eq_true rfl⟩ rfl dL_acts_146 ?_
      obtain ⟨p0, hp0⟩ : ∃ z, z = lowN (x >>> ((3 : Int32) &&& 31)) (2 ^ cq t0) := ⟨_, rfl⟩
      have hp00 : p0 < 2 ^ cq t0 := by rw [hp0]; exact lowN_lt _ h01
      refine b_top (y := nI p0) (by rw [hp0]) ?_
      have hp0 := hp00
      refine lv_istore (lv' := [(9, .int (nI p0)), (8, .int (nI t0)), (0, .ref h), (1, .ref at_), (2, .ref aw), (3, .ref ar), (4, .ref ag), (5, .ref an), (6, .int (nI 7)), (7, .int x)]) hx hb dL_acts_149 hl (by decide) rfl (fun ls hl => ?_)
      refine lv_aload_n hx hb dL_acts_151 rfl (lv_at hl 3 rfl) ?_
      refine lv_bipush (v := 9) hx hb dL_acts_152 (by decide) ?_
      refine lv_iload hx hb dL_acts_154 (lv_at hl 1 rfl) ?_
      refine lv_imul hx hb dL_acts_156 ?_
      refine b_top (y := nI (9 * t0)) (pk_mul 9 t0) ?_
      refine lv_iconst (v := 4) hx hb dL_acts_157 (by decide) ?_
      refine lv_iadd hx hb dL_acts_158 ?_
      refine b_top (y := nI ((9 * t0) + 4)) (nI_add (9 * t0) 4) ?_
      refine b_iald (v := V 4 t0) hx hb hK hP 12 0 ((9 * t0) + 4) rfl rfl rfl (by omega) rfl ((rT_at _ (by omega)).trans rfl) dL_acts_159 ?_
      refine lv_istore (lv' := [(10, .int (V 4 t0)), (9, .int (nI p0)), (8, .int (nI t0)), (0, .ref h), (1, .ref at_), (2, .ref aw), (3, .ref ar), (4, .ref ag), (5, .ref an), (6, .int (nI 7)), (7, .int x)]) hx hb dL_acts_160 hl (by decide) rfl (fun ls hl => ?_)
      refine lv_aload_n hx hb dL_acts_162 rfl (lv_at hl 4 rfl) ?_
      refine lv_bipush (v := 9) hx hb dL_acts_163 (by decide) ?_
      refine lv_iload hx hb dL_acts_165 (lv_at hl 2 rfl) ?_
      refine lv_imul hx hb dL_acts_167 ?_
      refine b_top (y := nI (9 * t0)) (pk_mul 9 t0) ?_
      refine lv_iconst (v := 4) hx hb dL_acts_168 (by decide) ?_
      refine lv_iadd hx hb dL_acts_169 ?_
      refine b_top (y := nI ((9 * t0) + 4)) (nI_add (9 * t0) 4) ?_
      refine lv_iload hx hb dL_acts_170 (lv_at hl 1 rfl) ?_
      refine b_iastE (B' := [bB h q z, vB g (q 0) na V, vB g (q 1) ta TV, vB g (q 2) pa SV, hB g (q 3) hq hh o n, vB g (hh 0) (aa 0) (HV 0), vB g (hh 1) (aa 1) (HV 1), vB g (hh 2) (aa 2) (HV 2), vB g (hh 3) (aa 3) (HV 3), vB g (hh 4) (aa 4) (HV 4), rB g (q 4) ra NN, tB g (q 5) sa (fun _ => 0) 0, aR g at_ 54 (rT (up2 V 4 t0 (nI p0))), aR g aw 30 ((up2 V 4 t0 (nI p0)) 9), aR g ar 30 ((up2 V 4 t0 (nI p0)) 10), aR g ag 30 ((up2 V 4 t0 (nI p0)) 11), aR g an 5 ((up2 V 4 t0 (nI p0)) 12)]) hx hb hK hW 12 0 ((9 * t0) + 4) rfl rfl rfl (by omega) rfl (rT_put _ (by omega) _) rfl dL_acts_172 (fun H locs hW => ?_)
      have hP := hW.1
      refine lv_aload_n hx hb dL_acts_173 rfl (lv_at hl 3 rfl) ?_
      refine lv_iload hx hb dL_acts_174 (lv_at hl 2 rfl) ?_
      refine lv_iload hx hb dL_acts_176 (lv_at hl 1 rfl) ?_
      refine call_VU (As := [.int (nI t0), .int (nI p0)]) (rest := []) E rfl hK hW (c_X4_plan l g h q z na V ta TV pa SV hq hh o n aa HV ra NN sa (fun _ => 0) 0 (nI t0) (nI p0) t0 ho hn (Nat.zero_le _) (fun _ => ⟨rfl, ht05⟩)) ok_X4_plan rfl q2_207 [0, 1, 2, 3, 4, 5, 6, 7, 8, 9, 10, 11] rfl (by decide) (b_recv hK hP 0 0 rfl rfl rfl rfl) ⟨⟨rfl, rfl⟩, Nat.le_of_ble_eq_true rfl, Nat.le_of_ble_eq_true rfl⟩ hl.1 (Nat.le_of_ble_eq_true rfl) ⟨Nat.le_of_ble_eq_true rfl, Nat.le_of_ble_eq_true rfl⟩ rfl dL_acts_178 (fun u_9 H locs hu_9 hW => ?_)
      obtain rfl : u_9 = true := by
        cases u_9 with
        | true => rfl
        | false => exact absurd (plE_nat ht05 (LIh.cnt t0 ht05).1 (LIh.cnt t0 ht05).2 hp0) (show ¬ _ = 0 from hu_9)
      have hW : wd g _ s.heap [bB h q z, vB g (q 0) na (up2 V 4 t0 (nI p0)), vB g (q 1) ta TV, vB g (q 2) pa SV, hB g (q 3) hq hh (recO o n) (recS n), vB g (hh 0) (aa 0) (recH o n HV V 0), vB g (hh 1) (aa 1) (recH o n HV V 1), vB g (hh 2) (aa 2) (recH o n HV V 2), vB g (hh 3) (aa 3) (recH o n HV V 3), vB g (hh 4) (aa 4) (recH o n HV V 4), rB g (q 4) ra NN, tB g (q 5) sa (fun _ => 0) 0, aR g at_ 54 (rT (up2 V 4 t0 (nI p0))), aR g aw 30 ((up2 V 4 t0 (nI p0)) 9), aR g ar 30 ((up2 V 4 t0 (nI p0)) 10), aR g ag 30 ((up2 V 4 t0 (nI p0)) 11), aR g an 5 ((up2 V 4 t0 (nI p0)) 12)] H locs := hW
      have hP := hW.1
      refine b_top (y := V 4 t0) (cond_true _ _) ?_
      refine lv_iload hx hb dL_acts_181 (lv_at hl 0 rfl) ?_
      refine lv_icmp_ne (tgt := 190) hx hb dL_acts_183 (by decide) (fun h_10 => ?_) (fun h_10 => ?_)
      · exact absurd rfl h_10
      · refine lv_iconst (v := 1) hx hb dL_acts_186 (by decide) ?_
        refine lv_goto (tgt := 191) hx hb dL_acts_187 (by decide) ?_
        refine W.widen (k := 50) (n := 300) (Nat.le_of_ble_eq_true rfl) (Nat.le_of_ble_eq_true rfl) ?_
        exact aZ_ret (B := [bB h q z, vB g (q 0) na (up2 V 4 t0 (nI p0)), vB g (q 1) ta TV, vB g (q 2) pa SV, hB g (q 3) hq hh (recO o n) (recS n), vB g (hh 0) (aa 0) (recH o n HV V 0), vB g (hh 1) (aa 1) (recH o n HV V 1), vB g (hh 2) (aa 2) (recH o n HV V 2), vB g (hh 3) (aa 3) (recH o n HV V 3), vB g (hh 4) (aa 4) (recH o n HV V 4), rB g (q 4) ra NN, tB g (q 5) sa (fun _ => 0) 0, aR g at_ 54 (rT (up2 V 4 t0 (nI p0))), aR g aw 30 ((up2 V 4 t0 (nI p0)) 9), aR g ar 30 ((up2 V 4 t0 (nI p0)) 10), aR g ag 30 ((up2 V 4 t0 (nI p0)) 11), aR g an 5 ((up2 V 4 t0 (nI p0)) 12)]) ((up2 V 4 t0 (nI p0)), cq, recO o n, recS n, recH o n HV V, NN) [] hsz hW hx hb hr hlocks dL_acts_191 (by rfl) (rfl) ⟨(li_plan LIh ht05 hp0).mono (by omega), rec_o ho hn, rec_n hn⟩ (rfl) (adr2 (L := [[h], [q 0, na 0, na 1, na 2, na 3, na 4, na 5, na 6, na 7, na 8, na 9, na 10, na 11], [q 1, ta 0, ta 1, ta 2, ta 3, ta 4, ta 5, ta 6, ta 7, ta 8, ta 9, ta 10, ta 11], [q 2, pa 0, pa 1, pa 2, pa 3, pa 4, pa 5, pa 6, pa 7, pa 8, pa 9, pa 10, pa 11], [q 3, hq], [hh 0, aa 0 0, aa 0 1, aa 0 2, aa 0 3, aa 0 4, aa 0 5, aa 0 6, aa 0 7, aa 0 8, aa 0 9, aa 0 10, aa 0 11], [hh 1, aa 1 0, aa 1 1, aa 1 2, aa 1 3, aa 1 4, aa 1 5, aa 1 6, aa 1 7, aa 1 8, aa 1 9, aa 1 10, aa 1 11], [hh 2, aa 2 0, aa 2 1, aa 2 2, aa 2 3, aa 2 4, aa 2 5, aa 2 6, aa 2 7, aa 2 8, aa 2 9, aa 2 10, aa 2 11], [hh 3, aa 3 0, aa 3 1, aa 3 2, aa 3 3, aa 3 4, aa 3 5, aa 3 6, aa 3 7, aa 3 8, aa 3 9, aa 3 10, aa 3 11], [hh 4, aa 4 0, aa 4 1, aa 4 2, aa 4 3, aa 4 4, aa 4 5, aa 4 6, aa 4 7, aa 4 8, aa 4 9, aa 4 10, aa 4 11], [q 4, ra 0, ra 1, ra 2, ra 3], [q 5, sa], [at_], [aw], [ar], [ag], [an]]) rfl rfl)
    · refine lv_tableIn (off := 120) (tgt := 131) hx hb dL_acts_11 (by decide) (by decide) (by decide) (by decide) ?_
      refine lv_iload hx hb dL_acts_131 (lv_at hl 8 rfl) ?_
      refine lv_iconst (v := 3) hx hb dL_acts_133 (by decide) ?_
      refine lv_ishr hx hb dL_acts_134 ?_
      refine lv_iconst (v := 1) hx hb dL_acts_135 (by decide) ?_
      refine lv_aload_n hx hb dL_acts_136 rfl (lv_at hl 2 rfl) ?_
      refine lv_bipush (v := 9) hx hb dL_acts_137 (by decide) ?_
      refine lv_iload hx hb dL_acts_139 (lv_at hl 0 rfl) ?_
      refine lv_imul hx hb dL_acts_141 ?_
      refine b_top (y := nI (9 * t0)) (pk_mul 9 t0) ?_
      refine lv_iconst (v := 3) hx hb dL_acts_142 (by decide) ?_
      refine lv_iadd hx hb dL_acts_143 ?_
      refine b_top (y := nI ((9 * t0) + 3)) (nI_add (9 * t0) 3) ?_
      refine b_iald (v := V 3 t0) hx hb hK hP 12 0 ((9 * t0) + 3) rfl rfl rfl (by omega) rfl ((rT_at _ (by omega)).trans rfl) dL_acts_144 ?_
      refine lv_ishl hx hb dL_acts_145 ?_
      refine b_top (y := nI (2 ^ cq t0)) (sh1_nat (LIh.cnt t0 ht05).1 (LIh.cnt t0 ht05).2) ?_
      have h01 : 0 < 2 ^ cq t0 := Nat.pos_of_ne_zero (by simp)
      have h32 := p32 (LIh.cnt t0 ht05).2
      refine call_SR (As := [.int (x >>> ((3 : Int32) &&& 31)), .int (nI (2 ^ cq t0))]) (rest := []) E rfl hK hP (c_L_low l g (x >>> ((3 : Int32) &&& 31)) (2 ^ cq t0) (by first | omega | assumption) (by first | omega | assumption)) ok_L_low rfl q1_187 [] rfl ⟨⟨rfl, rfl⟩, Nat.le_of_ble_eq_true rfl, Nat.le_of_ble_eq_true rfl⟩ hl.1 (Nat.le_of_ble_eq_true rfl) ⟨Nat.le_of_ble_eq_true rfl, Nat.le_of_ble_eq_true rfl⟩ rfl dL_acts_146 ?_
      obtain ⟨p0, hp0⟩ : ∃ z, z = lowN (x >>> ((3 : Int32) &&& 31)) (2 ^ cq t0) := ⟨_, rfl⟩
      have hp00 : p0 < 2 ^ cq t0 := by rw [hp0]; exact lowN_lt _ h01
      refine b_top (y := nI p0) (by rw [hp0]) ?_
      have hp0 := hp00
      refine lv_istore (lv' := [(9, .int (nI p0)), (8, .int (nI t0)), (0, .ref h), (1, .ref at_), (2, .ref aw), (3, .ref ar), (4, .ref ag), (5, .ref an), (6, .int (nI 8)), (7, .int x)]) hx hb dL_acts_149 hl (by decide) rfl (fun ls hl => ?_)
      refine lv_aload_n hx hb dL_acts_151 rfl (lv_at hl 3 rfl) ?_
      refine lv_bipush (v := 9) hx hb dL_acts_152 (by decide) ?_
      refine lv_iload hx hb dL_acts_154 (lv_at hl 1 rfl) ?_
      refine lv_imul hx hb dL_acts_156 ?_
      refine b_top (y := nI (9 * t0)) (pk_mul 9 t0) ?_
      refine lv_iconst (v := 4) hx hb dL_acts_157 (by decide) ?_
      refine lv_iadd hx hb dL_acts_158 ?_
      refine b_top (y := nI ((9 * t0) + 4)) (nI_add (9 * t0) 4) ?_
      refine b_iald (v := V 4 t0) hx hb hK hP 12 0 ((9 * t0) + 4) rfl rfl rfl (by omega) rfl ((rT_at _ (by omega)).trans rfl) dL_acts_159 ?_
      refine lv_istore (lv' := [(10, .int (V 4 t0)), (9, .int (nI p0)), (8, .int (nI t0)), (0, .ref h), (1, .ref at_), (2, .ref aw), (3, .ref ar), (4, .ref ag), (5, .ref an), (6, .int (nI 8)), (7, .int x)]) hx hb dL_acts_160 hl (by decide) rfl (fun ls hl => ?_)
      refine lv_aload_n hx hb dL_acts_162 rfl (lv_at hl 4 rfl) ?_
      refine lv_bipush (v := 9) hx hb dL_acts_163 (by decide) ?_
      refine lv_iload hx hb dL_acts_165 (lv_at hl 2 rfl) ?_
      refine lv_imul hx hb dL_acts_167 ?_
      refine b_top (y := nI (9 * t0)) (pk_mul 9 t0) ?_
      refine lv_iconst (v := 4) hx hb dL_acts_168 (by decide) ?_
      refine lv_iadd hx hb dL_acts_169 ?_
      refine b_top (y := nI ((9 * t0) + 4)) (nI_add (9 * t0) 4) ?_
      refine lv_iload hx hb dL_acts_170 (lv_at hl 1 rfl) ?_
      refine b_iastE (B' := [bB h q z, vB g (q 0) na V, vB g (q 1) ta TV, vB g (q 2) pa SV, hB g (q 3) hq hh o n, vB g (hh 0) (aa 0) (HV 0), vB g (hh 1) (aa 1) (HV 1), vB g (hh 2) (aa 2) (HV 2), vB g (hh 3) (aa 3) (HV 3), vB g (hh 4) (aa 4) (HV 4), rB g (q 4) ra NN, tB g (q 5) sa (fun _ => 0) 0, aR g at_ 54 (rT (up2 V 4 t0 (nI p0))), aR g aw 30 ((up2 V 4 t0 (nI p0)) 9), aR g ar 30 ((up2 V 4 t0 (nI p0)) 10), aR g ag 30 ((up2 V 4 t0 (nI p0)) 11), aR g an 5 ((up2 V 4 t0 (nI p0)) 12)]) hx hb hK hW 12 0 ((9 * t0) + 4) rfl rfl rfl (by omega) rfl (rT_put _ (by omega) _) rfl dL_acts_172 (fun H locs hW => ?_)
      have hP := hW.1
      refine lv_aload_n hx hb dL_acts_173 rfl (lv_at hl 3 rfl) ?_
      refine lv_iload hx hb dL_acts_174 (lv_at hl 2 rfl) ?_
      refine lv_iload hx hb dL_acts_176 (lv_at hl 1 rfl) ?_
      refine call_VU (As := [.int (nI t0), .int (nI p0)]) (rest := []) E rfl hK hW (c_X4_plan l g h q z na V ta TV pa SV hq hh o n aa HV ra NN sa (fun _ => 0) 0 (nI t0) (nI p0) t0 ho hn (Nat.zero_le _) (fun _ => ⟨rfl, ht05⟩)) ok_X4_plan rfl q2_207 [0, 1, 2, 3, 4, 5, 6, 7, 8, 9, 10, 11] rfl (by decide) (b_recv hK hP 0 0 rfl rfl rfl rfl) ⟨⟨rfl, rfl⟩, Nat.le_of_ble_eq_true rfl, Nat.le_of_ble_eq_true rfl⟩ hl.1 (Nat.le_of_ble_eq_true rfl) ⟨Nat.le_of_ble_eq_true rfl, Nat.le_of_ble_eq_true rfl⟩ rfl dL_acts_178 (fun u_11 H locs hu_11 hW => ?_)
      obtain rfl : u_11 = true := by
        cases u_11 with
        | true => rfl
        | false => exact absurd (plE_nat ht05 (LIh.cnt t0 ht05).1 (LIh.cnt t0 ht05).2 hp0) (show ¬ _ = 0 from hu_11)
      have hW : wd g _ s.heap [bB h q z, vB g (q 0) na (up2 V 4 t0 (nI p0)), vB g (q 1) ta TV, vB g (q 2) pa SV, hB g (q 3) hq hh (recO o n) (recS n), vB g (hh 0) (aa 0) (recH o n HV V 0), vB g (hh 1) (aa 1) (recH o n HV V 1), vB g (hh 2) (aa 2) (recH o n HV V 2), vB g (hh 3) (aa 3) (recH o n HV V 3), vB g (hh 4) (aa 4) (recH o n HV V 4), rB g (q 4) ra NN, tB g (q 5) sa (fun _ => 0) 0, aR g at_ 54 (rT (up2 V 4 t0 (nI p0))), aR g aw 30 ((up2 V 4 t0 (nI p0)) 9), aR g ar 30 ((up2 V 4 t0 (nI p0)) 10), aR g ag 30 ((up2 V 4 t0 (nI p0)) 11), aR g an 5 ((up2 V 4 t0 (nI p0)) 12)] H locs := hW
      have hP := hW.1
      refine b_top (y := V 4 t0) (cond_true _ _) ?_
      refine lv_iload hx hb dL_acts_181 (lv_at hl 0 rfl) ?_
      refine lv_icmp_ne (tgt := 190) hx hb dL_acts_183 (by decide) (fun h_12 => ?_) (fun h_12 => ?_)
      · exact absurd rfl h_12
      · refine lv_iconst (v := 1) hx hb dL_acts_186 (by decide) ?_
        refine lv_goto (tgt := 191) hx hb dL_acts_187 (by decide) ?_
        refine W.widen (k := 50) (n := 300) (Nat.le_of_ble_eq_true rfl) (Nat.le_of_ble_eq_true rfl) ?_
        exact aZ_ret (B := [bB h q z, vB g (q 0) na (up2 V 4 t0 (nI p0)), vB g (q 1) ta TV, vB g (q 2) pa SV, hB g (q 3) hq hh (recO o n) (recS n), vB g (hh 0) (aa 0) (recH o n HV V 0), vB g (hh 1) (aa 1) (recH o n HV V 1), vB g (hh 2) (aa 2) (recH o n HV V 2), vB g (hh 3) (aa 3) (recH o n HV V 3), vB g (hh 4) (aa 4) (recH o n HV V 4), rB g (q 4) ra NN, tB g (q 5) sa (fun _ => 0) 0, aR g at_ 54 (rT (up2 V 4 t0 (nI p0))), aR g aw 30 ((up2 V 4 t0 (nI p0)) 9), aR g ar 30 ((up2 V 4 t0 (nI p0)) 10), aR g ag 30 ((up2 V 4 t0 (nI p0)) 11), aR g an 5 ((up2 V 4 t0 (nI p0)) 12)]) ((up2 V 4 t0 (nI p0)), cq, recO o n, recS n, recH o n HV V, NN) [] hsz hW hx hb hr hlocks dL_acts_191 (by rfl) (rfl) ⟨(li_plan LIh ht05 hp0).mono (by omega), rec_o ho hn, rec_n hn⟩ (rfl) (adr2 (L := [[h], [q 0, na 0, na 1, na 2, na 3, na 4, na 5, na 6, na 7, na 8, na 9, na 10, na 11], [q 1, ta 0, ta 1, ta 2, ta 3, ta 4, ta 5, ta 6, ta 7, ta 8, ta 9, ta 10, ta 11], [q 2, pa 0, pa 1, pa 2, pa 3, pa 4, pa 5, pa 6, pa 7, pa 8, pa 9, pa 10, pa 11], [q 3, hq], [hh 0, aa 0 0, aa 0 1, aa 0 2, aa 0 3, aa 0 4, aa 0 5, aa 0 6, aa 0 7, aa 0 8, aa 0 9, aa 0 10, aa 0 11], [hh 1, aa 1 0, aa 1 1, aa 1 2, aa 1 3, aa 1 4, aa 1 5, aa 1 6, aa 1 7, aa 1 8, aa 1 9, aa 1 10, aa 1 11], [hh 2, aa 2 0, aa 2 1, aa 2 2, aa 2 3, aa 2 4, aa 2 5, aa 2 6, aa 2 7, aa 2 8, aa 2 9, aa 2 10, aa 2 11], [hh 3, aa 3 0, aa 3 1, aa 3 2, aa 3 3, aa 3 4, aa 3 5, aa 3 6, aa 3 7, aa 3 8, aa 3 9, aa 3 10, aa 3 11], [hh 4, aa 4 0, aa 4 1, aa 4 2, aa 4 3, aa 4 4, aa 4 5, aa 4 6, aa 4 7, aa 4 8, aa 4 9, aa 4 10, aa 4 11], [q 4, ra 0, ra 1, ra 2, ra 3], [q 5, sa], [at_], [aw], [ar], [ag], [an]]) rfl rfl)
    · refine lv_tableIn (off := 181) (tgt := 192) hx hb dL_acts_11 (by decide) (by decide) (by decide) (by decide) ?_
      refine lv_aload_n hx hb dL_acts_192 rfl (lv_at hl 2 rfl) ?_
      refine lv_bipush (v := 9) hx hb dL_acts_193 (by decide) ?_
      refine lv_iload hx hb dL_acts_195 (lv_at hl 0 rfl) ?_
      refine lv_imul hx hb dL_acts_197 ?_
      refine b_top (y := nI (9 * t0)) (pk_mul 9 t0) ?_
      refine lv_iconst (v := 5) hx hb dL_acts_198 (by decide) ?_
      refine lv_iadd hx hb dL_acts_199 ?_
      refine b_top (y := nI ((9 * t0) + 5)) (nI_add (9 * t0) 5) ?_
      refine b_iald (v := V 5 t0) hx hb hK hP 12 0 ((9 * t0) + 5) rfl rfl rfl (by omega) rfl ((rT_at _ (by omega)).trans rfl) dL_acts_200 ?_
      refine lv_istore (lv' := [(11, .int (V 5 t0)), (8, .int (nI t0)), (0, .ref h), (1, .ref at_), (2, .ref aw), (3, .ref ar), (4, .ref ag), (5, .ref an), (6, .int (nI 9)), (7, .int x)]) hx hb dL_acts_201 hl (by decide) rfl (fun ls hl => ?_)
      refine lv_aload_n hx hb dL_acts_203 rfl (lv_at hl 3 rfl) ?_
      refine lv_bipush (v := 9) hx hb dL_acts_204 (by decide) ?_
      refine lv_iload hx hb dL_acts_206 (lv_at hl 1 rfl) ?_
      refine lv_imul hx hb dL_acts_208 ?_
      refine b_top (y := nI (9 * t0)) (pk_mul 9 t0) ?_
      refine lv_iconst (v := 5) hx hb dL_acts_209 (by decide) ?_
      refine lv_iadd hx hb dL_acts_210 ?_
      refine b_top (y := nI ((9 * t0) + 5)) (nI_add (9 * t0) 5) ?_
      refine lv_iload hx hb dL_acts_211 (lv_at hl 9 rfl) ?_
      refine lv_iconst (v := 3) hx hb dL_acts_213 (by decide) ?_
      refine lv_ishr hx hb dL_acts_214 ?_
      refine lv_bipush (v := 7) hx hb dL_acts_215 (by decide) ?_
      refine call_SR (As := [.int (x >>> ((3 : Int32) &&& 31)), .int 7]) (rest := [.int (nI ((9 * t0) + 5)), .ref at_]) E rfl hK hP (c_L_low l g (x >>> ((3 : Int32) &&& 31)) 7 (by first | omega | assumption) (by first | omega | assumption)) ok_L_low rfl q1_187 [] rfl ⟨⟨rfl, rfl⟩, Nat.le_of_ble_eq_true rfl, Nat.le_of_ble_eq_true rfl⟩ hl.1 (Nat.le_of_ble_eq_true rfl) ⟨Nat.le_of_ble_eq_true rfl, Nat.le_of_ble_eq_true rfl⟩ rfl dL_acts_217 ?_
      obtain ⟨d0, hd0⟩ : ∃ z, z = lowN (x >>> ((3 : Int32) &&& 31)) 7 := ⟨_, rfl⟩
      have hd05 : d0 < 7 := by rw [hd0]; exact lowN_lt _ (by decide)
      refine b_top (y := nI d0) (by rw [hd0]) ?_
      refine b_iastE (B' := [bB h q z, vB g (q 0) na V, vB g (q 1) ta TV, vB g (q 2) pa SV, hB g (q 3) hq hh o n, vB g (hh 0) (aa 0) (HV 0), vB g (hh 1) (aa 1) (HV 1), vB g (hh 2) (aa 2) (HV 2), vB g (hh 3) (aa 3) (HV 3), vB g (hh 4) (aa 4) (HV 4), rB g (q 4) ra NN, tB g (q 5) sa (fun _ => 0) 0, aR g at_ 54 (rT (up2 V 5 t0 (nI d0))), aR g aw 30 ((up2 V 5 t0 (nI d0)) 9), aR g ar 30 ((up2 V 5 t0 (nI d0)) 10), aR g ag 30 ((up2 V 5 t0 (nI d0)) 11), aR g an 5 ((up2 V 5 t0 (nI d0)) 12)]) hx hb hK hW 12 0 ((9 * t0) + 5) rfl rfl rfl (by omega) rfl (rT_put _ (by omega) _) rfl dL_acts_220 (fun H locs hW => ?_)
      have hP := hW.1
      refine lv_aload_n hx hb dL_acts_221 rfl (lv_at hl 2 rfl) ?_
      refine lv_iload hx hb dL_acts_222 (lv_at hl 1 rfl) ?_
      refine lv_aload_n hx hb dL_acts_224 rfl (lv_at hl 3 rfl) ?_
      refine lv_bipush (v := 9) hx hb dL_acts_225 (by decide) ?_
      refine lv_iload hx hb dL_acts_227 (lv_at hl 1 rfl) ?_
      refine lv_imul hx hb dL_acts_229 ?_
      refine b_top (y := nI (9 * t0)) (pk_mul 9 t0) ?_
      refine lv_iconst (v := 5) hx hb dL_acts_230 (by decide) ?_
      refine lv_iadd hx hb dL_acts_231 ?_
      refine b_top (y := nI ((9 * t0) + 5)) (nI_add (9 * t0) 5) ?_
      refine b_iald (v := (nI d0)) hx hb hK hP 12 0 ((9 * t0) + 5) rfl rfl rfl (by omega) rfl ((rT_at _ (by omega)).trans (up2_eq V 5 t0 (nI d0))) dL_acts_232 ?_
      refine call_VU (As := [.int (nI t0), .int (nI d0)]) (rest := []) E rfl hK hW (c_X4_feast l g h q z na V ta TV pa SV hq hh o n aa HV ra NN sa (fun _ => 0) 0 (nI t0) (nI d0) t0 ho hn (Nat.zero_le _) (fun _ => ⟨rfl, ht05⟩)) ok_X4_feast rfl q2_215 [0, 1, 2, 3, 4, 5, 6, 7, 8, 9, 10, 11] rfl (by decide) (b_recv hK hP 0 0 rfl rfl rfl rfl) ⟨⟨rfl, rfl⟩, Nat.le_of_ble_eq_true rfl, Nat.le_of_ble_eq_true rfl⟩ hl.1 (Nat.le_of_ble_eq_true rfl) ⟨Nat.le_of_ble_eq_true rfl, Nat.le_of_ble_eq_true rfl⟩ rfl dL_acts_233 (fun u_13 H locs hu_13 hW => ?_)
      obtain rfl : u_13 = true := by
        cases u_13 with
        | true => rfl
        | false => exact absurd (feE_nat ht05 hd05) (show ¬ _ = 0 from hu_13)
      have hW : wd g _ s.heap [bB h q z, vB g (q 0) na (up2 V 5 t0 (nI d0)), vB g (q 1) ta TV, vB g (q 2) pa SV, hB g (q 3) hq hh (recO o n) (recS n), vB g (hh 0) (aa 0) (recH o n HV V 0), vB g (hh 1) (aa 1) (recH o n HV V 1), vB g (hh 2) (aa 2) (recH o n HV V 2), vB g (hh 3) (aa 3) (recH o n HV V 3), vB g (hh 4) (aa 4) (recH o n HV V 4), rB g (q 4) ra NN, tB g (q 5) sa (fun _ => 0) 0, aR g at_ 54 (rT (up2 V 5 t0 (nI d0))), aR g aw 30 ((up2 V 5 t0 (nI d0)) 9), aR g ar 30 ((up2 V 5 t0 (nI d0)) 10), aR g ag 30 ((up2 V 5 t0 (nI d0)) 11), aR g an 5 ((up2 V 5 t0 (nI d0)) 12)] H locs := hW
      have hP := hW.1
      refine b_top (y := V 5 t0) (cond_true _ _) ?_
      refine lv_iload hx hb dL_acts_236 (lv_at hl 0 rfl) ?_
      refine lv_icmp_ne (tgt := 245) hx hb dL_acts_238 (by decide) (fun h_14 => ?_) (fun h_14 => ?_)
      · exact absurd rfl h_14
      · refine lv_iconst (v := 1) hx hb dL_acts_241 (by decide) ?_
        refine lv_goto (tgt := 246) hx hb dL_acts_242 (by decide) ?_
        refine W.widen (k := 50) (n := 300) (Nat.le_of_ble_eq_true rfl) (Nat.le_of_ble_eq_true rfl) ?_
        exact aZ_ret (B := [bB h q z, vB g (q 0) na (up2 V 5 t0 (nI d0)), vB g (q 1) ta TV, vB g (q 2) pa SV, hB g (q 3) hq hh (recO o n) (recS n), vB g (hh 0) (aa 0) (recH o n HV V 0), vB g (hh 1) (aa 1) (recH o n HV V 1), vB g (hh 2) (aa 2) (recH o n HV V 2), vB g (hh 3) (aa 3) (recH o n HV V 3), vB g (hh 4) (aa 4) (recH o n HV V 4), rB g (q 4) ra NN, tB g (q 5) sa (fun _ => 0) 0, aR g at_ 54 (rT (up2 V 5 t0 (nI d0))), aR g aw 30 ((up2 V 5 t0 (nI d0)) 9), aR g ar 30 ((up2 V 5 t0 (nI d0)) 10), aR g ag 30 ((up2 V 5 t0 (nI d0)) 11), aR g an 5 ((up2 V 5 t0 (nI d0)) 12)]) ((up2 V 5 t0 (nI d0)), cq, recO o n, recS n, recH o n HV V, NN) [] hsz hW hx hb hr hlocks dL_acts_246 (by rfl) (rfl) ⟨(li_feast LIh).mono (by omega), rec_o ho hn, rec_n hn⟩ (rfl) (adr2 (L := [[h], [q 0, na 0, na 1, na 2, na 3, na 4, na 5, na 6, na 7, na 8, na 9, na 10, na 11], [q 1, ta 0, ta 1, ta 2, ta 3, ta 4, ta 5, ta 6, ta 7, ta 8, ta 9, ta 10, ta 11], [q 2, pa 0, pa 1, pa 2, pa 3, pa 4, pa 5, pa 6, pa 7, pa 8, pa 9, pa 10, pa 11], [q 3, hq], [hh 0, aa 0 0, aa 0 1, aa 0 2, aa 0 3, aa 0 4, aa 0 5, aa 0 6, aa 0 7, aa 0 8, aa 0 9, aa 0 10, aa 0 11], [hh 1, aa 1 0, aa 1 1, aa 1 2, aa 1 3, aa 1 4, aa 1 5, aa 1 6, aa 1 7, aa 1 8, aa 1 9, aa 1 10, aa 1 11], [hh 2, aa 2 0, aa 2 1, aa 2 2, aa 2 3, aa 2 4, aa 2 5, aa 2 6, aa 2 7, aa 2 8, aa 2 9, aa 2 10, aa 2 11], [hh 3, aa 3 0, aa 3 1, aa 3 2, aa 3 3, aa 3 4, aa 3 5, aa 3 6, aa 3 7, aa 3 8, aa 3 9, aa 3 10, aa 3 11], [hh 4, aa 4 0, aa 4 1, aa 4 2, aa 4 3, aa 4 4, aa 4 5, aa 4 6, aa 4 7, aa 4 8, aa 4 9, aa 4 10, aa 4 11], [q 4, ra 0, ra 1, ra 2, ra 3], [q 5, sa], [at_], [aw], [ar], [ag], [an]]) rfl rfl)
    · refine lv_tableIn (off := 236) (tgt := 247) hx hb dL_acts_11 (by decide) (by decide) (by decide) (by decide) ?_
      refine lv_iload hx hb dL_acts_247 (lv_at hl 8 rfl) ?_
      refine lv_iconst (v := 2) hx hb dL_acts_249 (by decide) ?_
      refine call_SR (As := [.int x, .int 2]) (rest := []) E rfl hK hP (c_L_low l g x 2 (by first | omega | assumption) (by first | omega | assumption)) ok_L_low rfl q1_187 [] rfl ⟨⟨rfl, rfl⟩, Nat.le_of_ble_eq_true rfl, Nat.le_of_ble_eq_true rfl⟩ hl.1 (Nat.le_of_ble_eq_true rfl) ⟨Nat.le_of_ble_eq_true rfl, Nat.le_of_ble_eq_true rfl⟩ rfl dL_acts_250 ?_
      have hw2 := lowN_lt x (n := 2) (by decide)
      rcases (show lowN x 2 = 0 ∨ lowN x 2 = 1 by omega) with hwh | hwh
      · refine b_top (y := 0) (by rw [hwh]; rfl) ?_
        refine lv_istore (lv' := [(12, .int 0), (8, .int (nI t0)), (0, .ref h), (1, .ref at_), (2, .ref aw), (3, .ref ar), (4, .ref ag), (5, .ref an), (6, .int (nI 10)), (7, .int x)]) hx hb dL_acts_253 hl (by decide) rfl (fun ls hl => ?_)
        refine lv_aload hx hb dL_acts_255 (lv_at hl 7 rfl) ?_
        refine lv_iload hx hb dL_acts_257 (lv_at hl 0 rfl) ?_
        refine b_iald (v := V 12 0) hx hb hK hP 16 0 (0) rfl rfl rfl (by omega) rfl rfl dL_acts_259 ?_
        refine lv_istore (lv' := [(13, .int (V 12 0)), (12, .int 0), (8, .int (nI t0)), (0, .ref h), (1, .ref at_), (2, .ref aw), (3, .ref ar), (4, .ref ag), (5, .ref an), (6, .int (nI 10)), (7, .int x)]) hx hb dL_acts_260 hl (by decide) rfl (fun ls hl => ?_)
        refine lv_aload hx hb dL_acts_262 (lv_at hl 8 rfl) ?_
        refine lv_iload hx hb dL_acts_264 (lv_at hl 1 rfl) ?_
        refine lv_iload hx hb dL_acts_266 (lv_at hl 1 rfl) ?_
        refine lv_if_ne (tgt := 283) hx hb dL_acts_268 (by decide) (fun h_15 => ?_) (fun h_15 => ?_)
        · exact absurd h_15 (by decide)
        · refine lv_iload hx hb dL_acts_271 (lv_at hl 10 rfl) ?_
          refine lv_iconst (v := 1) hx hb dL_acts_273 (by decide) ?_
          refine lv_ishr hx hb dL_acts_274 ?_
          refine lv_bipush (v := 10) hx hb dL_acts_275 (by decide) ?_
          refine call_SR (As := [.int (x >>> ((1 : Int32) &&& 31)), .int 10]) (rest := [.int 0, .ref an]) E rfl hK hP (c_L_low l g (x >>> ((1 : Int32) &&& 31)) 10 (by first | omega | assumption) (by first | omega | assumption)) ok_L_low rfl q1_187 [] rfl ⟨⟨rfl, rfl⟩, Nat.le_of_ble_eq_true rfl, Nat.le_of_ble_eq_true rfl⟩ hl.1 (Nat.le_of_ble_eq_true rfl) ⟨Nat.le_of_ble_eq_true rfl, Nat.le_of_ble_eq_true rfl⟩ rfl dL_acts_277 ?_
          refine lv_goto (tgt := 293) hx hb dL_acts_280 (by decide) ?_
          obtain ⟨v0, hv0⟩ : ∃ z, z = lowN (x >>> ((1 : Int32) &&& 31)) 10 := ⟨_, rfl⟩
          have hv09 : v0 ≤ 9 := by have := lowN_lt (x >>> ((1 : Int32) &&& 31)) (n := 10) (by decide); omega
          refine b_top (y := nI v0) (by rw [hv0]) ?_
          refine b_iastE (B' := [bB h q z, vB g (q 0) na V, vB g (q 1) ta TV, vB g (q 2) pa SV, hB g (q 3) hq hh o n, vB g (hh 0) (aa 0) (HV 0), vB g (hh 1) (aa 1) (HV 1), vB g (hh 2) (aa 2) (HV 2), vB g (hh 3) (aa 3) (HV 3), vB g (hh 4) (aa 4) (HV 4), rB g (q 4) ra NN, tB g (q 5) sa (fun _ => 0) 0, aR g at_ 54 (rT (up2 V 12 0 (nI v0))), aR g aw 30 ((up2 V 12 0 (nI v0)) 9), aR g ar 30 ((up2 V 12 0 (nI v0)) 10), aR g ag 30 ((up2 V 12 0 (nI v0)) 11), aR g an 5 ((up2 V 12 0 (nI v0)) 12)]) hx hb hK hW 16 0 (0) rfl rfl rfl (by omega) rfl rfl (by rw [show rT (up2 V 12 0 (nI v0)) = rT V from rT_ge (by decide)]; rfl) dL_acts_293 (fun H locs hW => ?_)
          have hP := hW.1
          refine lv_aload_n hx hb dL_acts_294 rfl (lv_at hl 3 rfl) ?_
          refine lv_iload hx hb dL_acts_295 (lv_at hl 1 rfl) ?_
          refine lv_aload hx hb dL_acts_297 (lv_at hl 8 rfl) ?_
          refine lv_iload hx hb dL_acts_299 (lv_at hl 1 rfl) ?_
          refine b_iald (v := (nI v0)) hx hb hK hP 16 0 (0) rfl rfl rfl (by omega) rfl (up2_eq V 12 0 (nI v0)) dL_acts_301 ?_
          refine call_VU (As := [.int 0, .int (nI v0)]) (rest := []) E rfl hK hW (c_X4_set l g h q z na V ta TV pa SV hq hh o n aa HV ra NN sa (fun _ => 0) 0 0 (nI v0) ho hn (Nat.zero_le _)) ok_X4_set rfl q2_219 [0, 1, 2, 3, 4, 5, 6, 7, 8, 9, 10, 11] rfl (by decide) (b_recv hK hP 0 0 rfl rfl rfl rfl) ⟨⟨rfl, rfl⟩, Nat.le_of_ble_eq_true rfl, Nat.le_of_ble_eq_true rfl⟩ hl.1 (Nat.le_of_ble_eq_true rfl) ⟨Nat.le_of_ble_eq_true rfl, Nat.le_of_ble_eq_true rfl⟩ rfl dL_acts_302 (fun u_16 H locs hu_16 hW => ?_)
          obtain rfl : u_16 = true := by
            cases u_16 with
            | true => rfl
            | false => exact absurd (stE_0 (by omega)) (show ¬ _ = 0 from hu_16)
          have hW : wd g _ s.heap [bB h q z, vB g (q 0) na (if (0 : Int32) = 0 then up2 V 12 0 (nI v0) else up2 V 12 1 (nI v0)), vB g (q 1) ta TV, vB g (q 2) pa SV, hB g (q 3) hq hh (recO o n) (recS n), vB g (hh 0) (aa 0) (recH o n HV V 0), vB g (hh 1) (aa 1) (recH o n HV V 1), vB g (hh 2) (aa 2) (recH o n HV V 2), vB g (hh 3) (aa 3) (recH o n HV V 3), vB g (hh 4) (aa 4) (recH o n HV V 4), rB g (q 4) ra NN, tB g (q 5) sa (fun _ => 0) 0, aR g at_ 54 (rT (up2 V 12 0 (nI v0))), aR g aw 30 ((up2 V 12 0 (nI v0)) 9), aR g ar 30 ((up2 V 12 0 (nI v0)) 10), aR g ag 30 ((up2 V 12 0 (nI v0)) 11), aR g an 5 ((up2 V 12 0 (nI v0)) 12)] H locs := hW
          have hP := hW.1
          refine b_top (y := V 12 0) ((cond_true _ _).trans (if_pos rfl)) ?_
          rw [if_pos (show (0 : Int32) = 0 from rfl)] at hW
          have hW : wd g _ s.heap [bB h q z, vB g (q 0) na (up2 V 12 0 (nI v0)), vB g (q 1) ta TV, vB g (q 2) pa SV, hB g (q 3) hq hh (recO o n) (recS n), vB g (hh 0) (aa 0) (recH o n HV V 0), vB g (hh 1) (aa 1) (recH o n HV V 1), vB g (hh 2) (aa 2) (recH o n HV V 2), vB g (hh 3) (aa 3) (recH o n HV V 3), vB g (hh 4) (aa 4) (recH o n HV V 4), rB g (q 4) ra NN, tB g (q 5) sa (fun _ => 0) 0, aR g at_ 54 (rT (up2 V 12 0 (nI v0))), aR g aw 30 ((up2 V 12 0 (nI v0)) 9), aR g ar 30 ((up2 V 12 0 (nI v0)) 10), aR g ag 30 ((up2 V 12 0 (nI v0)) 11), aR g an 5 ((up2 V 12 0 (nI v0)) 12)] H locs := hW
          have hP := hW.1
          refine lv_iload hx hb dL_acts_305 (lv_at hl 0 rfl) ?_
          refine lv_icmp_ne (tgt := 314) hx hb dL_acts_307 (by decide) (fun h_17 => ?_) (fun h_17 => ?_)
          · exact absurd rfl h_17
          · refine lv_iconst (v := 1) hx hb dL_acts_310 (by decide) ?_
            refine lv_goto (tgt := 315) hx hb dL_acts_311 (by decide) ?_
            refine W.widen (k := 50) (n := 300) (Nat.le_of_ble_eq_true rfl) (Nat.le_of_ble_eq_true rfl) ?_
            exact aZ_ret (B := [bB h q z, vB g (q 0) na (up2 V 12 0 (nI v0)), vB g (q 1) ta TV, vB g (q 2) pa SV, hB g (q 3) hq hh (recO o n) (recS n), vB g (hh 0) (aa 0) (recH o n HV V 0), vB g (hh 1) (aa 1) (recH o n HV V 1), vB g (hh 2) (aa 2) (recH o n HV V 2), vB g (hh 3) (aa 3) (recH o n HV V 3), vB g (hh 4) (aa 4) (recH o n HV V 4), rB g (q 4) ra NN, tB g (q 5) sa (fun _ => 0) 0, aR g at_ 54 (rT (up2 V 12 0 (nI v0))), aR g aw 30 ((up2 V 12 0 (nI v0)) 9), aR g ar 30 ((up2 V 12 0 (nI v0)) 10), aR g ag 30 ((up2 V 12 0 (nI v0)) 11), aR g an 5 ((up2 V 12 0 (nI v0)) 12)]) ((up2 V 12 0 (nI v0)), cq, recO o n, recS n, recH o n HV V, NN) [] hsz hW hx hb hr hlocks dL_acts_315 (by rfl) (rfl) ⟨(li_fade LIh hv09).mono (by omega), rec_o ho hn, rec_n hn⟩ (rfl) (adr2 (L := [[h], [q 0, na 0, na 1, na 2, na 3, na 4, na 5, na 6, na 7, na 8, na 9, na 10, na 11], [q 1, ta 0, ta 1, ta 2, ta 3, ta 4, ta 5, ta 6, ta 7, ta 8, ta 9, ta 10, ta 11], [q 2, pa 0, pa 1, pa 2, pa 3, pa 4, pa 5, pa 6, pa 7, pa 8, pa 9, pa 10, pa 11], [q 3, hq], [hh 0, aa 0 0, aa 0 1, aa 0 2, aa 0 3, aa 0 4, aa 0 5, aa 0 6, aa 0 7, aa 0 8, aa 0 9, aa 0 10, aa 0 11], [hh 1, aa 1 0, aa 1 1, aa 1 2, aa 1 3, aa 1 4, aa 1 5, aa 1 6, aa 1 7, aa 1 8, aa 1 9, aa 1 10, aa 1 11], [hh 2, aa 2 0, aa 2 1, aa 2 2, aa 2 3, aa 2 4, aa 2 5, aa 2 6, aa 2 7, aa 2 8, aa 2 9, aa 2 10, aa 2 11], [hh 3, aa 3 0, aa 3 1, aa 3 2, aa 3 3, aa 3 4, aa 3 5, aa 3 6, aa 3 7, aa 3 8, aa 3 9, aa 3 10, aa 3 11], [hh 4, aa 4 0, aa 4 1, aa 4 2, aa 4 3, aa 4 4, aa 4 5, aa 4 6, aa 4 7, aa 4 8, aa 4 9, aa 4 10, aa 4 11], [q 4, ra 0, ra 1, ra 2, ra 3], [q 5, sa], [at_], [aw], [ar], [ag], [an]]) rfl rfl)
      · refine b_top (y := 1) (by rw [hwh]; rfl) ?_
        refine lv_istore (lv' := [(12, .int 1), (8, .int (nI t0)), (0, .ref h), (1, .ref at_), (2, .ref aw), (3, .ref ar), (4, .ref ag), (5, .ref an), (6, .int (nI 10)), (7, .int x)]) hx hb dL_acts_253 hl (by decide) rfl (fun ls hl => ?_)
        refine lv_aload hx hb dL_acts_255 (lv_at hl 7 rfl) ?_
        refine lv_iload hx hb dL_acts_257 (lv_at hl 0 rfl) ?_
        refine b_iald (v := V 12 1) hx hb hK hP 16 0 (1) rfl rfl rfl (by omega) rfl rfl dL_acts_259 ?_
        refine lv_istore (lv' := [(13, .int (V 12 1)), (12, .int 1), (8, .int (nI t0)), (0, .ref h), (1, .ref at_), (2, .ref aw), (3, .ref ar), (4, .ref ag), (5, .ref an), (6, .int (nI 10)), (7, .int x)]) hx hb dL_acts_260 hl (by decide) rfl (fun ls hl => ?_)
        refine lv_aload hx hb dL_acts_262 (lv_at hl 8 rfl) ?_
        refine lv_iload hx hb dL_acts_264 (lv_at hl 1 rfl) ?_
        refine lv_iload hx hb dL_acts_266 (lv_at hl 1 rfl) ?_
        refine lv_if_ne (tgt := 283) hx hb dL_acts_268 (by decide) (fun h_18 => ?_) (fun h_18 => ?_)
        · refine lv_iconst (v := 1) hx hb dL_acts_283 (by decide) ?_
          refine lv_iload hx hb dL_acts_284 (lv_at hl 10 rfl) ?_
          refine lv_iconst (v := 1) hx hb dL_acts_286 (by decide) ?_
          refine lv_ishr hx hb dL_acts_287 ?_
          refine lv_iconst (v := 3) hx hb dL_acts_288 (by decide) ?_
          refine call_SR (As := [.int (x >>> ((1 : Int32) &&& 31)), .int 3]) (rest := [.int 1, .int 1, .ref an]) E rfl hK hP (c_L_low l g (x >>> ((1 : Int32) &&& 31)) 3 (by first | omega | assumption) (by first | omega | assumption)) ok_L_low rfl q1_187 [] rfl ⟨⟨rfl, rfl⟩, Nat.le_of_ble_eq_true rfl, Nat.le_of_ble_eq_true rfl⟩ hl.1 (Nat.le_of_ble_eq_true rfl) ⟨Nat.le_of_ble_eq_true rfl, Nat.le_of_ble_eq_true rfl⟩ rfl dL_acts_289 ?_
          refine lv_iadd hx hb dL_acts_292 ?_
          refine b_top (y := nI (1 + (lowN (x >>> ((1 : Int32) &&& 31)) 3))) (nI_add 1 (lowN (x >>> ((1 : Int32) &&& 31)) 3)) ?_
          obtain ⟨v0, hv0⟩ : ∃ z, z = 1 + (lowN (x >>> ((1 : Int32) &&& 31)) 3) := ⟨_, rfl⟩
          have hv01 : 1 ≤ v0 := by omega
          have hv03 : v0 ≤ 3 := by have := lowN_lt (x >>> ((1 : Int32) &&& 31)) (n := 3) (by decide); omega
          refine b_top (y := nI v0) (by rw [hv0]) ?_
          refine b_iastE (B' := [bB h q z, vB g (q 0) na V, vB g (q 1) ta TV, vB g (q 2) pa SV, hB g (q 3) hq hh o n, vB g (hh 0) (aa 0) (HV 0), vB g (hh 1) (aa 1) (HV 1), vB g (hh 2) (aa 2) (HV 2), vB g (hh 3) (aa 3) (HV 3), vB g (hh 4) (aa 4) (HV 4), rB g (q 4) ra NN, tB g (q 5) sa (fun _ => 0) 0, aR g at_ 54 (rT (up2 V 12 1 (nI v0))), aR g aw 30 ((up2 V 12 1 (nI v0)) 9), aR g ar 30 ((up2 V 12 1 (nI v0)) 10), aR g ag 30 ((up2 V 12 1 (nI v0)) 11), aR g an 5 ((up2 V 12 1 (nI v0)) 12)]) hx hb hK hW 16 0 (1) rfl rfl rfl (by omega) rfl rfl (by rw [show rT (up2 V 12 1 (nI v0)) = rT V from rT_ge (by decide)]; rfl) dL_acts_293 (fun H locs hW => ?_)
          have hP := hW.1
          refine lv_aload_n hx hb dL_acts_294 rfl (lv_at hl 3 rfl) ?_
          refine lv_iload hx hb dL_acts_295 (lv_at hl 1 rfl) ?_
          refine lv_aload hx hb dL_acts_297 (lv_at hl 8 rfl) ?_
          refine lv_iload hx hb dL_acts_299 (lv_at hl 1 rfl) ?_
          refine b_iald (v := (nI v0)) hx hb hK hP 16 0 (1) rfl rfl rfl (by omega) rfl (up2_eq V 12 1 (nI v0)) dL_acts_301 ?_
          refine call_VU (As := [.int 1, .int (nI v0)]) (rest := []) E rfl hK hW (c_X4_set l g h q z na V ta TV pa SV hq hh o n aa HV ra NN sa (fun _ => 0) 0 1 (nI v0) ho hn (Nat.zero_le _)) ok_X4_set rfl q2_219 [0, 1, 2, 3, 4, 5, 6, 7, 8, 9, 10, 11] rfl (by decide) (b_recv hK hP 0 0 rfl rfl rfl rfl) ⟨⟨rfl, rfl⟩, Nat.le_of_ble_eq_true rfl, Nat.le_of_ble_eq_true rfl⟩ hl.1 (Nat.le_of_ble_eq_true rfl) ⟨Nat.le_of_ble_eq_true rfl, Nat.le_of_ble_eq_true rfl⟩ rfl dL_acts_302 (fun u_19 H locs hu_19 hW => ?_)
          obtain rfl : u_19 = true := by
            cases u_19 with
            | true => rfl
            | false => exact absurd (stE_1 (by omega) (by omega)) (show ¬ _ = 0 from hu_19)
          have hW : wd g _ s.heap [bB h q z, vB g (q 0) na (if (1 : Int32) = 0 then up2 V 12 0 (nI v0) else up2 V 12 1 (nI v0)), vB g (q 1) ta TV, vB g (q 2) pa SV, hB g (q 3) hq hh (recO o n) (recS n), vB g (hh 0) (aa 0) (recH o n HV V 0), vB g (hh 1) (aa 1) (recH o n HV V 1), vB g (hh 2) (aa 2) (recH o n HV V 2), vB g (hh 3) (aa 3) (recH o n HV V 3), vB g (hh 4) (aa 4) (recH o n HV V 4), rB g (q 4) ra NN, tB g (q 5) sa (fun _ => 0) 0, aR g at_ 54 (rT (up2 V 12 1 (nI v0))), aR g aw 30 ((up2 V 12 1 (nI v0)) 9), aR g ar 30 ((up2 V 12 1 (nI v0)) 10), aR g ag 30 ((up2 V 12 1 (nI v0)) 11), aR g an 5 ((up2 V 12 1 (nI v0)) 12)] H locs := hW
          have hP := hW.1
          refine b_top (y := V 12 1) ((cond_true _ _).trans (if_neg (by decide))) ?_
          rw [if_neg (show ¬ (1 : Int32) = 0 by decide)] at hW
          have hW : wd g _ s.heap [bB h q z, vB g (q 0) na (up2 V 12 1 (nI v0)), vB g (q 1) ta TV, vB g (q 2) pa SV, hB g (q 3) hq hh (recO o n) (recS n), vB g (hh 0) (aa 0) (recH o n HV V 0), vB g (hh 1) (aa 1) (recH o n HV V 1), vB g (hh 2) (aa 2) (recH o n HV V 2), vB g (hh 3) (aa 3) (recH o n HV V 3), vB g (hh 4) (aa 4) (recH o n HV V 4), rB g (q 4) ra NN, tB g (q 5) sa (fun _ => 0) 0, aR g at_ 54 (rT (up2 V 12 1 (nI v0))), aR g aw 30 ((up2 V 12 1 (nI v0)) 9), aR g ar 30 ((up2 V 12 1 (nI v0)) 10), aR g ag 30 ((up2 V 12 1 (nI v0)) 11), aR g an 5 ((up2 V 12 1 (nI v0)) 12)] H locs := hW
          have hP := hW.1
          refine lv_iload hx hb dL_acts_305 (lv_at hl 0 rfl) ?_
          refine lv_icmp_ne (tgt := 314) hx hb dL_acts_307 (by decide) (fun h_20 => ?_) (fun h_20 => ?_)
          · exact absurd rfl h_20
          · refine lv_iconst (v := 1) hx hb dL_acts_310 (by decide) ?_
            refine lv_goto (tgt := 315) hx hb dL_acts_311 (by decide) ?_
            refine W.widen (k := 50) (n := 300) (Nat.le_of_ble_eq_true rfl) (Nat.le_of_ble_eq_true rfl) ?_
            exact aZ_ret (B := [bB h q z, vB g (q 0) na (up2 V 12 1 (nI v0)), vB g (q 1) ta TV, vB g (q 2) pa SV, hB g (q 3) hq hh (recO o n) (recS n), vB g (hh 0) (aa 0) (recH o n HV V 0), vB g (hh 1) (aa 1) (recH o n HV V 1), vB g (hh 2) (aa 2) (recH o n HV V 2), vB g (hh 3) (aa 3) (recH o n HV V 3), vB g (hh 4) (aa 4) (recH o n HV V 4), rB g (q 4) ra NN, tB g (q 5) sa (fun _ => 0) 0, aR g at_ 54 (rT (up2 V 12 1 (nI v0))), aR g aw 30 ((up2 V 12 1 (nI v0)) 9), aR g ar 30 ((up2 V 12 1 (nI v0)) 10), aR g ag 30 ((up2 V 12 1 (nI v0)) 11), aR g an 5 ((up2 V 12 1 (nI v0)) 12)]) ((up2 V 12 1 (nI v0)), cq, recO o n, recS n, recH o n HV V, NN) [] hsz hW hx hb hr hlocks dL_acts_315 (by rfl) (rfl) ⟨(li_rest LIh hv01 hv03).mono (by omega), rec_o ho hn, rec_n hn⟩ (rfl) (adr2 (L := [[h], [q 0, na 0, na 1, na 2, na 3, na 4, na 5, na 6, na 7, na 8, na 9, na 10, na 11], [q 1, ta 0, ta 1, ta 2, ta 3, ta 4, ta 5, ta 6, ta 7, ta 8, ta 9, ta 10, ta 11], [q 2, pa 0, pa 1, pa 2, pa 3, pa 4, pa 5, pa 6, pa 7, pa 8, pa 9, pa 10, pa 11], [q 3, hq], [hh 0, aa 0 0, aa 0 1, aa 0 2, aa 0 3, aa 0 4, aa 0 5, aa 0 6, aa 0 7, aa 0 8, aa 0 9, aa 0 10, aa 0 11], [hh 1, aa 1 0, aa 1 1, aa 1 2, aa 1 3, aa 1 4, aa 1 5, aa 1 6, aa 1 7, aa 1 8, aa 1 9, aa 1 10, aa 1 11], [hh 2, aa 2 0, aa 2 1, aa 2 2, aa 2 3, aa 2 4, aa 2 5, aa 2 6, aa 2 7, aa 2 8, aa 2 9, aa 2 10, aa 2 11], [hh 3, aa 3 0, aa 3 1, aa 3 2, aa 3 3, aa 3 4, aa 3 5, aa 3 6, aa 3 7, aa 3 8, aa 3 9, aa 3 10, aa 3 11], [hh 4, aa 4 0, aa 4 1, aa 4 2, aa 4 3, aa 4 4, aa 4 5, aa 4 6, aa 4 7, aa 4 8, aa 4 9, aa 4 10, aa 4 11], [q 4, ra 0, ra 1, ra 2, ra 3], [q 5, sa], [at_], [aw], [ar], [ag], [an]]) rfl rfl)
        · exact absurd h_18 (by decide)
  · refine lv_tableOut (tgt := 316) hx hb dL_acts_11 (Or.inr (by rw [nI_toInt (by omega)]; omega)) (by decide) ?_
    refine lv_iconst (v := 1) hx hb dL_acts_316 (by decide) ?_
    refine lv_iload hx hb dL_acts_317 (lv_at hl 8 rfl) ?_
    refine lv_iload hx hb dL_acts_319 (lv_at hl 8 rfl) ?_
    refine lv_bipush (v := 7) hx hb dL_acts_321 (by decide) ?_
    refine lv_ishr hx hb dL_acts_323 ?_
    refine lv_iconst (v := 4) hx hb dL_acts_324 (by decide) ?_
    refine call_SR (As := [.int (x >>> ((7 : Int32) &&& 31)), .int 4]) (rest := [.int x, .int 1]) E rfl hK hP (c_L_low l g (x >>> ((7 : Int32) &&& 31)) 4 (by first | omega | assumption) (by first | omega | assumption)) ok_L_low rfl q1_187 [] rfl ⟨⟨rfl, rfl⟩, Nat.le_of_ble_eq_true rfl, Nat.le_of_ble_eq_true rfl⟩ hl.1 (Nat.le_of_ble_eq_true rfl) ⟨Nat.le_of_ble_eq_true rfl, Nat.le_of_ble_eq_true rfl⟩ rfl dL_acts_325 ?_
    refine lv_if_ne (tgt := 336) hx hb dL_acts_328 (by decide) (fun h_21 => ?_) (fun h_21 => ?_)
    · refine lv_iconst (v := 4) hx hb dL_acts_336 (by decide) ?_
      refine call_SR (As := [.int x, .int 4]) (rest := [.int 1]) E rfl hK hP (c_L_low l g x 4 (by first | omega | assumption) (by first | omega | assumption)) ok_L_low rfl q1_187 [] rfl ⟨⟨rfl, rfl⟩, Nat.le_of_ble_eq_true rfl, Nat.le_of_ble_eq_true rfl⟩ hl.1 (Nat.le_of_ble_eq_true rfl) ⟨Nat.le_of_ble_eq_true rfl, Nat.le_of_ble_eq_true rfl⟩ rfl dL_acts_337 ?_
      refine lv_iadd hx hb dL_acts_340 ?_
      refine b_top (y := nI (1 + (lowN x 4))) (nI_add 1 (lowN x 4)) ?_
      obtain ⟨m0, hm0⟩ : ∃ z, z = 1 + (lowN x 4) := ⟨_, rfl⟩
      have hm1 : 1 ≤ m0 := by omega
      have hm : m0 ≤ 50 := by first | (have := lowN_lt x (n := 50) (by decide); omega) | (have := lowN_lt x (n := 4) (by decide); omega)
      refine b_top (y := nI m0) (by rw [hm0]) ?_
      refine lv_istore (lv' := [(14, .int (nI m0)), (8, .int (nI t0)), (0, .ref h), (1, .ref at_), (2, .ref aw), (3, .ref ar), (4, .ref ag), (5, .ref an), (6, .int (nI kd)), (7, .int x)]) hx hb dL_acts_341 hl (by decide) rfl (fun ls hl => ?_)
      refine lv_iconst (v := 0) hx hb dL_acts_343 (by decide) ?_
      refine lv_istore (lv' := [(15, .int 0), (14, .int (nI m0)), (8, .int (nI t0)), (0, .ref h), (1, .ref at_), (2, .ref aw), (3, .ref ar), (4, .ref ag), (5, .ref an), (6, .int (nI kd)), (7, .int x)]) hx hb dL_acts_344 hl (by decide) rfl (fun ls hl => ?_)
      refine loopN (fun i : Nat => ∀ (H : Heap) (locs : List Loc) (ls : Array Slot), wd g (frN [bB h q z, vB g (q 0) na V, vB g (q 1) ta TV, vB g (q 2) pa SV, hB g (q 3) hq hh o n, vB g (hh 0) (aa 0) (HV 0), vB g (hh 1) (aa 1) (HV 1), vB g (hh 2) (aa 2) (HV 2), vB g (hh 3) (aa 3) (HV 3), vB g (hh 4) (aa 4) (HV 4), rB g (q 4) ra NN, tB g (q 5) sa (fun _ => 0) 0, aR g at_ 54 (rT V), aR g aw 30 (V 9), aR g ar 30 (V 10), aR g ag 30 (V 11), aR g an 5 (V 12)] sz) s.heap [bB h q z, vB g (q 0) na V, vB g (q 1) ta TV, vB g (q 2) pa SV, hB g (q 3) hq hh o n, vB g (hh 0) (aa 0) (HV 0), vB g (hh 1) (aa 1) (HV 1), vB g (hh 2) (aa 2) (HV 2), vB g (hh 3) (aa 3) (HV 3), vB g (hh 4) (aa 4) (HV 4), rB g (q 4) ra NN, tB g (q 5) sa (fun _ => 0) 0, aR g at_ 54 (rT (mtL V cq i)), aR g aw 30 ((mtL V cq i) 9), aR g ar 30 ((mtL V cq i) 10), aR g ag 30 ((mtL V cq i) 11), aR g an 5 ((mtL V cq i) 12)] H locs → lv_has ls 16 [(0, .ref h), (1, .ref at_), (2, .ref aw), (3, .ref ar), (4, .ref ag), (5, .ref an), (14, .int (nI m0)), (15, .int (nI i))] → W p l e _ s m _ below meth c H locs (i) (6 * i) _ (F0 m 346 ls [])) (m0) (fun i hii ih_i => ?_) (0) (by omega)  H locs ls hW (lv_sub hl [3, 4, 5, 6, 7, 8, 1, 0] rfl) 
      intro  H locs ls hW hl 
      have hP := hW.1
      refine lv_iload hx hb dL_acts_346 (lv_at hl 7 rfl) ?_
      refine lv_iload hx hb dL_acts_348 (lv_at hl 6 rfl) ?_
      refine b_ge (tgt := 369) (i) (m0) hx hb rfl rfl (by omega) (by omega) dL_acts_350 (by decide) (fun h_22 => ?_) (fun h_22 => ?_)
      · obtain rfl : i = m0 := by omega
        refine lv_aload_n hx hb dL_acts_369 rfl (lv_at hl 0 rfl) ?_
        refine lv_iload hx hb dL_acts_370 (lv_at hl 6 rfl) ?_
        refine call_VU (As := [.int (nI i)]) (rest := []) E rfl hK hW (c_X4_turns l g h q z na V ta TV pa SV hq hh o n aa HV ra NN sa (fun _ => 0) 0 (nI i) i ho hn (Nat.zero_le _) (fun _ => ⟨rfl, hm⟩)) ok_X4_turns rfl q2_226 [0, 1, 2, 3, 4, 5, 6, 7, 8, 9, 10, 11] rfl (by decide) (b_recv hK hP 0 0 rfl rfl rfl rfl) ⟨⟨rfl, rfl⟩, Nat.le_of_ble_eq_true rfl, Nat.le_of_ble_eq_true rfl⟩ hl.1 (Nat.le_of_ble_eq_true rfl) ⟨(show i + 0 ≤ 50 by omega), (show 6 * i + 0 ≤ 300 by omega)⟩ rfl dL_acts_372 (fun u_23 H locs hu_23 hW => ?_)
        obtain rfl : u_23 = true := by
          cases u_23 with
          | true => rfl
          | false => exact absurd (tErr_nat hm1 hm) (show ¬ _ = 0 from hu_23)
        have hW : wd g _ s.heap [bB h q z, vB g (q 0) na ((mtV V NN i).1), vB g (q 1) ta TV, vB g (q 2) pa SV, hB g (q 3) hq hh (recO o n) (recS n), vB g (hh 0) (aa 0) (recH o n HV V 0), vB g (hh 1) (aa 1) (recH o n HV V 1), vB g (hh 2) (aa 2) (recH o n HV V 2), vB g (hh 3) (aa 3) (recH o n HV V 3), vB g (hh 4) (aa 4) (recH o n HV V 4), rB g (q 4) ra ((mtV V NN i).2), tB g (q 5) sa (fun _ => 0) 0, aR g at_ 54 (rT (mtL V cq i)), aR g aw 30 ((mtL V cq i) 9), aR g ar 30 ((mtL V cq i) 10), aR g ag 30 ((mtL V cq i) 11), aR g an 5 ((mtL V cq i) 12)] H locs := hW
        have hP := hW.1
        refine b_top (y := mtL V cq i 12 3) ((cond_true _ _).trans (congrFun (congrFun ((li_turns LIh hBm i hm).2 NN) 12) 3)) ?_
        have hmt : (mtV V NN i).1 = mtL V cq i := (li_turns LIh hBm i hm).2 NN
        rw [hmt] at hW
        have hW : wd g _ s.heap [bB h q z, vB g (q 0) na (mtL V cq i), vB g (q 1) ta TV, vB g (q 2) pa SV, hB g (q 3) hq hh (recO o n) (recS n), vB g (hh 0) (aa 0) (recH o n HV V 0), vB g (hh 1) (aa 1) (recH o n HV V 1), vB g (hh 2) (aa 2) (recH o n HV V 2), vB g (hh 3) (aa 3) (recH o n HV V 3), vB g (hh 4) (aa 4) (recH o n HV V 4), rB g (q 4) ra ((mtV V NN i).2), tB g (q 5) sa (fun _ => 0) 0, aR g at_ 54 (rT (mtL V cq i)), aR g aw 30 ((mtL V cq i) 9), aR g ar 30 ((mtL V cq i) 10), aR g ag 30 ((mtL V cq i) 11), aR g an 5 ((mtL V cq i) 12)] H locs := hW
        have hP := hW.1
        refine lv_aload hx hb dL_acts_375 (lv_at hl 5 rfl) ?_
        refine lv_iconst (v := 3) hx hb dL_acts_377 (by decide) ?_
        refine b_iald (v := (mtL V cq i) 12 3) hx hb hK hP 16 0 (3) rfl rfl rfl (by omega) rfl rfl dL_acts_378 ?_
        refine lv_icmp_ne (tgt := 386) hx hb dL_acts_379 (by decide) (fun h_24 => ?_) (fun h_24 => ?_)
        · exact absurd rfl h_24
        · refine lv_iconst (v := 1) hx hb dL_acts_382 (by decide) ?_
          refine lv_goto (tgt := 387) hx hb dL_acts_383 (by decide) ?_
          refine W.widen (k := 50) (n := 300) (by omega) (by omega) ?_
          exact aZ_ret (B := [bB h q z, vB g (q 0) na (mtL V cq i), vB g (q 1) ta TV, vB g (q 2) pa SV, hB g (q 3) hq hh (recO o n) (recS n), vB g (hh 0) (aa 0) (recH o n HV V 0), vB g (hh 1) (aa 1) (recH o n HV V 1), vB g (hh 2) (aa 2) (recH o n HV V 2), vB g (hh 3) (aa 3) (recH o n HV V 3), vB g (hh 4) (aa 4) (recH o n HV V 4), rB g (q 4) ra ((mtV V NN i).2), tB g (q 5) sa (fun _ => 0) 0, aR g at_ 54 (rT (mtL V cq i)), aR g aw 30 ((mtL V cq i) 9), aR g ar 30 ((mtL V cq i) 10), aR g ag 30 ((mtL V cq i) 11), aR g an 5 ((mtL V cq i) 12)]) ((mtL V cq i), cq, recO o n, recS n, recH o n HV V, (mtV V NN i).2) [] hsz hW hx hb hr hlocks dL_acts_387 (by rfl) (rfl) ⟨(li_turns LIh hBm i hm).1, rec_o ho hn, rec_n hn⟩ (rfl) (adr2 (L := [[h], [q 0, na 0, na 1, na 2, na 3, na 4, na 5, na 6, na 7, na 8, na 9, na 10, na 11], [q 1, ta 0, ta 1, ta 2, ta 3, ta 4, ta 5, ta 6, ta 7, ta 8, ta 9, ta 10, ta 11], [q 2, pa 0, pa 1, pa 2, pa 3, pa 4, pa 5, pa 6, pa 7, pa 8, pa 9, pa 10, pa 11], [q 3, hq], [hh 0, aa 0 0, aa 0 1, aa 0 2, aa 0 3, aa 0 4, aa 0 5, aa 0 6, aa 0 7, aa 0 8, aa 0 9, aa 0 10, aa 0 11], [hh 1, aa 1 0, aa 1 1, aa 1 2, aa 1 3, aa 1 4, aa 1 5, aa 1 6, aa 1 7, aa 1 8, aa 1 9, aa 1 10, aa 1 11], [hh 2, aa 2 0, aa 2 1, aa 2 2, aa 2 3, aa 2 4, aa 2 5, aa 2 6, aa 2 7, aa 2 8, aa 2 9, aa 2 10, aa 2 11], [hh 3, aa 3 0, aa 3 1, aa 3 2, aa 3 3, aa 3 4, aa 3 5, aa 3 6, aa 3 7, aa 3 8, aa 3 9, aa 3 10, aa 3 11], [hh 4, aa 4 0, aa 4 1, aa 4 2, aa 4 3, aa 4 4, aa 4 5, aa 4 6, aa 4 7, aa 4 8, aa 4 9, aa 4 10, aa 4 11], [q 4, ra 0, ra 1, ra 2, ra 3], [q 5, sa], [at_], [aw], [ar], [ag], [an]]) rfl rfl)
      · refine lv_aload_n hx hb dL_acts_353 rfl (lv_at hl 1 rfl) ?_
        refine lv_aload_n hx hb dL_acts_354 rfl (lv_at hl 2 rfl) ?_
        refine lv_aload_n hx hb dL_acts_355 rfl (lv_at hl 3 rfl) ?_
        refine lv_aload hx hb dL_acts_356 (lv_at hl 4 rfl) ?_
        refine lv_aload hx hb dL_acts_358 (lv_at hl 5 rfl) ?_
        refine call_SA (As := [.ref at_, .ref aw, .ref ar, .ref ag, .ref an]) (rest := []) E rfl hKq hW hA (c_L_turns l g H.size at_ aw ar ag an (mtL V cq i) cq (fun t9 ht9 => ⟨(mtL_k V cq (by decide) t9 i).trans (LIh.cnt t9 ht9).1, (LIh.cnt t9 ht9).2⟩)) ok_L_turns rfl q2_110 [12, 13, 14, 15, 16] rfl (by decide) ⟨⟨rfl, rfl⟩, Nat.le_of_ble_eq_true rfl, Nat.le_of_ble_eq_true rfl⟩ hl.1 (Nat.le_of_ble_eq_true rfl) ⟨(show i + 1 ≤ 50 by omega), (show 6 * i + 6 ≤ 300 by omega)⟩ rfl dL_acts_360 (fun _u H locs _ hW => ?_)
        have hW : wd g _ s.heap [bB h q z, vB g (q 0) na V, vB g (q 1) ta TV, vB g (q 2) pa SV, hB g (q 3) hq hh o n, vB g (hh 0) (aa 0) (HV 0), vB g (hh 1) (aa 1) (HV 1), vB g (hh 2) (aa 2) (HV 2), vB g (hh 3) (aa 3) (HV 3), vB g (hh 4) (aa 4) (HV 4), rB g (q 4) ra NN, tB g (q 5) sa (fun _ => 0) 0, aR g at_ 54 (rT (tuL (mtL V cq i) cq)), aR g aw 30 ((tuL (mtL V cq i) cq) 9), aR g ar 30 ((tuL (mtL V cq i) cq) 10), aR g ag 30 ((tuL (mtL V cq i) cq) 11), aR g an 5 ((tuL (mtL V cq i) cq) 12)] H locs := hW
        have hP := hW.1
        refine lv_iinc (v := nI (i + 1)) (lv' := [(15, .int (nI (i + 1))), (0, .ref h), (1, .ref at_), (2, .ref aw), (3, .ref ar), (4, .ref ag), (5, .ref an), (14, .int (nI m0))]) hx hb dL_acts_363 hl (k := 7) rfl (nI_add i 1) (by decide) rfl (fun ls hl => ?_)
        refine lv_goto (tgt := 346) hx hb dL_acts_366 (by decide) ?_
        refine W.widen (k := (i + 1)) (n := 6 * (i + 1)) (by omega) (by omega) ?_
        have e_25 : ([bB h q z, vB g (q 0) na V, vB g (q 1) ta TV, vB g (q 2) pa SV, hB g (q 3) hq hh o n, vB g (hh 0) (aa 0) (HV 0), vB g (hh 1) (aa 1) (HV 1), vB g (hh 2) (aa 2) (HV 2), vB g (hh 3) (aa 3) (HV 3), vB g (hh 4) (aa 4) (HV 4), rB g (q 4) ra NN, tB g (q 5) sa (fun _ => 0) 0, aR g at_ 54 (rT (mtL V cq (i + 1))), aR g aw 30 ((mtL V cq (i + 1)) 9), aR g ar 30 ((mtL V cq (i + 1)) 10), aR g ag 30 ((mtL V cq (i + 1)) 11), aR g an 5 ((mtL V cq (i + 1)) 12)] : List va_W) = [bB h q z, vB g (q 0) na V, vB g (q 1) ta TV, vB g (q 2) pa SV, hB g (q 3) hq hh o n, vB g (hh 0) (aa 0) (HV 0), vB g (hh 1) (aa 1) (HV 1), vB g (hh 2) (aa 2) (HV 2), vB g (hh 3) (aa 3) (HV 3), vB g (hh 4) (aa 4) (HV 4), rB g (q 4) ra NN, tB g (q 5) sa (fun _ => 0) 0, aR g at_ 54 (rT (tuL (mtL V cq i) cq)), aR g aw 30 ((tuL (mtL V cq i) cq) 9), aR g ar 30 ((tuL (mtL V cq i) cq) 10), aR g ag 30 ((tuL (mtL V cq i) cq) 11), aR g an 5 ((tuL (mtL V cq i) cq) 12)] := by rw [mtL]
        exact ih_i (by omega)  _ _ _ (by rw [e_25]; exact hW) (lv_sub hl [1, 2, 3, 4, 5, 6, 7, 0] rfl) 
    · refine lv_bipush (v := 50) hx hb dL_acts_331 (by decide) ?_
      refine lv_goto (tgt := 337) hx hb dL_acts_333 (by decide) ?_
      refine call_SR (As := [.int x, .int 50]) (rest := [.int 1]) E rfl hK hP (c_L_low l g x 50 (by first | omega | assumption) (by first | omega | assumption)) ok_L_low rfl q1_187 [] rfl ⟨⟨rfl, rfl⟩, Nat.le_of_ble_eq_true rfl, Nat.le_of_ble_eq_true rfl⟩ hl.1 (Nat.le_of_ble_eq_true rfl) ⟨Nat.le_of_ble_eq_true rfl, Nat.le_of_ble_eq_true rfl⟩ rfl dL_acts_337 ?_
      refine lv_iadd hx hb dL_acts_340 ?_
      refine b_top (y := nI (1 + (lowN x 50))) (nI_add 1 (lowN x 50)) ?_
      obtain ⟨m0, hm0⟩ : ∃ z, z = 1 + (lowN x 50) := ⟨_, rfl⟩
      have hm1 : 1 ≤ m0 := by omega
      have hm : m0 ≤ 50 := by first | (have := lowN_lt x (n := 50) (by decide); omega) | (have := lowN_lt x (n := 4) (by decide); omega)
      refine b_top (y := nI m0) (by rw [hm0]) ?_
      refine lv_istore (lv' := [(14, .int (nI m0)), (8, .int (nI t0)), (0, .ref h), (1, .ref at_), (2, .ref aw), (3, .ref ar), (4, .ref ag), (5, .ref an), (6, .int (nI kd)), (7, .int x)]) hx hb dL_acts_341 hl (by decide) rfl (fun ls hl => ?_)
      refine lv_iconst (v := 0) hx hb dL_acts_343 (by decide) ?_
      refine lv_istore (lv' := [(15, .int 0), (14, .int (nI m0)), (8, .int (nI t0)), (0, .ref h), (1, .ref at_), (2, .ref aw), (3, .ref ar), (4, .ref ag), (5, .ref an), (6, .int (nI kd)), (7, .int x)]) hx hb dL_acts_344 hl (by decide) rfl (fun ls hl => ?_)
      refine loopN (fun i : Nat => ∀ (H : Heap) (locs : List Loc) (ls : Array Slot), wd g (frN [bB h q z, vB g (q 0) na V, vB g (q 1) ta TV, vB g (q 2) pa SV, hB g (q 3) hq hh o n, vB g (hh 0) (aa 0) (HV 0), vB g (hh 1) (aa 1) (HV 1), vB g (hh 2) (aa 2) (HV 2), vB g (hh 3) (aa 3) (HV 3), vB g (hh 4) (aa 4) (HV 4), rB g (q 4) ra NN, tB g (q 5) sa (fun _ => 0) 0, aR g at_ 54 (rT V), aR g aw 30 (V 9), aR g ar 30 (V 10), aR g ag 30 (V 11), aR g an 5 (V 12)] sz) s.heap [bB h q z, vB g (q 0) na V, vB g (q 1) ta TV, vB g (q 2) pa SV, hB g (q 3) hq hh o n, vB g (hh 0) (aa 0) (HV 0), vB g (hh 1) (aa 1) (HV 1), vB g (hh 2) (aa 2) (HV 2), vB g (hh 3) (aa 3) (HV 3), vB g (hh 4) (aa 4) (HV 4), rB g (q 4) ra NN, tB g (q 5) sa (fun _ => 0) 0, aR g at_ 54 (rT (mtL V cq i)), aR g aw 30 ((mtL V cq i) 9), aR g ar 30 ((mtL V cq i) 10), aR g ag 30 ((mtL V cq i) 11), aR g an 5 ((mtL V cq i) 12)] H locs → lv_has ls 16 [(0, .ref h), (1, .ref at_), (2, .ref aw), (3, .ref ar), (4, .ref ag), (5, .ref an), (14, .int (nI m0)), (15, .int (nI i))] → W p l e _ s m _ below meth c H locs (i) (6 * i) _ (F0 m 346 ls [])) (m0) (fun i hii ih_i => ?_) (0) (by omega)  H locs ls hW (lv_sub hl [3, 4, 5, 6, 7, 8, 1, 0] rfl) 
      intro  H locs ls hW hl 
      have hP := hW.1
      refine lv_iload hx hb dL_acts_346 (lv_at hl 7 rfl) ?_
      refine lv_iload hx hb dL_acts_348 (lv_at hl 6 rfl) ?_
      refine b_ge (tgt := 369) (i) (m0) hx hb rfl rfl (by omega) (by omega) dL_acts_350 (by decide) (fun h_26 => ?_) (fun h_26 => ?_)
      · obtain rfl : i = m0 := by omega
        refine lv_aload_n hx hb dL_acts_369 rfl (lv_at hl 0 rfl) ?_
        refine lv_iload hx hb dL_acts_370 (lv_at hl 6 rfl) ?_
        refine call_VU (As := [.int (nI i)]) (rest := []) E rfl hK hW (c_X4_turns l g h q z na V ta TV pa SV hq hh o n aa HV ra NN sa (fun _ => 0) 0 (nI i) i ho hn (Nat.zero_le _) (fun _ => ⟨rfl, hm⟩)) ok_X4_turns rfl q2_226 [0, 1, 2, 3, 4, 5, 6, 7, 8, 9, 10, 11] rfl (by decide) (b_recv hK hP 0 0 rfl rfl rfl rfl) ⟨⟨rfl, rfl⟩, Nat.le_of_ble_eq_true rfl, Nat.le_of_ble_eq_true rfl⟩ hl.1 (Nat.le_of_ble_eq_true rfl) ⟨(show i + 0 ≤ 50 by omega), (show 6 * i + 0 ≤ 300 by omega)⟩ rfl dL_acts_372 (fun u_27 H locs hu_27 hW => ?_)
        obtain rfl : u_27 = true := by
          cases u_27 with
          | true => rfl
          | false => exact absurd (tErr_nat hm1 hm) (show ¬ _ = 0 from hu_27)
        have hW : wd g _ s.heap [bB h q z, vB g (q 0) na ((mtV V NN i).1), vB g (q 1) ta TV, vB g (q 2) pa SV, hB g (q 3) hq hh (recO o n) (recS n), vB g (hh 0) (aa 0) (recH o n HV V 0), vB g (hh 1) (aa 1) (recH o n HV V 1), vB g (hh 2) (aa 2) (recH o n HV V 2), vB g (hh 3) (aa 3) (recH o n HV V 3), vB g (hh 4) (aa 4) (recH o n HV V 4), rB g (q 4) ra ((mtV V NN i).2), tB g (q 5) sa (fun _ => 0) 0, aR g at_ 54 (rT (mtL V cq i)), aR g aw 30 ((mtL V cq i) 9), aR g ar 30 ((mtL V cq i) 10), aR g ag 30 ((mtL V cq i) 11), aR g an 5 ((mtL V cq i) 12)] H locs := hW
        have hP := hW.1
        refine b_top (y := mtL V cq i 12 3) ((cond_true _ _).trans (congrFun (congrFun ((li_turns LIh hBm i hm).2 NN) 12) 3)) ?_
        have hmt : (mtV V NN i).1 = mtL V cq i := (li_turns LIh hBm i hm).2 NN
        rw [hmt] at hW
        have hW : wd g _ s.heap [bB h q z, vB g (q 0) na (mtL V cq i), vB g (q 1) ta TV, vB g (q 2) pa SV, hB g (q 3) hq hh (recO o n) (recS n), vB g (hh 0) (aa 0) (recH o n HV V 0), vB g (hh 1) (aa 1) (recH o n HV V 1), vB g (hh 2) (aa 2) (recH o n HV V 2), vB g (hh 3) (aa 3) (recH o n HV V 3), vB g (hh 4) (aa 4) (recH o n HV V 4), rB g (q 4) ra ((mtV V NN i).2), tB g (q 5) sa (fun _ => 0) 0, aR g at_ 54 (rT (mtL V cq i)), aR g aw 30 ((mtL V cq i) 9), aR g ar 30 ((mtL V cq i) 10), aR g ag 30 ((mtL V cq i) 11), aR g an 5 ((mtL V cq i) 12)] H locs := hW
        have hP := hW.1
        refine lv_aload hx hb dL_acts_375 (lv_at hl 5 rfl) ?_
        refine lv_iconst (v := 3) hx hb dL_acts_377 (by decide) ?_
        refine b_iald (v := (mtL V cq i) 12 3) hx hb hK hP 16 0 (3) rfl rfl rfl (by omega) rfl rfl dL_acts_378 ?_
        refine lv_icmp_ne (tgt := 386) hx hb dL_acts_379 (by decide) (fun h_28 => ?_) (fun h_28 => ?_)
        · exact absurd rfl h_28
        · refine lv_iconst (v := 1) hx hb dL_acts_382 (by decide) ?_
          refine lv_goto (tgt := 387) hx hb dL_acts_383 (by decide) ?_
          refine W.widen (k := 50) (n := 300) (by omega) (by omega) ?_
          exact aZ_ret (B := [bB h q z, vB g (q 0) na (mtL V cq i), vB g (q 1) ta TV, vB g (q 2) pa SV, hB g (q 3) hq hh (recO o n) (recS n), vB g (hh 0) (aa 0) (recH o n HV V 0), vB g (hh 1) (aa 1) (recH o n HV V 1), vB g (hh 2) (aa 2) (recH o n HV V 2), vB g (hh 3) (aa 3) (recH o n HV V 3), vB g (hh 4) (aa 4) (recH o n HV V 4), rB g (q 4) ra ((mtV V NN i).2), tB g (q 5) sa (fun _ => 0) 0, aR g at_ 54 (rT (mtL V cq i)), aR g aw 30 ((mtL V cq i) 9), aR g ar 30 ((mtL V cq i) 10), aR g ag 30 ((mtL V cq i) 11), aR g an 5 ((mtL V cq i) 12)]) ((mtL V cq i), cq, recO o n, recS n, recH o n HV V, (mtV V NN i).2) [] hsz hW hx hb hr hlocks dL_acts_387 (by rfl) (rfl) ⟨(li_turns LIh hBm i hm).1, rec_o ho hn, rec_n hn⟩ (rfl) (adr2 (L := [[h], [q 0, na 0, na 1, na 2, na 3, na 4, na 5, na 6, na 7, na 8, na 9, na 10, na 11], [q 1, ta 0, ta 1, ta 2, ta 3, ta 4, ta 5, ta 6, ta 7, ta 8, ta 9, ta 10, ta 11], [q 2, pa 0, pa 1, pa 2, pa 3, pa 4, pa 5, pa 6, pa 7, pa 8, pa 9, pa 10, pa 11], [q 3, hq], [hh 0, aa 0 0, aa 0 1, aa 0 2, aa 0 3, aa 0 4, aa 0 5, aa 0 6, aa 0 7, aa 0 8, aa 0 9, aa 0 10, aa 0 11], [hh 1, aa 1 0, aa 1 1, aa 1 2, aa 1 3, aa 1 4, aa 1 5, aa 1 6, aa 1 7, aa 1 8, aa 1 9, aa 1 10, aa 1 11], [hh 2, aa 2 0, aa 2 1, aa 2 2, aa 2 3, aa 2 4, aa 2 5, aa 2 6, aa 2 7, aa 2 8, aa 2 9, aa 2 10, aa 2 11], [hh 3, aa 3 0, aa 3 1, aa 3 2, aa 3 3, aa 3 4, aa 3 5, aa 3 6, aa 3 7, aa 3 8, aa 3 9, aa 3 10, aa 3 11], [hh 4, aa 4 0, aa 4 1, aa 4 2, aa 4 3, aa 4 4, aa 4 5, aa 4 6, aa 4 7, aa 4 8, aa 4 9, aa 4 10, aa 4 11], [q 4, ra 0, ra 1, ra 2, ra 3], [q 5, sa], [at_], [aw], [ar], [ag], [an]]) rfl rfl)
      · refine lv_aload_n hx hb dL_acts_353 rfl (lv_at hl 1 rfl) ?_
        refine lv_aload_n hx hb dL_acts_354 rfl (lv_at hl 2 rfl) ?_
        refine lv_aload_n hx hb dL_acts_355 rfl (lv_at hl 3 rfl) ?_
        refine lv_aload hx hb dL_acts_356 (lv_at hl 4 rfl) ?_
        refine lv_aload hx hb dL_acts_358 (lv_at hl 5 rfl) ?_
        refine call_SA (As := [.ref at_, .ref aw, .ref ar, .ref ag, .ref an]) (rest := []) E rfl hKq hW hA (c_L_turns l g H.size at_ aw ar ag an (mtL V cq i) cq (fun t9 ht9 => ⟨(mtL_k V cq (by decide) t9 i).trans (LIh.cnt t9 ht9).1, (LIh.cnt t9 ht9).2⟩)) ok_L_turns rfl q2_110 [12, 13, 14, 15, 16] rfl (by decide) ⟨⟨rfl, rfl⟩, Nat.le_of_ble_eq_true rfl, Nat.le_of_ble_eq_true rfl⟩ hl.1 (Nat.le_of_ble_eq_true rfl) ⟨(show i + 1 ≤ 50 by omega), (show 6 * i + 6 ≤ 300 by omega)⟩ rfl dL_acts_360 (fun _u H locs _ hW => ?_)
        have hW : wd g _ s.heap [bB h q z, vB g (q 0) na V, vB g (q 1) ta TV, vB g (q 2) pa SV, hB g (q 3) hq hh o n, vB g (hh 0) (aa 0) (HV 0), vB g (hh 1) (aa 1) (HV 1), vB g (hh 2) (aa 2) (HV 2), vB g (hh 3) (aa 3) (HV 3), vB g (hh 4) (aa 4) (HV 4), rB g (q 4) ra NN, tB g (q 5) sa (fun _ => 0) 0, aR g at_ 54 (rT (tuL (mtL V cq i) cq)), aR g aw 30 ((tuL (mtL V cq i) cq) 9), aR g ar 30 ((tuL (mtL V cq i) cq) 10), aR g ag 30 ((tuL (mtL V cq i) cq) 11), aR g an 5 ((tuL (mtL V cq i) cq) 12)] H locs := hW
        have hP := hW.1
        refine lv_iinc (v := nI (i + 1)) (lv' := [(15, .int (nI (i + 1))), (0, .ref h), (1, .ref at_), (2, .ref aw), (3, .ref ar), (4, .ref ag), (5, .ref an), (14, .int (nI m0))]) hx hb dL_acts_363 hl (k := 7) rfl (nI_add i 1) (by decide) rfl (fun ls hl => ?_)
        refine lv_goto (tgt := 346) hx hb dL_acts_366 (by decide) ?_
        refine W.widen (k := (i + 1)) (n := 6 * (i + 1)) (by omega) (by omega) ?_
        have e_29 : ([bB h q z, vB g (q 0) na V, vB g (q 1) ta TV, vB g (q 2) pa SV, hB g (q 3) hq hh o n, vB g (hh 0) (aa 0) (HV 0), vB g (hh 1) (aa 1) (HV 1), vB g (hh 2) (aa 2) (HV 2), vB g (hh 3) (aa 3) (HV 3), vB g (hh 4) (aa 4) (HV 4), rB g (q 4) ra NN, tB g (q 5) sa (fun _ => 0) 0, aR g at_ 54 (rT (mtL V cq (i + 1))), aR g aw 30 ((mtL V cq (i + 1)) 9), aR g ar 30 ((mtL V cq (i + 1)) 10), aR g ag 30 ((mtL V cq (i + 1)) 11), aR g an 5 ((mtL V cq (i + 1)) 12)] : List va_W) = [bB h q z, vB g (q 0) na V, vB g (q 1) ta TV, vB g (q 2) pa SV, hB g (q 3) hq hh o n, vB g (hh 0) (aa 0) (HV 0), vB g (hh 1) (aa 1) (HV 1), vB g (hh 2) (aa 2) (HV 2), vB g (hh 3) (aa 3) (HV 3), vB g (hh 4) (aa 4) (HV 4), rB g (q 4) ra NN, tB g (q 5) sa (fun _ => 0) 0, aR g at_ 54 (rT (tuL (mtL V cq i) cq)), aR g aw 30 ((tuL (mtL V cq i) cq) 9), aR g ar 30 ((tuL (mtL V cq i) cq) 10), aR g ag 30 ((tuL (mtL V cq i) cq) 11), aR g an 5 ((tuL (mtL V cq i) cq) 12)] := by rw [mtL]
        exact ih_i (by omega)  _ _ _ (by rw [e_29]; exact hW) (lv_sub hl [1, 2, 3, 4, 5, 6, 7, 0] rfl) 
