set_option maxHeartbeats 4000000 in
set_option maxRecDepth 100000 in
theorem c_L_isPlanned (l : Launch) (g : gx) (sz : Nat) (h : Nat) (q : Nat → Nat) (z : Int32) (na : Nat → Nat) (V : sV) (ta : Nat → Nat) (TV : sV) (pa : Nat → Nat) (SV : sV) (hq : Nat) (hh : Nat → Nat) (o n : Nat) (aa : Nat → Nat → Nat) (HV : Nat → sV) (ra : Nat → Nat) (NN : sV) (sa : Nat) (at_ aw ar an : Nat) (cq : Nat → Nat) (hc : ∀ t, t < 6 → V 3 t = nI (cq t) ∧ cq t ≤ 5) (k : Nat) (ho : o < 5) (hn : n ≤ 5) (hk : k < 6) (LP : LKp V cq k) : cA (S := sV × sV) l g yL_isPlanned cL_isPlanned 13 (some .boolean) ({ frames := 6, cells := 1, slots := 6, locals := 146 } : Room) [.ref h, .ref at_, .ref aw, .ref ar, .ref an, .int (nI k)] [bB h q z, vB g (q 0) na V, vB g (q 1) ta TV, vB g (q 2) pa SV, hB g (q 3) hq hh o n, vB g (hh 0) (aa 0) (HV 0), vB g (hh 1) (aa 1) (HV 1), vB g (hh 2) (aa 2) (HV 2), vB g (hh 3) (aa 3) (HV 3), vB g (hh 4) (aa 4) (HV 4), rB g (q 4) ra NN, tB g (q 5) sa (fun _ => 0) 0, aR g at_ 54 (rT V), aR g aw 30 (V 9), aR g ar 30 (V 10), aR g an 5 (V 12)] sz (fun u9 => some (.int (1 : Int32))) (fun u9 => True) (fun u9 => [bB h q z, vB g (q 0) na V, vB g (q 1) ta u9.1, vB g (q 2) pa SV, hB g (q 3) hq hh o n, vB g (hh 0) (aa 0) (HV 0), vB g (hh 1) (aa 1) (HV 1), vB g (hh 2) (aa 2) (HV 2), vB g (hh 3) (aa 3) (HV 3), vB g (hh 4) (aa 4) (HV 4), rB g (q 4) ra u9.2, tB g (q 5) sa (fun _ => 0) 0, aR g at_ 54 (rT V), aR g aw 30 (V 9), aR g ar 30 (V 10), aR g an 5 (V 12)]) 1 6 := by
  refine cA.mk (by decide +kernel) (Nat.le_of_ble_eq_true rfl) ?_
  intro p e s m below meth c ls E hK hsz hW hl
  obtain ⟨hx, hb, hr, hml, hts, hown, hlocks, hin⟩ := id E
  have hown : s.vm.findClass RL = some m.cls := hown
  have hKq := hK
  have hK := hKq.1
  have hA : ∀ q9, s.heap.size ≤ q9 → frN [bB h q z, vB g (q 0) na V, vB g (q 1) ta TV, vB g (q 2) pa SV, hB g (q 3) hq hh o n, vB g (hh 0) (aa 0) (HV 0), vB g (hh 1) (aa 1) (HV 1), vB g (hh 2) (aa 2) (HV 2), vB g (hh 3) (aa 3) (HV 3), vB g (hh 4) (aa 4) (HV 4), rB g (q 4) ra NN, tB g (q 5) sa (fun _ => 0) 0, aR g at_ 54 (rT V), aR g aw 30 (V 9), aR g ar 30 (V 10), aR g an 5 (V 12)] sz q9 := fun q9 h9 => Or.inr (by rw [← hsz]; exact h9)
  obtain ⟨H, locs, hH, hlo9⟩ : ∃ (H : Heap) (locs : List Loc), H = s.heap ∧ locs = [] := ⟨_, _, rfl, rfl⟩
  have hW : wd g (frN [bB h q z, vB g (q 0) na V, vB g (q 1) ta TV, vB g (q 2) pa SV, hB g (q 3) hq hh o n, vB g (hh 0) (aa 0) (HV 0), vB g (hh 1) (aa 1) (HV 1), vB g (hh 2) (aa 2) (HV 2), vB g (hh 3) (aa 3) (HV 3), vB g (hh 4) (aa 4) (HV 4), rB g (q 4) ra NN, tB g (q 5) sa (fun _ => 0) 0, aR g at_ 54 (rT V), aR g aw 30 (V 9), aR g ar 30 (V 10), aR g an 5 (V 12)] sz) s.heap [bB h q z, vB g (q 0) na V, vB g (q 1) ta TV, vB g (q 2) pa SV, hB g (q 3) hq hh o n, vB g (hh 0) (aa 0) (HV 0), vB g (hh 1) (aa 1) (HV 1), vB g (hh 2) (aa 2) (HV 2), vB g (hh 3) (aa 3) (HV 3), vB g (hh 4) (aa 4) (HV 4), rB g (q 4) ra NN, tB g (q 5) sa (fun _ => 0) 0, aR g at_ 54 (rT V), aR g aw 30 (V 9), aR g ar 30 (V 10), aR g an 5 (V 12)] H locs := by rw [hH, hlo9]; exact hW
  rw [show W p l e _ s m _ below meth c s.heap [] 0 0 _ (F0 m 0 ls []) = W p l e _ s m _ below meth c H locs 0 0 _ (F0 m 0 ls []) by rw [hH, hlo9]]
  have hP := hW.1
  have hl : lv_has ls 13 [(0, .ref h), (1, .ref at_), (2, .ref aw), (3, .ref ar), (4, .ref an), (5, .int (nI k))] := hl
  have h32 := p32 (hc k hk).2
  have h01 : 1 ≤ 2 ^ cq k := Nat.pos_of_ne_zero (by simp)
  refine lv_bipush (v := 6) hx hb dL_isPlanned_0 (by decide) ?_
  refine b_newB (N := 6) hx hb hts hKq hW hA (by decide) (by decide) (by decide) (Nat.le_of_ble_eq_true rfl) (Nat.le_of_ble_eq_true rfl) dL_isPlanned_2 (fun al_1 H hW => ?_)
  have hW : wd g (frN [bB h q z, vB g (q 0) na V, vB g (q 1) ta TV, vB g (q 2) pa SV, hB g (q 3) hq hh o n, vB g (hh 0) (aa 0) (HV 0), vB g (hh 1) (aa 1) (HV 1), vB g (hh 2) (aa 2) (HV 2), vB g (hh 3) (aa 3) (HV 3), vB g (hh 4) (aa 4) (HV 4), rB g (q 4) ra NN, tB g (q 5) sa (fun _ => 0) 0, aR g at_ 54 (rT V), aR g aw 30 (V 9), aR g ar 30 (V 10), aR g an 5 (V 12)] sz) s.heap [bB h q z, vB g (q 0) na V, vB g (q 1) ta TV, vB g (q 2) pa SV, hB g (q 3) hq hh o n, vB g (hh 0) (aa 0) (HV 0), vB g (hh 1) (aa 1) (HV 1), vB g (hh 2) (aa 2) (HV 2), vB g (hh 3) (aa 3) (HV 3), vB g (hh 4) (aa 4) (HV 4), rB g (q 4) ra NN, tB g (q 5) sa (fun _ => 0) 0, aR g at_ 54 (rT V), aR g aw 30 (V 9), aR g ar 30 (V 10), aR g an 5 (V 12), aR g al_1 6 (fun _ => 0)] H locs := hW
  have hP := hW.1
  refine lv_astore (lv' := [(6, .ref al_1), (0, .ref h), (1, .ref at_), (2, .ref aw), (3, .ref ar), (4, .ref an), (5, .int (nI k))]) hx hb dL_isPlanned_4 hl (by decide) rfl (fun ls hl => ?_)
  refine lv_aload_n hx hb dL_isPlanned_6 rfl (lv_at hl 2 rfl) ?_
  refine lv_aload_n hx hb dL_isPlanned_7 rfl (lv_at hl 3 rfl) ?_
  refine lv_aload_n hx hb dL_isPlanned_8 rfl (lv_at hl 4 rfl) ?_
  refine lv_aload hx hb dL_isPlanned_9 (lv_at hl 5 rfl) ?_
  refine lv_aload hx hb dL_isPlanned_11 (lv_at hl 0 rfl) ?_
  refine call_SU (As := [.ref at_, .ref aw, .ref ar, .ref an, .ref al_1]) (rest := []) E rfl hK hW (c_L_listens l g at_ aw ar an al_1 V (fun _ => 0) cq hc) ok_L_listens rfl q2_49 [12, 13, 14, 15, 16] rfl (by decide) ⟨⟨rfl, rfl⟩, Nat.le_of_ble_eq_true rfl, Nat.le_of_ble_eq_true rfl⟩ hl.1 (Nat.le_of_ble_eq_true rfl) ⟨Nat.le_of_ble_eq_true rfl, Nat.le_of_ble_eq_true rfl⟩ rfl dL_isPlanned_13 (fun _u H locs _ hW => ?_)
  have hW : wd g _ s.heap [bB h q z, vB g (q 0) na V, vB g (q 1) ta TV, vB g (q 2) pa SV, hB g (q 3) hq hh o n, vB g (hh 0) (aa 0) (HV 0), vB g (hh 1) (aa 1) (HV 1), vB g (hh 2) (aa 2) (HV 2), vB g (hh 3) (aa 3) (HV 3), vB g (hh 4) (aa 4) (HV 4), rB g (q 4) ra NN, tB g (q 5) sa (fun _ => 0) 0, aR g at_ 54 (rT V), aR g aw 30 (V 9), aR g ar 30 (V 10), aR g an 5 (V 12), aR g al_1 6 (ldL V cq)] H locs := hW
  have hP := hW.1
  obtain ⟨u, hu⟩ : ∃ z, z = ldL V cq := ⟨_, rfl⟩
  rw [← hu] at hW
  have hP := hW.1
  refine lv_bipush (v := -5) hx hb dL_isPlanned_16 (by decide) ?_
  refine lv_istore (lv' := [(7, .int (-5)), (6, .ref al_1), (0, .ref h), (1, .ref at_), (2, .ref aw), (3, .ref ar), (4, .ref an), (5, .int (nI k))]) hx hb dL_isPlanned_18 hl (by decide) rfl (fun ls hl => ?_)
  refine lv_iconst (v := 0) hx hb dL_isPlanned_20 (by decide) ?_
  refine lv_istore (lv' := [(8, .int 0), (7, .int (-5)), (6, .ref al_1), (0, .ref h), (1, .ref at_), (2, .ref aw), (3, .ref ar), (4, .ref an), (5, .int (nI k))]) hx hb dL_isPlanned_21 hl (by decide) rfl (fun ls hl => ?_)
  refine lv_aload_n hx hb dL_isPlanned_23 rfl (lv_at hl 3 rfl) ?_
  refine lv_iload hx hb dL_isPlanned_24 (lv_at hl 8 rfl) ?_
  refine lv_iconst (v := 1) hx hb dL_isPlanned_26 (by decide) ?_
  refine lv_aload_n hx hb dL_isPlanned_27 rfl (lv_at hl 4 rfl) ?_
  refine lv_bipush (v := 9) hx hb dL_isPlanned_28 (by decide) ?_
  refine lv_iload hx hb dL_isPlanned_30 (lv_at hl 8 rfl) ?_
  refine lv_imul hx hb dL_isPlanned_32 ?_
  refine b_top (y := nI (9 * k)) (pk_mul 9 k) ?_
  refine lv_iconst (v := 3) hx hb dL_isPlanned_33 (by decide) ?_
  refine lv_iadd hx hb dL_isPlanned_34 ?_
  refine b_top (y := nI ((9 * k) + 3)) (nI_add (9 * k) 3) ?_
  refine b_iald (v := V 3 k) hx hb hK hP 12 0 ((9 * k) + 3) rfl rfl rfl (by omega) rfl ((rT_at _ (by omega)).trans rfl) dL_isPlanned_35 ?_
  refine lv_ishl hx hb dL_isPlanned_36 ?_
  refine call_VU (As := [.int (nI k), .int ((1 : Int32) <<< ((V 3 k) &&& 31))]) (rest := []) E rfl hK hW (c_X4_ifPlanned l g h q z na V ta TV pa SV hq hh o n aa HV ra NN sa (fun _ => 0) 0 (nI k) ((1 : Int32) <<< ((V 3 k) &&& 31)) k ho hn (Nat.zero_le _) (fun _ => ⟨rfl, hk⟩)) ok_X4_ifPlanned rfl q2_70 [0, 1, 2, 3, 4, 5, 6, 7, 8, 9, 10, 11] rfl (by decide) (b_recv hK hP 0 0 rfl rfl rfl rfl) ⟨⟨rfl, rfl⟩, Nat.le_of_ble_eq_true rfl, Nat.le_of_ble_eq_true rfl⟩ hl.1 (Nat.le_of_ble_eq_true rfl) ⟨Nat.le_of_ble_eq_true rfl, Nat.le_of_ble_eq_true rfl⟩ rfl dL_isPlanned_37 (fun u_2 H locs hu_2 hW => ?_)
  obtain ⟨bu_2, Tu_2, Nu_2⟩ := u_2
  obtain rfl : bu_2 = false := by
    cases bu_2 with
    | false => rfl
    | true => exact absurd (LP.1.symm.trans (show plE V (nI k) k _ = 0 from hu_2)) (by decide)
  have hW : wd g _ s.heap [bB h q z, vB g (q 0) na V, vB g (q 1) ta Tu_2, vB g (q 2) pa SV, hB g (q 3) hq hh o n, vB g (hh 0) (aa 0) (HV 0), vB g (hh 1) (aa 1) (HV 1), vB g (hh 2) (aa 2) (HV 2), vB g (hh 3) (aa 3) (HV 3), vB g (hh 4) (aa 4) (HV 4), rB g (q 4) ra Nu_2, tB g (q 5) sa (fun _ => 0) 0, aR g at_ 54 (rT V), aR g aw 30 (V 9), aR g ar 30 (V 10), aR g an 5 (V 12), aR g al_1 6 u] H locs := hW
  have hP := hW.1
  refine b_top (y := -2) ((cond_false _ _).trans LP.1) ?_
  refine lv_bipush (v := -2) hx hb dL_isPlanned_40 (by decide) ?_
  refine lv_icmp_ne (tgt := 59) hx hb dL_isPlanned_42 (by decide) (fun h_3 => ?_) (fun h_3 => ?_)
  · exact absurd rfl h_3
  · refine lv_aload_n hx hb dL_isPlanned_45 rfl (lv_at hl 3 rfl) ?_
    refine lv_bipush (v := 6) hx hb dL_isPlanned_46 (by decide) ?_
    refine call_VU (As := [.int 6]) (rest := []) E rfl hK hW (c_X4_bestPlan l g h q z na V ta Tu_2 pa SV hq hh o n aa HV ra Nu_2 sa (fun _ => 0) 0 6 0 (cq 0) ho hn (Nat.zero_le _) (fun q9 => absurd q9 (by decide)) (fun _ => hc 0 (by omega))) ok_X4_bestPlan rfl q2_100 [0, 1, 2, 3, 4, 5, 6, 7, 8, 9, 10, 11] rfl (by decide) (b_recv hK hP 0 0 rfl rfl rfl rfl) ⟨⟨rfl, rfl⟩, Nat.le_of_ble_eq_true rfl, Nat.le_of_ble_eq_true rfl⟩ hl.1 (Nat.le_of_ble_eq_true rfl) ⟨Nat.le_of_ble_eq_true rfl, Nat.le_of_ble_eq_true rfl⟩ rfl dL_isPlanned_48 (fun u_4 H locs _ hW => ?_)
    obtain ⟨Tu_4, Nu_4⟩ := u_4
    have hW : wd g _ s.heap [bB h q z, vB g (q 0) na V, vB g (q 1) ta Tu_4, vB g (q 2) pa SV, hB g (q 3) hq hh o n, vB g (hh 0) (aa 0) (HV 0), vB g (hh 1) (aa 1) (HV 1), vB g (hh 2) (aa 2) (HV 2), vB g (hh 3) (aa 3) (HV 3), vB g (hh 4) (aa 4) (HV 4), rB g (q 4) ra Nu_4, tB g (q 5) sa (fun _ => 0) 0, aR g at_ 54 (rT V), aR g aw 30 (V 9), aR g ar 30 (V 10), aR g an 5 (V 12), aR g al_1 6 u] H locs := hW
    have hP := hW.1
    refine b_top (y := -1) (if_neg (by decide)) ?_
    refine lv_iconst (v := -1) hx hb dL_isPlanned_51 (by decide) ?_
    refine lv_icmp_ne (tgt := 59) hx hb dL_isPlanned_52 (by decide) (fun h_5 => ?_) (fun h_5 => ?_)
    · exact absurd rfl h_5
    · refine lv_iconst (v := 1) hx hb dL_isPlanned_55 (by decide) ?_
      refine lv_goto (tgt := 60) hx hb dL_isPlanned_56 (by decide) ?_
      refine lv_istore (lv' := [(9, .int 1), (8, .int 0), (7, .int (-5)), (6, .ref al_1), (0, .ref h), (1, .ref at_), (2, .ref aw), (3, .ref ar), (4, .ref an), (5, .int (nI k))]) hx hb dL_isPlanned_60 hl (by decide) rfl (fun ls hl => ?_)
      refine lv_iconst (v := 1) hx hb dL_isPlanned_62 (by decide) ?_
      refine lv_aload_n hx hb dL_isPlanned_63 rfl (lv_at hl 5 rfl) ?_
      refine lv_bipush (v := 9) hx hb dL_isPlanned_64 (by decide) ?_
      refine lv_iload hx hb dL_isPlanned_66 (lv_at hl 9 rfl) ?_
      refine lv_imul hx hb dL_isPlanned_68 ?_
      refine b_top (y := nI (9 * k)) (pk_mul 9 k) ?_
      refine lv_iconst (v := 3) hx hb dL_isPlanned_69 (by decide) ?_
      refine lv_iadd hx hb dL_isPlanned_70 ?_
      refine b_top (y := nI ((9 * k) + 3)) (nI_add (9 * k) 3) ?_
      refine b_iald (v := V 3 k) hx hb hK hP 12 0 ((9 * k) + 3) rfl rfl rfl (by omega) rfl ((rT_at _ (by omega)).trans rfl) dL_isPlanned_71 ?_
      refine lv_ishl hx hb dL_isPlanned_72 ?_
      refine lv_iconst (v := 1) hx hb dL_isPlanned_73 (by decide) ?_
      refine lv_isub hx hb dL_isPlanned_74 ?_
      refine b_top (y := plI (2 ^ cq k) 0) (plI_0 (hc k hk).1 (hc k hk).2) ?_
      refine lv_istore (lv' := [(10, .int (plI (2 ^ cq k) 0)), (9, .int 1), (8, .int 0), (7, .int (-5)), (6, .ref al_1), (0, .ref h), (1, .ref at_), (2, .ref aw), (3, .ref ar), (4, .ref an), (5, .int (nI k))]) hx hb dL_isPlanned_75 hl (by decide) rfl (fun ls hl => ?_)
      refine loopN (fun i : Nat => ∀ TX : sV, ∀ NX : sV, ∀ f9 : Nat → Int32, ∀ (H : Heap) (locs : List Loc) (ls : Array Slot), wd g (frN [bB h q z, vB g (q 0) na V, vB g (q 1) ta TV, vB g (q 2) pa SV, hB g (q 3) hq hh o n, vB g (hh 0) (aa 0) (HV 0), vB g (hh 1) (aa 1) (HV 1), vB g (hh 2) (aa 2) (HV 2), vB g (hh 3) (aa 3) (HV 3), vB g (hh 4) (aa 4) (HV 4), rB g (q 4) ra NN, tB g (q 5) sa (fun _ => 0) 0, aR g at_ 54 (rT V), aR g aw 30 (V 9), aR g ar 30 (V 10), aR g an 5 (V 12)] sz) s.heap [bB h q z, vB g (q 0) na V, vB g (q 1) ta TX, vB g (q 2) pa SV, hB g (q 3) hq hh o n, vB g (hh 0) (aa 0) (HV 0), vB g (hh 1) (aa 1) (HV 1), vB g (hh 2) (aa 2) (HV 2), vB g (hh 3) (aa 3) (HV 3), vB g (hh 4) (aa 4) (HV 4), rB g (q 4) ra NX, tB g (q 5) sa (fun _ => 0) 0, aR g at_ 54 (rT V), aR g aw 30 (V 9), aR g ar 30 (V 10), aR g an 5 (V 12), aR g al_1 6 f9] H locs → lv_has ls 13 [(0, .ref h), (1, .ref at_), (2, .ref aw), (3, .ref ar), (4, .ref an), (5, .int (nI k)), (6, .ref al_1), (7, .int ((bpL V cq k i).1)), (8, .int ((bpL V cq k i).2)), (9, .int 1), (10, .int (plI (2 ^ cq k) i))] → (∀ j, j < 6 → j ≠ k → f9 j = ldL V cq j) → W p l e _ s m _ below meth c H locs (1) (6) _ (F0 m 77 ls [])) (2 ^ cq k) (fun i hii ih_i => ?_) (0) (by omega) (Tu_4) (Nu_4) (u) H locs ls hW (lv_sub hl [5, 6, 7, 8, 9, 10, 4, 3, 2, 1, 0] rfl) (fun j9 _ _ => congrFun hu j9)
      intro TX NX f9 H locs ls hW hl hf
      have hP := hW.1
      refine lv_iload hx hb dL_isPlanned_77 (lv_at hl 10 rfl) ?_
      rcases (show i = 2 ^ cq k ∨ i < 2 ^ cq k by omega) with hie | hil
      · subst hie
        refine lv_if_lt (tgt := 230) hx hb dL_isPlanned_79 (by decide) (fun _ => ?_) (fun h9 => absurd (by rw [plI_end]; decide) h9)
        refine lv_iload hx hb dL_isPlanned_230 (lv_at hl 9 rfl) ?_
        refine lv_if_eq (tgt := 250) hx hb dL_isPlanned_232 (by decide) (fun h_6 => ?_) (fun h_6 => ?_)
        · exact absurd h_6 (by decide)
        · refine lv_aload_n hx hb dL_isPlanned_235 rfl (lv_at hl 0 rfl) ?_
          refine lv_iload hx hb dL_isPlanned_236 (lv_at hl 5 rfl) ?_
          refine call_VU (As := [.int (nI k)]) (rest := []) E rfl hK hW (c_X4_bestPlan l g h q z na V ta TX pa SV hq hh o n aa HV ra NX sa (fun _ => 0) 0 (nI k) k (cq k) ho hn (Nat.zero_le _) (fun _ => ⟨rfl, hk⟩) (fun _ => hc k hk)) ok_X4_bestPlan rfl q2_100 [0, 1, 2, 3, 4, 5, 6, 7, 8, 9, 10, 11] rfl (by decide) (b_recv hK hP 0 0 rfl rfl rfl rfl) ⟨⟨rfl, rfl⟩, Nat.le_of_ble_eq_true rfl, Nat.le_of_ble_eq_true rfl⟩ hl.1 (Nat.le_of_ble_eq_true rfl) ⟨Nat.le_of_ble_eq_true rfl, Nat.le_of_ble_eq_true rfl⟩ rfl dL_isPlanned_238 (fun u_7 H locs _ hW => ?_)
          obtain ⟨Tu_7, Nu_7⟩ := u_7
          have hW : wd g _ s.heap [bB h q z, vB g (q 0) na V, vB g (q 1) ta Tu_7, vB g (q 2) pa SV, hB g (q 3) hq hh o n, vB g (hh 0) (aa 0) (HV 0), vB g (hh 1) (aa 1) (HV 1), vB g (hh 2) (aa 2) (HV 2), vB g (hh 3) (aa 3) (HV 3), vB g (hh 4) (aa 4) (HV 4), rB g (q 4) ra Nu_7, tB g (q 5) sa (fun _ => 0) 0, aR g at_ 54 (rT V), aR g aw 30 (V 9), aR g ar 30 (V 10), aR g an 5 (V 12), aR g al_1 6 f9] H locs := hW
          have hP := hW.1
          refine b_top (y := (bpL V cq k (2 ^ cq k)).1) ((if_pos (isT_nI hk)).trans (LP.2.2 _)) ?_
          refine lv_iload hx hb dL_isPlanned_241 (lv_at hl 7 rfl) ?_
          refine lv_icmp_ne (tgt := 250) hx hb dL_isPlanned_243 (by decide) (fun h_8 => ?_) (fun h_8 => ?_)
          · exact absurd rfl h_8
          · refine lv_iconst (v := 1) hx hb dL_isPlanned_246 (by decide) ?_
            refine lv_goto (tgt := 251) hx hb dL_isPlanned_247 (by decide) ?_
            exact aZ_ret (B := [bB h q z, vB g (q 0) na V, vB g (q 1) ta Tu_7, vB g (q 2) pa SV, hB g (q 3) hq hh o n, vB g (hh 0) (aa 0) (HV 0), vB g (hh 1) (aa 1) (HV 1), vB g (hh 2) (aa 2) (HV 2), vB g (hh 3) (aa 3) (HV 3), vB g (hh 4) (aa 4) (HV 4), rB g (q 4) ra Nu_7, tB g (q 5) sa (fun _ => 0) 0, aR g at_ 54 (rT V), aR g aw 30 (V 9), aR g ar 30 (V 10), aR g an 5 (V 12)]) (Tu_7, Nu_7) [aR g al_1 6 f9] hsz hW hx hb hr hlocks dL_isPlanned_251 (by rfl) (rfl) trivial (rfl) (adr2 (L := [[h], [q 0, na 0, na 1, na 2, na 3, na 4, na 5, na 6, na 7, na 8, na 9, na 10, na 11], [q 1, ta 0, ta 1, ta 2, ta 3, ta 4, ta 5, ta 6, ta 7, ta 8, ta 9, ta 10, ta 11], [q 2, pa 0, pa 1, pa 2, pa 3, pa 4, pa 5, pa 6, pa 7, pa 8, pa 9, pa 10, pa 11], [q 3, hq], [hh 0, aa 0 0, aa 0 1, aa 0 2, aa 0 3, aa 0 4, aa 0 5, aa 0 6, aa 0 7, aa 0 8, aa 0 9, aa 0 10, aa 0 11], [hh 1, aa 1 0, aa 1 1, aa 1 2, aa 1 3, aa 1 4, aa 1 5, aa 1 6, aa 1 7, aa 1 8, aa 1 9, aa 1 10, aa 1 11], [hh 2, aa 2 0, aa 2 1, aa 2 2, aa 2 3, aa 2 4, aa 2 5, aa 2 6, aa 2 7, aa 2 8, aa 2 9, aa 2 10, aa 2 11], [hh 3, aa 3 0, aa 3 1, aa 3 2, aa 3 3, aa 3 4, aa 3 5, aa 3 6, aa 3 7, aa 3 8, aa 3 9, aa 3 10, aa 3 11], [hh 4, aa 4 0, aa 4 1, aa 4 2, aa 4 3, aa 4 4, aa 4 5, aa 4 6, aa 4 7, aa 4 8, aa 4 9, aa 4 10, aa 4 11], [q 4, ra 0, ra 1, ra 2, ra 3], [q 5, sa], [at_], [aw], [ar], [an]]) rfl rfl)
      · obtain ⟨pn, hpn⟩ : ∃ z, z = 2 ^ cq k - 1 - i := ⟨_, rfl⟩
        have hpl : plI (2 ^ cq k) i = nI pn := by rw [hpn]; exact plI_lt hil
        refine b_top (y := nI pn) hpl ?_
        rw [hpl] at hl
        refine lv_if_lt (tgt := 230) hx hb dL_isPlanned_79 (by decide) (fun h9 => absurd h9 (nI_pos (by omega))) (fun _ => ?_)
        refine lv_aload hx hb dL_isPlanned_82 (lv_at hl 6 rfl) ?_
        refine lv_iload hx hb dL_isPlanned_84 (lv_at hl 5 rfl) ?_
        refine lv_aload_n hx hb dL_isPlanned_86 rfl (lv_at hl 2 rfl) ?_
        refine lv_iload hx hb dL_isPlanned_87 (lv_at hl 5 rfl) ?_
        refine lv_aload_n hx hb dL_isPlanned_89 rfl (lv_at hl 1 rfl) ?_
        refine lv_aload_n hx hb dL_isPlanned_90 rfl (lv_at hl 2 rfl) ?_
        refine lv_aload_n hx hb dL_isPlanned_91 rfl (lv_at hl 3 rfl) ?_
        refine lv_aload hx hb dL_isPlanned_92 (lv_at hl 4 rfl) ?_
        refine lv_iload hx hb dL_isPlanned_94 (lv_at hl 5 rfl) ?_
        refine lv_iload hx hb dL_isPlanned_96 (lv_at hl 10 rfl) ?_
        refine call_SR (As := [.ref at_, .ref aw, .ref ar, .ref an, .int (nI k), .int (nI pn)]) (rest := [.int (nI k), .ref aw, .int (nI k), .ref al_1]) E rfl hK hP (c_L_rings l g at_ aw ar an V k (nI pn) (by omega) (cq k) (hc _ (by omega)).1 (hc _ (by omega)).2) ok_L_rings rfl q1_201 [12, 13, 14, 15] rfl ⟨⟨rfl, rfl⟩, Nat.le_of_ble_eq_true rfl, Nat.le_of_ble_eq_true rfl⟩ hl.1 (Nat.le_of_ble_eq_true rfl) ⟨Nat.le_of_ble_eq_true rfl, Nat.le_of_ble_eq_true rfl⟩ rfl dL_isPlanned_98 ?_
        refine call_SR (As := [.ref aw, .int (nI k), .int ((rgL V k (nI pn) (cq k)).1)]) (rest := [.int (nI k), .ref al_1]) E rfl hK hP (c_L_loud l g aw V k ((rgL V k (nI pn) (cq k)).1) (by omega)) ok_L_loud rfl q2_8 [13] rfl ⟨⟨rfl, rfl⟩, Nat.le_of_ble_eq_true rfl, Nat.le_of_ble_eq_true rfl⟩ hl.1 (Nat.le_of_ble_eq_true rfl) ⟨Nat.le_of_ble_eq_true rfl, Nat.le_of_ble_eq_true rfl⟩ rfl dL_isPlanned_101 ?_
        refine b_iastE (B' := [bB h q z, vB g (q 0) na V, vB g (q 1) ta TX, vB g (q 2) pa SV, hB g (q 3) hq hh o n, vB g (hh 0) (aa 0) (HV 0), vB g (hh 1) (aa 1) (HV 1), vB g (hh 2) (aa 2) (HV 2), vB g (hh 3) (aa 3) (HV 3), vB g (hh 4) (aa 4) (HV 4), rB g (q 4) ra NX, tB g (q 5) sa (fun _ => 0) 0, aR g at_ 54 (rT V), aR g aw 30 (V 9), aR g ar 30 (V 10), aR g an 5 (V 12), aR g al_1 6 (upd f9 k (loL V k ((rgL V k (nI pn) (cq k)).1) 5))]) hx hb hK hW 16 0 (k) rfl rfl rfl (by omega) rfl rfl rfl dL_isPlanned_104 (fun H locs hW => ?_)
        have hP := hW.1
        have hW := wd_row hW 16 0 rfl rfl (f' := uP V cq k pn) (fun j9 hj9 => uP_at hf j9 hj9) rfl
        have hW : wd g (frN [bB h q z, vB g (q 0) na V, vB g (q 1) ta TV, vB g (q 2) pa SV, hB g (q 3) hq hh o n, vB g (hh 0) (aa 0) (HV 0), vB g (hh 1) (aa 1) (HV 1), vB g (hh 2) (aa 2) (HV 2), vB g (hh 3) (aa 3) (HV 3), vB g (hh 4) (aa 4) (HV 4), rB g (q 4) ra NN, tB g (q 5) sa (fun _ => 0) 0, aR g at_ 54 (rT V), aR g aw 30 (V 9), aR g ar 30 (V 10), aR g an 5 (V 12)] sz) s.heap [bB h q z, vB g (q 0) na V, vB g (q 1) ta TX, vB g (q 2) pa SV, hB g (q 3) hq hh o n, vB g (hh 0) (aa 0) (HV 0), vB g (hh 1) (aa 1) (HV 1), vB g (hh 2) (aa 2) (HV 2), vB g (hh 3) (aa 3) (HV 3), vB g (hh 4) (aa 4) (HV 4), rB g (q 4) ra NX, tB g (q 5) sa (fun _ => 0) 0, aR g at_ 54 (rT V), aR g aw 30 (V 9), aR g ar 30 (V 10), aR g an 5 (V 12), aR g al_1 6 (uP V cq k pn)] H locs := hW
        have hP := hW.1
        refine lv_iconst (v := 0) hx hb dL_isPlanned_105 (by decide) ?_
        refine lv_istore (lv' := [(11, .int 0), (0, .ref h), (1, .ref at_), (2, .ref aw), (3, .ref ar), (4, .ref an), (5, .int (nI k)), (6, .ref al_1), (7, .int ((bpL V cq k i).1)), (8, .int ((bpL V cq k i).2)), (9, .int 1), (10, .int (nI pn))]) hx hb dL_isPlanned_106 hl (by decide) rfl (fun ls hl => ?_)
        refine lv_iconst (v := 0) hx hb dL_isPlanned_108 (by decide) ?_
        refine lv_istore (lv' := [(12, .int 0), (11, .int 0), (0, .ref h), (1, .ref at_), (2, .ref aw), (3, .ref ar), (4, .ref an), (5, .int (nI k)), (6, .ref al_1), (7, .int ((bpL V cq k i).1)), (8, .int ((bpL V cq k i).2)), (9, .int 1), (10, .int (nI pn))]) hx hb dL_isPlanned_109 hl (by decide) rfl (fun ls hl => ?_)
        refine loopN (fun e0 : Nat => ∀ (H : Heap) (locs : List Loc) (ls : Array Slot), wd g (frN [bB h q z, vB g (q 0) na V, vB g (q 1) ta TV, vB g (q 2) pa SV, hB g (q 3) hq hh o n, vB g (hh 0) (aa 0) (HV 0), vB g (hh 1) (aa 1) (HV 1), vB g (hh 2) (aa 2) (HV 2), vB g (hh 3) (aa 3) (HV 3), vB g (hh 4) (aa 4) (HV 4), rB g (q 4) ra NN, tB g (q 5) sa (fun _ => 0) 0, aR g at_ 54 (rT V), aR g aw 30 (V 9), aR g ar 30 (V 10), aR g an 5 (V 12)] sz) s.heap [bB h q z, vB g (q 0) na V, vB g (q 1) ta TX, vB g (q 2) pa SV, hB g (q 3) hq hh o n, vB g (hh 0) (aa 0) (HV 0), vB g (hh 1) (aa 1) (HV 1), vB g (hh 2) (aa 2) (HV 2), vB g (hh 3) (aa 3) (HV 3), vB g (hh 4) (aa 4) (HV 4), rB g (q 4) ra NX, tB g (q 5) sa (fun _ => 0) 0, aR g at_ 54 (rT V), aR g aw 30 (V 9), aR g ar 30 (V 10), aR g an 5 (V 12), aR g al_1 6 (uP V cq k pn)] H locs → lv_has ls 13 [(0, .ref h), (1, .ref at_), (2, .ref aw), (3, .ref ar), (4, .ref an), (5, .int (nI k)), (6, .ref al_1), (7, .int ((bpL V cq k i).1)), (8, .int ((bpL V cq k i).2)), (9, .int 1), (10, .int (nI pn)), (11, .int (ptL V (uP V cq k pn) k e0)), (12, .int (nI e0))] → W p l e _ s m _ below meth c H locs (1) (6) _ (F0 m 111 ls [])) (6) (fun e0 hie ih_e0 => ?_) (0) (by omega)  H locs ls hW (lv_sub hl [2, 3, 4, 5, 6, 7, 8, 9, 10, 11, 12, 1, 0] rfl) 
        intro  H locs ls hW hl 
        have hP := hW.1
        refine lv_iload hx hb dL_isPlanned_111 (lv_at hl 12 rfl) ?_
        refine lv_bipush (v := 6) hx hb dL_isPlanned_113 (by decide) ?_
        refine b_ge (tgt := 149) (e0) (6) hx hb rfl rfl (by omega) (by omega) dL_isPlanned_115 (by decide) (fun h_9 => ?_) (fun h_9 => ?_)
        · obtain rfl : e0 = 6 := by omega
          refine lv_iload hx hb dL_isPlanned_149 (lv_at hl 9 rfl) ?_
          refine lv_if_eq (tgt := 171) hx hb dL_isPlanned_151 (by decide) (fun h_10 => ?_) (fun h_10 => ?_)
          · exact absurd h_10 (by decide)
          · refine lv_aload_n hx hb dL_isPlanned_154 rfl (lv_at hl 0 rfl) ?_
            refine lv_iload hx hb dL_isPlanned_155 (lv_at hl 5 rfl) ?_
            refine lv_iload hx hb dL_isPlanned_157 (lv_at hl 10 rfl) ?_
            refine call_VU (As := [.int (nI k), .int (nI pn)]) (rest := []) E rfl hK hW (c_X4_ifPlanned l g h q z na V ta TX pa SV hq hh o n aa HV ra NX sa (fun _ => 0) 0 (nI k) (nI pn) k ho hn (Nat.zero_le _) (fun _ => ⟨rfl, hk⟩)) ok_X4_ifPlanned rfl q2_70 [0, 1, 2, 3, 4, 5, 6, 7, 8, 9, 10, 11] rfl (by decide) (b_recv hK hP 0 0 rfl rfl rfl rfl) ⟨⟨rfl, rfl⟩, Nat.le_of_ble_eq_true rfl, Nat.le_of_ble_eq_true rfl⟩ hl.1 (Nat.le_of_ble_eq_true rfl) ⟨Nat.le_of_ble_eq_true rfl, Nat.le_of_ble_eq_true rfl⟩ rfl dL_isPlanned_159 (fun u_11 H locs hu_11 hW => ?_)
            obtain ⟨bu_11, Tu_11, Nu_11⟩ := u_11
            obtain rfl : bu_11 = true := by
              cases bu_11 with
              | true => rfl
              | false => exact absurd (LP.2.1 NN pn (by omega)).2 (show ¬ plE V (nI k) k (nI pn) = 0 from hu_11)
            have hW : wd g _ s.heap [bB h q z, vB g (q 0) na V, vB g (q 1) ta Tu_11, vB g (q 2) pa SV, hB g (q 3) hq hh o n, vB g (hh 0) (aa 0) (HV 0), vB g (hh 1) (aa 1) (HV 1), vB g (hh 2) (aa 2) (HV 2), vB g (hh 3) (aa 3) (HV 3), vB g (hh 4) (aa 4) (HV 4), rB g (q 4) ra Nu_11, tB g (q 5) sa (fun _ => 0) 0, aR g at_ 54 (rT V), aR g aw 30 (V 9), aR g ar 30 (V 10), aR g an 5 (V 12), aR g al_1 6 (uP V cq k pn)] H locs := hW
            have hP := hW.1
            refine b_top (y := ptL V (uP V cq k pn) k 6) ((cond_true _ _).trans (LP.2.1 _ pn (by omega)).1) ?_
            refine lv_iload hx hb dL_isPlanned_162 (lv_at hl 11 rfl) ?_
            refine lv_icmp_ne (tgt := 171) hx hb dL_isPlanned_164 (by decide) (fun h_12 => ?_) (fun h_12 => ?_)
            · exact absurd rfl h_12
            · refine lv_iconst (v := 1) hx hb dL_isPlanned_167 (by decide) ?_
              refine lv_goto (tgt := 172) hx hb dL_isPlanned_168 (by decide) ?_
              refine lv_istore (lv' := [(9, .int 1), (0, .ref h), (1, .ref at_), (2, .ref aw), (3, .ref ar), (4, .ref an), (5, .int (nI k)), (6, .ref al_1), (7, .int ((bpL V cq k i).1)), (8, .int ((bpL V cq k i).2)), (10, .int (nI pn)), (11, .int (ptL V (uP V cq k pn) k 6)), (12, .int (nI 6))]) hx hb dL_isPlanned_172 hl (by decide) rfl (fun ls hl => ?_)
              refine lv_bipush (v := 100) hx hb dL_isPlanned_174 (by decide) ?_
              refine lv_iload hx hb dL_isPlanned_176 (lv_at hl 11 rfl) ?_
              refine lv_imul hx hb dL_isPlanned_178 ?_
              refine lv_aload hx hb dL_isPlanned_179 (lv_at hl 7 rfl) ?_
              refine lv_iload hx hb dL_isPlanned_181 (lv_at hl 6 rfl) ?_
              refine b_iald (v := (uP V cq k pn) k) hx hb hK hP 16 0 (k) rfl rfl rfl (by omega) rfl rfl dL_isPlanned_183 ?_
              refine lv_isub hx hb dL_isPlanned_184 ?_
              refine b_top (y := owP V cq k pn) rfl ?_
              refine lv_istore (lv' := [(12, .int (owP V cq k pn)), (9, .int 1), (0, .ref h), (1, .ref at_), (2, .ref aw), (3, .ref ar), (4, .ref an), (5, .int (nI k)), (6, .ref al_1), (7, .int ((bpL V cq k i).1)), (8, .int ((bpL V cq k i).2)), (10, .int (nI pn)), (11, .int (ptL V (uP V cq k pn) k 6))]) hx hb dL_isPlanned_185 hl (by decide) rfl (fun ls hl => ?_)
              refine lv_iload hx hb dL_isPlanned_187 (lv_at hl 9 rfl) ?_
              refine lv_if_lt (tgt := 199) hx hb dL_isPlanned_189 (by decide) (fun h_13 => ?_) (fun h_13 => ?_)
              · have hA := h_13
                refine lv_iload hx hb dL_isPlanned_199 (lv_at hl 11 rfl) ?_
                refine lv_goto (tgt := 206) hx hb dL_isPlanned_201 (by decide) ?_
                refine lv_istore (lv' := [(7, .int (nI pn)), (12, .int (owP V cq k pn)), (9, .int 1), (0, .ref h), (1, .ref at_), (2, .ref aw), (3, .ref ar), (4, .ref an), (5, .int (nI k)), (6, .ref al_1), (8, .int ((bpL V cq k i).2)), (10, .int (nI pn)), (11, .int (ptL V (uP V cq k pn) k 6))]) hx hb dL_isPlanned_206 hl (by decide) rfl (fun ls hl => ?_)
                refine lv_iload hx hb dL_isPlanned_208 (lv_at hl 0 rfl) ?_
                refine lv_iload hx hb dL_isPlanned_210 (lv_at hl 11 rfl) ?_
                refine b_ne (tgt := 220) (pn) (pn) hx hb rfl rfl (by omega) (by omega) dL_isPlanned_212 (by decide) (fun h_14 => ?_) (fun h_14 => ?_)
                · exact absurd rfl h_14
                · refine lv_iload hx hb dL_isPlanned_215 (lv_at hl 1 rfl) ?_
                  refine lv_goto (tgt := 222) hx hb dL_isPlanned_217 (by decide) ?_
                  refine lv_istore (lv' := [(8, .int (owP V cq k pn)), (7, .int (nI pn)), (12, .int (owP V cq k pn)), (9, .int 1), (0, .ref h), (1, .ref at_), (2, .ref aw), (3, .ref ar), (4, .ref an), (5, .int (nI k)), (6, .ref al_1), (10, .int (nI pn)), (11, .int (ptL V (uP V cq k pn) k 6))]) hx hb dL_isPlanned_222 hl (by decide) rfl (fun ls hl => ?_)
                  refine lv_iinc (v := nI pn + (-1)) (lv' := [(10, .int (nI pn + (-1))), (8, .int (owP V cq k pn)), (7, .int (nI pn)), (12, .int (owP V cq k pn)), (9, .int 1), (0, .ref h), (1, .ref at_), (2, .ref aw), (3, .ref ar), (4, .ref an), (5, .int (nI k)), (6, .ref al_1), (11, .int (ptL V (uP V cq k pn) k 6))]) hx hb dL_isPlanned_224 hl (k := 11) rfl rfl (by decide) rfl (fun ls hl => ?_)
                  refine lv_goto (tgt := 77) hx hb dL_isPlanned_227 (by decide) ?_
                  have e_15 : (bpL V cq k (i + 1)).1 = nI pn := by rw [bpL, ← hpn]; first | (rw [if_pos (Or.inl hA)]; done) | (rw [if_pos (Or.inr hB)]; done) | (rw [if_neg (fun q9 => q9.elim hD (fun z9 => z9 hC))]; done)
                  have e_16 : (bpL V cq k (i + 1)).2 = owP V cq k pn := by rw [bpL, ← hpn]; first | (rw [if_pos (Or.inl hA)]; done) | (rw [if_pos (Or.inr hB)]; done) | (rw [if_neg (fun q9 => q9.elim hD (fun z9 => z9 hC))]; done)
                  have e_17 : plI (2 ^ cq k) (i + 1) = nI pn + (-1) := by rw [hpn]; exact plI_s hil h32
                  exact ih_i (by omega) (Tu_11) (Nu_11) ((uP V cq k pn)) _ _ _ hW (by rw [e_15, e_16, e_17]; exact lv_sub hl [5, 6, 7, 8, 9, 10, 11, 2, 1, 4, 0] rfl) (fun j9 h9 h8 => if_neg h8)
              · have hD := h_13
                refine lv_iload hx hb dL_isPlanned_192 (lv_at hl 0 rfl) ?_
                refine lv_iload hx hb dL_isPlanned_194 (lv_at hl 10 rfl) ?_
                refine lv_icmp_lt (tgt := 204) hx hb dL_isPlanned_196 (by decide) (fun h_18 => ?_) (fun h_18 => ?_)
                · have hC := h_18
                  refine lv_iload hx hb dL_isPlanned_204 (lv_at hl 9 rfl) ?_
                  refine lv_istore (lv' := [(7, .int ((bpL V cq k i).1)), (12, .int (owP V cq k pn)), (9, .int 1), (0, .ref h), (1, .ref at_), (2, .ref aw), (3, .ref ar), (4, .ref an), (5, .int (nI k)), (6, .ref al_1), (8, .int ((bpL V cq k i).2)), (10, .int (nI pn)), (11, .int (ptL V (uP V cq k pn) k 6))]) hx hb dL_isPlanned_206 hl (by decide) rfl (fun ls hl => ?_)
                  refine lv_iload hx hb dL_isPlanned_208 (lv_at hl 0 rfl) ?_
                  refine lv_iload hx hb dL_isPlanned_210 (lv_at hl 11 rfl) ?_
                  refine lv_icmp_ne (tgt := 220) hx hb dL_isPlanned_212 (by decide) (fun h_19 => ?_) (fun h_19 => ?_)
                  · refine lv_iload hx hb dL_isPlanned_220 (lv_at hl 10 rfl) ?_
                    refine lv_istore (lv' := [(8, .int ((bpL V cq k i).2)), (7, .int ((bpL V cq k i).1)), (12, .int (owP V cq k pn)), (9, .int 1), (0, .ref h), (1, .ref at_), (2, .ref aw), (3, .ref ar), (4, .ref an), (5, .int (nI k)), (6, .ref al_1), (10, .int (nI pn)), (11, .int (ptL V (uP V cq k pn) k 6))]) hx hb dL_isPlanned_222 hl (by decide) rfl (fun ls hl => ?_)
                    refine lv_iinc (v := nI pn + (-1)) (lv' := [(10, .int (nI pn + (-1))), (8, .int ((bpL V cq k i).2)), (7, .int ((bpL V cq k i).1)), (12, .int (owP V cq k pn)), (9, .int 1), (0, .ref h), (1, .ref at_), (2, .ref aw), (3, .ref ar), (4, .ref an), (5, .int (nI k)), (6, .ref al_1), (11, .int (ptL V (uP V cq k pn) k 6))]) hx hb dL_isPlanned_224 hl (k := 11) rfl rfl (by decide) rfl (fun ls hl => ?_)
                    refine lv_goto (tgt := 77) hx hb dL_isPlanned_227 (by decide) ?_
                    have e_20 : (bpL V cq k (i + 1)).1 = (bpL V cq k i).1 := by rw [bpL, ← hpn]; first | (rw [if_pos (Or.inl hA)]; done) | (rw [if_pos (Or.inr hB)]; done) | (rw [if_neg (fun q9 => q9.elim hD (fun z9 => z9 hC))]; done)
                    have e_21 : (bpL V cq k (i + 1)).2 = (bpL V cq k i).2 := by rw [bpL, ← hpn]; first | (rw [if_pos (Or.inl hA)]; done) | (rw [if_pos (Or.inr hB)]; done) | (rw [if_neg (fun q9 => q9.elim hD (fun z9 => z9 hC))]; done)
                    have e_22 : plI (2 ^ cq k) (i + 1) = nI pn + (-1) := by rw [hpn]; exact plI_s hil h32
                    exact ih_i (by omega) (Tu_11) (Nu_11) ((uP V cq k pn)) _ _ _ hW (by rw [e_20, e_21, e_22]; exact lv_sub hl [5, 6, 7, 8, 9, 10, 11, 2, 1, 4, 0] rfl) (fun j9 h9 h8 => if_neg h8)
                  · exact absurd h_19 (by rw [hpn]; exact bpL_ne hil h32)
                · have hB := h_18
                  refine lv_iload hx hb dL_isPlanned_199 (lv_at hl 11 rfl) ?_
                  refine lv_goto (tgt := 206) hx hb dL_isPlanned_201 (by decide) ?_
                  refine lv_istore (lv' := [(7, .int (nI pn)), (12, .int (owP V cq k pn)), (9, .int 1), (0, .ref h), (1, .ref at_), (2, .ref aw), (3, .ref ar), (4, .ref an), (5, .int (nI k)), (6, .ref al_1), (8, .int ((bpL V cq k i).2)), (10, .int (nI pn)), (11, .int (ptL V (uP V cq k pn) k 6))]) hx hb dL_isPlanned_206 hl (by decide) rfl (fun ls hl => ?_)
                  refine lv_iload hx hb dL_isPlanned_208 (lv_at hl 0 rfl) ?_
                  refine lv_iload hx hb dL_isPlanned_210 (lv_at hl 11 rfl) ?_
                  refine b_ne (tgt := 220) (pn) (pn) hx hb rfl rfl (by omega) (by omega) dL_isPlanned_212 (by decide) (fun h_23 => ?_) (fun h_23 => ?_)
                  · exact absurd rfl h_23
                  · refine lv_iload hx hb dL_isPlanned_215 (lv_at hl 1 rfl) ?_
                    refine lv_goto (tgt := 222) hx hb dL_isPlanned_217 (by decide) ?_
                    refine lv_istore (lv' := [(8, .int (owP V cq k pn)), (7, .int (nI pn)), (12, .int (owP V cq k pn)), (9, .int 1), (0, .ref h), (1, .ref at_), (2, .ref aw), (3, .ref ar), (4, .ref an), (5, .int (nI k)), (6, .ref al_1), (10, .int (nI pn)), (11, .int (ptL V (uP V cq k pn) k 6))]) hx hb dL_isPlanned_222 hl (by decide) rfl (fun ls hl => ?_)
                    refine lv_iinc (v := nI pn + (-1)) (lv' := [(10, .int (nI pn + (-1))), (8, .int (owP V cq k pn)), (7, .int (nI pn)), (12, .int (owP V cq k pn)), (9, .int 1), (0, .ref h), (1, .ref at_), (2, .ref aw), (3, .ref ar), (4, .ref an), (5, .int (nI k)), (6, .ref al_1), (11, .int (ptL V (uP V cq k pn) k 6))]) hx hb dL_isPlanned_224 hl (k := 11) rfl rfl (by decide) rfl (fun ls hl => ?_)
                    refine lv_goto (tgt := 77) hx hb dL_isPlanned_227 (by decide) ?_
                    have e_24 : (bpL V cq k (i + 1)).1 = nI pn := by rw [bpL, ← hpn]; first | (rw [if_pos (Or.inl hA)]; done) | (rw [if_pos (Or.inr hB)]; done) | (rw [if_neg (fun q9 => q9.elim hD (fun z9 => z9 hC))]; done)
                    have e_25 : (bpL V cq k (i + 1)).2 = owP V cq k pn := by rw [bpL, ← hpn]; first | (rw [if_pos (Or.inl hA)]; done) | (rw [if_pos (Or.inr hB)]; done) | (rw [if_neg (fun q9 => q9.elim hD (fun z9 => z9 hC))]; done)
                    have e_26 : plI (2 ^ cq k) (i + 1) = nI pn + (-1) := by rw [hpn]; exact plI_s hil h32
                    exact ih_i (by omega) (Tu_11) (Nu_11) ((uP V cq k pn)) _ _ _ hW (by rw [e_24, e_25, e_26]; exact lv_sub hl [5, 6, 7, 8, 9, 10, 11, 2, 1, 4, 0] rfl) (fun j9 h9 h8 => if_neg h8)
        · refine lv_iload hx hb dL_isPlanned_118 (lv_at hl 11 rfl) ?_
          refine lv_aload_n hx hb dL_isPlanned_120 rfl (lv_at hl 1 rfl) ?_
          refine lv_aload hx hb dL_isPlanned_121 (lv_at hl 4 rfl) ?_
          refine lv_aload hx hb dL_isPlanned_123 (lv_at hl 6 rfl) ?_
          refine lv_iload hx hb dL_isPlanned_125 (lv_at hl 12 rfl) ?_
          refine call_SR (As := [.ref at_, .ref an, .ref al_1, .int (nI e0)]) (rest := [.int (ptL V (uP V cq k pn) k e0)]) E rfl hK hP (c_L_wins l g at_ an al_1 V (uP V cq k pn) e0 (by omega)) ok_L_wins rfl q2_61 [12, 15, 16] rfl ⟨⟨rfl, rfl⟩, Nat.le_of_ble_eq_true rfl, Nat.le_of_ble_eq_true rfl⟩ hl.1 (Nat.le_of_ble_eq_true rfl) ⟨Nat.le_of_ble_eq_true rfl, Nat.le_of_ble_eq_true rfl⟩ rfl dL_isPlanned_127 ?_
          refine lv_iload hx hb dL_isPlanned_130 (lv_at hl 5 rfl) ?_
          refine lv_icmp_ne (tgt := 139) hx hb dL_isPlanned_132 (by decide) (fun h_27 => ?_) (fun h_27 => ?_)
          · refine lv_iconst (v := 0) hx hb dL_isPlanned_139 (by decide) ?_
            refine lv_iadd hx hb dL_isPlanned_140 ?_
            refine lv_istore (lv' := [(11, .int ((ptL V (uP V cq k pn) k e0) + 0)), (0, .ref h), (1, .ref at_), (2, .ref aw), (3, .ref ar), (4, .ref an), (5, .int (nI k)), (6, .ref al_1), (7, .int ((bpL V cq k i).1)), (8, .int ((bpL V cq k i).2)), (9, .int 1), (10, .int (nI pn)), (12, .int (nI e0))]) hx hb dL_isPlanned_141 hl (by decide) rfl (fun ls hl => ?_)
            refine lv_iinc (v := nI (e0 + 1)) (lv' := [(12, .int (nI (e0 + 1))), (11, .int ((ptL V (uP V cq k pn) k e0) + 0)), (0, .ref h), (1, .ref at_), (2, .ref aw), (3, .ref ar), (4, .ref an), (5, .int (nI k)), (6, .ref al_1), (7, .int ((bpL V cq k i).1)), (8, .int ((bpL V cq k i).2)), (9, .int 1), (10, .int (nI pn))]) hx hb dL_isPlanned_143 hl (k := 12) rfl (nI_add e0 1) (by decide) rfl (fun ls hl => ?_)
            refine lv_goto (tgt := 111) hx hb dL_isPlanned_146 (by decide) ?_
            have e_28 : ptL V (uP V cq k pn) k (e0 + 1) = (ptL V (uP V cq k pn) k e0) + 0 := by rw [ptL]; first | (rw [if_pos h_27]; done) | (rw [if_neg h_27]; done)
            exact ih_e0 (by omega)  _ _ _ hW (by rw [e_28]; exact lv_sub hl [2, 3, 4, 5, 6, 7, 8, 9, 10, 11, 12, 1, 0] rfl) 
          · refine lv_iconst (v := 1) hx hb dL_isPlanned_135 (by decide) ?_
            refine lv_goto (tgt := 140) hx hb dL_isPlanned_136 (by decide) ?_
            refine lv_iadd hx hb dL_isPlanned_140 ?_
            refine lv_istore (lv' := [(11, .int ((ptL V (uP V cq k pn) k e0) + 1)), (0, .ref h), (1, .ref at_), (2, .ref aw), (3, .ref ar), (4, .ref an), (5, .int (nI k)), (6, .ref al_1), (7, .int ((bpL V cq k i).1)), (8, .int ((bpL V cq k i).2)), (9, .int 1), (10, .int (nI pn)), (12, .int (nI e0))]) hx hb dL_isPlanned_141 hl (by decide) rfl (fun ls hl => ?_)
            refine lv_iinc (v := nI (e0 + 1)) (lv' := [(12, .int (nI (e0 + 1))), (11, .int ((ptL V (uP V cq k pn) k e0) + 1)), (0, .ref h), (1, .ref at_), (2, .ref aw), (3, .ref ar), (4, .ref an), (5, .int (nI k)), (6, .ref al_1), (7, .int ((bpL V cq k i).1)), (8, .int ((bpL V cq k i).2)), (9, .int 1), (10, .int (nI pn))]) hx hb dL_isPlanned_143 hl (k := 12) rfl (nI_add e0 1) (by decide) rfl (fun ls hl => ?_)
            refine lv_goto (tgt := 111) hx hb dL_isPlanned_146 (by decide) ?_
            have e_29 : ptL V (uP V cq k pn) k (e0 + 1) = (ptL V (uP V cq k pn) k e0) + 1 := by rw [ptL]; first | (rw [if_pos h_27]; done) | (rw [if_neg h_27]; done)
            exact ih_e0 (by omega)  _ _ _ hW (by rw [e_29]; exact lv_sub hl [2, 3, 4, 5, 6, 7, 8, 9, 10, 11, 12, 1, 0] rfl) 
