set_option maxHeartbeats 4000000 in
set_option maxRecDepth 100000 in
theorem c_X4_run (l : Launch) (g : gx) (h : Nat) (q : Nat → Nat) (z : Int32) (na : Nat → Nat) (V : sV) (ta : Nat → Nat) (TV : sV) (pa : Nat → Nat) (SV : sV) (hq : Nat) (hh : Nat → Nat) (o n : Nat) (aa : Nat → Nat → Nat) (HV : Nat → sV) (ra : Nat → Nat) (NN : sV) (sa : Nat) (T : Nat → Nat) (k : Nat) (ho : o < 5) (hn : n ≤ 5) (hk : k ≤ 60) (hT : ∀ i, T i < 127) (hokA : ffN T k k 0 0 = -5 → ∀ i, okAt T k i) : cU (S := Bool × sV) l g yX4_run cX4_run 4 (some .int) ({ frames := 6, cells := 0, slots := 0, locals := 144 } : Room) [.ref h] [bB h q z, vB g (q 0) na V, vB g (q 1) ta TV, vB g (q 2) pa SV, hB g (q 3) hq hh o n, vB g (hh 0) (aa 0) (HV 0), vB g (hh 1) (aa 1) (HV 1), vB g (hh 2) (aa 2) (HV 2), vB g (hh 3) (aa 3) (HV 3), vB g (hh 4) (aa 4) (HV 4), rB g (q 4) ra NN, tB g (q 5) sa T k] (fun u => some (.int (bif u.1 then (runC T k k 0 0 V NN).1 else -100 - ffN T k k 0 0))) (fun u => bif u.1 then ffN T k k 0 0 = -5 else ¬ ffN T k k 0 0 = -5) (fun u => [bB h q z, vB g (q 0) na (bif u.1 then (runC T k k 0 0 V NN).2.1 else V), vB g (q 1) ta TV, vB g (q 2) pa SV, hB g (q 3) hq hh (bif u.1 then recO o n else o) (bif u.1 then recS n else n), vB g (hh 0) (aa 0) ((bif u.1 then recH o n HV V else HV) 0), vB g (hh 1) (aa 1) ((bif u.1 then recH o n HV V else HV) 1), vB g (hh 2) (aa 2) ((bif u.1 then recH o n HV V else HV) 2), vB g (hh 3) (aa 3) ((bif u.1 then recH o n HV V else HV) 3), vB g (hh 4) (aa 4) ((bif u.1 then recH o n HV V else HV) 4), rB g (q 4) ra u.2, tB g (q 5) sa T k]) := by
  refine cU.mk (by decide +kernel) (Nat.le_of_ble_eq_true rfl) ?_
  intro p e s m below meth c ls E hK hW hl
  obtain ⟨hx, hb, hr, hml, hts, hown, hlocks, hin⟩ := id E
  have hown : s.vm.findClass RX4 = some m.cls := hown
  have hP := hW.1
  have hl : lv_has ls 4 [(0, .ref h)] := hl
  refine lv_aload_n hx hb dX4_run_0 rfl (lv_at hl 0 rfl) ?_
  refine b_get (v := .ref (q 5)) hx hb hts inX4 hown hK hP 0 0 6 rfl rfl rfl (by decide) q1_168 rfl rfl dX4_run_1 ?_
  refine call_VR (As := []) (rest := []) E rfl hK hP (c_X2_firstFault l g (q 5) sa T k (by omega) hT) ok_X2_firstFault rfl q2_130 [11] rfl (b_recv hK hP 11 0 rfl rfl rfl rfl) ⟨⟨rfl, rfl⟩, Nat.le_of_ble_eq_true rfl, Nat.le_of_ble_eq_true rfl⟩ hl.1 (Nat.le_of_ble_eq_true rfl) ⟨Nat.le_of_ble_eq_true rfl, Nat.le_of_ble_eq_true rfl⟩ rfl dX4_run_4 ?_
  refine lv_istore_n (lv' := [(1, .int (ffN T k k 0 0)), (0, .ref h)]) hx hb dX4_run_7 rfl hl (by decide) rfl (fun ls hl => ?_)
  refine lv_iload_n hx hb dX4_run_8 rfl (lv_at hl 0 rfl) ?_
  refine lv_bipush (v := -5) hx hb dX4_run_9 (by decide) ?_
  refine lv_icmp_eq (tgt := 19) hx hb dX4_run_11 (by decide) (fun h_1 => ?_) (fun h_1 => ?_)
  · have hF := h_1
    have hok := hokA hF
    refine lv_aload_n hx hb dX4_run_19 rfl (lv_at hl 1 rfl) ?_
    refine b_get (v := .ref (q 3)) hx hb hts inX4 hown hK hP 0 0 4 rfl rfl rfl (by decide) q1_166 rfl rfl dX4_run_20 ?_
    refine lv_aload_n hx hb dX4_run_23 rfl (lv_at hl 1 rfl) ?_
    refine b_get (v := .ref (q 0)) hx hb hts inX4 hown hK hP 0 0 0 rfl rfl rfl (by decide) q1_162 rfl rfl dX4_run_24 ?_
    refine call_VU (As := [.ref (q 0)]) (rest := []) E rfl hK hW (c_X0_record l g (q 3) hq hh o n (by omega) (by omega) aa HV (q 0) na V) ok_X0_record rfl q1_191 [4, 1, 5, 6, 7, 8, 9] rfl (by decide) (b_recv hK hP 4 0 rfl rfl rfl rfl) ⟨⟨rfl, rfl⟩, Nat.le_of_ble_eq_true rfl, Nat.le_of_ble_eq_true rfl⟩ hl.1 (Nat.le_of_ble_eq_true rfl) ⟨Nat.le_of_ble_eq_true rfl, Nat.le_of_ble_eq_true rfl⟩ rfl dX4_run_27 (fun _u H locs _ hW => ?_)
    have hW : wd g _ s.heap [bB h q z, vB g (q 0) na V, vB g (q 1) ta TV, vB g (q 2) pa SV, hB g (q 3) hq hh (recO o n) (recS n), vB g (hh 0) (aa 0) (recH o n HV V 0), vB g (hh 1) (aa 1) (recH o n HV V 1), vB g (hh 2) (aa 2) (recH o n HV V 2), vB g (hh 3) (aa 3) (recH o n HV V 3), vB g (hh 4) (aa 4) (recH o n HV V 4), rB g (q 4) ra NN, tB g (q 5) sa T k] H locs := hW
    have hP := hW.1
    refine lv_iconst (v := 0) hx hb dX4_run_30 (by decide) ?_
    refine lv_istore_n (lv' := [(2, .int 0), (1, .int (ffN T k k 0 0)), (0, .ref h)]) hx hb dX4_run_31 rfl hl (by decide) rfl (fun ls hl => ?_)
    refine lv_iconst (v := 0) hx hb dX4_run_32 (by decide) ?_
    refine lv_istore_n (lv' := [(3, .int 0), (2, .int 0), (1, .int (ffN T k k 0 0)), (0, .ref h)]) hx hb dX4_run_33 rfl hl (by decide) rfl (fun ls hl => ?_)
    refine loopN (fun i : Nat => ∀ dn : Int32, ∀ VV : sV, ∀ NW : sV, ∀ (H : Heap) (locs : List Loc) (ls : Array Slot), wd g (fun z9 => z9 ∈ adr [bB h q z, vB g (q 0) na V, vB g (q 1) ta TV, vB g (q 2) pa SV, hB g (q 3) hq hh o n, vB g (hh 0) (aa 0) (HV 0), vB g (hh 1) (aa 1) (HV 1), vB g (hh 2) (aa 2) (HV 2), vB g (hh 3) (aa 3) (HV 3), vB g (hh 4) (aa 4) (HV 4), rB g (q 4) ra NN, tB g (q 5) sa T k]) s.heap [bB h q z, vB g (q 0) na VV, vB g (q 1) ta TV, vB g (q 2) pa SV, hB g (q 3) hq hh (recO o n) (recS n), vB g (hh 0) (aa 0) (recH o n HV V 0), vB g (hh 1) (aa 1) (recH o n HV V 1), vB g (hh 2) (aa 2) (recH o n HV V 2), vB g (hh 3) (aa 3) (recH o n HV V 3), vB g (hh 4) (aa 4) (recH o n HV V 4), rB g (q 4) ra NW, tB g (q 5) sa T k] H locs → lv_has ls 4 [(0, .ref h), (2, .int dn), (3, .int (nI i))] → (runC T k (k - i) i dn VV NW = (runC T k k 0 0 V NN)) → W p l e _ s m _ below meth c H locs 0 0 _ (F0 m 34 ls [])) (k) (fun i hi ih_i => ?_) (0) (by omega) (0) (V) (NN) H locs ls hW (lv_sub hl [3, 1, 0] rfl) (rfl)
    intro dn VV NW H locs ls hW hl hinv
    have hP := hW.1
    refine lv_iload_n hx hb dX4_run_34 rfl (lv_at hl 2 rfl) ?_
    refine lv_aload_n hx hb dX4_run_35 rfl (lv_at hl 0 rfl) ?_
    refine b_get (v := .ref (q 5)) hx hb hts inX4 hown hK hP 0 0 6 rfl rfl rfl (by decide) q1_168 rfl rfl dX4_run_36 ?_
    refine b_get (v := .int (nI k)) hx hb hts inX2 hown hK hP 11 0 1 rfl rfl rfl (by decide) q1_155 rfl rfl dX4_run_39 ?_
    refine b_ge (tgt := 75) (i) (k) hx hb rfl rfl (by omega) (by omega) dX4_run_42 (by decide) (fun h_2 => ?_) (fun h_2 => ?_)
    · refine lv_iload_n hx hb dX4_run_75 rfl (lv_at hl 1 rfl) ?_
      exact uI_ret (true, NW) hW hx hb hr hlocks dX4_run_76 (by simp only [cond_true]; rw [← hinv]; first | (rw [show k - i = 0 by omega, runC]; done) | (rw [show k - i = (k - (i + 1)) + 1 by omega, runC, if_neg hL, if_neg h_2]; done)) hF (by simp only [cond_true, cond_false]; rw [← hinv]; first | (rw [show k - i = 0 by omega, runC]; done) | (rw [show k - i = (k - (i + 1)) + 1 by omega, runC, if_neg hL, if_neg h_2, ]; done)) (adr2 (L := [[h], [q 0, na 0, na 1, na 2, na 3, na 4, na 5, na 6, na 7, na 8, na 9, na 10, na 11], [q 1, ta 0, ta 1, ta 2, ta 3, ta 4, ta 5, ta 6, ta 7, ta 8, ta 9, ta 10, ta 11], [q 2, pa 0, pa 1, pa 2, pa 3, pa 4, pa 5, pa 6, pa 7, pa 8, pa 9, pa 10, pa 11], [q 3, hq], [hh 0, (aa 0) 0, (aa 0) 1, (aa 0) 2, (aa 0) 3, (aa 0) 4, (aa 0) 5, (aa 0) 6, (aa 0) 7, (aa 0) 8, (aa 0) 9, (aa 0) 10, (aa 0) 11], [hh 1, (aa 1) 0, (aa 1) 1, (aa 1) 2, (aa 1) 3, (aa 1) 4, (aa 1) 5, (aa 1) 6, (aa 1) 7, (aa 1) 8, (aa 1) 9, (aa 1) 10, (aa 1) 11], [hh 2, (aa 2) 0, (aa 2) 1, (aa 2) 2, (aa 2) 3, (aa 2) 4, (aa 2) 5, (aa 2) 6, (aa 2) 7, (aa 2) 8, (aa 2) 9, (aa 2) 10, (aa 2) 11], [hh 3, (aa 3) 0, (aa 3) 1, (aa 3) 2, (aa 3) 3, (aa 3) 4, (aa 3) 5, (aa 3) 6, (aa 3) 7, (aa 3) 8, (aa 3) 9, (aa 3) 10, (aa 3) 11], [hh 4, (aa 4) 0, (aa 4) 1, (aa 4) 2, (aa 4) 3, (aa 4) 4, (aa 4) 5, (aa 4) 6, (aa 4) 7, (aa 4) 8, (aa 4) 9, (aa 4) 10, (aa 4) 11], [q 4, ra 0, ra 1, ra 2, ra 3], [q 5, sa]]) rfl rfl)
    · refine lv_aload_n hx hb dX4_run_45 rfl (lv_at hl 0 rfl) ?_
      refine b_get (v := .ref (q 5)) hx hb hts inX4 hown hK hP 0 0 6 rfl rfl rfl (by decide) q1_168 rfl rfl dX4_run_46 ?_
      refine lv_iload_n hx hb dX4_run_49 rfl (lv_at hl 2 rfl) ?_
      refine call_VR (As := [.int (nI i)]) (rest := []) E rfl hK hP (c_X2_beginsOrder l g (q 5) sa T k (by omega) hT i (by omega)) ok_X2_beginsOrder rfl q2_154 [11] rfl (b_recv hK hP 11 0 rfl rfl rfl rfl) ⟨⟨rfl, rfl⟩, Nat.le_of_ble_eq_true rfl, Nat.le_of_ble_eq_true rfl⟩ hl.1 (Nat.le_of_ble_eq_true rfl) ⟨Nat.le_of_ble_eq_true rfl, Nat.le_of_ble_eq_true rfl⟩ rfl dX4_run_50 ?_
      refine b_eq0 (tgt := 69) hx hb dX4_run_53 (by decide) (fun h_3 => ?_) (fun h_3 => ?_)
      · refine lv_iinc (v := nI (i + 1)) (lv' := [(3, .int (nI (i + 1))), (0, .ref h), (2, .int dn)]) hx hb dX4_run_69 hl (k := 2) rfl (nI_add i 1) (by decide) rfl (fun ls hl => ?_)
        refine lv_goto (tgt := 34) hx hb dX4_run_72 (by decide) ?_
        exact ih_i (by omega) (dn) (VV) (NW) _ _ _ hW (lv_sub hl [1, 2, 0] rfl) (by rw [← hinv, show k - i = (k - (i + 1)) + 1 by omega, runC]; first | (rw [if_pos (Decidable.not_not.mp h_3)]; done) | (rw [if_neg hL, if_pos h_3, ]; done))
      · have hL := h_3
        refine lv_aload_n hx hb dX4_run_56 rfl (lv_at hl 0 rfl) ?_
        refine lv_iload_n hx hb dX4_run_57 rfl (lv_at hl 2 rfl) ?_
        refine call_VU (As := [.int (nI i)]) (rest := []) E rfl hK hW (c_X4_carryOut l g h q z na VV ra NW sa T k (by omega) hT i (by omega) hL (hok _)) ok_X4_carryOut rfl q2_158 [0, 1, 10, 11] rfl (by decide) (b_recv hK hP 0 0 rfl rfl rfl rfl) ⟨⟨rfl, rfl⟩, Nat.le_of_ble_eq_true rfl, Nat.le_of_ble_eq_true rfl⟩ hl.1 (Nat.le_of_ble_eq_true rfl) ⟨Nat.le_of_ble_eq_true rfl, Nat.le_of_ble_eq_true rfl⟩ rfl dX4_run_58 (fun _u H locs _ hW => ?_)
        have hW : wd g _ s.heap [bB h q z, vB g (q 0) na ((ordC T k i VV NW).2.1), vB g (q 1) ta TV, vB g (q 2) pa SV, hB g (q 3) hq hh (recO o n) (recS n), vB g (hh 0) (aa 0) (recH o n HV V 0), vB g (hh 1) (aa 1) (recH o n HV V 1), vB g (hh 2) (aa 2) (recH o n HV V 2), vB g (hh 3) (aa 3) (recH o n HV V 3), vB g (hh 4) (aa 4) (recH o n HV V 4), rB g (q 4) ra ((ordC T k i VV NW).2.2), tB g (q 5) sa T k] H locs := hW
        have hP := hW.1
        obtain ⟨U_4, hU_4⟩ : ∃ z, z = (ordC T k i VV NW).2.1 := ⟨_, rfl⟩
        rw [← hU_4] at hW
        obtain ⟨U_5, hU_5⟩ : ∃ z, z = (ordC T k i VV NW).2.2 := ⟨_, rfl⟩
        rw [← hU_5] at hW
        have hP := hW.1
        refine b_ne0 (tgt := 66) hx hb dX4_run_61 (by decide) (fun h_6 => ?_) (fun h_6 => ?_)
        · refine lv_iinc (v := dn + 1) (lv' := [(2, .int (dn + 1)), (0, .ref h), (3, .int (nI i))]) hx hb dX4_run_66 hl (k := 1) rfl rfl (by decide) rfl (fun ls hl => ?_)
          refine lv_iinc (v := nI (i + 1)) (lv' := [(3, .int (nI (i + 1))), (2, .int (dn + 1)), (0, .ref h)]) hx hb dX4_run_69 hl (k := 2) rfl (nI_add i 1) (by decide) rfl (fun ls hl => ?_)
          refine lv_goto (tgt := 34) hx hb dX4_run_72 (by decide) ?_
          exact ih_i (by omega) (dn + 1) (U_4) (U_5) _ _ _ hW (lv_sub hl [2, 1, 0] rfl) (by rw [← hinv, show k - i = (k - (i + 1)) + 1 by omega, runC]; first | (rw [if_pos (Decidable.not_not.mp h_6)]; done) | (rw [if_neg hL, if_pos h_6, hU_5, hU_4]; done))
        · refine lv_iload_n hx hb dX4_run_64 rfl (lv_at hl 1 rfl) ?_
          exact uI_ret (true, U_5) hW hx hb hr hlocks dX4_run_65 (by simp only [cond_true]; rw [← hinv]; first | (rw [show k - i = 0 by omega, runC]; done) | (rw [show k - i = (k - (i + 1)) + 1 by omega, runC, if_neg hL, if_neg h_6]; done)) hF (by simp only [cond_true, cond_false]; rw [← hinv]; first | (rw [show k - i = 0 by omega, runC]; done) | (rw [show k - i = (k - (i + 1)) + 1 by omega, runC, if_neg hL, if_neg h_6, hU_5, hU_4]; done)) (adr2 (L := [[h], [q 0, na 0, na 1, na 2, na 3, na 4, na 5, na 6, na 7, na 8, na 9, na 10, na 11], [q 1, ta 0, ta 1, ta 2, ta 3, ta 4, ta 5, ta 6, ta 7, ta 8, ta 9, ta 10, ta 11], [q 2, pa 0, pa 1, pa 2, pa 3, pa 4, pa 5, pa 6, pa 7, pa 8, pa 9, pa 10, pa 11], [q 3, hq], [hh 0, (aa 0) 0, (aa 0) 1, (aa 0) 2, (aa 0) 3, (aa 0) 4, (aa 0) 5, (aa 0) 6, (aa 0) 7, (aa 0) 8, (aa 0) 9, (aa 0) 10, (aa 0) 11], [hh 1, (aa 1) 0, (aa 1) 1, (aa 1) 2, (aa 1) 3, (aa 1) 4, (aa 1) 5, (aa 1) 6, (aa 1) 7, (aa 1) 8, (aa 1) 9, (aa 1) 10, (aa 1) 11], [hh 2, (aa 2) 0, (aa 2) 1, (aa 2) 2, (aa 2) 3, (aa 2) 4, (aa 2) 5, (aa 2) 6, (aa 2) 7, (aa 2) 8, (aa 2) 9, (aa 2) 10, (aa 2) 11], [hh 3, (aa 3) 0, (aa 3) 1, (aa 3) 2, (aa 3) 3, (aa 3) 4, (aa 3) 5, (aa 3) 6, (aa 3) 7, (aa 3) 8, (aa 3) 9, (aa 3) 10, (aa 3) 11], [hh 4, (aa 4) 0, (aa 4) 1, (aa 4) 2, (aa 4) 3, (aa 4) 4, (aa 4) 5, (aa 4) 6, (aa 4) 7, (aa 4) 8, (aa 4) 9, (aa 4) 10, (aa 4) 11], [q 4, ra 0, ra 1, ra 2, ra 3], [q 5, sa]]) rfl rfl)
  · refine lv_bipush (v := -100) hx hb dX4_run_14 (by decide) ?_
    refine lv_iload_n hx hb dX4_run_16 rfl (lv_at hl 0 rfl) ?_
    refine lv_isub hx hb dX4_run_17 ?_
    exact uI_ret (false, NN) hW hx hb hr hlocks dX4_run_18 (rfl) h_1 (by simp only [cond_false]) (adr2 (L := [[h], [q 0, na 0, na 1, na 2, na 3, na 4, na 5, na 6, na 7, na 8, na 9, na 10, na 11], [q 1, ta 0, ta 1, ta 2, ta 3, ta 4, ta 5, ta 6, ta 7, ta 8, ta 9, ta 10, ta 11], [q 2, pa 0, pa 1, pa 2, pa 3, pa 4, pa 5, pa 6, pa 7, pa 8, pa 9, pa 10, pa 11], [q 3, hq], [hh 0, (aa 0) 0, (aa 0) 1, (aa 0) 2, (aa 0) 3, (aa 0) 4, (aa 0) 5, (aa 0) 6, (aa 0) 7, (aa 0) 8, (aa 0) 9, (aa 0) 10, (aa 0) 11], [hh 1, (aa 1) 0, (aa 1) 1, (aa 1) 2, (aa 1) 3, (aa 1) 4, (aa 1) 5, (aa 1) 6, (aa 1) 7, (aa 1) 8, (aa 1) 9, (aa 1) 10, (aa 1) 11], [hh 2, (aa 2) 0, (aa 2) 1, (aa 2) 2, (aa 2) 3, (aa 2) 4, (aa 2) 5, (aa 2) 6, (aa 2) 7, (aa 2) 8, (aa 2) 9, (aa 2) 10, (aa 2) 11], [hh 3, (aa 3) 0, (aa 3) 1, (aa 3) 2, (aa 3) 3, (aa 3) 4, (aa 3) 5, (aa 3) 6, (aa 3) 7, (aa 3) 8, (aa 3) 9, (aa 3) 10, (aa 3) 11], [hh 4, (aa 4) 0, (aa 4) 1, (aa 4) 2, (aa 4) 3, (aa 4) 4, (aa 4) 5, (aa 4) 6, (aa 4) 7, (aa 4) 8, (aa 4) 9, (aa 4) 10, (aa 4) 11], [q 4, ra 0, ra 1, ra 2, ra 3], [q 5, sa]]) rfl rfl)
