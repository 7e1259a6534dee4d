set_option maxHeartbeats 4000000 in
set_option maxRecDepth 100000 in
theorem c_X4_save (l : Launch) (g : gx) (h : Nat) (q : Nat → Nat) (z : Int32) (na : Nat → Nat) (V : sV) (ta : Nat → Nat) (TV : sV) (pa : Nat → Nat) (SV : sV) (hq : Nat) (hh : Nat → Nat) (o n : Nat) (aa : Nat → Nat → Nat) (HV : Nat → sV) (ra : Nat → Nat) (NN : sV) (sa : Nat) (T : Nat → Nat) (k : Nat) (ho : o < 5) (hn : n ≤ 5) (hk : k ≤ 60) : cU (S := Unit) l g yX4_save cX4_save 1 (some .int) ({ frames := 3, cells := 0, slots := 0, locals := 102 } : Room) [.ref h] [bB h q z, vB g (q 0) na V, vB g (q 1) ta TV, vB g (q 2) pa SV, hB g (q 3) hq hh o n, vB g (hh 0) (aa 0) (HV 0), vB g (hh 1) (aa 1) (HV 1), vB g (hh 2) (aa 2) (HV 2), vB g (hh 3) (aa 3) (HV 3), vB g (hh 4) (aa 4) (HV 4), rB g (q 4) ra NN, tB g (q 5) sa T k] (fun _ => some (.int (V 12 2))) (fun _ => True) (fun _ => [bB h q 1, vB g (q 0) na V, vB g (q 1) ta TV, vB g (q 2) pa V, hB g (q 3) hq hh o n, vB g (hh 0) (aa 0) (HV 0), vB g (hh 1) (aa 1) (HV 1), vB g (hh 2) (aa 2) (HV 2), vB g (hh 3) (aa 3) (HV 3), vB g (hh 4) (aa 4) (HV 4), rB g (q 4) ra NN, tB g (q 5) sa T k]) := by
  refine cU.mk (by decide +kernel) (Nat.le_of_ble_eq_true rfl) ?_
  intro p e s m below meth c ls E hK hW hl
  obtain ⟨hx, hb, hr, hml, hts, hown, hlocks, hin⟩ := id E
  have hown : s.vm.findClass RX4 = some m.cls := hown
  have hP := hW.1
  have hl : lv_has ls 1 [(0, .ref h)] := hl
  refine lv_aload_n hx hb dX4_save_0 rfl (lv_at hl 0 rfl) ?_
  refine b_get (v := .ref (q 2)) hx hb hts inX4 hown hK hP 0 0 2 rfl rfl rfl (by decide) q1_164 rfl rfl dX4_save_1 ?_
  refine lv_aload_n hx hb dX4_save_4 rfl (lv_at hl 0 rfl) ?_
  refine b_get (v := .ref (q 0)) hx hb hts inX4 hown hK hP 0 0 0 rfl rfl rfl (by decide) q1_162 rfl rfl dX4_save_5 ?_
  refine call_VU (As := [.ref (q 0)]) (rest := []) E rfl hK hW (c_X3_copyFrom l g (q 2) pa SV (q 0) na V) ok_X3_copyFrom rfl q2_184 [3, 1] rfl (by decide) (b_recv hK hP 3 0 rfl rfl rfl rfl) ⟨⟨rfl, rfl⟩, Nat.le_of_ble_eq_true rfl, Nat.le_of_ble_eq_true rfl⟩ hl.1 (Nat.le_of_ble_eq_true rfl) ⟨Nat.le_of_ble_eq_true rfl, Nat.le_of_ble_eq_true rfl⟩ rfl dX4_save_8 (fun _u H locs _ hW => ?_)
  have hW : wd g _ s.heap [bB h q z, vB g (q 0) na V, vB g (q 1) ta TV, vB g (q 2) pa V, hB g (q 3) hq hh o n, vB g (hh 0) (aa 0) (HV 0), vB g (hh 1) (aa 1) (HV 1), vB g (hh 2) (aa 2) (HV 2), vB g (hh 3) (aa 3) (HV 3), vB g (hh 4) (aa 4) (HV 4), rB g (q 4) ra NN, tB g (q 5) sa T k] H locs := hW
  have hP := hW.1
  refine lv_aload_n hx hb dX4_save_11 rfl (lv_at hl 0 rfl) ?_
  refine lv_iconst (v := 1) hx hb dX4_save_12 (by decide) ?_
  refine b_put (B' := [bB h q 1, vB g (q 0) na V, vB g (q 1) ta TV, vB g (q 2) pa V, hB g (q 3) hq hh o n, vB g (hh 0) (aa 0) (HV 0), vB g (hh 1) (aa 1) (HV 1), vB g (hh 2) (aa 2) (HV 2), vB g (hh 3) (aa 3) (HV 3), vB g (hh 4) (aa 4) (HV 4), rB g (q 4) ra NN, tB g (q 5) sa T k]) (v := .int 1) hx hb hts inX4 tyX4_ok nmX4 hown hK hW 0 0 3 rfl rfl rfl (by decide) q1_165 rfl rfl rfl rfl (Nat.le_of_ble_eq_true rfl) rfl dX4_save_13 (fun H locs hW => ?_)
  have hP := hW.1
  refine lv_aload_n hx hb dX4_save_16 rfl (lv_at hl 0 rfl) ?_
  refine b_get (v := .ref (q 0)) hx hb hts inX4 hown hK hP 0 0 0 rfl rfl rfl (by decide) q1_162 rfl rfl dX4_save_17 ?_
  refine b_get (v := .int (V 12 2)) hx hb hts inX3 hown hK hP 1 0 14 rfl rfl rfl (by decide) q1_57 rfl rfl dX4_save_20 ?_
  exact uI_ret () hW hx hb hr hlocks dX4_save_23 (rfl) trivial (rfl) (adr2 (L := [[h], [q 0, na 0, na 1, na 2, na 3, na 4, na 5, na 6, na 7, na 8, na 9, na 10, na 11], [q 1, ta 0, ta 1, ta 2, ta 3, ta 4, ta 5, ta 6, ta 7, ta 8, ta 9, ta 10, ta 11], [q 2, pa 0, pa 1, pa 2, pa 3, pa 4, pa 5, pa 6, pa 7, pa 8, pa 9, pa 10, pa 11], [q 3, hq], [hh 0, (aa 0) 0, (aa 0) 1, (aa 0) 2, (aa 0) 3, (aa 0) 4, (aa 0) 5, (aa 0) 6, (aa 0) 7, (aa 0) 8, (aa 0) 9, (aa 0) 10, (aa 0) 11], [hh 1, (aa 1) 0, (aa 1) 1, (aa 1) 2, (aa 1) 3, (aa 1) 4, (aa 1) 5, (aa 1) 6, (aa 1) 7, (aa 1) 8, (aa 1) 9, (aa 1) 10, (aa 1) 11], [hh 2, (aa 2) 0, (aa 2) 1, (aa 2) 2, (aa 2) 3, (aa 2) 4, (aa 2) 5, (aa 2) 6, (aa 2) 7, (aa 2) 8, (aa 2) 9, (aa 2) 10, (aa 2) 11], [hh 3, (aa 3) 0, (aa 3) 1, (aa 3) 2, (aa 3) 3, (aa 3) 4, (aa 3) 5, (aa 3) 6, (aa 3) 7, (aa 3) 8, (aa 3) 9, (aa 3) 10, (aa 3) 11], [hh 4, (aa 4) 0, (aa 4) 1, (aa 4) 2, (aa 4) 3, (aa 4) 4, (aa 4) 5, (aa 4) 6, (aa 4) 7, (aa 4) 8, (aa 4) 9, (aa 4) 10, (aa 4) 11], [q 4, ra 0, ra 1, ra 2, ra 3], [q 5, sa]]) rfl rfl)

set_option maxHeartbeats 4000000 in
set_option maxRecDepth 100000 in
theorem c_X4_restore (l : Launch) (g : gx) (h : Nat) (q : Nat → Nat) (z : Int32) (na : Nat → Nat) (V : sV) (ta : Nat → Nat) (TV : sV) (pa : Nat → Nat) (SV : sV) (hq : Nat) (hh : Nat → Nat) (o n : Nat) (aa : Nat → Nat → Nat) (HV : Nat → sV) (ra : Nat → Nat) (NN : sV) (sa : Nat) (T : Nat → Nat) (k : Nat)  (ho : o < 5) (hn : n ≤ 5) (hk : k ≤ 60)  : cU (S := Bool) l g yX4_restore cX4_restore 1 (some .int) ({ frames := 4, cells := 0, slots := 0, locals := 124 } : Room) [.ref h] [bB h q z, vB g (q 0) na V, vB g (q 1) ta TV, vB g (q 2) pa SV, hB g (q 3) hq hh o n, vB g (hh 0) (aa 0) (HV 0), vB g (hh 1) (aa 1) (HV 1), vB g (hh 2) (aa 2) (HV 2), vB g (hh 3) (aa 3) (HV 3), vB g (hh 4) (aa 4) (HV 4), rB g (q 4) ra NN, tB g (q 5) sa T k] (fun u => some (.int (bif u then (SV 12 2) else (reE z)))) (fun u => bif u then reE z = 0 else ¬ reE z = 0) (fun u => [bB h q z, vB g (q 0) na (bif u then SV else V), vB g (q 1) ta TV, vB g (q 2) pa SV, hB g (q 3) hq hh (bif u then recO o n else o) (bif u then recS n else n), vB g (hh 0) (aa 0) ((bif u then recH o n HV V else HV) 0), vB g (hh 1) (aa 1) ((bif u then recH o n HV V else HV) 1), vB g (hh 2) (aa 2) ((bif u then recH o n HV V else HV) 2), vB g (hh 3) (aa 3) ((bif u then recH o n HV V else HV) 3), vB g (hh 4) (aa 4) ((bif u then recH o n HV V else HV) 4), rB g (q 4) ra NN, tB g (q 5) sa T k]) := by
  refine cU.mk (by decide +kernel) (Nat.le_of_ble_eq_true rfl) ?_
  intro p e s m below meth c ls E hK hW hl
  obtain ⟨hx, hb, hr, hml, hts, hown, hlocks, hin⟩ := id E
  have hown : s.vm.findClass RX4 = some m.cls := hown
  have hP := hW.1
  have hl : lv_has ls 1 [(0, .ref h)] := hl
  refine lv_aload_n hx hb dX4_restore_0 rfl (lv_at hl 0 rfl) ?_
  refine b_get (v := .int z) hx hb hts inX4 hown hK hP 0 0 3 rfl rfl rfl (by decide) q1_165 rfl rfl dX4_restore_1 ?_
  refine lv_if_ne (tgt := 10) hx hb dX4_restore_4 (by decide) (fun h_1 => ?_) (fun h_1 => ?_)
  · refine lv_aload_n hx hb dX4_restore_10 rfl (lv_at hl 0 rfl) ?_
    refine b_get (v := .ref (q 3)) hx hb hts inX4 hown hK hP 0 0 4 rfl rfl rfl (by decide) q1_166 rfl rfl dX4_restore_11 ?_
    refine lv_aload_n hx hb dX4_restore_14 rfl (lv_at hl 0 rfl) ?_
    refine b_get (v := .ref (q 0)) hx hb hts inX4 hown hK hP 0 0 0 rfl rfl rfl (by decide) q1_162 rfl rfl dX4_restore_15 ?_
    refine call_VU (As := [.ref (q 0)]) (rest := []) E rfl hK hW (c_X0_record l g (q 3) hq hh o n (by omega) (by omega) aa HV (q 0) na V) ok_X0_record rfl q1_191 [4, 1, 5, 6, 7, 8, 9] rfl (by decide) (b_recv hK hP 4 0 rfl rfl rfl rfl) ⟨⟨rfl, rfl⟩, Nat.le_of_ble_eq_true rfl, Nat.le_of_ble_eq_true rfl⟩ hl.1 (Nat.le_of_ble_eq_true rfl) ⟨Nat.le_of_ble_eq_true rfl, Nat.le_of_ble_eq_true rfl⟩ rfl dX4_restore_18 (fun _u H locs _ hW => ?_)
    have hW : wd g _ s.heap [bB h q z, vB g (q 0) na V, vB g (q 1) ta TV, vB g (q 2) pa SV, hB g (q 3) hq hh (recO o n) (recS n), vB g (hh 0) (aa 0) (recH o n HV V 0), vB g (hh 1) (aa 1) (recH o n HV V 1), vB g (hh 2) (aa 2) (recH o n HV V 2), vB g (hh 3) (aa 3) (recH o n HV V 3), vB g (hh 4) (aa 4) (recH o n HV V 4), rB g (q 4) ra NN, tB g (q 5) sa T k] H locs := hW
    have hP := hW.1
    refine lv_aload_n hx hb dX4_restore_21 rfl (lv_at hl 0 rfl) ?_
    refine b_get (v := .ref (q 0)) hx hb hts inX4 hown hK hP 0 0 0 rfl rfl rfl (by decide) q1_162 rfl rfl dX4_restore_22 ?_
    refine lv_aload_n hx hb dX4_restore_25 rfl (lv_at hl 0 rfl) ?_
    refine b_get (v := .ref (q 2)) hx hb hts inX4 hown hK hP 0 0 2 rfl rfl rfl (by decide) q1_164 rfl rfl dX4_restore_26 ?_
    refine call_VU (As := [.ref (q 2)]) (rest := []) E rfl hK hW (c_X3_copyFrom l g (q 0) na V (q 2) pa SV) ok_X3_copyFrom rfl q2_184 [1, 3] rfl (by decide) (b_recv hK hP 1 0 rfl rfl rfl rfl) ⟨⟨rfl, rfl⟩, Nat.le_of_ble_eq_true rfl, Nat.le_of_ble_eq_true rfl⟩ hl.1 (Nat.le_of_ble_eq_true rfl) ⟨Nat.le_of_ble_eq_true rfl, Nat.le_of_ble_eq_true rfl⟩ rfl dX4_restore_29 (fun _u H locs _ hW => ?_)
    have hW : wd g _ s.heap [bB h q z, vB g (q 0) na SV, vB g (q 1) ta TV, vB g (q 2) pa SV, hB g (q 3) hq hh (recO o n) (recS n), vB g (hh 0) (aa 0) (recH o n HV V 0), vB g (hh 1) (aa 1) (recH o n HV V 1), vB g (hh 2) (aa 2) (recH o n HV V 2), vB g (hh 3) (aa 3) (recH o n HV V 3), vB g (hh 4) (aa 4) (recH o n HV V 4), rB g (q 4) ra NN, tB g (q 5) sa T k] H locs := hW
    have hP := hW.1
    refine lv_aload_n hx hb dX4_restore_32 rfl (lv_at hl 0 rfl) ?_
    refine b_get (v := .ref (q 0)) hx hb hts inX4 hown hK hP 0 0 0 rfl rfl rfl (by decide) q1_162 rfl rfl dX4_restore_33 ?_
    refine b_get (v := .int (SV 12 2)) hx hb hts inX3 hown hK hP 1 0 14 rfl rfl rfl (by decide) q1_57 rfl rfl dX4_restore_36 ?_
    have hE : reE z = 0 := by simp only [h_1, reE, not_true_eq_false, not_false_eq_true, and_true, true_and, and_false, false_and, and_self, or_true, true_or, or_false, false_or, ne_eq, ite_true, ite_false, reduceIte]
    exact uI_ret true hW hx hb hr hlocks dX4_restore_39 (rfl) hE (by simp only [cond_true, cond_false]) (adr2 (L := [[h], [q 0, na 0, na 1, na 2, na 3, na 4, na 5, na 6, na 7, na 8, na 9, na 10, na 11], [q 1, ta 0, ta 1, ta 2, ta 3, ta 4, ta 5, ta 6, ta 7, ta 8, ta 9, ta 10, ta 11], [q 2, pa 0, pa 1, pa 2, pa 3, pa 4, pa 5, pa 6, pa 7, pa 8, pa 9, pa 10, pa 11], [q 3, hq], [hh 0, (aa 0) 0, (aa 0) 1, (aa 0) 2, (aa 0) 3, (aa 0) 4, (aa 0) 5, (aa 0) 6, (aa 0) 7, (aa 0) 8, (aa 0) 9, (aa 0) 10, (aa 0) 11], [hh 1, (aa 1) 0, (aa 1) 1, (aa 1) 2, (aa 1) 3, (aa 1) 4, (aa 1) 5, (aa 1) 6, (aa 1) 7, (aa 1) 8, (aa 1) 9, (aa 1) 10, (aa 1) 11], [hh 2, (aa 2) 0, (aa 2) 1, (aa 2) 2, (aa 2) 3, (aa 2) 4, (aa 2) 5, (aa 2) 6, (aa 2) 7, (aa 2) 8, (aa 2) 9, (aa 2) 10, (aa 2) 11], [hh 3, (aa 3) 0, (aa 3) 1, (aa 3) 2, (aa 3) 3, (aa 3) 4, (aa 3) 5, (aa 3) 6, (aa 3) 7, (aa 3) 8, (aa 3) 9, (aa 3) 10, (aa 3) 11], [hh 4, (aa 4) 0, (aa 4) 1, (aa 4) 2, (aa 4) 3, (aa 4) 4, (aa 4) 5, (aa 4) 6, (aa 4) 7, (aa 4) 8, (aa 4) 9, (aa 4) 10, (aa 4) 11], [q 4, ra 0, ra 1, ra 2, ra 3], [q 5, sa]]) rfl rfl)
  · refine lv_bipush (v := -4) hx hb dX4_restore_7 (by decide) ?_
    have hE : reE z = -4 := by simp only [h_1, reE, not_true_eq_false, not_false_eq_true, and_true, true_and, and_false, false_and, and_self, or_true, true_or, or_false, false_or, ne_eq, ite_true, ite_false, reduceIte]
    exact uI_ret false hW hx hb hr hlocks dX4_restore_9 (hE.symm) (by show ¬ _ = _; rw [hE]; decide) (by simp only [cond_true, cond_false]) (adr2 (L := [[h], [q 0, na 0, na 1, na 2, na 3, na 4, na 5, na 6, na 7, na 8, na 9, na 10, na 11], [q 1, ta 0, ta 1, ta 2, ta 3, ta 4, ta 5, ta 6, ta 7, ta 8, ta 9, ta 10, ta 11], [q 2, pa 0, pa 1, pa 2, pa 3, pa 4, pa 5, pa 6, pa 7, pa 8, pa 9, pa 10, pa 11], [q 3, hq], [hh 0, (aa 0) 0, (aa 0) 1, (aa 0) 2, (aa 0) 3, (aa 0) 4, (aa 0) 5, (aa 0) 6, (aa 0) 7, (aa 0) 8, (aa 0) 9, (aa 0) 10, (aa 0) 11], [hh 1, (aa 1) 0, (aa 1) 1, (aa 1) 2, (aa 1) 3, (aa 1) 4, (aa 1) 5, (aa 1) 6, (aa 1) 7, (aa 1) 8, (aa 1) 9, (aa 1) 10, (aa 1) 11], [hh 2, (aa 2) 0, (aa 2) 1, (aa 2) 2, (aa 2) 3, (aa 2) 4, (aa 2) 5, (aa 2) 6, (aa 2) 7, (aa 2) 8, (aa 2) 9, (aa 2) 10, (aa 2) 11], [hh 3, (aa 3) 0, (aa 3) 1, (aa 3) 2, (aa 3) 3, (aa 3) 4, (aa 3) 5, (aa 3) 6, (aa 3) 7, (aa 3) 8, (aa 3) 9, (aa 3) 10, (aa 3) 11], [hh 4, (aa 4) 0, (aa 4) 1, (aa 4) 2, (aa 4) 3, (aa 4) 4, (aa 4) 5, (aa 4) 6, (aa 4) 7, (aa 4) 8, (aa 4) 9, (aa 4) 10, (aa 4) 11], [q 4, ra 0, ra 1, ra 2, ra 3], [q 5, sa]]) rfl rfl)

set_option maxHeartbeats 4000000 in
set_option maxRecDepth 100000 in
theorem c_X4_town_o (l : Launch) (g : gx) (h : Nat) (q : Nat → Nat) (z : Int32) (na : Nat → Nat) (V : sV) (ta : Nat → Nat) (TV : sV) (pa : Nat → Nat) (SV : sV) (hq : Nat) (hh : Nat → Nat) (o n : Nat) (aa : Nat → Nat → Nat) (HV : Nat → sV) (ra : Nat → Nat) (NN : sV) (sa : Nat) (T : Nat → Nat) (k : Nat) (x w : Int32) (t : Nat) (ho : o < 5) (hn : n ≤ 5) (hk : k ≤ 60) (hxt : isT x → x = nI t ∧ t < 6) (hw : w.toInt < 0 ∨ 8 < w.toInt) : cR l g yX4_town cX4_town 3 (some .int) ({ frames := 1, cells := 0, slots := 0, locals := 20 } : Room) [.ref h, .int x, .int w] [bB h q z, vB g (q 0) na V, vB g (q 1) ta TV, vB g (q 2) pa SV, hB g (q 3) hq hh o n, vB g (hh 0) (aa 0) (HV 0), vB g (hh 1) (aa 1) (HV 1), vB g (hh 2) (aa 2) (HV 2), vB g (hh 3) (aa 3) (HV 3), vB g (hh 4) (aa 4) (HV 4), rB g (q 4) ra NN, tB g (q 5) sa T k] (.int (if isT x then -2 else -1)) := by
  refine cR.mk (by decide +kernel) (Nat.le_of_ble_eq_true rfl) ?_
  intro p e s m below meth c ls E hK hP hl
  obtain ⟨hx, hb, hr, hml, hts, hown, hlocks, hin⟩ := id E
  have hown : s.vm.findClass RX4 = some m.cls := hown
  have hl : lv_has ls 3 [(0, .ref h), (1, .int x), (2, .int w)] := hl
  refine lv_iload_n hx hb dX4_town_0 rfl (lv_at hl 1 rfl) ?_
  refine call_SR (As := [.int x]) (rest := []) E rfl hK hP (c_X4_isTown l g x) ok_X4_isTown rfl q1_188 [] rfl ⟨⟨rfl, rfl⟩, Nat.le_of_ble_eq_true rfl, Nat.le_of_ble_eq_true rfl⟩ hl.1 (Nat.le_of_ble_eq_true rfl) ⟨Nat.le_of_ble_eq_true rfl, Nat.le_of_ble_eq_true rfl⟩ rfl dX4_town_1 ?_
  refine b_ne0 (tgt := 9) hx hb dX4_town_4 (by decide) (fun h_1 => ?_) (fun h_1 => ?_)
  · obtain ⟨rfl, ht⟩ := hxt h_1
    refine lv_iload_n hx hb dX4_town_9 rfl (lv_at hl 2 rfl) ?_
    refine lv_tableOut (tgt := 150) hx hb dX4_town_10 hw (by decide) ?_
    refine lv_bipush (v := -2) hx hb dX4_town_150 (by decide) ?_
    exact rI_ret hx hb hr hlocks dX4_town_152 (by rw [if_pos h_1])
  · refine lv_iconst (v := -1) hx hb dX4_town_7 (by decide) ?_
    exact rI_ret hx hb hr hlocks dX4_town_8 (by rw [if_neg h_1])

set_option maxHeartbeats 4000000 in
set_option maxRecDepth 100000 in
theorem c_X4_town_i (l : Launch) (g : gx) (h : Nat) (q : Nat → Nat) (z : Int32) (na : Nat → Nat) (V : sV) (ta : Nat → Nat) (TV : sV) (pa : Nat → Nat) (SV : sV) (hq : Nat) (hh : Nat → Nat) (o n : Nat) (aa : Nat → Nat → Nat) (HV : Nat → sV) (ra : Nat → Nat) (NN : sV) (sa : Nat) (T : Nat → Nat) (k : Nat) (x : Int32) (j t : Nat) (ho : o < 5) (hn : n ≤ 5) (hk : k ≤ 60) (hxt : isT x → x = nI t ∧ t < 6) (hj : j < 9) : cR l g yX4_town cX4_town 3 (some .int) ({ frames := 1, cells := 0, slots := 0, locals := 20 } : Room) [.ref h, .int x, .int (nI j)] [bB h q z, vB g (q 0) na V, vB g (q 1) ta TV, vB g (q 2) pa SV, hB g (q 3) hq hh o n, vB g (hh 0) (aa 0) (HV 0), vB g (hh 1) (aa 1) (HV 1), vB g (hh 2) (aa 2) (HV 2), vB g (hh 3) (aa 3) (HV 3), vB g (hh 4) (aa 4) (HV 4), rB g (q 4) ra NN, tB g (q 5) sa T k] (.int (if isT x then V j t else -1)) := by
  refine cR.mk (by decide +kernel) (Nat.le_of_ble_eq_true rfl) ?_
  intro p e s m below meth c ls E hK hP hl
  obtain ⟨hx, hb, hr, hml, hts, hown, hlocks, hin⟩ := id E
  have hown : s.vm.findClass RX4 = some m.cls := hown
  have hl : lv_has ls 3 [(0, .ref h), (1, .int x), (2, .int (nI j))] := hl
  refine lv_iload_n hx hb dX4_town_0 rfl (lv_at hl 1 rfl) ?_
  refine call_SR (As := [.int x]) (rest := []) E rfl hK hP (c_X4_isTown l g x) ok_X4_isTown rfl q1_188 [] rfl ⟨⟨rfl, rfl⟩, Nat.le_of_ble_eq_true rfl, Nat.le_of_ble_eq_true rfl⟩ hl.1 (Nat.le_of_ble_eq_true rfl) ⟨Nat.le_of_ble_eq_true rfl, Nat.le_of_ble_eq_true rfl⟩ rfl dX4_town_1 ?_
  refine b_ne0 (tgt := 9) hx hb dX4_town_4 (by decide) (fun h_1 => ?_) (fun h_1 => ?_)
  · obtain ⟨rfl, ht⟩ := hxt h_1
    refine lv_iload_n hx hb dX4_town_9 rfl (lv_at hl 2 rfl) ?_
    rcases (show j = 0 ∨ j = 1 ∨ j = 2 ∨ j = 3 ∨ j = 4 ∨ j = 5 ∨ j = 6 ∨ j = 7 ∨ j = 8 by omega) with rfl | rfl | rfl | rfl | rfl | rfl | rfl | rfl | rfl
    · refine lv_tableIn (off := 50) (tgt := 60) hx hb dX4_town_10 (by decide) (by decide) rfl (by decide) ?_
      refine lv_aload_n hx hb dX4_town_60 rfl (lv_at hl 0 rfl) ?_
      refine b_get (v := .ref (q 0)) hx hb hts inX4 hown hK hP 0 0 0 rfl rfl rfl (by decide) q1_162 rfl rfl dX4_town_61 ?_
      refine b_get (v := .ref (na 0)) hx hb hts inX3 hown hK hP 1 0 0 rfl rfl rfl (by decide) q1_25 rfl rfl dX4_town_64 ?_
      refine lv_iload_n hx hb dX4_town_67 rfl (lv_at hl 1 rfl) ?_
      refine b_iald (v := V 0 t) hx hb hK hP 1 1 (t) rfl rfl rfl (by omega) rfl rfl dX4_town_68 ?_
      exact rI_ret hx hb hr hlocks dX4_town_69 (by rw [if_pos h_1])
    · refine lv_tableIn (off := 60) (tgt := 70) hx hb dX4_town_10 (by decide) (by decide) rfl (by decide) ?_
      refine lv_aload_n hx hb dX4_town_70 rfl (lv_at hl 0 rfl) ?_
      refine b_get (v := .ref (q 0)) hx hb hts inX4 hown hK hP 0 0 0 rfl rfl rfl (by decide) q1_162 rfl rfl dX4_town_71 ?_
      refine b_get (v := .ref (na 1)) hx hb hts inX3 hown hK hP 1 0 1 rfl rfl rfl (by decide) q1_27 rfl rfl dX4_town_74 ?_
      refine lv_iload_n hx hb dX4_town_77 rfl (lv_at hl 1 rfl) ?_
      refine b_iald (v := V 1 t) hx hb hK hP 1 2 (t) rfl rfl rfl (by omega) rfl rfl dX4_town_78 ?_
      exact rI_ret hx hb hr hlocks dX4_town_79 (by rw [if_pos h_1])
    · refine lv_tableIn (off := 70) (tgt := 80) hx hb dX4_town_10 (by decide) (by decide) rfl (by decide) ?_
      refine lv_aload_n hx hb dX4_town_80 rfl (lv_at hl 0 rfl) ?_
      refine b_get (v := .ref (q 0)) hx hb hts inX4 hown hK hP 0 0 0 rfl rfl rfl (by decide) q1_162 rfl rfl dX4_town_81 ?_
      refine b_get (v := .ref (na 2)) hx hb hts inX3 hown hK hP 1 0 2 rfl rfl rfl (by decide) q1_29 rfl rfl dX4_town_84 ?_
      refine lv_iload_n hx hb dX4_town_87 rfl (lv_at hl 1 rfl) ?_
      refine b_iald (v := V 2 t) hx hb hK hP 1 3 (t) rfl rfl rfl (by omega) rfl rfl dX4_town_88 ?_
      exact rI_ret hx hb hr hlocks dX4_town_89 (by rw [if_pos h_1])
    · refine lv_tableIn (off := 80) (tgt := 90) hx hb dX4_town_10 (by decide) (by decide) rfl (by decide) ?_
      refine lv_aload_n hx hb dX4_town_90 rfl (lv_at hl 0 rfl) ?_
      refine b_get (v := .ref (q 0)) hx hb hts inX4 hown hK hP 0 0 0 rfl rfl rfl (by decide) q1_162 rfl rfl dX4_town_91 ?_
      refine b_get (v := .ref (na 3)) hx hb hts inX3 hown hK hP 1 0 3 rfl rfl rfl (by decide) q1_31 rfl rfl dX4_town_94 ?_
      refine lv_iload_n hx hb dX4_town_97 rfl (lv_at hl 1 rfl) ?_
      refine b_iald (v := V 3 t) hx hb hK hP 1 4 (t) rfl rfl rfl (by omega) rfl rfl dX4_town_98 ?_
      exact rI_ret hx hb hr hlocks dX4_town_99 (by rw [if_pos h_1])
    · refine lv_tableIn (off := 90) (tgt := 100) hx hb dX4_town_10 (by decide) (by decide) rfl (by decide) ?_
      refine lv_aload_n hx hb dX4_town_100 rfl (lv_at hl 0 rfl) ?_
      refine b_get (v := .ref (q 0)) hx hb hts inX4 hown hK hP 0 0 0 rfl rfl rfl (by decide) q1_162 rfl rfl dX4_town_101 ?_
      refine b_get (v := .ref (na 4)) hx hb hts inX3 hown hK hP 1 0 4 rfl rfl rfl (by decide) q1_33 rfl rfl dX4_town_104 ?_
      refine lv_iload_n hx hb dX4_town_107 rfl (lv_at hl 1 rfl) ?_
      refine b_iald (v := V 4 t) hx hb hK hP 1 5 (t) rfl rfl rfl (by omega) rfl rfl dX4_town_108 ?_
      exact rI_ret hx hb hr hlocks dX4_town_109 (by rw [if_pos h_1])
    · refine lv_tableIn (off := 100) (tgt := 110) hx hb dX4_town_10 (by decide) (by decide) rfl (by decide) ?_
      refine lv_aload_n hx hb dX4_town_110 rfl (lv_at hl 0 rfl) ?_
      refine b_get (v := .ref (q 0)) hx hb hts inX4 hown hK hP 0 0 0 rfl rfl rfl (by decide) q1_162 rfl rfl dX4_town_111 ?_
      refine b_get (v := .ref (na 5)) hx hb hts inX3 hown hK hP 1 0 5 rfl rfl rfl (by decide) q1_35 rfl rfl dX4_town_114 ?_
      refine lv_iload_n hx hb dX4_town_117 rfl (lv_at hl 1 rfl) ?_
      refine b_iald (v := V 5 t) hx hb hK hP 1 6 (t) rfl rfl rfl (by omega) rfl rfl dX4_town_118 ?_
      exact rI_ret hx hb hr hlocks dX4_town_119 (by rw [if_pos h_1])
    · refine lv_tableIn (off := 110) (tgt := 120) hx hb dX4_town_10 (by decide) (by decide) rfl (by decide) ?_
      refine lv_aload_n hx hb dX4_town_120 rfl (lv_at hl 0 rfl) ?_
      refine b_get (v := .ref (q 0)) hx hb hts inX4 hown hK hP 0 0 0 rfl rfl rfl (by decide) q1_162 rfl rfl dX4_town_121 ?_
      refine b_get (v := .ref (na 6)) hx hb hts inX3 hown hK hP 1 0 6 rfl rfl rfl (by decide) q1_38 rfl rfl dX4_town_124 ?_
      refine lv_iload_n hx hb dX4_town_127 rfl (lv_at hl 1 rfl) ?_
      refine b_iald (v := V 6 t) hx hb hK hP 1 7 (t) rfl rfl rfl (by omega) rfl rfl dX4_town_128 ?_
      exact rI_ret hx hb hr hlocks dX4_town_129 (by rw [if_pos h_1])
    · refine lv_tableIn (off := 120) (tgt := 130) hx hb dX4_town_10 (by decide) (by decide) rfl (by decide) ?_
      refine lv_aload_n hx hb dX4_town_130 rfl (lv_at hl 0 rfl) ?_
      refine b_get (v := .ref (q 0)) hx hb hts inX4 hown hK hP 0 0 0 rfl rfl rfl (by decide) q1_162 rfl rfl dX4_town_131 ?_
      refine b_get (v := .ref (na 7)) hx hb hts inX3 hown hK hP 1 0 7 rfl rfl rfl (by decide) q1_40 rfl rfl dX4_town_134 ?_
      refine lv_iload_n hx hb dX4_town_137 rfl (lv_at hl 1 rfl) ?_
      refine b_iald (v := V 7 t) hx hb hK hP 1 8 (t) rfl rfl rfl (by omega) rfl rfl dX4_town_138 ?_
      exact rI_ret hx hb hr hlocks dX4_town_139 (by rw [if_pos h_1])
    · refine lv_tableIn (off := 130) (tgt := 140) hx hb dX4_town_10 (by decide) (by decide) rfl (by decide) ?_
      refine lv_aload_n hx hb dX4_town_140 rfl (lv_at hl 0 rfl) ?_
      refine b_get (v := .ref (q 0)) hx hb hts inX4 hown hK hP 0 0 0 rfl rfl rfl (by decide) q1_162 rfl rfl dX4_town_141 ?_
      refine b_get (v := .ref (na 8)) hx hb hts inX3 hown hK hP 1 0 8 rfl rfl rfl (by decide) q1_42 rfl rfl dX4_town_144 ?_
      refine lv_iload_n hx hb dX4_town_147 rfl (lv_at hl 1 rfl) ?_
      refine b_iald (v := V 8 t) hx hb hK hP 1 9 (t) rfl rfl rfl (by omega) rfl rfl dX4_town_148 ?_
      exact rI_ret hx hb hr hlocks dX4_town_149 (by rw [if_pos h_1])
  · refine lv_iconst (v := -1) hx hb dX4_town_7 (by decide) ?_
    exact rI_ret hx hb hr hlocks dX4_town_8 (by rw [if_neg h_1])
