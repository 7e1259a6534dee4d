set_option maxHeartbeats 4000000 in
set_option maxRecDepth 100000 in
theorem c_X4_town_o (l : Launch) (g : gx) (h : Nat) (q : Nat → Nat) (z : Int32) (na : Nat → Nat) (V : sV) (ta : Nat → Nat) (TV : sV) (pa : Nat → Nat) (SV : sV) (hq : Nat) (hh : Nat → Nat) (o n : Nat) (aa : Nat → Nat → Nat) (HV : Nat → sV) (ra : Nat → Nat) (NN : sV) (sa : Nat) (T : Nat → Nat) (k : Nat) (x w : Int32) (t : Nat) (ho : o < 5) (hn : n ≤ 5) (hk : k ≤ 60) (hxt : isT x → x = nI t ∧ t < 6) (hw : w.toInt < 0 ∨ 8 < w.toInt) : cR l g yX4_town cX4_town 3 (some .int) ({ frames := 1, cells := 0, slots := 0, locals := 20 } : Room) [.ref h, .int x, .int w] [bB h q z, vB g (q 0) na V, vB g (q 1) ta TV, vB g (q 2) pa SV, hB g (q 3) hq hh o n, vB g (hh 0) (aa 0) (HV 0), vB g (hh 1) (aa 1) (HV 1), vB g (hh 2) (aa 2) (HV 2), vB g (hh 3) (aa 3) (HV 3), vB g (hh 4) (aa 4) (HV 4), rB g (q 4) ra NN, tB g (q 5) sa T k] (.int (if isT x then -2 else -1)) := by
  refine cR.mk (by decide +kernel) (Nat.le_of_ble_eq_true rfl) ?_
  intro p e s m below meth c ls E hK hP hl
  obtain ⟨hx, hb, hr, hml, hts, hown, hlocks, hin⟩ := id E
  have hown : s.vm.findClass RX4 = some m.cls := hown
  have hl : lv_has ls 3 [(0, .ref h), (1, .int x), (2, .int w)] := hl
  refine lv_iload_n hx hb dX4_town_0 rfl (lv_at hl 1 rfl) ?_
  refine call_SR (As := [.int x]) (rest := []) E rfl hK hP (c_X4_isTown l g x) ok_X4_isTown rfl q1_198 [] rfl ⟨⟨rfl, rfl⟩, Nat.le_of_ble_eq_true rfl, Nat.le_of_ble_eq_true rfl⟩ hl.1 (Nat.le_of_ble_eq_true rfl) ⟨Nat.le_of_ble_eq_true rfl, Nat.le_of_ble_eq_true rfl⟩ rfl dX4_town_1 ?_
  refine b_ne0 (tgt := 9) hx hb dX4_town_4 (by decide) (fun h_1 => ?_) (fun h_1 => ?_)
  · obtain ⟨rfl, ht⟩ := hxt h_1
    refine lv_iload_n hx hb dX4_town_9 rfl (lv_at hl 2 rfl) ?_
    refine lv_tableOut (tgt := 150) hx hb dX4_town_10 hw (by decide) ?_
    refine lv_bipush (v := -2) hx hb dX4_town_150 (by decide) ?_
    exact rI_ret hx hb hr hlocks dX4_town_152 (by rw [if_pos h_1])
  · refine lv_iconst (v := -1) hx hb dX4_town_7 (by decide) ?_
    exact rI_ret hx hb hr hlocks dX4_town_8 (by rw [if_neg h_1])

set_option maxHeartbeats 4000000 in
set_option maxRecDepth 100000 in
theorem c_X4_town_i (l : Launch) (g : gx) (h : Nat) (q : Nat → Nat) (z : Int32) (na : Nat → Nat) (V : sV) (ta : Nat → Nat) (TV : sV) (pa : Nat → Nat) (SV : sV) (hq : Nat) (hh : Nat → Nat) (o n : Nat) (aa : Nat → Nat → Nat) (HV : Nat → sV) (ra : Nat → Nat) (NN : sV) (sa : Nat) (T : Nat → Nat) (k : Nat) (x : Int32) (j t : Nat) (ho : o < 5) (hn : n ≤ 5) (hk : k ≤ 60) (hxt : isT x → x = nI t ∧ t < 6) (hj : j < 9) : cR l g yX4_town cX4_town 3 (some .int) ({ frames := 1, cells := 0, slots := 0, locals := 20 } : Room) [.ref h, .int x, .int (nI j)] [bB h q z, vB g (q 0) na V, vB g (q 1) ta TV, vB g (q 2) pa SV, hB g (q 3) hq hh o n, vB g (hh 0) (aa 0) (HV 0), vB g (hh 1) (aa 1) (HV 1), vB g (hh 2) (aa 2) (HV 2), vB g (hh 3) (aa 3) (HV 3), vB g (hh 4) (aa 4) (HV 4), rB g (q 4) ra NN, tB g (q 5) sa T k] (.int (if isT x then V j t else -1)) := by
  refine cR.mk (by decide +kernel) (Nat.le_of_ble_eq_true rfl) ?_
  intro p e s m below meth c ls E hK hP hl
  obtain ⟨hx, hb, hr, hml, hts, hown, hlocks, hin⟩ := id E
  have hown : s.vm.findClass RX4 = some m.cls := hown
  have hl : lv_has ls 3 [(0, .ref h), (1, .int x), (2, .int (nI j))] := hl
  refine lv_iload_n hx hb dX4_town_0 rfl (lv_at hl 1 rfl) ?_
  refine call_SR (As := [.int x]) (rest := []) E rfl hK hP (c_X4_isTown l g x) ok_X4_isTown rfl q1_198 [] rfl ⟨⟨rfl, rfl⟩, Nat.le_of_ble_eq_true rfl, Nat.le_of_ble_eq_true rfl⟩ hl.1 (Nat.le_of_ble_eq_true rfl) ⟨Nat.le_of_ble_eq_true rfl, Nat.le_of_ble_eq_true rfl⟩ rfl dX4_town_1 ?_
  refine b_ne0 (tgt := 9) hx hb dX4_town_4 (by decide) (fun h_1 => ?_) (fun h_1 => ?_)
  · obtain ⟨rfl, ht⟩ := hxt h_1
    refine lv_iload_n hx hb dX4_town_9 rfl (lv_at hl 2 rfl) ?_
    rcases (show j = 0 ∨ j = 1 ∨ j = 2 ∨ j = 3 ∨ j = 4 ∨ j = 5 ∨ j = 6 ∨ j = 7 ∨ j = 8 by omega) with rfl | rfl | rfl | rfl | rfl | rfl | rfl | rfl | rfl
    · refine lv_tableIn (off := 50) (tgt := 60) hx hb dX4_town_10 (by decide) (by decide) rfl (by decide) ?_
      refine lv_aload_n hx hb dX4_town_60 rfl (lv_at hl 0 rfl) ?_
      refine b_get (v := .ref (q 0)) hx hb hts inX4 hown hK hP 0 0 0 rfl rfl rfl (by decide) q1_161 rfl rfl dX4_town_61 ?_
      refine b_get (v := .ref (na 0)) hx hb hts inX3 hown hK hP 1 0 0 rfl rfl rfl (by decide) q1_24 rfl rfl dX4_town_64 ?_
      refine lv_iload_n hx hb dX4_town_67 rfl (lv_at hl 1 rfl) ?_
      refine b_iald (v := V 0 t) hx hb hK hP 1 1 (t) rfl rfl rfl (by omega) rfl rfl dX4_town_68 ?_
      exact rI_ret hx hb hr hlocks dX4_town_69 (by rw [if_pos h_1])
    · refine lv_tableIn (off := 60) (tgt := 70) hx hb dX4_town_10 (by decide) (by decide) rfl (by decide) ?_
      refine lv_aload_n hx hb dX4_town_70 rfl (lv_at hl 0 rfl) ?_
      refine b_get (v := .ref (q 0)) hx hb hts inX4 hown hK hP 0 0 0 rfl rfl rfl (by decide) q1_161 rfl rfl dX4_town_71 ?_
      refine b_get (v := .ref (na 1)) hx hb hts inX3 hown hK hP 1 0 1 rfl rfl rfl (by decide) q1_26 rfl rfl dX4_town_74 ?_
      refine lv_iload_n hx hb dX4_town_77 rfl (lv_at hl 1 rfl) ?_
      refine b_iald (v := V 1 t) hx hb hK hP 1 2 (t) rfl rfl rfl (by omega) rfl rfl dX4_town_78 ?_
      exact rI_ret hx hb hr hlocks dX4_town_79 (by rw [if_pos h_1])
    · refine lv_tableIn (off := 70) (tgt := 80) hx hb dX4_town_10 (by decide) (by decide) rfl (by decide) ?_
      refine lv_aload_n hx hb dX4_town_80 rfl (lv_at hl 0 rfl) ?_
      refine b_get (v := .ref (q 0)) hx hb hts inX4 hown hK hP 0 0 0 rfl rfl rfl (by decide) q1_161 rfl rfl dX4_town_81 ?_
      refine b_get (v := .ref (na 2)) hx hb hts inX3 hown hK hP 1 0 2 rfl rfl rfl (by decide) q1_28 rfl rfl dX4_town_84 ?_
      refine lv_iload_n hx hb dX4_town_87 rfl (lv_at hl 1 rfl) ?_
      refine b_iald (v := V 2 t) hx hb hK hP 1 3 (t) rfl rfl rfl (by omega) rfl rfl dX4_town_88 ?_
      exact rI_ret hx hb hr hlocks dX4_town_89 (by rw [if_pos h_1])
    · refine lv_tableIn (off := 80) (tgt := 90) hx hb dX4_town_10 (by decide) (by decide) rfl (by decide) ?_
      refine lv_aload_n hx hb dX4_town_90 rfl (lv_at hl 0 rfl) ?_
      refine b_get (v := .ref (q 0)) hx hb hts inX4 hown hK hP 0 0 0 rfl rfl rfl (by decide) q1_161 rfl rfl dX4_town_91 ?_
      refine b_get (v := .ref (na 3)) hx hb hts inX3 hown hK hP 1 0 3 rfl rfl rfl (by decide) q1_30 rfl rfl dX4_town_94 ?_
      refine lv_iload_n hx hb dX4_town_97 rfl (lv_at hl 1 rfl) ?_
      refine b_iald (v := V 3 t) hx hb hK hP 1 4 (t) rfl rfl rfl (by omega) rfl rfl dX4_town_98 ?_
      exact rI_ret hx hb hr hlocks dX4_town_99 (by rw [if_pos h_1])
    · refine lv_tableIn (off := 90) (tgt := 100) hx hb dX4_town_10 (by decide) (by decide) rfl (by decide) ?_
      refine lv_aload_n hx hb dX4_town_100 rfl (lv_at hl 0 rfl) ?_
      refine b_get (v := .ref (q 0)) hx hb hts inX4 hown hK hP 0 0 0 rfl rfl rfl (by decide) q1_161 rfl rfl dX4_town_101 ?_
      refine b_get (v := .ref (na 4)) hx hb hts inX3 hown hK hP 1 0 4 rfl rfl rfl (by decide) q1_32 rfl rfl dX4_town_104 ?_
      refine lv_iload_n hx hb dX4_town_107 rfl (lv_at hl 1 rfl) ?_
      refine b_iald (v := V 4 t) hx hb hK hP 1 5 (t) rfl rfl rfl (by omega) rfl rfl dX4_town_108 ?_
      exact rI_ret hx hb hr hlocks dX4_town_109 (by rw [if_pos h_1])
    · refine lv_tableIn (off := 100) (tgt := 110) hx hb dX4_town_10 (by decide) (by decide) rfl (by decide) ?_
      refine lv_aload_n hx hb dX4_town_110 rfl (lv_at hl 0 rfl) ?_
      refine b_get (v := .ref (q 0)) hx hb hts inX4 hown hK hP 0 0 0 rfl rfl rfl (by decide) q1_161 rfl rfl dX4_town_111 ?_
      refine b_get (v := .ref (na 5)) hx hb hts inX3 hown hK hP 1 0 5 rfl rfl rfl (by decide) q1_34 rfl rfl dX4_town_114 ?_
      refine lv_iload_n hx hb dX4_town_117 rfl (lv_at hl 1 rfl) ?_
      refine b_iald (v := V 5 t) hx hb hK hP 1 6 (t) rfl rfl rfl (by omega) rfl rfl dX4_town_118 ?_
      exact rI_ret hx hb hr hlocks dX4_town_119 (by rw [if_pos h_1])
    · refine lv_tableIn (off := 110) (tgt := 120) hx hb dX4_town_10 (by decide) (by decide) rfl (by decide) ?_
      refine lv_aload_n hx hb dX4_town_120 rfl (lv_at hl 0 rfl) ?_
      refine b_get (v := .ref (q 0)) hx hb hts inX4 hown hK hP 0 0 0 rfl rfl rfl (by decide) q1_161 rfl rfl dX4_town_121 ?_
      refine b_get (v := .ref (na 6)) hx hb hts inX3 hown hK hP 1 0 6 rfl rfl rfl (by decide) q1_37 rfl rfl dX4_town_124 ?_
      refine lv_iload_n hx hb dX4_town_127 rfl (lv_at hl 1 rfl) ?_
      refine b_iald (v := V 6 t) hx hb hK hP 1 7 (t) rfl rfl rfl (by omega) rfl rfl dX4_town_128 ?_
      exact rI_ret hx hb hr hlocks dX4_town_129 (by rw [if_pos h_1])
    · refine lv_tableIn (off := 120) (tgt := 130) hx hb dX4_town_10 (by decide) (by decide) rfl (by decide) ?_
      refine lv_aload_n hx hb dX4_town_130 rfl (lv_at hl 0 rfl) ?_
      refine b_get (v := .ref (q 0)) hx hb hts inX4 hown hK hP 0 0 0 rfl rfl rfl (by decide) q1_161 rfl rfl dX4_town_131 ?_
      refine b_get (v := .ref (na 7)) hx hb hts inX3 hown hK hP 1 0 7 rfl rfl rfl (by decide) q1_39 rfl rfl dX4_town_134 ?_
      refine lv_iload_n hx hb dX4_town_137 rfl (lv_at hl 1 rfl) ?_
      refine b_iald (v := V 7 t) hx hb hK hP 1 8 (t) rfl rfl rfl (by omega) rfl rfl dX4_town_138 ?_
      exact rI_ret hx hb hr hlocks dX4_town_139 (by rw [if_pos h_1])
    · refine lv_tableIn (off := 130) (tgt := 140) hx hb dX4_town_10 (by decide) (by decide) rfl (by decide) ?_
      refine lv_aload_n hx hb dX4_town_140 rfl (lv_at hl 0 rfl) ?_
      refine b_get (v := .ref (q 0)) hx hb hts inX4 hown hK hP 0 0 0 rfl rfl rfl (by decide) q1_161 rfl rfl dX4_town_141 ?_
      refine b_get (v := .ref (na 8)) hx hb hts inX3 hown hK hP 1 0 8 rfl rfl rfl (by decide) q1_41 rfl rfl dX4_town_144 ?_
      refine lv_iload_n hx hb dX4_town_147 rfl (lv_at hl 1 rfl) ?_
      refine b_iald (v := V 8 t) hx hb hK hP 1 9 (t) rfl rfl rfl (by omega) rfl rfl dX4_town_148 ?_
      exact rI_ret hx hb hr hlocks dX4_town_149 (by rw [if_pos h_1])
  · refine lv_iconst (v := -1) hx hb dX4_town_7 (by decide) ?_
    exact rI_ret hx hb hr hlocks dX4_town_8 (by rw [if_neg h_1])
