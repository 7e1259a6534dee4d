set_option maxHeartbeats 4000000 in
set_option maxRecDepth 100000 in
theorem c_X5_isDone (l : Launch) (g : gx) (h : Nat) (a : Nat → Nat) (V X : sV) (cq : Nat → Nat) (hc : ∀ t, t < 6 → V 3 t = nI (cq t) ∧ cq t ≤ 5) (j ch o b : Nat) (y : Int32) (hj : j < 32) (h6 : X 6 j = nI ch) (h7 : X 7 j = nI o) (h8 : X 8 j = y) (hc200 : ch < 200) (ho : ¬ ch = 116 → o < 6) (ho50 : o ≤ 50) (hbq : ¬ ch = 116 → ¬ ch = 112 → y = nI b ∧ b < 5) : cU (S := Unit) l g yX5_isDone cX5_isDone 3 (some .boolean) ({ frames := 7, cells := 0, slots := 0, locals := 157 } : Room) [.ref h, .int (nI j)] [mV g h a V X] (fun _ => some (.int (bI ((dnM V X cq ch o y b).1 = true)))) (fun _ => True) (fun _ => [mV g h a ((dnM V X cq ch o y b).2.1) ((dnM V X cq ch o y b).2.2)]) := by
  refine cU.mk (by decide +kernel) (Nat.le_of_ble_eq_true rfl) ?_
  intro p e s m below meth c ls E hK hW hl
  obtain ⟨hx, hb, hr, hml, hts, hown, hlocks, hin⟩ := id E
  have hown : s.vm.findClass RX5 = some m.cls := hown
  have hP := hW.1
  have hl : lv_has ls 3 [(0, .ref h), (1, .int (nI j))] := hl
  refine lv_aload_n hx hb dX5_isDone_0 rfl (lv_at hl 0 rfl) ?_
  refine b_get (v := .ref (a 6)) hx hb hts inX5 hown hK hP 0 0 11 rfl rfl rfl (by decide) q3_36 rfl rfl dX5_isDone_1 ?_
  refine lv_iload_n hx hb dX5_isDone_4 rfl (lv_at hl 1 rfl) ?_
  refine b_iald (v := X 6 j) hx hb hK hP 0 7 (j) rfl rfl rfl (by omega) rfl rfl dX5_isDone_5 ?_
  refine b_top (y := nI ch) h6 ?_
  refine lv_bipush (v := 116) hx hb dX5_isDone_6 (by decide) ?_
  refine b_ne (tgt := 23) (ch) (116) hx hb rfl rfl (by omega) (by omega) dX5_isDone_8 (by decide) (fun h_1 => ?_) (fun h_1 => ?_)
  · have h116 := h_1
    have ho6 := ho h_1
    refine lv_aload_n hx hb dX5_isDone_23 rfl (lv_at hl 0 rfl) ?_
    refine b_get (v := .ref (a 6)) hx hb hts inX5 hown hK hP 0 0 11 rfl rfl rfl (by decide) q3_36 rfl rfl dX5_isDone_24 ?_
    refine lv_iload_n hx hb dX5_isDone_27 rfl (lv_at hl 1 rfl) ?_
    refine b_iald (v := X 6 j) hx hb hK hP 0 7 (j) rfl rfl rfl (by omega) rfl rfl dX5_isDone_28 ?_
    refine b_top (y := nI ch) h6 ?_
    refine lv_bipush (v := 112) hx hb dX5_isDone_29 (by decide) ?_
    refine b_ne (tgt := 88) (ch) (112) hx hb rfl rfl (by omega) (by omega) dX5_isDone_31 (by decide) (fun h_2 => ?_) (fun h_2 => ?_)
    · obtain ⟨hyb, hb5⟩ := hbq h116 h_2
      have h112 := h_2
      refine lv_aload_n hx hb dX5_isDone_88 rfl (lv_at hl 0 rfl) ?_
      refine lv_aload_n hx hb dX5_isDone_89 rfl (lv_at hl 0 rfl) ?_
      refine b_get (v := .ref (a 7)) hx hb hts inX5 hown hK hP 0 0 12 rfl rfl rfl (by decide) q3_37 rfl rfl dX5_isDone_90 ?_
      refine lv_iload_n hx hb dX5_isDone_93 rfl (lv_at hl 1 rfl) ?_
      refine b_iald (v := X 7 j) hx hb hK hP 0 8 (j) rfl rfl rfl (by omega) rfl rfl dX5_isDone_94 ?_
      refine b_top (y := nI o) h7 ?_
      refine lv_aload_n hx hb dX5_isDone_95 rfl (lv_at hl 0 rfl) ?_
      refine b_get (v := .ref (a 8)) hx hb hts inX5 hown hK hP 0 0 13 rfl rfl rfl (by decide) q3_38 rfl rfl dX5_isDone_96 ?_
      refine lv_iload_n hx hb dX5_isDone_99 rfl (lv_at hl 1 rfl) ?_
      refine b_iald (v := X 8 j) hx hb hK hP 0 9 (j) rfl rfl rfl (by omega) rfl rfl dX5_isDone_100 ?_
      refine b_top (y := nI b) (h8.trans hyb) ?_
      refine call_VR (As := [.int (nI o), .int (nI b)]) (rest := []) E rfl hK hP (c_X5_isBell l g h a V X (nI o) (nI b) o (cq o) (fun _ => ⟨rfl, ho6⟩) (fun h9 => hc _ h9)) ok_X5_isBell rfl q3_102 [0] rfl (b_recv hK hP 0 0 rfl rfl rfl rfl) ⟨⟨rfl, rfl⟩, Nat.le_of_ble_eq_true rfl, Nat.le_of_ble_eq_true rfl⟩ hl.1 (Nat.le_of_ble_eq_true rfl) ⟨Nat.le_of_ble_eq_true rfl, Nat.le_of_ble_eq_true rfl⟩ rfl dX5_isDone_101 ?_
      refine b_eq0 (tgt := 149) hx hb dX5_isDone_104 (by decide) (fun h_3 => ?_) (fun h_3 => ?_)
      · refine lv_iconst (v := 0) hx hb dX5_isDone_149 (by decide) ?_
        exact uZ_ret () hW hx hb hr hlocks dX5_isDone_150 (by rfl) (by rw [dnM, if_neg h116, if_neg h112]; first | exact bI_t (decide_eq_true ⟨⟨h_1, h_2⟩, h_3⟩) | exact bI_f (fun q9 => (of_decide_eq_true q9).2 h_3) | exact bI_f (fun q9 => h_3 (of_decide_eq_true q9).1.2) | exact bI_f (fun q9 => h_3 (of_decide_eq_true q9).1.1)) trivial (by rw [dnM, if_neg h116, if_neg h112]; show [mV g h a _ X] = [mV g h a (if hasB V (nI o) (nI b) ∧ canM V o b then up2 (up2 V 10 (o * 5 + b) 0) 2 o (V 2 o + 2) else V) X]; first | (rw [if_pos ⟨h_1, h_2⟩]; done) | (rw [if_neg (fun q9 => h_3 q9.2)]; done) | (rw [if_neg (fun q9 => h_3 q9.1)]; done)) (adr2 (L := [[h, a 0, a 1, a 2, a 3, a 4, a 5, a 6, a 7, a 8]]) rfl rfl)
      · refine lv_aload_n hx hb dX5_isDone_107 rfl (lv_at hl 0 rfl) ?_
        refine lv_aload_n hx hb dX5_isDone_108 rfl (lv_at hl 0 rfl) ?_
        refine b_get (v := .ref (a 7)) hx hb hts inX5 hown hK hP 0 0 12 rfl rfl rfl (by decide) q3_37 rfl rfl dX5_isDone_109 ?_
        refine lv_iload_n hx hb dX5_isDone_112 rfl (lv_at hl 1 rfl) ?_
        refine b_iald (v := X 7 j) hx hb hK hP 0 8 (j) rfl rfl rfl (by omega) rfl rfl dX5_isDone_113 ?_
        refine b_top (y := nI o) h7 ?_
        refine lv_aload_n hx hb dX5_isDone_114 rfl (lv_at hl 0 rfl) ?_
        refine b_get (v := .ref (a 8)) hx hb hts inX5 hown hK hP 0 0 13 rfl rfl rfl (by decide) q3_38 rfl rfl dX5_isDone_115 ?_
        refine lv_iload_n hx hb dX5_isDone_118 rfl (lv_at hl 1 rfl) ?_
        refine b_iald (v := X 8 j) hx hb hK hP 0 9 (j) rfl rfl rfl (by omega) rfl rfl dX5_isDone_119 ?_
        refine b_top (y := nI b) (h8.trans hyb) ?_
        refine call_VR (As := [.int (nI o), .int (nI b)]) (rest := []) E rfl hK hP (c_X5_canSplice l g h a V X o b (by omega) (by omega)) ok_X5_canSplice rfl q3_130 [0] rfl (b_recv hK hP 0 0 rfl rfl rfl rfl) ⟨⟨rfl, rfl⟩, Nat.le_of_ble_eq_true rfl, Nat.le_of_ble_eq_true rfl⟩ hl.1 (Nat.le_of_ble_eq_true rfl) ⟨Nat.le_of_ble_eq_true rfl, Nat.le_of_ble_eq_true rfl⟩ rfl dX5_isDone_120 ?_
        refine b_eq0 (tgt := 149) hx hb dX5_isDone_123 (by decide) (fun h_4 => ?_) (fun h_4 => ?_)
        · refine lv_iconst (v := 0) hx hb dX5_isDone_149 (by decide) ?_
          exact uZ_ret () hW hx hb hr hlocks dX5_isDone_150 (by rfl) (by rw [dnM, if_neg h116, if_neg h112]; first | exact bI_t (decide_eq_true ⟨⟨h_2, h_3⟩, h_4⟩) | exact bI_f (fun q9 => (of_decide_eq_true q9).2 h_4) | exact bI_f (fun q9 => h_4 (of_decide_eq_true q9).1.2) | exact bI_f (fun q9 => h_4 (of_decide_eq_true q9).1.1)) trivial (by rw [dnM, if_neg h116, if_neg h112]; show [mV g h a _ X] = [mV g h a (if hasB V (nI o) (nI b) ∧ canM V o b then up2 (up2 V 10 (o * 5 + b) 0) 2 o (V 2 o + 2) else V) X]; first | (rw [if_pos ⟨h_2, h_3⟩]; done) | (rw [if_neg (fun q9 => h_4 q9.2)]; done) | (rw [if_neg (fun q9 => h_4 q9.1)]; done)) (adr2 (L := [[h, a 0, a 1, a 2, a 3, a 4, a 5, a 6, a 7, a 8]]) rfl rfl)
        · refine lv_aload_n hx hb dX5_isDone_126 rfl (lv_at hl 0 rfl) ?_
          refine lv_aload_n hx hb dX5_isDone_127 rfl (lv_at hl 0 rfl) ?_
          refine b_get (v := .ref (a 7)) hx hb hts inX5 hown hK hP 0 0 12 rfl rfl rfl (by decide) q3_37 rfl rfl dX5_isDone_128 ?_
          refine lv_iload_n hx hb dX5_isDone_131 rfl (lv_at hl 1 rfl) ?_
          refine b_iald (v := X 7 j) hx hb hK hP 0 8 (j) rfl rfl rfl (by omega) rfl rfl dX5_isDone_132 ?_
          refine b_top (y := nI o) h7 ?_
          refine lv_aload_n hx hb dX5_isDone_133 rfl (lv_at hl 0 rfl) ?_
          refine b_get (v := .ref (a 8)) hx hb hts inX5 hown hK hP 0 0 13 rfl rfl rfl (by decide) q3_38 rfl rfl dX5_isDone_134 ?_
          refine lv_iload_n hx hb dX5_isDone_137 rfl (lv_at hl 1 rfl) ?_
          refine b_iald (v := X 8 j) hx hb hK hP 0 9 (j) rfl rfl rfl (by omega) rfl rfl dX5_isDone_138 ?_
          refine b_top (y := nI b) (h8.trans hyb) ?_
          refine call_VU (As := [.int (nI o), .int (nI b)]) (rest := []) E rfl hK hW (c_X5_spliceNow l g h a V X o b (by omega) (by omega)) ok_X5_spliceNow rfl q3_134 [0] rfl (by decide) (b_recv hK hP 0 0 rfl rfl rfl rfl) ⟨⟨rfl, rfl⟩, Nat.le_of_ble_eq_true rfl, Nat.le_of_ble_eq_true rfl⟩ hl.1 (Nat.le_of_ble_eq_true rfl) ⟨Nat.le_of_ble_eq_true rfl, Nat.le_of_ble_eq_true rfl⟩ rfl dX5_isDone_139 (fun _u H locs _ hW => ?_)
          have hW : wd g _ s.heap [mV g h a (up2 (up2 V 10 (o * 5 + b) 0) 2 o (V 2 o + 2)) X] H locs := hW
          have hP := hW.1
          refine lv_if_le (tgt := 149) hx hb dX5_isDone_142 (by decide) (fun h_5 => ?_) (fun h_5 => ?_)
          · refine lv_iconst (v := 0) hx hb dX5_isDone_149 (by decide) ?_
            exact uZ_ret () hW hx hb hr hlocks dX5_isDone_150 (by rfl) (by rw [dnM, if_neg h116, if_neg h112]; first | exact bI_t (decide_eq_true ⟨⟨h_3, h_4⟩, h_5⟩) | exact bI_f (fun q9 => (of_decide_eq_true q9).2 h_5) | exact bI_f (fun q9 => h_5 (of_decide_eq_true q9).1.2) | exact bI_f (fun q9 => h_5 (of_decide_eq_true q9).1.1)) trivial (by rw [dnM, if_neg h116, if_neg h112]; show [mV g h a _ X] = [mV g h a (if hasB V (nI o) (nI b) ∧ canM V o b then up2 (up2 V 10 (o * 5 + b) 0) 2 o (V 2 o + 2) else V) X]; first | (rw [if_pos ⟨h_3, h_4⟩]; done) | (rw [if_neg (fun q9 => h_5 q9.2)]; done) | (rw [if_neg (fun q9 => h_5 q9.1)]; done)) (adr2 (L := [[h, a 0, a 1, a 2, a 3, a 4, a 5, a 6, a 7, a 8]]) rfl rfl)
          · refine lv_iconst (v := 1) hx hb dX5_isDone_145 (by decide) ?_
            refine lv_goto (tgt := 150) hx hb dX5_isDone_146 (by decide) ?_
            exact uZ_ret () hW hx hb hr hlocks dX5_isDone_150 (by rfl) (by rw [dnM, if_neg h116, if_neg h112]; first | exact bI_t (decide_eq_true ⟨⟨h_3, h_4⟩, h_5⟩) | exact bI_f (fun q9 => (of_decide_eq_true q9).2 h_5) | exact bI_f (fun q9 => h_5 (of_decide_eq_true q9).1.2) | exact bI_f (fun q9 => h_5 (of_decide_eq_true q9).1.1)) trivial (by rw [dnM, if_neg h116, if_neg h112]; show [mV g h a _ X] = [mV g h a (if hasB V (nI o) (nI b) ∧ canM V o b then up2 (up2 V 10 (o * 5 + b) 0) 2 o (V 2 o + 2) else V) X]; first | (rw [if_pos ⟨h_3, h_4⟩]; done) | (rw [if_neg (fun q9 => h_5 q9.2)]; done) | (rw [if_neg (fun q9 => h_5 q9.1)]; done)) (adr2 (L := [[h, a 0, a 1, a 2, a 3, a 4, a 5, a 6, a 7, a 8]]) rfl rfl)
    · obtain rfl : ch = 112 := by omega
      refine lv_aload_n hx hb dX5_isDone_34 rfl (lv_at hl 0 rfl) ?_
      refine lv_aload_n hx hb dX5_isDone_35 rfl (lv_at hl 0 rfl) ?_
      refine b_get (v := .ref (a 7)) hx hb hts inX5 hown hK hP 0 0 12 rfl rfl rfl (by decide) q3_37 rfl rfl dX5_isDone_36 ?_
      refine lv_iload_n hx hb dX5_isDone_39 rfl (lv_at hl 1 rfl) ?_
      refine b_iald (v := X 7 j) hx hb hK hP 0 8 (j) rfl rfl rfl (by omega) rfl rfl dX5_isDone_40 ?_
      refine b_top (y := nI o) h7 ?_
      refine lv_aload_n hx hb dX5_isDone_41 rfl (lv_at hl 0 rfl) ?_
      refine b_get (v := .ref (a 8)) hx hb hts inX5 hown hK hP 0 0 13 rfl rfl rfl (by decide) q3_38 rfl rfl dX5_isDone_42 ?_
      refine lv_iload_n hx hb dX5_isDone_45 rfl (lv_at hl 1 rfl) ?_
      refine b_iald (v := X 8 j) hx hb hK hP 0 9 (j) rfl rfl rfl (by omega) rfl rfl dX5_isDone_46 ?_
      refine b_top (y := y) h8 ?_
      refine call_VR (As := [.int (nI o), .int y]) (rest := []) E rfl hK hP (c_X5_hasBells l g h a V X o y (by omega)) ok_X5_hasBells rfl q3_118 [0] rfl (b_recv hK hP 0 0 rfl rfl rfl rfl) ⟨⟨rfl, rfl⟩, Nat.le_of_ble_eq_true rfl, Nat.le_of_ble_eq_true rfl⟩ hl.1 (Nat.le_of_ble_eq_true rfl) ⟨Nat.le_of_ble_eq_true rfl, Nat.le_of_ble_eq_true rfl⟩ rfl dX5_isDone_47 ?_
      refine lv_istore_n (lv' := [(2, .int (bI (hasM V o y))), (0, .ref h), (1, .int (nI j))]) hx hb dX5_isDone_50 rfl hl (by decide) rfl (fun ls hl => ?_)
      refine lv_aload_n hx hb dX5_isDone_51 rfl (lv_at hl 1 rfl) ?_
      refine lv_aload_n hx hb dX5_isDone_52 rfl (lv_at hl 1 rfl) ?_
      refine b_get (v := .ref (a 7)) hx hb hts inX5 hown hK hP 0 0 12 rfl rfl rfl (by decide) q3_37 rfl rfl dX5_isDone_53 ?_
      refine lv_iload_n hx hb dX5_isDone_56 rfl (lv_at hl 2 rfl) ?_
      refine b_iald (v := X 7 j) hx hb hK hP 0 8 (j) rfl rfl rfl (by omega) rfl rfl dX5_isDone_57 ?_
      refine b_top (y := nI o) h7 ?_
      refine lv_iconst (v := 4) hx hb dX5_isDone_58 (by decide) ?_
      refine lv_iload_n hx hb dX5_isDone_59 rfl (lv_at hl 0 rfl) ?_
      refine b_eq0 (tgt := 72) hx hb dX5_isDone_60 (by decide) (fun h_6 => ?_) (fun h_6 => ?_)
      · refine lv_aload_n hx hb dX5_isDone_72 rfl (lv_at hl 1 rfl) ?_
        refine lv_aload_n hx hb dX5_isDone_73 rfl (lv_at hl 1 rfl) ?_
        refine b_get (v := .ref (a 7)) hx hb hts inX5 hown hK hP 0 0 12 rfl rfl rfl (by decide) q3_37 rfl rfl dX5_isDone_74 ?_
        refine lv_iload_n hx hb dX5_isDone_77 rfl (lv_at hl 2 rfl) ?_
        refine b_iald (v := X 7 j) hx hb hK hP 0 8 (j) rfl rfl rfl (by omega) rfl rfl dX5_isDone_78 ?_
        refine b_top (y := nI o) h7 ?_
        refine lv_iconst (v := 4) hx hb dX5_isDone_79 (by decide) ?_
        refine call_VR (As := [.int (nI o), .int 4]) (rest := [.int 4, .int (nI o), .ref h]) E rfl hK hP (c_X5_of_k l g h a V X o 4 (by omega) (by omega)) ok_X5_of rfl q3_94 [0] rfl (b_recv hK hP 0 0 rfl rfl rfl rfl) ⟨⟨rfl, rfl⟩, Nat.le_of_ble_eq_true rfl, Nat.le_of_ble_eq_true rfl⟩ hl.1 (Nat.le_of_ble_eq_true rfl) ⟨Nat.le_of_ble_eq_true rfl, Nat.le_of_ble_eq_true rfl⟩ rfl dX5_isDone_80 ?_
        refine call_VU (As := [.int (nI o), .int 4, .int (V 4 o)]) (rest := []) E rfl hK hW (c_X5_put_k l g h a V X o 4 (V 4 o) (by omega) (by omega)) ok_X5_put rfl q3_21 [0] rfl (by decide) (b_recv hK hP 0 0 rfl rfl rfl rfl) ⟨⟨rfl, rfl⟩, Nat.le_of_ble_eq_true rfl, Nat.le_of_ble_eq_true rfl⟩ hl.1 (Nat.le_of_ble_eq_true rfl) ⟨Nat.le_of_ble_eq_true rfl, Nat.le_of_ble_eq_true rfl⟩ rfl dX5_isDone_83 (fun _u H locs _ hW => ?_)
        have hW : wd g _ s.heap [mV g h a (up2 V 4 o (V 4 o)) X] H locs := hW
        have hP := hW.1
        refine lv_iload_n hx hb dX5_isDone_86 rfl (lv_at hl 0 rfl) ?_
        exact uZ_ret () hW hx hb hr hlocks dX5_isDone_87 (by unfold bI; split <;> rfl) (by rw [dnM, if_neg (by omega), if_pos rfl]; exact bI_iff decide_eq_true_iff.symm) trivial (by rw [dnM, if_neg (by omega), if_pos rfl]; show [mV g h a _ X] = [mV g h a (up2 V 4 o (if hasM V o y then y else V 4 o)) X]; first | (rw [if_pos h_6]; done) | (rw [if_neg h_6]; done)) (adr2 (L := [[h, a 0, a 1, a 2, a 3, a 4, a 5, a 6, a 7, a 8]]) rfl rfl)
      · refine lv_aload_n hx hb dX5_isDone_63 rfl (lv_at hl 1 rfl) ?_
        refine b_get (v := .ref (a 8)) hx hb hts inX5 hown hK hP 0 0 13 rfl rfl rfl (by decide) q3_38 rfl rfl dX5_isDone_64 ?_
        refine lv_iload_n hx hb dX5_isDone_67 rfl (lv_at hl 2 rfl) ?_
        refine b_iald (v := X 8 j) hx hb hK hP 0 9 (j) rfl rfl rfl (by omega) rfl rfl dX5_isDone_68 ?_
        refine b_top (y := y) h8 ?_
        refine lv_goto (tgt := 83) hx hb dX5_isDone_69 (by decide) ?_
        refine call_VU (As := [.int (nI o), .int 4, .int y]) (rest := []) E rfl hK hW (c_X5_put_k l g h a V X o 4 y (by omega) (by omega)) ok_X5_put rfl q3_21 [0] rfl (by decide) (b_recv hK hP 0 0 rfl rfl rfl rfl) ⟨⟨rfl, rfl⟩, Nat.le_of_ble_eq_true rfl, Nat.le_of_ble_eq_true rfl⟩ hl.1 (Nat.le_of_ble_eq_true rfl) ⟨Nat.le_of_ble_eq_true rfl, Nat.le_of_ble_eq_true rfl⟩ rfl dX5_isDone_83 (fun _u H locs _ hW => ?_)
        have hW : wd g _ s.heap [mV g h a (up2 V 4 o y) X] H locs := hW
        have hP := hW.1
        refine lv_iload_n hx hb dX5_isDone_86 rfl (lv_at hl 0 rfl) ?_
        exact uZ_ret () hW hx hb hr hlocks dX5_isDone_87 (by unfold bI; split <;> rfl) (by rw [dnM, if_neg (by omega), if_pos rfl]; exact bI_iff decide_eq_true_iff.symm) trivial (by rw [dnM, if_neg (by omega), if_pos rfl]; show [mV g h a _ X] = [mV g h a (up2 V 4 o (if hasM V o y then y else V 4 o)) X]; first | (rw [if_pos h_6]; done) | (rw [if_neg h_6]; done)) (adr2 (L := [[h, a 0, a 1, a 2, a 3, a 4, a 5, a 6, a 7, a 8]]) rfl rfl)
  · obtain rfl : ch = 116 := by omega
    refine lv_aload_n hx hb dX5_isDone_11 rfl (lv_at hl 0 rfl) ?_
    refine lv_aload_n hx hb dX5_isDone_12 rfl (lv_at hl 0 rfl) ?_
    refine b_get (v := .ref (a 7)) hx hb hts inX5 hown hK hP 0 0 12 rfl rfl rfl (by decide) q3_37 rfl rfl dX5_isDone_13 ?_
    refine lv_iload_n hx hb dX5_isDone_16 rfl (lv_at hl 1 rfl) ?_
    refine b_iald (v := X 7 j) hx hb hK hP 0 8 (j) rfl rfl rfl (by omega) rfl rfl dX5_isDone_17 ?_
    refine b_top (y := nI o) h7 ?_
    refine call_VU (As := [.int (nI o)]) (rest := []) E rfl hK hW (c_X5_turnsNow l g h a V X cq hc o (by omega)) ok_X5_turnsNow rfl q3_150 [0] rfl (by decide) (b_recv hK hP 0 0 rfl rfl rfl rfl) ⟨⟨rfl, rfl⟩, Nat.le_of_ble_eq_true rfl, Nat.le_of_ble_eq_true rfl⟩ hl.1 (Nat.le_of_ble_eq_true rfl) ⟨Nat.le_of_ble_eq_true rfl, Nat.le_of_ble_eq_true rfl⟩ rfl dX5_isDone_18 (fun _u H locs _ hW => ?_)
    have hW : wd g _ s.heap [mV g h a ((mtM V X cq o).1) ((mtM V X cq o).2)] H locs := hW
    have hP := hW.1
    obtain ⟨U_7, hU_7⟩ : ∃ z, z = (mtM V X cq o).1 := ⟨_, rfl⟩
    rw [← hU_7] at hW
    obtain ⟨U_8, hU_8⟩ : ∃ z, z = (mtM V X cq o).2 := ⟨_, rfl⟩
    rw [← hU_8] at hW
    have hP := hW.1
    refine lv_iconst (v := 1) hx hb dX5_isDone_21 (by decide) ?_
    exact uZ_ret () hW hx hb hr hlocks dX5_isDone_22 (by rfl) (by rw [dnM, if_pos rfl]; exact bI_t rfl) trivial (by rw [dnM, if_pos rfl, hU_8, hU_7]) (adr2 (L := [[h, a 0, a 1, a 2, a 3, a 4, a 5, a 6, a 7, a 8]]) rfl rfl)
