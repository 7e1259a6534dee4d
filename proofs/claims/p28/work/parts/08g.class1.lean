set_option maxHeartbeats 4000000 in
set_option maxRecDepth 100000 in
theorem c_X3_removeBell (l : Launch) (g : gx) (h : Nat) (a : Nat → Nat) (V : sV) (t b c0 : Nat) (ht : t < 6) (hc : V 3 t = nI c0) (hc5 : c0 ≤ 5) (hb0 : b < c0)  : cU (S := Unit) l g yX3_removeBell cX3_removeBell 6 none ({ frames := 1, cells := 0, slots := 0, locals := 24 } : Room) [.ref h, .int (nI t), .int (nI b)] [vB g h a V] (fun _ => none) (fun _ => True) (fun _ => [vB g h a (remV V t b c0)]) := by
  refine cU.mk (by decide +kernel) (Nat.le_of_ble_eq_true rfl) ?_
  intro p e s m below meth c ls E hK hW hl
  obtain ⟨hx, hb, hr, hml, hts, hown, hlocks, hin⟩ := id E
  have hown : s.vm.findClass RX3 = some m.cls := hown
  have hP := hW.1
  have hl : lv_has ls 6 [(0, .ref h), (1, .int (nI t)), (2, .int (nI b))] := hl
  refine lv_aload_n hx hb dX3_removeBell_0 rfl (lv_at hl 0 rfl) ?_
  refine b_get (v := .ref (a 3)) hx hb hts inX3 hown hK hP 0 0 3 rfl rfl rfl (by decide) q1_29 rfl rfl dX3_removeBell_1 ?_
  refine lv_iload_n hx hb dX3_removeBell_4 rfl (lv_at hl 1 rfl) ?_
  refine b_iald (v := V 3 t) hx hb hK hP 0 4 (t) rfl rfl rfl (by omega) rfl rfl dX3_removeBell_5 ?_
  refine b_top (y := nI c0) hc ?_
  refine lv_iconst (v := 1) hx hb dX3_removeBell_6 (by decide) ?_
  refine lv_isub hx hb dX3_removeBell_7 ?_
  refine b_top (y := nI (c0 - 1)) (pk_sub (a := c0) (b := 1) (by omega)) ?_
  refine lv_istore_n (lv' := [(3, .int (nI (c0 - 1))), (0, .ref h), (1, .int (nI t)), (2, .int (nI b))]) hx hb dX3_removeBell_8 rfl hl (by decide) rfl (fun ls hl => ?_)
  refine lv_iload_n hx hb dX3_removeBell_9 rfl (lv_at hl 3 rfl) ?_
  refine lv_iconst (v := 1) hx hb dX3_removeBell_10 (by decide) ?_
  refine lv_iadd hx hb dX3_removeBell_11 ?_
  refine b_top (y := nI (b + 1)) (nI_add b 1) ?_
  refine lv_istore (lv' := [(4, .int (nI (b + 1))), (3, .int (nI (c0 - 1))), (0, .ref h), (1, .int (nI t)), (2, .int (nI b))]) hx hb dX3_removeBell_12 hl (by decide) rfl (fun ls hl => ?_)
  refine loopN (fun k : Nat => ∀ (H : Heap) (locs : List Loc) (ls : Array Slot), wd g (fun q => q ∈ adr [vB g h a V]) s.heap [vB g h a (shV V t b k)] H locs → lv_has ls 6 [(0, .ref h), (1, .int (nI t)), (2, .int (nI b)), (3, .int (nI (c0 - 1))), (4, .int (nI (b + 1 + k)))] → W p l e _ s m _ below meth c H locs 0 0 _ (F0 m 14 ls [])) (c0 - 1 - b) (fun k hi ih_k => ?_) (0) (by omega)  s.heap [] ls hW (lv_sub hl [2, 3, 4, 1, 0] rfl) 
  intro  H locs ls hW hl 
  have hP := hW.1
  refine lv_iload hx hb dX3_removeBell_14 (lv_at hl 4 rfl) ?_
  refine lv_iload_n hx hb dX3_removeBell_16 rfl (lv_at hl 3 rfl) ?_
  refine b_gt (tgt := 63) (b + 1 + k) (c0 - 1) hx hb rfl rfl (by omega) (by omega) dX3_removeBell_17 (by decide) (fun h_1 => ?_) (fun h_1 => ?_)
  · obtain rfl : k = c0 - 1 - b := by omega
    obtain ⟨U_2, hU_2⟩ : ∃ z, z = (shV V t b (c0 - 1 - b)) := ⟨_, rfl⟩
    rw [← hU_2] at hW
    have hP := hW.1
    refine lv_aload_n hx hb dX3_removeBell_63 rfl (lv_at hl 0 rfl) ?_
    refine lv_iload_n hx hb dX3_removeBell_64 rfl (lv_at hl 1 rfl) ?_
    refine lv_iload_n hx hb dX3_removeBell_65 rfl (lv_at hl 3 rfl) ?_
    refine call_NR (As := [.int (nI t), .int (nI (c0 - 1))]) (rest := [.ref h]) E rfl hK hP (c_X4_slot l g t (c0 - 1)) ok_X4_slot rfl hK.2.2.2.2.2.2 [] rfl ⟨⟨rfl, rfl⟩, Nat.le_of_ble_eq_true rfl, Nat.le_of_ble_eq_true rfl⟩ hl.1 (Nat.le_of_ble_eq_true rfl) ⟨Nat.le_of_ble_eq_true rfl, Nat.le_of_ble_eq_true rfl⟩ rfl dX3_removeBell_66 ?_
    refine lv_iconst (v := 0) hx hb dX3_removeBell_69 (by decide) ?_
    refine lv_iconst (v := 0) hx hb dX3_removeBell_70 (by decide) ?_
    refine lv_iconst (v := 0) hx hb dX3_removeBell_71 (by decide) ?_
    refine call_VU (As := [.int (nI (t * 5 + (c0 - 1))), .int 0, .int 0, .int 0]) (rest := []) E rfl hK hW (c_X3_fillSlot l g h a U_2 (t * 5 + (c0 - 1)) 0 0 0 (by omega)) ok_X3_fillSlot rfl q2_168 [0] rfl (by decide) (b_recv hK hP 0 0 rfl rfl rfl rfl) ⟨⟨rfl, rfl⟩, Nat.le_of_ble_eq_true rfl, Nat.le_of_ble_eq_true rfl⟩ hl.1 (Nat.le_of_ble_eq_true rfl) ⟨Nat.le_of_ble_eq_true rfl, Nat.le_of_ble_eq_true rfl⟩ rfl dX3_removeBell_72 (fun _u H locs _ hW => ?_)
    have hW : wd g _ s.heap [vB g h a (up2 (up2 (up2 U_2 9 (t * 5 + (c0 - 1)) 0) 10 (t * 5 + (c0 - 1)) 0) 11 (t * 5 + (c0 - 1)) 0)] H locs := hW
    have hP := hW.1
    refine lv_aload_n hx hb dX3_removeBell_75 rfl (lv_at hl 0 rfl) ?_
    refine b_get (v := .ref (a 3)) hx hb hts inX3 hown hK hP 0 0 3 rfl rfl rfl (by decide) q1_29 rfl rfl dX3_removeBell_76 ?_
    refine lv_iload_n hx hb dX3_removeBell_79 rfl (lv_at hl 1 rfl) ?_
    refine lv_iload_n hx hb dX3_removeBell_80 rfl (lv_at hl 3 rfl) ?_
    refine b_iast (B' := [vB g h a (up2 (up2 (up2 (up2 U_2 9 (t * 5 + (c0 - 1)) 0) 10 (t * 5 + (c0 - 1)) 0) 11 (t * 5 + (c0 - 1)) 0) 3 t (nI (c0 - 1)))]) hx hb hK hW 0 4 (t) rfl rfl rfl (by omega) rfl rfl dX3_removeBell_81 (fun H locs hW => ?_)
    have hP := hW.1
    refine lv_aload_n hx hb dX3_removeBell_82 rfl (lv_at hl 0 rfl) ?_
    refine b_get (v := .ref (a 4)) hx hb hts inX3 hown hK hP 0 0 4 rfl rfl rfl (by decide) q1_31 rfl rfl dX3_removeBell_83 ?_
    refine lv_iload_n hx hb dX3_removeBell_86 rfl (lv_at hl 1 rfl) ?_
    refine b_iald (v := U_2 4 t) hx hb hK hP 0 5 (t) rfl rfl rfl (by omega) rfl rfl dX3_removeBell_87 ?_
    refine lv_iconst (v := 1) hx hb dX3_removeBell_88 (by decide) ?_
    refine lv_iload_n hx hb dX3_removeBell_89 rfl (lv_at hl 2 rfl) ?_
    refine lv_ishl hx hb dX3_removeBell_90 ?_
    refine lv_iconst (v := 1) hx hb dX3_removeBell_91 (by decide) ?_
    refine lv_isub hx hb dX3_removeBell_92 ?_
    refine lv_iand hx hb dX3_removeBell_93 ?_
    refine lv_istore (lv' := [(4, .int ((U_2 4 t) &&& ((1 <<< ((nI b) &&& 31)) - 1))), (0, .ref h), (1, .int (nI t)), (2, .int (nI b)), (3, .int (nI (c0 - 1)))]) hx hb dX3_removeBell_94 hl (by decide) rfl (fun ls hl => ?_)
    refine lv_aload_n hx hb dX3_removeBell_96 rfl (lv_at hl 1 rfl) ?_
    refine b_get (v := .ref (a 4)) hx hb hts inX3 hown hK hP 0 0 4 rfl rfl rfl (by decide) q1_31 rfl rfl dX3_removeBell_97 ?_
    refine lv_iload_n hx hb dX3_removeBell_100 rfl (lv_at hl 2 rfl) ?_
    refine b_iald (v := U_2 4 t) hx hb hK hP 0 5 (t) rfl rfl rfl (by omega) rfl rfl dX3_removeBell_101 ?_
    refine lv_iload_n hx hb dX3_removeBell_102 rfl (lv_at hl 3 rfl) ?_
    refine lv_iconst (v := 1) hx hb dX3_removeBell_103 (by decide) ?_
    refine lv_iadd hx hb dX3_removeBell_104 ?_
    refine b_top (y := nI (b + 1)) (nI_add b 1) ?_
    refine lv_ishr hx hb dX3_removeBell_105 ?_
    refine lv_istore (lv' := [(5, .int ((U_2 4 t) >>> ((nI (b + 1)) &&& 31))), (4, .int ((U_2 4 t) &&& ((1 <<< ((nI b) &&& 31)) - 1))), (0, .ref h), (1, .int (nI t)), (2, .int (nI b)), (3, .int (nI (c0 - 1)))]) hx hb dX3_removeBell_106 hl (by decide) rfl (fun ls hl => ?_)
    refine lv_aload_n hx hb dX3_removeBell_108 rfl (lv_at hl 2 rfl) ?_
    refine b_get (v := .ref (a 4)) hx hb hts inX3 hown hK hP 0 0 4 rfl rfl rfl (by decide) q1_31 rfl rfl dX3_removeBell_109 ?_
    refine lv_iload_n hx hb dX3_removeBell_112 rfl (lv_at hl 3 rfl) ?_
    refine lv_iload hx hb dX3_removeBell_113 (lv_at hl 1 rfl) ?_
    refine lv_iload hx hb dX3_removeBell_115 (lv_at hl 0 rfl) ?_
    refine lv_iload_n hx hb dX3_removeBell_117 rfl (lv_at hl 4 rfl) ?_
    refine lv_ishl hx hb dX3_removeBell_118 ?_
    refine lv_ior hx hb dX3_removeBell_119 ?_
    refine b_iast (B' := [vB g h a (up2 (up2 (up2 (up2 (up2 U_2 9 (t * 5 + (c0 - 1)) 0) 10 (t * 5 + (c0 - 1)) 0) 11 (t * 5 + (c0 - 1)) 0) 3 t (nI (c0 - 1))) 4 t (((U_2 4 t) &&& ((1 <<< ((nI b) &&& 31)) - 1)) ||| (((U_2 4 t) >>> ((nI (b + 1)) &&& 31)) <<< ((nI b) &&& 31))))]) hx hb hK hW 0 5 (t) rfl rfl rfl (by omega) rfl rfl dX3_removeBell_120 (fun H locs hW => ?_)
    have hP := hW.1
    exact uV_ret () hW hx hb hr hlocks dX3_removeBell_121 trivial (by rw [hU_2]) (adr2 (L := [[h, a 0, a 1, a 2, a 3, a 4, a 5, a 6, a 7, a 8, a 9, a 10, a 11]]) rfl rfl)
  · refine lv_iload_n hx hb dX3_removeBell_20 rfl (lv_at hl 1 rfl) ?_
    refine lv_iload hx hb dX3_removeBell_21 (lv_at hl 4 rfl) ?_
    refine call_NR (As := [.int (nI t), .int (nI (b + 1 + k))]) (rest := []) E rfl hK hP (c_X4_slot l g t (b + 1 + k)) ok_X4_slot rfl hK.2.2.2.2.2.2 [] rfl ⟨⟨rfl, rfl⟩, Nat.le_of_ble_eq_true rfl, Nat.le_of_ble_eq_true rfl⟩ hl.1 (Nat.le_of_ble_eq_true rfl) ⟨Nat.le_of_ble_eq_true rfl, Nat.le_of_ble_eq_true rfl⟩ rfl dX3_removeBell_23 ?_
    refine lv_istore (lv' := [(5, .int (nI (t * 5 + (b + 1 + k)))), (0, .ref h), (1, .int (nI t)), (2, .int (nI b)), (3, .int (nI (c0 - 1))), (4, .int (nI (b + 1 + k)))]) hx hb dX3_removeBell_26 hl (by decide) rfl (fun ls hl => ?_)
    refine lv_aload_n hx hb dX3_removeBell_28 rfl (lv_at hl 1 rfl) ?_
    refine lv_iload hx hb dX3_removeBell_29 (lv_at hl 0 rfl) ?_
    refine lv_iconst (v := 1) hx hb dX3_removeBell_31 (by decide) ?_
    refine lv_isub hx hb dX3_removeBell_32 ?_
    refine b_top (y := nI ((t * 5 + (b + 1 + k)) - 1)) (pk_sub (a := t * 5 + (b + 1 + k)) (b := 1) (by omega)) ?_
    refine lv_aload_n hx hb dX3_removeBell_33 rfl (lv_at hl 1 rfl) ?_
    refine b_get (v := .ref (a 9)) hx hb hts inX3 hown hK hP 0 0 9 rfl rfl rfl (by decide) q1_42 rfl rfl dX3_removeBell_34 ?_
    refine lv_iload hx hb dX3_removeBell_37 (lv_at hl 0 rfl) ?_
    refine b_iald (v := (shV V t b k) 9 (t * 5 + (b + 1 + k))) hx hb hK hP 0 10 (t * 5 + (b + 1 + k)) rfl rfl rfl (by omega) rfl rfl dX3_removeBell_39 ?_
    refine lv_aload_n hx hb dX3_removeBell_40 rfl (lv_at hl 1 rfl) ?_
    refine b_get (v := .ref (a 10)) hx hb hts inX3 hown hK hP 0 0 10 rfl rfl rfl (by decide) q1_45 rfl rfl dX3_removeBell_41 ?_
    refine lv_iload hx hb dX3_removeBell_44 (lv_at hl 0 rfl) ?_
    refine b_iald (v := (shV V t b k) 10 (t * 5 + (b + 1 + k))) hx hb hK hP 0 11 (t * 5 + (b + 1 + k)) rfl rfl rfl (by omega) rfl rfl dX3_removeBell_46 ?_
    refine lv_aload_n hx hb dX3_removeBell_47 rfl (lv_at hl 1 rfl) ?_
    refine b_get (v := .ref (a 11)) hx hb hts inX3 hown hK hP 0 0 11 rfl rfl rfl (by decide) q1_48 rfl rfl dX3_removeBell_48 ?_
    refine lv_iload hx hb dX3_removeBell_51 (lv_at hl 0 rfl) ?_
    refine b_iald (v := (shV V t b k) 11 (t * 5 + (b + 1 + k))) hx hb hK hP 0 12 (t * 5 + (b + 1 + k)) rfl rfl rfl (by omega) rfl rfl dX3_removeBell_53 ?_
    refine call_VU (As := [.int (nI ((t * 5 + (b + 1 + k)) - 1)), .int ((shV V t b k) 9 (t * 5 + (b + 1 + k))), .int ((shV V t b k) 10 (t * 5 + (b + 1 + k))), .int ((shV V t b k) 11 (t * 5 + (b + 1 + k)))]) (rest := []) E rfl hK hW (c_X3_fillSlot l g h a (shV V t b k) ((t * 5 + (b + 1 + k)) - 1) ((shV V t b k) 9 (t * 5 + (b + 1 + k))) ((shV V t b k) 10 (t * 5 + (b + 1 + k))) ((shV V t b k) 11 (t * 5 + (b + 1 + k))) (by omega)) ok_X3_fillSlot rfl q2_168 [0] rfl (by decide) (b_recv hK hP 0 0 rfl rfl rfl rfl) ⟨⟨rfl, rfl⟩, Nat.le_of_ble_eq_true rfl, Nat.le_of_ble_eq_true rfl⟩ hl.1 (Nat.le_of_ble_eq_true rfl) ⟨Nat.le_of_ble_eq_true rfl, Nat.le_of_ble_eq_true rfl⟩ rfl dX3_removeBell_54 (fun _u H locs _ hW => ?_)
    have hW : wd g _ s.heap [vB g h a (up2 (up2 (up2 (shV V t b k) 9 ((t * 5 + (b + 1 + k)) - 1) ((shV V t b k) 9 (t * 5 + (b + 1 + k)))) 10 ((t * 5 + (b + 1 + k)) - 1) ((shV V t b k) 10 (t * 5 + (b + 1 + k)))) 11 ((t * 5 + (b + 1 + k)) - 1) ((shV V t b k) 11 (t * 5 + (b + 1 + k))))] H locs := hW
    have hP := hW.1
    refine lv_iinc (v := nI (b + 1 + k + 1)) (lv' := [(4, .int (nI (b + 1 + k + 1))), (5, .int (nI (t * 5 + (b + 1 + k)))), (0, .ref h), (1, .int (nI t)), (2, .int (nI b)), (3, .int (nI (c0 - 1)))]) hx hb dX3_removeBell_57 hl (k := 5) rfl (nI_add (b + 1 + k) 1) (by decide) rfl (fun ls hl => ?_)
    refine lv_goto (tgt := 14) hx hb dX3_removeBell_60 (by decide) ?_
    have e_3 : ([vB g h a (shV V t b (k + 1))] : List va_W) = [vB g h a (up2 (up2 (up2 (shV V t b k) 9 ((t * 5 + (b + 1 + k)) - 1) ((shV V t b k) 9 (t * 5 + (b + 1 + k)))) 10 ((t * 5 + (b + 1 + k)) - 1) ((shV V t b k) 10 (t * 5 + (b + 1 + k)))) 11 ((t * 5 + (b + 1 + k)) - 1) ((shV V t b k) 11 (t * 5 + (b + 1 + k))))] := rfl
    exact ih_k (by omega)  _ _ _ (by rw [e_3]; exact hW) (lv_sub hl [2, 3, 4, 5, 0] rfl) 
