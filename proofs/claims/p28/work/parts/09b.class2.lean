set_option maxHeartbeats 4000000 in
set_option maxRecDepth 100000 in
theorem c_X1_pointsOf (l : Launch) (g : gx) (h : Nat) (a : Nat → Nat) (N : sV) (x : Int32)  : cR l g yX1_pointsOf cX1_pointsOf 4 (some .int) ({ frames := 0, cells := 0, slots := 0, locals := 0 } : Room) [.ref h, .int x] [rB g h a N] (.int (cntF (fun e => N 3 e = x) 6)) := by
  refine cR.mk (by decide +kernel) (Nat.le_of_ble_eq_true rfl) ?_
  intro p e s m below meth c ls E hK hP hl
  obtain ⟨hx, hb, hr, hml, hts, hown, hlocks, hin⟩ := id E
  have hown : s.vm.findClass RX1 = some m.cls := hown
  have hl : lv_has ls 4 [(0, .ref h), (1, .int x)] := hl
  refine lv_iconst (v := 0) hx hb dX1_pointsOf_0 (by decide) ?_
  refine lv_istore_n (lv' := [(2, .int 0), (0, .ref h), (1, .int x)]) hx hb dX1_pointsOf_1 rfl hl (by decide) rfl (fun ls hl => ?_)
  refine lv_iconst (v := 0) hx hb dX1_pointsOf_2 (by decide) ?_
  refine lv_istore_n (lv' := [(3, .int 0), (2, .int 0), (0, .ref h), (1, .int x)]) hx hb dX1_pointsOf_3 rfl hl (by decide) rfl (fun ls hl => ?_)
  refine loopN (fun i : Nat => ∀ ls : Array Slot, lv_has ls 4 [(0, .ref h), (1, .int x), (2, .int (cntF (fun e => N 3 e = x) i)), (3, .int (nI i))] → W p l e _ s m _ below meth c s.heap [] 0 0 _ (F0 m 4 ls [])) (6) (fun i hi ih_i => ?_) (0) (by omega)  ls (lv_sub hl [2, 3, 1, 0] rfl) 
  intro  ls hl 
  refine lv_iload_n hx hb dX1_pointsOf_4 rfl (lv_at hl 3 rfl) ?_
  refine lv_bipush (v := 6) hx hb dX1_pointsOf_5 (by decide) ?_
  refine b_ge (tgt := 29) (i) (6) hx hb rfl rfl (by omega) (by omega) dX1_pointsOf_7 (by decide) (fun h_1 => ?_) (fun h_1 => ?_)
  · obtain rfl : i = 6 := by omega
    refine lv_iload_n hx hb dX1_pointsOf_29 rfl (lv_at hl 2 rfl) ?_
    exact rI_ret hx hb hr hlocks dX1_pointsOf_30 (rfl)
  · refine lv_aload_n hx hb dX1_pointsOf_10 rfl (lv_at hl 0 rfl) ?_
    refine b_get (v := .ref (a 3)) hx hb hts inX1 hown hK hP 0 0 3 rfl rfl rfl (by decide) q1_130 rfl rfl dX1_pointsOf_11 ?_
    refine lv_iload_n hx hb dX1_pointsOf_14 rfl (lv_at hl 3 rfl) ?_
    refine b_iald (v := N 3 i) hx hb hK hP 0 4 (i) rfl rfl rfl (by omega) rfl rfl dX1_pointsOf_15 ?_
    refine lv_iload_n hx hb dX1_pointsOf_16 rfl (lv_at hl 1 rfl) ?_
    refine lv_icmp_ne (tgt := 23) hx hb dX1_pointsOf_17 (by decide) (fun h_2 => ?_) (fun h_2 => ?_)
    · refine lv_iinc (v := nI (i + 1)) (lv' := [(3, .int (nI (i + 1))), (0, .ref h), (1, .int x), (2, .int (cntF (fun e => N 3 e = x) i))]) hx hb dX1_pointsOf_23 hl (k := 3) rfl (nI_add i 1) (by decide) rfl (fun ls hl => ?_)
      refine lv_goto (tgt := 4) hx hb dX1_pointsOf_26 (by decide) ?_
      have e_3 : cntF (fun e => N 3 e = x) (i + 1) = cntF (fun e => N 3 e = x) i := by simp only [h_1, h_2, cntF, Int32.le_refl, not_true_eq_false, not_false_eq_true, ite_true, ite_false, reduceIte]
      exact ih_i (by omega)  _ (by rw [e_3]; exact lv_sub hl [1, 2, 3, 0] rfl) 
    · refine lv_iinc (v := cntF (fun e => N 3 e = x) i + 1) (lv' := [(2, .int (cntF (fun e => N 3 e = x) i + 1)), (0, .ref h), (1, .int x), (3, .int (nI i))]) hx hb dX1_pointsOf_20 hl (k := 2) rfl rfl (by decide) rfl (fun ls hl => ?_)
      refine lv_iinc (v := nI (i + 1)) (lv' := [(3, .int (nI (i + 1))), (2, .int (cntF (fun e => N 3 e = x) i + 1)), (0, .ref h), (1, .int x)]) hx hb dX1_pointsOf_23 hl (k := 3) rfl (nI_add i 1) (by decide) rfl (fun ls hl => ?_)
      refine lv_goto (tgt := 4) hx hb dX1_pointsOf_26 (by decide) ?_
      have e_4 : cntF (fun e => N 3 e = x) (i + 1) = cntF (fun e => N 3 e = x) i + 1 := by simp only [h_1, h_2, cntF, Int32.le_refl, not_true_eq_false, not_false_eq_true, ite_true, ite_false, reduceIte]
      exact ih_i (by omega)  _ (by rw [e_4]; exact lv_sub hl [2, 3, 1, 0] rfl) 

set_option maxHeartbeats 4000000 in
set_option maxRecDepth 100000 in
theorem c_X1_ringIn (l : Launch) (g : gx) (h : Nat) (a : Nat → Nat) (N : sV) (o : Nat) (oa : Nat → Nat) (V : sV) (t : Nat) (ht : t < 6)  : cU (S := Unit) l g yX1_ringIn cX1_ringIn 11 none ({ frames := 2, cells := 0, slots := 0, locals := 42 } : Room) [.ref h, .ref o, .int (nI t)] [rB g h a N, vB g o oa V] (fun _ => none) (fun _ => True) (fun _ => [rB g h a (rinN V t N), vB g o oa V]) := by
  refine cU.mk (by decide +kernel) (Nat.le_of_ble_eq_true rfl) ?_
  intro p e s m below meth c ls E hK hW hl
  obtain ⟨hx, hb, hr, hml, hts, hown, hlocks, hin⟩ := id E
  have hown : s.vm.findClass RX1 = some m.cls := hown
  have hP := hW.1
  have hl : lv_has ls 11 [(0, .ref h), (1, .ref o), (2, .int (nI t))] := hl
  refine lv_aload_n hx hb dX1_ringIn_0 rfl (lv_at hl 1 rfl) ?_
  refine lv_iload_n hx hb dX1_ringIn_1 rfl (lv_at hl 2 rfl) ?_
  refine call_VR (As := [.int (nI t)]) (rest := []) E rfl hK hP (c_X3_wantedBells l g o oa V t (by omega)) ok_X3_wantedBells rfl q1_216 [1] rfl (b_recv hK hP 1 0 rfl rfl rfl rfl) ⟨⟨rfl, rfl⟩, Nat.le_of_ble_eq_true rfl, Nat.le_of_ble_eq_true rfl⟩ hl.1 (Nat.le_of_ble_eq_true rfl) ⟨Nat.le_of_ble_eq_true rfl, Nat.le_of_ble_eq_true rfl⟩ rfl dX1_ringIn_2 ?_
  refine lv_istore_n (lv' := [(3, .int (wantC V t)), (0, .ref h), (1, .ref o), (2, .int (nI t))]) hx hb dX1_ringIn_5 rfl hl (by decide) rfl (fun ls hl => ?_)
  refine lv_aload_n hx hb dX1_ringIn_6 rfl (lv_at hl 2 rfl) ?_
  refine lv_iload_n hx hb dX1_ringIn_7 rfl (lv_at hl 3 rfl) ?_
  refine call_VR (As := [.int (nI t)]) (rest := []) E rfl hK hP (c_X3_rested l g o oa V t (by omega)) ok_X3_rested rfl q1_224 [1] rfl (b_recv hK hP 1 0 rfl rfl rfl rfl) ⟨⟨rfl, rfl⟩, Nat.le_of_ble_eq_true rfl, Nat.le_of_ble_eq_true rfl⟩ hl.1 (Nat.le_of_ble_eq_true rfl) ⟨Nat.le_of_ble_eq_true rfl, Nat.le_of_ble_eq_true rfl⟩ rfl dX1_ringIn_8 ?_
  refine lv_istore (lv' := [(4, .int (resT V t)), (3, .int (wantC V t)), (0, .ref h), (1, .ref o), (2, .int (nI t))]) hx hb dX1_ringIn_11 hl (by decide) rfl (fun ls hl => ?_)
  refine lv_iconst (v := 0) hx hb dX1_ringIn_13 (by decide) ?_
  refine lv_istore (lv' := [(5, .int 0), (4, .int (resT V t)), (3, .int (wantC V t)), (0, .ref h), (1, .ref o), (2, .int (nI t))]) hx hb dX1_ringIn_14 hl (by decide) rfl (fun ls hl => ?_)
  refine lv_iconst (v := 0) hx hb dX1_ringIn_16 (by decide) ?_
  refine lv_istore (lv' := [(6, .int 0), (5, .int 0), (4, .int (resT V t)), (3, .int (wantC V t)), (0, .ref h), (1, .ref o), (2, .int (nI t))]) hx hb dX1_ringIn_17 hl (by decide) rfl (fun ls hl => ?_)
  refine lv_iconst (v := 0) hx hb dX1_ringIn_19 (by decide) ?_
  refine lv_istore (lv' := [(7, .int 0), (6, .int 0), (5, .int 0), (4, .int (resT V t)), (3, .int (wantC V t)), (0, .ref h), (1, .ref o), (2, .int (nI t))]) hx hb dX1_ringIn_20 hl (by decide) rfl (fun ls hl => ?_)
  refine loopN (fun i : Nat => ∀ (H : Heap) (locs : List Loc) (ls : Array Slot), wd g (fun q => q ∈ adr [rB g h a N, vB g o oa V]) s.heap [rB g h a (riN V t N i), vB g o oa V] H locs → lv_has ls 11 [(0, .ref h), (1, .ref o), (2, .int (nI t)), (3, .int (wantC V t)), (4, .int (resT V t)), (5, .int ((vbC V t i).1)), (6, .int ((vbC V t i).2)), (7, .int (nI i))] → W p l e _ s m _ below meth c H locs 0 0 _ (F0 m 22 ls [])) (5) (fun i hi ih_i => ?_) (0) (by omega)  s.heap [] ls hW (lv_sub hl [5, 6, 7, 4, 3, 2, 1, 0] rfl) 
  intro  H locs ls hW hl 
  have hP := hW.1
  refine lv_iload hx hb dX1_ringIn_22 (lv_at hl 7 rfl) ?_
  refine lv_iconst (v := 5) hx hb dX1_ringIn_24 (by decide) ?_
  refine b_ge (tgt := 176) (i) (5) hx hb rfl rfl (by omega) (by omega) dX1_ringIn_25 (by decide) (fun h_1 => ?_) (fun h_1 => ?_)
  · obtain rfl : i = 5 := by omega
    obtain ⟨U_2, hU_2⟩ : ∃ z, z = (riN V t N 5) := ⟨_, rfl⟩
    rw [← hU_2] at hW
    have hP := hW.1
    refine lv_aload_n hx hb dX1_ringIn_176 rfl (lv_at hl 0 rfl) ?_
    refine b_get (v := .ref (a 1)) hx hb hts inX1 hown hK hP 0 0 1 rfl rfl rfl (by decide) q1_126 rfl rfl dX1_ringIn_177 ?_
    refine lv_iload_n hx hb dX1_ringIn_180 rfl (lv_at hl 2 rfl) ?_
    refine lv_iload hx hb dX1_ringIn_181 (lv_at hl 5 rfl) ?_
    refine b_iast (B' := [rB g h a (up2 U_2 1 t ((vbC V t 5).1)), vB g o oa V]) hx hb hK hW 0 2 (t) rfl rfl rfl (by omega) rfl rfl dX1_ringIn_183 (fun H locs hW => ?_)
    have hP := hW.1
    refine lv_aload_n hx hb dX1_ringIn_184 rfl (lv_at hl 0 rfl) ?_
    refine b_get (v := .ref (a 2)) hx hb hts inX1 hown hK hP 0 0 2 rfl rfl rfl (by decide) q1_128 rfl rfl dX1_ringIn_185 ?_
    refine lv_iload_n hx hb dX1_ringIn_188 rfl (lv_at hl 2 rfl) ?_
    refine lv_iload hx hb dX1_ringIn_189 (lv_at hl 6 rfl) ?_
    refine b_iast (B' := [rB g h a (up2 (up2 U_2 1 t ((vbC V t 5).1)) 2 t ((vbC V t 5).2)), vB g o oa V]) hx hb hK hW 0 3 (t) rfl rfl rfl (by omega) rfl rfl dX1_ringIn_191 (fun H locs hW => ?_)
    have hP := hW.1
    exact uV_ret () hW hx hb hr hlocks dX1_ringIn_192 trivial (by rw [hU_2]) (adr2 (L := [[h, a 0, a 1, a 2, a 3], [o, oa 0, oa 1, oa 2, oa 3, oa 4, oa 5, oa 6, oa 7, oa 8, oa 9, oa 10, oa 11]]) rfl rfl)
  · refine lv_iload_n hx hb dX1_ringIn_28 rfl (lv_at hl 2 rfl) ?_
    refine lv_iload hx hb dX1_ringIn_29 (lv_at hl 7 rfl) ?_
    refine call_NR (As := [.int (nI t), .int (nI i)]) (rest := []) E rfl hK hP (c_X4_slot l g t i) ok_X4_slot rfl hK.2.2.2.1 [] rfl ⟨⟨rfl, rfl⟩, Nat.le_of_ble_eq_true rfl, Nat.le_of_ble_eq_true rfl⟩ hl.1 (Nat.le_of_ble_eq_true rfl) ⟨Nat.le_of_ble_eq_true rfl, Nat.le_of_ble_eq_true rfl⟩ rfl dX1_ringIn_31 ?_
    refine lv_istore (lv' := [(8, .int (nI (t * 5 + i))), (0, .ref h), (1, .ref o), (2, .int (nI t)), (3, .int (wantC V t)), (4, .int (resT V t)), (5, .int ((vbC V t i).1)), (6, .int ((vbC V t i).2)), (7, .int (nI i))]) hx hb dX1_ringIn_34 hl (by decide) rfl (fun ls hl => ?_)
    refine lv_iload_n hx hb dX1_ringIn_36 rfl (lv_at hl 4 rfl) ?_
    refine lv_iload hx hb dX1_ringIn_37 (lv_at hl 8 rfl) ?_
    refine lv_ishr hx hb dX1_ringIn_39 ?_
    refine lv_iconst (v := 1) hx hb dX1_ringIn_40 (by decide) ?_
    refine lv_iand hx hb dX1_ringIn_41 ?_
    refine lv_iconst (v := 1) hx hb dX1_ringIn_42 (by decide) ?_
    refine lv_icmp_ne (tgt := 50) hx hb dX1_ringIn_43 (by decide) (fun h_3 => ?_) (fun h_3 => ?_)
    · refine lv_iconst (v := 0) hx hb dX1_ringIn_50 (by decide) ?_
      refine lv_istore (lv' := [(9, .int 0), (8, .int (nI (t * 5 + i))), (0, .ref h), (1, .ref o), (2, .int (nI t)), (3, .int (wantC V t)), (4, .int (resT V t)), (5, .int ((vbC V t i).1)), (6, .int ((vbC V t i).2)), (7, .int (nI i))]) hx hb dX1_ringIn_51 hl (by decide) rfl (fun ls hl => ?_)
      refine lv_aload_n hx hb dX1_ringIn_53 rfl (lv_at hl 3 rfl) ?_
      refine b_get (v := .ref (oa 9)) hx hb hts inX3 hown hK hP 1 0 9 rfl rfl rfl (by decide) q1_44 rfl rfl dX1_ringIn_54 ?_
      refine lv_iload hx hb dX1_ringIn_57 (lv_at hl 1 rfl) ?_
      refine b_iald (v := V 9 (t * 5 + i)) hx hb hK hP 1 10 (t * 5 + i) rfl rfl rfl (by omega) rfl rfl dX1_ringIn_59 ?_
      refine lv_istore (lv' := [(10, .int (V 9 (t * 5 + i))), (9, .int 0), (8, .int (nI (t * 5 + i))), (0, .ref h), (1, .ref o), (2, .int (nI t)), (3, .int (wantC V t)), (4, .int (resT V t)), (5, .int ((vbC V t i).1)), (6, .int ((vbC V t i).2)), (7, .int (nI i))]) hx hb dX1_ringIn_60 hl (by decide) rfl (fun ls hl => ?_)
      refine lv_aload_n hx hb dX1_ringIn_62 rfl (lv_at hl 4 rfl) ?_
      refine b_get (v := .ref (oa 6)) hx hb hts inX3 hown hK hP 1 0 6 rfl rfl rfl (by decide) q1_36 rfl rfl dX1_ringIn_63 ?_
      refine lv_iload_n hx hb dX1_ringIn_66 rfl (lv_at hl 5 rfl) ?_
      refine b_iald (v := V 6 t) hx hb hK hP 1 7 (t) rfl rfl rfl (by omega) rfl rfl dX1_ringIn_67 ?_
      refine lv_if_le (tgt := 82) hx hb dX1_ringIn_68 (by decide) (fun h_4 => ?_) (fun h_4 => ?_)
      · refine lv_iload hx hb dX1_ringIn_82 (lv_at hl 1 rfl) ?_
        refine lv_if_ne (tgt := 98) hx hb dX1_ringIn_84 (by decide) (fun h_5 => ?_) (fun h_5 => ?_)
        · exact absurd h_5 (by decide)
        · refine lv_aload_n hx hb dX1_ringIn_87 rfl (lv_at hl 3 rfl) ?_
          refine b_get (v := .ref (a 0)) hx hb hts inX1 hown hK hP 0 0 0 rfl rfl rfl (by decide) q1_123 rfl rfl dX1_ringIn_88 ?_
          refine lv_iload hx hb dX1_ringIn_91 (lv_at hl 2 rfl) ?_
          refine lv_iconst (v := 2) hx hb dX1_ringIn_93 (by decide) ?_
          refine b_iast (B' := [rB g h a (up2 (riN V t N i) 0 (t * 5 + i) 2), vB g o oa V]) hx hb hK hW 0 1 (t * 5 + i) rfl rfl rfl (by omega) rfl rfl dX1_ringIn_94 (fun H locs hW => ?_)
          have hP := hW.1
          refine lv_goto (tgt := 170) hx hb dX1_ringIn_95 (by decide) ?_
          refine lv_iinc (v := nI (i + 1)) (lv' := [(7, .int (nI (i + 1))), (10, .int (V 9 (t * 5 + i))), (9, .int 0), (8, .int (nI (t * 5 + i))), (0, .ref h), (1, .ref o), (2, .int (nI t)), (3, .int (wantC V t)), (4, .int (resT V t)), (5, .int ((vbC V t i).1)), (6, .int ((vbC V t i).2))]) hx hb dX1_ringIn_170 hl (k := 10) rfl (nI_add i 1) (by decide) rfl (fun ls hl => ?_)
          refine lv_goto (tgt := 22) hx hb dX1_ringIn_173 (by decide) ?_
          have e_6 : (vbC V t (i + 1)).1 = (vbC V t i).1 := by simp only [h_1, h_3, h_4, vbC, bitW, Int32.le_refl, not_true_eq_false, not_false_eq_true, ite_true, ite_false, reduceIte]
          have e_7 : (vbC V t (i + 1)).2 = (vbC V t i).2 := by simp only [h_1, h_3, h_4, vbC, bitW, Int32.le_refl, not_true_eq_false, not_false_eq_true, ite_true, ite_false, reduceIte]
          have e_8 : ([rB g h a (riN V t N (i + 1)), vB g o oa V] : List va_W) = [rB g h a (up2 (riN V t N i) 0 (t * 5 + i) 2), vB g o oa V] := by simp only [h_1, h_3, h_4, riN, rsC, bitW, Int32.le_refl, not_true_eq_false, not_false_eq_true, ite_true, ite_false, reduceIte]
          exact ih_i (by omega)  _ _ _ (by rw [e_8]; exact hW) (by rw [e_6, e_7]; exact lv_sub hl [4, 5, 6, 7, 8, 9, 10, 0] rfl) 
      · refine lv_aload_n hx hb dX1_ringIn_71 rfl (lv_at hl 3 rfl) ?_
        refine b_get (v := .ref (a 0)) hx hb hts inX1 hown hK hP 0 0 0 rfl rfl rfl (by decide) q1_123 rfl rfl dX1_ringIn_72 ?_
        refine lv_iload hx hb dX1_ringIn_75 (lv_at hl 2 rfl) ?_
        refine lv_iconst (v := 1) hx hb dX1_ringIn_77 (by decide) ?_
        refine b_iast (B' := [rB g h a (up2 (riN V t N i) 0 (t * 5 + i) 1), vB g o oa V]) hx hb hK hW 0 1 (t * 5 + i) rfl rfl rfl (by omega) rfl rfl dX1_ringIn_78 (fun H locs hW => ?_)
        have hP := hW.1
        refine lv_goto (tgt := 170) hx hb dX1_ringIn_79 (by decide) ?_
        refine lv_iinc (v := nI (i + 1)) (lv' := [(7, .int (nI (i + 1))), (10, .int (V 9 (t * 5 + i))), (9, .int 0), (8, .int (nI (t * 5 + i))), (0, .ref h), (1, .ref o), (2, .int (nI t)), (3, .int (wantC V t)), (4, .int (resT V t)), (5, .int ((vbC V t i).1)), (6, .int ((vbC V t i).2))]) hx hb dX1_ringIn_170 hl (k := 10) rfl (nI_add i 1) (by decide) rfl (fun ls hl => ?_)
        refine lv_goto (tgt := 22) hx hb dX1_ringIn_173 (by decide) ?_
        have e_9 : (vbC V t (i + 1)).1 = (vbC V t i).1 := by simp only [h_1, h_3, h_4, vbC, bitW, Int32.le_refl, not_true_eq_false, not_false_eq_true, ite_true, ite_false, reduceIte]
        have e_10 : (vbC V t (i + 1)).2 = (vbC V t i).2 := by simp only [h_1, h_3, h_4, vbC, bitW, Int32.le_refl, not_true_eq_false, not_false_eq_true, ite_true, ite_false, reduceIte]
        have e_11 : ([rB g h a (riN V t N (i + 1)), vB g o oa V] : List va_W) = [rB g h a (up2 (riN V t N i) 0 (t * 5 + i) 1), vB g o oa V] := by simp only [h_1, h_3, h_4, riN, rsC, bitW, Int32.le_refl, not_true_eq_false, not_false_eq_true, ite_true, ite_false, reduceIte]
        exact ih_i (by omega)  _ _ _ (by rw [e_11]; exact hW) (by rw [e_9, e_10]; exact lv_sub hl [4, 5, 6, 7, 8, 9, 10, 0] rfl) 
    · refine lv_iconst (v := 1) hx hb dX1_ringIn_46 (by decide) ?_
      refine lv_goto (tgt := 51) hx hb dX1_ringIn_47 (by decide) ?_
      refine lv_istore (lv' := [(9, .int 1), (8, .int (nI (t * 5 + i))), (0, .ref h), (1, .ref o), (2, .int (nI t)), (3, .int (wantC V t)), (4, .int (resT V t)), (5, .int ((vbC V t i).1)), (6, .int ((vbC V t i).2)), (7, .int (nI i))]) hx hb dX1_ringIn_51 hl (by decide) rfl (fun ls hl => ?_)
      refine lv_aload_n hx hb dX1_ringIn_53 rfl (lv_at hl 3 rfl) ?_
      refine b_get (v := .ref (oa 9)) hx hb hts inX3 hown hK hP 1 0 9 rfl rfl rfl (by decide) q1_44 rfl rfl dX1_ringIn_54 ?_
      refine lv_iload hx hb dX1_ringIn_57 (lv_at hl 1 rfl) ?_
      refine b_iald (v := V 9 (t * 5 + i)) hx hb hK hP 1 10 (t * 5 + i) rfl rfl rfl (by omega) rfl rfl dX1_ringIn_59 ?_
      refine lv_istore (lv' := [(10, .int (V 9 (t * 5 + i))), (9, .int 1), (8, .int (nI (t * 5 + i))), (0, .ref h), (1, .ref o), (2, .int (nI t)), (3, .int (wantC V t)), (4, .int (resT V t)), (5, .int ((vbC V t i).1)), (6, .int ((vbC V t i).2)), (7, .int (nI i))]) hx hb dX1_ringIn_60 hl (by decide) rfl (fun ls hl => ?_)
      refine lv_aload_n hx hb dX1_ringIn_62 rfl (lv_at hl 4 rfl) ?_
      refine b_get (v := .ref (oa 6)) hx hb hts inX3 hown hK hP 1 0 6 rfl rfl rfl (by decide) q1_36 rfl rfl dX1_ringIn_63 ?_
      refine lv_iload_n hx hb dX1_ringIn_66 rfl (lv_at hl 5 rfl) ?_
      refine b_iald (v := V 6 t) hx hb hK hP 1 7 (t) rfl rfl rfl (by omega) rfl rfl dX1_ringIn_67 ?_
      refine lv_if_le (tgt := 82) hx hb dX1_ringIn_68 (by decide) (fun h_12 => ?_) (fun h_12 => ?_)
      · refine lv_iload hx hb dX1_ringIn_82 (lv_at hl 1 rfl) ?_
        refine lv_if_ne (tgt := 98) hx hb dX1_ringIn_84 (by decide) (fun h_13 => ?_) (fun h_13 => ?_)
        · refine lv_aload_n hx hb dX1_ringIn_98 rfl (lv_at hl 4 rfl) ?_
          refine b_get (v := .ref (oa 10)) hx hb hts inX3 hown hK hP 1 0 10 rfl rfl rfl (by decide) q1_46 rfl rfl dX1_ringIn_99 ?_
          refine lv_iload hx hb dX1_ringIn_102 (lv_at hl 2 rfl) ?_
          refine b_iald (v := V 10 (t * 5 + i)) hx hb hK hP 1 11 (t * 5 + i) rfl rfl rfl (by omega) rfl rfl dX1_ringIn_104 ?_
          refine lv_bipush (v := 6) hx hb dX1_ringIn_105 (by decide) ?_
          refine lv_icmp_lt (tgt := 121) hx hb dX1_ringIn_107 (by decide) (fun h_14 => ?_) (fun h_14 => ?_)
          · refine lv_iload hx hb dX1_ringIn_121 (lv_at hl 0 rfl) ?_
            refine call_NR (As := [.int (V 9 (t * 5 + i))]) (rest := []) E rfl hK hP (c_X4_ringersFor l g (V 9 (t * 5 + i))) ok_X4_ringersFor rfl hK.2.2.2.2.1 [] rfl ⟨⟨rfl, rfl⟩, Nat.le_of_ble_eq_true rfl, Nat.le_of_ble_eq_true rfl⟩ hl.1 (Nat.le_of_ble_eq_true rfl) ⟨Nat.le_of_ble_eq_true rfl, Nat.le_of_ble_eq_true rfl⟩ rfl dX1_ringIn_123 ?_
            refine lv_iload hx hb dX1_ringIn_126 (lv_at hl 7 rfl) ?_
            refine lv_iload hx hb dX1_ringIn_128 (lv_at hl 9 rfl) ?_
            refine lv_isub hx hb dX1_ringIn_130 ?_
            refine lv_icmp_le (tgt := 145) hx hb dX1_ringIn_131 (by decide) (fun h_15 => ?_) (fun h_15 => ?_)
            · refine lv_aload_n hx hb dX1_ringIn_145 rfl (lv_at hl 3 rfl) ?_
              refine b_get (v := .ref (a 0)) hx hb hts inX1 hown hK hP 0 0 0 rfl rfl rfl (by decide) q1_123 rfl rfl dX1_ringIn_146 ?_
              refine lv_iload hx hb dX1_ringIn_149 (lv_at hl 2 rfl) ?_
              refine lv_iconst (v := 0) hx hb dX1_ringIn_151 (by decide) ?_
              refine b_iast (B' := [rB g h a (up2 (riN V t N i) 0 (t * 5 + i) 0), vB g o oa V]) hx hb hK hW 0 1 (t * 5 + i) rfl rfl rfl (by omega) rfl rfl dX1_ringIn_152 (fun H locs hW => ?_)
              have hP := hW.1
              refine lv_iload hx hb dX1_ringIn_153 (lv_at hl 8 rfl) ?_
              refine lv_iload hx hb dX1_ringIn_155 (lv_at hl 0 rfl) ?_
              refine lv_iadd hx hb dX1_ringIn_157 ?_
              refine lv_istore (lv' := [(5, .int (((vbC V t i).1) + (V 9 (t * 5 + i)))), (10, .int (V 9 (t * 5 + i))), (9, .int 1), (8, .int (nI (t * 5 + i))), (0, .ref h), (1, .ref o), (2, .int (nI t)), (3, .int (wantC V t)), (4, .int (resT V t)), (6, .int ((vbC V t i).2)), (7, .int (nI i))]) hx hb dX1_ringIn_158 hl (by decide) rfl (fun ls hl => ?_)
              refine lv_iload hx hb dX1_ringIn_160 (lv_at hl 9 rfl) ?_
              refine lv_iload hx hb dX1_ringIn_162 (lv_at hl 1 rfl) ?_
              refine call_NR (As := [.int (V 9 (t * 5 + i))]) (rest := [.int ((vbC V t i).2)]) E rfl hK hP (c_X4_ringersFor l g (V 9 (t * 5 + i))) ok_X4_ringersFor rfl hK.2.2.2.2.1 [] rfl ⟨⟨rfl, rfl⟩, Nat.le_of_ble_eq_true rfl, Nat.le_of_ble_eq_true rfl⟩ hl.1 (Nat.le_of_ble_eq_true rfl) ⟨Nat.le_of_ble_eq_true rfl, Nat.le_of_ble_eq_true rfl⟩ rfl dX1_ringIn_164 ?_
              refine lv_iadd hx hb dX1_ringIn_167 ?_
              refine lv_istore (lv' := [(6, .int (((vbC V t i).2) + (rF (V 9 (t * 5 + i))))), (5, .int (((vbC V t i).1) + (V 9 (t * 5 + i)))), (10, .int (V 9 (t * 5 + i))), (9, .int 1), (8, .int (nI (t * 5 + i))), (0, .ref h), (1, .ref o), (2, .int (nI t)), (3, .int (wantC V t)), (4, .int (resT V t)), (7, .int (nI i))]) hx hb dX1_ringIn_168 hl (by decide) rfl (fun ls hl => ?_)
              refine lv_iinc (v := nI (i + 1)) (lv' := [(7, .int (nI (i + 1))), (6, .int (((vbC V t i).2) + (rF (V 9 (t * 5 + i))))), (5, .int (((vbC V t i).1) + (V 9 (t * 5 + i)))), (10, .int (V 9 (t * 5 + i))), (9, .int 1), (8, .int (nI (t * 5 + i))), (0, .ref h), (1, .ref o), (2, .int (nI t)), (3, .int (wantC V t)), (4, .int (resT V t))]) hx hb dX1_ringIn_170 hl (k := 10) rfl (nI_add i 1) (by decide) rfl (fun ls hl => ?_)
              refine lv_goto (tgt := 22) hx hb dX1_ringIn_173 (by decide) ?_
              have e_16 : (vbC V t (i + 1)).1 = ((vbC V t i).1) + (V 9 (t * 5 + i)) := by simp only [h_1, h_3, h_12, h_14, h_15, vbC, bitW, Int32.le_refl, not_true_eq_false, not_false_eq_true, ite_true, ite_false, reduceIte]
              have e_17 : (vbC V t (i + 1)).2 = ((vbC V t i).2) + (rF (V 9 (t * 5 + i))) := by simp only [h_1, h_3, h_12, h_14, h_15, vbC, bitW, Int32.le_refl, not_true_eq_false, not_false_eq_true, ite_true, ite_false, reduceIte]
              have e_18 : ([rB g h a (riN V t N (i + 1)), vB g o oa V] : List va_W) = [rB g h a (up2 (riN V t N i) 0 (t * 5 + i) 0), vB g o oa V] := by simp only [h_1, h_3, h_12, h_14, h_15, riN, rsC, bitW, Int32.le_refl, not_true_eq_false, not_false_eq_true, ite_true, ite_false, reduceIte]
              exact ih_i (by omega)  _ _ _ (by rw [e_18]; exact hW) (by rw [e_16, e_17]; exact lv_sub hl [6, 7, 8, 9, 10, 2, 1, 0] rfl) 
            · refine lv_aload_n hx hb dX1_ringIn_134 rfl (lv_at hl 3 rfl) ?_
              refine b_get (v := .ref (a 0)) hx hb hts inX1 hown hK hP 0 0 0 rfl rfl rfl (by decide) q1_123 rfl rfl dX1_ringIn_135 ?_
              refine lv_iload hx hb dX1_ringIn_138 (lv_at hl 2 rfl) ?_
              refine lv_iconst (v := 4) hx hb dX1_ringIn_140 (by decide) ?_
              refine b_iast (B' := [rB g h a (up2 (riN V t N i) 0 (t * 5 + i) 4), vB g o oa V]) hx hb hK hW 0 1 (t * 5 + i) rfl rfl rfl (by omega) rfl rfl dX1_ringIn_141 (fun H locs hW => ?_)
              have hP := hW.1
              refine lv_goto (tgt := 170) hx hb dX1_ringIn_142 (by decide) ?_
              refine lv_iinc (v := nI (i + 1)) (lv' := [(7, .int (nI (i + 1))), (10, .int (V 9 (t * 5 + i))), (9, .int 1), (8, .int (nI (t * 5 + i))), (0, .ref h), (1, .ref o), (2, .int (nI t)), (3, .int (wantC V t)), (4, .int (resT V t)), (5, .int ((vbC V t i).1)), (6, .int ((vbC V t i).2))]) hx hb dX1_ringIn_170 hl (k := 10) rfl (nI_add i 1) (by decide) rfl (fun ls hl => ?_)
              refine lv_goto (tgt := 22) hx hb dX1_ringIn_173 (by decide) ?_
              have e_19 : (vbC V t (i + 1)).1 = (vbC V t i).1 := by simp only [h_1, h_3, h_12, h_14, h_15, vbC, bitW, Int32.le_refl, not_true_eq_false, not_false_eq_true, ite_true, ite_false, reduceIte]
              have e_20 : (vbC V t (i + 1)).2 = (vbC V t i).2 := by simp only [h_1, h_3, h_12, h_14, h_15, vbC, bitW, Int32.le_refl, not_true_eq_false, not_false_eq_true, ite_true, ite_false, reduceIte]
              have e_21 : ([rB g h a (riN V t N (i + 1)), vB g o oa V] : List va_W) = [rB g h a (up2 (riN V t N i) 0 (t * 5 + i) 4), vB g o oa V] := by simp only [h_1, h_3, h_12, h_14, h_15, riN, rsC, bitW, Int32.le_refl, not_true_eq_false, not_false_eq_true, ite_true, ite_false, reduceIte]
              exact ih_i (by omega)  _ _ _ (by rw [e_21]; exact hW) (by rw [e_19, e_20]; exact lv_sub hl [4, 5, 6, 7, 8, 9, 10, 0] rfl) 
          · refine lv_aload_n hx hb dX1_ringIn_110 rfl (lv_at hl 3 rfl) ?_
            refine b_get (v := .ref (a 0)) hx hb hts inX1 hown hK hP 0 0 0 rfl rfl rfl (by decide) q1_123 rfl rfl dX1_ringIn_111 ?_
            refine lv_iload hx hb dX1_ringIn_114 (lv_at hl 2 rfl) ?_
            refine lv_iconst (v := 3) hx hb dX1_ringIn_116 (by decide) ?_
            refine b_iast (B' := [rB g h a (up2 (riN V t N i) 0 (t * 5 + i) 3), vB g o oa V]) hx hb hK hW 0 1 (t * 5 + i) rfl rfl rfl (by omega) rfl rfl dX1_ringIn_117 (fun H locs hW => ?_)
            have hP := hW.1
            refine lv_goto (tgt := 170) hx hb dX1_ringIn_118 (by decide) ?_
            refine lv_iinc (v := nI (i + 1)) (lv' := [(7, .int (nI (i + 1))), (10, .int (V 9 (t * 5 + i))), (9, .int 1), (8, .int (nI (t * 5 + i))), (0, .ref h), (1, .ref o), (2, .int (nI t)), (3, .int (wantC V t)), (4, .int (resT V t)), (5, .int ((vbC V t i).1)), (6, .int ((vbC V t i).2))]) hx hb dX1_ringIn_170 hl (k := 10) rfl (nI_add i 1) (by decide) rfl (fun ls hl => ?_)
            refine lv_goto (tgt := 22) hx hb dX1_ringIn_173 (by decide) ?_
            have e_22 : (vbC V t (i + 1)).1 = (vbC V t i).1 := by simp only [h_1, h_3, h_12, h_14, vbC, bitW, Int32.le_refl, not_true_eq_false, not_false_eq_true, ite_true, ite_false, reduceIte]
            have e_23 : (vbC V t (i + 1)).2 = (vbC V t i).2 := by simp only [h_1, h_3, h_12, h_14, vbC, bitW, Int32.le_refl, not_true_eq_false, not_false_eq_true, ite_true, ite_false, reduceIte]
            have e_24 : ([rB g h a (riN V t N (i + 1)), vB g o oa V] : List va_W) = [rB g h a (up2 (riN V t N i) 0 (t * 5 + i) 3), vB g o oa V] := by simp only [h_1, h_3, h_12, h_14, riN, rsC, bitW, Int32.le_refl, not_true_eq_false, not_false_eq_true, ite_true, ite_false, reduceIte]
            exact ih_i (by omega)  _ _ _ (by rw [e_24]; exact hW) (by rw [e_22, e_23]; exact lv_sub hl [4, 5, 6, 7, 8, 9, 10, 0] rfl) 
        · exact absurd h_13 (by decide)
      · refine lv_aload_n hx hb dX1_ringIn_71 rfl (lv_at hl 3 rfl) ?_
        refine b_get (v := .ref (a 0)) hx hb hts inX1 hown hK hP 0 0 0 rfl rfl rfl (by decide) q1_123 rfl rfl dX1_ringIn_72 ?_
        refine lv_iload hx hb dX1_ringIn_75 (lv_at hl 2 rfl) ?_
        refine lv_iconst (v := 1) hx hb dX1_ringIn_77 (by decide) ?_
        refine b_iast (B' := [rB g h a (up2 (riN V t N i) 0 (t * 5 + i) 1), vB g o oa V]) hx hb hK hW 0 1 (t * 5 + i) rfl rfl rfl (by omega) rfl rfl dX1_ringIn_78 (fun H locs hW => ?_)
        have hP := hW.1
        refine lv_goto (tgt := 170) hx hb dX1_ringIn_79 (by decide) ?_
        refine lv_iinc (v := nI (i + 1)) (lv' := [(7, .int (nI (i + 1))), (10, .int (V 9 (t * 5 + i))), (9, .int 1), (8, .int (nI (t * 5 + i))), (0, .ref h), (1, .ref o), (2, .int (nI t)), (3, .int (wantC V t)), (4, .int (resT V t)), (5, .int ((vbC V t i).1)), (6, .int ((vbC V t i).2))]) hx hb dX1_ringIn_170 hl (k := 10) rfl (nI_add i 1) (by decide) rfl (fun ls hl => ?_)
        refine lv_goto (tgt := 22) hx hb dX1_ringIn_173 (by decide) ?_
        have e_25 : (vbC V t (i + 1)).1 = (vbC V t i).1 := by simp only [h_1, h_3, h_12, vbC, bitW, Int32.le_refl, not_true_eq_false, not_false_eq_true, ite_true, ite_false, reduceIte]
        have e_26 : (vbC V t (i + 1)).2 = (vbC V t i).2 := by simp only [h_1, h_3, h_12, vbC, bitW, Int32.le_refl, not_true_eq_false, not_false_eq_true, ite_true, ite_false, reduceIte]
        have e_27 : ([rB g h a (riN V t N (i + 1)), vB g o oa V] : List va_W) = [rB g h a (up2 (riN V t N i) 0 (t * 5 + i) 1), vB g o oa V] := by simp only [h_1, h_3, h_12, riN, rsC, bitW, Int32.le_refl, not_true_eq_false, not_false_eq_true, ite_true, ite_false, reduceIte]
        exact ih_i (by omega)  _ _ _ (by rw [e_27]; exact hW) (by rw [e_25, e_26]; exact lv_sub hl [4, 5, 6, 7, 8, 9, 10, 0] rfl) 
