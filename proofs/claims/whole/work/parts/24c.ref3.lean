set_option maxHeartbeats 4000000 in
set_option maxRecDepth 100000 in
theorem c_X5_melt (l : Launch) (g : gx) (h : Nat) (a : Nat → Nat) (V X : sV) (x y : Int32) (t b c0 : Nat) (n : Nat) (hn : X 9 0 = nI n) (hn5 : n ≤ 5) (hxy : hasB V x y → x = nI t ∧ t < 6 ∧ y = nI b ∧ b < c0) (hxt : isT x → x = nI t ∧ t < 6) (hc : t < 6 → V 3 t = nI c0 ∧ c0 ≤ 5) : cU (S := Bool × sV) l g yX5_melt cX5_melt 6 (some .int) ({ frames := 3, cells := 0, slots := 0, locals := 64 } : Room) [.ref h, .int x, .int y] [mV g h a V X] (fun u => some (.int (bif u.1 then (V 9 (t * 5 + b)) else (meE V x y)))) (fun u => bif u.1 then (meE V x y = 0 ∧ recP V X u.2 n) else (¬ meE V x y = 0 ∧ u.2 = X)) (fun u => [mV g h a (bif u.1 then (melM V t b c0) else V) u.2]) := by
  refine cU.mk (by decide +kernel) (Nat.le_of_ble_eq_true rfl) ?_
  intro p e s m below meth c ls E hK hW hl
  obtain ⟨hx, hb, hr, hml, hts, hown, hlocks, hin⟩ := id E
  have hown : s.vm.findClass RX5 = some m.cls := hown
  have hP := hW.1
  have hl : lv_has ls 6 [(0, .ref h), (1, .int x), (2, .int y)] := hl
  refine lv_aload_n hx hb dX5_melt_0 rfl (lv_at hl 0 rfl) ?_
  refine lv_iload_n hx hb dX5_melt_1 rfl (lv_at hl 1 rfl) ?_
  refine lv_iload_n hx hb dX5_melt_2 rfl (lv_at hl 2 rfl) ?_
  refine call_VR (As := [.int x, .int y]) (rest := []) E rfl hK hP (c_X5_isBell l g h a V X x y t c0 hxt hc) ok_X5_isBell rfl q3_102 [0] rfl (b_recv hK hP 0 0 rfl rfl rfl rfl) ⟨⟨rfl, rfl⟩, Nat.le_of_ble_eq_true rfl, Nat.le_of_ble_eq_true rfl⟩ hl.1 (Nat.le_of_ble_eq_true rfl) ⟨Nat.le_of_ble_eq_true rfl, Nat.le_of_ble_eq_true rfl⟩ rfl dX5_melt_3 ?_
  refine b_ne0 (tgt := 11) hx hb dX5_melt_6 (by decide) (fun h_1 => ?_) (fun h_1 => ?_)
  · have hHB := h_1
    obtain ⟨rfl, ht, rfl, hbc⟩ := hxy h_1
    obtain ⟨hc, hc5⟩ := hc ht
    refine lv_aload_n hx hb dX5_melt_11 rfl (lv_at hl 0 rfl) ?_
    refine call_VU (As := []) (rest := []) E rfl hK hW (c_X5_record l g h a V X n hn hn5) ok_X5_record rfl q3_80 [0] rfl (by decide) (b_recv hK hP 0 0 rfl rfl rfl rfl) ⟨⟨rfl, rfl⟩, Nat.le_of_ble_eq_true rfl, Nat.le_of_ble_eq_true rfl⟩ hl.1 (Nat.le_of_ble_eq_true rfl) ⟨Nat.le_of_ble_eq_true rfl, Nat.le_of_ble_eq_true rfl⟩ rfl dX5_melt_12 (fun UR H locs hUR hW => ?_)
    have hW : wd g _ s.heap [mV g h a V UR] H locs := hW
    have hP := hW.1
    refine lv_aload_n hx hb dX5_melt_15 rfl (lv_at hl 0 rfl) ?_
    refine lv_iload_n hx hb dX5_melt_16 rfl (lv_at hl 1 rfl) ?_
    refine lv_bipush (v := 9) hx hb dX5_melt_17 (by decide) ?_
    refine lv_iload_n hx hb dX5_melt_19 rfl (lv_at hl 2 rfl) ?_
    refine lv_iadd hx hb dX5_melt_20 ?_
    refine b_top (y := nI (9 + b)) (nI_add 9 b) ?_
    refine call_VR (As := [.int (nI t), .int (nI (9 + b))]) (rest := []) E rfl hK hP (c_X5_of_9 l g h a V UR t b (by omega) (by omega)) ok_X5_of rfl q3_94 [0] rfl (b_recv hK hP 0 0 rfl rfl rfl rfl) ⟨⟨rfl, rfl⟩, Nat.le_of_ble_eq_true rfl, Nat.le_of_ble_eq_true rfl⟩ hl.1 (Nat.le_of_ble_eq_true rfl) ⟨Nat.le_of_ble_eq_true rfl, Nat.le_of_ble_eq_true rfl⟩ rfl dX5_melt_21 ?_
    refine lv_istore_n (lv' := [(3, .int (V 9 (t * 5 + b))), (0, .ref h), (1, .int (nI t)), (2, .int (nI b))]) hx hb dX5_melt_24 rfl hl (by decide) rfl (fun ls hl => ?_)
    refine lv_aload_n hx hb dX5_melt_25 rfl (lv_at hl 1 rfl) ?_
    refine lv_iload_n hx hb dX5_melt_26 rfl (lv_at hl 2 rfl) ?_
    refine lv_iconst (v := 3) hx hb dX5_melt_27 (by decide) ?_
    refine lv_aload_n hx hb dX5_melt_28 rfl (lv_at hl 1 rfl) ?_
    refine lv_iload_n hx hb dX5_melt_29 rfl (lv_at hl 2 rfl) ?_
    refine lv_iconst (v := 3) hx hb dX5_melt_30 (by decide) ?_
    refine call_VR (As := [.int (nI t), .int 3]) (rest := [.int 3, .int (nI t), .ref h]) E rfl hK hP (c_X5_of_k l g h a V UR t 3 (by omega) (by omega)) ok_X5_of rfl q3_94 [0] rfl (b_recv hK hP 0 0 rfl rfl rfl rfl) ⟨⟨rfl, rfl⟩, Nat.le_of_ble_eq_true rfl, Nat.le_of_ble_eq_true rfl⟩ hl.1 (Nat.le_of_ble_eq_true rfl) ⟨Nat.le_of_ble_eq_true rfl, Nat.le_of_ble_eq_true rfl⟩ rfl dX5_melt_31 ?_
    refine b_top (y := nI c0) hc ?_
    refine lv_iconst (v := 1) hx hb dX5_melt_34 (by decide) ?_
    refine lv_isub hx hb dX5_melt_35 ?_
    refine b_top (y := nI (c0 - 1)) (pk_sub (a := c0) (b := 1) (by omega)) ?_
    refine call_VU (As := [.int (nI t), .int 3, .int (nI (c0 - 1))]) (rest := []) E rfl hK hW (c_X5_put_k l g h a V UR t 3 (nI (c0 - 1)) (by omega) (by omega)) ok_X5_put rfl q3_21 [0] rfl (by decide) (b_recv hK hP 0 0 rfl rfl rfl rfl) ⟨⟨rfl, rfl⟩, Nat.le_of_ble_eq_true rfl, Nat.le_of_ble_eq_true rfl⟩ hl.1 (Nat.le_of_ble_eq_true rfl) ⟨Nat.le_of_ble_eq_true rfl, Nat.le_of_ble_eq_true rfl⟩ rfl dX5_melt_36 (fun _u H locs _ hW => ?_)
    have hW : wd g _ s.heap [mV g h a (up2 V 3 t (nI (c0 - 1))) UR] H locs := hW
    have hP := hW.1
    refine lv_iload_n hx hb dX5_melt_39 rfl (lv_at hl 3 rfl) ?_
    refine lv_istore (lv' := [(4, .int (nI b)), (3, .int (V 9 (t * 5 + b))), (0, .ref h), (1, .int (nI t)), (2, .int (nI b))]) hx hb dX5_melt_40 hl (by decide) rfl (fun ls hl => ?_)
    refine loopN (fun i : Nat => ∀ (H : Heap) (locs : List Loc) (ls : Array Slot), wd g (fun z9 => z9 ∈ adr [mV g h a V X]) s.heap [mV g h a (mlV (up2 V 3 t (nI (c0 - 1))) t b c0 i) UR] H locs → lv_has ls 6 [(0, .ref h), (1, .int (nI t)), (2, .int (nI b)), (3, .int (V 9 (t * 5 + b))), (4, .int (nI (b + i)))] → W p l e _ s m _ below meth c H locs 0 0 _ (F0 m 42 ls [])) (5 - b) (fun i hi ih_i => ?_) (0) (by omega)  H locs ls hW (lv_sub hl [2, 3, 4, 1, 0] rfl) 
    intro  H locs ls hW hl 
    have hP := hW.1
    refine lv_iload hx hb dX5_melt_42 (lv_at hl 4 rfl) ?_
    refine lv_iconst (v := 5) hx hb dX5_melt_44 (by decide) ?_
    refine b_ge (tgt := 165) (b + i) (5) hx hb rfl rfl (by omega) (by omega) dX5_melt_45 (by decide) (fun h_2 => ?_) (fun h_2 => ?_)
    · obtain rfl : i = 5 - b := by omega
      obtain ⟨U_3, hU_3⟩ : ∃ z, z = (mlV (up2 V 3 t (nI (c0 - 1))) t b c0 (5 - b)) := ⟨_, rfl⟩
      rw [← hU_3] at hW
      have hP := hW.1
      refine lv_aload_n hx hb dX5_melt_165 rfl (lv_at hl 0 rfl) ?_
      refine lv_iload_n hx hb dX5_melt_166 rfl (lv_at hl 1 rfl) ?_
      refine lv_iconst (v := 4) hx hb dX5_melt_167 (by decide) ?_
      refine call_VR (As := [.int (nI t), .int 4]) (rest := []) E rfl hK hP (c_X5_of_k l g h a U_3 UR t 4 (by omega) (by omega)) ok_X5_of rfl q3_94 [0] rfl (b_recv hK hP 0 0 rfl rfl rfl rfl) ⟨⟨rfl, rfl⟩, Nat.le_of_ble_eq_true rfl, Nat.le_of_ble_eq_true rfl⟩ hl.1 (Nat.le_of_ble_eq_true rfl) ⟨Nat.le_of_ble_eq_true rfl, Nat.le_of_ble_eq_true rfl⟩ rfl dX5_melt_168 ?_
      refine lv_istore (lv' := [(4, .int (U_3 4 t)), (0, .ref h), (1, .int (nI t)), (2, .int (nI b)), (3, .int (V 9 (t * 5 + b)))]) hx hb dX5_melt_171 hl (by decide) rfl (fun ls hl => ?_)
      refine lv_iconst (v := 1) hx hb dX5_melt_173 (by decide) ?_
      refine lv_iload_n hx hb dX5_melt_174 rfl (lv_at hl 3 rfl) ?_
      refine lv_ishl hx hb dX5_melt_175 ?_
      refine lv_iconst (v := 1) hx hb dX5_melt_176 (by decide) ?_
      refine lv_isub hx hb dX5_melt_177 ?_
      refine lv_istore (lv' := [(5, .int (((1 : Int32) <<< ((nI b) &&& 31)) - 1)), (4, .int (U_3 4 t)), (0, .ref h), (1, .int (nI t)), (2, .int (nI b)), (3, .int (V 9 (t * 5 + b)))]) hx hb dX5_melt_178 hl (by decide) rfl (fun ls hl => ?_)
      refine lv_aload_n hx hb dX5_melt_180 rfl (lv_at hl 2 rfl) ?_
      refine lv_iload_n hx hb dX5_melt_181 rfl (lv_at hl 3 rfl) ?_
      refine lv_iconst (v := 4) hx hb dX5_melt_182 (by decide) ?_
      refine lv_iload hx hb dX5_melt_183 (lv_at hl 1 rfl) ?_
      refine lv_iload hx hb dX5_melt_185 (lv_at hl 0 rfl) ?_
      refine lv_iand hx hb dX5_melt_187 ?_
      refine lv_iload hx hb dX5_melt_188 (lv_at hl 1 rfl) ?_
      refine lv_iconst (v := 1) hx hb dX5_melt_190 (by decide) ?_
      refine lv_ishr hx hb dX5_melt_191 ?_
      refine lv_iload hx hb dX5_melt_192 (lv_at hl 0 rfl) ?_
      refine lv_iconst (v := -1) hx hb dX5_melt_194 (by decide) ?_
      refine lv_ixor hx hb dX5_melt_195 ?_
      refine lv_iand hx hb dX5_melt_196 ?_
      refine lv_ior hx hb dX5_melt_197 ?_
      refine call_VU (As := [.int (nI t), .int 4, .int (((U_3 4 t) &&& (((1 : Int32) <<< ((nI b) &&& 31)) - 1)) ||| (((U_3 4 t) >>> ((1 : Int32) &&& 31)) &&& ((((1 : Int32) <<< ((nI b) &&& 31)) - 1) ^^^ (-1 : Int32))))]) (rest := []) E rfl hK hW (c_X5_put_k l g h a U_3 UR t 4 (((U_3 4 t) &&& (((1 : Int32) <<< ((nI b) &&& 31)) - 1)) ||| (((U_3 4 t) >>> ((1 : Int32) &&& 31)) &&& ((((1 : Int32) <<< ((nI b) &&& 31)) - 1) ^^^ (-1 : Int32)))) (by omega) (by omega)) ok_X5_put rfl q3_21 [0] rfl (by decide) (b_recv hK hP 0 0 rfl rfl rfl rfl) ⟨⟨rfl, rfl⟩, Nat.le_of_ble_eq_true rfl, Nat.le_of_ble_eq_true rfl⟩ hl.1 (Nat.le_of_ble_eq_true rfl) ⟨Nat.le_of_ble_eq_true rfl, Nat.le_of_ble_eq_true rfl⟩ rfl dX5_melt_198 (fun _u H locs _ hW => ?_)
      have hW : wd g _ s.heap [mV g h a (up2 U_3 4 t (((U_3 4 t) &&& (((1 : Int32) <<< ((nI b) &&& 31)) - 1)) ||| (((U_3 4 t) >>> ((1 : Int32) &&& 31)) &&& ((((1 : Int32) <<< ((nI b) &&& 31)) - 1) ^^^ (-1 : Int32))))) UR] H locs := hW
      have hP := hW.1
      refine lv_iload_n hx hb dX5_melt_201 rfl (lv_at hl 5 rfl) ?_
      have hE : meE V (nI t) (nI b) = 0 := by rw [meE, if_pos hHB]
      exact uI_ret (true, UR) hW hx hb hr hlocks dX5_melt_202 (rfl) (show (meE V (nI t) (nI b) = 0) ∧ _ from ⟨hE, hUR⟩) (by simp only [cond_true, cond_false, hU_3]) (adr2 (L := [[h, a 0, a 1, a 2, a 3, a 4, a 5, a 6, a 7, a 8]]) rfl rfl)
    · refine lv_iload hx hb dX5_melt_48 (lv_at hl 4 rfl) ?_
      refine lv_aload_n hx hb dX5_melt_50 rfl (lv_at hl 0 rfl) ?_
      refine lv_iload_n hx hb dX5_melt_51 rfl (lv_at hl 1 rfl) ?_
      refine lv_iconst (v := 3) hx hb dX5_melt_52 (by decide) ?_
      refine call_VR (As := [.int (nI t), .int 3]) (rest := [.int (nI (b + i))]) E rfl hK hP (c_X5_of_k l g h a (mlV (up2 V 3 t (nI (c0 - 1))) t b c0 i) UR t 3 (by omega) (by omega)) ok_X5_of rfl q3_94 [0] rfl (b_recv hK hP 0 0 rfl rfl rfl rfl) ⟨⟨rfl, rfl⟩, Nat.le_of_ble_eq_true rfl, Nat.le_of_ble_eq_true rfl⟩ hl.1 (Nat.le_of_ble_eq_true rfl) ⟨Nat.le_of_ble_eq_true rfl, Nat.le_of_ble_eq_true rfl⟩ rfl dX5_melt_53 ?_
      refine b_top (y := nI (c0 - 1)) (by rw [mlV_k _ _ _ _ (by omega), up2_eq]) ?_
      refine b_ge (tgt := 63) (b + i) (c0 - 1) hx hb rfl rfl (by omega) (by omega) dX5_melt_56 (by decide) (fun h_4 => ?_) (fun h_4 => ?_)
      · refine lv_iconst (v := 0) hx hb dX5_melt_63 (by decide) ?_
        refine lv_istore (lv' := [(5, .int 0), (0, .ref h), (1, .int (nI t)), (2, .int (nI b)), (3, .int (V 9 (t * 5 + b))), (4, .int (nI (b + i)))]) hx hb dX5_melt_64 hl (by decide) rfl (fun ls hl => ?_)
        refine lv_aload_n hx hb dX5_melt_66 rfl (lv_at hl 1 rfl) ?_
        refine lv_iload_n hx hb dX5_melt_67 rfl (lv_at hl 2 rfl) ?_
        refine lv_bipush (v := 9) hx hb dX5_melt_68 (by decide) ?_
        refine lv_iload hx hb dX5_melt_70 (lv_at hl 5 rfl) ?_
        refine lv_iadd hx hb dX5_melt_72 ?_
        refine b_top (y := nI (9 + (b + i))) (nI_add 9 (b + i)) ?_
        refine lv_iload hx hb dX5_melt_73 (lv_at hl 0 rfl) ?_
        refine lv_if_eq (tgt := 93) hx hb dX5_melt_75 (by decide) (fun h_5 => ?_) (fun h_5 => ?_)
        · refine lv_iconst (v := 0) hx hb dX5_melt_93 (by decide) ?_
          refine call_VU (As := [.int (nI t), .int (nI (9 + (b + i))), .int 0]) (rest := []) E rfl hK hW (c_X5_put_9 l g h a (mlV (up2 V 3 t (nI (c0 - 1))) t b c0 i) UR t (b + i) 0 (by omega) (by omega)) ok_X5_put rfl q3_21 [0] rfl (by decide) (b_recv hK hP 0 0 rfl rfl rfl rfl) ⟨⟨rfl, rfl⟩, Nat.le_of_ble_eq_true rfl, Nat.le_of_ble_eq_true rfl⟩ hl.1 (Nat.le_of_ble_eq_true rfl) ⟨Nat.le_of_ble_eq_true rfl, Nat.le_of_ble_eq_true rfl⟩ rfl dX5_melt_94 (fun _u H locs _ hW => ?_)
          have hW : wd g _ s.heap [mV g h a (up2 (mlV (up2 V 3 t (nI (c0 - 1))) t b c0 i) 9 (t * 5 + (b + i)) 0) UR] H locs := hW
          have hP := hW.1
          refine lv_aload_n hx hb dX5_melt_97 rfl (lv_at hl 1 rfl) ?_
          refine lv_iload_n hx hb dX5_melt_98 rfl (lv_at hl 2 rfl) ?_
          refine lv_bipush (v := 14) hx hb dX5_melt_99 (by decide) ?_
          refine lv_iload hx hb dX5_melt_101 (lv_at hl 5 rfl) ?_
          refine lv_iadd hx hb dX5_melt_103 ?_
          refine b_top (y := nI (14 + (b + i))) (nI_add 14 (b + i)) ?_
          refine lv_iload hx hb dX5_melt_104 (lv_at hl 0 rfl) ?_
          refine lv_if_eq (tgt := 124) hx hb dX5_melt_106 (by decide) (fun h_6 => ?_) (fun h_6 => ?_)
          · refine lv_iconst (v := 0) hx hb dX5_melt_124 (by decide) ?_
            refine call_VU (As := [.int (nI t), .int (nI (14 + (b + i))), .int 0]) (rest := []) E rfl hK hW (c_X5_put_10 l g h a (up2 (mlV (up2 V 3 t (nI (c0 - 1))) t b c0 i) 9 (t * 5 + (b + i)) 0) UR t (b + i) 0 (by omega) (by omega)) ok_X5_put rfl q3_21 [0] rfl (by decide) (b_recv hK hP 0 0 rfl rfl rfl rfl) ⟨⟨rfl, rfl⟩, Nat.le_of_ble_eq_true rfl, Nat.le_of_ble_eq_true rfl⟩ hl.1 (Nat.le_of_ble_eq_true rfl) ⟨Nat.le_of_ble_eq_true rfl, Nat.le_of_ble_eq_true rfl⟩ rfl dX5_melt_125 (fun _u H locs _ hW => ?_)
            have hW : wd g _ s.heap [mV g h a (up2 (up2 (mlV (up2 V 3 t (nI (c0 - 1))) t b c0 i) 9 (t * 5 + (b + i)) 0) 10 (t * 5 + (b + i)) 0) UR] H locs := hW
            have hP := hW.1
            refine lv_aload_n hx hb dX5_melt_128 rfl (lv_at hl 1 rfl) ?_
            refine lv_iload_n hx hb dX5_melt_129 rfl (lv_at hl 2 rfl) ?_
            refine lv_bipush (v := 19) hx hb dX5_melt_130 (by decide) ?_
            refine lv_iload hx hb dX5_melt_132 (lv_at hl 5 rfl) ?_
            refine lv_iadd hx hb dX5_melt_134 ?_
            refine b_top (y := nI (19 + (b + i))) (nI_add 19 (b + i)) ?_
            refine lv_iload hx hb dX5_melt_135 (lv_at hl 0 rfl) ?_
            refine lv_if_eq (tgt := 155) hx hb dX5_melt_137 (by decide) (fun h_7 => ?_) (fun h_7 => ?_)
            · refine lv_iconst (v := 0) hx hb dX5_melt_155 (by decide) ?_
              refine call_VU (As := [.int (nI t), .int (nI (19 + (b + i))), .int 0]) (rest := []) E rfl hK hW (c_X5_put_11 l g h a (up2 (up2 (mlV (up2 V 3 t (nI (c0 - 1))) t b c0 i) 9 (t * 5 + (b + i)) 0) 10 (t * 5 + (b + i)) 0) UR t (b + i) 0 (by omega) (by omega)) ok_X5_put rfl q3_21 [0] rfl (by decide) (b_recv hK hP 0 0 rfl rfl rfl rfl) ⟨⟨rfl, rfl⟩, Nat.le_of_ble_eq_true rfl, Nat.le_of_ble_eq_true rfl⟩ hl.1 (Nat.le_of_ble_eq_true rfl) ⟨Nat.le_of_ble_eq_true rfl, Nat.le_of_ble_eq_true rfl⟩ rfl dX5_melt_156 (fun _u H locs _ hW => ?_)
              have hW : wd g _ s.heap [mV g h a (up2 (up2 (up2 (mlV (up2 V 3 t (nI (c0 - 1))) t b c0 i) 9 (t * 5 + (b + i)) 0) 10 (t * 5 + (b + i)) 0) 11 (t * 5 + (b + i)) 0) UR] H locs := hW
              have hP := hW.1
              refine lv_iinc (v := nI (b + i + 1)) (lv' := [(4, .int (nI (b + i + 1))), (5, .int 0), (0, .ref h), (1, .int (nI t)), (2, .int (nI b)), (3, .int (V 9 (t * 5 + b)))]) hx hb dX5_melt_159 hl (k := 5) rfl (nI_add (b + i) 1) (by decide) rfl (fun ls hl => ?_)
              refine lv_goto (tgt := 42) hx hb dX5_melt_162 (by decide) ?_
              have e_8 : ([mV g h a (mlV (up2 V 3 t (nI (c0 - 1))) t b c0 (i + 1)) UR] : List va_W) = [mV g h a (up2 (up2 (up2 (mlV (up2 V 3 t (nI (c0 - 1))) t b c0 i) 9 (t * 5 + (b + i)) 0) 10 (t * 5 + (b + i)) 0) 11 (t * 5 + (b + i)) 0) UR] := by first | (rw [mlV, if_pos h_4]; done) | (rw [mlV, if_neg (by omega)]; done)
              exact ih_i (by omega)  _ _ _ (by rw [e_8]; exact hW) (lv_sub hl [2, 3, 4, 5, 0] rfl) 
            · exact absurd h_7 (by decide)
          · exact absurd h_6 (by decide)
        · exact absurd h_5 (by decide)
      · refine lv_iconst (v := 1) hx hb dX5_melt_59 (by decide) ?_
        refine lv_goto (tgt := 64) hx hb dX5_melt_60 (by decide) ?_
        refine lv_istore (lv' := [(5, .int 1), (0, .ref h), (1, .int (nI t)), (2, .int (nI b)), (3, .int (V 9 (t * 5 + b))), (4, .int (nI (b + i)))]) hx hb dX5_melt_64 hl (by decide) rfl (fun ls hl => ?_)
        refine lv_aload_n hx hb dX5_melt_66 rfl (lv_at hl 1 rfl) ?_
        refine lv_iload_n hx hb dX5_melt_67 rfl (lv_at hl 2 rfl) ?_
        refine lv_bipush (v := 9) hx hb dX5_melt_68 (by decide) ?_
        refine lv_iload hx hb dX5_melt_70 (lv_at hl 5 rfl) ?_
        refine lv_iadd hx hb dX5_melt_72 ?_
        refine b_top (y := nI (9 + (b + i))) (nI_add 9 (b + i)) ?_
        refine lv_iload hx hb dX5_melt_73 (lv_at hl 0 rfl) ?_
        refine lv_if_eq (tgt := 93) hx hb dX5_melt_75 (by decide) (fun h_9 => ?_) (fun h_9 => ?_)
        · exact absurd h_9 (by decide)
        · refine lv_aload_n hx hb dX5_melt_78 rfl (lv_at hl 1 rfl) ?_
          refine lv_iload_n hx hb dX5_melt_79 rfl (lv_at hl 2 rfl) ?_
          refine lv_bipush (v := 9) hx hb dX5_melt_80 (by decide) ?_
          refine lv_iload hx hb dX5_melt_82 (lv_at hl 5 rfl) ?_
          refine lv_iadd hx hb dX5_melt_84 ?_
          refine b_top (y := nI (9 + (b + i))) (nI_add 9 (b + i)) ?_
          refine lv_iconst (v := 1) hx hb dX5_melt_85 (by decide) ?_
          refine lv_iadd hx hb dX5_melt_86 ?_
          refine b_top (y := nI ((9 + (b + i)) + 1)) (nI_add (9 + (b + i)) 1) ?_
          refine call_VR (As := [.int (nI t), .int (nI ((9 + (b + i)) + 1))]) (rest := [.int (nI (9 + (b + i))), .int (nI t), .ref h]) E rfl hK hP (c_X5_of_9 l g h a (mlV (up2 V 3 t (nI (c0 - 1))) t b c0 i) UR t ((b + i) + 1) (by omega) (by omega)) ok_X5_of rfl q3_94 [0] rfl (b_recv hK hP 0 0 rfl rfl rfl rfl) ⟨⟨rfl, rfl⟩, Nat.le_of_ble_eq_true rfl, Nat.le_of_ble_eq_true rfl⟩ hl.1 (Nat.le_of_ble_eq_true rfl) ⟨Nat.le_of_ble_eq_true rfl, Nat.le_of_ble_eq_true rfl⟩ rfl dX5_melt_87 ?_
          refine lv_goto (tgt := 94) hx hb dX5_melt_90 (by decide) ?_
          refine call_VU (As := [.int (nI t), .int (nI (9 + (b + i))), .int ((mlV (up2 V 3 t (nI (c0 - 1))) t b c0 i) 9 (t * 5 + ((b + i) + 1)))]) (rest := []) E rfl hK hW (c_X5_put_9 l g h a (mlV (up2 V 3 t (nI (c0 - 1))) t b c0 i) UR t (b + i) ((mlV (up2 V 3 t (nI (c0 - 1))) t b c0 i) 9 (t * 5 + ((b + i) + 1))) (by omega) (by omega)) ok_X5_put rfl q3_21 [0] rfl (by decide) (b_recv hK hP 0 0 rfl rfl rfl rfl) ⟨⟨rfl, rfl⟩, Nat.le_of_ble_eq_true rfl, Nat.le_of_ble_eq_true rfl⟩ hl.1 (Nat.le_of_ble_eq_true rfl) ⟨Nat.le_of_ble_eq_true rfl, Nat.le_of_ble_eq_true rfl⟩ rfl dX5_melt_94 (fun _u H locs _ hW => ?_)
          have hW : wd g _ s.heap [mV g h a (up2 (mlV (up2 V 3 t (nI (c0 - 1))) t b c0 i) 9 (t * 5 + (b + i)) ((mlV (up2 V 3 t (nI (c0 - 1))) t b c0 i) 9 (t * 5 + ((b + i) + 1)))) UR] H locs := hW
          have hP := hW.1
          refine lv_aload_n hx hb dX5_melt_97 rfl (lv_at hl 1 rfl) ?_
          refine lv_iload_n hx hb dX5_melt_98 rfl (lv_at hl 2 rfl) ?_
          refine lv_bipush (v := 14) hx hb dX5_melt_99 (by decide) ?_
          refine lv_iload hx hb dX5_melt_101 (lv_at hl 5 rfl) ?_
          refine lv_iadd hx hb dX5_melt_103 ?_
          refine b_top (y := nI (14 + (b + i))) (nI_add 14 (b + i)) ?_
          refine lv_iload hx hb dX5_melt_104 (lv_at hl 0 rfl) ?_
          refine lv_if_eq (tgt := 124) hx hb dX5_melt_106 (by decide) (fun h_10 => ?_) (fun h_10 => ?_)
          · exact absurd h_10 (by decide)
          · refine lv_aload_n hx hb dX5_melt_109 rfl (lv_at hl 1 rfl) ?_
            refine lv_iload_n hx hb dX5_melt_110 rfl (lv_at hl 2 rfl) ?_
            refine lv_bipush (v := 14) hx hb dX5_melt_111 (by decide) ?_
            refine lv_iload hx hb dX5_melt_113 (lv_at hl 5 rfl) ?_
            refine lv_iadd hx hb dX5_melt_115 ?_
            refine b_top (y := nI (14 + (b + i))) (nI_add 14 (b + i)) ?_
            refine lv_iconst (v := 1) hx hb dX5_melt_116 (by decide) ?_
            refine lv_iadd hx hb dX5_melt_117 ?_
            refine b_top (y := nI ((14 + (b + i)) + 1)) (nI_add (14 + (b + i)) 1) ?_
            refine call_VR (As := [.int (nI t), .int (nI ((14 + (b + i)) + 1))]) (rest := [.int (nI (14 + (b + i))), .int (nI t), .ref h]) E rfl hK hP (c_X5_of_10 l g h a (up2 (mlV (up2 V 3 t (nI (c0 - 1))) t b c0 i) 9 (t * 5 + (b + i)) ((mlV (up2 V 3 t (nI (c0 - 1))) t b c0 i) 9 (t * 5 + ((b + i) + 1)))) UR t ((b + i) + 1) (by omega) (by omega)) ok_X5_of rfl q3_94 [0] rfl (b_recv hK hP 0 0 rfl rfl rfl rfl) ⟨⟨rfl, rfl⟩, Nat.le_of_ble_eq_true rfl, Nat.le_of_ble_eq_true rfl⟩ hl.1 (Nat.le_of_ble_eq_true rfl) ⟨Nat.le_of_ble_eq_true rfl, Nat.le_of_ble_eq_true rfl⟩ rfl dX5_melt_118 ?_
            refine b_top (y := (mlV (up2 V 3 t (nI (c0 - 1))) t b c0 i) 10 (t * 5 + ((b + i) + 1))) rfl ?_
            refine lv_goto (tgt := 125) hx hb dX5_melt_121 (by decide) ?_
            refine call_VU (As := [.int (nI t), .int (nI (14 + (b + i))), .int ((mlV (up2 V 3 t (nI (c0 - 1))) t b c0 i) 10 (t * 5 + ((b + i) + 1)))]) (rest := []) E rfl hK hW (c_X5_put_10 l g h a (up2 (mlV (up2 V 3 t (nI (c0 - 1))) t b c0 i) 9 (t * 5 + (b + i)) ((mlV (up2 V 3 t (nI (c0 - 1))) t b c0 i) 9 (t * 5 + ((b + i) + 1)))) UR t (b + i) ((mlV (up2 V 3 t (nI (c0 - 1))) t b c0 i) 10 (t * 5 + ((b + i) + 1))) (by omega) (by omega)) ok_X5_put rfl q3_21 [0] rfl (by decide) (b_recv hK hP 0 0 rfl rfl rfl rfl) ⟨⟨rfl, rfl⟩, Nat.le_of_ble_eq_true rfl, Nat.le_of_ble_eq_true rfl⟩ hl.1 (Nat.le_of_ble_eq_true rfl) ⟨Nat.le_of_ble_eq_true rfl, Nat.le_of_ble_eq_true rfl⟩ rfl dX5_melt_125 (fun _u H locs _ hW => ?_)
            have hW : wd g _ s.heap [mV g h a (up2 (up2 (mlV (up2 V 3 t (nI (c0 - 1))) t b c0 i) 9 (t * 5 + (b + i)) ((mlV (up2 V 3 t (nI (c0 - 1))) t b c0 i) 9 (t * 5 + ((b + i) + 1)))) 10 (t * 5 + (b + i)) ((mlV (up2 V 3 t (nI (c0 - 1))) t b c0 i) 10 (t * 5 + ((b + i) + 1)))) UR] H locs := hW
            have hP := hW.1
            refine lv_aload_n hx hb dX5_melt_128 rfl (lv_at hl 1 rfl) ?_
            refine lv_iload_n hx hb dX5_melt_129 rfl (lv_at hl 2 rfl) ?_
            refine lv_bipush (v := 19) hx hb dX5_melt_130 (by decide) ?_
            refine lv_iload hx hb dX5_melt_132 (lv_at hl 5 rfl) ?_
            refine lv_iadd hx hb dX5_melt_134 ?_
            refine b_top (y := nI (19 + (b + i))) (nI_add 19 (b + i)) ?_
            refine lv_iload hx hb dX5_melt_135 (lv_at hl 0 rfl) ?_
            refine lv_if_eq (tgt := 155) hx hb dX5_melt_137 (by decide) (fun h_11 => ?_) (fun h_11 => ?_)
            · exact absurd h_11 (by decide)
            · refine lv_aload_n hx hb dX5_melt_140 rfl (lv_at hl 1 rfl) ?_
              refine lv_iload_n hx hb dX5_melt_141 rfl (lv_at hl 2 rfl) ?_
              refine lv_bipush (v := 19) hx hb dX5_melt_142 (by decide) ?_
              refine lv_iload hx hb dX5_melt_144 (lv_at hl 5 rfl) ?_
              refine lv_iadd hx hb dX5_melt_146 ?_
              refine b_top (y := nI (19 + (b + i))) (nI_add 19 (b + i)) ?_
              refine lv_iconst (v := 1) hx hb dX5_melt_147 (by decide) ?_
              refine lv_iadd hx hb dX5_melt_148 ?_
              refine b_top (y := nI ((19 + (b + i)) + 1)) (nI_add (19 + (b + i)) 1) ?_
              refine call_VR (As := [.int (nI t), .int (nI ((19 + (b + i)) + 1))]) (rest := [.int (nI (19 + (b + i))), .int (nI t), .ref h]) E rfl hK hP (c_X5_of_11 l g h a (up2 (up2 (mlV (up2 V 3 t (nI (c0 - 1))) t b c0 i) 9 (t * 5 + (b + i)) ((mlV (up2 V 3 t (nI (c0 - 1))) t b c0 i) 9 (t * 5 + ((b + i) + 1)))) 10 (t * 5 + (b + i)) ((mlV (up2 V 3 t (nI (c0 - 1))) t b c0 i) 10 (t * 5 + ((b + i) + 1)))) UR t ((b + i) + 1) (by omega) (by omega)) ok_X5_of rfl q3_94 [0] rfl (b_recv hK hP 0 0 rfl rfl rfl rfl) ⟨⟨rfl, rfl⟩, Nat.le_of_ble_eq_true rfl, Nat.le_of_ble_eq_true rfl⟩ hl.1 (Nat.le_of_ble_eq_true rfl) ⟨Nat.le_of_ble_eq_true rfl, Nat.le_of_ble_eq_true rfl⟩ rfl dX5_melt_149 ?_
              refine b_top (y := (mlV (up2 V 3 t (nI (c0 - 1))) t b c0 i) 11 (t * 5 + ((b + i) + 1))) rfl ?_
              refine lv_goto (tgt := 156) hx hb dX5_melt_152 (by decide) ?_
              refine call_VU (As := [.int (nI t), .int (nI (19 + (b + i))), .int ((mlV (up2 V 3 t (nI (c0 - 1))) t b c0 i) 11 (t * 5 + ((b + i) + 1)))]) (rest := []) E rfl hK hW (c_X5_put_11 l g h a (up2 (up2 (mlV (up2 V 3 t (nI (c0 - 1))) t b c0 i) 9 (t * 5 + (b + i)) ((mlV (up2 V 3 t (nI (c0 - 1))) t b c0 i) 9 (t * 5 + ((b + i) + 1)))) 10 (t * 5 + (b + i)) ((mlV (up2 V 3 t (nI (c0 - 1))) t b c0 i) 10 (t * 5 + ((b + i) + 1)))) UR t (b + i) ((mlV (up2 V 3 t (nI (c0 - 1))) t b c0 i) 11 (t * 5 + ((b + i) + 1))) (by omega) (by omega)) ok_X5_put rfl q3_21 [0] rfl (by decide) (b_recv hK hP 0 0 rfl rfl rfl rfl) ⟨⟨rfl, rfl⟩, Nat.le_of_ble_eq_true rfl, Nat.le_of_ble_eq_true rfl⟩ hl.1 (Nat.le_of_ble_eq_true rfl) ⟨Nat.le_of_ble_eq_true rfl, Nat.le_of_ble_eq_true rfl⟩ rfl dX5_melt_156 (fun _u H locs _ hW => ?_)
              have hW : wd g _ s.heap [mV g h a (up2 (up2 (up2 (mlV (up2 V 3 t (nI (c0 - 1))) t b c0 i) 9 (t * 5 + (b + i)) ((mlV (up2 V 3 t (nI (c0 - 1))) t b c0 i) 9 (t * 5 + ((b + i) + 1)))) 10 (t * 5 + (b + i)) ((mlV (up2 V 3 t (nI (c0 - 1))) t b c0 i) 10 (t * 5 + ((b + i) + 1)))) 11 (t * 5 + (b + i)) ((mlV (up2 V 3 t (nI (c0 - 1))) t b c0 i) 11 (t * 5 + ((b + i) + 1)))) UR] H locs := hW
              have hP := hW.1
              refine lv_iinc (v := nI (b + i + 1)) (lv' := [(4, .int (nI (b + i + 1))), (5, .int 1), (0, .ref h), (1, .int (nI t)), (2, .int (nI b)), (3, .int (V 9 (t * 5 + b)))]) hx hb dX5_melt_159 hl (k := 5) rfl (nI_add (b + i) 1) (by decide) rfl (fun ls hl => ?_)
              refine lv_goto (tgt := 42) hx hb dX5_melt_162 (by decide) ?_
              have e_12 : ([mV g h a (mlV (up2 V 3 t (nI (c0 - 1))) t b c0 (i + 1)) UR] : List va_W) = [mV g h a (up2 (up2 (up2 (mlV (up2 V 3 t (nI (c0 - 1))) t b c0 i) 9 (t * 5 + (b + i)) ((mlV (up2 V 3 t (nI (c0 - 1))) t b c0 i) 9 (t * 5 + ((b + i) + 1)))) 10 (t * 5 + (b + i)) ((mlV (up2 V 3 t (nI (c0 - 1))) t b c0 i) 10 (t * 5 + ((b + i) + 1)))) 11 (t * 5 + (b + i)) ((mlV (up2 V 3 t (nI (c0 - 1))) t b c0 i) 11 (t * 5 + ((b + i) + 1)))) UR] := by first | (rw [mlV, if_pos h_4]; done) | (rw [mlV, if_neg (by omega)]; done)
              exact ih_i (by omega)  _ _ _ (by rw [e_12]; exact hW) (lv_sub hl [2, 3, 4, 5, 0] rfl) 
  · refine lv_iconst (v := -1) hx hb dX5_melt_9 (by decide) ?_
    have hE : meE V x y = -1 := by rw [meE, if_neg h_1]
    exact uI_ret (false, X) hW hx hb hr hlocks dX5_melt_10 (hE.symm) (show (¬ meE V x y = 0) ∧ (X = X) from ⟨by rw [hE]; decide, rfl⟩) (by simp only [cond_true, cond_false]) (adr2 (L := [[h, a 0, a 1, a 2, a 3, a 4, a 5, a 6, a 7, a 8]]) rfl rfl)
