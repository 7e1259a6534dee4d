set_option maxHeartbeats 4000000 in
set_option maxRecDepth 100000 in
theorem c_X5_takesSign (l : Launch) (g : gx) (h : Nat) (a : Nat → Nat) (V X : sV) (T : Nat → Nat) (k : Nat) (hk : k ≤ 60) (hT : ∀ i, T i < 127) (sp l9 m9 : Nat) (htx : txP X T k) (hsp : X 9 3 = nI sp) (hspk : sp ≤ k) (hl9 : l9 < 200) (hm9 : m9 < 200) : cU (S := Unit) l g yX5_takesSign cX5_takesSign 4 (some .boolean) ({ frames := 1, cells := 0, slots := 0, locals := 22 } : Room) [.ref h, .int (nI l9), .int (nI m9)] [mV g h a V X] (fun _ => some (.int (bI (tkP T k sp l9 m9)))) (fun _ => True) (fun _ => [mV g h a V (up2 X 9 3 (nI (tkS T k sp l9 m9)))]) := by
  refine cU.mk (by decide +kernel) (Nat.le_of_ble_eq_true rfl) ?_
  intro p e s m below meth c ls E hK hW hl
  obtain ⟨hx, hb, hr, hml, hts, hown, hlocks, hin⟩ := id E
  have hown : s.vm.findClass RX5 = some m.cls := hown
  have hP := hW.1
  have hl : lv_has ls 4 [(0, .ref h), (1, .int (nI l9)), (2, .int (nI m9))] := hl
  have hTs := hT sp
  refine lv_aload_n hx hb dX5_takesSign_0 rfl (lv_at hl 0 rfl) ?_
  refine b_get (v := .int (X 9 3)) hx hb hts inX5 hown hK hP 0 0 9 rfl rfl rfl (by decide) q3_34 rfl rfl dX5_takesSign_1 ?_
  refine b_top (y := nI sp) hsp ?_
  refine lv_aload_n hx hb dX5_takesSign_4 rfl (lv_at hl 0 rfl) ?_
  refine b_get (v := .int (X 9 2)) hx hb hts inX5 hown hK hP 0 0 8 rfl rfl rfl (by decide) q3_33 rfl rfl dX5_takesSign_5 ?_
  refine b_top (y := nI k) htx.1 ?_
  refine b_ge (tgt := 32) (sp) (k) hx hb rfl rfl (by omega) (by omega) dX5_takesSign_8 (by decide) (fun h_1 => ?_) (fun h_1 => ?_)
  · have hno : ¬ tkP T k sp l9 m9 := fun q9 => absurd q9.1 (by omega)
    refine lv_iconst (v := 0) hx hb dX5_takesSign_32 (by decide) ?_
    refine lv_istore_n (lv' := [(3, .int 0), (0, .ref h), (1, .int (nI l9)), (2, .int (nI m9))]) hx hb dX5_takesSign_33 rfl hl (by decide) rfl (fun ls hl => ?_)
    refine lv_aload_n hx hb dX5_takesSign_34 rfl (lv_at hl 1 rfl) ?_
    refine lv_dup hx hb dX5_takesSign_35 rfl ?_
    refine b_get (v := .int (X 9 3)) hx hb hts inX5 hown hK hP 0 0 9 rfl rfl rfl (by decide) q3_34 rfl rfl dX5_takesSign_36 ?_
    refine b_top (y := nI sp) hsp ?_
    refine lv_iload_n hx hb dX5_takesSign_39 rfl (lv_at hl 0 rfl) ?_
    refine lv_if_eq (tgt := 47) hx hb dX5_takesSign_40 (by decide) (fun h_2 => ?_) (fun h_2 => ?_)
    · refine lv_iconst (v := 0) hx hb dX5_takesSign_47 (by decide) ?_
      refine lv_iadd hx hb dX5_takesSign_48 ?_
      refine b_top (y := nI (sp + 0)) (nI_add sp 0) ?_
      refine b_put (B' := [mV g h a V (up2 X 9 3 (nI (sp + 0)))]) (v := .int (nI (sp + 0))) hx hb hts inX5 tyX5_ok nmX5 hown hK hW 0 0 9 rfl rfl rfl (by decide) q3_34 rfl rfl rfl rfl (Nat.le_of_ble_eq_true rfl) rfl dX5_takesSign_49 (fun H locs hW => ?_)
      have hP := hW.1
      refine lv_iload_n hx hb dX5_takesSign_52 rfl (lv_at hl 0 rfl) ?_
      exact uZ_ret () hW hx hb hr hlocks dX5_takesSign_53 (by rfl) (by first | exact bI_t hyes | exact bI_f hno) trivial (by first | (rw [tkS, if_pos hyes]; done) | (rw [tkS, if_neg hno]; rfl)) (adr2 (L := [[h, a 0, a 1, a 2, a 3, a 4, a 5, a 6, a 7, a 8]]) rfl rfl)
    · exact absurd h_2 (by decide)
  · refine lv_aload_n hx hb dX5_takesSign_11 rfl (lv_at hl 0 rfl) ?_
    refine b_get (v := .ref (a 5)) hx hb hts inX5 hown hK hP 0 0 7 rfl rfl rfl (by decide) q3_32 rfl rfl dX5_takesSign_12 ?_
    refine lv_aload_n hx hb dX5_takesSign_15 rfl (lv_at hl 0 rfl) ?_
    refine b_get (v := .int (X 9 3)) hx hb hts inX5 hown hK hP 0 0 9 rfl rfl rfl (by decide) q3_34 rfl rfl dX5_takesSign_16 ?_
    refine b_top (y := nI sp) hsp ?_
    refine b_iald (v := X 5 sp) hx hb hK hP 0 6 (sp) rfl rfl rfl (by omega) rfl rfl dX5_takesSign_19 ?_
    refine b_top (y := nI (T sp)) (htx.2 sp (by omega)) ?_
    refine lv_iload_n hx hb dX5_takesSign_20 rfl (lv_at hl 1 rfl) ?_
    refine lv_iload_n hx hb dX5_takesSign_21 rfl (lv_at hl 2 rfl) ?_
    refine call_SR (As := [.int (nI (T sp)), .int (nI l9), .int (nI m9)]) (rest := []) E rfl hK hP (c_X5_in l g (nI (T sp)) (nI l9) (nI m9)) ok_X5_in rfl q3_91 [] rfl ⟨⟨rfl, rfl⟩, Nat.le_of_ble_eq_true rfl, Nat.le_of_ble_eq_true rfl⟩ hl.1 (Nat.le_of_ble_eq_true rfl) ⟨Nat.le_of_ble_eq_true rfl, Nat.le_of_ble_eq_true rfl⟩ rfl dX5_takesSign_22 ?_
    refine b_eq0 (tgt := 32) hx hb dX5_takesSign_25 (by decide) (fun h_3 => ?_) (fun h_3 => ?_)
    · have hno : ¬ tkP T k sp l9 m9 := fun q9 => h_3 ((inI_nat (by omega) (by omega) (by omega)).mpr q9.2)
      refine lv_iconst (v := 0) hx hb dX5_takesSign_32 (by decide) ?_
      refine lv_istore_n (lv' := [(3, .int 0), (0, .ref h), (1, .int (nI l9)), (2, .int (nI m9))]) hx hb dX5_takesSign_33 rfl hl (by decide) rfl (fun ls hl => ?_)
      refine lv_aload_n hx hb dX5_takesSign_34 rfl (lv_at hl 1 rfl) ?_
      refine lv_dup hx hb dX5_takesSign_35 rfl ?_
      refine b_get (v := .int (X 9 3)) hx hb hts inX5 hown hK hP 0 0 9 rfl rfl rfl (by decide) q3_34 rfl rfl dX5_takesSign_36 ?_
      refine b_top (y := nI sp) hsp ?_
      refine lv_iload_n hx hb dX5_takesSign_39 rfl (lv_at hl 0 rfl) ?_
      refine lv_if_eq (tgt := 47) hx hb dX5_takesSign_40 (by decide) (fun h_4 => ?_) (fun h_4 => ?_)
      · refine lv_iconst (v := 0) hx hb dX5_takesSign_47 (by decide) ?_
        refine lv_iadd hx hb dX5_takesSign_48 ?_
        refine b_top (y := nI (sp + 0)) (nI_add sp 0) ?_
        refine b_put (B' := [mV g h a V (up2 X 9 3 (nI (sp + 0)))]) (v := .int (nI (sp + 0))) hx hb hts inX5 tyX5_ok nmX5 hown hK hW 0 0 9 rfl rfl rfl (by decide) q3_34 rfl rfl rfl rfl (Nat.le_of_ble_eq_true rfl) rfl dX5_takesSign_49 (fun H locs hW => ?_)
        have hP := hW.1
        refine lv_iload_n hx hb dX5_takesSign_52 rfl (lv_at hl 0 rfl) ?_
        exact uZ_ret () hW hx hb hr hlocks dX5_takesSign_53 (by rfl) (by first | exact bI_t hyes | exact bI_f hno) trivial (by first | (rw [tkS, if_pos hyes]; done) | (rw [tkS, if_neg hno]; rfl)) (adr2 (L := [[h, a 0, a 1, a 2, a 3, a 4, a 5, a 6, a 7, a 8]]) rfl rfl)
      · exact absurd h_4 (by decide)
    · have hyes : tkP T k sp l9 m9 := ⟨h_1, (inI_nat (by omega) (by omega) (by omega)).mp h_3⟩
      refine lv_iconst (v := 1) hx hb dX5_takesSign_28 (by decide) ?_
      refine lv_goto (tgt := 33) hx hb dX5_takesSign_29 (by decide) ?_
      refine lv_istore_n (lv' := [(3, .int 1), (0, .ref h), (1, .int (nI l9)), (2, .int (nI m9))]) hx hb dX5_takesSign_33 rfl hl (by decide) rfl (fun ls hl => ?_)
      refine lv_aload_n hx hb dX5_takesSign_34 rfl (lv_at hl 1 rfl) ?_
      refine lv_dup hx hb dX5_takesSign_35 rfl ?_
      refine b_get (v := .int (X 9 3)) hx hb hts inX5 hown hK hP 0 0 9 rfl rfl rfl (by decide) q3_34 rfl rfl dX5_takesSign_36 ?_
      refine b_top (y := nI sp) hsp ?_
      refine lv_iload_n hx hb dX5_takesSign_39 rfl (lv_at hl 0 rfl) ?_
      refine lv_if_eq (tgt := 47) hx hb dX5_takesSign_40 (by decide) (fun h_5 => ?_) (fun h_5 => ?_)
      · exact absurd h_5 (by decide)
      · refine lv_iconst (v := 1) hx hb dX5_takesSign_43 (by decide) ?_
        refine lv_goto (tgt := 48) hx hb dX5_takesSign_44 (by decide) ?_
        refine lv_iadd hx hb dX5_takesSign_48 ?_
        refine b_top (y := nI (sp + 1)) (nI_add sp 1) ?_
        refine b_put (B' := [mV g h a V (up2 X 9 3 (nI (sp + 1)))]) (v := .int (nI (sp + 1))) hx hb hts inX5 tyX5_ok nmX5 hown hK hW 0 0 9 rfl rfl rfl (by decide) q3_34 rfl rfl rfl rfl (Nat.le_of_ble_eq_true rfl) rfl dX5_takesSign_49 (fun H locs hW => ?_)
        have hP := hW.1
        refine lv_iload_n hx hb dX5_takesSign_52 rfl (lv_at hl 0 rfl) ?_
        exact uZ_ret () hW hx hb hr hlocks dX5_takesSign_53 (by rfl) (by first | exact bI_t hyes | exact bI_f hno) trivial (by first | (rw [tkS, if_pos hyes]; done) | (rw [tkS, if_neg hno]; rfl)) (adr2 (L := [[h, a 0, a 1, a 2, a 3, a 4, a 5, a 6, a 7, a 8]]) rfl rfl)

set_option maxHeartbeats 4000000 in
set_option maxRecDepth 100000 in
theorem c_X5_readOrder (l : Launch) (g : gx) (h : Nat) (a : Nat → Nat) (V X : sV) (T : Nat → Nat) (k : Nat) (hk : k ≤ 60) (hT : ∀ i, T i < 127) (sp od : Nat) (htx : txP X T k) (hsp : X 9 3 = nI sp) (hspk : sp ≤ k) (hod : X 9 4 = nI od) (hod32 : od < 32) : cU (S := sV) l g yX5_readOrder cX5_readOrder 4 (some .boolean) ({ frames := 2, cells := 0, slots := 0, locals := 45 } : Room) [.ref h] [mV g h a V X] (fun u => some (.int (bI ((rdR T k sp).1 = true)))) (fun u => rdP X u T k sp od) (fun u => [mV g h a V u]) := by
  refine cU.mk (by decide +kernel) (Nat.le_of_ble_eq_true rfl) ?_
  intro p e s m below meth c ls E hK hW hl
  obtain ⟨hx, hb, hr, hml, hts, hown, hlocks, hin⟩ := id E
  have hown : s.vm.findClass RX5 = some m.cls := hown
  have hP := hW.1
  have hl : lv_has ls 4 [(0, .ref h)] := hl
  have hTs := hT sp
  have hTs1 := hT (sp + 1)
  have hTs2 := hT (sp + 2)
  refine lv_aload_n hx hb dX5_readOrder_0 rfl (lv_at hl 0 rfl) ?_
  refine b_get (v := .int (X 9 3)) hx hb hts inX5 hown hK hP 0 0 9 rfl rfl rfl (by decide) q3_34 rfl rfl dX5_readOrder_1 ?_
  refine b_top (y := nI sp) hsp ?_
  refine lv_aload_n hx hb dX5_readOrder_4 rfl (lv_at hl 0 rfl) ?_
  refine b_get (v := .int (X 9 2)) hx hb hts inX5 hown hK hP 0 0 8 rfl rfl rfl (by decide) q3_33 rfl rfl dX5_readOrder_5 ?_
  refine b_top (y := nI k) htx.1 ?_
  refine b_ge (tgt := 23) (sp) (k) hx hb rfl rfl (by omega) (by omega) dX5_readOrder_8 (by decide) (fun h_1 => ?_) (fun h_1 => ?_)
  · have hend := h_1
    refine lv_iconst (v := 0) hx hb dX5_readOrder_23 (by decide) ?_
    refine lv_istore_n (lv' := [(1, .int 0), (0, .ref h)]) hx hb dX5_readOrder_24 rfl hl (by decide) rfl (fun ls hl => ?_)
    refine lv_aload_n hx hb dX5_readOrder_25 rfl (lv_at hl 1 rfl) ?_
    refine lv_bipush (v := 112) hx hb dX5_readOrder_26 (by decide) ?_
    refine lv_bipush (v := 112) hx hb dX5_readOrder_28 (by decide) ?_
    refine call_VU (As := [.int 112, .int 112]) (rest := []) E rfl hK hW (c_X5_takesSign l g h a V X T k hk hT sp 112 112 htx hsp hspk (by omega) (by omega)) ok_X5_takesSign rfl q3_214 [0] rfl (by decide) (b_recv hK hP 0 0 rfl rfl rfl rfl) ⟨⟨rfl, rfl⟩, Nat.le_of_ble_eq_true rfl, Nat.le_of_ble_eq_true rfl⟩ hl.1 (Nat.le_of_ble_eq_true rfl) ⟨Nat.le_of_ble_eq_true rfl, Nat.le_of_ble_eq_true rfl⟩ rfl dX5_readOrder_30 (fun _u H locs _ hW => ?_)
    have hW : wd g _ s.heap [mV g h a V (up2 X 9 3 (nI (tkS T k sp 112 112)))] H locs := hW
    have hP := hW.1
    refine b_ne0 (tgt := 58) hx hb dX5_readOrder_33 (by decide) (fun h_2 => ?_) (fun h_2 => ?_)
    · exact absurd h_2.1 (by omega)
    · have hs9 : tkS T k sp 112 112 = sp := if_neg h_2
      rw [hs9] at hW
      have hP := hW.1
      have hp9 := h_2
      refine lv_aload_n hx hb dX5_readOrder_36 rfl (lv_at hl 1 rfl) ?_
      refine lv_bipush (v := 115) hx hb dX5_readOrder_37 (by decide) ?_
      refine lv_bipush (v := 115) hx hb dX5_readOrder_39 (by decide) ?_
      refine call_VU (As := [.int 115, .int 115]) (rest := []) E rfl hK hW (c_X5_takesSign l g h a V (up2 X 9 3 (nI sp)) T k hk hT sp 115 115 (htx.up (by decide) (fun q9 => by first | decide | exact absurd q9 (by decide))) (up2_eq _ _ _ _) hspk (by omega) (by omega)) ok_X5_takesSign rfl q3_214 [0] rfl (by decide) (b_recv hK hP 0 0 rfl rfl rfl rfl) ⟨⟨rfl, rfl⟩, Nat.le_of_ble_eq_true rfl, Nat.le_of_ble_eq_true rfl⟩ hl.1 (Nat.le_of_ble_eq_true rfl) ⟨Nat.le_of_ble_eq_true rfl, Nat.le_of_ble_eq_true rfl⟩ rfl dX5_readOrder_41 (fun _u H locs _ hW => ?_)
      have hW : wd g _ s.heap [mV g h a V (up2 (up2 X 9 3 (nI sp)) 9 3 (nI (tkS T k sp 115 115)))] H locs := hW
      have hP := hW.1
      refine b_ne0 (tgt := 58) hx hb dX5_readOrder_44 (by decide) (fun h_3 => ?_) (fun h_3 => ?_)
      · exact absurd h_3.1 (by omega)
      · have hs9 : tkS T k sp 115 115 = sp := if_neg h_3
        rw [hs9] at hW
        have hP := hW.1
        have hs9s := h_3
        refine lv_aload_n hx hb dX5_readOrder_47 rfl (lv_at hl 1 rfl) ?_
        refine lv_bipush (v := 116) hx hb dX5_readOrder_48 (by decide) ?_
        refine lv_bipush (v := 116) hx hb dX5_readOrder_50 (by decide) ?_
        refine call_VU (As := [.int 116, .int 116]) (rest := []) E rfl hK hW (c_X5_takesSign l g h a V (up2 (up2 X 9 3 (nI sp)) 9 3 (nI sp)) T k hk hT sp 116 116 ((htx.up (by decide) (fun q9 => by first | decide | exact absurd q9 (by decide))).up (by decide) (fun q9 => by first | decide | exact absurd q9 (by decide))) (up2_eq _ _ _ _) hspk (by omega) (by omega)) ok_X5_takesSign rfl q3_214 [0] rfl (by decide) (b_recv hK hP 0 0 rfl rfl rfl rfl) ⟨⟨rfl, rfl⟩, Nat.le_of_ble_eq_true rfl, Nat.le_of_ble_eq_true rfl⟩ hl.1 (Nat.le_of_ble_eq_true rfl) ⟨Nat.le_of_ble_eq_true rfl, Nat.le_of_ble_eq_true rfl⟩ rfl dX5_readOrder_52 (fun _u H locs _ hW => ?_)
        have hW : wd g _ s.heap [mV g h a V (up2 (up2 (up2 X 9 3 (nI sp)) 9 3 (nI sp)) 9 3 (nI (tkS T k sp 116 116)))] H locs := hW
        have hP := hW.1
        refine b_eq0 (tgt := 62) hx hb dX5_readOrder_55 (by decide) (fun h_4 => ?_) (fun h_4 => ?_)
        · have hs9 : tkS T k sp 116 116 = sp := if_neg h_4
          rw [hs9] at hW
          have hP := hW.1
          have ht9 := h_4
          refine lv_iconst (v := 0) hx hb dX5_readOrder_62 (by decide) ?_
          refine lv_istore_n (lv' := [(2, .int 0), (1, .int 0), (0, .ref h)]) hx hb dX5_readOrder_63 rfl hl (by decide) rfl (fun ls hl => ?_)
          refine lv_iload_n hx hb dX5_readOrder_64 rfl (lv_at hl 0 rfl) ?_
          refine lv_if_eq (tgt := 99) hx hb dX5_readOrder_65 (by decide) (fun h_5 => ?_) (fun h_5 => ?_)
          · refine lv_iconst (v := 0) hx hb dX5_readOrder_99 (by decide) ?_
            exact uZ_ret (up2 (up2 (up2 X 9 3 (nI sp)) 9 3 (nI sp)) 9 3 (nI sp)) hW hx hb hr hlocks dX5_readOrder_100 (by rfl) ((bI_f (by rw [(rdR_0 hp9 hs9s ht9)]; exact fun q9 => Bool.false_ne_true q9))) (rdP_of (rdR_0 hp9 hs9s ht9) (fun k9 j9 h1 h2 => by simp only [up2_if]; by_cases a : k9 = 9 <;> by_cases f : j9 = 3 <;> simp [a, f] <;> (try (intros; omega)) <;> (try (repeat (rw [if_neg (by omega)])))) (by simp [up2_if, hod]) (fun q9 => by exact absurd q9 (by decide))) (rfl) (adr2 (L := [[h, a 0, a 1, a 2, a 3, a 4, a 5, a 6, a 7, a 8]]) rfl rfl)
          · exact absurd h_5 (by decide)
        · exact absurd h_4.1 (by omega)
  · have hin9 := h_1
    refine lv_aload_n hx hb dX5_readOrder_11 rfl (lv_at hl 0 rfl) ?_
    refine b_get (v := .ref (a 5)) hx hb hts inX5 hown hK hP 0 0 7 rfl rfl rfl (by decide) q3_32 rfl rfl dX5_readOrder_12 ?_
    refine lv_aload_n hx hb dX5_readOrder_15 rfl (lv_at hl 0 rfl) ?_
    refine b_get (v := .int (X 9 3)) hx hb hts inX5 hown hK hP 0 0 9 rfl rfl rfl (by decide) q3_34 rfl rfl dX5_readOrder_16 ?_
    refine b_top (y := nI sp) hsp ?_
    refine b_iald (v := X 5 sp) hx hb hK hP 0 6 (sp) rfl rfl rfl (by omega) rfl rfl dX5_readOrder_19 ?_
    refine b_top (y := nI (T sp)) (htx.2 sp (by omega)) ?_
    refine lv_goto (tgt := 24) hx hb dX5_readOrder_20 (by decide) ?_
    refine lv_istore_n (lv' := [(1, .int (nI (T sp))), (0, .ref h)]) hx hb dX5_readOrder_24 rfl hl (by decide) rfl (fun ls hl => ?_)
    refine lv_aload_n hx hb dX5_readOrder_25 rfl (lv_at hl 1 rfl) ?_
    refine lv_bipush (v := 112) hx hb dX5_readOrder_26 (by decide) ?_
    refine lv_bipush (v := 112) hx hb dX5_readOrder_28 (by decide) ?_
    refine call_VU (As := [.int 112, .int 112]) (rest := []) E rfl hK hW (c_X5_takesSign l g h a V X T k hk hT sp 112 112 htx hsp hspk (by omega) (by omega)) ok_X5_takesSign rfl q3_214 [0] rfl (by decide) (b_recv hK hP 0 0 rfl rfl rfl rfl) ⟨⟨rfl, rfl⟩, Nat.le_of_ble_eq_true rfl, Nat.le_of_ble_eq_true rfl⟩ hl.1 (Nat.le_of_ble_eq_true rfl) ⟨Nat.le_of_ble_eq_true rfl, Nat.le_of_ble_eq_true rfl⟩ rfl dX5_readOrder_30 (fun _u H locs _ hW => ?_)
    have hW : wd g _ s.heap [mV g h a V (up2 X 9 3 (nI (tkS T k sp 112 112)))] H locs := hW
    have hP := hW.1
    refine b_ne0 (tgt := 58) hx hb dX5_readOrder_33 (by decide) (fun h_6 => ?_) (fun h_6 => ?_)
    · have hc : T sp = 112 := by have q9 := h_6; omega
      have hs9 : tkS T k sp 112 112 = sp + 1 := if_pos h_6
      rw [hs9] at hW
      have hP := hW.1
      have h0 := h_6
      have hle_7 : sp + 1 ≤ k := by have q9 := (h_6).1; omega
      refine lv_iconst (v := 1) hx hb dX5_readOrder_58 (by decide) ?_
      refine lv_goto (tgt := 63) hx hb dX5_readOrder_59 (by decide) ?_
      refine lv_istore_n (lv' := [(2, .int 1), (1, .int (nI (T sp))), (0, .ref h)]) hx hb dX5_readOrder_63 rfl hl (by decide) rfl (fun ls hl => ?_)
      refine lv_iload_n hx hb dX5_readOrder_64 rfl (lv_at hl 0 rfl) ?_
      refine lv_if_eq (tgt := 99) hx hb dX5_readOrder_65 (by decide) (fun h_8 => ?_) (fun h_8 => ?_)
      · exact absurd h_8 (by decide)
      · refine lv_iload_n hx hb dX5_readOrder_68 rfl (lv_at hl 1 rfl) ?_
        refine lv_bipush (v := 116) hx hb dX5_readOrder_69 (by decide) ?_
        refine b_ne (tgt := 88) ((T sp)) (116) hx hb rfl rfl (by omega) (by omega) dX5_readOrder_71 (by decide) (fun h_9 => ?_) (fun h_9 => ?_)
        · refine lv_aload_n hx hb dX5_readOrder_88 rfl (lv_at hl 2 rfl) ?_
          refine lv_bipush (v := 48) hx hb dX5_readOrder_89 (by decide) ?_
          refine lv_bipush (v := 53) hx hb dX5_readOrder_91 (by decide) ?_
          refine call_VU (As := [.int 48, .int 53]) (rest := []) E rfl hK hW (c_X5_takesSign l g h a V (up2 X 9 3 (nI (sp + 1))) T k hk hT (sp + 1) 48 53 (htx.up (by decide) (fun q9 => by first | decide | exact absurd q9 (by decide))) (up2_eq _ _ _ _) hle_7 (by omega) (by omega)) ok_X5_takesSign rfl q3_214 [0] rfl (by decide) (b_recv hK hP 0 0 rfl rfl rfl rfl) ⟨⟨rfl, rfl⟩, Nat.le_of_ble_eq_true rfl, Nat.le_of_ble_eq_true rfl⟩ hl.1 (Nat.le_of_ble_eq_true rfl) ⟨Nat.le_of_ble_eq_true rfl, Nat.le_of_ble_eq_true rfl⟩ rfl dX5_readOrder_93 (fun _u H locs _ hW => ?_)
          have hW : wd g _ s.heap [mV g h a V (up2 (up2 X 9 3 (nI (sp + 1))) 9 3 (nI (tkS T k (sp + 1) 48 53)))] H locs := hW
          have hP := hW.1
          refine b_ne0 (tgt := 101) hx hb dX5_readOrder_96 (by decide) (fun h_10 => ?_) (fun h_10 => ?_)
          · have hs9 : tkS T k (sp + 1) 48 53 = sp + 2 := if_pos h_10
            rw [hs9] at hW
            have hP := hW.1
            have hyes := h_10
            have hle_11 : sp + 2 ≤ k := by have q9 := (h_10).1; omega
            refine lv_aload_n hx hb dX5_readOrder_101 rfl (lv_at hl 2 rfl) ?_
            refine b_get (v := .ref (a 6)) hx hb hts inX5 hown hK hP 0 0 11 rfl rfl rfl (by decide) q3_36 rfl rfl dX5_readOrder_102 ?_
            refine lv_aload_n hx hb dX5_readOrder_105 rfl (lv_at hl 2 rfl) ?_
            refine b_get (v := .int (X 9 4)) hx hb hts inX5 hown hK hP 0 0 10 rfl rfl rfl (by decide) q3_35 rfl rfl dX5_readOrder_106 ?_
            refine b_top (y := nI od) hod ?_
            refine lv_iload_n hx hb dX5_readOrder_109 rfl (lv_at hl 1 rfl) ?_
            refine b_iast (B' := [mV g h a V (up2 (up2 (up2 X 9 3 (nI (sp + 1))) 9 3 (nI (sp + 2))) 6 od (nI (T sp)))]) hx hb hK hW 0 7 (od) rfl rfl rfl (by omega) rfl rfl dX5_readOrder_110 (fun H locs hW => ?_)
            have hP := hW.1
            refine lv_aload_n hx hb dX5_readOrder_111 rfl (lv_at hl 2 rfl) ?_
            refine b_get (v := .ref (a 7)) hx hb hts inX5 hown hK hP 0 0 12 rfl rfl rfl (by decide) q3_37 rfl rfl dX5_readOrder_112 ?_
            refine lv_aload_n hx hb dX5_readOrder_115 rfl (lv_at hl 2 rfl) ?_
            refine b_get (v := .int (X 9 4)) hx hb hts inX5 hown hK hP 0 0 10 rfl rfl rfl (by decide) q3_35 rfl rfl dX5_readOrder_116 ?_
            refine b_top (y := nI od) hod ?_
            refine lv_aload_n hx hb dX5_readOrder_119 rfl (lv_at hl 2 rfl) ?_
            refine b_get (v := .ref (a 5)) hx hb hts inX5 hown hK hP 0 0 7 rfl rfl rfl (by decide) q3_32 rfl rfl dX5_readOrder_120 ?_
            refine lv_aload_n hx hb dX5_readOrder_123 rfl (lv_at hl 2 rfl) ?_
            refine b_get (v := .int (nI (sp + 2))) hx hb hts inX5 hown hK hP 0 0 9 rfl rfl rfl (by decide) q3_34 rfl rfl dX5_readOrder_124 ?_
            refine lv_iconst (v := 1) hx hb dX5_readOrder_127 (by decide) ?_
            refine lv_isub hx hb dX5_readOrder_128 ?_
            refine b_top (y := nI ((sp + 2) - 1)) (pk_sub (a := (sp + 2)) (b := 1) (by omega)) ?_
            refine b_top (y := nI (sp + 1)) (congrArg nI (by omega)) ?_
            refine b_iald (v := X 5 (sp + 1)) hx hb hK hP 0 6 ((sp + 1)) rfl rfl rfl (by omega) rfl rfl dX5_readOrder_129 ?_
            refine b_top (y := nI (T (sp + 1))) (htx.2 (sp + 1) (by omega)) ?_
            refine lv_bipush (v := 48) hx hb dX5_readOrder_130 (by decide) ?_
            refine lv_isub hx hb dX5_readOrder_132 ?_
            refine b_iast (B' := [mV g h a V (up2 (up2 (up2 (up2 X 9 3 (nI (sp + 1))) 9 3 (nI (sp + 2))) 6 od (nI (T sp))) 7 od ((nI (T (sp + 1))) - 48))]) hx hb hK hW 0 8 (od) rfl rfl rfl (by omega) rfl rfl dX5_readOrder_133 (fun H locs hW => ?_)
            have hP := hW.1
            refine lv_aload_n hx hb dX5_readOrder_134 rfl (lv_at hl 2 rfl) ?_
            refine b_get (v := .ref (a 8)) hx hb hts inX5 hown hK hP 0 0 13 rfl rfl rfl (by decide) q3_38 rfl rfl dX5_readOrder_135 ?_
            refine lv_aload_n hx hb dX5_readOrder_138 rfl (lv_at hl 2 rfl) ?_
            refine b_get (v := .int (X 9 4)) hx hb hts inX5 hown hK hP 0 0 10 rfl rfl rfl (by decide) q3_35 rfl rfl dX5_readOrder_139 ?_
            refine b_top (y := nI od) hod ?_
            refine lv_iconst (v := 0) hx hb dX5_readOrder_142 (by decide) ?_
            refine b_iast (B' := [mV g h a V (up2 (up2 (up2 (up2 (up2 X 9 3 (nI (sp + 1))) 9 3 (nI (sp + 2))) 6 od (nI (T sp))) 7 od ((nI (T (sp + 1))) - 48)) 8 od 0)]) hx hb hK hW 0 9 (od) rfl rfl rfl (by omega) rfl rfl dX5_readOrder_143 (fun H locs hW => ?_)
            have hP := hW.1
            refine lv_bipush (v := 48) hx hb dX5_readOrder_144 (by decide) ?_
            refine lv_istore_n (lv' := [(3, .int 48), (2, .int 1), (1, .int (nI (T sp))), (0, .ref h)]) hx hb dX5_readOrder_146 rfl hl (by decide) rfl (fun ls hl => ?_)
            have e_12 : [mV g h a V (up2 (up2 (up2 (up2 X 6 od (nI (T sp))) 7 od (nI (T (sp + 1)) - 48)) 8 od 0) 9 3 (nI (sp + 2 + 0)))] = [mV g h a V (up2 (up2 (up2 (up2 (up2 X 9 3 (nI (sp + 1))) 9 3 (nI (sp + 2))) 6 od (nI (T sp))) 7 od ((nI (T (sp + 1))) - 48)) 8 od 0)] := by rw [rd_canon]
            refine loopN (fun i : Nat => ∀ l9 : Nat, ∀ acc : Int32, ∀ (H : Heap) (locs : List Loc) (ls : Array Slot), wd g (fun z9 => z9 ∈ adr [mV g h a V X]) s.heap [mV g h a V (up2 (up2 (up2 (up2 X 6 od (nI (T sp))) 7 od (nI (T (sp + 1)) - 48)) 8 od acc) 9 3 (nI (sp + 2 + i)))] H locs → lv_has ls 4 [(0, .ref h), (1, .int (nI (T sp))), (2, .int 1), (3, .int (nI l9))] → (l9 < 200) → (sp + 2 + i ≤ k) → (bl2 T k (k - (sp + 2) - i) (sp + 2 + i) l9 acc = bl2 T k (k - (sp + 2)) (sp + 2) 48 0) → W p l e _ s m _ below meth c H locs 0 0 _ (F0 m 147 ls [])) (k - (sp + 2)) (fun i hi ih_i => ?_) (0) (by omega) (48) (0) H locs ls (by rw [e_12]; exact hW) (lv_sub hl [3, 2, 1, 0] rfl) (by omega) (by omega) (rfl)
            intro l9 acc H locs ls hW hl hl9 hi9 hb9
            have hP := hW.1
            have hTs3 := hT (sp + 2 + i)
            refine lv_iload_n hx hb dX5_readOrder_147 rfl (lv_at hl 1 rfl) ?_
            refine lv_bipush (v := 112) hx hb dX5_readOrder_148 (by decide) ?_
            refine b_ne (tgt := 208) ((T sp)) (112) hx hb rfl rfl (by omega) (by omega) dX5_readOrder_150 (by decide) (fun h_13 => ?_) (fun h_13 => ?_)
            · exact absurd hc h_13
            · refine lv_aload_n hx hb dX5_readOrder_153 rfl (lv_at hl 0 rfl) ?_
              refine lv_iload_n hx hb dX5_readOrder_154 rfl (lv_at hl 3 rfl) ?_
              refine lv_bipush (v := 52) hx hb dX5_readOrder_155 (by decide) ?_
              refine call_VU (As := [.int (nI l9), .int 52]) (rest := []) E rfl hK hW (c_X5_takesSign l g h a V (up2 (up2 (up2 (up2 X 6 od (nI (T sp))) 7 od (nI (T (sp + 1)) - 48)) 8 od acc) 9 3 (nI (sp + 2 + i))) T k hk hT (sp + 2 + i) l9 52 ((((htx.up (by decide) (fun q9 => by first | decide | exact absurd q9 (by decide))).up (by decide) (fun q9 => by first | decide | exact absurd q9 (by decide))).up (by decide) (fun q9 => by first | decide | exact absurd q9 (by decide))).up (by decide) (fun q9 => by first | decide | exact absurd q9 (by decide))) (up2_eq _ _ _ _) hi9 (by omega) (by omega)) ok_X5_takesSign rfl q3_214 [0] rfl (by decide) (b_recv hK hP 0 0 rfl rfl rfl rfl) ⟨⟨rfl, rfl⟩, Nat.le_of_ble_eq_true rfl, Nat.le_of_ble_eq_true rfl⟩ hl.1 (Nat.le_of_ble_eq_true rfl) ⟨Nat.le_of_ble_eq_true rfl, Nat.le_of_ble_eq_true rfl⟩ rfl dX5_readOrder_157 (fun _u H locs _ hW => ?_)
              have hW : wd g _ s.heap [mV g h a V (up2 (up2 (up2 (up2 (up2 X 6 od (nI (T sp))) 7 od (nI (T (sp + 1)) - 48)) 8 od acc) 9 3 (nI (sp + 2 + i))) 9 3 (nI (tkS T k (sp + 2 + i) l9 52)))] H locs := hW
              have hP := hW.1
              refine b_eq0 (tgt := 208) hx hb dX5_readOrder_160 (by decide) (fun h_14 => ?_) (fun h_14 => ?_)
              · have hs9 : tkS T k (sp + 2 + i) l9 52 = sp + 2 + i := if_neg h_14
                rw [hs9] at hW
                have hP := hW.1
                have hno := h_14
                refine lv_iload_n hx hb dX5_readOrder_208 rfl (lv_at hl 1 rfl) ?_
                refine lv_bipush (v := 115) hx hb dX5_readOrder_209 (by decide) ?_
                refine b_ne (tgt := 254) ((T sp)) (115) hx hb rfl rfl (by omega) (by omega) dX5_readOrder_211 (by decide) (fun h_15 => ?_) (fun h_15 => ?_)
                · refine lv_aload_n hx hb dX5_readOrder_254 rfl (lv_at hl 0 rfl) ?_
                  refine lv_dup hx hb dX5_readOrder_255 rfl ?_
                  refine b_get (v := .int (X 9 4)) hx hb hts inX5 hown hK hP 0 0 10 rfl rfl rfl (by decide) q3_35 rfl rfl dX5_readOrder_256 ?_
                  refine b_top (y := nI od) hod ?_
                  refine lv_iload_n hx hb dX5_readOrder_259 rfl (lv_at hl 2 rfl) ?_
                  refine lv_if_eq (tgt := 267) hx hb dX5_readOrder_260 (by decide) (fun h_16 => ?_) (fun h_16 => ?_)
                  · exact absurd h_16 (by decide)
                  · refine lv_iconst (v := 1) hx hb dX5_readOrder_263 (by decide) ?_
                    refine lv_goto (tgt := 268) hx hb dX5_readOrder_264 (by decide) ?_
                    refine lv_iadd hx hb dX5_readOrder_268 ?_
                    refine b_top (y := nI (od + 1)) (nI_add od 1) ?_
                    refine b_put (B' := [mV g h a V (up2 (up2 (up2 (up2 (up2 (up2 X 6 od (nI (T sp))) 7 od (nI (T (sp + 1)) - 48)) 8 od acc) 9 3 (nI (sp + 2 + i))) 9 3 (nI (sp + 2 + i))) 9 4 (nI (od + 1)))]) (v := .int (nI (od + 1))) hx hb hts inX5 tyX5_ok nmX5 hown hK hW 0 0 10 rfl rfl rfl (by decide) q3_35 rfl rfl rfl rfl (Nat.le_of_ble_eq_true rfl) rfl dX5_readOrder_269 (fun H locs hW => ?_)
                    have hP := hW.1
                    refine lv_iload_n hx hb dX5_readOrder_272 rfl (lv_at hl 2 rfl) ?_
                    exact uZ_ret (up2 (up2 (up2 (up2 (up2 (up2 X 6 od (nI (T sp))) 7 od (nI (T (sp + 1)) - 48)) 8 od acc) 9 3 (nI (sp + 2 + i))) 9 3 (nI (sp + 2 + i))) 9 4 (nI (od + 1))) hW hx hb hr hlocks dX5_readOrder_273 (by rfl) ((bI_t (by rw [((rdR_p (by omega) hc hyes).trans (by rw [← hb9, bl2_no hno]))]))) (rdP_of ((rdR_p (by omega) hc hyes).trans (by rw [← hb9, bl2_no hno])) (fun k9 j9 h1 h2 => by simp only [up2_if]; by_cases a : k9 = 9 <;> by_cases f : j9 = 3 <;> simp [a, f] <;> (try (intros; omega)) <;> (try (repeat (rw [if_neg (by omega)])))) (by simp [up2_if, hod]) (fun q9 => by simp [up2_if])) (rfl) (adr2 (L := [[h, a 0, a 1, a 2, a 3, a 4, a 5, a 6, a 7, a 8]]) rfl rfl)
                · exact absurd h_15 (by omega)
              · have hs9 : tkS T k (sp + 2 + i) l9 52 = sp + 2 + i + 1 := if_pos h_14
                rw [hs9] at hW
                have hP := hW.1
                have hy9 := h_14
                have hle_17 : sp + 2 + i + 1 ≤ k := by have q9 := (h_14).1; omega
                refine lv_aload_n hx hb dX5_readOrder_163 rfl (lv_at hl 0 rfl) ?_
                refine b_get (v := .ref (a 8)) hx hb hts inX5 hown hK hP 0 0 13 rfl rfl rfl (by decide) q3_38 rfl rfl dX5_readOrder_164 ?_
                refine lv_aload_n hx hb dX5_readOrder_167 rfl (lv_at hl 0 rfl) ?_
                refine b_get (v := .int (X 9 4)) hx hb hts inX5 hown hK hP 0 0 10 rfl rfl rfl (by decide) q3_35 rfl rfl dX5_readOrder_168 ?_
                refine b_top (y := nI od) hod ?_
                refine lv_dup2_11 hx hb dX5_readOrder_171 rfl rfl ?_
                refine b_iald (v := acc) hx hb hK hP 0 9 (od) rfl rfl rfl (by omega) rfl (up2_eq (up2 (up2 X 6 od (nI (T sp))) 7 od (nI (T (sp + 1)) - 48)) 8 od acc) dX5_readOrder_172 ?_
                refine lv_iconst (v := 1) hx hb dX5_readOrder_173 (by decide) ?_
                refine lv_aload_n hx hb dX5_readOrder_174 rfl (lv_at hl 0 rfl) ?_
                refine b_get (v := .ref (a 5)) hx hb hts inX5 hown hK hP 0 0 7 rfl rfl rfl (by decide) q3_32 rfl rfl dX5_readOrder_175 ?_
                refine lv_aload_n hx hb dX5_readOrder_178 rfl (lv_at hl 0 rfl) ?_
                refine b_get (v := .int (nI (sp + 2 + i + 1))) hx hb hts inX5 hown hK hP 0 0 9 rfl rfl rfl (by decide) q3_34 rfl rfl dX5_readOrder_179 ?_
                refine lv_iconst (v := 1) hx hb dX5_readOrder_182 (by decide) ?_
                refine lv_isub hx hb dX5_readOrder_183 ?_
                refine b_top (y := nI ((sp + 2 + i + 1) - 1)) (pk_sub (a := (sp + 2 + i + 1)) (b := 1) (by omega)) ?_
                refine b_top (y := nI (sp + 2 + i)) (congrArg nI (by omega)) ?_
                refine b_iald (v := X 5 (sp + 2 + i)) hx hb hK hP 0 6 ((sp + 2 + i)) rfl rfl rfl (by omega) rfl rfl dX5_readOrder_184 ?_
                refine b_top (y := nI (T (sp + 2 + i))) (htx.2 (sp + 2 + i) (by omega)) ?_
                refine lv_bipush (v := 48) hx hb dX5_readOrder_185 (by decide) ?_
                refine lv_isub hx hb dX5_readOrder_187 ?_
                refine lv_ishl hx hb dX5_readOrder_188 ?_
                refine lv_ior hx hb dX5_readOrder_189 ?_
                refine b_iast (B' := [mV g h a V (up2 (up2 (up2 (up2 (up2 (up2 X 6 od (nI (T sp))) 7 od (nI (T (sp + 1)) - 48)) 8 od acc) 9 3 (nI (sp + 2 + i))) 9 3 (nI (sp + 2 + i + 1))) 8 od (acc ||| ((1 : Int32) <<< (((nI (T (sp + 2 + i))) - 48) &&& 31))))]) hx hb hK hW 0 9 (od) rfl rfl rfl (by omega) rfl rfl dX5_readOrder_190 (fun H locs hW => ?_)
                have hP := hW.1
                refine lv_aload_n hx hb dX5_readOrder_191 rfl (lv_at hl 0 rfl) ?_
                refine b_get (v := .ref (a 5)) hx hb hts inX5 hown hK hP 0 0 7 rfl rfl rfl (by decide) q3_32 rfl rfl dX5_readOrder_192 ?_
                refine lv_aload_n hx hb dX5_readOrder_195 rfl (lv_at hl 0 rfl) ?_
                refine b_get (v := .int (nI (sp + 2 + i + 1))) hx hb hts inX5 hown hK hP 0 0 9 rfl rfl rfl (by decide) q3_34 rfl rfl dX5_readOrder_196 ?_
                refine lv_iconst (v := 1) hx hb dX5_readOrder_199 (by decide) ?_
                refine lv_isub hx hb dX5_readOrder_200 ?_
                refine b_top (y := nI ((sp + 2 + i + 1) - 1)) (pk_sub (a := (sp + 2 + i + 1)) (b := 1) (by omega)) ?_
                refine b_top (y := nI (sp + 2 + i)) (congrArg nI (by omega)) ?_
                refine b_iald (v := X 5 (sp + 2 + i)) hx hb hK hP 0 6 ((sp + 2 + i)) rfl rfl rfl (by omega) rfl rfl dX5_readOrder_201 ?_
                refine b_top (y := nI (T (sp + 2 + i))) (htx.2 (sp + 2 + i) (by omega)) ?_
                refine lv_iconst (v := 1) hx hb dX5_readOrder_202 (by decide) ?_
                refine lv_iadd hx hb dX5_readOrder_203 ?_
                refine b_top (y := nI ((T (sp + 2 + i)) + 1)) (nI_add (T (sp + 2 + i)) 1) ?_
                refine lv_istore_n (lv' := [(3, .int (nI ((T (sp + 2 + i)) + 1))), (0, .ref h), (1, .int (nI (T sp))), (2, .int 1)]) hx hb dX5_readOrder_204 rfl hl (by decide) rfl (fun ls hl => ?_)
                refine lv_goto (tgt := 147) hx hb dX5_readOrder_205 (by decide) ?_
                have e_18 : ([mV g h a V (up2 (up2 (up2 (up2 X 6 od (nI (T sp))) 7 od (nI (T (sp + 1)) - 48)) 8 od (acc ||| ((1 : Int32) <<< ((nI (T (sp + 2 + i)) - 48) &&& 31)))) 9 3 (nI (sp + 2 + (i + 1))))] : List va_W) = [mV g h a V (up2 (up2 (up2 (up2 (up2 (up2 X 6 od (nI (T sp))) 7 od (nI (T (sp + 1)) - 48)) 8 od acc) 9 3 (nI (sp + 2 + i))) 9 3 (nI (sp + 2 + i + 1))) 8 od (acc ||| ((1 : Int32) <<< (((nI (T (sp + 2 + i))) - 48) &&& 31))))] := by rw [rd_step]; rfl
                exact ih_i (by omega) ((T (sp + 2 + i) + 1)) ((acc ||| ((1 : Int32) <<< ((nI (T (sp + 2 + i)) - 48) &&& 31)))) _ _ _ (by rw [e_18]; exact hW) (lv_sub hl [1, 2, 3, 0] rfl) (by omega) (by omega) (by rw [← hb9, show k - (sp + 2) - i = (k - (sp + 2) - (i + 1)) + 1 by omega, bl2_yes hy9]; rfl)
          · have hs9 : tkS T k (sp + 1) 48 53 = sp + 1 := if_neg h_10
            rw [hs9] at hW
            have hP := hW.1
            have hno := h_10
            refine lv_iconst (v := 0) hx hb dX5_readOrder_99 (by decide) ?_
            exact uZ_ret (up2 (up2 X 9 3 (nI (sp + 1))) 9 3 (nI (sp + 1))) hW hx hb hr hlocks dX5_readOrder_100 (by rfl) ((bI_f (by rw [(rdR_1 (by omega) (by omega) hno)]; exact fun q9 => Bool.false_ne_true q9))) (rdP_of (rdR_1 (by omega) (by omega) hno) (fun k9 j9 h1 h2 => by simp only [up2_if]; by_cases a : k9 = 9 <;> by_cases f : j9 = 3 <;> simp [a, f] <;> (try (intros; omega)) <;> (try (repeat (rw [if_neg (by omega)])))) (by simp [up2_if, hod]) (fun q9 => by exact absurd q9 (by decide))) (rfl) (adr2 (L := [[h, a 0, a 1, a 2, a 3, a 4, a 5, a 6, a 7, a 8]]) rfl rfl)
        · exact absurd h_9 (by omega)
    · have hs9 : tkS T k sp 112 112 = sp := if_neg h_6
      rw [hs9] at hW
      have hP := hW.1
      have hp9 := h_6
      refine lv_aload_n hx hb dX5_readOrder_36 rfl (lv_at hl 1 rfl) ?_
      refine lv_bipush (v := 115) hx hb dX5_readOrder_37 (by decide) ?_
      refine lv_bipush (v := 115) hx hb dX5_readOrder_39 (by decide) ?_
      refine call_VU (As := [.int 115, .int 115]) (rest := []) E rfl hK hW (c_X5_takesSign l g h a V (up2 X 9 3 (nI sp)) T k hk hT sp 115 115 (htx.up (by decide) (fun q9 => by first | decide | exact absurd q9 (by decide))) (up2_eq _ _ _ _) hspk (by omega) (by omega)) ok_X5_takesSign rfl q3_214 [0] rfl (by decide) (b_recv hK hP 0 0 rfl rfl rfl rfl) ⟨⟨rfl, rfl⟩, Nat.le_of_ble_eq_true rfl, Nat.le_of_ble_eq_true rfl⟩ hl.1 (Nat.le_of_ble_eq_true rfl) ⟨Nat.le_of_ble_eq_true rfl, Nat.le_of_ble_eq_true rfl⟩ rfl dX5_readOrder_41 (fun _u H locs _ hW => ?_)
      have hW : wd g _ s.heap [mV g h a V (up2 (up2 X 9 3 (nI sp)) 9 3 (nI (tkS T k sp 115 115)))] H locs := hW
      have hP := hW.1
      refine b_ne0 (tgt := 58) hx hb dX5_readOrder_44 (by decide) (fun h_19 => ?_) (fun h_19 => ?_)
      · have hc : T sp = 115 := by have q9 := h_19; omega
        have hs9 : tkS T k sp 115 115 = sp + 1 := if_pos h_19
        rw [hs9] at hW
        have hP := hW.1
        have h0 := h_19
        have hle_20 : sp + 1 ≤ k := by have q9 := (h_19).1; omega
        refine lv_iconst (v := 1) hx hb dX5_readOrder_58 (by decide) ?_
        refine lv_goto (tgt := 63) hx hb dX5_readOrder_59 (by decide) ?_
        refine lv_istore_n (lv' := [(2, .int 1), (1, .int (nI (T sp))), (0, .ref h)]) hx hb dX5_readOrder_63 rfl hl (by decide) rfl (fun ls hl => ?_)
        refine lv_iload_n hx hb dX5_readOrder_64 rfl (lv_at hl 0 rfl) ?_
        refine lv_if_eq (tgt := 99) hx hb dX5_readOrder_65 (by decide) (fun h_21 => ?_) (fun h_21 => ?_)
        · exact absurd h_21 (by decide)
        · refine lv_iload_n hx hb dX5_readOrder_68 rfl (lv_at hl 1 rfl) ?_
          refine lv_bipush (v := 116) hx hb dX5_readOrder_69 (by decide) ?_
          refine b_ne (tgt := 88) ((T sp)) (116) hx hb rfl rfl (by omega) (by omega) dX5_readOrder_71 (by decide) (fun h_22 => ?_) (fun h_22 => ?_)
          · refine lv_aload_n hx hb dX5_readOrder_88 rfl (lv_at hl 2 rfl) ?_
            refine lv_bipush (v := 48) hx hb dX5_readOrder_89 (by decide) ?_
            refine lv_bipush (v := 53) hx hb dX5_readOrder_91 (by decide) ?_
            refine call_VU (As := [.int 48, .int 53]) (rest := []) E rfl hK hW (c_X5_takesSign l g h a V (up2 (up2 X 9 3 (nI sp)) 9 3 (nI (sp + 1))) T k hk hT (sp + 1) 48 53 ((htx.up (by decide) (fun q9 => by first | decide | exact absurd q9 (by decide))).up (by decide) (fun q9 => by first | decide | exact absurd q9 (by decide))) (up2_eq _ _ _ _) hle_20 (by omega) (by omega)) ok_X5_takesSign rfl q3_214 [0] rfl (by decide) (b_recv hK hP 0 0 rfl rfl rfl rfl) ⟨⟨rfl, rfl⟩, Nat.le_of_ble_eq_true rfl, Nat.le_of_ble_eq_true rfl⟩ hl.1 (Nat.le_of_ble_eq_true rfl) ⟨Nat.le_of_ble_eq_true rfl, Nat.le_of_ble_eq_true rfl⟩ rfl dX5_readOrder_93 (fun _u H locs _ hW => ?_)
            have hW : wd g _ s.heap [mV g h a V (up2 (up2 (up2 X 9 3 (nI sp)) 9 3 (nI (sp + 1))) 9 3 (nI (tkS T k (sp + 1) 48 53)))] H locs := hW
            have hP := hW.1
            refine b_ne0 (tgt := 101) hx hb dX5_readOrder_96 (by decide) (fun h_23 => ?_) (fun h_23 => ?_)
            · have hs9 : tkS T k (sp + 1) 48 53 = sp + 2 := if_pos h_23
              rw [hs9] at hW
              have hP := hW.1
              have hyes := h_23
              have hle_24 : sp + 2 ≤ k := by have q9 := (h_23).1; omega
              refine lv_aload_n hx hb dX5_readOrder_101 rfl (lv_at hl 2 rfl) ?_
              refine b_get (v := .ref (a 6)) hx hb hts inX5 hown hK hP 0 0 11 rfl rfl rfl (by decide) q3_36 rfl rfl dX5_readOrder_102 ?_
              refine lv_aload_n hx hb dX5_readOrder_105 rfl (lv_at hl 2 rfl) ?_
              refine b_get (v := .int (X 9 4)) hx hb hts inX5 hown hK hP 0 0 10 rfl rfl rfl (by decide) q3_35 rfl rfl dX5_readOrder_106 ?_
              refine b_top (y := nI od) hod ?_
              refine lv_iload_n hx hb dX5_readOrder_109 rfl (lv_at hl 1 rfl) ?_
              refine b_iast (B' := [mV g h a V (up2 (up2 (up2 (up2 X 9 3 (nI sp)) 9 3 (nI (sp + 1))) 9 3 (nI (sp + 2))) 6 od (nI (T sp)))]) hx hb hK hW 0 7 (od) rfl rfl rfl (by omega) rfl rfl dX5_readOrder_110 (fun H locs hW => ?_)
              have hP := hW.1
              refine lv_aload_n hx hb dX5_readOrder_111 rfl (lv_at hl 2 rfl) ?_
              refine b_get (v := .ref (a 7)) hx hb hts inX5 hown hK hP 0 0 12 rfl rfl rfl (by decide) q3_37 rfl rfl dX5_readOrder_112 ?_
              refine lv_aload_n hx hb dX5_readOrder_115 rfl (lv_at hl 2 rfl) ?_
              refine b_get (v := .int (X 9 4)) hx hb hts inX5 hown hK hP 0 0 10 rfl rfl rfl (by decide) q3_35 rfl rfl dX5_readOrder_116 ?_
              refine b_top (y := nI od) hod ?_
              refine lv_aload_n hx hb dX5_readOrder_119 rfl (lv_at hl 2 rfl) ?_
              refine b_get (v := .ref (a 5)) hx hb hts inX5 hown hK hP 0 0 7 rfl rfl rfl (by decide) q3_32 rfl rfl dX5_readOrder_120 ?_
              refine lv_aload_n hx hb dX5_readOrder_123 rfl (lv_at hl 2 rfl) ?_
              refine b_get (v := .int (nI (sp + 2))) hx hb hts inX5 hown hK hP 0 0 9 rfl rfl rfl (by decide) q3_34 rfl rfl dX5_readOrder_124 ?_
              refine lv_iconst (v := 1) hx hb dX5_readOrder_127 (by decide) ?_
              refine lv_isub hx hb dX5_readOrder_128 ?_
              refine b_top (y := nI ((sp + 2) - 1)) (pk_sub (a := (sp + 2)) (b := 1) (by omega)) ?_
              refine b_top (y := nI (sp + 1)) (congrArg nI (by omega)) ?_
              refine b_iald (v := X 5 (sp + 1)) hx hb hK hP 0 6 ((sp + 1)) rfl rfl rfl (by omega) rfl rfl dX5_readOrder_129 ?_
              refine b_top (y := nI (T (sp + 1))) (htx.2 (sp + 1) (by omega)) ?_
              refine lv_bipush (v := 48) hx hb dX5_readOrder_130 (by decide) ?_
              refine lv_isub hx hb dX5_readOrder_132 ?_
              refine b_iast (B' := [mV g h a V (up2 (up2 (up2 (up2 (up2 X 9 3 (nI sp)) 9 3 (nI (sp + 1))) 9 3 (nI (sp + 2))) 6 od (nI (T sp))) 7 od ((nI (T (sp + 1))) - 48))]) hx hb hK hW 0 8 (od) rfl rfl rfl (by omega) rfl rfl dX5_readOrder_133 (fun H locs hW => ?_)
              have hP := hW.1
              refine lv_aload_n hx hb dX5_readOrder_134 rfl (lv_at hl 2 rfl) ?_
              refine b_get (v := .ref (a 8)) hx hb hts inX5 hown hK hP 0 0 13 rfl rfl rfl (by decide) q3_38 rfl rfl dX5_readOrder_135 ?_
              refine lv_aload_n hx hb dX5_readOrder_138 rfl (lv_at hl 2 rfl) ?_
              refine b_get (v := .int (X 9 4)) hx hb hts inX5 hown hK hP 0 0 10 rfl rfl rfl (by decide) q3_35 rfl rfl dX5_readOrder_139 ?_
              refine b_top (y := nI od) hod ?_
              refine lv_iconst (v := 0) hx hb dX5_readOrder_142 (by decide) ?_
              refine b_iast (B' := [mV g h a V (up2 (up2 (up2 (up2 (up2 (up2 X 9 3 (nI sp)) 9 3 (nI (sp + 1))) 9 3 (nI (sp + 2))) 6 od (nI (T sp))) 7 od ((nI (T (sp + 1))) - 48)) 8 od 0)]) hx hb hK hW 0 9 (od) rfl rfl rfl (by omega) rfl rfl dX5_readOrder_143 (fun H locs hW => ?_)
              have hP := hW.1
              refine lv_bipush (v := 48) hx hb dX5_readOrder_144 (by decide) ?_
              refine lv_istore_n (lv' := [(3, .int 48), (2, .int 1), (1, .int (nI (T sp))), (0, .ref h)]) hx hb dX5_readOrder_146 rfl hl (by decide) rfl (fun ls hl => ?_)
              refine lv_iload_n hx hb dX5_readOrder_147 rfl (lv_at hl 2 rfl) ?_
              refine lv_bipush (v := 112) hx hb dX5_readOrder_148 (by decide) ?_
              refine b_ne (tgt := 208) ((T sp)) (112) hx hb rfl rfl (by omega) (by omega) dX5_readOrder_150 (by decide) (fun h_25 => ?_) (fun h_25 => ?_)
              · refine lv_iload_n hx hb dX5_readOrder_208 rfl (lv_at hl 2 rfl) ?_
                refine lv_bipush (v := 115) hx hb dX5_readOrder_209 (by decide) ?_
                refine b_ne (tgt := 254) ((T sp)) (115) hx hb rfl rfl (by omega) (by omega) dX5_readOrder_211 (by decide) (fun h_26 => ?_) (fun h_26 => ?_)
                · exact absurd hc h_26
                · refine lv_aload_n hx hb dX5_readOrder_214 rfl (lv_at hl 3 rfl) ?_
                  refine lv_bipush (v := 48) hx hb dX5_readOrder_215 (by decide) ?_
                  refine lv_bipush (v := 52) hx hb dX5_readOrder_217 (by decide) ?_
                  refine call_VU (As := [.int 48, .int 52]) (rest := []) E rfl hK hW (c_X5_takesSign l g h a V (up2 (up2 (up2 (up2 (up2 (up2 X 9 3 (nI sp)) 9 3 (nI (sp + 1))) 9 3 (nI (sp + 2))) 6 od (nI (T sp))) 7 od ((nI (T (sp + 1))) - 48)) 8 od 0) T k hk hT (sp + 2) 48 52 ((((((htx.up (by decide) (fun q9 => by first | decide | exact absurd q9 (by decide))).up (by decide) (fun q9 => by first | decide | exact absurd q9 (by decide))).up (by decide) (fun q9 => by first | decide | exact absurd q9 (by decide))).up (by decide) (fun q9 => by first | decide | exact absurd q9 (by decide))).up (by decide) (fun q9 => by first | decide | exact absurd q9 (by decide))).up (by decide) (fun q9 => by first | decide | exact absurd q9 (by decide))) ((up2_ne (fun q9 => by first | exact absurd q9.1 (by decide) | exact absurd q9.2 (by decide))).trans ((up2_ne (fun q9 => by first | exact absurd q9.1 (by decide) | exact absurd q9.2 (by decide))).trans ((up2_ne (fun q9 => by first | exact absurd q9.1 (by decide) | exact absurd q9.2 (by decide))).trans (up2_eq _ _ _ _)))) hle_24 (by omega) (by omega)) ok_X5_takesSign rfl q3_214 [0] rfl (by decide) (b_recv hK hP 0 0 rfl rfl rfl rfl) ⟨⟨rfl, rfl⟩, Nat.le_of_ble_eq_true rfl, Nat.le_of_ble_eq_true rfl⟩ hl.1 (Nat.le_of_ble_eq_true rfl) ⟨Nat.le_of_ble_eq_true rfl, Nat.le_of_ble_eq_true rfl⟩ rfl dX5_readOrder_219 (fun _u H locs _ hW => ?_)
                  have hW : wd g _ s.heap [mV g h a V (up2 (up2 (up2 (up2 (up2 (up2 (up2 X 9 3 (nI sp)) 9 3 (nI (sp + 1))) 9 3 (nI (sp + 2))) 6 od (nI (T sp))) 7 od ((nI (T (sp + 1))) - 48)) 8 od 0) 9 3 (nI (tkS T k (sp + 2) 48 52)))] H locs := hW
                  have hP := hW.1
                  refine lv_istore_n (lv' := [(2, .int (bI (tkP T k (sp + 2) 48 52))), (3, .int 48), (1, .int (nI (T sp))), (0, .ref h)]) hx hb dX5_readOrder_222 rfl hl (by decide) rfl (fun ls hl => ?_)
                  refine lv_aload_n hx hb dX5_readOrder_223 rfl (lv_at hl 3 rfl) ?_
                  refine b_get (v := .ref (a 8)) hx hb hts inX5 hown hK hP 0 0 13 rfl rfl rfl (by decide) q3_38 rfl rfl dX5_readOrder_224 ?_
                  refine lv_aload_n hx hb dX5_readOrder_227 rfl (lv_at hl 3 rfl) ?_
                  refine b_get (v := .int (X 9 4)) hx hb hts inX5 hown hK hP 0 0 10 rfl rfl rfl (by decide) q3_35 rfl rfl dX5_readOrder_228 ?_
                  refine b_top (y := nI od) hod ?_
                  refine lv_iload_n hx hb dX5_readOrder_231 rfl (lv_at hl 0 rfl) ?_
                  refine b_eq0 (tgt := 252) hx hb dX5_readOrder_232 (by decide) (fun h_27 => ?_) (fun h_27 => ?_)
                  · have hs9 : tkS T k (sp + 2) 48 52 = sp + 2 := if_neg h_27
                    rw [hs9] at hW
                    have hP := hW.1
                    have hno2 := h_27
                    refine lv_iconst (v := 0) hx hb dX5_readOrder_252 (by decide) ?_
                    refine b_iast (B' := [mV g h a V (up2 (up2 (up2 (up2 (up2 (up2 (up2 (up2 X 9 3 (nI sp)) 9 3 (nI (sp + 1))) 9 3 (nI (sp + 2))) 6 od (nI (T sp))) 7 od ((nI (T (sp + 1))) - 48)) 8 od 0) 9 3 (nI (sp + 2))) 8 od 0)]) hx hb hK hW 0 9 (od) rfl rfl rfl (by omega) rfl rfl dX5_readOrder_253 (fun H locs hW => ?_)
                    have hP := hW.1
                    refine lv_aload_n hx hb dX5_readOrder_254 rfl (lv_at hl 3 rfl) ?_
                    refine lv_dup hx hb dX5_readOrder_255 rfl ?_
                    refine b_get (v := .int (X 9 4)) hx hb hts inX5 hown hK hP 0 0 10 rfl rfl rfl (by decide) q3_35 rfl rfl dX5_readOrder_256 ?_
                    refine b_top (y := nI od) hod ?_
                    refine lv_iload_n hx hb dX5_readOrder_259 rfl (lv_at hl 0 rfl) ?_
                    refine b_eq0 (tgt := 267) hx hb dX5_readOrder_260 (by decide) (fun h_28 => ?_) (fun h_28 => ?_)
                    · refine lv_iconst (v := 0) hx hb dX5_readOrder_267 (by decide) ?_
                      refine lv_iadd hx hb dX5_readOrder_268 ?_
                      refine b_top (y := nI (od + 0)) (nI_add od 0) ?_
                      refine b_put (B' := [mV g h a V (up2 (up2 (up2 (up2 (up2 (up2 (up2 (up2 (up2 X 9 3 (nI sp)) 9 3 (nI (sp + 1))) 9 3 (nI (sp + 2))) 6 od (nI (T sp))) 7 od ((nI (T (sp + 1))) - 48)) 8 od 0) 9 3 (nI (sp + 2))) 8 od 0) 9 4 (nI (od + 0)))]) (v := .int (nI (od + 0))) hx hb hts inX5 tyX5_ok nmX5 hown hK hW 0 0 10 rfl rfl rfl (by decide) q3_35 rfl rfl rfl rfl (Nat.le_of_ble_eq_true rfl) rfl dX5_readOrder_269 (fun H locs hW => ?_)
                      have hP := hW.1
                      refine lv_iload_n hx hb dX5_readOrder_272 rfl (lv_at hl 0 rfl) ?_
                      exact uZ_ret (up2 (up2 (up2 (up2 (up2 (up2 (up2 (up2 (up2 X 9 3 (nI sp)) 9 3 (nI (sp + 1))) 9 3 (nI (sp + 2))) 6 od (nI (T sp))) 7 od ((nI (T (sp + 1))) - 48)) 8 od 0) 9 3 (nI (sp + 2))) 8 od 0) 9 4 (nI (od + 0))) hW hx hb hr hlocks dX5_readOrder_273 (by unfold bI; split <;> rfl) (((bI_f hno2).symm.trans (bI_f (by rw [(rdR_3 (by omega) hc hyes hno2)]; exact fun q9 => Bool.false_ne_true q9)))) (rdP_of (rdR_3 (by omega) hc hyes hno2) (fun k9 j9 h1 h2 => by simp only [up2_if]; by_cases a : k9 = 9 <;> by_cases f : j9 = 3 <;> simp [a, f] <;> (try (intros; omega)) <;> (try (repeat (rw [if_neg (by omega)])))) (by simp [up2_if, hod]) (fun q9 => by exact absurd q9 (by decide))) (rfl) (adr2 (L := [[h, a 0, a 1, a 2, a 3, a 4, a 5, a 6, a 7, a 8]]) rfl rfl)
                    · exact absurd h_28 hno2
                  · have hs9 : tkS T k (sp + 2) 48 52 = sp + 3 := if_pos h_27
                    rw [hs9] at hW
                    have hP := hW.1
                    have hyes2 := h_27
                    have hle_29 : sp + 3 ≤ k := by have q9 := (h_27).1; omega
                    refine lv_aload_n hx hb dX5_readOrder_235 rfl (lv_at hl 3 rfl) ?_
                    refine b_get (v := .ref (a 5)) hx hb hts inX5 hown hK hP 0 0 7 rfl rfl rfl (by decide) q3_32 rfl rfl dX5_readOrder_236 ?_
                    refine lv_aload_n hx hb dX5_readOrder_239 rfl (lv_at hl 3 rfl) ?_
                    refine b_get (v := .int (nI (sp + 3))) hx hb hts inX5 hown hK hP 0 0 9 rfl rfl rfl (by decide) q3_34 rfl rfl dX5_readOrder_240 ?_
                    refine lv_iconst (v := 1) hx hb dX5_readOrder_243 (by decide) ?_
                    refine lv_isub hx hb dX5_readOrder_244 ?_
                    refine b_top (y := nI ((sp + 3) - 1)) (pk_sub (a := (sp + 3)) (b := 1) (by omega)) ?_
                    refine b_top (y := nI (sp + 2)) (congrArg nI (by omega)) ?_
                    refine b_iald (v := X 5 (sp + 2)) hx hb hK hP 0 6 ((sp + 2)) rfl rfl rfl (by omega) rfl rfl dX5_readOrder_245 ?_
                    refine b_top (y := nI (T (sp + 2))) (htx.2 (sp + 2) (by omega)) ?_
                    refine lv_bipush (v := 48) hx hb dX5_readOrder_246 (by decide) ?_
                    refine lv_isub hx hb dX5_readOrder_248 ?_
                    refine lv_goto (tgt := 253) hx hb dX5_readOrder_249 (by decide) ?_
                    refine b_iast (B' := [mV g h a V (up2 (up2 (up2 (up2 (up2 (up2 (up2 (up2 X 9 3 (nI sp)) 9 3 (nI (sp + 1))) 9 3 (nI (sp + 2))) 6 od (nI (T sp))) 7 od ((nI (T (sp + 1))) - 48)) 8 od 0) 9 3 (nI (sp + 3))) 8 od ((nI (T (sp + 2))) - 48))]) hx hb hK hW 0 9 (od) rfl rfl rfl (by omega) rfl rfl dX5_readOrder_253 (fun H locs hW => ?_)
                    have hP := hW.1
                    refine lv_aload_n hx hb dX5_readOrder_254 rfl (lv_at hl 3 rfl) ?_
                    refine lv_dup hx hb dX5_readOrder_255 rfl ?_
                    refine b_get (v := .int (X 9 4)) hx hb hts inX5 hown hK hP 0 0 10 rfl rfl rfl (by decide) q3_35 rfl rfl dX5_readOrder_256 ?_
                    refine b_top (y := nI od) hod ?_
                    refine lv_iload_n hx hb dX5_readOrder_259 rfl (lv_at hl 0 rfl) ?_
                    refine b_eq0 (tgt := 267) hx hb dX5_readOrder_260 (by decide) (fun h_30 => ?_) (fun h_30 => ?_)
                    · exact absurd hyes2 h_30
                    · refine lv_iconst (v := 1) hx hb dX5_readOrder_263 (by decide) ?_
                      refine lv_goto (tgt := 268) hx hb dX5_readOrder_264 (by decide) ?_
                      refine lv_iadd hx hb dX5_readOrder_268 ?_
                      refine b_top (y := nI (od + 1)) (nI_add od 1) ?_
                      refine b_put (B' := [mV g h a V (up2 (up2 (up2 (up2 (up2 (up2 (up2 (up2 (up2 X 9 3 (nI sp)) 9 3 (nI (sp + 1))) 9 3 (nI (sp + 2))) 6 od (nI (T sp))) 7 od ((nI (T (sp + 1))) - 48)) 8 od 0) 9 3 (nI (sp + 3))) 8 od ((nI (T (sp + 2))) - 48)) 9 4 (nI (od + 1)))]) (v := .int (nI (od + 1))) hx hb hts inX5 tyX5_ok nmX5 hown hK hW 0 0 10 rfl rfl rfl (by decide) q3_35 rfl rfl rfl rfl (Nat.le_of_ble_eq_true rfl) rfl dX5_readOrder_269 (fun H locs hW => ?_)
                      have hP := hW.1
                      refine lv_iload_n hx hb dX5_readOrder_272 rfl (lv_at hl 0 rfl) ?_
                      exact uZ_ret (up2 (up2 (up2 (up2 (up2 (up2 (up2 (up2 (up2 X 9 3 (nI sp)) 9 3 (nI (sp + 1))) 9 3 (nI (sp + 2))) 6 od (nI (T sp))) 7 od ((nI (T (sp + 1))) - 48)) 8 od 0) 9 3 (nI (sp + 3))) 8 od ((nI (T (sp + 2))) - 48)) 9 4 (nI (od + 1))) hW hx hb hr hlocks dX5_readOrder_273 (by unfold bI; split <;> rfl) (((bI_t hyes2).symm.trans (bI_t (by rw [(rdR_s (by omega) hc hyes hyes2)])))) (rdP_of (rdR_s (by omega) hc hyes hyes2) (fun k9 j9 h1 h2 => by simp only [up2_if]; by_cases a : k9 = 9 <;> by_cases f : j9 = 3 <;> simp [a, f] <;> (try (intros; omega)) <;> (try (repeat (rw [if_neg (by omega)])))) (by simp [up2_if, hod]) (fun q9 => by simp [up2_if])) (rfl) (adr2 (L := [[h, a 0, a 1, a 2, a 3, a 4, a 5, a 6, a 7, a 8]]) rfl rfl)
              · exact absurd h_25 (by omega)
            · have hs9 : tkS T k (sp + 1) 48 53 = sp + 1 := if_neg h_23
              rw [hs9] at hW
              have hP := hW.1
              have hno := h_23
              refine lv_iconst (v := 0) hx hb dX5_readOrder_99 (by decide) ?_
              exact uZ_ret (up2 (up2 (up2 X 9 3 (nI sp)) 9 3 (nI (sp + 1))) 9 3 (nI (sp + 1))) hW hx hb hr hlocks dX5_readOrder_100 (by rfl) ((bI_f (by rw [(rdR_1 (by omega) (by omega) hno)]; exact fun q9 => Bool.false_ne_true q9))) (rdP_of (rdR_1 (by omega) (by omega) hno) (fun k9 j9 h1 h2 => by simp only [up2_if]; by_cases a : k9 = 9 <;> by_cases f : j9 = 3 <;> simp [a, f] <;> (try (intros; omega)) <;> (try (repeat (rw [if_neg (by omega)])))) (by simp [up2_if, hod]) (fun q9 => by exact absurd q9 (by decide))) (rfl) (adr2 (L := [[h, a 0, a 1, a 2, a 3, a 4, a 5, a 6, a 7, a 8]]) rfl rfl)
          · exact absurd h_22 (by omega)
      · have hs9 : tkS T k sp 115 115 = sp := if_neg h_19
        rw [hs9] at hW
        have hP := hW.1
        have hs9s := h_19
        refine lv_aload_n hx hb dX5_readOrder_47 rfl (lv_at hl 1 rfl) ?_
        refine lv_bipush (v := 116) hx hb dX5_readOrder_48 (by decide) ?_
        refine lv_bipush (v := 116) hx hb dX5_readOrder_50 (by decide) ?_
        refine call_VU (As := [.int 116, .int 116]) (rest := []) E rfl hK hW (c_X5_takesSign l g h a V (up2 (up2 X 9 3 (nI sp)) 9 3 (nI sp)) T k hk hT sp 116 116 ((htx.up (by decide) (fun q9 => by first | decide | exact absurd q9 (by decide))).up (by decide) (fun q9 => by first | decide | exact absurd q9 (by decide))) (up2_eq _ _ _ _) hspk (by omega) (by omega)) ok_X5_takesSign rfl q3_214 [0] rfl (by decide) (b_recv hK hP 0 0 rfl rfl rfl rfl) ⟨⟨rfl, rfl⟩, Nat.le_of_ble_eq_true rfl, Nat.le_of_ble_eq_true rfl⟩ hl.1 (Nat.le_of_ble_eq_true rfl) ⟨Nat.le_of_ble_eq_true rfl, Nat.le_of_ble_eq_true rfl⟩ rfl dX5_readOrder_52 (fun _u H locs _ hW => ?_)
        have hW : wd g _ s.heap [mV g h a V (up2 (up2 (up2 X 9 3 (nI sp)) 9 3 (nI sp)) 9 3 (nI (tkS T k sp 116 116)))] H locs := hW
        have hP := hW.1
        refine b_eq0 (tgt := 62) hx hb dX5_readOrder_55 (by decide) (fun h_31 => ?_) (fun h_31 => ?_)
        · have hs9 : tkS T k sp 116 116 = sp := if_neg h_31
          rw [hs9] at hW
          have hP := hW.1
          have ht9 := h_31
          refine lv_iconst (v := 0) hx hb dX5_readOrder_62 (by decide) ?_
          refine lv_istore_n (lv' := [(2, .int 0), (1, .int (nI (T sp))), (0, .ref h)]) hx hb dX5_readOrder_63 rfl hl (by decide) rfl (fun ls hl => ?_)
          refine lv_iload_n hx hb dX5_readOrder_64 rfl (lv_at hl 0 rfl) ?_
          refine lv_if_eq (tgt := 99) hx hb dX5_readOrder_65 (by decide) (fun h_32 => ?_) (fun h_32 => ?_)
          · refine lv_iconst (v := 0) hx hb dX5_readOrder_99 (by decide) ?_
            exact uZ_ret (up2 (up2 (up2 X 9 3 (nI sp)) 9 3 (nI sp)) 9 3 (nI sp)) hW hx hb hr hlocks dX5_readOrder_100 (by rfl) ((bI_f (by rw [(rdR_0 hp9 hs9s ht9)]; exact fun q9 => Bool.false_ne_true q9))) (rdP_of (rdR_0 hp9 hs9s ht9) (fun k9 j9 h1 h2 => by simp only [up2_if]; by_cases a : k9 = 9 <;> by_cases f : j9 = 3 <;> simp [a, f] <;> (try (intros; omega)) <;> (try (repeat (rw [if_neg (by omega)])))) (by simp [up2_if, hod]) (fun q9 => by exact absurd q9 (by decide))) (rfl) (adr2 (L := [[h, a 0, a 1, a 2, a 3, a 4, a 5, a 6, a 7, a 8]]) rfl rfl)
          · exact absurd h_32 (by decide)
        · have hc : T sp = 116 := by have q9 := h_31; omega
          have hs9 : tkS T k sp 116 116 = sp + 1 := if_pos h_31
          rw [hs9] at hW
          have hP := hW.1
          have h0 := h_31
          have hle_33 : sp + 1 ≤ k := by have q9 := (h_31).1; omega
          refine lv_iconst (v := 1) hx hb dX5_readOrder_58 (by decide) ?_
          refine lv_goto (tgt := 63) hx hb dX5_readOrder_59 (by decide) ?_
          refine lv_istore_n (lv' := [(2, .int 1), (1, .int (nI (T sp))), (0, .ref h)]) hx hb dX5_readOrder_63 rfl hl (by decide) rfl (fun ls hl => ?_)
          refine lv_iload_n hx hb dX5_readOrder_64 rfl (lv_at hl 0 rfl) ?_
          refine lv_if_eq (tgt := 99) hx hb dX5_readOrder_65 (by decide) (fun h_34 => ?_) (fun h_34 => ?_)
          · exact absurd h_34 (by decide)
          · refine lv_iload_n hx hb dX5_readOrder_68 rfl (lv_at hl 1 rfl) ?_
            refine lv_bipush (v := 116) hx hb dX5_readOrder_69 (by decide) ?_
            refine b_ne (tgt := 88) ((T sp)) (116) hx hb rfl rfl (by omega) (by omega) dX5_readOrder_71 (by decide) (fun h_35 => ?_) (fun h_35 => ?_)
            · exact absurd hc h_35
            · refine lv_aload_n hx hb dX5_readOrder_74 rfl (lv_at hl 2 rfl) ?_
              refine lv_bipush (v := 49) hx hb dX5_readOrder_75 (by decide) ?_
              refine lv_bipush (v := 57) hx hb dX5_readOrder_77 (by decide) ?_
              refine call_VU (As := [.int 49, .int 57]) (rest := []) E rfl hK hW (c_X5_takesSign l g h a V (up2 (up2 (up2 X 9 3 (nI sp)) 9 3 (nI sp)) 9 3 (nI (sp + 1))) T k hk hT (sp + 1) 49 57 (((htx.up (by decide) (fun q9 => by first | decide | exact absurd q9 (by decide))).up (by decide) (fun q9 => by first | decide | exact absurd q9 (by decide))).up (by decide) (fun q9 => by first | decide | exact absurd q9 (by decide))) (up2_eq _ _ _ _) hle_33 (by omega) (by omega)) ok_X5_takesSign rfl q3_214 [0] rfl (by decide) (b_recv hK hP 0 0 rfl rfl rfl rfl) ⟨⟨rfl, rfl⟩, Nat.le_of_ble_eq_true rfl, Nat.le_of_ble_eq_true rfl⟩ hl.1 (Nat.le_of_ble_eq_true rfl) ⟨Nat.le_of_ble_eq_true rfl, Nat.le_of_ble_eq_true rfl⟩ rfl dX5_readOrder_79 (fun _u H locs _ hW => ?_)
              have hW : wd g _ s.heap [mV g h a V (up2 (up2 (up2 (up2 X 9 3 (nI sp)) 9 3 (nI sp)) 9 3 (nI (sp + 1))) 9 3 (nI (tkS T k (sp + 1) 49 57)))] H locs := hW
              have hP := hW.1
              refine b_eq0 (tgt := 99) hx hb dX5_readOrder_82 (by decide) (fun h_36 => ?_) (fun h_36 => ?_)
              · have hs9 : tkS T k (sp + 1) 49 57 = sp + 1 := if_neg h_36
                rw [hs9] at hW
                have hP := hW.1
                have hno := h_36
                refine lv_iconst (v := 0) hx hb dX5_readOrder_99 (by decide) ?_
                exact uZ_ret (up2 (up2 (up2 (up2 X 9 3 (nI sp)) 9 3 (nI sp)) 9 3 (nI (sp + 1))) 9 3 (nI (sp + 1))) hW hx hb hr hlocks dX5_readOrder_100 (by rfl) ((bI_f (by rw [(rdR_2 (by omega) hc hno)]; exact fun q9 => Bool.false_ne_true q9))) (rdP_of (rdR_2 (by omega) hc hno) (fun k9 j9 h1 h2 => by simp only [up2_if]; by_cases a : k9 = 9 <;> by_cases f : j9 = 3 <;> simp [a, f] <;> (try (intros; omega)) <;> (try (repeat (rw [if_neg (by omega)])))) (by simp [up2_if, hod]) (fun q9 => by exact absurd q9 (by decide))) (rfl) (adr2 (L := [[h, a 0, a 1, a 2, a 3, a 4, a 5, a 6, a 7, a 8]]) rfl rfl)
              · have hs9 : tkS T k (sp + 1) 49 57 = sp + 2 := if_pos h_36
                rw [hs9] at hW
                have hP := hW.1
                have hyes := h_36
                have hle_37 : sp + 2 ≤ k := by have q9 := (h_36).1; omega
                refine lv_goto (tgt := 101) hx hb dX5_readOrder_85 (by decide) ?_
                refine lv_aload_n hx hb dX5_readOrder_101 rfl (lv_at hl 2 rfl) ?_
                refine b_get (v := .ref (a 6)) hx hb hts inX5 hown hK hP 0 0 11 rfl rfl rfl (by decide) q3_36 rfl rfl dX5_readOrder_102 ?_
                refine lv_aload_n hx hb dX5_readOrder_105 rfl (lv_at hl 2 rfl) ?_
                refine b_get (v := .int (X 9 4)) hx hb hts inX5 hown hK hP 0 0 10 rfl rfl rfl (by decide) q3_35 rfl rfl dX5_readOrder_106 ?_
                refine b_top (y := nI od) hod ?_
                refine lv_iload_n hx hb dX5_readOrder_109 rfl (lv_at hl 1 rfl) ?_
                refine b_iast (B' := [mV g h a V (up2 (up2 (up2 (up2 (up2 X 9 3 (nI sp)) 9 3 (nI sp)) 9 3 (nI (sp + 1))) 9 3 (nI (sp + 2))) 6 od (nI (T sp)))]) hx hb hK hW 0 7 (od) rfl rfl rfl (by omega) rfl rfl dX5_readOrder_110 (fun H locs hW => ?_)
                have hP := hW.1
                refine lv_aload_n hx hb dX5_readOrder_111 rfl (lv_at hl 2 rfl) ?_
                refine b_get (v := .ref (a 7)) hx hb hts inX5 hown hK hP 0 0 12 rfl rfl rfl (by decide) q3_37 rfl rfl dX5_readOrder_112 ?_
                refine lv_aload_n hx hb dX5_readOrder_115 rfl (lv_at hl 2 rfl) ?_
                refine b_get (v := .int (X 9 4)) hx hb hts inX5 hown hK hP 0 0 10 rfl rfl rfl (by decide) q3_35 rfl rfl dX5_readOrder_116 ?_
                refine b_top (y := nI od) hod ?_
                refine lv_aload_n hx hb dX5_readOrder_119 rfl (lv_at hl 2 rfl) ?_
                refine b_get (v := .ref (a 5)) hx hb hts inX5 hown hK hP 0 0 7 rfl rfl rfl (by decide) q3_32 rfl rfl dX5_readOrder_120 ?_
                refine lv_aload_n hx hb dX5_readOrder_123 rfl (lv_at hl 2 rfl) ?_
                refine b_get (v := .int (nI (sp + 2))) hx hb hts inX5 hown hK hP 0 0 9 rfl rfl rfl (by decide) q3_34 rfl rfl dX5_readOrder_124 ?_
                refine lv_iconst (v := 1) hx hb dX5_readOrder_127 (by decide) ?_
                refine lv_isub hx hb dX5_readOrder_128 ?_
                refine b_top (y := nI ((sp + 2) - 1)) (pk_sub (a := (sp + 2)) (b := 1) (by omega)) ?_
                refine b_top (y := nI (sp + 1)) (congrArg nI (by omega)) ?_
                refine b_iald (v := X 5 (sp + 1)) hx hb hK hP 0 6 ((sp + 1)) rfl rfl rfl (by omega) rfl rfl dX5_readOrder_129 ?_
                refine b_top (y := nI (T (sp + 1))) (htx.2 (sp + 1) (by omega)) ?_
                refine lv_bipush (v := 48) hx hb dX5_readOrder_130 (by decide) ?_
                refine lv_isub hx hb dX5_readOrder_132 ?_
                refine b_iast (B' := [mV g h a V (up2 (up2 (up2 (up2 (up2 (up2 X 9 3 (nI sp)) 9 3 (nI sp)) 9 3 (nI (sp + 1))) 9 3 (nI (sp + 2))) 6 od (nI (T sp))) 7 od ((nI (T (sp + 1))) - 48))]) hx hb hK hW 0 8 (od) rfl rfl rfl (by omega) rfl rfl dX5_readOrder_133 (fun H locs hW => ?_)
                have hP := hW.1
                refine lv_aload_n hx hb dX5_readOrder_134 rfl (lv_at hl 2 rfl) ?_
                refine b_get (v := .ref (a 8)) hx hb hts inX5 hown hK hP 0 0 13 rfl rfl rfl (by decide) q3_38 rfl rfl dX5_readOrder_135 ?_
                refine lv_aload_n hx hb dX5_readOrder_138 rfl (lv_at hl 2 rfl) ?_
                refine b_get (v := .int (X 9 4)) hx hb hts inX5 hown hK hP 0 0 10 rfl rfl rfl (by decide) q3_35 rfl rfl dX5_readOrder_139 ?_
                refine b_top (y := nI od) hod ?_
                refine lv_iconst (v := 0) hx hb dX5_readOrder_142 (by decide) ?_
                refine b_iast (B' := [mV g h a V (up2 (up2 (up2 (up2 (up2 (up2 (up2 X 9 3 (nI sp)) 9 3 (nI sp)) 9 3 (nI (sp + 1))) 9 3 (nI (sp + 2))) 6 od (nI (T sp))) 7 od ((nI (T (sp + 1))) - 48)) 8 od 0)]) hx hb hK hW 0 9 (od) rfl rfl rfl (by omega) rfl rfl dX5_readOrder_143 (fun H locs hW => ?_)
                have hP := hW.1
                refine lv_bipush (v := 48) hx hb dX5_readOrder_144 (by decide) ?_
                refine lv_istore_n (lv' := [(3, .int 48), (2, .int 1), (1, .int (nI (T sp))), (0, .ref h)]) hx hb dX5_readOrder_146 rfl hl (by decide) rfl (fun ls hl => ?_)
                refine lv_iload_n hx hb dX5_readOrder_147 rfl (lv_at hl 2 rfl) ?_
                refine lv_bipush (v := 112) hx hb dX5_readOrder_148 (by decide) ?_
                refine b_ne (tgt := 208) ((T sp)) (112) hx hb rfl rfl (by omega) (by omega) dX5_readOrder_150 (by decide) (fun h_38 => ?_) (fun h_38 => ?_)
                · refine lv_iload_n hx hb dX5_readOrder_208 rfl (lv_at hl 2 rfl) ?_
                  refine lv_bipush (v := 115) hx hb dX5_readOrder_209 (by decide) ?_
                  refine b_ne (tgt := 254) ((T sp)) (115) hx hb rfl rfl (by omega) (by omega) dX5_readOrder_211 (by decide) (fun h_39 => ?_) (fun h_39 => ?_)
                  · refine lv_aload_n hx hb dX5_readOrder_254 rfl (lv_at hl 3 rfl) ?_
                    refine lv_dup hx hb dX5_readOrder_255 rfl ?_
                    refine b_get (v := .int (X 9 4)) hx hb hts inX5 hown hK hP 0 0 10 rfl rfl rfl (by decide) q3_35 rfl rfl dX5_readOrder_256 ?_
                    refine b_top (y := nI od) hod ?_
                    refine lv_iload_n hx hb dX5_readOrder_259 rfl (lv_at hl 1 rfl) ?_
                    refine lv_if_eq (tgt := 267) hx hb dX5_readOrder_260 (by decide) (fun h_40 => ?_) (fun h_40 => ?_)
                    · exact absurd h_40 (by decide)
                    · refine lv_iconst (v := 1) hx hb dX5_readOrder_263 (by decide) ?_
                      refine lv_goto (tgt := 268) hx hb dX5_readOrder_264 (by decide) ?_
                      refine lv_iadd hx hb dX5_readOrder_268 ?_
                      refine b_top (y := nI (od + 1)) (nI_add od 1) ?_
                      refine b_put (B' := [mV g h a V (up2 (up2 (up2 (up2 (up2 (up2 (up2 (up2 X 9 3 (nI sp)) 9 3 (nI sp)) 9 3 (nI (sp + 1))) 9 3 (nI (sp + 2))) 6 od (nI (T sp))) 7 od ((nI (T (sp + 1))) - 48)) 8 od 0) 9 4 (nI (od + 1)))]) (v := .int (nI (od + 1))) hx hb hts inX5 tyX5_ok nmX5 hown hK hW 0 0 10 rfl rfl rfl (by decide) q3_35 rfl rfl rfl rfl (Nat.le_of_ble_eq_true rfl) rfl dX5_readOrder_269 (fun H locs hW => ?_)
                      have hP := hW.1
                      refine lv_iload_n hx hb dX5_readOrder_272 rfl (lv_at hl 1 rfl) ?_
                      exact uZ_ret (up2 (up2 (up2 (up2 (up2 (up2 (up2 (up2 X 9 3 (nI sp)) 9 3 (nI sp)) 9 3 (nI (sp + 1))) 9 3 (nI (sp + 2))) 6 od (nI (T sp))) 7 od ((nI (T (sp + 1))) - 48)) 8 od 0) 9 4 (nI (od + 1))) hW hx hb hr hlocks dX5_readOrder_273 (by rfl) ((bI_t (by rw [(rdR_t (by omega) hc hyes)]))) (rdP_of (rdR_t (by omega) hc hyes) (fun k9 j9 h1 h2 => by simp only [up2_if]; by_cases a : k9 = 9 <;> by_cases f : j9 = 3 <;> simp [a, f] <;> (try (intros; omega)) <;> (try (repeat (rw [if_neg (by omega)])))) (by simp [up2_if, hod]) (fun q9 => by simp [up2_if])) (rfl) (adr2 (L := [[h, a 0, a 1, a 2, a 3, a 4, a 5, a 6, a 7, a 8]]) rfl rfl)
                  · exact absurd h_39 (by omega)
                · exact absurd h_38 (by omega)
