set_option maxHeartbeats 4000000 in
set_option maxRecDepth 100000 in
theorem c_X5_pointsIn (l : Launch) (g : gx) (h : Nat) (a : Nat → Nat) (V X : sV) (x y : Int32) (t m9 : Nat) (cq : Nat → Nat) (hc : ∀ t, t < 6 → V 3 t = nI (cq t) ∧ cq t ≤ 5) (hxt : isT x → x = nI t ∧ t < 6) (hxm : inI y 1 50 → y = nI m9 ∧ m9 ≤ 50) : cU (S := sV × sV) l g yX5_pointsIn cX5_pointsIn 4 (some .int) ({ frames := 7, cells := 0, slots := 0, locals := 157 } : Room) [.ref h, .int x, .int y] [mV g h a V X] (fun u => some (.int (if isT x then (if inI y 1 50 then (mtM V u.1 cq m9).1 7 t else -2) else -1))) (fun u => ∀ k9, k9 ≠ 3 → k9 ≠ 4 → u.2 k9 = X k9) (fun u => [mV g h a V u.2]) := by
  refine cU.mk (by decide +kernel) (Nat.le_of_ble_eq_true rfl) ?_
  intro p e s m below meth c ls E hK hW hl
  obtain ⟨hx, hb, hr, hml, hts, hown, hlocks, hin⟩ := id E
  have hown : s.vm.findClass RX5 = some m.cls := hown
  have hP := hW.1
  have hl : lv_has ls 4 [(0, .ref h), (1, .int x), (2, .int y)] := hl
  refine lv_iload_n hx hb dX5_pointsIn_0 rfl (lv_at hl 1 rfl) ?_
  refine call_SR (As := [.int x]) (rest := []) E rfl hK hP (c_X5_isTown l g x) ok_X5_isTown rfl q3_88 [] rfl ⟨⟨rfl, rfl⟩, Nat.le_of_ble_eq_true rfl, Nat.le_of_ble_eq_true rfl⟩ hl.1 (Nat.le_of_ble_eq_true rfl) ⟨Nat.le_of_ble_eq_true rfl, Nat.le_of_ble_eq_true rfl⟩ rfl dX5_pointsIn_1 ?_
  refine b_ne0 (tgt := 9) hx hb dX5_pointsIn_4 (by decide) (fun h_1 => ?_) (fun h_1 => ?_)
  · have hT1 := h_1
    obtain ⟨rfl, ht⟩ := hxt h_1
    refine lv_iload_n hx hb dX5_pointsIn_9 rfl (lv_at hl 2 rfl) ?_
    refine lv_iconst (v := 1) hx hb dX5_pointsIn_10 (by decide) ?_
    refine lv_bipush (v := 50) hx hb dX5_pointsIn_11 (by decide) ?_
    refine call_SR (As := [.int y, .int 1, .int 50]) (rest := []) E rfl hK hP (c_X5_in l g y 1 50) ok_X5_in rfl q3_91 [] rfl ⟨⟨rfl, rfl⟩, Nat.le_of_ble_eq_true rfl, Nat.le_of_ble_eq_true rfl⟩ hl.1 (Nat.le_of_ble_eq_true rfl) ⟨Nat.le_of_ble_eq_true rfl, Nat.le_of_ble_eq_true rfl⟩ rfl dX5_pointsIn_13 ?_
    refine b_ne0 (tgt := 22) hx hb dX5_pointsIn_16 (by decide) (fun h_2 => ?_) (fun h_2 => ?_)
    · have hM1 := h_2
      obtain ⟨rfl, hm⟩ := hxm h_2
      refine lv_aload_n hx hb dX5_pointsIn_22 rfl (lv_at hl 0 rfl) ?_
      refine call_VU (As := []) (rest := []) E rfl hK hW (c_X5_putAside l g h a V X) ok_X5_putAside rfl q4_42 [0] rfl (by decide) (b_recv hK hP 0 0 rfl rfl rfl rfl) ⟨⟨rfl, rfl⟩, Nat.le_of_ble_eq_true rfl, Nat.le_of_ble_eq_true rfl⟩ hl.1 (Nat.le_of_ble_eq_true rfl) ⟨Nat.le_of_ble_eq_true rfl, Nat.le_of_ble_eq_true rfl⟩ rfl dX5_pointsIn_23 (fun UA H locs hUA hW => ?_)
      have hW : wd g _ s.heap [mV g h a V UA] H locs := hW
      have hP := hW.1
      refine lv_aload_n hx hb dX5_pointsIn_26 rfl (lv_at hl 0 rfl) ?_
      refine lv_iload_n hx hb dX5_pointsIn_27 rfl (lv_at hl 2 rfl) ?_
      refine call_VU (As := [.int (nI m9)]) (rest := []) E rfl hK hW (c_X5_turnsNow l g h a V UA cq hc m9 (by omega)) ok_X5_turnsNow rfl q3_150 [0] rfl (by decide) (b_recv hK hP 0 0 rfl rfl rfl rfl) ⟨⟨rfl, rfl⟩, Nat.le_of_ble_eq_true rfl, Nat.le_of_ble_eq_true rfl⟩ hl.1 (Nat.le_of_ble_eq_true rfl) ⟨Nat.le_of_ble_eq_true rfl, Nat.le_of_ble_eq_true rfl⟩ rfl dX5_pointsIn_28 (fun _u H locs _ hW => ?_)
      have hW : wd g _ s.heap [mV g h a ((mtM V UA cq m9).1) ((mtM V UA cq m9).2)] H locs := hW
      have hP := hW.1
      obtain ⟨UV9, hUV9⟩ : ∃ z, z = (mtM V UA cq m9).1 := ⟨_, rfl⟩
      rw [← hUV9] at hW
      obtain ⟨UX9, hUX9⟩ : ∃ z, z = (mtM V UA cq m9).2 := ⟨_, rfl⟩
      rw [← hUX9] at hW
      have hP := hW.1
      refine lv_aload_n hx hb dX5_pointsIn_31 rfl (lv_at hl 0 rfl) ?_
      refine lv_iload_n hx hb dX5_pointsIn_32 rfl (lv_at hl 1 rfl) ?_
      refine lv_bipush (v := 7) hx hb dX5_pointsIn_33 (by decide) ?_
      refine call_VR (As := [.int (nI t), .int 7]) (rest := []) E rfl hK hP (c_X5_of_k l g h a UV9 UX9 t 7 (by omega) (by omega)) ok_X5_of rfl q3_94 [0] rfl (b_recv hK hP 0 0 rfl rfl rfl rfl) ⟨⟨rfl, rfl⟩, Nat.le_of_ble_eq_true rfl, Nat.le_of_ble_eq_true rfl⟩ hl.1 (Nat.le_of_ble_eq_true rfl) ⟨Nat.le_of_ble_eq_true rfl, Nat.le_of_ble_eq_true rfl⟩ rfl dX5_pointsIn_35 ?_
      refine lv_istore_n (lv' := [(3, .int (UV9 7 t)), (0, .ref h), (1, .int (nI t)), (2, .int (nI m9))]) hx hb dX5_pointsIn_38 rfl hl (by decide) rfl (fun ls hl => ?_)
      refine lv_aload_n hx hb dX5_pointsIn_39 rfl (lv_at hl 1 rfl) ?_
      refine call_VU (As := []) (rest := []) E rfl hK hW (c_X5_putBack l g h a UV9 UX9 V (fun p9 h9 => by rw [hUX9, mtM_X _ _ _ (by omega)]; exact hUA.2 p9 h9)) ok_X5_putBack rfl q4_46 [0] rfl (by decide) (b_recv hK hP 0 0 rfl rfl rfl rfl) ⟨⟨rfl, rfl⟩, Nat.le_of_ble_eq_true rfl, Nat.le_of_ble_eq_true rfl⟩ hl.1 (Nat.le_of_ble_eq_true rfl) ⟨Nat.le_of_ble_eq_true rfl, Nat.le_of_ble_eq_true rfl⟩ rfl dX5_pointsIn_40 (fun _u H locs _ hW => ?_)
      have hW : wd g _ s.heap [mV g h a V UX9] H locs := hW
      have hP := hW.1
      refine lv_iload_n hx hb dX5_pointsIn_43 rfl (lv_at hl 0 rfl) ?_
      exact uI_ret (UA, UX9) hW hx hb hr hlocks dX5_pointsIn_44 (by rw [if_pos hT1, if_pos hM1, hUX9, hUV9]) (fun k9 h3 h4 => by show UX9 k9 = X k9; rw [hUX9, mtM_X _ _ _ h4]; exact hUA.1 k9 h3) (by exact rfl) (adr2 (L := [[h, a 0, a 1, a 2, a 3, a 4, a 5, a 6, a 7, a 8]]) rfl rfl)
    · refine lv_bipush (v := -2) hx hb dX5_pointsIn_19 (by decide) ?_
      exact uI_ret (X, X) hW hx hb hr hlocks dX5_pointsIn_21 (by rw [if_pos hT1, if_neg h_2]) (fun _ _ _ => rfl) (by exact rfl) (adr2 (L := [[h, a 0, a 1, a 2, a 3, a 4, a 5, a 6, a 7, a 8]]) rfl rfl)
  · refine lv_iconst (v := -1) hx hb dX5_pointsIn_7 (by decide) ?_
    exact uI_ret (X, X) hW hx hb hr hlocks dX5_pointsIn_8 (by rw [if_neg h_1]) (fun _ _ _ => rfl) (by exact rfl) (adr2 (L := [[h, a 0, a 1, a 2, a 3, a 4, a 5, a 6, a 7, a 8]]) rfl rfl)
