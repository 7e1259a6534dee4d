set_option maxHeartbeats 8000000 in
set_option maxRecDepth 100000 in
theorem whole_start {p : Program} {e : Env} {s0 : State} {m : MethodId} {below : List Frame} {meth : Method} {c : Code} (l : Launch) (hflags : l.flags = flags0) {b L : Nat} {xs : Nat → Int32} (hL : L ≤ 260) (C0 : lw_At p s0 m meth c b L xs) : W p l e room_1 s0 m #[Value.ref b] below meth c s0.heap [] 0 0 (lw_Z below #[Value.ref b] s0) (entryFrame m ([Value.ref b] : List Value).toArray 10) := by
  obtain ⟨hx, hb, hr, hml, hown0, hts0, hX, hbl, hlocks, hgv⟩ := id C0
  have hE0 : ent p s0 m meth c yL_law code 10 (some .boolean) [.ref b] := ⟨hx, hb, hr, hml, fun w h => hts0 w (aw_in w h), hown0, hlocks, fun h => absurd h (by decide)⟩
  obtain ⟨g, hKq0⟩ := kq_of hts0
  refine W.base ?_
  obtain ⟨d0, hd0, hde⟩ : ∃ d0, s0.drawn.sameBut d0 lw_cs ∧ d0 = s0.drawn := ⟨s0.drawn, Drawn.sameBut.refl s0.drawn lw_cs, rfl⟩
  rw [← hde]
  obtain ⟨s, hs⟩ : ∃ z, z = s0.setDrawn d0 := ⟨_, rfl⟩
  rw [← hs]
  have E : ent p s m meth c yL_law code 10 (some .boolean) [.ref b] := by rw [hs]; exact ent_dr hE0 d0
  have hKq : kq g s := by rw [hs]; exact kq_dr hKq0 d0
  have hK : kx g s := hKq.1
  have hts := E.2.2.2.2.1
  have hown : s.vm.findClass RL = some m.cls := E.2.2.2.2.2.1
  have hA : ∀ q9 : Nat, s0.heap.size ≤ q9 → (fun z9 : Nat => s0.heap.size ≤ z9) q9 := fun _ h => h
  have hbA : ¬ (fun z9 : Nat => s0.heap.size ≤ z9) b := Nat.not_le.mpr hbl
  have hW : wd g (fun z9 : Nat => s0.heap.size ≤ z9) s0.heap [] s0.heap [] := ⟨fun k q h => by simp at h, ⟨fun i j p q h => by simp at h, fun k q h => by simp at h⟩, va_S.rf⟩
  have hl := lv_entry ([.ref b]) (n := 10) (Nat.le_of_ble_eq_true rfl)
  rw [lg_entry_eq]
  generalize (lg_sl ([.ref b]) ++ List.replicate (10 - (lg_sl ([.ref b])).length) Slot.unset).toArray = ls at hl ⊢
  have hl : lv_has ls 10 [(0, .ref b)] := hl
  refine b_new (ci := 4) (fs := [.null, .null, .null, .int 0, .null, .null, .null]) (C := RX4) (T := TX4) (N := 7) hx hb hts inX4 tyX4_ok hown q1_8 q1_9 q1_1 hKq hW hA rfl (fun j9 hj9 => by rcases (show j9 = 0 ∨ j9 = 1 ∨ j9 = 2 ∨ j9 = 3 ∨ j9 = 4 ∨ j9 = 5 ∨ j9 = 6 by omega) with rfl | rfl | rfl | rfl | rfl | rfl | rfl <;> rfl) (Nat.le_of_ble_eq_true rfl) (Nat.le_of_ble_eq_true rfl) dL_law_0 (fun h H hW => ?_)
  refine lv_dup hx hb dL_law_3 rfl ?_
  refine call_IN (Bs := []) (c0 := [(h, .inr (4, [.null, .null, .null, .int 0, .null, .null, .null]))]) (As := []) (rest := [.ref h]) E rfl hKq hW hA (c_X4_init l g h H.size) okI_X4_init rfl q1_10 ⟨⟨rfl, rfl⟩, Nat.le_of_ble_eq_true rfl, Nat.le_of_ble_eq_true rfl⟩ hl.1 (Nat.le_of_ble_eq_true rfl) ⟨Nat.le_of_ble_eq_true rfl, Nat.le_of_ble_eq_true rfl⟩ rfl dL_law_4 (fun u H locs _ hW => ?_)
  obtain ⟨q, na, ta, pa, ⟨hq, hh, aa⟩, ra, sa⟩ := u
  have hW : wd g (fun z9 : Nat => s0.heap.size ≤ z9) s0.heap [bB h q 0, vB g (q 0) na (v0 6), vB g (q 1) ta (v0 6), vB g (q 2) pa (v0 6), hB g (q 3) hq hh 0 0, vB g (hh 0) (aa 0) (v0 6), vB g (hh 1) (aa 1) (v0 6), vB g (hh 2) (aa 2) (v0 6), vB g (hh 3) (aa 3) (v0 6), vB g (hh 4) (aa 4) (v0 6), rB g (q 4) ra r0, tB g (q 5) sa (fun _ => 0) 0] H locs := hW
  have hP := hW.1
  refine lv_astore_n (lv' := [(1, .ref h), (0, .ref b)]) hx hb dL_law_7 rfl hl (by decide) rfl (fun ls hl => ?_)
  refine lv_bipush (v := 54) hx hb dL_law_8 (by decide) ?_
  refine b_newB (N := 54) hx hb hts hKq hW hA (by decide) (by decide) (by decide) (Nat.le_of_ble_eq_true rfl) (Nat.le_of_ble_eq_true rfl) dL_law_10 (fun at_ H hW => ?_)
  have hW : wd g (fun z9 : Nat => s0.heap.size ≤ z9) s0.heap [bB h q 0, vB g (q 0) na (v0 6), vB g (q 1) ta (v0 6), vB g (q 2) pa (v0 6), hB g (q 3) hq hh 0 0, vB g (hh 0) (aa 0) ((fun _ => v0 6) 0), vB g (hh 1) (aa 1) ((fun _ => v0 6) 1), vB g (hh 2) (aa 2) ((fun _ => v0 6) 2), vB g (hh 3) (aa 3) ((fun _ => v0 6) 3), vB g (hh 4) (aa 4) ((fun _ => v0 6) 4), rB g (q 4) ra r0, tB g (q 5) sa (fun _ => 0) 0, aR g at_ 54 (rT zV)] H locs := hW
  have hP := hW.1
  refine lv_astore_n (lv' := [(2, .ref at_), (1, .ref h), (0, .ref b)]) hx hb dL_law_12 rfl hl (by decide) rfl (fun ls hl => ?_)
  refine lv_bipush (v := 30) hx hb dL_law_13 (by decide) ?_
  refine b_newB (N := 30) hx hb hts hKq hW hA (by decide) (by decide) (by decide) (Nat.le_of_ble_eq_true rfl) (Nat.le_of_ble_eq_true rfl) dL_law_15 (fun aw H hW => ?_)
  have hW : wd g (fun z9 : Nat => s0.heap.size ≤ z9) s0.heap [bB h q 0, vB g (q 0) na (v0 6), vB g (q 1) ta (v0 6), vB g (q 2) pa (v0 6), hB g (q 3) hq hh 0 0, vB g (hh 0) (aa 0) ((fun _ => v0 6) 0), vB g (hh 1) (aa 1) ((fun _ => v0 6) 1), vB g (hh 2) (aa 2) ((fun _ => v0 6) 2), vB g (hh 3) (aa 3) ((fun _ => v0 6) 3), vB g (hh 4) (aa 4) ((fun _ => v0 6) 4), rB g (q 4) ra r0, tB g (q 5) sa (fun _ => 0) 0, aR g at_ 54 (rT zV), aR g aw 30 (zV 9)] H locs := hW
  have hP := hW.1
  refine lv_astore_n (lv' := [(3, .ref aw), (2, .ref at_), (1, .ref h), (0, .ref b)]) hx hb dL_law_17 rfl hl (by decide) rfl (fun ls hl => ?_)
  refine lv_bipush (v := 30) hx hb dL_law_18 (by decide) ?_
  refine b_newB (N := 30) hx hb hts hKq hW hA (by decide) (by decide) (by decide) (Nat.le_of_ble_eq_true rfl) (Nat.le_of_ble_eq_true rfl) dL_law_20 (fun ar H hW => ?_)
  have hW : wd g (fun z9 : Nat => s0.heap.size ≤ z9) s0.heap [bB h q 0, vB g (q 0) na (v0 6), vB g (q 1) ta (v0 6), vB g (q 2) pa (v0 6), hB g (q 3) hq hh 0 0, vB g (hh 0) (aa 0) ((fun _ => v0 6) 0), vB g (hh 1) (aa 1) ((fun _ => v0 6) 1), vB g (hh 2) (aa 2) ((fun _ => v0 6) 2), vB g (hh 3) (aa 3) ((fun _ => v0 6) 3), vB g (hh 4) (aa 4) ((fun _ => v0 6) 4), rB g (q 4) ra r0, tB g (q 5) sa (fun _ => 0) 0, aR g at_ 54 (rT zV), aR g aw 30 (zV 9), aR g ar 30 (zV 10)] H locs := hW
  have hP := hW.1
  refine lv_astore (lv' := [(4, .ref ar), (3, .ref aw), (2, .ref at_), (1, .ref h), (0, .ref b)]) hx hb dL_law_22 hl (by decide) rfl (fun ls hl => ?_)
  refine lv_bipush (v := 30) hx hb dL_law_24 (by decide) ?_
  refine b_newB (N := 30) hx hb hts hKq hW hA (by decide) (by decide) (by decide) (Nat.le_of_ble_eq_true rfl) (Nat.le_of_ble_eq_true rfl) dL_law_26 (fun ag H hW => ?_)
  have hW : wd g (fun z9 : Nat => s0.heap.size ≤ z9) s0.heap [bB h q 0, vB g (q 0) na (v0 6), vB g (q 1) ta (v0 6), vB g (q 2) pa (v0 6), hB g (q 3) hq hh 0 0, vB g (hh 0) (aa 0) ((fun _ => v0 6) 0), vB g (hh 1) (aa 1) ((fun _ => v0 6) 1), vB g (hh 2) (aa 2) ((fun _ => v0 6) 2), vB g (hh 3) (aa 3) ((fun _ => v0 6) 3), vB g (hh 4) (aa 4) ((fun _ => v0 6) 4), rB g (q 4) ra r0, tB g (q 5) sa (fun _ => 0) 0, aR g at_ 54 (rT zV), aR g aw 30 (zV 9), aR g ar 30 (zV 10), aR g ag 30 (zV 11)] H locs := hW
  have hP := hW.1
  refine lv_astore (lv' := [(5, .ref ag), (4, .ref ar), (3, .ref aw), (2, .ref at_), (1, .ref h), (0, .ref b)]) hx hb dL_law_28 hl (by decide) rfl (fun ls hl => ?_)
  refine lv_iconst (v := 5) hx hb dL_law_30 (by decide) ?_
  refine b_newB (N := 5) hx hb hts hKq hW hA (by decide) (by decide) (by decide) (Nat.le_of_ble_eq_true rfl) (Nat.le_of_ble_eq_true rfl) dL_law_31 (fun an H hW => ?_)
  have hW : wd g (fun z9 : Nat => s0.heap.size ≤ z9) s0.heap [bB h q 0, vB g (q 0) na (v0 6), vB g (q 1) ta (v0 6), vB g (q 2) pa (v0 6), hB g (q 3) hq hh 0 0, vB g (hh 0) (aa 0) ((fun _ => v0 6) 0), vB g (hh 1) (aa 1) ((fun _ => v0 6) 1), vB g (hh 2) (aa 2) ((fun _ => v0 6) 2), vB g (hh 3) (aa 3) ((fun _ => v0 6) 3), vB g (hh 4) (aa 4) ((fun _ => v0 6) 4), rB g (q 4) ra r0, tB g (q 5) sa (fun _ => 0) 0, aR g at_ 54 (rT zV), aR g aw 30 (zV 9), aR g ar 30 (zV 10), aR g ag 30 (zV 11), aR g an 5 (zV 12)] H locs := hW
  have hP := hW.1
  refine lv_astore (lv' := [(6, .ref an), (5, .ref ag), (4, .ref ar), (3, .ref aw), (2, .ref at_), (1, .ref h), (0, .ref b)]) hx hb dL_law_33 hl (by decide) rfl (fun ls hl => ?_)
  refine lv_aload hx hb dL_law_35 (lv_at hl 0 rfl) ?_
  refine lv_iconst (v := 0) hx hb dL_law_37 (by decide) ?_
  refine lv_iconst (v := 1) hx hb dL_law_38 (by decide) ?_
  refine b_iastE (B' := [bB h q 0, vB g (q 0) na (v0 6), vB g (q 1) ta (v0 6), vB g (q 2) pa (v0 6), hB g (q 3) hq hh 0 0, vB g (hh 0) (aa 0) ((fun _ => v0 6) 0), vB g (hh 1) (aa 1) ((fun _ => v0 6) 1), vB g (hh 2) (aa 2) ((fun _ => v0 6) 2), vB g (hh 3) (aa 3) ((fun _ => v0 6) 3), vB g (hh 4) (aa 4) ((fun _ => v0 6) 4), rB g (q 4) ra r0, tB g (q 5) sa (fun _ => 0) 0, aR g at_ 54 (rT (up2 zV 12 0 1)), aR g aw 30 ((up2 zV 12 0 1) 9), aR g ar 30 ((up2 zV 12 0 1) 10), aR g ag 30 ((up2 zV 12 0 1) 11), aR g an 5 ((up2 zV 12 0 1) 12)]) hx hb hK hW 16 0 (0) rfl rfl rfl (by omega) rfl rfl (by rw [show rT (up2 zV 12 0 1) = rT zV from rT_ge (by decide)]; rfl) dL_law_39 (fun H locs hW => ?_)
  have hP := hW.1
  refine lv_aload hx hb dL_law_40 (lv_at hl 0 rfl) ?_
  refine lv_iconst (v := 1) hx hb dL_law_42 (by decide) ?_
  refine lv_iconst (v := 1) hx hb dL_law_43 (by decide) ?_
  refine b_iastE (B' := [bB h q 0, vB g (q 0) na (v0 6), vB g (q 1) ta (v0 6), vB g (q 2) pa (v0 6), hB g (q 3) hq hh 0 0, vB g (hh 0) (aa 0) ((fun _ => v0 6) 0), vB g (hh 1) (aa 1) ((fun _ => v0 6) 1), vB g (hh 2) (aa 2) ((fun _ => v0 6) 2), vB g (hh 3) (aa 3) ((fun _ => v0 6) 3), vB g (hh 4) (aa 4) ((fun _ => v0 6) 4), rB g (q 4) ra r0, tB g (q 5) sa (fun _ => 0) 0, aR g at_ 54 (rT (up2 (up2 zV 12 0 1) 12 1 1)), aR g aw 30 ((up2 (up2 zV 12 0 1) 12 1 1) 9), aR g ar 30 ((up2 (up2 zV 12 0 1) 12 1 1) 10), aR g ag 30 ((up2 (up2 zV 12 0 1) 12 1 1) 11), aR g an 5 ((up2 (up2 zV 12 0 1) 12 1 1) 12)]) hx hb hK hW 16 0 (1) rfl rfl rfl (by omega) rfl rfl (by rw [show rT (up2 (up2 zV 12 0 1) 12 1 1) = rT (up2 zV 12 0 1) from rT_ge (by decide)]; rfl) dL_law_44 (fun H locs hW => ?_)
  have hP := hW.1
  refine lv_aload hx hb dL_law_45 (lv_at hl 0 rfl) ?_
  refine lv_iconst (v := 3) hx hb dL_law_47 (by decide) ?_
  refine lv_bipush (v := -5) hx hb dL_law_48 (by decide) ?_
  refine b_iastE (B' := [bB h q 0, vB g (q 0) na (v0 6), vB g (q 1) ta (v0 6), vB g (q 2) pa (v0 6), hB g (q 3) hq hh 0 0, vB g (hh 0) (aa 0) ((fun _ => v0 6) 0), vB g (hh 1) (aa 1) ((fun _ => v0 6) 1), vB g (hh 2) (aa 2) ((fun _ => v0 6) 2), vB g (hh 3) (aa 3) ((fun _ => v0 6) 3), vB g (hh 4) (aa 4) ((fun _ => v0 6) 4), rB g (q 4) ra r0, tB g (q 5) sa (fun _ => 0) 0, aR g at_ 54 (rT (up2 (up2 (up2 zV 12 0 1) 12 1 1) 12 3 (-5))), aR g aw 30 ((up2 (up2 (up2 zV 12 0 1) 12 1 1) 12 3 (-5)) 9), aR g ar 30 ((up2 (up2 (up2 zV 12 0 1) 12 1 1) 12 3 (-5)) 10), aR g ag 30 ((up2 (up2 (up2 zV 12 0 1) 12 1 1) 12 3 (-5)) 11), aR g an 5 ((up2 (up2 (up2 zV 12 0 1) 12 1 1) 12 3 (-5)) 12)]) hx hb hK hW 16 0 (3) rfl rfl rfl (by omega) rfl rfl (by rw [show rT (up2 (up2 (up2 zV 12 0 1) 12 1 1) 12 3 (-5)) = rT (up2 (up2 zV 12 0 1) 12 1 1) from rT_ge (by decide)]; rfl) dL_law_50 (fun H locs hW => ?_)
  have hP := hW.1
  refine lv_iconst (v := 0) hx hb dL_law_51 (by decide) ?_
  refine lv_istore (lv' := [(7, .int 0), (6, .ref an), (5, .ref ag), (4, .ref ar), (3, .ref aw), (2, .ref at_), (1, .ref h), (0, .ref b)]) hx hb dL_law_52 hl (by decide) rfl (fun ls hl => ?_)
  have e_1 : [bB h q 0, vB g (q 0) na (v0 6), vB g (q 1) ta (v0 6), vB g (q 2) pa (v0 6), hB g (q 3) hq hh 0 0, vB g (hh 0) (aa 0) ((fun _ => v0 6) 0), vB g (hh 1) (aa 1) ((fun _ => v0 6) 1), vB g (hh 2) (aa 2) ((fun _ => v0 6) 2), vB g (hh 3) (aa 3) ((fun _ => v0 6) 3), vB g (hh 4) (aa 4) ((fun _ => v0 6) 4), rB g (q 4) ra r0, tB g (q 5) sa (fun _ => 0) 0, aR g at_ 54 (rT (v0 0)), aR g aw 30 ((v0 0) 9), aR g ar 30 ((v0 0) 10), aR g ag 30 ((v0 0) 11), aR g an 5 ((v0 0) 12)] = [bB h q 0, vB g (q 0) na (v0 6), vB g (q 1) ta (v0 6), vB g (q 2) pa (v0 6), hB g (q 3) hq hh 0 0, vB g (hh 0) (aa 0) ((fun _ => v0 6) 0), vB g (hh 1) (aa 1) ((fun _ => v0 6) 1), vB g (hh 2) (aa 2) ((fun _ => v0 6) 2), vB g (hh 3) (aa 3) ((fun _ => v0 6) 3), vB g (hh 4) (aa 4) ((fun _ => v0 6) 4), rB g (q 4) ra r0, tB g (q 5) sa (fun _ => 0) 0, aR g at_ 54 (rT (up2 (up2 (up2 zV 12 0 1) 12 1 1) 12 3 (-5))), aR g aw 30 ((up2 (up2 (up2 zV 12 0 1) 12 1 1) 12 3 (-5)) 9), aR g ar 30 ((up2 (up2 (up2 zV 12 0 1) 12 1 1) 12 3 (-5)) 10), aR g ag 30 ((up2 (up2 (up2 zV 12 0 1) 12 1 1) 12 3 (-5)) 11), aR g an 5 ((up2 (up2 (up2 zV 12 0 1) 12 1 1) 12 3 (-5)) 12)] := by rw [v0_z]
  refine loopN (fun k : Nat => ∀ (H : Heap) (locs : List Loc) (ls : Array Slot), wd g (fun z9 : Nat => s0.heap.size ≤ z9) s0.heap [bB h q 0, vB g (q 0) na (v0 6), vB g (q 1) ta (v0 6), vB g (q 2) pa (v0 6), hB g (q 3) hq hh 0 0, vB g (hh 0) (aa 0) ((fun _ => v0 6) 0), vB g (hh 1) (aa 1) ((fun _ => v0 6) 1), vB g (hh 2) (aa 2) ((fun _ => v0 6) 2), vB g (hh 3) (aa 3) ((fun _ => v0 6) 3), vB g (hh 4) (aa 4) ((fun _ => v0 6) 4), rB g (q 4) ra r0, tB g (q 5) sa (fun _ => 0) 0, aR g at_ 54 (rT (v0 k)), aR g aw 30 ((v0 k) 9), aR g ar 30 ((v0 k) 10), aR g ag 30 ((v0 k) 11), aR g an 5 ((v0 k) 12)] H locs → lv_has ls 10 [(0, .ref b), (1, .ref h), (2, .ref at_), (3, .ref aw), (4, .ref ar), (5, .ref ag), (6, .ref an), (7, .int (nI k))] → W p l e _ s m _ below meth c H locs (119) (1567) _ (F0 m 54 ls [])) (6) (fun k hik ih_k => ?_) (0) (by omega)  H locs ls (by rw [e_1]; exact hW) (lv_sub hl [7, 6, 5, 4, 3, 2, 1, 0] rfl) 
  intro  H locs ls hW hl 
  have hP := hW.1
  refine lv_iload hx hb dL_law_54 (lv_at hl 7 rfl) ?_
  refine lv_bipush (v := 6) hx hb dL_law_56 (by decide) ?_
  refine b_ge (tgt := 100) (k) (6) hx hb rfl rfl (by omega) (by omega) dL_law_58 (by decide) (fun h_2 => ?_) (fun h_2 => ?_)
  · obtain rfl : k = 6 := by omega
    have LI0 : LI (v0 6) (fun _ => 0) (300 * 0) := li_v0
    refine lv_aload_n hx hb dL_law_100 rfl (lv_at hl 1 rfl) ?_
    refine lv_aload_n hx hb dL_law_101 rfl (lv_at hl 2 rfl) ?_
    refine lv_aload_n hx hb dL_law_102 rfl (lv_at hl 3 rfl) ?_
    refine lv_aload hx hb dL_law_103 (lv_at hl 4 rfl) ?_
    refine lv_aload hx hb dL_law_105 (lv_at hl 5 rfl) ?_
    refine lv_aload hx hb dL_law_107 (lv_at hl 6 rfl) ?_
    subst hs
    refine call_SB (As := [.ref h, .ref at_, .ref aw, .ref ar, .ref ag, .ref an]) (rest := []) hd0 E rfl hK hW (c_L_areTowns l g h q 0 na (v0 6) ta (v0 6) pa (v0 6) hq hh 0 0 aa (fun _ => v0 6) ra r0 sa at_ aw ar ag an (fun _ => 0) LI0.cnt (by omega) (by omega) (li_LKn LI0 (by omega))) ok_L_areTowns rfl q1_191 [0, 1, 2, 3, 4, 5, 6, 7, 8, 9, 10, 11, 12, 13, 14, 15, 16] rfl (by decide) ⟨⟨rfl, rfl⟩, Nat.le_of_ble_eq_true rfl, Nat.le_of_ble_eq_true rfl⟩ hl.1 (Nat.le_of_ble_eq_true rfl) ⟨Nat.le_of_ble_eq_true rfl, Nat.le_of_ble_eq_true rfl⟩ rfl dL_law_109 (fun u_3 d0 H locs hd0 _ hW => ?_)
    obtain ⟨s, hs⟩ : ∃ z, z = s0.setDrawn d0 := ⟨_, rfl⟩
    rw [← hs]
    have E : ent p s m meth c yL_law code 10 (some .boolean) [.ref b] := by rw [hs]; exact ent_dr hE0 d0
    have hKq : kq g s := by rw [hs]; exact kq_dr hKq0 d0
    have hK : kx g s := hKq.1
    have hts := E.2.2.2.2.1
    have hown : s.vm.findClass RL = some m.cls := E.2.2.2.2.2.1
    have hW : wd g _ s0.heap [bB h q 0, vB g (q 0) na (v0 6), vB g (q 1) ta (v0 6), vB g (q 2) pa (v0 6), hB g (q 3) hq hh 0 0, vB g (hh 0) (aa 0) ((fun _ => v0 6) 0), vB g (hh 1) (aa 1) ((fun _ => v0 6) 1), vB g (hh 2) (aa 2) ((fun _ => v0 6) 2), vB g (hh 3) (aa 3) ((fun _ => v0 6) 3), vB g (hh 4) (aa 4) ((fun _ => v0 6) 4), rB g (q 4) ra u_3, tB g (q 5) sa (fun _ => 0) 0, aR g at_ 54 (rT (v0 6)), aR g aw 30 ((v0 6) 9), aR g ar 30 ((v0 6) 10), aR g ag 30 ((v0 6) 11), aR g an 5 ((v0 6) 12)] H locs := hW
    have hP := hW.1
    refine b_top (y := 1) rfl ?_
    refine lv_if_eq (tgt := 132) hx hb dL_law_112 (by decide) (fun h_4 => ?_) (fun h_4 => ?_)
    · exact absurd h_4 (by decide)
    · refine lv_aload_n hx hb dL_law_115 rfl (lv_at hl 1 rfl) ?_
      refine lv_aload_n hx hb dL_law_116 rfl (lv_at hl 2 rfl) ?_
      refine lv_aload_n hx hb dL_law_117 rfl (lv_at hl 3 rfl) ?_
      refine lv_aload hx hb dL_law_118 (lv_at hl 4 rfl) ?_
      refine lv_aload hx hb dL_law_120 (lv_at hl 6 rfl) ?_
      refine call_SA (As := [.ref h, .ref at_, .ref aw, .ref ar, .ref an]) (rest := []) E rfl hKq hW hA (c_L_areHeard l g H.size h q 0 na (v0 6) ta (v0 6) pa (v0 6) hq hh 0 0 aa (fun _ => v0 6) ra u_3 sa at_ aw ar an (fun _ => 0) LI0.cnt (by omega) (by omega) ⟨(li_LKn LI0 (by omega)).1, (li_LKn LI0 (by omega)).2⟩) ok_L_areHeard rfl q2_46 [0, 1, 2, 3, 4, 5, 6, 7, 8, 9, 10, 11, 12, 13, 14, 16] rfl (by decide) ⟨⟨rfl, rfl⟩, Nat.le_of_ble_eq_true rfl, Nat.le_of_ble_eq_true rfl⟩ hl.1 (Nat.le_of_ble_eq_true rfl) ⟨Nat.le_of_ble_eq_true rfl, Nat.le_of_ble_eq_true rfl⟩ rfl dL_law_122 (fun u_5 H locs _ hW => ?_)
      have hW : wd g _ s0.heap [bB h q 0, vB g (q 0) na (v0 6), vB g (q 1) ta (v0 6), vB g (q 2) pa (v0 6), hB g (q 3) hq hh 0 0, vB g (hh 0) (aa 0) ((fun _ => v0 6) 0), vB g (hh 1) (aa 1) ((fun _ => v0 6) 1), vB g (hh 2) (aa 2) ((fun _ => v0 6) 2), vB g (hh 3) (aa 3) ((fun _ => v0 6) 3), vB g (hh 4) (aa 4) ((fun _ => v0 6) 4), rB g (q 4) ra u_5, tB g (q 5) sa (fun _ => 0) 0, aR g at_ 54 (rT (v0 6)), aR g aw 30 ((v0 6) 9), aR g ar 30 ((v0 6) 10), aR g ag 30 ((v0 6) 11), aR g an 5 ((v0 6) 12)] H locs := hW
      have hP := hW.1
      refine b_top (y := 1) rfl ?_
      refine lv_if_eq (tgt := 132) hx hb dL_law_125 (by decide) (fun h_6 => ?_) (fun h_6 => ?_)
      · exact absurd h_6 (by decide)
      · refine lv_iconst (v := 1) hx hb dL_law_128 (by decide) ?_
        refine lv_goto (tgt := 133) hx hb dL_law_129 (by decide) ?_
        refine lv_istore (lv' := [(7, .int 1), (0, .ref b), (1, .ref h), (2, .ref at_), (3, .ref aw), (4, .ref ar), (5, .ref ag), (6, .ref an)]) hx hb dL_law_133 hl (by decide) rfl (fun ls hl => ?_)
        refine lv_iconst (v := 0) hx hb dL_law_135 (by decide) ?_
        refine lv_istore (lv' := [(8, .int 0), (7, .int 1), (0, .ref b), (1, .ref h), (2, .ref at_), (3, .ref aw), (4, .ref ar), (5, .ref ag), (6, .ref an)]) hx hb dL_law_136 hl (by decide) rfl (fun ls hl => ?_)
        refine W.widen (k := 200 + 106 * 0) (n := 2000 + 731 * 0) (Nat.le_of_ble_eq_true rfl) (Nat.le_of_ble_eq_true rfl) ?_
        refine loopN (fun i : Nat => ∀ d0 : Drawn, ∀ s : State, ∀ V : sV, ∀ cq : Nat → Nat, ∀ TV : sV, ∀ NN : sV, ∀ o : Nat, ∀ n : Nat, ∀ HV : Nat → sV, ∀ (H : Heap) (locs : List Loc) (ls : Array Slot), wd g (fun z9 : Nat => s0.heap.size ≤ z9) s0.heap [bB h q 0, vB g (q 0) na V, vB g (q 1) ta TV, vB g (q 2) pa (v0 6), hB g (q 3) hq hh o n, vB g (hh 0) (aa 0) (HV 0), vB g (hh 1) (aa 1) (HV 1), vB g (hh 2) (aa 2) (HV 2), vB g (hh 3) (aa 3) (HV 3), vB g (hh 4) (aa 4) (HV 4), rB g (q 4) ra NN, tB g (q 5) sa (fun _ => 0) 0, aR g at_ 54 (rT V), aR g aw 30 (V 9), aR g ar 30 (V 10), aR g ag 30 (V 11), aR g an 5 (V 12)] H locs → lv_has ls 10 [(0, .ref b), (1, .ref h), (2, .ref at_), (3, .ref aw), (4, .ref ar), (5, .ref ag), (6, .ref an), (7, .int 1), (8, .int (nI i))] → (s = s0.setDrawn d0) → (s0.drawn.sameBut d0 lw_cs) → (LI V cq (300 * i)) → (o < 5) → (n ≤ 5) → W p l e _ s m _ below meth c H locs (200 + 106 * i) (2000 + 731 * i) _ (F0 m 138 ls [])) (48) (fun i hii ih_i => ?_) (0) (by omega) (d0) (s) ((v0 6)) ((fun _ => 0)) ((v0 6)) (u_5) (0) (0) ((fun _ => v0 6)) H locs ls hW (lv_sub hl [2, 3, 4, 5, 6, 7, 8, 1, 0] rfl) (hs) (hd0) (LI0) (by omega) (by omega)
        intro d0 s V cq TV NN o n HV H locs ls hW hl hs hd0 LIh ho hn
        have hP := hW.1
        refine lv_iload hx hb dL_law_138 (lv_at hl 8 rfl) ?_
        refine lv_bipush (v := 48) hx hb dL_law_140 (by decide) ?_
        refine b_ge (tgt := 304) (i) (48) hx hb rfl rfl (by omega) (by omega) dL_law_142 (by decide) (fun h_7 => ?_) (fun h_7 => ?_)
        · refine lv_iload hx hb dL_law_304 (lv_at hl 7 rfl) ?_
          subst hs
          refine W.widen (k := 600000) (n := 7302250) (by omega) (by omega) ?_
          refine va_forget hW.2.2.2.2 ?_
          exact lw_ret hd0 hx hb hr hlocks dL_law_306
        · have E : ent p s m meth c yL_law code 10 (some .boolean) [.ref b] := by rw [hs]; exact ent_dr hE0 d0
          have hKq : kq g s := by rw [hs]; exact kq_dr hKq0 d0
          have hK : kx g s := hKq.1
          have hts := E.2.2.2.2.1
          have hown : s.vm.findClass RL = some m.cls := E.2.2.2.2.2.1
          have hBm : 300 * i ≤ 700000 := by omega
          refine lv_iload hx hb dL_law_145 (lv_at hl 7 rfl) ?_
          refine lv_if_eq (tgt := 304) hx hb dL_law_147 (by decide) (fun h_8 => ?_) (fun h_8 => ?_)
          · exact absurd h_8 (by decide)
          · refine lv_aload_n hx hb dL_law_150 rfl (lv_at hl 0 rfl) ?_
            refine lv_iload hx hb dL_law_151 (lv_at hl 8 rfl) ?_
            have hXH : va_X b L xs s H := by rw [hs]; exact va_X.kept (H := s0.heap) hX (hW.2.2.2.1 b hbl hbA)
            refine call_SS (H0 := H) (As := [.ref b, .int (nI i)]) (rest := []) E rfl hK hXH (c_L_cell l g b L i xs hL (by omega)) ok_L_cell rfl q1_183 ⟨⟨rfl, rfl⟩, Nat.le_of_ble_eq_true rfl, Nat.le_of_ble_eq_true rfl⟩ hl.1 (Nat.le_of_ble_eq_true rfl) ⟨(show 200 + 106 * i + 0 ≤ 600000 by omega), (show 2000 + 731 * i + 0 ≤ 7302250 by omega)⟩ rfl dL_law_153 ?_
            obtain ⟨x, hx9⟩ : ∃ z, z = cellV L xs i := ⟨_, rfl⟩
            refine b_top (y := x) hx9.symm ?_
            refine lv_istore (lv' := [(9, .int x), (0, .ref b), (1, .ref h), (2, .ref at_), (3, .ref aw), (4, .ref ar), (5, .ref ag), (6, .ref an), (7, .int 1), (8, .int (nI i))]) hx hb dL_law_156 hl (by decide) rfl (fun ls hl => ?_)
            refine lv_aload_n hx hb dL_law_158 rfl (lv_at hl 2 rfl) ?_
            refine lv_aload_n hx hb dL_law_159 rfl (lv_at hl 3 rfl) ?_
            refine lv_aload_n hx hb dL_law_160 rfl (lv_at hl 4 rfl) ?_
            refine lv_aload hx hb dL_law_161 (lv_at hl 5 rfl) ?_
            refine lv_aload hx hb dL_law_163 (lv_at hl 6 rfl) ?_
            refine lv_aload hx hb dL_law_165 (lv_at hl 7 rfl) ?_
            refine lv_iload hx hb dL_law_167 (lv_at hl 9 rfl) ?_
            refine lv_bipush (v := 10) hx hb dL_law_169 (by decide) ?_
            refine b_ge (tgt := 178) (i) (10) hx hb rfl rfl (by omega) (by omega) dL_law_171 (by decide) (fun h_9 => ?_) (fun h_9 => ?_)
            · refine lv_iload hx hb dL_law_178 (lv_at hl 0 rfl) ?_
              refine lv_bipush (v := 18) hx hb dL_law_180 (by decide) ?_
              refine lv_ishr hx hb dL_law_182 ?_
              refine lv_bipush (v := 16) hx hb dL_law_183 (by decide) ?_
              refine call_SR (As := [.int (x >>> ((18 : Int32) &&& 31)), .int 16]) (rest := [.ref an, .ref ag, .ref ar, .ref aw, .ref at_, .ref h]) E rfl hK hP (c_L_low l g (x >>> ((18 : Int32) &&& 31)) 16 (by first | omega | assumption) (by first | omega | assumption)) ok_L_low rfl q1_187 [] rfl ⟨⟨rfl, rfl⟩, Nat.le_of_ble_eq_true rfl, Nat.le_of_ble_eq_true rfl⟩ hl.1 (Nat.le_of_ble_eq_true rfl) ⟨(show 200 + 106 * i + 0 ≤ 600000 by omega), (show 2000 + 731 * i + 0 ≤ 7302250 by omega)⟩ rfl dL_law_185 ?_
              obtain ⟨kd, hkd⟩ : ∃ z, z = lowN (x >>> ((18 : Int32) &&& 31)) 16 := ⟨_, rfl⟩
              have hkd5 : kd < 16 := by rw [hkd]; exact lowN_lt _ (by decide)
              refine b_top (y := nI kd) (by rw [hkd]) ?_
              refine lv_iload hx hb dL_law_188 (lv_at hl 0 rfl) ?_
              refine call_SA (As := [.ref h, .ref at_, .ref aw, .ref ar, .ref ag, .ref an, .int (nI kd), .int x]) (rest := []) E rfl hKq hW hA (c_L_acts l g H.size h q 0 na V ta TV pa (v0 6) hq hh o n aa HV ra NN sa at_ aw ar ag an cq (300 * i) kd x ho hn LIh hBm (by omega)) ok_L_acts rfl q2_144 [0, 1, 2, 3, 4, 5, 6, 7, 8, 9, 10, 11, 12, 13, 14, 15, 16] rfl (by decide) ⟨⟨rfl, rfl⟩, Nat.le_of_ble_eq_true rfl, Nat.le_of_ble_eq_true rfl⟩ hl.1 (Nat.le_of_ble_eq_true rfl) ⟨(show 200 + 106 * i + 50 ≤ 600000 by omega), (show 2000 + 731 * i + 300 ≤ 7302250 by omega)⟩ rfl dL_law_190 (fun u_10 H locs hu_10 hW => ?_)
              obtain ⟨V1, cq1, o1, n1, HV1, NN1⟩ := u_10
              obtain ⟨hL1, ho1, hn1⟩ := hu_10
              have hL1 : LI V1 cq1 (300 * i + 300) := hL1
              have ho1 : o1 < 5 := ho1
              have hn1 : n1 ≤ 5 := hn1
              have hB1 : 300 * i + 300 ≤ 700000 := by omega
              have hW : wd g _ s0.heap [bB h q 0, vB g (q 0) na V1, vB g (q 1) ta TV, vB g (q 2) pa (v0 6), hB g (q 3) hq hh o1 n1, vB g (hh 0) (aa 0) (HV1 0), vB g (hh 1) (aa 1) (HV1 1), vB g (hh 2) (aa 2) (HV1 2), vB g (hh 3) (aa 3) (HV1 3), vB g (hh 4) (aa 4) (HV1 4), rB g (q 4) ra NN1, tB g (q 5) sa (fun _ => 0) 0, aR g at_ 54 (rT V1), aR g aw 30 (V1 9), aR g ar 30 (V1 10), aR g ag 30 (V1 11), aR g an 5 (V1 12)] H locs := hW
              have hP := hW.1
              refine b_top (y := 1) rfl ?_
              refine lv_if_eq (tgt := 295) hx hb dL_law_193 (by decide) (fun h_11 => ?_) (fun h_11 => ?_)
              · exact absurd h_11 (by decide)
              · refine lv_aload_n hx hb dL_law_196 rfl (lv_at hl 2 rfl) ?_
                refine lv_aload_n hx hb dL_law_197 rfl (lv_at hl 3 rfl) ?_
                refine lv_aload_n hx hb dL_law_198 rfl (lv_at hl 4 rfl) ?_
                refine lv_aload hx hb dL_law_199 (lv_at hl 5 rfl) ?_
                refine lv_aload hx hb dL_law_201 (lv_at hl 6 rfl) ?_
                refine lv_aload hx hb dL_law_203 (lv_at hl 7 rfl) ?_
                subst hs
                refine call_SB (As := [.ref h, .ref at_, .ref aw, .ref ar, .ref ag, .ref an]) (rest := []) hd0 E rfl hK hW (c_L_areTowns l g h q 0 na V1 ta TV pa (v0 6) hq hh o1 n1 aa HV1 ra NN1 sa at_ aw ar ag an cq1 hL1.cnt ho1 hn1 (li_LKn hL1 hB1)) ok_L_areTowns rfl q1_191 [0, 1, 2, 3, 4, 5, 6, 7, 8, 9, 10, 11, 12, 13, 14, 15, 16] rfl (by decide) ⟨⟨rfl, rfl⟩, Nat.le_of_ble_eq_true rfl, Nat.le_of_ble_eq_true rfl⟩ hl.1 (Nat.le_of_ble_eq_true rfl) ⟨(show 200 + 106 * i + 50 + 0 ≤ 600000 by omega), (show 2000 + 731 * i + 300 + 0 ≤ 7302250 by omega)⟩ rfl dL_law_205 (fun u_12 d0 H locs hd0 _ hW => ?_)
                obtain ⟨s, hs⟩ : ∃ z, z = s0.setDrawn d0 := ⟨_, rfl⟩
                rw [← hs]
                have E : ent p s m meth c yL_law code 10 (some .boolean) [.ref b] := by rw [hs]; exact ent_dr hE0 d0
                have hKq : kq g s := by rw [hs]; exact kq_dr hKq0 d0
                have hK : kx g s := hKq.1
                have hts := E.2.2.2.2.1
                have hown : s.vm.findClass RL = some m.cls := E.2.2.2.2.2.1
                have hW : wd g _ s0.heap [bB h q 0, vB g (q 0) na V1, vB g (q 1) ta TV, vB g (q 2) pa (v0 6), hB g (q 3) hq hh o1 n1, vB g (hh 0) (aa 0) (HV1 0), vB g (hh 1) (aa 1) (HV1 1), vB g (hh 2) (aa 2) (HV1 2), vB g (hh 3) (aa 3) (HV1 3), vB g (hh 4) (aa 4) (HV1 4), rB g (q 4) ra u_12, tB g (q 5) sa (fun _ => 0) 0, aR g at_ 54 (rT V1), aR g aw 30 (V1 9), aR g ar 30 (V1 10), aR g ag 30 (V1 11), aR g an 5 (V1 12)] H locs := hW
                have hP := hW.1
                refine b_top (y := 1) rfl ?_
                refine lv_if_eq (tgt := 295) hx hb dL_law_208 (by decide) (fun h_13 => ?_) (fun h_13 => ?_)
                · exact absurd h_13 (by decide)
                · refine lv_aload_n hx hb dL_law_211 rfl (lv_at hl 2 rfl) ?_
                  refine lv_aload_n hx hb dL_law_212 rfl (lv_at hl 3 rfl) ?_
                  refine lv_aload_n hx hb dL_law_213 rfl (lv_at hl 4 rfl) ?_
                  refine lv_aload hx hb dL_law_214 (lv_at hl 5 rfl) ?_
                  refine lv_aload hx hb dL_law_216 (lv_at hl 7 rfl) ?_
                  refine call_SA (As := [.ref h, .ref at_, .ref aw, .ref ar, .ref an]) (rest := []) E rfl hKq hW hA (c_L_areHeard l g H.size h q 0 na V1 ta TV pa (v0 6) hq hh o1 n1 aa HV1 ra u_12 sa at_ aw ar an cq1 hL1.cnt ho1 hn1 ⟨(li_LKn hL1 hB1).1, (li_LKn hL1 hB1).2⟩) ok_L_areHeard rfl q2_46 [0, 1, 2, 3, 4, 5, 6, 7, 8, 9, 10, 11, 12, 13, 14, 16] rfl (by decide) ⟨⟨rfl, rfl⟩, Nat.le_of_ble_eq_true rfl, Nat.le_of_ble_eq_true rfl⟩ hl.1 (Nat.le_of_ble_eq_true rfl) ⟨(show 200 + 106 * i + 50 + 1 ≤ 600000 by omega), (show 2000 + 731 * i + 300 + 6 ≤ 7302250 by omega)⟩ rfl dL_law_218 (fun u_14 H locs _ hW => ?_)
                  have hW : wd g _ s0.heap [bB h q 0, vB g (q 0) na V1, vB g (q 1) ta TV, vB g (q 2) pa (v0 6), hB g (q 3) hq hh o1 n1, vB g (hh 0) (aa 0) (HV1 0), vB g (hh 1) (aa 1) (HV1 1), vB g (hh 2) (aa 2) (HV1 2), vB g (hh 3) (aa 3) (HV1 3), vB g (hh 4) (aa 4) (HV1 4), rB g (q 4) ra u_14, tB g (q 5) sa (fun _ => 0) 0, aR g at_ 54 (rT V1), aR g aw 30 (V1 9), aR g ar 30 (V1 10), aR g ag 30 (V1 11), aR g an 5 (V1 12)] H locs := hW
                  have hP := hW.1
                  refine b_top (y := 1) rfl ?_
                  refine lv_if_eq (tgt := 295) hx hb dL_law_221 (by decide) (fun h_15 => ?_) (fun h_15 => ?_)
                  · exact absurd h_15 (by decide)
                  · refine lv_iload hx hb dL_law_224 (lv_at hl 9 rfl) ?_
                    refine lv_iconst (v := 3) hx hb dL_law_226 (by decide) ?_
                    refine lv_irem hx hb dL_law_227 (by decide) ?_
                    refine b_top (y := nI (i % 3)) (pk_rem (by omega) (by decide) (by decide)) ?_
                    refine lv_iconst (v := 2) hx hb dL_law_228 (by decide) ?_
                    refine b_ne (tgt := 291) ((i % 3)) (2) hx hb rfl rfl (by omega) (by omega) dL_law_229 (by decide) (fun h_16 => ?_) (fun h_16 => ?_)
                    · refine lv_iconst (v := 1) hx hb dL_law_291 (by decide) ?_
                      refine lv_goto (tgt := 296) hx hb dL_law_292 (by decide) ?_
                      refine lv_istore (lv' := [(7, .int 1), (9, .int x), (0, .ref b), (1, .ref h), (2, .ref at_), (3, .ref aw), (4, .ref ar), (5, .ref ag), (6, .ref an), (8, .int (nI i))]) hx hb dL_law_296 hl (by decide) rfl (fun ls hl => ?_)
                      refine lv_iinc (v := nI (i + 1)) (lv' := [(8, .int (nI (i + 1))), (7, .int 1), (9, .int x), (0, .ref b), (1, .ref h), (2, .ref at_), (3, .ref aw), (4, .ref ar), (5, .ref ag), (6, .ref an)]) hx hb dL_law_298 hl (k := 9) rfl (nI_add i 1) (by decide) rfl (fun ls hl => ?_)
                      refine lv_goto (tgt := 138) hx hb dL_law_301 (by decide) ?_
                      refine W.widen (k := 200 + 106 * (i + 1)) (n := 2000 + 731 * (i + 1)) (by omega) (by omega) ?_
                      exact ih_i (by omega) (d0) (s) (V1) (cq1) (TV) (u_14) (o1) (n1) (HV1) _ _ _ hW (lv_sub hl [3, 4, 5, 6, 7, 8, 9, 1, 0] rfl) (hs) (hd0) (hL1.mono (by omega)) (ho1) (hn1)
                    · refine lv_aload_n hx hb dL_law_232 rfl (lv_at hl 2 rfl) ?_
                      refine lv_aload_n hx hb dL_law_233 rfl (lv_at hl 3 rfl) ?_
                      refine lv_aload_n hx hb dL_law_234 rfl (lv_at hl 4 rfl) ?_
                      refine lv_aload hx hb dL_law_235 (lv_at hl 5 rfl) ?_
                      refine lv_aload hx hb dL_law_237 (lv_at hl 7 rfl) ?_
                      refine lv_iload hx hb dL_law_239 (lv_at hl 0 rfl) ?_
                      refine lv_iconst (v := 4) hx hb dL_law_241 (by decide) ?_
                      refine lv_ishr hx hb dL_law_242 ?_
                      refine lv_bipush (v := 6) hx hb dL_law_243 (by decide) ?_
                      refine call_SR (As := [.int (x >>> ((4 : Int32) &&& 31)), .int 6]) (rest := [.ref an, .ref ar, .ref aw, .ref at_, .ref h]) E rfl hK hP (c_L_low l g (x >>> ((4 : Int32) &&& 31)) 6 (by first | omega | assumption) (by first | omega | assumption)) ok_L_low rfl q1_187 [] rfl ⟨⟨rfl, rfl⟩, Nat.le_of_ble_eq_true rfl, Nat.le_of_ble_eq_true rfl⟩ hl.1 (Nat.le_of_ble_eq_true rfl) ⟨(show 200 + 106 * i + 50 + 1 + 0 ≤ 600000 by omega), (show 2000 + 731 * i + 300 + 6 + 0 ≤ 7302250 by omega)⟩ rfl dL_law_245 ?_
                      obtain ⟨kp, hkp⟩ : ∃ z, z = lowN (x >>> ((4 : Int32) &&& 31)) 6 := ⟨_, rfl⟩
                      have hkp5 : kp < 6 := by rw [hkp]; exact lowN_lt _ (by decide)
                      refine b_top (y := nI kp) (by rw [hkp]) ?_
                      refine call_SA (As := [.ref h, .ref at_, .ref aw, .ref ar, .ref an, .int (nI kp)]) (rest := []) E rfl hKq hW hA (c_L_isPlanned l g H.size h q 0 na V1 ta TV pa (v0 6) hq hh o1 n1 aa HV1 ra u_14 sa at_ aw ar an cq1 hL1.cnt kp ho1 hn1 hkp5 (li_LKp hL1 hkp5)) ok_L_isPlanned rfl q2_67 [0, 1, 2, 3, 4, 5, 6, 7, 8, 9, 10, 11, 12, 13, 14, 16] rfl (by decide) ⟨⟨rfl, rfl⟩, Nat.le_of_ble_eq_true rfl, Nat.le_of_ble_eq_true rfl⟩ hl.1 (Nat.le_of_ble_eq_true rfl) ⟨(show 200 + 106 * i + 50 + 1 + 1 ≤ 600000 by omega), (show 2000 + 731 * i + 300 + 6 + 6 ≤ 7302250 by omega)⟩ rfl dL_law_248 (fun u_17 H locs _ hW => ?_)
                      obtain ⟨Tu_17, Nu_17⟩ := u_17
                      have hW : wd g _ s0.heap [bB h q 0, vB g (q 0) na V1, vB g (q 1) ta Tu_17, vB g (q 2) pa (v0 6), hB g (q 3) hq hh o1 n1, vB g (hh 0) (aa 0) (HV1 0), vB g (hh 1) (aa 1) (HV1 1), vB g (hh 2) (aa 2) (HV1 2), vB g (hh 3) (aa 3) (HV1 3), vB g (hh 4) (aa 4) (HV1 4), rB g (q 4) ra Nu_17, tB g (q 5) sa (fun _ => 0) 0, aR g at_ 54 (rT V1), aR g aw 30 (V1 9), aR g ar 30 (V1 10), aR g ag 30 (V1 11), aR g an 5 (V1 12)] H locs := hW
                      have hP := hW.1
                      refine b_top (y := 1) rfl ?_
                      refine lv_if_eq (tgt := 295) hx hb dL_law_251 (by decide) (fun h_18 => ?_) (fun h_18 => ?_)
                      · exact absurd h_18 (by decide)
                      · refine lv_aload_n hx hb dL_law_254 rfl (lv_at hl 2 rfl) ?_
                        refine lv_aload_n hx hb dL_law_255 rfl (lv_at hl 3 rfl) ?_
                        refine lv_aload_n hx hb dL_law_256 rfl (lv_at hl 4 rfl) ?_
                        refine lv_aload hx hb dL_law_257 (lv_at hl 5 rfl) ?_
                        refine lv_aload hx hb dL_law_259 (lv_at hl 6 rfl) ?_
                        refine lv_aload hx hb dL_law_261 (lv_at hl 7 rfl) ?_
                        refine lv_iload hx hb dL_law_263 (lv_at hl 0 rfl) ?_
                        refine lv_bipush (v := 7) hx hb dL_law_265 (by decide) ?_
                        refine lv_ishr hx hb dL_law_267 ?_
                        refine lv_bipush (v := 6) hx hb dL_law_268 (by decide) ?_
                        refine call_SR (As := [.int (x >>> ((7 : Int32) &&& 31)), .int 6]) (rest := [.ref an, .ref ag, .ref ar, .ref aw, .ref at_, .ref h]) E rfl hK hP (c_L_low l g (x >>> ((7 : Int32) &&& 31)) 6 (by first | omega | assumption) (by first | omega | assumption)) ok_L_low rfl q1_187 [] rfl ⟨⟨rfl, rfl⟩, Nat.le_of_ble_eq_true rfl, Nat.le_of_ble_eq_true rfl⟩ hl.1 (Nat.le_of_ble_eq_true rfl) ⟨(show 200 + 106 * i + 50 + 1 + 1 + 0 ≤ 600000 by omega), (show 2000 + 731 * i + 300 + 6 + 6 + 0 ≤ 7302250 by omega)⟩ rfl dL_law_270 ?_
                        obtain ⟨kw, hkw⟩ : ∃ z, z = lowN (x >>> ((7 : Int32) &&& 31)) 6 := ⟨_, rfl⟩
                        have hkw5 : kw < 6 := by rw [hkw]; exact lowN_lt _ (by decide)
                        refine b_top (y := nI kw) (by rw [hkw]) ?_
                        refine lv_iconst (v := 1) hx hb dL_law_273 (by decide) ?_
                        refine lv_iload hx hb dL_law_274 (lv_at hl 0 rfl) ?_
                        refine lv_bipush (v := 10) hx hb dL_law_276 (by decide) ?_
                        refine lv_ishr hx hb dL_law_278 ?_
                        refine lv_bipush (v := 50) hx hb dL_law_279 (by decide) ?_
                        refine call_SR (As := [.int (x >>> ((10 : Int32) &&& 31)), .int 50]) (rest := [.int 1, .int (nI kw), .ref an, .ref ag, .ref ar, .ref aw, .ref at_, .ref h]) E rfl hK hP (c_L_low l g (x >>> ((10 : Int32) &&& 31)) 50 (by first | omega | assumption) (by first | omega | assumption)) ok_L_low rfl q1_187 [] rfl ⟨⟨rfl, rfl⟩, Nat.le_of_ble_eq_true rfl, Nat.le_of_ble_eq_true rfl⟩ hl.1 (Nat.le_of_ble_eq_true rfl) ⟨(show 200 + 106 * i + 50 + 1 + 1 + 0 ≤ 600000 by omega), (show 2000 + 731 * i + 300 + 6 + 6 + 0 ≤ 7302250 by omega)⟩ rfl dL_law_281 ?_
                        refine lv_iadd hx hb dL_law_284 ?_
                        refine b_top (y := nI (1 + (lowN (x >>> ((10 : Int32) &&& 31)) 50))) (nI_add 1 (lowN (x >>> ((10 : Int32) &&& 31)) 50)) ?_
                        obtain ⟨m0, hm0⟩ : ∃ z, z = 1 + (lowN (x >>> ((10 : Int32) &&& 31)) 50) := ⟨_, rfl⟩
                        have hm1 : 1 ≤ m0 := by omega
                        have hm : m0 ≤ 50 := by have := lowN_lt (x >>> ((10 : Int32) &&& 31)) (n := 50) (by decide); omega
                        refine b_top (y := nI m0) (by rw [hm0]) ?_
                        refine call_SA (As := [.ref h, .ref at_, .ref aw, .ref ar, .ref ag, .ref an, .int (nI kw), .int (nI m0)]) (rest := []) E rfl hKq hW hA (c_L_would l g H.size h q 0 na V1 ta Tu_17 pa (v0 6) hq hh o1 n1 aa HV1 ra Nu_17 sa at_ aw ar ag an cq1 hL1.cnt kw m0 ho1 hn1 hkw5 hm1 hm (fun N9 => congrFun (congrFun ((li_turns hL1 hB1 m0 hm).2 N9) 7) kw)) ok_L_would rfl q2_104 [0, 1, 2, 3, 4, 5, 6, 7, 8, 9, 10, 11, 12, 13, 14, 15, 16] rfl (by decide) ⟨⟨rfl, rfl⟩, Nat.le_of_ble_eq_true rfl, Nat.le_of_ble_eq_true rfl⟩ hl.1 (Nat.le_of_ble_eq_true rfl) ⟨(show 200 + 106 * i + 50 + 1 + 1 + 54 ≤ 600000 by omega), (show 2000 + 731 * i + 300 + 6 + 6 + 419 ≤ 7302250 by omega)⟩ rfl dL_law_285 (fun u_19 H locs _ hW => ?_)
                        obtain ⟨Tu_19, Nu_19⟩ := u_19
                        have hW : wd g _ s0.heap [bB h q 0, vB g (q 0) na V1, vB g (q 1) ta Tu_19, vB g (q 2) pa (v0 6), hB g (q 3) hq hh o1 n1, vB g (hh 0) (aa 0) (HV1 0), vB g (hh 1) (aa 1) (HV1 1), vB g (hh 2) (aa 2) (HV1 2), vB g (hh 3) (aa 3) (HV1 3), vB g (hh 4) (aa 4) (HV1 4), rB g (q 4) ra Nu_19, tB g (q 5) sa (fun _ => 0) 0, aR g at_ 54 (rT V1), aR g aw 30 (V1 9), aR g ar 30 (V1 10), aR g ag 30 (V1 11), aR g an 5 (V1 12)] H locs := hW
                        have hP := hW.1
                        refine b_top (y := 1) rfl ?_
                        refine lv_if_eq (tgt := 295) hx hb dL_law_288 (by decide) (fun h_20 => ?_) (fun h_20 => ?_)
                        · exact absurd h_20 (by decide)
                        · refine lv_iconst (v := 1) hx hb dL_law_291 (by decide) ?_
                          refine lv_goto (tgt := 296) hx hb dL_law_292 (by decide) ?_
                          refine lv_istore (lv' := [(7, .int 1), (9, .int x), (0, .ref b), (1, .ref h), (2, .ref at_), (3, .ref aw), (4, .ref ar), (5, .ref ag), (6, .ref an), (8, .int (nI i))]) hx hb dL_law_296 hl (by decide) rfl (fun ls hl => ?_)
                          refine lv_iinc (v := nI (i + 1)) (lv' := [(8, .int (nI (i + 1))), (7, .int 1), (9, .int x), (0, .ref b), (1, .ref h), (2, .ref at_), (3, .ref aw), (4, .ref ar), (5, .ref ag), (6, .ref an)]) hx hb dL_law_298 hl (k := 9) rfl (nI_add i 1) (by decide) rfl (fun ls hl => ?_)
                          refine lv_goto (tgt := 138) hx hb dL_law_301 (by decide) ?_
                          refine W.widen (k := 200 + 106 * (i + 1)) (n := 2000 + 731 * (i + 1)) (by omega) (by omega) ?_
                          exact ih_i (by omega) (d0) (s) (V1) (cq1) (Tu_19) (Nu_19) (o1) (n1) (HV1) _ _ _ hW (lv_sub hl [3, 4, 5, 6, 7, 8, 9, 1, 0] rfl) (hs) (hd0) (hL1.mono (by omega)) (ho1) (hn1)
            · refine lv_iconst (v := 0) hx hb dL_law_174 (by decide) ?_
              refine lv_goto (tgt := 188) hx hb dL_law_175 (by decide) ?_
              refine lv_iload hx hb dL_law_188 (lv_at hl 0 rfl) ?_
              refine call_SA (As := [.ref h, .ref at_, .ref aw, .ref ar, .ref ag, .ref an, .int 0, .int x]) (rest := []) E rfl hKq hW hA (c_L_acts l g H.size h q 0 na V ta TV pa (v0 6) hq hh o n aa HV ra NN sa at_ aw ar ag an cq (300 * i) 0 x ho hn LIh hBm (by omega)) ok_L_acts rfl q2_144 [0, 1, 2, 3, 4, 5, 6, 7, 8, 9, 10, 11, 12, 13, 14, 15, 16] rfl (by decide) ⟨⟨rfl, rfl⟩, Nat.le_of_ble_eq_true rfl, Nat.le_of_ble_eq_true rfl⟩ hl.1 (Nat.le_of_ble_eq_true rfl) ⟨(show 200 + 106 * i + 50 ≤ 600000 by omega), (show 2000 + 731 * i + 300 ≤ 7302250 by omega)⟩ rfl dL_law_190 (fun u_21 H locs hu_21 hW => ?_)
              obtain ⟨V1, cq1, o1, n1, HV1, NN1⟩ := u_21
              obtain ⟨hL1, ho1, hn1⟩ := hu_21
              have hL1 : LI V1 cq1 (300 * i + 300) := hL1
              have ho1 : o1 < 5 := ho1
              have hn1 : n1 ≤ 5 := hn1
              have hB1 : 300 * i + 300 ≤ 700000 := by omega
              have hW : wd g _ s0.heap [bB h q 0, vB g (q 0) na V1, vB g (q 1) ta TV, vB g (q 2) pa (v0 6), hB g (q 3) hq hh o1 n1, vB g (hh 0) (aa 0) (HV1 0), vB g (hh 1) (aa 1) (HV1 1), vB g (hh 2) (aa 2) (HV1 2), vB g (hh 3) (aa 3) (HV1 3), vB g (hh 4) (aa 4) (HV1 4), rB g (q 4) ra NN1, tB g (q 5) sa (fun _ => 0) 0, aR g at_ 54 (rT V1), aR g aw 30 (V1 9), aR g ar 30 (V1 10), aR g ag 30 (V1 11), aR g an 5 (V1 12)] H locs := hW
              have hP := hW.1
              refine b_top (y := 1) rfl ?_
              refine lv_if_eq (tgt := 295) hx hb dL_law_193 (by decide) (fun h_22 => ?_) (fun h_22 => ?_)
              · exact absurd h_22 (by decide)
              · refine lv_aload_n hx hb dL_law_196 rfl (lv_at hl 2 rfl) ?_
                refine lv_aload_n hx hb dL_law_197 rfl (lv_at hl 3 rfl) ?_
                refine lv_aload_n hx hb dL_law_198 rfl (lv_at hl 4 rfl) ?_
                refine lv_aload hx hb dL_law_199 (lv_at hl 5 rfl) ?_
                refine lv_aload hx hb dL_law_201 (lv_at hl 6 rfl) ?_
                refine lv_aload hx hb dL_law_203 (lv_at hl 7 rfl) ?_
                subst hs
                refine call_SB (As := [.ref h, .ref at_, .ref aw, .ref ar, .ref ag, .ref an]) (rest := []) hd0 E rfl hK hW (c_L_areTowns l g h q 0 na V1 ta TV pa (v0 6) hq hh o1 n1 aa HV1 ra NN1 sa at_ aw ar ag an cq1 hL1.cnt ho1 hn1 (li_LKn hL1 hB1)) ok_L_areTowns rfl q1_191 [0, 1, 2, 3, 4, 5, 6, 7, 8, 9, 10, 11, 12, 13, 14, 15, 16] rfl (by decide) ⟨⟨rfl, rfl⟩, Nat.le_of_ble_eq_true rfl, Nat.le_of_ble_eq_true rfl⟩ hl.1 (Nat.le_of_ble_eq_true rfl) ⟨(show 200 + 106 * i + 50 + 0 ≤ 600000 by omega), (show 2000 + 731 * i + 300 + 0 ≤ 7302250 by omega)⟩ rfl dL_law_205 (fun u_23 d0 H locs hd0 _ hW => ?_)
                obtain ⟨s, hs⟩ : ∃ z, z = s0.setDrawn d0 := ⟨_, rfl⟩
                rw [← hs]
                have E : ent p s m meth c yL_law code 10 (some .boolean) [.ref b] := by rw [hs]; exact ent_dr hE0 d0
                have hKq : kq g s := by rw [hs]; exact kq_dr hKq0 d0
                have hK : kx g s := hKq.1
                have hts := E.2.2.2.2.1
                have hown : s.vm.findClass RL = some m.cls := E.2.2.2.2.2.1
                have hW : wd g _ s0.heap [bB h q 0, vB g (q 0) na V1, vB g (q 1) ta TV, vB g (q 2) pa (v0 6), hB g (q 3) hq hh o1 n1, vB g (hh 0) (aa 0) (HV1 0), vB g (hh 1) (aa 1) (HV1 1), vB g (hh 2) (aa 2) (HV1 2), vB g (hh 3) (aa 3) (HV1 3), vB g (hh 4) (aa 4) (HV1 4), rB g (q 4) ra u_23, tB g (q 5) sa (fun _ => 0) 0, aR g at_ 54 (rT V1), aR g aw 30 (V1 9), aR g ar 30 (V1 10), aR g ag 30 (V1 11), aR g an 5 (V1 12)] H locs := hW
                have hP := hW.1
                refine b_top (y := 1) rfl ?_
                refine lv_if_eq (tgt := 295) hx hb dL_law_208 (by decide) (fun h_24 => ?_) (fun h_24 => ?_)
                · exact absurd h_24 (by decide)
                · refine lv_aload_n hx hb dL_law_211 rfl (lv_at hl 2 rfl) ?_
                  refine lv_aload_n hx hb dL_law_212 rfl (lv_at hl 3 rfl) ?_
                  refine lv_aload_n hx hb dL_law_213 rfl (lv_at hl 4 rfl) ?_
                  refine lv_aload hx hb dL_law_214 (lv_at hl 5 rfl) ?_
                  refine lv_aload hx hb dL_law_216 (lv_at hl 7 rfl) ?_
                  refine call_SA (As := [.ref h, .ref at_, .ref aw, .ref ar, .ref an]) (rest := []) E rfl hKq hW hA (c_L_areHeard l g H.size h q 0 na V1 ta TV pa (v0 6) hq hh o1 n1 aa HV1 ra u_23 sa at_ aw ar an cq1 hL1.cnt ho1 hn1 ⟨(li_LKn hL1 hB1).1, (li_LKn hL1 hB1).2⟩) ok_L_areHeard rfl q2_46 [0, 1, 2, 3, 4, 5, 6, 7, 8, 9, 10, 11, 12, 13, 14, 16] rfl (by decide) ⟨⟨rfl, rfl⟩, Nat.le_of_ble_eq_true rfl, Nat.le_of_ble_eq_true rfl⟩ hl.1 (Nat.le_of_ble_eq_true rfl) ⟨(show 200 + 106 * i + 50 + 1 ≤ 600000 by omega), (show 2000 + 731 * i + 300 + 6 ≤ 7302250 by omega)⟩ rfl dL_law_218 (fun u_25 H locs _ hW => ?_)
                  have hW : wd g _ s0.heap [bB h q 0, vB g (q 0) na V1, vB g (q 1) ta TV, vB g (q 2) pa (v0 6), hB g (q 3) hq hh o1 n1, vB g (hh 0) (aa 0) (HV1 0), vB g (hh 1) (aa 1) (HV1 1), vB g (hh 2) (aa 2) (HV1 2), vB g (hh 3) (aa 3) (HV1 3), vB g (hh 4) (aa 4) (HV1 4), rB g (q 4) ra u_25, tB g (q 5) sa (fun _ => 0) 0, aR g at_ 54 (rT V1), aR g aw 30 (V1 9), aR g ar 30 (V1 10), aR g ag 30 (V1 11), aR g an 5 (V1 12)] H locs := hW
                  have hP := hW.1
                  refine b_top (y := 1) rfl ?_
                  refine lv_if_eq (tgt := 295) hx hb dL_law_221 (by decide) (fun h_26 => ?_) (fun h_26 => ?_)
                  · exact absurd h_26 (by decide)
                  · refine lv_iload hx hb dL_law_224 (lv_at hl 9 rfl) ?_
                    refine lv_iconst (v := 3) hx hb dL_law_226 (by decide) ?_
                    refine lv_irem hx hb dL_law_227 (by decide) ?_
                    refine b_top (y := nI (i % 3)) (pk_rem (by omega) (by decide) (by decide)) ?_
                    refine lv_iconst (v := 2) hx hb dL_law_228 (by decide) ?_
                    refine b_ne (tgt := 291) ((i % 3)) (2) hx hb rfl rfl (by omega) (by omega) dL_law_229 (by decide) (fun h_27 => ?_) (fun h_27 => ?_)
                    · refine lv_iconst (v := 1) hx hb dL_law_291 (by decide) ?_
                      refine lv_goto (tgt := 296) hx hb dL_law_292 (by decide) ?_
                      refine lv_istore (lv' := [(7, .int 1), (9, .int x), (0, .ref b), (1, .ref h), (2, .ref at_), (3, .ref aw), (4, .ref ar), (5, .ref ag), (6, .ref an), (8, .int (nI i))]) hx hb dL_law_296 hl (by decide) rfl (fun ls hl => ?_)
                      refine lv_iinc (v := nI (i + 1)) (lv' := [(8, .int (nI (i + 1))), (7, .int 1), (9, .int x), (0, .ref b), (1, .ref h), (2, .ref at_), (3, .ref aw), (4, .ref ar), (5, .ref ag), (6, .ref an)]) hx hb dL_law_298 hl (k := 9) rfl (nI_add i 1) (by decide) rfl (fun ls hl => ?_)
                      refine lv_goto (tgt := 138) hx hb dL_law_301 (by decide) ?_
                      refine W.widen (k := 200 + 106 * (i + 1)) (n := 2000 + 731 * (i + 1)) (by omega) (by omega) ?_
                      exact ih_i (by omega) (d0) (s) (V1) (cq1) (TV) (u_25) (o1) (n1) (HV1) _ _ _ hW (lv_sub hl [3, 4, 5, 6, 7, 8, 9, 1, 0] rfl) (hs) (hd0) (hL1.mono (by omega)) (ho1) (hn1)
                    · refine lv_aload_n hx hb dL_law_232 rfl (lv_at hl 2 rfl) ?_
                      refine lv_aload_n hx hb dL_law_233 rfl (lv_at hl 3 rfl) ?_
                      refine lv_aload_n hx hb dL_law_234 rfl (lv_at hl 4 rfl) ?_
                      refine lv_aload hx hb dL_law_235 (lv_at hl 5 rfl) ?_
                      refine lv_aload hx hb dL_law_237 (lv_at hl 7 rfl) ?_
                      refine lv_iload hx hb dL_law_239 (lv_at hl 0 rfl) ?_
                      refine lv_iconst (v := 4) hx hb dL_law_241 (by decide) ?_
                      refine lv_ishr hx hb dL_law_242 ?_
                      refine lv_bipush (v := 6) hx hb dL_law_243 (by decide) ?_
                      refine call_SR (As := [.int (x >>> ((4 : Int32) &&& 31)), .int 6]) (rest := [.ref an, .ref ar, .ref aw, .ref at_, .ref h]) E rfl hK hP (c_L_low l g (x >>> ((4 : Int32) &&& 31)) 6 (by first | omega | assumption) (by first | omega | assumption)) ok_L_low rfl q1_187 [] rfl ⟨⟨rfl, rfl⟩, Nat.le_of_ble_eq_true rfl, Nat.le_of_ble_eq_true rfl⟩ hl.1 (Nat.le_of_ble_eq_true rfl) ⟨(show 200 + 106 * i + 50 + 1 + 0 ≤ 600000 by omega), (show 2000 + 731 * i + 300 + 6 + 0 ≤ 7302250 by omega)⟩ rfl dL_law_245 ?_
                      obtain ⟨kp, hkp⟩ : ∃ z, z = lowN (x >>> ((4 : Int32) &&& 31)) 6 := ⟨_, rfl⟩
                      have hkp5 : kp < 6 := by rw [hkp]; exact lowN_lt _ (by decide)
                      refine b_top (y := nI kp) (by rw [hkp]) ?_
                      refine call_SA (As := [.ref h, .ref at_, .ref aw, .ref ar, .ref an, .int (nI kp)]) (rest := []) E rfl hKq hW hA (c_L_isPlanned l g H.size h q 0 na V1 ta TV pa (v0 6) hq hh o1 n1 aa HV1 ra u_25 sa at_ aw ar an cq1 hL1.cnt kp ho1 hn1 hkp5 (li_LKp hL1 hkp5)) ok_L_isPlanned rfl q2_67 [0, 1, 2, 3, 4, 5, 6, 7, 8, 9, 10, 11, 12, 13, 14, 16] rfl (by decide) ⟨⟨rfl, rfl⟩, Nat.le_of_ble_eq_true rfl, Nat.le_of_ble_eq_true rfl⟩ hl.1 (Nat.le_of_ble_eq_true rfl) ⟨(show 200 + 106 * i + 50 + 1 + 1 ≤ 600000 by omega), (show 2000 + 731 * i + 300 + 6 + 6 ≤ 7302250 by omega)⟩ rfl dL_law_248 (fun u_28 H locs _ hW => ?_)
                      obtain ⟨Tu_28, Nu_28⟩ := u_28
                      have hW : wd g _ s0.heap [bB h q 0, vB g (q 0) na V1, vB g (q 1) ta Tu_28, vB g (q 2) pa (v0 6), hB g (q 3) hq hh o1 n1, vB g (hh 0) (aa 0) (HV1 0), vB g (hh 1) (aa 1) (HV1 1), vB g (hh 2) (aa 2) (HV1 2), vB g (hh 3) (aa 3) (HV1 3), vB g (hh 4) (aa 4) (HV1 4), rB g (q 4) ra Nu_28, tB g (q 5) sa (fun _ => 0) 0, aR g at_ 54 (rT V1), aR g aw 30 (V1 9), aR g ar 30 (V1 10), aR g ag 30 (V1 11), aR g an 5 (V1 12)] H locs := hW
                      have hP := hW.1
                      refine b_top (y := 1) rfl ?_
                      refine lv_if_eq (tgt := 295) hx hb dL_law_251 (by decide) (fun h_29 => ?_) (fun h_29 => ?_)
                      · exact absurd h_29 (by decide)
                      · refine lv_aload_n hx hb dL_law_254 rfl (lv_at hl 2 rfl) ?_
                        refine lv_aload_n hx hb dL_law_255 rfl (lv_at hl 3 rfl) ?_
                        refine lv_aload_n hx hb dL_law_256 rfl (lv_at hl 4 rfl) ?_
                        refine lv_aload hx hb dL_law_257 (lv_at hl 5 rfl) ?_
                        refine lv_aload hx hb dL_law_259 (lv_at hl 6 rfl) ?_
                        refine lv_aload hx hb dL_law_261 (lv_at hl 7 rfl) ?_
                        refine lv_iload hx hb dL_law_263 (lv_at hl 0 rfl) ?_
                        refine lv_bipush (v := 7) hx hb dL_law_265 (by decide) ?_
                        refine lv_ishr hx hb dL_law_267 ?_
                        refine lv_bipush (v := 6) hx hb dL_law_268 (by decide) ?_
                        refine call_SR (As := [.int (x >>> ((7 : Int32) &&& 31)), .int 6]) (rest := [.ref an, .ref ag, .ref ar, .ref aw, .ref at_, .ref h]) E rfl hK hP (c_L_low l g (x >>> ((7 : Int32) &&& 31)) 6 (by first | omega | assumption) (by first | omega | assumption)) ok_L_low rfl q1_187 [] rfl ⟨⟨rfl, rfl⟩, Nat.le_of_ble_eq_true rfl, Nat.le_of_ble_eq_true rfl⟩ hl.1 (Nat.le_of_ble_eq_true rfl) ⟨(show 200 + 106 * i + 50 + 1 + 1 + 0 ≤ 600000 by omega), (show 2000 + 731 * i + 300 + 6 + 6 + 0 ≤ 7302250 by omega)⟩ rfl dL_law_270 ?_
                        obtain ⟨kw, hkw⟩ : ∃ z, z = lowN (x >>> ((7 : Int32) &&& 31)) 6 := ⟨_, rfl⟩
                        have hkw5 : kw < 6 := by rw [hkw]; exact lowN_lt _ (by decide)
                        refine b_top (y := nI kw) (by rw [hkw]) ?_
                        refine lv_iconst (v := 1) hx hb dL_law_273 (by decide) ?_
                        refine lv_iload hx hb dL_law_274 (lv_at hl 0 rfl) ?_
                        refine lv_bipush (v := 10) hx hb dL_law_276 (by decide) ?_
                        refine lv_ishr hx hb dL_law_278 ?_
                        refine lv_bipush (v := 50) hx hb dL_law_279 (by decide) ?_
                        refine call_SR (As := [.int (x >>> ((10 : Int32) &&& 31)), .int 50]) (rest := [.int 1, .int (nI kw), .ref an, .ref ag, .ref ar, .ref aw, .ref at_, .ref h]) E rfl hK hP (c_L_low l g (x >>> ((10 : Int32) &&& 31)) 50 (by first | omega | assumption) (by first | omega | assumption)) ok_L_low rfl q1_187 [] rfl ⟨⟨rfl, rfl⟩, Nat.le_of_ble_eq_true rfl, Nat.le_of_ble_eq_true rfl⟩ hl.1 (Nat.le_of_ble_eq_true rfl) ⟨(show 200 + 106 * i + 50 + 1 + 1 + 0 ≤ 600000 by omega), (show 2000 + 731 * i + 300 + 6 + 6 + 0 ≤ 7302250 by omega)⟩ rfl dL_law_281 ?_
                        refine lv_iadd hx hb dL_law_284 ?_
                        refine b_top (y := nI (1 + (lowN (x >>> ((10 : Int32) &&& 31)) 50))) (nI_add 1 (lowN (x >>> ((10 : Int32) &&& 31)) 50)) ?_
                        obtain ⟨m0, hm0⟩ : ∃ z, z = 1 + (lowN (x >>> ((10 : Int32) &&& 31)) 50) := ⟨_, rfl⟩
                        have hm1 : 1 ≤ m0 := by omega
                        have hm : m0 ≤ 50 := by have := lowN_lt (x >>> ((10 : Int32) &&& 31)) (n := 50) (by decide); omega
                        refine b_top (y := nI m0) (by rw [hm0]) ?_
                        refine call_SA (As := [.ref h, .ref at_, .ref aw, .ref ar, .ref ag, .ref an, .int (nI kw), .int (nI m0)]) (rest := []) E rfl hKq hW hA (c_L_would l g H.size h q 0 na V1 ta Tu_28 pa (v0 6) hq hh o1 n1 aa HV1 ra Nu_28 sa at_ aw ar ag an cq1 hL1.cnt kw m0 ho1 hn1 hkw5 hm1 hm (fun N9 => congrFun (congrFun ((li_turns hL1 hB1 m0 hm).2 N9) 7) kw)) ok_L_would rfl q2_104 [0, 1, 2, 3, 4, 5, 6, 7, 8, 9, 10, 11, 12, 13, 14, 15, 16] rfl (by decide) ⟨⟨rfl, rfl⟩, Nat.le_of_ble_eq_true rfl, Nat.le_of_ble_eq_true rfl⟩ hl.1 (Nat.le_of_ble_eq_true rfl) ⟨(show 200 + 106 * i + 50 + 1 + 1 + 54 ≤ 600000 by omega), (show 2000 + 731 * i + 300 + 6 + 6 + 419 ≤ 7302250 by omega)⟩ rfl dL_law_285 (fun u_30 H locs _ hW => ?_)
                        obtain ⟨Tu_30, Nu_30⟩ := u_30
                        have hW : wd g _ s0.heap [bB h q 0, vB g (q 0) na V1, vB g (q 1) ta Tu_30, vB g (q 2) pa (v0 6), hB g (q 3) hq hh o1 n1, vB g (hh 0) (aa 0) (HV1 0), vB g (hh 1) (aa 1) (HV1 1), vB g (hh 2) (aa 2) (HV1 2), vB g (hh 3) (aa 3) (HV1 3), vB g (hh 4) (aa 4) (HV1 4), rB g (q 4) ra Nu_30, tB g (q 5) sa (fun _ => 0) 0, aR g at_ 54 (rT V1), aR g aw 30 (V1 9), aR g ar 30 (V1 10), aR g ag 30 (V1 11), aR g an 5 (V1 12)] H locs := hW
                        have hP := hW.1
                        refine b_top (y := 1) rfl ?_
                        refine lv_if_eq (tgt := 295) hx hb dL_law_288 (by decide) (fun h_31 => ?_) (fun h_31 => ?_)
                        · exact absurd h_31 (by decide)
                        · refine lv_iconst (v := 1) hx hb dL_law_291 (by decide) ?_
                          refine lv_goto (tgt := 296) hx hb dL_law_292 (by decide) ?_
                          refine lv_istore (lv' := [(7, .int 1), (9, .int x), (0, .ref b), (1, .ref h), (2, .ref at_), (3, .ref aw), (4, .ref ar), (5, .ref ag), (6, .ref an), (8, .int (nI i))]) hx hb dL_law_296 hl (by decide) rfl (fun ls hl => ?_)
                          refine lv_iinc (v := nI (i + 1)) (lv' := [(8, .int (nI (i + 1))), (7, .int 1), (9, .int x), (0, .ref b), (1, .ref h), (2, .ref at_), (3, .ref aw), (4, .ref ar), (5, .ref ag), (6, .ref an)]) hx hb dL_law_298 hl (k := 9) rfl (nI_add i 1) (by decide) rfl (fun ls hl => ?_)
                          refine lv_goto (tgt := 138) hx hb dL_law_301 (by decide) ?_
                          refine W.widen (k := 200 + 106 * (i + 1)) (n := 2000 + 731 * (i + 1)) (by omega) (by omega) ?_
                          exact ih_i (by omega) (d0) (s) (V1) (cq1) (Tu_30) (Nu_30) (o1) (n1) (HV1) _ _ _ hW (lv_sub hl [3, 4, 5, 6, 7, 8, 9, 1, 0] rfl) (hs) (hd0) (hL1.mono (by omega)) (ho1) (hn1)
  · refine lv_aload_n hx hb dL_law_61 rfl (lv_at hl 2 rfl) ?_
    refine lv_bipush (v := 9) hx hb dL_law_62 (by decide) ?_
    refine lv_iload hx hb dL_law_64 (lv_at hl 7 rfl) ?_
    refine lv_imul hx hb dL_law_66 ?_
    refine b_top (y := nI (9 * k)) (pk_mul 9 k) ?_
    refine lv_iconst (v := 4) hx hb dL_law_67 (by decide) ?_
    refine lv_iload hx hb dL_law_68 (lv_at hl 7 rfl) ?_
    refine lv_imul hx hb dL_law_70 ?_
    refine b_top (y := nI (4 * k)) (pk_mul 4 k) ?_
    refine b_iastE (B' := [bB h q 0, vB g (q 0) na (v0 6), vB g (q 1) ta (v0 6), vB g (q 2) pa (v0 6), hB g (q 3) hq hh 0 0, vB g (hh 0) (aa 0) ((fun _ => v0 6) 0), vB g (hh 1) (aa 1) ((fun _ => v0 6) 1), vB g (hh 2) (aa 2) ((fun _ => v0 6) 2), vB g (hh 3) (aa 3) ((fun _ => v0 6) 3), vB g (hh 4) (aa 4) ((fun _ => v0 6) 4), rB g (q 4) ra r0, tB g (q 5) sa (fun _ => 0) 0, aR g at_ 54 (rT (up2 (v0 k) 0 k (nI (4 * k)))), aR g aw 30 ((up2 (v0 k) 0 k (nI (4 * k))) 9), aR g ar 30 ((up2 (v0 k) 0 k (nI (4 * k))) 10), aR g ag 30 ((up2 (v0 k) 0 k (nI (4 * k))) 11), aR g an 5 ((up2 (v0 k) 0 k (nI (4 * k))) 12)]) hx hb hK hW 12 0 (9 * k) rfl rfl rfl (by omega) rfl (rT_put0 _ _ _) rfl dL_law_71 (fun H locs hW => ?_)
    have hP := hW.1
    refine lv_aload_n hx hb dL_law_72 rfl (lv_at hl 2 rfl) ?_
    refine lv_bipush (v := 9) hx hb dL_law_73 (by decide) ?_
    refine lv_iload hx hb dL_law_75 (lv_at hl 7 rfl) ?_
    refine lv_imul hx hb dL_law_77 ?_
    refine b_top (y := nI (9 * k)) (pk_mul 9 k) ?_
    refine lv_iconst (v := 1) hx hb dL_law_78 (by decide) ?_
    refine lv_iadd hx hb dL_law_79 ?_
    refine b_top (y := nI ((9 * k) + 1)) (nI_add (9 * k) 1) ?_
    refine lv_bipush (v := 8) hx hb dL_law_80 (by decide) ?_
    refine b_iastE (B' := [bB h q 0, vB g (q 0) na (v0 6), vB g (q 1) ta (v0 6), vB g (q 2) pa (v0 6), hB g (q 3) hq hh 0 0, vB g (hh 0) (aa 0) ((fun _ => v0 6) 0), vB g (hh 1) (aa 1) ((fun _ => v0 6) 1), vB g (hh 2) (aa 2) ((fun _ => v0 6) 2), vB g (hh 3) (aa 3) ((fun _ => v0 6) 3), vB g (hh 4) (aa 4) ((fun _ => v0 6) 4), rB g (q 4) ra r0, tB g (q 5) sa (fun _ => 0) 0, aR g at_ 54 (rT (up2 (up2 (v0 k) 0 k (nI (4 * k))) 1 k 8)), aR g aw 30 ((up2 (up2 (v0 k) 0 k (nI (4 * k))) 1 k 8) 9), aR g ar 30 ((up2 (up2 (v0 k) 0 k (nI (4 * k))) 1 k 8) 10), aR g ag 30 ((up2 (up2 (v0 k) 0 k (nI (4 * k))) 1 k 8) 11), aR g an 5 ((up2 (up2 (v0 k) 0 k (nI (4 * k))) 1 k 8) 12)]) hx hb hK hW 12 0 ((9 * k) + 1) rfl rfl rfl (by omega) rfl (rT_put _ (by omega) _) rfl dL_law_82 (fun H locs hW => ?_)
    have hP := hW.1
    refine lv_aload_n hx hb dL_law_83 rfl (lv_at hl 2 rfl) ?_
    refine lv_bipush (v := 9) hx hb dL_law_84 (by decide) ?_
    refine lv_iload hx hb dL_law_86 (lv_at hl 7 rfl) ?_
    refine lv_imul hx hb dL_law_88 ?_
    refine b_top (y := nI (9 * k)) (pk_mul 9 k) ?_
    refine lv_iconst (v := 5) hx hb dL_law_89 (by decide) ?_
    refine lv_iadd hx hb dL_law_90 ?_
    refine b_top (y := nI ((9 * k) + 5)) (nI_add (9 * k) 5) ?_
    refine lv_iload hx hb dL_law_91 (lv_at hl 7 rfl) ?_
    refine b_iastE (B' := [bB h q 0, vB g (q 0) na (v0 6), vB g (q 1) ta (v0 6), vB g (q 2) pa (v0 6), hB g (q 3) hq hh 0 0, vB g (hh 0) (aa 0) ((fun _ => v0 6) 0), vB g (hh 1) (aa 1) ((fun _ => v0 6) 1), vB g (hh 2) (aa 2) ((fun _ => v0 6) 2), vB g (hh 3) (aa 3) ((fun _ => v0 6) 3), vB g (hh 4) (aa 4) ((fun _ => v0 6) 4), rB g (q 4) ra r0, tB g (q 5) sa (fun _ => 0) 0, aR g at_ 54 (rT (up2 (up2 (up2 (v0 k) 0 k (nI (4 * k))) 1 k 8) 5 k (nI k))), aR g aw 30 ((up2 (up2 (up2 (v0 k) 0 k (nI (4 * k))) 1 k 8) 5 k (nI k)) 9), aR g ar 30 ((up2 (up2 (up2 (v0 k) 0 k (nI (4 * k))) 1 k 8) 5 k (nI k)) 10), aR g ag 30 ((up2 (up2 (up2 (v0 k) 0 k (nI (4 * k))) 1 k 8) 5 k (nI k)) 11), aR g an 5 ((up2 (up2 (up2 (v0 k) 0 k (nI (4 * k))) 1 k 8) 5 k (nI k)) 12)]) hx hb hK hW 12 0 ((9 * k) + 5) rfl rfl rfl (by omega) rfl (rT_put _ (by omega) _) rfl dL_law_93 (fun H locs hW => ?_)
    have hP := hW.1
    refine lv_iinc (v := nI (k + 1)) (lv' := [(7, .int (nI (k + 1))), (0, .ref b), (1, .ref h), (2, .ref at_), (3, .ref aw), (4, .ref ar), (5, .ref ag), (6, .ref an)]) hx hb dL_law_94 hl (k := 7) rfl (nI_add k 1) (by decide) rfl (fun ls hl => ?_)
    refine lv_goto (tgt := 54) hx hb dL_law_97 (by decide) ?_
    have e_32 : ([bB h q 0, vB g (q 0) na (v0 6), vB g (q 1) ta (v0 6), vB g (q 2) pa (v0 6), hB g (q 3) hq hh 0 0, vB g (hh 0) (aa 0) ((fun _ => v0 6) 0), vB g (hh 1) (aa 1) ((fun _ => v0 6) 1), vB g (hh 2) (aa 2) ((fun _ => v0 6) 2), vB g (hh 3) (aa 3) ((fun _ => v0 6) 3), vB g (hh 4) (aa 4) ((fun _ => v0 6) 4), rB g (q 4) ra r0, tB g (q 5) sa (fun _ => 0) 0, aR g at_ 54 (rT (v0 (k + 1))), aR g aw 30 ((v0 (k + 1)) 9), aR g ar 30 ((v0 (k + 1)) 10), aR g ag 30 ((v0 (k + 1)) 11), aR g an 5 ((v0 (k + 1)) 12)] : List va_W) = [bB h q 0, vB g (q 0) na (v0 6), vB g (q 1) ta (v0 6), vB g (q 2) pa (v0 6), hB g (q 3) hq hh 0 0, vB g (hh 0) (aa 0) ((fun _ => v0 6) 0), vB g (hh 1) (aa 1) ((fun _ => v0 6) 1), vB g (hh 2) (aa 2) ((fun _ => v0 6) 2), vB g (hh 3) (aa 3) ((fun _ => v0 6) 3), vB g (hh 4) (aa 4) ((fun _ => v0 6) 4), rB g (q 4) ra r0, tB g (q 5) sa (fun _ => 0) 0, aR g at_ 54 (rT (up2 (up2 (up2 (v0 k) 0 k (nI (4 * k))) 1 k 8) 5 k (nI k))), aR g aw 30 ((up2 (up2 (up2 (v0 k) 0 k (nI (4 * k))) 1 k 8) 5 k (nI k)) 9), aR g ar 30 ((up2 (up2 (up2 (v0 k) 0 k (nI (4 * k))) 1 k 8) 5 k (nI k)) 10), aR g ag 30 ((up2 (up2 (up2 (v0 k) 0 k (nI (4 * k))) 1 k 8) 5 k (nI k)) 11), aR g an 5 ((up2 (up2 (up2 (v0 k) 0 k (nI (4 * k))) 1 k 8) 5 k (nI k)) 12)] := by rw [v0_s k]
    exact ih_k (by omega)  _ _ _ (by rw [e_32]; exact hW) (lv_sub hl [1, 2, 3, 4, 5, 6, 7, 0] rfl) 
