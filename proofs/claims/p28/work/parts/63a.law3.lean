set_option maxHeartbeats 4000000 in
set_option maxRecDepth 100000 in
theorem c_L_turns (l : Launch) (g : gx) (sz : Nat) (at_ aw ar ag an : Nat) (V : sV) (cq : Nat → Nat) (hc : ∀ t, t < 6 → V 3 t = nI (cq t) ∧ cq t ≤ 5)  : cA (S := Unit) l g yL_turns cL_turns 12 none ({ frames := 2, cells := 1, slots := 6, locals := 55 } : Room) [.ref at_, .ref aw, .ref ar, .ref ag, .ref an] [aR g at_ 54 (rT V), aR g aw 30 (V 9), aR g ar 30 (V 10), aR g ag 30 (V 11), aR g an 5 (V 12)] sz (fun _ => none) (fun _ => True) (fun _ => [aR g at_ 54 (rT (tuL V cq)), aR g aw 30 ((tuL V cq) 9), aR g ar 30 ((tuL V cq) 10), aR g ag 30 ((tuL V cq) 11), aR g an 5 ((tuL V cq) 12)]) 1 6 := by
  refine cA.mk (by decide +kernel) (Nat.le_of_ble_eq_true rfl) ?_
  intro p e s m below meth c ls E hK hsz hW hl
  obtain ⟨hx, hb, hr, hml, hts, hown, hlocks, hin⟩ := id E
  have hown : s.vm.findClass RL = some m.cls := hown
  have hKq := hK
  have hK := hKq.1
  have hA : ∀ q9, s.heap.size ≤ q9 → frN [aR g at_ 54 (rT V), aR g aw 30 (V 9), aR g ar 30 (V 10), aR g ag 30 (V 11), aR g an 5 (V 12)] sz q9 := fun q9 h9 => Or.inr (by rw [← hsz]; exact h9)
  obtain ⟨H, locs, hH, hlo9⟩ : ∃ (H : Heap) (locs : List Loc), H = s.heap ∧ locs = [] := ⟨_, _, rfl, rfl⟩
  have hW : wd g (frN [aR g at_ 54 (rT V), aR g aw 30 (V 9), aR g ar 30 (V 10), aR g ag 30 (V 11), aR g an 5 (V 12)] sz) s.heap [aR g at_ 54 (rT V), aR g aw 30 (V 9), aR g ar 30 (V 10), aR g ag 30 (V 11), aR g an 5 (V 12)] H locs := by rw [hH, hlo9]; exact hW
  rw [show W p l e _ s m _ below meth c s.heap [] 0 0 _ (F0 m 0 ls []) = W p l e _ s m _ below meth c H locs 0 0 _ (F0 m 0 ls []) by rw [hH, hlo9]]
  have hP := hW.1
  have hl : lv_has ls 12 [(0, .ref at_), (1, .ref aw), (2, .ref ar), (3, .ref ag), (4, .ref an)] := hl
  refine lv_bipush (v := 6) hx hb dL_turns_0 (by decide) ?_
  refine b_newB (N := 6) hx hb hts hKq hW hA (by decide) (by decide) (by decide) (Nat.le_of_ble_eq_true rfl) (Nat.le_of_ble_eq_true rfl) dL_turns_2 (fun al_1 H hW => ?_)
  have hW : wd g (frN [aR g at_ 54 (rT V), aR g aw 30 (V 9), aR g ar 30 (V 10), aR g ag 30 (V 11), aR g an 5 (V 12)] sz) s.heap [aR g at_ 54 (rT V), aR g aw 30 (V 9), aR g ar 30 (V 10), aR g ag 30 (V 11), aR g an 5 (V 12), aR g al_1 6 (fun _ => 0)] H locs := hW
  have hP := hW.1
  refine lv_astore (lv' := [(5, .ref al_1), (0, .ref at_), (1, .ref aw), (2, .ref ar), (3, .ref ag), (4, .ref an)]) hx hb dL_turns_4 hl (by decide) rfl (fun ls hl => ?_)
  refine lv_aload_n hx hb dL_turns_6 rfl (lv_at hl 1 rfl) ?_
  refine lv_aload_n hx hb dL_turns_7 rfl (lv_at hl 2 rfl) ?_
  refine lv_aload_n hx hb dL_turns_8 rfl (lv_at hl 3 rfl) ?_
  refine lv_aload hx hb dL_turns_9 (lv_at hl 5 rfl) ?_
  refine lv_aload hx hb dL_turns_11 (lv_at hl 0 rfl) ?_
  refine call_SU (As := [.ref at_, .ref aw, .ref ar, .ref an, .ref al_1]) (rest := []) E rfl hK hW (c_L_listens l g at_ aw ar an al_1 V (fun _ => 0) cq hc) ok_L_listens rfl q2_49 [0, 1, 2, 4, 5] rfl (by decide) ⟨⟨rfl, rfl⟩, Nat.le_of_ble_eq_true rfl, Nat.le_of_ble_eq_true rfl⟩ hl.1 (Nat.le_of_ble_eq_true rfl) ⟨Nat.le_of_ble_eq_true rfl, Nat.le_of_ble_eq_true rfl⟩ rfl dL_turns_13 (fun _u H locs _ hW => ?_)
  have hW : wd g _ s.heap [aR g at_ 54 (rT V), aR g aw 30 (V 9), aR g ar 30 (V 10), aR g ag 30 (V 11), aR g an 5 (V 12), aR g al_1 6 (ldL V cq)] H locs := hW
  have hP := hW.1
  obtain ⟨u, hu⟩ : ∃ z, z = ldL V cq := ⟨_, rfl⟩
  rw [← hu] at hW
  have hP := hW.1
  refine lv_bipush (v := -5) hx hb dL_turns_16 (by decide) ?_
  refine lv_istore (lv' := [(6, .int (-5)), (5, .ref al_1), (0, .ref at_), (1, .ref aw), (2, .ref ar), (3, .ref ag), (4, .ref an)]) hx hb dL_turns_18 hl (by decide) rfl (fun ls hl => ?_)
  refine lv_iconst (v := 0) hx hb dL_turns_20 (by decide) ?_
  refine lv_istore (lv' := [(7, .int 0), (6, .int (-5)), (5, .ref al_1), (0, .ref at_), (1, .ref aw), (2, .ref ar), (3, .ref ag), (4, .ref an)]) hx hb dL_turns_21 hl (by decide) rfl (fun ls hl => ?_)
  refine loopN (fun k : Nat => ∀ (H : Heap) (locs : List Loc) (ls : Array Slot), wd g (frN [aR g at_ 54 (rT V), aR g aw 30 (V 9), aR g ar 30 (V 10), aR g ag 30 (V 11), aR g an 5 (V 12)] sz) s.heap [aR g at_ 54 (rT (tpL V u k)), aR g aw 30 ((tpL V u k) 9), aR g ar 30 ((tpL V u k) 10), aR g ag 30 ((tpL V u k) 11), aR g an 5 ((tpL V u k) 12), aR g al_1 6 u] H locs → lv_has ls 12 [(0, .ref at_), (1, .ref aw), (2, .ref ar), (3, .ref ag), (4, .ref an), (5, .ref al_1), (6, .int (bsL u k)), (7, .int (nI k))] → W p l e _ s m _ below meth c H locs (1) (6) _ (F0 m 23 ls [])) (6) (fun k hik ih_k => ?_) (0) (by omega)  H locs ls hW (lv_sub hl [3, 4, 5, 6, 7, 2, 1, 0] rfl) 
  intro  H locs ls hW hl 
  have hP := hW.1
  refine lv_iload hx hb dL_turns_23 (lv_at hl 7 rfl) ?_
  refine lv_bipush (v := 6) hx hb dL_turns_25 (by decide) ?_
  refine b_ge (tgt := 102) (k) (6) hx hb rfl rfl (by omega) (by omega) dL_turns_27 (by decide) (fun h_2 => ?_) (fun h_2 => ?_)
  · obtain rfl : k = 6 := by omega
    obtain ⟨U_1, hU_1⟩ : ∃ z, z = (tpL V u 6) := ⟨_, rfl⟩
    rw [← hU_1] at hW
    have hP := hW.1
    refine lv_iconst (v := 0) hx hb dL_turns_102 (by decide) ?_
    refine lv_istore (lv' := [(7, .int 0), (0, .ref at_), (1, .ref aw), (2, .ref ar), (3, .ref ag), (4, .ref an), (5, .ref al_1), (6, .int (bsL u 6))]) hx hb dL_turns_103 hl (by decide) rfl (fun ls hl => ?_)
    refine loopN (fun k : Nat => ∀ (H : Heap) (locs : List Loc) (ls : Array Slot), wd g (frN [aR g at_ 54 (rT V), aR g aw 30 (V 9), aR g ar 30 (V 10), aR g ag 30 (V 11), aR g an 5 (V 12)] sz) s.heap [aR g at_ 54 (rT (l2L U_1 cq k)), aR g aw 30 ((l2L U_1 cq k) 9), aR g ar 30 ((l2L U_1 cq k) 10), aR g ag 30 ((l2L U_1 cq k) 11), aR g an 5 ((l2L U_1 cq k) 12), aR g al_1 6 u] H locs → lv_has ls 12 [(0, .ref at_), (1, .ref aw), (2, .ref ar), (3, .ref ag), (4, .ref an), (5, .ref al_1), (6, .int (bsL u 6)), (7, .int (nI k))] → W p l e _ s m _ below meth c H locs (1) (6) _ (F0 m 105 ls [])) (6) (fun k hik ih_k => ?_) (0) (by omega)  H locs ls hW (lv_sub hl [1, 2, 3, 4, 5, 6, 7, 0] rfl) 
    intro  H locs ls hW hl 
    have hP := hW.1
    refine lv_iload hx hb dL_turns_105 (lv_at hl 7 rfl) ?_
    refine lv_bipush (v := 6) hx hb dL_turns_107 (by decide) ?_
    refine b_ge (tgt := 228) (k) (6) hx hb rfl rfl (by omega) (by omega) dL_turns_109 (by decide) (fun h_3 => ?_) (fun h_3 => ?_)
    · obtain rfl : k = 6 := by omega
      obtain ⟨U_2, hU_2⟩ : ∃ z, z = (l2L U_1 cq 6) := ⟨_, rfl⟩
      rw [← hU_2] at hW
      have hP := hW.1
      refine lv_iconst (v := 0) hx hb dL_turns_228 (by decide) ?_
      refine lv_istore (lv' := [(7, .int 0), (0, .ref at_), (1, .ref aw), (2, .ref ar), (3, .ref ag), (4, .ref an), (5, .ref al_1), (6, .int (bsL u 6))]) hx hb dL_turns_229 hl (by decide) rfl (fun ls hl => ?_)
      refine loopN (fun k : Nat => ∀ (H : Heap) (locs : List Loc) (ls : Array Slot), wd g (frN [aR g at_ 54 (rT V), aR g aw 30 (V 9), aR g ar 30 (V 10), aR g ag 30 (V 11), aR g an 5 (V 12)] sz) s.heap [aR g at_ 54 (rT (l3L U_2 k)), aR g aw 30 ((l3L U_2 k) 9), aR g ar 30 ((l3L U_2 k) 10), aR g ag 30 ((l3L U_2 k) 11), aR g an 5 ((l3L U_2 k) 12), aR g al_1 6 u] H locs → lv_has ls 12 [(0, .ref at_), (1, .ref aw), (2, .ref ar), (3, .ref ag), (4, .ref an), (5, .ref al_1), (6, .int (bsL u 6)), (7, .int (nI k))] → W p l e _ s m _ below meth c H locs (1) (6) _ (F0 m 231 ls [])) (6) (fun k hik ih_k => ?_) (0) (by omega)  H locs ls hW (lv_sub hl [1, 2, 3, 4, 5, 6, 7, 0] rfl) 
      intro  H locs ls hW hl 
      have hP := hW.1
      refine lv_iload hx hb dL_turns_231 (lv_at hl 7 rfl) ?_
      refine lv_bipush (v := 6) hx hb dL_turns_233 (by decide) ?_
      refine b_ge (tgt := 275) (k) (6) hx hb rfl rfl (by omega) (by omega) dL_turns_235 (by decide) (fun h_4 => ?_) (fun h_4 => ?_)
      · obtain rfl : k = 6 := by omega
        obtain ⟨U_3, hU_3⟩ : ∃ z, z = (l3L U_2 6) := ⟨_, rfl⟩
        rw [← hU_3] at hW
        have hP := hW.1
        refine lv_iload hx hb dL_turns_275 (lv_at hl 6 rfl) ?_
        refine lv_if_lt (tgt := 308) hx hb dL_turns_277 (by decide) (fun h_5 => ?_) (fun h_5 => ?_)
        · have hlt := h_5
          refine lv_aload hx hb dL_turns_308 (lv_at hl 4 rfl) ?_
          refine lv_iconst (v := 4) hx hb dL_turns_310 (by decide) ?_
          refine lv_dup2_11 hx hb dL_turns_311 rfl rfl ?_
          refine b_iald (v := U_3 12 4) hx hb hK hP 4 0 (4) rfl rfl rfl (by omega) rfl rfl dL_turns_312 ?_
          refine lv_iload hx hb dL_turns_313 (lv_at hl 6 rfl) ?_
          refine lv_if_ge (tgt := 322) hx hb dL_turns_315 (by decide) (fun h_6 => ?_) (fun h_6 => ?_)
          · exact absurd hlt (Int32.not_lt.mpr h_6)
          · refine lv_iconst (v := 1) hx hb dL_turns_318 (by decide) ?_
            refine lv_goto (tgt := 323) hx hb dL_turns_319 (by decide) ?_
            refine lv_iadd hx hb dL_turns_323 ?_
            refine b_iastE (B' := [aR g at_ 54 (rT (up2 U_3 12 4 ((U_3 12 4) + 1))), aR g aw 30 ((up2 U_3 12 4 ((U_3 12 4) + 1)) 9), aR g ar 30 ((up2 U_3 12 4 ((U_3 12 4) + 1)) 10), aR g ag 30 ((up2 U_3 12 4 ((U_3 12 4) + 1)) 11), aR g an 5 ((up2 U_3 12 4 ((U_3 12 4) + 1)) 12), aR g al_1 6 u]) hx hb hK hW 4 0 (4) rfl rfl rfl (by omega) rfl rfl (by rw [show rT (up2 U_3 12 4 ((U_3 12 4) + 1)) = rT U_3 from rT_ge (by decide)]; rfl) dL_turns_324 (fun H locs hW => ?_)
            have hP := hW.1
            refine lv_aload hx hb dL_turns_325 (lv_at hl 4 rfl) ?_
            refine lv_iconst (v := 3) hx hb dL_turns_327 (by decide) ?_
            refine lv_iload hx hb dL_turns_328 (lv_at hl 6 rfl) ?_
            refine b_iastE (B' := [aR g at_ 54 (rT (up2 (up2 U_3 12 4 ((U_3 12 4) + 1)) 12 3 (bsL u 6))), aR g aw 30 ((up2 (up2 U_3 12 4 ((U_3 12 4) + 1)) 12 3 (bsL u 6)) 9), aR g ar 30 ((up2 (up2 U_3 12 4 ((U_3 12 4) + 1)) 12 3 (bsL u 6)) 10), aR g ag 30 ((up2 (up2 U_3 12 4 ((U_3 12 4) + 1)) 12 3 (bsL u 6)) 11), aR g an 5 ((up2 (up2 U_3 12 4 ((U_3 12 4) + 1)) 12 3 (bsL u 6)) 12), aR g al_1 6 u]) hx hb hK hW 4 0 (3) rfl rfl rfl (by omega) rfl rfl (by rw [show rT (up2 (up2 U_3 12 4 ((U_3 12 4) + 1)) 12 3 (bsL u 6)) = rT (up2 U_3 12 4 ((U_3 12 4) + 1)) from rT_ge (by decide)]; rfl) dL_turns_330 (fun H locs hW => ?_)
            have hP := hW.1
            refine lv_aload hx hb dL_turns_331 (lv_at hl 4 rfl) ?_
            refine lv_iconst (v := 2) hx hb dL_turns_333 (by decide) ?_
            refine lv_dup2_11 hx hb dL_turns_334 rfl rfl ?_
            refine b_iald (v := U_3 12 2) hx hb hK hP 4 0 (2) rfl rfl rfl (by omega) rfl rfl dL_turns_335 ?_
            refine lv_iconst (v := 1) hx hb dL_turns_336 (by decide) ?_
            refine lv_iadd hx hb dL_turns_337 ?_
            refine b_iastE (B' := [aR g at_ 54 (rT (up2 (up2 (up2 U_3 12 4 ((U_3 12 4) + 1)) 12 3 (bsL u 6)) 12 2 ((U_3 12 2) + 1))), aR g aw 30 ((up2 (up2 (up2 U_3 12 4 ((U_3 12 4) + 1)) 12 3 (bsL u 6)) 12 2 ((U_3 12 2) + 1)) 9), aR g ar 30 ((up2 (up2 (up2 U_3 12 4 ((U_3 12 4) + 1)) 12 3 (bsL u 6)) 12 2 ((U_3 12 2) + 1)) 10), aR g ag 30 ((up2 (up2 (up2 U_3 12 4 ((U_3 12 4) + 1)) 12 3 (bsL u 6)) 12 2 ((U_3 12 2) + 1)) 11), aR g an 5 ((up2 (up2 (up2 U_3 12 4 ((U_3 12 4) + 1)) 12 3 (bsL u 6)) 12 2 ((U_3 12 2) + 1)) 12), aR g al_1 6 u]) hx hb hK hW 4 0 (2) rfl rfl rfl (by omega) rfl rfl (by rw [show rT (up2 (up2 (up2 U_3 12 4 ((U_3 12 4) + 1)) 12 3 (bsL u 6)) 12 2 ((U_3 12 2) + 1)) = rT (up2 (up2 U_3 12 4 ((U_3 12 4) + 1)) 12 3 (bsL u 6)) from rT_ge (by decide)]; rfl) dL_turns_338 (fun H locs hW => ?_)
            have hP := hW.1
            exact aV_ret (B := [aR g at_ 54 (rT (up2 (up2 (up2 U_3 12 4 ((U_3 12 4) + 1)) 12 3 (bsL u 6)) 12 2 ((U_3 12 2) + 1))), aR g aw 30 ((up2 (up2 (up2 U_3 12 4 ((U_3 12 4) + 1)) 12 3 (bsL u 6)) 12 2 ((U_3 12 2) + 1)) 9), aR g ar 30 ((up2 (up2 (up2 U_3 12 4 ((U_3 12 4) + 1)) 12 3 (bsL u 6)) 12 2 ((U_3 12 2) + 1)) 10), aR g ag 30 ((up2 (up2 (up2 U_3 12 4 ((U_3 12 4) + 1)) 12 3 (bsL u 6)) 12 2 ((U_3 12 2) + 1)) 11), aR g an 5 ((up2 (up2 (up2 U_3 12 4 ((U_3 12 4) + 1)) 12 3 (bsL u 6)) 12 2 ((U_3 12 2) + 1)) 12)]) () [aR g al_1 6 u] hsz hW hx hb hr hlocks dL_turns_339 trivial (by rw [show tuL V cq = tuU V cq u from by rw [hu], tuU, tuE]; first | (rw [if_pos hlt, ← hU_1, ← hU_2, ← hU_3]; done) | (rw [if_neg hlt, show (bsL u 6).toNatClampNeg = w3 from by rw [hwe3, nI_clamp (by omega)], ← hU_1, ← hU_2, ← hU_3]; done)) (adr2 (L := [[at_], [aw], [ar], [ag], [an]]) rfl rfl)
        · have hlt := h_5
          obtain ⟨w3, hw3, hwe3⟩ := (bsL_rng u 6 (by omega)).resolve_left (fun q9 => h_5 (by rw [q9]; exact m5_lt))
          refine lv_aload_n hx hb dL_turns_280 rfl (lv_at hl 0 rfl) ?_
          refine lv_bipush (v := 9) hx hb dL_turns_281 (by decide) ?_
          refine lv_iload hx hb dL_turns_283 (lv_at hl 6 rfl) ?_
          refine b_top (y := nI w3) hwe3 ?_
          refine lv_imul hx hb dL_turns_285 ?_
          refine b_top (y := nI (9 * w3)) (pk_mul 9 w3) ?_
          refine lv_bipush (v := 6) hx hb dL_turns_286 (by decide) ?_
          refine lv_iadd hx hb dL_turns_288 ?_
          refine b_top (y := nI ((9 * w3) + 6)) (nI_add (9 * w3) 6) ?_
          refine lv_aload hx hb dL_turns_289 (lv_at hl 4 rfl) ?_
          refine lv_iconst (v := 1) hx hb dL_turns_291 (by decide) ?_
          refine b_iald (v := U_3 12 1) hx hb hK hP 4 0 (1) rfl rfl rfl (by omega) rfl rfl dL_turns_292 ?_
          refine b_iastE (B' := [aR g at_ 54 (rT (up2 U_3 6 w3 (U_3 12 1))), aR g aw 30 ((up2 U_3 6 w3 (U_3 12 1)) 9), aR g ar 30 ((up2 U_3 6 w3 (U_3 12 1)) 10), aR g ag 30 ((up2 U_3 6 w3 (U_3 12 1)) 11), aR g an 5 ((up2 U_3 6 w3 (U_3 12 1)) 12), aR g al_1 6 u]) hx hb hK hW 0 0 ((9 * w3) + 6) rfl rfl rfl (by omega) rfl (rT_put _ (by omega) _) rfl dL_turns_293 (fun H locs hW => ?_)
          have hP := hW.1
          refine lv_aload_n hx hb dL_turns_294 rfl (lv_at hl 0 rfl) ?_
          refine lv_bipush (v := 9) hx hb dL_turns_295 (by decide) ?_
          refine lv_iload hx hb dL_turns_297 (lv_at hl 6 rfl) ?_
          refine b_top (y := nI w3) hwe3 ?_
          refine lv_imul hx hb dL_turns_299 ?_
          refine b_top (y := nI (9 * w3)) (pk_mul 9 w3) ?_
          refine lv_bipush (v := 8) hx hb dL_turns_300 (by decide) ?_
          refine lv_iadd hx hb dL_turns_302 ?_
          refine b_top (y := nI ((9 * w3) + 8)) (nI_add (9 * w3) 8) ?_
          refine lv_dup2_11 hx hb dL_turns_303 rfl rfl ?_
          refine b_iald (v := U_3 8 w3) hx hb hK hP 0 0 ((9 * w3) + 8) rfl rfl rfl (by omega) rfl ((rT_at _ (by omega)).trans rfl) dL_turns_304 ?_
          refine lv_iconst (v := 1) hx hb dL_turns_305 (by decide) ?_
          refine lv_iadd hx hb dL_turns_306 ?_
          refine b_iastE (B' := [aR g at_ 54 (rT (up2 (up2 U_3 6 w3 (U_3 12 1)) 8 w3 ((U_3 8 w3) + 1))), aR g aw 30 ((up2 (up2 U_3 6 w3 (U_3 12 1)) 8 w3 ((U_3 8 w3) + 1)) 9), aR g ar 30 ((up2 (up2 U_3 6 w3 (U_3 12 1)) 8 w3 ((U_3 8 w3) + 1)) 10), aR g ag 30 ((up2 (up2 U_3 6 w3 (U_3 12 1)) 8 w3 ((U_3 8 w3) + 1)) 11), aR g an 5 ((up2 (up2 U_3 6 w3 (U_3 12 1)) 8 w3 ((U_3 8 w3) + 1)) 12), aR g al_1 6 u]) hx hb hK hW 0 0 ((9 * w3) + 8) rfl rfl rfl (by omega) rfl (rT_put _ (by omega) _) rfl dL_turns_307 (fun H locs hW => ?_)
          have hP := hW.1
          refine lv_aload hx hb dL_turns_308 (lv_at hl 4 rfl) ?_
          refine lv_iconst (v := 4) hx hb dL_turns_310 (by decide) ?_
          refine lv_dup2_11 hx hb dL_turns_311 rfl rfl ?_
          refine b_iald (v := U_3 12 4) hx hb hK hP 4 0 (4) rfl rfl rfl (by omega) rfl rfl dL_turns_312 ?_
          refine lv_iload hx hb dL_turns_313 (lv_at hl 6 rfl) ?_
          refine lv_if_ge (tgt := 322) hx hb dL_turns_315 (by decide) (fun h_7 => ?_) (fun h_7 => ?_)
          · refine lv_iconst (v := 0) hx hb dL_turns_322 (by decide) ?_
            refine lv_iadd hx hb dL_turns_323 ?_
            refine b_iastE (B' := [aR g at_ 54 (rT (up2 (up2 (up2 U_3 6 w3 (U_3 12 1)) 8 w3 ((U_3 8 w3) + 1)) 12 4 ((U_3 12 4) + 0))), aR g aw 30 ((up2 (up2 (up2 U_3 6 w3 (U_3 12 1)) 8 w3 ((U_3 8 w3) + 1)) 12 4 ((U_3 12 4) + 0)) 9), aR g ar 30 ((up2 (up2 (up2 U_3 6 w3 (U_3 12 1)) 8 w3 ((U_3 8 w3) + 1)) 12 4 ((U_3 12 4) + 0)) 10), aR g ag 30 ((up2 (up2 (up2 U_3 6 w3 (U_3 12 1)) 8 w3 ((U_3 8 w3) + 1)) 12 4 ((U_3 12 4) + 0)) 11), aR g an 5 ((up2 (up2 (up2 U_3 6 w3 (U_3 12 1)) 8 w3 ((U_3 8 w3) + 1)) 12 4 ((U_3 12 4) + 0)) 12), aR g al_1 6 u]) hx hb hK hW 4 0 (4) rfl rfl rfl (by omega) rfl rfl (by rw [show rT (up2 (up2 (up2 U_3 6 w3 (U_3 12 1)) 8 w3 ((U_3 8 w3) + 1)) 12 4 ((U_3 12 4) + 0)) = rT (up2 (up2 U_3 6 w3 (U_3 12 1)) 8 w3 ((U_3 8 w3) + 1)) from rT_ge (by decide)]; rfl) dL_turns_324 (fun H locs hW => ?_)
            have hP := hW.1
            refine lv_aload hx hb dL_turns_325 (lv_at hl 4 rfl) ?_
            refine lv_iconst (v := 3) hx hb dL_turns_327 (by decide) ?_
            refine lv_iload hx hb dL_turns_328 (lv_at hl 6 rfl) ?_
            refine b_iastE (B' := [aR g at_ 54 (rT (up2 (up2 (up2 (up2 U_3 6 w3 (U_3 12 1)) 8 w3 ((U_3 8 w3) + 1)) 12 4 ((U_3 12 4) + 0)) 12 3 (bsL u 6))), aR g aw 30 ((up2 (up2 (up2 (up2 U_3 6 w3 (U_3 12 1)) 8 w3 ((U_3 8 w3) + 1)) 12 4 ((U_3 12 4) + 0)) 12 3 (bsL u 6)) 9), aR g ar 30 ((up2 (up2 (up2 (up2 U_3 6 w3 (U_3 12 1)) 8 w3 ((U_3 8 w3) + 1)) 12 4 ((U_3 12 4) + 0)) 12 3 (bsL u 6)) 10), aR g ag 30 ((up2 (up2 (up2 (up2 U_3 6 w3 (U_3 12 1)) 8 w3 ((U_3 8 w3) + 1)) 12 4 ((U_3 12 4) + 0)) 12 3 (bsL u 6)) 11), aR g an 5 ((up2 (up2 (up2 (up2 U_3 6 w3 (U_3 12 1)) 8 w3 ((U_3 8 w3) + 1)) 12 4 ((U_3 12 4) + 0)) 12 3 (bsL u 6)) 12), aR g al_1 6 u]) hx hb hK hW 4 0 (3) rfl rfl rfl (by omega) rfl rfl (by rw [show rT (up2 (up2 (up2 (up2 U_3 6 w3 (U_3 12 1)) 8 w3 ((U_3 8 w3) + 1)) 12 4 ((U_3 12 4) + 0)) 12 3 (bsL u 6)) = rT (up2 (up2 (up2 U_3 6 w3 (U_3 12 1)) 8 w3 ((U_3 8 w3) + 1)) 12 4 ((U_3 12 4) + 0)) from rT_ge (by decide)]; rfl) dL_turns_330 (fun H locs hW => ?_)
            have hP := hW.1
            refine lv_aload hx hb dL_turns_331 (lv_at hl 4 rfl) ?_
            refine lv_iconst (v := 2) hx hb dL_turns_333 (by decide) ?_
            refine lv_dup2_11 hx hb dL_turns_334 rfl rfl ?_
            refine b_iald (v := U_3 12 2) hx hb hK hP 4 0 (2) rfl rfl rfl (by omega) rfl rfl dL_turns_335 ?_
            refine lv_iconst (v := 1) hx hb dL_turns_336 (by decide) ?_
            refine lv_iadd hx hb dL_turns_337 ?_
            refine b_iastE (B' := [aR g at_ 54 (rT (up2 (up2 (up2 (up2 (up2 U_3 6 w3 (U_3 12 1)) 8 w3 ((U_3 8 w3) + 1)) 12 4 ((U_3 12 4) + 0)) 12 3 (bsL u 6)) 12 2 ((U_3 12 2) + 1))), aR g aw 30 ((up2 (up2 (up2 (up2 (up2 U_3 6 w3 (U_3 12 1)) 8 w3 ((U_3 8 w3) + 1)) 12 4 ((U_3 12 4) + 0)) 12 3 (bsL u 6)) 12 2 ((U_3 12 2) + 1)) 9), aR g ar 30 ((up2 (up2 (up2 (up2 (up2 U_3 6 w3 (U_3 12 1)) 8 w3 ((U_3 8 w3) + 1)) 12 4 ((U_3 12 4) + 0)) 12 3 (bsL u 6)) 12 2 ((U_3 12 2) + 1)) 10), aR g ag 30 ((up2 (up2 (up2 (up2 (up2 U_3 6 w3 (U_3 12 1)) 8 w3 ((U_3 8 w3) + 1)) 12 4 ((U_3 12 4) + 0)) 12 3 (bsL u 6)) 12 2 ((U_3 12 2) + 1)) 11), aR g an 5 ((up2 (up2 (up2 (up2 (up2 U_3 6 w3 (U_3 12 1)) 8 w3 ((U_3 8 w3) + 1)) 12 4 ((U_3 12 4) + 0)) 12 3 (bsL u 6)) 12 2 ((U_3 12 2) + 1)) 12), aR g al_1 6 u]) hx hb hK hW 4 0 (2) rfl rfl rfl (by omega) rfl rfl (by rw [show rT (up2 (up2 (up2 (up2 (up2 U_3 6 w3 (U_3 12 1)) 8 w3 ((U_3 8 w3) + 1)) 12 4 ((U_3 12 4) + 0)) 12 3 (bsL u 6)) 12 2 ((U_3 12 2) + 1)) = rT (up2 (up2 (up2 (up2 U_3 6 w3 (U_3 12 1)) 8 w3 ((U_3 8 w3) + 1)) 12 4 ((U_3 12 4) + 0)) 12 3 (bsL u 6)) from rT_ge (by decide)]; rfl) dL_turns_338 (fun H locs hW => ?_)
            have hP := hW.1
            exact aV_ret (B := [aR g at_ 54 (rT (up2 (up2 (up2 (up2 (up2 U_3 6 w3 (U_3 12 1)) 8 w3 ((U_3 8 w3) + 1)) 12 4 ((U_3 12 4) + 0)) 12 3 (bsL u 6)) 12 2 ((U_3 12 2) + 1))), aR g aw 30 ((up2 (up2 (up2 (up2 (up2 U_3 6 w3 (U_3 12 1)) 8 w3 ((U_3 8 w3) + 1)) 12 4 ((U_3 12 4) + 0)) 12 3 (bsL u 6)) 12 2 ((U_3 12 2) + 1)) 9), aR g ar 30 ((up2 (up2 (up2 (up2 (up2 U_3 6 w3 (U_3 12 1)) 8 w3 ((U_3 8 w3) + 1)) 12 4 ((U_3 12 4) + 0)) 12 3 (bsL u 6)) 12 2 ((U_3 12 2) + 1)) 10), aR g ag 30 ((up2 (up2 (up2 (up2 (up2 U_3 6 w3 (U_3 12 1)) 8 w3 ((U_3 8 w3) + 1)) 12 4 ((U_3 12 4) + 0)) 12 3 (bsL u 6)) 12 2 ((U_3 12 2) + 1)) 11), aR g an 5 ((up2 (up2 (up2 (up2 (up2 U_3 6 w3 (U_3 12 1)) 8 w3 ((U_3 8 w3) + 1)) 12 4 ((U_3 12 4) + 0)) 12 3 (bsL u 6)) 12 2 ((U_3 12 2) + 1)) 12)]) () [aR g al_1 6 u] hsz hW hx hb hr hlocks dL_turns_339 trivial (by rw [show tuL V cq = tuU V cq u from by rw [hu], tuU, tuE]; first | (rw [if_pos hlt, ← hU_1, ← hU_2, ← hU_3]; done) | (rw [if_neg hlt, show (bsL u 6).toNatClampNeg = w3 from by rw [hwe3, nI_clamp (by omega)], ← hU_1, ← hU_2, ← hU_3]; done)) (adr2 (L := [[at_], [aw], [ar], [ag], [an]]) rfl rfl)
          · exact absurd (Int32.not_lt.mp hlt) h_7
      · refine lv_aload_n hx hb dL_turns_238 rfl (lv_at hl 0 rfl) ?_
        refine lv_bipush (v := 9) hx hb dL_turns_239 (by decide) ?_
        refine lv_iload hx hb dL_turns_241 (lv_at hl 7 rfl) ?_
        refine lv_imul hx hb dL_turns_243 ?_
        refine b_top (y := nI (9 * k)) (pk_mul 9 k) ?_
        refine lv_bipush (v := 6) hx hb dL_turns_244 (by decide) ?_
        refine lv_iadd hx hb dL_turns_246 ?_
        refine b_top (y := nI ((9 * k) + 6)) (nI_add (9 * k) 6) ?_
        refine lv_dup2_11 hx hb dL_turns_247 rfl rfl ?_
        refine b_iald (v := (l3L U_2 k) 6 k) hx hb hK hP 0 0 ((9 * k) + 6) rfl rfl rfl (by omega) rfl ((rT_at _ (by omega)).trans rfl) dL_turns_248 ?_
        refine lv_aload_n hx hb dL_turns_249 rfl (lv_at hl 0 rfl) ?_
        refine lv_bipush (v := 9) hx hb dL_turns_250 (by decide) ?_
        refine lv_iload hx hb dL_turns_252 (lv_at hl 7 rfl) ?_
        refine lv_imul hx hb dL_turns_254 ?_
        refine b_top (y := nI (9 * k)) (pk_mul 9 k) ?_
        refine lv_bipush (v := 6) hx hb dL_turns_255 (by decide) ?_
        refine lv_iadd hx hb dL_turns_257 ?_
        refine b_top (y := nI ((9 * k) + 6)) (nI_add (9 * k) 6) ?_
        refine b_iald (v := (l3L U_2 k) 6 k) hx hb hK hP 0 0 ((9 * k) + 6) rfl rfl rfl (by omega) rfl ((rT_at _ (by omega)).trans rfl) dL_turns_258 ?_
        refine lv_if_le (tgt := 266) hx hb dL_turns_259 (by decide) (fun h_8 => ?_) (fun h_8 => ?_)
        · refine lv_iconst (v := 0) hx hb dL_turns_266 (by decide) ?_
          refine lv_isub hx hb dL_turns_267 ?_
          refine b_iastE (B' := [aR g at_ 54 (rT (up2 (l3L U_2 k) 6 k (((l3L U_2 k) 6 k) - 0))), aR g aw 30 ((up2 (l3L U_2 k) 6 k (((l3L U_2 k) 6 k) - 0)) 9), aR g ar 30 ((up2 (l3L U_2 k) 6 k (((l3L U_2 k) 6 k) - 0)) 10), aR g ag 30 ((up2 (l3L U_2 k) 6 k (((l3L U_2 k) 6 k) - 0)) 11), aR g an 5 ((up2 (l3L U_2 k) 6 k (((l3L U_2 k) 6 k) - 0)) 12), aR g al_1 6 u]) hx hb hK hW 0 0 ((9 * k) + 6) rfl rfl rfl (by omega) rfl (rT_put _ (by omega) _) rfl dL_turns_268 (fun H locs hW => ?_)
          have hP := hW.1
          refine lv_iinc (v := nI (k + 1)) (lv' := [(7, .int (nI (k + 1))), (0, .ref at_), (1, .ref aw), (2, .ref ar), (3, .ref ag), (4, .ref an), (5, .ref al_1), (6, .int (bsL u 6))]) hx hb dL_turns_269 hl (k := 7) rfl (nI_add k 1) (by decide) rfl (fun ls hl => ?_)
          refine lv_goto (tgt := 231) hx hb dL_turns_272 (by decide) ?_
          have e_9 : ([aR g at_ 54 (rT (l3L U_2 (k + 1))), aR g aw 30 ((l3L U_2 (k + 1)) 9), aR g ar 30 ((l3L U_2 (k + 1)) 10), aR g ag 30 ((l3L U_2 (k + 1)) 11), aR g an 5 ((l3L U_2 (k + 1)) 12), aR g al_1 6 u] : List va_W) = [aR g at_ 54 (rT (up2 (l3L U_2 k) 6 k (((l3L U_2 k) 6 k) - 0))), aR g aw 30 ((up2 (l3L U_2 k) 6 k (((l3L U_2 k) 6 k) - 0)) 9), aR g ar 30 ((up2 (l3L U_2 k) 6 k (((l3L U_2 k) 6 k) - 0)) 10), aR g ag 30 ((up2 (l3L U_2 k) 6 k (((l3L U_2 k) 6 k) - 0)) 11), aR g an 5 ((up2 (l3L U_2 k) 6 k (((l3L U_2 k) 6 k) - 0)) 12), aR g al_1 6 u] := by rw [l3L]; simp only [h_2, h_3, h_4, h_8, not_true_eq_false, not_false_eq_true, ite_true, ite_false, reduceIte]
          exact ih_k (by omega)  _ _ _ (by rw [e_9]; exact hW) (lv_sub hl [1, 2, 3, 4, 5, 6, 7, 0] rfl) 
        · refine lv_iconst (v := 1) hx hb dL_turns_262 (by decide) ?_
          refine lv_goto (tgt := 267) hx hb dL_turns_263 (by decide) ?_
          refine lv_isub hx hb dL_turns_267 ?_
          refine b_iastE (B' := [aR g at_ 54 (rT (up2 (l3L U_2 k) 6 k (((l3L U_2 k) 6 k) - 1))), aR g aw 30 ((up2 (l3L U_2 k) 6 k (((l3L U_2 k) 6 k) - 1)) 9), aR g ar 30 ((up2 (l3L U_2 k) 6 k (((l3L U_2 k) 6 k) - 1)) 10), aR g ag 30 ((up2 (l3L U_2 k) 6 k (((l3L U_2 k) 6 k) - 1)) 11), aR g an 5 ((up2 (l3L U_2 k) 6 k (((l3L U_2 k) 6 k) - 1)) 12), aR g al_1 6 u]) hx hb hK hW 0 0 ((9 * k) + 6) rfl rfl rfl (by omega) rfl (rT_put _ (by omega) _) rfl dL_turns_268 (fun H locs hW => ?_)
          have hP := hW.1
          refine lv_iinc (v := nI (k + 1)) (lv' := [(7, .int (nI (k + 1))), (0, .ref at_), (1, .ref aw), (2, .ref ar), (3, .ref ag), (4, .ref an), (5, .ref al_1), (6, .int (bsL u 6))]) hx hb dL_turns_269 hl (k := 7) rfl (nI_add k 1) (by decide) rfl (fun ls hl => ?_)
          refine lv_goto (tgt := 231) hx hb dL_turns_272 (by decide) ?_
          have e_10 : ([aR g at_ 54 (rT (l3L U_2 (k + 1))), aR g aw 30 ((l3L U_2 (k + 1)) 9), aR g ar 30 ((l3L U_2 (k + 1)) 10), aR g ag 30 ((l3L U_2 (k + 1)) 11), aR g an 5 ((l3L U_2 (k + 1)) 12), aR g al_1 6 u] : List va_W) = [aR g at_ 54 (rT (up2 (l3L U_2 k) 6 k (((l3L U_2 k) 6 k) - 1))), aR g aw 30 ((up2 (l3L U_2 k) 6 k (((l3L U_2 k) 6 k) - 1)) 9), aR g ar 30 ((up2 (l3L U_2 k) 6 k (((l3L U_2 k) 6 k) - 1)) 10), aR g ag 30 ((up2 (l3L U_2 k) 6 k (((l3L U_2 k) 6 k) - 1)) 11), aR g an 5 ((up2 (l3L U_2 k) 6 k (((l3L U_2 k) 6 k) - 1)) 12), aR g al_1 6 u] := by rw [l3L]; simp only [h_2, h_3, h_4, h_8, not_true_eq_false, not_false_eq_true, ite_true, ite_false, reduceIte]
          exact ih_k (by omega)  _ _ _ (by rw [e_10]; exact hW) (lv_sub hl [1, 2, 3, 4, 5, 6, 7, 0] rfl) 
    · refine lv_aload_n hx hb dL_turns_112 rfl (lv_at hl 0 rfl) ?_
      refine lv_aload_n hx hb dL_turns_113 rfl (lv_at hl 1 rfl) ?_
      refine lv_aload_n hx hb dL_turns_114 rfl (lv_at hl 2 rfl) ?_
      refine lv_aload hx hb dL_turns_115 (lv_at hl 4 rfl) ?_
      refine lv_iload hx hb dL_turns_117 (lv_at hl 7 rfl) ?_
      refine lv_aload_n hx hb dL_turns_119 rfl (lv_at hl 0 rfl) ?_
      refine lv_bipush (v := 9) hx hb dL_turns_120 (by decide) ?_
      refine lv_iload hx hb dL_turns_122 (lv_at hl 7 rfl) ?_
      refine lv_imul hx hb dL_turns_124 ?_
      refine b_top (y := nI (9 * k)) (pk_mul 9 k) ?_
      refine lv_iconst (v := 4) hx hb dL_turns_125 (by decide) ?_
      refine lv_iadd hx hb dL_turns_126 ?_
      refine b_top (y := nI ((9 * k) + 4)) (nI_add (9 * k) 4) ?_
      refine b_iald (v := (l2L U_1 cq k) 4 k) hx hb hK hP 0 0 ((9 * k) + 4) rfl rfl rfl (by omega) rfl ((rT_at _ (by omega)).trans rfl) dL_turns_127 ?_
      refine call_SR (As := [.ref at_, .ref aw, .ref ar, .ref an, .int (nI k), .int ((l2L U_1 cq k) 4 k)]) (rest := []) E rfl hK hP (c_L_rings l g at_ aw ar an (l2L U_1 cq k) k ((l2L U_1 cq k) 4 k) (by omega) (cq k) (by first | exact (hc _ (by omega)).1 | exact (l2L_k U_1 cq (by decide) (by decide) (by decide) _ k).trans ((congrFun (congrFun hU_1 3) _).trans ((tpL_k V u (by decide) _ 6).trans (hc _ (by omega)).1))) (hc _ (by omega)).2) ok_L_rings rfl q1_201 [0, 1, 2, 4] rfl ⟨⟨rfl, rfl⟩, Nat.le_of_ble_eq_true rfl, Nat.le_of_ble_eq_true rfl⟩ hl.1 (Nat.le_of_ble_eq_true rfl) ⟨Nat.le_of_ble_eq_true rfl, Nat.le_of_ble_eq_true rfl⟩ rfl dL_turns_128 ?_
      obtain ⟨bs, hbs⟩ : ∃ z, z = (rgL (l2L U_1 cq k) k ((l2L U_1 cq k) 4 k) (cq k)).1 := ⟨_, rfl⟩
      refine b_top (y := bs) hbs.symm ?_
      refine lv_istore (lv' := [(8, .int bs), (0, .ref at_), (1, .ref aw), (2, .ref ar), (3, .ref ag), (4, .ref an), (5, .ref al_1), (6, .int (bsL u 6)), (7, .int (nI k))]) hx hb dL_turns_131 hl (by decide) rfl (fun ls hl => ?_)
      refine lv_iconst (v := 0) hx hb dL_turns_133 (by decide) ?_
      refine lv_istore (lv' := [(9, .int 0), (8, .int bs), (0, .ref at_), (1, .ref aw), (2, .ref ar), (3, .ref ag), (4, .ref an), (5, .ref al_1), (6, .int (bsL u 6)), (7, .int (nI k))]) hx hb dL_turns_134 hl (by decide) rfl (fun ls hl => ?_)
      refine lv_iconst (v := 0) hx hb dL_turns_136 (by decide) ?_
      refine lv_istore (lv' := [(10, .int 0), (9, .int 0), (8, .int bs), (0, .ref at_), (1, .ref aw), (2, .ref ar), (3, .ref ag), (4, .ref an), (5, .ref al_1), (6, .int (bsL u 6)), (7, .int (nI k))]) hx hb dL_turns_137 hl (by decide) rfl (fun ls hl => ?_)
      refine loopN (fun i : Nat => ∀ (H : Heap) (locs : List Loc) (ls : Array Slot), wd g (frN [aR g at_ 54 (rT V), aR g aw 30 (V 9), aR g ar 30 (V 10), aR g ag 30 (V 11), aR g an 5 (V 12)] sz) s.heap [aR g at_ 54 (rT ((wrL (l2L U_1 cq k) k bs i).1)), aR g aw 30 (((wrL (l2L U_1 cq k) k bs i).1) 9), aR g ar 30 (((wrL (l2L U_1 cq k) k bs i).1) 10), aR g ag 30 (((wrL (l2L U_1 cq k) k bs i).1) 11), aR g an 5 (((wrL (l2L U_1 cq k) k bs i).1) 12), aR g al_1 6 u] H locs → lv_has ls 12 [(0, .ref at_), (1, .ref aw), (2, .ref ar), (3, .ref ag), (4, .ref an), (5, .ref al_1), (6, .int (bsL u 6)), (7, .int (nI k)), (8, .int bs), (9, .int ((wrL (l2L U_1 cq k) k bs i).2)), (10, .int (nI i))] → W p l e _ s m _ below meth c H locs (1) (6) _ (F0 m 139 ls [])) (5) (fun i hii ih_i => ?_) (0) (by omega)  H locs ls hW (lv_sub hl [3, 4, 5, 6, 7, 8, 9, 10, 2, 1, 0] rfl) 
      intro  H locs ls hW hl 
      have hP := hW.1
      refine lv_iload hx hb dL_turns_139 (lv_at hl 10 rfl) ?_
      refine lv_iconst (v := 5) hx hb dL_turns_141 (by decide) ?_
      refine b_ge (tgt := 209) (i) (5) hx hb rfl rfl (by omega) (by omega) dL_turns_142 (by decide) (fun h_11 => ?_) (fun h_11 => ?_)
      · obtain rfl : i = 5 := by omega
        obtain ⟨U_9, hU_9⟩ : ∃ z, z = (wrL (l2L U_1 cq k) k bs 5).1 := ⟨_, rfl⟩
        rw [← hU_9] at hW
        have hP := hW.1
        refine lv_aload_n hx hb dL_turns_209 rfl (lv_at hl 0 rfl) ?_
        refine lv_bipush (v := 9) hx hb dL_turns_210 (by decide) ?_
        refine lv_iload hx hb dL_turns_212 (lv_at hl 7 rfl) ?_
        refine lv_imul hx hb dL_turns_214 ?_
        refine b_top (y := nI (9 * k)) (pk_mul 9 k) ?_
        refine lv_iconst (v := 2) hx hb dL_turns_215 (by decide) ?_
        refine lv_iadd hx hb dL_turns_216 ?_
        refine b_top (y := nI ((9 * k) + 2)) (nI_add (9 * k) 2) ?_
        refine lv_iload hx hb dL_turns_217 (lv_at hl 9 rfl) ?_
        refine lv_iconst (v := 2) hx hb dL_turns_219 (by decide) ?_
        refine lv_idiv hx hb dL_turns_220 (by decide) ?_
        refine b_iastE (B' := [aR g at_ 54 (rT (up2 U_9 2 k (((wrL (l2L U_1 cq k) k bs 5).2) / 2))), aR g aw 30 ((up2 U_9 2 k (((wrL (l2L U_1 cq k) k bs 5).2) / 2)) 9), aR g ar 30 ((up2 U_9 2 k (((wrL (l2L U_1 cq k) k bs 5).2) / 2)) 10), aR g ag 30 ((up2 U_9 2 k (((wrL (l2L U_1 cq k) k bs 5).2) / 2)) 11), aR g an 5 ((up2 U_9 2 k (((wrL (l2L U_1 cq k) k bs 5).2) / 2)) 12), aR g al_1 6 u]) hx hb hK hW 0 0 ((9 * k) + 2) rfl rfl rfl (by omega) rfl (rT_put _ (by omega) _) rfl dL_turns_221 (fun H locs hW => ?_)
        have hP := hW.1
        refine lv_iinc (v := nI (k + 1)) (lv' := [(7, .int (nI (k + 1))), (0, .ref at_), (1, .ref aw), (2, .ref ar), (3, .ref ag), (4, .ref an), (5, .ref al_1), (6, .int (bsL u 6)), (8, .int bs), (9, .int ((wrL (l2L U_1 cq k) k bs 5).2)), (10, .int (nI 5))]) hx hb dL_turns_222 hl (k := 7) rfl (nI_add k 1) (by decide) rfl (fun ls hl => ?_)
        refine lv_goto (tgt := 105) hx hb dL_turns_225 (by decide) ?_
        have e_12 : ([aR g at_ 54 (rT (l2L U_1 cq (k + 1))), aR g aw 30 ((l2L U_1 cq (k + 1)) 9), aR g ar 30 ((l2L U_1 cq (k + 1)) 10), aR g ag 30 ((l2L U_1 cq (k + 1)) 11), aR g an 5 ((l2L U_1 cq (k + 1)) 12), aR g al_1 6 u] : List va_W) = [aR g at_ 54 (rT (up2 U_9 2 k (((wrL (l2L U_1 cq k) k bs 5).2) / 2))), aR g aw 30 ((up2 U_9 2 k (((wrL (l2L U_1 cq k) k bs 5).2) / 2)) 9), aR g ar 30 ((up2 U_9 2 k (((wrL (l2L U_1 cq k) k bs 5).2) / 2)) 10), aR g ag 30 ((up2 U_9 2 k (((wrL (l2L U_1 cq k) k bs 5).2) / 2)) 11), aR g an 5 ((up2 U_9 2 k (((wrL (l2L U_1 cq k) k bs 5).2) / 2)) 12), aR g al_1 6 u] := by rw [l2L, ← hbs, ← hU_9]
        exact ih_k (by omega)  _ _ _ (by rw [e_12]; exact hW) (lv_sub hl [1, 2, 3, 4, 5, 6, 7, 0] rfl) 
      · refine lv_iload hx hb dL_turns_145 (lv_at hl 8 rfl) ?_
        refine lv_iload hx hb dL_turns_147 (lv_at hl 10 rfl) ?_
        refine lv_ishr hx hb dL_turns_149 ?_
        refine lv_iconst (v := 1) hx hb dL_turns_150 (by decide) ?_
        refine lv_iand hx hb dL_turns_151 ?_
        refine lv_istore (lv' := [(11, .int ((bs >>> ((nI i) &&& 31)) &&& 1)), (0, .ref at_), (1, .ref aw), (2, .ref ar), (3, .ref ag), (4, .ref an), (5, .ref al_1), (6, .int (bsL u 6)), (7, .int (nI k)), (8, .int bs), (9, .int ((wrL (l2L U_1 cq k) k bs i).2)), (10, .int (nI i))]) hx hb dL_turns_152 hl (by decide) rfl (fun ls hl => ?_)
        refine lv_aload_n hx hb dL_turns_154 rfl (lv_at hl 3 rfl) ?_
        refine lv_iconst (v := 5) hx hb dL_turns_155 (by decide) ?_
        refine lv_iload hx hb dL_turns_156 (lv_at hl 8 rfl) ?_
        refine lv_imul hx hb dL_turns_158 ?_
        refine b_top (y := nI (5 * k)) (pk_mul 5 k) ?_
        refine lv_iload hx hb dL_turns_159 (lv_at hl 11 rfl) ?_
        refine lv_iadd hx hb dL_turns_161 ?_
        refine b_top (y := nI ((5 * k) + i)) (nI_add (5 * k) i) ?_
        refine lv_dup2_11 hx hb dL_turns_162 rfl rfl ?_
        refine b_iald (v := (wrL (l2L U_1 cq k) k bs i).1 10 (k * 5 + i)) hx hb hK hP 2 0 ((5 * k) + i) rfl rfl rfl (by omega) rfl ((congrArg (((wrL (l2L U_1 cq k) k bs i).1) 10) (show (5 * k) + i = k * 5 + i by omega)).trans rfl) dL_turns_163 ?_
        refine lv_iload hx hb dL_turns_164 (lv_at hl 0 rfl) ?_
        refine lv_iadd hx hb dL_turns_166 ?_
        refine b_iastE (B' := [aR g at_ 54 (rT (up2 ((wrL (l2L U_1 cq k) k bs i).1) 10 (k * 5 + i) (((wrL (l2L U_1 cq k) k bs i).1 10 (k * 5 + i)) + ((bs >>> ((nI i) &&& 31)) &&& 1)))), aR g aw 30 ((up2 ((wrL (l2L U_1 cq k) k bs i).1) 10 (k * 5 + i) (((wrL (l2L U_1 cq k) k bs i).1 10 (k * 5 + i)) + ((bs >>> ((nI i) &&& 31)) &&& 1))) 9), aR g ar 30 ((up2 ((wrL (l2L U_1 cq k) k bs i).1) 10 (k * 5 + i) (((wrL (l2L U_1 cq k) k bs i).1 10 (k * 5 + i)) + ((bs >>> ((nI i) &&& 31)) &&& 1))) 10), aR g ag 30 ((up2 ((wrL (l2L U_1 cq k) k bs i).1) 10 (k * 5 + i) (((wrL (l2L U_1 cq k) k bs i).1 10 (k * 5 + i)) + ((bs >>> ((nI i) &&& 31)) &&& 1))) 11), aR g an 5 ((up2 ((wrL (l2L U_1 cq k) k bs i).1) 10 (k * 5 + i) (((wrL (l2L U_1 cq k) k bs i).1 10 (k * 5 + i)) + ((bs >>> ((nI i) &&& 31)) &&& 1))) 12), aR g al_1 6 u]) hx hb hK hW 2 0 ((5 * k) + i) rfl rfl rfl (by omega) rfl (r5_put _ _ _ _ _) (by rw [show rT (up2 ((wrL (l2L U_1 cq k) k bs i).1) 10 (k * 5 + i) (((wrL (l2L U_1 cq k) k bs i).1 10 (k * 5 + i)) + ((bs >>> ((nI i) &&& 31)) &&& 1))) = rT ((wrL (l2L U_1 cq k) k bs i).1) from rT_ge (by decide)]; rfl) dL_turns_167 (fun H locs hW => ?_)
        have hP := hW.1
        refine lv_aload_n hx hb dL_turns_168 rfl (lv_at hl 4 rfl) ?_
        refine lv_iconst (v := 5) hx hb dL_turns_169 (by decide) ?_
        refine lv_iload hx hb dL_turns_170 (lv_at hl 8 rfl) ?_
        refine lv_imul hx hb dL_turns_172 ?_
        refine b_top (y := nI (5 * k)) (pk_mul 5 k) ?_
        refine lv_iload hx hb dL_turns_173 (lv_at hl 11 rfl) ?_
        refine lv_iadd hx hb dL_turns_175 ?_
        refine b_top (y := nI ((5 * k) + i)) (nI_add (5 * k) i) ?_
        refine lv_dup2_11 hx hb dL_turns_176 rfl rfl ?_
        refine b_iald (v := ((wrL (l2L U_1 cq k) k bs i).1) 11 (k * 5 + i)) hx hb hK hP 3 0 ((5 * k) + i) rfl rfl rfl (by omega) rfl ((congrArg ((up2 ((wrL (l2L U_1 cq k) k bs i).1) 10 (k * 5 + i) (((wrL (l2L U_1 cq k) k bs i).1 10 (k * 5 + i)) + ((bs >>> ((nI i) &&& 31)) &&& 1))) 11) (show (5 * k) + i = k * 5 + i by omega)).trans rfl) dL_turns_177 ?_
        refine lv_iload hx hb dL_turns_178 (lv_at hl 0 rfl) ?_
        refine lv_iadd hx hb dL_turns_180 ?_
        refine b_iastE (B' := [aR g at_ 54 (rT (up2 (up2 ((wrL (l2L U_1 cq k) k bs i).1) 10 (k * 5 + i) (((wrL (l2L U_1 cq k) k bs i).1 10 (k * 5 + i)) + ((bs >>> ((nI i) &&& 31)) &&& 1))) 11 (k * 5 + i) ((((wrL (l2L U_1 cq k) k bs i).1) 11 (k * 5 + i)) + ((bs >>> ((nI i) &&& 31)) &&& 1)))), aR g aw 30 ((up2 (up2 ((wrL (l2L U_1 cq k) k bs i).1) 10 (k * 5 + i) (((wrL (l2L U_1 cq k) k bs i).1 10 (k * 5 + i)) + ((bs >>> ((nI i) &&& 31)) &&& 1))) 11 (k * 5 + i) ((((wrL (l2L U_1 cq k) k bs i).1) 11 (k * 5 + i)) + ((bs >>> ((nI i) &&& 31)) &&& 1))) 9), aR g ar 30 ((up2 (up2 ((wrL (l2L U_1 cq k) k bs i).1) 10 (k * 5 + i) (((wrL (l2L U_1 cq k) k bs i).1 10 (k * 5 + i)) + ((bs >>> ((nI i) &&& 31)) &&& 1))) 11 (k * 5 + i) ((((wrL (l2L U_1 cq k) k bs i).1) 11 (k * 5 + i)) + ((bs >>> ((nI i) &&& 31)) &&& 1))) 10), aR g ag 30 ((up2 (up2 ((wrL (l2L U_1 cq k) k bs i).1) 10 (k * 5 + i) (((wrL (l2L U_1 cq k) k bs i).1 10 (k * 5 + i)) + ((bs >>> ((nI i) &&& 31)) &&& 1))) 11 (k * 5 + i) ((((wrL (l2L U_1 cq k) k bs i).1) 11 (k * 5 + i)) + ((bs >>> ((nI i) &&& 31)) &&& 1))) 11), aR g an 5 ((up2 (up2 ((wrL (l2L U_1 cq k) k bs i).1) 10 (k * 5 + i) (((wrL (l2L U_1 cq k) k bs i).1 10 (k * 5 + i)) + ((bs >>> ((nI i) &&& 31)) &&& 1))) 11 (k * 5 + i) ((((wrL (l2L U_1 cq k) k bs i).1) 11 (k * 5 + i)) + ((bs >>> ((nI i) &&& 31)) &&& 1))) 12), aR g al_1 6 u]) hx hb hK hW 3 0 ((5 * k) + i) rfl rfl rfl (by omega) rfl (r5_put _ _ _ _ _) (by rw [show rT (up2 (up2 ((wrL (l2L U_1 cq k) k bs i).1) 10 (k * 5 + i) (((wrL (l2L U_1 cq k) k bs i).1 10 (k * 5 + i)) + ((bs >>> ((nI i) &&& 31)) &&& 1))) 11 (k * 5 + i) ((((wrL (l2L U_1 cq k) k bs i).1) 11 (k * 5 + i)) + ((bs >>> ((nI i) &&& 31)) &&& 1))) = rT (up2 ((wrL (l2L U_1 cq k) k bs i).1) 10 (k * 5 + i) (((wrL (l2L U_1 cq k) k bs i).1 10 (k * 5 + i)) + ((bs >>> ((nI i) &&& 31)) &&& 1))) from rT_ge (by decide)]; rfl) dL_turns_181 (fun H locs hW => ?_)
        have hP := hW.1
        refine lv_iload hx hb dL_turns_182 (lv_at hl 10 rfl) ?_
        refine lv_iload hx hb dL_turns_184 (lv_at hl 0 rfl) ?_
        refine lv_aload_n hx hb dL_turns_186 rfl (lv_at hl 2 rfl) ?_
        refine lv_iconst (v := 5) hx hb dL_turns_187 (by decide) ?_
        refine lv_iload hx hb dL_turns_188 (lv_at hl 8 rfl) ?_
        refine lv_imul hx hb dL_turns_190 ?_
        refine b_top (y := nI (5 * k)) (pk_mul 5 k) ?_
        refine lv_iload hx hb dL_turns_191 (lv_at hl 11 rfl) ?_
        refine lv_iadd hx hb dL_turns_193 ?_
        refine b_top (y := nI ((5 * k) + i)) (nI_add (5 * k) i) ?_
        refine b_iald (v := ((wrL (l2L U_1 cq k) k bs i).1) 9 (k * 5 + i)) hx hb hK hP 1 0 ((5 * k) + i) rfl rfl rfl (by omega) rfl ((congrArg ((up2 (up2 ((wrL (l2L U_1 cq k) k bs i).1) 10 (k * 5 + i) (((wrL (l2L U_1 cq k) k bs i).1 10 (k * 5 + i)) + ((bs >>> ((nI i) &&& 31)) &&& 1))) 11 (k * 5 + i) ((((wrL (l2L U_1 cq k) k bs i).1) 11 (k * 5 + i)) + ((bs >>> ((nI i) &&& 31)) &&& 1))) 9) (show (5 * k) + i = k * 5 + i by omega)).trans rfl) dL_turns_194 ?_
        refine lv_iconst (v := 1) hx hb dL_turns_195 (by decide) ?_
        refine lv_iadd hx hb dL_turns_196 ?_
        refine lv_iconst (v := 2) hx hb dL_turns_197 (by decide) ?_
        refine lv_idiv hx hb dL_turns_198 (by decide) ?_
        refine lv_imul hx hb dL_turns_199 ?_
        refine lv_iadd hx hb dL_turns_200 ?_
        refine lv_istore (lv' := [(9, .int (((wrL (l2L U_1 cq k) k bs i).2) + (((bs >>> ((nI i) &&& 31)) &&& 1) * (((((wrL (l2L U_1 cq k) k bs i).1) 9 (k * 5 + i)) + 1) / 2)))), (11, .int ((bs >>> ((nI i) &&& 31)) &&& 1)), (0, .ref at_), (1, .ref aw), (2, .ref ar), (3, .ref ag), (4, .ref an), (5, .ref al_1), (6, .int (bsL u 6)), (7, .int (nI k)), (8, .int bs), (10, .int (nI i))]) hx hb dL_turns_201 hl (by decide) rfl (fun ls hl => ?_)
        refine lv_iinc (v := nI (i + 1)) (lv' := [(10, .int (nI (i + 1))), (9, .int (((wrL (l2L U_1 cq k) k bs i).2) + (((bs >>> ((nI i) &&& 31)) &&& 1) * (((((wrL (l2L U_1 cq k) k bs i).1) 9 (k * 5 + i)) + 1) / 2)))), (11, .int ((bs >>> ((nI i) &&& 31)) &&& 1)), (0, .ref at_), (1, .ref aw), (2, .ref ar), (3, .ref ag), (4, .ref an), (5, .ref al_1), (6, .int (bsL u 6)), (7, .int (nI k)), (8, .int bs)]) hx hb dL_turns_203 hl (k := 11) rfl (nI_add i 1) (by decide) rfl (fun ls hl => ?_)
        refine lv_goto (tgt := 139) hx hb dL_turns_206 (by decide) ?_
        have e_13 : (wrL (l2L U_1 cq k) k bs (i + 1)).2 = ((wrL (l2L U_1 cq k) k bs i).2) + (((bs >>> ((nI i) &&& 31)) &&& 1) * (((((wrL (l2L U_1 cq k) k bs i).1) 9 (k * 5 + i)) + 1) / 2)) := rfl
        have e_14 : ([aR g at_ 54 (rT ((wrL (l2L U_1 cq k) k bs (i + 1)).1)), aR g aw 30 (((wrL (l2L U_1 cq k) k bs (i + 1)).1) 9), aR g ar 30 (((wrL (l2L U_1 cq k) k bs (i + 1)).1) 10), aR g ag 30 (((wrL (l2L U_1 cq k) k bs (i + 1)).1) 11), aR g an 5 (((wrL (l2L U_1 cq k) k bs (i + 1)).1) 12), aR g al_1 6 u] : List va_W) = [aR g at_ 54 (rT (up2 (up2 ((wrL (l2L U_1 cq k) k bs i).1) 10 (k * 5 + i) (((wrL (l2L U_1 cq k) k bs i).1 10 (k * 5 + i)) + ((bs >>> ((nI i) &&& 31)) &&& 1))) 11 (k * 5 + i) ((((wrL (l2L U_1 cq k) k bs i).1) 11 (k * 5 + i)) + ((bs >>> ((nI i) &&& 31)) &&& 1)))), aR g aw 30 ((up2 (up2 ((wrL (l2L U_1 cq k) k bs i).1) 10 (k * 5 + i) (((wrL (l2L U_1 cq k) k bs i).1 10 (k * 5 + i)) + ((bs >>> ((nI i) &&& 31)) &&& 1))) 11 (k * 5 + i) ((((wrL (l2L U_1 cq k) k bs i).1) 11 (k * 5 + i)) + ((bs >>> ((nI i) &&& 31)) &&& 1))) 9), aR g ar 30 ((up2 (up2 ((wrL (l2L U_1 cq k) k bs i).1) 10 (k * 5 + i) (((wrL (l2L U_1 cq k) k bs i).1 10 (k * 5 + i)) + ((bs >>> ((nI i) &&& 31)) &&& 1))) 11 (k * 5 + i) ((((wrL (l2L U_1 cq k) k bs i).1) 11 (k * 5 + i)) + ((bs >>> ((nI i) &&& 31)) &&& 1))) 10), aR g ag 30 ((up2 (up2 ((wrL (l2L U_1 cq k) k bs i).1) 10 (k * 5 + i) (((wrL (l2L U_1 cq k) k bs i).1 10 (k * 5 + i)) + ((bs >>> ((nI i) &&& 31)) &&& 1))) 11 (k * 5 + i) ((((wrL (l2L U_1 cq k) k bs i).1) 11 (k * 5 + i)) + ((bs >>> ((nI i) &&& 31)) &&& 1))) 11), aR g an 5 ((up2 (up2 ((wrL (l2L U_1 cq k) k bs i).1) 10 (k * 5 + i) (((wrL (l2L U_1 cq k) k bs i).1 10 (k * 5 + i)) + ((bs >>> ((nI i) &&& 31)) &&& 1))) 11 (k * 5 + i) ((((wrL (l2L U_1 cq k) k bs i).1) 11 (k * 5 + i)) + ((bs >>> ((nI i) &&& 31)) &&& 1))) 12), aR g al_1 6 u] := rfl
        exact ih_i (by omega)  _ _ _ (by rw [e_14]; exact hW) (by rw [e_13]; exact lv_sub hl [3, 4, 5, 6, 7, 8, 9, 10, 11, 1, 0] rfl) 
  · refine lv_aload hx hb dL_turns_30 (lv_at hl 5 rfl) ?_
    refine lv_iload hx hb dL_turns_32 (lv_at hl 7 rfl) ?_
    refine b_iald (v := u k) hx hb hK hP 5 0 (k) rfl rfl rfl (by omega) rfl rfl dL_turns_34 ?_
    refine lv_if_le (tgt := 61) hx hb dL_turns_35 (by decide) (fun h_15 => ?_) (fun h_15 => ?_)
    · refine lv_iload hx hb dL_turns_61 (lv_at hl 6 rfl) ?_
      refine lv_istore (lv' := [(6, .int (bsL u k)), (0, .ref at_), (1, .ref aw), (2, .ref ar), (3, .ref ag), (4, .ref an), (5, .ref al_1), (7, .int (nI k))]) hx hb dL_turns_63 hl (by decide) rfl (fun ls hl => ?_)
      refine lv_aload_n hx hb dL_turns_65 rfl (lv_at hl 1 rfl) ?_
      refine lv_aload hx hb dL_turns_66 (lv_at hl 5 rfl) ?_
      refine lv_aload hx hb dL_turns_68 (lv_at hl 6 rfl) ?_
      refine lv_iload hx hb dL_turns_70 (lv_at hl 7 rfl) ?_
      refine call_SR (As := [.ref at_, .ref an, .ref al_1, .int (nI k)]) (rest := []) E rfl hK hP (c_L_wins l g at_ an al_1 (tpL V u k) u k (by omega)) ok_L_wins rfl q2_61 [0, 4, 5] rfl ⟨⟨rfl, rfl⟩, Nat.le_of_ble_eq_true rfl, Nat.le_of_ble_eq_true rfl⟩ hl.1 (Nat.le_of_ble_eq_true rfl) ⟨Nat.le_of_ble_eq_true rfl, Nat.le_of_ble_eq_true rfl⟩ rfl dL_turns_72 ?_
      refine lv_istore (lv' := [(8, .int (wnL (tpL V u k) u k 6)), (6, .int (bsL u k)), (0, .ref at_), (1, .ref aw), (2, .ref ar), (3, .ref ag), (4, .ref an), (5, .ref al_1), (7, .int (nI k))]) hx hb dL_turns_75 hl (by decide) rfl (fun ls hl => ?_)
      refine lv_iload hx hb dL_turns_77 (lv_at hl 0 rfl) ?_
      refine lv_if_lt (tgt := 96) hx hb dL_turns_79 (by decide) (fun h_16 => ?_) (fun h_16 => ?_)
      · refine lv_iinc (v := nI (k + 1)) (lv' := [(7, .int (nI (k + 1))), (8, .int (wnL (tpL V u k) u k 6)), (6, .int (bsL u k)), (0, .ref at_), (1, .ref aw), (2, .ref ar), (3, .ref ag), (4, .ref an), (5, .ref al_1)]) hx hb dL_turns_96 hl (k := 8) rfl (nI_add k 1) (by decide) rfl (fun ls hl => ?_)
        refine lv_goto (tgt := 23) hx hb dL_turns_99 (by decide) ?_
        have e_17 : bsL u (k + 1) = bsL u k := by rw [bsL]; first | (rw [if_pos h_15]; done) | (rw [if_pos h_16]; done) | (rw [if_neg h_2, if_pos h_15]; done) | (rw [if_neg NOPATH, if_neg h_2, hwe, nI_clamp (by omega), if_pos h_15]; done) | (rw [if_neg NOPATH, if_neg h_2, hwe, nI_clamp (by omega), if_neg h_15]; done)
        have e_18 : ([aR g at_ 54 (rT (tpL V u (k + 1))), aR g aw 30 ((tpL V u (k + 1)) 9), aR g ar 30 ((tpL V u (k + 1)) 10), aR g ag 30 ((tpL V u (k + 1)) 11), aR g an 5 ((tpL V u (k + 1)) 12), aR g al_1 6 u] : List va_W) = [aR g at_ 54 (rT (tpL V u k)), aR g aw 30 ((tpL V u k) 9), aR g ar 30 ((tpL V u k) 10), aR g ag 30 ((tpL V u k) 11), aR g an 5 ((tpL V u k) 12), aR g al_1 6 u] := by rw [tpL]; first | (rw [if_pos h_16]; done) | (rw [if_neg hwn, hwe2, nI_clamp (by omega)]; done)
        exact ih_k (by omega)  _ _ _ (by rw [e_18]; exact hW) (by rw [e_17]; exact lv_sub hl [3, 4, 5, 6, 7, 8, 2, 0] rfl) 
      · obtain ⟨w2, hw2, hwe2⟩ := (wnL_rng (tpL V u k) u k 6 (by omega)).resolve_left (fun q9 => h_16 (by rw [q9]; exact m5_lt))
        have hwn := h_16
        refine lv_aload_n hx hb dL_turns_82 rfl (lv_at hl 2 rfl) ?_
        refine lv_bipush (v := 9) hx hb dL_turns_83 (by decide) ?_
        refine lv_iload hx hb dL_turns_85 (lv_at hl 0 rfl) ?_
        refine b_top (y := nI w2) hwe2 ?_
        refine lv_imul hx hb dL_turns_87 ?_
        refine b_top (y := nI (9 * w2)) (pk_mul 9 w2) ?_
        refine lv_bipush (v := 7) hx hb dL_turns_88 (by decide) ?_
        refine lv_iadd hx hb dL_turns_90 ?_
        refine b_top (y := nI ((9 * w2) + 7)) (nI_add (9 * w2) 7) ?_
        refine lv_dup2_11 hx hb dL_turns_91 rfl rfl ?_
        refine b_iald (v := (tpL V u k) 7 w2) hx hb hK hP 0 0 ((9 * w2) + 7) rfl rfl rfl (by omega) rfl ((rT_at _ (by omega)).trans rfl) dL_turns_92 ?_
        refine lv_iconst (v := 1) hx hb dL_turns_93 (by decide) ?_
        refine lv_iadd hx hb dL_turns_94 ?_
        refine b_iastE (B' := [aR g at_ 54 (rT (up2 (tpL V u k) 7 w2 (((tpL V u k) 7 w2) + 1))), aR g aw 30 ((up2 (tpL V u k) 7 w2 (((tpL V u k) 7 w2) + 1)) 9), aR g ar 30 ((up2 (tpL V u k) 7 w2 (((tpL V u k) 7 w2) + 1)) 10), aR g ag 30 ((up2 (tpL V u k) 7 w2 (((tpL V u k) 7 w2) + 1)) 11), aR g an 5 ((up2 (tpL V u k) 7 w2 (((tpL V u k) 7 w2) + 1)) 12), aR g al_1 6 u]) hx hb hK hW 0 0 ((9 * w2) + 7) rfl rfl rfl (by omega) rfl (rT_put _ (by omega) _) rfl dL_turns_95 (fun H locs hW => ?_)
        have hP := hW.1
        refine lv_iinc (v := nI (k + 1)) (lv' := [(7, .int (nI (k + 1))), (8, .int (wnL (tpL V u k) u k 6)), (6, .int (bsL u k)), (0, .ref at_), (1, .ref aw), (2, .ref ar), (3, .ref ag), (4, .ref an), (5, .ref al_1)]) hx hb dL_turns_96 hl (k := 8) rfl (nI_add k 1) (by decide) rfl (fun ls hl => ?_)
        refine lv_goto (tgt := 23) hx hb dL_turns_99 (by decide) ?_
        have e_19 : bsL u (k + 1) = bsL u k := by rw [bsL]; first | (rw [if_pos h_15]; done) | (rw [if_pos h_16]; done) | (rw [if_neg h_2, if_pos h_15]; done) | (rw [if_neg NOPATH, if_neg h_2, hwe, nI_clamp (by omega), if_pos h_15]; done) | (rw [if_neg NOPATH, if_neg h_2, hwe, nI_clamp (by omega), if_neg h_15]; done)
        have e_20 : ([aR g at_ 54 (rT (tpL V u (k + 1))), aR g aw 30 ((tpL V u (k + 1)) 9), aR g ar 30 ((tpL V u (k + 1)) 10), aR g ag 30 ((tpL V u (k + 1)) 11), aR g an 5 ((tpL V u (k + 1)) 12), aR g al_1 6 u] : List va_W) = [aR g at_ 54 (rT (up2 (tpL V u k) 7 w2 (((tpL V u k) 7 w2) + 1))), aR g aw 30 ((up2 (tpL V u k) 7 w2 (((tpL V u k) 7 w2) + 1)) 9), aR g ar 30 ((up2 (tpL V u k) 7 w2 (((tpL V u k) 7 w2) + 1)) 10), aR g ag 30 ((up2 (tpL V u k) 7 w2 (((tpL V u k) 7 w2) + 1)) 11), aR g an 5 ((up2 (tpL V u k) 7 w2 (((tpL V u k) 7 w2) + 1)) 12), aR g al_1 6 u] := by rw [tpL]; first | (rw [if_pos h_16]; done) | (rw [if_neg hwn, hwe2, nI_clamp (by omega)]; done)
        exact ih_k (by omega)  _ _ _ (by rw [e_20]; exact hW) (by rw [e_19]; exact lv_sub hl [3, 4, 5, 6, 7, 8, 2, 0] rfl) 
    · refine lv_iload hx hb dL_turns_38 (lv_at hl 6 rfl) ?_
      refine lv_if_lt (tgt := 56) hx hb dL_turns_40 (by decide) (fun h_21 => ?_) (fun h_21 => ?_)
      · refine lv_iload hx hb dL_turns_56 (lv_at hl 7 rfl) ?_
        refine lv_goto (tgt := 63) hx hb dL_turns_58 (by decide) ?_
        refine lv_istore (lv' := [(6, .int (nI k)), (0, .ref at_), (1, .ref aw), (2, .ref ar), (3, .ref ag), (4, .ref an), (5, .ref al_1), (7, .int (nI k))]) hx hb dL_turns_63 hl (by decide) rfl (fun ls hl => ?_)
        refine lv_aload_n hx hb dL_turns_65 rfl (lv_at hl 1 rfl) ?_
        refine lv_aload hx hb dL_turns_66 (lv_at hl 5 rfl) ?_
        refine lv_aload hx hb dL_turns_68 (lv_at hl 6 rfl) ?_
        refine lv_iload hx hb dL_turns_70 (lv_at hl 7 rfl) ?_
        refine call_SR (As := [.ref at_, .ref an, .ref al_1, .int (nI k)]) (rest := []) E rfl hK hP (c_L_wins l g at_ an al_1 (tpL V u k) u k (by omega)) ok_L_wins rfl q2_61 [0, 4, 5] rfl ⟨⟨rfl, rfl⟩, Nat.le_of_ble_eq_true rfl, Nat.le_of_ble_eq_true rfl⟩ hl.1 (Nat.le_of_ble_eq_true rfl) ⟨Nat.le_of_ble_eq_true rfl, Nat.le_of_ble_eq_true rfl⟩ rfl dL_turns_72 ?_
        refine lv_istore (lv' := [(8, .int (wnL (tpL V u k) u k 6)), (6, .int (nI k)), (0, .ref at_), (1, .ref aw), (2, .ref ar), (3, .ref ag), (4, .ref an), (5, .ref al_1), (7, .int (nI k))]) hx hb dL_turns_75 hl (by decide) rfl (fun ls hl => ?_)
        refine lv_iload hx hb dL_turns_77 (lv_at hl 0 rfl) ?_
        refine lv_if_lt (tgt := 96) hx hb dL_turns_79 (by decide) (fun h_22 => ?_) (fun h_22 => ?_)
        · refine lv_iinc (v := nI (k + 1)) (lv' := [(7, .int (nI (k + 1))), (8, .int (wnL (tpL V u k) u k 6)), (6, .int (nI k)), (0, .ref at_), (1, .ref aw), (2, .ref ar), (3, .ref ag), (4, .ref an), (5, .ref al_1)]) hx hb dL_turns_96 hl (k := 8) rfl (nI_add k 1) (by decide) rfl (fun ls hl => ?_)
          refine lv_goto (tgt := 23) hx hb dL_turns_99 (by decide) ?_
          have e_23 : bsL u (k + 1) = nI k := by rw [bsL]; first | (rw [if_pos h_21]; done) | (rw [if_pos h_22]; done) | (rw [if_neg h_15, if_pos h_21]; done) | (rw [if_neg h_2, if_neg h_15, hwe, nI_clamp (by omega), if_pos h_21]; done) | (rw [if_neg h_2, if_neg h_15, hwe, nI_clamp (by omega), if_neg h_21]; done)
          have e_24 : ([aR g at_ 54 (rT (tpL V u (k + 1))), aR g aw 30 ((tpL V u (k + 1)) 9), aR g ar 30 ((tpL V u (k + 1)) 10), aR g ag 30 ((tpL V u (k + 1)) 11), aR g an 5 ((tpL V u (k + 1)) 12), aR g al_1 6 u] : List va_W) = [aR g at_ 54 (rT (tpL V u k)), aR g aw 30 ((tpL V u k) 9), aR g ar 30 ((tpL V u k) 10), aR g ag 30 ((tpL V u k) 11), aR g an 5 ((tpL V u k) 12), aR g al_1 6 u] := by rw [tpL]; first | (rw [if_pos h_22]; done) | (rw [if_neg hwn, hwe2, nI_clamp (by omega)]; done)
          exact ih_k (by omega)  _ _ _ (by rw [e_24]; exact hW) (by rw [e_23]; exact lv_sub hl [3, 4, 5, 6, 7, 8, 2, 0] rfl) 
        · obtain ⟨w2, hw2, hwe2⟩ := (wnL_rng (tpL V u k) u k 6 (by omega)).resolve_left (fun q9 => h_22 (by rw [q9]; exact m5_lt))
          have hwn := h_22
          refine lv_aload_n hx hb dL_turns_82 rfl (lv_at hl 2 rfl) ?_
          refine lv_bipush (v := 9) hx hb dL_turns_83 (by decide) ?_
          refine lv_iload hx hb dL_turns_85 (lv_at hl 0 rfl) ?_
          refine b_top (y := nI w2) hwe2 ?_
          refine lv_imul hx hb dL_turns_87 ?_
          refine b_top (y := nI (9 * w2)) (pk_mul 9 w2) ?_
          refine lv_bipush (v := 7) hx hb dL_turns_88 (by decide) ?_
          refine lv_iadd hx hb dL_turns_90 ?_
          refine b_top (y := nI ((9 * w2) + 7)) (nI_add (9 * w2) 7) ?_
          refine lv_dup2_11 hx hb dL_turns_91 rfl rfl ?_
          refine b_iald (v := (tpL V u k) 7 w2) hx hb hK hP 0 0 ((9 * w2) + 7) rfl rfl rfl (by omega) rfl ((rT_at _ (by omega)).trans rfl) dL_turns_92 ?_
          refine lv_iconst (v := 1) hx hb dL_turns_93 (by decide) ?_
          refine lv_iadd hx hb dL_turns_94 ?_
          refine b_iastE (B' := [aR g at_ 54 (rT (up2 (tpL V u k) 7 w2 (((tpL V u k) 7 w2) + 1))), aR g aw 30 ((up2 (tpL V u k) 7 w2 (((tpL V u k) 7 w2) + 1)) 9), aR g ar 30 ((up2 (tpL V u k) 7 w2 (((tpL V u k) 7 w2) + 1)) 10), aR g ag 30 ((up2 (tpL V u k) 7 w2 (((tpL V u k) 7 w2) + 1)) 11), aR g an 5 ((up2 (tpL V u k) 7 w2 (((tpL V u k) 7 w2) + 1)) 12), aR g al_1 6 u]) hx hb hK hW 0 0 ((9 * w2) + 7) rfl rfl rfl (by omega) rfl (rT_put _ (by omega) _) rfl dL_turns_95 (fun H locs hW => ?_)
          have hP := hW.1
          refine lv_iinc (v := nI (k + 1)) (lv' := [(7, .int (nI (k + 1))), (8, .int (wnL (tpL V u k) u k 6)), (6, .int (nI k)), (0, .ref at_), (1, .ref aw), (2, .ref ar), (3, .ref ag), (4, .ref an), (5, .ref al_1)]) hx hb dL_turns_96 hl (k := 8) rfl (nI_add k 1) (by decide) rfl (fun ls hl => ?_)
          refine lv_goto (tgt := 23) hx hb dL_turns_99 (by decide) ?_
          have e_25 : bsL u (k + 1) = nI k := by rw [bsL]; first | (rw [if_pos h_21]; done) | (rw [if_pos h_22]; done) | (rw [if_neg h_15, if_pos h_21]; done) | (rw [if_neg h_2, if_neg h_15, hwe, nI_clamp (by omega), if_pos h_21]; done) | (rw [if_neg h_2, if_neg h_15, hwe, nI_clamp (by omega), if_neg h_21]; done)
          have e_26 : ([aR g at_ 54 (rT (tpL V u (k + 1))), aR g aw 30 ((tpL V u (k + 1)) 9), aR g ar 30 ((tpL V u (k + 1)) 10), aR g ag 30 ((tpL V u (k + 1)) 11), aR g an 5 ((tpL V u (k + 1)) 12), aR g al_1 6 u] : List va_W) = [aR g at_ 54 (rT (up2 (tpL V u k) 7 w2 (((tpL V u k) 7 w2) + 1))), aR g aw 30 ((up2 (tpL V u k) 7 w2 (((tpL V u k) 7 w2) + 1)) 9), aR g ar 30 ((up2 (tpL V u k) 7 w2 (((tpL V u k) 7 w2) + 1)) 10), aR g ag 30 ((up2 (tpL V u k) 7 w2 (((tpL V u k) 7 w2) + 1)) 11), aR g an 5 ((up2 (tpL V u k) 7 w2 (((tpL V u k) 7 w2) + 1)) 12), aR g al_1 6 u] := by rw [tpL]; first | (rw [if_pos h_22]; done) | (rw [if_neg hwn, hwe2, nI_clamp (by omega)]; done)
          exact ih_k (by omega)  _ _ _ (by rw [e_26]; exact hW) (by rw [e_25]; exact lv_sub hl [3, 4, 5, 6, 7, 8, 2, 0] rfl) 
      · obtain ⟨w, hw, hwe⟩ := (bsL_rng u k (by omega)).resolve_left (fun q9 => h_21 (by rw [q9]; exact m5_lt))
        refine lv_aload hx hb dL_turns_43 (lv_at hl 5 rfl) ?_
        refine lv_iload hx hb dL_turns_45 (lv_at hl 7 rfl) ?_
        refine b_iald (v := u k) hx hb hK hP 5 0 (k) rfl rfl rfl (by omega) rfl rfl dL_turns_47 ?_
        refine lv_aload hx hb dL_turns_48 (lv_at hl 5 rfl) ?_
        refine lv_iload hx hb dL_turns_50 (lv_at hl 6 rfl) ?_
        refine b_iald (v := u w) hx hb hK hP 5 0 (w) rfl rfl hwe (by omega) rfl rfl dL_turns_52 ?_
        refine lv_icmp_le (tgt := 61) hx hb dL_turns_53 (by decide) (fun h_27 => ?_) (fun h_27 => ?_)
        · refine lv_iload hx hb dL_turns_61 (lv_at hl 6 rfl) ?_
          refine lv_istore (lv' := [(6, .int (bsL u k)), (0, .ref at_), (1, .ref aw), (2, .ref ar), (3, .ref ag), (4, .ref an), (5, .ref al_1), (7, .int (nI k))]) hx hb dL_turns_63 hl (by decide) rfl (fun ls hl => ?_)
          refine lv_aload_n hx hb dL_turns_65 rfl (lv_at hl 1 rfl) ?_
          refine lv_aload hx hb dL_turns_66 (lv_at hl 5 rfl) ?_
          refine lv_aload hx hb dL_turns_68 (lv_at hl 6 rfl) ?_
          refine lv_iload hx hb dL_turns_70 (lv_at hl 7 rfl) ?_
          refine call_SR (As := [.ref at_, .ref an, .ref al_1, .int (nI k)]) (rest := []) E rfl hK hP (c_L_wins l g at_ an al_1 (tpL V u k) u k (by omega)) ok_L_wins rfl q2_61 [0, 4, 5] rfl ⟨⟨rfl, rfl⟩, Nat.le_of_ble_eq_true rfl, Nat.le_of_ble_eq_true rfl⟩ hl.1 (Nat.le_of_ble_eq_true rfl) ⟨Nat.le_of_ble_eq_true rfl, Nat.le_of_ble_eq_true rfl⟩ rfl dL_turns_72 ?_
          refine lv_istore (lv' := [(8, .int (wnL (tpL V u k) u k 6)), (6, .int (bsL u k)), (0, .ref at_), (1, .ref aw), (2, .ref ar), (3, .ref ag), (4, .ref an), (5, .ref al_1), (7, .int (nI k))]) hx hb dL_turns_75 hl (by decide) rfl (fun ls hl => ?_)
          refine lv_iload hx hb dL_turns_77 (lv_at hl 0 rfl) ?_
          refine lv_if_lt (tgt := 96) hx hb dL_turns_79 (by decide) (fun h_28 => ?_) (fun h_28 => ?_)
          · refine lv_iinc (v := nI (k + 1)) (lv' := [(7, .int (nI (k + 1))), (8, .int (wnL (tpL V u k) u k 6)), (6, .int (bsL u k)), (0, .ref at_), (1, .ref aw), (2, .ref ar), (3, .ref ag), (4, .ref an), (5, .ref al_1)]) hx hb dL_turns_96 hl (k := 8) rfl (nI_add k 1) (by decide) rfl (fun ls hl => ?_)
            refine lv_goto (tgt := 23) hx hb dL_turns_99 (by decide) ?_
            have e_29 : bsL u (k + 1) = bsL u k := by rw [bsL]; first | (rw [if_pos h_27]; done) | (rw [if_pos h_28]; done) | (rw [if_neg h_21, if_pos h_27]; done) | (rw [if_neg h_15, if_neg h_21, hwe, nI_clamp (by omega), if_pos h_27]; done) | (rw [if_neg h_15, if_neg h_21, hwe, nI_clamp (by omega), if_neg h_27]; done)
            have e_30 : ([aR g at_ 54 (rT (tpL V u (k + 1))), aR g aw 30 ((tpL V u (k + 1)) 9), aR g ar 30 ((tpL V u (k + 1)) 10), aR g ag 30 ((tpL V u (k + 1)) 11), aR g an 5 ((tpL V u (k + 1)) 12), aR g al_1 6 u] : List va_W) = [aR g at_ 54 (rT (tpL V u k)), aR g aw 30 ((tpL V u k) 9), aR g ar 30 ((tpL V u k) 10), aR g ag 30 ((tpL V u k) 11), aR g an 5 ((tpL V u k) 12), aR g al_1 6 u] := by rw [tpL]; first | (rw [if_pos h_28]; done) | (rw [if_neg hwn, hwe2, nI_clamp (by omega)]; done)
            exact ih_k (by omega)  _ _ _ (by rw [e_30]; exact hW) (by rw [e_29]; exact lv_sub hl [3, 4, 5, 6, 7, 8, 2, 0] rfl) 
          · obtain ⟨w2, hw2, hwe2⟩ := (wnL_rng (tpL V u k) u k 6 (by omega)).resolve_left (fun q9 => h_28 (by rw [q9]; exact m5_lt))
            have hwn := h_28
            refine lv_aload_n hx hb dL_turns_82 rfl (lv_at hl 2 rfl) ?_
            refine lv_bipush (v := 9) hx hb dL_turns_83 (by decide) ?_
            refine lv_iload hx hb dL_turns_85 (lv_at hl 0 rfl) ?_
            refine b_top (y := nI w2) hwe2 ?_
            refine lv_imul hx hb dL_turns_87 ?_
            refine b_top (y := nI (9 * w2)) (pk_mul 9 w2) ?_
            refine lv_bipush (v := 7) hx hb dL_turns_88 (by decide) ?_
            refine lv_iadd hx hb dL_turns_90 ?_
            refine b_top (y := nI ((9 * w2) + 7)) (nI_add (9 * w2) 7) ?_
            refine lv_dup2_11 hx hb dL_turns_91 rfl rfl ?_
            refine b_iald (v := (tpL V u k) 7 w2) hx hb hK hP 0 0 ((9 * w2) + 7) rfl rfl rfl (by omega) rfl ((rT_at _ (by omega)).trans rfl) dL_turns_92 ?_
            refine lv_iconst (v := 1) hx hb dL_turns_93 (by decide) ?_
            refine lv_iadd hx hb dL_turns_94 ?_
            refine b_iastE (B' := [aR g at_ 54 (rT (up2 (tpL V u k) 7 w2 (((tpL V u k) 7 w2) + 1))), aR g aw 30 ((up2 (tpL V u k) 7 w2 (((tpL V u k) 7 w2) + 1)) 9), aR g ar 30 ((up2 (tpL V u k) 7 w2 (((tpL V u k) 7 w2) + 1)) 10), aR g ag 30 ((up2 (tpL V u k) 7 w2 (((tpL V u k) 7 w2) + 1)) 11), aR g an 5 ((up2 (tpL V u k) 7 w2 (((tpL V u k) 7 w2) + 1)) 12), aR g al_1 6 u]) hx hb hK hW 0 0 ((9 * w2) + 7) rfl rfl rfl (by omega) rfl (rT_put _ (by omega) _) rfl dL_turns_95 (fun H locs hW => ?_)
            have hP := hW.1
            refine lv_iinc (v := nI (k + 1)) (lv' := [(7, .int (nI (k + 1))), (8, .int (wnL (tpL V u k) u k 6)), (6, .int (bsL u k)), (0, .ref at_), (1, .ref aw), (2, .ref ar), (3, .ref ag), (4, .ref an), (5, .ref al_1)]) hx hb dL_turns_96 hl (k := 8) rfl (nI_add k 1) (by decide) rfl (fun ls hl => ?_)
            refine lv_goto (tgt := 23) hx hb dL_turns_99 (by decide) ?_
            have e_31 : bsL u (k + 1) = bsL u k := by rw [bsL]; first | (rw [if_pos h_27]; done) | (rw [if_pos h_28]; done) | (rw [if_neg h_21, if_pos h_27]; done) | (rw [if_neg h_15, if_neg h_21, hwe, nI_clamp (by omega), if_pos h_27]; done) | (rw [if_neg h_15, if_neg h_21, hwe, nI_clamp (by omega), if_neg h_27]; done)
            have e_32 : ([aR g at_ 54 (rT (tpL V u (k + 1))), aR g aw 30 ((tpL V u (k + 1)) 9), aR g ar 30 ((tpL V u (k + 1)) 10), aR g ag 30 ((tpL V u (k + 1)) 11), aR g an 5 ((tpL V u (k + 1)) 12), aR g al_1 6 u] : List va_W) = [aR g at_ 54 (rT (up2 (tpL V u k) 7 w2 (((tpL V u k) 7 w2) + 1))), aR g aw 30 ((up2 (tpL V u k) 7 w2 (((tpL V u k) 7 w2) + 1)) 9), aR g ar 30 ((up2 (tpL V u k) 7 w2 (((tpL V u k) 7 w2) + 1)) 10), aR g ag 30 ((up2 (tpL V u k) 7 w2 (((tpL V u k) 7 w2) + 1)) 11), aR g an 5 ((up2 (tpL V u k) 7 w2 (((tpL V u k) 7 w2) + 1)) 12), aR g al_1 6 u] := by rw [tpL]; first | (rw [if_pos h_28]; done) | (rw [if_neg hwn, hwe2, nI_clamp (by omega)]; done)
            exact ih_k (by omega)  _ _ _ (by rw [e_32]; exact hW) (by rw [e_31]; exact lv_sub hl [3, 4, 5, 6, 7, 8, 2, 0] rfl) 
        · refine lv_iload hx hb dL_turns_56 (lv_at hl 7 rfl) ?_
          refine lv_goto (tgt := 63) hx hb dL_turns_58 (by decide) ?_
          refine lv_istore (lv' := [(6, .int (nI k)), (0, .ref at_), (1, .ref aw), (2, .ref ar), (3, .ref ag), (4, .ref an), (5, .ref al_1), (7, .int (nI k))]) hx hb dL_turns_63 hl (by decide) rfl (fun ls hl => ?_)
          refine lv_aload_n hx hb dL_turns_65 rfl (lv_at hl 1 rfl) ?_
          refine lv_aload hx hb dL_turns_66 (lv_at hl 5 rfl) ?_
          refine lv_aload hx hb dL_turns_68 (lv_at hl 6 rfl) ?_
          refine lv_iload hx hb dL_turns_70 (lv_at hl 7 rfl) ?_
          refine call_SR (As := [.ref at_, .ref an, .ref al_1, .int (nI k)]) (rest := []) E rfl hK hP (c_L_wins l g at_ an al_1 (tpL V u k) u k (by omega)) ok_L_wins rfl q2_61 [0, 4, 5] rfl ⟨⟨rfl, rfl⟩, Nat.le_of_ble_eq_true rfl, Nat.le_of_ble_eq_true rfl⟩ hl.1 (Nat.le_of_ble_eq_true rfl) ⟨Nat.le_of_ble_eq_true rfl, Nat.le_of_ble_eq_true rfl⟩ rfl dL_turns_72 ?_
          refine lv_istore (lv' := [(8, .int (wnL (tpL V u k) u k 6)), (6, .int (nI k)), (0, .ref at_), (1, .ref aw), (2, .ref ar), (3, .ref ag), (4, .ref an), (5, .ref al_1), (7, .int (nI k))]) hx hb dL_turns_75 hl (by decide) rfl (fun ls hl => ?_)
          refine lv_iload hx hb dL_turns_77 (lv_at hl 0 rfl) ?_
          refine lv_if_lt (tgt := 96) hx hb dL_turns_79 (by decide) (fun h_33 => ?_) (fun h_33 => ?_)
          · refine lv_iinc (v := nI (k + 1)) (lv' := [(7, .int (nI (k + 1))), (8, .int (wnL (tpL V u k) u k 6)), (6, .int (nI k)), (0, .ref at_), (1, .ref aw), (2, .ref ar), (3, .ref ag), (4, .ref an), (5, .ref al_1)]) hx hb dL_turns_96 hl (k := 8) rfl (nI_add k 1) (by decide) rfl (fun ls hl => ?_)
            refine lv_goto (tgt := 23) hx hb dL_turns_99 (by decide) ?_
            have e_34 : bsL u (k + 1) = nI k := by rw [bsL]; first | (rw [if_pos h_27]; done) | (rw [if_pos h_33]; done) | (rw [if_neg h_21, if_pos h_27]; done) | (rw [if_neg h_15, if_neg h_21, hwe, nI_clamp (by omega), if_pos h_27]; done) | (rw [if_neg h_15, if_neg h_21, hwe, nI_clamp (by omega), if_neg h_27]; done)
            have e_35 : ([aR g at_ 54 (rT (tpL V u (k + 1))), aR g aw 30 ((tpL V u (k + 1)) 9), aR g ar 30 ((tpL V u (k + 1)) 10), aR g ag 30 ((tpL V u (k + 1)) 11), aR g an 5 ((tpL V u (k + 1)) 12), aR g al_1 6 u] : List va_W) = [aR g at_ 54 (rT (tpL V u k)), aR g aw 30 ((tpL V u k) 9), aR g ar 30 ((tpL V u k) 10), aR g ag 30 ((tpL V u k) 11), aR g an 5 ((tpL V u k) 12), aR g al_1 6 u] := by rw [tpL]; first | (rw [if_pos h_33]; done) | (rw [if_neg hwn, hwe2, nI_clamp (by omega)]; done)
            exact ih_k (by omega)  _ _ _ (by rw [e_35]; exact hW) (by rw [e_34]; exact lv_sub hl [3, 4, 5, 6, 7, 8, 2, 0] rfl) 
          · obtain ⟨w2, hw2, hwe2⟩ := (wnL_rng (tpL V u k) u k 6 (by omega)).resolve_left (fun q9 => h_33 (by rw [q9]; exact m5_lt))
            have hwn := h_33
            refine lv_aload_n hx hb dL_turns_82 rfl (lv_at hl 2 rfl) ?_
            refine lv_bipush (v := 9) hx hb dL_turns_83 (by decide) ?_
            refine lv_iload hx hb dL_turns_85 (lv_at hl 0 rfl) ?_
            refine b_top (y := nI w2) hwe2 ?_
            refine lv_imul hx hb dL_turns_87 ?_
            refine b_top (y := nI (9 * w2)) (pk_mul 9 w2) ?_
            refine lv_bipush (v := 7) hx hb dL_turns_88 (by decide) ?_
            refine lv_iadd hx hb dL_turns_90 ?_
            refine b_top (y := nI ((9 * w2) + 7)) (nI_add (9 * w2) 7) ?_
            refine lv_dup2_11 hx hb dL_turns_91 rfl rfl ?_
            refine b_iald (v := (tpL V u k) 7 w2) hx hb hK hP 0 0 ((9 * w2) + 7) rfl rfl rfl (by omega) rfl ((rT_at _ (by omega)).trans rfl) dL_turns_92 ?_
            refine lv_iconst (v := 1) hx hb dL_turns_93 (by decide) ?_
            refine lv_iadd hx hb dL_turns_94 ?_
            refine b_iastE (B' := [aR g at_ 54 (rT (up2 (tpL V u k) 7 w2 (((tpL V u k) 7 w2) + 1))), aR g aw 30 ((up2 (tpL V u k) 7 w2 (((tpL V u k) 7 w2) + 1)) 9), aR g ar 30 ((up2 (tpL V u k) 7 w2 (((tpL V u k) 7 w2) + 1)) 10), aR g ag 30 ((up2 (tpL V u k) 7 w2 (((tpL V u k) 7 w2) + 1)) 11), aR g an 5 ((up2 (tpL V u k) 7 w2 (((tpL V u k) 7 w2) + 1)) 12), aR g al_1 6 u]) hx hb hK hW 0 0 ((9 * w2) + 7) rfl rfl rfl (by omega) rfl (rT_put _ (by omega) _) rfl dL_turns_95 (fun H locs hW => ?_)
            have hP := hW.1
            refine lv_iinc (v := nI (k + 1)) (lv' := [(7, .int (nI (k + 1))), (8, .int (wnL (tpL V u k) u k 6)), (6, .int (nI k)), (0, .ref at_), (1, .ref aw), (2, .ref ar), (3, .ref ag), (4, .ref an), (5, .ref al_1)]) hx hb dL_turns_96 hl (k := 8) rfl (nI_add k 1) (by decide) rfl (fun ls hl => ?_)
            refine lv_goto (tgt := 23) hx hb dL_turns_99 (by decide) ?_
            have e_36 : bsL u (k + 1) = nI k := by rw [bsL]; first | (rw [if_pos h_27]; done) | (rw [if_pos h_33]; done) | (rw [if_neg h_21, if_pos h_27]; done) | (rw [if_neg h_15, if_neg h_21, hwe, nI_clamp (by omega), if_pos h_27]; done) | (rw [if_neg h_15, if_neg h_21, hwe, nI_clamp (by omega), if_neg h_27]; done)
            have e_37 : ([aR g at_ 54 (rT (tpL V u (k + 1))), aR g aw 30 ((tpL V u (k + 1)) 9), aR g ar 30 ((tpL V u (k + 1)) 10), aR g ag 30 ((tpL V u (k + 1)) 11), aR g an 5 ((tpL V u (k + 1)) 12), aR g al_1 6 u] : List va_W) = [aR g at_ 54 (rT (up2 (tpL V u k) 7 w2 (((tpL V u k) 7 w2) + 1))), aR g aw 30 ((up2 (tpL V u k) 7 w2 (((tpL V u k) 7 w2) + 1)) 9), aR g ar 30 ((up2 (tpL V u k) 7 w2 (((tpL V u k) 7 w2) + 1)) 10), aR g ag 30 ((up2 (tpL V u k) 7 w2 (((tpL V u k) 7 w2) + 1)) 11), aR g an 5 ((up2 (tpL V u k) 7 w2 (((tpL V u k) 7 w2) + 1)) 12), aR g al_1 6 u] := by rw [tpL]; first | (rw [if_pos h_33]; done) | (rw [if_neg hwn, hwe2, nI_clamp (by omega)]; done)
            exact ih_k (by omega)  _ _ _ (by rw [e_37]; exact hW) (by rw [e_36]; exact lv_sub hl [3, 4, 5, 6, 7, 8, 2, 0] rfl) 
