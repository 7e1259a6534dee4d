set_option maxHeartbeats 4000000 in
set_option maxRecDepth 100000 in
theorem c_L_bells_1 (l : Launch) (g : gx) (h : Nat) (q : Nat → Nat) (z : Int32) (na : Nat → Nat) (V : sV) (ta : Nat → Nat) (TV : sV) (pa : Nat → Nat) (SV : sV) (hq : Nat) (hh : Nat → Nat) (o n : Nat) (aa : Nat → Nat → Nat) (HV : Nat → sV) (ra : Nat → Nat) (NN : sV) (sa : Nat) (at_ aw ar ag : Nat) (cq : Nat → Nat) (B k : Nat) (x : Int32) (ho : o < 5) (hn : n ≤ 5) (LIh : LI V cq B) (hk : k < 6) : cU (S := sV × (Nat → Nat) × Nat × Nat × (Nat → sV)) l g yL_bells cL_bells 13 (some .boolean) ({ frames := 5, cells := 0, slots := 0, locals := 147 } : Room) [.ref h, .ref at_, .ref aw, .ref ar, .ref ag, .int (nI k), .int 1, .int x] [bB h q z, vB g (q 0) na V, vB g (q 1) ta TV, vB g (q 2) pa SV, hB g (q 3) hq hh o n, vB g (hh 0) (aa 0) (HV 0), vB g (hh 1) (aa 1) (HV 1), vB g (hh 2) (aa 2) (HV 2), vB g (hh 3) (aa 3) (HV 3), vB g (hh 4) (aa 4) (HV 4), rB g (q 4) ra NN, tB g (q 5) sa (fun _ => 0) 0, aR g at_ 54 (rT V), aR g aw 30 (V 9), aR g ar 30 (V 10), aR g ag 30 (V 11)] (fun u9 => some (.int (1 : Int32))) (fun u9 => LI u9.1 u9.2.1 B ∧ u9.2.2.1 < 5 ∧ u9.2.2.2.1 ≤ 5 ∧ ∀ j, u9.1 12 j = V 12 j) (fun u9 => [bB h q z, vB g (q 0) na u9.1, vB g (q 1) ta TV, vB g (q 2) pa SV, hB g (q 3) hq hh u9.2.2.1 u9.2.2.2.1, vB g (hh 0) (aa 0) (u9.2.2.2.2 0), vB g (hh 1) (aa 1) (u9.2.2.2.2 1), vB g (hh 2) (aa 2) (u9.2.2.2.2 2), vB g (hh 3) (aa 3) (u9.2.2.2.2 3), vB g (hh 4) (aa 4) (u9.2.2.2.2 4), rB g (q 4) ra NN, tB g (q 5) sa (fun _ => 0) 0, aR g at_ 54 (rT u9.1), aR g aw 30 (u9.1 9), aR g ar 30 (u9.1 10), aR g ag 30 (u9.1 11)]) := by
  refine cU.mk (by decide +kernel) (Nat.le_of_ble_eq_true rfl) ?_
  intro p e s m below meth c ls E hK hW hl
  obtain ⟨hx, hb, hr, hml, hts, hown, hlocks, hin⟩ := id E
  have hown : s.vm.findClass RL = some m.cls := hown
  have hP := hW.1
  have hl : lv_has ls 13 [(0, .ref h), (1, .ref at_), (2, .ref aw), (3, .ref ar), (4, .ref ag), (5, .int (nI k)), (6, .int 1), (7, .int x)] := hl
  refine lv_aload_n hx hb dL_bells_0 rfl (lv_at hl 1 rfl) ?_
  refine lv_bipush (v := 9) hx hb dL_bells_1 (by decide) ?_
  refine lv_iload hx hb dL_bells_3 (lv_at hl 5 rfl) ?_
  refine lv_imul hx hb dL_bells_5 ?_
  refine b_top (y := nI (9 * k)) (pk_mul 9 k) ?_
  refine lv_iconst (v := 3) hx hb dL_bells_6 (by decide) ?_
  refine lv_iadd hx hb dL_bells_7 ?_
  refine b_top (y := nI ((9 * k) + 3)) (nI_add (9 * k) 3) ?_
  refine b_iald (v := V 3 k) hx hb hK hP 12 0 ((9 * k) + 3) rfl rfl rfl (by omega) rfl ((rT_at _ (by omega)).trans rfl) dL_bells_8 ?_
  refine b_top (y := nI (cq k)) (LIh.cnt k hk).1 ?_
  have hc5 := (LIh.cnt k hk).2
  refine lv_istore (lv' := [(8, .int (nI (cq k))), (0, .ref h), (1, .ref at_), (2, .ref aw), (3, .ref ar), (4, .ref ag), (5, .int (nI k)), (6, .int 1), (7, .int x)]) hx hb dL_bells_9 hl (by decide) rfl (fun ls hl => ?_)
  refine lv_iload hx hb dL_bells_11 (lv_at hl 7 rfl) ?_
  refine lv_if_ne (tgt := 116) hx hb dL_bells_13 (by decide) (fun h_1 => ?_) (fun h_1 => ?_)
  · refine lv_iload hx hb dL_bells_116 (lv_at hl 8 rfl) ?_
    refine lv_iconst (v := 5) hx hb dL_bells_118 (by decide) ?_
    refine call_SR (As := [.int x, .int 5]) (rest := []) E rfl hK hP (c_L_low l g x 5 (by first | omega | assumption) (by first | omega | assumption)) ok_L_low rfl q1_187 [] rfl ⟨⟨rfl, rfl⟩, Nat.le_of_ble_eq_true rfl, Nat.le_of_ble_eq_true rfl⟩ hl.1 (Nat.le_of_ble_eq_true rfl) ⟨Nat.le_of_ble_eq_true rfl, Nat.le_of_ble_eq_true rfl⟩ rfl dL_bells_119 ?_
    obtain ⟨b0, hb0⟩ : ∃ z, z = lowN x 5 := ⟨_, rfl⟩
    have hb05 : b0 < 5 := by rw [hb0]; exact lowN_lt _ (by decide)
    refine b_top (y := nI b0) (by rw [hb0]) ?_
    refine lv_istore (lv' := [(9, .int (nI b0)), (8, .int (nI (cq k))), (0, .ref h), (1, .ref at_), (2, .ref aw), (3, .ref ar), (4, .ref ag), (5, .int (nI k)), (6, .int 1), (7, .int x)]) hx hb dL_bells_122 hl (by decide) rfl (fun ls hl => ?_)
    refine lv_iload hx hb dL_bells_124 (lv_at hl 0 rfl) ?_
    refine lv_iload hx hb dL_bells_126 (lv_at hl 1 rfl) ?_
    refine b_lt (tgt := 161) (b0) ((cq k)) hx hb rfl rfl (by omega) (by omega) dL_bells_128 (by decide) (fun h_2 => ?_) (fun h_2 => ?_)
    · have hib : b0 < cq k := by omega
      refine lv_iload hx hb dL_bells_161 (lv_at hl 8 rfl) ?_
      refine lv_iconst (v := 1) hx hb dL_bells_163 (by decide) ?_
      refine b_ne (tgt := 284) (1) (1) hx hb rfl rfl (by omega) (by omega) dL_bells_164 (by decide) (fun h_3 => ?_) (fun h_3 => ?_)
      · exact absurd rfl h_3
      · refine lv_aload_n hx hb dL_bells_167 rfl (lv_at hl 5 rfl) ?_
        refine lv_iconst (v := 5) hx hb dL_bells_168 (by decide) ?_
        refine lv_iload hx hb dL_bells_169 (lv_at hl 7 rfl) ?_
        refine lv_imul hx hb dL_bells_171 ?_
        refine b_top (y := nI (5 * k)) (pk_mul 5 k) ?_
        refine lv_iload hx hb dL_bells_172 (lv_at hl 0 rfl) ?_
        refine lv_iadd hx hb dL_bells_174 ?_
        refine b_top (y := nI ((5 * k) + b0)) (nI_add (5 * k) b0) ?_
        refine b_iald (v := V 10 (k * 5 + b0)) hx hb hK hP 14 0 ((5 * k) + b0) rfl rfl rfl (by omega) rfl ((congrArg (V 10) (show (5 * k) + b0 = k * 5 + b0 by omega)).trans rfl) dL_bells_175 ?_
        refine lv_istore (lv' := [(10, .int (V 10 (k * 5 + b0))), (9, .int (nI b0)), (8, .int (nI (cq k))), (0, .ref h), (1, .ref at_), (2, .ref aw), (3, .ref ar), (4, .ref ag), (5, .int (nI k)), (6, .int 1), (7, .int x)]) hx hb dL_bells_176 hl (by decide) rfl (fun ls hl => ?_)
        refine lv_iload hx hb dL_bells_178 (lv_at hl 0 rfl) ?_
        refine lv_if_le (tgt := 210) hx hb dL_bells_180 (by decide) (fun h_4 => ?_) (fun h_4 => ?_)
        · have hs1 := h_4
          refine lv_iconst (v := 0) hx hb dL_bells_210 (by decide) ?_
          refine lv_istore (lv' := [(11, .int 0), (10, .int (V 10 (k * 5 + b0))), (9, .int (nI b0)), (8, .int (nI (cq k))), (0, .ref h), (1, .ref at_), (2, .ref aw), (3, .ref ar), (4, .ref ag), (5, .int (nI k)), (6, .int 1), (7, .int x)]) hx hb dL_bells_211 hl (by decide) rfl (fun ls hl => ?_)
          refine lv_aload_n hx hb dL_bells_213 rfl (lv_at hl 7 rfl) ?_
          refine lv_iconst (v := 5) hx hb dL_bells_214 (by decide) ?_
          refine lv_iload hx hb dL_bells_215 (lv_at hl 9 rfl) ?_
          refine lv_imul hx hb dL_bells_217 ?_
          refine b_top (y := nI (5 * k)) (pk_mul 5 k) ?_
          refine lv_iload hx hb dL_bells_218 (lv_at hl 2 rfl) ?_
          refine lv_iadd hx hb dL_bells_220 ?_
          refine b_top (y := nI ((5 * k) + b0)) (nI_add (5 * k) b0) ?_
          refine lv_iload hx hb dL_bells_221 (lv_at hl 0 rfl) ?_
          refine lv_if_eq (tgt := 230) hx hb dL_bells_223 (by decide) (fun h_5 => ?_) (fun h_5 => ?_)
          · refine lv_iload hx hb dL_bells_230 (lv_at hl 1 rfl) ?_
            refine b_iastE (B' := [bB h q z, vB g (q 0) na V, vB g (q 1) ta TV, vB g (q 2) pa SV, hB g (q 3) hq hh o n, vB g (hh 0) (aa 0) (HV 0), vB g (hh 1) (aa 1) (HV 1), vB g (hh 2) (aa 2) (HV 2), vB g (hh 3) (aa 3) (HV 3), vB g (hh 4) (aa 4) (HV 4), rB g (q 4) ra NN, tB g (q 5) sa (fun _ => 0) 0, aR g at_ 54 (rT (up2 V 10 (k * 5 + b0) (V 10 (k * 5 + b0)))), aR g aw 30 ((up2 V 10 (k * 5 + b0) (V 10 (k * 5 + b0))) 9), aR g ar 30 ((up2 V 10 (k * 5 + b0) (V 10 (k * 5 + b0))) 10), aR g ag 30 ((up2 V 10 (k * 5 + b0) (V 10 (k * 5 + b0))) 11)]) hx hb hK hW 14 0 ((5 * k) + b0) rfl rfl rfl (by omega) rfl (r5_put _ _ _ _ _) (by rw [show rT (up2 V 10 (k * 5 + b0) (V 10 (k * 5 + b0))) = rT V from rT_ge (by decide)]; rfl) dL_bells_232 (fun H locs hW => ?_)
            have hP := hW.1
            refine lv_aload_n hx hb dL_bells_233 rfl (lv_at hl 5 rfl) ?_
            refine lv_bipush (v := 9) hx hb dL_bells_234 (by decide) ?_
            refine lv_iload hx hb dL_bells_236 (lv_at hl 9 rfl) ?_
            refine lv_imul hx hb dL_bells_238 ?_
            refine b_top (y := nI (9 * k)) (pk_mul 9 k) ?_
            refine lv_iconst (v := 2) hx hb dL_bells_239 (by decide) ?_
            refine lv_iadd hx hb dL_bells_240 ?_
            refine b_top (y := nI ((9 * k) + 2)) (nI_add (9 * k) 2) ?_
            refine lv_dup2_11 hx hb dL_bells_241 rfl rfl ?_
            refine b_iald (v := V 2 k) hx hb hK hP 12 0 ((9 * k) + 2) rfl rfl rfl (by omega) rfl ((rT_at _ (by omega)).trans rfl) dL_bells_242 ?_
            refine lv_iload hx hb dL_bells_243 (lv_at hl 0 rfl) ?_
            refine lv_if_eq (tgt := 252) hx hb dL_bells_245 (by decide) (fun h_6 => ?_) (fun h_6 => ?_)
            · refine lv_iconst (v := 0) hx hb dL_bells_252 (by decide) ?_
              refine lv_iadd hx hb dL_bells_253 ?_
              refine b_iastE (B' := [bB h q z, vB g (q 0) na V, vB g (q 1) ta TV, vB g (q 2) pa SV, hB g (q 3) hq hh o n, vB g (hh 0) (aa 0) (HV 0), vB g (hh 1) (aa 1) (HV 1), vB g (hh 2) (aa 2) (HV 2), vB g (hh 3) (aa 3) (HV 3), vB g (hh 4) (aa 4) (HV 4), rB g (q 4) ra NN, tB g (q 5) sa (fun _ => 0) 0, aR g at_ 54 (rT (up2 (up2 V 10 (k * 5 + b0) (V 10 (k * 5 + b0))) 2 k ((V 2 k) + 0))), aR g aw 30 ((up2 (up2 V 10 (k * 5 + b0) (V 10 (k * 5 + b0))) 2 k ((V 2 k) + 0)) 9), aR g ar 30 ((up2 (up2 V 10 (k * 5 + b0) (V 10 (k * 5 + b0))) 2 k ((V 2 k) + 0)) 10), aR g ag 30 ((up2 (up2 V 10 (k * 5 + b0) (V 10 (k * 5 + b0))) 2 k ((V 2 k) + 0)) 11)]) hx hb hK hW 12 0 ((9 * k) + 2) rfl rfl rfl (by omega) rfl (rT_put _ (by omega) _) rfl dL_bells_254 (fun H locs hW => ?_)
              have hP := hW.1
              refine lv_aload_n hx hb dL_bells_255 rfl (lv_at hl 4 rfl) ?_
              refine lv_iload hx hb dL_bells_256 (lv_at hl 9 rfl) ?_
              refine lv_iload hx hb dL_bells_258 (lv_at hl 2 rfl) ?_
              refine call_VU (As := [.int (nI k), .int (nI b0)]) (rest := []) E rfl hK hW (c_X4_splice l g h q z na V ta TV pa SV hq hh o n aa HV ra NN sa (fun _ => 0) 0 (nI k) (nI b0) k b0 ho hn (Nat.zero_le _) (fun _ => ⟨rfl, hk, rfl, by omega⟩)) ok_X4_splice rfl q2_180 [0, 1, 2, 3, 4, 5, 6, 7, 8, 9, 10, 11] rfl (by decide) (b_recv hK hP 0 0 rfl rfl rfl rfl) ⟨⟨rfl, rfl⟩, Nat.le_of_ble_eq_true rfl, Nat.le_of_ble_eq_true rfl⟩ hl.1 (Nat.le_of_ble_eq_true rfl) ⟨Nat.le_of_ble_eq_true rfl, Nat.le_of_ble_eq_true rfl⟩ rfl dL_bells_260 (fun u_7 H locs hu_7 hW => ?_)
              obtain rfl : u_7 = false := by
                cases u_7 with
                | false => rfl
                | true => exact absurd ((sp_no1 LIh hk hib hs1).symm.trans (show _ = 0 from hu_7)) (by decide)
              have hW : wd g _ s.heap [bB h q z, vB g (q 0) na V, vB g (q 1) ta TV, vB g (q 2) pa SV, hB g (q 3) hq hh o n, vB g (hh 0) (aa 0) (HV 0), vB g (hh 1) (aa 1) (HV 1), vB g (hh 2) (aa 2) (HV 2), vB g (hh 3) (aa 3) (HV 3), vB g (hh 4) (aa 4) (HV 4), rB g (q 4) ra NN, tB g (q 5) sa (fun _ => 0) 0, aR g at_ 54 (rT (up2 (up2 V 10 (k * 5 + b0) (V 10 (k * 5 + b0))) 2 k ((V 2 k) + 0))), aR g aw 30 ((up2 (up2 V 10 (k * 5 + b0) (V 10 (k * 5 + b0))) 2 k ((V 2 k) + 0)) 9), aR g ar 30 ((up2 (up2 V 10 (k * 5 + b0) (V 10 (k * 5 + b0))) 2 k ((V 2 k) + 0)) 10), aR g ag 30 ((up2 (up2 V 10 (k * 5 + b0) (V 10 (k * 5 + b0))) 2 k ((V 2 k) + 0)) 11)] H locs := hW
              have hP := hW.1
              refine b_top (y := -4) ((cond_false _ _).trans (sp_no1 LIh hk hib hs1)) ?_
              refine lv_iload hx hb dL_bells_263 (lv_at hl 0 rfl) ?_
              refine lv_if_eq (tgt := 273) hx hb dL_bells_265 (by decide) (fun h_8 => ?_) (fun h_8 => ?_)
              · refine lv_bipush (v := -4) hx hb dL_bells_273 (by decide) ?_
                refine lv_icmp_ne (tgt := 282) hx hb dL_bells_275 (by decide) (fun h_9 => ?_) (fun h_9 => ?_)
                · exact absurd rfl h_9
                · refine lv_iconst (v := 1) hx hb dL_bells_278 (by decide) ?_
                  refine lv_goto (tgt := 283) hx hb dL_bells_279 (by decide) ?_
                  exact uZ_ret (V, cq, o, n, HV) hW hx hb hr hlocks dL_bells_283 (by rfl) (rfl) ⟨LIh, ho, hn, fun _ => rfl⟩ (by rw [spl_no]) (adr2 (L := [[h], [q 0, na 0, na 1, na 2, na 3, na 4, na 5, na 6, na 7, na 8, na 9, na 10, na 11], [q 1, ta 0, ta 1, ta 2, ta 3, ta 4, ta 5, ta 6, ta 7, ta 8, ta 9, ta 10, ta 11], [q 2, pa 0, pa 1, pa 2, pa 3, pa 4, pa 5, pa 6, pa 7, pa 8, pa 9, pa 10, pa 11], [q 3, hq], [hh 0, aa 0 0, aa 0 1, aa 0 2, aa 0 3, aa 0 4, aa 0 5, aa 0 6, aa 0 7, aa 0 8, aa 0 9, aa 0 10, aa 0 11], [hh 1, aa 1 0, aa 1 1, aa 1 2, aa 1 3, aa 1 4, aa 1 5, aa 1 6, aa 1 7, aa 1 8, aa 1 9, aa 1 10, aa 1 11], [hh 2, aa 2 0, aa 2 1, aa 2 2, aa 2 3, aa 2 4, aa 2 5, aa 2 6, aa 2 7, aa 2 8, aa 2 9, aa 2 10, aa 2 11], [hh 3, aa 3 0, aa 3 1, aa 3 2, aa 3 3, aa 3 4, aa 3 5, aa 3 6, aa 3 7, aa 3 8, aa 3 9, aa 3 10, aa 3 11], [hh 4, aa 4 0, aa 4 1, aa 4 2, aa 4 3, aa 4 4, aa 4 5, aa 4 6, aa 4 7, aa 4 8, aa 4 9, aa 4 10, aa 4 11], [q 4, ra 0, ra 1, ra 2, ra 3], [q 5, sa], [at_], [aw], [ar], [ag]]) rfl rfl)
              · exact absurd h_8 (by decide)
            · exact absurd h_6 (by decide)
          · exact absurd h_5 (by decide)
        · have hs1 := h_4
          refine lv_aload_n hx hb dL_bells_183 rfl (lv_at hl 4 rfl) ?_
          refine lv_bipush (v := 9) hx hb dL_bells_184 (by decide) ?_
          refine lv_iload hx hb dL_bells_186 (lv_at hl 8 rfl) ?_
          refine lv_imul hx hb dL_bells_188 ?_
          refine b_top (y := nI (9 * k)) (pk_mul 9 k) ?_
          refine lv_iconst (v := 1) hx hb dL_bells_189 (by decide) ?_
          refine lv_iadd hx hb dL_bells_190 ?_
          refine b_top (y := nI ((9 * k) + 1)) (nI_add (9 * k) 1) ?_
          refine b_iald (v := V 1 k) hx hb hK hP 12 0 ((9 * k) + 1) rfl rfl rfl (by omega) rfl ((rT_at _ (by omega)).trans rfl) dL_bells_191 ?_
          refine lv_aload_n hx hb dL_bells_192 rfl (lv_at hl 4 rfl) ?_
          refine lv_bipush (v := 9) hx hb dL_bells_193 (by decide) ?_
          refine lv_iload hx hb dL_bells_195 (lv_at hl 8 rfl) ?_
          refine lv_imul hx hb dL_bells_197 ?_
          refine b_top (y := nI (9 * k)) (pk_mul 9 k) ?_
          refine lv_iconst (v := 2) hx hb dL_bells_198 (by decide) ?_
          refine lv_iadd hx hb dL_bells_199 ?_
          refine b_top (y := nI ((9 * k) + 2)) (nI_add (9 * k) 2) ?_
          refine b_iald (v := V 2 k) hx hb hK hP 12 0 ((9 * k) + 2) rfl rfl rfl (by omega) rfl ((rT_at _ (by omega)).trans rfl) dL_bells_200 ?_
          refine lv_iconst (v := 2) hx hb dL_bells_201 (by decide) ?_
          refine lv_iadd hx hb dL_bells_202 ?_
          refine lv_icmp_lt (tgt := 210) hx hb dL_bells_203 (by decide) (fun h_10 => ?_) (fun h_10 => ?_)
          · have hs2 := h_10
            refine lv_iconst (v := 0) hx hb dL_bells_210 (by decide) ?_
            refine lv_istore (lv' := [(11, .int 0), (10, .int (V 10 (k * 5 + b0))), (9, .int (nI b0)), (8, .int (nI (cq k))), (0, .ref h), (1, .ref at_), (2, .ref aw), (3, .ref ar), (4, .ref ag), (5, .int (nI k)), (6, .int 1), (7, .int x)]) hx hb dL_bells_211 hl (by decide) rfl (fun ls hl => ?_)
            refine lv_aload_n hx hb dL_bells_213 rfl (lv_at hl 7 rfl) ?_
            refine lv_iconst (v := 5) hx hb dL_bells_214 (by decide) ?_
            refine lv_iload hx hb dL_bells_215 (lv_at hl 9 rfl) ?_
            refine lv_imul hx hb dL_bells_217 ?_
            refine b_top (y := nI (5 * k)) (pk_mul 5 k) ?_
            refine lv_iload hx hb dL_bells_218 (lv_at hl 2 rfl) ?_
            refine lv_iadd hx hb dL_bells_220 ?_
            refine b_top (y := nI ((5 * k) + b0)) (nI_add (5 * k) b0) ?_
            refine lv_iload hx hb dL_bells_221 (lv_at hl 0 rfl) ?_
            refine lv_if_eq (tgt := 230) hx hb dL_bells_223 (by decide) (fun h_11 => ?_) (fun h_11 => ?_)
            · refine lv_iload hx hb dL_bells_230 (lv_at hl 1 rfl) ?_
              refine b_iastE (B' := [bB h q z, vB g (q 0) na V, vB g (q 1) ta TV, vB g (q 2) pa SV, hB g (q 3) hq hh o n, vB g (hh 0) (aa 0) (HV 0), vB g (hh 1) (aa 1) (HV 1), vB g (hh 2) (aa 2) (HV 2), vB g (hh 3) (aa 3) (HV 3), vB g (hh 4) (aa 4) (HV 4), rB g (q 4) ra NN, tB g (q 5) sa (fun _ => 0) 0, aR g at_ 54 (rT (up2 V 10 (k * 5 + b0) (V 10 (k * 5 + b0)))), aR g aw 30 ((up2 V 10 (k * 5 + b0) (V 10 (k * 5 + b0))) 9), aR g ar 30 ((up2 V 10 (k * 5 + b0) (V 10 (k * 5 + b0))) 10), aR g ag 30 ((up2 V 10 (k * 5 + b0) (V 10 (k * 5 + b0))) 11)]) hx hb hK hW 14 0 ((5 * k) + b0) rfl rfl rfl (by omega) rfl (r5_put _ _ _ _ _) (by rw [show rT (up2 V 10 (k * 5 + b0) (V 10 (k * 5 + b0))) = rT V from rT_ge (by decide)]; rfl) dL_bells_232 (fun H locs hW => ?_)
              have hP := hW.1
              refine lv_aload_n hx hb dL_bells_233 rfl (lv_at hl 5 rfl) ?_
              refine lv_bipush (v := 9) hx hb dL_bells_234 (by decide) ?_
              refine lv_iload hx hb dL_bells_236 (lv_at hl 9 rfl) ?_
              refine lv_imul hx hb dL_bells_238 ?_
              refine b_top (y := nI (9 * k)) (pk_mul 9 k) ?_
              refine lv_iconst (v := 2) hx hb dL_bells_239 (by decide) ?_
              refine lv_iadd hx hb dL_bells_240 ?_
              refine b_top (y := nI ((9 * k) + 2)) (nI_add (9 * k) 2) ?_
              refine lv_dup2_11 hx hb dL_bells_241 rfl rfl ?_
              refine b_iald (v := V 2 k) hx hb hK hP 12 0 ((9 * k) + 2) rfl rfl rfl (by omega) rfl ((rT_at _ (by omega)).trans rfl) dL_bells_242 ?_
              refine lv_iload hx hb dL_bells_243 (lv_at hl 0 rfl) ?_
              refine lv_if_eq (tgt := 252) hx hb dL_bells_245 (by decide) (fun h_12 => ?_) (fun h_12 => ?_)
              · refine lv_iconst (v := 0) hx hb dL_bells_252 (by decide) ?_
                refine lv_iadd hx hb dL_bells_253 ?_
                refine b_iastE (B' := [bB h q z, vB g (q 0) na V, vB g (q 1) ta TV, vB g (q 2) pa SV, hB g (q 3) hq hh o n, vB g (hh 0) (aa 0) (HV 0), vB g (hh 1) (aa 1) (HV 1), vB g (hh 2) (aa 2) (HV 2), vB g (hh 3) (aa 3) (HV 3), vB g (hh 4) (aa 4) (HV 4), rB g (q 4) ra NN, tB g (q 5) sa (fun _ => 0) 0, aR g at_ 54 (rT (up2 (up2 V 10 (k * 5 + b0) (V 10 (k * 5 + b0))) 2 k ((V 2 k) + 0))), aR g aw 30 ((up2 (up2 V 10 (k * 5 + b0) (V 10 (k * 5 + b0))) 2 k ((V 2 k) + 0)) 9), aR g ar 30 ((up2 (up2 V 10 (k * 5 + b0) (V 10 (k * 5 + b0))) 2 k ((V 2 k) + 0)) 10), aR g ag 30 ((up2 (up2 V 10 (k * 5 + b0) (V 10 (k * 5 + b0))) 2 k ((V 2 k) + 0)) 11)]) hx hb hK hW 12 0 ((9 * k) + 2) rfl rfl rfl (by omega) rfl (rT_put _ (by omega) _) rfl dL_bells_254 (fun H locs hW => ?_)
                have hP := hW.1
                refine lv_aload_n hx hb dL_bells_255 rfl (lv_at hl 4 rfl) ?_
                refine lv_iload hx hb dL_bells_256 (lv_at hl 9 rfl) ?_
                refine lv_iload hx hb dL_bells_258 (lv_at hl 2 rfl) ?_
                refine call_VU (As := [.int (nI k), .int (nI b0)]) (rest := []) E rfl hK hW (c_X4_splice l g h q z na V ta TV pa SV hq hh o n aa HV ra NN sa (fun _ => 0) 0 (nI k) (nI b0) k b0 ho hn (Nat.zero_le _) (fun _ => ⟨rfl, hk, rfl, by omega⟩)) ok_X4_splice rfl q2_180 [0, 1, 2, 3, 4, 5, 6, 7, 8, 9, 10, 11] rfl (by decide) (b_recv hK hP 0 0 rfl rfl rfl rfl) ⟨⟨rfl, rfl⟩, Nat.le_of_ble_eq_true rfl, Nat.le_of_ble_eq_true rfl⟩ hl.1 (Nat.le_of_ble_eq_true rfl) ⟨Nat.le_of_ble_eq_true rfl, Nat.le_of_ble_eq_true rfl⟩ rfl dL_bells_260 (fun u_13 H locs hu_13 hW => ?_)
                obtain rfl : u_13 = false := by
                  cases u_13 with
                  | false => rfl
                  | true => exact absurd ((sp_no2 LIh hk hib hs2).symm.trans (show _ = 0 from hu_13)) (by decide)
                have hW : wd g _ s.heap [bB h q z, vB g (q 0) na V, vB g (q 1) ta TV, vB g (q 2) pa SV, hB g (q 3) hq hh o n, vB g (hh 0) (aa 0) (HV 0), vB g (hh 1) (aa 1) (HV 1), vB g (hh 2) (aa 2) (HV 2), vB g (hh 3) (aa 3) (HV 3), vB g (hh 4) (aa 4) (HV 4), rB g (q 4) ra NN, tB g (q 5) sa (fun _ => 0) 0, aR g at_ 54 (rT (up2 (up2 V 10 (k * 5 + b0) (V 10 (k * 5 + b0))) 2 k ((V 2 k) + 0))), aR g aw 30 ((up2 (up2 V 10 (k * 5 + b0) (V 10 (k * 5 + b0))) 2 k ((V 2 k) + 0)) 9), aR g ar 30 ((up2 (up2 V 10 (k * 5 + b0) (V 10 (k * 5 + b0))) 2 k ((V 2 k) + 0)) 10), aR g ag 30 ((up2 (up2 V 10 (k * 5 + b0) (V 10 (k * 5 + b0))) 2 k ((V 2 k) + 0)) 11)] H locs := hW
                have hP := hW.1
                refine b_top (y := -4) ((cond_false _ _).trans (sp_no2 LIh hk hib hs2)) ?_
                refine lv_iload hx hb dL_bells_263 (lv_at hl 0 rfl) ?_
                refine lv_if_eq (tgt := 273) hx hb dL_bells_265 (by decide) (fun h_14 => ?_) (fun h_14 => ?_)
                · refine lv_bipush (v := -4) hx hb dL_bells_273 (by decide) ?_
                  refine lv_icmp_ne (tgt := 282) hx hb dL_bells_275 (by decide) (fun h_15 => ?_) (fun h_15 => ?_)
                  · exact absurd rfl h_15
                  · refine lv_iconst (v := 1) hx hb dL_bells_278 (by decide) ?_
                    refine lv_goto (tgt := 283) hx hb dL_bells_279 (by decide) ?_
                    exact uZ_ret (V, cq, o, n, HV) hW hx hb hr hlocks dL_bells_283 (by rfl) (rfl) ⟨LIh, ho, hn, fun _ => rfl⟩ (by rw [spl_no]) (adr2 (L := [[h], [q 0, na 0, na 1, na 2, na 3, na 4, na 5, na 6, na 7, na 8, na 9, na 10, na 11], [q 1, ta 0, ta 1, ta 2, ta 3, ta 4, ta 5, ta 6, ta 7, ta 8, ta 9, ta 10, ta 11], [q 2, pa 0, pa 1, pa 2, pa 3, pa 4, pa 5, pa 6, pa 7, pa 8, pa 9, pa 10, pa 11], [q 3, hq], [hh 0, aa 0 0, aa 0 1, aa 0 2, aa 0 3, aa 0 4, aa 0 5, aa 0 6, aa 0 7, aa 0 8, aa 0 9, aa 0 10, aa 0 11], [hh 1, aa 1 0, aa 1 1, aa 1 2, aa 1 3, aa 1 4, aa 1 5, aa 1 6, aa 1 7, aa 1 8, aa 1 9, aa 1 10, aa 1 11], [hh 2, aa 2 0, aa 2 1, aa 2 2, aa 2 3, aa 2 4, aa 2 5, aa 2 6, aa 2 7, aa 2 8, aa 2 9, aa 2 10, aa 2 11], [hh 3, aa 3 0, aa 3 1, aa 3 2, aa 3 3, aa 3 4, aa 3 5, aa 3 6, aa 3 7, aa 3 8, aa 3 9, aa 3 10, aa 3 11], [hh 4, aa 4 0, aa 4 1, aa 4 2, aa 4 3, aa 4 4, aa 4 5, aa 4 6, aa 4 7, aa 4 8, aa 4 9, aa 4 10, aa 4 11], [q 4, ra 0, ra 1, ra 2, ra 3], [q 5, sa], [at_], [aw], [ar], [ag]]) rfl rfl)
                · exact absurd h_14 (by decide)
              · exact absurd h_12 (by decide)
            · exact absurd h_11 (by decide)
          · have hs2 := h_10
            refine lv_iconst (v := 1) hx hb dL_bells_206 (by decide) ?_
            refine lv_goto (tgt := 211) hx hb dL_bells_207 (by decide) ?_
            refine lv_istore (lv' := [(11, .int 1), (10, .int (V 10 (k * 5 + b0))), (9, .int (nI b0)), (8, .int (nI (cq k))), (0, .ref h), (1, .ref at_), (2, .ref aw), (3, .ref ar), (4, .ref ag), (5, .int (nI k)), (6, .int 1), (7, .int x)]) hx hb dL_bells_211 hl (by decide) rfl (fun ls hl => ?_)
            refine lv_aload_n hx hb dL_bells_213 rfl (lv_at hl 7 rfl) ?_
            refine lv_iconst (v := 5) hx hb dL_bells_214 (by decide) ?_
            refine lv_iload hx hb dL_bells_215 (lv_at hl 9 rfl) ?_
            refine lv_imul hx hb dL_bells_217 ?_
            refine b_top (y := nI (5 * k)) (pk_mul 5 k) ?_
            refine lv_iload hx hb dL_bells_218 (lv_at hl 2 rfl) ?_
            refine lv_iadd hx hb dL_bells_220 ?_
            refine b_top (y := nI ((5 * k) + b0)) (nI_add (5 * k) b0) ?_
            refine lv_iload hx hb dL_bells_221 (lv_at hl 0 rfl) ?_
            refine lv_if_eq (tgt := 230) hx hb dL_bells_223 (by decide) (fun h_16 => ?_) (fun h_16 => ?_)
            · exact absurd h_16 (by decide)
            · refine lv_iconst (v := 0) hx hb dL_bells_226 (by decide) ?_
              refine lv_goto (tgt := 232) hx hb dL_bells_227 (by decide) ?_
              refine b_iastE (B' := [bB h q z, vB g (q 0) na V, vB g (q 1) ta TV, vB g (q 2) pa SV, hB g (q 3) hq hh o n, vB g (hh 0) (aa 0) (HV 0), vB g (hh 1) (aa 1) (HV 1), vB g (hh 2) (aa 2) (HV 2), vB g (hh 3) (aa 3) (HV 3), vB g (hh 4) (aa 4) (HV 4), rB g (q 4) ra NN, tB g (q 5) sa (fun _ => 0) 0, aR g at_ 54 (rT (up2 V 10 (k * 5 + b0) 0)), aR g aw 30 ((up2 V 10 (k * 5 + b0) 0) 9), aR g ar 30 ((up2 V 10 (k * 5 + b0) 0) 10), aR g ag 30 ((up2 V 10 (k * 5 + b0) 0) 11)]) hx hb hK hW 14 0 ((5 * k) + b0) rfl rfl rfl (by omega) rfl (r5_put _ _ _ _ _) (by rw [show rT (up2 V 10 (k * 5 + b0) 0) = rT V from rT_ge (by decide)]; rfl) dL_bells_232 (fun H locs hW => ?_)
              have hP := hW.1
              refine lv_aload_n hx hb dL_bells_233 rfl (lv_at hl 5 rfl) ?_
              refine lv_bipush (v := 9) hx hb dL_bells_234 (by decide) ?_
              refine lv_iload hx hb dL_bells_236 (lv_at hl 9 rfl) ?_
              refine lv_imul hx hb dL_bells_238 ?_
              refine b_top (y := nI (9 * k)) (pk_mul 9 k) ?_
              refine lv_iconst (v := 2) hx hb dL_bells_239 (by decide) ?_
              refine lv_iadd hx hb dL_bells_240 ?_
              refine b_top (y := nI ((9 * k) + 2)) (nI_add (9 * k) 2) ?_
              refine lv_dup2_11 hx hb dL_bells_241 rfl rfl ?_
              refine b_iald (v := V 2 k) hx hb hK hP 12 0 ((9 * k) + 2) rfl rfl rfl (by omega) rfl ((rT_at _ (by omega)).trans rfl) dL_bells_242 ?_
              refine lv_iload hx hb dL_bells_243 (lv_at hl 0 rfl) ?_
              refine lv_if_eq (tgt := 252) hx hb dL_bells_245 (by decide) (fun h_17 => ?_) (fun h_17 => ?_)
              · exact absurd h_17 (by decide)
              · refine lv_iconst (v := 2) hx hb dL_bells_248 (by decide) ?_
                refine lv_goto (tgt := 253) hx hb dL_bells_249 (by decide) ?_
                refine lv_iadd hx hb dL_bells_253 ?_
                refine b_iastE (B' := [bB h q z, vB g (q 0) na V, vB g (q 1) ta TV, vB g (q 2) pa SV, hB g (q 3) hq hh o n, vB g (hh 0) (aa 0) (HV 0), vB g (hh 1) (aa 1) (HV 1), vB g (hh 2) (aa 2) (HV 2), vB g (hh 3) (aa 3) (HV 3), vB g (hh 4) (aa 4) (HV 4), rB g (q 4) ra NN, tB g (q 5) sa (fun _ => 0) 0, aR g at_ 54 (rT (up2 (up2 V 10 (k * 5 + b0) 0) 2 k ((V 2 k) + 2))), aR g aw 30 ((up2 (up2 V 10 (k * 5 + b0) 0) 2 k ((V 2 k) + 2)) 9), aR g ar 30 ((up2 (up2 V 10 (k * 5 + b0) 0) 2 k ((V 2 k) + 2)) 10), aR g ag 30 ((up2 (up2 V 10 (k * 5 + b0) 0) 2 k ((V 2 k) + 2)) 11)]) hx hb hK hW 12 0 ((9 * k) + 2) rfl rfl rfl (by omega) rfl (rT_put _ (by omega) _) rfl dL_bells_254 (fun H locs hW => ?_)
                have hP := hW.1
                refine lv_aload_n hx hb dL_bells_255 rfl (lv_at hl 4 rfl) ?_
                refine lv_iload hx hb dL_bells_256 (lv_at hl 9 rfl) ?_
                refine lv_iload hx hb dL_bells_258 (lv_at hl 2 rfl) ?_
                refine call_VU (As := [.int (nI k), .int (nI b0)]) (rest := []) E rfl hK hW (c_X4_splice l g h q z na V ta TV pa SV hq hh o n aa HV ra NN sa (fun _ => 0) 0 (nI k) (nI b0) k b0 ho hn (Nat.zero_le _) (fun _ => ⟨rfl, hk, rfl, by omega⟩)) ok_X4_splice rfl q2_180 [0, 1, 2, 3, 4, 5, 6, 7, 8, 9, 10, 11] rfl (by decide) (b_recv hK hP 0 0 rfl rfl rfl rfl) ⟨⟨rfl, rfl⟩, Nat.le_of_ble_eq_true rfl, Nat.le_of_ble_eq_true rfl⟩ hl.1 (Nat.le_of_ble_eq_true rfl) ⟨Nat.le_of_ble_eq_true rfl, Nat.le_of_ble_eq_true rfl⟩ rfl dL_bells_260 (fun u_18 H locs hu_18 hW => ?_)
                obtain rfl : u_18 = true := by
                  cases u_18 with
                  | true => rfl
                  | false => exact absurd (sp_yes LIh hk hib hs1 hs2) (show ¬ _ = 0 from hu_18)
                have hW : wd g _ s.heap [bB h q z, vB g (q 0) na (up2 (up2 V 10 (k * 5 + b0) 0) 2 k (V 2 k + 2)), vB g (q 1) ta TV, vB g (q 2) pa SV, hB g (q 3) hq hh (recO o n) (recS n), vB g (hh 0) (aa 0) (recH o n HV V 0), vB g (hh 1) (aa 1) (recH o n HV V 1), vB g (hh 2) (aa 2) (recH o n HV V 2), vB g (hh 3) (aa 3) (recH o n HV V 3), vB g (hh 4) (aa 4) (recH o n HV V 4), rB g (q 4) ra NN, tB g (q 5) sa (fun _ => 0) 0, aR g at_ 54 (rT (up2 (up2 V 10 (k * 5 + b0) 0) 2 k ((V 2 k) + 2))), aR g aw 30 ((up2 (up2 V 10 (k * 5 + b0) 0) 2 k ((V 2 k) + 2)) 9), aR g ar 30 ((up2 (up2 V 10 (k * 5 + b0) 0) 2 k ((V 2 k) + 2)) 10), aR g ag 30 ((up2 (up2 V 10 (k * 5 + b0) 0) 2 k ((V 2 k) + 2)) 11)] H locs := hW
                have hP := hW.1
                refine b_top (y := V 10 (k * 5 + b0)) (cond_true _ _) ?_
                refine lv_iload hx hb dL_bells_263 (lv_at hl 0 rfl) ?_
                refine lv_if_eq (tgt := 273) hx hb dL_bells_265 (by decide) (fun h_19 => ?_) (fun h_19 => ?_)
                · exact absurd h_19 (by decide)
                · refine lv_iload hx hb dL_bells_268 (lv_at hl 1 rfl) ?_
                  refine lv_goto (tgt := 275) hx hb dL_bells_270 (by decide) ?_
                  refine lv_icmp_ne (tgt := 282) hx hb dL_bells_275 (by decide) (fun h_20 => ?_) (fun h_20 => ?_)
                  · exact absurd rfl h_20
                  · refine lv_iconst (v := 1) hx hb dL_bells_278 (by decide) ?_
                    refine lv_goto (tgt := 283) hx hb dL_bells_279 (by decide) ?_
                    exact uZ_ret ((up2 (up2 V 10 (k * 5 + b0) 0) 2 k (V 2 k + 2)), cq, recO o n, recS n, recH o n HV V) hW hx hb hr hlocks dL_bells_283 (by rfl) (rfl) ⟨li_spl LIh hk hib hs2, rec_o ho hn, rec_n hn, fun _ => rfl⟩ (rfl) (adr2 (L := [[h], [q 0, na 0, na 1, na 2, na 3, na 4, na 5, na 6, na 7, na 8, na 9, na 10, na 11], [q 1, ta 0, ta 1, ta 2, ta 3, ta 4, ta 5, ta 6, ta 7, ta 8, ta 9, ta 10, ta 11], [q 2, pa 0, pa 1, pa 2, pa 3, pa 4, pa 5, pa 6, pa 7, pa 8, pa 9, pa 10, pa 11], [q 3, hq], [hh 0, aa 0 0, aa 0 1, aa 0 2, aa 0 3, aa 0 4, aa 0 5, aa 0 6, aa 0 7, aa 0 8, aa 0 9, aa 0 10, aa 0 11], [hh 1, aa 1 0, aa 1 1, aa 1 2, aa 1 3, aa 1 4, aa 1 5, aa 1 6, aa 1 7, aa 1 8, aa 1 9, aa 1 10, aa 1 11], [hh 2, aa 2 0, aa 2 1, aa 2 2, aa 2 3, aa 2 4, aa 2 5, aa 2 6, aa 2 7, aa 2 8, aa 2 9, aa 2 10, aa 2 11], [hh 3, aa 3 0, aa 3 1, aa 3 2, aa 3 3, aa 3 4, aa 3 5, aa 3 6, aa 3 7, aa 3 8, aa 3 9, aa 3 10, aa 3 11], [hh 4, aa 4 0, aa 4 1, aa 4 2, aa 4 3, aa 4 4, aa 4 5, aa 4 6, aa 4 7, aa 4 8, aa 4 9, aa 4 10, aa 4 11], [q 4, ra 0, ra 1, ra 2, ra 3], [q 5, sa], [at_], [aw], [ar], [ag]]) rfl rfl)
    · have hnb := hb_no LIh hk hb05 (show cq k ≤ b0 by omega)
      refine lv_aload_n hx hb dL_bells_131 rfl (lv_at hl 2 rfl) ?_
      refine lv_iload hx hb dL_bells_132 (lv_at hl 7 rfl) ?_
      refine lv_iload hx hb dL_bells_134 (lv_at hl 0 rfl) ?_
      refine call_VU (As := [.int (nI k), .int (nI b0)]) (rest := []) E rfl hK hW (c_X4_melt l g h q z na V ta TV pa SV hq hh o n aa HV ra NN sa (fun _ => 0) 0 (nI k) (nI b0) k 0 (cq k) ho hn (Nat.zero_le _) (fun q9 => absurd q9 hnb)) ok_X4_melt rfl q2_172 [0, 1, 2, 3, 4, 5, 6, 7, 8, 9, 10, 11] rfl (by decide) (b_recv hK hP 0 0 rfl rfl rfl rfl) ⟨⟨rfl, rfl⟩, Nat.le_of_ble_eq_true rfl, Nat.le_of_ble_eq_true rfl⟩ hl.1 (Nat.le_of_ble_eq_true rfl) ⟨Nat.le_of_ble_eq_true rfl, Nat.le_of_ble_eq_true rfl⟩ rfl dL_bells_136 (fun u_21 H locs hu_21 hW => ?_)
      obtain rfl : u_21 = false := by
        cases u_21 with
        | false => rfl
        | true => exact absurd ((meE_no hnb).symm.trans (show _ = 0 from hu_21)) (by decide)
      have hW : wd g _ s.heap [bB h q z, vB g (q 0) na V, vB g (q 1) ta TV, vB g (q 2) pa SV, hB g (q 3) hq hh o n, vB g (hh 0) (aa 0) (HV 0), vB g (hh 1) (aa 1) (HV 1), vB g (hh 2) (aa 2) (HV 2), vB g (hh 3) (aa 3) (HV 3), vB g (hh 4) (aa 4) (HV 4), rB g (q 4) ra NN, tB g (q 5) sa (fun _ => 0) 0, aR g at_ 54 (rT V), aR g aw 30 (V 9), aR g ar 30 (V 10), aR g ag 30 (V 11)] H locs := hW
      have hP := hW.1
      refine b_top (y := -1) ((cond_false _ _).trans (meE_no hnb)) ?_
      refine lv_iconst (v := -1) hx hb dL_bells_139 (by decide) ?_
      refine lv_icmp_ne (tgt := 159) hx hb dL_bells_140 (by decide) (fun h_22 => ?_) (fun h_22 => ?_)
      · exact absurd rfl h_22
      · refine lv_aload_n hx hb dL_bells_143 rfl (lv_at hl 2 rfl) ?_
        refine lv_iload hx hb dL_bells_144 (lv_at hl 7 rfl) ?_
        refine lv_iload hx hb dL_bells_146 (lv_at hl 0 rfl) ?_
        refine call_VU (As := [.int (nI k), .int (nI b0)]) (rest := []) E rfl hK hW (c_X4_splice l g h q z na V ta TV pa SV hq hh o n aa HV ra NN sa (fun _ => 0) 0 (nI k) (nI b0) k b0 ho hn (Nat.zero_le _) (fun q9 => absurd q9 hnb)) ok_X4_splice rfl q2_180 [0, 1, 2, 3, 4, 5, 6, 7, 8, 9, 10, 11] rfl (by decide) (b_recv hK hP 0 0 rfl rfl rfl rfl) ⟨⟨rfl, rfl⟩, Nat.le_of_ble_eq_true rfl, Nat.le_of_ble_eq_true rfl⟩ hl.1 (Nat.le_of_ble_eq_true rfl) ⟨Nat.le_of_ble_eq_true rfl, Nat.le_of_ble_eq_true rfl⟩ rfl dL_bells_148 (fun u_23 H locs hu_23 hW => ?_)
        obtain rfl : u_23 = false := by
          cases u_23 with
          | false => rfl
          | true => exact absurd ((spE_no hnb).symm.trans (show _ = 0 from hu_23)) (by decide)
        have hW : wd g _ s.heap [bB h q z, vB g (q 0) na V, vB g (q 1) ta TV, vB g (q 2) pa SV, hB g (q 3) hq hh o n, vB g (hh 0) (aa 0) (HV 0), vB g (hh 1) (aa 1) (HV 1), vB g (hh 2) (aa 2) (HV 2), vB g (hh 3) (aa 3) (HV 3), vB g (hh 4) (aa 4) (HV 4), rB g (q 4) ra NN, tB g (q 5) sa (fun _ => 0) 0, aR g at_ 54 (rT V), aR g aw 30 (V 9), aR g ar 30 (V 10), aR g ag 30 (V 11)] H locs := hW
        have hP := hW.1
        refine b_top (y := -1) ((cond_false _ _).trans (spE_no hnb)) ?_
        refine lv_iconst (v := -1) hx hb dL_bells_151 (by decide) ?_
        refine lv_icmp_ne (tgt := 159) hx hb dL_bells_152 (by decide) (fun h_24 => ?_) (fun h_24 => ?_)
        · exact absurd rfl h_24
        · refine lv_iconst (v := 1) hx hb dL_bells_155 (by decide) ?_
          refine lv_goto (tgt := 160) hx hb dL_bells_156 (by decide) ?_
          exact uZ_ret (V, cq, o, n, HV) hW hx hb hr hlocks dL_bells_160 (by rfl) (rfl) ⟨LIh, ho, hn, fun _ => rfl⟩ (rfl) (adr2 (L := [[h], [q 0, na 0, na 1, na 2, na 3, na 4, na 5, na 6, na 7, na 8, na 9, na 10, na 11], [q 1, ta 0, ta 1, ta 2, ta 3, ta 4, ta 5, ta 6, ta 7, ta 8, ta 9, ta 10, ta 11], [q 2, pa 0, pa 1, pa 2, pa 3, pa 4, pa 5, pa 6, pa 7, pa 8, pa 9, pa 10, pa 11], [q 3, hq], [hh 0, aa 0 0, aa 0 1, aa 0 2, aa 0 3, aa 0 4, aa 0 5, aa 0 6, aa 0 7, aa 0 8, aa 0 9, aa 0 10, aa 0 11], [hh 1, aa 1 0, aa 1 1, aa 1 2, aa 1 3, aa 1 4, aa 1 5, aa 1 6, aa 1 7, aa 1 8, aa 1 9, aa 1 10, aa 1 11], [hh 2, aa 2 0, aa 2 1, aa 2 2, aa 2 3, aa 2 4, aa 2 5, aa 2 6, aa 2 7, aa 2 8, aa 2 9, aa 2 10, aa 2 11], [hh 3, aa 3 0, aa 3 1, aa 3 2, aa 3 3, aa 3 4, aa 3 5, aa 3 6, aa 3 7, aa 3 8, aa 3 9, aa 3 10, aa 3 11], [hh 4, aa 4 0, aa 4 1, aa 4 2, aa 4 3, aa 4 4, aa 4 5, aa 4 6, aa 4 7, aa 4 8, aa 4 9, aa 4 10, aa 4 11], [q 4, ra 0, ra 1, ra 2, ra 3], [q 5, sa], [at_], [aw], [ar], [ag]]) rfl rfl)
  · exact absurd h_1 (by decide)
