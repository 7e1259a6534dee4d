section LAW
variable {p : Program} {l : Launch} {e : Env} {s : State} {m : MethodId} {below : List Frame} {meth : Method} {c : Code} {b : Nat} {g : gx} {h : Nat} {q : Nat → Nat} {na ta pa : Nat → Nat} {hq : Nat} {hh : Nat → Nat} {aa : Nat → Nat → Nat} {ra : Nat → Nat} {sa h2 : Nat} {a2 : Nat → Nat} {i B L : Nat} {xs : Nat → Int32}
set_option maxHeartbeats 4000000 in
set_option maxRecDepth 100000 in
theorem cs_plan (hE : ent p s m meth c yL_law code 8 (some .boolean) [.ref b]) (hKq : kq g s) (hX : va_X b L xs s s.heap) (hbl : b < s.heap.size) (hL : L ≤ 2048) (hi : i + 4 ≤ L) (hB : B ≤ 700000) (K : LwC p l e s m below meth c b g h q na ta pa hq hh aa ra sa h2 a2 i (B + 1200) 831) : LwC p l e s m below meth c b g h q na ta pa hq hh aa ra sa h2 a2 i B 257 := by
  intro d0 z V TV SV o n HV NN T k X H locs ls hd0 hR hW hl
  obtain ⟨hx, hb, hr, hml, hts, hown, hlocks, hin⟩ := id hE
  have E := ent_dr hE d0
  have hK : kx g (s.setDrawn d0) := (kq_dr hKq d0).1
  have hX : va_X b L xs (s.setDrawn d0) s.heap := hX
  have hbA : ¬ (fun q : Nat => s.heap.size ≤ q) b := Nat.not_le.mpr hbl
  obtain ⟨⟨cq, hV⟩, ho, hn5, hk, hT, hn9, hH, hSn, htx⟩ := id hR
  have hc : ∀ t, t < 6 → V 3 t = nI (cq t) ∧ cq t ≤ 5 := fun t ht => ⟨(hV.1 t ht).1, (hV.1 t ht).2.1⟩
  have hP := hW.1
  obtain ⟨x1, hx1⟩ : ∃ y : Int32, xs (i + 1) = y := ⟨_, rfl⟩
  obtain ⟨x2, hx2⟩ : ∃ y : Int32, xs (i + 2) = y := ⟨_, rfl⟩
  obtain ⟨t, ht, hxt⟩ := ex_t x1
  have hEq : plE V x1 t x2 = plM V x1 t x2 := pl_eq
  refine lv_aload_n hx hb dL_law_257 rfl (lv_at hl 1 rfl) ?_
  refine lw_arg hx hb hX hbl hbA hW.2.2 hl 1 (by decide) hx1 (by omega) hL dL_law_258 dL_law_259 dL_law_260 dL_law_261 dL_law_262 ?_
  refine lw_arg hx hb hX hbl hbA hW.2.2 hl 2 (by decide) hx2 (by omega) hL dL_law_263 dL_law_264 dL_law_265 dL_law_266 dL_law_267 ?_
  refine call_VU (As := [.int x1, .int x2]) (rest := []) E rfl hK hW (c_X4_plan l g h q z na V ta TV pa SV hq hh o n aa HV ra NN sa T k x1 x2 t ho hn5 hk hxt) ok_X4_plan rfl q2_8 [0, 1, 2, 3, 4, 5, 6, 7, 8, 9, 10, 11] rfl (by decide) (b_recv hK hP 0 0 rfl rfl rfl rfl) ⟨⟨rfl, rfl⟩, Nat.le_of_ble_eq_true rfl, Nat.le_of_ble_eq_true rfl⟩ hl.1 (Nat.le_of_ble_eq_true rfl) ⟨Nat.le_refl _, Nat.le_refl _⟩ rfl dL_law_268 (fun u H locs hu hW => ?_)
  cases u
  · have hu : ¬ plE V x1 t x2 = 0 := hu
    have hW : wd g _ s.heap (lwB g h q na ta pa hq hh aa ra sa h2 a2 z V TV SV o n HV NN T k V X) H locs := hW
    have hP := hW.1
    refine b_top (y := plE V x1 t x2) rfl ?_
    refine lv_aload_n hx hb dL_law_271 rfl (lv_at hl 2 rfl) ?_
    refine lw_arg hx hb hX hbl hbA hW.2.2 hl 1 (by decide) hx1 (by omega) hL dL_law_272 dL_law_273 dL_law_274 dL_law_275 dL_law_276 ?_
    refine lw_arg hx hb hX hbl hbA hW.2.2 hl 2 (by decide) hx2 (by omega) hL dL_law_277 dL_law_278 dL_law_279 dL_law_280 dL_law_281 ?_
    refine call_VU (As := [.int x1, .int x2]) (rest := [.int (plE V x1 t x2)]) E rfl hK hW (c_X5_plan l g h2 a2 V X x1 x2 t n hn9 hn5 hxt) ok_X5_plan rfl q3_114 [12] rfl (by decide) (b_recv hK hP 12 0 rfl rfl rfl rfl) ⟨⟨rfl, rfl⟩, Nat.le_of_ble_eq_true rfl, Nat.le_of_ble_eq_true rfl⟩ hl.1 (Nat.le_of_ble_eq_true rfl) ⟨Nat.le_refl _, Nat.le_refl _⟩ rfl dL_law_282 (fun u H locs hu hW => ?_)
    obtain ⟨u1, u2⟩ := u
    cases u1
    · have hu2 : ¬ plM V x1 t x2 = 0 ∧ u2 = X := hu
      obtain ⟨-, rfl⟩ := hu2
      have hW : wd g _ s.heap (lwB g h q na ta pa hq hh aa ra sa h2 a2 z V TV SV o n HV NN T k V u2) H locs := hW
      have hP := hW.1
      refine lv_icmp_eq (tgt := 831) hx hb dL_law_285 (by decide) (fun _ => ?_) (fun q9 => absurd hEq q9)
      exact K d0 z V TV SV o n HV NN T k u2 H locs ls hd0 (hR.mono (by omega)) hW hl
    · exact absurd (hEq.trans (show plM V x1 t x2 = 0 ∧ _ from hu).1) (show ¬ plE V x1 t x2 = 0 from by assumption)
  · have hu : plE V x1 t x2 = 0 := hu
    have hW : wd g _ s.heap (lwB g h q na ta pa hq hh aa ra sa h2 a2 z (up2 V 4 t x2) TV SV (recO o n) (recS n) (recH o n HV V) NN T k V X) H locs := hW
    have hP := hW.1
    refine b_top (y := V 4 t) rfl ?_
    refine lv_aload_n hx hb dL_law_271 rfl (lv_at hl 2 rfl) ?_
    refine lw_arg hx hb hX hbl hbA hW.2.2 hl 1 (by decide) hx1 (by omega) hL dL_law_272 dL_law_273 dL_law_274 dL_law_275 dL_law_276 ?_
    refine lw_arg hx hb hX hbl hbA hW.2.2 hl 2 (by decide) hx2 (by omega) hL dL_law_277 dL_law_278 dL_law_279 dL_law_280 dL_law_281 ?_
    refine call_VU (As := [.int x1, .int x2]) (rest := [.int (V 4 t)]) E rfl hK hW (c_X5_plan l g h2 a2 V X x1 x2 t n hn9 hn5 hxt) ok_X5_plan rfl q3_114 [12] rfl (by decide) (b_recv hK hP 12 0 rfl rfl rfl rfl) ⟨⟨rfl, rfl⟩, Nat.le_of_ble_eq_true rfl, Nat.le_of_ble_eq_true rfl⟩ hl.1 (Nat.le_of_ble_eq_true rfl) ⟨Nat.le_refl _, Nat.le_refl _⟩ rfl dL_law_282 (fun u H locs hu hW => ?_)
    obtain ⟨u1, u2⟩ := u
    cases u1
    · exact absurd (hEq.symm.trans (show plE V x1 t x2 = 0 from by assumption)) (show ¬ plM V x1 t x2 = 0 ∧ _ from hu).1
    · have hu2 : plM V x1 t x2 = 0 ∧ recP V X u2 n := hu
      have hI := inv_plan hV ht (plM_0 hu2.1)
      have hW : wd g _ s.heap (lwB g h q na ta pa hq hh aa ra sa h2 a2 z (up2 V 4 t x2) TV SV (recO o n) (recS n) (recH o n HV V) NN T k (up2 V 4 t x2) u2) H locs := hW
      have hP := hW.1
      refine lv_icmp_eq (tgt := 831) hx hb dL_law_285 (by decide) (fun _ => ?_) (fun q9 => absurd rfl q9)
      exact K d0 z (up2 V 4 t x2) TV SV (recO o n) (recS n) (recH o n HV V) NN T k u2 H locs ls hd0 ((hR.rec hu2.2 hI (by omega)).mono (by omega)) hW hl
set_option maxHeartbeats 4000000 in
set_option maxRecDepth 100000 in
theorem cs_splice (hE : ent p s m meth c yL_law code 8 (some .boolean) [.ref b]) (hKq : kq g s) (hX : va_X b L xs s s.heap) (hbl : b < s.heap.size) (hL : L ≤ 2048) (hi : i + 4 ≤ L) (hB : B ≤ 700000) (K : LwC p l e s m below meth c b g h q na ta pa hq hh aa ra sa h2 a2 i (B + 1200) 831) : LwC p l e s m below meth c b g h q na ta pa hq hh aa ra sa h2 a2 i B 290 := by
  intro d0 z V TV SV o n HV NN T k X H locs ls hd0 hR hW hl
  obtain ⟨hx, hb, hr, hml, hts, hown, hlocks, hin⟩ := id hE
  have E := ent_dr hE d0
  have hK : kx g (s.setDrawn d0) := (kq_dr hKq d0).1
  have hX : va_X b L xs (s.setDrawn d0) s.heap := hX
  have hbA : ¬ (fun q : Nat => s.heap.size ≤ q) b := Nat.not_le.mpr hbl
  obtain ⟨⟨cq, hV⟩, ho, hn5, hk, hT, hn9, hH, hSn, htx⟩ := id hR
  have hc : ∀ t, t < 6 → V 3 t = nI (cq t) ∧ cq t ≤ 5 := fun t ht => ⟨(hV.1 t ht).1, (hV.1 t ht).2.1⟩
  have hP := hW.1
  obtain ⟨x1, hx1⟩ : ∃ y : Int32, xs (i + 1) = y := ⟨_, rfl⟩
  obtain ⟨x2, hx2⟩ : ∃ y : Int32, xs (i + 2) = y := ⟨_, rfl⟩
  obtain ⟨t, b0, ht, hb5, hxt, hxy⟩ := ex_tb hV x1 x2
  have hEq : spE V x1 x2 t b0 = spM V x1 x2 t b0 := sp_eq (hV.2.2.2.1 t b0 ht hb5).1
  refine lv_aload_n hx hb dL_law_290 rfl (lv_at hl 1 rfl) ?_
  refine lw_arg hx hb hX hbl hbA hW.2.2 hl 1 (by decide) hx1 (by omega) hL dL_law_291 dL_law_292 dL_law_293 dL_law_294 dL_law_295 ?_
  refine lw_arg hx hb hX hbl hbA hW.2.2 hl 2 (by decide) hx2 (by omega) hL dL_law_296 dL_law_297 dL_law_298 dL_law_299 dL_law_300 ?_
  refine call_VU (As := [.int x1, .int x2]) (rest := []) E rfl hK hW (c_X4_splice l g h q z na V ta TV pa SV hq hh o n aa HV ra NN sa T k x1 x2 t b0 ho hn5 hk (fun q9 => ⟨(hxy q9).1, ht, (hxy q9).2.2.1, hb5⟩)) ok_X4_splice rfl q2_24 [0, 1, 2, 3, 4, 5, 6, 7, 8, 9, 10, 11] rfl (by decide) (b_recv hK hP 0 0 rfl rfl rfl rfl) ⟨⟨rfl, rfl⟩, Nat.le_of_ble_eq_true rfl, Nat.le_of_ble_eq_true rfl⟩ hl.1 (Nat.le_of_ble_eq_true rfl) ⟨Nat.le_refl _, Nat.le_refl _⟩ rfl dL_law_301 (fun u H locs hu hW => ?_)
  cases u
  · have hu : ¬ spE V x1 x2 t b0 = 0 := hu
    have hW : wd g _ s.heap (lwB g h q na ta pa hq hh aa ra sa h2 a2 z V TV SV o n HV NN T k V X) H locs := hW
    have hP := hW.1
    refine b_top (y := spE V x1 x2 t b0) rfl ?_
    refine lv_aload_n hx hb dL_law_304 rfl (lv_at hl 2 rfl) ?_
    refine lw_arg hx hb hX hbl hbA hW.2.2 hl 1 (by decide) hx1 (by omega) hL dL_law_305 dL_law_306 dL_law_307 dL_law_308 dL_law_309 ?_
    refine lw_arg hx hb hX hbl hbA hW.2.2 hl 2 (by decide) hx2 (by omega) hL dL_law_310 dL_law_311 dL_law_312 dL_law_313 dL_law_314 ?_
    refine call_VU (As := [.int x1, .int x2]) (rest := [.int (spE V x1 x2 t b0)]) E rfl hK hW (c_X5_splice l g h2 a2 V X x1 x2 t b0 (cq t) n hn9 hn5 (fun q9 => ⟨(hxy q9).1, ht, (hxy q9).2.2.1, hb5⟩) hxt (fun _ => hc t ht)) ok_X5_splice rfl q3_126 [12] rfl (by decide) (b_recv hK hP 12 0 rfl rfl rfl rfl) ⟨⟨rfl, rfl⟩, Nat.le_of_ble_eq_true rfl, Nat.le_of_ble_eq_true rfl⟩ hl.1 (Nat.le_of_ble_eq_true rfl) ⟨Nat.le_refl _, Nat.le_refl _⟩ rfl dL_law_315 (fun u H locs hu hW => ?_)
    obtain ⟨u1, u2⟩ := u
    cases u1
    · have hu2 : ¬ spM V x1 x2 t b0 = 0 ∧ u2 = X := hu
      obtain ⟨-, rfl⟩ := hu2
      have hW : wd g _ s.heap (lwB g h q na ta pa hq hh aa ra sa h2 a2 z V TV SV o n HV NN T k V u2) H locs := hW
      have hP := hW.1
      refine lv_icmp_eq (tgt := 831) hx hb dL_law_318 (by decide) (fun _ => ?_) (fun q9 => absurd hEq q9)
      exact K d0 z V TV SV o n HV NN T k u2 H locs ls hd0 (hR.mono (by omega)) hW hl
    · exact absurd (hEq.trans (show spM V x1 x2 t b0 = 0 ∧ _ from hu).1) (show ¬ spE V x1 x2 t b0 = 0 from by assumption)
  · have hu : spE V x1 x2 t b0 = 0 := hu
    have hW : wd g _ s.heap (lwB g h q na ta pa hq hh aa ra sa h2 a2 z (up2 (up2 V 10 (t * 5 + b0) 0) 2 t (V 2 t + 2)) TV SV (recO o n) (recS n) (recH o n HV V) NN T k V X) H locs := hW
    have hP := hW.1
    refine b_top (y := V 10 (t * 5 + b0)) rfl ?_
    refine lv_aload_n hx hb dL_law_304 rfl (lv_at hl 2 rfl) ?_
    refine lw_arg hx hb hX hbl hbA hW.2.2 hl 1 (by decide) hx1 (by omega) hL dL_law_305 dL_law_306 dL_law_307 dL_law_308 dL_law_309 ?_
    refine lw_arg hx hb hX hbl hbA hW.2.2 hl 2 (by decide) hx2 (by omega) hL dL_law_310 dL_law_311 dL_law_312 dL_law_313 dL_law_314 ?_
    refine call_VU (As := [.int x1, .int x2]) (rest := [.int (V 10 (t * 5 + b0))]) E rfl hK hW (c_X5_splice l g h2 a2 V X x1 x2 t b0 (cq t) n hn9 hn5 (fun q9 => ⟨(hxy q9).1, ht, (hxy q9).2.2.1, hb5⟩) hxt (fun _ => hc t ht)) ok_X5_splice rfl q3_126 [12] rfl (by decide) (b_recv hK hP 12 0 rfl rfl rfl rfl) ⟨⟨rfl, rfl⟩, Nat.le_of_ble_eq_true rfl, Nat.le_of_ble_eq_true rfl⟩ hl.1 (Nat.le_of_ble_eq_true rfl) ⟨Nat.le_refl _, Nat.le_refl _⟩ rfl dL_law_315 (fun u H locs hu hW => ?_)
    obtain ⟨u1, u2⟩ := u
    cases u1
    · exact absurd (hEq.symm.trans (show spE V x1 x2 t b0 = 0 from by assumption)) (show ¬ spM V x1 x2 t b0 = 0 ∧ _ from hu).1
    · have hu2 : spM V x1 x2 t b0 = 0 ∧ recP V X u2 n := hu
      have hI := inv_spl (t := t) (j := t * 5 + b0) (x := V 2 t + 2) hV
      have hW : wd g _ s.heap (lwB g h q na ta pa hq hh aa ra sa h2 a2 z (up2 (up2 V 10 (t * 5 + b0) 0) 2 t (V 2 t + 2)) TV SV (recO o n) (recS n) (recH o n HV V) NN T k (up2 (up2 V 10 (t * 5 + b0) 0) 2 t (V 2 t + 2)) u2) H locs := hW
      have hP := hW.1
      refine lv_icmp_eq (tgt := 831) hx hb dL_law_318 (by decide) (fun _ => ?_) (fun q9 => absurd rfl q9)
      exact K d0 z (up2 (up2 V 10 (t * 5 + b0) 0) 2 t (V 2 t + 2)) TV SV (recO o n) (recS n) (recH o n HV V) NN T k u2 H locs ls hd0 ((hR.rec hu2.2 hI (by omega)).mono (by omega)) hW hl
set_option maxHeartbeats 4000000 in
set_option maxRecDepth 100000 in
theorem cs_feast (hE : ent p s m meth c yL_law code 8 (some .boolean) [.ref b]) (hKq : kq g s) (hX : va_X b L xs s s.heap) (hbl : b < s.heap.size) (hL : L ≤ 2048) (hi : i + 4 ≤ L) (hB : B ≤ 700000) (K : LwC p l e s m below meth c b g h q na ta pa hq hh aa ra sa h2 a2 i (B + 1200) 831) : LwC p l e s m below meth c b g h q na ta pa hq hh aa ra sa h2 a2 i B 323 := by
  intro d0 z V TV SV o n HV NN T k X H locs ls hd0 hR hW hl
  obtain ⟨hx, hb, hr, hml, hts, hown, hlocks, hin⟩ := id hE
  have E := ent_dr hE d0
  have hK : kx g (s.setDrawn d0) := (kq_dr hKq d0).1
  have hX : va_X b L xs (s.setDrawn d0) s.heap := hX
  have hbA : ¬ (fun q : Nat => s.heap.size ≤ q) b := Nat.not_le.mpr hbl
  obtain ⟨⟨cq, hV⟩, ho, hn5, hk, hT, hn9, hH, hSn, htx⟩ := id hR
  have hc : ∀ t, t < 6 → V 3 t = nI (cq t) ∧ cq t ≤ 5 := fun t ht => ⟨(hV.1 t ht).1, (hV.1 t ht).2.1⟩
  have hP := hW.1
  obtain ⟨x1, hx1⟩ : ∃ y : Int32, xs (i + 1) = y := ⟨_, rfl⟩
  obtain ⟨x2, hx2⟩ : ∃ y : Int32, xs (i + 2) = y := ⟨_, rfl⟩
  obtain ⟨t, ht, hxt⟩ := ex_t x1
  have hEq : feE x1 x2 = feM x1 x2 := fe_eq
  refine lv_aload_n hx hb dL_law_323 rfl (lv_at hl 1 rfl) ?_
  refine lw_arg hx hb hX hbl hbA hW.2.2 hl 1 (by decide) hx1 (by omega) hL dL_law_324 dL_law_325 dL_law_326 dL_law_327 dL_law_328 ?_
  refine lw_arg hx hb hX hbl hbA hW.2.2 hl 2 (by decide) hx2 (by omega) hL dL_law_329 dL_law_330 dL_law_331 dL_law_332 dL_law_333 ?_
  refine call_VU (As := [.int x1, .int x2]) (rest := []) E rfl hK hW (c_X4_feast l g h q z na V ta TV pa SV hq hh o n aa HV ra NN sa T k x1 x2 t ho hn5 hk hxt) ok_X4_feast rfl q2_40 [0, 1, 2, 3, 4, 5, 6, 7, 8, 9, 10, 11] rfl (by decide) (b_recv hK hP 0 0 rfl rfl rfl rfl) ⟨⟨rfl, rfl⟩, Nat.le_of_ble_eq_true rfl, Nat.le_of_ble_eq_true rfl⟩ hl.1 (Nat.le_of_ble_eq_true rfl) ⟨Nat.le_refl _, Nat.le_refl _⟩ rfl dL_law_334 (fun u H locs hu hW => ?_)
  cases u
  · have hu : ¬ feE x1 x2 = 0 := hu
    have hW : wd g _ s.heap (lwB g h q na ta pa hq hh aa ra sa h2 a2 z V TV SV o n HV NN T k V X) H locs := hW
    have hP := hW.1
    refine b_top (y := feE x1 x2) rfl ?_
    refine lv_aload_n hx hb dL_law_337 rfl (lv_at hl 2 rfl) ?_
    refine lw_arg hx hb hX hbl hbA hW.2.2 hl 1 (by decide) hx1 (by omega) hL dL_law_338 dL_law_339 dL_law_340 dL_law_341 dL_law_342 ?_
    refine lw_arg hx hb hX hbl hbA hW.2.2 hl 2 (by decide) hx2 (by omega) hL dL_law_343 dL_law_344 dL_law_345 dL_law_346 dL_law_347 ?_
    refine call_VU (As := [.int x1, .int x2]) (rest := [.int (feE x1 x2)]) E rfl hK hW (c_X5_feast l g h2 a2 V X x1 x2 t n hn9 hn5 hxt) ok_X5_feast rfl q3_138 [12] rfl (by decide) (b_recv hK hP 12 0 rfl rfl rfl rfl) ⟨⟨rfl, rfl⟩, Nat.le_of_ble_eq_true rfl, Nat.le_of_ble_eq_true rfl⟩ hl.1 (Nat.le_of_ble_eq_true rfl) ⟨Nat.le_refl _, Nat.le_refl _⟩ rfl dL_law_348 (fun u H locs hu hW => ?_)
    obtain ⟨u1, u2⟩ := u
    cases u1
    · have hu2 : ¬ feM x1 x2 = 0 ∧ u2 = X := hu
      obtain ⟨-, rfl⟩ := hu2
      have hW : wd g _ s.heap (lwB g h q na ta pa hq hh aa ra sa h2 a2 z V TV SV o n HV NN T k V u2) H locs := hW
      have hP := hW.1
      refine lv_icmp_eq (tgt := 831) hx hb dL_law_351 (by decide) (fun _ => ?_) (fun q9 => absurd hEq q9)
      exact K d0 z V TV SV o n HV NN T k u2 H locs ls hd0 (hR.mono (by omega)) hW hl
    · exact absurd (hEq.trans (show feM x1 x2 = 0 ∧ _ from hu).1) (show ¬ feE x1 x2 = 0 from by assumption)
  · have hu : feE x1 x2 = 0 := hu
    have hW : wd g _ s.heap (lwB g h q na ta pa hq hh aa ra sa h2 a2 z (up2 V 5 t x2) TV SV (recO o n) (recS n) (recH o n HV V) NN T k V X) H locs := hW
    have hP := hW.1
    refine b_top (y := V 5 t) rfl ?_
    refine lv_aload_n hx hb dL_law_337 rfl (lv_at hl 2 rfl) ?_
    refine lw_arg hx hb hX hbl hbA hW.2.2 hl 1 (by decide) hx1 (by omega) hL dL_law_338 dL_law_339 dL_law_340 dL_law_341 dL_law_342 ?_
    refine lw_arg hx hb hX hbl hbA hW.2.2 hl 2 (by decide) hx2 (by omega) hL dL_law_343 dL_law_344 dL_law_345 dL_law_346 dL_law_347 ?_
    refine call_VU (As := [.int x1, .int x2]) (rest := [.int (V 5 t)]) E rfl hK hW (c_X5_feast l g h2 a2 V X x1 x2 t n hn9 hn5 hxt) ok_X5_feast rfl q3_138 [12] rfl (by decide) (b_recv hK hP 12 0 rfl rfl rfl rfl) ⟨⟨rfl, rfl⟩, Nat.le_of_ble_eq_true rfl, Nat.le_of_ble_eq_true rfl⟩ hl.1 (Nat.le_of_ble_eq_true rfl) ⟨Nat.le_refl _, Nat.le_refl _⟩ rfl dL_law_348 (fun u H locs hu hW => ?_)
    obtain ⟨u1, u2⟩ := u
    cases u1
    · exact absurd (hEq.symm.trans (show feE x1 x2 = 0 from by assumption)) (show ¬ feM x1 x2 = 0 ∧ _ from hu).1
    · have hu2 : feM x1 x2 = 0 ∧ recP V X u2 n := hu
      have hI := hV.put (k := 5) (j := t) (x := x2) (by omega)
      have hW : wd g _ s.heap (lwB g h q na ta pa hq hh aa ra sa h2 a2 z (up2 V 5 t x2) TV SV (recO o n) (recS n) (recH o n HV V) NN T k (up2 V 5 t x2) u2) H locs := hW
      have hP := hW.1
      refine lv_icmp_eq (tgt := 831) hx hb dL_law_351 (by decide) (fun _ => ?_) (fun q9 => absurd rfl q9)
      exact K d0 z (up2 V 5 t x2) TV SV (recO o n) (recS n) (recH o n HV V) NN T k u2 H locs ls hd0 ((hR.rec hu2.2 hI (by omega)).mono (by omega)) hW hl
set_option maxHeartbeats 4000000 in
set_option maxRecDepth 100000 in
theorem cs_set (hE : ent p s m meth c yL_law code 8 (some .boolean) [.ref b]) (hKq : kq g s) (hX : va_X b L xs s s.heap) (hbl : b < s.heap.size) (hL : L ≤ 2048) (hi : i + 4 ≤ L) (hB : B ≤ 700000) (K : LwC p l e s m below meth c b g h q na ta pa hq hh aa ra sa h2 a2 i (B + 1200) 831) : LwC p l e s m below meth c b g h q na ta pa hq hh aa ra sa h2 a2 i B 356 := by
  intro d0 z V TV SV o n HV NN T k X H locs ls hd0 hR hW hl
  obtain ⟨hx, hb, hr, hml, hts, hown, hlocks, hin⟩ := id hE
  have E := ent_dr hE d0
  have hK : kx g (s.setDrawn d0) := (kq_dr hKq d0).1
  have hX : va_X b L xs (s.setDrawn d0) s.heap := hX
  have hbA : ¬ (fun q : Nat => s.heap.size ≤ q) b := Nat.not_le.mpr hbl
  obtain ⟨⟨cq, hV⟩, ho, hn5, hk, hT, hn9, hH, hSn, htx⟩ := id hR
  have hc : ∀ t, t < 6 → V 3 t = nI (cq t) ∧ cq t ≤ 5 := fun t ht => ⟨(hV.1 t ht).1, (hV.1 t ht).2.1⟩
  have hP := hW.1
  obtain ⟨x1, hx1⟩ : ∃ y : Int32, xs (i + 1) = y := ⟨_, rfl⟩
  obtain ⟨x2, hx2⟩ : ∃ y : Int32, xs (i + 2) = y := ⟨_, rfl⟩
  obtain ⟨j, hj, hxj⟩ := ex_in x1 0 1 (by omega) (by omega)
  have hEq : stE x1 x2 = stM x1 x2 := st_eq'
  refine lv_aload_n hx hb dL_law_356 rfl (lv_at hl 1 rfl) ?_
  refine lw_arg hx hb hX hbl hbA hW.2.2 hl 1 (by decide) hx1 (by omega) hL dL_law_357 dL_law_358 dL_law_359 dL_law_360 dL_law_361 ?_
  refine lw_arg hx hb hX hbl hbA hW.2.2 hl 2 (by decide) hx2 (by omega) hL dL_law_362 dL_law_363 dL_law_364 dL_law_365 dL_law_366 ?_
  refine call_VU (As := [.int x1, .int x2]) (rest := []) E rfl hK hW (c_X4_set l g h q z na V ta TV pa SV hq hh o n aa HV ra NN sa T k x1 x2 ho hn5 hk) ok_X4_set rfl q2_44 [0, 1, 2, 3, 4, 5, 6, 7, 8, 9, 10, 11] rfl (by decide) (b_recv hK hP 0 0 rfl rfl rfl rfl) ⟨⟨rfl, rfl⟩, Nat.le_of_ble_eq_true rfl, Nat.le_of_ble_eq_true rfl⟩ hl.1 (Nat.le_of_ble_eq_true rfl) ⟨Nat.le_refl _, Nat.le_refl _⟩ rfl dL_law_367 (fun u H locs hu hW => ?_)
  cases u
  · have hu : ¬ stE x1 x2 = 0 := hu
    have hW : wd g _ s.heap (lwB g h q na ta pa hq hh aa ra sa h2 a2 z V TV SV o n HV NN T k V X) H locs := hW
    have hP := hW.1
    refine b_top (y := stE x1 x2) rfl ?_
    refine lv_aload_n hx hb dL_law_370 rfl (lv_at hl 2 rfl) ?_
    refine lw_arg hx hb hX hbl hbA hW.2.2 hl 1 (by decide) hx1 (by omega) hL dL_law_371 dL_law_372 dL_law_373 dL_law_374 dL_law_375 ?_
    refine lw_arg hx hb hX hbl hbA hW.2.2 hl 2 (by decide) hx2 (by omega) hL dL_law_376 dL_law_377 dL_law_378 dL_law_379 dL_law_380 ?_
    refine call_VU (As := [.int x1, .int x2]) (rest := [.int (stE x1 x2)]) E rfl hK hW (c_X5_set l g h2 a2 V X x1 x2 j n hn9 hn5 (fun q9 => ⟨(hxj q9).1, by omega⟩)) ok_X5_set rfl q3_142 [12] rfl (by decide) (b_recv hK hP 12 0 rfl rfl rfl rfl) ⟨⟨rfl, rfl⟩, Nat.le_of_ble_eq_true rfl, Nat.le_of_ble_eq_true rfl⟩ hl.1 (Nat.le_of_ble_eq_true rfl) ⟨Nat.le_refl _, Nat.le_refl _⟩ rfl dL_law_381 (fun u H locs hu hW => ?_)
    obtain ⟨u1, u2⟩ := u
    cases u1
    · have hu2 : ¬ stM x1 x2 = 0 ∧ u2 = X := hu
      obtain ⟨-, rfl⟩ := hu2
      have hW : wd g _ s.heap (lwB g h q na ta pa hq hh aa ra sa h2 a2 z V TV SV o n HV NN T k V u2) H locs := hW
      have hP := hW.1
      refine lv_icmp_eq (tgt := 831) hx hb dL_law_384 (by decide) (fun _ => ?_) (fun q9 => absurd hEq q9)
      exact K d0 z V TV SV o n HV NN T k u2 H locs ls hd0 (hR.mono (by omega)) hW hl
    · exact absurd (hEq.trans (show stM x1 x2 = 0 ∧ _ from hu).1) (show ¬ stE x1 x2 = 0 from by assumption)
  · have hu : stE x1 x2 = 0 := hu
    have hW : wd g _ s.heap (lwB g h q na ta pa hq hh aa ra sa h2 a2 z (if x1 = 0 then up2 V 12 0 x2 else up2 V 12 1 x2) TV SV (recO o n) (recS n) (recH o n HV V) NN T k V X) H locs := hW
    have hP := hW.1
    refine b_top (y := if x1 = 0 then V 12 0 else V 12 1) rfl ?_
    refine lv_aload_n hx hb dL_law_370 rfl (lv_at hl 2 rfl) ?_
    refine lw_arg hx hb hX hbl hbA hW.2.2 hl 1 (by decide) hx1 (by omega) hL dL_law_371 dL_law_372 dL_law_373 dL_law_374 dL_law_375 ?_
    refine lw_arg hx hb hX hbl hbA hW.2.2 hl 2 (by decide) hx2 (by omega) hL dL_law_376 dL_law_377 dL_law_378 dL_law_379 dL_law_380 ?_
    refine call_VU (As := [.int x1, .int x2]) (rest := [.int (if x1 = 0 then V 12 0 else V 12 1)]) E rfl hK hW (c_X5_set l g h2 a2 V X x1 x2 j n hn9 hn5 (fun q9 => ⟨(hxj q9).1, by omega⟩)) ok_X5_set rfl q3_142 [12] rfl (by decide) (b_recv hK hP 12 0 rfl rfl rfl rfl) ⟨⟨rfl, rfl⟩, Nat.le_of_ble_eq_true rfl, Nat.le_of_ble_eq_true rfl⟩ hl.1 (Nat.le_of_ble_eq_true rfl) ⟨Nat.le_refl _, Nat.le_refl _⟩ rfl dL_law_381 (fun u H locs hu hW => ?_)
    obtain ⟨u1, u2⟩ := u
    cases u1
    · exact absurd (hEq.symm.trans (show stE x1 x2 = 0 from by assumption)) (show ¬ stM x1 x2 = 0 ∧ _ from hu).1
    · have hu2 : stM x1 x2 = 0 ∧ recP V X u2 n := hu
      obtain ⟨hin1, hin2⟩ := stM_0 hu2.1
      have hx1j := (hxj hin1).1
      have hVr : (if x1 = 0 then up2 V 12 0 x2 else up2 V 12 1 x2) = up2 V 12 j x2 ∧ (if x1 = 0 then V 12 0 else V 12 1) = V 12 j ∧ InvV (up2 V 12 j x2) cq B := by
        rcases (show j = 0 ∨ j = 1 by omega) with rfl | rfl
        · have e0 : x1 = 0 := hx1j
          exact ⟨if_pos e0, if_pos e0, hV.put (by omega)⟩
        · have e1 : x1 = 1 := hx1j
          have e0 : ¬ x1 = 0 := by rw [e1]; decide
          exact ⟨if_neg e0, if_neg e0, inv_set1 hV (hin2.elim (fun q9 => absurd q9.1 e0) (fun q9 => q9.2))⟩
      obtain ⟨hVe, hRe, hI0⟩ := hVr
      have hI := hI0
      rw [← hVe] at hI
      have hW : wd g _ s.heap (lwB g h q na ta pa hq hh aa ra sa h2 a2 z (if x1 = 0 then up2 V 12 0 x2 else up2 V 12 1 x2) TV SV (recO o n) (recS n) (recH o n HV V) NN T k (up2 V 12 j x2) u2) H locs := hW
      have hP := hW.1
      rw [← hVe] at hW
      refine lv_icmp_eq (tgt := 831) hx hb dL_law_384 (by decide) (fun _ => ?_) (fun q9 => absurd (hRe) q9)
      exact K d0 z (if x1 = 0 then up2 V 12 0 x2 else up2 V 12 1 x2) TV SV (recO o n) (recS n) (recH o n HV V) NN T k u2 H locs ls hd0 ((hR.rec hu2.2 hI (by omega)).mono (by omega)) hW hl
end LAW
