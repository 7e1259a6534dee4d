section LAW
variable {p : Program} {l : Launch} {e : Env} {s : State} {m : MethodId} {below : List Frame} {meth : Method} {c : Code} {b : Nat} {g : gx} {h : Nat} {q : Nat → Nat} {na ta pa : Nat → Nat} {hq : Nat} {hh : Nat → Nat} {aa : Nat → Nat → Nat} {ra : Nat → Nat} {sa h2 : Nat} {a2 : Nat → Nat} {i B L : Nat} {xs : Nat → Int32}
set_option maxHeartbeats 4000000 in
set_option maxRecDepth 100000 in
theorem cs_hang (hE : ent p s m meth c yL_law code 8 (some .boolean) [.ref b]) (hKq : kq g s) (hX : va_X b L xs s s.heap) (hbl : b < s.heap.size) (hL : L ≤ 2048) (hi : i + 4 ≤ L) (hB : B ≤ 700000) (K : LwC p l e s m below meth c b g h q na ta pa hq hh aa ra sa h2 a2 i (B + 1200) 831) : LwC p l e s m below meth c b g h q na ta pa hq hh aa ra sa h2 a2 i B 148 := by
  intro d0 z V TV SV o n HV NN T k X H locs ls hd0 hR hW hl
  obtain ⟨hx, hb, hr, hml, hts, hown, hlocks, hin⟩ := id hE
  have E := ent_dr hE d0
  have hK : kx g (s.setDrawn d0) := (kq_dr hKq d0).1
  have hX : va_X b L xs (s.setDrawn d0) s.heap := hX
  have hbA : ¬ (fun q : Nat => s.heap.size ≤ q) b := Nat.not_le.mpr hbl
  obtain ⟨⟨cq, hV⟩, ho, hn5, hk, hT, hn9, hH, hSn, htx⟩ := id hR
  have hc : ∀ t, t < 6 → V 3 t = nI (cq t) ∧ cq t ≤ 5 := fun t ht => ⟨(hV.1 t ht).1, (hV.1 t ht).2.1⟩
  have hP := hW.1
  obtain ⟨x1, hx1⟩ : ∃ y : Int32, xs (i + 1) = y := ⟨_, rfl⟩
  obtain ⟨x2, hx2⟩ : ∃ y : Int32, xs (i + 2) = y := ⟨_, rfl⟩
  obtain ⟨t, ht, hxt⟩ := ex_t x1
  have hEq : hnE V x1 x2 (cq t) = hnM x1 x2 (cq t) := hn_eq (hc t ht).2
  refine lv_aload_n hx hb dL_law_148 rfl (lv_at hl 1 rfl) ?_
  refine lw_arg hx hb hX hbl hbA hW.2.2 hl 1 (by decide) hx1 (by omega) hL dL_law_149 dL_law_150 dL_law_151 dL_law_152 dL_law_153 ?_
  refine lw_arg hx hb hX hbl hbA hW.2.2 hl 2 (by decide) hx2 (by omega) hL dL_law_154 dL_law_155 dL_law_156 dL_law_157 dL_law_158 ?_
  refine call_VU (As := [.int x1, .int x2]) (rest := []) E rfl hK hW (c_X4_hang l g h q z na V ta TV pa SV hq hh o n aa HV ra NN sa T k x1 x2 t ho hn5 hk hxt (cq t) (fun _ => hc t ht)) ok_X4_hang rfl q1_184 [0, 1, 2, 3, 4, 5, 6, 7, 8, 9, 10, 11] rfl (by decide) (b_recv hK hP 0 0 rfl rfl rfl rfl) ⟨⟨rfl, rfl⟩, Nat.le_of_ble_eq_true rfl, Nat.le_of_ble_eq_true rfl⟩ hl.1 (Nat.le_of_ble_eq_true rfl) ⟨Nat.le_refl _, Nat.le_refl _⟩ rfl dL_law_159 (fun u H locs hu hW => ?_)
  cases u
  · have hu : ¬ hnE V x1 x2 (cq t) = 0 := hu
    have hW : wd g _ s.heap (lwB g h q na ta pa hq hh aa ra sa h2 a2 z V TV SV o n HV NN T k V X) H locs := hW
    have hP := hW.1
    refine b_top (y := hnE V x1 x2 (cq t)) rfl ?_
    refine lv_aload_n hx hb dL_law_162 rfl (lv_at hl 2 rfl) ?_
    refine lw_arg hx hb hX hbl hbA hW.2.2 hl 1 (by decide) hx1 (by omega) hL dL_law_163 dL_law_164 dL_law_165 dL_law_166 dL_law_167 ?_
    refine lw_arg hx hb hX hbl hbA hW.2.2 hl 2 (by decide) hx2 (by omega) hL dL_law_168 dL_law_169 dL_law_170 dL_law_171 dL_law_172 ?_
    refine call_VU (As := [.int x1, .int x2]) (rest := [.int (hnE V x1 x2 (cq t))]) E rfl hK hW (c_X5_hang l g h2 a2 V X x1 x2 t (cq t) n hn9 hn5 hxt (fun _ => hc t ht)) ok_X5_hang rfl q3_84 [12] rfl (by decide) (b_recv hK hP 12 0 rfl rfl rfl rfl) ⟨⟨rfl, rfl⟩, Nat.le_of_ble_eq_true rfl, Nat.le_of_ble_eq_true rfl⟩ hl.1 (Nat.le_of_ble_eq_true rfl) ⟨Nat.le_refl _, Nat.le_refl _⟩ rfl dL_law_173 (fun u H locs hu hW => ?_)
    obtain ⟨u1, u2⟩ := u
    cases u1
    · have hu2 : ¬ hnM x1 x2 (cq t) = 0 ∧ u2 = X := hu
      obtain ⟨-, rfl⟩ := hu2
      have hW : wd g _ s.heap (lwB g h q na ta pa hq hh aa ra sa h2 a2 z V TV SV o n HV NN T k V u2) H locs := hW
      have hP := hW.1
      refine lv_icmp_eq (tgt := 831) hx hb dL_law_176 (by decide) (fun _ => ?_) (fun q9 => absurd hEq q9)
      exact K d0 z V TV SV o n HV NN T k u2 H locs ls hd0 (hR.mono (by omega)) hW hl
    · exact absurd (hEq.trans (show hnM x1 x2 (cq t) = 0 ∧ _ from hu).1) (show ¬ hnE V x1 x2 (cq t) = 0 from by assumption)
  · have hu : hnE V x1 x2 (cq t) = 0 := hu
    have hW : wd g _ s.heap (lwB g h q na ta pa hq hh aa ra sa h2 a2 z (addV V t (cq t) x2) TV SV (recO o n) (recS n) (recH o n HV V) NN T k V X) H locs := hW
    have hP := hW.1
    refine b_top (y := nI (cq t)) rfl ?_
    refine lv_aload_n hx hb dL_law_162 rfl (lv_at hl 2 rfl) ?_
    refine lw_arg hx hb hX hbl hbA hW.2.2 hl 1 (by decide) hx1 (by omega) hL dL_law_163 dL_law_164 dL_law_165 dL_law_166 dL_law_167 ?_
    refine lw_arg hx hb hX hbl hbA hW.2.2 hl 2 (by decide) hx2 (by omega) hL dL_law_168 dL_law_169 dL_law_170 dL_law_171 dL_law_172 ?_
    refine call_VU (As := [.int x1, .int x2]) (rest := [.int (nI (cq t))]) E rfl hK hW (c_X5_hang l g h2 a2 V X x1 x2 t (cq t) n hn9 hn5 hxt (fun _ => hc t ht)) ok_X5_hang rfl q3_84 [12] rfl (by decide) (b_recv hK hP 12 0 rfl rfl rfl rfl) ⟨⟨rfl, rfl⟩, Nat.le_of_ble_eq_true rfl, Nat.le_of_ble_eq_true rfl⟩ hl.1 (Nat.le_of_ble_eq_true rfl) ⟨Nat.le_refl _, Nat.le_refl _⟩ rfl dL_law_173 (fun u H locs hu hW => ?_)
    obtain ⟨u1, u2⟩ := u
    cases u1
    · exact absurd (hEq.symm.trans (show hnE V x1 x2 (cq t) = 0 from by assumption)) (show ¬ hnM x1 x2 (cq t) = 0 ∧ _ from hu).1
    · have hu2 : hnM x1 x2 (cq t) = 0 ∧ recP V X u2 n := hu
      have hI := inv_add (w := x2) hV ht rfl (hnE_0 (hEq.trans hu2.1))
      have hW : wd g _ s.heap (lwB g h q na ta pa hq hh aa ra sa h2 a2 z (addV V t (cq t) x2) TV SV (recO o n) (recS n) (recH o n HV V) NN T k (addV V t (cq t) x2) u2) H locs := hW
      have hP := hW.1
      refine lv_icmp_eq (tgt := 831) hx hb dL_law_176 (by decide) (fun _ => ?_) (fun q9 => absurd rfl q9)
      exact K d0 z (addV V t (cq t) x2) TV SV (recO o n) (recS n) (recH o n HV V) NN T k u2 H locs ls hd0 ((hR.rec hu2.2 hI (by omega)).mono (by omega)) hW hl
set_option maxHeartbeats 4000000 in
set_option maxRecDepth 100000 in
theorem cs_melt (hE : ent p s m meth c yL_law code 8 (some .boolean) [.ref b]) (hKq : kq g s) (hX : va_X b L xs s s.heap) (hbl : b < s.heap.size) (hL : L ≤ 2048) (hi : i + 4 ≤ L) (hB : B ≤ 700000) (K : LwC p l e s m below meth c b g h q na ta pa hq hh aa ra sa h2 a2 i (B + 1200) 831) : LwC p l e s m below meth c b g h q na ta pa hq hh aa ra sa h2 a2 i B 181 := by
  intro d0 z V TV SV o n HV NN T k X H locs ls hd0 hR hW hl
  obtain ⟨hx, hb, hr, hml, hts, hown, hlocks, hin⟩ := id hE
  have E := ent_dr hE d0
  have hK : kx g (s.setDrawn d0) := (kq_dr hKq d0).1
  have hX : va_X b L xs (s.setDrawn d0) s.heap := hX
  have hbA : ¬ (fun q : Nat => s.heap.size ≤ q) b := Nat.not_le.mpr hbl
  obtain ⟨⟨cq, hV⟩, ho, hn5, hk, hT, hn9, hH, hSn, htx⟩ := id hR
  have hc : ∀ t, t < 6 → V 3 t = nI (cq t) ∧ cq t ≤ 5 := fun t ht => ⟨(hV.1 t ht).1, (hV.1 t ht).2.1⟩
  have hP := hW.1
  obtain ⟨x1, hx1⟩ : ∃ y : Int32, xs (i + 1) = y := ⟨_, rfl⟩
  obtain ⟨x2, hx2⟩ : ∃ y : Int32, xs (i + 2) = y := ⟨_, rfl⟩
  obtain ⟨t, b0, ht, hb5, hxt, hxy⟩ := ex_tb hV x1 x2
  have hEq : meE V x1 x2 = meE V x1 x2 := rfl
  refine lv_aload_n hx hb dL_law_181 rfl (lv_at hl 1 rfl) ?_
  refine lw_arg hx hb hX hbl hbA hW.2.2 hl 1 (by decide) hx1 (by omega) hL dL_law_182 dL_law_183 dL_law_184 dL_law_185 dL_law_186 ?_
  refine lw_arg hx hb hX hbl hbA hW.2.2 hl 2 (by decide) hx2 (by omega) hL dL_law_187 dL_law_188 dL_law_189 dL_law_190 dL_law_191 ?_
  refine call_VU (As := [.int x1, .int x2]) (rest := []) E rfl hK hW (c_X4_melt l g h q z na V ta TV pa SV hq hh o n aa HV ra NN sa T k x1 x2 t b0 (cq t) ho hn5 hk (fun q9 => ⟨(hxy q9).1, ht, (hxy q9).2.2.1, (hxy q9).2.2.2, hc t ht⟩)) ok_X4_melt rfl q1_223 [0, 1, 2, 3, 4, 5, 6, 7, 8, 9, 10, 11] rfl (by decide) (b_recv hK hP 0 0 rfl rfl rfl rfl) ⟨⟨rfl, rfl⟩, Nat.le_of_ble_eq_true rfl, Nat.le_of_ble_eq_true rfl⟩ hl.1 (Nat.le_of_ble_eq_true rfl) ⟨Nat.le_refl _, Nat.le_refl _⟩ rfl dL_law_192 (fun u H locs hu hW => ?_)
  cases u
  · have hu : ¬ meE V x1 x2 = 0 := hu
    have hW : wd g _ s.heap (lwB g h q na ta pa hq hh aa ra sa h2 a2 z V TV SV o n HV NN T k V X) H locs := hW
    have hP := hW.1
    refine b_top (y := meE V x1 x2) rfl ?_
    refine lv_aload_n hx hb dL_law_195 rfl (lv_at hl 2 rfl) ?_
    refine lw_arg hx hb hX hbl hbA hW.2.2 hl 1 (by decide) hx1 (by omega) hL dL_law_196 dL_law_197 dL_law_198 dL_law_199 dL_law_200 ?_
    refine lw_arg hx hb hX hbl hbA hW.2.2 hl 2 (by decide) hx2 (by omega) hL dL_law_201 dL_law_202 dL_law_203 dL_law_204 dL_law_205 ?_
    refine call_VU (As := [.int x1, .int x2]) (rest := [.int (meE V x1 x2)]) E rfl hK hW (c_X5_melt l g h2 a2 V X x1 x2 t b0 (cq t) n hn9 hn5 hxy hxt (fun _ => hc t ht)) ok_X5_melt rfl q3_98 [12] rfl (by decide) (b_recv hK hP 12 0 rfl rfl rfl rfl) ⟨⟨rfl, rfl⟩, Nat.le_of_ble_eq_true rfl, Nat.le_of_ble_eq_true rfl⟩ hl.1 (Nat.le_of_ble_eq_true rfl) ⟨Nat.le_refl _, Nat.le_refl _⟩ rfl dL_law_206 (fun u H locs hu hW => ?_)
    obtain ⟨u1, u2⟩ := u
    cases u1
    · have hu2 : ¬ meE V x1 x2 = 0 ∧ u2 = X := hu
      obtain ⟨-, rfl⟩ := hu2
      have hW : wd g _ s.heap (lwB g h q na ta pa hq hh aa ra sa h2 a2 z V TV SV o n HV NN T k V u2) H locs := hW
      have hP := hW.1
      refine lv_icmp_eq (tgt := 831) hx hb dL_law_209 (by decide) (fun _ => ?_) (fun q9 => absurd hEq q9)
      exact K d0 z V TV SV o n HV NN T k u2 H locs ls hd0 (hR.mono (by omega)) hW hl
    · exact absurd (hEq.trans (show meE V x1 x2 = 0 ∧ _ from hu).1) (show ¬ meE V x1 x2 = 0 from by assumption)
  · have hu : meE V x1 x2 = 0 := hu
    have hW : wd g _ s.heap (lwB g h q na ta pa hq hh aa ra sa h2 a2 z (remV V t b0 (cq t)) TV SV (recO o n) (recS n) (recH o n HV V) NN T k V X) H locs := hW
    have hP := hW.1
    refine b_top (y := V 9 (t * 5 + b0)) rfl ?_
    refine lv_aload_n hx hb dL_law_195 rfl (lv_at hl 2 rfl) ?_
    refine lw_arg hx hb hX hbl hbA hW.2.2 hl 1 (by decide) hx1 (by omega) hL dL_law_196 dL_law_197 dL_law_198 dL_law_199 dL_law_200 ?_
    refine lw_arg hx hb hX hbl hbA hW.2.2 hl 2 (by decide) hx2 (by omega) hL dL_law_201 dL_law_202 dL_law_203 dL_law_204 dL_law_205 ?_
    refine call_VU (As := [.int x1, .int x2]) (rest := [.int (V 9 (t * 5 + b0))]) E rfl hK hW (c_X5_melt l g h2 a2 V X x1 x2 t b0 (cq t) n hn9 hn5 hxy hxt (fun _ => hc t ht)) ok_X5_melt rfl q3_98 [12] rfl (by decide) (b_recv hK hP 12 0 rfl rfl rfl rfl) ⟨⟨rfl, rfl⟩, Nat.le_of_ble_eq_true rfl, Nat.le_of_ble_eq_true rfl⟩ hl.1 (Nat.le_of_ble_eq_true rfl) ⟨Nat.le_refl _, Nat.le_refl _⟩ rfl dL_law_206 (fun u H locs hu hW => ?_)
    obtain ⟨u1, u2⟩ := u
    cases u1
    · exact absurd (hEq.symm.trans (show meE V x1 x2 = 0 from by assumption)) (show ¬ meE V x1 x2 = 0 ∧ _ from hu).1
    · have hu2 : meE V x1 x2 = 0 ∧ recP V X u2 n := hu
      have hbc := (hxy (meE_0 hu2.1)).2.2.2
      have hI := inv_rem hV ht rfl hbc
      obtain ⟨-, -, pp, hp1, hp2⟩ := hV.1 t ht
      have hVe : remV V t b0 (cq t) = melM V t b0 (cq t) := mel_eq hbc (hc t ht).2 hp1 hp2 (fun b9 q1 q2 => hV.2.2.2.2.1 t b9 ht q1 q2)
      have hW : wd g _ s.heap (lwB g h q na ta pa hq hh aa ra sa h2 a2 z (remV V t b0 (cq t)) TV SV (recO o n) (recS n) (recH o n HV V) NN T k (melM V t b0 (cq t)) u2) H locs := hW
      have hP := hW.1
      rw [← hVe] at hW
      refine lv_icmp_eq (tgt := 831) hx hb dL_law_209 (by decide) (fun _ => ?_) (fun q9 => absurd rfl q9)
      exact K d0 z (remV V t b0 (cq t)) TV SV (recO o n) (recS n) (recH o n HV V) NN T k u2 H locs ls hd0 ((hR.rec hu2.2 hI (by omega)).mono (by omega)) hW hl
set_option maxHeartbeats 4000000 in
set_option maxRecDepth 100000 in
theorem cs_settle (hE : ent p s m meth c yL_law code 8 (some .boolean) [.ref b]) (hKq : kq g s) (hX : va_X b L xs s s.heap) (hbl : b < s.heap.size) (hL : L ≤ 2048) (hi : i + 4 ≤ L) (hB : B ≤ 700000) (K : LwC p l e s m below meth c b g h q na ta pa hq hh aa ra sa h2 a2 i (B + 1200) 831) : LwC p l e s m below meth c b g h q na ta pa hq hh aa ra sa h2 a2 i B 214 := by
  intro d0 z V TV SV o n HV NN T k X H locs ls hd0 hR hW hl
  obtain ⟨hx, hb, hr, hml, hts, hown, hlocks, hin⟩ := id hE
  have E := ent_dr hE d0
  have hK : kx g (s.setDrawn d0) := (kq_dr hKq d0).1
  have hX : va_X b L xs (s.setDrawn d0) s.heap := hX
  have hbA : ¬ (fun q : Nat => s.heap.size ≤ q) b := Nat.not_le.mpr hbl
  obtain ⟨⟨cq, hV⟩, ho, hn5, hk, hT, hn9, hH, hSn, htx⟩ := id hR
  have hc : ∀ t, t < 6 → V 3 t = nI (cq t) ∧ cq t ≤ 5 := fun t ht => ⟨(hV.1 t ht).1, (hV.1 t ht).2.1⟩
  have hP := hW.1
  obtain ⟨x1, hx1⟩ : ∃ y : Int32, xs (i + 1) = y := ⟨_, rfl⟩
  obtain ⟨x2, hx2⟩ : ∃ y : Int32, xs (i + 2) = y := ⟨_, rfl⟩
  obtain ⟨x3, hx3⟩ : ∃ y : Int32, xs (i + 3) = y := ⟨_, rfl⟩
  obtain ⟨t, ht, hxt⟩ := ex_t x1
  have hEq : seE V x1 x2 x3 t = seM V x1 x2 x3 t := se_eq
  refine lv_aload_n hx hb dL_law_214 rfl (lv_at hl 1 rfl) ?_
  refine lw_arg hx hb hX hbl hbA hW.2.2 hl 1 (by decide) hx1 (by omega) hL dL_law_215 dL_law_216 dL_law_217 dL_law_218 dL_law_219 ?_
  refine lw_arg hx hb hX hbl hbA hW.2.2 hl 2 (by decide) hx2 (by omega) hL dL_law_220 dL_law_221 dL_law_222 dL_law_223 dL_law_224 ?_
  refine lw_arg hx hb hX hbl hbA hW.2.2 hl 3 (by decide) hx3 (by omega) hL dL_law_225 dL_law_226 dL_law_227 dL_law_228 dL_law_229 ?_
  refine call_VU (As := [.int x1, .int x2, .int x3]) (rest := []) E rfl hK hW (c_X4_settle l g h q z na V ta TV pa SV hq hh o n aa HV ra NN sa T k x1 x2 x3 t ho hn5 hk hxt) ok_X4_settle rfl q1_237 [0, 1, 2, 3, 4, 5, 6, 7, 8, 9, 10, 11] rfl (by decide) (b_recv hK hP 0 0 rfl rfl rfl rfl) ⟨⟨rfl, rfl⟩, Nat.le_of_ble_eq_true rfl, Nat.le_of_ble_eq_true rfl⟩ hl.1 (Nat.le_of_ble_eq_true rfl) ⟨Nat.le_refl _, Nat.le_refl _⟩ rfl dL_law_230 (fun u H locs hu hW => ?_)
  cases u
  · have hu : ¬ seE V x1 x2 x3 t = 0 := hu
    have hW : wd g _ s.heap (lwB g h q na ta pa hq hh aa ra sa h2 a2 z V TV SV o n HV NN T k V X) H locs := hW
    have hP := hW.1
    refine b_top (y := seE V x1 x2 x3 t) rfl ?_
    refine lv_aload_n hx hb dL_law_233 rfl (lv_at hl 2 rfl) ?_
    refine lw_arg hx hb hX hbl hbA hW.2.2 hl 1 (by decide) hx1 (by omega) hL dL_law_234 dL_law_235 dL_law_236 dL_law_237 dL_law_238 ?_
    refine lw_arg hx hb hX hbl hbA hW.2.2 hl 2 (by decide) hx2 (by omega) hL dL_law_239 dL_law_240 dL_law_241 dL_law_242 dL_law_243 ?_
    refine lw_arg hx hb hX hbl hbA hW.2.2 hl 3 (by decide) hx3 (by omega) hL dL_law_244 dL_law_245 dL_law_246 dL_law_247 dL_law_248 ?_
    refine call_VU (As := [.int x1, .int x2, .int x3]) (rest := [.int (seE V x1 x2 x3 t)]) E rfl hK hW (c_X5_settle l g h2 a2 V X x1 x2 x3 t n hn9 hn5 hxt) ok_X5_settle rfl q3_106 [12] rfl (by decide) (b_recv hK hP 12 0 rfl rfl rfl rfl) ⟨⟨rfl, rfl⟩, Nat.le_of_ble_eq_true rfl, Nat.le_of_ble_eq_true rfl⟩ hl.1 (Nat.le_of_ble_eq_true rfl) ⟨Nat.le_refl _, Nat.le_refl _⟩ rfl dL_law_249 (fun u H locs hu hW => ?_)
    obtain ⟨u1, u2⟩ := u
    cases u1
    · have hu2 : ¬ seM V x1 x2 x3 t = 0 ∧ u2 = X := hu
      obtain ⟨-, rfl⟩ := hu2
      have hW : wd g _ s.heap (lwB g h q na ta pa hq hh aa ra sa h2 a2 z V TV SV o n HV NN T k V u2) H locs := hW
      have hP := hW.1
      refine lv_icmp_eq (tgt := 831) hx hb dL_law_252 (by decide) (fun _ => ?_) (fun q9 => absurd hEq q9)
      exact K d0 z V TV SV o n HV NN T k u2 H locs ls hd0 (hR.mono (by omega)) hW hl
    · exact absurd (hEq.trans (show seM V x1 x2 x3 t = 0 ∧ _ from hu).1) (show ¬ seE V x1 x2 x3 t = 0 from by assumption)
  · have hu : seE V x1 x2 x3 t = 0 := hu
    have hW : wd g _ s.heap (lwB g h q na ta pa hq hh aa ra sa h2 a2 z (up2 (up2 (up2 V 0 t x2) 1 t x3) 2 t (minI (V 2 t) x3)) TV SV (recO o n) (recS n) (recH o n HV V) NN T k V X) H locs := hW
    have hP := hW.1
    refine b_top (y := minI (V 2 t) x3) rfl ?_
    refine lv_aload_n hx hb dL_law_233 rfl (lv_at hl 2 rfl) ?_
    refine lw_arg hx hb hX hbl hbA hW.2.2 hl 1 (by decide) hx1 (by omega) hL dL_law_234 dL_law_235 dL_law_236 dL_law_237 dL_law_238 ?_
    refine lw_arg hx hb hX hbl hbA hW.2.2 hl 2 (by decide) hx2 (by omega) hL dL_law_239 dL_law_240 dL_law_241 dL_law_242 dL_law_243 ?_
    refine lw_arg hx hb hX hbl hbA hW.2.2 hl 3 (by decide) hx3 (by omega) hL dL_law_244 dL_law_245 dL_law_246 dL_law_247 dL_law_248 ?_
    refine call_VU (As := [.int x1, .int x2, .int x3]) (rest := [.int (minI (V 2 t) x3)]) E rfl hK hW (c_X5_settle l g h2 a2 V X x1 x2 x3 t n hn9 hn5 hxt) ok_X5_settle rfl q3_106 [12] rfl (by decide) (b_recv hK hP 12 0 rfl rfl rfl rfl) ⟨⟨rfl, rfl⟩, Nat.le_of_ble_eq_true rfl, Nat.le_of_ble_eq_true rfl⟩ hl.1 (Nat.le_of_ble_eq_true rfl) ⟨Nat.le_refl _, Nat.le_refl _⟩ rfl dL_law_249 (fun u H locs hu hW => ?_)
    obtain ⟨u1, u2⟩ := u
    cases u1
    · exact absurd (hEq.symm.trans (show seE V x1 x2 x3 t = 0 from by assumption)) (show ¬ seM V x1 x2 x3 t = 0 ∧ _ from hu).1
    · have hu2 : seM V x1 x2 x3 t = 0 ∧ recP V X u2 n := hu
      have hI := ((hV.put (k := 0) (j := t) (x := x2) (by omega)).put (k := 1) (j := t) (x := x3) (by omega)).put (k := 2) (j := t) (x := minI (V 2 t) x3) (by omega)
      have hW : wd g _ s.heap (lwB g h q na ta pa hq hh aa ra sa h2 a2 z (up2 (up2 (up2 V 0 t x2) 1 t x3) 2 t (minI (V 2 t) x3)) TV SV (recO o n) (recS n) (recH o n HV V) NN T k (up2 (up2 (up2 V 0 t x2) 1 t x3) 2 t (minI (V 2 t) x3)) u2) H locs := hW
      have hP := hW.1
      refine lv_icmp_eq (tgt := 831) hx hb dL_law_252 (by decide) (fun _ => ?_) (fun q9 => absurd rfl q9)
      exact K d0 z (up2 (up2 (up2 V 0 t x2) 1 t x3) 2 t (minI (V 2 t) x3)) TV SV (recO o n) (recS n) (recH o n HV V) NN T k u2 H locs ls hd0 ((hR.rec hu2.2 hI (by omega)).mono (by omega)) hW hl
end LAW
