/-! ===== THE LAW'S LOOP ===== -/
section LAW
variable {p : Program} {l : Launch} {e : Env} {s : State} {m : MethodId} {below : List Frame} {meth : Method} {c : Code} {b : Nat} {g : gx} {h : Nat} {q : Nat → Nat} {na ta pa : Nat → Nat} {hq : Nat} {hh : Nat → Nat} {aa : Nat → Nat → Nat} {ra : Nat → Nat} {sa h2 : Nat} {a2 : Nat → Nat} {i B L : Nat} {xs : Nat → Int32}
theorem law_gt {i L : Nat} (hi : i ≤ 5000) (hL : L ≤ 2048) : nI L - 4 < nI i ↔ L < i + 4 := by
  have h4 : (nI L - 4).toInt = (L : Int) - 4 := by
    rw [Int32.toInt_sub, nI_toInt (by omega), show (4 : Int32).toInt = 4 by decide]
    exact Int.bmod_eq_of_le (by omega) (by omega)
  rw [Int32.lt_iff_toInt_lt, h4, nI_toInt (by omega)]
  omega
set_option maxHeartbeats 4000000 in
set_option maxRecDepth 100000 in
/-- one call of the script -/
theorem law_step (hE : ent p s m meth c yL_law code 8 (some .boolean) [.ref b]) (hKq : kq g s) (hX : va_X b L xs s s.heap) (hbl : b < s.heap.size) (hL : L ≤ 2048) (hi : i + 4 ≤ L) (hB : B ≤ 700000) (K : LwC p l e s m below meth c b g h q na ta pa hq hh aa ra sa h2 a2 i (B + 1200) 831) : LwC p l e s m below meth c b g h q na ta pa hq hh aa ra sa h2 a2 i B 26 := by
  intro d0 z V TV SV o n HV NN T k X H locs ls hd0 hR hW hl
  obtain ⟨hx, hb, hr, hml, hts, hown, hlocks, hin⟩ := id hE
  have hX0 : va_X b L xs (s.setDrawn d0) s.heap := hX
  have hbA : ¬ (fun q : Nat => s.heap.size ≤ q) b := Nat.not_le.mpr hbl
  refine lv_aload_n hx hb dL_law_26 rfl (lv_at hl 0 rfl) ?_
  refine lv_iload_n hx hb dL_law_27 rfl (lv_at hl 3 rfl) ?_
  refine va_sld hx hb hX0 hbl hbA hW.2.2 (vp_in_nI (show i < L by omega) (by omega)) dL_law_28 ?_
  refine lv_bipush (v := 31) hx hb dL_law_29 (by decide) ?_
  refine lv_iand hx hb dL_law_31 ?_
  obtain ⟨j, hj, e9⟩ := and31 (xs (nI i).toNatClampNeg)
  refine b_top (y := nI j) e9 ?_
  by_cases h25 : j < 25
  · rcases (show j = 0 ∨ j = 1 ∨ j = 2 ∨ j = 3 ∨ j = 4 ∨ j = 5 ∨ j = 6 ∨ j = 7 ∨ j = 8 ∨ j = 9 ∨ j = 10 ∨ j = 11 ∨ j = 12 ∨ j = 13 ∨ j = 14 ∨ j = 15 ∨ j = 16 ∨ j = 17 ∨ j = 18 ∨ j = 19 ∨ j = 20 ∨ j = 21 ∨ j = 22 ∨ j = 23 ∨ j = 24 by omega) with rfl | rfl | rfl | rfl | rfl | rfl | rfl | rfl | rfl | rfl | rfl | rfl | rfl | rfl | rfl | rfl | rfl | rfl | rfl | rfl | rfl | rfl | rfl | rfl | rfl
    · refine lv_tableIn (off := 116) (tgt := 148) hx hb dL_law_32 (by decide) (by decide) (by decide) (by decide) ?_
      exact cs_hang hE hKq hX hbl hL hi hB K d0 z V TV SV o n HV NN T k X H locs ls hd0 hR hW hl
    · refine lv_tableIn (off := 149) (tgt := 181) hx hb dL_law_32 (by decide) (by decide) (by decide) (by decide) ?_
      exact cs_melt hE hKq hX hbl hL hi hB K d0 z V TV SV o n HV NN T k X H locs ls hd0 hR hW hl
    · refine lv_tableIn (off := 182) (tgt := 214) hx hb dL_law_32 (by decide) (by decide) (by decide) (by decide) ?_
      exact cs_settle hE hKq hX hbl hL hi hB K d0 z V TV SV o n HV NN T k X H locs ls hd0 hR hW hl
    · refine lv_tableIn (off := 225) (tgt := 257) hx hb dL_law_32 (by decide) (by decide) (by decide) (by decide) ?_
      exact cs_plan hE hKq hX hbl hL hi hB K d0 z V TV SV o n HV NN T k X H locs ls hd0 hR hW hl
    · refine lv_tableIn (off := 258) (tgt := 290) hx hb dL_law_32 (by decide) (by decide) (by decide) (by decide) ?_
      exact cs_splice hE hKq hX hbl hL hi hB K d0 z V TV SV o n HV NN T k X H locs ls hd0 hR hW hl
    · refine lv_tableIn (off := 291) (tgt := 323) hx hb dL_law_32 (by decide) (by decide) (by decide) (by decide) ?_
      exact cs_feast hE hKq hX hbl hL hi hB K d0 z V TV SV o n HV NN T k X H locs ls hd0 hR hW hl
    · refine lv_tableIn (off := 324) (tgt := 356) hx hb dL_law_32 (by decide) (by decide) (by decide) (by decide) ?_
      exact cs_set hE hKq hX hbl hL hi hB K d0 z V TV SV o n HV NN T k X H locs ls hd0 hR hW hl
    · refine lv_tableIn (off := 357) (tgt := 389) hx hb dL_law_32 (by decide) (by decide) (by decide) (by decide) ?_
      exact cs_turns hE hKq hX hbl hL hi hB K d0 z V TV SV o n HV NN T k X H locs ls hd0 hR hW hl
    · refine lv_tableIn (off := 380) (tgt := 412) hx hb dL_law_32 (by decide) (by decide) (by decide) (by decide) ?_
      exact cs_append hE hKq hX hbl hL hi hB K d0 z V TV SV o n HV NN T k X H locs ls hd0 hR hW hl
    · refine lv_tableIn (off := 403) (tgt := 435) hx hb dL_law_32 (by decide) (by decide) (by decide) (by decide) ?_
      exact cs_clearText hE hKq hX hbl hL hi hB K d0 z V TV SV o n HV NN T k X H locs ls hd0 hR hW hl
    · refine lv_tableIn (off := 416) (tgt := 448) hx hb dL_law_32 (by decide) (by decide) (by decide) (by decide) ?_
      exact cs_fault hE hKq hX hbl hL hi hB K d0 z V TV SV o n HV NN T k X H locs ls hd0 hR hW hl
    · refine lv_tableIn (off := 429) (tgt := 461) hx hb dL_law_32 (by decide) (by decide) (by decide) (by decide) ?_
      exact cs_run hE hKq hX hbl hL hi hB K d0 z V TV SV o n HV NN T k X H locs ls hd0 hR hW hl
    · refine lv_tableIn (off := 442) (tgt := 474) hx hb dL_law_32 (by decide) (by decide) (by decide) (by decide) ?_
      exact cs_undo hE hKq hX hbl hL hi hB K d0 z V TV SV o n HV NN T k X H locs ls hd0 hR hW hl
    · refine lv_tableIn (off := 455) (tgt := 487) hx hb dL_law_32 (by decide) (by decide) (by decide) (by decide) ?_
      exact cs_save hE hKq hX hbl hL hi hB K d0 z V TV SV o n HV NN T k X H locs ls hd0 hR hW hl
    · refine lv_tableIn (off := 468) (tgt := 500) hx hb dL_law_32 (by decide) (by decide) (by decide) (by decide) ?_
      exact cs_restore hE hKq hX hbl hL hi hB K d0 z V TV SV o n HV NN T k X H locs ls hd0 hR hW hl
    · refine lv_tableIn (off := 481) (tgt := 513) hx hb dL_law_32 (by decide) (by decide) (by decide) (by decide) ?_
      exact cs_town hE hKq hX hbl hL hi hB K d0 z V TV SV o n HV NN T k X H locs ls hd0 hR hW hl
    · refine lv_tableIn (off := 514) (tgt := 546) hx hb dL_law_32 (by decide) (by decide) (by decide) (by decide) ?_
      exact cs_bell hE hKq hX hbl hL hi hB K d0 z V TV SV o n HV NN T k X H locs ls hd0 hR hW hl
    · refine lv_tableIn (off := 557) (tgt := 589) hx hb dL_law_32 (by decide) (by decide) (by decide) (by decide) ?_
      exact cs_count hE hKq hX hbl hL hi hB K d0 z V TV SV o n HV NN T k X H locs ls hd0 hR hW hl
    · refine lv_tableIn (off := 580) (tgt := 612) hx hb dL_law_32 (by decide) (by decide) (by decide) (by decide) ?_
      exact cs_loudness hE hKq hX hbl hL hi hB K d0 z V TV SV o n HV NN T k X H locs ls hd0 hR hW hl
    · refine lv_tableIn (off := 603) (tgt := 635) hx hb dL_law_32 (by decide) (by decide) (by decide) (by decide) ?_
      exact cs_heard hE hKq hX hbl hL hi hB K d0 z V TV SV o n HV NN T k X H locs ls hd0 hR hW hl
    · refine lv_tableIn (off := 636) (tgt := 668) hx hb dL_law_32 (by decide) (by decide) (by decide) (by decide) ?_
      exact cs_winner hE hKq hX hbl hL hi hB K d0 z V TV SV o n HV NN T k X H locs ls hd0 hR hW hl
    · refine lv_tableIn (off := 659) (tgt := 691) hx hb dL_law_32 (by decide) (by decide) (by decide) (by decide) ?_
      exact cs_ifPlanned hE hKq hX hbl hL hi hB K d0 z V TV SV o n HV NN T k X H locs ls hd0 hR hW hl
    · refine lv_tableIn (off := 692) (tgt := 724) hx hb dL_law_32 (by decide) (by decide) (by decide) (by decide) ?_
      exact cs_bestPlan hE hKq hX hbl hL hi hB K d0 z V TV SV o n HV NN T k X H locs ls hd0 hR hW hl
    · refine lv_tableIn (off := 715) (tgt := 747) hx hb dL_law_32 (by decide) (by decide) (by decide) (by decide) ?_
      exact cs_pointsIn hE hKq hX hbl hL hi hB K d0 z V TV SV o n HV NN T k X H locs ls hd0 hR hW hl
    · refine lv_tableIn (off := 748) (tgt := 780) hx hb dL_law_32 (by decide) (by decide) (by decide) (by decide) ?_
      exact cs_share hE hKq hX hbl hL hi hB K d0 z V TV SV o n HV NN T k X H locs ls hd0 hR hW hl
  · refine lv_tableOut (tgt := 831) hx hb dL_law_32 (Or.inr (by rw [nI_toInt (by omega)]; omega)) (by decide) ?_
    exact K d0 z V TV SV o n HV NN T k X H locs ls hd0 (hR.mono (by omega)) hW hl
set_option maxHeartbeats 4000000 in
set_option maxRecDepth 100000 in
theorem law_loop (hE : ent p s m meth c yL_law code 8 (some .boolean) [.ref b]) (hKq : kq g s) (hX : va_X b L xs s s.heap) (hbl : b < s.heap.size) (hL : L ≤ 2048) : ∀ N i, L ≤ i + N → i ≤ 2052 → LwC p l e s m below meth c b g h q na ta pa hq hh aa ra sa h2 a2 i (300 * i) 18 := by
  intro N
  induction N with
  | zero =>
    intro i hi hi2 d0 z V TV SV o n HV NN T k X H locs ls hd0 hR hW hl
    obtain ⟨hx, hb, hr, hml, hts, hown, hlocks, hin⟩ := id hE
    have hX0 : va_X b L xs (s.setDrawn d0) s.heap := hX
    have hbA : ¬ (fun q : Nat => s.heap.size ≤ q) b := Nat.not_le.mpr hbl
    refine lv_iload_n hx hb dL_law_18 rfl (lv_at hl 3 rfl) ?_
    refine lv_aload_n hx hb dL_law_19 rfl (lv_at hl 0 rfl) ?_
    refine va_slen hx hb hX0 hbl hbA hW.2.2 dL_law_20 ?_
    refine lv_iconst (v := 4) hx hb dL_law_21 (by decide) ?_
    refine lv_isub hx hb dL_law_22 ?_
    refine lv_icmp_gt (tgt := 837) hx hb dL_law_23 (by decide) (fun c1 => ?_) (fun c1 => ?_)
    · refine lv_iconst (v := 1) hx hb dL_law_837 (by decide) ?_
      refine va_forget hW.2.2.2.2 ?_
      exact lw_ret hd0 hx hb hr hlocks dL_law_838
    · exact absurd ((law_gt (i := i) (L := L) (by omega) hL).mpr (by omega)) c1
  | succ N ih =>
    intro i hi hi2 d0 z V TV SV o n HV NN T k X H locs ls hd0 hR hW hl
    obtain ⟨hx, hb, hr, hml, hts, hown, hlocks, hin⟩ := id hE
    have hX0 : va_X b L xs (s.setDrawn d0) s.heap := hX
    have hbA : ¬ (fun q : Nat => s.heap.size ≤ q) b := Nat.not_le.mpr hbl
    refine lv_iload_n hx hb dL_law_18 rfl (lv_at hl 3 rfl) ?_
    refine lv_aload_n hx hb dL_law_19 rfl (lv_at hl 0 rfl) ?_
    refine va_slen hx hb hX0 hbl hbA hW.2.2 dL_law_20 ?_
    refine lv_iconst (v := 4) hx hb dL_law_21 (by decide) ?_
    refine lv_isub hx hb dL_law_22 ?_
    refine lv_icmp_gt (tgt := 837) hx hb dL_law_23 (by decide) (fun c1 => ?_) (fun c1 => ?_)
    · refine lv_iconst (v := 1) hx hb dL_law_837 (by decide) ?_
      refine va_forget hW.2.2.2.2 ?_
      exact lw_ret hd0 hx hb hr hlocks dL_law_838
    · have hi4 : i + 4 ≤ L := Nat.not_lt.mp (fun q9 => c1 ((law_gt (i := i) (L := L) (by omega) hL).mpr q9))
      refine law_step hE hKq hX hbl hL hi4 (B := 300 * i) (by omega) ?_ d0 z V TV SV o n HV NN T k X H locs ls hd0 hR hW hl
      intro d0 z V TV SV o n HV NN T k X H locs ls hd0 hR hW hl
      refine lv_iinc (v := nI (i + 4)) (lv' := [(3, .int (nI (i + 4))), (0, .ref b), (1, .ref h), (2, .ref h2)]) hx hb dL_law_831 hl (k := 3) rfl (nI_add i 4) (by decide) rfl (fun ls hl => ?_)
      refine lv_goto (tgt := 18) hx hb dL_law_834 (by decide) ?_
      exact ih (i + 4) (by omega) (by omega) d0 z V TV SV o n HV NN T k X H locs ls hd0 (by rw [show 300 * (i + 4) = 300 * i + 1200 by omega]; exact hR) hW (lv_sub hl [1, 2, 3, 0] rfl)
end LAW
