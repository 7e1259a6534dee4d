section LAW
variable {p : Program} {l : Launch} {e : Env} {s : State} {m : MethodId} {below : List Frame} {meth : Method} {c : Code} {b : Nat} {g : gx} {h : Nat} {q : Nat → Nat} {na ta pa : Nat → Nat} {hq : Nat} {hh : Nat → Nat} {aa : Nat → Nat → Nat} {ra : Nat → Nat} {sa h2 : Nat} {a2 : Nat → Nat} {i B L : Nat} {xs : Nat → Int32}
set_option maxHeartbeats 4000000 in
set_option maxRecDepth 100000 in
theorem cs_share (hE : ent p s m meth c yL_law code 8 (some .boolean) [.ref b]) (hKq : kq g s) (hX : va_X b L xs s s.heap) (hbl : b < s.heap.size) (hL : L ≤ 2048) (hi : i + 4 ≤ L) (hB : B ≤ 700000) (K : LwC p l e s m below meth c b g h q na ta pa hq hh aa ra sa h2 a2 i (B + 1200) 831) : LwC p l e s m below meth c b g h q na ta pa hq hh aa ra sa h2 a2 i B 780 := by
  intro d0 z V TV SV o n HV NN T k X H locs ls hd0 hR hW hl
  obtain ⟨hx, hb, hr, hml, hts, hown, hlocks, hin⟩ := id hE
  have E := ent_dr hE d0
  have hK : kx g (s.setDrawn d0) := (kq_dr hKq d0).1
  have hX : va_X b L xs (s.setDrawn d0) s.heap := hX
  have hbA : ¬ (fun q : Nat => s.heap.size ≤ q) b := Nat.not_le.mpr hbl
  obtain ⟨⟨cq, hV⟩, ho, hn5, hk, hT, hn9, hH, hSn, htx⟩ := id hR
  have hc : ∀ t, t < 6 → V 3 t = nI (cq t) ∧ cq t ≤ 5 := fun t ht => ⟨(hV.1 t ht).1, (hV.1 t ht).2.1⟩
  have hP := hW.1
  obtain ⟨x1, hx1⟩ : ∃ y : Int32, xs (i + 1) = y := ⟨_, rfl⟩
  obtain ⟨t, ht, hxt⟩ := ex_t x1
  have hX0 : va_X b L xs s s.heap := hX
  refine lv_aload_n hx hb dL_law_780 rfl (lv_at hl 1 rfl) ?_
  refine lw_arg hx hb hX hbl hbA hW.2.2 hl 1 (by decide) hx1 (by omega) hL dL_law_781 dL_law_782 dL_law_783 dL_law_784 dL_law_785 ?_
  refine call_VD (As := [.int x1]) (rest := []) hd0 E rfl hK hP (c_X4_share l g h q z na V ta TV pa SV hq hh o n aa HV ra NN sa T k x1 t ho hn5 hk hxt) ok_X4_share rfl q3_11 [0, 1, 2, 3, 4, 5, 6, 7, 8, 9, 10, 11] rfl (b_recv hK hP 0 0 rfl rfl rfl rfl) ⟨⟨rfl, rfl⟩, Nat.le_of_ble_eq_true rfl, Nat.le_of_ble_eq_true rfl⟩ hl.1 (Nat.le_of_ble_eq_true rfl) ⟨Nat.le_refl _, Nat.le_refl _⟩ rfl dL_law_786 (fun r1 d1 hd1 hu => ?_)
  have E := ent_dr hE d1
  have hK : kx g (s.setDrawn d1) := (kq_dr hKq d1).1
  have hX : va_X b L xs (s.setDrawn d1) s.heap := hX0
  refine lv_dstore (lv' := [(4, .double r1), (0, .ref b), (1, .ref h), (2, .ref h2), (3, .int (nI i))]) hx hb dL_law_789 hl (by decide) rfl (fun ls hl => ?_)
  refine lv_aload_n hx hb dL_law_791 rfl (lv_at hl 3 rfl) ?_
  refine lw_arg hx hb hX hbl hbA hW.2.2 (lv_sub hl [1, 2, 3, 4] rfl) 1 (by decide) hx1 (by omega) hL dL_law_792 dL_law_793 dL_law_794 dL_law_795 dL_law_796 ?_
  refine call_VD (As := [.int x1]) (rest := []) hd1 E rfl hK hP (c_X5_share l g h2 a2 V X x1 t hxt) ok_X5_share rfl q4_50 [12] rfl (b_recv hK hP 12 0 rfl rfl rfl rfl) ⟨⟨rfl, rfl⟩, Nat.le_of_ble_eq_true rfl, Nat.le_of_ble_eq_true rfl⟩ hl.1 (Nat.le_of_ble_eq_true rfl) ⟨Nat.le_refl _, Nat.le_refl _⟩ rfl dL_law_797 (fun r2 d2 hd2 hu2 => ?_)
  refine lv_dstore (lv' := [(6, .double r2), (4, .double r1), (0, .ref b), (1, .ref h), (2, .ref h2), (3, .int (nI i))]) hx hb dL_law_800 hl (by decide) rfl (fun ls hl => ?_)
  have hal : r1 = r2 ∨ (isNaN64 r1 = true ∧ isNaN64 r2 = true) := sh_two hV hB hu hu2
  refine lv_dload hx hb dL_law_802 (lv_at hl 1 rfl) ?_
  refine lv_dload hx hb dL_law_804 (lv_at hl 0 rfl) ?_
  refine lv_dcmp hx hb dL_law_806 ?_
  refine lv_if_eq (tgt := 828) hx hb dL_law_807 (by decide) (fun c1 => ?_) (fun c1 => ?_)
  · refine lv_goto (tgt := 831) hx hb dL_law_828 (by decide) ?_
    exact K d2 z V TV SV o n HV NN T k X H locs ls hd2 (hR.mono (by omega)) hW (lv_sub hl [2, 3, 4, 5] rfl)
  · refine lv_dload hx hb dL_law_810 (lv_at hl 1 rfl) ?_
    refine lv_dload hx hb dL_law_812 (lv_at hl 1 rfl) ?_
    refine lv_dcmp hx hb dL_law_814 ?_
    refine lv_if_eq (tgt := 826) hx hb dL_law_815 (by decide) (fun c2 => ?_) (fun c2 => ?_)
    · refine absurd c2 ?_
      rcases hal with e9 | e9
      · subst e9; exact c1
      · rw [nan_dcmp e9.1]; decide
    · refine lv_dload hx hb dL_law_818 (lv_at hl 0 rfl) ?_
      refine lv_dload hx hb dL_law_820 (lv_at hl 0 rfl) ?_
      refine lv_dcmp hx hb dL_law_822 ?_
      refine lv_if_ne (tgt := 828) hx hb dL_law_823 (by decide) (fun c3 => ?_) (fun c3 => ?_)
      · refine lv_goto (tgt := 831) hx hb dL_law_828 (by decide) ?_
        exact K d2 z V TV SV o n HV NN T k X H locs ls hd2 (hR.mono (by omega)) hW (lv_sub hl [2, 3, 4, 5] rfl)
      · refine absurd c3 ?_
        rcases hal with e9 | e9
        · subst e9; exact c1
        · rw [nan_dcmp e9.2]; decide
end LAW
