/-! ===== THE LAW'S TURN IS THE CLASS'S ===== -/
theorem wrl_at (S : sV) (n m : Nat) (hm : m < 32) (k j : Nat) : ∀ i, i ≤ 5 → (wrL S n (nI m) i).1 k j = if (k = 10 ∨ k = 11) ∧ n * 5 ≤ j ∧ j < n * 5 + i ∧ bitW (nI m) (j - n * 5) then S k j + 1 else S k j
  | 0, _ => by rw [if_neg (by omega)]; rfl
  | i + 1, h => by
    show up2 (up2 (wrL S n (nI m) i).1 10 (n * 5 + i) ((wrL S n (nI m) i).1 10 (n * 5 + i) + ((nI m >>> (nI i &&& 31)) &&& 1))) 11 (n * 5 + i) ((wrL S n (nI m) i).1 11 (n * 5 + i) + ((nI m >>> (nI i &&& 31)) &&& 1)) k j = _
    have e10 : (wrL S n (nI m) i).1 10 (n * 5 + i) = S 10 (n * 5 + i) := by rw [wrl_at S n m hm 10 _ i (by omega), if_neg (by omega)]
    have e11 : (wrL S n (nI m) i).1 11 (n * 5 + i) = S 11 (n * 5 + i) := by rw [wrl_at S n m hm 11 _ i (by omega), if_neg (by omega)]
    rw [up2_if, up2_if, e10, e11, wrl_at S n m hm k j i (by omega)]
    obtain ⟨b1, b0⟩ := bit_10 m hm i (by omega)
    by_cases hj : j = n * 5 + i
    · subst hj
      have hsub : n * 5 + i - n * 5 = i := by omega
      by_cases hb : bitW (nI m) i
      · rw [b1 hb]
        by_cases h1 : k = 11
        · subst h1; rw [if_pos ⟨rfl, rfl⟩, if_pos ⟨Or.inr rfl, by omega, by omega, by rw [hsub]; exact hb⟩]
        · rw [if_neg (fun q => h1 q.1)]
          by_cases h2 : k = 10
          · subst h2; rw [if_pos ⟨rfl, rfl⟩, if_pos ⟨Or.inl rfl, by omega, by omega, by rw [hsub]; exact hb⟩]
          · rw [if_neg (fun q => h2 q.1), if_neg (fun q => q.1.elim h2 h1), if_neg (fun q => q.1.elim h2 h1)]
      · have hnb : ¬ ((k = 10 ∨ k = 11) ∧ n * 5 ≤ n * 5 + i ∧ n * 5 + i < n * 5 + (i + 1) ∧ bitW (nI m) (n * 5 + i - n * 5)) := fun q => hb (by have := q.2.2.2; rwa [hsub] at this)
        rw [b0 hb, if_neg hnb]
        by_cases h1 : k = 11
        · subst h1; rw [if_pos ⟨rfl, rfl⟩, Int32.add_zero]
        · rw [if_neg (fun q => h1 q.1)]
          by_cases h2 : k = 10
          · subst h2; rw [if_pos ⟨rfl, rfl⟩, Int32.add_zero]
          · rw [if_neg (fun q => h2 q.1), if_neg (fun q => q.1.elim h2 h1)]
    · rw [if_neg (fun q => hj q.2), if_neg (fun q => hj q.2)]
      by_cases hl : (k = 10 ∨ k = 11) ∧ n * 5 ≤ j ∧ j < n * 5 + i ∧ bitW (nI m) (j - n * 5)
      · rw [if_pos hl, if_pos ⟨hl.1, hl.2.1, by omega, hl.2.2.2⟩]
      · rw [if_neg hl, if_neg (fun q => hl ⟨q.1, q.2.1, by omega, q.2.2.2⟩)]
theorem wrl_sum {S : sV} {n m : Nat} (hm : m < 32) (hb : ∀ b', b' < 5 → (bitW (nI m) b' ↔ rgC S n b')) : ∀ i, i ≤ 5 → (wrL S n (nI m) i).2 = (vbC S n i).2
  | 0, _ => rfl
  | i + 1, h => by
    show (wrL S n (nI m) i).2 + ((nI m >>> (nI i &&& 31)) &&& 1) * (((wrL S n (nI m) i).1 9 (n * 5 + i) + 1) / 2) = _
    rw [wrl_sum hm hb i (by omega), wrL_k S n (nI m) (by decide) (by decide)]
    by_cases e : rgC S n i
    · rw [(bit_10 m hm i (by omega)).1 ((hb i (by omega)).mpr e), vb_yes e, Int32.one_mul]
    · rw [(bit_10 m hm i (by omega)).2 (fun q => e ((hb i (by omega)).mp q)), vb_no e, Int32.zero_mul, Int32.add_zero]
theorem l2l_at {W : sV} {cq : Nat → Nat} (hT : ∀ t, t < 6 → tnX W t (cq t)) (k j : Nat) : ∀ n, n ≤ 6 → l2L W cq n k j = if k = 2 ∧ j < n then (vbC W j 5).2 / 2 else if (k = 10 ∨ k = 11) ∧ j < n * 5 ∧ rgC W (j / 5) (j % 5) then W k j + 1 else W k j
  | 0, _ => by rw [if_neg (by omega), if_neg (by omega)]; rfl
  | n + 1, hn => by
    have ih : ∀ k' j', l2L W cq n k' j' = _ := fun k' j' => l2l_at hT k' j' n (by omega)
    have tw : twn (l2L W cq n) W n := by
      refine ⟨?_, fun k' hk => ?_, fun b hb => ⟨?_, ?_⟩⟩
      · rw [ih, if_neg (by omega), if_neg (by omega)]
      · rw [ih, if_neg (by omega), if_neg (by omega)]
      · rw [ih, if_neg (by omega), if_neg (by omega)]
      · rw [ih, if_neg (by omega), if_neg (by omega)]
    have ht : tnX (l2L W cq n) n (cq n) := by
      obtain ⟨⟨a1, a2, p, a3, a4⟩, a5, a6⟩ := hT n (by omega)
      refine ⟨⟨(tw.2.1 3 (by omega)).trans a1, a2, p, (tw.2.1 4 (by omega)).trans a3, a4⟩, by rw [tw.2.1 6 (by omega)]; exact a5, fun b hb => ?_⟩
      rw [(tw.2.2 b hb).1, (tw.2.2 b hb).2]
      exact a6 b hb
    obtain ⟨m, m1, m2, m3⟩ := rgl_all ht
    rw [l2L, m2, up2_if, wrl_sum m1 m3 5 (Nat.le_refl _), tw.vb 5 (Nat.le_refl _)]
    by_cases h2 : k = 2 ∧ j = n
    · rw [if_pos h2, if_pos (show k = 2 ∧ j < n + 1 by omega), h2.2]
    · rw [if_neg h2, wrl_at _ _ _ m1 k j 5 (Nat.le_refl _)]
      by_cases hl : (k = 10 ∨ k = 11) ∧ n * 5 ≤ j ∧ j < n * 5 + 5 ∧ bitW (nI m) (j - n * 5)
      · have hr := (tw.rgc (b := j - n * 5) (by omega)).mp ((m3 _ (by omega)).mp hl.2.2.2)
        rw [if_pos hl, ih, if_neg (by omega), if_neg (by omega), if_neg (by omega), if_pos ⟨hl.1, by omega, by rw [show j / 5 = n by omega, show j % 5 = j - n * 5 by omega]; exact hr⟩]
      · rw [if_neg hl, ih]
        by_cases a2 : k = 2 ∧ j < n
        · rw [if_pos a2, if_pos (show k = 2 ∧ j < n + 1 by omega)]
        · rw [if_neg a2, if_neg (show ¬ (k = 2 ∧ j < n + 1) by omega)]
          by_cases a1 : (k = 10 ∨ k = 11) ∧ j < n * 5 ∧ rgC W (j / 5) (j % 5)
          · rw [if_pos a1, if_pos ⟨a1.1, by omega, a1.2.2⟩]
          · rw [if_neg a1, if_neg (fun q => by
              by_cases hj : j < n * 5
              · exact a1 ⟨q.1, hj, q.2.2⟩
              · refine hl ⟨q.1, by omega, by omega, (m3 _ (by omega)).mpr ((tw.rgc (b := j - n * 5) (by omega)).mpr ?_)⟩
                have := q.2.2
                rwa [show j / 5 = n by omega, show j % 5 = j - n * 5 by omega] at this)]
theorem l3l_at (W : sV) (k j : Nat) : ∀ n, l3L W n k j = if k = 6 ∧ j < n then W 6 j - (if W 6 j ≤ 0 then 0 else 1) else W k j
  | 0 => by rw [if_neg (by omega)]; rfl
  | n + 1 => by
    have e6 : l3L W n 6 n = W 6 n := by rw [l3l_at W 6 n n, if_neg (by omega)]
    rw [l3L, e6, up2_if, l3l_at W k j n]
    by_cases hj : k = 6 ∧ j = n
    · rw [if_pos hj, if_pos (show k = 6 ∧ j < n + 1 by omega), hj.2]
    · rw [if_neg hj]
      by_cases hl : k = 6 ∧ j < n
      · rw [if_pos hl, if_pos (show k = 6 ∧ j < n + 1 by omega)]
      · rw [if_neg hl, if_neg (show ¬ (k = 6 ∧ j < n + 1) by omega)]
theorem i32_sub0 (x : Int32) : x - 0 = x := by simp
theorem l23_tt {W : sV} {cq : Nat → Nat} (hT : ∀ t, t < 6 → tnX W t (cq t)) : l3L (l2L W cq 6) 6 = ttV W cq 6 := by
  funext k j
  rw [l3l_at, tt_at (fun t ht => (hT t ht).1) k j 6 (Nat.le_refl _)]
  by_cases h6 : k = 6 ∧ j < 6
  · rw [if_pos h6, if_pos h6, l2l_at hT 6 j 6 (Nat.le_refl _), if_neg (by omega), if_neg (by omega)]
    by_cases h0 : W 6 j ≤ 0
    · rw [if_pos h0, if_pos h0, i32_sub0]
      exact (sil_eq (hT j h6.2).2.1).mpr h0
    · rw [if_neg h0, if_neg h0]
  · rw [if_neg h6, if_neg h6, l2l_at hT k j 6 (Nat.le_refl _)]
/-- the numbers of a state that heard and won rest on -/
def tnH (V : sV) : Prop := (∀ t, t < 6 → Bd (V 0 t) 40) ∧ Bd (V 12 0) 9
theorem wn_all {V : sV} {u : Nat → Int32} {e : Nat} (h : tnH V) (he : e < 6) (hu : ∀ t, t < 6 → Bd (u t) 45) : wnL V u e 6 = (bsM V u e 6).2 :=
  wn_bs (fun t ht => rc_hr (h.1 t ht) (h.1 e he) h.2 (hu t ht))
theorem tp_tp {V : sV} {u : Nat → Int32} (h : tnH V) (hu : ∀ t, t < 6 → Bd (u t) 45) : ∀ n, n ≤ 6 → tpL V u n = tpV V u n
  | 0, _ => rfl
  | n + 1, hn => by
    have ih := tp_tp h hu n (by omega)
    have hH : tnH (tpV V u n) := ⟨fun t ht => by rw [tpV_k V u (by decide)]; exact h.1 t ht, by rw [tpV_k V u (by decide)]; exact h.2⟩
    rw [tpL, tpV, ih, wn_all hH (by omega) hu]
    rcases bsM_rng (tpV V u n) u n 6 (Nat.le_refl _) with e | ⟨w, hw, e⟩
    · rw [e, if_pos m5_lt, if_pos rfl]
    · rw [e, if_neg (nI_pos (by omega)), if_neg (nI_m5 hw)]
theorem LI.tnX {V : sV} {cq : Nat → Nat} {B : Nat} (h : LI V cq B) : ∀ t, t < 6 → tnX V t (cq t) := fun t ht => ⟨h.1.1 t ht, (h.1.2.1 t ht).1, fun b hb => ⟨(h.1.2.2.2.1 t b ht hb).2, h.2.2.2.2.1 t b ht hb⟩⟩
theorem LI.tnH {V : sV} {cq : Nat → Nat} {B : Nat} (h : LI V cq B) : tnH V := ⟨h.2.1, h.2.2.2.2.2⟩
theorem LI.vol {V : sV} {cq : Nat → Nat} {B : Nat} (h : LI V cq B) (t : Nat) (ht : t < 6) : Bd (ldL V cq t) 45 := by
  rw [ldl_u (h.tnX t ht)]
  exact (vb_bd (h.tnX t ht) 5 (Nat.le_refl _)).1
theorem LI.ld {V : sV} {cq : Nat → Nat} {B : Nat} (h : LI V cq B) (t : Nat) (ht : t < 6) : ldL V cq t = ldM V cq t := by
  rw [ldl_u (h.tnX t ht), ld_u (h.1.1 t ht)]
theorem tu_tu {V : sV} {cq : Nat → Nat} {B : Nat} (h : LI V cq B) : tuL V cq = tuV V cq (ldL V cq) := by
  have hp := tp_tp h.tnH h.vol 6 (Nat.le_refl _)
  have hTp : ∀ t, t < 6 → tnX (tpV V (ldL V cq) 6) t (cq t) := fun t ht => by
    obtain ⟨⟨a1, a2, p, a3, a4⟩, a5, a6⟩ := h.tnX t ht
    have hk : ∀ k j, k ≠ 7 → tpV V (ldL V cq) 6 k j = V k j := fun k j hk => tpV_k V _ hk j 6
    refine ⟨⟨(hk 3 t (by decide)).trans a1, a2, p, (hk 4 t (by decide)).trans a3, a4⟩, by rw [hk 6 t (by decide)]; exact a5, fun b hb => ?_⟩
    rw [hk 10 _ (by decide), hk 9 _ (by decide)]
    exact a6 b hb
  have e1 : tuL V cq = tuE (ttV (tpV V (ldL V cq) 6) cq 6) (lnM (ldL V cq) 6) := by
    show tuE (l3L (l2L (tpL V (ldL V cq) 6) cq 6) 6) (bsL (ldL V cq) 6) = _
    rw [hp, l23_tt hTp, bsl_ln]
  have e2 : tuV V cq (ldL V cq) = up2 (up2 (luV (ttV (tpV V (ldL V cq) 6) cq 6) (lnM (ldL V cq) 6)) 12 3 (lnM (ldL V cq) 6)) 12 2 (up2 (luV (ttV (tpV V (ldL V cq) 6) cq 6) (lnM (ldL V cq) 6)) 12 3 (lnM (ldL V cq) 6) 12 2 + 1) := rfl
  rw [e1, e2]
  generalize ttV (tpV V (ldL V cq) 6) cq 6 = W
  unfold tuE luV
  rcases lnM_rng (ldL V cq) 6 with e | ⟨w, hw, e⟩
  · rw [e, if_pos m5_lt, if_pos rfl, up2_ne (show ¬ ((12 : Nat) = 12 ∧ (2 : Nat) = 3) by decide), up2_ne (show ¬ ((12 : Nat) = 12 ∧ (2 : Nat) = 4) by decide)]
  · rw [e, if_neg (nI_pos (by omega)), if_neg (nI_m5 hw), nI_clamp (by omega)]
    have e4 : up2 (up2 (up2 W 6 w (W 12 1)) 8 w (W 8 w + 1)) 12 4 (W 12 4 + 0) = up2 (up2 W 6 w (W 12 1)) 8 w (W 8 w + 1) := by
      have e5 : W 12 4 + 0 = up2 (up2 W 6 w (W 12 1)) 8 w (W 8 w + 1) 12 4 := by
        rw [up2_ne (by omega), up2_ne (by omega), Int32.add_zero]
      rw [e5, up2_self]
    rw [e4, up2_ne (show ¬ ((12 : Nat) = 12 ∧ (2 : Nat) = 3) by decide), up2_ne (show ¬ ((12 : Nat) = 8 ∧ (2 : Nat) = w) by omega), up2_ne (show ¬ ((12 : Nat) = 6 ∧ (2 : Nat) = w) by omega)]
/-! what a turn keeps -/
theorem bd_half {x : Int32} (h : Bd x 25) : Bd (x / 2) 20 := by
  obtain ⟨n, hn, rfl⟩ := h
  exact ⟨n / 2, by omega, pk_div (by omega) (by decide) (by decide)⟩
theorem invX_tu {V : sV} {cq : Nat → Nat} {B : Nat} (h : LI V cq B) : InvX (tuL V cq) := by
  obtain ⟨x0, x1, x2, x9, x12⟩ := h.2
  have hk : ∀ r j, r ≠ 2 ∧ r ≠ 6 ∧ r ≠ 7 ∧ r ≠ 8 ∧ r ≠ 10 ∧ r ≠ 11 ∧ r ≠ 12 → tuL V cq r j = V r j := fun r j hr => tuU_k V cq _ hr j
  have hTp : ∀ t, t < 6 → tnX (tpL V (ldL V cq) 6) t (cq t) := fun t ht => by
    obtain ⟨⟨a1, a2, p, a3, a4⟩, a5, a6⟩ := h.tnX t ht
    have hk : ∀ k j, k ≠ 7 → tpL V (ldL V cq) 6 k j = V k j := fun k j hk => tpL_k V _ hk j 6
    refine ⟨⟨(hk 3 t (by decide)).trans a1, a2, p, (hk 4 t (by decide)).trans a3, a4⟩, by rw [hk 6 t (by decide)]; exact a5, fun b hb => ?_⟩
    rw [hk 10 _ (by decide), hk 9 _ (by decide)]
    exact a6 b hb
  have e2 : ∀ t, t < 6 → tuL V cq 2 t = (vbC (tpL V (ldL V cq) 6) t 5).2 / 2 := fun t ht => by
    have e : l3L (l2L (tpL V (ldL V cq) 6) cq 6) 6 2 t = (vbC (tpL V (ldL V cq) 6) t 5).2 / 2 := by
      rw [l3L_k _ (by decide), l2l_at hTp 2 t 6 (Nat.le_refl _), if_pos ⟨rfl, ht⟩]
    show tuE (l3L (l2L (tpL V (ldL V cq) 6) cq 6) 6) (bsL (ldL V cq) 6) 2 t = _
    unfold tuE
    split
    · rw [up2_ne (by omega), up2_ne (by omega), up2_ne (by omega), e]
    · rw [up2_ne (by omega), up2_ne (by omega), up2_ne (by omega), up2_ne (by omega), up2_ne (by omega), e]
  have e12 : tuL V cq 12 0 = V 12 0 := by
    have e : l3L (l2L (tpL V (ldL V cq) 6) cq 6) 6 12 0 = V 12 0 := by
      rw [l3L_k _ (by decide), l2L_k _ _ (by decide) (by decide) (by decide), tpL_k _ _ (by decide)]
    show tuE (l3L (l2L (tpL V (ldL V cq) 6) cq 6) 6) (bsL (ldL V cq) 6) 12 0 = _
    unfold tuE
    split
    · rw [up2_ne (by omega), up2_ne (by omega), up2_ne (by omega), e]
    · rw [up2_ne (by omega), up2_ne (by omega), up2_ne (by omega), up2_ne (by omega), up2_ne (by omega), e]
  refine ⟨fun t ht => by rw [hk 0 t (by decide)]; exact x0 t ht, fun t ht => by rw [hk 1 t (by decide)]; exact x1 t ht, fun t ht => ?_, fun t b ht hb => by rw [hk 9 _ (by decide)]; exact x9 t b ht hb, by rw [e12]; exact x12⟩
  rw [e2 t ht]
  exact bd_half (vb_bd (hTp t ht) 5 (Nat.le_refl _)).2
theorem li_tu {V : sV} {cq : Nat → Nat} {B : Nat} (h : LI V cq B) (hB : B + 6 < 2147483647) : LI (tuL V cq) cq (B + 6) :=
  ⟨by rw [tu_tu h]; exact inv_tu _ h.1 hB, invX_tu h⟩
theorem li_mt {V : sV} {cq : Nat → Nat} {B : Nat} (h : LI V cq B) (hB : B ≤ 700000) : ∀ i, i ≤ 50 → LI (mtL V cq i) cq (B + 6 * i) ∧ ∀ N : sV, (mtV V N i).1 = mtL V cq i
  | 0, _ => ⟨h, fun _ => rfl⟩
  | i + 1, hi => by
    obtain ⟨h1, h2⟩ := li_mt h hB i (by omega)
    refine ⟨li_tu (B := B + 6 * i) h1 (by omega), fun N => ?_⟩
    have e1 : (mtV V N (i + 1)).1 = pasV (mtV V N i).1 (forN (mtV V N i).1 (mtV V N i).2) := rfl
    rw [e1, h2 N, mtL, tu_tu h1]
    exact turn_eq h1.1.1 (fun t ht => (h1.1.2.1 t ht).1) _ (fun t ht => h1.ld t ht)
theorem li_turns {V : sV} {cq : Nat → Nat} {B : Nat} (h : LI V cq B) (hB : B ≤ 700000) : ∀ m, m ≤ 50 → LI (mtL V cq m) cq (B + 300) ∧ ∀ N : sV, (mtV V N m).1 = mtL V cq m :=
  fun m hm => ⟨(li_mt h hB m hm).1.mono (by omega), (li_mt h hB m hm).2⟩
/-! ===== what changes a state keeps what the law needs ===== -/
theorem InvX.up {V : sV} {k j : Nat} {x : Int32} (h : InvX V) (h0 : k = 0 → Bd x 40) (h1 : k = 1 → Bd x 20) (h2 : k = 2 → Bd x 20) (h9 : k = 9 → Bd x 9) (h12 : k = 12 → j = 0 → Bd x 9) : InvX (up2 V k j x) := by
  obtain ⟨x0, x1, x2, x9, x12⟩ := h
  refine ⟨fun t ht => ?_, fun t ht => ?_, fun t ht => ?_, fun t b ht hb => ?_, ?_⟩
  · rw [up2_if]; split
    · rename_i q; exact h0 q.1.symm
    · exact x0 t ht
  · rw [up2_if]; split
    · rename_i q; exact h1 q.1.symm
    · exact x1 t ht
  · rw [up2_if]; split
    · rename_i q; exact h2 q.1.symm
    · exact x2 t ht
  · rw [up2_if]; split
    · rename_i q; exact h9 q.1.symm
    · exact x9 t b ht hb
  · rw [up2_if]; split
    · rename_i q; exact h12 q.1.symm q.2.symm
    · exact x12
theorem bd_nI {n m : Nat} (h : n ≤ m) : Bd (nI n) m := ⟨n, h, rfl⟩
theorem li_add {V : sV} {cq : Nat → Nat} {B k w : Nat} (h : LI V cq B) (hk : k < 6) (hc : cq k < 5) (hw : w ≤ 9) : LI (addV V k (cq k) (nI w)) (cqP cq k (cq k + 1)) B := by
  refine ⟨inv_add h.1 hk rfl hc, ?_⟩
  show InvX (up2 (up2 (up2 (up2 V 9 (k * 5 + cq k) (nI w)) 10 (k * 5 + cq k) 0) 11 (k * 5 + cq k) 0) 3 k (nI (cq k + 1)))
  refine InvX.up (InvX.up (InvX.up (InvX.up h.2 ?_ ?_ ?_ ?_ ?_) ?_ ?_ ?_ ?_ ?_) ?_ ?_ ?_ ?_ ?_) ?_ ?_ ?_ ?_ ?_ <;> intro q <;> first | exact bd_nI hw | exact absurd q (by decide)
theorem li_plan {V : sV} {cq : Nat → Nat} {B k p : Nat} (h : LI V cq B) (hk : k < 6) (hp : p < 2 ^ cq k) : LI (up2 V 4 k (nI p)) cq B := by
  have h32 := p32 (h.cnt k hk).2
  refine ⟨inv_plan h.1 hk ⟨nI_pos (by omega), ?_⟩, InvX.up h.2 ?_ ?_ ?_ ?_ ?_⟩
  · rw [evB_nat (h.cnt k hk).1 (h.cnt k hk).2]
    exact fun q => absurd ((nI_ltI (by omega) (by omega)).mp q) (by omega)
  all_goals intro q; exact absurd q (by decide)
theorem li_feast {V : sV} {cq : Nat → Nat} {B k : Nat} {x : Int32} (h : LI V cq B) : LI (up2 V 5 k x) cq B := by
  refine ⟨h.1.put (by omega), InvX.up h.2 ?_ ?_ ?_ ?_ ?_⟩
  all_goals intro q; exact absurd q (by decide)
theorem li_fade {V : sV} {cq : Nat → Nat} {B d : Nat} (h : LI V cq B) (hd : d ≤ 9) : LI (up2 V 12 0 (nI d)) cq B :=
  ⟨h.1.put (by omega), InvX.up h.2 (fun q => absurd q (by decide)) (fun q => absurd q (by decide)) (fun q => absurd q (by decide)) (fun q => absurd q (by decide)) (fun _ _ => bd_nI hd)⟩
theorem li_rest {V : sV} {cq : Nat → Nat} {B d : Nat} (h : LI V cq B) (h1 : 1 ≤ d) (hd : d ≤ 3) : LI (up2 V 12 1 (nI d)) cq B :=
  ⟨inv_set1 h.1 ⟨fun q => absurd ((nI_ltI (a := d) (b := 1) (by omega) (by decide)).mp q) (by omega), fun q => absurd ((nI_ltI (a := 3) (b := d) (by decide) (by omega)).mp q) (by omega)⟩, InvX.up h.2 (fun q => absurd q (by decide)) (fun q => absurd q (by decide)) (fun q => absurd q (by decide)) (fun q => absurd q (by decide)) (fun _ q => absurd q (by decide))⟩
theorem li_set0 {V : sV} {cq : Nat → Nat} {B k mi ri : Nat} (h : LI V cq B) (hk : k < 6) (hm : mi ≤ 40) (hr : ri ≤ 20) : LI (up2 (up2 (up2 V 0 k (nI mi)) 1 k (nI ri)) 2 k (minI (V 2 k) (nI ri))) cq B := by
  have hmin : Bd (minI (V 2 k) (nI ri)) 20 := by
    unfold minI
    split
    · exact bd_nI hr
    · exact h.2.2.2.1 k hk
  refine ⟨((h.1.put (by omega)).put (by omega)).put (by omega), InvX.up (InvX.up (InvX.up h.2 ?_ ?_ ?_ ?_ ?_) ?_ ?_ ?_ ?_ ?_) ?_ ?_ ?_ ?_ ?_⟩
  all_goals intro q
  all_goals first | exact absurd q (by decide) | exact bd_nI hm | exact bd_nI hr | exact hmin
theorem li_v0 : LI (v0 6) (fun _ => 0) (300 * 0) := by
  refine ⟨inv_v0, fun t ht => ?_, fun t ht => ?_, fun t ht => ?_, fun t b ht hb => ?_, ?_⟩
  · exact ⟨4 * t, by omega, by unfold v0; rw [if_neg (by decide), if_pos ht, if_pos rfl]⟩
  · exact ⟨8, by omega, by unfold v0; rw [if_neg (by decide), if_pos ht, if_neg (by decide), if_pos rfl]; rfl⟩
  · exact ⟨0, by omega, by unfold v0; rw [if_neg (by decide), if_pos ht, if_neg (by decide), if_neg (by decide), if_neg (by decide)]; rfl⟩
  · refine ⟨0, by omega, ?_⟩
    unfold v0
    rw [if_neg (by decide)]
    split
    · rw [if_neg (by decide), if_neg (by decide), if_neg (by decide)]; rfl
    · rfl
  · exact ⟨1, by omega, rfl⟩
/-! splices -/
theorem spl_int {a b : Nat} (ha : a ≤ 20) (hb : b ≤ 20) : (nI a < nI b + 2 ↔ a < b + 2) ∧ (2 ≤ nI a - nI b ↔ b + 2 ≤ a) := by
  have e2 : nI b + 2 = nI (b + 2) := nI_add b 2
  have hs := sub_int (a := a) (b := b) (by omega) (by omega)
  rw [e2, nI_ltI (by omega) (by omega), Int32.le_iff_toInt_le, hs, show (2 : Int32).toInt = 2 by decide]
  exact ⟨Iff.rfl, by omega⟩
theorem sp_can {V : sV} {cq : Nat → Nat} {B k b : Nat} (h : LI V cq B) (hk : k < 6) (hb : b < cq k) : spE V (nI k) (nI b) k b = (if V 10 (k * 5 + b) = 0 then -4 else if 2 ≤ resT V k then 0 else -4) ∧ (V 10 (k * 5 + b) ≤ 0 ↔ V 10 (k * 5 + b) = 0) ∧ (V 1 k < V 2 k + 2 ↔ ¬ 2 ≤ resT V k) := by
  refine ⟨if_pos (hb_yes h hk hb), ((sil_eq (h.1.2.2.2.1 k b hk (by have := (h.cnt k hk).2; omega)).1).symm), ?_⟩
  obtain ⟨a, ha, ea⟩ := h.2.2.1 k hk
  obtain ⟨c, hc, ec⟩ := h.2.2.2.1 k hk
  show V 1 k < V 2 k + 2 ↔ ¬ 2 ≤ V 1 k - V 2 k
  rw [ea, ec, (spl_int ha hc).1, (spl_int ha hc).2]
  omega
theorem sp_yes {V : sV} {cq : Nat → Nat} {B k b : Nat} (h : LI V cq B) (hk : k < 6) (hb : b < cq k) (h1 : ¬ V 10 (k * 5 + b) ≤ 0) (h2 : ¬ V 1 k < V 2 k + 2) : spE V (nI k) (nI b) k b = 0 := by
  obtain ⟨e1, e2, e3⟩ := sp_can h hk hb
  rw [e1, if_neg (fun q => h1 (e2.mpr q)), if_pos (Decidable.byContradiction fun q => h2 (e3.mpr q))]
theorem sp_no1 {V : sV} {cq : Nat → Nat} {B k b : Nat} (h : LI V cq B) (hk : k < 6) (hb : b < cq k) (h1 : V 10 (k * 5 + b) ≤ 0) : spE V (nI k) (nI b) k b = -4 := by
  obtain ⟨e1, e2, e3⟩ := sp_can h hk hb
  rw [e1, if_pos (e2.mp h1)]
theorem sp_no2 {V : sV} {cq : Nat → Nat} {B k b : Nat} (h : LI V cq B) (hk : k < 6) (hb : b < cq k) (h2 : V 1 k < V 2 k + 2) : spE V (nI k) (nI b) k b = -4 := by
  obtain ⟨e1, e2, e3⟩ := sp_can h hk hb
  rw [e1, if_neg (e3.mp h2), ite_self]
theorem li_spl {V : sV} {cq : Nat → Nat} {B k b : Nat} (h : LI V cq B) (hk : k < 6) (hb : b < cq k) (h2 : ¬ V 1 k < V 2 k + 2) : LI (up2 (up2 V 10 (k * 5 + b) 0) 2 k (V 2 k + 2)) cq B := by
  have hbd : Bd (V 2 k + 2) 20 := by
    obtain ⟨a, ha, ea⟩ := h.2.2.1 k hk
    obtain ⟨c, hc, ec⟩ := h.2.2.2.1 k hk
    rw [ea, ec, (spl_int ha hc).1] at h2
    exact ⟨c + 2, by omega, by rw [ec]; exact nI_add c 2⟩
  refine ⟨inv_spl h.1, InvX.up (InvX.up h.2 ?_ ?_ ?_ ?_ ?_) ?_ ?_ ?_ ?_ ?_⟩
  all_goals intro q
  all_goals first | exact absurd q (by decide) | exact hbd
/-! melt -/
def pnN (p b : Nat) : Nat → Int32
  | 0 => 0
  | j + 1 => pnN p b j + (if j = b then 0 else ((nI p >>> (nI j &&& 31)) &&& 1) <<< (nI (if j < b then j else j - 1) &&& 31))
theorem pn_c : ∀ c, c < 6 → ∀ b, b < c → ∀ p, p < 2 ^ c → pnN p b c = nI (p % 2 ^ b + p / 2 ^ (b + 1) * 2 ^ b) := by decide +kernel
theorem pn_pn {V : sV} {k p : Nat} (hp : V 4 k = nI p) (b : Nat) : ∀ n, pnL V k b n = pnN p b n
  | 0 => rfl
  | n + 1 => by rw [pnL, pnN, hp, pn_pn hp b n]
theorem mll_at (V : sV) (t b : Nat) (k j : Nat) : ∀ n, b + n ≤ 5 → mlL V t b n k j = if slK k ∧ t * 5 + b ≤ j ∧ j < t * 5 + b + n then (if j - t * 5 < 4 then V k (j + 1) else 0) else V k j
  | 0, _ => by rw [if_neg (by omega)]; rfl
  | n + 1, hn => by
    have ih : ∀ k' j', mlL V t b n k' j' = _ := fun k' j' => mll_at V t b k' j' n (by omega)
    have nx : ∀ k', mlL V t b n k' (t * 5 + (b + n + 1)) = V k' (t * 5 + (b + n + 1)) := fun k' => by rw [ih, if_neg (by omega)]
    have fin : ∀ X : Nat → Int32, (∀ k', slK k' → X k' = if b + n < 4 then V k' (t * 5 + (b + n + 1)) else 0) → up2 (up2 (up2 (mlL V t b n) 9 (t * 5 + (b + n)) (X 9)) 10 (t * 5 + (b + n)) (X 10)) 11 (t * 5 + (b + n)) (X 11) k j = if slK k ∧ t * 5 + b ≤ j ∧ j < t * 5 + b + (n + 1) then (if j - t * 5 < 4 then V k (j + 1) else 0) else V k j := by
      intro X hX
      rw [up2_if, up2_if, up2_if, ih]
      by_cases hj : j = t * 5 + (b + n)
      · subst hj
        have e1 : t * 5 + (b + n) - t * 5 = b + n := by omega
        have e2 : t * 5 + (b + n) + 1 = t * 5 + (b + n + 1) := by omega
        by_cases hk : slK k
        · rw [if_pos (show slK k ∧ t * 5 + b ≤ t * 5 + (b + n) ∧ t * 5 + (b + n) < t * 5 + b + (n + 1) from ⟨hk, by omega, by omega⟩), e1, e2, ← hX k hk]
          rcases hk with rfl | rfl | rfl
          · rw [if_neg (by omega), if_neg (by omega), if_pos ⟨rfl, rfl⟩]
          · rw [if_neg (by omega), if_pos ⟨rfl, rfl⟩]
          · rw [if_pos ⟨rfl, rfl⟩]
        · rw [if_neg (fun q => hk (Or.inr (Or.inr q.1))), if_neg (fun q => hk (Or.inr (Or.inl q.1))), if_neg (fun q => hk (Or.inl q.1)), if_neg (fun q => hk q.1), if_neg (fun q => hk q.1)]
      · rw [if_neg (fun q => hj q.2), if_neg (fun q => hj q.2), if_neg (fun q => hj q.2)]
        by_cases hl : slK k ∧ t * 5 + b ≤ j ∧ j < t * 5 + b + n
        · rw [if_pos hl, if_pos (show slK k ∧ t * 5 + b ≤ j ∧ j < t * 5 + b + (n + 1) from ⟨hl.1, hl.2.1, by omega⟩)]
        · rw [if_neg hl, if_neg (fun q => hl ⟨q.1, q.2.1, by omega⟩)]
    rw [mlL]
    split
    · rename_i h4
      exact fin (fun k' => mlL V t b n k' (t * 5 + (b + n + 1))) (fun k' _ => by rw [if_pos h4]; exact nx k')
    · rename_i h4
      exact fin (fun _ => 0) (fun k' _ => (if_neg h4).symm)
theorem rem_law {V : sV} {cq : Nat → Nat} {B k b : Nat} (h : LI V cq B) (hk : k < 6) (hb : b < cq k) : up2 (up2 (mlL V k b (5 - b)) 3 k (mlL V k b (5 - b) 3 k - 1)) 4 k (pnL V k b (cq k)) = remV V k b (cq k) := by
  obtain ⟨a1, hc5, p, hp, hp2⟩ := h.1.1 k hk
  have e3 : mlL V k b (5 - b) 3 k - 1 = nI (cq k - 1) := by
    rw [mlL_k _ _ _ (by decide), a1]
    exact pk_sub (a := cq k) (b := 1) (by omega)
  rw [e3, pn_pn hp, pn_c (cq k) (by omega) b hb p hp2]
  funext r j
  rw [rem_at hb hc5 hp hp2, up2_if]
  by_cases h4 : r = 4 ∧ j = k
  · rw [if_pos h4, if_pos h4]
  · rw [if_neg h4, if_neg h4, up2_if]
    by_cases h3 : r = 3 ∧ j = k
    · rw [if_pos h3, if_pos h3]
    · rw [if_neg h3, if_neg h3, mll_at V k b r j (5 - b) (by omega)]
      by_cases hs : slK r ∧ k * 5 + b ≤ j ∧ j < k * 5 + b + (5 - b)
      · rw [if_pos hs]
        have hz : ∀ b', cq k ≤ b' → b' < 5 → V r (k * 5 + b') = 0 := fun b' h1 h2 => by
          have hz2 := h.1.2.2.2.2.1 k b' hk h1 h2
          rcases hs.1 with rfl | rfl | rfl
          · exact hz2.1
          · exact hz2.2.1
          · exact hz2.2.2
        have hnext : ∀ j', cq k ≤ j' - k * 5 → k * 5 ≤ j' → j' < k * 5 + 5 → V r j' = 0 := fun j' h1 h2 h5 => by
          have := hz (j' - k * 5) h1 (by omega)
          rwa [show k * 5 + (j' - k * 5) = j' by omega] at this
        by_cases h5 : j = k * 5 + (cq k - 1)
        · rw [if_pos (show slK r ∧ j = k * 5 + (cq k - 1) from ⟨hs.1, h5⟩)]
          split
          · exact hnext (j + 1) (by omega) (by omega) (by omega)
          · rfl
        · rw [if_neg (show ¬ (slK r ∧ j = k * 5 + (cq k - 1)) from fun q => h5 q.2)]
          by_cases h6 : j < k * 5 + (cq k - 1)
          · rw [if_pos (show slK r ∧ k * 5 + b ≤ j ∧ j < k * 5 + (cq k - 1) from ⟨hs.1, hs.2.1, h6⟩), if_pos (show j - k * 5 < 4 by omega)]
          · rw [if_neg (show ¬ (slK r ∧ k * 5 + b ≤ j ∧ j < k * 5 + (cq k - 1)) from fun q => h6 q.2.2), hnext j (by omega) (by omega) (by omega)]
            split
            · exact hnext (j + 1) (by omega) (by omega) (by omega)
            · rfl
      · rw [if_neg hs, if_neg (fun q => hs ⟨q.1, by omega, by omega⟩), if_neg (fun q => hs ⟨q.1, q.2.1, by omega⟩)]
theorem li_rem {V : sV} {cq : Nat → Nat} {B k b : Nat} (h : LI V cq B) (hk : k < 6) (hb : b < cq k) : LI (remV V k b (cq k)) (cqP cq k (cq k - 1)) B := by
  refine ⟨inv_rem h.1 hk rfl hb, ?_⟩
  obtain ⟨x0, x1, x2, x9, x12⟩ := h.2
  obtain ⟨a1, hc5, p, hp, hp2⟩ := h.1.1 k hk
  have at' := fun r j => rem_at hb hc5 hp hp2 r j
  refine ⟨fun t ht => ?_, fun t ht => ?_, fun t ht => ?_, fun t b' ht hb' => ?_, ?_⟩
  · rw [at', if_neg (by omega), if_neg (by omega), if_neg (by omega), if_neg (by omega)]; exact x0 t ht
  · rw [at', if_neg (by omega), if_neg (by omega), if_neg (by omega), if_neg (by omega)]; exact x1 t ht
  · rw [at', if_neg (by omega), if_neg (by omega), if_neg (by omega), if_neg (by omega)]; exact x2 t ht
  · rw [at', if_neg (by omega), if_neg (by omega)]
    split
    · exact ⟨0, by omega, rfl⟩
    · split
      · rename_i q1 q2
        have e : t = k := by omega
        subst e
        have := x9 t (b' + 1) ht (by omega)
        rwa [show t * 5 + (b' + 1) = t * 5 + b' + 1 by omega] at this
      · exact x9 t b' ht hb'
  · rw [at', if_neg (by omega), if_neg (by omega), if_neg (by omega), if_neg (by omega)]; exact x12

theorem rem_12 {V : sV} {cq : Nat → Nat} {B k b : Nat} (h : LI V cq B) (hk : k < 6) (hb : b < cq k) (j : Nat) : remV V k b (cq k) 12 j = V 12 j := by
  rw [← rem_law h hk hb, up2_ne (by omega), up2_ne (by omega), mlL_k _ _ _ (by decide)]
