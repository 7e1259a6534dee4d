/-! ===== a turn ===== -/
theorem liX_at (V : sV) (c : Nat → Nat) (X : sV) (j : Nat) : ∀ n, liX V c X n 4 j = if j < n then ldM V c j else X 4 j
  | 0 => by rw [if_neg (by omega)]; rfl
  | n + 1 => by
    rw [liX, up2_if, liX_at V c X j n]
    by_cases hj : j = n
    · rw [if_pos ⟨rfl, hj⟩, if_pos (by omega), hj]
    · rw [if_neg (fun q => hj q.2)]
      by_cases hl : j < n
      · rw [if_pos hl, if_pos (by omega)]
      · rw [if_neg hl, if_neg (by omega)]
/-- what the class holds of the next turn, in the reference's words; u: what is heard at home -/
theorem for_at {V : sV} {cq : Nat → Nat} (hT : ∀ t, t < 6 → tnV V t (cq t)) (N : sV) {u : Nat → Int32} (hu : ∀ t, t < 6 → u t = ldM V cq t) :
    (∀ j, j < 30 → forN V N 0 j = rsC V (j / 5) (j % 5)) ∧ (∀ t, t < 6 → forN V N 1 t = u t) ∧ (∀ t, t < 6 → forN V N 2 t = (vbC V t 5).2) ∧ (∀ e, e < 6 → forN V N 3 e = (bsM V u e 6).2) ∧ forN V N 4 0 = lnM u 6 := by
  have hu2 : ∀ t, t < 6 → u t = (vbC V t 5).1 := fun t ht => (hu t ht).trans (ld_u (hT t ht))
  have h1 : ∀ t, t < 6 → f1N V N 6 1 t = u t := fun t ht => by rw [(f1N_12 V N t 6).1, if_pos ht, hu2 t ht]
  refine ⟨fun j hj => ?_, fun t ht => ?_, fun t ht => ?_, fun e he => ?_, ?_⟩
  · show f2N V (f1N V N 6) 6 0 j = _
    rw [f2N_k _ _ (by decide), f1N_0, if_pos hj]
  · show f2N V (f1N V N 6) 6 1 t = _
    rw [f2N_k _ _ (by decide), h1 t ht]
  · show f2N V (f1N V N 6) 6 2 t = _
    rw [f2N_k _ _ (by decide), (f1N_12 V N t 6).2, if_pos ht]
  · show f2N V (f1N V N 6) 6 3 e = _
    rw [f2N_3, if_pos he, wm_eq]
    exact congrArg Prod.snd (bsM_c (fun _ _ => rfl) rfl h1 he 6 (Nat.le_refl _))
  · show f2N V (f1N V N 6) 6 4 0 = _
    rw [f2N_k _ _ (by decide)]
    exact ld_eq V N hu2
theorem nI_m5 {w : Nat} (h : w < 6) : ¬ nI w = -5 := by
  intro q
  have h9 := congrArg Int32.toInt q
  rw [nI_toInt (by omega)] at h9
  have h8 : (-5 : Int32).toInt = -5 := by decide
  omega
theorem isT_m5 : ¬ isT (-5) := by decide
theorem gp_eq {V N : sV} {u : Nat → Int32} (h3 : ∀ e, e < 6 → N 3 e = (bsM V u e 6).2) : ∀ n, n ≤ 6 → gpV V N n = tpV V u n
  | 0, _ => rfl
  | n + 1, h => by
    have ih := gp_eq h3 n (by omega)
    have eb : bsM (tpV V u n) u n 6 = bsM V u n 6 := bsM_c (fun t _ => tpV_k V u (by decide) t n) (tpV_k V u (by decide) 0 n) (fun _ _ => rfl) (by omega) 6 (Nat.le_refl _)
    rw [gpV, tpV, eb, h3 n (by omega), ih]
    rcases bsM_rng V u n 6 (Nat.le_refl _) with e | ⟨w, hw, e⟩
    · rw [e, if_neg isT_m5, if_pos rfl]
    · rw [e, if_pos (isT_nI hw), if_neg (nI_m5 hw)]
theorem twn.of7 {W V : sV} (h : ∀ k j, k ≠ 7 → W k j = V k j) (t : Nat) : twn W V t :=
  ⟨h 12 2 (by decide), fun k hk => h k t (by omega), fun b _ => ⟨h 9 _ (by decide), h 10 _ (by decide)⟩⟩
/-- the rows of a turn behind the points: ropes, ringers, silences -/
theorem mid_eq {W N : sV} {cq : Nat → Nat} (hT : ∀ t, t < 6 → tnV W t (cq t)) (h6 : ∀ t, t < 6 → 0 ≤ (W 6 t).toInt) (h0 : ∀ j, j < 30 → N 0 j = rsC W (j / 5) (j % 5)) (h2 : ∀ t, t < 6 → N 2 t = (vbC W t 5).2) : fsV (trV (wrV W N 30) N 6) 6 = ttV W cq 6 := by
  funext k j
  rw [fs_at, tr_at, tr_at, wr_at, wr_at, tt_at hT k j 6 (Nat.le_refl _), if_neg (show ¬ ((6 : Nat) = 2 ∧ j < 6) by omega), if_neg (show ¬ (((6 : Nat) = 10 ∨ (6 : Nat) = 11) ∧ j < 30 ∧ N 0 j = 0) by omega)]
  by_cases a6 : k = 6 ∧ j < 6
  · rw [if_pos a6, if_pos a6]
    by_cases hz : W 6 j ≤ 0
    · rw [if_pos hz, if_pos hz]
      have h1 := Int32.le_iff_toInt_le.mp hz
      have h3 := h6 j a6.2
      have z0 : (0 : Int32).toInt = 0 := by decide
      apply Int32.toInt_inj.mp
      omega
    · rw [if_neg hz, if_neg hz]
  · rw [if_neg a6, if_neg a6]
    by_cases a2 : k = 2 ∧ j < 6
    · rw [if_pos a2, if_pos a2, h2 j a2.2]
    · rw [if_neg a2, if_neg a2]
      by_cases a1 : (k = 10 ∨ k = 11) ∧ j < 30 ∧ N 0 j = 0
      · rw [if_pos a1, if_pos ⟨a1.1, by omega, rs_0.mp ((h0 j a1.2.1).symm.trans a1.2.2)⟩]
      · rw [if_neg a1, if_neg (fun q => a1 ⟨q.1, by omega, (h0 j (by omega)).trans (rs_0.mpr q.2.2)⟩)]
theorem turn_eq {V : sV} {cq : Nat → Nat} (hT : ∀ t, t < 6 → tnV V t (cq t)) (h6 : ∀ t, t < 6 → 0 ≤ (V 6 t).toInt) (N : sV) {u : Nat → Int32} (hu : ∀ t, t < 6 → u t = ldM V cq t) : pasV V (forN V N) = tuV V cq u := by
  obtain ⟨n0, n1, n2, n3, n4⟩ := for_at hT N hu
  generalize forN V N = M at n0 n1 n2 n3 n4 ⊢
  have hg := gp_eq n3 6 (Nat.le_refl _)
  have h7 : ∀ k j, k ≠ 7 → tpV V u 6 k j = V k j := fun k j hk => tpV_k V u hk j 6
  have hTw : ∀ t, t < 6 → tnV (tpV V u 6) t (cq t) := fun t ht => by
    obtain ⟨a1, a2, p, a3, a4⟩ := hT t ht
    exact ⟨(h7 3 t (by decide)).trans a1, a2, p, (h7 4 t (by decide)).trans a3, a4⟩
  have tw : ∀ t, twn (tpV V u 6) V t := fun t => twn.of7 h7 t
  have hm : fsV (trV (wrV (tpV V u 6) M 30) M 6) 6 = ttV (tpV V u 6) cq 6 := by
    refine mid_eq hTw (fun t ht => by rw [h7 6 t (by decide)]; exact h6 t ht) (fun j hj => ?_) (fun t ht => ?_)
    · rw [n0 j hj]
      show (if ¬ V 6 (j / 5) ≤ 0 then (1 : Int32) else if ¬ bitW (wantC V (j / 5)) (j % 5) then 2 else if ¬ V 10 (j / 5 * 5 + j % 5) < 6 then 3 else if ¬ rF (V 9 (j / 5 * 5 + j % 5)) ≤ (V 1 (j / 5) - V 2 (j / 5)) - (vbC V (j / 5) (j % 5)).2 then 4 else 0) = if ¬ tpV V u 6 6 (j / 5) ≤ 0 then (1 : Int32) else if ¬ bitW (wantC (tpV V u 6) (j / 5)) (j % 5) then 2 else if ¬ tpV V u 6 10 (j / 5 * 5 + j % 5) < 6 then 3 else if ¬ rF (tpV V u 6 9 (j / 5 * 5 + j % 5)) ≤ (tpV V u 6 1 (j / 5) - tpV V u 6 2 (j / 5)) - (vbC (tpV V u 6) (j / 5) (j % 5)).2 then 4 else 0
      rw [(tw (j / 5)).want, (tw (j / 5)).vb (j % 5) (by omega), h7 6 _ (by decide), h7 10 _ (by decide), h7 9 _ (by decide), h7 1 _ (by decide), h7 2 _ (by decide)]
    · rw [n2 t ht, (tw t).vb 5 (Nat.le_refl _)]
  unfold pasV tuV flV luV
  simp only [hg, hm, n4]
  rcases lnM_rng u 6 with e | ⟨w, hw, e⟩
  · rw [e, if_neg isT_m5, if_pos rfl, up2_comm (show ¬ ((12 : Nat) = 12 ∧ (3 : Nat) = 4) by decide)]
  · rw [e, if_pos (isT_nI hw), if_neg (nI_m5 hw)]
    rw [up2_comm (show ¬ ((12 : Nat) = 6 ∧ (3 : Nat) = (nI w).toNatClampNeg) by omega), up2_comm (show ¬ ((12 : Nat) = 8 ∧ (3 : Nat) = (nI w).toNatClampNeg) by omega)]
theorem turns_eq {V X : sV} {cq : Nat → Nat} (N : sV) (h : ∀ i, (∀ t, t < 6 → tnV (mtM V X cq i).1 t (cq t)) ∧ ∀ t, t < 6 → 0 ≤ ((mtM V X cq i).1 6 t).toInt) : ∀ i, (mtV V N i).1 = (mtM V X cq i).1
  | 0 => rfl
  | i + 1 => by
    have ih := turns_eq N h i
    have h1 : (mtV V N (i + 1)).1 = pasV (mtV V N i).1 (forN (mtV V N i).1 (mtV V N i).2) := rfl
    have h2 : (mtM V X cq (i + 1)).1 = tuV (mtM V X cq i).1 cq (liX (mtM V X cq i).1 cq (mtM V X cq i).2 6 4) := rfl
    rw [h1, h2, ih]
    exact turn_eq (h i).1 (h i).2 _ (fun t ht => by rw [liX_at, if_pos ht])
