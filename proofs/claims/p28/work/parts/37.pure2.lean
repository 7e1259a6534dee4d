/-! ===== what is heard, who wins, who is the loudest ===== -/
theorem abs_eq (x : Int32) : absI x = abM x := by
  have h : (0 : Int32) - x = -x := by simp
  show (if 0 ≤ x then x else 0 - x) = if 0 ≤ x then x else -x
  rw [h]
theorem snd_eq (V : sV) (u : Nat → Int32) (t e : Nat) : sndF V u t e = hrM V u t e := by
  show (if 0 < u t - V 12 0 * absI (V 0 t - V 0 e) then u t - V 12 0 * absI (V 0 t - V 0 e) else 0) = if u t - V 12 0 * abM (V 0 t - V 0 e) ≤ 0 then 0 else u t - V 12 0 * abM (V 0 t - V 0 e)
  rw [abs_eq]
  by_cases h : u t - V 12 0 * abM (V 0 t - V 0 e) ≤ 0
  · rw [if_pos h, if_neg (Int32.not_lt.mpr h)]
  · rw [if_neg h, if_pos (Int32.not_le.mp h)]
theorem wm_eq (V : sV) (u : Nat → Int32) (e : Nat) : ∀ n, wmF V u e n = bsM V u e n
  | 0 => rfl
  | n + 1 => by
    rw [wmF, bsM, snd_eq, wm_eq V u e n]
    split
    · split <;> rfl
    · rfl
theorem bsM_c {V V' : sV} {u u' : Nat → Int32} {e : Nat} (h0 : ∀ t, t < 6 → V 0 t = V' 0 t) (h12 : V 12 0 = V' 12 0) (hu : ∀ t, t < 6 → u t = u' t) (he : e < 6) : ∀ n, n ≤ 6 → bsM V u e n = bsM V' u' e n
  | 0, _ => rfl
  | n + 1, h => by
    have e1 : hrM V u n e = hrM V' u' n e := by
      show (if u n - V 12 0 * abM (V 0 n - V 0 e) ≤ 0 then 0 else u n - V 12 0 * abM (V 0 n - V 0 e)) = if u' n - V' 12 0 * abM (V' 0 n - V' 0 e) ≤ 0 then 0 else u' n - V' 12 0 * abM (V' 0 n - V' 0 e)
      rw [hu n (by omega), h12, h0 n (by omega), h0 e he]
    rw [bsM, bsM, e1, bsM_c h0 h12 hu he n (by omega)]
theorem wmF_c {V V' : sV} {u u' : Nat → Int32} {e : Nat} (h0 : ∀ t, t < 6 → V 0 t = V' 0 t) (h12 : V 12 0 = V' 12 0) (hu : ∀ t, t < 6 → u t = u' t) (he : e < 6) : wmF V u e 6 = wmF V' u' e 6 := by
  rw [wm_eq, wm_eq]
  exact bsM_c h0 h12 hu he 6 (Nat.le_refl _)
/-- the loudest, by the class's order and by the reference's -/
def ldP (u : Nat → Int32) (n : Nat) (M L : Int32) : Prop :=
  (L = -5 ∧ M = 0 ∧ ∀ t, t < n → (u t).toInt ≤ 0) ∨ ∃ w, w < n ∧ L = nI w ∧ M = u w ∧ 0 < (u w).toInt ∧ (∀ t, t < w → (u t).toInt < (u w).toInt) ∧ ∀ t, t < n → (u t).toInt ≤ (u w).toInt
theorem ld_class (V N : sV) : ∀ n, ldP (fun t => (vbC V t 5).1) n (moC V n) (f1N V N n 4 0)
  | 0 => Or.inl ⟨up2_eq _ _ _ _, rfl, fun t h => absurd h (Nat.not_lt_zero _)⟩
  | n + 1 => by
    have ih := ld_class V N n
    have z0 : (0 : Int32).toInt = 0 := by decide
    have er : rinN V n (f1N V N n) 4 0 = f1N V N n 4 0 := by
      show up2 (up2 (riN V n (f1N V N n) 5) 1 n _) 2 n _ 4 0 = _
      rw [up2_ne (by omega), up2_ne (by omega), riN_at _ _ _ _ _ 5 (Nat.le_refl _), if_neg (by omega)]
    rw [f1N, moC]
    by_cases h : (vbC V n 5).1 ≤ moC V n
    · rw [if_pos h, if_pos h, er]
      have h2 := Int32.le_iff_toInt_le.mp h
      rcases ih with ⟨a1, a2, a3⟩ | ⟨w, b1, b2, b3, b4, b5, b6⟩
      · refine Or.inl ⟨a1, a2, fun t ht => ?_⟩
        by_cases e : t = n
        · subst e; rw [a2, z0] at h2; exact h2
        · exact a3 t (by omega)
      · refine Or.inr ⟨w, by omega, b2, b3, b4, b5, fun t ht => ?_⟩
        by_cases e : t = n
        · subst e; rw [b3] at h2; exact h2
        · exact b6 t (by omega)
    · rw [if_neg h, if_neg h, up2_eq]
      have h2 : (moC V n).toInt < ((vbC V n 5).1).toInt := Int32.lt_iff_toInt_lt.mp (Int32.not_le.mp h)
      rcases ih with ⟨a1, a2, a3⟩ | ⟨w, b1, b2, b3, b4, b5, b6⟩
      · rw [a2, z0] at h2
        refine Or.inr ⟨n, by omega, rfl, rfl, h2, fun t ht => ?_, fun t ht => ?_⟩
        · have := a3 t ht
          show ((vbC V t 5).1).toInt < ((vbC V n 5).1).toInt
          have h3 : ((vbC V t 5).1).toInt ≤ 0 := this
          omega
        · show ((vbC V t 5).1).toInt ≤ ((vbC V n 5).1).toInt
          by_cases e : t = n
          · subst e; exact Int.le_refl _
          · have h3 : ((vbC V t 5).1).toInt ≤ 0 := a3 t (by omega)
            omega
      · rw [b3] at h2
        have h2 : ((vbC V w 5).1).toInt < ((vbC V n 5).1).toInt := h2
        have b4 : 0 < ((vbC V w 5).1).toInt := b4
        refine Or.inr ⟨n, by omega, rfl, rfl, by show 0 < ((vbC V n 5).1).toInt; omega, fun t ht => ?_, fun t ht => ?_⟩
        · show ((vbC V t 5).1).toInt < ((vbC V n 5).1).toInt
          have h3 : ((vbC V t 5).1).toInt ≤ ((vbC V w 5).1).toInt := b6 t ht
          omega
        · show ((vbC V t 5).1).toInt ≤ ((vbC V n 5).1).toInt
          by_cases e : t = n
          · subst e; exact Int.le_refl _
          · have h3 : ((vbC V t 5).1).toInt ≤ ((vbC V w 5).1).toInt := b6 t (by omega)
            omega
theorem ld_ref (u : Nat → Int32) : ∀ i, i ≤ 6 → (lnM u i = -5 ∧ ∀ t, 6 - i ≤ t → t < 6 → (u t).toInt ≤ 0) ∨ ∃ w, 6 - i ≤ w ∧ w < 6 ∧ lnM u i = nI w ∧ 0 < (u w).toInt ∧ (∀ t, 6 - i ≤ t → t < w → (u t).toInt < (u w).toInt) ∧ ∀ t, 6 - i ≤ t → t < 6 → (u t).toInt ≤ (u w).toInt
  | 0, _ => Or.inl ⟨rfl, fun t h1 h2 => by omega⟩
  | i + 1, h => by
    have ih := ld_ref u i (by omega)
    have z0 : (0 : Int32).toInt = 0 := by decide
    rw [lnM]
    by_cases h0 : u (5 - i) ≤ 0
    · rw [if_pos h0]
      have h1 := Int32.le_iff_toInt_le.mp h0
      rw [z0] at h1
      rcases ih with ⟨a1, a2⟩ | ⟨w, b0, b1, b2, b4, b5, b6⟩
      · refine Or.inl ⟨a1, fun t h3 h4 => ?_⟩
        by_cases e : t = 5 - i
        · rw [e]; exact h1
        · exact a2 t (by omega) h4
      · refine Or.inr ⟨w, by omega, b1, b2, b4, fun t h3 h4 => ?_, fun t h3 h4 => ?_⟩
        · by_cases e : t = 5 - i
          · rw [e]; omega
          · exact b5 t (by omega) h4
        · by_cases e : t = 5 - i
          · rw [e]; omega
          · exact b6 t (by omega) h4
    · rw [if_neg h0]
      have h1 := Int32.lt_iff_toInt_lt.mp (Int32.not_le.mp h0)
      rw [z0] at h1
      rcases ih with ⟨a1, a2⟩ | ⟨w, b0, b1, b2, b4, b5, b6⟩
      · rw [if_pos a1]
        refine Or.inr ⟨5 - i, by omega, by omega, rfl, h1, fun t h3 h4 => by omega, fun t h3 h4 => ?_⟩
        by_cases e : t = 5 - i
        · rw [e]; exact Int.le_refl _
        · have := a2 t (by omega) h4; omega
      · have hne : ¬ lnM u i = -5 := by
          rw [b2]; intro q
          have h9 := congrArg Int32.toInt q
          rw [nI_toInt (by omega)] at h9
          have h8 : (-5 : Int32).toInt = -5 := by decide
          omega
        rw [if_neg hne, b2, nI_clamp (by omega)]
        by_cases h2 : u (5 - i) < u w
        · rw [if_pos h2]
          have h3 := Int32.lt_iff_toInt_lt.mp h2
          refine Or.inr ⟨w, by omega, b1, rfl, b4, fun t h4 h5 => ?_, fun t h4 h5 => ?_⟩
          · by_cases e : t = 5 - i
            · rw [e]; exact h3
            · exact b5 t (by omega) h5
          · by_cases e : t = 5 - i
            · rw [e]; omega
            · exact b6 t (by omega) h5
        · rw [if_neg h2]
          have h3 := Int32.le_iff_toInt_le.mp (Int32.not_lt.mp h2)
          refine Or.inr ⟨5 - i, by omega, by omega, rfl, h1, fun t h4 h5 => by omega, fun t h4 h5 => ?_⟩
          by_cases e : t = 5 - i
          · rw [e]; exact Int.le_refl _
          · have := b6 t (by omega) h5; omega
theorem ld_eq (V N : sV) {u : Nat → Int32} (hu : ∀ t, t < 6 → u t = (vbC V t 5).1) : f1N V N 6 4 0 = lnM u 6 := by
  rcases ld_class V N 6 with ⟨a1, a2, a3⟩ | ⟨w, b1, b2, b3, b4, b5, b6⟩ <;> rcases ld_ref u 6 (Nat.le_refl _) with ⟨c1, c2⟩ | ⟨v, d0, d1, d2, d4, d5, d6⟩
  · rw [a1, c1]
  · have h3 : ((vbC V v 5).1).toInt ≤ 0 := a3 v d1
    rw [hu v d1] at d4
    omega
  · have b4 : 0 < ((vbC V w 5).1).toInt := b4
    have := c2 w (by omega) b1
    rw [hu w b1] at this
    omega
  · rw [b2, d2]
    have h1 : ((vbC V v 5).1).toInt ≤ ((vbC V w 5).1).toInt := b6 v d1
    have h2 := d6 w (by omega) b1
    rw [hu w b1, hu v d1] at h2
    rcases Nat.lt_trichotomy w v with q | q | q
    · have h5 := d5 w (by omega) q
      rw [hu w b1, hu v d1] at h5
      omega
    · rw [q]
    · have h5 : ((vbC V v 5).1).toInt < ((vbC V w 5).1).toInt := b5 v q
      omega
