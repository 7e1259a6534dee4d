/-! ===== a turn of the class is a turn of the reference ===== -/
theorem up2_comm {V : sV} {k j k' j' : Nat} {x y : Int32} (h : ¬ (k = k' ∧ j = j')) : up2 (up2 V k j x) k' j' y = up2 (up2 V k' j' y) k j x := by
  funext a b
  simp only [up2_if]
  by_cases h1 : a = k' ∧ b = j'
  · rw [if_pos h1, if_neg (fun q => h ⟨q.1.symm.trans h1.1, q.2.symm.trans h1.2⟩), if_pos h1]
  · rw [if_neg h1, if_neg h1]
/-- two states with the same numbers for one town -/
def twn (U W : sV) (t : Nat) : Prop := U 12 2 = W 12 2 ∧ (∀ k, k = 1 ∨ k = 2 ∨ k = 3 ∨ k = 4 ∨ k = 5 ∨ k = 6 → U k t = W k t) ∧ ∀ b, b < 5 → U 9 (t * 5 + b) = W 9 (t * 5 + b) ∧ U 10 (t * 5 + b) = W 10 (t * 5 + b)
theorem twn.want {U W : sV} {t : Nat} (h : twn U W t) : wantC U t = wantC W t := by
  show (if U 12 2 - U 12 2 / 7 * 7 = U 5 t then (1 <<< (U 3 t &&& 31)) - 1 else U 4 t) = if W 12 2 - W 12 2 / 7 * 7 = W 5 t then (1 <<< (W 3 t &&& 31)) - 1 else W 4 t
  rw [h.1, h.2.1 5 (by omega), h.2.1 3 (by omega), h.2.1 4 (by omega)]
theorem twn.rg {U W : sV} {t b : Nat} (h : twn U W t) (hb : b < 5) (e : vbC U t b = vbC W t b) : rgC U t b ↔ rgC W t b := by
  show (U 6 t ≤ 0 ∧ bitW (wantC U t) b ∧ U 10 (t * 5 + b) < 6 ∧ rF (U 9 (t * 5 + b)) ≤ (U 1 t - U 2 t) - (vbC U t b).2) ↔ (W 6 t ≤ 0 ∧ bitW (wantC W t) b ∧ W 10 (t * 5 + b) < 6 ∧ rF (W 9 (t * 5 + b)) ≤ (W 1 t - W 2 t) - (vbC W t b).2)
  rw [h.want, h.2.1 6 (by omega), h.2.1 1 (by omega), h.2.1 2 (by omega), (h.2.2 b hb).1, (h.2.2 b hb).2, e]
theorem twn.vb {U W : sV} {t : Nat} (h : twn U W t) : ∀ b, b ≤ 5 → vbC U t b = vbC W t b
  | 0, _ => rfl
  | b + 1, hb => by
    have ih := twn.vb h b (by omega)
    have hr := h.rg (by omega) ih
    by_cases e : rgC W t b
    · rw [vb_yes e, vb_yes (hr.mpr e), ih, (h.2.2 b (by omega)).1]
    · rw [vb_no e, vb_no (fun q => e (hr.mp q)), ih]
theorem twn.rgc {U W : sV} {t b : Nat} (h : twn U W t) (hb : b < 5) : rgC U t b ↔ rgC W t b := h.rg hb (h.vb b (by omega))
theorem wd_at (U : sV) (t : Nat) (s : Int32) (k j : Nat) : ∀ b, (wdV U t s b).1 k j = if (k = 10 ∨ k = 11) ∧ t * 5 ≤ j ∧ j < t * 5 + b ∧ bitW s (j - t * 5) then U k j + 1 else U k j
  | 0 => by rw [if_neg (by omega)]; rfl
  | b + 1 => by
    rw [wdV]
    by_cases h0 : bitW s b
    · rw [if_pos h0]
      show up2 (up2 (wdV U t s b).1 10 (t * 5 + b) ((wdV U t s b).1 10 (t * 5 + b) + 1)) 11 (t * 5 + b) ((wdV U t s b).1 11 (t * 5 + b) + 1) k j = _
      rw [up2_if, up2_if, wd_at U t s k j b, wd_at U t s 10 (t * 5 + b) b, wd_at U t s 11 (t * 5 + b) b, if_neg (show ¬ ((10 = 10 ∨ 10 = 11) ∧ t * 5 ≤ t * 5 + b ∧ t * 5 + b < t * 5 + b ∧ bitW s (t * 5 + b - t * 5)) from fun q => absurd q.2.2.1 (Nat.lt_irrefl _)), if_neg (show ¬ ((11 = 10 ∨ 11 = 11) ∧ t * 5 ≤ t * 5 + b ∧ t * 5 + b < t * 5 + b ∧ bitW s (t * 5 + b - t * 5)) from fun q => absurd q.2.2.1 (Nat.lt_irrefl _))]
      by_cases hj : j = t * 5 + b
      · subst hj
        by_cases h1 : k = 11
        · subst h1
          rw [if_pos ⟨rfl, rfl⟩, if_pos ⟨Or.inr rfl, by omega, by omega, by rw [Nat.add_sub_cancel_left]; exact h0⟩]
        · rw [if_neg (fun q => h1 q.1)]
          by_cases h2 : k = 10
          · subst h2
            rw [if_pos ⟨rfl, rfl⟩, if_pos ⟨Or.inl rfl, by omega, by omega, by rw [Nat.add_sub_cancel_left]; exact h0⟩]
          · rw [if_neg (fun q => h2 q.1), if_neg (fun q => q.1.elim h2 h1), if_neg (fun q => q.1.elim h2 h1)]
      · rw [if_neg (fun q => hj q.2), if_neg (fun q => hj q.2)]
        by_cases hl : (k = 10 ∨ k = 11) ∧ t * 5 ≤ j ∧ j < t * 5 + b ∧ bitW s (j - t * 5)
        · rw [if_pos hl, if_pos ⟨hl.1, hl.2.1, by omega, hl.2.2.2⟩]
        · rw [if_neg hl, if_neg (fun q => hl ⟨q.1, q.2.1, by omega, q.2.2.2⟩)]
    · rw [if_neg h0, wd_at U t s k j b]
      by_cases hl : (k = 10 ∨ k = 11) ∧ t * 5 ≤ j ∧ j < t * 5 + b ∧ bitW s (j - t * 5)
      · rw [if_pos hl, if_pos ⟨hl.1, hl.2.1, by omega, hl.2.2.2⟩]
      · rw [if_neg hl, if_neg (fun q => by
          have hjn : j ≠ t * 5 + b := fun e => h0 (by have := q.2.2.2; rwa [e, Nat.add_sub_cancel_left] at this)
          exact hl ⟨q.1, q.2.1, by omega, q.2.2.2⟩)]
theorem wd_sum {U : sV} {t c m : Nat} (hc : c ≤ 5) (hb : ∀ b', b' < 5 → (bitW (nI m) b' ↔ b' < c ∧ rgC U t b')) : ∀ b, b ≤ c → (wdV U t (nI m) b).2 = (vbC U t b).2
  | 0, _ => rfl
  | b + 1, h => by
    rw [wdV]
    by_cases e : rgC U t b
    · rw [if_pos ((hb b (by omega)).mpr ⟨by omega, e⟩), vb_yes e]
      show (wdV U t (nI m) b).2 + rF ((wdV U t (nI m) b).1 9 (t * 5 + b)) = (vbC U t b).2 + rF (U 9 (t * 5 + b))
      rw [wd_sum hc hb b (by omega), wdV_k U t (nI m) (by decide) (by decide)]
    · rw [if_neg (fun q => e ((hb b (by omega)).mp q).2), vb_no e, wd_sum hc hb b (by omega)]
/-- what one town's turn leaves -/
theorem to_at {U : sV} {cq : Nat → Nat} {t : Nat} (h : tnV U t (cq t)) (k j : Nat) : toV U cq t k j = if k = 2 ∧ j = t then (vbC U t 5).2 / 2 else if (k = 10 ∨ k = 11) ∧ t * 5 ≤ j ∧ j < t * 5 + 5 ∧ rgC U t (j - t * 5) then U k j + 1 else U k j := by
  obtain ⟨m, h1, h2, h3, h4⟩ := rg_eq U t (cq t) h.2.1
  have hc5 := h.2.1
  show up2 (wdV U t (rgM U t (U 4 t) (cq t)).1 (cq t)).1 2 t ((wdV U t (rgM U t (U 4 t) (cq t)).1 (cq t)).2 / 2) k j = _
  rw [h2, up2_if, wd_sum hc5 h4 _ (Nat.le_refl _), vb_5 h, wd_at]
  by_cases e : k = 2 ∧ j = t
  · rw [if_pos e, if_pos e]
  · rw [if_neg e, if_neg e]
    by_cases hl : (k = 10 ∨ k = 11) ∧ t * 5 ≤ j ∧ j < t * 5 + 5 ∧ rgC U t (j - t * 5)
    · have hlt : j - t * 5 < cq t := by
        refine Nat.not_le.mp (fun q => ?_)
        exact want_hi h q (by omega) hl.2.2.2.2.1
      rw [if_pos hl, if_pos ⟨hl.1, hl.2.1, by omega, (h4 _ (by omega)).mpr ⟨hlt, hl.2.2.2⟩⟩]
    · rw [if_neg hl, if_neg (fun q => hl ⟨q.1, q.2.1, by omega, ((h4 _ (by omega)).mp q.2.2.2).2⟩)]
theorem tt_at {W : sV} {cq : Nat → Nat} (hT : ∀ t, t < 6 → tnV W t (cq t)) (k j : Nat) : ∀ n, n ≤ 6 → ttV W cq n k j = if k = 6 ∧ j < n then (if W 6 j ≤ 0 then 0 else W 6 j - 1) else if k = 2 ∧ j < n then (vbC W j 5).2 / 2 else if (k = 10 ∨ k = 11) ∧ j < n * 5 ∧ rgC W (j / 5) (j % 5) then W k j + 1 else W k j
  | 0, _ => by rw [if_neg (by omega), if_neg (by omega), if_neg (by omega)]; rfl
  | n + 1, hn => by
    have ih : ∀ k' j', ttV W cq n k' j' = _ := fun k' j' => tt_at hT k' j' n (by omega)
    have tw : twn (ttV W cq n) W n := by
      refine ⟨?_, fun k' hk => ?_, fun b hb => ⟨?_, ?_⟩⟩
      · rw [ih, if_neg (by omega), if_neg (by omega), if_neg (by omega)]
      · rw [ih, if_neg (by omega), if_neg (by omega), if_neg (by omega)]
      · rw [ih, if_neg (by omega), if_neg (by omega), if_neg (by omega)]
      · rw [ih, if_neg (by omega), if_neg (by omega), if_neg (by omega)]
    have ht : tnV (ttV W cq n) n (cq n) := by
      obtain ⟨a1, a2, p, a3, a4⟩ := hT n (by omega)
      exact ⟨(tw.2.1 3 (by omega)).trans a1, a2, p, (tw.2.1 4 (by omega)).trans a3, a4⟩
    have e6 : toV (ttV W cq n) cq n 6 n = W 6 n := by
      rw [to_at ht, if_neg (by omega), if_neg (by omega)]; exact tw.2.1 6 (by omega)
    rw [ttV, up2_if, e6]
    by_cases h6 : k = 6 ∧ j = n
    · rw [if_pos h6, if_pos (show k = 6 ∧ j < n + 1 from ⟨h6.1, by omega⟩), h6.2]
    · rw [if_neg h6, to_at ht, (tw.vb 5 (Nat.le_refl _))]
      by_cases h2 : k = 2 ∧ j = n
      · rw [if_pos h2, if_neg (show ¬ (k = 6 ∧ j < n + 1) by omega), if_pos (show k = 2 ∧ j < n + 1 by omega), h2.2]
      · rw [if_neg h2]
        by_cases hl : (k = 10 ∨ k = 11) ∧ n * 5 ≤ j ∧ j < n * 5 + 5 ∧ rgC (ttV W cq n) n (j - n * 5)
        · have hr := (tw.rgc (b := j - n * 5) (by omega)).mp hl.2.2.2
          rw [if_pos hl, ih, if_neg (by omega), if_neg (by omega), if_neg (by omega), if_neg (by omega), if_neg (by omega), if_pos ⟨hl.1, by omega, by rw [show j / 5 = n by omega, show j % 5 = j - n * 5 by omega]; exact hr⟩]
        · rw [if_neg hl, ih]
          by_cases a6 : k = 6 ∧ j < n
          · rw [if_pos a6, if_pos (show k = 6 ∧ j < n + 1 by omega)]
          · rw [if_neg a6, if_neg (show ¬ (k = 6 ∧ j < n + 1) by omega)]
            by_cases a2 : k = 2 ∧ j < n
            · rw [if_pos a2, if_pos (show k = 2 ∧ j < n + 1 by omega)]
            · rw [if_neg a2, if_neg (show ¬ (k = 2 ∧ j < n + 1) by omega)]
              by_cases a1 : (k = 10 ∨ k = 11) ∧ j < n * 5 ∧ rgC W (j / 5) (j % 5)
              · rw [if_pos a1, if_pos ⟨a1.1, by omega, a1.2.2⟩]
              · rw [if_neg a1, if_neg (fun q => by
                  by_cases hj : j < n * 5
                  · exact a1 ⟨q.1, hj, q.2.2⟩
                  · refine hl ⟨q.1, by omega, by omega, (tw.rgc (b := j - n * 5) (by omega)).mpr ?_⟩
                    have := q.2.2
                    rwa [show j / 5 = n by omega, show j % 5 = j - n * 5 by omega] at this)]
