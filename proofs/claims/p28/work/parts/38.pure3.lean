/-! ===== which bells are rung: the reference's mask, the class's volumes ===== -/
theorem bit_hi : ∀ p, p < 32 → ∀ b, b < 5 → p < 2 ^ b → ¬ bitW (nI p) b := by decide +kernel
theorem bit_or : ∀ m, m < 32 → ∀ b, b < 5 → ∀ b', b' < 5 → (bitW (nI m ||| ((1 : Int32) <<< (nI b &&& 31))) b' ↔ (bitW (nI m) b' ∨ b' = b)) := by decide +kernel
theorem or_cl : ∀ m, m < 32 → ∀ b, b < 5 → nI m ||| ((1 : Int32) <<< (nI b &&& 31)) = nI (m ||| 2 ^ b) ∧ m ||| 2 ^ b < 32 := by decide +kernel
theorem bit_0 : ∀ b, b < 5 → ¬ bitW 0 b := by decide +kernel
abbrev rgC (V : sV) (t b : Nat) : Prop := V 6 t ≤ 0 ∧ bitW (wantC V t) b ∧ V 10 (t * 5 + b) < 6 ∧ rF (V 9 (t * 5 + b)) ≤ resT V t - (vbC V t b).2
theorem vb_yes {V : sV} {t b : Nat} (h : rgC V t b) : vbC V t (b + 1) = ((vbC V t b).1 + V 9 (t * 5 + b), (vbC V t b).2 + rF (V 9 (t * 5 + b))) := by
  rw [vbC, if_neg (fun q => q h.1), if_neg (fun q => q h.2.1), if_neg (fun q => q h.2.2.1), if_neg (fun q => q h.2.2.2)]
theorem vb_no {V : sV} {t b : Nat} (h : ¬ rgC V t b) : vbC V t (b + 1) = vbC V t b := by
  rw [vbC]
  by_cases h1 : V 6 t ≤ 0
  · rw [if_neg (fun q => q h1)]
    by_cases h2 : bitW (wantC V t) b
    · rw [if_neg (fun q => q h2)]
      by_cases h3 : V 10 (t * 5 + b) < 6
      · rw [if_neg (fun q => q h3)]
        by_cases h4 : rF (V 9 (t * 5 + b)) ≤ resT V t - (vbC V t b).2
        · exact absurd ⟨h1, h2, h3, h4⟩ h
        · rw [if_pos h4]
      · rw [if_pos h3]
    · rw [if_pos h2]
  · rw [if_pos h1]
theorem rs_0 {V : sV} {t b : Nat} : rsC V t b = 0 ↔ rgC V t b := by
  show (if ¬ V 6 t ≤ 0 then (1 : Int32) else if ¬ bitW (wantC V t) b then 2 else if ¬ V 10 (t * 5 + b) < 6 then 3 else if ¬ rF (V 9 (t * 5 + b)) ≤ resT V t - (vbC V t b).2 then 4 else 0) = 0 ↔ _
  by_cases h1 : V 6 t ≤ 0
  · rw [if_neg (fun q => q h1)]
    by_cases h2 : bitW (wantC V t) b
    · rw [if_neg (fun q => q h2)]
      by_cases h3 : V 10 (t * 5 + b) < 6
      · rw [if_neg (fun q => q h3)]
        by_cases h4 : rF (V 9 (t * 5 + b)) ≤ resT V t - (vbC V t b).2
        · rw [if_neg (fun q => q h4)]; exact ⟨fun _ => ⟨h1, h2, h3, h4⟩, fun _ => rfl⟩
        · rw [if_pos h4]; exact ⟨fun q => absurd q (by decide), fun q => absurd q.2.2.2 h4⟩
      · rw [if_pos h3]; exact ⟨fun q => absurd q (by decide), fun q => absurd q.2.2.1 h3⟩
    · rw [if_pos h2]; exact ⟨fun q => absurd q (by decide), fun q => absurd q.2.1 h2⟩
  · rw [if_pos h1]; exact ⟨fun q => absurd q (by decide), fun q => absurd q.1 h1⟩
theorem sub_add (a x y : Int32) : a - (x + y) = a - x - y := by
  first
  | exact Int32.sub_add_eq ..
  | grind
theorem wM_silent {V : sV} {t : Nat} {p : Int32} (h : ¬ V 6 t ≤ 0) : wM V t p = 0 := if_neg h
theorem wM_want {V : sV} {t : Nat} (h : V 6 t ≤ 0) : wM V t (V 4 t) = wantC V t := if_pos h
theorem rg_eq (V : sV) (t : Nat) : ∀ b, b ≤ 5 → ∃ m, m < 32 ∧ (rgM V t (V 4 t) b).1 = nI m ∧ (rgM V t (V 4 t) b).2 = resT V t - (vbC V t b).2 ∧ ∀ b', b' < 5 → (bitW (nI m) b' ↔ b' < b ∧ rgC V t b')
  | 0, _ => ⟨0, by decide, rfl, by show V 1 t - V 2 t = V 1 t - V 2 t - 0; simp, fun b' h => ⟨fun q => absurd q (bit_0 b' h), fun q => absurd q.1 (Nat.not_lt_zero _)⟩⟩
  | b + 1, h => by
    obtain ⟨m, h1, h2, h3, h4⟩ := rg_eq V t b (by omega)
    have no : ¬ rgC V t b → rgM V t (V 4 t) (b + 1) = rgM V t (V 4 t) b → ∃ m, m < 32 ∧ (rgM V t (V 4 t) (b + 1)).1 = nI m ∧ (rgM V t (V 4 t) (b + 1)).2 = resT V t - (vbC V t (b + 1)).2 ∧ ∀ b', b' < 5 → (bitW (nI m) b' ↔ b' < b + 1 ∧ rgC V t b') := by
      intro hn e
      rw [e, vb_no hn]
      refine ⟨m, h1, h2, h3, fun b' hb => (h4 b' hb).trans ⟨fun q => ⟨by omega, q.2⟩, fun q => ⟨?_, q.2⟩⟩⟩
      have : b' ≠ b := fun e2 => hn (e2 ▸ q.2)
      omega
    by_cases s1 : V 6 t ≤ 0
    · by_cases s2 : bitW (wantC V t) b
      · by_cases s3 : V 10 (t * 5 + b) < 6
        · by_cases s4 : rF (V 9 (t * 5 + b)) ≤ resT V t - (vbC V t b).2
          · have hy : rgC V t b := ⟨s1, s2, s3, s4⟩
            obtain ⟨o1, o2⟩ := or_cl m h1 b (by omega)
            have e : rgM V t (V 4 t) (b + 1) = ((rgM V t (V 4 t) b).1 ||| (1 <<< (nI b &&& 31)), (rgM V t (V 4 t) b).2 - rF (V 9 (t * 5 + b))) := by
              rw [rgM, wM_want s1, if_pos s2, if_neg (Int32.not_le.mpr s3), if_neg (by rw [h3]; exact Int32.not_lt.mpr s4)]
            rw [e, vb_yes hy]
            refine ⟨m ||| 2 ^ b, o2, ?_, ?_, fun b' hb => ?_⟩
            · show (rgM V t (V 4 t) b).1 ||| (1 <<< (nI b &&& 31)) = _
              rw [h2]; exact o1
            · show (rgM V t (V 4 t) b).2 - rF (V 9 (t * 5 + b)) = resT V t - ((vbC V t b).2 + rF (V 9 (t * 5 + b)))
              rw [h3, sub_add]
            · rw [← o1, bit_or m h1 b (by omega) b' hb, h4 b' hb]
              constructor
              · rintro (q | q)
                · exact ⟨by omega, q.2⟩
                · subst q; exact ⟨by omega, hy⟩
              · intro q
                by_cases e2 : b' = b
                · exact Or.inr e2
                · exact Or.inl ⟨by omega, q.2⟩
          · exact no (fun q => s4 q.2.2.2) (by rw [rgM, wM_want s1, if_pos s2, if_neg (Int32.not_le.mpr s3), if_pos (by rw [h3]; exact Int32.not_le.mp s4)])
        · exact no (fun q => s3 q.2.2.1) (by rw [rgM, wM_want s1, if_pos s2, if_pos (Int32.not_lt.mp s3)])
      · exact no (fun q => s2 q.2.1) (by rw [rgM, wM_want s1, if_neg s2])
    · exact no (fun q => s1 q.1) (by rw [rgM, wM_silent s1, if_neg (bit_0 b (by omega))])
/-- a town's bells and plan -/
abbrev tnV (V : sV) (t c : Nat) : Prop := V 3 t = nI c ∧ c ≤ 5 ∧ ∃ p, V 4 t = nI p ∧ p < 2 ^ c
theorem want_hi {V : sV} {t c b : Nat} (h : tnV V t c) (hb : c ≤ b) (hb5 : b < 5) : ¬ bitW (wantC V t) b := by
  obtain ⟨h1, h2, p, h3, h4⟩ := h
  have hpow : 2 ^ c ≤ 2 ^ b := Nat.pow_le_pow_right (by decide) hb
  have h32 : 2 ^ c ≤ 2 ^ 5 := Nat.pow_le_pow_right (by decide) h2
  show ¬ bitW (if V 12 2 - V 12 2 / 7 * 7 = V 5 t then evB V t else V 4 t) b
  split
  · rw [evB_nat h1 h2]
    exact bit_hi _ (by omega) b hb5 (by have : 0 < 2 ^ c := Nat.pos_of_ne_zero (by simp); omega)
  · rw [h3]
    exact bit_hi p (by omega) b hb5 (by omega)
theorem vbk_c {V : sV} {t c : Nat} (h : tnV V t c) : ∀ k, c + k ≤ 5 → vbC V t (c + k) = vbC V t c
  | 0, _ => rfl
  | k + 1, hk => by
    rw [← Nat.add_assoc, vb_no (fun q => want_hi h (by omega) (by omega) q.2.1), vbk_c h k (by omega)]
theorem vb_5 {V : sV} {t c : Nat} (h : tnV V t c) : vbC V t 5 = vbC V t c := by
  have := vbk_c h (5 - c) (by have := h.2.1; omega)
  rwa [show c + (5 - c) = 5 by have := h.2.1; omega] at this
theorem ls_eq {V : sV} {t c m : Nat} (hc : c ≤ 5) (hb : ∀ b', b' < 5 → (bitW (nI m) b' ↔ b' < c ∧ rgC V t b')) : ∀ b, b ≤ c → lsM V t (nI m) b = (vbC V t b).1
  | 0, _ => rfl
  | b + 1, h => by
    rw [lsM, ls_eq hc hb b (by omega)]
    by_cases e : rgC V t b
    · rw [if_pos ((hb b (by omega)).mpr ⟨by omega, e⟩), vb_yes e]
    · rw [if_neg (fun q => e ((hb b (by omega)).mp q).2), vb_no e]; simp
theorem ld_u {V : sV} {cq : Nat → Nat} {t : Nat} (h : tnV V t (cq t)) : ldM V cq t = (vbC V t 5).1 := by
  obtain ⟨m, h1, h2, h3, h4⟩ := rg_eq V t (cq t) h.2.1
  show lsM V t (rgM V t (V 4 t) (cq t)).1 (cq t) = _
  rw [h2, ls_eq h.2.1 h4 _ (Nat.le_refl _), vb_5 h]
