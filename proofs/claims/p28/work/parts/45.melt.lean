/-! ===== a bell is melted ===== -/
abbrev slK (k : Nat) : Prop := k = 9 ∨ k = 10 ∨ k = 11
theorem sh_at (V : sV) (t b : Nat) (k j : Nat) : ∀ n, shV V t b n k j = if slK k ∧ t * 5 + b ≤ j ∧ j < t * 5 + b + n then V k (j + 1) else V k j
  | 0 => by rw [if_neg (by omega)]; rfl
  | n + 1 => by
    have ih := fun k' j' => sh_at V t b k' j' n
    have ej : t * 5 + (b + 1 + n) - 1 = t * 5 + b + n := by omega
    have e9 : ∀ k', slK k' → shV V t b n k' (t * 5 + (b + 1 + n)) = V k' (t * 5 + b + n + 1) := fun k' hk => by rw [ih, if_neg (by omega), show t * 5 + (b + 1 + n) = t * 5 + b + n + 1 by omega]
    rw [shV]
    show up2 (up2 (up2 (shV V t b n) 9 (t * 5 + (b + 1 + n) - 1) _) 10 (t * 5 + (b + 1 + n) - 1) _) 11 (t * 5 + (b + 1 + n) - 1) _ k j = _
    rw [ej, e9 9 (Or.inl rfl), e9 10 (Or.inr (Or.inl rfl)), e9 11 (Or.inr (Or.inr rfl)), up2_if, up2_if, up2_if, ih]
    by_cases hj : j = t * 5 + b + n
    · subst hj
      by_cases h1 : k = 11
      · subst h1; rw [if_pos ⟨rfl, rfl⟩, if_pos ⟨Or.inr (Or.inr rfl), by omega, by omega⟩]
      · rw [if_neg (fun q => h1 q.1)]
        by_cases h2 : k = 10
        · subst h2; rw [if_pos ⟨rfl, rfl⟩, if_pos ⟨Or.inr (Or.inl rfl), by omega, by omega⟩]
        · rw [if_neg (fun q => h2 q.1)]
          by_cases h3 : k = 9
          · subst h3; rw [if_pos ⟨rfl, rfl⟩, if_pos ⟨Or.inl rfl, by omega, by omega⟩]
          · rw [if_neg (fun q => h3 q.1), if_neg (by omega), if_neg (by omega)]
    · rw [if_neg (fun q => hj q.2), if_neg (fun q => hj q.2), if_neg (fun q => hj q.2)]
      by_cases hl : slK k ∧ t * 5 + b ≤ j ∧ j < t * 5 + b + n
      · rw [if_pos hl, if_pos ⟨hl.1, hl.2.1, by omega⟩]
      · rw [if_neg hl, if_neg (fun q => hl ⟨q.1, q.2.1, by omega⟩)]
theorem ml_at (W : sV) (t b c : Nat) (k j : Nat) : ∀ n, mlV W t b c n k j = if slK k ∧ t * 5 + b ≤ j ∧ j < t * 5 + b + n then (if j - t * 5 < c - 1 then W k (j + 1) else 0) else W k j
  | 0 => by rw [if_neg (by omega)]; rfl
  | n + 1 => by
    have ih := fun k' j' => ml_at W t b c k' j' n
    have ej : t * 5 + (b + n) = t * 5 + b + n := by omega
    have e9 : ∀ k', slK k' → mlV W t b c n k' (t * 5 + (b + n + 1)) = W k' (t * 5 + b + n + 1) := fun k' hk => by rw [ih, if_neg (by omega), show t * 5 + (b + n + 1) = t * 5 + b + n + 1 by omega]
    have key : mlV W t b c (n + 1) k j = if slK k ∧ j = t * 5 + b + n then (if b + n < c - 1 then W k (j + 1) else 0) else mlV W t b c n k j := by
      rw [mlV, ej]
      by_cases hc : b + n < c - 1
      · rw [if_pos hc, e9 9 (Or.inl rfl), e9 10 (Or.inr (Or.inl rfl)), e9 11 (Or.inr (Or.inr rfl)), up2_if, up2_if, up2_if]
        by_cases h1 : k = 11 ∧ j = t * 5 + b + n
        · rw [if_pos h1, if_pos ⟨Or.inr (Or.inr h1.1), h1.2⟩, if_pos hc, h1.1, h1.2]
        · rw [if_neg h1]
          by_cases h2 : k = 10 ∧ j = t * 5 + b + n
          · rw [if_pos h2, if_pos ⟨Or.inr (Or.inl h2.1), h2.2⟩, if_pos hc, h2.1, h2.2]
          · rw [if_neg h2]
            by_cases h3 : k = 9 ∧ j = t * 5 + b + n
            · rw [if_pos h3, if_pos ⟨Or.inl h3.1, h3.2⟩, if_pos hc, h3.1, h3.2]
            · rw [if_neg h3, if_neg (by omega)]
      · rw [if_neg hc, up2_if, up2_if, up2_if]
        by_cases h1 : k = 11 ∧ j = t * 5 + b + n
        · rw [if_pos h1, if_pos ⟨Or.inr (Or.inr h1.1), h1.2⟩, if_neg hc]
        · rw [if_neg h1]
          by_cases h2 : k = 10 ∧ j = t * 5 + b + n
          · rw [if_pos h2, if_pos ⟨Or.inr (Or.inl h2.1), h2.2⟩, if_neg hc]
          · rw [if_neg h2]
            by_cases h3 : k = 9 ∧ j = t * 5 + b + n
            · rw [if_pos h3, if_pos ⟨Or.inl h3.1, h3.2⟩, if_neg hc]
            · rw [if_neg h3, if_neg (by omega)]
    rw [key, ih]
    by_cases hj : slK k ∧ j = t * 5 + b + n
    · have e5 : (j - t * 5 < c - 1) = (b + n < c - 1) := by rw [hj.2]; congr 1; omega
      rw [if_pos hj, if_pos (show slK k ∧ t * 5 + b ≤ j ∧ j < t * 5 + b + (n + 1) from ⟨hj.1, by omega, by omega⟩)]
      by_cases h5 : b + n < c - 1
      · rw [if_pos h5, if_pos (by omega)]
      · rw [if_neg h5, if_neg (by omega)]
    · rw [if_neg hj]
      by_cases hl : slK k ∧ t * 5 + b ≤ j ∧ j < t * 5 + b + n
      · rw [if_pos hl, if_pos (show slK k ∧ t * 5 + b ≤ j ∧ j < t * 5 + b + (n + 1) from ⟨hl.1, hl.2.1, by omega⟩)]
      · rw [if_neg hl, if_neg (fun q => by
          by_cases e : j = t * 5 + b + n
          · exact hj ⟨q.1, e⟩
          · exact hl ⟨q.1, q.2.1, by omega⟩)]
/-- a plan without the bell b -/
theorem plan_c : ∀ p, p < 32 → ∀ b, b < 5 → (nI p &&& ((1 <<< (nI b &&& 31)) - 1)) ||| ((nI p >>> (nI (b + 1) &&& 31)) <<< (nI b &&& 31)) = nI (p % 2 ^ b + p / 2 ^ (b + 1) * 2 ^ b) := by decide +kernel
theorem plan_m : ∀ p, p < 32 → ∀ b, b < 5 → (nI p &&& (((1 : Int32) <<< (nI b &&& 31)) - 1)) ||| ((nI p >>> ((1 : Int32) &&& 31)) &&& ((((1 : Int32) <<< (nI b &&& 31)) - 1) ^^^ (-1 : Int32))) = nI (p % 2 ^ b + p / 2 ^ (b + 1) * 2 ^ b) := by decide +kernel
theorem plan_b : ∀ c, c < 6 → ∀ p, p < 2 ^ c → ∀ b, b < c → p % 2 ^ b + p / 2 ^ (b + 1) * 2 ^ b < 2 ^ (c - 1) := by decide +kernel
/-- the rows behind a melting -/
theorem rem_at {V : sV} {t b c p : Nat} (hb : b < c) (hc : c ≤ 5) (hp : V 4 t = nI p) (hp2 : p < 2 ^ c) (k j : Nat) : remV V t b c k j = if k = 4 ∧ j = t then nI (p % 2 ^ b + p / 2 ^ (b + 1) * 2 ^ b) else if k = 3 ∧ j = t then nI (c - 1) else if slK k ∧ j = t * 5 + (c - 1) then 0 else if slK k ∧ t * 5 + b ≤ j ∧ j < t * 5 + (c - 1) then V k (j + 1) else V k j := by
  have h32 : 2 ^ c ≤ 2 ^ 5 := Nat.pow_le_pow_right (by decide) hc
  show up2 (up2 (up2 (up2 (up2 (shV V t b (c - 1 - b)) 9 (t * 5 + (c - 1)) 0) 10 (t * 5 + (c - 1)) 0) 11 (t * 5 + (c - 1)) 0) 3 t (nI (c - 1))) 4 t ((shV V t b (c - 1 - b) 4 t &&& ((1 <<< (nI b &&& 31)) - 1)) ||| ((shV V t b (c - 1 - b) 4 t >>> (nI (b + 1) &&& 31)) <<< (nI b &&& 31))) k j = _
  rw [sh_at V t b 4 t, if_neg (by omega), hp, plan_c p (by omega) b (by omega), up2_if]
  by_cases h4 : k = 4 ∧ j = t
  · rw [if_pos h4, if_pos h4]
  · rw [if_neg h4, if_neg h4, up2_if]
    by_cases h3 : k = 3 ∧ j = t
    · rw [if_pos h3, if_pos h3]
    · rw [if_neg h3, if_neg h3, up2_if, up2_if, up2_if, sh_at]
      by_cases hs : slK k ∧ j = t * 5 + (c - 1)
      · rw [if_pos hs]
        rcases hs with ⟨rfl | rfl | rfl, e⟩
        · rw [if_neg (by omega), if_neg (by omega), if_pos ⟨rfl, e⟩]
        · rw [if_neg (by omega), if_pos ⟨rfl, e⟩]
        · rw [if_pos ⟨rfl, e⟩]
      · rw [if_neg hs, if_neg (fun q => hs ⟨Or.inr (Or.inr q.1), q.2⟩), if_neg (fun q => hs ⟨Or.inr (Or.inl q.1), q.2⟩), if_neg (fun q => hs ⟨Or.inl q.1, q.2⟩)]
        by_cases hl : slK k ∧ t * 5 + b ≤ j ∧ j < t * 5 + (c - 1)
        · rw [if_pos hl, if_pos ⟨hl.1, hl.2.1, by omega⟩]
        · rw [if_neg hl, if_neg (fun q => hl ⟨q.1, q.2.1, by omega⟩)]
theorem mel_eq {V : sV} {t b c p : Nat} (hb : b < c) (hc : c ≤ 5) (hp : V 4 t = nI p) (hp2 : p < 2 ^ c) (hz : ∀ b', c ≤ b' → b' < 5 → V 9 (t * 5 + b') = 0 ∧ V 10 (t * 5 + b') = 0 ∧ V 11 (t * 5 + b') = 0) : remV V t b c = melM V t b c := by
  have h32 : 2 ^ c ≤ 2 ^ 5 := Nat.pow_le_pow_right (by decide) hc
  funext k j
  rw [rem_at hb hc hp hp2]
  have e4 : mlV (up2 V 3 t (nI (c - 1))) t b c (5 - b) 4 t = nI p := by rw [ml_at, if_neg (by omega), up2_ne (by omega), hp]
  show _ = up2 (mlV (up2 V 3 t (nI (c - 1))) t b c (5 - b)) 4 t ((mlV (up2 V 3 t (nI (c - 1))) t b c (5 - b) 4 t &&& (((1 : Int32) <<< (nI b &&& 31)) - 1)) ||| ((mlV (up2 V 3 t (nI (c - 1))) t b c (5 - b) 4 t >>> ((1 : Int32) &&& 31)) &&& ((((1 : Int32) <<< (nI b &&& 31)) - 1) ^^^ (-1 : Int32)))) k j
  rw [e4, plan_m p (by omega) b (by omega), up2_if]
  by_cases h4 : k = 4 ∧ j = t
  · rw [if_pos h4, if_pos h4]
  · rw [if_neg h4, if_neg h4, ml_at]
    by_cases h3 : k = 3 ∧ j = t
    · rw [if_pos h3, if_neg (by omega), h3.1, h3.2, up2_eq]
    · rw [if_neg h3]
      by_cases hs : slK k ∧ t * 5 + b ≤ j ∧ j < t * 5 + b + (5 - b)
      · rw [if_pos hs]
        by_cases h5 : j = t * 5 + (c - 1)
        · rw [if_pos ⟨hs.1, h5⟩, if_neg (by omega)]
        · rw [if_neg (fun q => h5 q.2)]
          by_cases h6 : j < t * 5 + (c - 1)
          · rw [if_pos ⟨hs.1, hs.2.1, h6⟩, if_pos (by omega), up2_ne (by omega)]
          · rw [if_neg (fun q => h6 q.2.2), if_neg (by omega)]
            have hz2 := hz (j - t * 5) (by omega) (by omega)
            rw [show t * 5 + (j - t * 5) = j by omega] at hz2
            rcases hs.1 with rfl | rfl | rfl
            · exact hz2.1
            · exact hz2.2.1
            · exact hz2.2.2
      · rw [if_neg hs, if_neg (fun q => hs ⟨q.1, by omega, by omega⟩), if_neg (fun q => hs ⟨q.1, q.2.1, by omega⟩), up2_ne h3]
