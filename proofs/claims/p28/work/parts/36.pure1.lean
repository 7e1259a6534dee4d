/-! ===== THE CLASS'S WORDS ARE THE REFERENCE'S: what is rung ===== -/
theorem wr_at (W N : sV) (k j : Nat) : ∀ n, wrV W N n k j = if (k = 10 ∨ k = 11) ∧ j < n ∧ N 0 j = 0 then W k j + 1 else W k j
  | 0 => by rw [if_neg (by omega)]; rfl
  | n + 1 => by
    rw [wrV]
    by_cases h0 : N 0 n = 0
    · rw [if_neg (fun q => q h0), up2_if, up2_if, wr_at W N k j n, wr_at W N 10 n n, wr_at W N 11 n n]
      by_cases hj : j = n
      · subst hj
        by_cases h1 : k = 11
        · subst h1
          rw [if_pos ⟨rfl, rfl⟩, if_neg (by omega), if_pos ⟨Or.inr rfl, by omega, h0⟩]
        · rw [if_neg (fun q => h1 q.1)]
          by_cases h2 : k = 10
          · subst h2
            rw [if_pos ⟨rfl, rfl⟩, if_neg (by omega), if_pos ⟨Or.inl rfl, by omega, h0⟩]
          · rw [if_neg (fun q => h2 q.1), if_neg (fun q => q.1.elim h2 h1), if_neg (fun q => q.1.elim h2 h1)]
      · rw [if_neg (fun q => hj q.2), if_neg (fun q => hj q.2)]
        by_cases hl : (k = 10 ∨ k = 11) ∧ j < n ∧ N 0 j = 0
        · rw [if_pos hl, if_pos ⟨hl.1, by omega, hl.2.2⟩]
        · rw [if_neg hl, if_neg (fun q => hl ⟨q.1, by omega, q.2.2⟩)]
    · rw [if_pos h0, wr_at W N k j n]
      by_cases hl : (k = 10 ∨ k = 11) ∧ j < n ∧ N 0 j = 0
      · rw [if_pos hl, if_pos ⟨hl.1, by omega, hl.2.2⟩]
      · rw [if_neg hl, if_neg (fun q => by
          have hjn : j ≠ n := fun e => h0 (e ▸ q.2.2)
          exact hl ⟨q.1, by omega, q.2.2⟩)]
theorem tr_at (W N : sV) (k j : Nat) : ∀ n, trV W N n k j = if k = 2 ∧ j < n then N 2 j / 2 else W k j
  | 0 => by rw [if_neg (by omega)]; rfl
  | n + 1 => by
    rw [trV, up2_if, tr_at W N k j n]
    by_cases hj : k = 2 ∧ j = n
    · rw [if_pos hj, if_pos ⟨hj.1, by omega⟩, hj.2]
    · rw [if_neg hj]
      by_cases hl : k = 2 ∧ j < n
      · rw [if_pos hl, if_pos ⟨hl.1, by omega⟩]
      · rw [if_neg hl, if_neg (fun q => hl ⟨q.1, by have : j ≠ n := fun e => hj ⟨q.1, e⟩; omega⟩)]
theorem fs_at (W : sV) (k j : Nat) : ∀ n, fsV W n k j = if k = 6 ∧ j < n then (if W 6 j ≤ 0 then W 6 j else W 6 j - 1) else W k j
  | 0 => by rw [if_neg (by omega)]; rfl
  | n + 1 => by
    have e6 : fsV W n 6 n = W 6 n := by rw [fs_at W 6 n n, if_neg (by omega)]
    rw [fsV, e6]
    by_cases h0 : W 6 n ≤ 0
    · rw [if_pos h0, fs_at W k j n]
      by_cases hl : k = 6 ∧ j < n
      · rw [if_pos hl, if_pos (show k = 6 ∧ j < n + 1 from ⟨hl.1, by omega⟩)]
      · rw [if_neg hl]
        by_cases hj : k = 6 ∧ j = n
        · rw [if_pos ⟨hj.1, by omega⟩, hj.2, if_pos h0, hj.1]
        · rw [if_neg (fun q => hl ⟨q.1, by have : j ≠ n := fun e => hj ⟨q.1, e⟩; omega⟩)]
    · rw [if_neg h0, up2_if, fs_at W k j n]
      by_cases hj : k = 6 ∧ j = n
      · rw [if_pos hj, if_pos ⟨hj.1, by omega⟩, hj.2, if_neg h0]
      · rw [if_neg hj]
        by_cases hl : k = 6 ∧ j < n
        · rw [if_pos hl, if_pos (show k = 6 ∧ j < n + 1 from ⟨hl.1, by omega⟩)]
        · rw [if_neg hl, if_neg (fun q => hl ⟨q.1, by have : j ≠ n := fun e => hj ⟨q.1, e⟩; omega⟩)]
/-! what is rung: the class's rows -/
theorem riN_at (V : sV) (t : Nat) (N : sV) (k j : Nat) : ∀ b, b ≤ 5 → riN V t N b k j = if k = 0 ∧ t * 5 ≤ j ∧ j < t * 5 + b then rsC V t (j - t * 5) else N k j
  | 0, _ => by rw [if_neg (by omega)]; rfl
  | b + 1, h => by
    rw [riN, up2_if, riN_at V t N k j b (by omega)]
    by_cases hj : k = 0 ∧ j = t * 5 + b
    · rw [if_pos hj, if_pos ⟨hj.1, by omega, by omega⟩, hj.2, Nat.add_sub_cancel_left]
    · rw [if_neg hj]
      by_cases hl : k = 0 ∧ t * 5 ≤ j ∧ j < t * 5 + b
      · rw [if_pos hl, if_pos ⟨hl.1, hl.2.1, by omega⟩]
      · rw [if_neg hl, if_neg (fun q => hl ⟨q.1, q.2.1, by have : j ≠ t * 5 + b := fun e => hj ⟨q.1, e⟩; omega⟩)]
theorem f1N_k (V N : sV) {k j : Nat} (h : k = 3 ∨ 5 ≤ k) : ∀ n, f1N V N n k j = N k j
  | 0 => up2_ne (by omega)
  | n + 1 => by
    have e : rinN V n (f1N V N n) k j = N k j := by
      show up2 (up2 (riN V n (f1N V N n) 5) 1 n _) 2 n _ k j = _
      rw [up2_ne (by omega), up2_ne (by omega), riN_at _ _ _ _ _ 5 (Nat.le_refl _), if_neg (by omega), f1N_k V N h n]
    rw [f1N]
    split
    · exact e
    · rw [up2_ne (by omega), e]
theorem f1N_0 (V N : sV) (j : Nat) : ∀ n, f1N V N n 0 j = if j < n * 5 then rsC V (j / 5) (j % 5) else N 0 j
  | 0 => by rw [if_neg (by omega)]; exact up2_ne (by omega)
  | n + 1 => by
    have e : rinN V n (f1N V N n) 0 j = if j < (n + 1) * 5 then rsC V (j / 5) (j % 5) else N 0 j := by
      show up2 (up2 (riN V n (f1N V N n) 5) 1 n _) 2 n _ 0 j = _
      rw [up2_ne (by omega), up2_ne (by omega), riN_at _ _ _ _ _ 5 (Nat.le_refl _), f1N_0 V N j n]
      by_cases hl : n * 5 ≤ j ∧ j < n * 5 + 5
      · rw [if_pos ⟨rfl, hl.1, hl.2⟩, if_pos (by omega), show j / 5 = n by omega, show j % 5 = j - n * 5 by omega]
      · rw [if_neg (fun q => hl ⟨q.2.1, q.2.2⟩)]
        by_cases h2 : j < n * 5
        · rw [if_pos h2, if_pos (by omega)]
        · rw [if_neg h2, if_neg (by omega)]
    rw [f1N]
    split
    · exact e
    · rw [up2_ne (by omega), e]
theorem f1N_12 (V N : sV) (j : Nat) : ∀ n, (f1N V N n 1 j = if j < n then (vbC V j 5).1 else N 1 j) ∧ (f1N V N n 2 j = if j < n then (vbC V j 5).2 else N 2 j)
  | 0 => ⟨by rw [if_neg (by omega)]; exact up2_ne (by omega), by rw [if_neg (by omega)]; exact up2_ne (by omega)⟩
  | n + 1 => by
    have e : (rinN V n (f1N V N n) 1 j = if j < n + 1 then (vbC V j 5).1 else N 1 j) ∧ (rinN V n (f1N V N n) 2 j = if j < n + 1 then (vbC V j 5).2 else N 2 j) := by
      have ih := f1N_12 V N j n
      show (up2 (up2 (riN V n (f1N V N n) 5) 1 n _) 2 n _ 1 j = _) ∧ (up2 (up2 (riN V n (f1N V N n) 5) 1 n _) 2 n _ 2 j = _)
      by_cases hj : j = n
      · subst hj
        rw [up2_ne (by omega), up2_eq, up2_eq, if_pos (by omega), if_pos (by omega)]
        exact ⟨rfl, rfl⟩
      · refine ⟨?_, ?_⟩
        · rw [up2_ne (by omega), up2_ne (by omega), riN_at _ _ _ _ _ 5 (Nat.le_refl _), if_neg (by omega), ih.1]
          by_cases hl : j < n
          · rw [if_pos hl, if_pos (show j < n + 1 by omega)]
          · rw [if_neg hl, if_neg (show ¬ j < n + 1 by omega)]
        · rw [up2_ne (by omega), up2_ne (by omega), riN_at _ _ _ _ _ 5 (Nat.le_refl _), if_neg (by omega), ih.2]
          by_cases hl : j < n
          · rw [if_pos hl, if_pos (show j < n + 1 by omega)]
          · rw [if_neg hl, if_neg (show ¬ j < n + 1 by omega)]
    rw [f1N]
    split
    · exact e
    · rw [up2_ne (by omega), up2_ne (by omega)]; exact e
theorem f2N_k (V N : sV) {k j : Nat} (h : k ≠ 3) : ∀ n, f2N V N n k j = N k j
  | 0 => rfl
  | n + 1 => by rw [f2N, up2_ne (by omega), f2N_k V N h n]
theorem f2N_3 (V N : sV) (j : Nat) : ∀ n, f2N V N n 3 j = if j < n then (wmF V (N 1) j 6).2 else N 3 j
  | 0 => by rw [if_neg (by omega)]; rfl
  | n + 1 => by
    have e1 : f2N V N n 1 = N 1 := funext fun z => f2N_k V N (by omega) n
    rw [f2N, up2_if, f2N_3 V N j n, e1]
    by_cases hj : j = n
    · subst hj; rw [if_pos ⟨rfl, rfl⟩, if_pos (by omega)]
    · rw [if_neg (fun q => hj q.2)]
      by_cases hl : j < n
      · rw [if_pos hl, if_pos (by omega)]
      · rw [if_neg hl, if_neg (by omega)]
