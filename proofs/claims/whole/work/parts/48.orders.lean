/-! ===== the orders of a script, one after the other ===== -/
theorem bl2_dig (T : Nat → Nat) (k : Nat) : ∀ (m sp l : Nat) (acc : Int32) (x : Nat), 48 ≤ l → sp ≤ x → x < (bl2 T k m sp l acc).1 → 48 ≤ T x ∧ T x ≤ 52
  | 0, sp, l, acc, x, _, h1, h2 => absurd h2 (by show ¬ x < sp; omega)
  | m + 1, sp, l, acc, x, hl, h1, h2 => by
    rw [bl2] at h2
    by_cases ht : tkP T k sp l 52
    · rw [if_pos ht] at h2
      by_cases e : x = sp
      · subst e; have := ht.2; omega
      · exact bl2_dig T k m (sp + 1) (T sp + 1) _ x (by have := ht.2; omega) (by omega) h2
    · rw [if_neg ht] at h2
      exact absurd h2 (by show ¬ x < sp; omega)
/-- behind an order's letter there are digits to its end -/
theorem rdR_dig {T : Nat → Nat} {k sp x : Nat} (h : (rdR T k sp).1 = true) (h1 : sp < x) (h2 : x < (rdR T k sp).2.1) : 48 ≤ T x ∧ T x ≤ 57 := by
  by_cases hs : sp < k ∧ (T sp = 112 ∨ T sp = 115 ∨ T sp = 116)
  · by_cases hc : T sp = 116
    · by_cases a : tkP T k (sp + 1) 49 57
      · rw [rdR_t hs.1 hc a] at h2
        have h2 : x < sp + 2 := h2
        have e : x = sp + 1 := by omega
        subst e; have := a.2; omega
      · rw [rdR_2 hs.1 hc a] at h; exact absurd h Bool.false_ne_true
    · by_cases a : tkP T k (sp + 1) 48 53
      · by_cases hp : T sp = 112
        · rw [rdR_p hs.1 hp a] at h2
          by_cases e : x = sp + 1
          · subst e; have := a.2; omega
          · have := bl2_dig T k (k - (sp + 2)) (sp + 2) 48 0 x (by omega) (by omega) h2
            omega
        · by_cases b : tkP T k (sp + 2) 48 52
          · rw [rdR_s hs.1 (by omega) a b] at h2
            have h2 : x < sp + 3 := h2
            by_cases e : x = sp + 1
            · subst e; have := a.2; omega
            · have e : x = sp + 2 := by omega
              subst e; have := b.2; omega
          · rw [rdR_3 hs.1 (by omega) a b] at h; exact absurd h Bool.false_ne_true
      · rw [rdR_1 hs.1 (by omega) a] at h; exact absurd h Bool.false_ne_true
  · rw [rdR, if_pos hs] at h; exact absurd h Bool.false_ne_true
theorem rdR_let {T : Nat → Nat} {k sp : Nat} (h : (rdR T k sp).1 = true) : sp < k := by
  by_cases hs : sp < k ∧ (T sp = 112 ∨ T sp = 115 ∨ T sp = 116)
  · exact hs.1
  · rw [rdR, if_pos hs] at h; exact absurd h Bool.false_ne_true
/-- a whole script: its orders 0 .. i -/
abbrev scr (T : Nat → Nat) (k i : Nat) : Prop := (∀ j, j ≤ i → okA T k j) ∧ (∀ j, j < i → sepA T k j) ∧ endA T k i = k
theorem scr.of {X Y : sV} {T : Nat → Nat} {k i : Nat} (hI : isI X Y T k i) (h : scA T k i) : scr T k i :=
  ⟨fun j hj => by by_cases e : j = i; (rw [e]; exact h.1); exact (hI.2.2.2.2.2.2.2 j (by omega)).1, fun j hj => (hI.2.2.2.2.2.2.2 j hj).2, h.2⟩
theorem scr_cover {T : Nat → Nat} {k : Nat} : ∀ j x, x < posA T k j → ∃ j', j' < j ∧ posA T k j' ≤ x ∧ x ≤ endA T k j'
  | 0, x, h => absurd h (Nat.not_lt_zero _)
  | j + 1, x, h => by
    have h : x < endA T k j + 1 := h
    by_cases e : x < posA T k j
    · obtain ⟨j', a, b⟩ := scr_cover j x e
      exact ⟨j', by omega, b⟩
    · exact ⟨j, by omega, by omega, by omega⟩
theorem ltr_no {c : Nat} (h : (48 ≤ c ∧ c ≤ 57) ∨ c = 59) : ltr c = none := by
  rw [ltr, if_neg (by omega), if_neg (by omega), if_neg (by omega)]
theorem oI_none : oI none = -1 := rfl
theorem sg_out {T : Nat → Nat} {k i : Nat} (h : ¬ i < k) : sg T k i = 0 := if_neg h
/-- a letter of a script begins an order -/
theorem scr_at {T : Nat → Nat} {k i x : Nat} (hs : scr T k i) (hx : x < k) (hl : T x = 112 ∨ T x = 115 ∨ T x = 116) : ∃ j, j ≤ i ∧ x = posA T k j := by
  have hc : ∃ j', j' < i + 1 ∧ posA T k j' ≤ x ∧ x ≤ endA T k j' := scr_cover (i + 1) x (by show x < endA T k i + 1; rw [hs.2.2]; omega)
  obtain ⟨j, a, b, c⟩ := hc
  by_cases e : x = posA T k j
  · exact ⟨j, by omega, e⟩
  · exfalso
    by_cases e2 : x = endA T k j
    · by_cases e3 : j = i
      · subst e3; rw [hs.2.2] at e2; omega
      · have := (hs.2.1 j (by omega)).2
        rw [← e2] at this
        omega
    · have := rdR_dig (hs.1 j (by omega)) (x := x) (by omega) (by show x < endA T k j; omega)
      omega
theorem ok_at {T : Nat → Nat} {k i : Nat} (hs : scr T k i) (hp : ∀ j, j ≤ i → posA T k j ≤ k) (x : Nat) : okAt T k x := by
  have key : sg T k x = 112 ∨ sg T k x = 115 ∨ sg T k x = 116 → ∃ j, j ≤ i ∧ x = posA T k j ∧ x < k ∧ T x = sg T k x := by
    intro hl
    by_cases hx : x < k
    · rw [sg_in hx] at hl
      obtain ⟨j, a, b⟩ := scr_at hs hx hl
      exact ⟨j, a, b, hx, (sg_in hx).symm⟩
    · rw [sg_out hx] at hl; omega
  have fin2 : ∀ j, j ≤ i → posA T k j + 2 ≤ k := fun j hj => by
    have h1 := (rdR_le (T := T) (hp j hj)).2.2 (hs.1 j hj)
    have h2 := (rdR_le (T := T) (hp j hj)).2.1
    omega
  refine ⟨fun h => ?_, fun h => ?_, fun h => ?_⟩
  · obtain ⟨j, a, rfl, b, c⟩ := key (Or.inr (Or.inr h))
    rw [h] at c
    have h2 := fin2 j a
    rw [sg_in (show posA T k j + 1 < k by omega)]
    rcases rdR_ok (hs.1 j a) with q | q | q
    · exact ⟨T (posA T k j + 1) - 48, by omega, by omega, by omega⟩
    · omega
    · omega
  · obtain ⟨j, a, rfl, b, c⟩ := key (Or.inr (Or.inl h))
    rw [h] at c
    rcases rdR_ok (hs.1 j a) with q | q | q
    · omega
    · omega
    · have h3 : posA T k j + 3 ≤ k := by
        have a1 : tkP T k (posA T k j + 1) 48 53 := ⟨by have := fin2 j a; omega, q.2.1⟩
        by_cases a2 : tkP T k (posA T k j + 2) 48 52
        · exact a2.1
        · have := hs.1 j a
          rw [okA, rdR_3 b c a1 a2] at this
          exact absurd this Bool.false_ne_true
      rw [sg_in (show posA T k j + 1 < k by omega), sg_in (show posA T k j + 2 < k by omega)]
      exact ⟨T (posA T k j + 1) - 48, T (posA T k j + 2) - 48, by omega, by omega, by omega, by omega⟩
  · obtain ⟨j, a, rfl, b, c⟩ := key (Or.inl h)
    rw [h] at c
    have h2 := fin2 j a
    rw [sg_in (show posA T k j + 1 < k by omega)]
    rcases rdR_ok (hs.1 j a) with q | q | q
    · omega
    · exact ⟨T (posA T k j + 1) - 48, by omega, by omega⟩
    · omega
theorem bfN_eq (T : Nat → Nat) (k : Nat) : ∀ (m sp l : Nat) (acc : Int32), sp ≤ k → k - sp = m → 48 ≤ l → l ≤ 53 → ((bl2 T k m sp l acc).1 = k ∨ T (bl2 T k m sp l acc).1 = 59) → bfN T k m sp acc = (bl2 T k m sp l acc).2
  | 0, sp, l, acc, h, hm, h1, h2, he => rfl
  | m + 1, sp, l, acc, h, hm, h1, h2, he => by
    have hlt : sp < k := by omega
    rw [bl2] at he ⊢
    rw [bfN, sg_in hlt]
    by_cases ht : tkP T k sp l 52
    · rw [if_pos ht] at he ⊢
      rw [if_neg (by have := ht.2; omega)]
      exact bfN_eq T k m (sp + 1) (T sp + 1) _ (by omega) (by omega) (by have := ht.2; omega) (by have := ht.2; omega) he
    · rw [if_neg ht] at he ⊢
      have he : sp = k ∨ T sp = 59 := he
      rw [if_pos (by omega)]
