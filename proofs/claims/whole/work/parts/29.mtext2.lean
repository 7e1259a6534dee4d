/-! ===== THE REFERENCE'S TEXT: a script, how its orders are done ===== -/
/-- where the orders begin -/
def posA (T : Nat → Nat) (k : Nat) : Nat → Nat
  | 0 => 0
  | i + 1 => (rdR T k (posA T k i)).2.1 + 1
abbrev okA (T : Nat → Nat) (k i : Nat) : Prop := (rdR T k (posA T k i)).1 = true
abbrev endA (T : Nat → Nat) (k i : Nat) : Nat := (rdR T k (posA T k i)).2.1
abbrev sepA (T : Nat → Nat) (k i : Nat) : Prop := tkP T k (endA T k i) 59 59
def numA (T : Nat → Nat) (k i : Nat) : Nat := if okA T k i then i + 1 else i
theorem rdR_le {T : Nat → Nat} {k sp : Nat} (h : sp ≤ k) : sp ≤ (rdR T k sp).2.1 ∧ (rdR T k sp).2.1 ≤ k ∧ ((rdR T k sp).1 = true → sp + 2 ≤ (rdR T k sp).2.1) := by
  by_cases h1 : sp < k ∧ (T sp = 112 ∨ T sp = 115 ∨ T sp = 116)
  · by_cases hc : T sp = 116
    · by_cases h2 : tkP T k (sp + 1) 49 57
      · rw [rdR_t h1.1 hc h2]; have := h2.1; exact ⟨by show sp ≤ sp + 2; omega, by show sp + 2 ≤ k; omega, fun _ => Nat.le_refl _⟩
      · rw [rdR_2 h1.1 hc h2]; exact ⟨by show sp ≤ sp + 1; omega, by show sp + 1 ≤ k; omega, fun q => absurd q Bool.false_ne_true⟩
    · by_cases h2 : tkP T k (sp + 1) 48 53
      · have h3 := h2.1
        by_cases hp : T sp = 112
        · rw [rdR_p h1.1 hp h2]
          have := bl2_le T k (k - (sp + 2)) (sp + 2) 48 0 (by omega)
          exact ⟨by show sp ≤ (bl2 T k (k - (sp + 2)) (sp + 2) 48 0).1; omega, this.2, fun _ => this.1⟩
        · by_cases h4 : tkP T k (sp + 2) 48 52
          · rw [rdR_s h1.1 (by omega) h2 h4]; have := h4.1; exact ⟨by show sp ≤ sp + 3; omega, by show sp + 3 ≤ k; omega, fun _ => by show sp + 2 ≤ sp + 3; omega⟩
          · rw [rdR_3 h1.1 (by omega) h2 h4]; exact ⟨by show sp ≤ sp + 2; omega, by show sp + 2 ≤ k; omega, fun q => absurd q Bool.false_ne_true⟩
      · rw [rdR_1 h1.1 (by omega) h2]; exact ⟨by show sp ≤ sp + 1; omega, by show sp + 1 ≤ k; omega, fun q => absurd q Bool.false_ne_true⟩
  · rw [rdR, if_pos h1]
    exact ⟨Nat.le_refl _, h, fun q => absurd q Bool.false_ne_true⟩
/-- what a script's reading holds behind its order i -/
def isI (X Y : sV) (T : Nat → Nat) (k i : Nat) : Prop :=
  (∀ j, j ≠ 6 → j ≠ 7 → j ≠ 8 → j ≠ 9 → Y j = X j) ∧ (∀ j, j ≠ 3 → j ≠ 4 → Y 9 j = X 9 j) ∧ posA T k i ≤ k ∧ 3 * i ≤ posA T k i ∧ Y 9 3 = nI (endA T k i) ∧ Y 9 4 = nI (numA T k i) ∧
  (∀ j, j < numA T k i → Y 6 j = nI (T (posA T k j)) ∧ Y 7 j = nI (T (posA T k j + 1)) - 48 ∧ Y 8 j = (rdR T k (posA T k j)).2.2) ∧ ∀ j, j < i → okA T k j ∧ sepA T k j
theorem isI_0 {X X0 Y : sV} {T : Nat → Nat} {k : Nat} (h1 : ∀ j, j ≠ 9 → X0 j = X j) (h2 : ∀ j, j ≠ 3 → j ≠ 4 → X0 9 j = X 9 j) (h : rdP X0 Y T k 0 0) : isI X Y T k 0 := by
  obtain ⟨a1, a2, a3, a4, a5, a6⟩ := h
  refine ⟨fun j h6 h7 h8 h9 => (a1 j h6 h7 h8 h9).trans (h1 j h9), fun j h3 h4 => (a2 j h3 h4).trans (h2 j h3 h4), Nat.zero_le _, Nat.zero_le _, a3, a4, fun j hj => ?_, fun j hj => absurd hj (Nat.not_lt_zero _)⟩
  unfold numA at hj
  split at hj
  · rename_i q
    obtain rfl : j = 0 := by omega
    exact a6 q
  · exact absurd hj (Nat.not_lt_zero _)
theorem isI_s {X X0 Y Y' : sV} {T : Nat → Nat} {k i : Nat} (hI : isI X Y T k i) (hok : okA T k i) (hsep : sepA T k i) (h1 : ∀ j, j ≠ 9 → X0 j = Y j) (h2 : ∀ j, j ≠ 3 → j ≠ 4 → X0 9 j = Y 9 j) (h : rdP X0 Y' T k (endA T k i + 1) (i + 1)) : isI X Y' T k (i + 1) := by
  obtain ⟨a1, a2, a3, a4, a5, a6⟩ := h
  obtain ⟨b1, b2, b3, b4, b5, b6, b7, b8⟩ := hI
  have hr : posA T k i + 2 ≤ endA T k i := (rdR_le (T := T) b3).2.2 hok
  have hs := hsep.1
  refine ⟨fun j h6 h7 h8 h9 => ((a1 j h6 h7 h8 h9).trans (h1 j h9)).trans (b1 j h6 h7 h8 h9), fun j h3 h4 => ((a2 j h3 h4).trans (h2 j h3 h4)).trans (b2 j h3 h4), ?_, ?_, a3, a4, fun j hj => ?_, fun j hj => ?_⟩
  · show endA T k i + 1 ≤ k; omega
  · show 3 * (i + 1) ≤ endA T k i + 1; omega
  · by_cases e : j = i + 1
    · subst e
      have hq : okA T k (i + 1) := by
        unfold numA at hj
        split at hj
        · assumption
        · exact absurd hj (by omega)
      exact a6 hq
    · have hj2 : j < i + 1 := by unfold numA at hj; split at hj <;> omega
      obtain ⟨c1, c2, c3⟩ := a5 j hj2
      obtain ⟨d1, d2, d3⟩ := b7 j (by unfold numA; rw [if_pos hok]; exact hj2)
      refine ⟨?_, ?_, ?_⟩
      · rw [c1, h1 6 (by decide)]; exact d1
      · rw [c2, h1 7 (by decide)]; exact d2
      · rw [c3, h1 8 (by decide)]; exact d3
  · by_cases e : j = i
    · subst e; exact ⟨hok, hsep⟩
    · exact b8 j (by omega)
theorem up2_same {V : sV} {k j : Nat} {x : Int32} (h : V k j = x) : up2 V k j x = V := by
  funext k' j'
  rw [up2_if]
  split
  · rename_i q; rw [q.1, q.2, h]
  · rfl
abbrev scA (T : Nat → Nat) (k i : Nat) : Prop := okA T k i ∧ endA T k i = k
/-- one order done: whether it was possible, what it leaves -/
def dnM (V X : sV) (cq : Nat → Nat) (c o : Nat) (y : Int32) (b : Nat) : Bool × sV × sV :=
  if c = 116 then (true, mtM V X cq o) else if c = 112 then (decide (hasM V o y), up2 V 4 o (if hasM V o y then y else V 4 o), X)
  else (decide ((hasB V (nI o) (nI b) ∧ canM V o b) ∧ ¬ V 10 (o * 5 + b) ≤ 0), (if hasB V (nI o) (nI b) ∧ canM V o b then up2 (up2 V 10 (o * 5 + b) 0) 2 o (V 2 o + 2) else V), X)
theorem dnM_3 (V X : sV) (cq : Nat → Nat) (c o : Nat) (y : Int32) (b j : Nat) : (dnM V X cq c o y b).2.1 3 j = V 3 j := by
  unfold dnM
  split
  · exact mtM_3 V X cq j o
  · split
    · show up2 V 4 o (if hasM V o y then y else V 4 o) 3 j = V 3 j
      exact up2_ne (fun q => absurd q.1 (by decide))
    · show (if hasB V (nI o) (nI b) ∧ canM V o b then up2 (up2 V 10 (o * 5 + b) 0) 2 o (V 2 o + 2) else V) 3 j = V 3 j
      split
      · rw [up2_ne (by omega), up2_ne (by omega)]
      · rfl
theorem dnM_X (V X : sV) (cq : Nat → Nat) (c o : Nat) (y : Int32) (b : Nat) {k : Nat} (h : k ≠ 4) : (dnM V X cq c o y b).2.2 k = X k := by
  unfold dnM
  split
  · exact mtM_X V X cq h o
  · split <;> rfl
/-- the rows behind the first j orders -/
def rnM (V X : sV) (cq : Nat → Nat) (T : Nat → Nat) (k : Nat) : Nat → sV × sV
  | 0 => (V, X)
  | j + 1 => (dnM (rnM V X cq T k j).1 (rnM V X cq T k j).2 cq (T (posA T k j)) (T (posA T k j + 1) - 48) ((rdR T k (posA T k j)).2.2) (T (posA T k j + 2) - 48)).2
abbrev dnA (V X : sV) (cq : Nat → Nat) (T : Nat → Nat) (k j : Nat) : Prop := (dnM (rnM V X cq T k j).1 (rnM V X cq T k j).2 cq (T (posA T k j)) (T (posA T k j + 1) - 48) ((rdR T k (posA T k j)).2.2) (T (posA T k j + 2) - 48)).1 = true
theorem rnM_3 (V X : sV) (cq : Nat → Nat) (T : Nat → Nat) (k t : Nat) : ∀ j, (rnM V X cq T k j).1 3 t = V 3 t
  | 0 => rfl
  | j + 1 => by rw [rnM]; exact (dnM_3 ..).trans (rnM_3 V X cq T k t j)
theorem rnM_X (V X : sV) (cq : Nat → Nat) (T : Nat → Nat) (k : Nat) {z : Nat} (h : z ≠ 4) : ∀ j, (rnM V X cq T k j).2 z = X z
  | 0 => rfl
  | j + 1 => by rw [rnM]; exact (dnM_X _ _ _ _ _ _ _ h).trans (rnM_X V X cq T k h j)
theorem rdR_ok {T : Nat → Nat} {k sp : Nat} (h : (rdR T k sp).1 = true) : (T sp = 116 ∧ 49 ≤ T (sp + 1) ∧ T (sp + 1) ≤ 57) ∨ (T sp = 112 ∧ 48 ≤ T (sp + 1) ∧ T (sp + 1) ≤ 53) ∨ (T sp = 115 ∧ (48 ≤ T (sp + 1) ∧ T (sp + 1) ≤ 53) ∧ (48 ≤ T (sp + 2) ∧ T (sp + 2) ≤ 52) ∧ (rdR T k sp).2.2 = nI (T (sp + 2)) - 48) := by
  by_cases h1 : sp < k ∧ (T sp = 112 ∨ T sp = 115 ∨ T sp = 116)
  · by_cases hc : T sp = 116
    · by_cases h2 : tkP T k (sp + 1) 49 57
      · exact Or.inl ⟨hc, h2.2⟩
      · rw [rdR_2 h1.1 hc h2] at h; exact absurd h Bool.false_ne_true
    · by_cases h2 : tkP T k (sp + 1) 48 53
      · by_cases hp : T sp = 112
        · exact Or.inr (Or.inl ⟨hp, h2.2⟩)
        · by_cases h4 : tkP T k (sp + 2) 48 52
          · exact Or.inr (Or.inr ⟨by omega, h2.2, h4.2, by rw [rdR_s h1.1 (by omega) h2 h4]⟩)
          · rw [rdR_3 h1.1 (by omega) h2 h4] at h; exact absurd h Bool.false_ne_true
      · rw [rdR_1 h1.1 (by omega) h2] at h; exact absurd h Bool.false_ne_true
  · rw [rdR, if_pos h1] at h
    exact absurd h Bool.false_ne_true
theorem dnM_no {V X : sV} {cq : Nat → Nat} {ch o : Nat} {y : Int32} {b : Nat} (h : ¬ (dnM V X cq ch o y b).1 = true) : (dnM V X cq ch o y b).2 = (V, X) := by
  unfold dnM at h ⊢
  by_cases e : ch = 116
  · rw [if_pos e] at h; exact absurd rfl h
  · rw [if_neg e] at h ⊢
    by_cases e2 : ch = 112
    · rw [if_pos e2] at h ⊢
      have h2 : ¬ hasM V o y := fun q => h (decide_eq_true q)
      show (up2 V 4 o (if hasM V o y then y else V 4 o), X) = (V, X)
      rw [if_neg h2, up2_same rfl]
    · rw [if_neg e2] at h ⊢
      show ((if hasB V (nI o) (nI b) ∧ canM V o b then up2 (up2 V 10 (o * 5 + b) 0) 2 o (V 2 o + 2) else V), X) = (V, X)
      rw [if_neg (fun q => h (decide_eq_true ⟨q, q.2.1⟩))]
theorem rnM_no {V X : sV} {cq : Nat → Nat} {T : Nat → Nat} {k j : Nat} (h : ¬ dnA V X cq T k j) : rnM V X cq T k (j + 1) = rnM V X cq T k j := by
  rw [rnM]
  exact dnM_no h
