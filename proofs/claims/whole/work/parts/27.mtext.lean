/-! ===== THE REFERENCE'S TEXT: how an order is read ===== -/
def txP (X : sV) (T : Nat → Nat) (k : Nat) : Prop := X 9 2 = nI k ∧ ∀ i, i < k → X 5 i = nI (T i)
abbrev tkP (T : Nat → Nat) (k sp l m : Nat) : Prop := sp < k ∧ l ≤ T sp ∧ T sp ≤ m
def tkS (T : Nat → Nat) (k sp l m : Nat) : Nat := if tkP T k sp l m then sp + 1 else sp
theorem tkS_le {T : Nat → Nat} {k sp l m : Nat} (h : sp ≤ k) : tkS T k sp l m ≤ k := by
  unfold tkS
  split
  · rename_i q; have := q.1; omega
  · exact h
theorem txP.up {X : sV} {T : Nat → Nat} {k k' j : Nat} {x : Int32} (h : txP X T k) (h5 : k' ≠ 5) (h9 : k' = 9 → j ≠ 2) : txP (up2 X k' j x) T k := by
  refine ⟨?_, fun i hi => ?_⟩
  · rw [up2_ne (fun q => h9 q.1.symm q.2.symm)]; exact h.1
  · rw [up2_ne (fun q => h5 q.1.symm)]; exact h.2 i hi
/-- the bells of a plan: where they end, and their mask -/
def bl2 (T : Nat → Nat) (k : Nat) : Nat → Nat → Nat → Int32 → Nat × Int32
  | 0, sp, _, acc => (sp, acc)
  | m + 1, sp, l, acc => if tkP T k sp l 52 then bl2 T k m (sp + 1) (T sp + 1) (acc ||| ((1 : Int32) <<< ((nI (T sp) - 48) &&& 31))) else (sp, acc)
/-- an order read at sp: whether it is one, where it ends (or fails), its bells -/
def rdR (T : Nat → Nat) (k sp : Nat) : Bool × Nat × Int32 :=
  if ¬ (sp < k ∧ (T sp = 112 ∨ T sp = 115 ∨ T sp = 116)) then (false, sp, 0)
  else if ¬ ((T sp = 116 ∧ tkP T k (sp + 1) 49 57) ∨ (¬ T sp = 116 ∧ tkP T k (sp + 1) 48 53)) then (false, sp + 1, 0)
  else if T sp = 112 then (true, bl2 T k (k - (sp + 2)) (sp + 2) 48 0)
  else if T sp = 115 then (if tkP T k (sp + 2) 48 52 then (true, sp + 3, nI (T (sp + 2)) - 48) else (false, sp + 2, 0))
  else (true, sp + 2, 0)
theorem bl2_le (T : Nat → Nat) (k : Nat) : ∀ (m sp l : Nat) (acc : Int32), sp ≤ k → sp ≤ (bl2 T k m sp l acc).1 ∧ (bl2 T k m sp l acc).1 ≤ k
  | 0, sp, l, acc, h => ⟨Nat.le_refl _, h⟩
  | m + 1, sp, l, acc, h => by
    rw [bl2]
    split
    · rename_i q
      have := bl2_le T k m (sp + 1) (T sp + 1) (acc ||| ((1 : Int32) <<< ((nI (T sp) - 48) &&& 31))) (by have := q.1; omega)
      exact ⟨by omega, this.2⟩
    · exact ⟨Nat.le_refl _, h⟩
/-- what reading an order leaves -/
def rdP (X X' : sV) (T : Nat → Nat) (k sp od : Nat) : Prop :=
  (∀ j, j ≠ 6 → j ≠ 7 → j ≠ 8 → j ≠ 9 → X' j = X j) ∧ (∀ j, j ≠ 3 → j ≠ 4 → X' 9 j = X 9 j) ∧ X' 9 3 = nI (rdR T k sp).2.1 ∧
  X' 9 4 = nI (if (rdR T k sp).1 = true then od + 1 else od) ∧ (∀ i, i < od → X' 6 i = X 6 i ∧ X' 7 i = X 7 i ∧ X' 8 i = X 8 i) ∧
  ((rdR T k sp).1 = true → X' 6 od = nI (T sp) ∧ X' 7 od = nI (T (sp + 1)) - 48 ∧ X' 8 od = (rdR T k sp).2.2)
theorem rdR_0 {T : Nat → Nat} {k sp : Nat} (h1 : ¬ tkP T k sp 112 112) (h2 : ¬ tkP T k sp 115 115) (h3 : ¬ tkP T k sp 116 116) : rdR T k sp = (false, sp, 0) := by
  rw [rdR, if_pos]
  rintro ⟨a, b⟩
  rcases b with b | b | b
  · exact h1 ⟨a, by omega, by omega⟩
  · exact h2 ⟨a, by omega, by omega⟩
  · exact h3 ⟨a, by omega, by omega⟩
theorem rdR_1 {T : Nat → Nat} {k sp : Nat} (h0 : sp < k) (hc : T sp = 112 ∨ T sp = 115) (h1 : ¬ tkP T k (sp + 1) 48 53) : rdR T k sp = (false, sp + 1, 0) := by
  have e1 : ¬ ¬ (sp < k ∧ (T sp = 112 ∨ T sp = 115 ∨ T sp = 116)) := fun q => q ⟨h0, by omega⟩
  have e2 : ¬ T sp = 116 := by omega
  rw [rdR, if_neg e1, if_pos (fun q => q.elim (fun q => e2 q.1) (fun q => h1 q.2))]
theorem rdR_2 {T : Nat → Nat} {k sp : Nat} (h0 : sp < k) (hc : T sp = 116) (h1 : ¬ tkP T k (sp + 1) 49 57) : rdR T k sp = (false, sp + 1, 0) := by
  have e1 : ¬ ¬ (sp < k ∧ (T sp = 112 ∨ T sp = 115 ∨ T sp = 116)) := fun q => q ⟨h0, by omega⟩
  rw [rdR, if_neg e1, if_pos (fun q => q.elim (fun q => h1 q.2) (fun q => q.1 hc))]
theorem rdR_t {T : Nat → Nat} {k sp : Nat} (h0 : sp < k) (hc : T sp = 116) (h1 : tkP T k (sp + 1) 49 57) : rdR T k sp = (true, sp + 2, 0) := by
  have e1 : ¬ ¬ (sp < k ∧ (T sp = 112 ∨ T sp = 115 ∨ T sp = 116)) := fun q => q ⟨h0, by omega⟩
  rw [rdR, if_neg e1, if_neg (fun q => q (Or.inl ⟨hc, h1⟩)), if_neg (by omega), if_neg (by omega)]
theorem rdR_p {T : Nat → Nat} {k sp : Nat} (h0 : sp < k) (hc : T sp = 112) (h1 : tkP T k (sp + 1) 48 53) : rdR T k sp = (true, bl2 T k (k - (sp + 2)) (sp + 2) 48 0) := by
  have e1 : ¬ ¬ (sp < k ∧ (T sp = 112 ∨ T sp = 115 ∨ T sp = 116)) := fun q => q ⟨h0, by omega⟩
  have e2 : ¬ T sp = 116 := by omega
  rw [rdR, if_neg e1, if_neg (fun q => q (Or.inr ⟨e2, h1⟩)), if_pos hc]
theorem rdR_s {T : Nat → Nat} {k sp : Nat} (h0 : sp < k) (hc : T sp = 115) (h1 : tkP T k (sp + 1) 48 53) (h2 : tkP T k (sp + 2) 48 52) : rdR T k sp = (true, sp + 3, nI (T (sp + 2)) - 48) := by
  have e1 : ¬ ¬ (sp < k ∧ (T sp = 112 ∨ T sp = 115 ∨ T sp = 116)) := fun q => q ⟨h0, by omega⟩
  have e2 : ¬ T sp = 116 := by omega
  have e3 : ¬ T sp = 112 := by omega
  rw [rdR, if_neg e1, if_neg (fun q => q (Or.inr ⟨e2, h1⟩)), if_neg e3, if_pos hc, if_pos h2]
theorem rdR_3 {T : Nat → Nat} {k sp : Nat} (h0 : sp < k) (hc : T sp = 115) (h1 : tkP T k (sp + 1) 48 53) (h2 : ¬ tkP T k (sp + 2) 48 52) : rdR T k sp = (false, sp + 2, 0) := by
  have e1 : ¬ ¬ (sp < k ∧ (T sp = 112 ∨ T sp = 115 ∨ T sp = 116)) := fun q => q ⟨h0, by omega⟩
  have e2 : ¬ T sp = 116 := by omega
  have e3 : ¬ T sp = 112 := by omega
  rw [rdR, if_neg e1, if_neg (fun q => q (Or.inr ⟨e2, h1⟩)), if_neg e3, if_pos hc, if_neg h2]
theorem bl2_no {T : Nat → Nat} {k m sp l : Nat} {acc : Int32} (h : ¬ tkP T k sp l 52) : bl2 T k m sp l acc = (sp, acc) := by
  cases m with
  | zero => rfl
  | succ m => rw [bl2, if_neg h]
theorem bl2_yes {T : Nat → Nat} {k m sp l : Nat} {acc : Int32} (h : tkP T k sp l 52) : bl2 T k (m + 1) sp l acc = bl2 T k m (sp + 1) (T sp + 1) (acc ||| ((1 : Int32) <<< ((nI (T sp) - 48) &&& 31))) := by
  rw [bl2, if_pos h]
/-- rows and numbers after a reading -/
theorem rdP_of {X X' : sV} {T : Nat → Nat} {k sp od e : Nat} {b : Bool} {x : Int32} (hR : rdR T k sp = (b, e, x))
    (h : ∀ k9 j9, ¬ (j9 = od ∧ (k9 = 6 ∨ k9 = 7 ∨ k9 = 8)) → ¬ (k9 = 9 ∧ j9 = 4) → X' k9 j9 = if k9 = 9 ∧ j9 = 3 then nI e else X k9 j9)
    (h4 : X' 9 4 = nI (if b = true then od + 1 else od)) (hn : b = true → X' 6 od = nI (T sp) ∧ X' 7 od = nI (T (sp + 1)) - 48 ∧ X' 8 od = x) : rdP X X' T k sp od := by
  unfold rdP
  rw [hR]
  refine ⟨fun j h6 h7 h8 h9 => funext fun i => ?_, fun j h3 h4 => ?_, ?_, h4, fun i hi => ⟨?_, ?_, ?_⟩, hn⟩
  · rw [h j i (by omega) (by omega), if_neg (by omega)]
  · rw [h 9 j (by omega) (by omega), if_neg (by omega)]
  · rw [h 9 3 (by omega) (by omega), if_pos ⟨rfl, rfl⟩]
  · rw [h 6 i (by omega) (by omega), if_neg (by omega)]
  · rw [h 7 i (by omega) (by omega), if_neg (by omega)]
  · rw [h 8 i (by omega) (by omega), if_neg (by omega)]
theorem rd_canon (X : sV) (od : Nat) (x y c d e : Int32) : up2 (up2 (up2 (up2 (up2 X 9 3 x) 9 3 y) 6 od c) 7 od d) 8 od e = up2 (up2 (up2 (up2 X 6 od c) 7 od d) 8 od e) 9 3 y := by
  funext k9 j9
  simp only [up2_if]
  by_cases a : k9 = 9
  · subst a
    by_cases f : j9 = 3 <;> simp [f]
  · simp [a]
theorem rd_step (Z : sV) (od : Nat) (a s s' a' : Int32) : up2 (up2 (up2 (up2 Z 8 od a) 9 3 s) 9 3 s') 8 od a' = up2 (up2 Z 8 od a') 9 3 s' := by
  funext k9 j9
  simp only [up2_if]
  by_cases a : k9 = 9
  · subst a
    by_cases f : j9 = 3 <;> simp [f]
  · simp [a]
    by_cases f : k9 = 8 ∧ j9 = od <;> simp [f]
