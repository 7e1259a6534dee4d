/-! ===== THE REFERENCE'S TEXT: how an order is read ===== -/
def txP (X : sV) (T : Nat → Nat) (k : Nat) : Prop := X 9 2 = nI k ∧ ∀ i, i < k → X 5 i = nI (T i)
abbrev tkP (T : Nat → Nat) (k sp l m : Nat) : Prop := sp < k ∧ l ≤ T sp ∧ T sp ≤ m
def tkS (T : Nat → Nat) (k sp l m : Nat) : Nat := if tkP T k sp l m then sp + 1 else sp
theorem tkS_le {T : Nat → Nat} {k sp l m : Nat} (h : sp ≤ k) : tkS T k sp l m ≤ k := by
  unfold tkS
  split
  · rename_i q; have := q.1; omega
  · exact h
theorem txP.up {X : sV} {T : Nat → Nat} {k k' j : Nat} {x : Int32} (h : txP X T k) (h5 : k' ≠ 5) (h9 : k' = 9 → j ≠ 2) : txP (up2 X k' j x) T k := by
  refine ⟨?_, fun i hi => ?_⟩
  · rw [up2_ne (fun q => h9 q.1.symm q.2.symm)]; exact h.1
  · rw [up2_ne (fun q => h5 q.1.symm)]; exact h.2 i hi
/-- the bells of a plan: where they end, and their mask -/
def bl2 (T : Nat → Nat) (k : Nat) : Nat → Nat → Nat → Int32 → Nat × Int32
  | 0, sp, _, acc => (sp, acc)
  | m + 1, sp, l, acc => if tkP T k sp l 52 then bl2 T k m (sp + 1) (T sp + 1) (acc ||| ((1 : Int32) <<< ((nI (T sp) - 48) &&& 31))) else (sp, acc)
/-- an order read at sp: whether it is one, where it ends (or fails), its bells -/
def rdR (T : Nat → Nat) (k sp : Nat) : Bool × Nat × Int32 :=
  if ¬ (sp < k ∧ (T sp = 112 ∨ T sp = 115 ∨ T sp = 116)) then (false, sp, 0)
  else if ¬ (if T sp = 116 then tkP T k (sp + 1) 49 57 else tkP T k (sp + 1) 48 53) then (false, sp + 1, 0)
  else if T sp = 112 then (true, bl2 T k (k - (sp + 2)) (sp + 2) 48 0)
  else if T sp = 115 then (if tkP T k (sp + 2) 48 52 then (true, sp + 3, nI (T (sp + 2)) - 48) else (false, sp + 2, 0))
  else (true, sp + 2, 0)
theorem bl2_le (T : Nat → Nat) (k : Nat) : ∀ (m sp l : Nat) (acc : Int32), sp ≤ k → sp ≤ (bl2 T k m sp l acc).1 ∧ (bl2 T k m sp l acc).1 ≤ k
  | 0, sp, l, acc, h => ⟨Nat.le_refl _, h⟩
  | m + 1, sp, l, acc, h => by
    rw [bl2]
    split
    · rename_i q
      have := bl2_le T k m (sp + 1) (T sp + 1) (acc ||| ((1 : Int32) <<< ((nI (T sp) - 48) &&& 31))) (by have := q.1; omega)
      exact ⟨by omega, this.2⟩
    · exact ⟨Nat.le_refl _, h⟩
/-- what reading an order leaves -/
def rdP (X X' : sV) (T : Nat → Nat) (k sp od : Nat) : Prop :=
  (∀ j, j ≠ 6 → j ≠ 7 → j ≠ 8 → j ≠ 9 → X' j = X j) ∧ (∀ j, j ≠ 3 → j ≠ 4 → X' 9 j = X 9 j) ∧ X' 9 3 = nI (rdR T k sp).2.1 ∧
  X' 9 4 = nI (if (rdR T k sp).1 = true then od + 1 else od) ∧ (∀ i, i < od → X' 6 i = X 6 i ∧ X' 7 i = X 7 i ∧ X' 8 i = X 8 i) ∧
  ((rdR T k sp).1 = true → X' 6 od = nI (T sp) ∧ X' 7 od = nI (T (sp + 1)) - 48 ∧ X' 8 od = (rdR T k sp).2.2)
