theorem liX_k (V : sV) (c : Nat → Nat) (X : sV) {k : Nat} (h : k ≠ 4) : ∀ i, liX V c X i k = X k
  | 0 => rfl
  | i + 1 => by rw [liX, up2_k h, liX_k V c X h i]
theorem mtM_X (V X : sV) (c : Nat → Nat) {k : Nat} (h : k ≠ 4) : ∀ i, (mtM V X c i).2 k = X k
  | 0 => rfl
  | i + 1 => by
    rw [mtM]
    show liX _ _ _ _ k = _
    rw [liX_k _ _ _ h, mtM_X V X c h i]
theorem pwX_k (V : sV) (c : Nat → Nat) (X : sV) (t : Nat) (pl : Int32) {k : Nat} (h : k ≠ 4) : pwX V c X t pl k = X k := by
  unfold pwX
  rw [up2_k h, liX_k _ _ _ h]
theorem bpM_X (V : sV) (c : Nat → Nat) (X : sV) (t : Nat) {k : Nat} (h : k ≠ 4) : ∀ i, (bpM V c X t i).2 k = X k
  | 0 => rfl
  | i + 1 => by
    rw [bpM]
    show pwX _ _ _ _ _ k = _
    rw [pwX_k _ _ _ _ _ h, bpM_X V c X t h i]
theorem inI_nat {a l m : Nat} (ha : a < 2 ^ 31) (hl : l < 2 ^ 31) (hm : m < 2 ^ 31) : inI (nI a) (nI l) (nI m) ↔ l ≤ a ∧ a ≤ m := by
  unfold inI
  rw [nI_ltI ha hl, nI_ltI hm ha]
  omega
theorem inI_8 {j : Nat} (h : j < 9) : inI (nI j) 0 8 := (inI_nat (a := j) (l := 0) (m := 8) (by omega) (by decide) (by decide)).mpr (by omega)
