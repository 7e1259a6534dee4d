/-! ===== A NEW GAME ===== -/
/-- the numbers of a new valley, its rows of towns laid up to i -/
def v0 (i : Nat) : sV := fun k j => if k = 12 then (if j = 0 then 1 else if j = 1 then 1 else if j = 3 then -5 else 0) else if j < i then (if k = 0 then nI (4 * j) else if k = 1 then 8 else if k = 5 then nI j else 0) else 0
theorem v0_s (i : Nat) : v0 (i + 1) = up2 (up2 (up2 (v0 i) 0 i (nI (4 * i))) 1 i 8) 5 i (nI i) := by
  funext k j
  simp only [up2_if]
  unfold v0
  by_cases e : k = 12
  · subst e; simp
  · rw [if_neg e, if_neg e]
    by_cases h5 : k = 5
    · subst h5
      by_cases hj : j = i
      · subst hj; simp
      · by_cases hl : j < i
        · rw [if_pos (by omega), if_pos hl]; simp [hj]
        · rw [if_neg (by omega), if_neg hl]; simp [hj]
    · by_cases h1 : k = 1
      · subst h1
        by_cases hj : j = i
        · subst hj; simp
        · by_cases hl : j < i
          · rw [if_pos (by omega), if_pos hl]; simp [hj]
          · rw [if_neg (by omega), if_neg hl]; simp [hj]
      · by_cases h0 : k = 0
        · subst h0
          by_cases hj : j = i
          · subst hj; simp
          · by_cases hl : j < i
            · rw [if_pos (by omega), if_pos hl]; simp [hj]
            · rw [if_neg (by omega), if_neg hl]; simp [hj]
        · simp [h0, h1, h5]
def r0 : sV := fun k _ => if k = 4 then -5 else 0
theorem wd_rowq {g : gx} {A : Nat → Prop} {H0 H : Heap} {B B' : List va_W} {locs : List Loc} (hW : wd g A H0 B H locs) (i k : Nat) {b : va_W} {a n : Nat} {f f' : Nat → Option Nat} (h1 : B[i]? = some b) (h2 : b[k]? = some (a, .inl (g.2.2.2, n, .inr (.inr (.inr (.inr f)))))) (he : ∀ j, j < n → f j = f' j) (hB' : B.set i (b.set k (a, .inl (g.2.2.2, n, .inr (.inr (.inr (.inr f')))))) = B') : wd g A H0 B' H locs := by
  obtain ⟨f0, e1, e2⟩ := flat_at B i k h1 h2
  have hl := (List.getElem?_eq_some_iff.mp e1).1
  have hcell : va_at g.1 vwCl (a, .inl (g.2.2.2, n, .inr (.inr (.inr (.inr f'))))) H := by
    have h : H[a]? = some (vp_cell g.2.2.2 (n, .inr (.inr (.inr (.inr f))))) := hW.1 f0 _ e1
    show H[a]? = some (vp_cell g.2.2.2 (n, .inr (.inr (.inr (.inr f')))))
    rw [h, vp_cell_q, vp_cell_q]
    congr 1
    show ({ cls := g.2.2.2, slots := Array.ofFn (n := n) fun j => va_rf (f j.val), vm := .none } : Cell) = { cls := g.2.2.2, slots := Array.ofFn (n := n) fun j => va_rf (f' j.val), vm := .none }
    congr 2
    funext j
    rw [he j.val j.isLt]
  have hP : va_P g.1 vwCl (B.flatten.set f0 (a, .inl (g.2.2.2, n, .inr (.inr (.inr (.inr f')))))) H := by
    intro q x hx
    by_cases hq : q = f0
    · subst hq
      rw [List.getElem?_set_self hl] at hx
      cases hx
      exact hcell
    · rw [List.getElem?_set_ne (Ne.symm hq)] at hx
      exact hW.1 q x hx
  have hD : va_D A (B.flatten.set f0 (a, .inl (g.2.2.2, n, .inr (.inr (.inr (.inr f')))))) := hW.2.1.set e1
  rw [e2, hB'] at hP hD
  exact ⟨hP, hD, hW.2.2⟩
def zV : sV := fun _ _ => 0
theorem rowOf_z (j : Nat) : rowOf zV j = 0 := by
  unfold rowOf zV
  split
  · rfl
  · split <;> rfl
theorem v0_z : v0 0 = up2 (up2 (up2 zV 12 0 1) 12 1 1) 12 3 (-5) := by
  funext k j
  simp only [up2_if]
  unfold v0 zV
  by_cases e : k = 12
  · subst e
    by_cases h0 : j = 0
    · subst h0; rfl
    · by_cases h1 : j = 1
      · subst h1; rfl
      · by_cases h3 : j = 3
        · subst h3; rfl
        · simp [h0, h1, h3]
  · simp [e]
