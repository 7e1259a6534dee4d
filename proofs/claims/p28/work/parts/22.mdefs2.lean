/-! ===== THE REFERENCE: rows told anew; what a record leaves ===== -/
theorem wd_row {g : gx} {A : Nat → Prop} {H0 H : Heap} {B B' : List va_W} {locs : List Loc} (hW : wd g A H0 B H locs) (i k : Nat) {b : va_W} {a n : Nat} {f f' : Nat → Int32} (h1 : B[i]? = some b) (h2 : b[k]? = some (a, .inl (g.2.1, n, .inl f))) (he : ∀ j, j < n → f j = f' j) (hB' : B.set i (b.set k (a, .inl (g.2.1, n, .inl f'))) = B') : wd g A H0 B' H locs := by
  obtain ⟨f0, e1, e2⟩ := flat_at B i k h1 h2
  have hl := (List.getElem?_eq_some_iff.mp e1).1
  have hcell : va_at g.1 vwCl (a, .inl (g.2.1, n, .inl f')) H := by
    have h : H[a]? = some (vp_cell g.2.1 (n, .inl f)) := hW.1 f0 _ e1
    show H[a]? = some (vp_cell g.2.1 (n, .inl f'))
    rw [h, vp_cell_i, vp_cell_i]
    congr 1
    show ({ cls := g.2.1, slots := Array.ofFn (n := n) fun j => Value.int (f j.val), vm := .none } : Cell) = { cls := g.2.1, slots := Array.ofFn (n := n) fun j => Value.int (f' j.val), vm := .none }
    congr 2
    funext j
    rw [he j.val j.isLt]
  have hP : va_P g.1 vwCl (B.flatten.set f0 (a, .inl (g.2.1, n, .inl f'))) H := by
    intro q x hx
    by_cases hq : q = f0
    · subst hq
      rw [List.getElem?_set_self hl] at hx
      cases hx
      exact hcell
    · rw [List.getElem?_set_ne (Ne.symm hq)] at hx
      exact hW.1 q x hx
  have hD : va_D A (B.flatten.set f0 (a, .inl (g.2.1, n, .inl f'))) := hW.2.1.set e1
  rw [e2, hB'] at hP hD
  exact ⟨hP, hD, hW.2.2⟩
/-- the reference's cells, its row as it is -/
abbrev mG (g : gx) (h : Nat) (a : Nat → Nat) (f : Nat → Int32) (X : sV) : va_W := [(h, .inr (5, [.ref (a 0), .ref (a 1), .int (X 9 0), .ref (a 2), .int (X 9 1), .ref (a 3), .ref (a 4), .ref (a 5), .int (X 9 2), .int (X 9 3), .int (X 9 4), .ref (a 6), .ref (a 7), .ref (a 8)])), (a 0, .inl (g.2.1, 149, .inl f)), (a 1, .inl (g.2.1, 745, .inl (X 1))), (a 2, .inl (g.2.1, 149, .inl (X 2))), (a 3, .inl (g.2.1, 149, .inl (X 3))), (a 4, .inl (g.2.1, 6, .inl (X 4))), (a 5, .inl (g.2.1, 60, .inl (X 5))), (a 6, .inl (g.2.1, 32, .inl (X 6))), (a 7, .inl (g.2.1, 32, .inl (X 7))), (a 8, .inl (g.2.1, 32, .inl (X 8)))]
/-- what a record leaves: the history one state longer, or one place moved -/
def recP (V X X' : sV) (n : Nat) : Prop := (∀ k, k ≠ 1 → k ≠ 9 → X' k = X k) ∧ (∀ j, j ≠ 0 → X' 9 j = X 9 j) ∧ X' 9 0 = nI (recS n) ∧ ∀ p, p < 149 * recS n → X' 1 p = if p < 149 * (recS n - 1) then (if n = 5 then X 1 (p + 149) else X 1 p) else rowOf V (p - 149 * (recS n - 1))
theorem up2_k {V : sV} {k j k' : Nat} {x : Int32} (h : k' ≠ k) : up2 V k j x k' = V k' := by
  funext j'
  exact up2_ne (fun q => h q.1)
abbrev hnM (x w : Int32) (c0 : Nat) : Int32 := if isT x then (if inI w 1 9 then (if c0 = 5 then -3 else 0) else -2) else -1
abbrev seM (V : sV) (x mi ri : Int32) (t : Nat) : Int32 := if isT x then (if inI mi 0 40 then (if inI ri 1 20 then (if takB V mi t 6 = true then -4 else 0) else -2) else -2) else -1
abbrev hasM (V : sV) (t : Nat) (m : Int32) : Prop := ¬ m < 0 ∧ ¬ evB V t < m
abbrev plM (V : sV) (x : Int32) (t : Nat) (m : Int32) : Int32 := if isT x then (if hasM V t m then 0 else -2) else -1
abbrev canM (V : sV) (t b : Nat) : Prop := ¬ V 10 (t * 5 + b) ≤ 0 ∧ ¬ V 1 t - V 2 t ≤ 1
abbrev spM (V : sV) (x y : Int32) (t b : Nat) : Int32 := if hasB V x y then (if canM V t b then 0 else -4) else -1
abbrev feM (x d : Int32) : Int32 := if isT x then (if inI d 0 6 then 0 else -2) else -1
abbrev stM (x v : Int32) : Int32 := if inI x 0 1 then (if (x = 0 ∧ inI v 0 9) ∨ (¬ x = 0 ∧ inI v 1 3) then 0 else -2) else -1
abbrev tuM (x : Int32) : Int32 := if inI x 1 50 then 0 else -2
abbrev apM (x : Int32) (k : Nat) : Int32 := if inI x 32 126 then (if k = 60 then -3 else 0) else -2
/-- i places of the bells behind a melted one -/
def mlV (V : sV) (t b c : Nat) : Nat → sV
  | 0 => V
  | i + 1 => if b + i < c - 1 then up2 (up2 (up2 (mlV V t b c i) 9 (t * 5 + (b + i)) (mlV V t b c i 9 (t * 5 + (b + i + 1)))) 10 (t * 5 + (b + i)) (mlV V t b c i 10 (t * 5 + (b + i + 1)))) 11 (t * 5 + (b + i)) (mlV V t b c i 11 (t * 5 + (b + i + 1))) else up2 (up2 (up2 (mlV V t b c i) 9 (t * 5 + (b + i)) 0) 10 (t * 5 + (b + i)) 0) 11 (t * 5 + (b + i)) 0
theorem mlV_k (V : sV) (t b c : Nat) {k : Nat} (h : k < 9) (j : Nat) : ∀ i, mlV V t b c i k j = V k j
  | 0 => rfl
  | i + 1 => by
    rw [mlV]
    split
    · rw [up2_ne (by omega), up2_ne (by omega), up2_ne (by omega), mlV_k V t b c h j i]
    · rw [up2_ne (by omega), up2_ne (by omega), up2_ne (by omega), mlV_k V t b c h j i]
abbrev melM (V : sV) (t b c : Nat) : sV := up2 (mlV (up2 V 3 t (nI (c - 1))) t b c (5 - b)) 4 t ((mlV (up2 V 3 t (nI (c - 1))) t b c (5 - b) 4 t &&& (((1 : Int32) <<< (nI b &&& 31)) - 1)) ||| ((mlV (up2 V 3 t (nI (c - 1))) t b c (5 - b) 4 t >>> ((1 : Int32) &&& 31)) &&& ((((1 : Int32) <<< (nI b &&& 31)) - 1) ^^^ (-1 : Int32))))
abbrev rsM (V : sV) (t b c : Nat) : Int32 := if ¬ V 6 t ≤ 0 then 1 else if (wM V t (V 4 t) >>> (nI b &&& 31)) &&& 1 = 0 then 2 else if V 10 (t * 5 + b) = 6 then 3 else if ((rgM V t (V 4 t) c).1 >>> (nI b &&& 31)) &&& 1 = 0 then 4 else 0
def blM (V : sV) (t b c : Nat) : Nat → Int32
  | 0 => V 9 (t * 5 + b)
  | 1 => V 10 (t * 5 + b)
  | 2 => rF (V 9 (t * 5 + b))
  | 3 => V 11 (t * 5 + b)
  | _ => rsM V t b c
/-- broken ropes by the reference -/
def brM (V : sV) : Nat → Int32
  | 0 => 0
  | j + 1 => brM V j + (if hasB V (nI (j / 5)) (nI (j % 5)) then (if V 10 (j / 5 * 5 + j % 5) = 6 then 1 else 0) else 0)
def siM (V : sV) : Nat → Int32
  | 0 => 0
  | t + 1 => siM V t + (if V 6 t ≤ 0 then 0 else 1)
def coM (V : sV) (n k : Nat) : Nat → Int32
  | 0 => V 12 2
  | 1 => sumF (V 3) 6
  | 2 => brM V 30
  | 3 => siM V 6
  | 4 => sumF (V 7) 6
  | 5 => V 12 4
  | 6 => V 12 3
  | 7 => V 12 0
  | 8 => V 12 1
  | 9 => nI n
  | _ => nI k
/-- the points with another plan, by the reference: what is heard then, and who wins how often -/
abbrev pwX (V : sV) (c : Nat → Nat) (X : sV) (t : Nat) (pl : Int32) : sV := up2 (liX V c X 6) 4 t (lsM V t (rgM V t pl (c t)).1 (c t))
def pwM (V : sV) (u : Nat → Int32) (t : Nat) : Nat → Int32
  | 0 => 0
  | e + 1 => pwM V u t e + (if (bsM V u e 6).2 = nI t then 1 else 0)
/-- the best plan by the reference: mask, points, loudness; what is heard -/
def bpM (V : sV) (c : Nat → Nat) (X : sV) (t : Nat) : Nat → (Int32 × Int32 × Int32) × sV
  | 0 => ((0, -5, 0), X)
  | i + 1 =>
    let q := bpM V c X t i
    let Y := pwX V c q.2 t (nI i)
    let p := pwM V (Y 4) t 6
    (if q.1.2.1 < p then (nI i, p, Y 4 t) else if p = q.1.2.1 then (if q.1.2.2 ≤ Y 4 t then q.1 else (nI i, p, Y 4 t)) else q.1, Y)
