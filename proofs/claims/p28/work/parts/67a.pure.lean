/-! ===== THE INVARIANT of both; what it gives ===== -/
abbrev Bd (x : Int32) (m : Nat) : Prop := ∃ n : Nat, n ≤ m ∧ x = nI n
def InvX (V : sV) : Prop := (∀ t, t < 6 → Bd (V 0 t) 40) ∧ (∀ t, t < 6 → Bd (V 1 t) 20) ∧ (∀ t, t < 6 → Bd (V 2 t) 20) ∧ (∀ t b, t < 6 → b < 5 → Bd (V 9 (t * 5 + b)) 9) ∧ Bd (V 12 0) 9
def LI (V : sV) (cq : Nat → Nat) (B : Nat) : Prop := InvV V cq B ∧ InvX V
theorem LI.cnt {V : sV} {cq : Nat → Nat} {B : Nat} (h : LI V cq B) : ∀ t, t < 6 → V 3 t = nI (cq t) ∧ cq t ≤ 5 := fun t ht => ⟨(h.1.1 t ht).1, (h.1.1 t ht).2.1⟩
theorem LI.mono {V : sV} {cq : Nat → Nat} {B B' : Nat} (h : LI V cq B) (hB : B ≤ B') : LI V cq B' := ⟨h.1.mono hB, h.2⟩
/-! hang -/
theorem hnE_nat {V : sV} {k w c : Nat} (hk : k < 6) (h1 : 1 ≤ w) (h9 : w ≤ 9) : hnE V (nI k) (nI w) c = if c < 5 then 0 else -3 := by
  have a1 : ¬ nI w < 1 := fun q => absurd ((nI_ltI (a := w) (b := 1) (by omega) (by decide)).mp q) (by omega)
  have a2 : nI w ≤ 9 := (nI_leI (a := w) (b := 9) (by omega) (by decide)).mpr h9
  unfold hnE
  rw [if_pos (isT_nI hk), if_neg a1, if_pos a2]
theorem add_law {V : sV} {k c : Nat} {w : Int32} (h : V 3 k = nI c) : up2 (up2 (up2 (up2 V 9 (k * 5 + c) w) 10 (k * 5 + c) 0) 11 (k * 5 + c) 0) 3 k (V 3 k + 1) = addV V k c w := by
  rw [h, show nI c + 1 = nI (c + 1) from (nI_succ c).symm]
/-! splice -/
theorem up2_self (V : sV) (k j : Nat) : up2 V k j (V k j) = V := by
  funext a b
  rw [up2_if]
  by_cases e : a = k ∧ b = j
  · rw [if_pos e, e.1, e.2]
  · rw [if_neg e]
theorem spl_no (V : sV) (k j : Nat) : up2 (up2 V 10 j (V 10 j)) 2 k (V 2 k + 0) = V := by
  rw [up2_self, Int32.add_zero, up2_self]
theorem hb_no {V : sV} {cq : Nat → Nat} {B k b : Nat} (h : LI V cq B) (hk : k < 6) (hb5 : b < 5) (hb : cq k ≤ b) : ¬ hasB V (nI k) (nI b) := fun q => absurd ((hasB_nat hk hb5 (h.cnt k hk).1 (h.cnt k hk).2).mp q) (by omega)
theorem hb_yes {V : sV} {cq : Nat → Nat} {B k b : Nat} (h : LI V cq B) (hk : k < 6) (hb : b < cq k) : hasB V (nI k) (nI b) := (hasB_nat hk (by have := (h.cnt k hk).2; omega) (h.cnt k hk).1 (h.cnt k hk).2).mpr hb
theorem spE_no {V : sV} {x y : Int32} {t b : Nat} (h : ¬ hasB V x y) : spE V x y t b = -1 := if_neg h
theorem meE_no {V : sV} {x y : Int32} (h : ¬ hasB V x y) : meE V x y = -1 := if_neg h
theorem meE_yes {V : sV} {x y : Int32} (h : hasB V x y) : meE V x y = 0 := if_pos h
/-! melt -/
def pnL (V : sV) (k b : Nat) : Nat → Int32
  | 0 => 0
  | j + 1 => pnL V k b j + (if j = b then 0 else ((V 4 k >>> (nI j &&& 31)) &&& 1) <<< (nI (if j < b then j else j - 1) &&& 31))
def mlL (V : sV) (k b : Nat) : Nat → sV
  | 0 => V
  | m + 1 => if b + m < 4 then up2 (up2 (up2 (mlL V k b m) 9 (k * 5 + (b + m)) (mlL V k b m 9 (k * 5 + (b + m + 1)))) 10 (k * 5 + (b + m)) (mlL V k b m 10 (k * 5 + (b + m + 1)))) 11 (k * 5 + (b + m)) (mlL V k b m 11 (k * 5 + (b + m + 1))) else up2 (up2 (up2 (mlL V k b m) 9 (k * 5 + (b + m)) 0) 10 (k * 5 + (b + m)) 0) 11 (k * 5 + (b + m)) 0
theorem mlL_k (V : sV) (k b : Nat) {r : Nat} (h : r ≠ 9 ∧ r ≠ 10 ∧ r ≠ 11) (j : Nat) : ∀ m, mlL V k b m r j = V r j
  | 0 => rfl
  | m + 1 => by
    rw [mlL]
    split <;> rw [up2_ne (by omega), up2_ne (by omega), up2_ne (by omega), mlL_k V k b h j m]
/-! settle -/
theorem seE_nat {V : sV} {k mi ri : Nat} (hk : k < 6) (hm : mi ≤ 40) (h1 : 1 ≤ ri) (hr : ri ≤ 20) : seE V (nI k) (nI mi) (nI ri) k = if takB V (nI mi) k 6 = true then -4 else 0 := by
  have a1 : ¬ nI ri < 1 := fun q => absurd ((nI_ltI (a := ri) (b := 1) (by omega) (by decide)).mp q) (by omega)
  have a2 : nI ri ≤ 20 := (nI_leI (a := ri) (b := 20) (by omega) (by decide)).mpr hr
  have a3 : nI mi ≤ 40 := (nI_leI (a := mi) (b := 40) (by omega) (by decide)).mpr hm
  unfold seE
  rw [if_pos (isT_nI hk), if_neg (nI_pos (by omega)), if_pos a3, if_neg a1, if_pos a2]
theorem tak_no {V : sV} {x : Int32} {k : Nat} : ∀ n, (∀ j, j < n → j ≠ k → ¬ V 0 j = x) → takB V x k n = false
  | 0, _ => rfl
  | n + 1, h => by
    rw [takB, tak_no n (fun j hj => h j (by omega))]
    by_cases e : n = k
    · simp [e]
    · simp [e, h n (by omega) e]
theorem tak_yes {V : sV} {x : Int32} {k j : Nat} (hj : j < 6) (h1 : j ≠ k) (h2 : V 0 j = x) : takB V x k 6 = true := takB_le (i := j + 1) (by rw [takB]; simp [h1, h2]) (by omega)
/-! plan, feast, settings, turns -/
theorem sh1_nat {V : sV} {k c : Nat} (h : V 3 k = nI c) (hc : c ≤ 5) : (1 : Int32) <<< (V 3 k &&& 31) = nI (2 ^ c) := by
  rw [h]
  rcases (show c = 0 ∨ c = 1 ∨ c = 2 ∨ c = 3 ∨ c = 4 ∨ c = 5 by omega) with rfl | rfl | rfl | rfl | rfl | rfl <;> decide +kernel
theorem plE_nat {V : sV} {k c p : Nat} (hk : k < 6) (h : V 3 k = nI c) (hc : c ≤ 5) (hp : p < 2 ^ c) : plE V (nI k) k (nI p) = 0 := by
  have h32 := p32 hc
  have e : plE V (nI k) k (nI p) = if nI p ≤ evB V k then 0 else -2 := by
    unfold plE
    rw [if_pos (isT_nI hk), if_neg (nI_pos (by omega))]
  rw [e, evB_nat h hc, if_pos ((nI_leI (a := p) (b := 2 ^ c - 1) (by omega) (by omega)).mpr (by omega))]
theorem feE_nat {k d : Nat} (hk : k < 6) (hd : d < 7) : feE (nI k) (nI d) = 0 := by
  have a1 : nI d < 7 := (nI_ltI (a := d) (b := 7) (by omega) (by decide)).mpr hd
  unfold feE
  rw [if_pos (isT_nI hk), if_neg (nI_pos (by omega)), if_pos a1]
theorem stE_0 {d : Nat} (hd : d ≤ 9) : stE 0 (nI d) = 0 := by
  rcases (show d = 0 ∨ d = 1 ∨ d = 2 ∨ d = 3 ∨ d = 4 ∨ d = 5 ∨ d = 6 ∨ d = 7 ∨ d = 8 ∨ d = 9 by omega) with rfl | rfl | rfl | rfl | rfl | rfl | rfl | rfl | rfl | rfl <;> decide +kernel
theorem stE_1 {d : Nat} (h1 : 1 ≤ d) (hd : d ≤ 3) : stE 1 (nI d) = 0 := by
  rcases (show d = 1 ∨ d = 2 ∨ d = 3 by omega) with rfl | rfl | rfl <;> decide +kernel
theorem tErr_nat {m : Nat} (h1 : 1 ≤ m) (hm : m ≤ 50) : tErr (nI m) = 0 := by
  have a1 : ¬ nI m < 1 := fun q => absurd ((nI_ltI (a := m) (b := 1) (by omega) (by decide)).mp q) (by omega)
  have a2 : nI m ≤ 50 := (nI_leI (a := m) (b := 50) (by omega) (by decide)).mpr hm
  unfold tErr
  rw [if_neg a1, if_pos a2]
theorem rec_o {o n : Nat} (h : o < 5) (hn : n ≤ 5) : recO o n < 5 := by unfold recO; split <;> omega
theorem rec_n {n : Nat} (hn : n ≤ 5) : recS n ≤ 5 := by unfold recS; split <;> omega
theorem add_12 (V : sV) (k c : Nat) (w : Int32) (j : Nat) : addV V k c w 12 j = V 12 j := by
  show up2 (up2 (up2 (up2 V 9 (k * 5 + c) w) 10 (k * 5 + c) 0) 11 (k * 5 + c) 0) 3 k (nI (c + 1)) 12 j = V 12 j
  rw [up2_ne (by omega), up2_ne (by omega), up2_ne (by omega), up2_ne (by omega)]
theorem spl_12 (V : sV) (a k : Nat) (x y : Int32) (j : Nat) : up2 (up2 V 10 a x) 2 k y 12 j = V 12 j := by
  rw [up2_ne (by omega), up2_ne (by omega)]
theorem set_k (V : sV) (k : Nat) (x y w : Int32) (r j : Nat) (h : 9 ≤ r) : up2 (up2 (up2 V 0 k x) 1 k y) 2 k w r j = V r j := by
  rw [up2_ne (by omega), up2_ne (by omega), up2_ne (by omega)]
