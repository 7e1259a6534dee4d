/-! ===== THE LAW'S OWN TOWNS: rows of ints, told by a state V; words of its methods ===== -/
def rT (V : sV) : Nat → Int32 := fun j => V (j % 9) (j / 9)
theorem rT_at (V : sV) {k c : Nat} (h : c < 9) : rT V (9 * k + c) = V c k := by
  unfold rT
  rw [show (9 * k + c) % 9 = c by omega, show (9 * k + c) / 9 = k by omega]
theorem rT_at0 (V : sV) (k : Nat) : rT V (9 * k) = V 0 k := by
  unfold rT
  rw [show (9 * k) % 9 = 0 by omega, show (9 * k) / 9 = k by omega]
theorem rT_put (V : sV) {k c : Nat} (h : c < 9) (x : Int32) : upd (rT V) (9 * k + c) x = rT (up2 V c k x) := by
  funext j
  show (if j = 9 * k + c then x else V (j % 9) (j / 9)) = up2 V c k x (j % 9) (j / 9)
  rw [up2_if]
  by_cases e : j = 9 * k + c
  · rw [if_pos e, if_pos ⟨by omega, by omega⟩]
  · rw [if_neg e, if_neg (fun q => e (by have h1 := q.1; have h2 := q.2; omega))]
theorem rT_put0 (V : sV) (k : Nat) (x : Int32) : upd (rT V) (9 * k) x = rT (up2 V 0 k x) := rT_put V (k := k) (c := 0) (by omega) x
theorem r5_put (V : sV) (r k i : Nat) (x : Int32) : upd (V r) (5 * k + i) x = up2 V r (k * 5 + i) x r := by
  rw [Nat.mul_comm 5 k]
  funext j
  show (if j = k * 5 + i then x else V r j) = up2 V r (k * 5 + i) x r j
  rw [up2_if]
  by_cases e : j = k * 5 + i
  · rw [if_pos e, if_pos ⟨rfl, e⟩]
  · rw [if_neg e, if_neg (fun q => e q.2)]
abbrev aR (g : gx) (a n : Nat) (f : Nat → Int32) : va_W := [(a, .inl (g.2.1, n, .inl f))]
/-- low 31 bits, by n -/
def lowN (x : Int32) (n : Nat) : Nat := x.toBitVec.toNat % 2 ^ 31 % n
theorem lowN_lt (x : Int32) {n : Nat} (h : 0 < n) : lowN x n < n := Nat.mod_lt _ h
theorem low_eq (x : Int32) {n : Nat} (h : 0 < n) (hn : n < 2 ^ 31) : (x &&& 2147483647) - (x &&& 2147483647) / nI n * nI n = nI (lowN x n) := by
  rw [pk_and x 31 (m := 2147483647) (by decide)]
  exact pk_rem (Nat.mod_lt _ (by decide)) h hn
theorem lwI_ne0 {n : Nat} (h : 0 < n) (hn : n < 2 ^ 31) : ¬ nI n = 0 := by
  intro q
  have := congrArg Int32.toInt q
  rw [nI_toInt hn, show (0 : Int32).toInt = 0 by decide] at this
  omega
/-- ringers that a weight takes, as the law counts them -/
abbrev tkL (w : Int32) : Int32 := w / 2 + (w - w / 2 * 2)
abbrev feL (V : sV) (k : Nat) : Prop := V 12 2 - V 12 2 / 7 * 7 = V 5 k
def rgL (V : sV) (k : Nat) (p : Int32) : Nat → Int32 × Int32
  | 0 => (0, V 1 k - V 2 k)
  | i + 1 => if V 6 k = 0 ∧ (feL V k ∨ bitW p i) ∧ ¬ V 10 (k * 5 + i) = 6 ∧ ¬ (rgL V k p i).2 < tkL (V 9 (k * 5 + i)) then ((rgL V k p i).1 + (1 : Int32) <<< (nI i &&& 31), (rgL V k p i).2 - tkL (V 9 (k * 5 + i))) else rgL V k p i
theorem rgL_sil {V : sV} {k : Nat} {p : Int32} (h : ¬ V 6 k = 0) : ∀ i, rgL V k p i = (0, V 1 k - V 2 k)
  | 0 => rfl
  | i + 1 => by rw [rgL, if_neg (fun q => h q.1), rgL_sil h i]
theorem rgL_yes {V : sV} {k i : Nat} {p : Int32} (h1 : V 6 k = 0) (h2 : feL V k ∨ bitW p i) (h3 : ¬ V 10 (k * 5 + i) = 6) (h4 : ¬ (rgL V k p i).2 < tkL (V 9 (k * 5 + i))) : rgL V k p (i + 1) = ((rgL V k p i).1 + (1 : Int32) <<< (nI i &&& 31), (rgL V k p i).2 - tkL (V 9 (k * 5 + i))) := by
  rw [rgL, if_pos ⟨h1, h2, h3, h4⟩]
theorem rgL_no {V : sV} {k i : Nat} {p : Int32} (h : ¬ (feL V k ∨ bitW p i) ∨ V 10 (k * 5 + i) = 6 ∨ (rgL V k p i).2 < tkL (V 9 (k * 5 + i))) : rgL V k p (i + 1) = rgL V k p i := by
  rw [rgL, if_neg (fun q => h.elim (fun z => z q.2.1) (fun z => z.elim (fun z => q.2.2.1 z) (fun z => q.2.2.2 z)))]
/-- a town's loudness with these bells -/
def loL (V : sV) (k : Nat) (bs : Int32) : Nat → Int32
  | 0 => 0
  | i + 1 => loL V k bs i + V 9 (k * 5 + i) * ((bs >>> (nI i &&& 31)) &&& 1)
abbrev ldL (V : sV) (cq : Nat → Nat) (k : Nat) : Int32 := loL V k (rgL V k (V 4 k) (cq k)).1 5
abbrev miL (V : sV) (k e : Nat) : Int32 := if V 0 k ≤ V 0 e then V 0 e - V 0 k else V 0 k - V 0 e
abbrev rcL (V : sV) (u : Nat → Int32) (k e : Nat) : Int32 := if u k ≤ V 12 0 * miL V k e then 0 else u k - V 12 0 * miL V k e
/-- heard more than the first j -/
abbrev isJ (V : sV) (u : Nat → Int32) (e k j : Nat) : Prop := ¬ rcL V u k e ≤ 0 ∧ ∀ i, i < j → (i = k ∨ rcL V u i e < rcL V u k e)
/-- the answer of the law's wins: the first who is heard more than all -/
def wnP (V : sV) (u : Nat → Int32) (e : Nat) (r : Int32) : Prop := (∃ k, k < 6 ∧ r = nI k ∧ isJ V u e k 6 ∧ ∀ k', k' < k → ¬ isJ V u e k' 6) ∨ (r = -5 ∧ ∀ k, k < 6 → ¬ isJ V u e k 6)
def wnL (V : sV) (u : Nat → Int32) (e : Nat) : Nat → Int32
  | 0 => -5
  | k + 1 => if wnL V u e k = -5 then (if isJ V u e k 6 then nI k else -5) else wnL V u e k
theorem wnL_no {V : sV} {u : Nat → Int32} {e : Nat} : ∀ n, (∀ k, k < n → ¬ isJ V u e k 6) → wnL V u e n = -5
  | 0, _ => rfl
  | n + 1, h => by rw [wnL, if_pos (wnL_no n (fun k hk => h k (by omega))), if_neg (h n (by omega))]
theorem wnL_yes {V : sV} {u : Nat → Int32} {e k : Nat} (hk : k < 6) (h : ∀ k', k' < k → ¬ isJ V u e k' 6) (hy : isJ V u e k 6) : ∀ n, k < n → wnL V u e n = nI k
  | 0, hn => by omega
  | n + 1, hn => by
    by_cases e1 : k = n
    · subst e1
      rw [wnL, if_pos (wnL_no k h), if_pos hy]
    · rw [wnL, wnL_yes hk h hy n (by omega), if_neg (nI_m5 hk)]
theorem wnL_rng (V : sV) (u : Nat → Int32) (e : Nat) : ∀ n, n ≤ 6 → wnL V u e n = -5 ∨ ∃ w, w < 6 ∧ wnL V u e n = nI w
  | 0, _ => Or.inl rfl
  | n + 1, h => by
    rw [wnL]
    split
    · split
      · exact Or.inr ⟨n, by omega, rfl⟩
      · exact Or.inl rfl
    · exact wnL_rng V u e n (by omega)
