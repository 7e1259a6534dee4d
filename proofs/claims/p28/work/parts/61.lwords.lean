/-! ===== THE LAW'S OWN TOWNS: rows of ints, told by a state V; words of its methods ===== -/
def rT (V : sV) : Nat → Int32 := fun j => V (j % 9) (j / 9)
theorem rT_at (V : sV) {k c : Nat} (h : c < 9) : rT V (9 * k + c) = V c k := by
  unfold rT
  rw [show (9 * k + c) % 9 = c by omega, show (9 * k + c) / 9 = k by omega]
theorem rT_at0 (V : sV) (k : Nat) : rT V (9 * k) = V 0 k := by
  unfold rT
  rw [show (9 * k) % 9 = 0 by omega, show (9 * k) / 9 = k by omega]
theorem rT_put (V : sV) {k c : Nat} (h : c < 9) (x : Int32) : upd (rT V) (9 * k + c) x = rT (up2 V c k x) := by
  funext j
  show (if j = 9 * k + c then x else V (j % 9) (j / 9)) = up2 V c k x (j % 9) (j / 9)
  rw [up2_if]
  by_cases e : j = 9 * k + c
  · rw [if_pos e, if_pos ⟨by omega, by omega⟩]
  · rw [if_neg e, if_neg (fun q => e (by have h1 := q.1; have h2 := q.2; omega))]
theorem rT_put0 (V : sV) (k : Nat) (x : Int32) : upd (rT V) (9 * k) x = rT (up2 V 0 k x) := rT_put V (k := k) (c := 0) (by omega) x
theorem r5_put (V : sV) (r k i : Nat) (x : Int32) : upd (V r) (5 * k + i) x = up2 V r (k * 5 + i) x r := by
  rw [Nat.mul_comm 5 k]
  funext j
  show (if j = k * 5 + i then x else V r j) = up2 V r (k * 5 + i) x r j
  rw [up2_if]
  by_cases e : j = k * 5 + i
  · rw [if_pos e, if_pos ⟨rfl, e⟩]
  · rw [if_neg e, if_neg (fun q => e q.2)]
abbrev aR (g : gx) (a n : Nat) (f : Nat → Int32) : va_W := [(a, .inl (g.2.1, n, .inl f))]
/-- low 31 bits, by n -/
def lowN (x : Int32) (n : Nat) : Nat := x.toBitVec.toNat % 2 ^ 31 % n
theorem lowN_lt (x : Int32) {n : Nat} (h : 0 < n) : lowN x n < n := Nat.mod_lt _ h
theorem low_eq (x : Int32) {n : Nat} (h : 0 < n) (hn : n < 2 ^ 31) : (x &&& 2147483647) - (x &&& 2147483647) / nI n * nI n = nI (lowN x n) := by
  rw [pk_and x 31 (m := 2147483647) (by decide)]
  exact pk_rem (Nat.mod_lt _ (by decide)) h hn
theorem lwI_ne0 {n : Nat} (h : 0 < n) (hn : n < 2 ^ 31) : ¬ nI n = 0 := by
  intro q
  have := congrArg Int32.toInt q
  rw [nI_toInt hn, show (0 : Int32).toInt = 0 by decide] at this
  omega
/-- ringers that a weight takes, as the law counts them -/
abbrev tkL (w : Int32) : Int32 := w / 2 + (w - w / 2 * 2)
abbrev feL (V : sV) (k : Nat) : Prop := V 12 2 - V 12 2 / 7 * 7 = V 5 k
def rgL (V : sV) (k : Nat) (p : Int32) : Nat → Int32 × Int32
  | 0 => (0, V 1 k - V 2 k)
  | i + 1 => if V 6 k = 0 ∧ (feL V k ∨ bitW p i) ∧ ¬ V 10 (k * 5 + i) = 6 ∧ ¬ (rgL V k p i).2 < tkL (V 9 (k * 5 + i)) then ((rgL V k p i).1 + (1 : Int32) <<< (nI i &&& 31), (rgL V k p i).2 - tkL (V 9 (k * 5 + i))) else rgL V k p i
theorem rgL_sil {V : sV} {k : Nat} {p : Int32} (h : ¬ V 6 k = 0) : ∀ i, rgL V k p i = (0, V 1 k - V 2 k)
  | 0 => rfl
  | i + 1 => by rw [rgL, if_neg (fun q => h q.1), rgL_sil h i]
theorem rgL_yes {V : sV} {k i : Nat} {p : Int32} (h1 : V 6 k = 0) (h2 : feL V k ∨ bitW p i) (h3 : ¬ V 10 (k * 5 + i) = 6) (h4 : ¬ (rgL V k p i).2 < tkL (V 9 (k * 5 + i))) : rgL V k p (i + 1) = ((rgL V k p i).1 + (1 : Int32) <<< (nI i &&& 31), (rgL V k p i).2 - tkL (V 9 (k * 5 + i))) := by
  rw [rgL, if_pos ⟨h1, h2, h3, h4⟩]
theorem rgL_no {V : sV} {k i : Nat} {p : Int32} (h : ¬ (feL V k ∨ bitW p i) ∨ V 10 (k * 5 + i) = 6 ∨ (rgL V k p i).2 < tkL (V 9 (k * 5 + i))) : rgL V k p (i + 1) = rgL V k p i := by
  rw [rgL, if_neg (fun q => h.elim (fun z => z q.2.1) (fun z => z.elim (fun z => q.2.2.1 z) (fun z => q.2.2.2 z)))]
/-- a town's loudness with these bells -/
def loL (V : sV) (k : Nat) (bs : Int32) : Nat → Int32
  | 0 => 0
  | i + 1 => loL V k bs i + V 9 (k * 5 + i) * ((bs >>> (nI i &&& 31)) &&& 1)
abbrev ldL (V : sV) (cq : Nat → Nat) (k : Nat) : Int32 := loL V k (rgL V k (V 4 k) (cq k)).1 5
abbrev miL (V : sV) (k e : Nat) : Int32 := if V 0 k ≤ V 0 e then V 0 e - V 0 k else V 0 k - V 0 e
abbrev rcL (V : sV) (u : Nat → Int32) (k e : Nat) : Int32 := if u k ≤ V 12 0 * miL V k e then 0 else u k - V 12 0 * miL V k e
/-- heard more than the first j -/
abbrev isJ (V : sV) (u : Nat → Int32) (e k j : Nat) : Prop := ¬ rcL V u k e ≤ 0 ∧ ∀ i, i < j → (i = k ∨ rcL V u i e < rcL V u k e)
/-- the answer of the law's wins: the first who is heard more than all -/
def wnP (V : sV) (u : Nat → Int32) (e : Nat) (r : Int32) : Prop := (∃ k, k < 6 ∧ r = nI k ∧ isJ V u e k 6 ∧ ∀ k', k' < k → ¬ isJ V u e k' 6) ∨ (r = -5 ∧ ∀ k, k < 6 → ¬ isJ V u e k 6)
def wnL (V : sV) (u : Nat → Int32) (e : Nat) : Nat → Int32
  | 0 => -5
  | k + 1 => if wnL V u e k = -5 then (if isJ V u e k 6 then nI k else -5) else wnL V u e k
theorem wnL_no {V : sV} {u : Nat → Int32} {e : Nat} : ∀ n, (∀ k, k < n → ¬ isJ V u e k 6) → wnL V u e n = -5
  | 0, _ => rfl
  | n + 1, h => by rw [wnL, if_pos (wnL_no n (fun k hk => h k (by omega))), if_neg (h n (by omega))]
theorem wnL_yes {V : sV} {u : Nat → Int32} {e k : Nat} (hk : k < 6) (h : ∀ k', k' < k → ¬ isJ V u e k' 6) (hy : isJ V u e k 6) : ∀ n, k < n → wnL V u e n = nI k
  | 0, hn => by omega
  | n + 1, hn => by
    by_cases e1 : k = n
    · subst e1
      rw [wnL, if_pos (wnL_no k h), if_pos hy]
    · rw [wnL, wnL_yes hk h hy n (by omega), if_neg (nI_m5 hk)]
theorem wnL_rng (V : sV) (u : Nat → Int32) (e : Nat) : ∀ n, n ≤ 6 → wnL V u e n = -5 ∨ ∃ w, w < 6 ∧ wnL V u e n = nI w
  | 0, _ => Or.inl rfl
  | n + 1, h => by
    rw [wnL]
    split
    · split
      · exact Or.inr ⟨n, by omega, rfl⟩
      · exact Or.inl rfl
    · exact wnL_rng V u e n (by omega)
theorem isJ_00 {V : sV} {u : Nat → Int32} {e k : Nat} (h : rcL V u k e ≤ 0) : bI (isJ V u e k 0) = 0 := (bI_f (fun q => q.1 h)).symm
theorem isJ_01 {V : sV} {u : Nat → Int32} {e k : Nat} (h : ¬ rcL V u k e ≤ 0) : bI (isJ V u e k 0) = 1 := (bI_t ⟨h, fun i hi => absurd hi (Nat.not_lt_zero _)⟩).symm
theorem isJ_s1 {V : sV} {u : Nat → Int32} {e k j : Nat} (h : isJ V u e k j) (h2 : j = k ∨ rcL V u j e < rcL V u k e) : bI (isJ V u e k (j + 1)) = 1 :=
  (bI_t ⟨h.1, fun i hi => by
    by_cases e1 : i = j
    · subst e1; exact h2
    · exact h.2 i (by omega)⟩).symm
theorem isJ_s0a {V : sV} {u : Nat → Int32} {e k j : Nat} (h : ¬ isJ V u e k j) : bI (isJ V u e k (j + 1)) = 0 := (bI_f (fun q => h ⟨q.1, fun i hi => q.2 i (by omega)⟩)).symm
theorem isJ_s0b {V : sV} {u : Nat → Int32} {e k j : Nat} (h1 : ¬ j = k) (h2 : ¬ rcL V u j e < rcL V u k e) : bI (isJ V u e k (j + 1)) = 0 := (bI_f (fun q => (q.2 j (by omega)).elim h1 h2)).symm
/-- what the towns ring, into the row of loudness -/
def liL (V : sV) (cq : Nat → Nat) (u : Nat → Int32) : Nat → Nat → Int32
  | 0 => u
  | i + 1 => upd (liL V cq u i) i (ldL V cq i)
theorem liL_at (V : sV) (cq : Nat → Nat) (u : Nat → Int32) (j : Nat) : ∀ n, j < n → liL V cq u n j = ldL V cq j
  | 0, h => absurd h (Nat.not_lt_zero _)
  | n + 1, h => by
    show (if j = n then ldL V cq n else liL V cq u n j) = _
    by_cases e : j = n
    · rw [if_pos e, e]
    · rw [if_neg e, liL_at V cq u j n (by omega)]
/-- the first i of a row copied -/
def cpF (f f0 : Nat → Int32) (i : Nat) : Nat → Int32 := fun j => if j < i then f j else f0 j
theorem cpF_0 (f f0 : Nat → Int32) : cpF f f0 0 = f0 := funext fun j => if_neg (Nat.not_lt_zero _)
theorem cpF_s (f f0 : Nat → Int32) (i : Nat) : cpF f f0 (i + 1) = upd (cpF f f0 i) i (f i) := by
  funext j
  show (if j < i + 1 then f j else f0 j) = if j = i then f i else if j < i then f j else f0 j
  by_cases e : j = i
  · rw [if_pos e, if_pos (by omega), e]
  · rw [if_neg e]
    by_cases h : j < i
    · rw [if_pos h, if_pos (by omega)]
    · rw [if_neg h, if_neg (by omega)]
/-- a turn of the law: points; ropes and ringers; silences; the loudest -/
def tpL (V : sV) (u : Nat → Int32) : Nat → sV
  | 0 => V
  | k + 1 => if wnL (tpL V u k) u k 6 < 0 then tpL V u k else up2 (tpL V u k) 7 (wnL (tpL V u k) u k 6).toNatClampNeg (tpL V u k 7 (wnL (tpL V u k) u k 6).toNatClampNeg + 1)
theorem tpL_k (V : sV) (u : Nat → Int32) {r : Nat} (h : r ≠ 7) (j : Nat) : ∀ n, tpL V u n r j = V r j
  | 0 => rfl
  | n + 1 => by
    rw [tpL]
    split
    · exact tpL_k V u h j n
    · rw [up2_ne (by omega), tpL_k V u h j n]
def bsL (u : Nat → Int32) : Nat → Int32
  | 0 => -5
  | k + 1 => if u k ≤ 0 then bsL u k else if bsL u k < 0 then nI k else if u k ≤ u (bsL u k).toNatClampNeg then bsL u k else nI k
theorem bsL_rng (u : Nat → Int32) : ∀ k, k ≤ 6 → bsL u k = -5 ∨ ∃ w, w < 6 ∧ bsL u k = nI w
  | 0, _ => Or.inl rfl
  | k + 1, h => by
    have ih := bsL_rng u k (by omega)
    rw [bsL]
    repeat' split
    all_goals first | exact ih | exact Or.inr ⟨k, by omega, rfl⟩
theorem m5_lt : (-5 : Int32) < 0 := by decide
theorem lwI_nlt {w : Nat} (h : w < 6) : ¬ nI w < 0 := nI_pos (by omega)
def wrL (W : sV) (k : Nat) (bs : Int32) : Nat → sV × Int32
  | 0 => (W, 0)
  | i + 1 => (up2 (up2 (wrL W k bs i).1 10 (k * 5 + i) ((wrL W k bs i).1 10 (k * 5 + i) + ((bs >>> (nI i &&& 31)) &&& 1))) 11 (k * 5 + i) ((wrL W k bs i).1 11 (k * 5 + i) + ((bs >>> (nI i &&& 31)) &&& 1)), (wrL W k bs i).2 + ((bs >>> (nI i &&& 31)) &&& 1) * (((wrL W k bs i).1 9 (k * 5 + i) + 1) / 2))
theorem wrL_k (W : sV) (k : Nat) (bs : Int32) {r : Nat} (h0 : r ≠ 10) (h1 : r ≠ 11) (j : Nat) : ∀ n, (wrL W k bs n).1 r j = W r j
  | 0 => rfl
  | n + 1 => by
    show up2 (up2 _ _ _ _) _ _ _ r j = _
    rw [up2_ne (by omega), up2_ne (by omega), wrL_k W k bs h0 h1 j n]
def l2L (W : sV) (cq : Nat → Nat) : Nat → sV
  | 0 => W
  | k + 1 => up2 (wrL (l2L W cq k) k (rgL (l2L W cq k) k (l2L W cq k 4 k) (cq k)).1 5).1 2 k ((wrL (l2L W cq k) k (rgL (l2L W cq k) k (l2L W cq k 4 k) (cq k)).1 5).2 / 2)
theorem l2L_k (W : sV) (cq : Nat → Nat) {r : Nat} (h2 : r ≠ 2) (h0 : r ≠ 10) (h1 : r ≠ 11) (j : Nat) : ∀ n, l2L W cq n r j = W r j
  | 0 => rfl
  | n + 1 => by rw [l2L, up2_ne (by omega), wrL_k _ _ _ h0 h1, l2L_k W cq h2 h0 h1 j n]
def l3L (W : sV) : Nat → sV
  | 0 => W
  | k + 1 => up2 (l3L W k) 6 k (l3L W k 6 k - (if l3L W k 6 k ≤ 0 then 0 else 1))
def tuE (W : sV) (B : Int32) : sV := if B < 0 then up2 (up2 (up2 W 12 4 (W 12 4 + 1)) 12 3 B) 12 2 (W 12 2 + 1) else up2 (up2 (up2 (up2 (up2 W 6 B.toNatClampNeg (W 12 1)) 8 B.toNatClampNeg (W 8 B.toNatClampNeg + 1)) 12 4 (W 12 4 + 0)) 12 3 B) 12 2 (W 12 2 + 1)
def tuU (V : sV) (cq : Nat → Nat) (u : Nat → Int32) : sV := tuE (l3L (l2L (tpL V u 6) cq 6) 6) (bsL u 6)
abbrev tuL (V : sV) (cq : Nat → Nat) : sV := tuU V cq (ldL V cq)
theorem rT_ge {V : sV} {c k : Nat} {x : Int32} (h : 9 ≤ c) : rT (up2 V c k x) = rT V := by
  funext j
  exact up2_ne (fun q => by have h1 := q.1; omega)
