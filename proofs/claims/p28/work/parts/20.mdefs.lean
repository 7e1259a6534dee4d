/-! ===== THE REFERENCE: its row told as the class's rows; words of what its methods answer and do ===== -/
def rowOf (V : sV) (p : Nat) : Int32 := if p < 5 then V 12 p else if (p - 5) % 24 < 9 then V ((p - 5) % 24) ((p - 5) / 24) else V (9 + ((p - 5) % 24 - 9) / 5) ((p - 5) / 24 * 5 + ((p - 5) % 24 - 9) % 5)
theorem row_k (V : sV) {w : Nat} (t : Nat) (hw : w < 9) : rowOf V (5 + 24 * t + w) = V w t := by
  unfold rowOf
  rw [if_neg (by omega), show 5 + 24 * t + w - 5 = 24 * t + w by omega, show (24 * t + w) % 24 = w by omega, show (24 * t + w) / 24 = t by omega, if_pos hw]
theorem row_b (V : sV) (t : Nat) {i b : Nat} (hi : i < 3) (hb : b < 5) : rowOf V (5 + 24 * t + (9 + 5 * i + b)) = V (9 + i) (t * 5 + b) := by
  unfold rowOf
  rw [if_neg (by omega), show 5 + 24 * t + (9 + 5 * i + b) - 5 = 24 * t + (9 + 5 * i + b) by omega, show (24 * t + (9 + 5 * i + b)) % 24 = 9 + 5 * i + b by omega, show (24 * t + (9 + 5 * i + b)) / 24 = t by omega, if_neg (by omega), show (9 + 5 * i + b - 9) / 5 = i by omega, show (9 + 5 * i + b - 9) % 5 = b by omega]
theorem five_inj {c e t b : Nat} (he : e < 5) (hb : b < 5) (h : c * 5 + e = t * 5 + b) : c = t ∧ e = b := by
  have h1 : c = t := by
    rcases Nat.lt_trichotomy c t with q | q | q
    · omega
    · exact q
    · omega
  exact ⟨h1, by omega⟩
theorem row_s (V : sV) {j : Nat} (hj : j < 5) : rowOf V j = V 12 j := by unfold rowOf; rw [if_pos hj]
theorem row_put (V : sV) (P k j : Nat) (x : Int32) (h0 : rowOf (up2 V k j x) P = x) (h : ∀ p, p ≠ P → rowOf (up2 V k j x) p = rowOf V p) : upd (rowOf V) P x = rowOf (up2 V k j x) := by
  funext p
  unfold upd
  by_cases hp : p = P
  · rw [if_pos hp, hp, h0]
  · rw [if_neg hp, h p hp]
theorem row_other (V : sV) (k j : Nat) (x : Int32) (p : Nat) (h5 : p < 5 → ¬ (12 = k ∧ p = j)) (h9 : ¬ p < 5 → (p - 5) % 24 < 9 → ¬ ((p - 5) % 24 = k ∧ (p - 5) / 24 = j)) (hb : ¬ p < 5 → ¬ (p - 5) % 24 < 9 → ¬ (9 + ((p - 5) % 24 - 9) / 5 = k ∧ (p - 5) / 24 * 5 + ((p - 5) % 24 - 9) % 5 = j)) : rowOf (up2 V k j x) p = rowOf V p := by
  unfold rowOf
  by_cases e5 : p < 5
  · rw [if_pos e5, if_pos e5, up2_ne (h5 e5)]
  · rw [if_neg e5, if_neg e5]
    by_cases e9 : (p - 5) % 24 < 9
    · rw [if_pos e9, if_pos e9, up2_ne (h9 e5 e9)]
    · rw [if_neg e9, if_neg e9, up2_ne (hb e5 e9)]
theorem row_put_k (V : sV) {w : Nat} (t : Nat) (hw : w < 9) (x : Int32) : upd (rowOf V) (5 + 24 * t + w) x = rowOf (up2 V w t x) := by
  refine row_put V _ w t x (by rw [row_k _ t hw, up2_eq]) (fun p hp => row_other V w t x p (fun _ => by omega) (fun h5 h9 q => hp ?_) (fun h5 h9 q => ?_))
  · have := Nat.div_add_mod (p - 5) 24
    rw [q.1, q.2] at this
    omega
  · have := q.1
    omega
theorem row_put_b (V : sV) (t : Nat) {i b : Nat} (hi : i < 3) (hb : b < 5) (x : Int32) : upd (rowOf V) (5 + 24 * t + (9 + 5 * i + b)) x = rowOf (up2 V (9 + i) (t * 5 + b) x) := by
  refine row_put V _ (9 + i) (t * 5 + b) x (by rw [row_b _ t hi hb, up2_eq]) (fun p hp => row_other V (9 + i) (t * 5 + b) x p (fun _ => by omega) (fun h5 h9 q => ?_) (fun h5 h9 q => hp ?_))
  · have := q.1
    omega
  · have h1 := Nat.div_add_mod (p - 5) 24
    have h2 := Nat.div_add_mod ((p - 5) % 24 - 9) 5
    have h3 : ((p - 5) % 24 - 9) / 5 = i := by have := q.1; omega
    obtain ⟨h4, h6⟩ := five_inj (Nat.mod_lt _ (by decide)) hb q.2
    rw [h3, h6] at h2
    rw [h4] at h1
    omega
theorem row_put_s (V : sV) {j : Nat} (hj : j < 5) (x : Int32) : upd (rowOf V) j x = rowOf (up2 V 12 j x) := by
  refine row_put V _ 12 j x (by rw [row_s _ hj, up2_eq]) (fun p hp => row_other V 12 j x p (fun _ q => hp q.2) (fun h5 h9 q => ?_) (fun h5 h9 q => ?_))
  · have := q.1
    omega
  · have h1 := q.1
    have h2 : (p - 5) % 24 < 24 := Nat.mod_lt _ (by decide)
    omega
/-- the reference's cells: its row is rowOf V, the others X 1 .. X 8, its numbers X 9 -/
abbrev mV (g : gx) (h : Nat) (a : Nat → Nat) (V X : sV) : va_W := [(h, .inr (5, [.ref (a 0), .ref (a 1), .int (X 9 0), .ref (a 2), .int (X 9 1), .ref (a 3), .ref (a 4), .ref (a 5), .int (X 9 2), .int (X 9 3), .int (X 9 4), .ref (a 6), .ref (a 7), .ref (a 8)])), (a 0, .inl (g.2.1, 149, .inl (rowOf V))), (a 1, .inl (g.2.1, 745, .inl (X 1))), (a 2, .inl (g.2.1, 149, .inl (X 2))), (a 3, .inl (g.2.1, 149, .inl (X 3))), (a 4, .inl (g.2.1, 6, .inl (X 4))), (a 5, .inl (g.2.1, 60, .inl (X 5))), (a 6, .inl (g.2.1, 32, .inl (X 6))), (a 7, .inl (g.2.1, 32, .inl (X 7))), (a 8, .inl (g.2.1, 32, .inl (X 8)))]
theorem b_iastE {p : Program} {l : Launch} {e : Env} {R : Room} {s : State} {m : MethodId} {args : Array Value} {below : List Frame} {meth : Method} {c : Code} {H H0 : Heap} {locs : List Loc} {cells slots : Nat} {Q : State → Prop} {cc : ByteArray} {pc : Nat} {ls : Array Slot} {rest : List Value} {g : gx} {A : Nat → Prop} {B B' : List va_W} {a : Nat} (hexec : p.tables.exec = Jvm.exec) (hb : c.code = cc) (hK : kx g s) (hW : wd g A H0 B H locs) (i k j : Nat) {b : va_W} {n : Nat} {f f' : Nat → Int32} {x v : Int32} (h1 : B[i]? = some b) (h2 : b[k]? = some (a, .inl (g.2.1, n, .inl f))) (hx : x = nI j) (hj : j < n) (hn : n.ble 100000 = true) (hf : upd f j v = f') (hB' : B.set i (b.set k (a, .inl (g.2.1, n, .inl f'))) = B') (hdg : decode cc pc = .ok (.iastore, 1))
    (kk : ∀ (H1 : Heap) (locs1 : List Loc), wd g A H0 B' H1 locs1 → W p l e R s m args below meth c H1 locs1 cells slots Q (F0 m (pc + 1) ls rest)) : W p l e R s m args below meth c H locs cells slots Q (F0 m pc ls (.int v :: .int x :: .ref a :: rest)) := by
  subst hf
  exact b_iast hexec hb hK hW i k j h1 h2 hx hj hn hB' hdg kk
theorem isT5 (x : Int32) : (¬ x < 0 ∧ ¬ 5 < x) ↔ isT x := by
  have h5 : (5 : Int32).toInt = 5 := by decide
  have h6 : (6 : Int32).toInt = 6 := by decide
  simp only [isT, Int32.lt_iff_toInt_lt, Int32.le_iff_toInt_le, h5, h6]
  omega
theorem bI_iff {p q : Prop} [Decidable p] [Decidable q] (h : p ↔ q) : bI p = bI q := by
  unfold bI
  by_cases hp : p
  · rw [if_pos hp, if_pos (h.mp hp)]
  · rw [if_neg hp, if_neg (fun q => hp (h.mpr q))]
theorem ltc1 {c : Nat} (hc : c ≤ 5) (y : Int32) : (¬ y < 0 ∧ ¬ nI c - 1 < y) ↔ (¬ y < 0 ∧ ¬ nI c ≤ y) := by
  have h1 : (nI c - 1).toInt = (c : Int) - 1 := by
    rcases (show c = 0 ∨ c = 1 ∨ c = 2 ∨ c = 3 ∨ c = 4 ∨ c = 5 by omega) with rfl | rfl | rfl | rfl | rfl | rfl <;> decide
  have h2 : (nI c).toInt = (c : Int) := nI_toInt (by omega)
  simp only [Int32.lt_iff_toInt_lt, Int32.le_iff_toInt_le, h1, h2]
  omega
abbrev inI (v x y : Int32) : Prop := ¬ v < x ∧ ¬ y < v
abbrev wM (V : sV) (t : Nat) (p : Int32) : Int32 := if V 6 t ≤ 0 then (if V 12 2 - V 12 2 / 7 * 7 = V 5 t then evB V t else p) else 0
def rgM (V : sV) (t : Nat) (p : Int32) : Nat → Int32 × Int32
  | 0 => (0, V 1 t - V 2 t)
  | b + 1 => if bitW (wM V t p) b then (if 6 ≤ V 10 (t * 5 + b) then rgM V t p b else if (rgM V t p b).2 < rF (V 9 (t * 5 + b)) then rgM V t p b else ((rgM V t p b).1 ||| (1 <<< (nI b &&& 31)), (rgM V t p b).2 - rF (V 9 (t * 5 + b)))) else rgM V t p b
def lsM (V : sV) (t : Nat) (s : Int32) : Nat → Int32
  | 0 => 0
  | b + 1 => lsM V t s b + (if bitW s b then V 9 (t * 5 + b) else 0)
abbrev ldM (V : sV) (c : Nat → Nat) (t : Nat) : Int32 := lsM V t (rgM V t (V 4 t) (c t)).1 (c t)
def liX (V : sV) (c : Nat → Nat) (X : sV) : Nat → sV
  | 0 => X
  | i + 1 => up2 (liX V c X i) 4 i (ldM V c i)
abbrev abM (d : Int32) : Int32 := if 0 ≤ d then d else -d
abbrev hrM (V : sV) (u : Nat → Int32) (t e : Nat) : Int32 := if u t - V 12 0 * abM (V 0 t - V 0 e) ≤ 0 then 0 else u t - V 12 0 * abM (V 0 t - V 0 e)
def bsM (V : sV) (u : Nat → Int32) (e : Nat) : Nat → Int32 × Int32
  | 0 => (0, -5)
  | t + 1 => if hrM V u t e ≤ (bsM V u e t).1 then ((bsM V u e t).1, if hrM V u t e = (bsM V u e t).1 then -5 else (bsM V u e t).2) else (hrM V u t e, nI t)
theorem bsM_rng (V : sV) (u : Nat → Int32) (e : Nat) : ∀ t, t ≤ 6 → (bsM V u e t).2 = -5 ∨ ∃ w, w < 6 ∧ (bsM V u e t).2 = nI w
  | 0, _ => Or.inl rfl
  | t + 1, h => by
    rw [bsM]
    split
    · show (if _ then _ else _) = _ ∨ _
      split
      · exact Or.inl rfl
      · exact bsM_rng V u e t (by omega)
    · exact Or.inr ⟨t, by omega, rfl⟩
def lnM (u : Nat → Int32) : Nat → Int32
  | 0 => -5
  | i + 1 => if u (5 - i) ≤ 0 then lnM u i else if lnM u i = -5 then nI (5 - i) else if u (5 - i) < u (lnM u i).toNatClampNeg then lnM u i else nI (5 - i)
theorem lnM_rng (u : Nat → Int32) : ∀ i, lnM u i = -5 ∨ ∃ w, w < 6 ∧ lnM u i = nI w
  | 0 => Or.inl rfl
  | i + 1 => by
    have ih := lnM_rng u i
    rw [lnM]
    split
    · exact ih
    · split
      · exact Or.inr ⟨5 - i, by omega, rfl⟩
      · split
        · exact ih
        · exact Or.inr ⟨5 - i, by omega, rfl⟩
def wdV (V : sV) (t : Nat) (s : Int32) : Nat → sV × Int32
  | 0 => (V, 0)
  | b + 1 => if bitW s b then (up2 (up2 (wdV V t s b).1 10 (t * 5 + b) ((wdV V t s b).1 10 (t * 5 + b) + 1)) 11 (t * 5 + b) ((wdV V t s b).1 11 (t * 5 + b) + 1), (wdV V t s b).2 + rF ((wdV V t s b).1 9 (t * 5 + b))) else wdV V t s b
theorem wdV_k (V : sV) (t : Nat) (s : Int32) {k : Nat} (h0 : k ≠ 10) (h1 : k ≠ 11) (j : Nat) : ∀ b, (wdV V t s b).1 k j = V k j
  | 0 => rfl
  | b + 1 => by
    rw [wdV]
    split
    · show up2 _ _ _ _ k j = _
      rw [up2_ne (by omega), up2_ne (by omega), wdV_k V t s h0 h1 j b]
    · exact wdV_k V t s h0 h1 j b
abbrev wdF (V : sV) (t : Nat) (s : Int32) (c : Nat) : sV := up2 (wdV V t s c).1 2 t ((wdV V t s c).2 / 2)
def tpV (V : sV) (u : Nat → Int32) : Nat → sV
  | 0 => V
  | e + 1 => if (bsM (tpV V u e) u e 6).2 = -5 then tpV V u e else up2 (tpV V u e) 7 (bsM (tpV V u e) u e 6).2.toNatClampNeg (tpV V u e 7 (bsM (tpV V u e) u e 6).2.toNatClampNeg + 1)
theorem tpV_k (V : sV) (u : Nat → Int32) {k : Nat} (h : k ≠ 7) (j : Nat) : ∀ e, tpV V u e k j = V k j
  | 0 => rfl
  | e + 1 => by
    rw [tpV]
    split
    · exact tpV_k V u h j e
    · rw [up2_ne (by omega), tpV_k V u h j e]
/-- one town of a turn: its ropes wear, its ringers tire, its silence falls -/
abbrev toV (V : sV) (c : Nat → Nat) (t : Nat) : sV := wdF V t (rgM V t (V 4 t) (c t)).1 (c t)
def ttV (V : sV) (c : Nat → Nat) : Nat → sV
  | 0 => V
  | t + 1 => up2 (toV (ttV V c t) c t) 6 t (if toV (ttV V c t) c t 6 t ≤ 0 then 0 else toV (ttV V c t) c t 6 t - 1)
theorem ttV_3 (V : sV) (c : Nat → Nat) (j : Nat) : ∀ t, ttV V c t 3 j = V 3 j
  | 0 => rfl
  | t + 1 => by
    rw [ttV, up2_ne (by omega)]
    show up2 _ _ _ _ 3 j = _
    rw [up2_ne (by omega), wdV_k _ _ _ (by omega) (by omega), ttV_3 V c j t]
def luV (V : sV) (L : Int32) : sV := if L = -5 then up2 V 12 4 (V 12 4 + 1) else up2 (up2 V 6 L.toNatClampNeg (V 12 1)) 8 L.toNatClampNeg (V 8 L.toNatClampNeg + 1)
/-- a turn of the reference, with what is heard -/
def tuV (V : sV) (c : Nat → Nat) (u : Nat → Int32) : sV := let U := up2 (luV (ttV (tpV V u 6) c 6) (lnM u 6)) 12 3 (lnM u 6); up2 U 12 2 (U 12 2 + 1)
abbrev tuX (V : sV) (c : Nat → Nat) (X : sV) : sV := liX V c X 6
def mtM (V X : sV) (c : Nat → Nat) : Nat → sV × sV
  | 0 => (V, X)
  | i + 1 => (tuV (mtM V X c i).1 c (tuX (mtM V X c i).1 c (mtM V X c i).2 4), tuX (mtM V X c i).1 c (mtM V X c i).2)
theorem tuV_3 (V : sV) (c : Nat → Nat) (u : Nat → Int32) (j : Nat) : tuV V c u 3 j = V 3 j := by
  unfold tuV
  show up2 (up2 _ _ _ _) _ _ _ 3 j = _
  rw [up2_ne (by omega), up2_ne (by omega)]
  unfold luV
  split
  · rw [up2_ne (by omega), ttV_3, tpV_k _ _ (by omega)]
  · rw [up2_ne (by omega), up2_ne (by omega), ttV_3, tpV_k _ _ (by omega)]
theorem mtM_3 (V X : sV) (c : Nat → Nat) (j : Nat) : ∀ i, (mtM V X c i).1 3 j = V 3 j
  | 0 => rfl
  | i + 1 => by
    rw [mtM]
    show tuV _ _ _ 3 j = _
    rw [tuV_3, mtM_3 V X c j i]
