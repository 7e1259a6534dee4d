/-! ===== WORDS of the class's state: what each method answers and does, as functions ===== -/
abbrev isT (x : Int32) : Prop := ¬ x < 0 ∧ ¬ 6 ≤ x
theorem isT_nat {x : Int32} (h : isT x) : ∃ t : Nat, t < 6 ∧ x = nI t := by
  obtain ⟨h1, h2⟩ := h
  have h1 : 0 ≤ x.toInt := by
    have := Int32.not_lt.mp h1
    simpa using Int32.le_iff_toInt_le.mp this
  have h2 : x.toInt < 6 := by
    have := Int32.not_le.mp h2
    simpa using Int32.lt_iff_toInt_lt.mp this
  refine ⟨x.toInt.toNat, by omega, ?_⟩
  apply Int32.toInt_inj.mp
  rw [nI_toInt (by omega)]
  omega
theorem isT_nI {t : Nat} (h : t < 6) : isT (nI t) := ⟨nI_pos (by omega), fun q => absurd ((nI_leI (a := 6) (b := t) (by decide) (by omega)).mp q) (by omega)⟩
abbrev rF (x : Int32) : Int32 := (x + 1) / 2
abbrev inR (x v : Int32) : Prop := (x = 0 ∧ ¬ v < 0 ∧ ¬ 9 < v) ∨ (¬ x = 0 ∧ ¬ v < 1 ∧ ¬ 3 < v)
abbrev tErr (x : Int32) : Int32 := if x < 1 then -2 else if x ≤ 50 then 0 else -2
abbrev hasB (V : sV) (x y : Int32) : Prop := isT x ∧ ¬ y < 0 ∧ ¬ V 3 x.toNatClampNeg ≤ y
abbrev evB (V : sV) (t : Nat) : Int32 := (1 <<< (V 3 t &&& 31)) - 1
abbrev resT (V : sV) (t : Nat) : Int32 := V 1 t - V 2 t
abbrev wantC (V : sV) (t : Nat) : Int32 := if V 12 2 - V 12 2 / 7 * 7 = V 5 t then evB V t else V 4 t
def takB (V : sV) (x : Int32) (t : Nat) : Nat → Bool
  | 0 => false
  | n + 1 => takB V x t n || (decide (n ≠ t) && decide (V 0 n = x))
theorem takB_le {V : sV} {x : Int32} {t i n : Nat} (h : takB V x t i = true) (hn : i ≤ n) : takB V x t n = true := by
  induction n with
  | zero =>
    have : i = 0 := by omega
    subst this; exact h
  | succ n ih =>
    by_cases e : i = n + 1
    · subst e; exact h
    · rw [takB, ih (by omega), Bool.true_or]
def sumF (f : Nat → Int32) : Nat → Int32
  | 0 => 0
  | n + 1 => sumF f n + f n
def cntF (q : Nat → Prop) [DecidablePred q] : Nat → Int32
  | 0 => 0
  | n + 1 => if q n then cntF q n + 1 else cntF q n
abbrev fillV (V : sV) (s : Nat) (w x r : Int32) : sV := up2 (up2 (up2 V 9 s w) 10 s x) 11 s r
abbrev addV (V : sV) (t c : Nat) (w : Int32) : sV := up2 (fillV V (t * 5 + c) w 0 0) 3 t (nI (c + 1))
/-- k bells moved one place to the front, from the place b on -/
def shV (V : sV) (t b : Nat) : Nat → sV
  | 0 => V
  | k + 1 => fillV (shV V t b k) (t * 5 + (b + 1 + k) - 1) (shV V t b k 9 (t * 5 + (b + 1 + k))) (shV V t b k 10 (t * 5 + (b + 1 + k))) (shV V t b k 11 (t * 5 + (b + 1 + k)))
abbrev remV (V : sV) (t b c : Nat) : sV := up2 (up2 (fillV (shV V t b (c - 1 - b)) (t * 5 + (c - 1)) 0 0 0) 3 t (nI (c - 1))) 4 t ((shV V t b (c - 1 - b) 4 t &&& ((1 <<< (nI b &&& 31)) - 1)) ||| ((shV V t b (c - 1 - b) 4 t >>> (nI (b + 1) &&& 31)) <<< (nI b &&& 31)))
def gpV (V N : sV) : Nat → sV
  | 0 => V
  | i + 1 => if isT (N 3 i) then up2 (gpV V N i) 7 (N 3 i).toNatClampNeg (gpV V N i 7 (N 3 i).toNatClampNeg + 1) else gpV V N i
def wrV (V N : sV) : Nat → sV
  | 0 => V
  | i + 1 => if ¬ N 0 i = 0 then wrV V N i else up2 (up2 (wrV V N i) 10 i (wrV V N i 10 i + 1)) 11 i (wrV V N i 11 i + 1)
def trV (V N : sV) : Nat → sV
  | 0 => V
  | i + 1 => up2 (trV V N i) 2 i (N 2 i / 2)
def fsV (V : sV) : Nat → sV
  | 0 => V
  | i + 1 => if fsV V i 6 i ≤ 0 then fsV V i else up2 (fsV V i) 6 i (fsV V i 6 i - 1)
def flV (V : sV) (x : Int32) : sV := if isT x then up2 (up2 (up2 (fsV V 6) 12 3 x) 6 x.toNatClampNeg (fsV V 6 12 1)) 8 x.toNatClampNeg (fsV V 6 8 x.toNatClampNeg + 1) else up2 (up2 (fsV V 6) 12 3 x) 12 4 (fsV V 6 12 4 + 1)
def pasV (V N : sV) : sV := let U := flV (trV (wrV (gpV V N 6) N 30) N 6) (N 4 0); up2 U 12 2 (U 12 2 + 1)
/-- m rows of another state taken over -/
def cpV (W V : sV) (n : Nat) : sV := fun k => bif Nat.blt k n then W k else V k
abbrev bitW (w : Int32) (b : Nat) : Prop := (w >>> (nI b &&& 31)) &&& 1 = 1
/-- volume and busy ringers of a town behind b bells; why a bell is not rung -/
def vbC (V : sV) (t : Nat) : Nat → Int32 × Int32
  | 0 => (0, 0)
  | b + 1 => if ¬ V 6 t ≤ 0 then vbC V t b else if ¬ bitW (wantC V t) b then vbC V t b else if ¬ V 10 (t * 5 + b) < 6 then vbC V t b else if ¬ rF (V 9 (t * 5 + b)) ≤ resT V t - (vbC V t b).2 then vbC V t b else ((vbC V t b).1 + V 9 (t * 5 + b), (vbC V t b).2 + rF (V 9 (t * 5 + b)))
abbrev rsC (V : sV) (t b : Nat) : Int32 := if ¬ V 6 t ≤ 0 then 1 else if ¬ bitW (wantC V t) b then 2 else if ¬ V 10 (t * 5 + b) < 6 then 3 else if ¬ rF (V 9 (t * 5 + b)) ≤ resT V t - (vbC V t b).2 then 4 else 0
def riN (V : sV) (t : Nat) (N : sV) : Nat → sV
  | 0 => N
  | b + 1 => up2 (riN V t N b) 0 (t * 5 + b) (rsC V t b)
abbrev rinN (V : sV) (t : Nat) (N : sV) : sV := up2 (up2 (riN V t N 5) 1 t (vbC V t 5).1) 2 t (vbC V t 5).2
abbrev absI (x : Int32) : Int32 := if 0 ≤ x then x else 0 - x
abbrev sndF (V : sV) (u : Nat → Int32) (t e : Nat) : Int32 := if 0 < u t - V 12 0 * absI (V 0 t - V 0 e) then u t - V 12 0 * absI (V 0 t - V 0 e) else 0
/-- the most that is heard in e, and who wins there, behind t towns -/
def wmF (V : sV) (u : Nat → Int32) (e : Nat) : Nat → Int32 × Int32
  | 0 => (0, -5)
  | t + 1 => if sndF V u t e ≤ (wmF V u e t).1 then (if sndF V u t e = (wmF V u e t).1 then ((wmF V u e t).1, -5) else wmF V u e t) else (sndF V u t e, nI t)
/-- the towns ring, one after the other: what is rung, and the loudest volume so far -/
def moC (V : sV) : Nat → Int32
  | 0 => 0
  | t + 1 => if (vbC V t 5).1 ≤ moC V t then moC V t else (vbC V t 5).1
def f1N (V : sV) (N : sV) : Nat → sV
  | 0 => up2 N 4 0 (-5)
  | t + 1 => if (vbC V t 5).1 ≤ moC V t then rinN V t (f1N V N t) else up2 (rinN V t (f1N V N t)) 4 0 (nI t)
def f2N (V : sV) (N : sV) : Nat → sV
  | 0 => N
  | e + 1 => up2 (f2N V N e) 3 e (wmF V (f2N V N e 1) e 6).2
abbrev forN (V N : sV) : sV := f2N V (f1N V N 6) 6
/-- i turns -/
def mtV (V N : sV) : Nat → sV × sV
  | 0 => (V, N)
  | i + 1 => (pasV (mtV V N i).1 (forN (mtV V N i).1 (mtV V N i).2), forN (mtV V N i).1 (mtV V N i).2)
/-- a ring of five states: the oldest's place, how many, and what stands where, behind a record -/
def recO (o n : Nat) : Nat := if n < 5 then o else (o + 1) % 5
def recS (n : Nat) : Nat := if n < 5 then n + 1 else n
def recH (o n : Nat) (HV : Nat → sV) (V : sV) (i : Nat) : sV := if i = (o + n) % 5 then V else HV i
theorem adr2 {X Y L : List (List Nat)} (h1 : X = L) (h2 : Y = L) : X = Y := h1.trans h2.symm
/-- a text: its signs are numbers -/
abbrev tB (g : gx) (h a : Nat) (T : Nat → Nat) (n : Nat) : va_W := sB g h a (fun i => nI (T i)) n
theorem up2_eq (V : sV) (k j : Nat) (x : Int32) : up2 V k j x k j = x := by simp [up2, upd]
theorem up2_ne {V : sV} {k j k' j' : Nat} {x : Int32} (h : ¬ (k' = k ∧ j' = j)) : up2 V k j x k' j' = V k' j' := by
  by_cases hk : k' = k
  · subst hk
    have hj : j' ≠ j := fun e => h ⟨rfl, e⟩
    simp [up2, upd, hj]
  · have hb : Nat.beq k' k = false := by
      cases hq : Nat.beq k' k with
      | false => rfl
      | true => exact absurd (Nat.eq_of_beq_eq_true hq) hk
    simp [up2, hb]
theorem up2_if (V : sV) (k j k' j' : Nat) (x : Int32) : up2 V k j x k' j' = if k' = k ∧ j' = j then x else V k' j' := by
  by_cases h : k' = k ∧ j' = j
  · rw [if_pos h, h.1, h.2, up2_eq]
  · rw [if_neg h, up2_ne h]
