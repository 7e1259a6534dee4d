/-! ===== WORDS of the class's own methods: errors (0: none), what is carried out ===== -/
abbrev plE (V : sV) (x : Int32) (t : Nat) (m : Int32) : Int32 := if isT x then (if m < 0 then -2 else if m ≤ evB V t then 0 else -2) else -1
abbrev spE (V : sV) (x y : Int32) (t b : Nat) : Int32 := if hasB V x y then (if V 10 (t * 5 + b) = 0 then -4 else if 2 ≤ resT V t then 0 else -4) else -1
abbrev hnE (V : sV) (x w : Int32) (c0 : Nat) : Int32 := if isT x then (if w < 1 then -2 else if w ≤ 9 then (if c0 < 5 then 0 else -3) else -2) else -1
abbrev meE (V : sV) (x y : Int32) : Int32 := if hasB V x y then 0 else -1
abbrev seE (V : sV) (x mi ri : Int32) (t : Nat) : Int32 := if isT x then (if mi < 0 then -2 else if mi ≤ 40 then (if ri < 1 then -2 else if ri ≤ 20 then (if takB V mi t 6 = true then -4 else 0) else -2) else -2) else -1
abbrev feE (x d : Int32) : Int32 := if isT x then (if d < 0 then -2 else if d < 7 then 0 else -2) else -1
abbrev stE (x v : Int32) : Int32 := if x < 0 then -1 else if x < 2 then (if inR x v then 0 else -2) else -1
abbrev apE (x : Int32) (k : Nat) : Int32 := if x < 32 then -2 else if x ≤ 126 then (if k < 60 then 0 else -3) else -2
abbrev reE (z : Int32) : Int32 := if z = 0 then -4 else 0
abbrev piE (x m : Int32) : Int32 := if isT x then tErr m else -1
abbrev minI (x y : Int32) : Int32 := if y < x then y else x
theorem tErr_m1 {x : Int32} (h : ¬ tErr x = 0) : tErr x = -2 := by
  unfold tErr at h ⊢
  split
  · rfl
  · split
    · rename_i h1 h2; rw [if_neg h1, if_pos h2] at h; exact absurd rfl h
    · rfl
theorem i2cN {c : Nat} (h : c < 65536) : ((nI c).toUInt32 % 65536).toInt32 = nI c := by
  rw [pk_char, pk_tn (by omega), Nat.mod_eq_of_lt h]
/-- the signs behind the letter at i are what an order wants -/
def okAt (T : Nat → Nat) (k i : Nat) : Prop :=
  (sg T k i = 116 → ∃ d, 1 ≤ d ∧ d ≤ 9 ∧ sg T k (i + 1) = 48 + d) ∧
  (sg T k i = 115 → ∃ t b, t < 6 ∧ b < 5 ∧ sg T k (i + 1) = 48 + t ∧ sg T k (i + 2) = 48 + b) ∧
  (sg T k i = 112 → ∃ t, t < 6 ∧ sg T k (i + 1) = 48 + t)
/-- one order carried out: whether it could be, the state and what is rung then -/
def ordC (T : Nat → Nat) (k i : Nat) (V N : sV) : Bool × sV × sV :=
  if sg T k i = 116 then (true, mtV V N (sg T k (i + 1) - 48))
  else if sg T k i = 115 then
    (if spE V (nI (sg T k (i + 1) - 48)) (nI (sg T k (i + 2) - 48)) (sg T k (i + 1) - 48) (sg T k (i + 2) - 48) = 0 then (true, up2 (up2 V 10 ((sg T k (i + 1) - 48) * 5 + (sg T k (i + 2) - 48)) 0) 2 (sg T k (i + 1) - 48) (V 2 (sg T k (i + 1) - 48) + 2), N) else (false, V, N))
  else
    (if plE V (nI (sg T k (i + 1) - 48)) (sg T k (i + 1) - 48) (bfN T k (k - (i + 2)) (i + 2) 0) = 0 then (true, up2 V 4 (sg T k (i + 1) - 48) (bfN T k (k - (i + 2)) (i + 2) 0), N) else (false, V, N))
/-- the orders from the sign i on -/
def runC (T : Nat → Nat) (k : Nat) : Nat → Nat → Int32 → sV → sV → Int32 × sV × sV
  | 0, _, r, V, N => (r, V, N)
  | m + 1, i, r, V, N => if oI (ltr (sg T k i)) = -1 then runC T k m (i + 1) r V N else if (ordC T k i V N).1 = true then runC T k m (i + 1) (r + 1) (ordC T k i V N).2.1 (ordC T k i V N).2.2 else (r, (ordC T k i V N).2)
theorem dig48 {c d : Nat} (h : c = 48 + d) (hd : d < 100) : nI c - 48 = nI d := by
  subst h
  exact (pk_sub (a := 48 + d) (b := 48) (by omega)).trans (by rw [Nat.add_sub_cancel_left])
/-- the best plan so far (its mask, its points, its volume), the trial and what is rung there -/
def bpS (V N : sV) (t : Nat) : Nat → (Int32 × Int32 × Int32) × sV × sV
  | 0 => ((0, cntF (fun e => forN (up2 V 4 t 0) N 3 e = nI t) 6, forN (up2 V 4 t 0) N 1 t), up2 V 4 t 0, forN (up2 V 4 t 0) N)
  | i + 1 =>
    let q := bpS V N t i
    let U := up2 q.2.1 4 t (nI (i + 1))
    let M := forN U q.2.2
    let p := cntF (fun e => M 3 e = nI t) 6
    (if q.1.2.1 < p then (nI (i + 1), p, M 1 t) else if p = q.1.2.1 then (if q.1.2.2 ≤ M 1 t then q.1 else (nI (i + 1), p, M 1 t)) else q.1, U, M)
theorem evB_nat {V : sV} {t c : Nat} (h : V 3 t = nI c) (hc : c ≤ 5) : evB V t = nI (2 ^ c - 1) := by
  unfold evB
  rw [h]
  rcases (show c = 0 ∨ c = 1 ∨ c = 2 ∨ c = 3 ∨ c = 4 ∨ c = 5 by omega) with rfl | rfl | rfl | rfl | rfl | rfl <;> decide +kernel
theorem plE_T {V : sV} {x : Int32} {t : Nat} {m : Int32} (h : plE V x t m = 0) : isT x := by
  by_cases e : isT x
  · exact e
  · rw [plE, if_neg e] at h; exact absurd h (by decide)
theorem spE_B {V : sV} {x y : Int32} {t b : Nat} (h : spE V x y t b = 0) : hasB V x y := by
  by_cases e : hasB V x y
  · exact e
  · rw [spE, if_neg e] at h; exact absurd h (by decide)
/-- what a bell, and what a count answers -/
def blC (V N : sV) (t b : Nat) : Nat → Int32
  | 0 => V 9 (t * 5 + b)
  | 1 => V 10 (t * 5 + b)
  | 2 => rF (V 9 (t * 5 + b))
  | 3 => V 11 (t * 5 + b)
  | _ => forN V N 0 (t * 5 + b)
def coC (V : sV) (n k : Nat) : Nat → Int32
  | 0 => V 12 2
  | 1 => sumF (V 3) 6
  | 2 => cntF (fun j => ¬ V 10 j < 6) 30
  | 3 => cntF (fun j => ¬ V 6 j ≤ 0) 6
  | 4 => sumF (V 7) 6
  | 5 => V 12 4
  | 6 => V 12 3
  | 7 => V 12 0
  | 8 => V 12 1
  | 9 => nI n
  | _ => nI k
