/-! ===== WHAT THE LAW'S NUMBERS SAY OF THE CLASS'S: asked here, proved behind (70 ..) ===== -/
abbrev rsL (V : sV) (k : Nat) (bs : Int32) (i : Nat) : Int32 := if ¬ V 6 k ≤ 0 then 1 else if ¬ (feL V k ∨ bitW (V 4 k) i) then 2 else if ¬ V 10 (k * 5 + i) ≤ 5 then 3 else if (bs >>> (nI i &&& 31)) &&& 1 = 0 then 4 else 0
/-- broken ropes, as the law counts them -/
def brI (V : sV) (k : Nat) (x : Int32) : Nat → Int32
  | 0 => x
  | i + 1 => brI V k x i + (if V 10 (k * 5 + i) = 6 then 1 else 0)
def brO (V : sV) (cq : Nat → Nat) : Nat → Int32
  | 0 => 0
  | k + 1 => brI V k (brO V cq k) (cq k)
def siL (V : sV) : Nat → Int32
  | 0 => 0
  | k + 1 => siL V k + (if V 6 k ≤ 0 then 0 else 1)
/-- loudness with another plan of the town k; the points then; the best plan, from the highest down -/
def uP (V : sV) (cq : Nat → Nat) (k p : Nat) : Nat → Int32 := fun j => if j = k then loL V k (rgL V k (nI p) (cq k)).1 5 else ldL V cq j
def ptL (V : sV) (u : Nat → Int32) (k : Nat) : Nat → Int32
  | 0 => 0
  | e + 1 => ptL V u k e + (if wnL V u e 6 = nI k then 1 else 0)
abbrev ptP (V : sV) (cq : Nat → Nat) (k p : Nat) : Int32 := ptL V (uP V cq k p) k 6
abbrev owP (V : sV) (cq : Nat → Nat) (k p : Nat) : Int32 := 100 * ptP V cq k p - uP V cq k p k
def bpL (V : sV) (cq : Nat → Nat) (k : Nat) : Nat → Int32 × Int32
  | 0 => (-5, 0)
  | i + 1 => if (bpL V cq k i).1 < 0 ∨ ¬ owP V cq k (2 ^ cq k - 1 - i) < (bpL V cq k i).2 then (nI (2 ^ cq k - 1 - i), owP V cq k (2 ^ cq k - 1 - i)) else bpL V cq k i
def mtL (V : sV) (cq : Nat → Nat) : Nat → sV
  | 0 => V
  | i + 1 => tuL (mtL V cq i) cq
/-- what a state's check needs -/
def LKn (V : sV) (cq : Nat → Nat) : Prop :=
  (∀ (N : sV) (e : Nat), e < 6 → forN V N 3 e = wnL V (ldL V cq) e 6) ∧ (∀ (N : sV) (k e : Nat), k < 6 → e < 6 → sndF V (forN V N 1) k e = rcL V (ldL V cq) k e) ∧
  (∀ (N : sV) (k : Nat), k < 6 → forN V N 1 k = loL V k (rgL V k (V 4 k) (cq k)).1 5) ∧ (∀ (N : sV) (k i : Nat), k < 6 → i < cq k → forN V N 0 (k * 5 + i) = rsL V k (rgL V k (V 4 k) (cq k)).1 i) ∧
  cntF (fun j => ¬ V 10 j < 6) 30 = brO V cq 6 ∧ cntF (fun j => ¬ V 6 j ≤ 0) 6 = siL V 6 ∧ (∀ k, k < 6 → ¬ sumF (V 7) 6 = 0 → isNaN64 (FP.ddiv (FP.i2d (V 7 k)) (FP.i2d (sumF (V 7) 6))) = false)
/-- what the check of plans and of turns to come needs -/
def LKp (V : sV) (cq : Nat → Nat) (k : Nat) : Prop :=
  plE V (nI k) k ((1 : Int32) <<< (V 3 k &&& 31)) = -2 ∧ (∀ (N : sV) (p : Nat), p < 2 ^ cq k → cntF (fun e => forN (up2 V 4 k (nI p)) N 3 e = nI k) 6 = ptP V cq k p ∧ plE V (nI k) k (nI p) = 0) ∧
  ∀ (N : sV), (bpS V N k (2 ^ cq k - 1)).1.1 = (bpL V cq k (2 ^ cq k)).1
/-! two doubles of one number, where it is one -/
theorem dcmp_same {x : UInt64} (h : isNaN64 x = false) : Op.cmpValue (FP.dcmp x x) .l = 0 := by
  have e : FP.dcmp x x = FP.Core.order (FP.Core.decode FP.Core.b64 x.toNat) (FP.Core.decode FP.Core.b64 x.toNat) := rfl
  rw [e]
  have hn : ¬ FP.Core.decode FP.Core.b64 x.toNat = .nan := by
    intro q
    unfold FP.Core.decode at q
    split at q
    · rename_i h3
      split at q
      · exact absurd q (by simp)
      · rename_i h4
        have : isNaN64 x = true := by
          refine isNaN64_iff.mpr ?_
          rw [show (0x7fffffffffffffff : Nat) = 2 ^ 63 - 1 by decide, Nat.and_two_pow_sub_one_eq_mod]
          have a3 : x.toNat / 2 ^ 52 % 2 ^ 11 = 2 ^ 11 - 1 := h3
          have a4 : ¬ x.toNat % 2 ^ 52 = 0 := h4
          omega
        rw [h] at this
        exact absurd this (by decide)
    · split at q <;> exact absurd q (by simp)
  generalize FP.Core.decode FP.Core.b64 x.toNat = d at hn
  cases d with
  | nan => exact absurd rfl hn
  | inf s => simp [FP.Core.order, Op.cmpValue]
  | fin s c q => simp [FP.Core.order, Op.cmpValue]
theorem sh_cmp {r1 r2 D : UInt64} (h1 : alike64 r1 D = true) (h2 : alike64 r2 D = true) (h : isNaN64 D = false) : Op.cmpValue (FP.dcmp r1 r2) .l = 0 := by
  unfold alike64 at h1 h2
  rw [Bool.or_eq_true, decide_eq_true_eq, Bool.and_eq_true, h] at h1 h2
  rcases h1 with rfl | ⟨a1, a2⟩
  · rcases h2 with rfl | ⟨b1, b2⟩
    · exact dcmp_same h
    · first | exact absurd b1 (by decide) | exact absurd b2 (by decide)
  · first | exact absurd a1 (by decide) | exact absurd a2 (by decide)
theorem sh_cmp0 {r : UInt64} (h : r = FP.dconst0) : Op.cmpValue (FP.dcmp r FP.dconst0) .l = 0 := by
  subst h
  decide +kernel
/-- what follows where two roads meet, walked once -/
theorem b_join {p : Program} {l : Launch} {e : Env} {R : Room} {s : State} {m : MethodId} {args : Array Value} {below : List Frame} {meth : Method} {c : Code} {H : Heap} {locs : List Loc} {cells slots : Nat} {Q : State → Prop} {pc pcJ n : Nat} {ls : Array Slot} {st0 : List Value} {L : List (Nat × Value)} (jn : ∀ ls : Array Slot, lv_has ls n L → W p l e R s m args below meth c H locs cells slots Q (F0 m pcJ ls []))
    (k : (∀ ls : Array Slot, lv_has ls n L → W p l e R s m args below meth c H locs cells slots Q (F0 m pcJ ls [])) → W p l e R s m args below meth c H locs cells slots Q (F0 m pc ls st0)) : W p l e R s m args below meth c H locs cells slots Q (F0 m pc ls st0) := k jn
