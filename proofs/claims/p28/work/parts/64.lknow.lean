/-! ===== WHAT THE LAW'S NUMBERS SAY OF THE CLASS'S: asked here, proved behind (70 ..) ===== -/
abbrev rsL (V : sV) (k : Nat) (bs : Int32) (i : Nat) : Int32 := if ¬ V 6 k ≤ 0 then 1 else if ¬ (feL V k ∨ bitW (V 4 k) i) then 2 else if ¬ V 10 (k * 5 + i) ≤ 5 then 3 else if (bs >>> (nI i &&& 31)) &&& 1 = 0 then 4 else 0
/-- broken ropes, as the law counts them -/
def brI (V : sV) (k : Nat) (x : Int32) : Nat → Int32
  | 0 => x
  | i + 1 => brI V k x i + (if V 10 (k * 5 + i) = 6 then 1 else 0)
def brO (V : sV) (cq : Nat → Nat) : Nat → Int32
  | 0 => 0
  | k + 1 => brI V k (brO V cq k) (cq k)
def siL (V : sV) : Nat → Int32
  | 0 => 0
  | k + 1 => siL V k + (if V 6 k ≤ 0 then 0 else 1)
/-- loudness with another plan of the town k; the points then; the best plan, from the highest down -/
def uP (V : sV) (cq : Nat → Nat) (k p : Nat) : Nat → Int32 := fun j => if j = k then loL V k (rgL V k (nI p) (cq k)).1 5 else ldL V cq j
def ptL (V : sV) (u : Nat → Int32) (k : Nat) : Nat → Int32
  | 0 => 0
  | e + 1 => ptL V u k e + (if wnL V u e 6 = nI k then 1 else 0)
abbrev ptP (V : sV) (cq : Nat → Nat) (k p : Nat) : Int32 := ptL V (uP V cq k p) k 6
abbrev owP (V : sV) (cq : Nat → Nat) (k p : Nat) : Int32 := 100 * ptP V cq k p - uP V cq k p k
def bpL (V : sV) (cq : Nat → Nat) (k : Nat) : Nat → Int32 × Int32
  | 0 => (-5, 0)
  | i + 1 => if (bpL V cq k i).1 < 0 ∨ ¬ owP V cq k (2 ^ cq k - 1 - i) < (bpL V cq k i).2 then (nI (2 ^ cq k - 1 - i), owP V cq k (2 ^ cq k - 1 - i)) else bpL V cq k i
def mtL (V : sV) (cq : Nat → Nat) : Nat → sV
  | 0 => V
  | i + 1 => tuL (mtL V cq i) cq
/-- what a state's check needs -/
def LKn (V : sV) (cq : Nat → Nat) : Prop :=
  (∀ (N : sV) (e : Nat), e < 6 → forN V N 3 e = wnL V (ldL V cq) e 6) ∧ (∀ (N : sV) (k e : Nat), k < 6 → e < 6 → sndF V (forN V N 1) k e = rcL V (ldL V cq) k e) ∧
  (∀ (N : sV) (k : Nat), k < 6 → forN V N 1 k = loL V k (rgL V k (V 4 k) (cq k)).1 5) ∧ (∀ (N : sV) (k i : Nat), k < 6 → i < cq k → forN V N 0 (k * 5 + i) = rsL V k (rgL V k (V 4 k) (cq k)).1 i) ∧
  cntF (fun j => ¬ V 10 j < 6) 30 = brO V cq 6 ∧ cntF (fun j => ¬ V 6 j ≤ 0) 6 = siL V 6 ∧ (∀ k, k < 6 → ¬ sumF (V 7) 6 = 0 → isNaN64 (FP.ddiv (FP.i2d (V 7 k)) (FP.i2d (sumF (V 7) 6))) = false)
/-- what the check of plans and of turns to come needs -/
def LKp (V : sV) (cq : Nat → Nat) (k : Nat) : Prop :=
  plE V (nI k) k ((1 : Int32) <<< (V 3 k &&& 31)) = -2 ∧ (∀ (N : sV) (p : Nat), p < 2 ^ cq k → cntF (fun e => forN (up2 V 4 k (nI p)) N 3 e = nI k) 6 = ptP V cq k p ∧ plE V (nI k) k (nI p) = 0) ∧
  ∀ (N : sV), (bpS V N k (2 ^ cq k - 1)).1.1 = (bpL V cq k (2 ^ cq k)).1
/-! two doubles of one number, where it is one -/
theorem dcmp_same {x : UInt64} (h : isNaN64 x = false) : Op.cmpValue (FP.dcmp x x) .l = 0 := by
  have e : FP.dcmp x x = FP.Core.order (FP.Core.decode FP.Core.b64 x.toNat) (FP.Core.decode FP.Core.b64 x.toNat) := rfl
  rw [e]
  have hn : ¬ FP.Core.decode FP.Core.b64 x.toNat = .nan := by
    intro q
    unfold FP.Core.decode at q
    split at q
    · rename_i h3
      split at q
      · exact absurd q (by simp)
      · rename_i h4
        have : isNaN64 x = true := by
          refine isNaN64_iff.mpr ?_
          rw [show (0x7fffffffffffffff : Nat) = 2 ^ 63 - 1 by decide, Nat.and_two_pow_sub_one_eq_mod]
          have a3 : x.toNat / 2 ^ 52 % 2 ^ 11 = 2 ^ 11 - 1 := h3
          have a4 : ¬ x.toNat % 2 ^ 52 = 0 := h4
          omega
        rw [h] at this
        exact absurd this (by decide)
    · split at q <;> exact absurd q (by simp)
  generalize FP.Core.decode FP.Core.b64 x.toNat = d at hn
  cases d with
  | nan => exact absurd rfl hn
  | inf s => simp [FP.Core.order, Op.cmpValue]
  | fin s c q => simp [FP.Core.order, Op.cmpValue]
theorem sh_cmp {r1 r2 D : UInt64} (h1 : alike64 r1 D = true) (h2 : alike64 r2 D = true) (h : isNaN64 D = false) : Op.cmpValue (FP.dcmp r1 r2) .l = 0 := by
  unfold alike64 at h1 h2
  rw [Bool.or_eq_true, decide_eq_true_eq, Bool.and_eq_true, h] at h1 h2
  rcases h1 with rfl | ⟨a1, a2⟩
  · rcases h2 with rfl | ⟨b1, b2⟩
    · exact dcmp_same h
    · first | exact absurd b1 (by decide) | exact absurd b2 (by decide)
  · first | exact absurd a1 (by decide) | exact absurd a2 (by decide)
theorem sh_cmp0 {r : UInt64} (h : r = FP.dconst0) : Op.cmpValue (FP.dcmp r FP.dconst0) .l = 0 := by
  subst h
  decide +kernel
/-- what follows where two roads meet, walked once -/
theorem b_join {p : Program} {l : Launch} {e : Env} {R : Room} {s : State} {m : MethodId} {args : Array Value} {below : List Frame} {meth : Method} {c : Code} {H : Heap} {locs : List Loc} {cells slots : Nat} {Q : State → Prop} {pc pcJ n : Nat} {ls : Array Slot} {st0 : List Value} {L : List (Nat × Value)} (jn : ∀ ls : Array Slot, lv_has ls n L → W p l e R s m args below meth c H locs cells slots Q (F0 m pcJ ls []))
    (k : (∀ ls : Array Slot, lv_has ls n L → W p l e R s m args below meth c H locs cells slots Q (F0 m pcJ ls [])) → W p l e R s m args below meth c H locs cells slots Q (F0 m pc ls st0)) : W p l e R s m args below meth c H locs cells slots Q (F0 m pc ls st0) := k jn
/-! plans from the highest down; turns to come -/
def plI (c i : Nat) : Int32 := if i < c then nI (c - 1 - i) else -1
theorem plI_lt {c i : Nat} (h : i < c) : plI c i = nI (c - 1 - i) := if_pos h
theorem plI_end (c : Nat) : plI c c = -1 := if_neg (Nat.lt_irrefl _)
theorem plI_s {c i : Nat} (h : i < c) (hc : c ≤ 32) : plI c (i + 1) = nI (c - 1 - i) + (-1) := by
  by_cases e : i + 1 < c
  · rw [plI_lt e]
    have e1 : c - 1 - i = (c - 1 - (i + 1)) + 1 := by omega
    rw [e1, nI_succ]
    have : ∀ x : Int32, x = x + 1 + (-1) := fun x => by
      have h1 : x + 1 + (-1) = x + (1 + (-1)) := Int32.add_assoc x 1 (-1)
      rw [h1, show (1 : Int32) + (-1) = 0 by decide, Int32.add_zero]
    exact this _
  · have e1 : i = c - 1 := by omega
    subst e1
    rw [plI, if_neg e, show c - 1 - (c - 1) = 0 by omega]
    decide
theorem plI_0 {V : sV} {k c : Nat} (h : V 3 k = nI c) (hc : c ≤ 5) : (1 : Int32) <<< (V 3 k &&& 31) - 1 = plI (2 ^ c) 0 := by
  have h1 := evB_nat h hc
  have h2 : 0 < 2 ^ c := Nat.pos_of_ne_zero (by simp)
  rw [plI_lt h2]
  exact h1
theorem p32 {c : Nat} (h : c ≤ 5) : 2 ^ c ≤ 32 := by
  have : 2 ^ c ≤ 2 ^ 5 := Nat.pow_le_pow_right (by decide) h
  exact this
theorem uP_at {V : sV} {cq : Nat → Nat} {k p : Nat} {f : Nat → Int32} (hf : ∀ j, j < 6 → j ≠ k → f j = ldL V cq j) (j : Nat) (hj : j < 6) : upd f k (loL V k (rgL V k (nI p) (cq k)).1 5) j = uP V cq k p j := by
  show (if j = k then _ else f j) = if j = k then _ else _
  by_cases e : j = k
  · rw [if_pos e, if_pos e]
  · rw [if_neg e, if_neg e]; exact hf j hj e
theorem bpL_rng (V : sV) (cq : Nat → Nat) (k : Nat) : ∀ i, i ≤ 2 ^ cq k → (bpL V cq k i).1 = -5 ∨ ∃ b, 2 ^ cq k ≤ b + i ∧ b < 2 ^ cq k ∧ (bpL V cq k i).1 = nI b
  | 0, _ => Or.inl rfl
  | i + 1, h => by
    have ih := bpL_rng V cq k i (by omega)
    rw [bpL]
    split
    · exact Or.inr ⟨2 ^ cq k - 1 - i, by omega, by omega, rfl⟩
    · rcases ih with e | ⟨b, h1, h2, h3⟩
      · exact Or.inl e
      · exact Or.inr ⟨b, by omega, h2, h3⟩
theorem bpL_ne {V : sV} {cq : Nat → Nat} {k i : Nat} (h : i < 2 ^ cq k) (hc : 2 ^ cq k ≤ 32) : ¬ (bpL V cq k i).1 = nI (2 ^ cq k - 1 - i) := by
  intro q
  rcases bpL_rng V cq k i (by omega) with e | ⟨b, h1, h2, h3⟩
  · rw [e] at q
    have h9 := congrArg Int32.toInt q
    rw [nI_toInt (by omega), show (-5 : Int32).toInt = -5 by decide] at h9
    omega
  · rw [h3] at q
    have := (nI_eq (by omega) (by omega)).mp q
    omega
theorem piE_ok {k m : Nat} (hk : k < 6) (h1 : 1 ≤ m) (hm : m ≤ 50) : piE (nI k) (nI m) = 0 := by
  have a1 : ¬ nI m < 1 := fun q => absurd ((nI_ltI (a := m) (b := 1) (by omega) (by decide)).mp q) (by omega)
  have a2 : nI m ≤ 50 := (nI_leI (a := m) (b := 50) (by omega) (by decide)).mpr hm
  unfold piE tErr
  rw [if_pos (isT_nI hk), if_neg a1, if_pos a2]
theorem l3L_k (W : sV) {r : Nat} (h : r ≠ 6) (j : Nat) : ∀ n, l3L W n r j = W r j
  | 0 => rfl
  | n + 1 => by rw [l3L, up2_ne (by omega), l3L_k W h j n]
/-- rows that a turn leaves -/
theorem tuU_k (V : sV) (cq : Nat → Nat) (u : Nat → Int32) {r : Nat} (h : r ≠ 2 ∧ r ≠ 6 ∧ r ≠ 7 ∧ r ≠ 8 ∧ r ≠ 10 ∧ r ≠ 11 ∧ r ≠ 12) (j : Nat) : tuU V cq u r j = V r j := by
  have hW : l3L (l2L (tpL V u 6) cq 6) 6 r j = V r j := by
    rw [l3L_k _ (by omega), l2L_k _ _ (by omega) (by omega) (by omega), tpL_k _ _ (by omega)]
  unfold tuU tuE
  split
  · rw [up2_ne (by omega), up2_ne (by omega), up2_ne (by omega), hW]
  · rw [up2_ne (by omega), up2_ne (by omega), up2_ne (by omega), up2_ne (by omega), up2_ne (by omega), hW]
theorem mtL_k (V : sV) (cq : Nat → Nat) {r : Nat} (h : r ≠ 2 ∧ r ≠ 6 ∧ r ≠ 7 ∧ r ≠ 8 ∧ r ≠ 10 ∧ r ≠ 11 ∧ r ≠ 12) (j : Nat) : ∀ i, mtL V cq i r j = V r j
  | 0 => rfl
  | i + 1 => by
    rw [mtL]
    exact (tuU_k _ _ _ h j).trans (mtL_k V cq h j i)
theorem mtL_9 (V : sV) (cq : Nat → Nat) (i : Nat) : mtL V cq i 9 = V 9 := funext fun j => mtL_k V cq (by decide) j i
theorem tuL_9 (V : sV) (cq : Nat → Nat) (i : Nat) : tuL (mtL V cq i) cq 9 = V 9 := funext fun j => (tuU_k _ _ _ (by decide) j).trans (mtL_k V cq (by decide) j i)
