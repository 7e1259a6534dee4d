/-! ===== a quotient of two whole numbers is a number ===== -/
theorem b64_c : FP.Core.b64.qmin = -1074 ∧ FP.Core.b64.qmax = 971 ∧ FP.Core.b64.tails = 2 ^ 52 ∧ FP.Core.b64.exps = 2048 ∧ FP.Core.b64.p = 53 := by decide +kernel
abbrev okB (n : Nat) : Prop := n < 2 ^ 64 ∧ n % 2 ^ 63 ≤ 0x7ff0000000000000
theorem u64_toNat {n : Nat} (h : n < 2 ^ 64) : (UInt64.ofNat n).toNat = n := by
  first
  | exact UInt64.toNat_ofNat_of_lt' h
  | (rw [UInt64.toNat_ofNat']; exact Nat.mod_eq_of_lt h)
theorem okB_nan {n : Nat} (h : okB n) : isNaN64 (UInt64.ofNat n) = false := by
  cases hq : isNaN64 (UInt64.ofNat n) with
  | false => rfl
  | true =>
    have h2 := isNaN64_iff.mp hq
    rw [u64_toNat h.1, show (0x7fffffffffffffff : Nat) = 2 ^ 63 - 1 by decide, Nat.and_two_pow_sub_one_eq_mod] at h2
    exact absurd h2 (Nat.not_lt.mpr h.2)
theorem enc_ok (s : Bool) (c : Nat) (q : Int) (hc : c < 2 ^ 53) (hq : q ≤ 971) : okB (FP.Core.encode FP.Core.b64 (.fin s c q)) := by
  obtain ⟨e1, e2, e3, e4, e5⟩ := b64_c
  have hs : s.toNat ≤ 1 := by cases s <;> decide
  show okB (if c < FP.Core.b64.tails then FP.Core.assemble FP.Core.b64 s 0 c else FP.Core.assemble FP.Core.b64 s ((q - FP.Core.b64.qmin).toNat + 1) (c - FP.Core.b64.tails))
  rw [e1, e3]
  unfold FP.Core.assemble
  rw [e3, e4]
  split
  · exact ⟨by omega, by omega⟩
  · exact ⟨by omega, by omega⟩
theorem enc_inf (s : Bool) : okB (FP.Core.encode FP.Core.b64 (.inf s)) := by
  cases s <;> decide +kernel
theorem bnd_ok (s : Bool) (c : Nat) (q : Int) (hc : c < 2 ^ 53) : okB (FP.Core.encode FP.Core.b64 (FP.Core.bound FP.Core.b64 s c q)) := by
  unfold FP.Core.bound
  split
  · rename_i h
    exact enc_ok s c q hc (by rw [b64_c.2.1] at h; exact h)
  · exact enc_inf s
theorem rr_ok (s : Bool) (num den : Nat) (e : Int) : okB (FP.Core.encode FP.Core.b64 (FP.Core.roundRatio FP.Core.b64 s num den e)) := by
  unfold FP.Core.roundRatio
  split
  · exact enc_ok s 0 _ (by decide) (by rw [b64_c.1]; decide)
  · unfold FP.Core.roundAt FP.Core.settle
    split
    · rename_i h
      exact bnd_ok s _ _ (by rw [b64_c.2.2.2.2] at h; exact h)
    · exact bnd_ok s _ _ (by rw [b64_c.2.2.1]; decide)
theorem div_ok {x y : UInt64} {s1 s2 : Bool} {c1 c2 : Nat} {q1 q2 : Int} (hx : FP.Core.decode FP.Core.b64 x.toNat = .fin s1 c1 q1) (hy : FP.Core.decode FP.Core.b64 y.toNat = .fin s2 c2 q2) (h : c2 ≠ 0) : isNaN64 (FP.ddiv x y) = false := by
  show isNaN64 (UInt64.ofNat (FP.Core.encode FP.Core.b64 (FP.Core.quotient FP.Core.b64 (FP.Core.decode FP.Core.b64 x.toNat) (FP.Core.decode FP.Core.b64 y.toNat)))) = false
  rw [hx, hy]
  have e : FP.Core.quotient FP.Core.b64 (.fin s1 c1 q1) (.fin s2 c2 q2) = FP.Core.roundRatio FP.Core.b64 (s1 != s2) c1 c2 (q1 - q2) := if_neg h
  rw [e]
  exact okB_nan (rr_ok _ _ _ _)
theorem rnd_n {n : Nat} (h0 : n ≠ 0) (hn : n < 2 ^ 31) : ∃ c q, FP.Core.roundRatio FP.Core.b64 (decide ((n : Int) < 0)) n 1 0 = .fin (decide ((n : Int) < 0)) c q ∧ 2 ^ 52 ≤ c ∧ c < 2 ^ 53 ∧ -1000 ≤ q ∧ q ≤ 900 := by
  have h1 : 2 ^ n.log2 ≤ n := Nat.log2_self_le h0
  have h2 : n < 2 ^ (n.log2 + 1) := Nat.lt_log2_self
  generalize hl : n.log2 = l at h1 h2
  have hl31 : l < 31 := by
    refine Nat.not_le.mp (fun q => ?_)
    have : 2 ^ 31 ≤ 2 ^ l := Nat.pow_le_pow_right (by decide) q
    omega
  have hlead : FP.Core.leading n 1 = (l : Int) := by
    unfold FP.Core.leading
    rw [hl, show Nat.log2 1 = 0 by decide]
    have e1 : ((l : Int) - ((0 : Nat) : Int)) = (l : Int) := by omega
    simp only [e1]
    rw [if_pos]
    rw [show ((l : Int)).toNat = l by omega, show (-(l : Int)).toNat = 0 by omega]
    omega
  have hq : FP.Core.quantum FP.Core.b64 n 1 0 = (l : Int) - 52 := by
    unfold FP.Core.quantum
    rw [hlead, b64_c.1, b64_c.2.2.2.2]
    omega
  have hP : 2 ^ l * 2 ^ (52 - l) = 2 ^ 52 := by
    rw [← Nat.pow_add]; congr 1; omega
  have hc1 : 2 ^ 52 ≤ n * 2 ^ (52 - l) := by
    rw [← hP]; exact Nat.mul_le_mul_right _ h1
  have hc2 : n * 2 ^ (52 - l) < 2 ^ 53 := by
    have h3 : n * 2 ^ (52 - l) < 2 ^ (l + 1) * 2 ^ (52 - l) := Nat.mul_lt_mul_of_pos_right h2 (Nat.two_pow_pos _)
    have h4 : 2 ^ (l + 1) * 2 ^ (52 - l) = 2 ^ 53 := by rw [← Nat.pow_add]; congr 1; omega
    omega
  refine ⟨n * 2 ^ (52 - l), (l : Int) - 52, ?_, hc1, hc2, by omega, by omega⟩
  unfold FP.Core.roundRatio
  rw [if_neg h0, hq]
  have eN : FP.Core.unitsNum n 0 ((l : Int) - 52) = n * 2 ^ (52 - l) := by
    unfold FP.Core.unitsNum
    rw [show (0 - ((l : Int) - 52)).toNat = 52 - l by omega]
  have eD : FP.Core.unitsDen 1 0 ((l : Int) - 52) = 1 := by
    unfold FP.Core.unitsDen
    rw [show ((l : Int) - 52 - 0).toNat = 0 by omega]
  unfold FP.Core.roundAt
  rw [eN, eD]
  have eR : ∀ m : Nat, FP.Core.nearest m 1 = m := fun m => by
    unfold FP.Core.nearest
    rw [Nat.mod_one, if_pos (by decide), Nat.div_one]
  rw [eR]
  unfold FP.Core.settle
  rw [b64_c.2.2.2.2, if_pos hc2]
  unfold FP.Core.bound
  rw [if_pos (by rw [b64_c.2.1]; omega)]
theorem i2d_dec {n : Nat} (hn : n < 2 ^ 31) : ∃ s c q, FP.Core.decode FP.Core.b64 (FP.i2d (nI n)).toNat = .fin s c q ∧ (n ≠ 0 → c ≠ 0) := by
  by_cases h0 : n = 0
  · subst h0
    exact ⟨false, 0, -1074, by decide +kernel, fun q => absurd rfl q⟩
  · obtain ⟨c, q, e, hc1, hc2, hq1, hq2⟩ := rnd_n h0 hn
    obtain ⟨e1, e2, e3, e4, e5⟩ := b64_c
    have ei : FP.i2d (nI n) = UInt64.ofNat (FP.Core.encode FP.Core.b64 (FP.Core.roundRatio FP.Core.b64 (decide ((n : Int) < 0)) n 1 0)) := by
      show UInt64.ofNat (FP.Core.encode FP.Core.b64 (FP.Core.roundRatio FP.Core.b64 (decide ((nI n).toInt < 0)) (nI n).toInt.natAbs 1 0)) = _
      rw [nI_toInt (by omega)]
      rfl
    have hs : (decide ((n : Int) < 0)) = false := by
      rw [decide_eq_false_iff_not]; omega
    have em : FP.Core.encode FP.Core.b64 (.fin false c q) = ((q + 1074).toNat + 1) * 2 ^ 52 + (c - 2 ^ 52) := by
      show (if c < FP.Core.b64.tails then FP.Core.assemble FP.Core.b64 false 0 c else FP.Core.assemble FP.Core.b64 false ((q - FP.Core.b64.qmin).toNat + 1) (c - FP.Core.b64.tails)) = _
      rw [e1, e3, if_neg (by omega)]
      unfold FP.Core.assemble
      rw [e3, e4, show (false : Bool).toNat = 0 from rfl, show (q - -1074).toNat = (q + 1074).toNat by omega]
      omega
    rw [ei, e, hs, em]
    generalize hE : (q + 1074).toNat + 1 = E
    have hE1 : 1 ≤ E ∧ E ≤ 2000 := by omega
    rw [u64_toNat (by omega)]
    have eE : FP.Core.fieldE FP.Core.b64 (E * 2 ^ 52 + (c - 2 ^ 52)) = E := by
      unfold FP.Core.fieldE
      rw [e3, e4]
      omega
    unfold FP.Core.decode
    rw [eE, e4, if_neg (by omega), if_neg (by omega)]
    exact ⟨_, _, _, rfl, fun _ => by rw [e3]; omega⟩
theorem shr_ok {a s : Nat} (ha : a < 2 ^ 31) (hs : s < 2 ^ 31) (h0 : s ≠ 0) : isNaN64 (FP.ddiv (FP.i2d (nI a)) (FP.i2d (nI s))) = false := by
  obtain ⟨s1, c1, q1, d1, -⟩ := i2d_dec ha
  obtain ⟨s2, c2, q2, d2, n2⟩ := i2d_dec hs
  exact div_ok d1 d2 (n2 h0)
