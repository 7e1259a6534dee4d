/-! ===== the class's state and the reference's, side by side ===== -/
def hsR (HV : Nat → sV) (o n : Nat) (X : sV) (B : Nat) : Prop := ∀ i, i < n → (∃ cq, InvV (HV ((o + i) % 5)) cq B) ∧ ∀ p, p < 149 → X 1 (149 * i + p) = rowOf (HV ((o + i) % 5)) p
def Rel (z : Int32) (V SV : sV) (o n : Nat) (HV : Nat → sV) (T : Nat → Nat) (k : Nat) (X : sV) (B : Nat) : Prop :=
  (∃ cq, InvV V cq B) ∧ o < 5 ∧ n ≤ 5 ∧ k ≤ 60 ∧ (∀ i, T i < 127) ∧ X 9 0 = nI n ∧ hsR HV o n X B ∧ ((z = 0 ∧ X 9 1 = 0) ∨ (z = 1 ∧ X 9 1 = 1 ∧ (∃ cq, InvV SV cq B) ∧ ∀ p, p < 149 → X 2 p = rowOf SV p)) ∧ txP X T k
theorem hsR.mono {HV : Nat → sV} {o n B B' : Nat} {X : sV} (h : hsR HV o n X B) (hB : B ≤ B') : hsR HV o n X B' := fun i hi => ⟨(h i hi).1.elim (fun cq q => ⟨cq, q.mono hB⟩), (h i hi).2⟩
theorem Rel.mono {z : Int32} {V SV : sV} {o n : Nat} {HV : Nat → sV} {T : Nat → Nat} {k : Nat} {X : sV} {B B' : Nat} (h : Rel z V SV o n HV T k X B) (hB : B ≤ B') : Rel z V SV o n HV T k X B' := by
  obtain ⟨⟨cq, a1⟩, a2, a3, a4, a5, a6, a7, a8, a9⟩ := h
  exact ⟨⟨cq, a1.mono hB⟩, a2, a3, a4, a5, a6, a7.mono hB, a8.imp id (fun q => ⟨q.1, q.2.1, q.2.2.1.elim (fun c r => ⟨c, r.mono hB⟩), q.2.2.2⟩), a9⟩
/-- the reference's other rows: only some matter -/
theorem Rel.X {z : Int32} {V SV : sV} {o n : Nat} {HV : Nat → sV} {T : Nat → Nat} {k : Nat} {X X' : sV} {B : Nat} (h : Rel z V SV o n HV T k X B) (h1 : X' 1 = X 1) (h2 : X' 2 = X 2) (h5 : X' 5 = X 5) (h9 : ∀ j, j < 3 → X' 9 j = X 9 j) : Rel z V SV o n HV T k X' B := by
  obtain ⟨a1, a2, a3, a4, a5, a6, a7, a8, a9⟩ := h
  refine ⟨a1, a2, a3, a4, a5, (h9 0 (by omega)).trans a6, fun i hi => ⟨(a7 i hi).1, fun p hp => by rw [h1]; exact (a7 i hi).2 p hp⟩, ?_, (h9 2 (by omega)).trans a9.1, fun i hi => by rw [h5]; exact a9.2 i hi⟩
  rcases a8 with q | q
  · exact Or.inl ⟨q.1, (h9 1 (by omega)).trans q.2⟩
  · exact Or.inr ⟨q.1, (h9 1 (by omega)).trans q.2.1, q.2.2.1, fun p hp => by rw [h2]; exact q.2.2.2 p hp⟩
/-- another state of the towns, nothing recorded -/
theorem Rel.V {z : Int32} {V V' SV : sV} {o n : Nat} {HV : Nat → sV} {T : Nat → Nat} {k : Nat} {X : sV} {B : Nat} {cq : Nat → Nat} (h : Rel z V SV o n HV T k X B) (hV : InvV V' cq B) : Rel z V' SV o n HV T k X B := ⟨⟨cq, hV⟩, h.2⟩
theorem ring_ne {o i n : Nat} (ho : o < 5) (hi : i < n) (hn : n < 5) : (o + i) % 5 ≠ (o + n) % 5 := by omega
/-- behind a record -/
theorem Rel.rec {z : Int32} {V V' SV : sV} {o n : Nat} {HV : Nat → sV} {T : Nat → Nat} {k : Nat} {X X' : sV} {B B' : Nat} {cq : Nat → Nat} (h : Rel z V SV o n HV T k X B) (hr : recP V X X' n) (hV : InvV V' cq B') (hB : B ≤ B') : Rel z V' SV (recO o n) (recS n) (recH o n HV V) T k X' B' := by
  obtain ⟨a1, a2, a3, a4, a5, a6, a7, a8, a9⟩ := h.mono hB
  obtain ⟨r1, r2, r3, r4⟩ := hr
  refine ⟨⟨cq, hV⟩, ?_, ?_, a4, a5, r3, fun i hi => ?_, ?_, (r2 2 (by omega)).trans a9.1, fun i hi => by rw [r1 5 (by omega) (by omega)]; exact a9.2 i hi⟩
  · unfold recO; split <;> omega
  · unfold recS; split <;> omega
  · by_cases h5 : n < 5
    · have eO : recO o n = o := if_pos h5
      have eS : recS n = n + 1 := if_pos h5
      rw [eS] at hi r4
      rw [eO]
      by_cases e : i = n
      · subst e
        have eH : recH o i HV V ((o + i) % 5) = V := if_pos rfl
        rw [eH]
        exact ⟨a1, fun p hp => by rw [r4 _ (by omega), if_neg (by omega), show 149 * i + p - 149 * (i + 1 - 1) = p by omega]⟩
      · have eH : recH o n HV V ((o + i) % 5) = HV ((o + i) % 5) := if_neg (ring_ne a2 (by omega) h5)
        rw [eH]
        refine ⟨(a7 i (by omega)).1, fun p hp => ?_⟩
        rw [r4 _ (by omega), if_pos (by omega), if_neg (by omega)]
        exact (a7 i (by omega)).2 p hp
    · have e5 : n = 5 := by omega
      subst e5
      have eO : recO o 5 = (o + 1) % 5 := rfl
      have eS : recS 5 = 5 := rfl
      rw [eS] at hi r4
      rw [eO]
      by_cases e : i = 4
      · subst e
        have eH : recH o 5 HV V (((o + 1) % 5 + 4) % 5) = V := if_pos (by omega)
        rw [eH]
        exact ⟨a1, fun p hp => by rw [r4 _ (by omega), if_neg (by omega), show 149 * 4 + p - 149 * (5 - 1) = p by omega]⟩
      · have eH : recH o 5 HV V (((o + 1) % 5 + i) % 5) = HV ((o + (i + 1)) % 5) := by
          have e2 : ((o + 1) % 5 + i) % 5 = (o + (i + 1)) % 5 := by omega
          rw [e2]
          exact if_neg (by omega)
        rw [eH]
        refine ⟨(a7 (i + 1) (by omega)).1, fun p hp => ?_⟩
        rw [r4 _ (by omega), if_pos (by omega), if_pos rfl, show 149 * i + p + 149 = 149 * (i + 1) + p by omega]
        exact (a7 (i + 1) (by omega)).2 p hp
  · rcases a8 with q | q
    · exact Or.inl ⟨q.1, (r2 1 (by omega)).trans q.2⟩
    · exact Or.inr ⟨q.1, (r2 1 (by omega)).trans q.2.1, q.2.2.1, fun p hp => by rw [r1 2 (by omega) (by omega)]; exact q.2.2.2 p hp⟩
/-- one state taken back -/
theorem Rel.undo {z : Int32} {V SV : sV} {o n : Nat} {HV : Nat → sV} {T : Nat → Nat} {k : Nat} {X : sV} {B : Nat} (h : Rel z V SV o n HV T k X B) (h0 : 0 < n) : Rel z (HV ((o + (n - 1)) % 5)) SV o (n - 1) HV T k (up2 X 9 0 (nI (n - 1))) B := by
  obtain ⟨a1, a2, a3, a4, a5, a6, a7, a8, a9⟩ := h
  refine ⟨(a7 (n - 1) (by omega)).1, a2, by omega, a4, a5, up2_eq _ _ _ _, fun i hi => ⟨(a7 i (by omega)).1, fun p hp => by rw [up2_ne (by omega)]; exact (a7 i (by omega)).2 p hp⟩, ?_, a9.up (by decide) (fun _ => by decide)⟩
  rcases a8 with q | q
  · exact Or.inl ⟨q.1, (up2_ne (by omega)).trans q.2⟩
  · exact Or.inr ⟨q.1, (up2_ne (by omega)).trans q.2.1, q.2.2.1, fun p hp => by rw [up2_ne (by omega)]; exact q.2.2.2 p hp⟩
/-- a state saved -/
theorem Rel.save {z : Int32} {V SV : sV} {o n : Nat} {HV : Nat → sV} {T : Nat → Nat} {k : Nat} {X X' : sV} {B : Nat} (h : Rel z V SV o n HV T k X B) (h1 : ∀ k9, k9 ≠ 2 → k9 ≠ 9 → X' k9 = X k9) (h9 : ∀ j9, j9 ≠ 1 → X' 9 j9 = X 9 j9) (h91 : X' 9 1 = 1) (h2 : ∀ p9, p9 < 149 → X' 2 p9 = rowOf V p9) : Rel 1 V V o n HV T k X' B := by
  obtain ⟨a1, a2, a3, a4, a5, a6, a7, a8, a9⟩ := h
  exact ⟨a1, a2, a3, a4, a5, (h9 0 (by omega)).trans a6, fun i hi => ⟨(a7 i hi).1, fun p hp => by rw [h1 1 (by omega) (by omega)]; exact (a7 i hi).2 p hp⟩, Or.inr ⟨rfl, h91, a1, h2⟩, (h9 2 (by omega)).trans a9.1, fun i hi => by rw [h1 5 (by omega) (by omega)]; exact a9.2 i hi⟩
/-- a sign more; no sign -/
theorem Rel.app {z : Int32} {V SV : sV} {o n : Nat} {HV : Nat → sV} {T : Nat → Nat} {k c : Nat} {X : sV} {B : Nat} (h : Rel z V SV o n HV T k X B) (hk : k < 60) (hc : c < 127) : Rel z V SV o n HV (upT T k c) (k + 1) (up2 (up2 X 5 k (nI c)) 9 2 (nI (k + 1))) B := by
  obtain ⟨a1, a2, a3, a4, a5, a6, a7, a8, a9⟩ := h
  refine ⟨a1, a2, a3, by omega, fun i => ?_, ?_, fun i hi => ⟨(a7 i hi).1, fun p hp => ?_⟩, ?_, up2_eq _ _ _ _, fun i hi => ?_⟩
  · unfold upT; split
    · exact hc
    · exact a5 i
  · rw [up2_ne (by omega), up2_ne (by omega)]; exact a6
  · rw [up2_ne (by omega), up2_ne (by omega)]; exact (a7 i hi).2 p hp
  · rcases a8 with q | q
    · exact Or.inl ⟨q.1, by rw [up2_ne (by omega), up2_ne (by omega)]; exact q.2⟩
    · exact Or.inr ⟨q.1, by rw [up2_ne (by omega), up2_ne (by omega)]; exact q.2.1, q.2.2.1, fun p hp => by rw [up2_ne (by omega), up2_ne (by omega)]; exact q.2.2.2 p hp⟩
  · rw [up2_ne (by omega), up2_if]
    unfold upT
    by_cases e : i = k
    · rw [if_pos ⟨rfl, e⟩, if_pos e]
    · rw [if_neg (fun q => e q.2), if_neg e]; exact a9.2 i (by omega)
theorem Rel.clr {z : Int32} {V SV : sV} {o n : Nat} {HV : Nat → sV} {T : Nat → Nat} {k : Nat} {X : sV} {B : Nat} (h : Rel z V SV o n HV T k X B) : Rel z V SV o n HV T 0 (up2 X 9 2 0) B := by
  obtain ⟨a1, a2, a3, a4, a5, a6, a7, a8, a9⟩ := h
  refine ⟨a1, a2, a3, by omega, a5, by rw [up2_ne (by omega)]; exact a6, fun i hi => ⟨(a7 i hi).1, fun p hp => by rw [up2_ne (by omega)]; exact (a7 i hi).2 p hp⟩, ?_, up2_eq _ _ _ _, fun i hi => absurd hi (Nat.not_lt_zero _)⟩
  rcases a8 with q | q
  · exact Or.inl ⟨q.1, (up2_ne (by omega)).trans q.2⟩
  · exact Or.inr ⟨q.1, (up2_ne (by omega)).trans q.2.1, q.2.2.1, fun p hp => by rw [up2_ne (by omega)]; exact q.2.2.2 p hp⟩
/-- both are new -/
theorem Rel.new (SV : sV) (HV : Nat → sV) : Rel 0 (v0 6) SV 0 0 HV (fun _ => 0) 0 zV 0 :=
  ⟨⟨_, inv_v0⟩, by omega, by omega, by omega, fun _ => (show 0 < 127 by decide), rfl, fun i hi => absurd hi (Nat.not_lt_zero _), Or.inl ⟨rfl, rfl⟩, rfl, fun i hi => absurd hi (Nat.not_lt_zero _)⟩
/-- towns and bells that are named by any numbers -/
theorem isT_cl {x : Int32} (h : isT x) : x = nI x.toNatClampNeg ∧ x.toNatClampNeg < 6 := by
  obtain ⟨t, ht, rfl⟩ := isT_nat h
  rw [nI_clamp (by omega)]
  exact ⟨rfl, ht⟩
theorem hasB_cl {V : sV} {cq : Nat → Nat} (hT : ∀ t, t < 6 → tnV V t (cq t)) {x y : Int32} (h : hasB V x y) : x = nI x.toNatClampNeg ∧ x.toNatClampNeg < 6 ∧ y = nI y.toNatClampNeg ∧ y.toNatClampNeg < cq x.toNatClampNeg := by
  obtain ⟨h1, h2, h3⟩ := h
  obtain ⟨e1, e2⟩ := isT_cl h1
  obtain ⟨a1, a2, -⟩ := hT _ e2
  rw [a1, Int32.le_iff_toInt_le, nI_toInt (by omega)] at h3
  rw [Int32.lt_iff_toInt_lt, show (0 : Int32).toInt = 0 by decide] at h2
  have ey : y.toNatClampNeg = y.toInt.toNat := rfl
  refine ⟨e1, e2, ?_, by rw [ey]; omega⟩
  apply Int32.toInt_inj.mp
  rw [ey, nI_toInt (by omega)]
  omega
theorem in_cl {x : Int32} {m : Nat} (h0 : ¬ x.toInt < 0) (h1 : ¬ (m : Int) < x.toInt) (hm : m < 1000) : x = nI x.toNatClampNeg ∧ x.toNatClampNeg ≤ m := by
  have ey : x.toNatClampNeg = x.toInt.toNat := rfl
  refine ⟨?_, by rw [ey]; omega⟩
  apply Int32.toInt_inj.mp
  rw [ey, nI_toInt (by omega)]
  omega
theorem sum_nn {V : sV} {B : Nat} (h : ∀ t, t < 6 → 0 ≤ (V 7 t).toInt ∧ (V 7 t).toInt ≤ B) (hB : 6 * B < 2147483647) : ∀ n, n ≤ 6 → 0 ≤ (sumF (V 7) n).toInt ∧ (sumF (V 7) n).toInt ≤ n * B
  | 0, _ => by show 0 ≤ (0 : Int32).toInt ∧ (0 : Int32).toInt ≤ _; rw [show (0 : Int32).toInt = 0 by decide]; exact ⟨Int.le_refl _, by omega⟩
  | n + 1, hn => by
    have ih := sum_nn h hB n (by omega)
    have h1 := h n (by omega)
    have hb : n * B ≤ 5 * B := Nat.mul_le_mul_right B (by omega)
    have e : (n + 1) * B = n * B + B := by rw [Nat.add_mul, Nat.one_mul]
    have e1 : (sumF (V 7) n + V 7 n).toInt = (sumF (V 7) n).toInt + (V 7 n).toInt := by
      rw [Int32.toInt_add]
      have c1 : ((n * B : Nat) : Int) = (n : Int) * (B : Int) := Int.natCast_mul n B
      exact Int.bmod_eq_of_le (by omega) (by omega)
    show 0 ≤ (sumF (V 7) n + V 7 n).toInt ∧ (sumF (V 7) n + V 7 n).toInt ≤ ((n + 1 : Nat) : Int) * (B : Int)
    rw [e1]
    have c1 : ((n * B : Nat) : Int) = (n : Int) * (B : Int) := Int.natCast_mul n B
    have c2 : (((n + 1) * B : Nat) : Int) = ((n + 1 : Nat) : Int) * (B : Int) := Int.natCast_mul (n + 1) B
    omega
