/-! ===== what changes a state keeps the invariant ===== -/
abbrev cqP (cq : Nat → Nat) (t c : Nat) : Nat → Nat := fun s => if s = t then c else cq s
theorem five_ne {t b s c : Nat} (hb : b < 5) (hc : c < 5) (h : ¬ (t = s ∧ b = c)) : t * 5 + b ≠ s * 5 + c := by omega
theorem inv_add {V : sV} {cq : Nat → Nat} {B t c : Nat} {w : Int32} (h : InvV V cq B) (ht : t < 6) (hc : cq t = c) (hc5 : c < 5) : InvV (addV V t c w) (cqP cq t (c + 1)) B := by
  obtain ⟨h1, h2, h3, h4, h5, h6⟩ := h
  have at' : ∀ k j, addV V t c w k j = if k = 3 ∧ j = t then nI (c + 1) else if k = 11 ∧ j = t * 5 + c then 0 else if k = 10 ∧ j = t * 5 + c then 0 else if k = 9 ∧ j = t * 5 + c then w else V k j := fun k j => by
    show up2 (up2 (up2 (up2 V 9 (t * 5 + c) w) 10 (t * 5 + c) 0) 11 (t * 5 + c) 0) 3 t (nI (c + 1)) k j = _
    rw [up2_if, up2_if, up2_if, up2_if]
  have z0 : (0 : Int32).toInt = 0 := by decide
  refine ⟨fun s hs => ?_, fun s hs => ?_, fun s hs => ?_, fun s b hs hb => ?_, fun s b hs hcb hb => ?_, ?_⟩
  · obtain ⟨a1, a2, p, a3, a4⟩ := h1 s hs
    have e4 : addV V t c w 4 s = V 4 s := by rw [at', if_neg (by omega), if_neg (by omega), if_neg (by omega), if_neg (by omega)]
    by_cases e : s = t
    · subst e
      have hcs : cqP cq s (c + 1) s = c + 1 := if_pos rfl
      rw [hcs]
      refine ⟨by rw [at', if_pos ⟨rfl, rfl⟩], by omega, p, by rw [e4]; exact a3, ?_⟩
      rw [hc] at a4
      have : 2 ^ (c + 1) = 2 * 2 ^ c := by rw [Nat.pow_succ]; omega
      omega
    · have hcs : cqP cq t (c + 1) s = cq s := if_neg e
      rw [hcs]
      exact ⟨by rw [at', if_neg (by omega), if_neg (by omega), if_neg (by omega), if_neg (by omega)]; exact a1, a2, p, by rw [e4]; exact a3, a4⟩
  · rw [at', if_neg (by omega), if_neg (by omega), if_neg (by omega), if_neg (by omega)]; exact h2 s hs
  · rw [at', if_neg (by omega), if_neg (by omega), if_neg (by omega), if_neg (by omega)]; exact h3 s hs
  · rw [at', if_neg (by omega), if_neg (by omega)]
    split
    · rw [z0]; exact ⟨Int.le_refl _, by decide⟩
    · rw [if_neg (by omega)]; exact h4 s b hs hb
  · have hne : ¬ (s = t ∧ b = c) := by
      rintro ⟨rfl, rfl⟩
      have : cqP cq s (b + 1) s = b + 1 := if_pos rfl
      omega
    have hj := five_ne hb hc5 hne
    have hle : cq s ≤ b := by
      by_cases e : s = t
      · subst e
        have : cqP cq s (c + 1) s = c + 1 := if_pos rfl
        omega
      · have : cqP cq t (c + 1) s = cq s := if_neg e
        omega
    rw [at', at', at', if_neg (by omega), if_neg (by omega), if_neg (by omega), if_neg (fun q => hj q.2), if_neg (by omega), if_neg (by omega), if_neg (fun q => hj q.2), if_neg (by omega), if_neg (by omega), if_neg (fun q => hj q.2), if_neg (by omega), if_neg (by omega)]
    exact h5 s b hs hle hb
  · rw [at', if_neg (by omega), if_neg (by omega), if_neg (by omega), if_neg (by omega)]; exact h6
theorem inv_rem {V : sV} {cq : Nat → Nat} {B t b c : Nat} (h : InvV V cq B) (ht : t < 6) (hc : cq t = c) (hb : b < c) : InvV (remV V t b c) (cqP cq t (c - 1)) B := by
  obtain ⟨h1, h2, h3, h4, h5, h6⟩ := h
  obtain ⟨-, hc5, p0, hp, hp2⟩ := h1 t ht
  rw [hc] at hc5 hp2
  have at' := fun k j => rem_at hb hc5 hp hp2 k j
  have z0 : (0 : Int32).toInt = 0 := by decide
  refine ⟨fun s hs => ?_, fun s hs => ?_, fun s hs => ?_, fun s b' hs hb' => ?_, fun s b' hs hcb hb' => ?_, ?_⟩
  · obtain ⟨a1, a2, p, a3, a4⟩ := h1 s hs
    by_cases e : s = t
    · subst e
      have hcs : cqP cq s (c - 1) s = c - 1 := if_pos rfl
      rw [hcs]
      exact ⟨by rw [at', if_neg (by omega), if_pos ⟨rfl, rfl⟩], by omega, p0 % 2 ^ b + p0 / 2 ^ (b + 1) * 2 ^ b, by rw [at', if_pos ⟨rfl, rfl⟩], plan_b c (by omega) p0 hp2 b hb⟩
    · have hcs : cqP cq t (c - 1) s = cq s := if_neg e
      rw [hcs]
      exact ⟨by rw [at', if_neg (by omega), if_neg (by omega), if_neg (by omega), if_neg (by omega)]; exact a1, a2, p, by rw [at', if_neg (by omega), if_neg (by omega), if_neg (by omega), if_neg (by omega)]; exact a3, a4⟩
  · rw [at', if_neg (by omega), if_neg (by omega), if_neg (by omega), if_neg (by omega)]; exact h2 s hs
  · rw [at', if_neg (by omega), if_neg (by omega), if_neg (by omega), if_neg (by omega)]; exact h3 s hs
  · rw [at', if_neg (by omega), if_neg (by omega)]
    split
    · rw [z0]; exact ⟨Int.le_refl _, by decide⟩
    · split
      · rename_i q1 q2
        have e : s = t := by omega
        subst e
        have := h4 s (b' + 1) hs (by omega)
        rwa [show s * 5 + (b' + 1) = s * 5 + b' + 1 by omega] at this
      · exact h4 s b' hs hb'
  · have zero : ∀ k, slK k → V k (s * 5 + b') = 0 ∨ (s = t ∧ b' = c - 1) → remV V t b c k (s * 5 + b') = 0 := by
      intro k hk hz
      rw [at', if_neg (by omega), if_neg (by omega)]
      split
      · rfl
      · rename_i q1
        rcases hz with hz | hz
        · split
          · rename_i q2
            exfalso
            have e : s = t := by omega
            subst e
            have : cqP cq s (c - 1) s = c - 1 := if_pos rfl
            omega
          · exact hz
        · exact absurd ⟨hk, by rw [hz.1, hz.2]⟩ q1
    by_cases e : s = t ∧ b' = c - 1
    · exact ⟨zero 9 (Or.inl rfl) (Or.inr e), zero 10 (Or.inr (Or.inl rfl)) (Or.inr e), zero 11 (Or.inr (Or.inr rfl)) (Or.inr e)⟩
    · have hle : cq s ≤ b' := by
        by_cases e2 : s = t
        · subst e2
          have : cqP cq s (c - 1) s = c - 1 := if_pos rfl
          have : b' ≠ c - 1 := fun q => e ⟨rfl, q⟩
          omega
        · have : cqP cq t (c - 1) s = cq s := if_neg e2
          omega
      obtain ⟨z9, z10, z11⟩ := h5 s b' hs hle hb'
      exact ⟨zero 9 (Or.inl rfl) (Or.inl z9), zero 10 (Or.inr (Or.inl rfl)) (Or.inl z10), zero 11 (Or.inr (Or.inr rfl)) (Or.inl z11)⟩
  · rw [at', if_neg (by omega), if_neg (by omega), if_neg (by omega), if_neg (by omega)]; exact h6
theorem plan_nat {V : sV} {t c : Nat} {m : Int32} (h : tnV V t c) (hm : hasM V t m) : ∃ p, m = nI p ∧ p < 2 ^ c := by
  obtain ⟨h1, h2, -⟩ := h
  have e := hm.2
  rw [evB_nat h1 h2, Int32.lt_iff_toInt_lt, nI_toInt (by have : 2 ^ c ≤ 2 ^ 5 := Nat.pow_le_pow_right (by decide) h2; omega)] at e
  have e0 := hm.1
  rw [Int32.lt_iff_toInt_lt, show (0 : Int32).toInt = 0 by decide] at e0
  have hp : 0 < 2 ^ c := Nat.pos_of_ne_zero (by simp)
  have h32 : 2 ^ c ≤ 2 ^ 5 := Nat.pow_le_pow_right (by decide) h2
  refine ⟨m.toInt.toNat, ?_, by omega⟩
  apply Int32.toInt_inj.mp
  rw [nI_toInt (by omega)]
  omega
theorem inv_plan {V : sV} {cq : Nat → Nat} {B t : Nat} {m : Int32} (h : InvV V cq B) (ht : t < 6) (hm : hasM V t m) : InvV (up2 V 4 t m) cq B := by
  obtain ⟨p, rfl, hp⟩ := plan_nat (h.1 t ht) hm
  obtain ⟨h1, h2, h3, h4, h5, h6⟩ := h
  refine ⟨tn_plan h1 hp, fun s hs => ?_, fun s hs => ?_, fun s b hs hb => ?_, fun s b hs hc hb => ?_, ?_⟩
  · rw [up2_ne (by omega)]; exact h2 s hs
  · rw [up2_ne (by omega)]; exact h3 s hs
  · rw [up2_ne (by omega)]; exact h4 s b hs hb
  · rw [up2_ne (by omega), up2_ne (by omega), up2_ne (by omega)]; exact h5 s b hs hc hb
  · rw [up2_ne (by omega)]; exact h6
theorem InvV.put10 {V : sV} {cq : Nat → Nat} {B j : Nat} (h : InvV V cq B) : InvV (up2 V 10 j 0) cq B := by
  obtain ⟨h1, h2, h3, h4, h5, h6⟩ := h
  refine ⟨fun t ht => ?_, fun t ht => ?_, fun t ht => ?_, fun t b ht hb => ?_, fun t b ht hc hb => ?_, ?_⟩
  · obtain ⟨a1, a2, p, a3, a4⟩ := h1 t ht
    exact ⟨(up2_ne (by omega)).trans a1, a2, p, (up2_ne (by omega)).trans a3, a4⟩
  · rw [up2_ne (by omega)]; exact h2 t ht
  · rw [up2_ne (by omega)]; exact h3 t ht
  · rw [up2_if]
    split
    · rw [show (0 : Int32).toInt = 0 by decide]; exact ⟨Int.le_refl _, by decide⟩
    · exact h4 t b ht hb
  · rw [up2_ne (show ¬ ((9 : Nat) = 10 ∧ t * 5 + b = j) by omega), up2_ne (show ¬ ((11 : Nat) = 10 ∧ t * 5 + b = j) by omega)]
    refine ⟨(h5 t b ht hc hb).1, ?_, (h5 t b ht hc hb).2.2⟩
    rw [up2_if]
    split
    · rfl
    · exact (h5 t b ht hc hb).2.1
  · rw [up2_ne (by omega)]; exact h6
theorem inv_spl {V : sV} {cq : Nat → Nat} {B t j : Nat} {x : Int32} (h : InvV V cq B) : InvV (up2 (up2 V 10 j 0) 2 t x) cq B := h.put10.put (by omega)
theorem inv_set1 {V : sV} {cq : Nat → Nat} {B : Nat} {x : Int32} (h : InvV V cq B) (hx : inI x 1 3) : InvV (up2 V 12 1 x) cq B := by
  obtain ⟨h1, h2, h3, h4, h5, h6⟩ := h
  have x1 := hx.1
  have x2 := hx.2
  rw [Int32.lt_iff_toInt_lt, show (1 : Int32).toInt = 1 by decide] at x1
  rw [Int32.lt_iff_toInt_lt, show (3 : Int32).toInt = 3 by decide] at x2
  refine ⟨fun t ht => ?_, fun t ht => ?_, fun t ht => ?_, fun t b ht hb => ?_, fun t b ht hc hb => ?_, ?_⟩
  · obtain ⟨a1, a2, p, a3, a4⟩ := h1 t ht
    exact ⟨(up2_ne (by omega)).trans a1, a2, p, (up2_ne (by omega)).trans a3, a4⟩
  · rw [up2_ne (by omega)]; exact h2 t ht
  · rw [up2_ne (by omega)]; exact h3 t ht
  · rw [up2_ne (by omega)]; exact h4 t b ht hb
  · rw [up2_ne (by omega), up2_ne (by omega), up2_ne (by omega)]; exact h5 t b ht hc hb
  · rw [up2_eq]; exact ⟨by omega, by omega⟩
/-- a new valley -/
theorem inv_v0 : InvV (v0 6) (fun _ => 0) 0 := by
  have e : ∀ k j, k ≠ 0 → k ≠ 1 → k ≠ 5 → k ≠ 12 → v0 6 k j = 0 := fun k j h0 h1 h5 h12 => by
    unfold v0
    rw [if_neg h12]
    by_cases hj : j < 6
    · rw [if_pos hj, if_neg h0, if_neg h1, if_neg h5]
    · rw [if_neg hj]
  have z0 : (0 : Int32).toInt = 0 := by decide
  refine ⟨fun t ht => ⟨e 3 t (by decide) (by decide) (by decide) (by decide), (show 0 ≤ 5 by decide), 0, e 4 t (by decide) (by decide) (by decide) (by decide), (show 0 < 2 ^ 0 by decide)⟩, fun t ht => ?_, fun t ht => ?_, fun t b ht hb => ?_, fun t b ht hc hb => ⟨e 9 _ (by decide) (by decide) (by decide) (by decide), e 10 _ (by decide) (by decide) (by decide) (by decide), e 11 _ (by decide) (by decide) (by decide) (by decide)⟩, ?_⟩
  · rw [e 6 t (by decide) (by decide) (by decide) (by decide), z0]; exact ⟨Int.le_refl _, by decide⟩
  · rw [e 7 t (by decide) (by decide) (by decide) (by decide), z0]; exact ⟨Int.le_refl _, Int.le_refl _⟩
  · rw [e 10 _ (by decide) (by decide) (by decide) (by decide), z0]; exact ⟨Int.le_refl _, by decide⟩
  · decide
