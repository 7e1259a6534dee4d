/-! ===== THE INVARIANT of a state; turns keep it ===== -/
theorem toInt_p1 {x : Int32} (h1 : 0 ≤ x.toInt) (h2 : x.toInt < 2147483647) : (x + 1).toInt = x.toInt + 1 := by
  rw [Int32.toInt_add, show (1 : Int32).toInt = 1 by decide]
  exact Int.bmod_eq_of_le (by omega) (by omega)
theorem toInt_m1 {x : Int32} (h1 : 0 < x.toInt) : (x - 1).toInt = x.toInt - 1 := by
  have := x.toInt_lt
  rw [Int32.toInt_sub, show (1 : Int32).toInt = 1 by decide]
  exact Int.bmod_eq_of_le (by omega) (by omega)
theorem le0 {x : Int32} : x ≤ 0 ↔ x.toInt ≤ 0 := by
  rw [Int32.le_iff_toInt_le, show (0 : Int32).toInt = 0 by decide]
def InvV (V : sV) (cq : Nat → Nat) (B : Nat) : Prop :=
  (∀ t, t < 6 → tnV V t (cq t)) ∧ (∀ t, t < 6 → 0 ≤ (V 6 t).toInt ∧ (V 6 t).toInt ≤ 3) ∧ (∀ t, t < 6 → 0 ≤ (V 7 t).toInt ∧ (V 7 t).toInt ≤ B) ∧ (∀ t b, t < 6 → b < 5 → 0 ≤ (V 10 (t * 5 + b)).toInt ∧ (V 10 (t * 5 + b)).toInt ≤ 6) ∧
  (∀ t b, t < 6 → cq t ≤ b → b < 5 → V 9 (t * 5 + b) = 0 ∧ V 10 (t * 5 + b) = 0 ∧ V 11 (t * 5 + b) = 0) ∧ 1 ≤ (V 12 1).toInt ∧ (V 12 1).toInt ≤ 3
theorem InvV.mono {V : sV} {cq : Nat → Nat} {B B' : Nat} (h : InvV V cq B) (hB : B ≤ B') : InvV V cq B' :=
  ⟨h.1, h.2.1, fun t ht => ⟨(h.2.2.1 t ht).1, by have := (h.2.2.1 t ht).2; omega⟩, h.2.2.2⟩
theorem tp_at {V : sV} {B : Nat} (u : Nat → Int32) (h : ∀ t, t < 6 → 0 ≤ (V 7 t).toInt ∧ (V 7 t).toInt ≤ B) (hB : B + 6 < 2147483647) : ∀ n, n ≤ 6 → ∀ t, t < 6 → 0 ≤ (tpV V u n 7 t).toInt ∧ (tpV V u n 7 t).toInt ≤ B + n
  | 0, _, t, ht => ⟨(h t ht).1, by have := (h t ht).2; show (V 7 t).toInt ≤ _; omega⟩
  | n + 1, hn, t, ht => by
    have ih := tp_at u h hB n (by omega)
    rw [tpV]
    split
    · have := ih t ht; exact ⟨this.1, by omega⟩
    · rename_i hne
      obtain ⟨w, hw, e⟩ := (bsM_rng (tpV V u n) u n 6 (Nat.le_refl _)).resolve_left hne
      rw [e, nI_clamp (by omega), up2_if]
      split
      · have := ih w hw
        rw [toInt_p1 this.1 (by omega)]
        exact ⟨by omega, by omega⟩
      · have := ih t ht; exact ⟨this.1, by omega⟩
theorem inv_tt {V : sV} {cq : Nat → Nat} {B : Nat} (h : InvV V cq B) : InvV (ttV V cq 6) cq B := by
  obtain ⟨h1, h2, h3, h4, h5, h6⟩ := h
  have at' := fun k j => tt_at h1 k j 6 (Nat.le_refl _)
  refine ⟨fun t ht => ?_, fun t ht => ?_, fun t ht => ?_, fun t b ht hb => ?_, fun t b ht hc hb => ⟨?_, ?_, ?_⟩, ?_⟩
  · obtain ⟨a1, a2, p, a3, a4⟩ := h1 t ht
    refine ⟨?_, a2, p, ?_, a4⟩
    · rw [at', if_neg (by omega), if_neg (by omega), if_neg (by omega)]; exact a1
    · rw [at', if_neg (by omega), if_neg (by omega), if_neg (by omega)]; exact a3
  · rw [at', if_pos ⟨rfl, ht⟩]
    have := h2 t ht
    by_cases e : V 6 t ≤ 0
    · rw [if_pos e, show (0 : Int32).toInt = 0 by decide]; exact ⟨Int.le_refl _, by decide⟩
    · rw [if_neg e]
      have hp : 0 < (V 6 t).toInt := Int.not_le.mp (fun q => e (le0.mpr q))
      rw [toInt_m1 hp]
      exact ⟨by omega, by omega⟩
  · rw [at', if_neg (by omega), if_neg (by omega), if_neg (by omega)]; exact h3 t ht
  · rw [at', if_neg (by omega), if_neg (by omega)]
    by_cases e : ((10 : Nat) = 10 ∨ (10 : Nat) = 11) ∧ t * 5 + b < 6 * 5 ∧ rgC V ((t * 5 + b) / 5) ((t * 5 + b) % 5)
    · rw [if_pos e]
      have hr := e.2.2.2.2.1
      rw [show (t * 5 + b) / 5 = t by omega, show (t * 5 + b) % 5 = b by omega] at hr
      have h7 := Int32.lt_iff_toInt_lt.mp hr
      rw [show (6 : Int32).toInt = 6 by decide] at h7
      have h8 := h4 t b ht hb
      rw [toInt_p1 h8.1 (by omega)]
      exact ⟨by omega, by omega⟩
    · rw [if_neg e]; exact h4 t b ht hb
  · rw [at', if_neg (by omega), if_neg (by omega), if_neg (by omega)]; exact (h5 t b ht hc hb).1
  · rw [at', if_neg (by omega), if_neg (by omega), if_neg (fun q => by
      have hr := q.2.2.2.1
      rw [show (t * 5 + b) / 5 = t by omega, show (t * 5 + b) % 5 = b by omega] at hr
      exact want_hi (h1 t ht) hc hb hr)]
    exact (h5 t b ht hc hb).2.1
  · rw [at', if_neg (by omega), if_neg (by omega), if_neg (fun q => by
      have hr := q.2.2.2.1
      rw [show (t * 5 + b) / 5 = t by omega, show (t * 5 + b) % 5 = b by omega] at hr
      exact want_hi (h1 t ht) hc hb hr)]
    exact (h5 t b ht hc hb).2.2
  · rw [at', if_neg (by omega), if_neg (by omega), if_neg (by omega)]; exact h6
theorem inv_tp {V : sV} {cq : Nat → Nat} {B : Nat} (u : Nat → Int32) (h : InvV V cq B) (hB : B + 6 < 2147483647) : InvV (tpV V u 6) cq (B + 6) := by
  obtain ⟨h1, h2, h3, h4, h5, h6⟩ := h
  have h7 : ∀ k j, k ≠ 7 → tpV V u 6 k j = V k j := fun k j hk => tpV_k V u hk j 6
  refine ⟨fun t ht => ?_, fun t ht => ?_, fun t ht => tp_at u h3 hB 6 (Nat.le_refl _) t ht, fun t b ht hb => ?_, fun t b ht hc hb => ?_, ?_⟩
  · obtain ⟨a1, a2, p, a3, a4⟩ := h1 t ht
    exact ⟨(h7 3 t (by decide)).trans a1, a2, p, (h7 4 t (by decide)).trans a3, a4⟩
  · rw [h7 6 t (by decide)]; exact h2 t ht
  · rw [h7 10 _ (by decide)]; exact h4 t b ht hb
  · rw [h7 9 _ (by decide), h7 10 _ (by decide), h7 11 _ (by decide)]; exact h5 t b ht hc hb
  · rw [h7 12 _ (by decide)]; exact h6
/-- rows that the invariant doesn't speak of -/
theorem InvV.put {V : sV} {cq : Nat → Nat} {B k j : Nat} {x : Int32} (h : InvV V cq B) (hk : k = 0 ∨ k = 1 ∨ k = 2 ∨ k = 5 ∨ k = 8 ∨ (k = 12 ∧ j ≠ 1)) : InvV (up2 V k j x) cq B := by
  obtain ⟨h1, h2, h3, h4, h5, h6⟩ := h
  refine ⟨fun t ht => ?_, fun t ht => ?_, fun t ht => ?_, fun t b ht hb => ?_, fun t b ht hc hb => ?_, ?_⟩
  · obtain ⟨a1, a2, p, a3, a4⟩ := h1 t ht
    exact ⟨(up2_ne (by omega)).trans a1, a2, p, (up2_ne (by omega)).trans a3, a4⟩
  · rw [up2_ne (by omega)]; exact h2 t ht
  · rw [up2_ne (by omega)]; exact h3 t ht
  · rw [up2_ne (by omega)]; exact h4 t b ht hb
  · rw [up2_ne (by omega), up2_ne (by omega), up2_ne (by omega)]; exact h5 t b ht hc hb
  · rw [up2_ne (by omega)]; exact h6
theorem InvV.put6 {V : sV} {cq : Nat → Nat} {B j : Nat} {x : Int32} (h : InvV V cq B) (hx : 0 ≤ x.toInt ∧ x.toInt ≤ 3) : InvV (up2 V 6 j x) cq B := by
  obtain ⟨h1, h2, h3, h4, h5, h6⟩ := h
  refine ⟨fun t ht => ?_, fun t ht => ?_, fun t ht => ?_, fun t b ht hb => ?_, fun t b ht hc hb => ?_, ?_⟩
  · obtain ⟨a1, a2, p, a3, a4⟩ := h1 t ht
    exact ⟨(up2_ne (by omega)).trans a1, a2, p, (up2_ne (by omega)).trans a3, a4⟩
  · rw [up2_if]
    split
    · exact hx
    · exact h2 t ht
  · rw [up2_ne (by omega)]; exact h3 t ht
  · rw [up2_ne (by omega)]; exact h4 t b ht hb
  · rw [up2_ne (by omega), up2_ne (by omega), up2_ne (by omega)]; exact h5 t b ht hc hb
  · rw [up2_ne (by omega)]; exact h6
theorem inv_tu {V : sV} {cq : Nat → Nat} {B : Nat} (u : Nat → Int32) (h : InvV V cq B) (hB : B + 6 < 2147483647) : InvV (tuV V cq u) cq (B + 6) := by
  have hm := inv_tt (inv_tp u h hB)
  unfold tuV luV
  dsimp only
  split
  · exact ((hm.put (by omega)).put (by omega)).put (by omega)
  · exact (((hm.put6 ⟨by have := hm.2.2.2.2.2.1; omega, hm.2.2.2.2.2.2⟩).put (by omega)).put (by omega)).put (by omega)
theorem inv_mt {V X : sV} {cq : Nat → Nat} {B : Nat} (h : InvV V cq B) (hB : B + 6 * 50 < 2147483647) : ∀ i, i ≤ 50 → InvV (mtM V X cq i).1 cq (B + 6 * i)
  | 0, _ => h
  | i + 1, hi => inv_tu (B := B + 6 * i) _ (inv_mt h hB i (by omega)) (show B + 6 * i + 6 < 2147483647 by omega)
theorem turns_eq' {V X : sV} {cq : Nat → Nat} {B : Nat} (N : sV) (h : InvV V cq B) (hB : B + 6 * 50 < 2147483647) : ∀ i, i ≤ 50 → (mtV V N i).1 = (mtM V X cq i).1
  | 0, _ => rfl
  | i + 1, hi => by
    have ih := turns_eq' (X := X) N h hB i (by omega)
    have hI := inv_mt (X := X) h hB i (by omega)
    have h1 : (mtV V N (i + 1)).1 = pasV (mtV V N i).1 (forN (mtV V N i).1 (mtV V N i).2) := rfl
    have h2 : (mtM V X cq (i + 1)).1 = tuV (mtM V X cq i).1 cq (liX (mtM V X cq i).1 cq (mtM V X cq i).2 6 4) := rfl
    rw [h1, h2, ih]
    exact turn_eq hI.1 (fun t ht => (hI.2.1 t ht).1) _ (fun t ht => by rw [liX_at, if_pos ht])
