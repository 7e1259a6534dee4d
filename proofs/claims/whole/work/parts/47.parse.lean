/-! ===== the class's reader finds what the reference's finds ===== -/
theorem sg_in {T : Nat → Nat} {k i : Nat} (h : i < k) : sg T k i = T i := if_pos h
theorem ff_none {T : Nat → Nat} {k i d : Nat} (h : i < k) (hs : stp d (T i) = none) : ffN T k (k - i) i d = nI i := by
  rw [show k - i = (k - (i + 1)) + 1 by omega, ffN_none (by rw [sg_in h]; exact hs)]
theorem ff_some {T : Nat → Nat} {k i d d' : Nat} (h : i < k) (hs : stp d (T i) = some d') : ffN T k (k - i) i d = ffN T k (k - (i + 1)) (i + 1) d' := by
  rw [show k - i = (k - (i + 1)) + 1 by omega, ffN_some (by rw [sg_in h]; exact hs)]
theorem ff_end {T : Nat → Nat} {k d : Nat} : ffN T k (k - k) k d = if 5 ≤ d then -5 else nI k := by rw [Nat.sub_self, ffN]
/-- how the reading of the order goes on behind its end e, in a state d -/
def fin (T : Nat → Nat) (k e : Nat) (r : Int32) : Prop := (e = k → r = -5) ∧ (e < k → T e = 59 → r = ffN T k (k - (e + 1)) (e + 1) 0) ∧ (e < k → ¬ T e = 59 → r = nI e)
theorem stp_5 (j c : Nat) : stp (j + 5) c = ab j c := rfl
theorem bl_ff (T : Nat → Nat) (k : Nat) : ∀ (m sp l : Nat) (acc : Int32), sp ≤ k → k - sp = m → 48 ≤ l → l ≤ 53 → fin T k (bl2 T k m sp l acc).1 (ffN T k (k - sp) sp ((l - 48) + 5))
  | 0, sp, l, acc, h, hm, h1, h2 => by
    have e : sp = k := by omega
    subst e
    refine ⟨fun _ => by rw [ff_end, if_pos (by omega)], fun q => absurd q (Nat.lt_irrefl _), fun q => absurd q (Nat.lt_irrefl _)⟩
  | m + 1, sp, l, acc, h, hm, h1, h2 => by
    have hlt : sp < k := by omega
    rw [bl2]
    by_cases ht : tkP T k sp l 52
    · rw [if_pos ht]
      have hs : stp ((l - 48) + 5) (T sp) = some ((T sp + 1 - 48) + 5) := by
        have := ht.2
        rw [stp_5, ab, if_neg (by omega), if_pos (by omega)]
        congr 1
        omega
      rw [ff_some hlt hs]
      exact bl_ff T k m (sp + 1) (T sp + 1) _ (by omega) (by omega) (by have := ht.2; omega) (by have := ht.2; omega)
    · rw [if_neg ht]
      refine ⟨fun q => absurd q (by show ¬ sp = k; omega), fun _ h59 => ?_, fun _ h59 => ?_⟩
      · have h59 : T sp = 59 := h59
        rw [ff_some hlt (d' := 0) (by rw [stp_5, ab, if_pos h59])]
      · have h59 : ¬ T sp = 59 := h59
        rw [ff_none hlt (by rw [stp_5, ab, if_neg h59, if_neg (fun q => ht ⟨hlt, by omega, by omega⟩)])]
theorem fin_10 {T : Nat → Nat} {k e : Nat} (he : e ≤ k) : fin T k e (ffN T k (k - e) e 10) := by
  refine ⟨fun q => by subst q; rw [ff_end, if_pos (by omega)], fun hlt h59 => ?_, fun hlt h59 => ?_⟩
  · rw [ff_some (d := 10) (d' := 0) hlt (show ab 5 (T e) = some 0 by rw [ab, if_pos h59])]
  · rw [ff_none (d := 10) hlt (show ab 5 (T e) = none by rw [ab, if_neg h59, if_neg (by omega)])]
/-- one order read by the class -/
theorem fo_step {T : Nat → Nat} {k sp : Nat} (h : sp ≤ k) : (¬ (rdR T k sp).1 = true → ffN T k (k - sp) sp 0 = nI (rdR T k sp).2.1) ∧ ((rdR T k sp).1 = true → fin T k (rdR T k sp).2.1 (ffN T k (k - sp) sp 0)) := by
  by_cases h1 : sp < k ∧ (T sp = 112 ∨ T sp = 115 ∨ T sp = 116)
  · by_cases hc : T sp = 116
    · have s0 : stp 0 (T sp) = some 4 := by rw [hc]; rfl
      rw [ff_some h1.1 s0]
      by_cases h2 : tkP T k (sp + 1) 49 57
      · have s1 : stp 4 (T (sp + 1)) = some 10 := if_pos ⟨h2.2.1, h2.2.2⟩
        rw [rdR_t h1.1 hc h2, ff_some h2.1 s1]
        exact ⟨fun q => absurd rfl q, fun _ => fin_10 (by have := h2.1; show sp + 2 ≤ k; omega)⟩
      · rw [rdR_2 h1.1 hc h2]
        refine ⟨fun _ => ?_, fun q => absurd q Bool.false_ne_true⟩
        by_cases hk : sp + 1 < k
        · exact ff_none hk (show (if 48 + 1 ≤ T (sp + 1) ∧ T (sp + 1) ≤ 48 + 9 then some 10 else none) = none from if_neg (fun q => h2 ⟨hk, by omega, by omega⟩))
        · have e : sp + 1 = k := by omega
          rw [e, ff_end, if_neg (by omega)]
    · by_cases hp : T sp = 112
      · have s0 : stp 0 (T sp) = some 1 := by rw [hp]; rfl
        rw [ff_some h1.1 s0]
        by_cases h2 : tkP T k (sp + 1) 48 53
        · have s1 : stp 1 (T (sp + 1)) = some 5 := if_pos ⟨h2.2.1, h2.2.2⟩
          rw [rdR_p h1.1 hp h2, ff_some h2.1 s1]
          exact ⟨fun q => absurd rfl q, fun _ => bl_ff T k (k - (sp + 2)) (sp + 2) 48 0 (by have := h2.1; omega) rfl (by omega) (by omega)⟩
        · rw [rdR_1 h1.1 (Or.inl hp) h2]
          refine ⟨fun _ => ?_, fun q => absurd q Bool.false_ne_true⟩
          by_cases hk : sp + 1 < k
          · exact ff_none hk (show (if 48 + 0 ≤ T (sp + 1) ∧ T (sp + 1) ≤ 48 + 5 then some 5 else none) = none from if_neg (fun q => h2 ⟨hk, by omega, by omega⟩))
          · have e : sp + 1 = k := by omega
            rw [e, ff_end, if_neg (by omega)]
      · have hs : T sp = 115 := by omega
        have s0 : stp 0 (T sp) = some 2 := by rw [hs]; rfl
        rw [ff_some h1.1 s0]
        by_cases h2 : tkP T k (sp + 1) 48 53
        · have s1 : stp 2 (T (sp + 1)) = some 3 := if_pos ⟨h2.2.1, h2.2.2⟩
          rw [ff_some h2.1 s1]
          by_cases h3 : tkP T k (sp + 2) 48 52
          · have s2 : stp 3 (T (sp + 2)) = some 10 := if_pos ⟨h3.2.1, h3.2.2⟩
            rw [rdR_s h1.1 hs h2 h3, ff_some (i := sp + 1 + 1) h3.1 s2]
            exact ⟨fun q => absurd rfl q, fun _ => fin_10 (by have := h3.1; show sp + 3 ≤ k; omega)⟩
          · rw [rdR_3 h1.1 hs h2 h3]
            refine ⟨fun _ => ?_, fun q => absurd q Bool.false_ne_true⟩
            by_cases hk : sp + 2 < k
            · exact ff_none (i := sp + 2) hk (show (if 48 + 0 ≤ T (sp + 2) ∧ T (sp + 2) ≤ 48 + 4 then some 10 else none) = none from if_neg (fun q => h3 ⟨hk, by omega, by omega⟩))
            · have e : sp + 1 + 1 = k := by have := h2.1; omega
              rw [e, ff_end, if_neg (by omega)]
        · rw [rdR_1 h1.1 (Or.inr hs) h2]
          refine ⟨fun _ => ?_, fun q => absurd q Bool.false_ne_true⟩
          by_cases hk : sp + 1 < k
          · exact ff_none hk (show (if 48 + 0 ≤ T (sp + 1) ∧ T (sp + 1) ≤ 48 + 5 then some 3 else none) = none from if_neg (fun q => h2 ⟨hk, by omega, by omega⟩))
          · have e : sp + 1 = k := by omega
            rw [e, ff_end, if_neg (by omega)]
  · have e : rdR T k sp = (false, sp, 0) := by rw [rdR, if_pos h1]
    rw [e]
    refine ⟨fun _ => ?_, fun q => absurd q Bool.false_ne_true⟩
    by_cases hk : sp < k
    · exact ff_none hk (show ltr (T sp) = none by rw [ltr, if_neg (fun q => h1 ⟨hk, Or.inl q⟩), if_neg (fun q => h1 ⟨hk, Or.inr (Or.inl q)⟩), if_neg (fun q => h1 ⟨hk, Or.inr (Or.inr q)⟩)])
    · have e : sp = k := by omega
      rw [e, ff_end, if_neg (by omega)]
theorem fo_pos {T : Nat → Nat} {k : Nat} : ∀ i, posA T k i ≤ k → (∀ j, j < i → okA T k j ∧ sepA T k j) → ffN T k k 0 0 = ffN T k (k - posA T k i) (posA T k i) 0
  | 0, _, _ => rfl
  | i + 1, h, hj => by
    have hs := (hj i (by omega)).2
    have hp : posA T k i ≤ k := by
      have h9 : endA T k i + 1 ≤ k := h
      by_cases e : posA T k i ≤ k
      · exact e
      · exfalso
        have hr : rdR T k (posA T k i) = (false, posA T k i, 0) := by rw [rdR, if_pos (fun q => by omega)]
        have := (hj i (by omega)).1
        rw [okA, hr] at this
        exact absurd this Bool.false_ne_true
    rw [fo_pos i hp (fun j h9 => hj j (by omega))]
    exact ((fo_step hp).2 (hj i (by omega)).1).2.1 hs.1 (by have q : 59 ≤ T (endA T k i) ∧ T (endA T k i) ≤ 59 := hs.2; show T (endA T k i) = 59; omega)
theorem fault_eq {X Y : sV} {T : Nat → Nat} {k i : Nat} (hI : isI X Y T k i) (hn : okA T k i → ¬ sepA T k i) : ffN T k k 0 0 = if scA T k i then -5 else nI (endA T k i) := by
  have hp := hI.2.2.1
  rw [fo_pos i hp hI.2.2.2.2.2.2.2]
  by_cases hok : okA T k i
  · have hf := (fo_step hp).2 hok
    by_cases he : endA T k i = k
    · rw [if_pos ⟨hok, he⟩]; exact hf.1 he
    · rw [if_neg (fun q => he q.2)]
      have hle : endA T k i ≤ k := (rdR_le hp).2.1
      exact hf.2.2 (by show endA T k i < k; omega) (fun q => hn hok ⟨by omega, by have q : T (endA T k i) = 59 := q; omega, by have q : T (endA T k i) = 59 := q; omega⟩)
  · rw [if_neg (fun q => hok q.1)]
    exact (fo_step hp).1 hok
