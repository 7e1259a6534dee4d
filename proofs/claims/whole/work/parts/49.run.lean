/-! ===== run: the class's orders are the reference's ===== -/
theorem inv_dn {V X : sV} {cq : Nat → Nat} {B ch o : Nat} {y : Int32} {b : Nat} (h : InvV V cq B) (hB : B + 300 < 2147483647) (ho : ch = 116 → o ≤ 9) (ho6 : ¬ ch = 116 → o < 6) : InvV (dnM V X cq ch o y b).2.1 cq (B + 54) := by
  unfold dnM
  by_cases e : ch = 116
  · rw [if_pos e]
    have := ho e
    exact (inv_mt (X := X) h (by omega) o (by omega)).mono (by omega)
  · rw [if_neg e]
    by_cases e2 : ch = 112
    · rw [if_pos e2]
      show InvV (up2 V 4 o (if hasM V o y then y else V 4 o)) cq (B + 54)
      by_cases hm : hasM V o y
      · rw [if_pos hm]; exact (inv_plan h (ho6 e) hm).mono (by omega)
      · rw [if_neg hm, up2_same rfl]; exact h.mono (by omega)
    · rw [if_neg e2]
      show InvV (if hasB V (nI o) (nI b) ∧ canM V o b then up2 (up2 V 10 (o * 5 + b) 0) 2 o (V 2 o + 2) else V) cq (B + 54)
      by_cases hm : hasB V (nI o) (nI b) ∧ canM V o b
      · rw [if_pos hm]; exact (inv_spl h).mono (by omega)
      · rw [if_neg hm]; exact h.mono (by omega)
theorem ord_dig {T : Nat → Nat} {k sp : Nat} (h : (rdR T k sp).1 = true) : (T sp = 116 → T (sp + 1) - 48 ≤ 9) ∧ (¬ T sp = 116 → T (sp + 1) - 48 < 6) := by
  rcases rdR_ok h with q | q | q
  · exact ⟨fun _ => by omega, fun e => absurd q.1 e⟩
  · exact ⟨fun e => by omega, fun _ => by omega⟩
  · exact ⟨fun e => by omega, fun _ => by omega⟩
theorem inv_rn {V X : sV} {cq : Nat → Nat} {B : Nat} {T : Nat → Nat} {k i : Nat} (h : InvV V cq B) (hB : B + 54 * 22 + 300 < 2147483647) (hi : i ≤ 20) (hok : ∀ j, j ≤ i → okA T k j) : ∀ j, j ≤ i + 1 → InvV (rnM V X cq T k j).1 cq (B + 54 * j)
  | 0, _ => h
  | j + 1, hj => by
    have ih := inv_rn (X := X) h hB hi hok j (by omega)
    obtain ⟨d1, d2⟩ := ord_dig (hok j (by omega))
    exact inv_dn (B := B + 54 * j) ih (by omega) d1 d2
/-- one order: the class's, the reference's -/
theorem ord_eq {V X N : sV} {cq : Nat → Nat} {B : Nat} {T : Nat → Nat} {k sp : Nat} (h : InvV V cq B) (hB : B + 300 < 2147483647) (hok : (rdR T k sp).1 = true) (hsp : sp ≤ k) (he : (rdR T k sp).2.1 = k ∨ T (rdR T k sp).2.1 = 59) :
    ((ordC T k sp V N).1 = true ↔ (dnM V X cq (T sp) (T (sp + 1) - 48) ((rdR T k sp).2.2) (T (sp + 2) - 48)).1 = true) ∧ (ordC T k sp V N).2.1 = (dnM V X cq (T sp) (T (sp + 1) - 48) ((rdR T k sp).2.2) (T (sp + 2) - 48)).2.1 := by
  have h0 := rdR_let hok
  have hr := (rdR_le (T := T) hsp)
  have h1 : sp + 1 < k := by have := hr.2.2 hok; omega
  unfold ordC dnM
  rw [sg_in h0, sg_in h1]
  rcases rdR_ok hok with q | q | q
  · rw [if_pos q.1, if_pos q.1]
    exact ⟨Iff.rfl, turns_eq' (X := X) N h (by omega) _ (by omega)⟩
  · have n1 : ¬ T sp = 116 := by omega
    have n2 : ¬ T sp = 115 := by omega
    have a1 : tkP T k (sp + 1) 48 53 := ⟨h1, q.2⟩
    have eR := rdR_p h0 q.1 a1
    rw [eR] at he ⊢
    have eb : bfN T k (k - (sp + 2)) (sp + 2) 0 = (bl2 T k (k - (sp + 2)) (sp + 2) 48 0).2 := bfN_eq T k _ (sp + 2) 48 0 (by omega) rfl (by omega) (by omega) he
    have ht : T (sp + 1) - 48 < 6 := by omega
    rw [if_neg n1, if_neg n2, if_neg n1, if_pos q.1, eb, pl_eq]
    show _ ∧ _ = up2 V 4 (T (sp + 1) - 48) (if hasM V (T (sp + 1) - 48) (bl2 T k (k - (sp + 2)) (sp + 2) 48 0).2 then (bl2 T k (k - (sp + 2)) (sp + 2) 48 0).2 else V 4 (T (sp + 1) - 48))
    generalize (bl2 T k (k - (sp + 2)) (sp + 2) 48 0).2 = y
    by_cases hm : hasM V (T (sp + 1) - 48) y
    · have e0 : plM V (nI (T (sp + 1) - 48)) (T (sp + 1) - 48) y = 0 := by rw [plM, if_pos (isT_nI ht), if_pos hm]
      rw [if_pos e0, if_pos hm]
      exact ⟨⟨fun _ => decide_eq_true hm, fun _ => rfl⟩, rfl⟩
    · have e0 : ¬ plM V (nI (T (sp + 1) - 48)) (T (sp + 1) - 48) y = 0 := by rw [plM, if_pos (isT_nI ht), if_neg hm]; decide
      rw [if_neg e0, if_neg hm, up2_same rfl]
      exact ⟨⟨fun z => absurd z Bool.false_ne_true, fun z => absurd (of_decide_eq_true z) hm⟩, rfl⟩
  · have n1 : ¬ T sp = 116 := by omega
    have n2 : ¬ T sp = 112 := by omega
    have a1 : tkP T k (sp + 1) 48 53 := ⟨h1, q.2.1⟩
    have a2 : tkP T k (sp + 2) 48 52 := by
      by_cases a2 : tkP T k (sp + 2) 48 52
      · exact a2
      · rw [rdR_3 h0 q.1 a1 a2] at hok; exact absurd hok Bool.false_ne_true
    have ht : T (sp + 1) - 48 < 6 := by omega
    have hb5 : T (sp + 2) - 48 < 5 := by omega
    rw [sg_in a2.1, if_neg n1, if_pos q.1, if_neg n1, if_neg n2]
    generalize T (sp + 1) - 48 = t at ht ⊢
    generalize T (sp + 2) - 48 = b at hb5 ⊢
    have h10 := (h.2.2.2.1 t b ht hb5).1
    rw [sp_eq h10]
    show _ ∧ _ = if hasB V (nI t) (nI b) ∧ canM V t b then up2 (up2 V 10 (t * 5 + b) 0) 2 t (V 2 t + 2) else V
    by_cases hm : hasB V (nI t) (nI b) ∧ canM V t b
    · have e0 : spM V (nI t) (nI b) t b = 0 := by rw [spM, if_pos hm.1, if_pos hm.2]
      rw [if_pos e0, if_pos hm]
      exact ⟨⟨fun _ => decide_eq_true ⟨hm, hm.2.1⟩, fun _ => rfl⟩, rfl⟩
    · have e0 : ¬ spM V (nI t) (nI b) t b = 0 := by
        rw [spM]
        by_cases hh : hasB V (nI t) (nI b)
        · rw [if_pos hh, if_neg (fun z => hm ⟨hh, z⟩)]; decide
        · rw [if_neg hh]; decide
      rw [if_neg e0, if_neg hm]
      exact ⟨⟨fun z => absurd z Bool.false_ne_true, fun z => absurd (of_decide_eq_true z).1 hm⟩, rfl⟩
/-- signs that are no letters are passed -/
theorem run_skip (T : Nat → Nat) (k : Nat) (r : Int32) (V N : sV) : ∀ (d i : Nat), i + d ≤ k → (∀ x, i ≤ x → x < i + d → ltr (T x) = none) → runC T k (k - i) i r V N = runC T k (k - (i + d)) (i + d) r V N
  | 0, i, h, hn => rfl
  | d + 1, i, h, hn => by
    have e : oI (ltr (sg T k i)) = -1 := by rw [sg_in (by omega), hn i (by omega) (by omega)]; rfl
    rw [show k - i = (k - (i + 1)) + 1 by omega, runC, if_pos e, run_skip T k r V N d (i + 1) (by omega) (fun x h1 h2 => hn x (by omega) (by omega)), show i + 1 + d = i + (d + 1) by omega]
theorem run_one {T : Nat → Nat} {k sp : Nat} (hok : (rdR T k sp).1 = true) (r : Int32) (V N : sV) : runC T k (k - sp) sp r V N = if (ordC T k sp V N).1 = true then runC T k (k - (sp + 1)) (sp + 1) (r + 1) (ordC T k sp V N).2.1 (ordC T k sp V N).2.2 else (r, (ordC T k sp V N).2) := by
  have h0 := rdR_let hok
  have e : ¬ oI (ltr (sg T k sp)) = -1 := by
    rw [sg_in h0]
    rcases rdR_ok hok with q | q | q <;> rw [q.1] <;> decide
  rw [show k - sp = (k - (sp + 1)) + 1 by omega, runC, if_neg e]
theorem run_at {V X : sV} {cq : Nat → Nat} {B : Nat} {T : Nat → Nat} {k i : Nat} (N : sV) (h : InvV V cq B) (hB : B + 54 * 22 + 300 < 2147483647) (hi : i ≤ 20) (hs : scr T k i) (hp : ∀ j, j ≤ i → posA T k j ≤ k) : ∀ j, j ≤ i → (∀ z, z < j → dnA V X cq T k z) → ∃ N', runC T k k 0 0 V N = runC T k (k - posA T k j) (posA T k j) (nI j) (rnM V X cq T k j).1 N'
  | 0, _, _ => ⟨N, rfl⟩
  | j + 1, hj, hd => by
    obtain ⟨N', e⟩ := run_at (X := X) N h hB hi hs hp j (by omega) (fun z hz => hd z (by omega))
    have hok := hs.1 j (by omega)
    have hle := rdR_le (T := T) (hp j (by omega))
    have hsep := hs.2.1 j (by omega)
    have h59 : T (endA T k j) = 59 := by have := hsep.2; omega
    have hO := ord_eq (X := (rnM V X cq T k j).2) (N := N') (inv_rn (X := X) h hB hi hs.1 j (by omega)) (by omega) hok (hp j (by omega)) (Or.inr h59)
    have hdj := hd j (by omega)
    have h1 := hO.1.mpr hdj
    have h2 : endA T k j < k := hsep.1
    have h3 : posA T k j + 2 ≤ endA T k j := hle.2.2 hok
    refine ⟨(ordC T k (posA T k j) (rnM V X cq T k j).1 N').2.2, ?_⟩
    rw [e, run_one hok, if_pos h1, hO.2, show nI j + 1 = nI (j + 1) from nI_add j 1, run_skip T k _ _ _ (endA T k j - posA T k j) (posA T k j + 1) (by omega) (fun x a b => ?_), show posA T k j + 1 + (endA T k j - posA T k j) = endA T k j + 1 by omega]
    · rfl
    · by_cases e2 : x = endA T k j
      · rw [e2, h59]; rfl
      · exact ltr_no (Or.inl (rdR_dig hok (x := x) (by omega) (by show x < endA T k j; omega)))
/-- run's answer, and the state behind it -/
theorem run_eq {V X : sV} {cq : Nat → Nat} {B : Nat} {T : Nat → Nat} {k i d : Nat} (N : sV) (h : InvV V cq B) (hB : B + 54 * 22 + 300 < 2147483647) (hi : i ≤ 20) (hs : scr T k i) (hp : ∀ j, j ≤ i → posA T k j ≤ k) (hd1 : d ≤ i + 1) (hd : ∀ z, z < d → dnA V X cq T k z) (hd2 : d < i + 1 → ¬ dnA V X cq T k d) : (runC T k k 0 0 V N).1 = nI d ∧ (runC T k k 0 0 V N).2.1 = (rnM V X cq T k d).1 := by
  by_cases hdi : d ≤ i
  · obtain ⟨N', e⟩ := run_at (X := X) N h hB hi hs hp d hdi hd
    have hok := hs.1 d hdi
    have he : endA T k d = k ∨ T (endA T k d) = 59 := by
      by_cases e2 : d = i
      · rw [e2]; exact Or.inl hs.2.2
      · have := (hs.2.1 d (by omega)).2; exact Or.inr (by omega)
    have hO := ord_eq (X := (rnM V X cq T k d).2) (N := N') (inv_rn (X := X) h hB hi hs.1 d (by omega)) (by omega) hok (hp d hdi) he
    have hn := hd2 (by omega)
    rw [e, run_one hok, if_neg (fun q => hn (hO.1.mp q))]
    refine ⟨rfl, hO.2.trans ?_⟩
    exact (congrArg Prod.fst (rnM_no hn))
  · have e : d = i + 1 := by omega
    subst e
    obtain ⟨N', e⟩ := run_at (X := X) N h hB hi hs hp i (Nat.le_refl _) (fun z hz => hd z (by omega))
    have hok := hs.1 i (Nat.le_refl _)
    have hO := ord_eq (X := (rnM V X cq T k i).2) (N := N') (inv_rn (X := X) h hB hi hs.1 i (by omega)) (by omega) hok (hp i (Nat.le_refl _)) (Or.inl hs.2.2)
    have h1 := hO.1.mpr (hd i (by omega))
    have h0 := rdR_let hok
    have h3 := hs.2.2
    rw [e, run_one hok, if_pos h1, hO.2, show nI i + 1 = nI (i + 1) from nI_add i 1, run_skip T k _ _ _ (k - (posA T k i + 1)) (posA T k i + 1) (by omega) (fun x a b => ltr_no (Or.inl (rdR_dig hok (x := x) (by omega) (by show x < endA T k i; omega)))), show posA T k i + 1 + (k - (posA T k i + 1)) = k by omega, Nat.sub_self, runC]
    exact ⟨rfl, rfl⟩
