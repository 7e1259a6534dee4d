/-! ===== what a plan would bring, the best plan ===== -/
theorem rgM_4 {V V' : sV} (h : ∀ k j, k ≠ 4 → V' k j = V k j) (t : Nat) (p : Int32) : ∀ b, rgM V' t p b = rgM V t p b
  | 0 => by show (0, V' 1 t - V' 2 t) = (0, V 1 t - V 2 t); rw [h 1 t (by decide), h 2 t (by decide)]
  | b + 1 => by
    have e : wM V' t p = wM V t p := by
      show (if V' 6 t ≤ 0 then (if V' 12 2 - V' 12 2 / 7 * 7 = V' 5 t then (1 <<< (V' 3 t &&& 31)) - 1 else p) else 0) = if V 6 t ≤ 0 then (if V 12 2 - V 12 2 / 7 * 7 = V 5 t then (1 <<< (V 3 t &&& 31)) - 1 else p) else 0
      rw [h 6 t (by decide), h 12 2 (by decide), h 5 t (by decide), h 3 t (by decide)]
    rw [rgM, rgM, e, rgM_4 h t p b, h 10 _ (by decide), h 9 _ (by decide)]
theorem lsM_4 {V V' : sV} (h : ∀ k j, k ≠ 4 → V' k j = V k j) (t : Nat) (s : Int32) : ∀ b, lsM V' t s b = lsM V t s b
  | 0 => rfl
  | b + 1 => by rw [lsM, lsM, lsM_4 h t s b, h 9 _ (by decide)]
theorem tn_plan {V : sV} {cq : Nat → Nat} {t p : Nat} (hT : ∀ t, t < 6 → tnV V t (cq t)) (hp : p < 2 ^ cq t) : ∀ s, s < 6 → tnV (up2 V 4 t (nI p)) s (cq s) := by
  intro s hs
  obtain ⟨a1, a2, p', a3, a4⟩ := hT s hs
  refine ⟨(up2_ne (by omega)).trans a1, a2, ?_⟩
  by_cases e : s = t
  · subst e; exact ⟨p, up2_eq _ _ _ _, hp⟩
  · exact ⟨p', (up2_ne (by omega)).trans a3, a4⟩
theorem pwX_u {V : sV} {cq : Nat → Nat} {t p : Nat} (X : sV) : ∀ s, s < 6 → pwX V cq X t (nI p) 4 s = ldM (up2 V 4 t (nI p)) cq s := by
  intro s hs
  have h4 : ∀ k j, k ≠ 4 → up2 V 4 t (nI p) k j = V k j := fun k j hk => up2_ne (by omega)
  show up2 (liX V cq X 6) 4 t (lsM V t (rgM V t (nI p) (cq t)).1 (cq t)) 4 s = lsM (up2 V 4 t (nI p)) s (rgM (up2 V 4 t (nI p)) s (up2 V 4 t (nI p) 4 s) (cq s)).1 (cq s)
  rw [rgM_4 h4, lsM_4 h4, up2_if]
  by_cases e : s = t
  · subst e; rw [if_pos ⟨rfl, rfl⟩, up2_eq]
  · rw [if_neg (fun q => e q.2), up2_ne (by omega)]
    exact liX_u V cq X s hs
theorem pw_eq {V : sV} {cq : Nat → Nat} {t p : Nat} (hT : ∀ t, t < 6 → tnV V t (cq t)) (hp : p < 2 ^ cq t) (N X : sV) : ∀ n, n ≤ 6 → cntF (fun e => forN (up2 V 4 t (nI p)) N 3 e = nI t) n = pwM V (pwX V cq X t (nI p) 4) t n
  | 0, _ => rfl
  | n + 1, hn => by
    have h4 : ∀ k j, k ≠ 4 → up2 V 4 t (nI p) k j = V k j := fun k j hk => up2_ne (by omega)
    have e : forN (up2 V 4 t (nI p)) N 3 n = (bsM V (pwX V cq X t (nI p) 4) n 6).2 := by
      rw [(for_at (tn_plan hT hp) N (pwX_u X)).2.2.2.1 n (by omega)]
      exact congrArg Prod.snd (bsM_c (fun t _ => h4 0 t (by decide)) (h4 12 0 (by decide)) (fun _ _ => rfl) (by omega) 6 (Nat.le_refl _))
    rw [cntF, pwM, pw_eq hT hp N X n (by omega), e]
    by_cases h : (bsM V (pwX V cq X t (nI p) 4) n 6).2 = nI t
    · rw [if_pos h, if_pos h]
    · rw [if_neg h, if_neg h]; simp
theorem pw_vol {V : sV} {cq : Nat → Nat} {t p : Nat} (hT : ∀ t, t < 6 → tnV V t (cq t)) (hp : p < 2 ^ cq t) (ht : t < 6) (N X : sV) : forN (up2 V 4 t (nI p)) N 1 t = pwX V cq X t (nI p) 4 t :=
  (for_at (tn_plan hT hp) N (pwX_u X)).2.1 t ht
theorem pwM_nat (V : sV) (u : Nat → Int32) (t : Nat) : ∀ n, n ≤ 6 → ∃ k, k ≤ n ∧ pwM V u t n = nI k
  | 0, _ => ⟨0, Nat.le_refl _, rfl⟩
  | n + 1, h => by
    obtain ⟨k, h1, h2⟩ := pwM_nat V u t n (by omega)
    rw [pwM, h2]
    split
    · exact ⟨k + 1, by omega, nI_add k 1⟩
    · exact ⟨k, by omega, by simp⟩
theorem up2_twice (V : sV) (k j : Nat) (x y : Int32) : up2 (up2 V k j x) k j y = up2 V k j y := by
  funext a b
  rw [up2_if, up2_if, up2_if]
  by_cases h : a = k ∧ b = j
  · rw [if_pos h, if_pos h]
  · rw [if_neg h, if_neg h, if_neg h]
theorem bp_eq {V : sV} {cq : Nat → Nat} {t : Nat} (hT : ∀ t, t < 6 → tnV V t (cq t)) (ht : t < 6) (N X : sV) : ∀ i, i < 2 ^ cq t → (bpS V N t i).2.1 = up2 V 4 t (nI i) ∧ (bpS V N t i).1 = (bpM V cq X t (i + 1)).1
  | 0, h => by
    refine ⟨rfl, ?_⟩
    have h1 : cntF (fun e => forN (up2 V 4 t 0) N 3 e = nI t) 6 = pwM V (pwX V cq X t (nI 0) 4) t 6 := pw_eq hT (p := 0) h N X 6 (Nat.le_refl _)
    have h2 : forN (up2 V 4 t 0) N 1 t = pwX V cq X t (nI 0) 4 t := pw_vol hT (p := 0) h ht N X
    obtain ⟨k, hk, e⟩ := pwM_nat V (pwX V cq X t (nI 0) 4) t 6 (Nat.le_refl _)
    have hlt : (-5 : Int32) < pwM V (pwX V cq X t (nI 0) 4) t 6 := by
      rw [e, Int32.lt_iff_toInt_lt, nI_toInt (by omega), show (-5 : Int32).toInt = -5 by decide]; omega
    have e0 : bpM V cq X t 0 = ((0, -5, 0), X) := rfl
    rw [bpS, bpM, e0]
    dsimp only
    rw [h1, h2, if_pos hlt]
    exact Prod.ext rfl rfl
  | i + 1, h => by
    obtain ⟨e1, e2⟩ := bp_eq hT ht N X i (by omega)
    have eU : up2 (bpS V N t i).2.1 4 t (nI (i + 1)) = up2 V 4 t (nI (i + 1)) := by rw [e1, up2_twice]
    refine ⟨eU, ?_⟩
    have h1 := pw_eq hT (p := i + 1) h (bpS V N t i).2.2 (bpM V cq X t (i + 1)).2 6 (Nat.le_refl _)
    have h2 := pw_vol hT (p := i + 1) h ht (bpS V N t i).2.2 (bpM V cq X t (i + 1)).2
    rw [bpS, bpM]
    dsimp only
    rw [eU, h1, h2, e2]
