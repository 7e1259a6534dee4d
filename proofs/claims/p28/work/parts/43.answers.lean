/-! ===== the answers are alike ===== -/
theorem lo_eq {V : sV} {cq : Nat → Nat} (hT : ∀ t, t < 6 → tnV V t (cq t)) (N : sV) {t : Nat} (ht : t < 6) : forN V N 1 t = lsM V t (rgM V t (V 4 t) (cq t)).1 (cq t) :=
  (for_at hT N (u := fun t => ldM V cq t) (fun _ _ => rfl)).2.1 t ht
theorem liX_u (V : sV) (cq : Nat → Nat) (X : sV) : ∀ t, t < 6 → liX V cq X 6 4 t = ldM V cq t := fun t ht => by rw [liX_at, if_pos ht]
theorem wi_eq {V : sV} {cq : Nat → Nat} (hT : ∀ t, t < 6 → tnV V t (cq t)) (N X : sV) {t : Nat} (ht : t < 6) : forN V N 3 t = (bsM V (liX V cq X 6 4) t 6).2 :=
  (for_at hT N (liX_u V cq X)).2.2.2.1 t ht
theorem he_eq {V : sV} {cq : Nat → Nat} (hT : ∀ t, t < 6 → tnV V t (cq t)) (N X : sV) {t e : Nat} (ht : t < 6) : sndF V (forN V N 1) t e = hrM V (liX V cq X 6 4) t e := by
  rw [snd_eq]
  show (if forN V N 1 t - V 12 0 * abM (V 0 t - V 0 e) ≤ 0 then 0 else forN V N 1 t - V 12 0 * abM (V 0 t - V 0 e)) = if liX V cq X 6 4 t - V 12 0 * abM (V 0 t - V 0 e) ≤ 0 then 0 else liX V cq X 6 4 t - V 12 0 * abM (V 0 t - V 0 e)
  rw [(for_at hT N (liX_u V cq X)).2.1 t ht]
theorem bit_no : ∀ m, m < 32 → ∀ b, b < 5 → ((nI m >>> (nI b &&& 31)) &&& 1 = 0 ↔ ¬ bitW (nI m) b) := by decide +kernel
theorem want_nat {V : sV} {t c : Nat} (h : tnV V t c) : ∃ p, p < 32 ∧ wantC V t = nI p := by
  obtain ⟨h1, h2, p, h3, h4⟩ := h
  have h32 : 2 ^ c ≤ 2 ^ 5 := Nat.pow_le_pow_right (by decide) h2
  by_cases e : V 12 2 - V 12 2 / 7 * 7 = V 5 t
  · exact ⟨2 ^ c - 1, by omega, by rw [wantC, if_pos e]; exact evB_nat h1 h2⟩
  · exact ⟨p, by omega, by rw [wantC, if_neg e]; exact h3⟩
theorem six_eq {x : Int32} (h : x.toInt ≤ 6) : x = 6 ↔ ¬ x < 6 := by
  rw [Int32.lt_iff_toInt_lt, ← Int32.toInt_inj, show (6 : Int32).toInt = 6 by decide]
  omega
theorem rs_eq {V : sV} {t b c : Nat} (h : tnV V t c) (hb : b < c) (h10 : (V 10 (t * 5 + b)).toInt ≤ 6) : rsC V t b = rsM V t b c := by
  obtain ⟨m, m1, m2, m3, m4⟩ := rg_eq V t c h.2.1
  obtain ⟨p, p1, p2⟩ := want_nat h
  have hb5 : b < 5 := by have := h.2.1; omega
  by_cases h1 : V 6 t ≤ 0
  · have k1 : ¬ ¬ V 6 t ≤ 0 := fun q => q h1
    rw [rsC, rsM, if_neg k1, if_neg k1, wM_want h1, p2, m2]
    by_cases h2 : bitW (nI p) b
    · have k2 : ¬ ¬ bitW (nI p) b := fun q => q h2
      have j2 : ¬ ((nI p >>> (nI b &&& 31)) &&& 1 = 0) := fun q => (bit_no p p1 b hb5).mp q h2
      rw [if_neg k2, if_neg j2]
      by_cases h3 : V 10 (t * 5 + b) < 6
      · have k3 : ¬ ¬ V 10 (t * 5 + b) < 6 := fun q => q h3
        have j3 : ¬ V 10 (t * 5 + b) = 6 := fun q => (six_eq h10).mp q h3
        rw [if_neg k3, if_neg j3]
        by_cases h4 : rF (V 9 (t * 5 + b)) ≤ resT V t - (vbC V t b).2
        · have hr : rgC V t b := ⟨h1, by rw [p2]; exact h2, h3, h4⟩
          have k4 : ¬ ¬ rF (V 9 (t * 5 + b)) ≤ resT V t - (vbC V t b).2 := fun q => q h4
          have j4 : ¬ ((nI m >>> (nI b &&& 31)) &&& 1 = 0) := fun q => (bit_no m m1 b hb5).mp q ((m4 b hb5).mpr ⟨hb, hr⟩)
          rw [if_neg k4, if_neg j4]
        · have j4 : (nI m >>> (nI b &&& 31)) &&& 1 = 0 := (bit_no m m1 b hb5).mpr (fun q => h4 ((m4 b hb5).mp q).2.2.2.2)
          rw [if_pos h4, if_pos j4]
      · rw [if_pos h3, if_pos ((six_eq h10).mpr h3)]
    · have j2 : (nI p >>> (nI b &&& 31)) &&& 1 = 0 := (bit_no p p1 b hb5).mpr h2
      rw [if_pos h2, if_pos j2]
  · rw [rsC, rsM, if_pos h1, if_pos h1]
theorem bl_eq {V : sV} {cq : Nat → Nat} {B : Nat} (h : InvV V cq B) (N : sV) {t b : Nat} (ht : t < 6) (hb : b < cq t) (j : Nat) : blC V N t b j = blM V t b (cq t) j := by
  have hb5 : b < 5 := by have := (h.1 t ht).2.1; omega
  match j with
  | 0 => rfl
  | 1 => rfl
  | 2 => rfl
  | 3 => rfl
  | j + 4 =>
    show forN V N 0 (t * 5 + b) = rsM V t b (cq t)
    rw [(for_at h.1 N (u := fun t => ldM V cq t) (fun _ _ => rfl)).1 _ (by omega), show (t * 5 + b) / 5 = t by omega, show (t * 5 + b) % 5 = b by omega]
    exact rs_eq (h.1 t ht) hb (h.2.2.2.1 t b ht hb5).2
theorem hasB_nat {V : sV} {t b c : Nat} (ht : t < 6) (hb : b < 5) (h : V 3 t = nI c) (hc : c ≤ 5) : hasB V (nI t) (nI b) ↔ b < c := by
  show (isT (nI t) ∧ ¬ nI b < 0 ∧ ¬ V 3 (nI t).toNatClampNeg ≤ nI b) ↔ _
  rw [nI_clamp (by omega), h, nI_leI (by omega) (by omega)]
  exact ⟨fun q => by have := q.2.2; omega, fun q => ⟨isT_nI ht, nI_pos (by omega), by omega⟩⟩
theorem br_eq {V : sV} {cq : Nat → Nat} {B : Nat} (h : InvV V cq B) : ∀ n, n ≤ 30 → cntF (fun j => ¬ V 10 j < 6) n = brM V n
  | 0, _ => rfl
  | n + 1, hn => by
    have ht : n / 5 < 6 := by omega
    have hb : n % 5 < 5 := by omega
    have e : n / 5 * 5 + n % 5 = n := by omega
    obtain ⟨a1, a2, -⟩ := h.1 (n / 5) ht
    have h10 := h.2.2.2.1 (n / 5) (n % 5) ht hb
    rw [cntF, brM, br_eq h n (by omega), e]
    rw [e] at h10
    by_cases hc : n % 5 < cq (n / 5)
    · rw [if_pos ((hasB_nat ht hb a1 a2).mpr hc)]
      by_cases h6 : V 10 n < 6
      · rw [if_neg (fun q => q h6), if_neg (fun q => (six_eq h10.2).mp q h6)]; simp
      · rw [if_pos h6, if_pos ((six_eq h10.2).mpr h6)]
    · rw [if_neg (fun q => hc ((hasB_nat ht hb a1 a2).mp q))]
      have h0 := (h.2.2.2.2.1 (n / 5) (n % 5) ht (by omega) hb).2.1
      rw [e] at h0
      rw [if_neg (fun q => q (by rw [h0]; decide))]; simp
theorem si_eq (V : sV) : ∀ n, cntF (fun j => ¬ V 6 j ≤ 0) n = siM V n
  | 0 => rfl
  | n + 1 => by
    rw [cntF, siM, si_eq V n]
    by_cases h : V 6 n ≤ 0
    · rw [if_neg (fun q => q h), if_pos h]; simp
    · rw [if_pos h, if_neg h]
theorem co_eq {V : sV} {cq : Nat → Nat} {B : Nat} (h : InvV V cq B) (n k j : Nat) : coC V n k j = coM V n k j := by
  match j with
  | 0 => rfl
  | 1 => rfl
  | 2 => exact br_eq h 30 (Nat.le_refl _)
  | 3 => exact si_eq V 6
  | 4 => rfl
  | 5 => rfl
  | 6 => rfl
  | 7 => rfl
  | 8 => rfl
  | 9 => rfl
  | j + 10 => rfl
theorem pi_eq {V X : sV} {cq : Nat → Nat} {B : Nat} (N : sV) (h : InvV V cq B) (hB : B + 6 * 50 < 2147483647) {m t : Nat} (hm : m ≤ 50) : (mtV V N m).1 7 t = (mtM V X cq m).1 7 t := by
  rw [turns_eq' (X := X) N h hB m hm]
