/-! ===== THE LAW'S WORDS ARE THE CLASS'S: what is rung, what is heard ===== -/
theorem bit_pl : ∀ b, b < 5 → ∀ m, m < 2 ^ b → ∀ b', b' < 5 → (bitW (nI m + ((1 : Int32) <<< (nI b &&& 31))) b' ↔ (bitW (nI m) b' ∨ b' = b)) := by decide +kernel
theorem pl_cl : ∀ m, m < 32 → ∀ b, b < 5 → m < 2 ^ b → nI m + ((1 : Int32) <<< (nI b &&& 31)) = nI (m + 2 ^ b) ∧ m + 2 ^ b < 2 ^ (b + 1) := by decide +kernel
theorem ev_bit : ∀ c, c < 6 → ∀ b, b < c → bitW (nI (2 ^ c - 1)) b := by decide +kernel
theorem tk_rF : ∀ w, w < 10 → tkL (nI w) = rF (nI w) := by decide +kernel
theorem rF_nat : ∀ w, w < 10 → rF (nI w) = nI ((w + 1) / 2) := by decide +kernel
theorem bit_10 : ∀ m, m < 32 → ∀ b, b < 5 → (bitW (nI m) b → (nI m >>> (nI b &&& 31)) &&& 1 = 1) ∧ (¬ bitW (nI m) b → (nI m >>> (nI b &&& 31)) &&& 1 = 0) := by decide +kernel
theorem i32_mul1 (x : Int32) : x * 1 = x := Int32.mul_one x
theorem i32_mul0 (x : Int32) : x * 0 = 0 := Int32.mul_zero
/-- what a town's ringing needs -/
def tnX (V : sV) (t c : Nat) : Prop := tnV V t c ∧ 0 ≤ (V 6 t).toInt ∧ ∀ b, b < 5 → (V 10 (t * 5 + b)).toInt ≤ 6 ∧ Bd (V 9 (t * 5 + b)) 9
theorem sil_eq {x : Int32} (h : 0 ≤ x.toInt) : x = 0 ↔ x ≤ 0 := by
  rw [le0]
  constructor
  · intro q; rw [q]; decide
  · intro q; exact Int32.toInt_inj.mp (by rw [show (0 : Int32).toInt = 0 by decide]; omega)
theorem want_lo {V : sV} {t c b : Nat} (h : tnV V t c) (hb : b < c) : bitW (wantC V t) b ↔ (feL V t ∨ bitW (V 4 t) b) := by
  by_cases e : V 12 2 - V 12 2 / 7 * 7 = V 5 t
  · rw [wantC, if_pos e, evB_nat h.1 h.2.1]
    exact ⟨fun _ => Or.inl e, fun _ => ev_bit c (by have := h.2.1; omega) b hb⟩
  · rw [wantC, if_neg e]
    exact ⟨fun q => Or.inr q, fun q => q.resolve_left e⟩
/-- which bells: the law's mask, the class's volumes -/
theorem rgl_eq {V : sV} {t c : Nat} (h : tnX V t c) : ∀ b, b ≤ c → ∃ m, m < 2 ^ b ∧ (rgL V t (V 4 t) b).1 = nI m ∧ (rgL V t (V 4 t) b).2 = resT V t - (vbC V t b).2 ∧ ∀ b', b' < 5 → (bitW (nI m) b' ↔ b' < b ∧ rgC V t b')
  | 0, _ => ⟨0, by decide, rfl, by show V 1 t - V 2 t = V 1 t - V 2 t - 0; simp, fun b' h => ⟨fun q => absurd q (bit_0 b' h), fun q => absurd q.1 (Nat.not_lt_zero _)⟩⟩
  | b + 1, hb => by
    obtain ⟨m, h1, h2, h3, h4⟩ := rgl_eq h b (by omega)
    have hc5 := h.1.2.1
    have hb5 : b < 5 := by omega
    have h32 : 2 ^ b ≤ 2 ^ 5 := Nat.pow_le_pow_right (by decide) (by omega)
    obtain ⟨x6, w, hw, ew⟩ := h.2.2 b hb5
    have etk : tkL (V 9 (t * 5 + b)) = rF (V 9 (t * 5 + b)) := by rw [ew]; exact tk_rF w (by omega)
    have hcond : (V 6 t = 0 ∧ (feL V t ∨ bitW (V 4 t) b) ∧ ¬ V 10 (t * 5 + b) = 6 ∧ ¬ (rgL V t (V 4 t) b).2 < tkL (V 9 (t * 5 + b))) ↔ rgC V t b := by
      rw [h3, etk, sil_eq h.2.1, ← want_lo h.1 (show b < c by omega), Int32.not_lt]
      constructor
      · rintro ⟨a1, a2, a3, a4⟩
        exact ⟨a1, a2, Decidable.byContradiction fun q => a3 ((six_eq x6).mpr q), a4⟩
      · rintro ⟨a1, a2, a3, a4⟩
        exact ⟨a1, a2, fun q => (six_eq x6).mp q a3, a4⟩
    have hp2 : 2 ^ (b + 1) = 2 * 2 ^ b := by rw [Nat.pow_succ]; omega
    by_cases hy : rgC V t b
    · obtain ⟨o1, o2⟩ := pl_cl m (by omega) b hb5 h1
      rw [rgL, if_pos (hcond.mpr hy), vb_yes hy]
      refine ⟨m + 2 ^ b, o2, ?_, ?_, fun b' hb' => ?_⟩
      · show (rgL V t (V 4 t) b).1 + (1 : Int32) <<< (nI b &&& 31) = _
        rw [h2]; exact o1
      · show (rgL V t (V 4 t) b).2 - tkL (V 9 (t * 5 + b)) = resT V t - ((vbC V t b).2 + rF (V 9 (t * 5 + b)))
        rw [h3, etk, sub_add]
      · rw [← o1, bit_pl b hb5 m h1 b' hb', h4 b' hb']
        constructor
        · rintro (q | q)
          · exact ⟨by omega, q.2⟩
          · subst q; exact ⟨by omega, hy⟩
        · intro q
          by_cases e2 : b' = b
          · exact Or.inr e2
          · exact Or.inl ⟨by omega, q.2⟩
    · rw [rgL, if_neg (fun q => hy (hcond.mp q)), vb_no hy]
      refine ⟨m, by omega, h2, h3, fun b' hb' => (h4 b' hb').trans ⟨fun q => ⟨by omega, q.2⟩, fun q => ⟨?_, q.2⟩⟩⟩
      have : b' ≠ b := fun e2 => hy (e2 ▸ q.2)
      omega
/-- the mask behind all bells -/
theorem rgl_all {V : sV} {t c : Nat} (h : tnX V t c) : ∃ m, m < 32 ∧ (rgL V t (V 4 t) c).1 = nI m ∧ ∀ b', b' < 5 → (bitW (nI m) b' ↔ rgC V t b') := by
  obtain ⟨m, h1, h2, -, h4⟩ := rgl_eq h c (Nat.le_refl _)
  have h32 := p32 h.1.2.1
  refine ⟨m, by omega, h2, fun b' hb' => (h4 b' hb').trans ⟨fun q => q.2, fun q => ⟨Nat.not_le.mp fun q2 => want_hi h.1 q2 hb' q.2.1, q⟩⟩⟩
theorem lol_eq {V : sV} {t m : Nat} (hm : m < 32) (hb : ∀ b', b' < 5 → (bitW (nI m) b' ↔ rgC V t b')) : ∀ b, b ≤ 5 → loL V t (nI m) b = (vbC V t b).1
  | 0, _ => rfl
  | b + 1, h => by
    rw [loL, lol_eq hm hb b (by omega)]
    by_cases e : rgC V t b
    · rw [(bit_10 m hm b (by omega)).1 ((hb b (by omega)).mpr e), vb_yes e, i32_mul1]
    · rw [(bit_10 m hm b (by omega)).2 (fun q => e ((hb b (by omega)).mp q)), vb_no e, i32_mul0, Int32.add_zero]
theorem ldl_u {V : sV} {cq : Nat → Nat} {t : Nat} (h : tnX V t (cq t)) : ldL V cq t = (vbC V t 5).1 := by
  obtain ⟨m, h1, h2, h4⟩ := rgl_all h
  show loL V t (rgL V t (V 4 t) (cq t)).1 5 = _
  rw [h2, lol_eq h1 h4 5 (Nat.le_refl _)]
theorem vb_bd {V : sV} {t c : Nat} (h : tnX V t c) : ∀ b, b ≤ 5 → Bd (vbC V t b).1 (9 * b) ∧ Bd (vbC V t b).2 (5 * b)
  | 0, _ => ⟨⟨0, Nat.le_refl _, rfl⟩, ⟨0, Nat.le_refl _, rfl⟩⟩
  | b + 1, hb => by
    obtain ⟨⟨x, hx, ex⟩, y, hy, ey⟩ := vb_bd h b (by omega)
    by_cases e : rgC V t b
    · obtain ⟨-, w, hw, ew⟩ := h.2.2 b (by omega)
      rw [vb_yes e, ex, ey, ew, rF_nat w (by omega)]
      exact ⟨⟨x + w, by omega, nI_add x w⟩, ⟨y + (w + 1) / 2, by omega, nI_add y ((w + 1) / 2)⟩⟩
    · rw [vb_no e]
      exact ⟨⟨x, by omega, ex⟩, ⟨y, by omega, ey⟩⟩
/-! heard -/
theorem mi_ab : ∀ x, x < 41 → ∀ y, y < 41 → (if nI x ≤ nI y then nI y - nI x else nI x - nI y) = abM (nI x - nI y) ∧ (if nI x ≤ nI y then nI y - nI x else nI x - nI y) = nI (if x ≤ y then y - x else x - y) := by decide +kernel
theorem sub_int {a b : Nat} (ha : a < 1000) (hb : b < 1000) : (nI a - nI b).toInt = (a : Int) - (b : Int) := by
  rw [Int32.toInt_sub, nI_toInt (by omega), nI_toInt (by omega)]
  exact Int.bmod_eq_of_le (by omega) (by omega)
theorem rc_hr {V : sV} {u : Nat → Int32} {k e : Nat} (h0k : Bd (V 0 k) 40) (h0e : Bd (V 0 e) 40) (h12 : Bd (V 12 0) 9) (hu : Bd (u k) 45) : rcL V u k e = hrM V u k e ∧ 0 ≤ (hrM V u k e).toInt := by
  obtain ⟨x, hx, ex⟩ := h0k
  obtain ⟨y, hy, ey⟩ := h0e
  obtain ⟨f, hf, ef⟩ := h12
  obtain ⟨a, ha, ea⟩ := hu
  obtain ⟨m1, m2⟩ := mi_ab x (by omega) y (by omega)
  have hm : miL V k e = abM (V 0 k - V 0 e) := by
    show (if V 0 k ≤ V 0 e then V 0 e - V 0 k else V 0 k - V 0 e) = _
    rw [ex, ey]; exact m1
  have hd : ∃ d, d ≤ 40 ∧ abM (V 0 k - V 0 e) = nI d := ⟨if x ≤ y then y - x else x - y, by split <;> omega, by rw [ex, ey, ← m1]; exact m2⟩
  obtain ⟨d, hd1, hd2⟩ := hd
  have hfd : f * d ≤ 9 * 40 := Nat.mul_le_mul hf hd1
  have eq1 : V 12 0 * abM (V 0 k - V 0 e) = nI (f * d) := by rw [hd2, ef]; exact pk_mul f d
  have hs := sub_int (a := a) (b := f * d) (by omega) (by omega)
  have e1 : rcL V u k e = if nI a ≤ nI (f * d) then 0 else nI a - nI (f * d) := by
    show (if u k ≤ V 12 0 * miL V k e then 0 else u k - V 12 0 * miL V k e) = _
    rw [hm, eq1, ea]
  have e2 : hrM V u k e = if nI a - nI (f * d) ≤ 0 then 0 else nI a - nI (f * d) := by
    show (if u k - V 12 0 * abM (V 0 k - V 0 e) ≤ 0 then 0 else u k - V 12 0 * abM (V 0 k - V 0 e)) = _
    rw [eq1, ea]
  rw [e1, e2]
  have hle : nI a ≤ nI (f * d) ↔ nI a - nI (f * d) ≤ 0 := by
    rw [le0, hs, nI_leI (by omega) (by omega)]; omega
  by_cases h : nI a - nI (f * d) ≤ 0
  · rw [if_pos h, if_pos (hle.mpr h)]; exact ⟨rfl, by decide⟩
  · rw [if_neg h, if_neg (fun q => h (hle.mp q))]
    refine ⟨rfl, ?_⟩
    rw [le0] at h
    omega
/-! who wins -/
def hdP (g : Nat → Int32) (n : Nat) (M L : Int32) : Prop := 0 ≤ M.toInt ∧ (∀ t, t < n → (g t).toInt ≤ M.toInt) ∧ ((L = -5 ∧ (M.toInt = 0 ∨ ∃ t1 t2, t1 < t2 ∧ t2 < n ∧ (g t1).toInt = M.toInt ∧ (g t2).toInt = M.toInt)) ∨ ∃ w, w < n ∧ L = nI w ∧ (g w).toInt = M.toInt ∧ 0 < M.toInt ∧ ∀ t, t < n → t ≠ w → (g t).toInt < M.toInt)
theorem bs_hd {V : sV} {u : Nat → Int32} {e : Nat} (hn : ∀ t, t < 6 → 0 ≤ (hrM V u t e).toInt) : ∀ n, n ≤ 6 → hdP (fun t => hrM V u t e) n (bsM V u e n).1 (bsM V u e n).2
  | 0, _ => ⟨by show 0 ≤ (0 : Int32).toInt; decide, fun t h => absurd h (Nat.not_lt_zero _), Or.inl ⟨rfl, Or.inl rfl⟩⟩
  | n + 1, h => by
    obtain ⟨a1, a2, a3⟩ := bs_hd hn n (by omega)
    have h0 := hn n (by omega)
    have a2 : ∀ t, t < n → (hrM V u t e).toInt ≤ (bsM V u e n).1.toInt := a2
    rw [bsM]
    by_cases h1 : hrM V u n e ≤ (bsM V u e n).1
    · rw [if_pos h1]
      rw [Int32.le_iff_toInt_le] at h1
      have hall : ∀ t, t < n + 1 → (hrM V u t e).toInt ≤ (bsM V u e n).1.toInt := fun t ht => by
        by_cases e1 : t = n
        · rw [e1]; exact h1
        · exact a2 t (by omega)
      by_cases h2 : hrM V u n e = (bsM V u e n).1
      · refine ⟨a1, hall, Or.inl ⟨if_pos h2, ?_⟩⟩
        have h2i : (hrM V u n e).toInt = (bsM V u e n).1.toInt := congrArg _ h2
        rcases a3 with ⟨-, q | ⟨t1, t2, b1, b2, b3, b4⟩⟩ | ⟨w, b1, b2, b3, b4, b5⟩
        · exact Or.inl q
        · exact Or.inr ⟨t1, t2, b1, by omega, b3, b4⟩
        · exact Or.inr ⟨w, n, b1, by omega, b3, h2i⟩
      · have h2i : (hrM V u n e).toInt < (bsM V u e n).1.toInt := by
          have : (hrM V u n e).toInt ≠ (bsM V u e n).1.toInt := fun q => h2 (Int32.toInt_inj.mp q)
          omega
        refine ⟨a1, hall, ?_⟩
        rcases a3 with ⟨q1, q | ⟨t1, t2, b1, b2, b3, b4⟩⟩ | ⟨w, b1, b2, b3, b4, b5⟩
        · exact Or.inl ⟨(if_neg h2).trans q1, Or.inl q⟩
        · exact Or.inl ⟨(if_neg h2).trans q1, Or.inr ⟨t1, t2, b1, by omega, b3, b4⟩⟩
        · refine Or.inr ⟨w, by omega, (if_neg h2).trans b2, b3, b4, fun t ht hne => ?_⟩
          by_cases e1 : t = n
          · rw [e1]; exact h2i
          · exact b5 t (by omega) hne
    · rw [if_neg h1]
      have h1i : (bsM V u e n).1.toInt < (hrM V u n e).toInt := Int32.lt_iff_toInt_lt.mp (Int32.not_le.mp h1)
      refine ⟨by show 0 ≤ (hrM V u n e).toInt; omega, fun t ht => ?_, Or.inr ⟨n, by omega, rfl, rfl, by show 0 < (hrM V u n e).toInt; omega, fun t ht hne => ?_⟩⟩
      · show (hrM V u t e).toInt ≤ (hrM V u n e).toInt
        by_cases e1 : t = n
        · rw [e1]; exact Int.le_refl _
        · have := a2 t (by omega); omega
      · show (hrM V u t e).toInt < (hrM V u n e).toInt
        have := a2 t (by omega); omega
theorem wn_bs {V : sV} {u : Nat → Int32} {e : Nat} (hr : ∀ t, t < 6 → rcL V u t e = hrM V u t e ∧ 0 ≤ (hrM V u t e).toInt) : wnL V u e 6 = (bsM V u e 6).2 := by
  obtain ⟨a1, a2, a3⟩ := bs_hd (V := V) (u := u) (e := e) (fun t ht => (hr t ht).2) 6 (Nat.le_refl _)
  have a2 : ∀ t, t < 6 → (hrM V u t e).toInt ≤ (bsM V u e 6).1.toInt := a2
  have hJ : ∀ k, k < 6 → (isJ V u e k 6 ↔ 0 < (hrM V u k e).toInt ∧ ∀ i, i < 6 → i ≠ k → (hrM V u i e).toInt < (hrM V u k e).toInt) := by
    intro k hk
    show (¬ rcL V u k e ≤ 0 ∧ ∀ i, i < 6 → (i = k ∨ rcL V u i e < rcL V u k e)) ↔ _
    rw [(hr k hk).1, le0]
    constructor
    · rintro ⟨q1, q2⟩
      refine ⟨by omega, fun i hi hne => ?_⟩
      have := (q2 i hi).resolve_left hne
      rw [(hr i hi).1] at this
      exact Int32.lt_iff_toInt_lt.mp this
    · rintro ⟨q1, q2⟩
      refine ⟨by omega, fun i hi => ?_⟩
      by_cases e1 : i = k
      · exact Or.inl e1
      · exact Or.inr (by rw [(hr i hi).1]; exact Int32.lt_iff_toInt_lt.mpr (q2 i hi e1))
  rcases a3 with ⟨q1, q2⟩ | ⟨w, b1, b2, b3, b4, b5⟩
  · rw [q1]
    refine wnL_no 6 (fun k hk hk2 => ?_)
    obtain ⟨c1, c2⟩ := (hJ k hk).mp hk2
    have hM := a2 k hk
    rcases q2 with q | ⟨t1, t2, d1, d2, d3, d4⟩
    · omega
    · have d3 : (hrM V u t1 e).toInt = (bsM V u e 6).1.toInt := d3
      have d4 : (hrM V u t2 e).toInt = (bsM V u e 6).1.toInt := d4
      by_cases e1 : t1 = k
      · have := c2 t2 d2 (by omega); omega
      · have := c2 t1 (by omega) e1; omega
  · have b3 : (hrM V u w e).toInt = (bsM V u e 6).1.toInt := b3
    have b5 : ∀ t, t < 6 → t ≠ w → (hrM V u t e).toInt < (bsM V u e 6).1.toInt := b5
    rw [b2]
    refine wnL_yes b1 (fun k' hk' hk2 => ?_) ((hJ w b1).mpr ⟨by omega, fun i hi hne => by have := b5 i hi hne; omega⟩) 6 b1
    obtain ⟨c1, c2⟩ := (hJ k' (by omega)).mp hk2
    have h1 := c2 w b1 (by omega)
    have h2 := b5 k' (by omega) (by omega)
    omega
/-! the loudest -/
theorem bsl_ld (u : Nat → Int32) : ∀ n, n ≤ 6 → (bsL u n = -5 ∧ ∀ t, t < n → (u t).toInt ≤ 0) ∨ ∃ w, w < n ∧ bsL u n = nI w ∧ 0 < (u w).toInt ∧ (∀ t, t < w → (u t).toInt < (u w).toInt) ∧ ∀ t, t < n → (u t).toInt ≤ (u w).toInt
  | 0, _ => Or.inl ⟨rfl, fun t h => absurd h (Nat.not_lt_zero _)⟩
  | n + 1, h => by
    have ih := bsl_ld u n (by omega)
    rw [bsL]
    by_cases h0 : u n ≤ 0
    · rw [if_pos h0]
      rw [le0] at h0
      rcases ih with ⟨a1, a2⟩ | ⟨w, b1, b2, b3, b4, b5⟩
      · refine Or.inl ⟨a1, fun t ht => ?_⟩
        by_cases e : t = n
        · rw [e]; exact h0
        · exact a2 t (by omega)
      · refine Or.inr ⟨w, by omega, b2, b3, b4, fun t ht => ?_⟩
        by_cases e : t = n
        · rw [e]; omega
        · exact b5 t (by omega)
    · rw [if_neg h0]
      rw [le0] at h0
      rcases ih with ⟨a1, a2⟩ | ⟨w, b1, b2, b3, b4, b5⟩
      · rw [a1, if_pos m5_lt]
        refine Or.inr ⟨n, by omega, rfl, by omega, fun t ht => ?_, fun t ht => ?_⟩
        · have := a2 t ht; omega
        · by_cases e : t = n
          · rw [e]; exact Int.le_refl _
          · have := a2 t (by omega); omega
      · rw [b2, if_neg (nI_pos (by omega)), nI_clamp (by omega)]
        by_cases h2 : u n ≤ u w
        · rw [if_pos h2]
          rw [Int32.le_iff_toInt_le] at h2
          refine Or.inr ⟨w, by omega, rfl, b3, b4, fun t ht => ?_⟩
          by_cases e : t = n
          · rw [e]; exact h2
          · exact b5 t (by omega)
        · rw [if_neg h2]
          have h2i := Int32.lt_iff_toInt_lt.mp (Int32.not_le.mp h2)
          refine Or.inr ⟨n, by omega, rfl, by omega, fun t ht => ?_, fun t ht => ?_⟩
          · have := b5 t ht; omega
          · by_cases e : t = n
            · rw [e]; exact Int.le_refl _
            · have := b5 t (by omega); omega
theorem bsl_ln (u : Nat → Int32) : bsL u 6 = lnM u 6 := by
  rcases bsl_ld u 6 (Nat.le_refl _) with ⟨a1, a2⟩ | ⟨w, b1, b2, b3, b4, b5⟩ <;> rcases ld_ref u 6 (Nat.le_refl _) with ⟨c1, c2⟩ | ⟨v, d0, d1, d2, d4, d5, d6⟩
  · rw [a1, c1]
  · have := a2 v d1; omega
  · have := c2 w (by omega) b1; omega
  · rw [b2, d2]
    have h1 := b5 v d1
    have h2 := d6 w (by omega) b1
    rcases Nat.lt_trichotomy w v with q | q | q
    · have := d5 w (by omega) q; omega
    · rw [q]
    · have := b4 v q; omega
