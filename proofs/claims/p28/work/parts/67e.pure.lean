/-! ===== what a state's checks need ===== -/
theorem hr_c {V : sV} {u u' : Nat → Int32} {t e : Nat} (h : u t = u' t) : hrM V u t e = hrM V u' t e := by
  show (if u t - V 12 0 * abM (V 0 t - V 0 e) ≤ 0 then 0 else u t - V 12 0 * abM (V 0 t - V 0 e)) = if u' t - V 12 0 * abM (V 0 t - V 0 e) ≤ 0 then 0 else u' t - V 12 0 * abM (V 0 t - V 0 e)
  rw [h]
theorem lk_win {V : sV} {cq : Nat → Nat} {B : Nat} (h : LI V cq B) (N : sV) (e : Nat) (he : e < 6) : forN V N 3 e = wnL V (ldL V cq) e 6 := by
  rw [(for_at h.1.1 N (u := ldL V cq) (fun t ht => h.ld t ht)).2.2.2.1 e he]
  exact (wn_all h.tnH he h.vol).symm
theorem lk_hrd {V : sV} {cq : Nat → Nat} {B : Nat} (h : LI V cq B) (N : sV) (k e : Nat) (hk : k < 6) (he : e < 6) : sndF V (forN V N 1) k e = rcL V (ldL V cq) k e := by
  rw [snd_eq, hr_c ((for_at h.1.1 N (u := ldL V cq) (fun t ht => h.ld t ht)).2.1 k hk)]
  exact (rc_hr (h.2.1 k hk) (h.2.1 e he) h.2.2.2.2.2 (h.vol k hk)).1.symm
theorem lk_lou {V : sV} {cq : Nat → Nat} {B : Nat} (h : LI V cq B) (N : sV) (k : Nat) (hk : k < 6) : forN V N 1 k = loL V k (rgL V k (V 4 k) (cq k)).1 5 :=
  (for_at h.1.1 N (u := ldL V cq) (fun t ht => h.ld t ht)).2.1 k hk
theorem five_ge {x : Int32} : ¬ x < 6 ↔ ¬ x ≤ 5 := by
  rw [Int32.lt_iff_toInt_lt, Int32.le_iff_toInt_le, show (6 : Int32).toInt = 6 by decide, show (5 : Int32).toInt = 5 by decide]
  omega
theorem lk_rsn {V : sV} {cq : Nat → Nat} {B : Nat} (h : LI V cq B) (N : sV) (k i : Nat) (hk : k < 6) (hi : i < cq k) : forN V N 0 (k * 5 + i) = rsL V k (rgL V k (V 4 k) (cq k)).1 i := by
  have hc5 := (h.cnt k hk).2
  rw [(for_at h.1.1 N (u := ldL V cq) (fun t ht => h.ld t ht)).1 _ (by omega), show (k * 5 + i) / 5 = k by omega, show (k * 5 + i) % 5 = i by omega]
  obtain ⟨m, m1, m2, m3⟩ := rgl_all (h.tnX k hk)
  rw [m2]
  have hw := want_lo (h.1.1 k hk) hi
  by_cases h1 : V 6 k ≤ 0
  · have k1 : ¬ ¬ V 6 k ≤ 0 := fun q => q h1
    rw [rsC, rsL, if_neg k1, if_neg k1]
    by_cases h2 : bitW (wantC V k) i
    · have k2 : ¬ ¬ bitW (wantC V k) i := fun q => q h2
      have j2 : ¬ ¬ (feL V k ∨ bitW (V 4 k) i) := fun q => q (hw.mp h2)
      rw [if_neg k2, if_neg j2]
      by_cases h3 : V 10 (k * 5 + i) < 6
      · have k3 : ¬ ¬ V 10 (k * 5 + i) < 6 := fun q => q h3
        have j3 : ¬ ¬ V 10 (k * 5 + i) ≤ 5 := fun q => five_ge.mpr q h3
        rw [if_neg k3, if_neg j3]
        by_cases h4 : rF (V 9 (k * 5 + i)) ≤ resT V k - (vbC V k i).2
        · have hr : rgC V k i := ⟨h1, h2, h3, h4⟩
          have hb := (m3 i (by omega)).mpr hr
          have k4 : ¬ ¬ rF (V 9 (k * 5 + i)) ≤ resT V k - (vbC V k i).2 := fun q => q h4
          have j4 : ¬ ((nI m >>> (nI i &&& 31)) &&& 1 = 0) := fun q => (bit_no m m1 i (by omega)).mp q hb
          rw [if_neg k4, if_neg j4]
        · have hb : ¬ bitW (nI m) i := fun q => h4 ((m3 i (by omega)).mp q).2.2.2
          have j4 : (nI m >>> (nI i &&& 31)) &&& 1 = 0 := (bit_no m m1 i (by omega)).mpr hb
          rw [if_pos h4, if_pos j4]
      · have j3 : ¬ V 10 (k * 5 + i) ≤ 5 := five_ge.mp h3
        rw [if_pos h3, if_pos j3]
    · have j2 : ¬ (feL V k ∨ bitW (V 4 k) i) := fun q => h2 (hw.mpr q)
      rw [if_pos h2, if_pos j2]
  · rw [rsC, rsL, if_pos h1, if_pos h1]
theorem lk_brk {V : sV} {cq : Nat → Nat} {B : Nat} (h : LI V cq B) : cntF (fun j => ¬ V 10 j < 6) 30 = brO V cq 6 := by
  have key : ∀ k, k ≤ 6 → cntF (fun j => ¬ V 10 j < 6) (k * 5) = brO V cq k := by
    intro k
    induction k with
    | zero => intro _; rfl
    | succ k ih =>
      intro hk
      have hc5 := (h.cnt k (by omega)).2
      have ih := ih (by omega)
      have inner : ∀ i, i ≤ 5 → cntF (fun j => ¬ V 10 j < 6) (k * 5 + i) = brI V k (brO V cq k) (min i (cq k)) := by
        intro i
        induction i with
        | zero => intro _; rw [Nat.zero_min]; exact ih
        | succ i ih2 =>
          intro hi
          have ih2 := ih2 (by omega)
          have h10 := h.1.2.2.2.1 k i (by omega) (by omega)
          rw [show k * 5 + (i + 1) = (k * 5 + i) + 1 by omega, cntF, ih2]
          by_cases hc : i < cq k
          · rw [show min (i + 1) (cq k) = i + 1 by omega, show min i (cq k) = i by omega, brI]
            by_cases h6 : V 10 (k * 5 + i) < 6
            · rw [if_neg (fun q => q h6), if_neg (fun q => (six_eq h10.2).mp q h6), Int32.add_zero]
            · rw [if_pos h6, if_pos ((six_eq h10.2).mpr h6)]
          · rw [show min (i + 1) (cq k) = cq k by omega, show min i (cq k) = cq k by omega]
            have h0 := (h.1.2.2.2.2.1 k i (by omega) (by omega) (by omega)).2.1
            rw [if_neg (fun q => q (by rw [h0]; decide))]
      have := inner 5 (Nat.le_refl _)
      rw [show (k + 1) * 5 = k * 5 + 5 by omega, this, show min 5 (cq k) = cq k by omega]
      rfl
  exact key 6 (Nat.le_refl _)
theorem lk_sil (V : sV) : ∀ n, cntF (fun j => ¬ V 6 j ≤ 0) n = siL V n
  | 0 => rfl
  | n + 1 => by
    rw [cntF, siL, lk_sil V n]
    by_cases h : V 6 n ≤ 0
    · rw [if_neg (fun q => q h), if_pos h, Int32.add_zero]
    · rw [if_pos h, if_neg h]
theorem toInt_nI {x : Int32} {m : Nat} (h0 : 0 ≤ x.toInt) (h1 : x.toInt ≤ m) (hm : m < 2 ^ 31) : ∃ n, n ≤ m ∧ x = nI n := by
  refine ⟨x.toInt.toNat, by omega, ?_⟩
  apply Int32.toInt_inj.mp
  rw [nI_toInt (by omega)]
  omega
theorem sum_nn' {V : sV} {B : Nat} (h : ∀ t, t < 6 → 0 ≤ (V 7 t).toInt ∧ (V 7 t).toInt ≤ B) (hB : B ≤ 700000) : ∀ n, n ≤ 6 → Bd (sumF (V 7) n) (n * B)
  | 0, _ => ⟨0, by omega, rfl⟩
  | n + 1, hn => by
    obtain ⟨x, hx, ex⟩ := sum_nn' h hB n (by omega)
    obtain ⟨y, hy, ey⟩ := toInt_nI (h n (by omega)).1 (h n (by omega)).2 (by omega)
    refine ⟨x + y, by rw [Nat.add_mul, Nat.one_mul]; omega, ?_⟩
    show sumF (V 7) n + V 7 n = _
    rw [ex, ey]
    exact nI_add x y
theorem lk_shr {V : sV} {cq : Nat → Nat} {B : Nat} (h : LI V cq B) (hB : B ≤ 700000) (k : Nat) (hk : k < 6) (h0 : ¬ sumF (V 7) 6 = 0) : isNaN64 (FP.ddiv (FP.i2d (V 7 k)) (FP.i2d (sumF (V 7) 6))) = false := by
  obtain ⟨x, hx, ex⟩ := sum_nn' h.1.2.2.1 hB 6 (Nat.le_refl _)
  obtain ⟨y, hy, ey⟩ := toInt_nI (h.1.2.2.1 k hk).1 (h.1.2.2.1 k hk).2 (by omega)
  rw [ex] at h0 ⊢
  rw [ey]
  exact shr_ok (by omega) (by omega) (fun q => h0 (by rw [q]; rfl))
theorem li_LKn {V : sV} {cq : Nat → Nat} {B : Nat} (h : LI V cq B) (hB : B ≤ 700000) : LKn V cq :=
  ⟨lk_win h, lk_hrd h, lk_lou h, lk_rsn h, lk_brk h, lk_sil V 6, lk_shr h hB⟩
/-! plans -/
theorem rgL_4 {V V' : sV} (h : ∀ k j, k ≠ 4 → V' k j = V k j) (t : Nat) (p : Int32) : ∀ b, rgL V' t p b = rgL V t p b
  | 0 => by show (0, V' 1 t - V' 2 t) = (0, V 1 t - V 2 t); rw [h 1 t (by decide), h 2 t (by decide)]
  | b + 1 => by
    have e : feL V' t ↔ feL V t := by
      show V' 12 2 - V' 12 2 / 7 * 7 = V' 5 t ↔ V 12 2 - V 12 2 / 7 * 7 = V 5 t
      rw [h 12 2 (by decide), h 5 t (by decide)]
    rw [rgL, rgL, rgL_4 h t p b, h 10 _ (by decide), h 9 _ (by decide), h 6 _ (by decide)]
    by_cases hc : V 6 t = 0 ∧ (feL V t ∨ bitW p b) ∧ ¬ V 10 (t * 5 + b) = 6 ∧ ¬ (rgL V t p b).2 < tkL (V 9 (t * 5 + b))
    · rw [if_pos hc, if_pos ⟨hc.1, hc.2.1.imp e.mpr id, hc.2.2⟩]
    · rw [if_neg hc, if_neg (fun q => hc ⟨q.1, q.2.1.imp e.mp id, q.2.2⟩)]
theorem loL_4 {V V' : sV} (h : ∀ k j, k ≠ 4 → V' k j = V k j) (t : Nat) (s : Int32) : ∀ b, loL V' t s b = loL V t s b
  | 0 => rfl
  | b + 1 => by rw [loL, loL, loL_4 h t s b, h 9 _ (by decide)]
theorem wnL_4 {V V' : sV} (h : ∀ k j, k ≠ 4 → V' k j = V k j) (u : Nat → Int32) (e : Nat) : ∀ n, wnL V' u e n = wnL V u e n
  | 0 => rfl
  | n + 1 => by
    have er : ∀ k, rcL V' u k e = rcL V u k e := fun k => by
      show (if u k ≤ V' 12 0 * (if V' 0 k ≤ V' 0 e then V' 0 e - V' 0 k else V' 0 k - V' 0 e) then 0 else u k - V' 12 0 * (if V' 0 k ≤ V' 0 e then V' 0 e - V' 0 k else V' 0 k - V' 0 e)) = if u k ≤ V 12 0 * (if V 0 k ≤ V 0 e then V 0 e - V 0 k else V 0 k - V 0 e) then 0 else u k - V 12 0 * (if V 0 k ≤ V 0 e then V 0 e - V 0 k else V 0 k - V 0 e)
      rw [h 12 0 (by decide), h 0 k (by decide), h 0 e (by decide)]
    have ej : isJ V' u e n 6 ↔ isJ V u e n 6 := by
      show (¬ rcL V' u n e ≤ 0 ∧ ∀ i, i < 6 → (i = n ∨ rcL V' u i e < rcL V' u n e)) ↔ (¬ rcL V u n e ≤ 0 ∧ ∀ i, i < 6 → (i = n ∨ rcL V u i e < rcL V u n e))
      constructor
      · rintro ⟨q1, q2⟩
        exact ⟨by rw [← er]; exact q1, fun i hi => by rw [← er i, ← er n]; exact q2 i hi⟩
      · rintro ⟨q1, q2⟩
        exact ⟨by rw [er]; exact q1, fun i hi => by rw [er i, er n]; exact q2 i hi⟩
    rw [wnL, wnL, wnL_4 h u e n]
    by_cases hj : isJ V u e n 6
    · rw [if_pos hj, if_pos (ej.mpr hj)]
    · rw [if_neg hj, if_neg (fun q => hj (ej.mp q))]
theorem pl_4 (V : sV) (k : Nat) (p : Int32) : ∀ r j, r ≠ 4 → up2 V 4 k p r j = V r j := fun r j hr => up2_ne (by omega)
theorem ld_plan (V : sV) (cq : Nat → Nat) (k p : Nat) : ldL (up2 V 4 k (nI p)) cq = uP V cq k p := by
  funext t
  show loL (up2 V 4 k (nI p)) t (rgL (up2 V 4 k (nI p)) t (up2 V 4 k (nI p) 4 t) (cq t)).1 5 = if t = k then loL V k (rgL V k (nI p) (cq k)).1 5 else ldL V cq t
  rw [loL_4 (pl_4 V k (nI p)), rgL_4 (pl_4 V k (nI p)), up2_if]
  by_cases e : t = k
  · subst e; rw [if_pos ⟨rfl, rfl⟩, if_pos rfl]
  · rw [if_neg (fun q => e q.2), if_neg e]
theorem pt_eq {V : sV} {cq : Nat → Nat} {B k p : Nat} (h : LI V cq B) (hk : k < 6) (hp : p < 2 ^ cq k) (N : sV) : ∀ n, n ≤ 6 → cntF (fun e => forN (up2 V 4 k (nI p)) N 3 e = nI k) n = ptL V (uP V cq k p) k n
  | 0, _ => rfl
  | n + 1, hn => by
    have e : forN (up2 V 4 k (nI p)) N 3 n = wnL V (uP V cq k p) n 6 := by
      rw [lk_win (li_plan h hk hp) N n (by omega), ld_plan, wnL_4 (pl_4 V k (nI p))]
    rw [cntF, ptL, pt_eq h hk hp N n (by omega), e]
    by_cases hq : wnL V (uP V cq k p) n 6 = nI k
    · rw [if_pos hq, if_pos hq]
    · rw [if_neg hq, if_neg hq, Int32.add_zero]
theorem vol_eq {V : sV} {cq : Nat → Nat} {B k p : Nat} (h : LI V cq B) (hk : k < 6) (hp : p < 2 ^ cq k) (N : sV) : forN (up2 V 4 k (nI p)) N 1 k = uP V cq k p k := by
  rw [← ld_plan]
  exact lk_lou (li_plan h hk hp) N k hk
theorem pt_nat (V : sV) (u : Nat → Int32) (k : Nat) : ∀ n, n ≤ 6 → ∃ a, a ≤ n ∧ ptL V u k n = nI a
  | 0, _ => ⟨0, Nat.le_refl _, rfl⟩
  | n + 1, h => by
    obtain ⟨a, h1, h2⟩ := pt_nat V u k n (by omega)
    rw [ptL, h2]
    split
    · exact ⟨a + 1, by omega, nI_add a 1⟩
    · exact ⟨a, by omega, Int32.add_zero _⟩
/-- the points and the volume of each plan, as numbers -/
theorem plan_nums {V : sV} {cq : Nat → Nat} {B k : Nat} (h : LI V cq B) (hk : k < 6) : ∃ a v : Nat → Nat, ∀ p, p < 2 ^ cq k → a p ≤ 6 ∧ v p ≤ 45 ∧ ptP V cq k p = nI (a p) ∧ uP V cq k p k = nI (v p) := by
  have hv : ∀ p, ∃ x : Nat × Nat, p < 2 ^ cq k → x.1 ≤ 6 ∧ x.2 ≤ 45 ∧ ptP V cq k p = nI x.1 ∧ uP V cq k p k = nI x.2 := by
    intro p
    by_cases hp : p < 2 ^ cq k
    · obtain ⟨a, a1, a2⟩ := pt_nat V (uP V cq k p) k 6 (Nat.le_refl _)
      obtain ⟨v, v1, v2⟩ := (li_plan h hk hp).vol k hk
      rw [ld_plan] at v2
      exact ⟨(a, v), fun _ => ⟨a1, v1, a2, v2⟩⟩
    · exact ⟨(0, 0), fun q => absurd q hp⟩
  exact ⟨fun p => (Classical.choose (hv p)).1, fun p => (Classical.choose (hv p)).2, fun p hp => Classical.choose_spec (hv p) hp⟩
/-- the best of some plans: the most points, then the least volume, then the least mask -/
def bstP (a v : Nat → Nat) (lo hi b : Nat) : Prop := lo ≤ b ∧ b < hi ∧ ∀ p, lo ≤ p → p < hi → (a p < a b ∨ (a p = a b ∧ v b < v p)) ∨ (a p = a b ∧ v p = v b ∧ b ≤ p)
theorem bst_one (a v : Nat → Nat) {lo hi q : Nat} (h1 : lo ≤ q) (h2 : q < hi) (h : ∀ p, lo ≤ p → p < hi → p = q) : bstP a v lo hi q :=
  ⟨h1, h2, fun p hp1 hp2 => by
    have e := h p hp1 hp2
    rw [e]
    exact Or.inr ⟨rfl, rfl, Nat.le_refl _⟩⟩
theorem bst_uniq {a v : Nat → Nat} {lo hi b b' : Nat} (h : bstP a v lo hi b) (h' : bstP a v lo hi b') : b = b' := by
  have h1 := h.2.2 b' h'.1 h'.2.1
  have h2 := h'.2.2 b h.1 h.2.1
  omega
theorem asc_bst {V : sV} {cq : Nat → Nat} {B k : Nat} (h : LI V cq B) (hk : k < 6) {a v : Nat → Nat} (hn : ∀ p, p < 2 ^ cq k → a p ≤ 6 ∧ v p ≤ 45 ∧ ptP V cq k p = nI (a p) ∧ uP V cq k p k = nI (v p)) (N : sV) : ∀ i, i < 2 ^ cq k → (bpS V N k i).2.1 = up2 V 4 k (nI i) ∧ ∃ b, bstP a v 0 (i + 1) b ∧ (bpS V N k i).1 = (nI b, nI (a b), nI (v b))
  | 0, h0 => by
    refine ⟨rfl, 0, bst_one a v (by omega) (by omega) (fun p _ hp => by omega), ?_⟩
    have e1 : cntF (fun e => forN (up2 V 4 k 0) N 3 e = nI k) 6 = nI (a 0) := (pt_eq h hk (p := 0) h0 N 6 (Nat.le_refl _)).trans (hn 0 h0).2.2.1
    have e2 : forN (up2 V 4 k 0) N 1 k = nI (v 0) := (vol_eq h hk (p := 0) h0 N).trans (hn 0 h0).2.2.2
    show (0, cntF (fun e => forN (up2 V 4 k 0) N 3 e = nI k) 6, forN (up2 V 4 k 0) N 1 k) = _
    rw [e1, e2]
    rfl
  | i + 1, hi => by
    obtain ⟨e1, b, ⟨-, b1, b2⟩, e2⟩ := asc_bst h hk hn N i (by omega)
    have eU : up2 (bpS V N k i).2.1 4 k (nI (i + 1)) = up2 V 4 k (nI (i + 1)) := by rw [e1, up2_twice]
    refine ⟨eU, ?_⟩
    obtain ⟨a1, a2, a3, a4⟩ := hn (i + 1) hi
    obtain ⟨c1, c2, -, -⟩ := hn b (by omega)
    have p1 : cntF (fun e => forN (up2 V 4 k (nI (i + 1))) (bpS V N k i).2.2 3 e = nI k) 6 = nI (a (i + 1)) := (pt_eq h hk hi _ 6 (Nat.le_refl _)).trans a3
    have p2 : forN (up2 V 4 k (nI (i + 1))) (bpS V N k i).2.2 1 k = nI (v (i + 1)) := (vol_eq h hk hi _).trans a4
    have e3 : (bpS V N k (i + 1)).1 = if nI (a b) < nI (a (i + 1)) then (nI (i + 1), nI (a (i + 1)), nI (v (i + 1))) else if nI (a (i + 1)) = nI (a b) then (if nI (v b) ≤ nI (v (i + 1)) then (nI b, nI (a b), nI (v b)) else (nI (i + 1), nI (a (i + 1)), nI (v (i + 1)))) else (nI b, nI (a b), nI (v b)) := by
      rw [bpS]
      dsimp only
      rw [eU, p1, p2, e2]
    have ltc := nI_ltI (a := a b) (b := a (i + 1)) (by omega) (by omega)
    have eqc := nI_eq (a := a (i + 1)) (b := a b) (by omega) (by omega)
    have lec := nI_leI (a := v b) (b := v (i + 1)) (by omega) (by omega)
    have new : (a b < a (i + 1) ∨ (a b = a (i + 1) ∧ v (i + 1) < v b)) → bstP a v 0 (i + 1 + 1) (i + 1) := fun q => ⟨by omega, by omega, fun p _ hp => by
      by_cases e : p = i + 1
      · subst e; exact Or.inr ⟨rfl, rfl, Nat.le_refl _⟩
      · have := b2 p (by omega) (by omega); omega⟩
    have old : ¬ (a b < a (i + 1) ∨ (a b = a (i + 1) ∧ v (i + 1) < v b)) → bstP a v 0 (i + 1 + 1) b := fun q => ⟨by omega, by omega, fun p _ hp => by
      by_cases e : p = i + 1
      · subst e; omega
      · have := b2 p (by omega) (by omega); omega⟩
    rw [e3]
    by_cases h1 : a b < a (i + 1)
    · rw [if_pos (ltc.mpr h1)]
      exact ⟨i + 1, new (Or.inl h1), rfl⟩
    · rw [if_neg (fun q => h1 (ltc.mp q))]
      by_cases h2 : a (i + 1) = a b
      · rw [if_pos (eqc.mpr h2)]
        by_cases h3 : v b ≤ v (i + 1)
        · rw [if_pos (lec.mpr h3)]
          exact ⟨b, old (by omega), rfl⟩
        · rw [if_neg (fun q => h3 (lec.mp q))]
          exact ⟨i + 1, new (Or.inr ⟨h2.symm, by omega⟩), rfl⟩
      · rw [if_neg (fun q => h2 (eqc.mp q))]
        exact ⟨b, old (by omega), rfl⟩
theorem own_int {a v : Nat} (ha : a ≤ 6) (hv : v ≤ 45) : ((100 : Int32) * nI a - nI v).toInt = 100 * (a : Int) - (v : Int) := by
  have e : (100 : Int32) * nI a = nI (100 * a) := pk_mul 100 a
  rw [e, sub_int (by omega) (by omega)]
  omega
theorem desc_bst {V : sV} {cq : Nat → Nat} {k : Nat} (h32 : 2 ^ cq k ≤ 32) {a v : Nat → Nat} (hn : ∀ p, p < 2 ^ cq k → a p ≤ 6 ∧ v p ≤ 45 ∧ ptP V cq k p = nI (a p) ∧ uP V cq k p k = nI (v p)) : ∀ i, i ≤ 2 ^ cq k → (i = 0 ∧ (bpL V cq k i).1 = -5) ∨ ∃ b, bstP a v (2 ^ cq k - i) (2 ^ cq k) b ∧ (bpL V cq k i).1 = nI b ∧ (bpL V cq k i).2.toInt = 100 * (a b : Int) - (v b : Int)
  | 0, _ => Or.inl ⟨rfl, rfl⟩
  | i + 1, hi => by
    have ih := desc_bst h32 hn i (by omega)
    generalize hq : 2 ^ cq k - 1 - i = q
    have hq2 : q < 2 ^ cq k := by omega
    obtain ⟨a1, a2, a3, a4⟩ := hn q hq2
    have eo : owP V cq k q = 100 * nI (a q) - nI (v q) := by
      show 100 * ptP V cq k q - uP V cq k q k = _
      rw [a3, a4]
    have eoi := own_int a1 a2
    refine Or.inr ?_
    rw [bpL, hq, eo]
    rcases ih with ⟨e0, e1⟩ | ⟨b, ⟨b0, b1, b2⟩, e1, e2⟩
    · subst e0
      rw [if_pos (Or.inl (by rw [e1]; exact m5_lt))]
      exact ⟨q, bst_one a v (by omega) hq2 (fun p hp1 hp2 => by omega), rfl, eoi⟩
    · obtain ⟨c1, c2, -, -⟩ := hn b b1
      by_cases hlt : 100 * nI (a q) - nI (v q) < (bpL V cq k i).2
      · rw [if_neg (fun z => z.elim (fun z1 => absurd z1 (by rw [e1]; exact nI_pos (by omega))) (fun z1 => z1 hlt))]
        rw [Int32.lt_iff_toInt_lt, eoi, e2] at hlt
        refine ⟨b, ⟨by omega, b1, fun p hp1 hp2 => ?_⟩, e1, e2⟩
        by_cases e : p = q
        · subst e; omega
        · have := b2 p (by omega) hp2; omega
      · rw [if_pos (Or.inr hlt)]
        rw [Int32.lt_iff_toInt_lt, eoi, e2] at hlt
        refine ⟨q, ⟨by omega, hq2, fun p hp1 hp2 => ?_⟩, rfl, eoi⟩
        by_cases e : p = q
        · subst e; exact Or.inr ⟨rfl, rfl, Nat.le_refl _⟩
        · have := b2 p (by omega) hp2
          omega
theorem li_LKp {V : sV} {cq : Nat → Nat} {B k : Nat} (h : LI V cq B) (hk : k < 6) : LKp V cq k := by
  have h32 := p32 (h.cnt k hk).2
  have hpos : 0 < 2 ^ cq k := Nat.pos_of_ne_zero (by simp)
  refine ⟨?_, fun N p hp => ⟨pt_eq h hk hp N 6 (Nat.le_refl _), plE_nat hk (h.cnt k hk).1 (h.cnt k hk).2 hp⟩, fun N => ?_⟩
  · rw [sh1_nat (h.cnt k hk).1 (h.cnt k hk).2]
    have e : plE V (nI k) k (nI (2 ^ cq k)) = if nI (2 ^ cq k) ≤ evB V k then 0 else -2 := by
      unfold plE
      rw [if_pos (isT_nI hk), if_neg (nI_pos (by omega))]
    rw [e, evB_nat (h.cnt k hk).1 (h.cnt k hk).2, if_neg (fun q => absurd ((nI_leI (by omega) (by omega)).mp q) (by omega))]
  · obtain ⟨a, v, hn⟩ := plan_nums h hk
    obtain ⟨-, b, hb, eb⟩ := asc_bst h hk hn N (2 ^ cq k - 1) (by omega)
    rcases desc_bst h32 hn (2 ^ cq k) (Nat.le_refl _) with ⟨e0, -⟩ | ⟨b', hb', eb', -⟩
    · omega
    · rw [show 2 ^ cq k - 1 + 1 = 2 ^ cq k by omega] at hb
      rw [Nat.sub_self] at hb'
      rw [eb, eb', bst_uniq hb hb']
