/-! ===== THE LAW'S ENTRY: the classes by the tables; the law's own rows; how two doubles of one number compare ===== -/
theorem kq_of {s : State} {av : Array Value} (hts : ∀ w ∈ lw_tbl, w.before av s = true) : ∃ g : gx, kq g s := by
  have ht : ∀ w ∈ wsL_law, w.before av s = true := fun w h => hts w (aw_in w h)
  obtain ⟨c0, i0, k0⟩ := u_known (C := RX0) (T := TX0) (N := 3) (n := 3) ht inX0 (ht _ q1_99)
  obtain ⟨c1, i1, k1⟩ := u_known (C := RX1) (T := TX1) (N := 5) (n := 5) ht inX1 (ht _ q1_119)
  obtain ⟨c2, i2, k2⟩ := u_known (C := RX2) (T := TX2) (N := 2) (n := 2) ht inX2 (ht _ q1_148)
  obtain ⟨c3, i3, k3⟩ := u_known (C := RX3) (T := TX3) (N := 17) (n := 17) ht inX3 (ht _ q1_18)
  obtain ⟨c4, i4, k4⟩ := u_known (C := RX4) (T := TX4) (N := 7) (n := 7) ht inX4 (ht _ q1_10)
  obtain ⟨c5, i5, k5⟩ := u_known (C := RX5) (T := TX5) (N := 14) (n := 14) ht inX5 (ht _ q3_16)
  obtain ⟨aI, kI, pI, n1, n2, n3⟩ := Cond.arrayClass_spec (ht _ q1_97)
  obtain ⟨aC, kC, pC, m1, m2, m3⟩ := Cond.arrayClass_spec (ht _ q1_161)
  have hAO : va_AO "BellTowns$Valley" s := va_AO.of (hts _ q1_105)
  obtain ⟨cp, aV, kV, o1, o2, o3, o4, o5⟩ := Cond.arrayOver_spec hAO
  have hN : nxt s := ⟨va_Nw.of rfl (hts _ q1_120), va_Nw.of rfl (hts _ q1_149), va_Nw.of rfl (hts _ q2_76), va_Nw.of rfl (hts _ q2_77), va_Nw.of rfl (hts _ q1_231), va_Nw.of rfl (hts _ q1_216)⟩
  obtain ⟨D, hD⟩ : ∃ D : va_G, ∀ (k : Nat) (q : vw_C), vwCl[k]? = some q → u_Kn s q.1 q.2.1 q.2.2 (D.1 k) (D.2 k) := by
    refine ⟨(fun k => if k = 0 then c0 else if k = 1 then c1 else if k = 2 then c2 else if k = 3 then c3 else if k = 4 then c4 else c5, fun k => if k = 0 then i0 else if k = 1 then i1 else if k = 2 then i2 else if k = 3 then i3 else if k = 4 then i4 else i5), ?_⟩
    intro k q hq
    match k, hq with
    | 0, hq => cases hq; exact k0
    | 1, hq => cases hq; exact k1
    | 2, hq => cases hq; exact k2
    | 3, hq => cases hq; exact k3
    | 4, hq => cases hq; exact k4
    | 5, hq => cases hq; exact k5
    | k + 6, hq => simp [vwCl] at hq
  refine ⟨(D, aI, aC, aV), ⟨⟨hD, fun k q hq => ?_⟩, hN⟩, hAO⟩
  match k, hq with
  | 0, hq => cases hq; exact ⟨fun N z => ⟨fun k h => (by cases h), kI, n2, pI, n3⟩, n1⟩
  | 1, hq => cases hq; exact ⟨fun N z => ⟨fun k h => (by cases h), kC, m2, pC, m3⟩, m1⟩
  | 2, hq => cases hq; exact ⟨fun N z => ⟨fun k h => (by cases h), kV, o3, cp, o4⟩, kV, cp, o3, o4, o1, o5⟩
  | k + 3, hq => simp [gtys] at hq
theorem ent_dr {p : Program} {s : State} {m : MethodId} {meth : Method} {c : Code} {y : MethodName} {b : ByteArray} {n : Nat} {ty : Option FieldType} {av : List Value} (E : ent p s m meth c y b n ty av) (d : Drawn) : ent p (s.setDrawn d) m meth c y b n ty av :=
  ⟨E.1, E.2.1, E.2.2.1, E.2.2.2.1, dr_words E.2.2.2.2.1 d, E.2.2.2.2.2.1, E.2.2.2.2.2.2.1, E.2.2.2.2.2.2.2⟩
theorem kq_dr {g : gx} {s : State} (h : kq g s) (d : Drawn) : kq g (s.setDrawn d) := h.same rfl
/-- the script's int j places behind the call's first -/
theorem lw_arg {p : Program} {l : Launch} {e : Env} {R : Room} {s : State} {m : MethodId} {args : Array Value} {below : List Frame} {meth : Method} {c : Code} {H H0 : Heap} {locs : List Loc} {cells slots : Nat} {Q : State → Prop} {pc : Nat} {ls : Array Slot} {rest : List Value} {A : Nat → Prop} {b h h2 i L : Nat} {xs : Nat → Int32}
    (hx : p.tables.exec = Jvm.exec) (hb : c.code = code) (hX : va_X b L xs s H0) (hbl : b < H0.size) (hbA : ¬ A b) (hS : va_S A H0 H locs) (hl : lv_has ls 8 [(0, .ref b), (1, .ref h), (2, .ref h2), (3, .int (nI i))]) (j : Nat) {n : Int} (hn : Int32.ofInt n = nI j) {v : Int32} (hv : xs (i + j) = v) (hij : i + j < L) (hL : L ≤ 2048)
    (d1 : decode code pc = .ok (.aload_n 0, 1)) (d2 : decode code (pc + 1) = .ok (.iload_n 3, 1)) (d3 : decode code (pc + 2) = .ok (.iconst n, 1)) (d4 : decode code (pc + 3) = .ok (.iadd, 1)) (d5 : decode code (pc + 4) = .ok (.iaload, 1))
    (kk : W p l e R s m args below meth c H locs cells slots Q (F0 m (pc + 5) ls (.int v :: rest))) : W p l e R s m args below meth c H locs cells slots Q (F0 m pc ls rest) := by
  refine lv_aload_n hx hb d1 rfl (lv_at hl 0 rfl) ?_
  refine lv_iload_n hx hb d2 rfl (lv_at hl 3 rfl) ?_
  refine lv_iconst (v := nI j) hx hb d3 hn ?_
  refine lv_iadd hx hb d4 ?_
  refine b_top (y := nI (i + j)) (nI_add i j) ?_
  refine va_sld hx hb hX hbl hbA hS (vp_in_nI hij (by omega)) d5 ?_
  rw [nI_clamp (by omega), hv]
  exact kk
/-- which of 32 calls -/
theorem and31 (x : Int32) : ∃ j : Nat, j < 32 ∧ x &&& 31 = nI j := by
  refine ⟨(x &&& 31).toBitVec.toNat, ?_, ?_⟩
  · have h : (x &&& 31).toBitVec.toNat = x.toBitVec.toNat &&& 31 := by
      rw [Int32.toBitVec_and, BitVec.toNat_and]; rfl
    have h2 : x.toBitVec.toNat &&& 31 ≤ 31 := Nat.and_le_right
    omega
  · apply Int32.toBitVec_inj.mp
    show (x &&& 31).toBitVec = BitVec.ofNat 32 (x &&& 31).toBitVec.toNat
    rw [BitVec.ofNat_toNat, BitVec.setWidth_eq]
/-- a row of 149 numbers is the row of a state -/
def unR (r : Nat → Int32) : sV := fun k j => if k = 12 then r j else if k < 9 then r (5 + 24 * j + k) else r (5 + 24 * (j / 5) + (9 + 5 * (k - 9) + j % 5))
theorem row_un (r : Nat → Int32) (p : Nat) : rowOf (unR r) p = r p := by
  unfold rowOf
  by_cases h5 : p < 5
  · rw [if_pos h5]; unfold unR; rw [if_pos rfl]
  · rw [if_neg h5]
    by_cases h9 : (p - 5) % 24 < 9
    · rw [if_pos h9]; unfold unR; rw [if_neg (by omega), if_pos h9]
      congr 1; omega
    · rw [if_neg h9]; unfold unR
      rw [if_neg (by omega), if_neg (by omega)]
      congr 1; omega
/-- a double beside itself: equal, or not to be compared -/
theorem dcmp_self (x : UInt64) : Op.cmpValue (FP.dcmp x x) .l = 0 ∨ Op.cmpValue (FP.dcmp x x) .l = -1 := by
  have key : ∀ d : FP.Core.Datum, FP.Core.order d d = none ∨ FP.Core.order d d = some .eq := by
    intro d
    cases d with
    | nan => exact Or.inl rfl
    | inf s => exact Or.inr (by simp [FP.Core.order])
    | fin s c q => exact Or.inr (by simp [FP.Core.order])
  have e : FP.dcmp x x = FP.Core.order (FP.Core.decode FP.Core.b64 x.toNat) (FP.Core.decode FP.Core.b64 x.toNat) := rfl
  rw [e]
  rcases key (FP.Core.decode FP.Core.b64 x.toNat) with h | h
  · rw [h]; exact Or.inr rfl
  · rw [h]; exact Or.inl rfl
/-- a town that is named, or one at all -/
theorem ex_t (x : Int32) : ∃ t : Nat, t < 6 ∧ (isT x → x = nI t ∧ t < 6) := by
  by_cases h : isT x
  · exact ⟨x.toNatClampNeg, (isT_cl h).2, fun _ => isT_cl h⟩
  · exact ⟨0, by omega, fun q => absurd q h⟩
theorem ex_tb {V : sV} {cq : Nat → Nat} {B : Nat} (hV : InvV V cq B) (x y : Int32) : ∃ t b : Nat, t < 6 ∧ b < 5 ∧ (isT x → x = nI t ∧ t < 6) ∧ (hasB V x y → x = nI t ∧ t < 6 ∧ y = nI b ∧ b < cq t) := by
  by_cases h : hasB V x y
  · obtain ⟨e1, e2, e3, e4⟩ := hasB_cl hV.1 h
    exact ⟨x.toNatClampNeg, y.toNatClampNeg, e2, Nat.lt_of_lt_of_le e4 (hV.1 _ e2).2.1, fun _ => ⟨e1, e2⟩, fun _ => ⟨e1, e2, e3, e4⟩⟩
  · obtain ⟨t, ht, hxt⟩ := ex_t x
    exact ⟨t, 0, ht, by omega, hxt, fun q => absurd q h⟩
theorem ex_in (x : Int32) (a m : Nat) (hm : m < 1000) (ham : a ≤ m) : ∃ j : Nat, j ≤ m ∧ (inI x (nI a) (nI m) → x = nI j ∧ j ≤ m ∧ a ≤ j) := by
  by_cases h : inI x (nI a) (nI m)
  · obtain ⟨h1, h2⟩ := h
    rw [Int32.lt_iff_toInt_lt, nI_toInt (by omega)] at h1 h2
    obtain ⟨e1, e2⟩ := in_cl (x := x) (m := m) (by omega) h2 hm
    refine ⟨x.toNatClampNeg, e2, fun _ => ⟨e1, e2, ?_⟩⟩
    have ey : x.toNatClampNeg = x.toInt.toNat := rfl
    omega
  · exact ⟨a, ham, fun q => absurd q h⟩
theorem hnE_0 {V : sV} {x w : Int32} {c0 : Nat} (h : hnE V x w c0 = 0) : c0 < 5 := by
  unfold hnE at h
  repeat' split at h
  all_goals first | assumption | exact absurd h (by decide)
theorem meE_0 {V : sV} {x y : Int32} (h : meE V x y = 0) : hasB V x y := by
  unfold meE at h
  split at h
  · assumption
  · exact absurd h (by decide)
theorem plM_0 {V : sV} {x : Int32} {t : Nat} {m : Int32} (h : plM V x t m = 0) : hasM V t m := by
  unfold plM at h
  repeat' split at h
  all_goals first | assumption | exact absurd h (by decide)
theorem stM_0 {x v : Int32} (h : stM x v = 0) : inI x 0 1 ∧ ((x = 0 ∧ inI v 0 9) ∨ (¬ x = 0 ∧ inI v 1 3)) := by
  unfold stM at h
  split at h
  · rename_i h1
    split at h
    · rename_i h2; exact ⟨h1, h2⟩
    · exact absurd h (by decide)
  · exact absurd h (by decide)
theorem tuM_0 {x : Int32} (h : tuM x = 0) : inI x 1 50 := by
  unfold tuM at h
  split at h
  · assumption
  · exact absurd h (by decide)
theorem apE_0 {x : Int32} {k : Nat} (h : apE x k = 0) : ¬ x < 32 ∧ x ≤ 126 ∧ k < 60 := by
  unfold apE at h
  split at h
  · exact absurd h (by decide)
  · rename_i h1
    split at h
    · rename_i h2
      split at h
      · rename_i h3; exact ⟨h1, h2, h3⟩
      · exact absurd h (by decide)
    · exact absurd h (by decide)
