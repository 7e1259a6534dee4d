/-! ===== helpers of the law's cases: texts, scripts, shares ===== -/
theorem Rel.isI {z : Int32} {V SV : sV} {o n : Nat} {HV : Nat → sV} {T : Nat → Nat} {k i : Nat} {X Y : sV} {B : Nat} (h : Rel z V SV o n HV T k X B) (hI : isI X Y T k i) : Rel z V SV o n HV T k Y B :=
  h.X (hI.1 1 (by decide) (by decide) (by decide) (by decide)) (hI.1 2 (by decide) (by decide) (by decide) (by decide)) (hI.1 5 (by decide) (by decide) (by decide) (by decide)) (fun j hj => hI.2.1 j (by omega) (by omega))
theorem Rel.not4 {z : Int32} {V SV : sV} {o n : Nat} {HV : Nat → sV} {T : Nat → Nat} {k : Nat} {X Y : sV} {B : Nat} (h : Rel z V SV o n HV T k X B) (hI : ∀ k9, k9 ≠ 3 → k9 ≠ 4 → Y k9 = X k9) : Rel z V SV o n HV T k Y B :=
  h.X (hI 1 (by decide) (by decide)) (hI 2 (by decide) (by decide)) (hI 5 (by decide) (by decide)) (fun j _ => congrFun (hI 9 (by decide) (by decide)) j)
theorem end_le {T : Nat → Nat} {k i : Nat} (h : posA T k i ≤ k) : endA T k i ≤ k := (rdR_le h).2.1
theorem end_ne {T : Nat → Nat} {k i : Nat} (h : posA T k i ≤ k) (hk : k ≤ 60) : ¬ nI (endA T k i) = -5 := by
  intro q
  have h1 := end_le h
  have h2 := congrArg Int32.toInt q
  rw [nI_toInt (by omega), show (-5 : Int32).toInt = -5 by decide] at h2
  omega
theorem pos_le {T : Nat → Nat} {k i : Nat} (h3 : ∀ j, j < i → okA T k j ∧ sepA T k j) : ∀ j, j ≤ i → posA T k j ≤ k
  | 0, _ => Nat.zero_le _
  | j + 1, hj => by
    have := (h3 j (by omega)).2.1
    show endA T k j + 1 ≤ k
    omega
theorem ex_last (T : Nat → Nat) (k : Nat) : ∀ n i, posA T k i ≤ k → 3 * i ≤ posA T k i → (∀ j, j < i → okA T k j ∧ sepA T k j) → k - posA T k i ≤ n → ∃ i', posA T k i' ≤ k ∧ 3 * i' ≤ posA T k i' ∧ (∀ j, j < i' → okA T k j ∧ sepA T k j) ∧ (okA T k i' → ¬ sepA T k i') := by
  intro n
  induction n with
  | zero =>
    intro i h1 h2 h3 h4
    refine ⟨i, h1, h2, h3, fun q1 q2 => ?_⟩
    have e1 : posA T k i + 2 ≤ endA T k i := (rdR_le h1).2.2 q1
    have e2 : endA T k i < k := q2.1
    omega
  | succ n ih =>
    intro i h1 h2 h3 h4
    by_cases hq : okA T k i ∧ sepA T k i
    · have e1 : posA T k i + 2 ≤ endA T k i := (rdR_le h1).2.2 hq.1
      have e2 : endA T k i < k := hq.2.1
      have e3 : posA T k (i + 1) = endA T k i + 1 := rfl
      refine ih (i + 1) (by omega) (by omega) (fun j hj => ?_) (by omega)
      by_cases e : j = i
      · subst e; exact hq
      · exact h3 j (by omega)
    · exact ⟨i, h1, h2, h3, fun q1 q2 => hq ⟨q1, q2⟩⟩
theorem isI_mk (X : sV) {T : Nat → Nat} {k i : Nat} (h1 : posA T k i ≤ k) (h2 : 3 * i ≤ posA T k i) (h3 : ∀ j, j < i → okA T k j ∧ sepA T k j) : ∃ Y, isI X Y T k i := by
  refine ⟨fun k9 j9 => if k9 = 6 then nI (T (posA T k j9)) else if k9 = 7 then nI (T (posA T k j9 + 1)) - 48 else if k9 = 8 then (rdR T k (posA T k j9)).2.2 else if k9 = 9 ∧ j9 = 3 then nI (endA T k i) else if k9 = 9 ∧ j9 = 4 then nI (numA T k i) else X k9 j9, fun j a b c d => ?_, fun j a b => ?_, h1, h2, rfl, rfl, fun j hj => ⟨rfl, rfl, rfl⟩, h3⟩
  · funext j9
    show (if j = 6 then _ else _) = _
    rw [if_neg a, if_neg b, if_neg c, if_neg (fun q => d q.1), if_neg (fun q => d q.1)]
  · show (if 9 = 6 then _ else _) = _
    rw [if_neg (by decide), if_neg (by decide), if_neg (by decide), if_neg (fun q => a q.2), if_neg (fun q => b q.2)]
/-- the class's own fault says that every order is one -/
theorem ok_all {T : Nat → Nat} {k : Nat} (hk : k ≤ 60) (h : ffN T k k 0 0 = -5) : ∀ i, okAt T k i := by
  obtain ⟨i, h1, h2, h3, h4⟩ := ex_last T k k 0 (Nat.zero_le _) (Nat.le_refl _) (fun j hj => absurd hj (Nat.not_lt_zero _)) (Nat.sub_le _ _)
  obtain ⟨Y, hY⟩ := isI_mk (fun _ _ => 0) h1 h2 h3
  have hf := fault_eq hY h4
  rw [h] at hf
  have hs : scA T k i := by
    refine Decidable.byContradiction fun q => ?_
    rw [if_neg q] at hf
    exact end_ne h1 hk hf.symm
  exact ok_at (scr.of hY hs) (pos_le h3)
theorem piE_0 {x y : Int32} (h : piE x y = 0) : isT x ∧ inI y 1 50 := by
  unfold piE at h
  split at h
  · rename_i h1; exact ⟨h1, tuM_0 (tu_eq.symm.trans h)⟩
  · exact absurd h (by decide)
theorem piE_n {x y w : Int32} (h : ¬ piE x y = 0) : piE x y = if isT x then (if inI y 1 50 then w else -2) else -1 := by
  unfold piE at h ⊢
  by_cases h1 : isT x
  · rw [if_pos h1] at h
    rw [if_pos h1, if_pos h1, tErr_m1 h, if_neg]
    intro q
    refine h (tu_eq.trans ?_)
    unfold tuM
    rw [if_pos q]
  · rw [if_neg h1, if_neg h1]
/-- two doubles that are alike one number -/
theorem al_two {r1 r2 D : UInt64} (h1 : alike64 r1 D = true) (h2 : alike64 r2 D = true) : r1 = r2 ∨ (isNaN64 r1 = true ∧ isNaN64 r2 = true) := by
  unfold alike64 at h1 h2
  rw [Bool.or_eq_true, decide_eq_true_eq, Bool.and_eq_true] at h1 h2
  rcases h1 with rfl | ⟨a1, a2⟩ <;> rcases h2 with rfl | ⟨b1, b2⟩
  · exact Or.inl rfl
  · exact Or.inr ⟨b2, b1⟩
  · exact Or.inr ⟨a1, a2⟩
  · exact Or.inr ⟨a1, b1⟩
theorem sh_two {V : sV} {cq : Nat → Nat} {B t : Nat} {x : Int32} {r1 r2 : UInt64} (hV : InvV V cq B) (hB : B ≤ 700000)
    (h1 : (isT x ∧ ¬ sumF (V 7) 6 = 0 → alike64 r1 (FP.ddiv (FP.i2d (V 7 t)) (FP.i2d (sumF (V 7) 6))) = true) ∧ (¬ (isT x ∧ ¬ sumF (V 7) 6 = 0) → r1 = FP.dconst0))
    (h2 : (isT x ∧ ¬ sumF (V 7) 6 ≤ 0 → alike64 r2 (FP.ddiv (FP.i2d (V 7 t)) (FP.i2d (sumF (V 7) 6))) = true) ∧ (¬ (isT x ∧ ¬ sumF (V 7) 6 ≤ 0) → r2 = FP.dconst0)) : r1 = r2 ∨ (isNaN64 r1 = true ∧ isNaN64 r2 = true) := by
  have hs := sum_nn hV.2.2.1 (by omega) 6 (Nat.le_refl _)
  have he : sumF (V 7) 6 ≤ 0 ↔ sumF (V 7) 6 = 0 := by
    rw [le0]
    constructor
    · intro q; exact Int32.toInt_inj.mp (by rw [show (0 : Int32).toInt = 0 by decide]; omega)
    · intro q; rw [q]; decide
  by_cases hq : isT x ∧ ¬ sumF (V 7) 6 = 0
  · exact al_two (h1.1 hq) (h2.1 ⟨hq.1, fun q => hq.2 (he.mp q)⟩)
  · exact Or.inl ((h1.2 hq).trans (h2.2 (fun q => hq ⟨q.1, fun w => q.2 (he.mpr w)⟩)).symm)
section DCALL
variable {p : Program} {l : Launch} {e : Env} {R : Room} {s : State} {m : MethodId} {args : Array Value} {below : List Frame} {meth : Method} {c : Code} {H : Heap} {locs : List Loc} {cells slots : Nat} {Q : State → Prop} {pc : Nat} {ls : Array Slot} {rest : List Value} {g : gx} {B : List va_W} {a : Nat} {d0 : Drawn}
theorem run_D {v : UInt64 → Prop} {st0 : List Value} {av : Array Value} (hd0 : s.drawn.sameBut d0 lw_cs) (hr : va_RunD lw_cs p l e R (s.setDrawn d0) m args below meth c H locs cells slots 0 0 (F0 m pc ls st0) rest (qD v av) (fun _ => False))
    (kk : ∀ (r : UInt64) (d1 : Drawn), s.drawn.sameBut d1 lw_cs → v r → W p l e R (s.setDrawn d1) m args below meth c H locs cells slots Q (F0 m (pc + 3) ls (.double r :: rest))) : W p l e R (s.setDrawn d0) m args below meth c H locs cells slots Q (F0 m pc ls st0) := by
  intro T hT X
  obtain ⟨v, st₀, t, T', L, d', hd', h1, X', hL, e1, e2, ⟨r, q1, q2, q3⟩, st⟩ := hr T hT X
  have hL0 : L = [] := by
    cases L with
    | nil => rfl
    | cons q L => exact (hL q List.mem_cons_self).elim
  subst hL0
  cases q1
  rw [List.append_nil] at X'
  obtain ⟨t2, a1, b1⟩ := kk r d' (hd0.trans hd') q2 T' (by rw [e1, q3, h1]) X'
  exact ⟨t2, st t2 a1, b1⟩
theorem call_VD {y : MethodName} {b : ByteArray} {n nL index : Nat} {rm : Room} {As : List Value} {C : List va_W} {v : UInt64 → Prop} {own : String} {st0 : List Value} {ym : MethodName} {bm : ByteArray} {tym : Option FieldType} {avm : List Value} (hd0 : s.drawn.sameBut d0 lw_cs) (E : ent p (s.setDrawn d0) m meth c ym bm nL tym avm) (hargs : args = avm.toArray) (hK : kx g (s.setDrawn d0)) (hP : va_P g.1 vwCl B.flatten H) (hM : cD l g y b n rm (.ref a :: As) C v) (ok : okV y b n (some .double) As.length) (hown : ym.cls = own) (hlink : Cond.methodLink own index y ∈ wsL_law) (is : List Nat) (hC : is.map (fun i => B[i]?) = C.map some) (hrc : ∃ cell : Cell, H[a]? = some cell ∧ cell.vm.isStatics = false ∧ (s.setDrawn d0).vm.findClass y.cls = some cell.cls) (hR : rmOk rm R n) (hsz : ls.size = nL) (hrest : (rest.map fun v => v.category).sum ≤ 8) (hroom : cells ≤ R.cells ∧ slots ≤ R.slots) (hst : st0 = As.reverse ++ .ref a :: rest) (hdg : decode bm pc = .ok (.invokevirtual index, 3))
    (kk : ∀ (r : UInt64) (d1 : Drawn), s.drawn.sameBut d1 lw_cs → v r → W p l e R (s.setDrawn d1) m args below meth c H locs cells slots Q (F0 m (pc + 3) ls (.double r :: rest))) : W p l e R (s.setDrawn d0) m args below meth c H locs cells slots Q (F0 m pc ls st0) := by
  subst hargs; subst hst; subst hown
  exact run_D hd0 (va_runV_D (bytes := b) (maxL := n) (ret := some .double) ⟨E.1, E.2.1, E.2.2.2.1, E.2.2.2.2.2.1, E.2.2.2.2.1⟩ hM (cwOk E.2.2.2.2.1 ok hlink hR rfl) ⟨blindR, hrc, fun U hU hWm => ⟨rfl, by rw [hU]; exact pick_P hP is hC, hK.warm hWm⟩⟩ rfl rfl hsz rfl (lv_room hrest) hdg hroom) kk
end DCALL
