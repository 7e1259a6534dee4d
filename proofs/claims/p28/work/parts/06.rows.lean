/-! ===== ROWS over blocks ===== -/
section BROW
variable {p : Program} {l : Launch} {e : Env} {R : Room} {s : State} {m : MethodId} {args : Array Value} {below : List Frame} {meth : Method} {c : Code} {H H0 : Heap} {locs : List Loc} {cells slots : Nat} {Q : State → Prop} {cc : ByteArray} {pc : Nat} {ls : Array Slot} {rest : List Value} {g : gx} {A : Nat → Prop} {B B' : List va_W} {a : Nat}
/-- the top of the stack by another name -/
theorem b_top {x y : Int32} (h : x = y) (k : W p l e R s m args below meth c H locs cells slots Q (F0 m pc ls (.int y :: rest))) : W p l e R s m args below meth c H locs cells slots Q (F0 m pc ls (.int x :: rest)) := h ▸ k
theorem b_get (hexec : p.tables.exec = Jvm.exec) (hb : c.code = cc) {own ref C : String} {T : u_T} {N ci index : Nat} (hts : ∀ w ∈ wsL_law, w.before args s = true) (hin : ∀ w ∈ u_ws C T N, w ∈ wsL_law) (hown : s.vm.findClass own = some m.cls) (hK : kx g s) (hP : va_P g.1 vwCl B.flatten H) (i q0 k : Nat) {b : va_W} {fs : List Value} (h1 : B[i]? = some b) (h2 : b[q0]? = some (a, .inr (ci, fs))) (hc : vwCl[ci]? = some (C, T, N)) (hk : k < N) (hlink : Cond.fieldLink own index ref (T k).2.1 (T k).2.2.1 ∈ wsL_law) (hsame : (T k).1 = ref) {v : Value} (hv : fs[k]? = some v) (hdg : decode cc pc = .ok (.getfield index, 3))
    (kk : W p l e R s m args below meth c H locs cells slots Q (F0 m (pc + 3) ls (v :: rest))) : W p l e R s m args below meth c H locs cells slots Q (F0 m pc ls (.ref a :: rest)) := by
  obtain ⟨f0, e1, -⟩ := flat_at B i q0 h1 h2
  exact va_get hexec hb hts hin hown hK.1 hP f0 e1 hc k hk (hts _ hlink) (fun x h => by rw [← hsame]; exact h) hv hdg kk
theorem b_put (hexec : p.tables.exec = Jvm.exec) (hb : c.code = cc) {own ref C : String} {T : u_T} {N ci index : Nat} (hts : ∀ w ∈ wsL_law, w.before args s = true) (hin : ∀ w ∈ u_ws C T N, w ∈ wsL_law) {ty0 : Nat → FieldType} (hty : ∀ k, k < N → parseFieldDescriptor (T k).2.2.1 = some (ty0 k)) (hnm : ∀ a, a < N → ∀ b, b < N → a ≠ b → (T a).2.1 ≠ (T b).2.1) (hown : s.vm.findClass own = some m.cls) (hK : kx g s) (hW : wd g A H0 B H locs) (i q0 k : Nat) {b : va_W} {fs : List Value} {v : Value} (h1 : B[i]? = some b) (h2 : b[q0]? = some (a, .inr (ci, fs))) (hc : vwCl[ci]? = some (C, T, N)) (hk : k < N) (hlink : Cond.fieldLink own index ref (T k).2.1 (T k).2.2.1 ∈ wsL_law) (hsame : (T k).1 = ref) (hfin : (T k).2.2.2 = false) (hn : narrow (ty0 k) v = v) (hfit : fits (ty0 k) v = true) (hl : k < fs.length) (hB' : B.set i (b.set q0 (a, .inr (ci, fs.set k v))) = B') (hdg : decode cc pc = .ok (.putfield index, 3))
    (kk : ∀ (H1 : Heap) (locs1 : List Loc), wd g A H0 B' H1 locs1 → W p l e R s m args below meth c H1 locs1 cells slots Q (F0 m (pc + 3) ls rest)) : W p l e R s m args below meth c H locs cells slots Q (F0 m pc ls (v :: .ref a :: rest)) := by
  obtain ⟨f0, e1, e2⟩ := flat_at B i q0 h1 h2
  refine va_put hexec hb hts hin ty0 hty hnm hown hK.1 hW.1 hW.2.1 hW.2.2 f0 e1 hc k hk (hts _ hlink) (fun x h => by rw [← hsame]; exact h) hfin (hty k hk) hn hfit hl hdg (fun H1 locs1 hP hD hS => kk H1 locs1 ?_)
  rw [e2, hB'] at hP hD
  exact ⟨hP, hD, hS⟩
theorem b_putF (hexec : p.tables.exec = Jvm.exec) (hb : c.code = cc) {own C : String} {T : u_T} {N ci index : Nat} (hts : ∀ w ∈ wsL_law, w.before args s = true) (hin : ∀ w ∈ u_ws C T N, w ∈ wsL_law) {ty0 : Nat → FieldType} (hty : ∀ k, k < N → parseFieldDescriptor (T k).2.2.1 = some (ty0 k)) (hnm : ∀ a, a < N → ∀ b, b < N → a ≠ b → (T a).2.1 ≠ (T b).2.1) (hown : s.vm.findClass own = some m.cls) (hK : kx g s) (hW : wd g A H0 B H locs) (i q0 k : Nat) {b : va_W} {fs : List Value} {v : Value} (h1 : B[i]? = some b) (h2 : b[q0]? = some (a, .inr (ci, fs))) (hc : vwCl[ci]? = some (C, T, N)) (hk : k < N) (hlink : Cond.fieldLink own index own (T k).2.1 (T k).2.2.1 ∈ wsL_law) (hsame : (T k).1 = own) (hfin : (T k).2.2.2 = true) (hin2 : meth.name = "<init>") (hn : narrow (ty0 k) v = v) (hfit : fits (ty0 k) v = true) (hl : k < fs.length) (hB' : B.set i (b.set q0 (a, .inr (ci, fs.set k v))) = B') (hdg : decode cc pc = .ok (.putfield index, 3))
    (kk : ∀ (H1 : Heap) (locs1 : List Loc), wd g A H0 B' H1 locs1 → W p l e R s m args below meth c H1 locs1 cells slots Q (F0 m (pc + 3) ls rest)) : W p l e R s m args below meth c H locs cells slots Q (F0 m pc ls (v :: .ref a :: rest)) := by
  obtain ⟨f0, e1, e2⟩ := flat_at B i q0 h1 h2
  refine va_putF hexec hb hts hin ty0 hty hnm hown hK.1 hW.1 hW.2.1 hW.2.2 f0 e1 hc k hk (hts _ hlink) (fun x h => by rw [← hsame]; exact h) hfin hin2 hsame (hty k hk) hn hfit hl hdg (fun H1 locs1 hP hD hS => kk H1 locs1 ?_)
  rw [e2, hB'] at hP hD
  exact ⟨hP, hD, hS⟩
theorem in_nI {x : Int32} {j n : Nat} (hx : x = nI j) (hj : j < n) (hn : n.ble 100000 = true) : vp_in x n ∧ x.toNatClampNeg = j := by
  have hn := Nat.le_of_ble_eq_true hn
  have h31 : j < 2 ^ 31 := by omega
  subst hx
  exact ⟨vp_in_nI hj (by omega), nI_clamp h31⟩
theorem b_iald (hexec : p.tables.exec = Jvm.exec) (hb : c.code = cc) (hK : kx g s) (hP : va_P g.1 vwCl B.flatten H) (i k j : Nat) {b : va_W} {n : Nat} {f : Nat → Int32} {x v : Int32} (h1 : B[i]? = some b) (h2 : b[k]? = some (a, .inl (g.2.1, n, .inl f))) (hx : x = nI j) (hj : j < n) (hn : n.ble 100000 = true) (hv : f j = v) (hdg : decode cc pc = .ok (.iaload, 1))
    (kk : W p l e R s m args below meth c H locs cells slots Q (F0 m (pc + 1) ls (.int v :: rest))) : W p l e R s m args below meth c H locs cells slots Q (F0 m pc ls (.int x :: .ref a :: rest)) := by
  obtain ⟨f0, e1, -⟩ := flat_at B i k h1 h2
  obtain ⟨hi, hc⟩ := in_nI hx hj hn
  refine va_iald hexec hb hK.1 hP f0 0 e1 rfl hi hdg ?_
  rw [hc, hv]
  exact kk
theorem b_cald (hexec : p.tables.exec = Jvm.exec) (hb : c.code = cc) (hK : kx g s) (hP : va_P g.1 vwCl B.flatten H) (i k j : Nat) {b : va_W} {n : Nat} {f : Nat → Int32} {x v : Int32} (h1 : B[i]? = some b) (h2 : b[k]? = some (a, .inl (g.2.2.1, n, .inl f))) (hx : x = nI j) (hj : j < n) (hn : n.ble 100000 = true) (hv : f j = v) (hdg : decode cc pc = .ok (.caload, 1))
    (kk : W p l e R s m args below meth c H locs cells slots Q (F0 m (pc + 1) ls (.int v :: rest))) : W p l e R s m args below meth c H locs cells slots Q (F0 m pc ls (.int x :: .ref a :: rest)) := by
  obtain ⟨f0, e1, -⟩ := flat_at B i k h1 h2
  obtain ⟨hi, hc⟩ := in_nI hx hj hn
  refine va_cald hexec hb hK.1 hP f0 1 e1 rfl hi hdg ?_
  rw [hc, hv]
  exact kk
theorem b_aald (hexec : p.tables.exec = Jvm.exec) (hb : c.code = cc) (hK : kx g s) (hP : va_P g.1 vwCl B.flatten H) (i k j : Nat) {b : va_W} {n : Nat} {f : Nat → Option Nat} {x : Int32} {v : Nat} (h1 : B[i]? = some b) (h2 : b[k]? = some (a, .inl (g.2.2.2, n, .inr (.inr (.inr (.inr f)))))) (hx : x = nI j) (hj : j < n) (hn : n.ble 100000 = true) (hv : f j = some v) (hdg : decode cc pc = .ok (.aaload, 1))
    (kk : W p l e R s m args below meth c H locs cells slots Q (F0 m (pc + 1) ls (.ref v :: rest))) : W p l e R s m args below meth c H locs cells slots Q (F0 m pc ls (.int x :: .ref a :: rest)) := by
  obtain ⟨f0, e1, -⟩ := flat_at B i k h1 h2
  obtain ⟨hi, hc⟩ := in_nI hx hj hn
  refine va_aldq hexec hb hK.1 hP f0 2 e1 rfl hi hdg ?_
  rw [hc, hv]
  exact kk
theorem b_iast (hexec : p.tables.exec = Jvm.exec) (hb : c.code = cc) (hK : kx g s) (hW : wd g A H0 B H locs) (i k j : Nat) {b : va_W} {n : Nat} {f : Nat → Int32} {x v : Int32} (h1 : B[i]? = some b) (h2 : b[k]? = some (a, .inl (g.2.1, n, .inl f))) (hx : x = nI j) (hj : j < n) (hn : n.ble 100000 = true) (hB' : B.set i (b.set k (a, .inl (g.2.1, n, .inl (upd f j v)))) = B') (hdg : decode cc pc = .ok (.iastore, 1))
    (kk : ∀ (H1 : Heap) (locs1 : List Loc), wd g A H0 B' H1 locs1 → W p l e R s m args below meth c H1 locs1 cells slots Q (F0 m (pc + 1) ls rest)) : W p l e R s m args below meth c H locs cells slots Q (F0 m pc ls (.int v :: .int x :: .ref a :: rest)) := by
  obtain ⟨f0, e1, e2⟩ := flat_at B i k h1 h2
  obtain ⟨hi, hc⟩ := in_nI hx hj hn
  refine va_iast hexec hb hK.1 hW.1 hW.2.1 hW.2.2 f0 0 e1 rfl hi hdg (fun H1 locs1 hP hD hS => kk H1 locs1 ?_)
  rw [hc, e2, hB'] at hP hD
  exact ⟨hP, hD, hS⟩
theorem b_cast (hexec : p.tables.exec = Jvm.exec) (hb : c.code = cc) (hK : kx g s) (hW : wd g A H0 B H locs) (i k j : Nat) {b : va_W} {n : Nat} {f : Nat → Int32} {x v v' : Int32} (h1 : B[i]? = some b) (h2 : b[k]? = some (a, .inl (g.2.2.1, n, .inl f))) (hx : x = nI j) (hj : j < n) (hn : n.ble 100000 = true) (hv : vp_nar .char v = v') (hB' : B.set i (b.set k (a, .inl (g.2.2.1, n, .inl (upd f j v')))) = B') (hdg : decode cc pc = .ok (.castore, 1))
    (kk : ∀ (H1 : Heap) (locs1 : List Loc), wd g A H0 B' H1 locs1 → W p l e R s m args below meth c H1 locs1 cells slots Q (F0 m (pc + 1) ls rest)) : W p l e R s m args below meth c H locs cells slots Q (F0 m pc ls (.int v :: .int x :: .ref a :: rest)) := by
  obtain ⟨f0, e1, e2⟩ := flat_at B i k h1 h2
  obtain ⟨hi, hc⟩ := in_nI hx hj hn
  refine va_cast hexec hb hK.1 hW.1 hW.2.1 hW.2.2 f0 1 e1 rfl hi hdg (fun H1 locs1 hP hD hS => kk H1 locs1 ?_)
  rw [hc, hv, e2, hB'] at hP hD
  exact ⟨hP, hD, hS⟩
/-- System.arraycopy of n cells from the start to the start -/
theorem b_copy (hexec : p.tables.exec = Jvm.exec) (hb : c.code = cc) (hml : c.maxLocals = ls.size) {own : String} {index : Nat} (hown : s.vm.findClass own = some m.cls) (hts : ∀ w ∈ wsL_law, w.before args s = true) (hlink : Cond.methodLink own index arraycopyName ∈ wsL_law) (hnat : Cond.native arraycopyName ∈ wsL_law) (hstat : Cond.static arraycopyName ∈ wsL_law) (hini : Cond.initialized "java/lang/System" ∈ wsL_law)
    (hK : kx g s) (hW : wd g A H0 B H locs) (i0 k0 i1 k1 : Nat) {a0 : Nat} {b0 b1 : va_W} {n : Nat} {f f1 : Nat → Int32} {x : Int32} (h0 : B[i0]? = some b0) (h0' : b0[k0]? = some (a0, .inl (g.2.1, n, .inl f))) (h1 : B[i1]? = some b1) (h1' : b1[k1]? = some (a, .inl (g.2.1, n, .inl f1))) (hx : x = nI n) (hn : n.ble 100000 = true)
    (hframes : 1 ≤ R.frames) (hlocals : (rest.map fun v => v.category).sum + (nativeFrameWords "java/lang/System" "arraycopy" 5 + 11) ≤ R.locals) (hB' : B.set i1 (b1.set k1 (a, .inl (g.2.1, n, .inl f))) = B') (hdg : decode cc pc = .ok (.invokestatic index, 3))
    (kk : ∀ (H1 : Heap) (locs1 : List Loc), wd g A H0 B' H1 locs1 → W p l e R s m args below meth c H1 locs1 cells slots Q (F0 m (pc + 3) ls rest)) : W p l e R s m args below meth c H locs cells slots Q (F0 m pc ls (.int x :: .int 0 :: .ref a :: .int 0 :: .ref a0 :: rest)) := by
  obtain ⟨f0, e1, -⟩ := flat_at B i0 k0 h0 h0'
  obtain ⟨f9, e3, e4⟩ := flat_at B i1 k1 h1 h1'
  have hn := Nat.le_of_ble_eq_true hn
  have hc : (nI n).toNatClampNeg = n := nI_clamp (by omega)
  have h00 : (0 : Int32).toNatClampNeg = 0 := by decide +kernel
  subst hx
  refine va_copyi hexec hb hml hown (hts _ hlink) (hts _ hnat) (hts _ hstat) (hts _ hini) hK.1 hW.1 hW.2.1 hW.2.2 f0 f9 0 0 e1 e3 rfl rfl rfl (by decide +kernel) (by decide +kernel) (nI_pos (by omega)) (by rw [h00, hc]; omega) (by rw [h00, hc]; omega) (fun _ _ => rfl) hframes hlocals hdg (fun H1 locs1 hP hD hS => kk H1 locs1 ?_)
  rw [h00, hc] at hP hD
  have hcell : ∀ (z : Nat × va_E), va_at g.1 vwCl (a, .inl (g.2.1, n, .inl (va_cpy f f1 0 0 n))) H1 → va_at g.1 vwCl (a, .inl (g.2.1, n, .inl f)) H1 := by
    intro _ h
    have h : H1[a]? = some (vp_cell g.2.1 (n, .inl (va_cpy f f1 0 0 n))) := h
    show H1[a]? = some (vp_cell g.2.1 (n, .inl f))
    rw [h, vp_cell_i, vp_cell_i]
    congr 1
    show ({ cls := g.2.1, slots := Array.ofFn (n := n) fun j => Value.int (va_cpy f f1 0 0 n j.val), vm := .none } : Cell) = { cls := g.2.1, slots := Array.ofFn (n := n) fun j => Value.int (f j.val), vm := .none }
    congr 2
    funext j
    rw [pk_cpy_in (Nat.zero_le _) (by have := j.isLt; omega)]
    simp
  have hl := (List.getElem?_eq_some_iff.mp e3).1
  have hP2 : va_P g.1 vwCl (B.flatten.set f9 (a, .inl (g.2.1, n, .inl f))) H1 := by
    intro k q hk
    by_cases hkf : k = f9
    · subst hkf
      rw [List.getElem?_set_self hl] at hk
      cases hk
      exact hcell (0, .inr (0, [])) (hP k _ (List.getElem?_set_self hl))
    · rw [List.getElem?_set_ne (Ne.symm hkf)] at hk
      exact hP k q (by rw [List.getElem?_set_ne (Ne.symm hkf)]; exact hk)
  have hD2 : va_D A (B.flatten.set f9 (a, .inl (g.2.1, n, .inl f))) := hW.2.1.set e3
  rw [e4, hB'] at hP2 hD2
  exact ⟨hP2, hD2, hS⟩
/-! branches over numbers that are names of naturals -/
theorem b_ge {x y : Int32} (a b : Nat) (hexec : p.tables.exec = Jvm.exec) (hb : c.code = cc) {off : Int} {tgt : Nat} (hx : x = nI a) (hy : y = nI b) (ha : a < 2 ^ 31) (hb2 : b < 2 ^ 31) (hdg : decode cc pc = .ok (.if_icmp .ge off, 3)) (ht : (pc : Int) + off = (tgt : Int))
    (kt : b ≤ a → W p l e R s m args below meth c H locs cells slots Q (F0 m tgt ls rest)) (kf : a < b → W p l e R s m args below meth c H locs cells slots Q (F0 m (pc + 3) ls rest)) : W p l e R s m args below meth c H locs cells slots Q (F0 m pc ls (.int y :: .int x :: rest)) := by
  subst hx; subst hy
  exact lv_icmp_ge hexec hb hdg ht (fun h => kt ((nI_leI hb2 ha).mp h)) (fun h => kf (Nat.not_le.mp fun q => h ((nI_leI hb2 ha).mpr q)))
theorem b_gt {x y : Int32} (a b : Nat) (hexec : p.tables.exec = Jvm.exec) (hb : c.code = cc) {off : Int} {tgt : Nat} (hx : x = nI a) (hy : y = nI b) (ha : a < 2 ^ 31) (hb2 : b < 2 ^ 31) (hdg : decode cc pc = .ok (.if_icmp .gt off, 3)) (ht : (pc : Int) + off = (tgt : Int))
    (kt : b < a → W p l e R s m args below meth c H locs cells slots Q (F0 m tgt ls rest)) (kf : a ≤ b → W p l e R s m args below meth c H locs cells slots Q (F0 m (pc + 3) ls rest)) : W p l e R s m args below meth c H locs cells slots Q (F0 m pc ls (.int y :: .int x :: rest)) := by
  subst hx; subst hy
  exact lv_icmp_gt hexec hb hdg ht (fun h => kt ((nI_ltI hb2 ha).mp h)) (fun h => kf (Nat.not_lt.mp fun q => h ((nI_ltI hb2 ha).mpr q)))
theorem b_lt {x y : Int32} (a b : Nat) (hexec : p.tables.exec = Jvm.exec) (hb : c.code = cc) {off : Int} {tgt : Nat} (hx : x = nI a) (hy : y = nI b) (ha : a < 2 ^ 31) (hb2 : b < 2 ^ 31) (hdg : decode cc pc = .ok (.if_icmp .lt off, 3)) (ht : (pc : Int) + off = (tgt : Int))
    (kt : a < b → W p l e R s m args below meth c H locs cells slots Q (F0 m tgt ls rest)) (kf : b ≤ a → W p l e R s m args below meth c H locs cells slots Q (F0 m (pc + 3) ls rest)) : W p l e R s m args below meth c H locs cells slots Q (F0 m pc ls (.int y :: .int x :: rest)) := by
  subst hx; subst hy
  exact lv_icmp_lt hexec hb hdg ht (fun h => kt ((nI_ltI ha hb2).mp h)) (fun h => kf (Nat.not_lt.mp fun q => h ((nI_ltI ha hb2).mpr q)))
theorem b_le {x y : Int32} (a b : Nat) (hexec : p.tables.exec = Jvm.exec) (hb : c.code = cc) {off : Int} {tgt : Nat} (hx : x = nI a) (hy : y = nI b) (ha : a < 2 ^ 31) (hb2 : b < 2 ^ 31) (hdg : decode cc pc = .ok (.if_icmp .le off, 3)) (ht : (pc : Int) + off = (tgt : Int))
    (kt : a ≤ b → W p l e R s m args below meth c H locs cells slots Q (F0 m tgt ls rest)) (kf : b < a → W p l e R s m args below meth c H locs cells slots Q (F0 m (pc + 3) ls rest)) : W p l e R s m args below meth c H locs cells slots Q (F0 m pc ls (.int y :: .int x :: rest)) := by
  subst hx; subst hy
  exact lv_icmp_le hexec hb hdg ht (fun h => kt ((nI_leI ha hb2).mp h)) (fun h => kf (Nat.not_le.mp fun q => h ((nI_leI ha hb2).mpr q)))
theorem b_eq {x y : Int32} (a b : Nat) (hexec : p.tables.exec = Jvm.exec) (hb : c.code = cc) {off : Int} {tgt : Nat} (hx : x = nI a) (hy : y = nI b) (ha : a < 2 ^ 31) (hb2 : b < 2 ^ 31) (hdg : decode cc pc = .ok (.if_icmp .eq off, 3)) (ht : (pc : Int) + off = (tgt : Int))
    (kt : a = b → W p l e R s m args below meth c H locs cells slots Q (F0 m tgt ls rest)) (kf : a ≠ b → W p l e R s m args below meth c H locs cells slots Q (F0 m (pc + 3) ls rest)) : W p l e R s m args below meth c H locs cells slots Q (F0 m pc ls (.int y :: .int x :: rest)) := by
  subst hx; subst hy
  exact lv_icmp_eq hexec hb hdg ht (fun h => kt ((nI_eq ha hb2).mp h)) (fun h => kf (fun q => h ((nI_eq ha hb2).mpr q)))
theorem b_ne {x y : Int32} (a b : Nat) (hexec : p.tables.exec = Jvm.exec) (hb : c.code = cc) {off : Int} {tgt : Nat} (hx : x = nI a) (hy : y = nI b) (ha : a < 2 ^ 31) (hb2 : b < 2 ^ 31) (hdg : decode cc pc = .ok (.if_icmp .ne off, 3)) (ht : (pc : Int) + off = (tgt : Int))
    (kt : a ≠ b → W p l e R s m args below meth c H locs cells slots Q (F0 m tgt ls rest)) (kf : a = b → W p l e R s m args below meth c H locs cells slots Q (F0 m (pc + 3) ls rest)) : W p l e R s m args below meth c H locs cells slots Q (F0 m pc ls (.int y :: .int x :: rest)) := by
  subst hx; subst hy
  exact lv_icmp_ne hexec hb hdg ht (fun h => kt (fun q => h ((nI_eq ha hb2).mpr q))) (fun h => kf ((nI_eq ha hb2).mp h))
/-- a truth value -/
def bI (c : Prop) [Decidable c] : Int32 := if c then 1 else 0
theorem bI_t {c : Prop} [Decidable c] (h : c) : (1 : Int32) = bI c := by rw [bI, if_pos h]
theorem bI_f {c : Prop} [Decidable c] (h : ¬ c) : (0 : Int32) = bI c := by rw [bI, if_neg h]
theorem b_eq0 {q : Prop} [Decidable q] (hexec : p.tables.exec = Jvm.exec) (hb : c.code = cc) {off : Int} {tgt : Nat} (hdg : decode cc pc = .ok (.ifCond .eq off, 3)) (ht : (pc : Int) + off = (tgt : Int))
    (kt : ¬ q → W p l e R s m args below meth c H locs cells slots Q (F0 m tgt ls rest)) (kf : q → W p l e R s m args below meth c H locs cells slots Q (F0 m (pc + 3) ls rest)) : W p l e R s m args below meth c H locs cells slots Q (F0 m pc ls (.int (bI q) :: rest)) :=
  lv_if_eq hexec hb hdg ht (fun h => kt (fun hq => by rw [bI, if_pos hq] at h; exact absurd h (by decide +kernel))) (fun h => kf (Decidable.byContradiction fun hq => h (by rw [bI, if_neg hq])))
theorem b_ne0 {q : Prop} [Decidable q] (hexec : p.tables.exec = Jvm.exec) (hb : c.code = cc) {off : Int} {tgt : Nat} (hdg : decode cc pc = .ok (.ifCond .ne off, 3)) (ht : (pc : Int) + off = (tgt : Int))
    (kt : q → W p l e R s m args below meth c H locs cells slots Q (F0 m tgt ls rest)) (kf : ¬ q → W p l e R s m args below meth c H locs cells slots Q (F0 m (pc + 3) ls rest)) : W p l e R s m args below meth c H locs cells slots Q (F0 m pc ls (.int (bI q) :: rest)) :=
  lv_if_ne hexec hb hdg ht (fun h => kt (Decidable.byContradiction fun hq => h (by rw [bI, if_neg hq]))) (fun h => kf (fun hq => by rw [bI, if_pos hq] at h; exact absurd h (by decide +kernel)))
/-! ends -/
theorem rI_ret {v r : Int32} (hexec : p.tables.exec = Jvm.exec) (hb : c.code = cc) (hr : meth.sig.returnType = some .int) (hlocks : meth.locks = false) (hdg : decode cc pc = .ok (.ireturn, 1)) (h : v = r) : W p l e R s m args below meth c s.heap [] 0 0 (MQ below (qR (.int r)) args s 0 0 (fun _ => False)) (F0 m pc ls [.int v]) :=
  W.iret hexec hb hr (fun t ht _ => ⟨by rw [h], ht⟩) (fun _ h => absurd h List.not_mem_nil) hdg hlocks
theorem rZ_ret {v : Int32} {q : Prop} [Decidable q] (hexec : p.tables.exec = Jvm.exec) (hb : c.code = cc) (hr : meth.sig.returnType = some .boolean) (hlocks : meth.locks = false) (hdg : decode cc pc = .ok (.ireturn, 1)) (h : v = bI q) : W p l e R s m args below meth c s.heap [] 0 0 (MQ below (qR (.int (bI q))) args s 0 0 (fun _ => False)) (F0 m pc ls [.int v]) := by
  subst h
  exact W.zret hexec hb hr (by unfold bI; split <;> rfl) (fun t ht _ => ⟨rfl, ht⟩) (fun _ h => absurd h List.not_mem_nil) hdg hlocks
theorem uV_ret {S : Type} {C : List va_W} {post : S → Prop} {C1 : S → List va_W} (u : S) (hW : wd g (fun q => q ∈ adr C) s.heap B H locs) (hexec : p.tables.exec = Jvm.exec) (hb : c.code = cc) (hr : meth.sig.returnType = none) (hlocks : meth.locks = false) (hdg : decode cc pc = .ok (.return_, 1)) (hp : post u) (hB : B = C1 u) (ha : (C1 u).map (List.map Prod.fst) = C.map (List.map Prod.fst)) : W p l e R s m args below meth c H locs 0 0 (MQ below (qU g C (fun _ => none) post C1) args s 0 0 (fun q => q ∈ adr C)) (F0 m pc ls []) := by
  subst hB
  exact W.vret hexec hb hr (fun t ht _ => ⟨u, rfl, hp, by rw [ht]; exact hW.1, ha, by rw [ht]; exact hW.2.2.1, fun q h1 h2 => by rw [ht]; exact hW.2.2.2.1 q h1 h2⟩) hW.2.2.2.2 hdg hlocks
theorem uI_ret {S : Type} {C : List va_W} {r : S → Int32} {post : S → Prop} {C1 : S → List va_W} {v : Int32} (u : S) (hW : wd g (fun q => q ∈ adr C) s.heap B H locs) (hexec : p.tables.exec = Jvm.exec) (hb : c.code = cc) (hr : meth.sig.returnType = some .int) (hlocks : meth.locks = false) (hdg : decode cc pc = .ok (.ireturn, 1)) (hv : v = r u) (hp : post u) (hB : B = C1 u) (ha : (C1 u).map (List.map Prod.fst) = C.map (List.map Prod.fst)) : W p l e R s m args below meth c H locs 0 0 (MQ below (qU g C (fun u => some (.int (r u))) post C1) args s 0 0 (fun q => q ∈ adr C)) (F0 m pc ls [.int v]) := by
  subst hB; subst hv
  exact W.iret hexec hb hr (fun t ht _ => ⟨u, rfl, hp, by rw [ht]; exact hW.1, ha, by rw [ht]; exact hW.2.2.1, fun q h1 h2 => by rw [ht]; exact hW.2.2.2.1 q h1 h2⟩) hW.2.2.2.2 hdg hlocks
theorem uZ_ret {S : Type} {C : List va_W} {r : S → Int32} {post : S → Prop} {C1 : S → List va_W} {v : Int32} (u : S) (hW : wd g (fun q => q ∈ adr C) s.heap B H locs) (hexec : p.tables.exec = Jvm.exec) (hb : c.code = cc) (hr : meth.sig.returnType = some .boolean) (hlocks : meth.locks = false) (hdg : decode cc pc = .ok (.ireturn, 1)) (hz : narrow .boolean (.int v) = .int v) (hv : v = r u) (hp : post u) (hB : B = C1 u) (ha : (C1 u).map (List.map Prod.fst) = C.map (List.map Prod.fst)) : W p l e R s m args below meth c H locs 0 0 (MQ below (qU g C (fun u => some (.int (r u))) post C1) args s 0 0 (fun q => q ∈ adr C)) (F0 m pc ls [.int v]) := by
  subst hB; subst hv
  exact W.zret hexec hb hr hz (fun t ht _ => ⟨u, rfl, hp, by rw [ht]; exact hW.1, ha, by rw [ht]; exact hW.2.2.1, fun q h1 h2 => by rw [ht]; exact hW.2.2.2.1 q h1 h2⟩) hW.2.2.2.2 hdg hlocks
/-! calls -/
theorem run_R {y : MethodName} {b : ByteArray} {n : Nat} {ty : Option FieldType} {rm : Room} {r : Value} {st0 : List Value} {av : Array Value} (hr : va_Run p l e R s m args below meth c H locs cells slots 0 0 (F0 m pc ls st0) rest (qR r av) (fun _ => False))
    (kk : W p l e R s m args below meth c H locs cells slots Q (F0 m (pc + 3) ls (r :: rest))) : W p l e R s m args below meth c H locs cells slots Q (F0 m pc ls st0) := by
  intro T hT X
  obtain ⟨v, st₀, t, T', L, h1, X', hL, e1, e2, ⟨q1, q2⟩, st⟩ := hr T hT X
  have hL0 : L = [] := by
    cases L with
    | nil => rfl
    | cons q L => exact (hL q List.mem_cons_self).elim
  subst hL0
  cases q1
  rw [List.append_nil] at X'
  obtain ⟨t2, a1, b1⟩ := kk T' (by rw [e1, q2, h1]) X'
  exact ⟨t2, st t2 a1, b1⟩
theorem run_U {S : Type} {C : List va_W} {r : S → Option Value} {post : S → Prop} {C1 : S → List va_W} {st0 : List Value} {av : Array Value} (hW : wd g A H0 B H locs) (is : List Nat) (hC : is.map (fun i => B[i]?) = C.map some) (hn : va_nd is = true) (hr : va_Run p l e R s m args below meth c H locs cells slots 0 0 (F0 m pc ls st0) rest (qU g C r post C1 av) (fun q => q ∈ adr C))
    (kk : ∀ (u : S) (H1 : Heap) (locs1 : List Loc), post u → wd g A H0 (sets B is (C1 u)) H1 locs1 → W p l e R s m args below meth c H1 locs1 cells slots Q (F0 m (pc + 3) ls ((r u).toList ++ rest))) : W p l e R s m args below meth c H locs cells slots Q (F0 m pc ls st0) := by
  intro T hT X
  obtain ⟨v, st₀, t, T', L, h1, X', hL, e1, e2, ⟨u, q1, q2, q3, q4, q5, q6⟩, st⟩ := hr T hT X
  cases q1
  have hW1 := hW.call (H1 := T'.heap) hC hn q4 (by rw [e1]; exact q3) (by rw [e1, ← h1]; exact q5) (fun q h1' h2 => by rw [e1, ← h1]; exact q6 q (by rw [h1]; exact h1') h2) hL rfl
  obtain ⟨t2, a1, b1⟩ := kk u T'.heap _ q2 hW1 T' rfl X'
  exact ⟨t2, st t2 a1, b1⟩
/-- the receiver of a call is an object of its class -/
theorem b_recv {B : List va_W} {a : Nat} (hK : kx g s) (hP : va_P g.1 vwCl B.flatten H) (i k : Nat) {b : va_W} {ci : Nat} {fs : List Value} {q : vw_C} {C : String} (h1 : B[i]? = some b) (h2 : b[k]? = some (a, .inr (ci, fs))) (hc : vwCl[ci]? = some q) (hq : q.1 = C) : ∃ cell : Cell, H[a]? = some cell ∧ cell.vm.isStatics = false ∧ s.vm.findClass C = some cell.cls := by
  obtain ⟨f0, e1, -⟩ := flat_at B i k h1 h2
  rw [← hq]
  exact va_recv hK.1 hP hc e1
section CALLS
variable {y : MethodName} {b : ByteArray} {n nL index : Nat} {ty : Option FieldType} {rm : Room} {As : List Value} {C : List va_W} {r : Value} {own : String} {st0 : List Value}
theorem cwOk {Cc : String} (hts : ∀ w ∈ wsL_law, w.before args s = true) (ok : okV y b n ty As.length) (hlink : Cond.methodLink own index y ∈ wsL_law) (hR : rmOk rm R n) (hC : y.cls = Cc) : CallW R s args own Cc index y b n ty (wm y b n ty) rm 0 0 As.length := by
  subst hC
  exact ⟨callB_of As.length hts (wm_good ok.1) rfl hR.1.1 hR.1.2 (hts _ ok.2.2.2.1) (hts _ hlink) ok.2.2.2.2 hR.2, hts _ ok.2.1, hts _ ok.2.2.1⟩
theorem csOk (hts : ∀ w ∈ wsL_law, w.before args s = true) (ok : okS y b n ty As.length) (hlink : Cond.methodLink own index y ∈ wsL_law) (hR : rmOk rm R n) : CallB R s args own index y b n ty (wm y b n ty) rm 0 0 As.length ∧ (Cond.static y).before args s = true :=
  ⟨callB_of As.length hts (wm_good ok.1) rfl hR.1.1 hR.1.2 (hts _ ok.2.2.1) (hts _ hlink) ok.2.2.2 hR.2, hts _ ok.2.1⟩
theorem cnOk (hts : ∀ w ∈ wsL_law, w.before args s = true) (ok : okS y b n ty As.length) (hlink : va_Nw (.methodLinkNest own index y "BellTowns") s) (hR : rmOk rm R n) : va_CN R s args own index y "BellTowns" b n ty (wm y b n ty) rm 0 0 As.length ∧ (Cond.static y).before args s = true ∧ True :=
  ⟨va_cnB As.length hts (wm_good ok.1) rfl hR.1.1 hR.1.2 hlink (hts _ ok.2.2.1) ok.2.2.2 hR.2, hts _ ok.2.1, trivial⟩
/-- a read, called on an object -/
theorem call_VR {ym : MethodName} {bm : ByteArray} {tym : Option FieldType} {avm : List Value} (E : ent p s m meth c ym bm nL tym avm) (hargs : args = avm.toArray) (hK : kx g s) (hP : va_P g.1 vwCl B.flatten H) (hM : cR l g y b n ty rm (.ref a :: As) C r) (ok : okV y b n ty As.length) (hown : ym.cls = own) (hlink : Cond.methodLink own index y ∈ wsL_law) (is : List Nat) (hC : is.map (fun i => B[i]?) = C.map some) (hrc : ∃ cell : Cell, H[a]? = some cell ∧ cell.vm.isStatics = false ∧ s.vm.findClass y.cls = some cell.cls) (hR : rmOk rm R n) (hsz : ls.size = nL) (hrest : (rest.map fun v => v.category).sum ≤ 8) (hroom : cells ≤ R.cells ∧ slots ≤ R.slots) (hst : st0 = As.reverse ++ .ref a :: rest) (hdg : decode bm pc = .ok (.invokevirtual index, 3))
    (kk : W p l e R s m args below meth c H locs cells slots Q (F0 m (pc + 3) ls (r :: rest))) : W p l e R s m args below meth c H locs cells slots Q (F0 m pc ls st0) := by
  subst hargs; subst hst; subst hown
  exact run_R (y := y) (b := b) (n := n) (ty := ty) (rm := rm) (va_runV ⟨E.1, E.2.1, E.2.2.2.1, E.2.2.2.2.2.1, E.2.2.2.2.1⟩ hM (cwOk E.2.2.2.2.1 ok hlink hR rfl) ⟨blindR, hrc, fun U hU hWm => ⟨rfl, by rw [hU]; exact pick_P hP is hC, hK.warm hWm⟩⟩ rfl rfl hsz rfl (lv_room hrest) hdg hroom) kk
/-- a static read -/
theorem call_SR {ym : MethodName} {bm : ByteArray} {tym : Option FieldType} {avm : List Value} (E : ent p s m meth c ym bm nL tym avm) (hargs : args = avm.toArray) (hK : kx g s) (hP : va_P g.1 vwCl B.flatten H) (hM : cR l g y b n ty rm As C r) (ok : okS y b n ty As.length) (hown : ym.cls = own) (hlink : Cond.methodLink own index y ∈ wsL_law) (is : List Nat) (hC : is.map (fun i => B[i]?) = C.map some) (hR : rmOk rm R n) (hsz : ls.size = nL) (hrest : (rest.map fun v => v.category).sum ≤ 8) (hroom : cells ≤ R.cells ∧ slots ≤ R.slots) (hst : st0 = As.reverse ++ rest) (hdg : decode bm pc = .ok (.invokestatic index, 3))
    (kk : W p l e R s m args below meth c H locs cells slots Q (F0 m (pc + 3) ls (r :: rest))) : W p l e R s m args below meth c H locs cells slots Q (F0 m pc ls st0) := by
  subst hargs; subst hst; subst hown
  exact run_R (y := y) (b := b) (n := n) (ty := ty) (rm := rm) (va_runS ⟨E.1, E.2.1, E.2.2.2.1, E.2.2.2.2.2.1, E.2.2.2.2.1⟩ hM (csOk E.2.2.2.2.1 ok hlink hR) ⟨blindR, fun U hU hWm => ⟨rfl, by rw [hU]; exact pick_P hP is hC, hK.warm hWm⟩⟩ rfl rfl hsz rfl (lv_room hrest) hdg hroom) kk
/-- a static read of a nest mate's -/
theorem call_NR {ym : MethodName} {bm : ByteArray} {tym : Option FieldType} {avm : List Value} (E : ent p s m meth c ym bm nL tym avm) (hargs : args = avm.toArray) (hK : kx g s) (hP : va_P g.1 vwCl B.flatten H) (hM : cR l g y b n ty rm As C r) (ok : okS y b n ty As.length) (hown : ym.cls = own) (hlink : va_Nw (.methodLinkNest own index y "BellTowns") s) (is : List Nat) (hC : is.map (fun i => B[i]?) = C.map some) (hR : rmOk rm R n) (hsz : ls.size = nL) (hrest : (rest.map fun v => v.category).sum ≤ 8) (hroom : cells ≤ R.cells ∧ slots ≤ R.slots) (hst : st0 = As.reverse ++ rest) (hdg : decode bm pc = .ok (.invokestatic index, 3))
    (kk : W p l e R s m args below meth c H locs cells slots Q (F0 m (pc + 3) ls (r :: rest))) : W p l e R s m args below meth c H locs cells slots Q (F0 m pc ls st0) := by
  subst hargs; subst hst; subst hown
  exact run_R (y := y) (b := b) (n := n) (ty := ty) (rm := rm) (va_runSN ⟨E.1, E.2.1, E.2.2.2.1, E.2.2.2.2.2.1, E.2.2.2.2.1⟩ hM (cnOk E.2.2.2.2.1 ok hlink hR) ⟨blindR, fun U hU hWm => ⟨rfl, by rw [hU]; exact pick_P hP is hC, hK.warm hWm⟩⟩ rfl rfl hsz rfl (lv_room hrest) hdg hroom) kk
/-- a write, called on an object -/
theorem call_VU {S : Type} {ru : S → Option Value} {post : S → Prop} {C1 : S → List va_W} {ym : MethodName} {bm : ByteArray} {tym : Option FieldType} {avm : List Value} (E : ent p s m meth c ym bm nL tym avm) (hargs : args = avm.toArray) (hK : kx g s) (hW : wd g A H0 B H locs) (hM : cU l g y b n ty rm (.ref a :: As) C ru post C1) (ok : okV y b n ty As.length) (hown : ym.cls = own) (hlink : Cond.methodLink own index y ∈ wsL_law) (is : List Nat) (hC : is.map (fun i => B[i]?) = C.map some) (hn : va_nd is = true) (hrc : ∃ cell : Cell, H[a]? = some cell ∧ cell.vm.isStatics = false ∧ s.vm.findClass y.cls = some cell.cls) (hR : rmOk rm R n) (hsz : ls.size = nL) (hrest : (rest.map fun v => v.category).sum ≤ 8) (hroom : cells ≤ R.cells ∧ slots ≤ R.slots) (hst : st0 = As.reverse ++ .ref a :: rest) (hdg : decode bm pc = .ok (.invokevirtual index, 3))
    (kk : ∀ (u : S) (H1 : Heap) (locs1 : List Loc), post u → wd g A H0 (sets B is (C1 u)) H1 locs1 → W p l e R s m args below meth c H1 locs1 cells slots Q (F0 m (pc + 3) ls ((ru u).toList ++ rest))) : W p l e R s m args below meth c H locs cells slots Q (F0 m pc ls st0) := by
  subst hargs; subst hst; subst hown
  exact run_U hW is hC hn (va_runV ⟨E.1, E.2.1, E.2.2.2.1, E.2.2.2.2.2.1, E.2.2.2.2.1⟩ hM (cwOk E.2.2.2.2.1 ok hlink hR rfl) ⟨blindU, hrc, fun U hU hWm => ⟨rfl, by rw [hU]; exact pick_P hW.1 is hC, (pick_D hW.2.1 is C hC hn).weaken (fun _ _ _ _ => trivial), hK.warm hWm⟩⟩ rfl rfl hsz rfl (lv_room hrest) hdg hroom) kk
/-- a static write -/
theorem call_SU {S : Type} {ru : S → Option Value} {post : S → Prop} {C1 : S → List va_W} {ym : MethodName} {bm : ByteArray} {tym : Option FieldType} {avm : List Value} (E : ent p s m meth c ym bm nL tym avm) (hargs : args = avm.toArray) (hK : kx g s) (hW : wd g A H0 B H locs) (hM : cU l g y b n ty rm As C ru post C1) (ok : okS y b n ty As.length) (hown : ym.cls = own) (hlink : Cond.methodLink own index y ∈ wsL_law) (is : List Nat) (hC : is.map (fun i => B[i]?) = C.map some) (hn : va_nd is = true) (hR : rmOk rm R n) (hsz : ls.size = nL) (hrest : (rest.map fun v => v.category).sum ≤ 8) (hroom : cells ≤ R.cells ∧ slots ≤ R.slots) (hst : st0 = As.reverse ++ rest) (hdg : decode bm pc = .ok (.invokestatic index, 3))
    (kk : ∀ (u : S) (H1 : Heap) (locs1 : List Loc), post u → wd g A H0 (sets B is (C1 u)) H1 locs1 → W p l e R s m args below meth c H1 locs1 cells slots Q (F0 m (pc + 3) ls ((ru u).toList ++ rest))) : W p l e R s m args below meth c H locs cells slots Q (F0 m pc ls st0) := by
  subst hargs; subst hst; subst hown
  exact run_U hW is hC hn (va_runS ⟨E.1, E.2.1, E.2.2.2.1, E.2.2.2.2.2.1, E.2.2.2.2.1⟩ hM (csOk E.2.2.2.2.1 ok hlink hR) ⟨blindU, fun U hU hWm => ⟨rfl, by rw [hU]; exact pick_P hW.1 is hC, (pick_D hW.2.1 is C hC hn).weaken (fun _ _ _ _ => trivial), hK.warm hWm⟩⟩ rfl rfl hsz rfl (lv_room hrest) hdg hroom) kk
end CALLS
end BROW
/-- a loop by a number that rises to N -/
theorem loopN (P : Nat → Prop) (N : Nat) (h : ∀ i, i ≤ N → (i < N → P (i + 1)) → P i) : ∀ i, i ≤ N → P i := by
  have key : ∀ n i, i + n = N → P i := by
    intro n
    induction n with
    | zero => intro i hi; exact h i (by omega) (fun hl => by omega)
    | succ n ih => intro i hi; exact h i (by omega) (fun _ => ih (i + 1) (by omega))
  intro i hi
  exact key (N - i) i (by omega)
/-- the state of a game: twelve rows (milestones, ringers, tired, bells, plans, feasts, silences, points, how often loudest; weights, wears, rung), and the numbers FADE, REST, turn, latest loudest, without -/
abbrev sV : Type := Nat → Nat → Int32
def up2 (V : sV) (k j : Nat) (x : Int32) : sV := fun k' => bif Nat.beq k' k then upd (V k) j x else V k'
/-- the cells of a valley at h, its rows at a 0 .. a 11 -/
abbrev vB (g : gx) (h : Nat) (a : Nat → Nat) (V : sV) : va_W := [(h, .inr (3, [.ref (a 0), .ref (a 1), .ref (a 2), .ref (a 3), .ref (a 4), .ref (a 5), .ref (a 6), .ref (a 7), .ref (a 8), .ref (a 9), .ref (a 10), .ref (a 11), .int (V 12 0), .int (V 12 1), .int (V 12 2), .int (V 12 4), .int (V 12 3)])), (a 0, .inl (g.2.1, 6, .inl (V 0))), (a 1, .inl (g.2.1, 6, .inl (V 1))), (a 2, .inl (g.2.1, 6, .inl (V 2))), (a 3, .inl (g.2.1, 6, .inl (V 3))), (a 4, .inl (g.2.1, 6, .inl (V 4))), (a 5, .inl (g.2.1, 6, .inl (V 5))), (a 6, .inl (g.2.1, 6, .inl (V 6))), (a 7, .inl (g.2.1, 6, .inl (V 7))), (a 8, .inl (g.2.1, 6, .inl (V 8))), (a 9, .inl (g.2.1, 30, .inl (V 9))), (a 10, .inl (g.2.1, 30, .inl (V 10))), (a 11, .inl (g.2.1, 30, .inl (V 11)))]
/-- the cells of what is rung in the next turn: reasons, volumes, busy ringers, winners; the loudest town is N 4 0 -/
abbrev rB (g : gx) (h : Nat) (a : Nat → Nat) (N : sV) : va_W := [(h, .inr (1, [.ref (a 0), .ref (a 1), .ref (a 2), .ref (a 3), .int (N 4 0)])), (a 0, .inl (g.2.1, 30, .inl (N 0))), (a 1, .inl (g.2.1, 6, .inl (N 1))), (a 2, .inl (g.2.1, 6, .inl (N 2))), (a 3, .inl (g.2.1, 6, .inl (N 3)))]
/-- the cells of a text -/
abbrev sB (g : gx) (h a : Nat) (f : Nat → Int32) (n : Nat) : va_W := [(h, .inr (2, [.ref a, .int (nI n)])), (a, .inl (g.2.2.1, 60, .inl f))]
/-- the head of a history -/
abbrev hB (g : gx) (h a : Nat) (hh : Nat → Nat) (o n : Nat) : va_W := [(h, .inr (0, [.ref a, .int (nI o), .int (nI n)])), (a, .inl (g.2.2.2, 5, .inr (.inr (.inr (.inr (fun i => some (hh i)))))))]
/-- the class's own object: now, trial, snapshot, whether it is taken, history, ringing, script -/
abbrev bB (h : Nat) (q : Nat → Nat) (z : Int32) : va_W := [(h, .inr (4, [.ref (q 0), .ref (q 1), .ref (q 2), .int z, .ref (q 3), .ref (q 4), .ref (q 5)]))]
/-- the cells of the reference: its rows (row, history, snapshot, aside, loud, text, letter, one, bells) at a 0 .. a 8; its numbers states, isSaved, length, spot, orders are M 9 -/
abbrev mB (g : gx) (h : Nat) (a : Nat → Nat) (M : sV) : va_W := [(h, .inr (5, [.ref (a 0), .ref (a 1), .int (M 9 0), .ref (a 2), .int (M 9 1), .ref (a 3), .ref (a 4), .ref (a 5), .int (M 9 2), .int (M 9 3), .int (M 9 4), .ref (a 6), .ref (a 7), .ref (a 8)])), (a 0, .inl (g.2.1, 149, .inl (M 0))), (a 1, .inl (g.2.1, 745, .inl (M 1))), (a 2, .inl (g.2.1, 149, .inl (M 2))), (a 3, .inl (g.2.1, 149, .inl (M 3))), (a 4, .inl (g.2.1, 6, .inl (M 4))), (a 5, .inl (g.2.1, 60, .inl (M 5))), (a 6, .inl (g.2.1, 32, .inl (M 6))), (a 7, .inl (g.2.1, 32, .inl (M 7))), (a 8, .inl (g.2.1, 32, .inl (M 8)))]
