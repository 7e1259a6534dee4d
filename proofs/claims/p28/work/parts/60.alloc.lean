/-! ===== CONTRACTS that make objects and drop them (cA), that draw (cB); rows of both ===== -/
def cA {S : Type} (l : Launch) (g : gx) (y : MethodName) (b : ByteArray) (n : Nat) (ty : Option FieldType) (rm : Room) (av : List Value) (C : List va_W) (sz : Nat) (r : S → Option Value) (post : S → Prop) (C1 : S → List va_W) (mc ms : Nat) : Prop :=
  Met l y (wm y b n ty) rm (va_Pc av (fun U => U.heap.size = sz ∧ va_P g.1 vwCl C.flatten U.heap ∧ va_D (fun _ => True) C.flatten ∧ kq g U)) (qU g C r post C1) mc ms (frN C sz)
theorem cA.mk {S : Type} {l : Launch} {g : gx} {y : MethodName} {b : ByteArray} {n : Nat} {ty : Option FieldType} {rm : Room} {av : List Value} {C : List va_W} {sz : Nat} {r : S → Option Value} {post : S → Prop} {C1 : S → List va_W} {mc ms : Nat} (hy : plainName y.cls = true) (hn : (lg_sl av).length ≤ n)
    (body : ∀ (p : Program) (e : Env) (s : State) (m : MethodId) (below : List Frame) (meth : Method) (c : Code) (ls : Array Slot), ent p s m meth c y b n ty av → kq g s → s.heap.size = sz → wd g (frN C sz) s.heap C s.heap [] → lv_has ls n (lv_args 0 av) →
      W p l e rm s m av.toArray below meth c s.heap [] 0 0 (MQ below (qU g C r post C1) av.toArray s mc ms (frN C sz)) (F0 m 0 ls [])) : cA l g y b n ty rm av C sz r post C1 mc ms := by
  refine Met.ofW (cc := b) (maxL := n) (ret := ty) hy rfl ?_
  intro p e s m args below meth c s₁ B hml hv
  obtain ⟨rfl, hsz, hP, hD, hK⟩ := hv
  rw [lg_entry_eq]
  have hts := atoms_spec (ws := wm y b n ty) B.pre
  exact body p e s m below meth c _ ⟨B.exec, B.bytes, B.returns, hml, fun w h => hts w (List.mem_cons_of_mem _ h), findClass_of_methodNamed B.named, B.notSynchronized, fun h => (name_of_methodNamed B.named B.method).1.trans h⟩ hK hsz ⟨hP, hD.weaken (fun k q hk _ => Or.inl (List.mem_map_of_mem (List.mem_of_getElem? hk))), va_S.rf⟩ (lv_entry av hn)
theorem wd.callA {g : gx} {A : Nat → Prop} {H0 H H1 : Heap} {B B' C C1 : List va_W} {locs L : List Loc} (hW : wd g A H0 B H locs) (hA : ∀ q, H0.size ≤ q → A q) {is : List Nat} (hC : is.map (fun i => B[i]?) = C.map some) (hn : va_nd is = true) (ha : C1.map (List.map Prod.fst) = C.map (List.map Prod.fst)) (hP1 : va_P g.1 vwCl C1.flatten H1) (hz : H.size ≤ H1.size) (hk : ∀ q : Nat, q < H.size → q ∉ adr C → H1[q]? = H[q]?) (hL : ∀ q ∈ L, frN C H.size q.base) (hB' : sets B is C1 = B') : wd g A H0 B' H1 (locs ++ L) := by
  have hin := hW.adrIn hC
  have h1 := hW.call (H1 := H1) (L := []) hC hn ha hP1 hz hk (fun q hq => absurd hq List.not_mem_nil) hB'
  refine ⟨h1.1, h1.2.1, h1.2.2.1, h1.2.2.2.1, fun q hq => ?_⟩
  rcases List.mem_append.mp hq with h | h
  · exact hW.2.2.2.2 q h
  · rcases hL q h with h2 | h2
    · exact hin _ h2
    · exact hA _ (Nat.le_trans hW.2.2.1 h2)
section AROW
variable {p : Program} {l : Launch} {e : Env} {R : Room} {s : State} {m : MethodId} {args : Array Value} {below : List Frame} {meth : Method} {c : Code} {H H0 : Heap} {locs : List Loc} {cells slots : Nat} {Q : State → Prop} {cc : ByteArray} {pc : Nat} {ls : Array Slot} {rest : List Value} {g : gx} {A : Nat → Prop} {B B' : List va_W} {a : Nat}
theorem run_A {S : Type} {C : List va_W} {r : S → Option Value} {post : S → Prop} {C1 : S → List va_W} {st0 : List Value} {av : Array Value} {mc ms : Nat} (hW : wd g A H0 B H locs) (hA : ∀ q, H0.size ≤ q → A q) (is : List Nat) (hC : is.map (fun i => B[i]?) = C.map some) (hn : va_nd is = true) (hr : va_Run p l e R s m args below meth c H locs cells slots mc ms (F0 m pc ls st0) rest (qU g C r post C1 av) (frN C H.size))
    (kk : ∀ (u : S) (H1 : Heap) (locs1 : List Loc), post u → wd g A H0 (sets B is (C1 u)) H1 locs1 → W p l e R s m args below meth c H1 locs1 (cells + mc) (slots + ms) Q (F0 m (pc + 3) ls ((r u).toList ++ rest))) : W p l e R s m args below meth c H locs cells slots Q (F0 m pc ls st0) := by
  intro T hT X
  obtain ⟨v, st₀, t, T', L, h1, X', hL, e1, e2, ⟨u, q1, q2, q3, q4, q5, q6⟩, st⟩ := hr T hT X
  cases q1
  have hW1 := hW.callA (H1 := T'.heap) hA hC hn q4 (by rw [e1]; exact q3) (by rw [e1, ← h1]; exact q5) (fun q h1' h2 => by rw [e1, ← h1]; exact q6 q (by rw [h1]; exact h1') h2) hL rfl
  obtain ⟨t2, a1, b1⟩ := kk u T'.heap _ q2 hW1 T' rfl X'
  exact ⟨t2, st t2 a1, b1⟩
/-- a static method that makes objects -/
theorem call_SA {S : Type} {y : MethodName} {b : ByteArray} {n nL index mc ms : Nat} {ty : Option FieldType} {rm : Room} {As : List Value} {C : List va_W} {own : String} {st0 : List Value} {ru : S → Option Value} {post : S → Prop} {C1 : S → List va_W} {ym : MethodName} {bm : ByteArray} {tym : Option FieldType} {avm : List Value} (E : ent p s m meth c ym bm nL tym avm) (hargs : args = avm.toArray) (hK : kq g s) (hW : wd g A H0 B H locs) (hA : ∀ q, H0.size ≤ q → A q) (hM : cA l g y b n ty rm As C H.size ru post C1 mc ms) (ok : okS y b n ty As.length) (hown : ym.cls = own) (hlink : Cond.methodLink own index y ∈ wsL_law) (is : List Nat) (hC : is.map (fun i => B[i]?) = C.map some) (hn : va_nd is = true) (hR : rmN rm R n mc ms) (hsz : ls.size = nL) (hrest : (rest.map fun v => v.category).sum ≤ 8) (hroom : cells + mc ≤ R.cells ∧ slots + ms ≤ R.slots) (hst : st0 = As.reverse ++ rest) (hdg : decode bm pc = .ok (.invokestatic index, 3))
    (kk : ∀ (u : S) (H1 : Heap) (locs1 : List Loc), post u → wd g A H0 (sets B is (C1 u)) H1 locs1 → W p l e R s m args below meth c H1 locs1 (cells + mc) (slots + ms) Q (F0 m (pc + 3) ls ((ru u).toList ++ rest))) : W p l e R s m args below meth c H locs cells slots Q (F0 m pc ls st0) := by
  subst hargs; subst hst; subst hown
  exact run_A hW hA is hC hn (va_runS ⟨E.1, E.2.1, E.2.2.2.1, E.2.2.2.2.2.1, E.2.2.2.2.1⟩ hM ⟨callB_of As.length E.2.2.2.2.1 (wm_good ok.1) rfl hR.1.1 hR.1.2 (E.2.2.2.2.1 _ ok.2.2.1) (E.2.2.2.2.1 _ hlink) ok.2.2.2 hR.2, E.2.2.2.2.1 _ ok.2.1⟩ ⟨blindN, fun U hU hWm => ⟨rfl, by rw [hU], by rw [hU]; exact pick_P hW.1 is hC, (pick_D hW.2.1 is C hC hn).weaken (fun _ _ _ _ => trivial), hK.warm hWm⟩⟩ rfl rfl hsz rfl (lv_room hrest) hdg hroom) kk
/-- a new row of ints, a block of its own -/
theorem b_newB (hexec : p.tables.exec = Jvm.exec) (hb : c.code = cc) (hts : ∀ w ∈ wsL_law, w.before args s = true) (hK : kq g s) (hW : wd g A H0 B H locs) (hA : ∀ q, H0.size ≤ q → A q) {n : Int32} {N : Nat} (hn : ¬ n < 0) (hN : n.toNatClampNeg = N) (hbytes : N * 4 ≤ 536870912) (hcells : cells + 1 ≤ R.cells) (hslots : slots + N ≤ R.slots) (hdg : decode cc pc = .ok (.newarray .int, 2))
    (kk : ∀ (q : Nat) (H1 : Heap), wd g A H0 (B ++ [[(q, .inl (g.2.1, N, .inl (fun _ => 0)))]]) H1 locs → W p l e R s m args below meth c H1 locs (cells + 1) (slots + N) Q (F0 m (pc + 2) ls (.ref q :: rest))) : W p l e R s m args below meth c H locs cells slots Q (F0 m pc ls (.int n :: rest)) := by
  refine va_newa (atype := .int) (ty := .int) (a0 := (N, .inl (fun _ => 0))) hexec hb (hts _ q1_96) rfl hK.1.1 hW.1 hW.2.1 hW.2.2 hA (fun cA => rfl) hn hN hbytes hcells hslots hdg (fun q cA H1 hK2 hP hD hS => ?_)
  have e1 : s.vm.findClass ("[" ++ (FieldType.int).toString) = some cA := (hK2.2 3 (cA, .int) rfl).2
  have e2 : s.vm.findClass ("[" ++ (FieldType.int).toString) = some g.2.1 := (hK.1.1.2 0 (g.2.1, .int) rfl).2
  obtain rfl : cA = g.2.1 := Option.some.inj (e1.symm.trans e2)
  refine kk q H1 ?_
  rw [fl1] at hP hD
  exact ⟨hP, hD, hS⟩
theorem b_alen (hexec : p.tables.exec = Jvm.exec) (hb : c.code = cc) (hK : kx g s) (hP : va_P g.1 vwCl B.flatten H) (i k : Nat) {b : va_W} {n : Nat} {f : Nat → Int32} (h1 : B[i]? = some b) (h2 : b[k]? = some (a, .inl (g.2.1, n, .inl f))) (hdg : decode cc pc = .ok (.arraylength, 1))
    (kk : W p l e R s m args below meth c H locs cells slots Q (F0 m (pc + 1) ls (.int (nI n) :: rest))) : W p l e R s m args below meth c H locs cells slots Q (F0 m pc ls (.ref a :: rest)) := by
  obtain ⟨f0, e1, -⟩ := flat_at B i k h1 h2
  exact va_alen hexec hb hK.1 hP f0 0 e1 rfl (v := nI n) rfl hdg kk
/-! ends of a method that makes objects -/
theorem aV_ret {S : Type} {C : List va_W} {sz : Nat} {post : S → Prop} {C1 : S → List va_W} (u : S) (Bx : List va_W) (hsz : s.heap.size = sz) (hW : wd g (frN C sz) s.heap (B ++ Bx) H locs) (hexec : p.tables.exec = Jvm.exec) (hb : c.code = cc) (hr : meth.sig.returnType = none) (hlocks : meth.locks = false) (hdg : decode cc pc = .ok (.return_, 1)) (hp : post u) (hB : B = C1 u) (ha : (C1 u).map (List.map Prod.fst) = C.map (List.map Prod.fst)) : W p l e R s m args below meth c H locs cells slots (MQ below (qU g C (fun _ => none) post C1) args s cells slots (frN C sz)) (F0 m pc ls []) := by
  subst hB
  have hP : va_P g.1 vwCl (C1 u).flatten H := va_P.ofMem (fun q hq => hW.1.mem (by rw [List.flatten_append]; exact List.mem_append_left _ hq))
  exact W.vret hexec hb hr (fun t ht _ => ⟨u, rfl, hp, by rw [ht]; exact hP, ha, by rw [ht]; exact hW.2.2.1, fun q h1 h2 => by rw [ht]; exact hW.2.2.2.1 q h1 (fun h => h.elim h2 (fun h => absurd h (by omega)))⟩) hW.2.2.2.2 hdg hlocks
theorem aZ_ret {S : Type} {C : List va_W} {sz : Nat} {r : S → Int32} {post : S → Prop} {C1 : S → List va_W} {v : Int32} (u : S) (Bx : List va_W) (hsz : s.heap.size = sz) (hW : wd g (frN C sz) s.heap (B ++ Bx) H locs) (hexec : p.tables.exec = Jvm.exec) (hb : c.code = cc) (hr : meth.sig.returnType = some .boolean) (hlocks : meth.locks = false) (hdg : decode cc pc = .ok (.ireturn, 1)) (hz : narrow .boolean (.int v) = .int v) (hv : v = r u) (hp : post u) (hB : B = C1 u) (ha : (C1 u).map (List.map Prod.fst) = C.map (List.map Prod.fst)) : W p l e R s m args below meth c H locs cells slots (MQ below (qU g C (fun u => some (.int (r u))) post C1) args s cells slots (frN C sz)) (F0 m pc ls [.int v]) := by
  subst hB; subst hv
  have hP : va_P g.1 vwCl (C1 u).flatten H := va_P.ofMem (fun q hq => hW.1.mem (by rw [List.flatten_append]; exact List.mem_append_left _ hq))
  exact W.zret hexec hb hr hz (fun t ht _ => ⟨u, rfl, hp, by rw [ht]; exact hP, ha, by rw [ht]; exact hW.2.2.1, fun q h1 h2 => by rw [ht]; exact hW.2.2.2.1 q h1 (fun h => h.elim h2 (fun h => absurd h (by omega)))⟩) hW.2.2.2.2 hdg hlocks
end AROW
/-! a method that draws and writes -/
theorem ent_dr {p : Program} {s : State} {m : MethodId} {meth : Method} {c : Code} {y : MethodName} {b : ByteArray} {n : Nat} {ty : Option FieldType} {av : List Value} (E : ent p s m meth c y b n ty av) (d : Drawn) : ent p (s.setDrawn d) m meth c y b n ty av :=
  ⟨E.1, E.2.1, E.2.2.1, E.2.2.2.1, dr_words E.2.2.2.2.1 d, E.2.2.2.2.2.1, E.2.2.2.2.2.2.1, E.2.2.2.2.2.2.2⟩
theorem kq_dr {g : gx} {s : State} (h : kq g s) (d : Drawn) : kq g (s.setDrawn d) := h.same rfl
theorem kx_dr {g : gx} {s : State} (h : kx g s) (d : Drawn) : kx g (s.setDrawn d) := h.same rfl
def cB {S : Type} (l : Launch) (g : gx) (y : MethodName) (b : ByteArray) (n : Nat) (ty : Option FieldType) (rm : Room) (av : List Value) (C : List va_W) (r : S → Option Value) (post : S → Prop) (C1 : S → List va_W) : Prop :=
  MetD lw_cs l y (wm y b n ty) rm (va_Pc av (fun U => va_P g.1 vwCl C.flatten U.heap ∧ va_D (fun _ => True) C.flatten ∧ kx g U)) (qU g C r post C1) 0 0 (fun q => q ∈ adr C)
theorem cB.mk {S : Type} {l : Launch} {g : gx} {y : MethodName} {b : ByteArray} {n : Nat} {ty : Option FieldType} {rm : Room} {av : List Value} {C : List va_W} {r : S → Option Value} {post : S → Prop} {C1 : S → List va_W} (hy : plainName y.cls = true) (hn : (lg_sl av).length ≤ n)
    (body : ∀ (p : Program) (e : Env) (s0 : State) (d0 : Drawn) (m : MethodId) (below : List Frame) (meth : Method) (c : Code) (ls : Array Slot), s0.drawn.sameBut d0 lw_cs → ent p s0 m meth c y b n ty av → kx g s0 → wd g (fun q => q ∈ adr C) s0.heap C s0.heap [] → lv_has ls n (lv_args 0 av) →
      W p l e rm (s0.setDrawn d0) m av.toArray below meth c s0.heap [] 0 0 (MQD lw_cs below (qU g C r post C1) av.toArray s0 0 0 (fun q => q ∈ adr C)) (F0 m 0 ls [])) : cB l g y b n ty rm av C r post C1 := by
  refine MetD.ofW (cc := b) (maxL := n) (ret := ty) hy rfl ?_
  intro p e s m args below meth c s₁ B hml hv hd0
  obtain ⟨rfl, hP, hD, hK⟩ := hv
  rw [lg_entry_eq]
  have hts := atoms_spec (ws := wm y b n ty) B.pre
  exact body p e s s.drawn m below meth c _ hd0 ⟨B.exec, B.bytes, B.returns, hml, fun w h => hts w (List.mem_cons_of_mem _ h), findClass_of_methodNamed B.named, B.notSynchronized, fun h => (name_of_methodNamed B.named B.method).1.trans h⟩ hK ⟨hP, hD.weaken (fun k q hk _ => List.mem_map_of_mem (List.mem_of_getElem? hk)), va_S.rf⟩ (lv_entry av hn)
section BDROW
variable {p : Program} {l : Launch} {e : Env} {R : Room} {s : State} {m : MethodId} {args : Array Value} {below : List Frame} {meth : Method} {c : Code} {H H0 : Heap} {locs : List Loc} {cells slots : Nat} {Q : State → Prop} {cc : ByteArray} {pc : Nat} {ls : Array Slot} {rest : List Value} {g : gx} {A : Nat → Prop} {B B' : List va_W} {a : Nat} {d0 : Drawn}
theorem run_B {S : Type} {C : List va_W} {r : S → Option Value} {post : S → Prop} {C1 : S → List va_W} {st0 : List Value} {av : Array Value} (hd0 : s.drawn.sameBut d0 lw_cs) (hW : wd g A H0 B H locs) (is : List Nat) (hC : is.map (fun i => B[i]?) = C.map some) (hn : va_nd is = true) (hr : va_RunD lw_cs p l e R (s.setDrawn d0) m args below meth c H locs cells slots 0 0 (F0 m pc ls st0) rest (qU g C r post C1 av) (fun q => q ∈ adr C))
    (kk : ∀ (u : S) (d1 : Drawn) (H1 : Heap) (locs1 : List Loc), s.drawn.sameBut d1 lw_cs → post u → wd g A H0 (sets B is (C1 u)) H1 locs1 → W p l e R (s.setDrawn d1) m args below meth c H1 locs1 cells slots Q (F0 m (pc + 3) ls ((r u).toList ++ rest))) : W p l e R (s.setDrawn d0) m args below meth c H locs cells slots Q (F0 m pc ls st0) := by
  intro T hT X
  obtain ⟨v, st₀, t, T', L, d', hd', h1, X', hL, e1, e2, ⟨u, q1, q2, q3, q4, q5, q6⟩, st⟩ := hr T hT X
  cases q1
  have hW1 := hW.call (H1 := T'.heap) hC hn q4 (by rw [e1]; exact q3) (by rw [e1, ← h1]; exact q5) (fun q h1' h2 => by rw [e1, ← h1]; exact q6 q (by rw [h1]; exact h1') h2) hL rfl
  obtain ⟨t2, a1, b1⟩ := kk u d' T'.heap _ (hd0.trans hd') q2 hW1 T' rfl X'
  exact ⟨t2, st t2 a1, b1⟩
theorem call_SB {S : Type} {y : MethodName} {b : ByteArray} {n nL index : Nat} {ty : Option FieldType} {rm : Room} {As : List Value} {C : List va_W} {own : String} {st0 : List Value} {ru : S → Option Value} {post : S → Prop} {C1 : S → List va_W} {ym : MethodName} {bm : ByteArray} {tym : Option FieldType} {avm : List Value} (hd0 : s.drawn.sameBut d0 lw_cs) (E : ent p (s.setDrawn d0) m meth c ym bm nL tym avm) (hargs : args = avm.toArray) (hK : kx g (s.setDrawn d0)) (hW : wd g A H0 B H locs) (hM : cB l g y b n ty rm As C ru post C1) (ok : okS y b n ty As.length) (hown : ym.cls = own) (hlink : Cond.methodLink own index y ∈ wsL_law) (is : List Nat) (hC : is.map (fun i => B[i]?) = C.map some) (hn : va_nd is = true) (hR : rmOk rm R n) (hsz : ls.size = nL) (hrest : (rest.map fun v => v.category).sum ≤ 8) (hroom : cells ≤ R.cells ∧ slots ≤ R.slots) (hst : st0 = As.reverse ++ rest) (hdg : decode bm pc = .ok (.invokestatic index, 3))
    (kk : ∀ (u : S) (d1 : Drawn) (H1 : Heap) (locs1 : List Loc), s.drawn.sameBut d1 lw_cs → post u → wd g A H0 (sets B is (C1 u)) H1 locs1 → W p l e R (s.setDrawn d1) m args below meth c H1 locs1 cells slots Q (F0 m (pc + 3) ls ((ru u).toList ++ rest))) : W p l e R (s.setDrawn d0) m args below meth c H locs cells slots Q (F0 m pc ls st0) := by
  subst hargs; subst hst; subst hown
  exact run_B hd0 hW is hC hn (va_runS_D (bytes := b) (maxL := n) (ret := ty) ⟨E.1, E.2.1, E.2.2.2.1, E.2.2.2.2.2.1, E.2.2.2.2.1⟩ hM (csOk E.2.2.2.2.1 ok hlink hR) ⟨blindU, fun U hU hWm => ⟨rfl, by rw [hU]; exact pick_P hW.1 is hC, (pick_D hW.2.1 is C hC hn).weaken (fun _ _ _ _ => trivial), hK.warm hWm⟩⟩ rfl rfl hsz rfl (lv_room hrest) hdg hroom) kk
theorem run_D {v : UInt64 → Prop} {st0 : List Value} {av : Array Value} (hd0 : s.drawn.sameBut d0 lw_cs) (hr : va_RunD lw_cs p l e R (s.setDrawn d0) m args below meth c H locs cells slots 0 0 (F0 m pc ls st0) rest (qD v av) (fun _ => False))
    (kk : ∀ (r : UInt64) (d1 : Drawn), s.drawn.sameBut d1 lw_cs → v r → W p l e R (s.setDrawn d1) m args below meth c H locs cells slots Q (F0 m (pc + 3) ls (.double r :: rest))) : W p l e R (s.setDrawn d0) m args below meth c H locs cells slots Q (F0 m pc ls st0) := by
  intro T hT X
  obtain ⟨v, st₀, t, T', L, d', hd', h1, X', hL, e1, e2, ⟨r, q1, q2, q3⟩, st⟩ := hr T hT X
  have hL0 : L = [] := by
    cases L with
    | nil => rfl
    | cons q L => exact (hL q List.mem_cons_self).elim
  subst hL0
  cases q1
  rw [List.append_nil] at X'
  obtain ⟨t2, a1, b1⟩ := kk r d' (hd0.trans hd') q2 T' (by rw [e1, q3, h1]) X'
  exact ⟨t2, st t2 a1, b1⟩
theorem call_VD {y : MethodName} {b : ByteArray} {n nL index : Nat} {rm : Room} {As : List Value} {C : List va_W} {v : UInt64 → Prop} {own : String} {st0 : List Value} {ym : MethodName} {bm : ByteArray} {tym : Option FieldType} {avm : List Value} (hd0 : s.drawn.sameBut d0 lw_cs) (E : ent p (s.setDrawn d0) m meth c ym bm nL tym avm) (hargs : args = avm.toArray) (hK : kx g (s.setDrawn d0)) (hP : va_P g.1 vwCl B.flatten H) (hM : cD l g y b n rm (.ref a :: As) C v) (ok : okV y b n (some .double) As.length) (hown : ym.cls = own) (hlink : Cond.methodLink own index y ∈ wsL_law) (is : List Nat) (hC : is.map (fun i => B[i]?) = C.map some) (hrc : ∃ cell : Cell, H[a]? = some cell ∧ cell.vm.isStatics = false ∧ (s.setDrawn d0).vm.findClass y.cls = some cell.cls) (hR : rmOk rm R n) (hsz : ls.size = nL) (hrest : (rest.map fun v => v.category).sum ≤ 8) (hroom : cells ≤ R.cells ∧ slots ≤ R.slots) (hst : st0 = As.reverse ++ .ref a :: rest) (hdg : decode bm pc = .ok (.invokevirtual index, 3))
    (kk : ∀ (r : UInt64) (d1 : Drawn), s.drawn.sameBut d1 lw_cs → v r → W p l e R (s.setDrawn d1) m args below meth c H locs cells slots Q (F0 m (pc + 3) ls (.double r :: rest))) : W p l e R (s.setDrawn d0) m args below meth c H locs cells slots Q (F0 m pc ls st0) := by
  subst hargs; subst hst; subst hown
  exact run_D hd0 (va_runV_D (bytes := b) (maxL := n) (ret := some .double) ⟨E.1, E.2.1, E.2.2.2.1, E.2.2.2.2.2.1, E.2.2.2.2.1⟩ hM (cwOk E.2.2.2.2.1 ok hlink hR rfl) ⟨blindR, hrc, fun U hU hWm => ⟨rfl, by rw [hU]; exact pick_P hP is hC, hK.warm hWm⟩⟩ rfl rfl hsz rfl (lv_room hrest) hdg hroom) kk
end BDROW
/-! ===== the script's int, or another number ===== -/
def cS (l : Launch) (g : gx) (y : MethodName) (b : ByteArray) (n : Nat) (rm : Room) (av : List Value) (a L : Nat) (xs : Nat → Int32) (r : Value) : Prop :=
  Met l y (wm y b n (some .int)) rm (va_Pc av (fun U => va_X a L xs U U.heap ∧ kx g U)) (qR r) 0 0 (fun _ => False)
theorem blindS {g : gx} {av : List Value} {a L : Nat} {xs : Nat → Int32} : FrameBlind (va_Pc av (fun U => va_X a L xs U U.heap ∧ kx g U)) := fun _ U f mk h => ⟨h.1, h.2.1, h.2.2.same rfl⟩
theorem call_SS {p : Program} {l : Launch} {e : Env} {R : Room} {s : State} {m : MethodId} {args : Array Value} {below : List Frame} {meth : Method} {c : Code} {H H0 : Heap} {locs : List Loc} {cells slots : Nat} {Q : State → Prop} {pc : Nat} {ls : Array Slot} {rest : List Value} {g : gx} {y : MethodName} {b : ByteArray} {n nL index : Nat} {rm : Room} {As : List Value} {a L : Nat} {xs : Nat → Int32} {r : Value} {own : String} {st0 : List Value} {ym : MethodName} {bm : ByteArray} {tym : Option FieldType} {avm : List Value} (E : ent p s m meth c ym bm nL tym avm) (hargs : args = avm.toArray) (hK : kx g s) (hX : va_X a L xs s H) (hM : cS l g y b n rm As a L xs r) (ok : okS y b n (some .int) As.length) (hown : ym.cls = own) (hlink : Cond.methodLink own index y ∈ wsL_law) (hR : rmOk rm R n) (hsz : ls.size = nL) (hrest : (rest.map fun v => v.category).sum ≤ 8) (hroom : cells ≤ R.cells ∧ slots ≤ R.slots) (hst : st0 = As.reverse ++ rest) (hdg : decode bm pc = .ok (.invokestatic index, 3))
    (kk : W p l e R s m args below meth c H locs cells slots Q (F0 m (pc + 3) ls (r :: rest))) : W p l e R s m args below meth c H locs cells slots Q (F0 m pc ls st0) := by
  subst hargs; subst hst; subst hown
  exact run_R (y := y) (b := b) (n := n) (ty := some .int) (rm := rm) (va_runS ⟨E.1, E.2.1, E.2.2.2.1, E.2.2.2.2.2.1, E.2.2.2.2.1⟩ hM (csOk E.2.2.2.2.1 ok hlink hR) ⟨blindS, fun U hU hWm => ⟨rfl, by rw [hU]; exact hX.moved hWm.alike, hK.warm hWm⟩⟩ rfl rfl hsz rfl (lv_room hrest) hdg hroom) kk
