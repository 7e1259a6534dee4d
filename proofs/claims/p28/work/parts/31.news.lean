/-! ===== NEW OBJECTS: contracts of constructors (cN) ===== -/
def kq (g : gx) (U : State) : Prop := kx g U ∧ va_AO "BellTowns$Valley" U
theorem kq.warm {g : gx} {s U : State} (hW : s.WarmedH U.vm) (h : kq g s) : kq g U := ⟨h.1.warm hW, h.2.moved hW.alike⟩
theorem kq.same {g : gx} {s U : State} (hv : s.vm = U.vm) (h : kq g s) : kq g U := ⟨h.1.same hv, h.2.moved (by rw [← hv]; exact Vm.Alike.refl _)⟩
abbrev frN (C : List va_W) (sz : Nat) : Nat → Prop := fun q => q ∈ adr C ∨ sz ≤ q
abbrev qN {S : Type} (g : gx) (C : List va_W) (sz : Nat) (post : S → Prop) (C1 : S → List va_W) : Array Value → State → Outcome → State → Prop := fun _ st o t => ∃ u : S, o = .returned none ∧ post u ∧ va_P g.1 vwCl (C1 u).flatten t.heap ∧ va_D (frN C sz) (C1 u).flatten ∧ st.heap.size ≤ t.heap.size ∧ ∀ q : Nat, q < st.heap.size → q ∉ adr C → t.heap[q]? = st.heap[q]?
def cN {S : Type} (l : Launch) (g : gx) (y : MethodName) (b : ByteArray) (n : Nat) (rm : Room) (av : List Value) (C : List va_W) (sz : Nat) (post : S → Prop) (C1 : S → List va_W) (mc ms : Nat) : Prop :=
  Met l y (wm y b n none) rm (va_Pc av (fun U => U.heap.size = sz ∧ va_P g.1 vwCl C.flatten U.heap ∧ va_D (fun _ => True) C.flatten ∧ kq g U)) (qN g C sz post C1) mc ms (frN C sz)
theorem cN.mk {S : Type} {l : Launch} {g : gx} {y : MethodName} {b : ByteArray} {n : Nat} {rm : Room} {av : List Value} {C : List va_W} {sz : Nat} {post : S → Prop} {C1 : S → List va_W} {mc ms : Nat} (hy : plainName y.cls = true) (hn : (lg_sl av).length ≤ n)
    (body : ∀ (p : Program) (e : Env) (s : State) (m : MethodId) (below : List Frame) (meth : Method) (c : Code) (ls : Array Slot), ent p s m meth c y b n none av → kq g s → s.heap.size = sz → wd g (frN C sz) s.heap C s.heap [] → lv_has ls n (lv_args 0 av) →
      W p l e rm s m av.toArray below meth c s.heap [] 0 0 (MQ below (qN g C sz post C1) av.toArray s mc ms (frN C sz)) (F0 m 0 ls [])) : cN l g y b n rm av C sz post C1 mc ms := by
  refine Met.ofW (cc := b) (maxL := n) (ret := none) hy rfl ?_
  intro p e s m args below meth c s₁ B hml hv
  obtain ⟨rfl, hsz, hP, hD, hK⟩ := hv
  rw [lg_entry_eq]
  have hts := atoms_spec (ws := wm y b n none) B.pre
  exact body p e s m below meth c _ ⟨B.exec, B.bytes, B.returns, hml, fun w h => hts w (List.mem_cons_of_mem _ h), findClass_of_methodNamed B.named, B.notSynchronized, fun h => (name_of_methodNamed B.named B.method).1.trans h⟩ hK hsz ⟨hP, hD.weaken (fun k q hk _ => Or.inl (List.mem_map_of_mem (List.mem_of_getElem? hk))), va_S.rf⟩ (lv_entry av hn)
theorem blindN {g : gx} {sz : Nat} {av : List Value} {C : List va_W} : FrameBlind (va_Pc av (fun U => U.heap.size = sz ∧ va_P g.1 vwCl C.flatten U.heap ∧ va_D (fun _ => True) C.flatten ∧ kq g U)) := fun a U f mk h => ⟨h.1, h.2.1, h.2.2.1, h.2.2.2.1, h.2.2.2.2.same rfl⟩
/-- what the tables say of a constructor -/
def okI (y : MethodName) (b : ByteArray) (n k : Nat) : Prop := Cond.code y b n none ∈ wsL_law ∧ Cond.instanceMethod y ∈ wsL_law ∧ Cond.initialized y.cls ∈ wsL_law ∧ y.name = "<init>" ∧ (y.cls ≠ "java/lang/invoke/MethodHandle" ∧ y.cls ≠ "java/lang/invoke/VarHandle" ∧ (parseMethodDescriptor y.desc).map (fun d => d.parameters.length) = some k)
theorem va_D.left {A : Nat → Prop} {w1 w2 : va_W} (h : va_D A (w1 ++ w2)) : va_D A w1 := by
  have key : ∀ (k : Nat) (q : Nat × va_E), w1[k]? = some q → (w1 ++ w2)[k]? = some q := fun k q hk => by
    rw [List.getElem?_append_left (List.getElem?_eq_some_iff.mp hk).1]; exact hk
  exact ⟨fun i j p q hi hj e => h.1 i j p q (key i p hi) (key j q hj) e, fun k q hk => h.2 k q (key k q hk)⟩
theorem wd.callN {g : gx} {A : Nat → Prop} {H0 H H1 : Heap} {Bs C1 : List va_W} {c0 : va_W} {locs L : List Loc} (hW : wd g A H0 (Bs ++ [c0]) H locs) (hA : ∀ q, H0.size ≤ q → A q) (hP1 : va_P g.1 vwCl C1.flatten H1) (hD1 : va_D (frN [c0] H.size) C1.flatten) (hz : H.size ≤ H1.size) (hk : ∀ q : Nat, q < H.size → q ∉ adr [c0] → H1[q]? = H[q]?) (hL : ∀ q ∈ L, frN [c0] H.size q.base) : wd g A H0 (Bs ++ C1) H1 (locs ++ L) := by
  obtain ⟨hP, hD, hS⟩ := hW
  have e0 : (Bs ++ [c0]).flatten = Bs.flatten ++ c0 := by simp
  rw [e0] at hP hD
  have hcA : ∀ q ∈ adr [c0], A q := by
    intro q hq
    obtain ⟨x, hx, rfl⟩ := List.mem_map.mp hq
    have hx : x ∈ c0 := by simpa using hx
    obtain ⟨k, hk2⟩ := List.getElem?_of_mem (List.mem_append_right Bs.flatten hx)
    exact hD.2 k x hk2
  have hfA : ∀ q, frN [c0] H.size q → A q := fun q h => h.elim (hcA q) (fun h => hA q (Nat.le_trans hS.1 h))
  have cross : ∀ (p r : Nat × va_E), p ∈ Bs.flatten → r ∈ c0 → p.1 = r.1 → False := by
    intro p r hp hr hpr
    obtain ⟨x, hx⟩ := List.getElem?_of_mem hp
    obtain ⟨y, hy⟩ := List.getElem?_of_mem hr
    have hlx : x < Bs.flatten.length := (List.getElem?_eq_some_iff.mp hx).1
    have := hD.1 x (Bs.flatten.length + y) p r (by rw [List.getElem?_append_left hlx]; exact hx) (by rw [List.getElem?_append_right (by omega), Nat.add_sub_cancel_left]; exact hy) hpr
    omega
  have hnot : ∀ p : Nat × va_E, p ∈ Bs.flatten → p.1 ∉ adr [c0] := by
    intro p hp hm
    obtain ⟨r, hr, e⟩ := List.mem_map.mp hm
    exact cross p r hp (by simpa using hr) e.symm
  refine ⟨va_P.ofMem (fun q hq => ?_), ?_, Nat.le_trans hS.1 hz, fun q h1 h2 => ?_, fun q hq => ?_⟩
  · rw [List.flatten_append] at hq
    rcases List.mem_append.mp hq with h | h
    · have hat := hP.mem (List.mem_append_left c0 h)
      exact hat.kept (hk q.1 hat.lt (hnot q h))
    · exact hP1.mem h
  · rw [List.flatten_append]
    refine va_D.app hD.left (hD1.weaken (fun k q hk2 h => hfA _ h)) (fun i j p r hi hj e => ?_)
    have hp := List.mem_of_getElem? hi
    rcases hD1.2 j r hj with h | h
    · exact hnot p hp (e ▸ h)
    · have := (hP.mem (List.mem_append_left c0 hp)).lt
      omega
  · exact (hk q (Nat.lt_of_lt_of_le h1 hS.1) (fun hm => h2 (hcA q hm))).trans (hS.2.1 q h1 h2)
  · rcases List.mem_append.mp hq with h | h
    · exact hS.2.2 q h
    · exact hfA _ (hL q h)
theorem fl1 (B : List va_W) (x : Nat × va_E) : B.flatten ++ [x] = (B ++ [[x]]).flatten := by simp
theorem fl2 (Bs : List va_W) (b0 : va_W) (x : Nat × va_E) : (Bs ++ [b0]).flatten ++ [x] = (Bs ++ [b0 ++ [x]]).flatten := by simp
section NROW
variable {p : Program} {l : Launch} {e : Env} {R : Room} {s : State} {m : MethodId} {args : Array Value} {below : List Frame} {meth : Method} {c : Code} {H H0 : Heap} {locs : List Loc} {cells slots : Nat} {Q : State → Prop} {cc : ByteArray} {pc : Nat} {ls : Array Slot} {rest : List Value} {g : gx} {A : Nat → Prop} {B B' Bs : List va_W} {a : Nat} {b0 : va_W}
theorem b_new (hexec : p.tables.exec = Jvm.exec) (hb : c.code = cc) {own C : String} {T : u_T} {N ci index : Nat} (hts : ∀ w ∈ wsL_law, w.before args s = true) (hin : ∀ w ∈ u_ws C T N, w ∈ wsL_law) {ty : Nat → FieldType} (hty : ∀ k, k < N → parseFieldDescriptor (T k).2.2.1 = some (ty k)) (hown : s.vm.findClass own = some m.cls) (hcl : Cond.classLink own index C ∈ wsL_law) (hinst : Cond.instantiable C N ∈ wsL_law) (hini : Cond.initialized C ∈ wsL_law) (hK : kq g s) (hW : wd g A H0 B H locs) (hA : ∀ q, H0.size ≤ q → A q) (hc : vwCl[ci]? = some (C, T, N)) {fs : List Value} (hfs : ∀ j, j < N → defaultValue (ty j) = vp_V fs j) (hcells : cells + 1 ≤ R.cells) (hslots : slots + N ≤ R.slots) (hdg : decode cc pc = .ok (.new index, 3))
    (kk : ∀ (q : Nat) (H1 : Heap), wd g A H0 (B ++ [[(q, .inr (ci, fs))]]) H1 locs → W p l e R s m args below meth c H1 locs (cells + 1) (slots + N) Q (F0 m (pc + 3) ls (.ref q :: rest))) : W p l e R s m args below meth c H locs cells slots Q (F0 m pc ls rest) := by
  refine va_new hexec hb hts hin ty hty hown (hts _ hcl) (hts _ hinst) (hts _ hini) hK.1.1 hW.1 hW.2.1 hW.2.2 hA hc hfs hcells hslots hdg (fun q H1 hP hD hS => kk q H1 ?_)
  rw [fl1] at hP hD
  exact ⟨hP, hD, hS⟩
theorem b_newi (hexec : p.tables.exec = Jvm.exec) (hb : c.code = cc) (hts : ∀ w ∈ wsL_law, w.before args s = true) (hK : kq g s) (hW : wd g A H0 (Bs ++ [b0]) H locs) (hA : ∀ q, H0.size ≤ q → A q) {n : Int32} {N : Nat} (hn : ¬ n < 0) (hN : n.toNatClampNeg = N) (hbytes : N * 4 ≤ 536870912) (hcells : cells + 1 ≤ R.cells) (hslots : slots + N ≤ R.slots) (hdg : decode cc pc = .ok (.newarray .int, 2))
    (kk : ∀ (q : Nat) (H1 : Heap), wd g A H0 (Bs ++ [b0 ++ [(q, .inl (g.2.1, N, .inl (fun _ => 0)))]]) H1 locs → W p l e R s m args below meth c H1 locs (cells + 1) (slots + N) Q (F0 m (pc + 2) ls (.ref q :: rest))) : W p l e R s m args below meth c H locs cells slots Q (F0 m pc ls (.int n :: rest)) := by
  refine va_newa (atype := .int) (ty := .int) (a0 := (N, .inl (fun _ => 0))) hexec hb (hts _ q1_96) rfl hK.1.1 hW.1 hW.2.1 hW.2.2 hA (fun cA => rfl) hn hN hbytes hcells hslots hdg (fun q cA H1 hK2 hP hD hS => ?_)
  have e1 : s.vm.findClass ("[" ++ (FieldType.int).toString) = some cA := (hK2.2 3 (cA, .int) rfl).2
  have e2 : s.vm.findClass ("[" ++ (FieldType.int).toString) = some g.2.1 := (hK.1.1.2 0 (g.2.1, .int) rfl).2
  obtain rfl : cA = g.2.1 := Option.some.inj (e1.symm.trans e2)
  refine kk q H1 ?_
  rw [fl2] at hP hD
  exact ⟨hP, hD, hS⟩
theorem b_newc (hexec : p.tables.exec = Jvm.exec) (hb : c.code = cc) (hts : ∀ w ∈ wsL_law, w.before args s = true) (hK : kq g s) (hW : wd g A H0 (Bs ++ [b0]) H locs) (hA : ∀ q, H0.size ≤ q → A q) {n : Int32} {N : Nat} (hn : ¬ n < 0) (hN : n.toNatClampNeg = N) (hbytes : N * 2 ≤ 536870912) (hcells : cells + 1 ≤ R.cells) (hslots : slots + N ≤ R.slots) (hdg : decode cc pc = .ok (.newarray .char, 2))
    (kk : ∀ (q : Nat) (H1 : Heap), wd g A H0 (Bs ++ [b0 ++ [(q, .inl (g.2.2.1, N, .inl (fun _ => 0)))]]) H1 locs → W p l e R s m args below meth c H1 locs (cells + 1) (slots + N) Q (F0 m (pc + 2) ls (.ref q :: rest))) : W p l e R s m args below meth c H locs cells slots Q (F0 m pc ls (.int n :: rest)) := by
  refine va_newa (atype := .char) (ty := .char) (a0 := (N, .inl (fun _ => 0))) hexec hb (hts _ q1_160) rfl hK.1.1 hW.1 hW.2.1 hW.2.2 hA (fun cA => rfl) hn hN hbytes hcells hslots hdg (fun q cA H1 hK2 hP hD hS => ?_)
  have e1 : s.vm.findClass ("[" ++ (FieldType.char).toString) = some cA := (hK2.2 3 (cA, .char) rfl).2
  have e2 : s.vm.findClass ("[" ++ (FieldType.char).toString) = some g.2.2.1 := (hK.1.1.2 1 (g.2.2.1, .char) rfl).2
  obtain rfl : cA = g.2.2.1 := Option.some.inj (e1.symm.trans e2)
  refine kk q H1 ?_
  rw [fl2] at hP hD
  exact ⟨hP, hD, hS⟩
theorem b_newq (hexec : p.tables.exec = Jvm.exec) (hb : c.code = cc) (hts : ∀ w ∈ wsL_law, w.before args s = true) {own : String} {index : Nat} (hown : s.vm.findClass own = some m.cls) (hcl : Cond.classLink own index "BellTowns$Valley" ∈ wsL_law) (hK : kq g s) (hW : wd g A H0 (Bs ++ [b0]) H locs) (hA : ∀ q, H0.size ≤ q → A q) {n : Int32} {N : Nat} (hn : ¬ n < 0) (hN : n.toNatClampNeg = N) (hbytes : N * 4 ≤ 536870912) (hcells : cells + 1 ≤ R.cells) (hslots : slots + N ≤ R.slots) (hdg : decode cc pc = .ok (.anewarray index, 3))
    (kk : ∀ (q : Nat) (H1 : Heap), wd g A H0 (Bs ++ [b0 ++ [(q, .inl (g.2.2.2, N, .inr (.inr (.inr (.inr (fun _ => none))))))]]) H1 locs → W p l e R s m args below meth c H1 locs (cells + 1) (slots + N) Q (F0 m (pc + 3) ls (.ref q :: rest))) : W p l e R s m args below meth c H locs cells slots Q (F0 m pc ls (.int n :: rest)) := by
  refine va_newq hexec hb hown (hts _ hcl) hK.2 hK.1.1 hW.1 hW.2.1 hW.2.2 hA hn hN hbytes hcells hslots hdg (fun q cA H1 hK2 hP hD hS => ?_)
  obtain ⟨-, -, -, -, -, e1⟩ := (hK2.2 3 (cA, .object "BellTowns$Valley") rfl).2
  obtain ⟨-, -, -, -, -, e2⟩ := (hK.1.1.2 2 (g.2.2.2, .object "BellTowns$Valley") rfl).2
  obtain rfl : cA = g.2.2.2 := Option.some.inj (e1.symm.trans e2)
  refine kk q H1 ?_
  rw [fl2] at hP hD
  exact ⟨hP, hD, hS⟩
/-- a valley put into the history's row -/
theorem b_aast (hexec : p.tables.exec = Jvm.exec) (hb : c.code = cc) (hK : kx g s) (hW : wd g A H0 B H locs) (i k i2 k2 j : Nat) {b b2 : va_W} {n v : Nat} {vs : List Value} {f : Nat → Option Nat} {x : Int32} (h1 : B[i]? = some b) (h2 : b[k]? = some (a, .inl (g.2.2.2, n, .inr (.inr (.inr (.inr f)))))) (h3 : B[i2]? = some b2) (h4 : b2[k2]? = some (v, .inr (3, vs))) (hx : x = nI j) (hj : j < n) (hn : n.ble 100000 = true) (hB' : B.set i (b.set k (a, .inl (g.2.2.2, n, .inr (.inr (.inr (.inr (va_up f j (some v)))))))) = B') (hdg : decode cc pc = .ok (.aastore, 1))
    (kk : ∀ (H1 : Heap) (locs1 : List Loc), wd g A H0 B' H1 locs1 → W p l e R s m args below meth c H1 locs1 cells slots Q (F0 m (pc + 1) ls rest)) : W p l e R s m args below meth c H locs cells slots Q (F0 m pc ls (.ref v :: .int x :: .ref a :: rest)) := by
  obtain ⟨f0, e1, e2⟩ := flat_at B i k h1 h2
  obtain ⟨f2, e3, -⟩ := flat_at B i2 k2 h3 h4
  obtain ⟨hi, hc⟩ := in_nI hx hj hn
  refine va_astq (r := (RX3, TX3, 17)) hexec hb hK.1 hW.1 hW.2.1 hW.2.2 f0 2 f2 3 e1 rfl e3 rfl hi hdg (fun H1 locs1 hP hD hS => kk H1 locs1 ?_)
  rw [hc, e2, hB'] at hP hD
  exact ⟨hP, hD, hS⟩
theorem uN_ret {S : Type} {C : List va_W} {sz : Nat} {post : S → Prop} {C1 : S → List va_W} (u : S) (hsz : s.heap.size = sz) (hW : wd g (frN C sz) s.heap B H locs) (hexec : p.tables.exec = Jvm.exec) (hb : c.code = cc) (hr : meth.sig.returnType = none) (hlocks : meth.locks = false) (hdg : decode cc pc = .ok (.return_, 1)) (hp : post u) (hB : B = C1 u) : W p l e R s m args below meth c H locs cells slots (MQ below (qN g C sz post C1) args s cells slots (frN C sz)) (F0 m pc ls []) := by
  subst hB
  exact W.vret hexec hb hr (fun t ht _ => ⟨u, rfl, hp, by rw [ht]; exact hW.1, hW.2.1, by rw [ht]; exact hW.2.2.1, fun q h1 h2 => by rw [ht]; exact hW.2.2.2.1 q h1 (fun h => h.elim h2 (fun h => absurd h (by omega)))⟩) hW.2.2.2.2 hdg hlocks
theorem run_N {S : Type} {c0 : va_W} {post : S → Prop} {C1 : S → List va_W} {st0 : List Value} {av : Array Value} {mc ms : Nat} (hW : wd g A H0 (Bs ++ [c0]) H locs) (hA : ∀ q, H0.size ≤ q → A q) (hr : va_Run p l e R s m args below meth c H locs cells slots mc ms (F0 m pc ls st0) rest (qN g [c0] H.size post C1 av) (frN [c0] H.size))
    (kk : ∀ (u : S) (H1 : Heap) (locs1 : List Loc), post u → wd g A H0 (Bs ++ C1 u) H1 locs1 → W p l e R s m args below meth c H1 locs1 (cells + mc) (slots + ms) Q (F0 m (pc + 3) ls rest)) : W p l e R s m args below meth c H locs cells slots Q (F0 m pc ls st0) := by
  intro T hT X
  obtain ⟨v, st₀, t, T', L, h1, X', hL, e1, e2, ⟨u, q1, q2, q3, q4, q5, q6⟩, st⟩ := hr T hT X
  cases q1
  have hW1 := hW.callN (H1 := T'.heap) hA (by rw [e1]; exact q3) q4 (by rw [e1, ← h1]; exact q5) (fun q h1' h2 => by rw [e1, ← h1]; exact q6 q (by rw [h1]; exact h1') h2) hL
  obtain ⟨t2, a1, b1⟩ := kk u T'.heap _ q2 hW1 T' rfl X'
  exact ⟨t2, st t2 a1, b1⟩
section NCALLS
variable {y : MethodName} {b : ByteArray} {n nL index mc ms : Nat} {rm : Room} {As : List Value} {own : String} {st0 : List Value} {c0 : va_W}
/-- the room of a constructor's call -/
def rmN (rm R : Room) (n mc ms : Nat) : Prop := (rm.cells = mc ∧ rm.slots = ms) ∧ rm.frames + 1 ≤ R.frames ∧ 8 + (n + 11) + rm.locals ≤ R.locals
theorem call_IN {S : Type} {post : S → Prop} {C1 : S → List va_W} {ym : MethodName} {bm : ByteArray} {tym : Option FieldType} {avm : List Value} (E : ent p s m meth c ym bm nL tym avm) (hargs : args = avm.toArray) (hK : kq g s) (hW : wd g A H0 (Bs ++ [c0]) H locs) (hA : ∀ q, H0.size ≤ q → A q) (hM : cN l g y b n rm (.ref a :: As) [c0] H.size post C1 mc ms) (ok : okI y b n As.length) (hown : ym.cls = own) (hlink : Cond.methodLink own index y ∈ wsL_law) (hR : rmN rm R n mc ms) (hsz : ls.size = nL) (hrest : (rest.map fun v => v.category).sum ≤ 8) (hroom : cells + mc ≤ R.cells ∧ slots + ms ≤ R.slots) (hst : st0 = As.reverse ++ .ref a :: rest) (hdg : decode bm pc = .ok (.invokespecial index, 3))
    (kk : ∀ (u : S) (H1 : Heap) (locs1 : List Loc), post u → wd g A H0 (Bs ++ C1 u) H1 locs1 → W p l e R s m args below meth c H1 locs1 (cells + mc) (slots + ms) Q (F0 m (pc + 3) ls rest)) : W p l e R s m args below meth c H locs cells slots Q (F0 m pc ls st0) := by
  subst hargs; subst hst; subst hown
  have hP0 : va_P g.1 vwCl [c0].flatten H := va_P.ofMem (fun q hq => hW.1.mem (by rw [List.flatten_append]; exact List.mem_append_right _ hq))
  have hD0 : va_D (fun _ => True) [c0].flatten := by
    have h := pick_D hW.2.1 [Bs.length] [c0] (by simp) (by simp [va_nd])
    exact h.weaken (fun _ _ _ _ => trivial)
  exact run_N hW hA (va_runI ⟨E.1, E.2.1, E.2.2.2.1, E.2.2.2.2.2.1, E.2.2.2.2.1⟩ hM ⟨callB_of As.length E.2.2.2.2.1 (wm_good ok.1) rfl hR.1.1 hR.1.2 (E.2.2.2.2.1 _ ok.2.2.1) (E.2.2.2.2.1 _ hlink) ok.2.2.2.2 hR.2, ok.2.2.2.1, E.2.2.2.2.1 _ ok.2.1⟩ ⟨blindN, fun U hU hWm => ⟨rfl, by rw [hU], by rw [hU]; exact hP0, hD0, hK.warm hWm⟩⟩ rfl rfl hsz rfl (lv_room hrest) hdg hroom) kk
theorem call_INN {S : Type} {post : S → Prop} {C1 : S → List va_W} {ym : MethodName} {bm : ByteArray} {tym : Option FieldType} {avm : List Value} (E : ent p s m meth c ym bm nL tym avm) (hargs : args = avm.toArray) (hK : kq g s) (hW : wd g A H0 (Bs ++ [c0]) H locs) (hA : ∀ q, H0.size ≤ q → A q) (hM : cN l g y b n rm (.ref a :: As) [c0] H.size post C1 mc ms) (ok : okI y b n As.length) (hown : ym.cls = own) (hlink : va_Nw (.methodLinkNest own index y "BellTowns") s) (hR : rmN rm R n mc ms) (hsz : ls.size = nL) (hrest : (rest.map fun v => v.category).sum ≤ 8) (hroom : cells + mc ≤ R.cells ∧ slots + ms ≤ R.slots) (hst : st0 = As.reverse ++ .ref a :: rest) (hdg : decode bm pc = .ok (.invokespecial index, 3))
    (kk : ∀ (u : S) (H1 : Heap) (locs1 : List Loc), post u → wd g A H0 (Bs ++ C1 u) H1 locs1 → W p l e R s m args below meth c H1 locs1 (cells + mc) (slots + ms) Q (F0 m (pc + 3) ls rest)) : W p l e R s m args below meth c H locs cells slots Q (F0 m pc ls st0) := by
  subst hargs; subst hst; subst hown
  have hP0 : va_P g.1 vwCl [c0].flatten H := va_P.ofMem (fun q hq => hW.1.mem (by rw [List.flatten_append]; exact List.mem_append_right _ hq))
  have hD0 : va_D (fun _ => True) [c0].flatten := by
    have h := pick_D hW.2.1 [Bs.length] [c0] (by simp) (by simp [va_nd])
    exact h.weaken (fun _ _ _ _ => trivial)
  exact run_N hW hA (va_runIN ⟨E.1, E.2.1, E.2.2.2.1, E.2.2.2.2.2.1, E.2.2.2.2.1⟩ hM ⟨va_cnB As.length E.2.2.2.2.1 (wm_good ok.1) rfl hR.1.1 hR.1.2 hlink (E.2.2.2.2.1 _ ok.2.2.1) ok.2.2.2.2 hR.2, ok.2.2.2.1, E.2.2.2.2.1 _ ok.2.1⟩ ⟨blindN, fun U hU hWm => ⟨rfl, by rw [hU], by rw [hU]; exact hP0, hD0, hK.warm hWm⟩⟩ rfl rfl hsz rfl (lv_room hrest) hdg hroom) kk
end NCALLS
end NROW
