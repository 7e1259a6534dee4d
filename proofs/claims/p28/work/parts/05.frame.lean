/-! ===== FRAME: a world is a list of blocks; one word list serves every method; contracts of reads (cR) and of writes (cU) ===== -/
abbrev gx : Type := va_G × ClassId × ClassId × ClassId
abbrev gtys (g : gx) : List (ClassId × FieldType) := [(g.2.1, .int), (g.2.2.1, .char), (g.2.2.2, .object "BellTowns$Valley")]
/-- links of private members of nest mates -/
def nxt (U : State) : Prop := va_Nw (.methodLinkNest RX4 35 yX1_init "BellTowns") U ∧ va_Nw (.methodLinkNest RX4 42 yX2_init "BellTowns") U ∧ va_Nw (.methodLinkNest RX1 45 yX4_slot "BellTowns") U ∧ va_Nw (.methodLinkNest RX1 58 yX4_ringersFor "BellTowns") U ∧ va_Nw (.methodLinkNest RX3 77 yX4_isTown "BellTowns") U ∧ va_Nw (.methodLinkNest RX3 81 yX4_slot "BellTowns") U
def kx (g : gx) (U : State) : Prop := va_K g.1 vwCl (gtys g) U ∧ nxt U
theorem kx.warm {g : gx} {s U : State} (hW : s.WarmedH U.vm) (h : kx g s) : kx g U :=
  ⟨h.1.moved hW.alike, va_Nw.warmM hW h.2.1, va_Nw.warmM hW h.2.2.1, va_Nw.warmM hW h.2.2.2.1, va_Nw.warmM hW h.2.2.2.2.1, va_Nw.warmM hW h.2.2.2.2.2.1, va_Nw.warmM hW h.2.2.2.2.2.2⟩
theorem kx.same {g : gx} {s U : State} (hv : s.vm = U.vm) (h : kx g s) : kx g U :=
  ⟨h.1.moved (by rw [← hv]; exact Vm.Alike.refl _), va_Nw.same rfl hv h.2.1, va_Nw.same rfl hv h.2.2.1, va_Nw.same rfl hv h.2.2.2.1, va_Nw.same rfl hv h.2.2.2.2.1, va_Nw.same rfl hv h.2.2.2.2.2.1, va_Nw.same rfl hv h.2.2.2.2.2.2⟩
abbrev wm (y : MethodName) (b : ByteArray) (n : Nat) (r : Option FieldType) : List Cond := Cond.code y b n r :: wsL_law
theorem aw_good : wsL_law.all goodWord = true := by decide +kernel
theorem wm_good {y : MethodName} {b : ByteArray} {n : Nat} {r : Option FieldType} (h : Cond.code y b n r ∈ wsL_law) : GoodIn wsL_law (wm y b n r) := by
  intro w hw
  have h1 : w ∈ wsL_law := by
    rcases List.mem_cons.mp hw with rfl | h2
    · exact h
    · exact h2
  exact ⟨h1, good_of_word (List.all_eq_true.mp aw_good w h1)⟩
/-- the addresses of a list of blocks -/
def adr (B : List va_W) : List Nat := B.flatten.map Prod.fst
def wd (g : gx) (A : Nat → Prop) (H0 : Heap) (B : List va_W) (H : Heap) (locs : List Loc) : Prop := va_P g.1 vwCl B.flatten H ∧ va_D A B.flatten ∧ va_S A H0 H locs
theorem flat_at : ∀ (B : List va_W) (i k : Nat) {b : va_W} {q : Nat × va_E}, B[i]? = some b → b[k]? = some q → ∃ q0 : Nat, B.flatten[q0]? = some q ∧ ∀ q' : Nat × va_E, B.flatten.set q0 q' = (B.set i (b.set k q')).flatten
  | [], i, k, b, q, h1, h2 => by simp at h1
  | b0 :: B, 0, k, b, q, h1, h2 => by
    simp only [List.getElem?_cons_zero, Option.some.injEq] at h1
    subst h1
    have hk : k < b0.length := (List.getElem?_eq_some_iff.mp h2).1
    refine ⟨k, ?_, fun q' => ?_⟩
    · rw [List.flatten_cons, List.getElem?_append_left hk]; exact h2
    · rw [List.flatten_cons, List.set_append_left _ _ hk]; rfl
  | b0 :: B, i + 1, k, b, q, h1, h2 => by
    rw [List.getElem?_cons_succ] at h1
    obtain ⟨q0, e1, e2⟩ := flat_at B i k h1 h2
    refine ⟨b0.length + q0, ?_, fun q' => ?_⟩
    · rw [List.flatten_cons, List.getElem?_append_right (by omega), Nat.add_sub_cancel_left]; exact e1
    · rw [List.flatten_cons, List.set_append_right _ _ (by omega), Nat.add_sub_cancel_left, e2 q']; rfl
theorem flat_mem {B : List va_W} {i : Nat} {b : va_W} {q : Nat × va_E} (h1 : B[i]? = some b) (h2 : q ∈ b) : q ∈ B.flatten := List.mem_flatten.mpr ⟨b, List.mem_of_getElem? h1, h2⟩
/-- a part of the blocks holds too -/
theorem va_P.mem {D : va_G} {cl : List vw_C} {ws : va_W} {H : Heap} (h : va_P D cl ws H) {q : Nat × va_E} (hq : q ∈ ws) : va_at D cl q H := by
  obtain ⟨k, hk⟩ := List.getElem?_of_mem hq
  exact h k q hk
theorem va_P.ofMem {D : va_G} {cl : List vw_C} {ws : va_W} {H : Heap} (h : ∀ q ∈ ws, va_at D cl q H) : va_P D cl ws H := fun _ q hk => h q (List.mem_of_getElem? hk)
theorem pick_mem {B C : List va_W} {is : List Nat} (hC : is.map (fun i => B[i]?) = C.map some) {b : va_W} (hb : b ∈ C) : ∃ i ∈ is, B[i]? = some b := by
  have h : some b ∈ is.map (fun i => B[i]?) := by rw [hC]; exact List.mem_map_of_mem hb
  obtain ⟨i, h1, h2⟩ := List.mem_map.mp h
  exact ⟨i, h1, h2⟩
theorem pick_P {D : va_G} {cl : List vw_C} {B C : List va_W} {H : Heap} (h : va_P D cl B.flatten H) (is : List Nat) (hC : is.map (fun i => B[i]?) = C.map some) : va_P D cl C.flatten H := by
  refine va_P.ofMem (fun q hq => ?_)
  obtain ⟨b, hb, hqb⟩ := List.mem_flatten.mp hq
  obtain ⟨i, -, h2⟩ := pick_mem hC hb
  exact h.mem (flat_mem h2 hqb)
/-- two cells of one address stand in one block, at one place -/
theorem blk_apart : ∀ {A : Nat → Prop} {B : List va_W}, va_D A B.flatten → ∀ {k i : Nat} {b b' : va_W} {q q' : Nat × va_E}, B[k]? = some b → B[i]? = some b' → q ∈ b → q' ∈ b' → q.1 = q'.1 → k = i
  | A, [], hD, k, i, b, b', q, q', h1, h2, m1, m2, e => by simp at h1
  | A, b0 :: B, hD, k, i, b, b', q, q', h1, h2, m1, m2, e => by
    have tail : va_D A B.flatten := by
      refine ⟨fun x y p r hx hy hpr => ?_, fun x p hx => ?_⟩
      · have := hD.1 (b0.length + x) (b0.length + y) p r (by rw [List.flatten_cons, List.getElem?_append_right (by omega), Nat.add_sub_cancel_left]; exact hx) (by rw [List.flatten_cons, List.getElem?_append_right (by omega), Nat.add_sub_cancel_left]; exact hy) hpr
        omega
      · exact hD.2 (b0.length + x) p (by rw [List.flatten_cons, List.getElem?_append_right (by omega), Nat.add_sub_cancel_left]; exact hx)
    have cross : ∀ {p r : Nat × va_E}, p ∈ b0 → r ∈ B.flatten → p.1 = r.1 → False := by
      intro p r hp hr hpr
      obtain ⟨x, hx⟩ := List.getElem?_of_mem hp
      obtain ⟨y, hy⟩ := List.getElem?_of_mem hr
      have hlx : x < b0.length := (List.getElem?_eq_some_iff.mp hx).1
      have := hD.1 x (b0.length + y) p r (by rw [List.flatten_cons, List.getElem?_append_left hlx]; exact hx) (by rw [List.flatten_cons, List.getElem?_append_right (by omega), Nat.add_sub_cancel_left]; exact hy) hpr
      omega
    cases k with
    | zero =>
      cases i with
      | zero => rfl
      | succ i =>
        simp only [List.getElem?_cons_zero, Option.some.injEq] at h1
        subst h1
        rw [List.getElem?_cons_succ] at h2
        exact (cross m1 (flat_mem h2 m2) e).elim
    | succ k =>
      rw [List.getElem?_cons_succ] at h1
      cases i with
      | zero =>
        simp only [List.getElem?_cons_zero, Option.some.injEq] at h2
        subst h2
        exact (cross m2 (flat_mem h1 m1) e.symm).elim
      | succ i =>
        rw [List.getElem?_cons_succ] at h2
        rw [blk_apart tail h1 h2 m1 m2 e]
theorem va_D.adr {A : Nat → Prop} {ws ws' : va_W} (h : va_D A ws) (e : ws'.map Prod.fst = ws.map Prod.fst) : va_D A ws' := by
  have key : ∀ (k : Nat) (q : Nat × va_E), ws'[k]? = some q → ∃ q0 : Nat × va_E, ws[k]? = some q0 ∧ q0.1 = q.1 := by
    intro k q hk
    have h1 : (ws'.map Prod.fst)[k]? = some q.1 := by rw [List.getElem?_map, hk]; rfl
    rw [e, List.getElem?_map] at h1
    cases hq : ws[k]? with
    | none => rw [hq] at h1; cases h1
    | some q0 => rw [hq] at h1; exact ⟨q0, rfl, Option.some.inj h1⟩
  refine ⟨fun i j x y hi hj hxy => ?_, fun k q hk => ?_⟩
  · obtain ⟨x0, h1, h2⟩ := key i x hi
    obtain ⟨y0, h3, h4⟩ := key j y hj
    exact h.1 i j x0 y0 h1 h3 (h2.trans (hxy.trans h4.symm))
  · obtain ⟨q0, h1, h2⟩ := key k q hk
    rw [← h2]
    exact h.2 k q0 h1
def sets : List va_W → List Nat → List va_W → List va_W
  | B, i :: is, c :: cs => sets (B.set i c) is cs
  | B, _, _ => B
theorem sets_adr : ∀ (is : List Nat) (B C C1 : List va_W), is.map (fun i => B[i]?) = C.map some → C1.map (List.map Prod.fst) = C.map (List.map Prod.fst) → va_nd is = true → (sets B is C1).map (List.map Prod.fst) = B.map (List.map Prod.fst)
  | [], B, C, C1, h1, h2, h3 => by cases C1 <;> rfl
  | i :: is, B, [], C1, h1, h2, h3 => by simp at h1
  | i :: is, B, c :: C, [], h1, h2, h3 => by simp at h2
  | i :: is, B, c :: C, c1 :: C1, h1, h2, h3 => by
    simp only [List.map_cons, List.cons.injEq] at h1 h2
    simp only [va_nd, Bool.and_eq_true, decide_eq_true_eq] at h3
    have hB : (B.set i c1).map (List.map Prod.fst) = B.map (List.map Prod.fst) := by
      rw [List.map_set, h2.1]
      apply List.ext_getElem?
      intro k
      by_cases hk : k = i
      · subst hk
        have hl : k < B.length := (List.getElem?_eq_some_iff.mp h1.1).1
        rw [List.getElem?_set_self (by simpa using hl), List.getElem?_map, h1.1]; rfl
      · rw [List.getElem?_set_ne (Ne.symm hk)]
    have ih := sets_adr is (B.set i c1) C C1 (by
      rw [← h1.2]
      refine List.map_congr_left (fun j hj => ?_)
      have hne : i ≠ j := fun e => h3.1 (e ▸ hj)
      exact List.getElem?_set_ne hne) h2.2 h3.2
    show (sets (B.set i c1) is C1).map _ = _
    rw [ih, hB]
theorem sets_mem : ∀ (is : List Nat) (B C1 : List va_W) {b : va_W}, b ∈ sets B is C1 → is.length = C1.length → b ∈ C1 ∨ ∃ k : Nat, B[k]? = some b ∧ k ∉ is
  | [], B, C1, b, h, hl => by
    have h : b ∈ B := by cases C1 <;> exact h
    obtain ⟨k, hk⟩ := List.getElem?_of_mem h
    exact Or.inr ⟨k, hk, by simp⟩
  | i :: is, B, [], b, h, hl => by simp at hl
  | i :: is, B, c :: cs, b, h, hl => by
    rcases sets_mem is (B.set i c) cs h (by simpa using hl) with h1 | ⟨k, h1, h2⟩
    · exact Or.inl (List.mem_cons_of_mem _ h1)
    · by_cases hk : k = i
      · subst hk
        have hlt : k < (B.set k c).length := (List.getElem?_eq_some_iff.mp h1).1
        rw [List.getElem?_set_self (by simpa using hlt)] at h1
        exact Or.inl (by rw [← Option.some.inj h1]; exact List.mem_cons_self)
      · rw [List.getElem?_set_ne (Ne.symm hk)] at h1
        exact Or.inr ⟨k, h1, fun h => (List.mem_cons.mp h).elim hk h2⟩
theorem flat_adr {B B' : List va_W} (h : B'.map (List.map Prod.fst) = B.map (List.map Prod.fst)) : B'.flatten.map Prod.fst = B.flatten.map Prod.fst := by
  rw [List.map_flatten, List.map_flatten, h]
theorem wd.adrIn {g : gx} {A : Nat → Prop} {H0 H : Heap} {B C : List va_W} {locs : List Loc} (hW : wd g A H0 B H locs) {is : List Nat} (hC : is.map (fun i => B[i]?) = C.map some) : ∀ q ∈ adr C, A q := by
  intro q hq
  obtain ⟨c, hc, rfl⟩ := List.mem_map.mp hq
  obtain ⟨b, hb, hqb⟩ := List.mem_flatten.mp hc
  obtain ⟨i, -, h2⟩ := pick_mem hC hb
  obtain ⟨k, hk⟩ := List.getElem?_of_mem (flat_mem h2 hqb)
  exact hW.2.1.2 k c hk
/-- behind a call that wrote in some blocks alone -/
theorem wd.call {g : gx} {A : Nat → Prop} {H0 H H1 : Heap} {B B' C C1 : List va_W} {locs L : List Loc} (hW : wd g A H0 B H locs) {is : List Nat} (hC : is.map (fun i => B[i]?) = C.map some) (hn : va_nd is = true) (ha : C1.map (List.map Prod.fst) = C.map (List.map Prod.fst)) (hP1 : va_P g.1 vwCl C1.flatten H1) (hz : H.size ≤ H1.size) (hk : ∀ q : Nat, q < H.size → q ∉ adr C → H1[q]? = H[q]?) (hL : ∀ q ∈ L, q.base ∈ adr C) (hB' : sets B is C1 = B') : wd g A H0 B' H1 (locs ++ L) := by
  subst hB'
  have hin := hW.adrIn hC
  refine ⟨va_P.ofMem (fun q hq => ?_), hW.2.1.adr (flat_adr (sets_adr is B C C1 hC ha hn)), Nat.le_trans hW.2.2.1 hz, fun q h1 h2 => ?_, fun q hq => ?_⟩
  · obtain ⟨b, hb, hqb⟩ := List.mem_flatten.mp hq
    have hlen : is.length = C1.length := by
      have e1 := congrArg List.length hC
      have e2 := congrArg List.length ha
      simp only [List.length_map] at e1 e2
      omega
    rcases sets_mem is B C1 hb hlen with h1 | ⟨k, h1, h2⟩
    · exact hP1.mem (List.mem_flatten.mpr ⟨b, h1, hqb⟩)
    · have hat := hW.1.mem (flat_mem h1 hqb)
      refine hat.kept (hk q.1 hat.lt (fun hm => ?_))
      obtain ⟨c, hc, e⟩ := List.mem_map.mp hm
      obtain ⟨b2, hb2, hcb⟩ := List.mem_flatten.mp hc
      obtain ⟨i, hi, h3⟩ := pick_mem hC hb2
      have := blk_apart hW.2.1 h1 h3 hqb hcb e.symm
      exact h2 (this ▸ hi)
  · exact (hk q (Nat.lt_of_lt_of_le h1 hW.2.2.1) (fun hm => h2 (hin q hm))).trans (hW.2.2.2.1 q h1 h2)
  · rcases List.mem_append.mp hq with h | h
    · exact hW.2.2.2.2 q h
    · exact hin _ (hL q h)
/-- what a read says at its end; what a write says at its end -/
abbrev qR (r : Value) : Array Value → State → Outcome → State → Prop := fun _ st o t => o = .returned (some r) ∧ t.heap = st.heap
abbrev qU {S : Type} (g : gx) (C : List va_W) (r : S → Option Value) (post : S → Prop) (C1 : S → List va_W) : Array Value → State → Outcome → State → Prop := fun _ st o t => ∃ u : S, o = .returned (r u) ∧ post u ∧ va_P g.1 vwCl (C1 u).flatten t.heap ∧ (C1 u).map (List.map Prod.fst) = C.map (List.map Prod.fst) ∧ st.heap.size ≤ t.heap.size ∧ ∀ q : Nat, q < st.heap.size → q ∉ adr C → t.heap[q]? = st.heap[q]?
def cR (l : Launch) (g : gx) (y : MethodName) (b : ByteArray) (n : Nat) (ty : Option FieldType) (rm : Room) (av : List Value) (C : List va_W) (r : Value) : Prop :=
  Met l y (wm y b n ty) rm (va_Pc av (fun U => va_P g.1 vwCl C.flatten U.heap ∧ kx g U)) (qR r) 0 0 (fun _ => False)
def cU {S : Type} (l : Launch) (g : gx) (y : MethodName) (b : ByteArray) (n : Nat) (ty : Option FieldType) (rm : Room) (av : List Value) (C : List va_W) (r : S → Option Value) (post : S → Prop) (C1 : S → List va_W) : Prop :=
  Met l y (wm y b n ty) rm (va_Pc av (fun U => va_P g.1 vwCl C.flatten U.heap ∧ va_D (fun _ => True) C.flatten ∧ kx g U)) (qU g C r post C1) 0 0 (fun q => q ∈ adr C)
/-- what stands at a method's entry -/
abbrev ent (p : Program) (s : State) (m : MethodId) (meth : Method) (c : Code) (y : MethodName) (b : ByteArray) (n : Nat) (ty : Option FieldType) (av : List Value) : Prop :=
  p.tables.exec = Jvm.exec ∧ c.code = b ∧ meth.sig.returnType = ty ∧ c.maxLocals = n ∧ (∀ w ∈ wsL_law, w.before av.toArray s = true) ∧ s.vm.findClass y.cls = some m.cls ∧ meth.locks = false ∧ (y.name = "<init>" → meth.name = "<init>")
theorem cR.mk {l : Launch} {g : gx} {y : MethodName} {b : ByteArray} {n : Nat} {ty : Option FieldType} {rm : Room} {av : List Value} {C : List va_W} {r : Value} (hy : plainName y.cls = true) (hn : (lg_sl av).length ≤ n)
    (body : ∀ (p : Program) (e : Env) (s : State) (m : MethodId) (below : List Frame) (meth : Method) (c : Code) (ls : Array Slot), ent p s m meth c y b n ty av → kx g s → va_P g.1 vwCl C.flatten s.heap → lv_has ls n (lv_args 0 av) →
      W p l e rm s m av.toArray below meth c s.heap [] 0 0 (MQ below (qR r) av.toArray s 0 0 (fun _ => False)) (F0 m 0 ls [])) : cR l g y b n ty rm av C r := by
  refine Met.ofW (cc := b) (maxL := n) (ret := ty) hy rfl ?_
  intro p e s m args below meth c s₁ B hml hv
  obtain ⟨rfl, hP, hK⟩ := hv
  rw [lg_entry_eq]
  have hts := atoms_spec (ws := wm y b n ty) B.pre
  exact body p e s m below meth c _ ⟨B.exec, B.bytes, B.returns, hml, fun w h => hts w (List.mem_cons_of_mem _ h), findClass_of_methodNamed B.named, B.notSynchronized, fun h => (name_of_methodNamed B.named B.method).1.trans h⟩ hK hP (lv_entry av hn)
theorem cU.mk {S : Type} {l : Launch} {g : gx} {y : MethodName} {b : ByteArray} {n : Nat} {ty : Option FieldType} {rm : Room} {av : List Value} {C : List va_W} {r : S → Option Value} {post : S → Prop} {C1 : S → List va_W} (hy : plainName y.cls = true) (hn : (lg_sl av).length ≤ n)
    (body : ∀ (p : Program) (e : Env) (s : State) (m : MethodId) (below : List Frame) (meth : Method) (c : Code) (ls : Array Slot), ent p s m meth c y b n ty av → kx g s → wd g (fun q => q ∈ adr C) s.heap C s.heap [] → lv_has ls n (lv_args 0 av) →
      W p l e rm s m av.toArray below meth c s.heap [] 0 0 (MQ below (qU g C r post C1) av.toArray s 0 0 (fun q => q ∈ adr C)) (F0 m 0 ls [])) : cU l g y b n ty rm av C r post C1 := by
  refine Met.ofW (cc := b) (maxL := n) (ret := ty) hy rfl ?_
  intro p e s m args below meth c s₁ B hml hv
  obtain ⟨rfl, hP, hD, hK⟩ := hv
  rw [lg_entry_eq]
  have hts := atoms_spec (ws := wm y b n ty) B.pre
  exact body p e s m below meth c _ ⟨B.exec, B.bytes, B.returns, hml, fun w h => hts w (List.mem_cons_of_mem _ h), findClass_of_methodNamed B.named, B.notSynchronized, fun h => (name_of_methodNamed B.named B.method).1.trans h⟩ hK ⟨hP, hD.weaken (fun k q hk _ => List.mem_map_of_mem (List.mem_of_getElem? hk)), va_S.rf⟩ (lv_entry av hn)
theorem flat_off : ∀ (B : List va_W) (i : Nat) {b : va_W}, B[i]? = some b → ∃ o : Nat, ∀ (k : Nat) (q : Nat × va_E), b[k]? = some q → B.flatten[o + k]? = some q
  | [], i, b, h => by simp at h
  | b0 :: B, 0, b, h => by
    simp only [List.getElem?_cons_zero, Option.some.injEq] at h
    subst h
    refine ⟨0, fun k q hk => ?_⟩
    have hl : k < b0.length := (List.getElem?_eq_some_iff.mp hk).1
    rw [Nat.zero_add, List.flatten_cons, List.getElem?_append_left hl]; exact hk
  | b0 :: B, i + 1, b, h => by
    rw [List.getElem?_cons_succ] at h
    obtain ⟨o, ho⟩ := flat_off B i h
    refine ⟨b0.length + o, fun k q hk => ?_⟩
    rw [List.flatten_cons, List.getElem?_append_right (by omega), show b0.length + o + k - b0.length = o + k by omega]
    exact ho k q hk
theorem blk_inj {A : Nat → Prop} {B : List va_W} (hD : va_D A B.flatten) {i : Nat} {b : va_W} (h : B[i]? = some b) {x y : Nat} {q q' : Nat × va_E} (hx : b[x]? = some q) (hy : b[y]? = some q') (e : q.1 = q'.1) : x = y := by
  obtain ⟨o, ho⟩ := flat_off B i h
  have := hD.1 (o + x) (o + y) q q' (ho x q hx) (ho y q' hy) e
  omega
theorem pick_D {A : Nat → Prop} {B : List va_W} (hD : va_D A B.flatten) : ∀ (is : List Nat) (C : List va_W), is.map (fun i => B[i]?) = C.map some → va_nd is = true → va_D A C.flatten
  | [], [], _, _ => ⟨fun i j p q h => by simp at h, fun k q h => by simp at h⟩
  | [], c :: C, h, _ => by simp at h
  | i :: is, [], h, _ => by simp at h
  | i :: is, c :: C, h, hn => by
    simp only [List.map_cons, List.cons.injEq] at h
    simp only [va_nd, Bool.and_eq_true, decide_eq_true_eq] at hn
    have ih := pick_D hD is C h.2 hn.2
    have key : ∀ (k : Nat) (q : Nat × va_E), (c :: C).flatten[k]? = some q → (k < c.length ∧ c[k]? = some q) ∨ (c.length ≤ k ∧ C.flatten[k - c.length]? = some q) := by
      intro k q hk
      rw [List.flatten_cons] at hk
      by_cases hl : k < c.length
      · rw [List.getElem?_append_left hl] at hk
        exact Or.inl ⟨hl, hk⟩
      · rw [List.getElem?_append_right (by omega)] at hk
        exact Or.inr ⟨by omega, hk⟩
    have cross : ∀ {p r : Nat × va_E} {x y : Nat}, c[x]? = some p → C.flatten[y]? = some r → p.1 = r.1 → False := by
      intro p r x y hx hy e
      obtain ⟨b, hb, hrb⟩ := List.mem_flatten.mp (List.mem_of_getElem? hy)
      obtain ⟨j, hj, hBj⟩ := pick_mem h.2 hb
      have := blk_apart hD h.1 hBj (List.mem_of_getElem? hx) hrb e
      exact hn.1 (this ▸ hj)
    refine ⟨fun x y p q hx hy e => ?_, fun k q hk => ?_⟩
    · rcases key x p hx with ⟨l1, a1⟩ | ⟨l1, a1⟩ <;> rcases key y q hy with ⟨l2, a2⟩ | ⟨l2, a2⟩
      · exact blk_inj hD h.1 a1 a2 e
      · exact (cross a1 a2 e).elim
      · exact (cross a2 a1 e.symm).elim
      · have := ih.1 _ _ p q a1 a2 e
        omega
    · rcases key k q hk with ⟨-, a1⟩ | ⟨-, a1⟩
      · obtain ⟨o, ho⟩ := flat_off B i h.1
        exact hD.2 _ q (ho k q a1)
      · exact ih.2 _ q a1
/-- what the tables say of a method that is called on an object; of a static one -/
def okV (y : MethodName) (b : ByteArray) (n : Nat) (ty : Option FieldType) (k : Nat) : Prop := Cond.code y b n ty ∈ wsL_law ∧ Cond.instanceMethod y ∈ wsL_law ∧ Cond.selects y.cls y y ∈ wsL_law ∧ Cond.initialized y.cls ∈ wsL_law ∧ (y.cls ≠ "java/lang/invoke/MethodHandle" ∧ y.cls ≠ "java/lang/invoke/VarHandle" ∧ (parseMethodDescriptor y.desc).map (fun d => d.parameters.length) = some k)
def okS (y : MethodName) (b : ByteArray) (n : Nat) (ty : Option FieldType) (k : Nat) : Prop := Cond.code y b n ty ∈ wsL_law ∧ Cond.static y ∈ wsL_law ∧ Cond.initialized y.cls ∈ wsL_law ∧ (y.cls ≠ "java/lang/invoke/MethodHandle" ∧ y.cls ≠ "java/lang/invoke/VarHandle" ∧ (parseMethodDescriptor y.desc).map (fun d => d.parameters.length) = some k)
/-- the room of a call -/
def rmOk (rm R : Room) (n : Nat) : Prop := (rm.cells = 0 ∧ rm.slots = 0) ∧ rm.frames + 1 ≤ R.frames ∧ 8 + (n + 11) + rm.locals ≤ R.locals
theorem blindR {g : gx} {av : List Value} {C : List va_W} : FrameBlind (va_Pc av (fun U => va_P g.1 vwCl C.flatten U.heap ∧ kx g U)) := fun a U f mk h => ⟨h.1, h.2.1, h.2.2.same rfl⟩
theorem blindU {g : gx} {av : List Value} {C : List va_W} : FrameBlind (va_Pc av (fun U => va_P g.1 vwCl C.flatten U.heap ∧ va_D (fun _ => True) C.flatten ∧ kx g U)) := fun a U f mk h => ⟨h.1, h.2.1, h.2.2.1, h.2.2.2.same rfl⟩
