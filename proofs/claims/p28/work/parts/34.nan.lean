/-! ===== A NaN is equal to nothing ===== -/
theorem nan_nat {n : Nat} (h : 0x7ff0000000000000 < n % 2 ^ 63) : n / 2 ^ 52 % 2 ^ 11 = 2 ^ 11 - 1 ∧ ¬ n % 2 ^ 52 = 0 := by omega
theorem nan_decode {x : UInt64} (h : isNaN64 x = true) : FP.Core.decode FP.Core.b64 x.toNat = .nan := by
  have h2 := isNaN64_iff.mp h
  rw [show (0x7fffffffffffffff : Nat) = 2 ^ 63 - 1 by decide, Nat.and_two_pow_sub_one_eq_mod] at h2
  obtain ⟨h3, h4⟩ := nan_nat h2
  have e3 : FP.Core.fieldE FP.Core.b64 x.toNat = FP.Core.Fmt.exps FP.Core.b64 - 1 := h3
  have e4 : ¬ FP.Core.fieldT FP.Core.b64 x.toNat = 0 := h4
  unfold FP.Core.decode
  rw [if_pos e3, if_neg e4]
theorem nan_dcmp {x y : UInt64} (h : isNaN64 x = true) : Op.cmpValue (FP.dcmp x y) .l = -1 := by
  have e : FP.dcmp x y = none := by
    show FP.Core.order (FP.Core.decode FP.Core.b64 x.toNat) (FP.Core.decode FP.Core.b64 y.toNat) = none
    rw [nan_decode h]
    rfl
  rw [e]
  rfl
/-! ===== CONTRACTS WITH DRAWS ===== -/
abbrev qD (v : UInt64 → Prop) : Array Value → State → Outcome → State → Prop := fun _ st o t => ∃ r : UInt64, o = .returned (some (.double r)) ∧ v r ∧ t.heap = st.heap
def cD (l : Launch) (g : gx) (y : MethodName) (b : ByteArray) (n : Nat) (rm : Room) (av : List Value) (C : List va_W) (v : UInt64 → Prop) : Prop :=
  MetD lw_cs l y (wm y b n (some .double)) rm (va_Pc av (fun U => va_P g.1 vwCl C.flatten U.heap ∧ kx g U)) (qD v) 0 0 (fun _ => False)
theorem cD.mk {l : Launch} {g : gx} {y : MethodName} {b : ByteArray} {n : Nat} {rm : Room} {av : List Value} {C : List va_W} {v : UInt64 → Prop} (hy : plainName y.cls = true) (hn : (lg_sl av).length ≤ n)
    (body : ∀ (p : Program) (e : Env) (s0 s : State) (d0 : Drawn) (H : Heap) (m : MethodId) (below : List Frame) (meth : Method) (c : Code) (ls : Array Slot), s = s0.setDrawn d0 → s0.drawn.sameBut d0 lw_cs → H = s0.heap → ent p s m meth c y b n (some .double) av → kx g s → va_P g.1 vwCl C.flatten H → lv_has ls n (lv_args 0 av) →
      W p l e rm s m av.toArray below meth c H [] 0 0 (MQD lw_cs below (qD v) av.toArray s0 0 0 (fun _ => False)) (F0 m 0 ls [])) : cD l g y b n rm av C v := by
  refine MetD.ofW (cc := b) (maxL := n) (ret := some .double) hy rfl ?_
  intro p e s m args below meth c s₁ B hml hv hd0
  obtain ⟨rfl, hP, hK⟩ := hv
  rw [lg_entry_eq]
  have hts := atoms_spec (ws := wm y b n (some .double)) B.pre
  exact body p e s (s.setDrawn s.drawn) s.drawn s.heap m below meth c _ rfl hd0 rfl ⟨B.exec, B.bytes, B.returns, hml, dr_words (fun w h => hts w (List.mem_cons_of_mem _ h)) _, findClass_of_methodNamed B.named, B.notSynchronized, fun h => (name_of_methodNamed B.named B.method).1.trans h⟩ hK hP (lv_entry av hn)
section DROW
variable {p : Program} {l : Launch} {e : Env} {R : Room} {s s0 : State} {m : MethodId} {args : Array Value} {below : List Frame} {meth : Method} {c : Code} {H : Heap} {locs : List Loc} {cells slots : Nat} {Q : State → Prop} {cc : ByteArray} {pc : Nat} {ls : Array Slot} {rest : List Value} {d0 : Drawn}
theorem b_ddiv (hs : s = s0.setDrawn d0) (hd0 : s0.drawn.sameBut d0 lw_cs) (hexec : p.tables.exec = Jvm.exec) (hb : c.code = cc) {x y : UInt64} (hdg : decode cc pc = .ok (.ddiv, 1))
    (k : ∀ (r : UInt64) (d1 : Drawn) (s1 : State), s1 = s0.setDrawn d1 → s0.drawn.sameBut d1 lw_cs → alike64 r (FP.ddiv x y) = true → W p l e R s1 m args below meth c H locs cells slots Q (F0 m (pc + 1) ls (.double r :: rest))) : W p l e R s m args below meth c H locs cells slots Q (F0 m pc ls (.double y :: .double x :: rest)) := by
  subst hs
  exact lv_ddiv_any hd0 lw_bits hexec hb hdg (fun r d1 h1 h2 => k r d1 _ rfl h2 h1)
theorem d_ret {v : UInt64 → Prop} {r : UInt64} (hs : s = s0.setDrawn d0) (hd0 : s0.drawn.sameBut d0 lw_cs) (hH : H = s0.heap) (hexec : p.tables.exec = Jvm.exec) (hb : c.code = cc) (hr : meth.sig.returnType = some .double) (hlocks : meth.locks = false) (hdg : decode cc pc = .ok (.dreturn, 1)) (hv : v r) : W p l e R s m args below meth c H [] 0 0 (MQD lw_cs below (qD v) args s0 0 0 (fun _ => False)) (F0 m pc ls [.double r]) := by
  subst hs; subst hH
  refine W.endD hd0 ?_
  exact W.dret hexec hb hr (fun t ht _ => ⟨r, rfl, hv, ht⟩) (fun q hq => absurd hq List.not_mem_nil) hdg
end DROW
