/-! ===== the law's numbers out of the script ===== -/
def cellV (L : Nat) (xs : Nat → Int32) (i : Nat) : Int32 := if i < L then xs i else 763316881 * (nI i + 1)
theorem cS.mk {l : Launch} {g : gx} {y : MethodName} {b : ByteArray} {n : Nat} {rm : Room} {av : List Value} {a L : Nat} {xs : Nat → Int32} {r : Value} (hy : plainName y.cls = true) (hn : (lg_sl av).length ≤ n)
    (body : ∀ (p : Program) (e : Env) (s : State) (m : MethodId) (below : List Frame) (meth : Method) (c : Code) (ls : Array Slot), ent p s m meth c y b n (some .int) av → kx g s → va_X a L xs s s.heap → lv_has ls n (lv_args 0 av) →
      W p l e rm s m av.toArray below meth c s.heap [] 0 0 (MQ below (qR r) av.toArray s 0 0 (fun _ => False)) (F0 m 0 ls [])) : cS l g y b n rm av a L xs r := by
  refine Met.ofW (cc := b) (maxL := n) (ret := some .int) hy rfl ?_
  intro p e s m args below meth c s₁ B hml hv
  obtain ⟨rfl, hX, hK⟩ := hv
  rw [lg_entry_eq]
  have hts := atoms_spec (ws := wm y b n (some .int)) B.pre
  exact body p e s m below meth c _ ⟨B.exec, B.bytes, B.returns, hml, fun w h => hts w (List.mem_cons_of_mem _ h), findClass_of_methodNamed B.named, B.notSynchronized, fun h => (name_of_methodNamed B.named B.method).1.trans h⟩ hK hX (lv_entry av hn)
set_option maxHeartbeats 4000000 in
set_option maxRecDepth 100000 in
theorem c_L_cell (l : Launch) (g : gx) (b L i : Nat) (xs : Nat → Int32) (hL : L ≤ 260) (hi : i < 48) : cS l g yL_cell cL_cell 2 ({ frames := 0, cells := 0, slots := 0, locals := 0 } : Room) [.ref b, .int (nI i)] b L xs (.int (cellV L xs i)) := by
  refine cS.mk (by decide +kernel) (Nat.le_of_ble_eq_true rfl) ?_
  intro p e s m below meth c ls E hK hX hl
  obtain ⟨hx, hb, hr, hml, hts, hown, hlocks, hin⟩ := id E
  have hown : s.vm.findClass RL = some m.cls := hown
  have hl : lv_has ls 2 [(0, .ref b), (1, .int (nI i))] := hl
  have hbl : b < s.heap.size := by
    obtain ⟨scr, h1, -⟩ := id hX
    exact (Array.getElem?_eq_some_iff.mp h1).1
  have hbA : ¬ (fun _ : Nat => False) b := fun h => h
  have hS : va_S (fun _ : Nat => False) s.heap s.heap [] := va_S.rf
  refine lv_iload_n hx hb dL_cell_0 rfl (lv_at hl 1 rfl) ?_
  refine lv_aload_n hx hb dL_cell_1 rfl (lv_at hl 0 rfl) ?_
  refine va_slen hx hb hX hbl hbA hS dL_cell_2 ?_
  refine b_ge (tgt := 12) i L hx hb rfl rfl (by omega) (by omega) dL_cell_3 (by decide) (fun h1 => ?_) (fun h1 => ?_)
  · refine lv_ldc (v := 763316881) hx hb hown (hts _ q1_186) dL_cell_12 ?_
    refine lv_iload_n hx hb dL_cell_14 rfl (lv_at hl 1 rfl) ?_
    refine lv_iconst (v := 1) hx hb dL_cell_15 (by decide) ?_
    refine lv_iadd hx hb dL_cell_16 ?_
    refine lv_imul hx hb dL_cell_17 ?_
    exact rI_ret hx hb hr hlocks dL_cell_18 (by rw [cellV, if_neg (by omega)])
  · refine lv_aload_n hx hb dL_cell_6 rfl (lv_at hl 0 rfl) ?_
    refine lv_iload_n hx hb dL_cell_7 rfl (lv_at hl 1 rfl) ?_
    refine va_sld hx hb hX hbl hbA hS (vp_in_nI h1 (by omega)) dL_cell_8 ?_
    refine lv_goto (tgt := 18) hx hb dL_cell_9 (by decide) ?_
    exact rI_ret hx hb hr hlocks dL_cell_18 (by rw [cellV, if_pos h1, nI_clamp (by omega)])
