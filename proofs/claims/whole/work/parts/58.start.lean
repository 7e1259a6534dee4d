/-! ===== THE LAW FROM ITS ENTRY ===== -/
set_option maxHeartbeats 4000000 in
set_option maxRecDepth 100000 in
/-- from the entry, for every script of at most 2048 ints, the law comes to its end with true -/
theorem whole_start {p : Program} {e : Env} {s : State} {m : MethodId} {below : List Frame} {meth : Method} {c : Code} (l : Launch) (hflags : l.flags = flags0) {b L : Nat} {xs : Nat → Int32} (hL : L ≤ 2048) (C0 : lw_At p s m meth c b L xs) : W p l e room_1 s m #[Value.ref b] below meth c s.heap [] 0 0 (lw_Z below #[Value.ref b] s) (entryFrame m ([Value.ref b] : List Value).toArray 8) := by
  obtain ⟨hx, hb, hr, hml, hown, hts0, hX, hbl, hlocks, hgv⟩ := id C0
  have hE : ent p s m meth c yL_law code 8 (some .boolean) [.ref b] := ⟨hx, hb, hr, hml, fun w h => hts0 w (aw_in w h), hown, hlocks, fun h => absurd h (by decide)⟩
  obtain ⟨g, hKq⟩ := kq_of hts0
  refine W.base ?_
  have hd0 := Drawn.sameBut.refl s.drawn lw_cs
  have E := ent_dr hE s.drawn
  have hts := E.2.2.2.2.1
  have hown : (s.setDrawn s.drawn).vm.findClass RL = some m.cls := hown
  have hK : kq g (s.setDrawn s.drawn) := kq_dr hKq s.drawn
  have hA : ∀ q : Nat, s.heap.size ≤ q → (fun q : Nat => s.heap.size ≤ q) q := fun _ h => h
  have hW : wd g (fun q : Nat => s.heap.size ≤ q) s.heap [] s.heap [] := ⟨fun k q h => by simp at h, ⟨fun i j p q h => by simp at h, fun k q h => by simp at h⟩, va_S.rf⟩
  have hl := lv_entry ([.ref b]) (n := 8) (Nat.le_of_ble_eq_true rfl)
  rw [lg_entry_eq]
  generalize (lg_sl ([.ref b]) ++ List.replicate (8 - (lg_sl ([.ref b])).length) Slot.unset).toArray = ls at hl ⊢
  have hl : lv_has ls 8 [(0, .ref b)] := hl
  refine b_new (ci := 4) (fs := [.null, .null, .null, .int 0, .null, .null, .null]) (C := RX4) (T := TX4) (N := 7) hx hb hts inX4 tyX4_ok hown q1_9 q1_10 q1_1 hK hW hA rfl (fun j9 hj9 => by rcases (show j9 = 0 ∨ j9 = 1 ∨ j9 = 2 ∨ j9 = 3 ∨ j9 = 4 ∨ j9 = 5 ∨ j9 = 6 by omega) with rfl | rfl | rfl | rfl | rfl | rfl | rfl <;> rfl) (Nat.le_of_ble_eq_true rfl) (Nat.le_of_ble_eq_true rfl) dL_law_0 (fun h H hW => ?_)
  refine lv_dup hx hb dL_law_3 rfl ?_
  refine call_IN (Bs := []) (c0 := [(h, .inr (4, [.null, .null, .null, .int 0, .null, .null, .null]))]) (As := []) (rest := [.ref h]) E rfl hK hW hA (c_X4_init l g h H.size) okI_X4_init rfl q1_11 ⟨⟨rfl, rfl⟩, Nat.le_of_ble_eq_true rfl, Nat.le_of_ble_eq_true rfl⟩ hl.1 (Nat.le_of_ble_eq_true rfl) ⟨Nat.le_of_ble_eq_true rfl, Nat.le_of_ble_eq_true rfl⟩ rfl dL_law_4 (fun u H locs _ hW => ?_)
  obtain ⟨q, na, ta, pa, ⟨hq, hh, aa⟩, ra, sa⟩ := u
  have hW : wd g (fun q : Nat => s.heap.size ≤ q) s.heap [bB h q 0, vB g (q 0) na (v0 6), vB g (q 1) ta (v0 6), vB g (q 2) pa (v0 6), hB g (q 3) hq hh 0 0, vB g (hh 0) (aa 0) (v0 6), vB g (hh 1) (aa 1) (v0 6), vB g (hh 2) (aa 2) (v0 6), vB g (hh 3) (aa 3) (v0 6), vB g (hh 4) (aa 4) (v0 6), rB g (q 4) ra r0, tB g (q 5) sa (fun _ => 0) 0] H locs := hW
  refine lv_astore_n (lv' := [(1, .ref h), (0, .ref b)]) hx hb dL_law_7 rfl hl (by decide) rfl (fun ls hl => ?_)
  refine b_new (ci := 5) (fs := [.null, .null, .int 0, .null, .int 0, .null, .null, .null, .int 0, .int 0, .int 0, .null, .null, .null]) (C := RX5) (T := TX5) (N := 14) hx hb hts inX5 tyX5_ok hown q3_15 q3_16 q1_6 hK hW hA rfl (fun j9 hj9 => by rcases (show j9 = 0 ∨ j9 = 1 ∨ j9 = 2 ∨ j9 = 3 ∨ j9 = 4 ∨ j9 = 5 ∨ j9 = 6 ∨ j9 = 7 ∨ j9 = 8 ∨ j9 = 9 ∨ j9 = 10 ∨ j9 = 11 ∨ j9 = 12 ∨ j9 = 13 by omega) with rfl | rfl | rfl | rfl | rfl | rfl | rfl | rfl | rfl | rfl | rfl | rfl | rfl | rfl <;> rfl) (Nat.le_of_ble_eq_true rfl) (Nat.le_of_ble_eq_true rfl) dL_law_8 (fun h2 H hW => ?_)
  refine lv_dup hx hb dL_law_11 rfl ?_
  refine call_IN (Bs := [bB h q 0, vB g (q 0) na (v0 6), vB g (q 1) ta (v0 6), vB g (q 2) pa (v0 6), hB g (q 3) hq hh 0 0, vB g (hh 0) (aa 0) (v0 6), vB g (hh 1) (aa 1) (v0 6), vB g (hh 2) (aa 2) (v0 6), vB g (hh 3) (aa 3) (v0 6), vB g (hh 4) (aa 4) (v0 6), rB g (q 4) ra r0, tB g (q 5) sa (fun _ => 0) 0]) (c0 := [(h2, .inr (5, [.null, .null, .int 0, .null, .int 0, .null, .null, .null, .int 0, .int 0, .int 0, .null, .null, .null]))]) (As := []) (rest := [.ref h2]) E rfl hK hW hA (c_X5_init l g h2 H.size) okI_X5_init rfl q3_17 ⟨⟨rfl, rfl⟩, Nat.le_of_ble_eq_true rfl, Nat.le_of_ble_eq_true rfl⟩ hl.1 (Nat.le_of_ble_eq_true rfl) ⟨Nat.le_of_ble_eq_true rfl, Nat.le_of_ble_eq_true rfl⟩ rfl dL_law_12 (fun a2 H locs _ hW => ?_)
  have hW : wd g (fun q : Nat => s.heap.size ≤ q) s.heap (lwB g h q na ta pa hq hh aa ra sa h2 a2 0 (v0 6) (v0 6) (v0 6) 0 0 (fun _ => v0 6) r0 (fun _ => 0) 0 (v0 6) zV) H locs := hW
  refine lv_astore_n (lv' := [(2, .ref h2), (1, .ref h), (0, .ref b)]) hx hb dL_law_15 rfl hl (by decide) rfl (fun ls hl => ?_)
  refine lv_iconst (v := nI 0) hx hb dL_law_16 (by decide) ?_
  refine lv_istore_n (lv' := [(3, .int (nI 0)), (2, .ref h2), (1, .ref h), (0, .ref b)]) hx hb dL_law_17 rfl hl (by decide) rfl (fun ls hl => ?_)
  refine W.widen (k := 600000) (n := 7302250) (Nat.le_of_ble_eq_true rfl) (Nat.le_of_ble_eq_true rfl) ?_
  exact law_loop hE hKq hX hbl hL L 0 (by omega) (by omega) s.drawn 0 (v0 6) (v0 6) (v0 6) 0 0 (fun _ => v0 6) r0 (fun _ => 0) 0 zV H locs ls hd0 ((Rel.new (v0 6) (fun _ => v0 6)).mono (Nat.zero_le _)) hW (lv_sub hl [3, 2, 1, 0] rfl)
