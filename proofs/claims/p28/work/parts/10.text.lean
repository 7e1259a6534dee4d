/-! ===== WORDS of the text ===== -/
def sg (T : Nat → Nat) (n i : Nat) : Nat := if i < n then T i else 0
theorem sg_lt {T : Nat → Nat} {n : Nat} (hT : ∀ i, T i < 127) (i : Nat) : sg T n i < 127 := by
  unfold sg; split
  · exact hT i
  · omega
def oI : Option Nat → Int32
  | none => -1
  | some d => nI d
def ltr (c : Nat) : Option Nat := if c = 112 then some 1 else if c = 115 then some 2 else if c = 116 then some 4 else none
def ab (k c : Nat) : Option Nat := if c = 59 then some 0 else if 48 + k ≤ c ∧ c ≤ 48 + 4 then some (5 + (c - 48) + 1) else none
def stp : Nat → Nat → Option Nat
  | 0, c => ltr c
  | 1, c => if 48 + 0 ≤ c ∧ c ≤ 48 + 5 then some 5 else none
  | 2, c => if 48 + 0 ≤ c ∧ c ≤ 48 + 5 then some 3 else none
  | 3, c => if 48 + 0 ≤ c ∧ c ≤ 48 + 4 then some 10 else none
  | 4, c => if 48 + 1 ≤ c ∧ c ≤ 48 + 9 then some 10 else none
  | d + 5, c => ab d c
theorem stp_ge {d c : Nat} (h : 5 ≤ d) : stp d c = ab (d - 5) c := by
  obtain ⟨e, rfl⟩ : ∃ e, d = e + 5 := ⟨d - 5, by omega⟩
  rw [stp]; rfl
theorem stp_le {d c d' : Nat} (h : stp d c = some d') : d' ≤ 10 := by
  unfold stp at h
  split at h
  · unfold ltr at h; split at h <;> (try split at h) <;> (try split at h) <;> simp at h <;> omega
  · split at h <;> simp at h; omega
  · split at h <;> simp at h; omega
  · split at h <;> simp at h; omega
  · split at h <;> simp at h; omega
  · unfold ab at h; split at h
    · simp at h; omega
    · split at h
      · simp at h; omega
      · simp at h
theorem nI_m1 {d : Nat} (h : d ≤ 10) : ¬ nI d = -1 := by
  intro q
  have h1 := congrArg Int32.toInt q
  rw [nI_toInt (by omega)] at h1
  have h2 : (-1 : Int32).toInt = -1 := by decide
  omega
theorem stp_none {d c : Nat} (h : oI (stp d c) = -1) : stp d c = none := by
  cases e : stp d c with
  | none => rfl
  | some d' => rw [e] at h; exact absurd h (nI_m1 (stp_le e))
theorem stp_some {d c : Nat} (h : ¬ oI (stp d c) = -1) : ∃ d', stp d c = some d' := by
  cases e : stp d c with
  | none => rw [e] at h; exact absurd rfl h
  | some d' => exact ⟨d', rfl⟩
def bfN (T : Nat → Nat) (n : Nat) : Nat → Nat → Int32 → Int32
  | 0, _, acc => acc
  | m + 1, i, acc => if sg T n i = 59 then acc else bfN T n m (i + 1) (acc ||| (1 <<< ((nI (sg T n i) - 48) &&& 31)))
def ffN (T : Nat → Nat) (n : Nat) : Nat → Nat → Nat → Int32
  | 0, _, d => if 5 ≤ d then -5 else nI n
  | m + 1, i, d => match stp d (sg T n i) with
    | none => nI i
    | some d' => ffN T n m (i + 1) d'
theorem ffN_none {T : Nat → Nat} {n m i d : Nat} (h : stp d (sg T n i) = none) : ffN T n (m + 1) i d = nI i := by rw [ffN, h]
theorem ffN_some {T : Nat → Nat} {n m i d d' : Nat} (h : stp d (sg T n i) = some d') : ffN T n (m + 1) i d = ffN T n m (i + 1) d' := by rw [ffN, h]
def upT (T : Nat → Nat) (n c : Nat) : Nat → Nat := fun i => if i = n then c else T i
theorem upT_eq (T : Nat → Nat) (n c : Nat) : upd (fun i => nI (T i)) n (nI c) = fun i => nI (upT T n c i) := by
  funext i
  unfold upd upT
  split <;> rfl
theorem charN {c : Nat} (h : c < 65536) : vp_nar .char (nI c) = nI c := by
  unfold vp_nar
  rw [(pk_charN h).1]
