/-! ===== the errors are alike ===== -/
theorem lt_le {x : Int32} {k k1 : Int32} (h : k1.toInt = k.toInt + 1) : x < k1 ↔ ¬ k < x := by
  rw [Int32.lt_iff_toInt_lt, Int32.lt_iff_toInt_lt, h]
  omega
theorem hn_eq {V : sV} {x w : Int32} {c0 : Nat} (h : c0 ≤ 5) : hnE V x w c0 = hnM x w c0 := by
  by_cases h1 : isT x
  · rw [hnE, hnM, if_pos h1, if_pos h1]
    by_cases h2 : w < 1
    · rw [if_pos h2, if_neg (show ¬ inI w 1 9 from fun q => q.1 h2)]
    · rw [if_neg h2]
      by_cases h3 : w ≤ 9
      · rw [if_pos h3, if_pos (show inI w 1 9 from ⟨h2, Int32.not_lt.mpr h3⟩)]
        by_cases h4 : c0 < 5
        · rw [if_pos h4, if_neg (by omega)]
        · rw [if_neg h4, if_pos (by omega)]
      · rw [if_neg h3, if_neg (show ¬ inI w 1 9 from fun q => h3 (Int32.not_lt.mp q.2))]
  · rw [hnE, hnM, if_neg h1, if_neg h1]
theorem se_eq {V : sV} {x mi ri : Int32} {t : Nat} : seE V x mi ri t = seM V x mi ri t := by
  by_cases h1 : isT x
  · rw [seE, seM, if_pos h1, if_pos h1]
    by_cases h2 : mi < 0
    · rw [if_pos h2, if_neg (fun q => q.1 h2)]
    · rw [if_neg h2]
      by_cases h3 : mi ≤ 40
      · rw [if_pos h3, if_pos (show inI mi 0 40 from ⟨h2, Int32.not_lt.mpr h3⟩)]
        by_cases h4 : ri < 1
        · rw [if_pos h4, if_neg (fun q => q.1 h4)]
        · rw [if_neg h4]
          by_cases h5 : ri ≤ 20
          · rw [if_pos h5, if_pos (show inI ri 1 20 from ⟨h4, Int32.not_lt.mpr h5⟩)]
          · rw [if_neg h5, if_neg (fun q => h5 (Int32.not_lt.mp q.2))]
      · rw [if_neg h3, if_neg (fun q => h3 (Int32.not_lt.mp q.2))]
  · rw [seE, seM, if_neg h1, if_neg h1]
theorem pl_eq {V : sV} {x : Int32} {t : Nat} {m : Int32} : plE V x t m = plM V x t m := by
  by_cases h1 : isT x
  · rw [plE, plM, if_pos h1, if_pos h1]
    by_cases h2 : m < 0
    · rw [if_pos h2, if_neg (fun q => q.1 h2)]
    · rw [if_neg h2]
      by_cases h3 : m ≤ evB V t
      · rw [if_pos h3, if_pos ⟨h2, Int32.not_lt.mpr h3⟩]
      · rw [if_neg h3, if_neg (fun q => h3 (Int32.not_lt.mp q.2))]
  · rw [plE, plM, if_neg h1, if_neg h1]
theorem can_eq {V : sV} {t b : Nat} (h : 0 ≤ (V 10 (t * 5 + b)).toInt) : canM V t b ↔ ¬ V 10 (t * 5 + b) = 0 ∧ 2 ≤ resT V t := by
  show (¬ V 10 (t * 5 + b) ≤ 0 ∧ ¬ V 1 t - V 2 t ≤ 1) ↔ (¬ V 10 (t * 5 + b) = 0 ∧ 2 ≤ V 1 t - V 2 t)
  rw [le0, Int32.le_iff_toInt_le, Int32.le_iff_toInt_le, show (1 : Int32).toInt = 1 by decide, show (2 : Int32).toInt = 2 by decide, ← Int32.toInt_inj, show (0 : Int32).toInt = 0 by decide]
  omega
theorem sp_eq {V : sV} {x y : Int32} {t b : Nat} (h : 0 ≤ (V 10 (t * 5 + b)).toInt) : spE V x y t b = spM V x y t b := by
  by_cases h1 : hasB V x y
  · rw [spE, spM, if_pos h1, if_pos h1]
    by_cases h2 : V 10 (t * 5 + b) = 0
    · rw [if_pos h2, if_neg (fun q => ((can_eq h).mp q).1 h2)]
    · rw [if_neg h2]
      by_cases h3 : 2 ≤ resT V t
      · rw [if_pos h3, if_pos ((can_eq h).mpr ⟨h2, h3⟩)]
      · rw [if_neg h3, if_neg (fun q => h3 ((can_eq h).mp q).2)]
  · rw [spE, spM, if_neg h1, if_neg h1]
theorem fe_eq {x d : Int32} : feE x d = feM x d := by
  by_cases h1 : isT x
  · rw [feE, feM, if_pos h1, if_pos h1]
    by_cases h2 : d < 0
    · rw [if_pos h2, if_neg (fun q => q.1 h2)]
    · rw [if_neg h2]
      by_cases h3 : d < 7
      · rw [if_pos h3, if_pos ⟨h2, (lt_le (k := 6) (k1 := 7) (by decide)).mp h3⟩]
      · rw [if_neg h3, if_neg (fun q => h3 ((lt_le (k := 6) (k1 := 7) (by decide)).mpr q.2))]
  · rw [feE, feM, if_neg h1, if_neg h1]
theorem st_eq {x v : Int32} (hne : inI x 0 1 ↔ ¬ x < 0 ∧ x < 2) : stE x v = stM x v := by
  by_cases h1 : x < 0
  · rw [stE, stM, if_pos h1, if_neg (fun q => q.1 h1)]
  · rw [stE, stM, if_neg h1]
    by_cases h2 : x < 2
    · rw [if_pos h2, if_pos (hne.mpr ⟨h1, h2⟩)]
    · rw [if_neg h2, if_neg (fun q => h2 (hne.mp q).2)]
theorem st_eq' {x v : Int32} : stE x v = stM x v := st_eq ⟨fun q => ⟨q.1, (lt_le (k := 1) (k1 := 2) (by decide)).mpr q.2⟩, fun q => ⟨q.1, (lt_le (k := 1) (k1 := 2) (by decide)).mp q.2⟩⟩
theorem tu_eq {x : Int32} : tErr x = tuM x := by
  rw [tErr, tuM]
  by_cases h2 : x < 1
  · rw [if_pos h2, if_neg (fun q => q.1 h2)]
  · rw [if_neg h2]
    by_cases h3 : x ≤ 50
    · rw [if_pos h3, if_pos ⟨h2, Int32.not_lt.mpr h3⟩]
    · rw [if_neg h3, if_neg (fun q => h3 (Int32.not_lt.mp q.2))]
theorem ap_eq {x : Int32} {k : Nat} (h : k ≤ 60) : apE x k = apM x k := by
  rw [apE, apM]
  by_cases h2 : x < 32
  · rw [if_pos h2, if_neg (fun q => q.1 h2)]
  · rw [if_neg h2]
    by_cases h3 : x ≤ 126
    · rw [if_pos h3, if_pos (show inI x 32 126 from ⟨h2, Int32.not_lt.mpr h3⟩)]
      by_cases h4 : k < 60
      · rw [if_pos h4, if_neg (by omega)]
      · rw [if_neg h4, if_pos (by omega)]
    · rw [if_neg h3, if_neg (fun q => h3 (Int32.not_lt.mp q.2))]
