/-! PURE: guard -/
theorem mWs_at {g : Gd} {S : Nat} {q : Int32} (n i : Nat) : mWs g S q n 8 i = if i < n then g 8 i ||| mWv q S i else g 8 i := by
  induction n with
  | zero => rw [if_neg (Nat.not_lt_zero _)]; rfl
  | succ n ih =>
    show (if 8 = 8 ∧ i = n then g 8 n ||| mWv q S n else mWs g S q n 8 i) = _
    by_cases h : i = n
    · subst h; rw [if_pos ⟨rfl, rfl⟩, if_pos (by omega)]
    · rw [if_neg (fun z => h z.2), ih]
      by_cases h2 : i < n
      · rw [if_pos h2, if_pos (by omega)]
      · rw [if_neg h2, if_neg (by omega)]
theorem or_all {x n : Nat} (h : x < 2 ^ n) : x ||| (2 ^ n - 1) = 2 ^ n - 1 := by
  apply Nat.eq_of_testBit_eq; intro i
  rw [Nat.testBit_or, Nat.testBit_two_pow_sub_one]
  by_cases hi : i < n
  · rw [decide_eq_true hi, Bool.or_true]
  · rw [decide_eq_false hi, Bool.or_false]
    exact Nat.testBit_lt_two_pow (Nat.lt_of_lt_of_le h (Nat.pow_le_pow_right (by decide) (by omega)))
theorem mWs_one {g : Gd} (hI : Inv g) {h : Nat} (hh : h < 8) : mWs g (eAll g) (nI h) 8 = gs g 8 h (eAll g) := by
  funext f i
  by_cases hf : f = 8
  · subst hf
    rw [mWs_at]
    show _ = if 8 = 8 ∧ i = h then eAll g else g 8 i
    by_cases hi : i = h
    · subst hi
      rw [if_pos hh, if_pos ⟨rfl, rfl⟩]
      unfold mWv
      rw [if_neg (Int32.not_lt.mpr (nI_pos' (by omega))), if_pos rfl, hI.allW]
      exact or_all (hI.watW i)
    · rw [if_neg (show ¬ (8 = 8 ∧ i = h) from fun z => hi z.2)]
      by_cases h8 : i < 8
      · rw [if_pos h8]
        unfold mWv
        rw [if_neg (Int32.not_lt.mpr (nI_pos' (by omega))), if_neg (fun z => hi (by
          have e := congrArg Int32.toInt z
          rw [nI_toInt (by omega), nI_toInt (by omega)] at e
          omega)), Nat.or_zero]
      · rw [if_neg h8]
  · rw [mWs_f hf, gs_f hf]
