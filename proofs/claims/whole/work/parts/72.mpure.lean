/-! PURE: the model reads a text -/
theorem bF {b : Bool} (h : ¬ b = true) : b = false := by
  cases b
  · rfl
  · exact absurd rfl h
def mN (y : Gd) (p : Nat) : Int32 := if p < y 0 1 then nI (y 1 p) else -1
theorem mN_eq {y : Gd} (h : ∀ i, y 1 i ≤ 255) {p c : Nat} (hc : 1 ≤ c) (hc2 : c < 1000) : mN y p = nI c ↔ eLet y p = c := by
  unfold mN eLet
  by_cases hp : p < y 0 1
  · rw [if_pos hp, if_pos hp]; exact nI_eq (by have := h p; omega) (by omega)
  · rw [if_neg hp, if_neg hp]
    refine ⟨fun q => ?_, fun q => by omega⟩
    have q2 := congrArg Int32.toInt q
    rw [nI_toInt (by omega)] at q2
    have q3 : (-1 : Int32).toInt = -1 := by decide
    omega
theorem mN_n {y : Gd} {p : Nat} (h : eLet y p ≠ 0) : mN y p = nI (eLet y p) := by
  by_cases hp : p < y 0 1
  · unfold mN eLet; rw [if_pos hp, if_pos hp]
  · exact absurd (show eLet y p = 0 by unfold eLet; rw [if_neg hp]) h
theorem mN_dig {y : Gd} (h : ∀ i, y 1 i ≤ 255) (p : Nat) : eIn (mN y p) (nI 48) (nI 57) = isDig (eLet y p) := by
  by_cases hp : p < y 0 1
  · have e1 : mN y p = nI (y 1 p) := if_pos hp
    have e2 : eLet y p = y 1 p := if_pos hp
    have e3 := h p
    rw [e1, e2, eIn_n (by omega) (by decide) (by decide)]
    unfold isDig
    by_cases a : 48 ≤ y 1 p
    · by_cases b : y 1 p ≤ 57
      · rw [decide_eq_true (show 48 ≤ y 1 p ∧ y 1 p ≤ 57 from ⟨a, b⟩), decide_eq_true a, decide_eq_true b]; rfl
      · rw [decide_eq_false (show ¬ (48 ≤ y 1 p ∧ y 1 p ≤ 57) from fun z => b z.2), decide_eq_false b, Bool.and_false]
    · rw [decide_eq_false (show ¬ (48 ≤ y 1 p ∧ y 1 p ≤ 57) from fun z => a z.1), decide_eq_false a, Bool.false_and]
  · have e1 : mN y p = -1 := if_neg hp
    have e2 : eLet y p = 0 := if_neg hp
    rw [e1, e2]; decide
theorem mN_d {y : Gd} {p : Nat} (h : isDig (eLet y p) = true) : mN y p - nI 48 = nI (eDg y p) := by
  rw [mN_n (by have := dig_n h; omega), dg_i h]
/-- how many of the next n letters are digits, from the first -/
def mRun (y : Gd) (p : Nat) : Nat → Nat
  | 0 => 0
  | n + 1 => if mRun y p n = n ∧ isDig (eLet y (p + n)) = true then n + 1 else mRun y p n
theorem mRun_s {y : Gd} {p n : Nat} (h : mRun y p n = n) (hd : isDig (eLet y (p + n)) = true) : mRun y p (n + 1) = n + 1 := if_pos ⟨h, hd⟩
theorem mRun_le (y : Gd) (p n : Nat) : mRun y p n ≤ n := by
  induction n with
  | zero => exact Nat.le_refl _
  | succ n ih =>
    show (if mRun y p n = n ∧ isDig (eLet y (p + n)) = true then n + 1 else mRun y p n) ≤ n + 1
    split
    · exact Nat.le_refl _
    · exact Nat.le_succ_of_le ih
theorem mRun_stop {y : Gd} {p k : Nat} (h : mRun y p k = k) (hd : isDig (eLet y (p + k)) = false) : ∀ m, k ≤ m → mRun y p m = k := by
  intro m
  induction m with
  | zero => intro hk; have e : k = 0 := by omega
            subst e; rfl
  | succ m ih =>
    intro hk
    by_cases e : k = m + 1
    · rw [← e]; exact h
    · have h1 := ih (by omega)
      have hn : ¬ (mRun y p m = m ∧ isDig (eLet y (p + m)) = true) := by
        intro z
        obtain ⟨a, b⟩ := z
        have a2 : k = m := h1.symm.trans a
        rw [← a2, hd] at b; cases b
      show (if mRun y p m = m ∧ isDig (eLet y (p + m)) = true then m + 1 else mRun y p m) = k
      rw [if_neg hn, h1]
theorem mRun_dig {y : Gd} {p : Nat} : ∀ n, mRun y p n = n → ∀ i, i < n → isDig (eLet y (p + i)) = true := by
  intro n
  induction n with
  | zero => intro _ i hi; exact absurd hi (Nat.not_lt_zero _)
  | succ n ih =>
    intro h i hi
    have h2 : (if mRun y p n = n ∧ isDig (eLet y (p + n)) = true then n + 1 else mRun y p n) = n + 1 := h
    by_cases c : mRun y p n = n ∧ isDig (eLet y (p + n)) = true
    · by_cases e : i = n
      · rw [e]; exact c.2
      · exact ih c.1 i (by omega)
    · rw [if_neg c] at h2
      have := mRun_le y p n
      omega
/-- what is told at q behind so many digits -/
def mTd (td : Nat → Int32) (q : Nat) (y : Gd) (p : Nat) : Nat → (Nat → Int32)
  | 0 => td
  | k + 1 => upd (mTd td q y p k) (q + k) (nI (eDg y (p + k)))
theorem upd_at (f : Nat → Int32) (i : Nat) (v : Int32) : upd f i v i = v := by unfold upd; rw [if_pos rfl]
theorem upd_ne {f : Nat → Int32} {i j : Nat} {v : Int32} (h : j ≠ i) : upd f i v j = f j := by unfold upd; rw [if_neg h]
theorem mTd_out {td : Nat → Int32} {q : Nat} {y : Gd} {p m k : Nat} (h : k < q) : mTd td q y p m k = td k := by
  induction m with
  | zero => rfl
  | succ m ih => show upd (mTd td q y p m) (q + m) _ k = td k; rw [upd_ne (by omega)]; exact ih
theorem mTd_at {td : Nat → Int32} {q : Nat} {y : Gd} {p m i : Nat} (h : i < m) : mTd td q y p m (q + i) = nI (eDg y (p + i)) := by
  induction m with
  | zero => exact absurd h (Nat.not_lt_zero _)
  | succ m ih =>
    show upd (mTd td q y p m) (q + m) _ (q + i) = _
    by_cases e : i = m
    · subst e; rw [upd_at]
    · rw [upd_ne (by omega)]; exact ih (by omega)
theorem fb_0 (y : Gd) (p : Nat) : eFB y 0 p 4 0 = if mRun y (p + 1) 3 = 3 then (if eLet y (p + 4) = 59 then none else some (p + 4)) else some (p + 1 + mRun y (p + 1) 3) := by
  have e : eFB y 0 p 4 0 = if isDig (eLet y (p + 1)) = true then (if isDig (eLet y (p + 2)) = true then (if isDig (eLet y (p + 3)) = true then (if decide (eLet y (p + 4) = 59) = true then none else some (p + 4)) else some (p + 3)) else some (p + 2)) else some (p + 1) := rfl
  by_cases h1 : isDig (eLet y (p + 1)) = true
  · have r1 : mRun y (p + 1) 1 = 1 := mRun_s rfl h1
    rw [e, if_pos h1]
    by_cases h2 : isDig (eLet y (p + 2)) = true
    · have r2 : mRun y (p + 1) 2 = 2 := mRun_s r1 h2
      rw [if_pos h2]
      by_cases h3 : isDig (eLet y (p + 3)) = true
      · have r3 : mRun y (p + 1) 3 = 3 := mRun_s r2 h3
        rw [if_pos h3, if_pos r3]
        by_cases h4 : eLet y (p + 4) = 59
        · rw [if_pos (decide_eq_true h4), if_pos h4]
        · rw [if_neg (fun z => h4 (of_decide_eq_true z)), if_neg h4]
      · have r3 : mRun y (p + 1) 3 = 2 := mRun_stop r2 (bF h3) 3 (by decide)
        rw [if_neg h3, if_neg (by omega)]; exact congrArg some (by omega)
    · have r3 : mRun y (p + 1) 3 = 1 := mRun_stop r1 (bF h2) 3 (by decide)
      rw [if_neg h2, if_neg (by omega)]; exact congrArg some (by omega)
  · have r3 : mRun y (p + 1) 3 = 0 := mRun_stop (p := p + 1) (k := 0) rfl (bF h1) 3 (by decide)
    rw [e, if_neg h1, if_neg (by omega)]; exact congrArg some (by omega)
theorem fb_2 (y : Gd) (p : Nat) : eFB y 2 p 3 0 = if mRun y (p + 1) 2 = 2 then (if eLet y (p + 3) = 59 then none else some (p + 3)) else some (p + 1 + mRun y (p + 1) 2) := by
  have e : eFB y 2 p 3 0 = if isDig (eLet y (p + 1)) = true then (if isDig (eLet y (p + 2)) = true then (if decide (eLet y (p + 3) = 59) = true then none else some (p + 3)) else some (p + 2)) else some (p + 1) := rfl
  by_cases h1 : isDig (eLet y (p + 1)) = true
  · have r1 : mRun y (p + 1) 1 = 1 := mRun_s rfl h1
    rw [e, if_pos h1]
    by_cases h2 : isDig (eLet y (p + 2)) = true
    · have r2 : mRun y (p + 1) 2 = 2 := mRun_s r1 h2
      rw [if_pos h2, if_pos r2]
      by_cases h4 : eLet y (p + 3) = 59
      · rw [if_pos (decide_eq_true h4), if_pos h4]
      · rw [if_neg (fun z => h4 (of_decide_eq_true z)), if_neg h4]
    · have r3 : mRun y (p + 1) 2 = 1 := mRun_stop r1 (bF h2) 2 (by decide)
      rw [if_neg h2, if_neg (by omega)]; exact congrArg some (by omega)
  · have r3 : mRun y (p + 1) 2 = 0 := mRun_stop (p := p + 1) (k := 0) rfl (bF h1) 2 (by decide)
    rw [e, if_neg h1, if_neg (by omega)]; exact congrArg some (by omega)
theorem fb_1 (y : Gd) (p : Nat) : eFB y 1 p 5 0 = if (kixO (eLet y (p + 1))).isSome = true then (if mRun y (p + 2) 3 = 3 then (if eLet y (p + 5) = 59 then none else some (p + 5)) else some (p + 2 + mRun y (p + 2) 3)) else some (p + 1) := by
  have e : eFB y 1 p 5 0 = if (kixO (eLet y (p + 1))).isSome = true then (if isDig (eLet y (p + 2)) = true then (if isDig (eLet y (p + 3)) = true then (if isDig (eLet y (p + 4)) = true then (if decide (eLet y (p + 5) = 59) = true then none else some (p + 5)) else some (p + 4)) else some (p + 3)) else some (p + 2)) else some (p + 1) := rfl
  by_cases h0 : (kixO (eLet y (p + 1))).isSome = true
  · rw [e, if_pos h0, if_pos h0]
    by_cases h1 : isDig (eLet y (p + 2)) = true
    · have r1 : mRun y (p + 2) 1 = 1 := mRun_s rfl h1
      rw [if_pos h1]
      by_cases h2 : isDig (eLet y (p + 3)) = true
      · have r2 : mRun y (p + 2) 2 = 2 := mRun_s r1 h2
        rw [if_pos h2]
        by_cases h3 : isDig (eLet y (p + 4)) = true
        · have r3 : mRun y (p + 2) 3 = 3 := mRun_s r2 h3
          rw [if_pos h3, if_pos r3]
          by_cases h4 : eLet y (p + 5) = 59
          · rw [if_pos (decide_eq_true h4), if_pos h4]
          · rw [if_neg (fun z => h4 (of_decide_eq_true z)), if_neg h4]
        · have r3 : mRun y (p + 2) 3 = 2 := mRun_stop r2 (bF h3) 3 (by decide)
          rw [if_neg h3, if_neg (by omega)]; exact congrArg some (by omega)
      · have r3 : mRun y (p + 2) 3 = 1 := mRun_stop r1 (bF h2) 3 (by decide)
        rw [if_neg h2, if_neg (by omega)]; exact congrArg some (by omega)
    · have r3 : mRun y (p + 2) 3 = 0 := mRun_stop (p := p + 2) (k := 0) rfl (bF h1) 3 (by decide)
      rw [if_neg h1, if_neg (by omega)]; exact congrArg some (by omega)
  · rw [e, if_neg h0, if_neg h0]
/-! a statement read -/
def stL (y : Gd) (p : Nat) : Nat := lenS.getD (fI (eLet y p)) 0
def stF (y : Gd) (p : Nat) : Option Nat := eFB y (fI (eLet y p)) p (stL y p) 0
def stOK (y : Gd) (p : Nat) : Prop := stL y p ≠ 0 ∧ stF y p = none
def stBad (y : Gd) (p q : Nat) : Prop := (stL y p = 0 ∧ q = p) ∨ (stL y p ≠ 0 ∧ stF y p = some q)
theorem st_98 {y : Gd} {p : Nat} (h : eLet y p = 98) : stL y p = 5 ∧ stF y p = eFB y 1 p 5 0 := by
  unfold stF stL; rw [h]; exact ⟨rfl, rfl⟩
theorem st_105 {y : Gd} {p : Nat} (h : eLet y p = 105) : stL y p = 3 ∧ stF y p = eFB y 2 p 3 0 := by
  unfold stF stL; rw [h]; exact ⟨rfl, rfl⟩
theorem st_w {y : Gd} {p c : Nat} (h : eLet y p = c) (hc : c = 119 ∨ c = 114) : stL y p = 4 ∧ stF y p = eFB y 0 p 4 0 := by
  unfold stF stL; rw [h]
  rcases hc with rfl | rfl
  · exact ⟨rfl, rfl⟩
  · exact ⟨rfl, rfl⟩
theorem st_no {y : Gd} {p : Nat} (h1 : ¬ eLet y p = 119) (h2 : ¬ eLet y p = 98) (h3 : ¬ eLet y p = 105) (h4 : ¬ eLet y p = 114) : stL y p = 0 := by
  unfold stL fI; rw [if_neg h2, if_neg h3, if_neg h4, if_neg h1]; rfl
/-- the statement's values as told -/
def TD (y : Gd) (p : Nat) (t : Nat → Int32) (q : Nat) : Prop :=
  if eLet y p = 98 then t q = nI ((kixO (eLet y (p + 1))).getD 0) ∧ t (q + 1) = nI (eDg y (p + 2)) ∧ t (q + 2) = nI (eDg y (p + 3)) ∧ t (q + 3) = nI (eDg y (p + 4))
  else if eLet y p = 105 then t q = nI (eDg y (p + 1)) ∧ t (q + 1) = nI (eDg y (p + 2))
  else t q = nI (eDg y (p + 1)) ∧ t (q + 1) = nI (eDg y (p + 2)) ∧ t (q + 2) = nI (eDg y (p + 3))
def SF (j j' : Gd) (td td' : Nat → Int32) : Prop := (∀ k, j' 5 k = j 5 k) ∧ j' 0 2 = j 0 2 ∧ (∀ k, k < j 0 2 → j' 2 k = j 2 k ∧ j' 3 k = j 3 k) ∧ (∀ k, k < 4 * j 0 2 → td' k = td k)
def SP (y j j' : Gd) (td td' : Nat → Int32) (ok : Bool) : Prop := SF j j' td td' ∧ ((ok = true ∧ stOK y (j 0 1) ∧ j' 0 1 = j 0 1 + stL y (j 0 1) + 1 ∧ j' 2 (j 0 2) = eLet y (j 0 1) ∧ j' 3 (j 0 2) = j 0 1 ∧ TD y (j 0 1) td' (4 * j 0 2)) ∨ (ok = false ∧ stBad y (j 0 1) (j' 0 1)))
def jR (j : Gd) (c a : Nat) : Gd := gs (gs (gs j 2 (j 0 2) c) 3 (j 0 2) (j 0 1)) 0 1 a
theorem jR_01 (j : Gd) (c a : Nat) : jR j c a 0 1 = a := rfl
theorem jR_2 (j : Gd) (c a : Nat) : jR j c a 2 (j 0 2) = c := by
  show (if 2 = 2 ∧ j 0 2 = j 0 2 then c else j 2 (j 0 2)) = c
  rw [if_pos ⟨rfl, rfl⟩]
theorem jR_3 (j : Gd) (c a : Nat) : jR j c a 3 (j 0 2) = j 0 1 := by
  show (if 3 = 3 ∧ j 0 2 = j 0 2 then j 0 1 else gs j 2 (j 0 2) c 3 (j 0 2)) = j 0 1
  rw [if_pos ⟨rfl, rfl⟩]
theorem SF.r {j : Gd} {c a : Nat} {td td' : Nat → Int32} (h : ∀ k, k < 4 * j 0 2 → td' k = td k) : SF j (jR j c a) td td' := by
  refine ⟨fun k => rfl, rfl, fun k hk => ⟨?_, ?_⟩, h⟩
  · show (if 2 = 2 ∧ k = j 0 2 then c else j 2 k) = j 2 k
    rw [if_neg (by omega)]
  · show (if 3 = 3 ∧ k = j 0 2 then j 0 1 else gs j 2 (j 0 2) c 3 k) = j 3 k
    rw [if_neg (by omega)]; rfl
theorem sp_w {y j : Gd} {td : Nat → Int32} {c : Nat} (hc : eLet y (j 0 1) = c) (hw : c = 119 ∨ c = 114) (h3 : mRun y (j 0 1 + 1) 3 = 3) (h4 : eLet y (j 0 1 + 1 + mRun y (j 0 1 + 1) 3) = 59) : SP y j (jR j c (j 0 1 + 1 + mRun y (j 0 1 + 1) 3 + 1)) td (mTd td (4 * j 0 2) y (j 0 1 + 1) (mRun y (j 0 1 + 1) 3)) true := by
  rw [h3] at h4 ⊢
  obtain ⟨e1, e2⟩ := st_w hc hw
  refine ⟨SF.r (fun k hk => mTd_out hk), Or.inl ⟨rfl, ⟨by omega, ?_⟩, by rw [jR_01]; omega, by rw [jR_2, hc], jR_3 _ _ _, ?_⟩⟩
  · rw [e2, fb_0, if_pos h3, if_pos h4]
  · unfold TD
    rw [if_neg (by omega), if_neg (by omega)]
    exact ⟨mTd_at (i := 0) (by decide), mTd_at (i := 1) (by decide), mTd_at (i := 2) (by decide)⟩
theorem sp_wb {y j : Gd} {td : Nat → Int32} {c : Nat} (hc : eLet y (j 0 1) = c) (hw : c = 119 ∨ c = 114) (h : ¬ (mRun y (j 0 1 + 1) 3 = 3 ∧ eLet y (j 0 1 + 1 + mRun y (j 0 1 + 1) 3) = 59)) : SP y j (jR j c (j 0 1 + 1 + mRun y (j 0 1 + 1) 3)) td (mTd td (4 * j 0 2) y (j 0 1 + 1) (mRun y (j 0 1 + 1) 3)) false := by
  obtain ⟨e1, e2⟩ := st_w hc hw
  refine ⟨SF.r (fun k hk => mTd_out hk), Or.inr ⟨rfl, Or.inr ⟨by omega, ?_⟩⟩⟩
  rw [e2, fb_0, jR_01]
  by_cases h3 : mRun y (j 0 1 + 1) 3 = 3
  · have h4 : ¬ eLet y (j 0 1 + 4) = 59 := fun q => h ⟨h3, by rw [h3]; exact q⟩
    rw [if_pos h3, if_neg h4]; exact congrArg some (by omega)
  · rw [if_neg h3]
theorem sp_i {y j : Gd} {td : Nat → Int32} (hc : eLet y (j 0 1) = 105) (h3 : mRun y (j 0 1 + 1) 2 = 2) (h4 : eLet y (j 0 1 + 1 + mRun y (j 0 1 + 1) 2) = 59) : SP y j (jR j 105 (j 0 1 + 1 + mRun y (j 0 1 + 1) 2 + 1)) td (mTd td (4 * j 0 2) y (j 0 1 + 1) (mRun y (j 0 1 + 1) 2)) true := by
  rw [h3] at h4 ⊢
  obtain ⟨e1, e2⟩ := st_105 hc
  refine ⟨SF.r (fun k hk => mTd_out hk), Or.inl ⟨rfl, ⟨by omega, ?_⟩, by rw [jR_01]; omega, by rw [jR_2, hc], jR_3 _ _ _, ?_⟩⟩
  · rw [e2, fb_2, if_pos h3, if_pos h4]
  · unfold TD
    rw [if_neg (by omega), if_pos hc]
    exact ⟨mTd_at (i := 0) (by decide), mTd_at (i := 1) (by decide)⟩
theorem sp_ib {y j : Gd} {td : Nat → Int32} (hc : eLet y (j 0 1) = 105) (h : ¬ (mRun y (j 0 1 + 1) 2 = 2 ∧ eLet y (j 0 1 + 1 + mRun y (j 0 1 + 1) 2) = 59)) : SP y j (jR j 105 (j 0 1 + 1 + mRun y (j 0 1 + 1) 2)) td (mTd td (4 * j 0 2) y (j 0 1 + 1) (mRun y (j 0 1 + 1) 2)) false := by
  obtain ⟨e1, e2⟩ := st_105 hc
  refine ⟨SF.r (fun k hk => mTd_out hk), Or.inr ⟨rfl, Or.inr ⟨by omega, ?_⟩⟩⟩
  rw [e2, fb_2, jR_01]
  by_cases h3 : mRun y (j 0 1 + 1) 2 = 2
  · have h4 : ¬ eLet y (j 0 1 + 3) = 59 := fun q => h ⟨h3, by rw [h3]; exact q⟩
    rw [if_pos h3, if_neg h4]; exact congrArg some (by omega)
  · rw [if_neg h3]
theorem mTk_out {td : Nat → Int32} {q : Nat} {y : Gd} {p m k : Nat} {v : Int32} (h : k < q) : mTd (upd td q v) (q + 1) y p m k = td k := by
  rw [mTd_out (by omega), upd_ne (by omega)]
theorem mTk_0 {td : Nat → Int32} {q : Nat} {y : Gd} {p m : Nat} {v : Int32} : mTd (upd td q v) (q + 1) y p m q = v := by
  rw [mTd_out (by omega), upd_at]
theorem sp_b {y j : Gd} {td : Nat → Int32} (hc : eLet y (j 0 1) = 98) (hk : (kixO (eLet y (j 0 1 + 1))).isSome = true) (h3 : mRun y (j 0 1 + 1 + 1) 3 = 3) (h4 : eLet y (j 0 1 + 1 + 1 + mRun y (j 0 1 + 1 + 1) 3) = 59) : SP y j (jR j 98 (j 0 1 + 1 + 1 + mRun y (j 0 1 + 1 + 1) 3 + 1)) td (mTd (upd td (4 * j 0 2) (eM (kixO (eLet y (j 0 1 + 1))))) (4 * j 0 2 + 1) y (j 0 1 + 1 + 1) (mRun y (j 0 1 + 1 + 1) 3)) true := by
  rw [h3] at h4 ⊢
  obtain ⟨e1, e2⟩ := st_98 hc
  refine ⟨SF.r (fun k hk => mTk_out hk), Or.inl ⟨rfl, ⟨by omega, ?_⟩, by rw [jR_01]; omega, by rw [jR_2, hc], jR_3 _ _ _, ?_⟩⟩
  · rw [e2, fb_1, if_pos hk, if_pos h3, if_pos h4]
  · unfold TD
    rw [if_pos hc]
    exact ⟨mTk_0.trans (eM_some hk), mTd_at (i := 0) (by decide), mTd_at (i := 1) (by decide), mTd_at (i := 2) (by decide)⟩
theorem sp_bb {y j : Gd} {td : Nat → Int32} (hc : eLet y (j 0 1) = 98) (hk : (kixO (eLet y (j 0 1 + 1))).isSome = true) (h : ¬ (mRun y (j 0 1 + 1 + 1) 3 = 3 ∧ eLet y (j 0 1 + 1 + 1 + mRun y (j 0 1 + 1 + 1) 3) = 59)) : SP y j (jR j 98 (j 0 1 + 1 + 1 + mRun y (j 0 1 + 1 + 1) 3)) td (mTd (upd td (4 * j 0 2) (eM (kixO (eLet y (j 0 1 + 1))))) (4 * j 0 2 + 1) y (j 0 1 + 1 + 1) (mRun y (j 0 1 + 1 + 1) 3)) false := by
  obtain ⟨e1, e2⟩ := st_98 hc
  refine ⟨SF.r (fun k hk => mTk_out hk), Or.inr ⟨rfl, Or.inr ⟨by omega, ?_⟩⟩⟩
  rw [e2, fb_1, jR_01, if_pos hk]
  by_cases h3 : mRun y (j 0 1 + 2) 3 = 3
  · have h4 : ¬ eLet y (j 0 1 + 5) = 59 := fun q => h ⟨h3, by rw [show mRun y (j 0 1 + 1 + 1) 3 = 3 from h3]; exact q⟩
    rw [if_pos h3, if_neg h4]
    have h5 : mRun y (j 0 1 + 1 + 1) 3 = 3 := h3
    exact congrArg some (by omega)
  · rw [if_neg h3]
theorem sp_bk {y j : Gd} {td : Nat → Int32} {v : Int32} (hc : eLet y (j 0 1) = 98) (hk : (kixO (eLet y (j 0 1 + 1))).isSome = false) : SP y j (jR j 98 (j 0 1 + 1)) td (upd td (4 * j 0 2) v) false := by
  obtain ⟨e1, e2⟩ := st_98 hc
  refine ⟨SF.r (fun k hk => upd_ne (by omega)), Or.inr ⟨rfl, Or.inr ⟨by omega, ?_⟩⟩⟩
  rw [e2, fb_1, jR_01, if_neg (by rw [hk]; decide)]
theorem sp_no {y j : Gd} {td : Nat → Int32} (h1 : ¬ eLet y (j 0 1) = 119) (h2 : ¬ eLet y (j 0 1) = 98) (h3 : ¬ eLet y (j 0 1) = 105) (h4 : ¬ eLet y (j 0 1) = 114) : SP y j j td td false :=
  ⟨⟨fun _ => rfl, rfl, fun _ _ => ⟨rfl, rfl⟩, fun _ _ => rfl⟩, Or.inr ⟨rfl, Or.inl ⟨st_no h1 h2 h3 h4, rfl⟩⟩⟩
/-! all statements read -/
def pl (y : Gd) : Nat → Nat
  | 0 => 0
  | k + 1 => pl y k + stL y (pl y k) + 1
theorem let_lt {y : Gd} {p c : Nat} (h : eLet y p = c) (hc : c ≠ 0) : p < y 0 1 := by
  unfold eLet at h
  apply Decidable.byContradiction; intro hn
  rw [if_neg hn] at h; omega
theorem st_ws {y : Gd} {p : Nat} (h : stOK y p) : WS y p ∧ ∀ q, p ≤ q → q < p + stL y p → eLet y q ≠ 59 := ws_of h.1 h.2
theorem st_end {y : Gd} {p : Nat} (h : stOK y p) : eLet y (p + stL y p) = 59 ∧ 3 ≤ stL y p := by
  rcases (st_ws h).1 with q | q | q
  · obtain ⟨e1, _⟩ := st_w (c := eLet y p) rfl q.1
    rw [e1]; exact ⟨q.2.2.2.2, by decide⟩
  · obtain ⟨e1, _⟩ := st_98 q.1
    rw [e1]; exact ⟨q.2.2.2.2.2, by decide⟩
  · obtain ⟨e1, _⟩ := st_105 q.1
    rw [e1]; exact ⟨q.2.2.2, by decide⟩
theorem st_lt {y : Gd} {p : Nat} (h : stOK y p) : p + stL y p < y 0 1 := let_lt (st_end h).1 (by decide)
theorem pl_beg {y : Gd} {k : Nat} (h : ∀ i, i < k → stOK y (pl y i)) : eBeg y (pl y k) = true := by
  unfold eBeg
  cases k with
  | zero => rfl
  | succ k =>
    have e := (st_end (h k (by omega))).1
    show (decide (pl y k + stL y (pl y k) + 1 = 0) || decide (eLet y (pl y k + stL y (pl y k)) = 59)) = true
    rw [decide_eq_true e, Bool.or_true]
theorem st_nb {y : Gd} {p i : Nat} (h : stOK y p) (hi : i < stL y p) : eBeg y (p + 1 + i) = false := by
  unfold eBeg
  have e := (st_ws h).2 (p + i) (by omega) (by omega)
  rw [show p + 1 + i - 1 = p + i by omega, decide_eq_false e, decide_eq_false (by omega)]; rfl
theorem tl_seg {y g : Gd} {p : Nat} (hb : eBeg y p = true) (h : stOK y p) : eTl y g (p + stL y p + 1) = (eTell y p (eTl y g p).1, (eTl y g p).2 + 1) := by
  have key : ∀ i, i ≤ stL y p → eTl y g (p + 1 + i) = eTl y g (p + 1) := by
    intro i
    induction i with
    | zero => intro _; rfl
    | succ i ih =>
      intro hi
      rw [← ih (by omega)]
      show (if eBeg y (p + 1 + i) = true then (eTell y (p + 1 + i) (eTl y g (p + 1 + i)).1, (eTl y g (p + 1 + i)).2 + 1) else eTl y g (p + 1 + i)) = eTl y g (p + 1 + i)
      rw [if_neg (by rw [st_nb h (by omega)]; decide)]
  rw [show p + stL y p + 1 = p + 1 + stL y p by omega, key _ (Nat.le_refl _)]
  show (if eBeg y p = true then (eTell y p (eTl y g p).1, (eTl y g p).2 + 1) else eTl y g p) = _
  rw [if_pos hb]
theorem unf_seg {y : Gd} {p f w b : Nat} (hb : eBeg y p = true) (h : stOK y p) : eUnf y (f + stL y p + 1) p w b = if eFit y p w b = true then eUnf y f (p + stL y p + 1) (if eLet y p = 119 then w + 1 else w) (if eLet y p = 98 then b + 1 else b) else some p := by
  have key : ∀ i, i ≤ stL y p → ∀ w b, eUnf y (f + i) (p + 1 + (stL y p - i)) w b = eUnf y f (p + stL y p + 1) w b := by
    intro i
    induction i with
    | zero => intro _ w b; rw [Nat.sub_zero, show p + 1 + stL y p = p + stL y p + 1 by omega]; rfl
    | succ i ih =>
      intro hi w b
      rw [← ih (by omega) w b]
      show (if eBeg y (p + 1 + (stL y p - (i + 1))) = true then (if eFit y (p + 1 + (stL y p - (i + 1))) w b = true then _ else _) else eUnf y (f + i) (p + 1 + (stL y p - (i + 1)) + 1) w b) = _
      rw [if_neg (by rw [st_nb h (by have := (st_end h).2; omega)]; decide), show p + 1 + (stL y p - (i + 1)) + 1 = p + 1 + (stL y p - i) by omega]
  show (if eBeg y p = true then (if eFit y p w b = true then eUnf y (f + stL y p) (p + 1) (if eLet y p = 119 then w + 1 else w) (if eLet y p = 98 then b + 1 else b) else some p) else eUnf y (f + stL y p) (p + 1) w b) = _
  rw [if_pos hb]
  have k2 := key (stL y p) (Nat.le_refl _) (if eLet y p = 119 then w + 1 else w) (if eLet y p = 98 then b + 1 else b)
  rw [Nat.sub_self, Nat.add_zero] at k2
  rw [k2]
def TR (y jj : Gd) (tt : Nat → Int32) (n : Nat) : Prop := jj 0 2 = n ∧ jj 0 1 = pl y n ∧ (∀ k, k < n → stOK y (pl y k) ∧ jj 2 k = eLet y (pl y k) ∧ jj 3 k = pl y k ∧ TD y (pl y k) tt (4 * k)) ∧ 4 * n ≤ pl y n ∧ pl y n ≤ y 0 1 ∧ ((n = 0 ∨ pl y n < y 0 1) → eMi y (81 - n) (pl y n) = eMi y 81 0) ∧ (¬ (n = 0 ∨ pl y n < y 0 1) → eMi y 81 0 = none)
theorem mi_s (y : Gd) (f p : Nat) : eMi y (f + 1) p = if stL y p = 0 then some p else match stF y p with
    | some q => some q
    | none => if p + stL y p + 1 < y 0 1 then eMi y f (p + stL y p + 1) else none := rfl
theorem TR.z {y j : Gd} {td : Nat → Int32} : TR y (gs (gs j 0 1 0) 0 2 0) td 0 :=
  ⟨rfl, rfl, fun k h => absurd h (Nat.not_lt_zero _), Nat.le_refl _, Nat.zero_le _, fun _ => rfl, fun h => absurd (Or.inl rfl) h⟩
theorem TD_same {y : Gd} {p q : Nat} {t t2 : Nat → Int32} (h : TD y p t q) (e : ∀ i, i < 4 → t2 (q + i) = t (q + i)) : TD y p t2 q := by
  have e0 : t2 q = t q := e 0 (by decide)
  unfold TD at h ⊢
  split
  · rename_i c
    rw [if_pos c] at h
    rw [e0, e 1 (by decide), e 2 (by decide), e 3 (by decide)]; exact h
  · rename_i c
    rw [if_neg c] at h
    split
    · rename_i c2
      rw [if_pos c2] at h
      rw [e0, e 1 (by decide)]; exact h
    · rename_i c2
      rw [if_neg c2] at h
      rw [e0, e 1 (by decide), e 2 (by decide)]; exact h
theorem TR.s {y jj j2 : Gd} {tt t2 : Nat → Int32} {n : Nat} (h80 : y 0 1 ≤ 80) (h : TR y jj tt n) (hc : n = 0 ∨ pl y n < y 0 1) (hs : SP y jj j2 tt t2 true) : TR y (gs j2 0 2 (j2 0 2 + 1)) t2 (n + 1) := by
  obtain ⟨a1, a2, a3, a4, a5, a6, a7⟩ := h
  obtain ⟨⟨s1, s2, s3, s4⟩, s5⟩ := hs
  rcases s5 with ⟨_, b1, b2, b3, b4, b5⟩ | ⟨q, _⟩
  · rw [a1] at s2 s3 s4 b3 b4 b5
    rw [a2] at b1 b2 b3 b4 b5
    have l1 := st_lt b1
    have l2 := (st_end b1).2
    have m1 := a6 hc
    rw [show 81 - n = (81 - (n + 1)) + 1 by omega, mi_s, if_neg b1.1, b1.2] at m1
    have m2 : (if pl y n + stL y (pl y n) + 1 < y 0 1 then eMi y (81 - (n + 1)) (pl y n + stL y (pl y n) + 1) else none) = eMi y 81 0 := m1
    refine ⟨?_, b2, fun k hk => ?_, ?_, ?_, fun hq => ?_, fun hq => ?_⟩
    · show j2 0 2 + 1 = n + 1
      omega
    · by_cases e : k = n
      · subst e
        exact ⟨b1, b3, b4, b5⟩
      · obtain ⟨c1, c2, c3, c4⟩ := a3 k (by omega)
        obtain ⟨d1, d2⟩ := s3 k (by omega)
        exact ⟨c1, d1.trans c2, d2.trans c3, TD_same c4 (fun i hi => s4 _ (by omega))⟩
    · show 4 * (n + 1) ≤ pl y n + stL y (pl y n) + 1
      omega
    · show pl y n + stL y (pl y n) + 1 ≤ y 0 1
      omega
    · have hq2 : pl y n + stL y (pl y n) + 1 < y 0 1 := hq.resolve_left (by omega)
      rw [if_pos hq2] at m2
      exact m2
    · have hq2 : ¬ pl y n + stL y (pl y n) + 1 < y 0 1 := fun z => hq (Or.inr z)
      rw [if_neg hq2] at m2
      exact m2.symm
  · cases q
theorem TR.bad {y jj j2 : Gd} {tt t2 : Nat → Int32} {n : Nat} (h80 : y 0 1 ≤ 80) (h : TR y jj tt n) (hc : n = 0 ∨ pl y n < y 0 1) (hs : SP y jj j2 tt t2 false) : eMi y 81 0 = some (j2 0 1) := by
  obtain ⟨a1, a2, a3, a4, a5, a6, a7⟩ := h
  obtain ⟨_, s5⟩ := hs
  rcases s5 with ⟨q, _⟩ | ⟨_, hb⟩
  · cases q
  · rw [a2] at hb
    have m1 := a6 hc
    rw [show 81 - n = (81 - (n + 1)) + 1 by omega, mi_s] at m1
    rcases hb with ⟨e1, e2⟩ | ⟨e1, e2⟩
    · rw [if_pos e1] at m1
      rw [← m1, e2]
    · rw [if_neg e1, e2] at m1
      exact m1.symm
theorem TR.fin {y jj : Gd} {tt : Nat → Int32} {n : Nat} (h : TR y jj tt n) (h1 : ¬ jj 0 1 < y 0 1) (h0 : ¬ jj 0 2 = 0) : eMi y 81 0 = none ∧ pl y n = y 0 1 := by
  obtain ⟨a1, a2, a3, a4, a5, a6, a7⟩ := h
  rw [a2] at h1; rw [a1] at h0
  exact ⟨a7 (by omega), by omega⟩
/-- what is told so far fits -/
def PH (y g : Gd) (k : Nat) : Prop := eUnf y (y 0 1 - pl y k) (pl y k) ((eTl y g (pl y k)).1 9 0) ((eTl y g (pl y k)).1 9 1) = eUnf y (y 0 1) 0 (g 9 0) (g 9 1) ∧ (eTl y g (pl y k)).2 = k ∧ Inv (eTl y g (pl y k)).1
theorem PH.z {y g : Gd} (hI : Inv g) : PH y g 0 := ⟨rfl, rfl, hI⟩
theorem PH.unf {y g : Gd} {n k : Nat} (hs : ∀ i, i < n → stOK y (pl y i)) (hk : k < n) (h : PH y g k) : eUnf y (y 0 1) 0 (g 9 0) (g 9 1) = if eFit y (pl y k) ((eTl y g (pl y k)).1 9 0) ((eTl y g (pl y k)).1 9 1) = true then eUnf y (y 0 1 - pl y (k + 1)) (pl y (k + 1)) ((eTl y g (pl y (k + 1))).1 9 0) ((eTl y g (pl y (k + 1))).1 9 1) else some (pl y k) := by
  have hb := pl_beg (y := y) (k := k) (fun i hi => hs i (by omega))
  have hl := st_lt (hs k hk)
  have e : (eTl y g (pl y (k + 1))).1 = eTell y (pl y k) (eTl y g (pl y k)).1 := congrArg (·.1) (tl_seg hb (hs k hk))
  rw [← h.1, show y 0 1 - pl y k = (y 0 1 - pl y (k + 1)) + stL y (pl y k) + 1 by show _ = (y 0 1 - (pl y k + stL y (pl y k) + 1)) + _ + 1; omega, unf_seg hb (hs k hk), e, eTell_w, eTell_b]
  rfl
theorem PH.s {y g : Gd} {n k : Nat} (hs : ∀ i, i < n → stOK y (pl y i)) (hk : k < n) (h : PH y g k) (hf : eFit y (pl y k) ((eTl y g (pl y k)).1 9 0) ((eTl y g (pl y k)).1 9 1) = true) : PH y g (k + 1) := by
  have hu := h.unf hs hk
  rw [if_pos hf] at hu
  have hb := pl_beg (y := y) (k := k) (fun i hi => hs i (by omega))
  have e : eTl y g (pl y (k + 1)) = (eTell y (pl y k) (eTl y g (pl y k)).1, (eTl y g (pl y k)).2 + 1) := tl_seg hb (hs k hk)
  refine ⟨hu.symm, by rw [e]; exact congrArg (· + 1) h.2.1, ?_⟩
  rw [e]
  exact h.2.2.oTell (st_ws (hs k hk)).1 hf
theorem PH.tl {y g : Gd} {n k : Nat} (hs : ∀ i, i < n → stOK y (pl y i)) (hk : k < n) : (eTl y g (pl y (k + 1))).1 = eTell y (pl y k) (eTl y g (pl y k)).1 := by
  have hb := pl_beg (y := y) (k := k) (fun i hi => hs i (by omega))
  have e : eTl y g (pl y (k + 1)) = (eTell y (pl y k) (eTl y g (pl y k)).1, (eTl y g (pl y k)).2 + 1) := tl_seg hb (hs k hk)
  rw [e]
theorem IH.sf {j j2 gi : Gd} {td t2 : Nat → Int32} (h : IH j gi) (hs : SF j j2 td t2) : IH j2 gi := fun k hk => (hs.1 k).trans (h k hk)
theorem IH.at0 {j gi : Gd} {i v : Nat} (h : IH j gi) : IH (gs j 0 i v) gi := fun k hk => h k hk
theorem eM_pos {c : Nat} (h : ¬ eM (kixO c) < 0) : (kixO c).isSome = true := by
  cases hq : (kixO c).isSome
  · exact absurd (eM_neg.mpr hq) h
  · rfl
theorem k_next {c n : Nat} (h : ¬ c < n) (h2 : ¬ c = n) : ¬ c < n + 1 := by omega
theorem eWr_or {g : Gd} {w f k : Nat} : eWr g w f (k + 1) = gs (eWr g w f k) 8 (f + k) (eWr g w f k 8 (f + k) ||| (1 <<< w)) := by
  show eWset (eWr g w f k) w (f + k) 1 = _
  unfold eWset
  rw [if_neg (by decide), or_ldf]
theorem ws_let {y : Gd} {p : Nat} (h : WS y p) : eLet y p = 119 ∨ eLet y p = 114 ∨ eLet y p = 98 ∨ eLet y p = 105 := by
  rcases h with h | h | h <;> omega
theorem TD_b {y : Gd} {p q : Nat} {t : Nat → Int32} (h : TD y p t q) (c : eLet y p = 98) : t q = nI ((kixO (eLet y (p + 1))).getD 0) ∧ t (q + 1) = nI (eDg y (p + 2)) ∧ t (q + 2) = nI (eDg y (p + 3)) ∧ t (q + 3) = nI (eDg y (p + 4)) := by
  unfold TD at h; rw [if_pos c] at h; exact h
theorem TD_i {y : Gd} {p q : Nat} {t : Nat → Int32} (h : TD y p t q) (c : eLet y p = 105) : t q = nI (eDg y (p + 1)) ∧ t (q + 1) = nI (eDg y (p + 2)) := by
  unfold TD at h; rw [if_neg (by omega), if_pos c] at h; exact h
theorem TD_w {y : Gd} {p q : Nat} {t : Nat → Int32} (h : TD y p t q) (c : eLet y p = 119 ∨ eLet y p = 114) : t q = nI (eDg y (p + 1)) ∧ t (q + 1) = nI (eDg y (p + 2)) ∧ t (q + 2) = nI (eDg y (p + 3)) := by
  unfold TD at h; rw [if_neg (by omega), if_neg (by omega)] at h; exact h
theorem eFit_w {y : Gd} {p w b : Nat} (c : eLet y p = 119) : eFit y p w b = (decide (w < 10) && decide (eDg y (p + 2) < 3)) := by
  unfold eFit; rw [if_pos c]
theorem eFit_b {y : Gd} {p w b : Nat} (c : eLet y p = 98) : eFit y p w b = (decide (b < 4) && (decide (eDg y (p + 3) ≤ eDg y (p + 4)) && decide (eDg y (p + 4) < 8))) := by
  unfold eFit; rw [if_neg (by omega), if_pos c]
theorem eFit_i {y : Gd} {p w b : Nat} (c : eLet y p = 105) : eFit y p w b = decide (eDg y (p + 1) < 3) := by
  unfold eFit; rw [if_neg (by omega), if_neg (by omega), if_pos c]
theorem eFit_r {y : Gd} {p w b : Nat} (c : eLet y p = 114) : eFit y p w b = (decide (eDg y (p + 1) < w) && (decide (eDg y (p + 2) ≤ eDg y (p + 3)) && decide (eDg y (p + 3) < 8))) := by
  unfold eFit; rw [if_neg (by omega), if_neg (by omega), if_neg (by omega)]
theorem eTe_w {g y : Gd} {p : Nat} (c : eLet y p = 119) : eTell y p g = eAddW g (eDg y (p + 1)) (eDg y (p + 2)) (eDg y (p + 3)) := by
  unfold eTell; rw [if_pos c]
theorem eTe_b {g y : Gd} {p : Nat} (c : eLet y p = 98) : eTell y p g = eAddB g ((kixO (eLet y (p + 1))).getD 0) (eDg y (p + 2)) (eDg y (p + 3)) (eDg y (p + 4)) := by
  unfold eTell; rw [if_neg (by omega), if_pos c]
theorem eTe_i {g y : Gd} {p : Nat} (c : eLet y p = 105) : eTell y p g = gs g 7 (eDg y (p + 1)) (eDg y (p + 2)) := by
  unfold eTell; rw [if_neg (by omega), if_neg (by omega), if_pos c]
theorem eTe_r {g y : Gd} {p : Nat} (c : eLet y p = 114) : eTell y p g = eWr g (eDg y (p + 1)) (eDg y (p + 2)) (eDg y (p + 3) + 1 - eDg y (p + 2)) := by
  unfold eTell; rw [if_neg (by omega), if_neg (by omega), if_neg (by omega)]
