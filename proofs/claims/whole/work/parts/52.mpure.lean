/-! PURE: the model's own way of an hour -/
def mOk (g : Gd) (b w : Nat) : Bool := eMay g w (g 4 b) && eRch g (g 3 b) w
theorem mS_no {g : Gd} {b n : Nat} (h : mOk g b n = false) : eCh g (g 3 b) (g 4 b) (n + 1) = eCh g (g 3 b) (g 4 b) n := by
  show eStep _ _ _ _ _ = _
  unfold eStep; unfold mOk at h; rw [h]; rfl
theorem mS_new {g : Gd} {b n : Nat} (h : mOk g b n = true) (hc : eCh g (g 3 b) (g 4 b) n = none) : eCh g (g 3 b) (g 4 b) (n + 1) = some n := by
  show eStep _ _ _ _ _ = _
  unfold eStep; unfold mOk at h; rw [h, hc]; rfl
theorem mS_prf {g : Gd} {b n c : Nat} (h : mOk g b n = true) (hc : eCh g (g 3 b) (g 4 b) n = some c) (hp : ePrf g (g 3 b) n c = true) : eCh g (g 3 b) (g 4 b) (n + 1) = some n := by
  show eStep _ _ _ _ _ = _
  unfold eStep; unfold mOk at h; rw [h, hc]; simp [hp]
theorem mS_not {g : Gd} {b n c : Nat} (h : mOk g b n = true) (hc : eCh g (g 3 b) (g 4 b) n = some c) (hp : ePrf g (g 3 b) n c = false) : eCh g (g 3 b) (g 4 b) (n + 1) = some c := by
  show eStep _ _ _ _ _ = _
  unfold eStep; unfold mOk at h; rw [h, hc]; simp [hp]
theorem eCh_may (g : Gd) (k t n : Nat) : ∀ w, eCh g k t n = some w → eMay g w t = true := by
  induction n with
  | zero => intro w h; cases h
  | succ n ih =>
    intro w h
    have h' : eStep g k t n (eCh g k t n) = some w := h
    unfold eStep at h'
    split at h'
    · rename_i hm
      have hm1 : eMay g n t = true := by
        cases h1 : eMay g n t
        · rw [h1, Bool.false_and] at hm; exact absurd hm (by decide)
        · rfl
      cases hc : eCh g k t n with
      | none => rw [hc] at h'; cases h'; exact hm1
      | some c0 =>
        rw [hc] at h'
        dsimp only at h'
        split at h'
        · cases h'; exact hm1
        · cases h'; exact ih _ hc
    · exact ih w h'
theorem sh_bit (y i : Nat) : (y >>> i) &&& 1 = (y.testBit i).toNat := by
  rw [Nat.toNat_testBit, Nat.and_one_is_mod, Nat.shiftRight_eq_div_pow]
theorem eCnt_one {y z w : Nat} (hb : ∀ i, i ≠ w → y.testBit i = z.testBit i) (hy : y.testBit w = true) (hz : z.testBit w = false) (k : Nat) : eCnt z k + (if w < k then 1 else 0) = eCnt y k := by
  induction k with
  | zero => rfl
  | succ k ih =>
    show eCnt z k + ((z >>> k) &&& 1) + _ = eCnt y k + ((y >>> k) &&& 1)
    rw [sh_bit, sh_bit, ← ih]
    by_cases h : k = w
    · subst h
      rw [hy, hz, if_neg (Nat.lt_irrefl _), if_pos (Nat.lt_succ_self _)]; rfl
    · rw [hb k h]
      by_cases h2 : w < k
      · rw [if_pos h2, if_pos (Nat.lt_succ_of_lt h2)]; omega
      · rw [if_neg h2, if_neg (by omega)]; omega
theorem one_bit (w i : Nat) : (1 <<< w).testBit i = decide (i = w) := by
  rw [Nat.shiftLeft_eq, Nat.one_mul, Nat.testBit_two_pow]
  by_cases h : w = i
  · rw [decide_eq_true h, decide_eq_true h.symm]
  · rw [decide_eq_false h, decide_eq_false (fun z => h z.symm)]
theorem eGone_bit (g : Gd) (w : Nat) : eGone g w = (g 9 2).testBit w := by
  unfold eGone; rw [sh_bit]
  cases (g 9 2).testBit w <;> rfl
theorem eLeft_one {g : Gd} (hI : Inv g) {w : Nat} (hw : w < g 9 0) (hg : eGone g w = false) : eBits (ldf (eAll g) (g 9 2 ||| (1 <<< w))) + 1 = eBits (ldf (eAll g) (g 9 2)) := by
  have hA : (eAll g).testBit w = true := by rw [hI.allW, Nat.testBit_two_pow_sub_one]; exact decide_eq_true hw
  have hG : (g 9 2).testBit w = false := by rw [← eGone_bit]; exact hg
  have h := eCnt_one (y := ldf (eAll g) (g 9 2)) (z := ldf (eAll g) (g 9 2 ||| (1 <<< w))) (w := w) (fun i hi => by
      rw [ldf_bit, ldf_bit, Nat.testBit_or, one_bit, decide_eq_false hi, Bool.or_false]) (by rw [ldf_bit, hA, hG]; rfl) (by rw [ldf_bit, Nat.testBit_or, one_bit, decide_eq_true rfl, Bool.or_true]; simp) 10
  rw [if_pos (by have := hI.words; omega)] at h
  exact h
def eEn (g : Gd) (b : Nat) : Nat := match eCho g (g 3 b) (g 4 b) with
  | none => 0
  | some _ => 1
theorem eEn_le (g : Gd) (b : Nat) : eEn g b ≤ 1 := by unfold eEn; split <;> omega
theorem may_gone {g : Gd} {w t : Nat} (h : eMay g w t = true) : eGone g w = false := by
  unfold eMay at h
  cases hg : eGone g w
  · rfl
  · rw [hg] at h; simp at h
theorem eEat_left {g : Gd} (hI : Inv g) (b : Nat) : eLeftN (eEat g b) + eEn g b = eLeftN g := by
  unfold eEat eEn
  cases hc : eCho g (g 3 b) (g 4 b) with
  | none => rfl
  | some w => exact eLeft_one hI (eCh_lt _ _ _ _ w hc) (may_gone (eCh_may _ _ _ _ w hc))
theorem eMeals_b {g g' : Gd} {b : Nat} (h : ∀ f i, ¬ (f = 9 ∧ i = 2) → g' f i = g f i) : eMeals g' b = eMeals g b := by
  unfold eMeals; rw [h 5 b (by omega), h 6 b (by omega), h 3 b (by omega), h 9 3 (by omega)]
theorem eIn_n {h f t : Nat} (hh : h < 1000) (hf : f < 1000) (ht : t < 1000) : eIn (nI h) (nI f) (nI t) = decide (f ≤ h ∧ h ≤ t) := by
  unfold eIn
  by_cases h1 : f ≤ h
  · rw [decide_eq_true (nI_le h1 (by omega)), Bool.true_and]
    by_cases h2 : h ≤ t
    · rw [decide_eq_true (nI_le h2 (by omega)), decide_eq_true ⟨h1, h2⟩]
    · rw [decide_eq_false (fun z => h2 ((nI_leI (by omega) (by omega)).mp z)), decide_eq_false (fun z => h2 z.2)]
  · rw [decide_eq_false (fun z => h1 ((nI_leI (by omega) (by omega)).mp z)), Bool.false_and, decide_eq_false (fun z => h1 z.1)]
theorem eMn_lt {g : Gd} (h : Inv g) {x : Nat} (k : Nat) : eMean g k < 1024 := eMean_lt h k
/-- the garden with hour and gone put back -/
theorem dk_back {g g' : Gd} (h : ∀ f i, ¬ (f = 9 ∧ i = 2) → ¬ (f = 9 ∧ i = 3) → g' f i = g f i) : gs (gs g' 9 3 (g 9 3)) 9 2 (g 9 2) = g := by
  funext f i
  unfold gs
  by_cases h2 : f = 9 ∧ i = 2
  · rw [if_pos h2]; rw [h2.1, h2.2]
  · rw [if_neg h2]
    by_cases h3 : f = 9 ∧ i = 3
    · rw [if_pos h3]; rw [h3.1, h3.2]
    · rw [if_neg h3]; exact h f i h2 h3
theorem mOk_t {g : Gd} {b w : Nat} (h8 : g 9 3 < 8) (c5 : eGone g w = false) (c22 : ¬ ((g 8 (g 9 3) >>> w) &&& 1 = 1)) (c36 : g 4 b ≤ eStr g w) : mOk g b w = eRch g (g 3 b) w := by
  unfold mOk eMay eWat
  rw [c5, decide_eq_true h8, decide_eq_false c22, decide_eq_true c36]; rfl
/-! a word's hour, in the model's words -/
def mGo (g : Gd) (w d : Nat) : Prop := (eGone (eHrs g d) w = false ∧ eGoes (eHrs g d) w (8 - (g 9 3 + d)) = eGoes g w (8 - g 9 3)) ∨ (eGone (eHrs g d) w = true ∧ 1 ≤ d ∧ eGoes g w (8 - g 9 3) = g 9 3 + d - 1)
theorem mGo_0 {g : Gd} {w : Nat} (hg : eGone g w = false) : mGo g w (g 9 3 - g 9 3) := by
  rw [Nat.sub_self]; exact Or.inl ⟨hg, rfl⟩
theorem mGo_s {g : Gd} {w d : Nat} (h : mGo g w d) (hd : g 9 3 + d < 8) (hn : eGone (eHrs g d) w = false) : mGo g w (d + 1) := by
  rcases h with ⟨_, e⟩ | ⟨e, _⟩
  · rw [show 8 - (g 9 3 + d) = (8 - (g 9 3 + (d + 1))) + 1 by omega] at e
    change (if eGone (eHr (eHrs g d)) w then (eHrs g d) 9 3 else eGoes (eHr (eHrs g d)) w (8 - (g 9 3 + (d + 1)))) = _ at e
    cases hq : eGone (eHr (eHrs g d)) w
    · rw [hq, if_neg (by decide)] at e
      exact Or.inl ⟨hq, e⟩
    · rw [hq, if_pos rfl, eHrs_hour d (by omega)] at e
      exact Or.inr ⟨hq, by omega, by rw [← e]; omega⟩
  · rw [hn] at e; cases e
theorem mGo_n {g : Gd} {w d : Nat} (h : mGo g w d) (hn : eGone (eHrs g d) w = false) (hd : g 9 3 + d = 8) : eGoes g w (8 - g 9 3) = 8 := by
  rcases h with ⟨_, e⟩ | ⟨e, _⟩
  · rw [hd] at e; exact e.symm
  · rw [hn] at e; cases e
theorem mGo_g {g : Gd} {w d : Nat} (h : mGo g w d) (hn : eGone (eHrs g d) w = true) : 1 ≤ d ∧ eGoes g w (8 - g 9 3) = g 9 3 + d - 1 := by
  rcases h with ⟨e, _⟩ | ⟨_, e⟩
  · rw [hn] at e; cases e
  · exact e
def mGi (g : Gd) (w : Nat) : Nat := if eGone g w then 9 else eGoes g w (8 - g 9 3)
def mMe (g : Gd) (s : Nat) : Nat → Nat
  | 0 => 0
  | n + 1 => mMe g s n ||| (((s >>> n) &&& 1) <<< g 2 n)
theorem and1' (x : Nat) : x &&& 1 ≤ 1 := Nat.and_le_right
theorem mMe_sh {g : Gd} (hI : Inv g) (s n : Nat) : ((s >>> n) &&& 1) <<< g 2 n < 1024 := by
  rw [Nat.shiftLeft_eq]
  have h1 := hI.mean n
  have h2 : 2 ^ g 2 n ≤ 2 ^ 9 := Nat.pow_le_pow_right (by decide) h1
  have h3 : ((s >>> n) &&& 1) * 2 ^ g 2 n ≤ 1 * 2 ^ 9 := Nat.mul_le_mul (and1' _) h2
  exact Nat.lt_of_le_of_lt h3 (by decide)
theorem mMe_lt {g : Gd} (hI : Inv g) (s n : Nat) : mMe g s n < 1024 := by
  induction n with
  | zero => show 0 < 1024; decide
  | succ n ih => exact Nat.or_lt_two_pow (n := 10) ih (mMe_sh hI s n)
theorem mMe_eq {g g' : Gd} (h2 : ∀ i, g' 2 i = g 2 i) (hI : Inv g') (n : Nat) (hn : n ≤ g' 9 0) : mMe g (eLeft g') n = eMean g' n := by
  induction n with
  | zero => rfl
  | succ n ih =>
    show mMe g (eLeft g') n ||| _ = (if eGone g' n then _ else _)
    rw [ih (by omega), sh_bit]
    have hb : (eLeft g').testBit n = !eGone g' n := by
      unfold eLeft
      rw [ldf_bit, hI.allW, Nat.testBit_two_pow_sub_one, decide_eq_true (show n < g' 9 0 by omega), Bool.true_and, eGone_bit]
    rw [hb, ← h2 n]
    cases eGone g' n
    · rfl
    · show eMean g' n ||| (0 <<< _) = eMean g' n
      rw [Nat.zero_shiftLeft, Nat.or_zero]
theorem eDk_f {g : Gd} {f i : Nat} (h : ¬ (f = 9 ∧ i = 2)) (h2 : ¬ (f = 9 ∧ i = 3)) : eDk g f i = g f i := eHrs_f h h2
