/-! PURE: of the calls -/
theorem eEat_le {g : Gd} (hI : Inv g) (b : Nat) : eLeftN (eEat g b) ≤ eLeftN g := by have := eEat_left hI b; omega
theorem eEats_le {g : Gd} (hI : Inv g) (b n : Nat) : eLeftN (eEats g b n) ≤ eLeftN g := by
  induction n with
  | zero => exact Nat.le_refl _
  | succ n ih => exact Nat.le_trans (eEat_le (hI.oEats b n) b) ih
theorem eBirds_le {g : Gd} (hI : Inv g) (n : Nat) : eLeftN (eBirds g n) ≤ eLeftN g := by
  induction n with
  | zero => exact Nat.le_refl _
  | succ n ih => exact Nat.le_trans (eEats_le (hI.oBirds n) n _) ih
theorem eHr_le {g : Gd} (hI : Inv g) : eLeftN (eHr g) ≤ eLeftN g := by
  unfold eHr
  split
  · exact Nat.le_refl _
  · exact eBirds_le hI (g 9 1)
theorem eHrs_dusk {g : Gd} {k n : Nat} (h : k ≤ n) (h8 : 8 ≤ eHrs g k 9 3) : eHrs g k = eHrs g n := by
  induction n with
  | zero => rw [show k = 0 by omega]
  | succ n ih =>
    rcases Nat.lt_or_ge n k with h1 | h1
    · rw [show k = n + 1 by omega]
    · show _ = eHr (eHrs g n)
      rw [← ih h1, eHr_dusk h8]
theorem mGoes_le (w n : Nat) : ∀ g : Gd, g 9 3 ≤ 8 → eGoes g w n ≤ 8 := by
  induction n with
  | zero => intro g _; exact Nat.le_refl _
  | succ n ih =>
    intro g hI
    show (if _ then _ else _) ≤ 8
    split
    · exact hI
    · refine ih _ ?_
      unfold eHr
      split
      · exact hI
      · show g 9 3 + 1 ≤ 8; omega
theorem mGi_le {g : Gd} (hI : Inv g) (w : Nat) : mGi g w ≤ 9 := by
  unfold mGi
  split
  · exact Nat.le_refl _
  · exact Nat.le_succ_of_le (mGoes_le w _ g hI.hour)
theorem mMe_dk {g : Gd} (hI : Inv g) : mMe g (eLeft (eDk g)) (g 9 0) = eMean (eDk g) (g 9 0) :=
  mMe_eq (fun i => eDk_f (by omega) (by omega)) (hI.oHrs _) _ (Nat.le_of_eq (eDk_f (by omega) (by omega)).symm)
theorem mMe_now {g : Gd} (hI : Inv g) : mMe g (eLeft g) (g 9 0) = eMean g (g 9 0) := mMe_eq (fun i => rfl) hI _ (Nat.le_refl _)
theorem gs_gs (g : Gd) (f i a b : Nat) : gs (gs g f i a) f i b = gs g f i b := by
  funext f' k
  show (if f' = f ∧ k = i then b else if f' = f ∧ k = i then a else g f' k) = if f' = f ∧ k = i then b else g f' k
  by_cases h : f' = f ∧ k = i
  · rw [if_pos h, if_pos h]
  · rw [if_neg h, if_neg h, if_neg h]
theorem eIn_t {x : Int32} {a b : Nat} (ha : a < 2 ^ 31) (hb : b < 2 ^ 31) (h : eIn x (nI a) (nI b) = true) : ∃ n, a ≤ n ∧ n ≤ b ∧ x = nI n := by
  unfold eIn at h
  rw [Bool.and_eq_true, decide_eq_true_eq, decide_eq_true_eq] at h
  have h0 : ¬ x < 0 := fun z => absurd (Int32.lt_of_le_of_lt h.1 z) (Int32.not_lt.mpr (nI_pos' ha))
  obtain ⟨n, hn, rfl⟩ := nI_of h0
  exact ⟨n, (nI_leI ha hn).mp h.1, (nI_leI hn hb).mp h.2, rfl⟩
theorem eIn_f {x : Int32} {a b : Nat} (h : eIn x (nI a) (nI b) = false) : ¬ (nI a ≤ x ∧ x ≤ nI b) := by
  unfold eIn at h
  intro z
  rw [decide_eq_true z.1, decide_eq_true z.2] at h
  cases h
theorem or_ldf (x b : Nat) : ldf x b ||| b = x ||| b := by
  apply Nat.eq_of_testBit_eq; intro i
  rw [Nat.testBit_or, Nat.testBit_or, ldf_bit]
  cases x.testBit i <;> cases b.testBit i <;> rfl
theorem gt_nlt {x : Int32} {k : Nat} (hk : k < 1000) (h : nI k < x) : ¬ x < nI (k + 1) := by
  rw [Int32.lt_iff_toInt_lt, nI_toInt (by omega)] at h ⊢
  omega
theorem sp_watch_v {g y : Gd} {j k n : Nat} (hj : j < g 9 0) (h10 : g 9 0 ≤ 10) (c5 : eHas (nI j) (g 9 0) = true) (hk : k ≤ 7) (hn : n ≤ 1) : sp_watch g y (nI j) (nI k) (nI n) = (nI ((g 8 k >>> j) &&& 1), gs g 8 k (ldf (g 8 k) (1 <<< j) ||| (n <<< j)), y) := by
  unfold sp_watch
  rw [if_neg (by rw [c5]; decide), if_neg (Int32.not_lt.mpr (nI_pos' (by omega))), if_pos (nI_lt (by omega) (by decide)), nI_clamp (by omega), nI_clamp (by omega)]
  unfold eWat eWset
  rw [decide_eq_true (show k < 8 by omega), Bool.true_and]
  rcases (show n = 0 ∨ n = 1 by omega) with rfl | rfl
  · rw [if_pos nI_0, if_pos rfl, Nat.zero_shiftLeft, Nat.or_zero]
    exact congrArg (fun q => (q, _, _)) (show bI (decide _) = _ by
      have h := Nat.and_le_right (n := g 8 k >>> j) (m := 1)
      by_cases h1 : (g 8 k >>> j) &&& 1 = 1
      · rw [decide_eq_true h1, h1]; rfl
      · rw [decide_eq_false h1, show (g 8 k >>> j) &&& 1 = 0 by omega]; rfl)
  · rw [if_neg (by decide), if_pos rfl, if_neg (by decide)]
    exact congrArg (fun q => (q, _, _)) (show bI (decide _) = _ by
      have h := Nat.and_le_right (n := g 8 k >>> j) (m := 1)
      by_cases h1 : (g 8 k >>> j) &&& 1 = 1
      · rw [decide_eq_true h1, h1]; rfl
      · rw [decide_eq_false h1, show (g 8 k >>> j) &&& 1 = 0 by omega]; rfl)
theorem vC_hi {g y : Gd} {x : Int32} (t1 : ¬ x < 0) (t2 : ¬ x < nI 7) (c8 : eIn x (nI 11) (nI 16) = false) : vCount g y x.toNatClampNeg = -9 := by
  obtain ⟨n, hn, rfl⟩ := nI_of t1
  rw [nI_clamp hn]
  have h7 : ¬ n < 7 := fun z => t2 (nI_lt z (by decide))
  have h16 : ¬ (11 ≤ n ∧ n ≤ 16) := fun z => eIn_f c8 ⟨nI_le z.1 hn, nI_le z.2 (by decide)⟩
  unfold vCount
  rw [if_neg (by omega), if_neg (by omega), if_neg (by omega), if_neg (by omega), if_neg (by omega), if_neg (by omega), if_neg (by omega), if_neg h16]
theorem vC_r {g y : Gd} {n : Nat} (h1 : 11 ≤ n) (h2 : n ≤ 16) : sp_count g y (nI n) = oks g y (nI (rfz y (n - 10))) := by
  unfold sp_count
  rw [if_neg (Int32.not_lt.mpr (nI_pos' (by omega))), nI_clamp (by omega)]
  unfold vCount
  rw [if_neg (by omega), if_neg (by omega), if_neg (by omega), if_neg (by omega), if_neg (by omega), if_neg (by omega), if_neg (by omega), if_pos ⟨h1, h2⟩, rfz_k (by omega)]
  exact congrArg (fun q => oks g y (nI (y 3 q))) (by omega)
theorem sp_holds_f {g y : Gd} {x : Int32} (h : eIn x (nI 1) (nI 1023) = false) : sp_holds g y x = rfs g y 1 := by
  have h := eIn_f h
  unfold sp_holds
  by_cases h1 : x ≤ 0
  · rw [if_pos h1]
  · rw [if_neg h1]
    by_cases h2 : x < nI 1024
    · exfalso
      rw [Int32.le_iff_toInt_le] at h1
      rw [Int32.lt_iff_toInt_lt, nI_toInt (by decide)] at h2
      apply h
      rw [Int32.le_iff_toInt_le, Int32.le_iff_toInt_le, nI_toInt (by decide), nI_toInt (by decide)]
      have h3 : (0 : Int32).toInt = 0 := by decide
      omega
    · rw [if_neg h2]
theorem sp_holds_t {g y : Gd} {n : Nat} (h1 : 1 ≤ n) (h2 : n ≤ 1023) : sp_holds g y (nI n) = oks g y (if eFew g n 10 = 0 then -9 else nI (eFew g n 10 - 1)) := by
  unfold sp_holds
  rw [if_neg (fun q => by
    rw [Int32.le_iff_toInt_le, nI_toInt (by omega)] at q
    have h3 : (0 : Int32).toInt = 0 := by decide
    omega), if_pos (nI_lt (by omega) (by decide)), nI_clamp (by omega)]
