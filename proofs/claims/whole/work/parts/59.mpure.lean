/-! PURE: of the calls -/
theorem eEat_le {g : Gd} (hI : Inv g) (b : Nat) : eLeftN (eEat g b) ≤ eLeftN g := by have := eEat_left hI b; omega
theorem eEats_le {g : Gd} (hI : Inv g) (b n : Nat) : eLeftN (eEats g b n) ≤ eLeftN g := by
  induction n with
  | zero => exact Nat.le_refl _
  | succ n ih => exact Nat.le_trans (eEat_le (hI.oEats b n) b) ih
theorem eBirds_le {g : Gd} (hI : Inv g) (n : Nat) : eLeftN (eBirds g n) ≤ eLeftN g := by
  induction n with
  | zero => exact Nat.le_refl _
  | succ n ih => exact Nat.le_trans (eEats_le (hI.oBirds n) n _) ih
theorem eHr_le {g : Gd} (hI : Inv g) : eLeftN (eHr g) ≤ eLeftN g := by
  unfold eHr
  split
  · exact Nat.le_refl _
  · exact eBirds_le hI (g 9 1)
theorem eHrs_dusk {g : Gd} {k n : Nat} (h : k ≤ n) (h8 : 8 ≤ eHrs g k 9 3) : eHrs g k = eHrs g n := by
  induction n with
  | zero => rw [show k = 0 by omega]
  | succ n ih =>
    rcases Nat.lt_or_ge n k with h1 | h1
    · rw [show k = n + 1 by omega]
    · show _ = eHr (eHrs g n)
      rw [← ih h1, eHr_dusk h8]
theorem mGoes_le (w n : Nat) : ∀ g : Gd, g 9 3 ≤ 8 → eGoes g w n ≤ 8 := by
  induction n with
  | zero => intro g _; exact Nat.le_refl _
  | succ n ih =>
    intro g hI
    show (if _ then _ else _) ≤ 8
    split
    · exact hI
    · refine ih _ ?_
      unfold eHr
      split
      · exact hI
      · show g 9 3 + 1 ≤ 8; omega
theorem mGi_le {g : Gd} (hI : Inv g) (w : Nat) : mGi g w ≤ 9 := by
  unfold mGi
  split
  · exact Nat.le_refl _
  · exact Nat.le_succ_of_le (mGoes_le w _ g hI.hour)
theorem mMe_dk {g : Gd} (hI : Inv g) : mMe g (eLeft (eDk g)) (g 9 0) = eMean (eDk g) (g 9 0) :=
  mMe_eq (fun i => eDk_f (by omega) (by omega)) (hI.oHrs _) _ (Nat.le_of_eq (eDk_f (by omega) (by omega)).symm)
theorem mMe_now {g : Gd} (hI : Inv g) : mMe g (eLeft g) (g 9 0) = eMean g (g 9 0) := mMe_eq (fun i => rfl) hI _ (Nat.le_refl _)
