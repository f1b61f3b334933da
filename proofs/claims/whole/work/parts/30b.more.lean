theorem nI_m1 {a : Nat} (h : 1 ≤ a) : nI a - nI 1 = nI (a - 1) := pk_sub h
/-- how many, and one more: 0 for what comes ahead of all -/
def eG1 (m : Nat) : Int32 := nI m - 1
theorem eG1_lt {v m : Nat} (hv : v < 1000) (hm : m < 1000) : nI v ≤ eG1 m ↔ v + 1 ≤ m := by
  unfold eG1
  rw [Int32.le_iff_toInt_le, show (1 : Int32) = nI 1 from rfl, pk_sub_toInt (by omega) (by omega), nI_toInt (by omega)]
  omega
theorem eG1_s (v : Nat) : eG1 (v + 1) = nI v := by unfold eG1; rw [show (1 : Int32) = nI 1 from rfl, pk_sub (by omega)]; rfl
theorem eG1_0 : eG1 0 = -1 := by decide
theorem eLeftN_le (g : Gd) : eLeftN g ≤ 10 := eBits_le _
theorem eFew_le (g : Gd) (X n : Nat) : eFew g X n ≤ 10 := by
  induction n with
  | zero => exact Nat.le_refl _
  | succ n ih =>
    show (if _ then _ else _) ≤ 10
    split
    · exact Nat.le_trans (Nat.min_le_left _ _) ih
    · exact ih
theorem Inv.oWat {g : Gd} (h : Inv g) {i v : Nat} (hv : v < 2 ^ g 9 0) : Inv (gs g 8 i v) := by
  obtain ⟨h0, h1, h2, h3, h4, h5, h6, h7, h8, h9, h10, h11, h12⟩ := h
  refine ⟨h0, h1, h2, h3, h4, h5, h6, h7, h8, h9, h10, h11, fun j => ?_⟩
  show gs g 8 i v 8 j < 2 ^ g 9 0
  unfold gs
  split
  · exact hv
  · exact h12 j
theorem gs_le {g : Gd} {f i v N : Nat} (h : ∀ j, g f j ≤ N) (hv : v ≤ N) (j : Nat) : gs g f i v f j ≤ N := by
  unfold gs; split
  · exact hv
  · exact h j
theorem Inv.oFrom {g : Gd} (h : Inv g) {i v : Nat} (hv : v ≤ 8) : Inv (gs g 5 i v) := by
  obtain ⟨h0, h1, h2, h3, h4, h5, h6, h7, h8, h9, h10, h11, h12⟩ := h
  exact ⟨h0, h1, h2, h3, h4, h5, h6, h7, h8, gs_le h9 hv, h10, h11, h12⟩
theorem Inv.oInk {g : Gd} (h : Inv g) {i v : Nat} (hv : v ≤ 2) : Inv (gs g 1 i v) := by
  obtain ⟨h0, h1, h2, h3, h4, h5, h6, h7, h8, h9, h10, h11, h12⟩ := h
  exact ⟨h0, h1, h2, h3, h4, gs_le h5 hv, h6, h7, h8, h9, h10, h11, h12⟩
theorem Inv.oTaste {g : Gd} (h : Inv g) {i v : Nat} (hv : v ≤ 99) : Inv (gs g 4 i v) := by
  obtain ⟨h0, h1, h2, h3, h4, h5, h6, h7, h8, h9, h10, h11, h12⟩ := h
  exact ⟨h0, h1, h2, h3, h4, h5, h6, h7, gs_le h8 hv, h9, h10, h11, h12⟩
theorem Inv.oKind {g : Gd} (h : Inv g) {i v : Nat} (hv : v ≤ 5) : Inv (gs g 3 i v) := by
  obtain ⟨h0, h1, h2, h3, h4, h5, h6, h7, h8, h9, h10, h11, h12⟩ := h
  exact ⟨h0, h1, h2, h3, h4, h5, h6, gs_le h7 hv, h8, h9, h10, h11, h12⟩
theorem Inv.oBit {g : Gd} (h : Inv g) {i v : Nat} (hv : v ≤ 9) : Inv (gs g 7 i v) := by
  obtain ⟨h0, h1, h2, h3, h4, h5, h6, h7, h8, h9, h10, h11, h12⟩ := h
  exact ⟨h0, h1, h2, h3, h4, h5, h6, h7, h8, h9, h10, gs_le h11 hv, h12⟩
theorem Inv.oAllW {g : Gd} (h : Inv g) : eAll g < 2 ^ g 9 0 := by rw [h.allW]; have := @Nat.one_le_two_pow (g 9 0); omega
theorem eO_none_iff {o : Option Nat} (h : ∀ k, o = some k → k < 1000) : eO o = -9 ↔ o = none := by
  cases o with
  | none => exact ⟨fun _ => rfl, fun _ => rfl⟩
  | some k => exact ⟨fun e => absurd e (ne9 (by have := h k rfl; omega)), fun e => by cases e⟩
theorem eOther_lt {g : Gd} {row : Nat → Nat} {ln : Nat} : ∀ (n w p : Nat), p + n < 1000 → ∀ k, eOther g row ln n w p = some k → k < 1000 := by
  intro n
  induction n with
  | zero =>
    intro w p hp k h
    change (if p < ln then some p else none) = some k at h
    split at h
    · cases h; omega
    · cases h
  | succ n ih =>
    intro w p hp k h
    change (if eGone g w then eOther g row ln n (w + 1) p else if ln ≤ p ∨ row p ≠ g 2 w then some p else eOther g row ln n (w + 1) (p + 1)) = some k at h
    split at h
    · exact ih _ _ (by omega) k h
    · split at h
      · cases h; omega
      · exact ih _ _ (by omega) k h
theorem i_nb {x : Int32} {k : Nat} (hk : k < 2 ^ 31) (h0 : ¬ x < 0) (h1 : x < nI k) : ∃ j, j < k ∧ x = nI j := by
  obtain ⟨j, hj, rfl⟩ := nI_of h0
  exact ⟨j, (nI_ltI hj hk).mp h1, rfl⟩
theorem eHasS_i {g : Gd} {x : Int32} (hI : Inv g) (h : eHasS g x = true) : ∃ j, j ≤ eAll g ∧ x = nI j := by
  unfold eHasS at h
  rw [Bool.and_eq_true, decide_eq_true_eq, decide_eq_true_eq] at h
  have ha := hI.all
  obtain ⟨j, hj, rfl⟩ := nI_of (Int32.not_lt.mpr h.1)
  exact ⟨j, (nI_leI hj (by omega)).mp h.2, rfl⟩
theorem lt_toInt0 {x : Int32} (h : x < 0) : x.toInt < 0 := by
  rw [Int32.lt_iff_toInt_lt] at h
  exact h
/-- tastes by which just these are left -/
def eTa (g : Gd) (b w : Nat) : Nat → Nat
  | 0 => 0
  | t + 1 => if eLeft (eDk (gs g 4 b t)) = w then eTa g b w t ||| (1 <<< t) else eTa g b w t
def sp_tastes (g y : Gd) (x z : Int32) : Int32 × Gd × Gd := if eHas x (g 9 1) = false then rfs g y 1 else if eHasS g z = false then rfs g y 1 else oks g y (nI (eTa g x.toNatClampNeg z.toNatClampNeg 10))
def eFi (g : Gd) (b w : Nat) : Nat → Nat
  | 0 => 0
  | t + 1 => if eLeft (eDk (gs g 3 b t)) = w then eFi g b w t ||| (1 <<< t) else eFi g b w t
def sp_fitting (g y : Gd) (x z : Int32) : Int32 × Gd × Gd := if eHas x (g 9 1) = false then rfs g y 1 else if eHasS g z = false then rfs g y 1 else oks g y (nI (eFi g x.toNatClampNeg z.toNatClampNeg 6))
theorem sh_lt {t n : Nat} (h : t < n) (hn : n ≤ 20) : 1 <<< t < 2 ^ 20 := by
  rw [Nat.shiftLeft_eq, Nat.one_mul]; exact Nat.pow_lt_pow_right (by decide) (by omega)
theorem eTa_lt (g : Gd) (b w : Nat) : ∀ t, t ≤ 20 → eTa g b w t < 2 ^ 20 := by
  intro t
  induction t with
  | zero => intro _; show 0 < 2 ^ 20; decide
  | succ t ih =>
    intro h
    show (if _ then _ else _) < 2 ^ 20
    split
    · exact Nat.or_lt_two_pow (ih (by omega)) (sh_lt (n := 20) (by omega) (by decide))
    · exact ih (by omega)
theorem eFi_lt (g : Gd) (b w : Nat) : ∀ t, t ≤ 20 → eFi g b w t < 2 ^ 20 := by
  intro t
  induction t with
  | zero => intro _; show 0 < 2 ^ 20; decide
  | succ t ih =>
    intro h
    show (if _ then _ else _) < 2 ^ 20
    split
    · exact Nat.or_lt_two_pow (ih (by omega)) (sh_lt (n := 20) (by omega) (by decide))
    · exact ih (by omega)
