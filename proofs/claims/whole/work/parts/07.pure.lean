/-! PURE: what a garden does, in numbers. -/
def eGone (g : Gd) (w : Nat) : Bool := decide ((g 9 2 >>> w) &&& 1 = 1)
def eWat (g : Gd) (w h : Nat) : Bool := decide (h < 8) && decide ((g 8 h >>> w) &&& 1 = 1)
def eStr (g : Gd) (w : Nat) : Nat := g 0 w - g 7 (g 1 w)
def eMay (g : Gd) (w t : Nat) : Bool := decide (g 9 3 < 8) && !eGone g w && !eWat g w (g 9 3) && decide (t ≤ eStr g w)
def eRch (g : Gd) (k w : Nat) : Bool := decide (k ≠ 5) || decide (w = 0) || eGone g (w - 1)
def ePrf (g : Gd) (k w c : Nat) : Bool := if k = 1 then false else if k = 3 then true else if k = 2 ∨ k = 5 then decide (eStr g w < eStr g c) else decide (eStr g c < eStr g w)
def eStep (g : Gd) (k t n : Nat) (c : Option Nat) : Option Nat := if eMay g n t && eRch g k n then (match c with | none => some n | some c0 => if ePrf g k n c0 then some n else some c0) else c
def eCh (g : Gd) (k t : Nat) : Nat → Option Nat
  | 0 => none
  | n + 1 => eStep g k t n (eCh g k t n)
def eO (c : Option Nat) : Int32 := match c with
  | none => -9
  | some w => nI w
def eCho (g : Gd) (k t : Nat) : Option Nat := eCh g k t (g 9 0)
def eGo (g : Gd) (c : Option Nat) : Gd := match c with
  | none => g
  | some w => gs g 9 2 (g 9 2 ||| (1 <<< w))
def eEat (g : Gd) (b : Nat) : Gd := eGo g (eCho g (g 3 b) (g 4 b))
def eEats (g : Gd) (b : Nat) : Nat → Gd
  | 0 => g
  | n + 1 => eEat (eEats g b n) b
def eMeals (g : Gd) (b : Nat) : Nat := if g 5 b ≤ g 9 3 ∧ g 9 3 ≤ g 6 b then (if g 3 b = 4 then 2 else 1) else 0
def eBirds (g : Gd) : Nat → Gd
  | 0 => g
  | n + 1 => eEats (eBirds g n) n (eMeals g n)
def eHr (g : Gd) : Gd := if 8 ≤ g 9 3 then g else gs (eBirds g (g 9 1)) 9 3 (g 9 3 + 1)
def eHrs (g : Gd) : Nat → Gd
  | 0 => g
  | n + 1 => eHr (eHrs g n)
def eDk (g : Gd) : Gd := eHrs g (8 - g 9 3)
def eAll (g : Gd) : Nat := 1 <<< g 9 0 - 1
def eLeft (g : Gd) : Nat := ldf (eAll g) (g 9 2)
def eCnt (x : Nat) : Nat → Nat
  | 0 => 0
  | k + 1 => eCnt x k + ((x >>> k) &&& 1)
def eBits (x : Nat) : Nat := eCnt x 10
def eLeftN (g : Gd) : Nat := eBits (eLeft g)
/-- in which hour, of the n that come, a word goes; 8 none -/
def eGoes (g : Gd) (w : Nat) : Nat → Nat
  | 0 => 8
  | n + 1 => if eGone (eHr g) w then g 9 3 else eGoes (eHr g) w n
def eOf (g : Gd) (m : Nat) : Nat → Nat
  | 0 => 0
  | n + 1 => eOf g m n + (if eGone g n = false ∧ g 2 n = m then 1 else 0)
def eMean (g : Gd) : Nat → Nat
  | 0 => 0
  | n + 1 => if eGone g n then eMean g n else eMean g n ||| (1 <<< g 2 n)
def eSum (g : Gd) : Nat → Nat
  | 0 => 0
  | n + 1 => eSum g n + (if eGone g n then 0 else eStr g n)
/-- the first place where a row of ln is otherwise: words from w on, the place p; none -/
def eOther (g : Gd) (row : Nat → Nat) (ln : Nat) : Nat → Nat → Nat → Option Nat
  | 0, _, p => if p < ln then some p else none
  | n + 1, w, p => if eGone g w then eOther g row ln n (w + 1) p else if ln ≤ p ∨ row p ≠ g 2 w then some p else eOther g row ln n (w + 1) (p + 1)
def eHas (x : Int32) (n : Nat) : Bool := decide (0 ≤ x) && decide (x < nI n)
def eHasS (g : Gd) (x : Int32) : Bool := decide (0 ≤ x) && decide (x ≤ nI (eAll g))
def Inv (g : Gd) : Prop := g 9 0 ≤ 10 ∧ g 9 1 ≤ 4 ∧ g 9 2 < 2 ^ g 9 0 ∧ g 9 3 ≤ 8 ∧ (∀ i, g 0 i ≤ 9) ∧ (∀ i, g 1 i ≤ 2) ∧ (∀ i, g 2 i ≤ 9) ∧ (∀ i, g 3 i ≤ 5) ∧ (∀ i, g 4 i ≤ 99) ∧ (∀ i, g 5 i ≤ 8) ∧ (∀ i, g 6 i ≤ 7) ∧ (∀ i, g 7 i ≤ 9) ∧ (∀ i, g 8 i < 2 ^ g 9 0)
theorem Inv.words {g : Gd} (h : Inv g) : g 9 0 ≤ 10 := h.1
theorem Inv.birds {g : Gd} (h : Inv g) : g 9 1 ≤ 4 := h.2.1
theorem Inv.goneW {g : Gd} (h : Inv g) : g 9 2 < 2 ^ g 9 0 := h.2.2.1
theorem Inv.hour {g : Gd} (h : Inv g) : g 9 3 ≤ 8 := h.2.2.2.1
theorem Inv.sweet {g : Gd} (h : Inv g) (i : Nat) : g 0 i ≤ 9 := h.2.2.2.2.1 i
theorem Inv.ink {g : Gd} (h : Inv g) (i : Nat) : g 1 i ≤ 2 := h.2.2.2.2.2.1 i
theorem Inv.mean {g : Gd} (h : Inv g) (i : Nat) : g 2 i ≤ 9 := h.2.2.2.2.2.2.1 i
theorem Inv.kind {g : Gd} (h : Inv g) (i : Nat) : g 3 i ≤ 5 := h.2.2.2.2.2.2.2.1 i
theorem Inv.taste {g : Gd} (h : Inv g) (i : Nat) : g 4 i ≤ 99 := h.2.2.2.2.2.2.2.2.1 i
theorem Inv.fro {g : Gd} (h : Inv g) (i : Nat) : g 5 i ≤ 8 := h.2.2.2.2.2.2.2.2.2.1 i
theorem Inv.til {g : Gd} (h : Inv g) (i : Nat) : g 6 i ≤ 7 := h.2.2.2.2.2.2.2.2.2.2.1 i
theorem Inv.bitter {g : Gd} (h : Inv g) (i : Nat) : g 7 i ≤ 9 := h.2.2.2.2.2.2.2.2.2.2.2.1 i
theorem Inv.watW {g : Gd} (h : Inv g) (i : Nat) : g 8 i < 2 ^ g 9 0 := h.2.2.2.2.2.2.2.2.2.2.2.2 i
theorem pw10 {n : Nat} (hn : n ≤ 10) : 2 ^ n ≤ 1024 := Nat.le_trans (Nat.pow_le_pow_right (by decide) hn) (by decide)
theorem Inv.gone {g : Gd} (h : Inv g) : g 9 2 < 1024 := Nat.lt_of_lt_of_le h.goneW (pw10 h.words)
theorem Inv.wat {g : Gd} (h : Inv g) (i : Nat) : g 8 i < 1024 := Nat.lt_of_lt_of_le (h.watW i) (pw10 h.words)
theorem Inv.str {g : Gd} (h : Inv g) (i : Nat) : eStr g i ≤ 9 := Nat.le_trans (Nat.sub_le _ _) (h.sweet i)
theorem Inv.allW {g : Gd} (h : Inv g) : eAll g = 2 ^ g 9 0 - 1 := by unfold eAll; rw [Nat.shiftLeft_eq, Nat.one_mul]
theorem Inv.all {g : Gd} (h : Inv g) : eAll g < 1024 := by have := h.allW; have := pw10 h.words; omega
theorem Inv.left {g : Gd} (h : Inv g) : eLeft g < 1024 := Nat.lt_of_le_of_lt (ldf_le _ _) h.all
theorem eCnt_le (x k : Nat) : eCnt x k ≤ k := by
  induction k with
  | zero => exact Nat.le_refl _
  | succ k ih => have := and1 (x >>> k); show eCnt x k + _ ≤ _; omega
theorem eBits_le (x : Nat) : eBits x ≤ 10 := eCnt_le x 10
theorem eOf_le (g : Gd) (m k : Nat) : eOf g m k ≤ k := by
  induction k with
  | zero => exact Nat.le_refl _
  | succ k ih => show eOf g m k + _ ≤ _; split <;> omega
theorem eMean_lt {g : Gd} (h : Inv g) (k : Nat) : eMean g k < 1024 := by
  induction k with
  | zero => show 0 < 1024; decide
  | succ k ih =>
    show (if eGone g k then _ else _) < 1024
    split
    · exact ih
    · refine Nat.or_lt_two_pow (n := 10) ih ?_
      rw [Nat.shiftLeft_eq, Nat.one_mul]
      exact Nat.pow_lt_pow_right (by decide) (by have := h.mean k; omega)
theorem eSum_le {g : Gd} (h : Inv g) (k : Nat) : eSum g k ≤ 9 * k := by
  induction k with
  | zero => exact Nat.le_refl _
  | succ k ih => show eSum g k + _ ≤ _; have := h.str k; split <;> omega
theorem eStep_lt {g : Gd} {k t n : Nat} {c : Option Nat} (hc : ∀ w, c = some w → w < n) : ∀ w, eStep g k t n c = some w → w < n + 1 := by
  intro w hw
  unfold eStep at hw
  split at hw
  · cases c with
    | none => cases hw; omega
    | some c0 =>
      have := hc c0 rfl
      dsimp only at hw
      split at hw <;> (cases hw; omega)
  · have := hc w hw; omega
theorem eCh_lt (g : Gd) (k t n : Nat) : ∀ w, eCh g k t n = some w → w < n := by
  induction n with
  | zero => intro w h; cases h
  | succ n ih => exact eStep_lt ih
/-! what an eating changes: who is gone alone -/
theorem eGo_f {g : Gd} {c : Option Nat} {f i : Nat} (h : ¬ (f = 9 ∧ i = 2)) : eGo g c f i = g f i := by
  cases c with
  | none => rfl
  | some w => simp [eGo, gs, h]
theorem eEats_f {g : Gd} {b n f i : Nat} (h : ¬ (f = 9 ∧ i = 2)) : eEats g b n f i = g f i := by
  induction n with
  | zero => rfl
  | succ n ih => exact (eGo_f h).trans ih
theorem eBirds_f {g : Gd} {n f i : Nat} (h : ¬ (f = 9 ∧ i = 2)) : eBirds g n f i = g f i := by
  induction n with
  | zero => rfl
  | succ n ih => exact (eEats_f h).trans ih
theorem eHr_f {g : Gd} {f i : Nat} (h : ¬ (f = 9 ∧ i = 2)) (h2 : ¬ (f = 9 ∧ i = 3)) : eHr g f i = g f i := by
  unfold eHr
  split
  · rfl
  · rw [show gs (eBirds g (g 9 1)) 9 3 (g 9 3 + 1) f i = eBirds g (g 9 1) f i by simp [gs, h2]]
    exact eBirds_f h
theorem Inv.of_gone {g g' : Gd} (h : Inv g) (hf : ∀ f i, ¬ (f = 9 ∧ i = 2) → g' f i = g f i) (hg : g' 9 2 < 2 ^ g 9 0) : Inv g' := by
  have e : ∀ f i, f ≠ 9 → g' f i = g f i := fun f i hn => hf f i (fun z => hn z.1)
  have e0 : g' 9 0 = g 9 0 := hf 9 0 (by decide)
  have e1 : g' 9 1 = g 9 1 := hf 9 1 (by decide)
  have e3 : g' 9 3 = g 9 3 := hf 9 3 (by decide)
  refine ⟨by rw [e0]; exact h.words, by rw [e1]; exact h.birds, by rw [e0]; exact hg, by rw [e3]; exact h.hour, fun i => ?_, fun i => ?_, fun i => ?_, fun i => ?_, fun i => ?_, fun i => ?_, fun i => ?_, fun i => ?_, fun i => ?_⟩
  · rw [e 0 i (by decide)]; exact h.sweet i
  · rw [e 1 i (by decide)]; exact h.ink i
  · rw [e 2 i (by decide)]; exact h.mean i
  · rw [e 3 i (by decide)]; exact h.kind i
  · rw [e 4 i (by decide)]; exact h.taste i
  · rw [e 5 i (by decide)]; exact h.fro i
  · rw [e 6 i (by decide)]; exact h.til i
  · rw [e 7 i (by decide)]; exact h.bitter i
  · rw [e 8 i (by decide), e0]; exact h.watW i
theorem Inv.oGo {g : Gd} (h : Inv g) {c : Option Nat} (hc : ∀ w, c = some w → w < g 9 0) : Inv (eGo g c) := by
  refine h.of_gone (fun f i hn => eGo_f hn) ?_
  cases c with
  | none => exact h.goneW
  | some w =>
    show gs g 9 2 _ 9 2 < _
    rw [gs_eq]
    refine Nat.or_lt_two_pow h.goneW ?_
    rw [Nat.shiftLeft_eq, Nat.one_mul]
    exact Nat.pow_lt_pow_right (by decide) (hc w rfl)
theorem Inv.oEat {g : Gd} (h : Inv g) (b : Nat) : Inv (eEat g b) := h.oGo (eCh_lt _ _ _ _)
theorem Inv.oEats {g : Gd} (h : Inv g) (b n : Nat) : Inv (eEats g b n) := by
  induction n with
  | zero => exact h
  | succ n ih => exact ih.oEat b
theorem Inv.oBirds {g : Gd} (h : Inv g) (n : Nat) : Inv (eBirds g n) := by
  induction n with
  | zero => exact h
  | succ n ih => exact ih.oEats n _
theorem Inv.oHr {g : Gd} (h : Inv g) : Inv (eHr g) := by
  have hb := h.oBirds (g 9 1)
  unfold eHr
  split
  · exact h
  · obtain ⟨b0, b1, b2, b3, b⟩ := hb
    exact ⟨b0, b1, b2, by show g 9 3 + 1 ≤ 8; omega, b⟩
theorem Inv.oHrs {g : Gd} (h : Inv g) (n : Nat) : Inv (eHrs g n) := by
  induction n with
  | zero => exact h
  | succ n ih => exact ih.oHr
theorem eHr_hour {g : Gd} (h : g 9 3 < 8) : eHr g 9 3 = g 9 3 + 1 := by
  unfold eHr; rw [if_neg (by omega)]; exact gs_eq _ _ _ _
theorem eHrs_hour {g : Gd} (n : Nat) (h : g 9 3 + n ≤ 8) : eHrs g n 9 3 = g 9 3 + n := by
  induction n with
  | zero => rfl
  | succ n ih =>
    have := ih (by omega)
    show eHr (eHrs g n) 9 3 = _
    rw [eHr_hour (by omega), this]; omega
theorem eHrs_f {g : Gd} {n f i : Nat} (h : ¬ (f = 9 ∧ i = 2)) (h2 : ¬ (f = 9 ∧ i = 3)) : eHrs g n f i = g f i := by
  induction n with
  | zero => rfl
  | succ n ih => exact (eHr_f h h2).trans ih
theorem eHrs_left (g : Gd) (n : Nat) : eHrs (eHr g) n = eHrs g (n + 1) := by
  induction n with
  | zero => rfl
  | succ n ih => show eHr (eHrs (eHr g) n) = eHr (eHrs g (n + 1)); rw [ih]
theorem ii_min {a b : Nat} (ha : a < 2 ^ 31) (hb : b < 2 ^ 31) : (if nI b < nI a then nI b else nI a) = nI (min a b) := by
  rcases Nat.lt_or_ge b a with h | h
  · rw [if_pos (nI_lt h ha), Nat.min_eq_right (by omega)]
  · rw [if_neg (nI_nlt h hb), Nat.min_eq_left h]
theorem ii_max {a b : Nat} (ha : a < 2 ^ 31) (hb : b < 2 ^ 31) : (if nI a < nI b then nI b else nI a) = nI (max a b) := by
  rcases Nat.lt_or_ge a b with h | h
  · rw [if_pos (nI_lt h hb), Nat.max_eq_right (by omega)]
  · rw [if_neg (nI_nlt h ha), Nat.max_eq_left h]
theorem ne9 {a : Nat} (h : a < 2 ^ 31) : ¬ nI a = -9 := by
  intro e
  have h1 := congrArg Int32.toInt e
  rw [nI_toInt h] at h1
  have h2 : (-9 : Int32).toInt = -9 := by decide
  omega
theorem b1_one {b : Bool} (h : b = true) : nI 1 = bI b := by rw [h]; decide
theorem b1_zero {b : Bool} (h : b = false) : nI 0 = bI b := by rw [h]; decide
theorem nI_sub_lt {a b : Nat} (ha : a < 2 ^ 30) (hb : b < 2 ^ 30) : 0 ≤ nI a - nI b ↔ b ≤ a := by
  rw [Int32.le_iff_toInt_le, pk_sub_toInt ha hb]
  show (0 : Int) ≤ _ ↔ _
  omega
theorem nI_subZ {a b : Nat} (h : b ≤ a) : nI a - nI b = nI (a - b) := pk_sub h
