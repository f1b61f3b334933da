/-! seeds, kept by watching, boys, mixed -/
def eSd (s : Int32) : Nat → Int32
  | 0 => s
  | b + 1 => eSd s b * nI 1664525 + nI 1013904223
def eDr (s : Int32) : Nat := s.toBitVec.toNat % 2 ^ 31 / 256 % 10
def eTs (g : Gd) (s : Int32) : Nat → Gd
  | 0 => g
  | b + 1 => gs (eTs g s b) 4 b (eDr (eSd s (b + 1)))
def eSee (g : Gd) (z : Int32) : Nat → Int32 × Nat
  | 0 => (z, 0)
  | n + 1 => (eSd (eSee g z n).1 (g 9 1), (eSee g z n).2 + eLeftN (eDk (eTs g (eSee g z n).1 (g 9 1))))
def sp_seeds (g y : Gd) (x z : Int32) : Int32 × Gd × Gd := if nI 1 ≤ x then (if x ≤ nI 20 then oks g y (nI (eSee g z x.toNatClampNeg).2) else rfs g y 6) else rfs g y 4
theorem eSee_le (g : Gd) (z : Int32) (n : Nat) : (eSee g z n).2 ≤ 10 * n := by
  induction n with
  | zero => exact Nat.le_refl _
  | succ n ih =>
    show (eSee g z n).2 + eLeftN _ ≤ _
    have := eLeftN_le (eDk (eTs g (eSee g z n).1 (g 9 1)))
    omega
theorem eDr_lt (s : Int32) : eDr s < 10 := Nat.mod_lt _ (by decide)
theorem Inv.oTs {g : Gd} (h : Inv g) (s : Int32) (b : Nat) : Inv (eTs g s b) := by
  induction b with
  | zero => exact h
  | succ b ih => exact ih.oTaste (by have := eDr_lt (eSd s (b + 1)); omega)
theorem eTs_f {g : Gd} {s : Int32} {b f i : Nat} (h : f ≠ 4) : eTs g s b f i = g f i := by
  induction b with
  | zero => rfl
  | succ b ih => show gs (eTs g s b) 4 b _ f i = _; rw [gs_f h]; exact ih
/-- words watched in the hours ahead of h, too -/
def eWs (g : Gd) (S : Nat) : Nat → Gd
  | 0 => g
  | h + 1 => gs (eWs g S h) 8 h (g 8 h ||| S)
theorem eWs_f {g : Gd} {S h f i : Nat} (hf : f ≠ 8) : eWs g S h f i = g f i := by
  induction h with
  | zero => rfl
  | succ h ih => show gs (eWs g S h) 8 h _ f i = _; rw [gs_f hf]; exact ih
theorem eWs_w {g : Gd} {S h i : Nat} (hi : h ≤ i) : eWs g S h 8 i = g 8 i := by
  induction h with
  | zero => rfl
  | succ h ih => show gs (eWs g S h) 8 h _ 8 i = _; rw [gs_i (by omega)]; exact ih (by omega)
theorem Inv.oWs {g : Gd} (h : Inv g) {S : Nat} (hS : S < 2 ^ g 9 0) (n : Nat) : Inv (eWs g S n) := by
  induction n with
  | zero => exact h
  | succ n ih =>
    refine ih.oWat ?_
    rw [eWs_f (by decide)]
    exact Nat.or_lt_two_pow (h.watW n) hS
def eKp (g : Gd) (w : Nat) : Nat → Bool
  | 0 => decide (g 9 2 &&& w = 0)
  | n + 1 => if g 9 2 &&& w = 0 then eKp (eHr g) w n else false
def eKept (g : Gd) (w S : Nat) : Bool := eKp (eWs g S 8) w (8 - g 9 3)
def eBo (g : Gd) (w : Nat) : Nat → Nat × Nat
  | 0 => (w, eBits w + 1)
  | S + 1 => if eBits S < (eBo g w S).2 then (if S &&& g 9 2 = 0 then (if eKept g w S = true then (S, eBits S) else eBo g w S) else eBo g w S) else eBo g w S
def sp_boys (g y : Gd) (x : Int32) : Int32 × Gd × Gd := if eHasS g x = false then rfs g y 1 else if x.toNatClampNeg &&& g 9 2 = 0 then oks g y (nI (eBo g x.toNatClampNeg (eAll g + 1)).1) else rfs g y 3
theorem eBo_le {g : Gd} {w : Nat} (hI : Inv g) (hw : w ≤ eAll g) : ∀ S, S ≤ eAll g + 1 → (eBo g w S).1 ≤ eAll g ∧ (eBo g w S).2 ≤ 11 := by
  intro S
  induction S with
  | zero => intro _; exact ⟨hw, by show eBits w + 1 ≤ 11; have := eBits_le w; omega⟩
  | succ S ih =>
    intro h
    have ih := ih (by omega)
    have q := eBits_le S
    show (if _ then (if _ then (if _ then _ else _) else _) else _ : Nat × Nat).1 ≤ _ ∧ (if _ then (if _ then (if _ then _ else _) else _) else _ : Nat × Nat).2 ≤ _
    split
    · split
      · split
        · exact ⟨by show S ≤ _; omega, by show eBits S ≤ 11; omega⟩
        · exact ih
      · exact ih
    · exact ih
def eDs (k : Nat) : Nat := k / 100 + k / 10 % 10 + k % 10
def eBt (g : Gd) (k : Nat) : Gd := gs (gs (gs g 7 0 (k / 100)) 7 1 (k / 10 % 10)) 7 2 (k % 10)
def eMx (g : Gd) (A : Nat) : Nat → Nat → Nat × Nat → Nat × Nat
  | 0, _, p => p
  | f + 1, k, p => if p.2 ≤ eLeftN g then (if A < eDs k then eMx g A f (k + 1) p else if p.2 < eLeftN (eDk (eBt g k)) + 1 then eMx g A f (k + 1) (k, eLeftN (eDk (eBt g k)) + 1) else eMx g A f (k + 1) p) else p
def sp_mixed (g y : Gd) (x z : Int32) : Int32 × Gd × Gd := if x < 0 then rfs g y 4 else if nI 12 < x then rfs g y 6 else if z = 0 then oks g y (nI (eMx g x.toNatClampNeg 1000 0 (0, 0)).1) else if z = nI 1 then oks g y (eG1 (eMx g x.toNatClampNeg 1000 0 (0, 0)).2) else rfs g y 2
theorem Inv.oBt {g : Gd} (h : Inv g) {k : Nat} (hk : k < 1000) : Inv (eBt g k) := ((h.oBit (by omega)).oBit (by omega)).oBit (by omega)
