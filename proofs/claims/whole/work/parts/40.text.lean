/-! the letters of a text -/
def eLet (y : Gd) (p : Nat) : Nat := if p < y 0 1 then y 1 p else 0
def eDg (y : Gd) (p : Nat) : Nat := eLet y p - 48
def eBeg (y : Gd) (p : Nat) : Bool := decide (p = 0) || decide (eLet y (p - 1) = 59)
def isDig (c : Nat) : Bool := decide (48 ≤ c) && decide (c ≤ 57)
def okF (c f : Nat) : Bool := if f = 100 then isDig c else if f = 107 then (kixO c).isSome else decide (c = f)
theorem eLet_le {y : Gd} (h : ∀ i, y 1 i ≤ 255) (p : Nat) : eLet y p ≤ 255 := by
  unfold eLet; split
  · exact h p
  · omega
/-- a statement stands at p -/
def WS (y : Gd) (p : Nat) : Prop :=
  ((eLet y p = 119 ∨ eLet y p = 114) ∧ isDig (eLet y (p + 1)) = true ∧ isDig (eLet y (p + 2)) = true ∧ isDig (eLet y (p + 3)) = true ∧ eLet y (p + 4) = 59) ∨
  (eLet y p = 98 ∧ (kixO (eLet y (p + 1))).isSome = true ∧ isDig (eLet y (p + 2)) = true ∧ isDig (eLet y (p + 3)) = true ∧ isDig (eLet y (p + 4)) = true ∧ eLet y (p + 5) = 59) ∨
  (eLet y p = 105 ∧ isDig (eLet y (p + 1)) = true ∧ isDig (eLet y (p + 2)) = true ∧ eLet y (p + 3) = 59)
def eFB (y : Gd) (i0 p : Nat) : Nat → Nat → Option Nat
  | 0, _ => none
  | f + 1, i => if okF (eLet y (p + i + 1)) (chS i0 i) = true then eFB y i0 p f (i + 1) else some (p + i + 1)
def eMi (y : Gd) : Nat → Nat → Option Nat
  | 0, _ => none
  | f + 1, p => if lenS.getD (fI (eLet y p)) 0 = 0 then some p else match eFB y (fI (eLet y p)) p (lenS.getD (fI (eLet y p)) 0) 0 with
    | some q => some q
    | none => if p + lenS.getD (fI (eLet y p)) 0 + 1 < y 0 1 then eMi y f (p + lenS.getD (fI (eLet y p)) 0 + 1) else none
def eFit (y : Gd) (p w b : Nat) : Bool :=
  if eLet y p = 119 then decide (w < 10) && decide (eDg y (p + 2) < 3)
  else if eLet y p = 98 then decide (b < 4) && (decide (eDg y (p + 3) ≤ eDg y (p + 4)) && decide (eDg y (p + 4) < 8))
  else if eLet y p = 105 then decide (eDg y (p + 1) < 3)
  else decide (eDg y (p + 1) < w) && (decide (eDg y (p + 2) ≤ eDg y (p + 3)) && decide (eDg y (p + 3) < 8))
def eUnf (y : Gd) : Nat → Nat → Nat → Nat → Option Nat
  | 0, _, _, _ => none
  | f + 1, p, w, b => if eBeg y p = true then (if eFit y p w b = true then eUnf y f (p + 1) (if eLet y p = 119 then w + 1 else w) (if eLet y p = 98 then b + 1 else b) else some p) else eUnf y f (p + 1) w b
def eWr (g : Gd) (w f : Nat) : Nat → Gd
  | 0 => g
  | k + 1 => eWset (eWr g w f k) w (f + k) 1
def eAddW (g : Gd) (s i m : Nat) : Gd := gs (gs (gs (gs g 0 (g 9 0) s) 1 (g 9 0) i) 2 (g 9 0) m) 9 0 (g 9 0 + 1)
def eAddB (g : Gd) (k t f u : Nat) : Gd := gs (gs (gs (gs (gs g 3 (g 9 1) k) 4 (g 9 1) t) 5 (g 9 1) f) 6 (g 9 1) u) 9 1 (g 9 1 + 1)
def eTell (y : Gd) (p : Nat) (g : Gd) : Gd :=
  if eLet y p = 119 then eAddW g (eDg y (p + 1)) (eDg y (p + 2)) (eDg y (p + 3))
  else if eLet y p = 98 then eAddB g ((kixO (eLet y (p + 1))).getD 0) (eDg y (p + 2)) (eDg y (p + 3)) (eDg y (p + 4))
  else if eLet y p = 105 then gs g 7 (eDg y (p + 1)) (eDg y (p + 2))
  else eWr g (eDg y (p + 1)) (eDg y (p + 2)) (eDg y (p + 3) + 1 - eDg y (p + 2))
def eTl (y g : Gd) : Nat → Gd × Nat
  | 0 => (g, 0)
  | p + 1 => if eBeg y p = true then (eTell y p (eTl y g p).1, (eTl y g p).2 + 1) else eTl y g p
def eFau (y : Gd) (w b : Nat) : Int32 := match eMi y 81 0 with
  | some q => (-1000) - nI q
  | none => match eUnf y (y 0 1) 0 w b with
    | some p => (-2000) - nI p
    | none => 0
def sp_text (g y : Gd) : Int32 × Gd × Gd := match eMi y 81 0 with
  | some q => ((-1000) - nI q, g, gs y 0 1 0)
  | none => match eUnf y (y 0 1) 0 (g 9 0) (g 9 1) with
    | some p => ((-2000) - nI p, g, gs y 0 1 0)
    | none => (nI (eTl y g (y 0 1)).2, (eTl y g (y 0 1)).1, gs y 0 1 0)
theorem eFB_all {y : Gd} {i0 p : Nat} : ∀ f i, eFB y i0 p f i = none → ∀ j, i ≤ j → j < i + f → okF (eLet y (p + j + 1)) (chS i0 j) = true := by
  intro f
  induction f with
  | zero => intro i _ j h1 h2; omega
  | succ f ih =>
    intro i h j h1 h2
    change (if okF (eLet y (p + i + 1)) (chS i0 i) = true then eFB y i0 p f (i + 1) else some (p + i + 1)) = none at h
    split at h
    · rename_i hk
      rcases Nat.lt_or_ge i j with q | q
      · exact ih (i + 1) h j (by omega) (by omega)
      · have : j = i := by omega
        subst this; exact hk
    · cases h
theorem okF_d {c : Nat} (h : okF c 100 = true) : isDig c = true := h
theorem okF_k {c : Nat} (h : okF c 107 = true) : (kixO c).isSome = true := h
theorem okF_s {c : Nat} (h : okF c 59 = true) : c = 59 := of_decide_eq_true h
theorem dig_n {c : Nat} (h : isDig c = true) : 48 ≤ c ∧ c ≤ 57 := by
  unfold isDig at h
  rw [Bool.and_eq_true, decide_eq_true_eq, decide_eq_true_eq] at h
  exact h
theorem kix_n : ∀ c, (kixO c).isSome = true → c ≠ 59 := by
  intro c h e
  subst e
  exact absurd h (by decide)
/-- a statement whose form holds: it stands there, and its last letter alone is ; -/
theorem ws_of {y : Gd} {p : Nat} (h0 : lenS.getD (fI (eLet y p)) 0 ≠ 0) (h : eFB y (fI (eLet y p)) p (lenS.getD (fI (eLet y p)) 0) 0 = none) :
    WS y p ∧ ∀ q, p ≤ q → q < p + lenS.getD (fI (eLet y p)) 0 → eLet y q ≠ 59 := by
  have ha := eFB_all _ _ h
  by_cases c1 : eLet y p = 98
  · have e : fI (eLet y p) = 1 := by rw [c1]; rfl
    rw [e] at ha ⊢
    have a0 := okF_k (ha 0 (by decide) (by decide))
    have a1 := dig_n (okF_d (ha 1 (by decide) (by decide)))
    have a2 := dig_n (okF_d (ha 2 (by decide) (by decide)))
    have a3 := dig_n (okF_d (ha 3 (by decide) (by decide)))
    have a4 := okF_s (ha 4 (by decide) (by decide))
    refine ⟨Or.inr (Or.inl ⟨c1, a0, okF_d (ha 1 (by decide) (by decide)), okF_d (ha 2 (by decide) (by decide)), okF_d (ha 3 (by decide) (by decide)), a4⟩), fun q h1 h2 => ?_⟩
    have h2 : q < p + 5 := h2
    rcases (show q = p ∨ q = p + 0 + 1 ∨ q = p + 1 + 1 ∨ q = p + 2 + 1 ∨ q = p + 3 + 1 by omega) with rfl | rfl | rfl | rfl | rfl
    · omega
    · exact kix_n _ a0
    · omega
    · omega
    · omega
  · by_cases c2 : eLet y p = 105
    · have e : fI (eLet y p) = 2 := by rw [c2]; rfl
      rw [e] at ha ⊢
      have a0 := dig_n (okF_d (ha 0 (by decide) (by decide)))
      have a1 := dig_n (okF_d (ha 1 (by decide) (by decide)))
      have a2 := okF_s (ha 2 (by decide) (by decide))
      refine ⟨Or.inr (Or.inr ⟨c2, okF_d (ha 0 (by decide) (by decide)), okF_d (ha 1 (by decide) (by decide)), a2⟩), fun q h1 h2 => ?_⟩
      have h2 : q < p + 3 := h2
      rcases (show q = p ∨ q = p + 0 + 1 ∨ q = p + 1 + 1 by omega) with rfl | rfl | rfl <;> omega
    · have c3 : eLet y p = 119 ∨ eLet y p = 114 := by
        by_cases c3 : eLet y p = 114
        · exact Or.inr c3
        · by_cases c4 : eLet y p = 119
          · exact Or.inl c4
          · exact absurd (by unfold fI; rw [if_neg c1, if_neg c2, if_neg c3, if_neg c4]; rfl) h0
      have e : fI (eLet y p) = 0 := by unfold fI; rw [if_neg c1, if_neg c2]; rcases c3 with c | c <;> rw [c] <;> rfl
      rw [e] at ha ⊢
      have a0 := dig_n (okF_d (ha 0 (by decide) (by decide)))
      have a1 := dig_n (okF_d (ha 1 (by decide) (by decide)))
      have a2 := dig_n (okF_d (ha 2 (by decide) (by decide)))
      have a3 := okF_s (ha 3 (by decide) (by decide))
      refine ⟨Or.inl ⟨c3, okF_d (ha 0 (by decide) (by decide)), okF_d (ha 1 (by decide) (by decide)), okF_d (ha 2 (by decide) (by decide)), a3⟩, fun q h1 h2 => ?_⟩
      have h2 : q < p + 4 := h2
      rcases (show q = p ∨ q = p + 0 + 1 ∨ q = p + 1 + 1 ∨ q = p + 2 + 1 by omega) with rfl | rfl | rfl | rfl <;> omega
theorem mis_step {y : Gd} {f p : Nat} (h : eMi y (f + 1) p = none) : lenS.getD (fI (eLet y p)) 0 ≠ 0 ∧ eFB y (fI (eLet y p)) p (lenS.getD (fI (eLet y p)) 0) 0 = none ∧ (p + lenS.getD (fI (eLet y p)) 0 + 1 < y 0 1 → eMi y f (p + lenS.getD (fI (eLet y p)) 0 + 1) = none) := by
  rw [eMi] at h
  split at h
  · cases h
  · rename_i h0
    split at h
    · cases h
    · rename_i h1
      refine ⟨h0, h1, fun hp => ?_⟩
      rw [if_pos hp] at h
      exact h
theorem mis_all {y : Gd} : ∀ f p, y 0 1 - p < f → eMi y f p = none → ∀ q, p ≤ q → q < y 0 1 → (q = p ∨ eLet y (q - 1) = 59) → WS y q := by
  intro f
  induction f with
  | zero => intro p h; omega
  | succ f ih =>
    intro p hf h q h1 h2 h3
    obtain ⟨a1, a2, a3⟩ := mis_step h
    obtain ⟨b1, b2⟩ := ws_of a1 a2
    by_cases e : q = p
    · subst e; exact b1
    · have h3 := h3.resolve_left e
      rcases Nat.lt_or_ge (q - 1) (p + lenS.getD (fI (eLet y p)) 0) with c | c
      · exact absurd h3 (b2 (q - 1) (by omega) c)
      · have hp : p + lenS.getD (fI (eLet y p)) 0 + 1 < y 0 1 ∨ q = p + lenS.getD (fI (eLet y p)) 0 + 1 := by omega
        exact ih _ (by omega) (a3 (by omega)) q (by omega) h2 (Or.inr h3)
theorem mis_ok {y : Gd} (hn : y 0 1 ≤ 80) (h : eMi y 81 0 = none) : ∀ p, p < y 0 1 → eBeg y p = true → WS y p := by
  intro p hp hb
  refine mis_all 81 0 (by omega) h p (Nat.zero_le _) hp ?_
  unfold eBeg at hb
  rw [Bool.or_eq_true, decide_eq_true_eq, decide_eq_true_eq] at hb
  exact hb
theorem eM_neg {c : Nat} : eM (kixO c) < 0 ↔ (kixO c).isSome = false := by
  unfold kixO
  split
  · exact ⟨fun h => absurd h (by decide), fun h => by cases h⟩
  · split
    · exact ⟨fun h => absurd h (by decide), fun h => by cases h⟩
    · split
      · exact ⟨fun h => absurd h (by decide), fun h => by cases h⟩
      · split
        · exact ⟨fun h => absurd h (by decide), fun h => by cases h⟩
        · split
          · exact ⟨fun h => absurd h (by decide), fun h => by cases h⟩
          · split
            · exact ⟨fun h => absurd h (by decide), fun h => by cases h⟩
            · exact ⟨fun _ => rfl, fun _ => by decide⟩
theorem eM_some {c : Nat} (h : (kixO c).isSome = true) : eM (kixO c) = nI ((kixO c).getD 0) := by
  cases hk : kixO c with
  | none => rw [hk] at h; cases h
  | some k => rfl
theorem kixO_lt {c k : Nat} (h : kixO c = some k) : k < 6 := by
  unfold kixO at h
  split at h
  · cases h; decide
  · split at h
    · cases h; decide
    · split at h
      · cases h; decide
      · split at h
        · cases h; decide
        · split at h
          · cases h; decide
          · split at h
            · cases h; decide
            · cases h
theorem kixO_getD (c : Nat) : (kixO c).getD 0 < 6 := by
  cases hk : kixO c with
  | none => decide
  | some k => exact kixO_lt hk
theorem dg_i {y : Gd} {p : Nat} (h : isDig (eLet y p) = true) : nI (eLet y p) - nI 48 = nI (eDg y p) := pk_sub (dig_n h).1
theorem dg_le {y : Gd} {p : Nat} (h : isDig (eLet y p) = true) : eDg y p ≤ 9 := by have := dig_n h; unfold eDg; omega
