/-! a statement that stands and fits, told -/
theorem ws_w {y : Gd} {p : Nat} (h : WS y p) (c : eLet y p = 119 ∨ eLet y p = 114) : isDig (eLet y (p + 1)) = true ∧ isDig (eLet y (p + 2)) = true ∧ isDig (eLet y (p + 3)) = true := by
  rcases h with h | h | h
  · exact ⟨h.2.1, h.2.2.1, h.2.2.2.1⟩
  · omega
  · omega
theorem ws_b {y : Gd} {p : Nat} (h : WS y p) (c : eLet y p = 98) : (kixO (eLet y (p + 1))).isSome = true ∧ isDig (eLet y (p + 2)) = true ∧ isDig (eLet y (p + 3)) = true ∧ isDig (eLet y (p + 4)) = true := by
  rcases h with h | h | h
  · omega
  · exact ⟨h.2.1, h.2.2.1, h.2.2.2.1, h.2.2.2.2.1⟩
  · omega
theorem ws_i {y : Gd} {p : Nat} (h : WS y p) (c : eLet y p = 105) : isDig (eLet y (p + 1)) = true ∧ isDig (eLet y (p + 2)) = true := by
  rcases h with h | h | h
  · omega
  · omega
  · exact ⟨h.2.1, h.2.2.1⟩
theorem ws_r {y : Gd} {p : Nat} (h : WS y p) (c1 : ¬ eLet y p = 98) (c2 : ¬ eLet y p = 105) (c3 : ¬ eLet y p = 119) : eLet y p = 114 := by
  rcases h with h | h | h <;> omega
theorem fit_w {y : Gd} {p w b : Nat} (h : eFit y p w b = true) (c : eLet y p = 119) : w < 10 ∧ eDg y (p + 2) < 3 := by
  unfold eFit at h
  rw [if_pos c, Bool.and_eq_true, decide_eq_true_eq, decide_eq_true_eq] at h
  exact h
theorem fit_b {y : Gd} {p w b : Nat} (h : eFit y p w b = true) (c : eLet y p = 98) : b < 4 ∧ eDg y (p + 3) ≤ eDg y (p + 4) ∧ eDg y (p + 4) < 8 := by
  unfold eFit at h
  rw [if_neg (by omega), if_pos c, Bool.and_eq_true, Bool.and_eq_true, decide_eq_true_eq, decide_eq_true_eq, decide_eq_true_eq] at h
  exact h
theorem fit_i {y : Gd} {p w b : Nat} (h : eFit y p w b = true) (c : eLet y p = 105) : eDg y (p + 1) < 3 := by
  unfold eFit at h
  rw [if_neg (by omega), if_neg (by omega), if_pos c, decide_eq_true_eq] at h
  exact h
theorem fit_r {y : Gd} {p w b : Nat} (h : eFit y p w b = true) (c : eLet y p = 114) : eDg y (p + 1) < w ∧ eDg y (p + 2) ≤ eDg y (p + 3) ∧ eDg y (p + 3) < 8 := by
  unfold eFit at h
  rw [if_neg (by omega), if_neg (by omega), if_neg (by omega), Bool.and_eq_true, Bool.and_eq_true, decide_eq_true_eq, decide_eq_true_eq, decide_eq_true_eq] at h
  exact h
theorem eWset_f {g : Gd} {w h z f i : Nat} (hf : f ≠ 8) : eWset g w h z f i = g f i := by unfold eWset; exact gs_f hf
theorem eWr_f {g : Gd} {w f k f' i : Nat} (hf : f' ≠ 8) : eWr g w f k f' i = g f' i := by
  induction k with
  | zero => rfl
  | succ k ih => exact (eWset_f hf).trans ih
theorem Inv.oWset {g : Gd} (h : Inv g) {w k z : Nat} (hw : w < g 9 0) : Inv (eWset g w k z) := by
  unfold eWset
  refine h.oWat ?_
  have h1 := Nat.lt_of_le_of_lt (ldf_le (g 8 k) (1 <<< w)) (h.watW k)
  split
  · exact h1
  · refine Nat.or_lt_two_pow h1 ?_
    rw [Nat.shiftLeft_eq, Nat.one_mul]
    exact Nat.pow_lt_pow_right (by decide) hw
theorem Inv.oWr {g : Gd} (h : Inv g) {w f : Nat} (hw : w < g 9 0) (k : Nat) : Inv (eWr g w f k) := by
  induction k with
  | zero => exact h
  | succ k ih => exact ih.oWset (by rw [eWr_f (by decide)]; exact hw)
theorem Inv.oAddW {g : Gd} (h : Inv g) {s i m : Nat} (hw : g 9 0 < 10) (hs : s ≤ 9) (hi : i ≤ 2) (hm : m ≤ 9) : Inv (eAddW g s i m) := by
  have hp : 2 ^ g 9 0 ≤ 2 ^ (g 9 0 + 1) := Nat.pow_le_pow_right (by decide) (by omega)
  obtain ⟨h0, h1, h2, h3, h4, h5, h6, h7, h8, h9, h10, h11, h12⟩ := h
  exact ⟨by show g 9 0 + 1 ≤ 10; omega, h1, by show g 9 2 < 2 ^ (g 9 0 + 1); omega, h3, gs_le h4 hs, gs_le h5 hi, gs_le h6 hm, h7, h8, h9, h10, h11, fun i => by show g 8 i < 2 ^ (g 9 0 + 1); have := h12 i; omega⟩
theorem Inv.oAddB {g : Gd} (h : Inv g) {k t f u : Nat} (hb : g 9 1 < 4) (hk : k ≤ 5) (ht : t ≤ 99) (hf : f ≤ 8) (hu : u ≤ 7) : Inv (eAddB g k t f u) := by
  obtain ⟨h0, h1, h2, h3, h4, h5, h6, h7, h8, h9, h10, h11, h12⟩ := h
  exact ⟨h0, by show g 9 1 + 1 ≤ 4; omega, h2, h3, h4, h5, h6, gs_le h7 hk, gs_le h8 ht, gs_le h9 hf, gs_le h10 hu, h11, h12⟩
theorem Inv.oTell {g y : Gd} {p : Nat} (h : Inv g) (hS : WS y p) (hF : eFit y p (g 9 0) (g 9 1) = true) : Inv (eTell y p g) := by
  unfold eTell
  split
  · rename_i c
    have a := fit_w hF c
    have b := ws_w hS (Or.inl c)
    exact h.oAddW a.1 (dg_le b.1) (by omega) (dg_le b.2.2)
  · split
    · rename_i c
      have a := fit_b hF c
      have b := ws_b hS c
      exact h.oAddB a.1 (by have := kixO_getD (eLet y (p + 1)); omega) (by have := dg_le b.2.1; omega) (by omega) (by omega)
    · split
      · rename_i c
        have b := ws_i hS c
        exact h.oBit (dg_le b.2)
      · rename_i c1 c2 c3
        have a := fit_r hF (ws_r hS c2 c3 c1)
        exact h.oWr a.1 _
theorem eTell_w {g y : Gd} {p : Nat} : eTell y p g 9 0 = if eLet y p = 119 then g 9 0 + 1 else g 9 0 := by
  unfold eTell
  split
  · rfl
  · split
    · rfl
    · split
      · rfl
      · exact eWr_f (by decide)
theorem eTell_b {g y : Gd} {p : Nat} : eTell y p g 9 1 = if eLet y p = 98 then g 9 1 + 1 else g 9 1 := by
  unfold eTell
  split
  · rename_i c; rw [if_neg (by omega)]; rfl
  · split
    · rfl
    · split
      · rfl
      · exact eWr_f (by decide)
/-- no unfit statement: each fits what stands when it comes -/
theorem unf_all {g y : Gd} : ∀ f q, eUnf y f q ((eTl y g q).1 9 0) ((eTl y g q).1 9 1) = none → ∀ k, q ≤ k → k < q + f → eBeg y k = true → eFit y k ((eTl y g k).1 9 0) ((eTl y g k).1 9 1) = true := by
  intro f
  induction f with
  | zero => intro q _ k h1 h2; omega
  | succ f ih =>
    intro q h k h1 h2 hb
    change (if eBeg y q = true then (if eFit y q ((eTl y g q).1 9 0) ((eTl y g q).1 9 1) = true then eUnf y f (q + 1) (if eLet y q = 119 then (eTl y g q).1 9 0 + 1 else (eTl y g q).1 9 0) (if eLet y q = 98 then (eTl y g q).1 9 1 + 1 else (eTl y g q).1 9 1) else some q) else eUnf y f (q + 1) ((eTl y g q).1 9 0) ((eTl y g q).1 9 1)) = none at h
    by_cases c : eBeg y q = true
    · rw [if_pos c] at h
      by_cases c2 : eFit y q ((eTl y g q).1 9 0) ((eTl y g q).1 9 1) = true
      · rw [if_pos c2, ← eTell_w, ← eTell_b] at h
        by_cases e : k = q
        · subst e; exact c2
        · refine ih (q + 1) ?_ k (by omega) (by omega) hb
          have e1 : eTl y g (q + 1) = (eTell y q (eTl y g q).1, (eTl y g q).2 + 1) := by show (if _ then _ else _) = _; rw [if_pos c]
          rw [e1]; exact h
      · rw [if_neg c2] at h; cases h
    · rw [if_neg c] at h
      by_cases e : k = q
      · subst e; exact absurd hb c
      · refine ih (q + 1) ?_ k (by omega) (by omega) hb
        have e1 : eTl y g (q + 1) = eTl y g q := by show (if _ then _ else _) = _; rw [if_neg c]
        rw [e1]; exact h
theorem Inv.oTl {g y : Gd} (h : Inv g) {n : Nat} (hT : ∀ p, p < n → eBeg y p = true → WS y p) (hF : ∀ p, p < n → eBeg y p = true → eFit y p ((eTl y g p).1 9 0) ((eTl y g p).1 9 1) = true) : ∀ q, q ≤ n → Inv (eTl y g q).1 := by
  intro q
  induction q with
  | zero => intro _; exact h
  | succ q ih =>
    intro hq
    show Inv (if _ then _ else _ : Gd × Nat).1
    split
    · rename_i c
      exact (ih (by omega)).oTell (hT q (by omega) c) (hF q (by omega) c)
    · exact ih (by omega)
theorem eTl_le (y g : Gd) (q : Nat) : (eTl y g q).2 ≤ q := by
  induction q with
  | zero => exact Nat.le_refl _
  | succ q ih => show (if _ then _ else _ : Gd × Nat).2 ≤ _; split <;> (try dsimp only) <;> omega
theorem eFB_lt {y : Gd} {i0 p : Nat} : ∀ f i k, eFB y i0 p f i = some k → k < p + i + f + 1 := by
  intro f
  induction f with
  | zero => intro i k h; cases h
  | succ f ih =>
    intro i k h
    change (if _ then _ else _) = some k at h
    split at h
    · have := ih _ _ h; omega
    · cases h; omega
theorem mis_lt {y : Gd} (hn : y 0 1 ≤ 80) : ∀ f p k, p ≤ y 0 1 → eMi y f p = some k → k < 100 := by
  intro f
  induction f with
  | zero => intro p k _ h; cases h
  | succ f ih =>
    intro p k hp h
    rw [eMi] at h
    have hL := lenS_le (fI (eLet y p)) (fI_lt _)
    split at h
    · cases h; omega
    · split at h
      · rename_i q hq
        cases h
        have := eFB_lt _ _ _ hq
        omega
      · split at h
        · exact ih _ _ (by omega) h
        · cases h
theorem unf_lt {y : Gd} : ∀ f q w b k, eUnf y f q w b = some k → k < q + f := by
  intro f
  induction f with
  | zero => intro q w b k h; cases h
  | succ f ih =>
    intro q w b k h
    change (if _ then (if _ then _ else _) else _) = some k at h
    split at h
    · split at h
      · have := ih _ _ _ _ h; omega
      · cases h; omega
    · have := ih _ _ _ _ h; omega
theorem fau_ne {a q : Nat} (ha : 1 ≤ a) (h : a < 10000) (hq : q < 1000) : ¬ (-nI a) - nI q = 0 := by
  intro e
  have h1 : -nI a = nI q := by
    have := congrArg (fun z => z + nI q) e
    simpa using this
  have h2 := congrArg Int32.toInt h1
  rw [sb_negT (by omega), nI_toInt (by omega)] at h2
  omega
