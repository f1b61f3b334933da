/-! PURE: what becomes, and winter -/
theorem eDk_hr {g : Gd} (h : g 9 3 < 8) : eDk (eHr g) = eDk g := by
  unfold eDk
  rw [eHr_hour h, eHrs_left, show 8 - (g 9 3 + 1) + 1 = 8 - g 9 3 by omega]
/-- a bird with no taste for any, against one that comes in no hour -/
def Wn (j : Nat) (A B : Gd) : Prop := (∀ f i, ¬ (f = 4 ∧ i = j) → ¬ (f = 5 ∧ i = j) → A f i = B f i) ∧ A 4 j = 99 ∧ B 5 j = 8
theorem Wn.gone {j : Nat} {A B : Gd} (h : Wn j A B) (w : Nat) : eGone A w = eGone B w := by unfold eGone; rw [h.1 9 2 (by omega) (by omega)]
theorem Wn.str {j : Nat} {A B : Gd} (h : Wn j A B) (w : Nat) : eStr A w = eStr B w := by
  unfold eStr
  rw [h.1 0 w (by omega) (by omega), h.1 1 w (by omega) (by omega), h.1 7 _ (by omega) (by omega)]
theorem Wn.may {j : Nat} {A B : Gd} (h : Wn j A B) (w t : Nat) : eMay A w t = eMay B w t := by
  unfold eMay eWat
  rw [h.1 9 3 (by omega) (by omega), h.gone, h.str, h.1 8 _ (by omega) (by omega)]
theorem Wn.ch {j : Nat} {A B : Gd} (h : Wn j A B) (k t n : Nat) : eCh A k t n = eCh B k t n := by
  induction n with
  | zero => rfl
  | succ n ih =>
    show eStep A k t n (eCh A k t n) = eStep B k t n (eCh B k t n)
    rw [ih]
    unfold eStep eRch ePrf
    rw [h.may]
    simp only [h.gone, h.str]
theorem Wn.go {j : Nat} {A B : Gd} (h : Wn j A B) (c : Option Nat) : Wn j (eGo A c) (eGo B c) := by
  cases c with
  | none => exact h
  | some w =>
    refine ⟨fun f i h1 h2 => ?_, h.2.1, h.2.2⟩
    show (if f = 9 ∧ i = 2 then _ else _) = (if f = 9 ∧ i = 2 then _ else _)
    rw [h.1 9 2 (by omega) (by omega), h.1 f i h1 h2]
theorem Wn.eats {j b : Nat} {A B : Gd} (h : Wn j A B) (hb : b ≠ j) (n : Nat) : Wn j (eEats A b n) (eEats B b n) := by
  induction n with
  | zero => exact h
  | succ n ih =>
    show Wn j (eGo _ (eCho _ _ _)) (eGo _ (eCho _ _ _))
    unfold eCho
    rw [ih.1 3 b (by omega) (by omega), ih.1 4 b (by omega) (by omega), ih.1 9 0 (by omega) (by omega), ih.ch]
    exact ih.go _
theorem eCho_99 {A : Gd} (hs : ∀ i, A 0 i ≤ 9) (k : Nat) : eCho A k 99 = none := by
  unfold eCho
  generalize A 9 0 = n
  induction n with
  | zero => rfl
  | succ n ih =>
    show eStep A k 99 n (eCh A k 99 n) = none
    unfold eStep
    have h1 : ¬ 99 ≤ eStr A n := by have := hs n; unfold eStr; omega
    rw [ih, show eMay A n 99 = false by unfold eMay; rw [decide_eq_false h1, Bool.and_false]]
    rfl
theorem eEats_99 {A : Gd} {j : Nat} (hs : ∀ i, A 0 i ≤ 9) (ht : A 4 j = 99) (n : Nat) : eEats A j n = A := by
  induction n with
  | zero => rfl
  | succ n ih =>
    show eEat (eEats A j n) j = A
    rw [ih]; unfold eEat; rw [ht, eCho_99 hs]; rfl
theorem Wn.birds {j : Nat} {A B : Gd} (h : Wn j A B) (hs : ∀ i, A 0 i ≤ 9) (h8 : A 9 3 < 8) (n : Nat) : Wn j (eBirds A n) (eBirds B n) := by
  induction n with
  | zero => exact h
  | succ n ih =>
    show Wn j (eEats (eBirds A n) n (eMeals A n)) (eEats (eBirds B n) n (eMeals B n))
    by_cases hn : n = j
    · subst hn
      rw [eEats_99 (fun i => by rw [eBirds_f (by omega)]; exact hs i) (by rw [eBirds_f (by omega)]; exact h.2.1)]
      rw [show eMeals B n = 0 by unfold eMeals; rw [h.2.2, ← h.1 9 3 (by omega) (by omega), if_neg (by omega)]]
      exact ih
    · rw [show eMeals A n = eMeals B n by unfold eMeals; rw [h.1 5 n (by omega) (by omega), h.1 6 n (by omega) (by omega), h.1 3 n (by omega) (by omega), h.1 9 3 (by omega) (by omega)]]
      exact ih.eats hn _
theorem Wn.hr {j : Nat} {A B : Gd} (h : Wn j A B) (hs : ∀ i, A 0 i ≤ 9) : Wn j (eHr A) (eHr B) := by
  have e3 := h.1 9 3 (by omega) (by omega)
  unfold eHr
  rw [← e3]
  split
  · exact h
  · have hb := h.birds hs (by omega) (A 9 1)
    rw [← h.1 9 1 (by omega) (by omega)]
    refine ⟨fun f i h1 h2 => ?_, hb.2.1, hb.2.2⟩
    show (if f = 9 ∧ i = 3 then _ else _) = (if f = 9 ∧ i = 3 then _ else _)
    rw [hb.1 f i h1 h2]
theorem Wn.hrs {j : Nat} {A B : Gd} (h : Wn j A B) (hs : ∀ i, A 0 i ≤ 9) (n : Nat) : Wn j (eHrs A n) (eHrs B n) := by
  induction n with
  | zero => exact h
  | succ n ih => exact ih.hr (fun i => by rw [eHrs_f (by omega) (by omega)]; exact hs i)
theorem winter_eq {g : Gd} (hI : Inv g) (j : Nat) : eLeft (eDk (gs g 4 j 99)) = eLeft (eDk (gs g 5 j 8)) := by
  have h : Wn j (gs g 4 j 99) (gs g 5 j 8) := ⟨fun f i h1 h2 => by unfold gs; rw [if_neg h1, if_neg h2], gs_eq _ _ _ _, gs_eq _ _ _ _⟩
  have h2 := h.hrs (fun i => by rw [gs_f (by decide)]; exact hI.sweet i) (8 - g 9 3)
  show eLeft (eHrs (gs g 4 j 99) (8 - g 9 3)) = eLeft (eHrs (gs g 5 j 8) (8 - g 9 3))
  unfold eLeft eAll
  rw [h2.1 9 0 (by omega) (by omega), h2.1 9 2 (by omega) (by omega)]
theorem eTs_at {g g2 : Gd} {s : Int32} {b f i : Nat} (h : ¬ (f = 4 ∧ i < b) → g f i = g2 f i) : eTs g s b f i = eTs g2 s b f i := by
  induction b with
  | zero => exact h (by omega)
  | succ b ih =>
    show (if f = 4 ∧ i = b then _ else eTs g s b f i) = (if f = 4 ∧ i = b then _ else eTs g2 s b f i)
    by_cases hb : f = 4 ∧ i = b
    · rw [if_pos hb, if_pos hb]
    · rw [if_neg hb, if_neg hb]
      exact ih (fun q => h (by omega))
theorem eTs_same {g g2 : Gd} {s : Int32} {b : Nat} (h : ∀ f i, ¬ (f = 4 ∧ i < b) → g f i = g2 f i) : eTs g s b = eTs g2 s b := by
  funext f i; exact eTs_at (h f i)
theorem eTs_out {g : Gd} {s : Int32} {b f i : Nat} (h : ¬ (f = 4 ∧ i < b)) : eTs g s b f i = g f i := by
  induction b with
  | zero => rfl
  | succ b ih =>
    show (if f = 4 ∧ i = b then _ else eTs g s b f i) = _
    rw [if_neg (by omega)]; exact ih (by omega)
