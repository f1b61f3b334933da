/-! PURE: boys: who is gone stays so -/
theorem go_mono {g : Gd} {c : Option Nat} {i : Nat} (h : (g 9 2).testBit i = true) : (eGo g c 9 2).testBit i = true := by
  cases c with
  | none => exact h
  | some w =>
    show (gs g 9 2 (g 9 2 ||| (1 <<< w)) 9 2).testBit i = true
    rw [gs_eq, Nat.testBit_or, h, Bool.true_or]
theorem eats_mono {g : Gd} {b i : Nat} (n : Nat) (h : (g 9 2).testBit i = true) : (eEats g b n 9 2).testBit i = true := by
  induction n with
  | zero => exact h
  | succ n ih => exact go_mono ih
theorem birds_mono {g : Gd} {i : Nat} (n : Nat) (h : (g 9 2).testBit i = true) : (eBirds g n 9 2).testBit i = true := by
  induction n with
  | zero => exact h
  | succ n ih => exact eats_mono _ ih
theorem hr_mono {g : Gd} {i : Nat} (h : (g 9 2).testBit i = true) : (eHr g 9 2).testBit i = true := by
  unfold eHr
  split
  · exact h
  · exact birds_mono (g 9 1) h
theorem hrs_mono {g : Gd} {i : Nat} (n : Nat) (h : (g 9 2).testBit i = true) : (eHrs g n 9 2).testBit i = true := by
  induction n with
  | zero => exact h
  | succ n ih => exact hr_mono ih
theorem and0 {x y : Nat} : x &&& y = 0 ↔ ∀ i, x.testBit i = true → y.testBit i = false := by
  constructor
  · intro h i hx
    have h1 := congrArg (fun z => z.testBit i) h
    simp only [Nat.testBit_and, hx, Bool.true_and, Nat.zero_testBit] at h1
    exact h1
  · intro h
    apply Nat.eq_of_testBit_eq; intro i
    rw [Nat.testBit_and, Nat.zero_testBit]
    cases hx : x.testBit i
    · rfl
    · rw [h i hx]; rfl
theorem eKp_iff {w : Nat} : ∀ (n : Nat) (g : Gd), eKp g w n = decide (eHrs g n 9 2 &&& w = 0) := by
  intro n
  induction n with
  | zero => intro g; rfl
  | succ n ih =>
    intro g
    show (if g 9 2 &&& w = 0 then eKp (eHr g) w n else false) = _
    rw [ih (eHr g), eHrs_left]
    by_cases h : g 9 2 &&& w = 0
    · rw [if_pos h]
    · rw [if_neg h]
      symm
      apply decide_eq_false
      intro z
      exact h (and0.mpr (fun i hi => and0.mp z i (hrs_mono _ hi)))
theorem mWs_all (g : Gd) (S n : Nat) : mWs g S (-9) n = eWs g S n := by
  induction n with
  | zero => rfl
  | succ n ih =>
    show gs (mWs g S (-9) n) 8 n (g 8 n ||| mWv (-9) S n) = gs (eWs g S n) 8 n (g 8 n ||| S)
    rw [ih, show mWv (-9) S n = S from if_pos (by decide)]
theorem eWs_at {g : Gd} {S : Nat} (n i : Nat) : eWs g S n 8 i = if i < n then g 8 i ||| S else g 8 i := by
  induction n with
  | zero => rw [if_neg (Nat.not_lt_zero _)]; rfl
  | succ n ih =>
    show (if 8 = 8 ∧ i = n then g 8 n ||| S else eWs g S n 8 i) = _
    by_cases h : i = n
    · subst h; rw [if_pos ⟨rfl, rfl⟩, if_pos (by omega)]
    · rw [if_neg (fun z => h z.2), ih]
      by_cases h2 : i < n
      · rw [if_pos h2, if_pos (by omega)]
      · rw [if_neg h2, if_neg (by omega)]
theorem bit_lt {x n i : Nat} (h : x < 2 ^ n) (hi : x.testBit i = true) : i < n := by
  apply Decidable.byContradiction; intro hn
  have h1 : x.testBit i = false := Nat.testBit_lt_two_pow (Nat.lt_of_lt_of_le h (Nat.pow_le_pow_right (by decide) (by omega)))
  rw [h1] at hi; cases hi
theorem Inv.le_all {g : Gd} (hI : Inv g) {w : Nat} (hw : w ≤ eAll g) : w < 2 ^ g 9 0 := Nat.lt_of_le_of_lt hw hI.oAllW
theorem mKp_iff {g : Gd} (hI : Inv g) {w S : Nat} (hw : w ≤ eAll g) : ldf w (eLeft (eDk (mWs g S (-9) 8))) = 0 ↔ eKept g w S = true := by
  unfold eKept
  rw [eKp_iff, decide_eq_true_eq, mWs_all]
  have e1 : eDk (eWs g S 8) = eHrs (eWs g S 8) (8 - g 9 3) := by unfold eDk; rw [eWs_f (by decide)]
  rw [e1]
  generalize hG : eHrs (eWs g S 8) (8 - g 9 3) = G
  have e0 : G 9 0 = g 9 0 := by rw [← hG, eHrs_f (by decide) (by decide), eWs_f (by decide)]
  have hA : eAll G = 2 ^ g 9 0 - 1 := by unfold eAll; rw [e0, Nat.shiftLeft_eq, Nat.one_mul]
  have hb : ∀ i, (ldf w (eLeft G)).testBit i = (w.testBit i && (G 9 2).testBit i) := by
    intro i
    unfold eLeft
    rw [ldf_bit, ldf_bit, hA, Nat.testBit_two_pow_sub_one]
    cases hi : w.testBit i
    · rfl
    · rw [decide_eq_true (bit_lt (hI.le_all hw) hi)]
      cases (G 9 2).testBit i <;> rfl
  have e2 : ldf w (eLeft G) = G 9 2 &&& w := Nat.eq_of_testBit_eq (fun i => by rw [hb, Nat.testBit_and, Bool.and_comm])
  rw [e2]
/-! to watch who is gone changes nothing -/
def Gw (A B : Gd) : Prop := (∀ f i, f ≠ 8 → A f i = B f i) ∧ ∀ h i, (A 9 2).testBit i = false → (A 8 h).testBit i = (B 8 h).testBit i
theorem Gw.gone {A B : Gd} (h : Gw A B) (w : Nat) : eGone A w = eGone B w := by unfold eGone; rw [h.1 9 2 (by decide)]
theorem Gw.str {A B : Gd} (h : Gw A B) (w : Nat) : eStr A w = eStr B w := by
  unfold eStr
  rw [h.1 0 w (by decide), h.1 1 w (by decide), h.1 7 _ (by decide)]
theorem Gw.may {A B : Gd} (h : Gw A B) (w t : Nat) : eMay A w t = eMay B w t := by
  unfold eMay
  rw [h.1 9 3 (by decide), h.gone, h.str]
  cases hg : eGone B w
  · have e : eWat A w (B 9 3) = eWat B w (B 9 3) := by
      unfold eWat
      rw [sh_bit, sh_bit, h.2 _ w (by rw [← eGone_bit, h.gone, hg])]
    rw [e]
  · simp
theorem Gw.ch {A B : Gd} (h : Gw A B) (k t n : Nat) : eCh A k t n = eCh B k t n := by
  induction n with
  | zero => rfl
  | succ n ih =>
    show eStep A k t n (eCh A k t n) = eStep B k t n (eCh B k t n)
    rw [ih]
    unfold eStep eRch ePrf
    rw [h.may]
    simp only [h.gone, h.str]
theorem Gw.go {A B : Gd} (h : Gw A B) (c : Option Nat) : Gw (eGo A c) (eGo B c) := by
  cases c with
  | none => exact h
  | some w =>
    refine ⟨fun f i h1 => ?_, fun q i h1 => ?_⟩
    · show (if f = 9 ∧ i = 2 then _ else _) = (if f = 9 ∧ i = 2 then _ else _)
      rw [h.1 9 2 (by decide), h.1 f i h1]
    · show (A 8 q).testBit i = (B 8 q).testBit i
      refine h.2 q i ?_
      have h2 : (A 9 2 ||| (1 <<< w)).testBit i = false := h1
      rw [Nat.testBit_or, Bool.or_eq_false_iff] at h2
      exact h2.1
theorem Gw.eats {A B : Gd} (h : Gw A B) (b n : Nat) : Gw (eEats A b n) (eEats B b n) := by
  induction n with
  | zero => exact h
  | succ n ih =>
    show Gw (eGo _ (eCho _ _ _)) (eGo _ (eCho _ _ _))
    unfold eCho
    rw [ih.1 3 b (by decide), ih.1 4 b (by decide), ih.1 9 0 (by decide), ih.ch]
    exact ih.go _
theorem Gw.birds {A B : Gd} (h : Gw A B) (n : Nat) : Gw (eBirds A n) (eBirds B n) := by
  induction n with
  | zero => exact h
  | succ n ih =>
    show Gw (eEats (eBirds A n) n (eMeals A n)) (eEats (eBirds B n) n (eMeals B n))
    rw [show eMeals A n = eMeals B n by unfold eMeals; rw [h.1 5 n (by decide), h.1 6 n (by decide), h.1 3 n (by decide), h.1 9 3 (by decide)]]
    exact ih.eats _ _
theorem Gw.hr {A B : Gd} (h : Gw A B) : Gw (eHr A) (eHr B) := by
  have e3 := h.1 9 3 (by decide)
  unfold eHr
  rw [← e3]
  split
  · exact h
  · have hb := h.birds (A 9 1)
    rw [← h.1 9 1 (by decide)]
    refine ⟨fun f i h1 => ?_, fun q i h1 => hb.2 q i h1⟩
    show (if f = 9 ∧ i = 3 then _ else _) = (if f = 9 ∧ i = 3 then _ else _)
    rw [hb.1 f i h1]
theorem Gw.hrs {A B : Gd} (h : Gw A B) (n : Nat) : Gw (eHrs A n) (eHrs B n) := by
  induction n with
  | zero => exact h
  | succ n ih => exact ih.hr
theorem kept_out {g : Gd} {w S : Nat} : eKept g w (ldf S (g 9 2)) = eKept g w S := by
  have h : Gw (eWs g (ldf S (g 9 2)) 8) (eWs g S 8) := by
    refine ⟨fun f i hf => by rw [eWs_f hf, eWs_f hf], fun q i hi => ?_⟩
    rw [eWs_f (by decide)] at hi
    rw [eWs_at, eWs_at]
    split
    · rw [Nat.testBit_or, Nat.testBit_or, ldf_bit, hi]; simp
    · rfl
  unfold eKept
  rw [eKp_iff, eKp_iff, (h.hrs _).1 9 2 (by decide)]
/-! who is watched in all hours stays -/
def Kw (w : Nat) (A : Gd) : Prop := (∀ i, w.testBit i = true → (A 9 2).testBit i = false) ∧ ∀ h i, h < 8 → w.testBit i = true → (A 8 h).testBit i = true
theorem Kw.no {w : Nat} {A : Gd} (h : Kw w A) {i t : Nat} (hi : w.testBit i = true) : eMay A i t = false := by
  unfold eMay eWat
  by_cases h8 : A 9 3 < 8
  · rw [sh_bit, h.2 _ i h8 hi, decide_eq_true h8]
    simp
  · rw [decide_eq_false h8]; simp
theorem Kw.go {w : Nat} {A : Gd} (h : Kw w A) (k t : Nat) : Kw w (eGo A (eCho A k t)) := by
  cases hc : eCho A k t with
  | none => exact h
  | some v =>
    have hm := eCh_may _ _ _ _ v hc
    refine ⟨fun i hi => ?_, fun q i h8 hi => h.2 q i h8 hi⟩
    show (A 9 2 ||| (1 <<< v)).testBit i = false
    rw [Nat.testBit_or, h.1 i hi, one_bit, Bool.false_or]
    apply decide_eq_false
    intro e; subst e
    rw [h.no hi] at hm; cases hm
theorem Kw.eats {w : Nat} {A : Gd} (h : Kw w A) (b n : Nat) : Kw w (eEats A b n) := by
  induction n with
  | zero => exact h
  | succ n ih => exact ih.go _ _
theorem Kw.birds {w : Nat} {A : Gd} (h : Kw w A) (n : Nat) : Kw w (eBirds A n) := by
  induction n with
  | zero => exact h
  | succ n ih => exact ih.eats _ _
theorem Kw.hr {w : Nat} {A : Gd} (h : Kw w A) : Kw w (eHr A) := by
  unfold eHr
  split
  · exact h
  · exact ⟨(h.birds (A 9 1)).1, (h.birds (A 9 1)).2⟩
theorem Kw.hrs {w : Nat} {A : Gd} (h : Kw w A) (n : Nat) : Kw w (eHrs A n) := by
  induction n with
  | zero => exact h
  | succ n ih => exact ih.hr
theorem kept_self {g : Gd} {w : Nat} (h : w &&& g 9 2 = 0) : eKept g w w = true := by
  have hk : Kw w (eWs g w 8) := by
    refine ⟨fun i hi => ?_, fun q i h8 hi => ?_⟩
    · rw [eWs_f (by decide)]; exact and0.mp h i hi
    · rw [eWs_at, if_pos h8, Nat.testBit_or, hi, Bool.or_true]
  unfold eKept
  rw [eKp_iff, decide_eq_true_eq, Nat.and_comm]
  exact and0.mpr (hk.hrs _).1
/-! how many bits -/
theorem eCnt_mono {x z : Nat} (h : ∀ i, x.testBit i = true → z.testBit i = true) (k : Nat) : eCnt x k ≤ eCnt z k := by
  induction k with
  | zero => exact Nat.le_refl _
  | succ k ih =>
    show eCnt x k + ((x >>> k) &&& 1) ≤ eCnt z k + ((z >>> k) &&& 1)
    rw [sh_bit, sh_bit]
    cases hx : x.testBit k
    · exact Nat.add_le_add ih (Nat.zero_le _)
    · rw [h k hx]; exact Nat.add_le_add_right ih _
theorem eCnt_less {x z i : Nat} (h : ∀ i, x.testBit i = true → z.testBit i = true) (h1 : x.testBit i = false) (h2 : z.testBit i = true) (k : Nat) (hk : i < k) : eCnt x k < eCnt z k := by
  have e0 : Bool.toNat false = 0 := rfl
  have e1 : Bool.toNat true = 1 := rfl
  induction k with
  | zero => omega
  | succ k ih =>
    show eCnt x k + ((x >>> k) &&& 1) < eCnt z k + ((z >>> k) &&& 1)
    rw [sh_bit, sh_bit]
    by_cases e : i = k
    · subst e
      have hm := eCnt_mono h i
      rw [h1, h2, e0, e1]; omega
    · have hl := ih (by omega)
      cases hx : x.testBit k
      · rw [e0]; omega
      · rw [h k hx]; omega
def Bt (a b : Nat) : Prop := eBits a < eBits b ∨ (eBits a = eBits b ∧ a ≤ b)
theorem eBo_inv {g : Gd} {w : Nat} : ∀ n, ((eBo g w n).2 = eBits w + 1 ∧ ∀ S, S < n → S &&& g 9 2 = 0 → eKept g w S = true → eBits w < eBits S) ∨ (((eBo g w n).1 < n ∧ (eBo g w n).1 &&& g 9 2 = 0 ∧ eKept g w (eBo g w n).1 = true ∧ (eBo g w n).2 = eBits (eBo g w n).1) ∧ ∀ S, S < n → S &&& g 9 2 = 0 → eKept g w S = true → Bt (eBo g w n).1 S) := by
  intro n
  induction n with
  | zero => exact Or.inl ⟨rfl, fun S h => absurd h (Nat.not_lt_zero _)⟩
  | succ n ih =>
    have e : eBo g w (n + 1) = if eBits n < (eBo g w n).2 then (if n &&& g 9 2 = 0 then (if eKept g w n = true then (n, eBits n) else eBo g w n) else eBo g w n) else eBo g w n := rfl
    by_cases h1 : eBits n < (eBo g w n).2 ∧ n &&& g 9 2 = 0 ∧ eKept g w n = true
    · rw [e, if_pos h1.1, if_pos h1.2.1, if_pos h1.2.2]
      have h1a := h1.1
      refine Or.inr ⟨⟨Nat.lt_succ_self n, h1.2.1, h1.2.2, rfl⟩, fun S hS q1 q2 => ?_⟩
      show Bt n S
      by_cases hn : S = n
      · subst hn; exact Or.inr ⟨rfl, Nat.le_refl _⟩
      · rcases ih with ⟨i1, i2⟩ | ⟨⟨_, _, _, i1⟩, i2⟩
        · have hb := i2 S (by omega) q1 q2
          rw [i1] at h1a
          exact Or.inl (by omega)
        · have hb := i2 S (by omega) q1 q2
          rw [i1] at h1a
          rcases hb with hb | hb
          · exact Or.inl (by omega)
          · exact Or.inl (by omega)
    · have e2 : eBo g w (n + 1) = eBo g w n := by
        rw [e]
        by_cases c1 : eBits n < (eBo g w n).2
        · rw [if_pos c1]
          by_cases c2 : n &&& g 9 2 = 0
          · rw [if_pos c2, if_neg (fun c3 => h1 ⟨c1, c2, c3⟩)]
          · rw [if_neg c2]
        · rw [if_neg c1]
      rw [e2]
      rcases ih with ⟨i1, i2⟩ | ⟨⟨a1, a2, a3, i1⟩, i2⟩
      · refine Or.inl ⟨i1, fun S hS q1 q2 => ?_⟩
        by_cases hn : S = n
        · subst hn
          have hh : ¬ eBits S < (eBo g w S).2 := fun z => h1 ⟨z, q1, q2⟩
          rw [i1] at hh; omega
        · exact i2 S (by omega) q1 q2
      · refine Or.inr ⟨⟨Nat.lt_succ_of_lt a1, a2, a3, i1⟩, fun S hS q1 q2 => ?_⟩
        by_cases hn : S = n
        · subst hn
          have hh : ¬ eBits S < (eBo g w S).2 := fun z => h1 ⟨z, q1, q2⟩
          rw [i1] at hh
          by_cases hb : eBits (eBo g w S).1 < eBits S
          · exact Or.inl hb
          · exact Or.inr ⟨by omega, by omega⟩
        · exact i2 S (by omega) q1 q2
/-- the model's way: from all words down -/
def mBo (g : Gd) (w : Nat) : Nat → Nat
  | 0 => w
  | n + 1 => if eBits (eAll g - n) ≤ eBits (mBo g w n) ∧ eKept g w (eAll g - n) = true then eAll g - n else mBo g w n
theorem mBo_inv {g : Gd} {w : Nat} (hw : w ≤ eAll g) (hP : eKept g w w = true) : ∀ n, n ≤ eAll g + 1 → mBo g w n ≤ eAll g ∧ eKept g w (mBo g w n) = true ∧ (∀ S, eAll g + 1 ≤ S + n → S ≤ eAll g → eKept g w S = true → Bt (mBo g w n) S) := by
  intro n
  induction n with
  | zero => intro _; exact ⟨hw, hP, fun S h1 h2 _ => absurd h1 (by omega)⟩
  | succ n ih =>
    intro hn
    obtain ⟨i1, i2, i3⟩ := ih (by omega)
    have e : mBo g w (n + 1) = if eBits (eAll g - n) ≤ eBits (mBo g w n) ∧ eKept g w (eAll g - n) = true then eAll g - n else mBo g w n := rfl
    by_cases c : eBits (eAll g - n) ≤ eBits (mBo g w n) ∧ eKept g w (eAll g - n) = true
    · rw [e, if_pos c]
      have c1 := c.1
      refine ⟨Nat.sub_le _ _, c.2, fun S h1 h2 h3 => ?_⟩
      by_cases hS : S = eAll g - n
      · rw [hS]; exact Or.inr ⟨rfl, Nat.le_refl _⟩
      · rcases i3 S (by omega) h2 h3 with t | t
        · exact Or.inl (by omega)
        · by_cases q : eBits (eAll g - n) < eBits S
          · exact Or.inl q
          · exact Or.inr ⟨by omega, by omega⟩
    · rw [e, if_neg c]
      refine ⟨i1, i2, fun S h1 h2 h3 => ?_⟩
      by_cases hS : S = eAll g - n
      · subst hS
        have hh : ¬ eBits (eAll g - n) ≤ eBits (mBo g w n) := fun z => c ⟨z, h3⟩
        exact Or.inl (by omega)
      · exact i3 S (by omega) h2 h3
theorem mBo_le {g : Gd} {w : Nat} (hw : w ≤ eAll g) (n : Nat) : mBo g w n ≤ eAll g := by
  induction n with
  | zero => exact hw
  | succ n ih =>
    show (if eBits (eAll g - n) ≤ eBits (mBo g w n) ∧ eKept g w (eAll g - n) = true then eAll g - n else mBo g w n) ≤ eAll g
    split
    · exact Nat.sub_le _ _
    · exact ih
theorem boys_eq {g : Gd} {w : Nat} (hI : Inv g) (hw : w ≤ eAll g) (h0 : w &&& g 9 2 = 0) : mBo g w (eAll g + 1) = (eBo g w (eAll g + 1)).1 := by
  have hP := kept_self h0
  obtain ⟨m1, m2, m3⟩ := mBo_inv hw hP (eAll g + 1) (Nat.le_refl _)
  have hA := hI.all
  have hq : mBo g w (eAll g + 1) &&& g 9 2 = 0 := by
    apply Decidable.byContradiction
    intro c
    have hl : eBits (ldf (mBo g w (eAll g + 1)) (g 9 2)) < eBits (mBo g w (eAll g + 1)) := by
      apply Decidable.byContradiction
      intro hn
      refine c (and0.mpr (fun i hi => ?_))
      cases hG : (g 9 2).testBit i
      · rfl
      · exact absurd (eCnt_less (x := ldf (mBo g w (eAll g + 1)) (g 9 2)) (z := mBo g w (eAll g + 1)) (i := i) (fun k hk => by
            rw [ldf_bit] at hk
            cases hm : (mBo g w (eAll g + 1)).testBit k
            · rw [hm] at hk; cases hk
            · rfl) (by rw [ldf_bit, hi, hG]; rfl) hi 10 (bit_lt (n := 10) (by show _ < 1024; omega) hi)) hn
    have hb := m3 (ldf (mBo g w (eAll g + 1)) (g 9 2)) (by omega) (Nat.le_trans (ldf_le _ _) m1) (by rw [kept_out]; exact m2)
    rcases hb with hb | hb <;> omega
  rcases eBo_inv (g := g) (w := w) (eAll g + 1) with ⟨i1, i2⟩ | ⟨⟨a1, a2, a3, _⟩, i2⟩
  · exact absurd (i2 w (by omega) h0 hP) (Nat.lt_irrefl _)
  · have b1 := i2 _ (by omega) hq m2
    have b2 := m3 _ (by omega) (by omega) a3
    rcases b1 with b1 | b1 <;> rcases b2 with b2 | b2 <;> omega
/-! PURE: mixed, with no early end -/
def mMx (g : Gd) (A : Nat) : Nat → Nat × Nat
  | 0 => (0, 0)
  | k + 1 => if A < eDs k then mMx g A k else if (mMx g A k).2 < eLeftN (eDk (eBt g k)) + 1 then (k, eLeftN (eDk (eBt g k)) + 1) else mMx g A k
theorem eHrs_le {g : Gd} (hI : Inv g) (n : Nat) : eLeftN (eHrs g n) ≤ eLeftN g := by
  induction n with
  | zero => exact Nat.le_refl _
  | succ n ih => exact Nat.le_trans (eHr_le (hI.oHrs n)) ih
theorem bt_le {g : Gd} (hI : Inv g) {k : Nat} (hk : k < 1000) : eLeftN (eDk (eBt g k)) ≤ eLeftN g := by
  have h := eHrs_le (hI.oBt hk) (8 - eBt g k 9 3)
  exact h
theorem mMx_stop {g : Gd} {A : Nat} (hI : Inv g) : ∀ f k, f + k ≤ 1000 → eLeftN g < (mMx g A k).2 → mMx g A (k + f) = mMx g A k := by
  intro f
  induction f with
  | zero => intro k _ _; rfl
  | succ f ih =>
    intro k hk h
    have h1 := ih k (by omega) h
    have hb := bt_le hI (k := k + f) (by omega)
    show (if A < eDs (k + f) then mMx g A (k + f) else if (mMx g A (k + f)).2 < eLeftN (eDk (eBt g (k + f))) + 1 then (k + f, eLeftN (eDk (eBt g (k + f))) + 1) else mMx g A (k + f)) = mMx g A k
    rw [h1, if_neg (show ¬ (mMx g A k).2 < eLeftN (eDk (eBt g (k + f))) + 1 by omega)]
    split <;> rfl
theorem mMx_eq {g : Gd} {A : Nat} (hI : Inv g) : ∀ f k, f + k = 1000 → eMx g A f k (mMx g A k) = mMx g A 1000 := by
  intro f
  induction f with
  | zero => intro k hk; show mMx g A k = mMx g A 1000; rw [show k = 1000 by omega]
  | succ f ih =>
    intro k hk
    have hs := ih (k + 1) (by omega)
    have e : mMx g A (k + 1) = if A < eDs k then mMx g A k else if (mMx g A k).2 < eLeftN (eDk (eBt g k)) + 1 then (k, eLeftN (eDk (eBt g k)) + 1) else mMx g A k := rfl
    show (if (mMx g A k).2 ≤ eLeftN g then (if A < eDs k then eMx g A f (k + 1) (mMx g A k) else if (mMx g A k).2 < eLeftN (eDk (eBt g k)) + 1 then eMx g A f (k + 1) (k, eLeftN (eDk (eBt g k)) + 1) else eMx g A f (k + 1) (mMx g A k)) else mMx g A k) = _
    by_cases c : (mMx g A k).2 ≤ eLeftN g
    · rw [if_pos c]
      rw [e] at hs
      by_cases c1 : A < eDs k
      · rw [if_pos c1] at hs ⊢; exact hs
      · rw [if_neg c1] at hs ⊢
        by_cases c2 : (mMx g A k).2 < eLeftN (eDk (eBt g k)) + 1
        · rw [if_pos c2] at hs ⊢; exact hs
        · rw [if_neg c2] at hs ⊢; exact hs
    · rw [if_neg c]
      have hst := mMx_stop (A := A) hI (f + 1) k (by omega) (Nat.lt_of_not_le c)
      rw [show k + (f + 1) = 1000 by omega] at hst
      exact hst.symm
theorem mMx_pos {g : Gd} {A : Nat} : ∀ k, 1 ≤ (mMx g A (k + 1)).2 := by
  intro k
  induction k with
  | zero =>
    have e0 : eDs 0 = 0 := rfl
    show 1 ≤ (if A < eDs 0 then ((0, 0) : Nat × Nat) else if 0 < eLeftN (eDk (eBt g 0)) + 1 then (0, eLeftN (eDk (eBt g 0)) + 1) else (0, 0)).2
    rw [if_neg (by omega), if_pos (Nat.succ_pos _)]
    exact Nat.succ_le_succ (Nat.zero_le _)
  | succ k ih =>
    show 1 ≤ (if A < eDs (k + 1) then mMx g A (k + 1) else if (mMx g A (k + 1)).2 < eLeftN (eDk (eBt g (k + 1))) + 1 then (k + 1, eLeftN (eDk (eBt g (k + 1))) + 1) else mMx g A (k + 1)).2
    split
    · exact ih
    · split
      · exact Nat.succ_le_succ (Nat.zero_le _)
      · exact ih
theorem mMx_le (g : Gd) (A k : Nat) : (mMx g A k).2 ≤ 11 ∧ (mMx g A k).1 ≤ k := by
  induction k with
  | zero => exact ⟨Nat.zero_le _, Nat.le_refl _⟩
  | succ k ih =>
    show (if A < eDs k then mMx g A k else if (mMx g A k).2 < eLeftN (eDk (eBt g k)) + 1 then (k, eLeftN (eDk (eBt g k)) + 1) else mMx g A k).2 ≤ 11 ∧ (if A < eDs k then mMx g A k else if (mMx g A k).2 < eLeftN (eDk (eBt g k)) + 1 then (k, eLeftN (eDk (eBt g k)) + 1) else mMx g A k).1 ≤ k + 1
    split
    · exact ⟨ih.1, by omega⟩
    · split
      · exact ⟨Nat.succ_le_succ (eLeftN_le _), Nat.le_succ _⟩
      · exact ⟨ih.1, by omega⟩
/-- the best so far, none yet -/
def mB (p : Nat × Nat) : Int32 := if p.2 = 0 then -9 else nI p.1
theorem bt_same {g gw : Gd} {k : Nat} (h : ∀ f i, ¬ (f = 7 ∧ i < 3) → gw f i = g f i) : eBt gw k = eBt g k := by
  funext f i
  show (if f = 7 ∧ i = 2 then k % 10 else if f = 7 ∧ i = 1 then k / 10 % 10 else if f = 7 ∧ i = 0 then k / 100 else gw f i) = (if f = 7 ∧ i = 2 then k % 10 else if f = 7 ∧ i = 1 then k / 10 % 10 else if f = 7 ∧ i = 0 then k / 100 else g f i)
  by_cases c : f = 7 ∧ i < 3
  · by_cases c2 : f = 7 ∧ i = 2
    · rw [if_pos c2, if_pos c2]
    · rw [if_neg c2, if_neg c2]
      by_cases c1 : f = 7 ∧ i = 1
      · rw [if_pos c1, if_pos c1]
      · rw [if_neg c1, if_neg c1, if_pos (by omega), if_pos (by omega)]
  · rw [h f i c]
theorem bt_out {g : Gd} {k f i : Nat} (h : ¬ (f = 7 ∧ i < 3)) : eBt g k f i = g f i := by
  show (if f = 7 ∧ i = 2 then k % 10 else if f = 7 ∧ i = 1 then k / 10 % 10 else if f = 7 ∧ i = 0 then k / 100 else g f i) = g f i
  rw [if_neg (by omega), if_neg (by omega), if_neg (by omega)]
theorem mixed_eq {g : Gd} {A : Nat} (hI : Inv g) : eMx g A 1000 0 (0, 0) = mMx g A 1000 := mMx_eq hI 1000 0 rfl
theorem mB_p {p : Nat × Nat} (h : 1 ≤ p.2) : mB p = nI p.1 := if_neg (by omega)
theorem mB_s (k v : Nat) : mB (k, v + 1) = nI k := if_neg (Nat.succ_ne_zero v)
theorem mB_neg {p : Nat × Nat} (hp : p.1 < 2 ^ 31) : mB p < 0 ↔ p.2 = 0 := by
  unfold mB
  by_cases h : p.2 = 0
  · rw [if_pos h]; exact ⟨fun _ => h, fun _ => by decide⟩
  · rw [if_neg h]; exact ⟨fun q => absurd q (nI_pos hp), fun q => absurd q h⟩
theorem eG1_p {m : Nat} (h : 1 ≤ m) : eG1 m = nI (m - 1) := nI_m1 h
theorem eG1_d (m : Nat) : nI m + (-1) = eG1 m := (Int32.sub_eq_add_neg (nI m) 1).symm
