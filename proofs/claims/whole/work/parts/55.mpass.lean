/-! PURE: what is put away ahead, and back behind -/
def enc (g : Gd) (k : Nat) : Nat := if k < 10 then g 0 k else if k < 20 then g 1 (k - 10) else if k < 30 then g 2 (k - 20) else if k < 34 then g 3 (k - 30) else if k < 38 then g 4 (k - 34) else if k < 42 then g 5 (k - 38) else if k < 46 then g 6 (k - 42) else if k < 49 then g 7 (k - 46) else if k < 57 then g 8 (k - 49) else if k = 57 then g 9 0 else if k = 58 then g 9 1 else if k = 59 then g 9 3 else g 9 2
def kq (j : Gd) (c : Nat) (g : Gd) (m : Nat) : Gd := fun a i => if a = 5 ∧ c ≤ i ∧ i < c + m then enc g (i - c) else if a = 0 ∧ i = 5 then c + m else if a = 0 ∧ i = 4 then 1 else j a i
theorem kq_05 (j : Gd) (c : Nat) (g : Gd) (m : Nat) : kq j c g m 0 5 = c + m := rfl
theorem kq_04 (j : Gd) (c : Nat) (g : Gd) (m : Nat) : kq j c g m 0 4 = 1 := rfl
theorem kq_0 {j : Gd} {c : Nat} {g : Gd} : gs (gs j 0 5 c) 0 4 1 = kq j c g 0 := by
  funext a i
  show (if a = 0 ∧ i = 4 then 1 else if a = 0 ∧ i = 5 then c else j a i) = (if a = 5 ∧ c ≤ i ∧ i < c + 0 then enc g (i - c) else if a = 0 ∧ i = 5 then c + 0 else if a = 0 ∧ i = 4 then 1 else j a i)
  rw [if_neg (show ¬ (a = 5 ∧ c ≤ i ∧ i < c + 0) by omega)]
  by_cases h1 : a = 0 ∧ i = 5
  · rw [if_neg (by omega), if_pos h1, if_pos h1]; rfl
  · rw [if_neg h1, if_neg h1]
theorem kq_s {j : Gd} {c : Nat} {g : Gd} {m v : Nat} (h : v = enc g m) : gs (gs (kq j c g m) 5 (c + m) v) 0 5 (c + m + 1) = kq j c g (m + 1) := by
  subst h
  funext a i
  show (if a = 0 ∧ i = 5 then c + m + 1 else if a = 5 ∧ i = c + m then enc g m else if a = 5 ∧ c ≤ i ∧ i < c + m then enc g (i - c) else if a = 0 ∧ i = 5 then c + m else if a = 0 ∧ i = 4 then 1 else j a i) = (if a = 5 ∧ c ≤ i ∧ i < c + (m + 1) then enc g (i - c) else if a = 0 ∧ i = 5 then c + (m + 1) else if a = 0 ∧ i = 4 then 1 else j a i)
  by_cases h1 : a = 0 ∧ i = 5
  · rw [if_pos h1, if_neg (by omega), if_pos h1]; rfl
  · rw [if_neg h1]
    by_cases h2 : a = 5 ∧ i = c + m
    · rw [if_pos h2, if_pos (by omega)]; exact congrArg (enc g) (by omega)
    · rw [if_neg h2]
      by_cases h3 : a = 5 ∧ c ≤ i ∧ i < c + m
      · rw [if_pos h3, if_pos (by omega)]
      · rw [if_neg h3, if_neg h1, if_neg (show ¬ (a = 5 ∧ c ≤ i ∧ i < c + (m + 1)) by omega), if_neg h1]
def jr (j : Gd) (c m : Nat) : Gd := fun a i => if a = 0 ∧ i = 5 then c + m else if a = 0 ∧ i = 4 then 0 else j a i
theorem jr_05 (j : Gd) (c m : Nat) : jr j c m 0 5 = c + m := rfl
theorem jr_04 (j : Gd) (c m : Nat) : jr j c m 0 4 = 0 := rfl
theorem jr_5 (j : Gd) (c m i : Nat) : jr j c m 5 i = j 5 i := rfl
theorem jr_0 {j : Gd} {c : Nat} : gs (gs j 0 5 c) 0 4 0 = jr j c 0 := by
  funext a i
  show (if a = 0 ∧ i = 4 then 0 else if a = 0 ∧ i = 5 then c else j a i) = (if a = 0 ∧ i = 5 then c + 0 else if a = 0 ∧ i = 4 then 0 else j a i)
  by_cases h1 : a = 0 ∧ i = 5
  · rw [if_neg (by omega), if_pos h1, if_pos h1]; rfl
  · rw [if_neg h1, if_neg h1]
theorem jr_s {j : Gd} {c m : Nat} : gs (jr j c m) 0 5 (c + m + 1) = jr j c (m + 1) := by
  funext a i
  show (if a = 0 ∧ i = 5 then c + m + 1 else if a = 0 ∧ i = 5 then c + m else if a = 0 ∧ i = 4 then 0 else j a i) = (if a = 0 ∧ i = 5 then c + (m + 1) else if a = 0 ∧ i = 4 then 0 else j a i)
  by_cases h1 : a = 0 ∧ i = 5
  · rw [if_pos h1, if_pos h1]; rfl
  · rw [if_neg h1, if_neg h1, if_neg h1]
def pos (a i : Nat) : Nat := if a = 0 ∧ i < 10 then i else if a = 1 ∧ i < 10 then 10 + i else if a = 2 ∧ i < 10 then 20 + i else if a = 3 ∧ i < 4 then 30 + i else if a = 4 ∧ i < 4 then 34 + i else if a = 5 ∧ i < 4 then 38 + i else if a = 6 ∧ i < 4 then 42 + i else if a = 7 ∧ i < 3 then 46 + i else if a = 8 ∧ i < 8 then 49 + i else if a = 9 ∧ i = 0 then 57 else if a = 9 ∧ i = 1 then 58 else if a = 9 ∧ i = 3 then 59 else if a = 9 ∧ i = 2 then 60 else 100
def posA (p : Nat) : Nat := if p < 10 then 0 else if p < 20 then 1 else if p < 30 then 2 else if p < 34 then 3 else if p < 38 then 4 else if p < 42 then 5 else if p < 46 then 6 else if p < 49 then 7 else if p < 57 then 8 else if p < 58 then 9 else if p < 59 then 9 else if p < 60 then 9 else 9
def posI (p : Nat) : Nat := if p < 10 then p - 0 else if p < 20 then p - 10 else if p < 30 then p - 20 else if p < 34 then p - 30 else if p < 38 then p - 34 else if p < 42 then p - 38 else if p < 46 then p - 42 else if p < 49 then p - 46 else if p < 57 then p - 49 else if p < 58 then 0 else if p < 59 then 1 else if p < 60 then 3 else 2
theorem posD_pos {a i : Nat} (h : pos a i < 61) : posA (pos a i) = a ∧ posI (pos a i) = i := by
  by_cases h0 : a = 0 ∧ i < 10
  · have e : pos a i = i := by unfold pos; rw [if_pos h0]
    rw [e]; obtain ⟨q1, q2⟩ := h0
    clear e h 
    have f1 : posA (i) = 0 := by unfold posA; rw [if_pos (by omega)]
    have f2 : posI (i) = (i) - 0 := by unfold posI; rw [if_pos (by omega)]
    exact ⟨f1.trans q1.symm, f2.trans (by omega)⟩
  by_cases h1 : a = 1 ∧ i < 10
  · have e : pos a i = 10 + i := by unfold pos; rw [if_neg h0, if_pos h1]
    rw [e]; obtain ⟨q1, q2⟩ := h1
    clear e h h0
    have f1 : posA (10 + i) = 1 := by unfold posA; rw [if_neg (by omega), if_pos (by omega)]
    have f2 : posI (10 + i) = (10 + i) - 10 := by unfold posI; rw [if_neg (by omega), if_pos (by omega)]
    exact ⟨f1.trans q1.symm, f2.trans (by omega)⟩
  by_cases h2 : a = 2 ∧ i < 10
  · have e : pos a i = 20 + i := by unfold pos; rw [if_neg h0, if_neg h1, if_pos h2]
    rw [e]; obtain ⟨q1, q2⟩ := h2
    clear e h h0 h1
    have f1 : posA (20 + i) = 2 := by unfold posA; rw [if_neg (by omega), if_neg (by omega), if_pos (by omega)]
    have f2 : posI (20 + i) = (20 + i) - 20 := by unfold posI; rw [if_neg (by omega), if_neg (by omega), if_pos (by omega)]
    exact ⟨f1.trans q1.symm, f2.trans (by omega)⟩
  by_cases h3 : a = 3 ∧ i < 4
  · have e : pos a i = 30 + i := by unfold pos; rw [if_neg h0, if_neg h1, if_neg h2, if_pos h3]
    rw [e]; obtain ⟨q1, q2⟩ := h3
    clear e h h0 h1 h2
    have f1 : posA (30 + i) = 3 := by unfold posA; rw [if_neg (by omega), if_neg (by omega), if_neg (by omega), if_pos (by omega)]
    have f2 : posI (30 + i) = (30 + i) - 30 := by unfold posI; rw [if_neg (by omega), if_neg (by omega), if_neg (by omega), if_pos (by omega)]
    exact ⟨f1.trans q1.symm, f2.trans (by omega)⟩
  by_cases h4 : a = 4 ∧ i < 4
  · have e : pos a i = 34 + i := by unfold pos; rw [if_neg h0, if_neg h1, if_neg h2, if_neg h3, if_pos h4]
    rw [e]; obtain ⟨q1, q2⟩ := h4
    clear e h h0 h1 h2 h3
    have f1 : posA (34 + i) = 4 := by unfold posA; rw [if_neg (by omega), if_neg (by omega), if_neg (by omega), if_neg (by omega), if_pos (by omega)]
    have f2 : posI (34 + i) = (34 + i) - 34 := by unfold posI; rw [if_neg (by omega), if_neg (by omega), if_neg (by omega), if_neg (by omega), if_pos (by omega)]
    exact ⟨f1.trans q1.symm, f2.trans (by omega)⟩
  by_cases h5 : a = 5 ∧ i < 4
  · have e : pos a i = 38 + i := by unfold pos; rw [if_neg h0, if_neg h1, if_neg h2, if_neg h3, if_neg h4, if_pos h5]
    rw [e]; obtain ⟨q1, q2⟩ := h5
    clear e h h0 h1 h2 h3 h4
    have f1 : posA (38 + i) = 5 := by unfold posA; rw [if_neg (by omega), if_neg (by omega), if_neg (by omega), if_neg (by omega), if_neg (by omega), if_pos (by omega)]
    have f2 : posI (38 + i) = (38 + i) - 38 := by unfold posI; rw [if_neg (by omega), if_neg (by omega), if_neg (by omega), if_neg (by omega), if_neg (by omega), if_pos (by omega)]
    exact ⟨f1.trans q1.symm, f2.trans (by omega)⟩
  by_cases h6 : a = 6 ∧ i < 4
  · have e : pos a i = 42 + i := by unfold pos; rw [if_neg h0, if_neg h1, if_neg h2, if_neg h3, if_neg h4, if_neg h5, if_pos h6]
    rw [e]; obtain ⟨q1, q2⟩ := h6
    clear e h h0 h1 h2 h3 h4 h5
    have f1 : posA (42 + i) = 6 := by unfold posA; rw [if_neg (by omega), if_neg (by omega), if_neg (by omega), if_neg (by omega), if_neg (by omega), if_neg (by omega), if_pos (by omega)]
    have f2 : posI (42 + i) = (42 + i) - 42 := by unfold posI; rw [if_neg (by omega), if_neg (by omega), if_neg (by omega), if_neg (by omega), if_neg (by omega), if_neg (by omega), if_pos (by omega)]
    exact ⟨f1.trans q1.symm, f2.trans (by omega)⟩
  by_cases h7 : a = 7 ∧ i < 3
  · have e : pos a i = 46 + i := by unfold pos; rw [if_neg h0, if_neg h1, if_neg h2, if_neg h3, if_neg h4, if_neg h5, if_neg h6, if_pos h7]
    rw [e]; obtain ⟨q1, q2⟩ := h7
    clear e h h0 h1 h2 h3 h4 h5 h6
    have f1 : posA (46 + i) = 7 := by unfold posA; rw [if_neg (by omega), if_neg (by omega), if_neg (by omega), if_neg (by omega), if_neg (by omega), if_neg (by omega), if_neg (by omega), if_pos (by omega)]
    have f2 : posI (46 + i) = (46 + i) - 46 := by unfold posI; rw [if_neg (by omega), if_neg (by omega), if_neg (by omega), if_neg (by omega), if_neg (by omega), if_neg (by omega), if_neg (by omega), if_pos (by omega)]
    exact ⟨f1.trans q1.symm, f2.trans (by omega)⟩
  by_cases h8 : a = 8 ∧ i < 8
  · have e : pos a i = 49 + i := by unfold pos; rw [if_neg h0, if_neg h1, if_neg h2, if_neg h3, if_neg h4, if_neg h5, if_neg h6, if_neg h7, if_pos h8]
    rw [e]; obtain ⟨q1, q2⟩ := h8
    clear e h h0 h1 h2 h3 h4 h5 h6 h7
    have f1 : posA (49 + i) = 8 := by unfold posA; rw [if_neg (by omega), if_neg (by omega), if_neg (by omega), if_neg (by omega), if_neg (by omega), if_neg (by omega), if_neg (by omega), if_neg (by omega), if_pos (by omega)]
    have f2 : posI (49 + i) = (49 + i) - 49 := by unfold posI; rw [if_neg (by omega), if_neg (by omega), if_neg (by omega), if_neg (by omega), if_neg (by omega), if_neg (by omega), if_neg (by omega), if_neg (by omega), if_pos (by omega)]
    exact ⟨f1.trans q1.symm, f2.trans (by omega)⟩
  by_cases h9 : a = 9 ∧ i = 0
  · have e : pos a i = 57 := by unfold pos; rw [if_neg h0, if_neg h1, if_neg h2, if_neg h3, if_neg h4, if_neg h5, if_neg h6, if_neg h7, if_neg h8, if_pos h9]
    rw [e]; obtain ⟨q1, q2⟩ := h9
    clear e h h0 h1 h2 h3 h4 h5 h6 h7 h8
    have f1 : posA (57) = 9 := by unfold posA; rw [if_neg (by omega), if_neg (by omega), if_neg (by omega), if_neg (by omega), if_neg (by omega), if_neg (by omega), if_neg (by omega), if_neg (by omega), if_neg (by omega), if_pos (by omega)]
    have f2 : posI (57) = 0 := by unfold posI; rw [if_neg (by omega), if_neg (by omega), if_neg (by omega), if_neg (by omega), if_neg (by omega), if_neg (by omega), if_neg (by omega), if_neg (by omega), if_neg (by omega), if_pos (by omega)]
    exact ⟨f1.trans q1.symm, f2.trans (by omega)⟩
  by_cases h10 : a = 9 ∧ i = 1
  · have e : pos a i = 58 := by unfold pos; rw [if_neg h0, if_neg h1, if_neg h2, if_neg h3, if_neg h4, if_neg h5, if_neg h6, if_neg h7, if_neg h8, if_neg h9, if_pos h10]
    rw [e]; obtain ⟨q1, q2⟩ := h10
    clear e h h0 h1 h2 h3 h4 h5 h6 h7 h8 h9
    have f1 : posA (58) = 9 := by unfold posA; rw [if_neg (by omega), if_neg (by omega), if_neg (by omega), if_neg (by omega), if_neg (by omega), if_neg (by omega), if_neg (by omega), if_neg (by omega), if_neg (by omega), if_neg (by omega), if_pos (by omega)]
    have f2 : posI (58) = 1 := by unfold posI; rw [if_neg (by omega), if_neg (by omega), if_neg (by omega), if_neg (by omega), if_neg (by omega), if_neg (by omega), if_neg (by omega), if_neg (by omega), if_neg (by omega), if_neg (by omega), if_pos (by omega)]
    exact ⟨f1.trans q1.symm, f2.trans (by omega)⟩
  by_cases h11 : a = 9 ∧ i = 3
  · have e : pos a i = 59 := by unfold pos; rw [if_neg h0, if_neg h1, if_neg h2, if_neg h3, if_neg h4, if_neg h5, if_neg h6, if_neg h7, if_neg h8, if_neg h9, if_neg h10, if_pos h11]
    rw [e]; obtain ⟨q1, q2⟩ := h11
    clear e h h0 h1 h2 h3 h4 h5 h6 h7 h8 h9 h10
    have f1 : posA (59) = 9 := by unfold posA; rw [if_neg (by omega), if_neg (by omega), if_neg (by omega), if_neg (by omega), if_neg (by omega), if_neg (by omega), if_neg (by omega), if_neg (by omega), if_neg (by omega), if_neg (by omega), if_neg (by omega), if_pos (by omega)]
    have f2 : posI (59) = 3 := by unfold posI; rw [if_neg (by omega), if_neg (by omega), if_neg (by omega), if_neg (by omega), if_neg (by omega), if_neg (by omega), if_neg (by omega), if_neg (by omega), if_neg (by omega), if_neg (by omega), if_neg (by omega), if_pos (by omega)]
    exact ⟨f1.trans q1.symm, f2.trans (by omega)⟩
  by_cases h12 : a = 9 ∧ i = 2
  · have e : pos a i = 60 := by unfold pos; rw [if_neg h0, if_neg h1, if_neg h2, if_neg h3, if_neg h4, if_neg h5, if_neg h6, if_neg h7, if_neg h8, if_neg h9, if_neg h10, if_neg h11, if_pos h12]
    rw [e]; obtain ⟨q1, q2⟩ := h12
    clear e h h0 h1 h2 h3 h4 h5 h6 h7 h8 h9 h10 h11
    have f1 : posA (60) = 9 := by unfold posA; rw [if_neg (by omega), if_neg (by omega), if_neg (by omega), if_neg (by omega), if_neg (by omega), if_neg (by omega), if_neg (by omega), if_neg (by omega), if_neg (by omega), if_neg (by omega), if_neg (by omega), if_neg (by omega)]
    have f2 : posI (60) = 2 := by unfold posI; rw [if_neg (by omega), if_neg (by omega), if_neg (by omega), if_neg (by omega), if_neg (by omega), if_neg (by omega), if_neg (by omega), if_neg (by omega), if_neg (by omega), if_neg (by omega), if_neg (by omega), if_neg (by omega)]
    exact ⟨f1.trans q1.symm, f2.trans (by omega)⟩
  have e : pos a i = 100 := by unfold pos; rw [if_neg h0, if_neg h1, if_neg h2, if_neg h3, if_neg h4, if_neg h5, if_neg h6, if_neg h7, if_neg h8, if_neg h9, if_neg h10, if_neg h11, if_neg h12]
  rw [e] at h; exact absurd h (by decide)
theorem pos_inj {a i b k : Nat} (h : pos a i = pos b k) (h2 : pos a i < 61) : a = b ∧ i = k := by
  have h3 := posD_pos (h ▸ h2 : pos b k < 61)
  have h4 := posD_pos h2
  rw [h] at h4
  exact ⟨h4.1.symm.trans h3.1, h4.2.symm.trans h3.2⟩
def rq (g0 g : Gd) (m : Nat) : Gd := fun a i => if pos a i < m then g0 a i else g a i
theorem rq_0 (g0 g : Gd) : rq g0 g 0 = g := by
  funext a i; exact if_neg (Nat.not_lt_zero _)
theorem rq_s {g0 g : Gd} {m f i v : Nat} (hp : pos f i = m) (hm : m < 61) (hv : v = g0 f i) : gs (rq g0 g m) f i v = rq g0 g (m + 1) := by
  funext a k
  show (if a = f ∧ k = i then v else if pos a k < m then g0 a k else g a k) = (if pos a k < m + 1 then g0 a k else g a k)
  by_cases h : a = f ∧ k = i
  · obtain ⟨rfl, rfl⟩ := h
    rw [if_pos ⟨rfl, rfl⟩, if_pos (by omega), hv]
  · rw [if_neg h]
    have h2 : pos a k ≠ m := fun e => h (pos_inj (e.trans hp.symm) (by omega))
    by_cases h3 : pos a k < m
    · rw [if_pos h3, if_pos (by omega)]
    · rw [if_neg h3, if_neg (by omega)]
theorem gs_id (g : Gd) (f i : Nat) : gs g f i (g f i) = g := by
  funext a k
  show (if a = f ∧ k = i then g f i else g a k) = g a k
  split
  · rename_i h; rw [h.1, h.2]
  · rfl
theorem enc_0 {g : Gd} {n : Nat} (h : n < 10) : enc g (0 + n) = g 0 n := by rw [Nat.zero_add]; exact if_pos h
theorem pos_0 {n : Nat} (h : n < 10) : pos 0 n = 0 + n := by rw [Nat.zero_add]; exact if_pos ⟨rfl, h⟩
theorem enc_1 {g : Gd} {n : Nat} (h : n < 10) : enc g (10 + n) = g 1 n := by unfold enc; rw [if_neg (by omega), if_pos (by omega), Nat.add_sub_cancel_left]
theorem pos_1 {n : Nat} (h : n < 10) : pos 1 n = 10 + n := by unfold pos; rw [if_neg (by omega), if_pos ⟨rfl, h⟩]
theorem enc_2 {g : Gd} {n : Nat} (h : n < 10) : enc g (20 + n) = g 2 n := by unfold enc; rw [if_neg (by omega), if_neg (by omega), if_pos (by omega), Nat.add_sub_cancel_left]
theorem pos_2 {n : Nat} (h : n < 10) : pos 2 n = 20 + n := by unfold pos; rw [if_neg (by omega), if_neg (by omega), if_pos ⟨rfl, h⟩]
theorem enc_3 {g : Gd} {n : Nat} (h : n < 4) : enc g (30 + n) = g 3 n := by unfold enc; rw [if_neg (by omega), if_neg (by omega), if_neg (by omega), if_pos (by omega), Nat.add_sub_cancel_left]
theorem pos_3 {n : Nat} (h : n < 4) : pos 3 n = 30 + n := by unfold pos; rw [if_neg (by omega), if_neg (by omega), if_neg (by omega), if_pos ⟨rfl, h⟩]
theorem enc_4 {g : Gd} {n : Nat} (h : n < 4) : enc g (34 + n) = g 4 n := by unfold enc; rw [if_neg (by omega), if_neg (by omega), if_neg (by omega), if_neg (by omega), if_pos (by omega), Nat.add_sub_cancel_left]
theorem pos_4 {n : Nat} (h : n < 4) : pos 4 n = 34 + n := by unfold pos; rw [if_neg (by omega), if_neg (by omega), if_neg (by omega), if_neg (by omega), if_pos ⟨rfl, h⟩]
theorem enc_5 {g : Gd} {n : Nat} (h : n < 4) : enc g (38 + n) = g 5 n := by unfold enc; rw [if_neg (by omega), if_neg (by omega), if_neg (by omega), if_neg (by omega), if_neg (by omega), if_pos (by omega), Nat.add_sub_cancel_left]
theorem pos_5 {n : Nat} (h : n < 4) : pos 5 n = 38 + n := by unfold pos; rw [if_neg (by omega), if_neg (by omega), if_neg (by omega), if_neg (by omega), if_neg (by omega), if_pos ⟨rfl, h⟩]
theorem enc_6 {g : Gd} {n : Nat} (h : n < 4) : enc g (42 + n) = g 6 n := by unfold enc; rw [if_neg (by omega), if_neg (by omega), if_neg (by omega), if_neg (by omega), if_neg (by omega), if_neg (by omega), if_pos (by omega), Nat.add_sub_cancel_left]
theorem pos_6 {n : Nat} (h : n < 4) : pos 6 n = 42 + n := by unfold pos; rw [if_neg (by omega), if_neg (by omega), if_neg (by omega), if_neg (by omega), if_neg (by omega), if_neg (by omega), if_pos ⟨rfl, h⟩]
theorem enc_7 {g : Gd} {n : Nat} (h : n < 3) : enc g (46 + n) = g 7 n := by unfold enc; rw [if_neg (by omega), if_neg (by omega), if_neg (by omega), if_neg (by omega), if_neg (by omega), if_neg (by omega), if_neg (by omega), if_pos (by omega), Nat.add_sub_cancel_left]
theorem pos_7 {n : Nat} (h : n < 3) : pos 7 n = 46 + n := by unfold pos; rw [if_neg (by omega), if_neg (by omega), if_neg (by omega), if_neg (by omega), if_neg (by omega), if_neg (by omega), if_neg (by omega), if_pos ⟨rfl, h⟩]
theorem enc_8 {g : Gd} {n : Nat} (h : n < 8) : enc g (49 + n) = g 8 n := by unfold enc; rw [if_neg (by omega), if_neg (by omega), if_neg (by omega), if_neg (by omega), if_neg (by omega), if_neg (by omega), if_neg (by omega), if_neg (by omega), if_pos (by omega), Nat.add_sub_cancel_left]
theorem pos_8 {n : Nat} (h : n < 8) : pos 8 n = 49 + n := by unfold pos; rw [if_neg (by omega), if_neg (by omega), if_neg (by omega), if_neg (by omega), if_neg (by omega), if_neg (by omega), if_neg (by omega), if_neg (by omega), if_pos ⟨rfl, h⟩]
