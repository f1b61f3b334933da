/-! whole rows copied -/
theorem cell_cpy (cA : ClassId) (n : Nat) (f g : Nat → Int32) : vp_cell cA (n, .inl (va_cpy f g 0 0 n)) = vp_cell cA (n, .inl f) := by
  show arrV cA n (fun j => .int (va_cpy f g 0 0 n j)) = arrV cA n (fun j => .int (f j))
  unfold arrV
  congr 1
  apply congrArg
  funext j
  have : va_cpy f g 0 0 n j.val = f j.val := by
    unfold va_cpy
    rw [if_pos ⟨Nat.zero_le _, by have := j.isLt; omega⟩]
    congr 1
    omega
  exact congrArg Value.int this
theorem P_cell {D : va_G} {cl : List vw_C} {w : va_W} {q a : Nat} {x y : ClassId × vp_A} {H : Heap} (h : vp_cell x.1 x.2 = vp_cell y.1 y.2) (hP : va_P D cl (w.set q (a, .inl x)) H) : va_P D cl (w.set q (a, .inl y)) H := by
  intro k z hk
  rw [List.getElem?_set] at hk
  have h1 := hP k
  rw [List.getElem?_set] at h1
  by_cases e : q = k
  · rw [if_pos e] at hk h1
    by_cases e2 : q < w.length
    · rw [if_pos (by omega)] at hk h1
      cases hk
      have h2 := h1 _ rfl
      show H[a]? = some (vp_cell y.1 y.2)
      rw [← h]; exact h2
    · rw [if_neg (by omega)] at hk; cases hk
  · rw [if_neg e] at hk h1
    exact h1 z hk
theorem D_cell {A : Nat → Prop} {w : va_W} {q a : Nat} {x y : va_E} (hD : va_D A (w.set q (a, x))) : va_D A (w.set q (a, y)) := by
  have key : ∀ (k : Nat) (z : Nat × va_E), (w.set q (a, y))[k]? = some z → ∃ z', (w.set q (a, x))[k]? = some z' ∧ z'.1 = z.1 := by
    intro k z hk
    rw [List.getElem?_set] at hk ⊢
    by_cases e : q = k
    · rw [if_pos e] at hk ⊢
      by_cases e2 : q < w.length
      · rw [if_pos (by omega)] at hk ⊢
        cases hk
        exact ⟨_, rfl, rfl⟩
      · rw [if_neg (by omega)] at hk; cases hk
    · rw [if_neg e] at hk ⊢
      exact ⟨z, hk, rfl⟩
  refine ⟨fun i j p q hi hj e => ?_, fun k z hk => ?_⟩
  · obtain ⟨p', h1, h2⟩ := key i p hi
    obtain ⟨q', h3, h4⟩ := key j q hj
    exact hD.1 i j p' q' h1 h3 (by rw [h2, h4]; exact e)
  · obtain ⟨z', h1, h2⟩ := key k z hk
    rw [← h2]; exact hD.2 k z' h1
section CPY
variable {l : Launch} {E : Ev} {own : String} {cc : ByteArray} {nL : Nat} {ret : Option FieldType} {rm : Room} {ini : Bool} {Xt : State → Prop} {QQ : Qe} {w0 : va_W} {ce sl pc : Nat} {lv lv' : List (Nat × Value)} {st : List Value} {w w2 : va_W}
theorem wf_copyg {i a a0 n : Nat} {f g : Nat → Int32} (q0 q1 n' : Nat) (w' : va_W) (hk : Cond.methodLink own i arraycopyName ∈ TBg ∧ Cond.native arraycopyName ∈ TBg ∧ Cond.static arraycopyName ∈ TBg ∧ Cond.initialized "java/lang/System" ∈ TBg) (he0 : w[q0]? = some (a0, .inl (E.2.1.1, n, .inl f))) (he1 : w[q1]? = some (a, .inl (E.2.1.1, n, .inl g))) (h6 : n' = n ∧ n ≤ 1024) (hf : 1 ≤ rm.frames) (hlo : (st.map fun v => v.category).sum + (nativeFrameWords "java/lang/System" "arraycopy" 5 + 11) ≤ rm.locals) (hw : w.set q1 (a, .inl (E.2.1.1, n, .inl f)) = w') (d : decode cc pc = .ok (.invokestatic i, 3)) (k : WF l E own cc nL ret rm ini Xt QQ w0 ce sl (pc + 3) lv st w') : WF l E own cc nL ret rm ini Xt QQ w0 ce sl pc lv (.int (nI n') :: .int (nI 0) :: .ref a :: .int (nI 0) :: .ref a0 :: st) w := by
  obtain ⟨rfl, h6⟩ := h6
  subst hw
  refine wf_copyi q0 q1 n' _ hk he0 he1 (Nat.le_refl _) (Nat.le_refl _) h6 hf hlo rfl d ?_
  intro p e s m args below meth c H locs ls hC hl hP hD hS
  exact k p e s m args below meth c H locs ls hC hl (P_cell (cell_cpy _ _ _ _) hP) (D_cell hD) hS
end CPY
theorem eS_no1 {g : Gd} {k t n : Nat} (h : eMay g n t = false) : eCh g k t (n + 1) = eCh g k t n := by
  show eStep _ _ _ _ _ = _
  unfold eStep; rw [h]; rfl
theorem eS_no2 {g : Gd} {k t n : Nat} (h : eRch g k n = false) : eCh g k t (n + 1) = eCh g k t n := by
  show eStep _ _ _ _ _ = _
  unfold eStep; rw [h, Bool.and_false]; rfl
theorem eS_new {g : Gd} {k t n : Nat} (h1 : eMay g n t = true) (h2 : eRch g k n = true) (hc : eCh g k t n = none) : eCh g k t (n + 1) = some n := by
  show eStep _ _ _ _ _ = _
  unfold eStep; rw [h1, h2, hc]; rfl
theorem eS_prf {g : Gd} {k t n c : Nat} (h1 : eMay g n t = true) (h2 : eRch g k n = true) (hc : eCh g k t n = some c) (hp : ePrf g k n c = true) : eCh g k t (n + 1) = some n := by
  show eStep _ _ _ _ _ = _
  unfold eStep; rw [h1, h2, hc]; simp [hp]
theorem eS_not {g : Gd} {k t n c : Nat} (h1 : eMay g n t = true) (h2 : eRch g k n = true) (hc : eCh g k t n = some c) (hp : ePrf g k n c = false) : eCh g k t (n + 1) = some c := by
  show eStep _ _ _ _ _ = _
  unfold eStep; rw [h1, h2, hc]; simp [hp]
theorem eHas_n {j n : Nat} (hj : j < 2 ^ 31) (hn : n < 2 ^ 31) : eHas (nI j) n = decide (j < n) := by
  unfold eHas
  rw [decide_eq_true (nI_pos' hj), Bool.true_and]
  by_cases h : j < n
  · rw [decide_eq_true h, decide_eq_true (nI_lt h hn)]
  · rw [decide_eq_false h, decide_eq_false (nI_nlt (by omega) hj)]
theorem eHas_i {x : Int32} {n : Nat} (hn : n < 2 ^ 31) (h : eHas x n = true) : ∃ j, j < n ∧ x = nI j := by
  unfold eHas at h
  rw [Bool.and_eq_true, decide_eq_true_eq, decide_eq_true_eq] at h
  obtain ⟨j, hj, rfl⟩ := nI_of (Int32.not_lt.mpr h.1)
  exact ⟨j, (nI_ltI hj hn).mp h.2, rfl⟩
theorem eHr_dusk {g : Gd} (h : 8 ≤ g 9 3) : eHr g = g := by unfold eHr; rw [if_pos h]
section LVC
variable {l : Launch} {E : Ev} {own : String} {cc : ByteArray} {nL : Nat} {ret : Option FieldType} {rm : Room} {ini : Bool} {Xt : State → Prop} {QQ : Qe} {w0 : va_W} {ce sl pc : Nat} {lv : List (Nat × Value)} {st : List Value} {w w2 : va_W}
/-- the locals in other words -/
theorem wf_lvc (lv' : List (Nat × Value)) (h : lv = lv') (k : WF l E own cc nL ret rm ini Xt QQ w0 ce sl pc lv' st w) : WF l E own cc nL ret rm ini Xt QQ w0 ce sl pc lv st w := h ▸ k
end LVC
