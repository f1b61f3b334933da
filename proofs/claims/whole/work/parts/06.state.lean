/-! STATE: what the cells hold, as numbers. A garden g : field -> place -> number; fields 0 sweet 1 ink 2 meaning 3 kind 4 taste 5 from 6 till 7 bitter 8 watched, 9: 0 words 1 birds 2 gone 3 hour. What else the class holds, y: field 0: 0 image taken 1 letters 2 row length; 1 the letters, 2 the row, 3 refusals. -/
abbrev Gd : Type := Nat → Nat → Nat
def gs (g : Gd) (f i v : Nat) : Gd := fun f' i' => if f' = f ∧ i' = i then v else g f' i'
theorem gs_eq (g : Gd) (f i v : Nat) : gs g f i v f i = v := by simp [gs]
theorem gs_f {g : Gd} {f i v f' j : Nat} (h : f' ≠ f) : gs g f i v f' j = g f' j := by simp [gs, h]
theorem gs_i {g : Gd} {f i v j : Nat} (h : j ≠ i) : gs g f i v f j = g f j := by simp [gs, h]
theorem upd_gs (g : Gd) (f i v : Nat) : upd (fun j => nI (g f j)) i (nI v) = fun j => nI (gs g f i v f j) := by
  funext j
  unfold upd gs
  by_cases h : j = i <;> simp [h]
/-- a garden's cells at the addresses a, the array of kinds at ka -/
def wg (E : Ev) (ka : Nat) (a : Nat → Nat) (g : Gd) : va_W := [
  (a 0, .inr (2, [.ref ka, .ref (a 1), .ref (a 2), .ref (a 3), .int (nI (g 9 0)), .ref (a 4), .ref (a 5), .ref (a 6), .ref (a 7), .int (nI (g 9 1)), .ref (a 8), .ref (a 9), .int (nI (g 9 2)), .int (nI (g 9 3))])),
  (a 1, .inl (E.2.1.1, 10, .inl (fun j => nI (g 0 j)))),
  (a 2, .inl (E.2.1.1, 10, .inl (fun j => nI (g 1 j)))),
  (a 3, .inl (E.2.1.1, 10, .inl (fun j => nI (g 2 j)))),
  (a 4, .inl (E.2.1.1, 4, .inl (fun j => nI (g 3 j)))),
  (a 5, .inl (E.2.1.1, 4, .inl (fun j => nI (g 4 j)))),
  (a 6, .inl (E.2.1.1, 4, .inl (fun j => nI (g 5 j)))),
  (a 7, .inl (E.2.1.1, 4, .inl (fun j => nI (g 6 j)))),
  (a 8, .inl (E.2.1.1, 3, .inl (fun j => nI (g 7 j)))),
  (a 9, .inl (E.2.1.1, 8, .inl (fun j => nI (g 8 j))))]
/-- the kinds: s t c o g f -/
def wk (E : Ev) (kk : Nat → Nat) : va_W := [
  (kk 6, .inl (E.2.1.2.2, 6, .inr (.inr (.inr (.inr (fun j => some (kk j))))))),
  (kk 0, .inr (6, [])), (kk 1, .inr (7, [])), (kk 2, .inr (0, [])), (kk 3, .inr (5, [])), (kk 4, .inr (3, [])), (kk 5, .inr (1, []))]
/-- the letters -/
def wl (E : Ev) (al : Nat → Nat) (y : Gd) : va_W := [
  (al 0, .inr (4, [.ref (al 1), .int (nI (y 0 1))])),
  (al 1, .inl (E.2.1.2.1, 80, .inl (fun j => nI (y 1 j))))]
/-- the class's own object, its row, its refusals -/
def wx (E : Ev) (ax : Nat → Nat) (an am ai al : Nat) (y : Gd) : va_W := [
  (ax 0, .inr (8, [.ref an, .ref am, .ref ai, .int (nI (y 0 0)), .ref al, .ref (ax 1), .int (nI (y 0 2)), .ref (ax 2)])),
  (ax 1, .inl (E.2.1.1, 10, .inl (fun j => nI (y 2 j)))),
  (ax 2, .inl (E.2.1.1, 6, .inl (fun j => nI (y 3 j))))]
/-- one field as another garden's -/
def gcp (g g2 : Gd) (f : Nat) : Gd := fun f' i => if f' = f then g2 f' i else g f' i
/-- behind the first n cells -/
theorem so {s w w' : va_W} {c : Nat × va_E} (n k : Nat) (h : s.length = n) (h2 : w.set k c = w') : (s ++ w).set (n + k) c = s ++ w' := by
  subst h; subst h2
  rw [List.set_append_right (h := by omega)]
  congr 2
  omega
/-- in the first part -/
theorem sf {s s' w : va_W} {c : Nat × va_E} (k : Nat) (h : k < s.length) (h2 : s.set k c = s') : (s ++ w).set k c = s' ++ w := by
  subst h2
  rw [List.set_append_left (h := h)]
theorem wg_set0 {E : Ev} {ka : Nat} {a : Nat → Nat} {g : Gd} (i v : Nat) : (wg E ka a g).set 1 (a 1, .inl (E.2.1.1, 10, .inl (upd (fun j => nI (g 0 j)) i (nI v)))) = wg E ka a (gs g 0 i v) := by rw [upd_gs]; rfl
theorem wg_set1 {E : Ev} {ka : Nat} {a : Nat → Nat} {g : Gd} (i v : Nat) : (wg E ka a g).set 2 (a 2, .inl (E.2.1.1, 10, .inl (upd (fun j => nI (g 1 j)) i (nI v)))) = wg E ka a (gs g 1 i v) := by rw [upd_gs]; rfl
theorem wg_set2 {E : Ev} {ka : Nat} {a : Nat → Nat} {g : Gd} (i v : Nat) : (wg E ka a g).set 3 (a 3, .inl (E.2.1.1, 10, .inl (upd (fun j => nI (g 2 j)) i (nI v)))) = wg E ka a (gs g 2 i v) := by rw [upd_gs]; rfl
theorem wg_set3 {E : Ev} {ka : Nat} {a : Nat → Nat} {g : Gd} (i v : Nat) : (wg E ka a g).set 4 (a 4, .inl (E.2.1.1, 4, .inl (upd (fun j => nI (g 3 j)) i (nI v)))) = wg E ka a (gs g 3 i v) := by rw [upd_gs]; rfl
theorem wg_set4 {E : Ev} {ka : Nat} {a : Nat → Nat} {g : Gd} (i v : Nat) : (wg E ka a g).set 5 (a 5, .inl (E.2.1.1, 4, .inl (upd (fun j => nI (g 4 j)) i (nI v)))) = wg E ka a (gs g 4 i v) := by rw [upd_gs]; rfl
theorem wg_set5 {E : Ev} {ka : Nat} {a : Nat → Nat} {g : Gd} (i v : Nat) : (wg E ka a g).set 6 (a 6, .inl (E.2.1.1, 4, .inl (upd (fun j => nI (g 5 j)) i (nI v)))) = wg E ka a (gs g 5 i v) := by rw [upd_gs]; rfl
theorem wg_set6 {E : Ev} {ka : Nat} {a : Nat → Nat} {g : Gd} (i v : Nat) : (wg E ka a g).set 7 (a 7, .inl (E.2.1.1, 4, .inl (upd (fun j => nI (g 6 j)) i (nI v)))) = wg E ka a (gs g 6 i v) := by rw [upd_gs]; rfl
theorem wg_set7 {E : Ev} {ka : Nat} {a : Nat → Nat} {g : Gd} (i v : Nat) : (wg E ka a g).set 8 (a 8, .inl (E.2.1.1, 3, .inl (upd (fun j => nI (g 7 j)) i (nI v)))) = wg E ka a (gs g 7 i v) := by rw [upd_gs]; rfl
theorem wg_set8 {E : Ev} {ka : Nat} {a : Nat → Nat} {g : Gd} (i v : Nat) : (wg E ka a g).set 9 (a 9, .inl (E.2.1.1, 8, .inl (upd (fun j => nI (g 8 j)) i (nI v)))) = wg E ka a (gs g 8 i v) := by rw [upd_gs]; rfl
theorem wg_put0 {E : Ev} {ka : Nat} {a : Nat → Nat} {g : Gd} (v : Nat) : (wg E ka a g).set 0 (a 0, .inr (2, ([.ref ka, .ref (a 1), .ref (a 2), .ref (a 3), .int (nI (g 9 0)), .ref (a 4), .ref (a 5), .ref (a 6), .ref (a 7), .int (nI (g 9 1)), .ref (a 8), .ref (a 9), .int (nI (g 9 2)), .int (nI (g 9 3))] : List Value).set 4 (.int (nI v)))) = wg E ka a (gs g 9 0 v) := rfl
theorem wg_put1 {E : Ev} {ka : Nat} {a : Nat → Nat} {g : Gd} (v : Nat) : (wg E ka a g).set 0 (a 0, .inr (2, ([.ref ka, .ref (a 1), .ref (a 2), .ref (a 3), .int (nI (g 9 0)), .ref (a 4), .ref (a 5), .ref (a 6), .ref (a 7), .int (nI (g 9 1)), .ref (a 8), .ref (a 9), .int (nI (g 9 2)), .int (nI (g 9 3))] : List Value).set 9 (.int (nI v)))) = wg E ka a (gs g 9 1 v) := rfl
theorem wg_put2 {E : Ev} {ka : Nat} {a : Nat → Nat} {g : Gd} (v : Nat) : (wg E ka a g).set 0 (a 0, .inr (2, ([.ref ka, .ref (a 1), .ref (a 2), .ref (a 3), .int (nI (g 9 0)), .ref (a 4), .ref (a 5), .ref (a 6), .ref (a 7), .int (nI (g 9 1)), .ref (a 8), .ref (a 9), .int (nI (g 9 2)), .int (nI (g 9 3))] : List Value).set 12 (.int (nI v)))) = wg E ka a (gs g 9 2 v) := rfl
theorem wg_put3 {E : Ev} {ka : Nat} {a : Nat → Nat} {g : Gd} (v : Nat) : (wg E ka a g).set 0 (a 0, .inr (2, ([.ref ka, .ref (a 1), .ref (a 2), .ref (a 3), .int (nI (g 9 0)), .ref (a 4), .ref (a 5), .ref (a 6), .ref (a 7), .int (nI (g 9 1)), .ref (a 8), .ref (a 9), .int (nI (g 9 2)), .int (nI (g 9 3))] : List Value).set 13 (.int (nI v)))) = wg E ka a (gs g 9 3 v) := rfl
theorem wl_set1 {E : Ev} {al : Nat → Nat} {y : Gd} (i v : Nat) : (wl E al y).set 1 (al 1, .inl (E.2.1.2.1, 80, .inl (upd (fun j => nI (y 1 j)) i (nI v)))) = wl E al (gs y 1 i v) := by rw [upd_gs]; rfl
theorem wl_put1 {E : Ev} {al : Nat → Nat} {y : Gd} (v : Nat) : (wl E al y).set 0 (al 0, .inr (4, ([.ref (al 1), .int (nI (y 0 1))] : List Value).set 1 (.int (nI v)))) = wl E al (gs y 0 1 v) := rfl
theorem wx_set2 {E : Ev} {ax : Nat → Nat} {an am ai al : Nat} {y : Gd} (i v : Nat) : (wx E ax an am ai al y).set 1 (ax 1, .inl (E.2.1.1, 10, .inl (upd (fun j => nI (y 2 j)) i (nI v)))) = wx E ax an am ai al (gs y 2 i v) := by rw [upd_gs]; rfl
theorem wx_set3 {E : Ev} {ax : Nat → Nat} {an am ai al : Nat} {y : Gd} (i v : Nat) : (wx E ax an am ai al y).set 2 (ax 2, .inl (E.2.1.1, 6, .inl (upd (fun j => nI (y 3 j)) i (nI v)))) = wx E ax an am ai al (gs y 3 i v) := by rw [upd_gs]; rfl
theorem wx_put0 {E : Ev} {ax : Nat → Nat} {an am ai al : Nat} {y : Gd} (v : Nat) : (wx E ax an am ai al y).set 0 (ax 0, .inr (8, ([.ref an, .ref am, .ref ai, .int (nI (y 0 0)), .ref al, .ref (ax 1), .int (nI (y 0 2)), .ref (ax 2)] : List Value).set 3 (.int (nI v)))) = wx E ax an am ai al (gs y 0 0 v) := rfl
theorem wx_put2 {E : Ev} {ax : Nat → Nat} {an am ai al : Nat} {y : Gd} (v : Nat) : (wx E ax an am ai al y).set 0 (ax 0, .inr (8, ([.ref an, .ref am, .ref ai, .int (nI (y 0 0)), .ref al, .ref (ax 1), .int (nI (y 0 2)), .ref (ax 2)] : List Value).set 6 (.int (nI v)))) = wx E ax an am ai al (gs y 0 2 v) := rfl
theorem wl_other {E : Ev} {al : Nat → Nat} {y : Gd} {f i v : Nat} (h : f ≠ 1) (h2 : ¬ (f = 0 ∧ i = 1)) : wl E al (gs y f i v) = wl E al y := by
  unfold wl
  have e1 : gs y f i v 0 1 = y 0 1 := by unfold gs; rw [if_neg (fun z => h2 ⟨z.1.symm, z.2.symm⟩)]
  have e2 : ∀ j, gs y f i v 1 j = y 1 j := fun j => gs_f (Ne.symm h)
  simp only [e1, e2]
theorem wx_other {E : Ev} {ax : Nat → Nat} {an am ai al : Nat} {y : Gd} {f i v : Nat} (h : f = 1 ∨ (f = 0 ∧ i = 1)) : wx E ax an am ai al (gs y f i v) = wx E ax an am ai al y := by
  unfold wx
  have e0 : gs y f i v 0 0 = y 0 0 := by unfold gs; rw [if_neg (by omega)]
  have e1 : gs y f i v 0 2 = y 0 2 := by unfold gs; rw [if_neg (by omega)]
  have e2 : ∀ j, gs y f i v 2 j = y 2 j := fun j => gs_f (by omega)
  have e3 : ∀ j, gs y f i v 3 j = y 3 j := fun j => gs_f (by omega)
  simp only [e0, e1, e2, e3]
/-! calls whose contract says the answer and the world -/
section CALLD
variable {l : Launch} {E : Ev} {own : String} {cc : ByteArray} {nL : Nat} {ret : Option FieldType} {rm : Room} {ini : Bool} {Xt : State → Prop} {QQ : Qe} {w0 : va_W} {ce sl pc : Nat} {lv lv' : List (Nat × Value)} {st : List Value} {w w2 : va_W}
theorem wf_callVD {i n a ci mL : Nat} {y : MethodName} {b : ByteArray} {ret2 : Option FieldType} {rm2 : Room} {As rest : List Value} {fs : List Value} {T : u_T} {N : Nat} {r : Value} (q0 : Nat) (hM : CT l E y b mL ret2 rm2 (.ref a :: As) w (IS (some r) w2)) (hk : CVw own i y b mL ret2 n) (hn : As.length = n) (hR : rm2.frames + 1 ≤ rm.frames ∧ 8 + (mL + 11) + rm2.locals ≤ rm.locals) (hcs : rm2.cells = 0 ∧ rm2.slots = 0 ∧ ce ≤ rm.cells ∧ sl ≤ rm.slots) (hcat : (rest.map fun v => v.category).sum ≤ 8) (he : w[q0]? = some (a, .inr (ci, fs))) (hc : vwCl[ci]? = some (y.cls, T, N)) (hst : st = As.reverse ++ .ref a :: rest) (d : decode cc pc = .ok (.invokevirtual i, 3))
    (k : WF l E own cc nL ret rm ini Xt QQ w0 ce sl (pc + 3) lv (r :: rest) w2) : WF l E own cc nL ret rm ini Xt QQ w0 ce sl pc lv st w := by
  obtain ⟨h1, h2, h3, h4⟩ := hcs
  refine wf_callV q0 hM hk hn hR ⟨by omega, by omega⟩ hcat he hc hst d (fun v w3 hp => ?_)
  obtain ⟨rfl, rfl⟩ := hp
  rw [h1, h2]
  exact k
theorem wf_callVv {i n a ci mL : Nat} {y : MethodName} {b : ByteArray} {ret2 : Option FieldType} {rm2 : Room} {As rest : List Value} {fs : List Value} {T : u_T} {N : Nat} (q0 : Nat) (hM : CT l E y b mL ret2 rm2 (.ref a :: As) w (IS none w2)) (hk : CVw own i y b mL ret2 n) (hn : As.length = n) (hR : rm2.frames + 1 ≤ rm.frames ∧ 8 + (mL + 11) + rm2.locals ≤ rm.locals) (hcs : rm2.cells = 0 ∧ rm2.slots = 0 ∧ ce ≤ rm.cells ∧ sl ≤ rm.slots) (hcat : (rest.map fun v => v.category).sum ≤ 8) (he : w[q0]? = some (a, .inr (ci, fs))) (hc : vwCl[ci]? = some (y.cls, T, N)) (hst : st = As.reverse ++ .ref a :: rest) (d : decode cc pc = .ok (.invokevirtual i, 3))
    (k : WF l E own cc nL ret rm ini Xt QQ w0 ce sl (pc + 3) lv rest w2) : WF l E own cc nL ret rm ini Xt QQ w0 ce sl pc lv st w := by
  obtain ⟨h1, h2, h3, h4⟩ := hcs
  refine wf_callV q0 hM hk hn hR ⟨by omega, by omega⟩ hcat he hc hst d (fun v w3 hp => ?_)
  obtain ⟨rfl, rfl⟩ := hp
  rw [h1, h2]
  exact k
theorem wf_callUD {i n a ci mL : Nat} {C : String} {x y : MethodName} {b : ByteArray} {ret2 : Option FieldType} {rm2 : Room} {As rest : List Value} {fs : List Value} {T : u_T} {N : Nat} {r : Value} (q0 : Nat) (hM : CT l E y b mL ret2 rm2 (.ref a :: As) w (IS (some r) w2)) (hk : CUw own i C x y b mL ret2 n) (hn : As.length = n) (hR : rm2.frames + 1 ≤ rm.frames ∧ 8 + (mL + 11) + rm2.locals ≤ rm.locals) (hcs : rm2.cells = 0 ∧ rm2.slots = 0 ∧ ce ≤ rm.cells ∧ sl ≤ rm.slots) (hcat : (rest.map fun v => v.category).sum ≤ 8) (he : w[q0]? = some (a, .inr (ci, fs))) (hc : vwCl[ci]? = some (C, T, N)) (hst : st = As.reverse ++ .ref a :: rest) (d : decode cc pc = .ok (.invokevirtual i, 3))
    (k : WF l E own cc nL ret rm ini Xt QQ w0 ce sl (pc + 3) lv (r :: rest) w2) : WF l E own cc nL ret rm ini Xt QQ w0 ce sl pc lv st w := by
  obtain ⟨h1, h2, h3, h4⟩ := hcs
  refine wf_callU q0 hM hk hn hR ⟨by omega, by omega⟩ hcat he hc hst d (fun v w3 hp => ?_)
  obtain ⟨rfl, rfl⟩ := hp
  rw [h1, h2]
  exact k
theorem wf_callSD {i n mL : Nat} {y : MethodName} {b : ByteArray} {ret2 : Option FieldType} {rm2 : Room} {As rest : List Value} {r : Value} (hM : CT l E y b mL ret2 rm2 As w (IS (some r) w2)) (hk : CSw own i y b mL ret2 n) (hn : As.length = n) (hR : rm2.frames + 1 ≤ rm.frames ∧ 8 + (mL + 11) + rm2.locals ≤ rm.locals) (hcs : rm2.cells = 0 ∧ rm2.slots = 0 ∧ ce ≤ rm.cells ∧ sl ≤ rm.slots) (hcat : (rest.map fun v => v.category).sum ≤ 8) (hst : st = As.reverse ++ rest) (d : decode cc pc = .ok (.invokestatic i, 3))
    (k : WF l E own cc nL ret rm ini Xt QQ w0 ce sl (pc + 3) lv (r :: rest) w2) : WF l E own cc nL ret rm ini Xt QQ w0 ce sl pc lv st w := by
  obtain ⟨h1, h2, h3, h4⟩ := hcs
  refine wf_callS hM hk hn hR ⟨by omega, by omega⟩ hcat hst d (fun v w3 hp => ?_)
  obtain ⟨rfl, rfl⟩ := hp
  rw [h1, h2]
  exact k
theorem wf_callSv {i n mL : Nat} {y : MethodName} {b : ByteArray} {ret2 : Option FieldType} {rm2 : Room} {As rest : List Value} (hM : CT l E y b mL ret2 rm2 As w (IS none w2)) (hk : CSw own i y b mL ret2 n) (hn : As.length = n) (hR : rm2.frames + 1 ≤ rm.frames ∧ 8 + (mL + 11) + rm2.locals ≤ rm.locals) (hcs : rm2.cells = 0 ∧ rm2.slots = 0 ∧ ce ≤ rm.cells ∧ sl ≤ rm.slots) (hcat : (rest.map fun v => v.category).sum ≤ 8) (hst : st = As.reverse ++ rest) (d : decode cc pc = .ok (.invokestatic i, 3))
    (k : WF l E own cc nL ret rm ini Xt QQ w0 ce sl (pc + 3) lv rest w2) : WF l E own cc nL ret rm ini Xt QQ w0 ce sl pc lv st w := by
  obtain ⟨h1, h2, h3, h4⟩ := hcs
  refine wf_callS hM hk hn hR ⟨by omega, by omega⟩ hcat hst d (fun v w3 hp => ?_)
  obtain ⟨rfl, rfl⟩ := hp
  rw [h1, h2]
  exact k
theorem wf_callNSD {i n mL : Nat} {y : MethodName} {host : String} {b : ByteArray} {ret2 : Option FieldType} {rm2 : Room} {As rest : List Value} {r : Value} (hM : CT l E y b mL ret2 rm2 As w (IS (some r) w2)) (hk : CNSw own i y host b mL ret2 n) (hn : As.length = n) (hR : rm2.frames + 1 ≤ rm.frames ∧ 8 + (mL + 11) + rm2.locals ≤ rm.locals) (hcs : rm2.cells = 0 ∧ rm2.slots = 0 ∧ ce ≤ rm.cells ∧ sl ≤ rm.slots) (hcat : (rest.map fun v => v.category).sum ≤ 8) (hst : st = As.reverse ++ rest) (d : decode cc pc = .ok (.invokestatic i, 3))
    (k : WF l E own cc nL ret rm ini Xt QQ w0 ce sl (pc + 3) lv (r :: rest) w2) : WF l E own cc nL ret rm ini Xt QQ w0 ce sl pc lv st w := by
  obtain ⟨h1, h2, h3, h4⟩ := hcs
  refine wf_callNS hM hk hn hR ⟨by omega, by omega⟩ hcat hst d (fun v w3 hp => ?_)
  obtain ⟨rfl, rfl⟩ := hp
  rw [h1, h2]
  exact k
theorem wf_callStrD {i n i0 mL : Nat} {y : MethodName} {b : ByteArray} {ret2 : Option FieldType} {rm2 : Room} {As rest : List Value} {r : Value} (hi0 : i0 < 5) (hM : CT l E y b mL ret2 rm2 (.ref (E.2.2.1 i0) :: As) w (IS (some r) w2)) (hk : CVw own i y b mL ret2 n) (hn : As.length = n) (hR : rm2.frames + 1 ≤ rm.frames ∧ 8 + (mL + 11) + rm2.locals ≤ rm.locals) (hcs : rm2.cells = 0 ∧ rm2.slots = 0 ∧ ce ≤ rm.cells ∧ sl ≤ rm.slots) (hcat : (rest.map fun v => v.category).sum ≤ 8) (hc : y.cls = "java/lang/String") (hst : st = As.reverse ++ .ref (E.2.2.1 i0) :: rest) (d : decode cc pc = .ok (.invokevirtual i, 3))
    (k : WF l E own cc nL ret rm ini Xt QQ w0 ce sl (pc + 3) lv (r :: rest) w2) : WF l E own cc nL ret rm ini Xt QQ w0 ce sl pc lv st w := by
  obtain ⟨h1, h2, h3, h4⟩ := hcs
  refine wf_callStr hi0 hM hk hn hR ⟨by omega, by omega⟩ hcat hc hst d (fun v w3 hp => ?_)
  obtain ⟨rfl, rfl⟩ := hp
  rw [h1, h2]
  exact k
theorem wf_top {x y : Value} (h : x = y) (k : WF l E own cc nL ret rm ini Xt QQ w0 ce sl pc lv (y :: st) w) : WF l E own cc nL ret rm ini Xt QQ w0 ce sl pc lv (x :: st) w := h ▸ k
end CALLD
/-! bits -/
theorem nI_land {a b : Nat} (ha : a < 2 ^ 31) (hb : b < 2 ^ 31) : nI a &&& nI b = nI (a &&& b) := by
  apply Int32.toBitVec_inj.mp
  show (nI a).toBitVec &&& (nI b).toBitVec = (nI (a &&& b)).toBitVec
  apply BitVec.eq_of_toNat_eq
  have hab : a &&& b < 2 ^ 31 := Nat.lt_of_le_of_lt Nat.and_le_left ha
  rw [BitVec.toNat_and, pk_tn (by omega), pk_tn (by omega), pk_tn (by omega)]
theorem nI_lor {a b : Nat} (ha : a < 2 ^ 31) (hb : b < 2 ^ 31) : nI a ||| nI b = nI (a ||| b) := by
  apply Int32.toBitVec_inj.mp
  show (nI a).toBitVec ||| (nI b).toBitVec = (nI (a ||| b)).toBitVec
  apply BitVec.eq_of_toNat_eq
  have hab : a ||| b < 2 ^ 31 := Nat.or_lt_two_pow ha hb
  rw [BitVec.toNat_or, pk_tn (by omega), pk_tn (by omega), pk_tn (by omega)]
def ldf (a b : Nat) : Nat := a ^^^ (a &&& b)
theorem ldf_le (a b : Nat) : ldf a b ≤ a := by
  unfold ldf
  have : (a ^^^ (a &&& b)) = a &&& (a ^^^ (a &&& b)) := by
    apply Nat.eq_of_testBit_eq; intro i
    simp only [Nat.testBit_and, Nat.testBit_xor]
    cases a.testBit i <;> cases b.testBit i <;> rfl
  rw [this]; exact Nat.and_le_left
theorem ldf_bit (a b i : Nat) : (ldf a b).testBit i = (a.testBit i && !b.testBit i) := by
  unfold ldf
  simp only [Nat.testBit_and, Nat.testBit_xor]
  cases a.testBit i <;> cases b.testBit i <;> rfl
theorem nI_andn {a b : Nat} (ha : a < 2 ^ 31) (hb : b < 2 ^ 31) : nI a &&& (nI b ^^^ -1) = nI (ldf a b) := by
  apply Int32.toBitVec_inj.mp
  show (nI a).toBitVec &&& ((nI b).toBitVec ^^^ (-1 : Int32).toBitVec) = (nI (ldf a b)).toBitVec
  apply BitVec.eq_of_getLsbD_eq
  intro i hi
  have hl : ldf a b < 2 ^ 31 := Nat.lt_of_le_of_lt (ldf_le a b) ha
  have e1 : ∀ n, n < 2 ^ 31 → (nI n).toBitVec.getLsbD i = n.testBit i := fun n hn => by
    rw [BitVec.getLsbD, pk_tn (by omega)]
  have e2 : (-1 : Int32).toBitVec.getLsbD i = true := by
    have : (-1 : Int32).toBitVec = BitVec.allOnes 32 := by decide
    rw [this, BitVec.getLsbD_allOnes]; exact decide_eq_true hi
  rw [BitVec.getLsbD_and, BitVec.getLsbD_xor, e1 a ha, e1 b hb, e1 _ hl, e2, ldf_bit]
  cases a.testBit i <;> cases b.testBit i <;> rfl
theorem sh_smod : ∀ b, b < 32 → ((nI b &&& 31).toBitVec.smod 32).toNat = b := by decide +kernel
theorem nI_shr {a b : Nat} (ha : a < 2 ^ 31) (hb : b < 32) : nI a >>> (nI b &&& 31) = nI (a >>> b) := by
  rw [pk_shrN ha _ b (sh_smod b hb), Nat.shiftRight_eq_div_pow]
theorem nI_shl {a b : Nat} (hb : b < 32) (h : a <<< b < 2 ^ 31) : nI a <<< (nI b &&& 31) = nI (a <<< b) := by
  rw [Nat.shiftLeft_eq] at h ⊢
  exact pk_shlN _ b (sh_smod b hb) (by omega)
theorem and1 (x : Nat) : x &&& 1 < 2 := Nat.lt_of_le_of_lt Nat.and_le_right (by omega)
theorem and1_bit (x i : Nat) : (x >>> i) &&& 1 = 1 ↔ x.testBit i = true := by
  rw [Nat.testBit, Nat.and_comm]
  simp [Nat.one_and_eq_mod_two]
  try omega
