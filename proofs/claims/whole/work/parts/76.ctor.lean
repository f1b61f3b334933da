/-! constructors: rows -/
section CTR
variable {l : Launch} {E : Ev} {own : String} {cc : ByteArray} {nL : Nat} {ret : Option FieldType} {rm : Room} {ini : Bool} {Xt : State → Prop} {QQ : Qe} {w0 : va_W} {ce sl pc : Nat} {lv lv' : List (Nat × Value)} {st : List Value} {w w2 : va_W}
theorem wf_pick {w' : va_W} (ks : List Nat) (hn : va_nd ks = true) (h : ks.map (fun i => w[i]?) = w'.map some) (h2 : ks.filterMap (fun i => w[i]?) = w') (k : WF l E own cc nL ret rm ini Xt QQ w0 ce sl pc lv st w') : WF l E own cc nL ret rm ini Xt QQ w0 ce sl pc lv st w :=
  fun p e s m args below meth c H locs ls hC hl hP hD hS => k p e s m args below meth c H locs ls hC hl (hP.sub ks h2) (hD.sub ks hn h) hS
theorem pm_in {M r c : va_W} : ((M ++ r) ++ c).Perm ((M ++ c) ++ r) := by
  rw [List.append_assoc, List.append_assoc]
  exact List.Perm.append_left M List.perm_append_comm
theorem wf_newq {i : Nat} (N : Nat) (hcl : Cond.classLink own i "EatenByDusk$Sparrow" ∈ TBg) (hN : N ≤ 1024) (hcells : ce + 1 ≤ rm.cells) (hslots : sl + N ≤ rm.slots) (d : decode cc pc = .ok (.anewarray i, 3))
    (k : ∀ q : Nat, WF l E own cc nL ret rm ini Xt QQ w0 (ce + 1) (sl + N) (pc + 3) lv (.ref q :: st) (w ++ [(q, .inl (E.2.1.2.2, N, .inr (.inr (.inr (.inr (fun _ => none))))))])) : WF l E own cc nL ret rm ini Xt QQ w0 ce sl pc lv (.int (nI N) :: st) w := by
  intro p e s m args below meth c H locs ls hC hl hP hD hS
  obtain ⟨hx, hb, hml, hown, hts, hr, hlk, hEK, hES, hin, hXt⟩ := id hC
  refine va_newq (C := "EatenByDusk$Sparrow") (N' := N) hx hb hown (hts _ hcl) hEK.2.2.2.1 hEK.1 hP hD hS (fun q h => Or.inr h) (nI_pos (by omega)) (nI_clamp (by omega)) (by omega) hcells hslots d (fun q cA H hK hP hD hS => ?_)
  have e1 : cA = E.2.1.2.2 := by
    obtain ⟨_, _, _, _, _, h1⟩ := (hK.2 3 (cA, .object "EatenByDusk$Sparrow") rfl).2
    obtain ⟨_, _, _, _, _, h2⟩ := (hK.2 2 (E.2.1.2.2, .object "EatenByDusk$Sparrow") rfl).2
    exact Option.some.inj (h1.symm.trans h2)
  subst e1
  exact k q p e s m args below meth c H locs ls hC hl hP hD hS
theorem wf_aastq {a n j v ci : Nat} {f : Nat → Option Nat} {vs : List Value} {T : u_T} {N : Nat} (w' : va_W) (q0 qk : Nat) (ha : w[q0]? = some (a, .inl (E.2.1.2.2, n, .inr (.inr (.inr (.inr f)))))) (hv : w[qk]? = some (v, .inr (ci, vs))) (hc : vwCl[ci]? = some ("EatenByDusk$Sparrow", T, N)) (hj : j < n) (hn : n ≤ 1024) (hw : w.set q0 (a, .inl (E.2.1.2.2, n, .inr (.inr (.inr (.inr (va_up f j (some v))))))) = w') (d : decode cc pc = .ok (.aastore, 1)) (k : WF l E own cc nL ret rm ini Xt QQ w0 ce sl (pc + 1) lv st w') : WF l E own cc nL ret rm ini Xt QQ w0 ce sl pc lv (.ref v :: .int (nI j) :: .ref a :: st) w := by
  intro p e s m args below meth c H locs ls hC hl hP hD hS
  obtain ⟨hx, hb, hml, hown, hts, hr, hlk, hEK, hES, hin, hXt⟩ := id hC
  subst hw
  have ej : (nI j).toNatClampNeg = j := nI_clamp (by omega)
  refine va_astq hx hb hEK.1 hP hD hS q0 2 qk ci ha rfl hv hc (vp_in_nI hj (by omega)) d (fun H locs hP hD hS => ?_)
  rw [ej] at hP hD
  exact (k p e s m args below meth c H locs ls hC hl hP hD hS)
theorem wf_aastqO {a n j v ci : Nat} {C : String} {f : Nat → Option Nat} {vs : List Value} {T : u_T} {N : Nat} (w' : va_W) (q0 qk : Nat) (hca : ∀ U : State, CS U → va_Nw (.castable C "EatenByDusk$Sparrow") U) (ha : w[q0]? = some (a, .inl (E.2.1.2.2, n, .inr (.inr (.inr (.inr f)))))) (hv : w[qk]? = some (v, .inr (ci, vs))) (hc : vwCl[ci]? = some (C, T, N)) (hj : j < n) (hn : n ≤ 1024) (hw : w.set q0 (a, .inl (E.2.1.2.2, n, .inr (.inr (.inr (.inr (va_up f j (some v))))))) = w') (d : decode cc pc = .ok (.aastore, 1)) (k : WF l E own cc nL ret rm ini Xt QQ w0 ce sl (pc + 1) lv st w') : WF l E own cc nL ret rm ini Xt QQ w0 ce sl pc lv (.ref v :: .int (nI j) :: .ref a :: st) w := by
  intro p e s m args below meth c H locs ls hC hl hP hD hS
  obtain ⟨hx, hb, hml, hown, hts, hr, hlk, hEK, hES, hin, hXt⟩ := id hC
  subst hw
  have ej : (nI j).toNatClampNeg = j := nI_clamp (by omega)
  refine va_astqO hx hb hEK.1 hP hD hS q0 2 qk ci ha rfl (hca s hEK.2.2.2) hv hc (vp_in_nI hj (by omega)) d (fun H locs hP hD hS => ?_)
  rw [ej] at hP hD
  exact (k p e s m args below meth c H locs ls hC hl hP hD hS)
theorem cellq_eq {cA : ClassId} {n : Nat} {f g : Nat → Option Nat} (h : ∀ k, k < n → f k = g k) : vp_cell cA (n, .inr (.inr (.inr (.inr f)))) = vp_cell cA (n, .inr (.inr (.inr (.inr g)))) := by
  have e : (fun j : Fin n => va_rf (f j.val)) = fun j : Fin n => va_rf (g j.val) := funext fun j => by rw [h j.val j.isLt]
  rw [vp_cell_q, vp_cell_q]
  show ({ cls := cA, slots := Array.ofFn (n := n) (fun j => va_rf (f j.val)), vm := .none } : Cell) = { cls := cA, slots := Array.ofFn (n := n) (fun j => va_rf (g j.val)), vm := .none }
  rw [e]
theorem wf_cellq {w' : va_W} {a n : Nat} {cA : ClassId} {f g : Nat → Option Nat} (q0 : Nat) (h0 : w[q0]? = some (a, .inl (cA, n, .inr (.inr (.inr (.inr f)))))) (hw : w.set q0 (a, .inl (cA, n, .inr (.inr (.inr (.inr g))))) = w') (h : ∀ k, k < n → f k = g k) (k : WF l E own cc nL ret rm ini Xt QQ w0 ce sl pc lv st w') : WF l E own cc nL ret rm ini Xt QQ w0 ce sl pc lv st w := by
  intro p e s m args below meth c H locs ls hC hl hP hD hS
  subst hw
  refine k p e s m args below meth c H locs ls hC hl (fun i q hq => ?_) (hD.set h0) hS
  rw [List.getElem?_set] at hq
  by_cases hi : q0 = i
  · rw [if_pos hi, if_pos (List.getElem?_eq_some_iff.mp h0).1] at hq
    obtain rfl := Option.some.inj hq
    have hp := hP q0 _ h0
    show H[a]? = some (vp_cell _ _)
    rw [← cellq_eq h]
    exact hp
  · rw [if_neg hi] at hq
    exact hP i q hq
end CTR
def gz : Gd := fun _ _ => 0
theorem rfz_z : (fun k => nI (rfz gz k)) = fun _ => (0 : Int32) := funext fun k => by
  unfold rfz
  split
  · rfl
  · rfl
theorem dfX2 : ∀ j, j < 14 → defaultValue (tyX2 j) = vp_V [.null, .null, .null, .null, .int 0, .null, .null, .null, .null, .int 0, .null, .null, .int 0, .int 0] j := fun j hj => match j, hj with
  | 0, _ => rfl
  | 1, _ => rfl
  | 2, _ => rfl
  | 3, _ => rfl
  | 4, _ => rfl
  | 5, _ => rfl
  | 6, _ => rfl
  | 7, _ => rfl
  | 8, _ => rfl
  | 9, _ => rfl
  | 10, _ => rfl
  | 11, _ => rfl
  | 12, _ => rfl
  | 13, _ => rfl
  | j + 14, h => absurd h (by omega)
theorem dfX4 : ∀ j, j < 2 → defaultValue (tyX4 j) = vp_V [.null, .int 0] j := fun j hj => match j, hj with
  | 0, _ => rfl
  | 1, _ => rfl
  | j + 2, h => absurd h (by omega)
theorem dfX8 : ∀ j, j < 8 → defaultValue (tyX8 j) = vp_V [.null, .null, .null, .int 0, .null, .null, .int 0, .null] j := fun j hj => match j, hj with
  | 0, _ => rfl
  | 1, _ => rfl
  | 2, _ => rfl
  | 3, _ => rfl
  | 4, _ => rfl
  | 5, _ => rfl
  | 6, _ => rfl
  | 7, _ => rfl
  | j + 8, h => absurd h (by omega)
theorem dfX9 : ∀ j, j < 27 → defaultValue (tyX9 j) = vp_V [.null, .null, .null, .null, .null, .null, .null, .null, .null, .null, .int 0, .int 0, .int 0, .int 0, .null, .null, .null, .null, .int 0, .int 0, .int 0, .null, .int 0, .int 0, .int 0, .null, .int 0] j := fun j hj => match j, hj with
  | 0, _ => rfl
  | 1, _ => rfl
  | 2, _ => rfl
  | 3, _ => rfl
  | 4, _ => rfl
  | 5, _ => rfl
  | 6, _ => rfl
  | 7, _ => rfl
  | 8, _ => rfl
  | 9, _ => rfl
  | 10, _ => rfl
  | 11, _ => rfl
  | 12, _ => rfl
  | 13, _ => rfl
  | 14, _ => rfl
  | 15, _ => rfl
  | 16, _ => rfl
  | 17, _ => rfl
  | 18, _ => rfl
  | 19, _ => rfl
  | 20, _ => rfl
  | 21, _ => rfl
  | 22, _ => rfl
  | 23, _ => rfl
  | 24, _ => rfl
  | 25, _ => rfl
  | 26, _ => rfl
  | j + 27, h => absurd h (by omega)
theorem dfX0 : ∀ j, j < 0 → defaultValue (tyX0 j) = vp_V [] j := fun j hj => absurd hj (Nat.not_lt_zero _)
theorem dfX1 : ∀ j, j < 0 → defaultValue (tyX1 j) = vp_V [] j := fun j hj => absurd hj (Nat.not_lt_zero _)
theorem dfX3 : ∀ j, j < 0 → defaultValue (tyX3 j) = vp_V [] j := fun j hj => absurd hj (Nat.not_lt_zero _)
theorem dfX5 : ∀ j, j < 0 → defaultValue (tyX5 j) = vp_V [] j := fun j hj => absurd hj (Nat.not_lt_zero _)
theorem dfX6 : ∀ j, j < 0 → defaultValue (tyX6 j) = vp_V [] j := fun j hj => absurd hj (Nat.not_lt_zero _)
theorem dfX7 : ∀ j, j < 0 → defaultValue (tyX7 j) = vp_V [] j := fun j hj => absurd hj (Nat.not_lt_zero _)
