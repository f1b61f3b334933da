/-! the cells say no more than their length -/
theorem cell_eq {cA : ClassId} {n : Nat} {f g : Nat → Int32} (h : ∀ k, k < n → f k = g k) : vp_cell cA (n, .inl f) = vp_cell cA (n, .inl g) := by
  have e : (fun j : Fin n => Value.int (f j.val)) = fun j : Fin n => Value.int (g j.val) := funext fun j => by rw [h j.val j.isLt]
  show ({ cls := cA, slots := Array.ofFn (n := n) (fun j => Value.int (f j.val)), vm := .none } : Cell) = { cls := cA, slots := Array.ofFn (n := n) (fun j => Value.int (g j.val)), vm := .none }
  rw [e]
theorem wm_eqv {E : Ev} {am : Nat → Nat} {g g0 y j : Gd} {td : Nat → Int32} {r : va_W} (h : ∀ a i, pos a i < 61 → g a i = g0 a i) (D : va_G) (H : Heap) (hP : va_P D vwCl (wm E am g y j td ++ r) H) : va_P D vwCl (wm E am g0 y j td ++ r) H := by
  have e0 := h 9 0 (by decide)
  have e1 := h 9 1 (by decide)
  have e2 := h 9 2 (by decide)
  have e3 := h 9 3 (by decide)
  have arr : ∀ (a n : Nat) (hl : ∀ k, k < n → pos a k < 61) (p : Nat), H[p]? = some (vp_cell E.2.1.1 (n, .inl (fun k => nI (g a k)))) → H[p]? = some (vp_cell E.2.1.1 (n, .inl (fun k => nI (g0 a k)))) := by
    intro a n hl p hp
    rw [hp]; exact congrArg some (cell_eq (fun k hk => by rw [h a k (hl k hk)]))
  intro k q hq
  have h0 := hP 0 _ rfl
  rw [e0, e1, e2, e3] at h0
  rcases k with _ | _ | _ | _ | _ | _ | _ | _ | _ | _ | _ | k
  · obtain rfl := Option.some.inj hq; exact h0
  · obtain rfl := Option.some.inj hq; exact hP 1 _ rfl
  · obtain rfl := Option.some.inj hq; exact arr 0 10 (fun k hk => by rw [pos_0 hk]; omega) _ (hP 2 _ rfl)
  · obtain rfl := Option.some.inj hq; exact arr 1 10 (fun k hk => by rw [pos_1 hk]; omega) _ (hP 3 _ rfl)
  · obtain rfl := Option.some.inj hq; exact arr 2 10 (fun k hk => by rw [pos_2 hk]; omega) _ (hP 4 _ rfl)
  · obtain rfl := Option.some.inj hq; exact arr 3 4 (fun k hk => by rw [pos_3 hk]; omega) _ (hP 5 _ rfl)
  · obtain rfl := Option.some.inj hq; exact arr 4 4 (fun k hk => by rw [pos_4 hk]; omega) _ (hP 6 _ rfl)
  · obtain rfl := Option.some.inj hq; exact arr 5 4 (fun k hk => by rw [pos_5 hk]; omega) _ (hP 7 _ rfl)
  · obtain rfl := Option.some.inj hq; exact arr 6 4 (fun k hk => by rw [pos_6 hk]; omega) _ (hP 8 _ rfl)
  · obtain rfl := Option.some.inj hq; exact arr 7 3 (fun k hk => by rw [pos_7 hk]; omega) _ (hP 9 _ rfl)
  · obtain rfl := Option.some.inj hq; exact arr 8 8 (fun k hk => by rw [pos_8 hk]; omega) _ (hP 10 _ rfl)
  · exact hP (k + 11) q hq
theorem rq_61 {g0 g : Gd} (a i : Nat) (h : pos a i < 61) : rq g0 g 61 a i = g0 a i := if_pos h
