/-! PURE: watched too, in one hour or in all -/
def mWv (q : Int32) (S h : Nat) : Nat := if q < 0 then S else if q = nI h then S else 0
def mWs (g : Gd) (S : Nat) (q : Int32) : Nat → Gd
  | 0 => g
  | h + 1 => gs (mWs g S q h) 8 h (g 8 h ||| mWv q S h)
theorem mWs_f {g : Gd} {S : Nat} {q : Int32} {h f i : Nat} (hf : f ≠ 8) : mWs g S q h f i = g f i := by
  induction h with
  | zero => rfl
  | succ h ih => show gs (mWs g S q h) 8 h _ f i = _; rw [gs_f hf]; exact ih
theorem mWs_w {g : Gd} {S : Nat} {q : Int32} {h i : Nat} (hi : h ≤ i) : mWs g S q h 8 i = g 8 i := by
  induction h with
  | zero => rfl
  | succ h ih => show gs (mWs g S q h) 8 h _ 8 i = _; rw [gs_i (by omega)]; exact ih (by omega)
theorem mWv_lt {q : Int32} {S h n : Nat} (hS : S < 2 ^ n) : mWv q S h < 2 ^ n := by
  unfold mWv
  split
  · exact hS
  · split
    · exact hS
    · exact Nat.two_pow_pos n
theorem Inv.oMw {g : Gd} (h : Inv g) {S : Nat} {q : Int32} (hS : S < 2 ^ g 9 0) (n : Nat) : Inv (mWs g S q n) := by
  induction n with
  | zero => exact h
  | succ n ih =>
    refine ih.oWat ?_
    rw [mWs_f (by decide)]
    exact Nat.or_lt_two_pow (h.watW n) (mWv_lt hS)
