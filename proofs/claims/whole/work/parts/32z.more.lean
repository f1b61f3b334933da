theorem eGu_le (g : Gd) (n : Nat) : (eGu g n).2 ≤ 11 := by
  induction n with
  | zero => exact Nat.zero_le _
  | succ n ih =>
    show (if _ then _ else _ : Option Nat × Nat).2 ≤ 11
    have := eLeftN_le (eDk (gs g 8 (g 9 3 + n) (eAll g)))
    split
    · show eGuV g (g 9 3 + n) + 1 ≤ 11; unfold eGuV; omega
    · exact ih
theorem eLa_le (g : Gd) (w n : Nat) (h : g 9 3 ≤ 8) : (eLa g w n).2 ≤ 9 := by
  induction n with
  | zero => exact Nat.zero_le _
  | succ n ih =>
    show (if _ then _ else _ : Nat × Nat).2 ≤ 9
    have := eGoes_le (gs g 1 w n) w (8 - g 9 3) (by show g 9 3 + _ ≤ 8; omega)
    split
    · show eLaV g w n + 1 ≤ 9; unfold eLaV; omega
    · exact ih
