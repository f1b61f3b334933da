/-! the String constants: ddd; kddd; dd; (empty) stcogf -/
def chT : List (List Nat) := [[100, 100, 100, 59], [107, 100, 100, 100, 59], [100, 100, 59], [], [115, 116, 99, 111, 103, 102]]
def chS (i j : Nat) : Nat := (chT.getD i []).getD j 0
theorem chS_b : ∀ i, i < 5 → ∀ j, j < lenS.getD i 0 → (bytS.getD i []).getD j 0 = nI (chS i j) := by decide +kernel
theorem chS_lt : ∀ i, i < 5 → ∀ j, j < lenS.getD i 0 → chS i j < 128 := by decide +kernel
theorem lenS_le : ∀ i, i < 5 → lenS.getD i 0 ≤ 6 := by decide +kernel
theorem and255 : ∀ x, x < 128 → x &&& 255 = x := by decide +kernel
theorem i2c_n {a : Nat} (h : a < 65536) : ((nI a).toUInt32 % 65536).toInt32 = nI a := by
  rw [pk_char, pk_tn (by omega), Nat.mod_eq_of_lt h]
theorem shr_0 {a : Nat} (h : a < 2 ^ 31) : nI a >>> (nI 0 &&& 31) = nI a := by
  rw [nI_shr h (by decide)]; rfl
theorem lk_out {l : List (Int × Int)} {df : Int} {c : Nat} (hc : c < 2 ^ 31) (h : ∀ q ∈ l, q.1 ≠ (c : Int)) : Op.lookupswitch.offset l df (nI c).toInt = df := by
  rw [nI_toInt hc]
  induction l with
  | nil => rfl
  | cons q l ih =>
    obtain ⟨a, o⟩ := q
    rw [Op.lookupswitch.offset_cons, if_neg (h (a, o) List.mem_cons_self)]
    exact ih (fun q hq => h q (List.mem_cons_of_mem _ hq))
/-- which kind a letter tells -/
def kixO (c : Nat) : Option Nat := if c = 115 then some 0 else if c = 116 then some 1 else if c = 99 then some 2 else if c = 111 then some 3 else if c = 103 then some 4 else if c = 102 then some 5 else none
def eM (o : Option Nat) : Int32 := match o with
  | none => -1
  | some k => nI k
theorem k8 : ∀ c, c < 256 → ∀ b ∈ [115, 116, 99, 111, 103, 102], (nI b = (nI c).toInt8.toInt32 ↔ c = b) := by decide +kernel
/-- the constant that tells the form behind a first letter -/
def fI (c : Nat) : Nat := if c = 98 then 1 else if c = 105 then 2 else if c = 114 then 0 else if c = 119 then 0 else 3
theorem fI_lt (c : Nat) : fI c < 5 := by unfold fI; split <;> (try split) <;> (try split) <;> (try split) <;> omega
