/-! what holds at the law's start -/
def smT (i : Nat) : Term := .string "EatenByDusk$Letters" ([100, 102, 104, 106, 83].getD i 0)
abbrev smV (i : Nat) : Term := .field (smT i) "java/lang/String" "value" "[B"
abbrev flN : List Cond := flatC (Jvm.Cond.and given_1 narrow_1)
set_option maxRecDepth 100000 in
theorem m_ex : ∀ i, i < 5 → Cond.exactly (smT i) "java/lang/String" ∈ flN := by decide +kernel
set_option maxRecDepth 100000 in
theorem m_co : ∀ i, i < 5 → Cond.eq (.field (smT i) "java/lang/String" "coder" "B") (.int 0) ∈ flN := by decide +kernel
set_option maxRecDepth 100000 in
theorem m_ar : ∀ i, i < 5 → Cond.arrayOf (smV i) .byte ∈ flN := by decide +kernel
set_option maxRecDepth 100000 in
theorem m_le : ∀ i, i < 5 → Cond.eq (.length (smV i)) (.int (Int32.ofNat (lenS.getD i 0))) ∈ flN := by decide +kernel
set_option maxRecDepth 100000 in
theorem m_el : ∀ i, i < 5 → ∀ j, j < lenS.getD i 0 → Cond.eq (.elem (smV i) (.int (Int32.ofNat j))) (.int ((bytS.getD i []).getD j 0)) ∈ flN := by decide +kernel
set_option maxRecDepth 100000 in
theorem m_ne : ∀ i, i < 5 → ∀ j, j < 5 → i ≠ j → Cond.not (Cond.eq (smT i) (smT j)) ∈ flN ∨ Cond.not (Cond.eq (smT j) (smT i)) ∈ flN := by decide +kernel
set_option maxRecDepth 100000 in
theorem m_nest : ∀ q ∈ nestW, Cond.methodLinkNest q.1 q.2.1 q.2.2.1 q.2.2.2 ∈ lw_tbl := by decide +kernel
theorem len_b : ∀ i, i < 5 → lenS.getD i 0 < 2 ^ 31 := by decide +kernel
set_option maxHeartbeats 4000000 in
set_option maxRecDepth 100000 in
theorem law_E {s : State} {args : Array Value} (htl : ∀ w ∈ lw_tbl, w.before args s = true) (hgv : (Jvm.Cond.and given_1 narrow_1).before args s = true) (A : Nat → Prop) (hA : ∀ a : Nat, a < s.heap.size → ¬ A a) : ∃ E : Ev, EK E s ∧ ES E A s s.heap := by
  have hts : ∀ w ∈ TBg, w.before args s = true := fun w h => htl w (tb_lw h)
  have hs : ∀ w ∈ flN, w.before args s = true := flat_of_before _ hgv
  obtain ⟨c0, i0, K0⟩ := u_known hts in_X0 (hts _ ins_X0)
  obtain ⟨c1, i1, K1⟩ := u_known hts in_X1 (hts _ ins_X1)
  obtain ⟨c2, i2, K2⟩ := u_known hts in_X2 (hts _ ins_X2)
  obtain ⟨c3, i3, K3⟩ := u_known hts in_X3 (hts _ ins_X3)
  obtain ⟨c4, i4, K4⟩ := u_known hts in_X4 (hts _ ins_X4)
  obtain ⟨c5, i5, K5⟩ := u_known hts in_X5 (hts _ ins_X5)
  obtain ⟨c6, i6, K6⟩ := u_known hts in_X6 (hts _ ins_X6)
  obtain ⟨c7, i7, K7⟩ := u_known hts in_X7 (hts _ ins_X7)
  obtain ⟨c8, i8, K8⟩ := u_known hts in_X8 (hts _ ins_X8)
  obtain ⟨c9, i9, K9⟩ := u_known hts in_X9 (hts _ ins_X9)
  obtain ⟨cI, kI, pI, I1, I2, I3⟩ := Cond.arrayClass_spec (type := .int) (hts _ arr_173)
  obtain ⟨cC, kC, pC, C1, C2, C3⟩ := Cond.arrayClass_spec (type := .char) (hts _ arr_188)
  have hAO : (Cond.arrayOver (.object "EatenByDusk$Sparrow")).before args s = true := htl _ (by decide +kernel)
  obtain ⟨comp, cS, kS, S1, S2, S3, S4, S5⟩ := Cond.arrayOver_spec (n := "EatenByDusk$Sparrow") hAO
  obtain ⟨adK, adV, hVS, hev⟩ := vk_Sof (N := 5) (tm := smT) (len := lenS) (byt := bytS) (A := A) len_b (fun i hi => hs _ (m_ex i hi)) (fun i hi => hs _ (m_co i hi)) (fun i hi => hs _ (m_ar i hi)) (fun i hi => hs _ (m_le i hi)) (fun i hi j hj => hs _ (m_el i hi j hj)) (fun i j hi hj hn => (m_ne i hi j hj hn).imp (hs _) (hs _)) hA
  have h218 : (Term.string "EatenByDusk" 218).eval args s none [] s = some (.ref (adK 4)) := va_eqR (hs (Cond.eq (.string "EatenByDusk$Letters" 83) (.string "EatenByDusk" 218)) (by decide +kernel)) (hev 4 (by decide))
  refine ⟨((fun k => [c0, c1, c2, c3, c4, c5, c6, c7, c8, c9].getD k c0, fun k => [i0, i1, i2, i3, i4, i5, i6, i7, i8, i9].getD k i0), (cI, cC, cS), adK, adV), ⟨⟨?_, ?_⟩, ?_, ?_, ?_⟩, ?_⟩
  · intro k q hq
    match k, hq with
    | 0, hq => cases hq; exact K0
    | 1, hq => cases hq; exact K1
    | 2, hq => cases hq; exact K2
    | 3, hq => cases hq; exact K3
    | 4, hq => cases hq; exact K4
    | 5, hq => cases hq; exact K5
    | 6, hq => cases hq; exact K6
    | 7, hq => cases hq; exact K7
    | 8, hq => cases hq; exact K8
    | 9, hq => cases hq; exact K9
    | k + 10, hq => cases hq
  · intro k q hq
    match k, hq with
    | 0, hq => cases hq; exact ⟨fun n z => ⟨(fun k h => by cases h), kI, I2, pI, I3⟩, I1⟩
    | 1, hq => cases hq; exact ⟨fun n z => ⟨(fun k h => by cases h), kC, C2, pC, C3⟩, C1⟩
    | 2, hq => cases hq; exact ⟨fun n z => ⟨(fun k h => by cases h), kS, S3, comp, S4⟩, kS, comp, S3, S4, S1, S5⟩
    | k + 3, hq => cases hq
  · exact fun q hq => va_Nw.of rfl (htl _ (m_nest q hq))
  · exact ⟨vk_R.of (htl (.stringRef "EatenByDusk$Letters" 100 "ddd;") (by decide +kernel)) (hev 0 (by decide)), vk_R.of (htl (.stringRef "EatenByDusk$Letters" 102 "kddd;") (by decide +kernel)) (hev 1 (by decide)), vk_R.of (htl (.stringRef "EatenByDusk$Letters" 104 "dd;") (by decide +kernel)) (hev 2 (by decide)), vk_R.of (htl (.stringRef "EatenByDusk$Letters" 106 "") (by decide +kernel)) (hev 3 (by decide)), vk_R.of (htl (.stringRef "EatenByDusk$Letters" 83 "stcogf") (by decide +kernel)) (hev 4 (by decide)), vk_R.of (htl (.stringRef "EatenByDusk" 218 "stcogf") (by decide +kernel)) h218⟩
  · exact ⟨va_AO.of hAO, va_Nw.of rfl (htl (.castable "EatenByDusk$Thrush" "EatenByDusk$Sparrow") (by decide +kernel)), va_Nw.of rfl (htl (.castable "EatenByDusk$Crow" "EatenByDusk$Sparrow") (by decide +kernel)), va_Nw.of rfl (htl (.castable "EatenByDusk$Owl" "EatenByDusk$Sparrow") (by decide +kernel)), va_Nw.of rfl (htl (.castable "EatenByDusk$Greedy" "EatenByDusk$Sparrow") (by decide +kernel)), va_Nw.of rfl (htl (.castable "EatenByDusk$Finch" "EatenByDusk$Sparrow") (by decide +kernel))⟩
  · exact ⟨hVS, va_Zof (htl (.laysStatic "java/lang/String" "COMPACT_STRINGS" "Z") (by decide +kernel)) (htl (.initialized "java/lang/String") (by decide +kernel)) (va_eqi (hs (Cond.eq (.static "java/lang/String" "COMPACT_STRINGS" "Z") (.int 1)) (by decide +kernel))) hA, va_Zqof (htl (.laysStatic "jdk/internal/util/Preconditions" "SIOOBE_FORMATTER" "Ljava/util/function/BiFunction;") (by decide +kernel)) (htl (.initialized "jdk/internal/util/Preconditions") (by decide +kernel)) (hs (.isRef (.static "jdk/internal/util/Preconditions" "SIOOBE_FORMATTER" "Ljava/util/function/BiFunction;")) (by decide +kernel)) hA⟩
