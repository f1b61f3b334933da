abbrev rmX8_isInk : Room := { frames := 0, cells := 0, slots := 0, locals := 0 }
set_option maxHeartbeats 4000000 in
set_option maxRecDepth 100000 in
theorem c_X8_isInk {l : Launch} {E : Ev} {r : va_W} {x : Int32}  : CT l E yX8_isInk cX8_isInk 1 (some .boolean) rmX8_isInk [.int x] (r) (IS (some (.int (bI (eHas x 3)))) r) := by
  refine CT.of (lv := [(0, .int x)]) false (by decide +kernel) (by decide) (Nat.le_of_ble_eq_true rfl) rfl ?_
  refine wf_iload_n 0 dX8_isInk_0 rfl ?_
  refine wf_if_lt 13 dX8_isInk_1 (by decide) (fun c1 => ?_) (fun c1 => ?_)
  · refine wf_iconst (nI 0) dX8_isInk_13 (by decide) ?_
    exact wf_iret .boolean rfl (by decide) ⟨rfl, rfl⟩ ⟨congrArg (fun z => some (Value.int z)) (b1_zero (by unfold eHas; rw [decide_eq_false (fun z => Int32.not_lt.mpr z c1), Bool.false_and])), rfl⟩ dX8_isInk_14
  · refine wf_iload_n 0 dX8_isInk_4 rfl ?_
    refine wf_iconst (nI 3) dX8_isInk_5 (by decide) ?_
    refine wf_icmp_ge 13 dX8_isInk_6 (by decide) (fun c6 => ?_) (fun c6 => ?_)
    · refine wf_iconst (nI 0) dX8_isInk_13 (by decide) ?_
      exact wf_iret .boolean rfl (by decide) ⟨rfl, rfl⟩ ⟨congrArg (fun z => some (Value.int z)) (b1_zero (by unfold eHas; rw [decide_eq_false (fun z => Int32.not_le.mpr z c6), Bool.and_false])), rfl⟩ dX8_isInk_14
    · refine wf_iconst (nI 1) dX8_isInk_9 (by decide) ?_
      refine wf_goto 14 dX8_isInk_10 (by decide) ?_
      exact wf_iret .boolean rfl (by decide) ⟨rfl, rfl⟩ ⟨congrArg (fun z => some (Value.int z)) (b1_one (by unfold eHas; rw [decide_eq_true (Int32.not_lt.mp c1), decide_eq_true (Int32.not_le.mp c6)]; rfl)), rfl⟩ dX8_isInk_14
abbrev rmX6_meals : Room := { frames := 0, cells := 0, slots := 0, locals := 0 }
set_option maxHeartbeats 4000000 in
set_option maxRecDepth 100000 in
theorem c_X6_meals {l : Launch} {E : Ev}  {g : Gd} {a kk : Nat → Nat} {r : va_W} {h : Nat}  : CT l E yX6_meals cX6_meals 1 (some .int) rmX6_meals [.ref h] (wg E (kk 6) a g ++ (wk E kk ++ r)) (IS (some (.int (nI 1))) (wg E (kk 6) a g ++ (wk E kk ++ r))) := by
  refine CT.of (lv := [(0, .ref h)]) false (by decide +kernel) (by decide) (Nat.le_of_ble_eq_true rfl) rfl ?_
  refine wf_iconst (nI 1) dX6_meals_0 (by decide) ?_
  exact wf_iret .int rfl (vp_nar_int _) ⟨rfl, rfl⟩ ⟨congrArg (fun z => some (Value.int z)) (rfl), rfl⟩ dX6_meals_1
abbrev rmX3_meals : Room := { frames := 0, cells := 0, slots := 0, locals := 0 }
set_option maxHeartbeats 4000000 in
set_option maxRecDepth 100000 in
theorem c_X3_meals {l : Launch} {E : Ev}  {g : Gd} {a kk : Nat → Nat} {r : va_W} {h : Nat}  : CT l E yX3_meals cX3_meals 1 (some .int) rmX3_meals [.ref h] (wg E (kk 6) a g ++ (wk E kk ++ r)) (IS (some (.int (nI 2))) (wg E (kk 6) a g ++ (wk E kk ++ r))) := by
  refine CT.of (lv := [(0, .ref h)]) false (by decide +kernel) (by decide) (Nat.le_of_ble_eq_true rfl) rfl ?_
  refine wf_iconst (nI 2) dX3_meals_0 (by decide) ?_
  exact wf_iret .int rfl (vp_nar_int _) ⟨rfl, rfl⟩ ⟨congrArg (fun z => some (Value.int z)) (rfl), rfl⟩ dX3_meals_1
abbrev rmX6_reaches : Room := { frames := 0, cells := 0, slots := 0, locals := 0 }
set_option maxHeartbeats 4000000 in
set_option maxRecDepth 100000 in
theorem c_X6_reaches {l : Launch} {E : Ev} {k w : Nat} {g : Gd} {a kk : Nat → Nat} {r : va_W} {h : Nat} (hk : k ≠ 5) : CT l E yX6_reaches cX6_reaches 3 (some .boolean) rmX6_reaches [.ref h, .ref (a 0), .int (nI w)] (wg E (kk 6) a g ++ (wk E kk ++ r)) (IS (some (.int (bI (eRch g k w)))) (wg E (kk 6) a g ++ (wk E kk ++ r))) := by
  refine CT.of (lv := [(0, .ref h), (1, .ref (a 0)), (2, .int (nI w))]) false (by decide +kernel) (by decide) (Nat.le_of_ble_eq_true rfl) rfl ?_
  refine wf_iconst (nI 1) dX6_reaches_0 (by decide) ?_
  exact wf_iret .boolean rfl (by decide) ⟨rfl, rfl⟩ ⟨congrArg (fun z => some (Value.int z)) (b1_one (by unfold eRch; rw [decide_eq_true hk]; rfl)), rfl⟩ dX6_reaches_1
abbrev rmX1_reaches : Room := { frames := 1, cells := 0, slots := 0, locals := 21 }
set_option maxHeartbeats 4000000 in
set_option maxRecDepth 100000 in
theorem c_X1_reaches {l : Launch} {E : Ev} {w : Nat} {g : Gd} {a kk : Nat → Nat} {r : va_W} {h : Nat} (hI : Inv g) (hw : w < 10) : CT l E yX1_reaches cX1_reaches 3 (some .boolean) rmX1_reaches [.ref h, .ref (a 0), .int (nI w)] (wg E (kk 6) a g ++ (wk E kk ++ r)) (IS (some (.int (bI (eRch g 5 w)))) (wg E (kk 6) a g ++ (wk E kk ++ r))) := by
  refine CT.of (lv := [(0, .ref h), (1, .ref (a 0)), (2, .int (nI w))]) false (by decide +kernel) (by decide) (Nat.le_of_ble_eq_true rfl) rfl ?_
  refine wf_iload_n 2 dX1_reaches_0 rfl ?_
  refine wf_if_eq_n 14 dX1_reaches_1 (by decide) (by omega) (fun c1 => ?_) (fun c1 => ?_)
  · refine wf_iconst (nI 1) dX1_reaches_14 (by decide) ?_
    refine wf_goto 19 dX1_reaches_15 (by decide) ?_
    exact wf_iret .boolean rfl (by decide) ⟨rfl, rfl⟩ ⟨congrArg (fun z => some (Value.int z)) (b1_one (by unfold eRch; rw [decide_eq_true c1]; rfl)), rfl⟩ dX1_reaches_19
  · refine wf_aload_n 1 dX1_reaches_4 rfl ?_
    refine wf_iload_n 2 dX1_reaches_5 rfl ?_
    refine wf_iconst (nI 1) dX1_reaches_6 (by decide) ?_
    refine wf_isub (nI (w - 1)) dX1_reaches_7 (pk_sub (by omega)) ?_
    refine wf_callVD (As := [.int (nI (w - 1))]) (rest := []) 0 (c_X2_isGone hI (by omega)) kV_X1_7 rfl (by decide) (by decide) (Nat.le_of_ble_eq_true rfl) rfl rfl rfl dX1_reaches_8 ?_
    refine wf_if_eq_b 18 dX1_reaches_11 (by decide) (fun c11 => ?_) (fun c11 => ?_)
    · refine wf_iconst (nI 0) dX1_reaches_18 (by decide) ?_
      exact wf_iret .boolean rfl (by decide) ⟨rfl, rfl⟩ ⟨congrArg (fun z => some (Value.int z)) (b1_zero (by unfold eRch; rw [c11, decide_eq_false c1]; rfl)), rfl⟩ dX1_reaches_19
    · refine wf_iconst (nI 1) dX1_reaches_14 (by decide) ?_
      refine wf_goto 19 dX1_reaches_15 (by decide) ?_
      exact wf_iret .boolean rfl (by decide) ⟨rfl, rfl⟩ ⟨congrArg (fun z => some (Value.int z)) (b1_one (by unfold eRch; rw [c11, Bool.or_true])), rfl⟩ dX1_reaches_19
abbrev rmX6_prefers : Room := { frames := 1, cells := 0, slots := 0, locals := 22 }
set_option maxHeartbeats 4000000 in
set_option maxRecDepth 100000 in
theorem c_X6_prefers {l : Launch} {E : Ev} {k w c : Nat} {g : Gd} {a kk : Nat → Nat} {r : va_W} {h : Nat} (hI : Inv g) (hw : w < 10) (hc : c < 10) (hk : k = 0 ∨ k = 4) : CT l E yX6_prefers cX6_prefers 4 (some .boolean) rmX6_prefers [.ref h, .ref (a 0), .int (nI w), .int (nI c)] (wg E (kk 6) a g ++ (wk E kk ++ r)) (IS (some (.int (bI (ePrf g k w c)))) (wg E (kk 6) a g ++ (wk E kk ++ r))) := by
  refine CT.of (lv := [(0, .ref h), (1, .ref (a 0)), (2, .int (nI w)), (3, .int (nI c))]) false (by decide +kernel) (by decide) (Nat.le_of_ble_eq_true rfl) rfl ?_
  have f4 := hI.str w
  have f5 := hI.str c
  refine wf_aload_n 1 dX6_prefers_0 rfl ?_
  refine wf_iload_n 2 dX6_prefers_1 rfl ?_
  refine wf_callVD (As := [.int (nI w)]) (rest := []) 0 (c_X2_strength hI (by omega)) kV_X6_29 rfl (by decide) (by decide) (Nat.le_of_ble_eq_true rfl) rfl rfl rfl dX6_prefers_2 ?_
  refine wf_aload_n 1 dX6_prefers_5 rfl ?_
  refine wf_iload_n 3 dX6_prefers_6 rfl ?_
  refine wf_callVD (As := [.int (nI c)]) (rest := [.int (nI (eStr g w))]) 0 (c_X2_strength hI (by omega)) kV_X6_29 rfl (by decide) (by decide) (Nat.le_of_ble_eq_true rfl) rfl rfl rfl dX6_prefers_7 ?_
  refine wf_icmp_le_n 17 dX6_prefers_10 (by decide) (by omega) (by omega) (fun c10 => ?_) (fun c10 => ?_)
  · refine wf_iconst (nI 0) dX6_prefers_17 (by decide) ?_
    exact wf_iret .boolean rfl (by decide) ⟨rfl, rfl⟩ ⟨congrArg (fun z => some (Value.int z)) (b1_zero (by unfold ePrf; rcases hk with rfl | rfl <;> simp <;> omega)), rfl⟩ dX6_prefers_18
  · refine wf_iconst (nI 1) dX6_prefers_13 (by decide) ?_
    refine wf_goto 18 dX6_prefers_14 (by decide) ?_
    exact wf_iret .boolean rfl (by decide) ⟨rfl, rfl⟩ ⟨congrArg (fun z => some (Value.int z)) (b1_one (by unfold ePrf; rcases hk with rfl | rfl <;> simp <;> omega)), rfl⟩ dX6_prefers_18
abbrev rmX0_prefers : Room := { frames := 1, cells := 0, slots := 0, locals := 22 }
set_option maxHeartbeats 4000000 in
set_option maxRecDepth 100000 in
theorem c_X0_prefers {l : Launch} {E : Ev} {k w c : Nat} {g : Gd} {a kk : Nat → Nat} {r : va_W} {h : Nat} (hI : Inv g) (hw : w < 10) (hc : c < 10) (hk : k = 2 ∨ k = 5) : CT l E yX0_prefers cX0_prefers 4 (some .boolean) rmX0_prefers [.ref h, .ref (a 0), .int (nI w), .int (nI c)] (wg E (kk 6) a g ++ (wk E kk ++ r)) (IS (some (.int (bI (ePrf g k w c)))) (wg E (kk 6) a g ++ (wk E kk ++ r))) := by
  refine CT.of (lv := [(0, .ref h), (1, .ref (a 0)), (2, .int (nI w)), (3, .int (nI c))]) false (by decide +kernel) (by decide) (Nat.le_of_ble_eq_true rfl) rfl ?_
  have f4 := hI.str w
  have f5 := hI.str c
  refine wf_aload_n 1 dX0_prefers_0 rfl ?_
  refine wf_iload_n 2 dX0_prefers_1 rfl ?_
  refine wf_callVD (As := [.int (nI w)]) (rest := []) 0 (c_X2_strength hI (by omega)) kV_X0_7 rfl (by decide) (by decide) (Nat.le_of_ble_eq_true rfl) rfl rfl rfl dX0_prefers_2 ?_
  refine wf_aload_n 1 dX0_prefers_5 rfl ?_
  refine wf_iload_n 3 dX0_prefers_6 rfl ?_
  refine wf_callVD (As := [.int (nI c)]) (rest := [.int (nI (eStr g w))]) 0 (c_X2_strength hI (by omega)) kV_X0_7 rfl (by decide) (by decide) (Nat.le_of_ble_eq_true rfl) rfl rfl rfl dX0_prefers_7 ?_
  refine wf_icmp_ge_n 17 dX0_prefers_10 (by decide) (by omega) (by omega) (fun c10 => ?_) (fun c10 => ?_)
  · refine wf_iconst (nI 0) dX0_prefers_17 (by decide) ?_
    exact wf_iret .boolean rfl (by decide) ⟨rfl, rfl⟩ ⟨congrArg (fun z => some (Value.int z)) (b1_zero (by unfold ePrf; rcases hk with rfl | rfl <;> simp <;> omega)), rfl⟩ dX0_prefers_18
  · refine wf_iconst (nI 1) dX0_prefers_13 (by decide) ?_
    refine wf_goto 18 dX0_prefers_14 (by decide) ?_
    exact wf_iret .boolean rfl (by decide) ⟨rfl, rfl⟩ ⟨congrArg (fun z => some (Value.int z)) (b1_one (by unfold ePrf; rcases hk with rfl | rfl <;> simp <;> omega)), rfl⟩ dX0_prefers_18
abbrev rmX7_prefers : Room := { frames := 0, cells := 0, slots := 0, locals := 0 }
set_option maxHeartbeats 4000000 in
set_option maxRecDepth 100000 in
theorem c_X7_prefers {l : Launch} {E : Ev} {k w c : Nat} {g : Gd} {a kk : Nat → Nat} {r : va_W} {h : Nat} (hk : k = 1) : CT l E yX7_prefers cX7_prefers 4 (some .boolean) rmX7_prefers [.ref h, .ref (a 0), .int (nI w), .int (nI c)] (wg E (kk 6) a g ++ (wk E kk ++ r)) (IS (some (.int (bI (ePrf g k w c)))) (wg E (kk 6) a g ++ (wk E kk ++ r))) := by
  refine CT.of (lv := [(0, .ref h), (1, .ref (a 0)), (2, .int (nI w)), (3, .int (nI c))]) false (by decide +kernel) (by decide) (Nat.le_of_ble_eq_true rfl) rfl ?_
  refine wf_iconst (nI 0) dX7_prefers_0 (by decide) ?_
  exact wf_iret .boolean rfl (by decide) ⟨rfl, rfl⟩ ⟨congrArg (fun z => some (Value.int z)) (b1_zero (by unfold ePrf; subst hk; rfl)), rfl⟩ dX7_prefers_1
abbrev rmX5_prefers : Room := { frames := 0, cells := 0, slots := 0, locals := 0 }
set_option maxHeartbeats 4000000 in
set_option maxRecDepth 100000 in
theorem c_X5_prefers {l : Launch} {E : Ev} {k w c : Nat} {g : Gd} {a kk : Nat → Nat} {r : va_W} {h : Nat} (hk : k = 3) : CT l E yX5_prefers cX5_prefers 4 (some .boolean) rmX5_prefers [.ref h, .ref (a 0), .int (nI w), .int (nI c)] (wg E (kk 6) a g ++ (wk E kk ++ r)) (IS (some (.int (bI (ePrf g k w c)))) (wg E (kk 6) a g ++ (wk E kk ++ r))) := by
  refine CT.of (lv := [(0, .ref h), (1, .ref (a 0)), (2, .int (nI w)), (3, .int (nI c))]) false (by decide +kernel) (by decide) (Nat.le_of_ble_eq_true rfl) rfl ?_
  refine wf_iconst (nI 1) dX5_prefers_0 (by decide) ?_
  exact wf_iret .boolean rfl (by decide) ⟨rfl, rfl⟩ ⟨congrArg (fun z => some (Value.int z)) (b1_one (by unfold ePrf; subst hk; rfl)), rfl⟩ dX5_prefers_1
