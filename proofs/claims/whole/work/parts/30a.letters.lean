theorem nar_c {c : Nat} (h : c < 65536) : vp_nar .char (nI c) = nI c := by rw [vp_nar_char]; rw [show (nI c).toUInt32.toUInt16.toUInt32.toInt32 = ((nI c).toUInt32 % 65536).toInt32 from rfl]; exact i2c_n h
abbrev rmX4_isFull : Room := { frames := 0, cells := 0, slots := 0, locals := 0 }
set_option maxHeartbeats 4000000 in
set_option maxRecDepth 100000 in
theorem c_X4_isFull {l : Launch} {E : Ev}  {g y : Gd} {a kk al : Nat → Nat} {r : va_W} (h1 : y 0 1 ≤ 80) : CT l E yX4_isFull cX4_isFull 1 (some .boolean) rmX4_isFull [.ref (al 0)] (wg E (kk 6) a g ++ (wk E kk ++ (wl E al y ++ r))) (IS (some (.int (bI (decide (80 ≤ y 0 1))))) (wg E (kk 6) a g ++ (wk E kk ++ (wl E al y ++ r)))) := by
  refine CT.of (lv := [(0, .ref (al 0))]) false (by decide +kernel) (by decide) (Nat.le_of_ble_eq_true rfl) rfl ?_
  refine wf_aload_n 0 dX4_isFull_0 rfl ?_
  refine wf_getf (C := RX4) (T := TX4) (N := 2) (v := .int (nI (y 0 1))) 17 1 in_X4 rfl rfl (by decide) fl_X4_15 rfl dX4_isFull_1 ?_
  refine wf_bipush (nI 80) dX4_isFull_4 (by decide) ?_
  refine wf_icmp_lt_n 13 dX4_isFull_6 (by decide) (by omega) (by omega) (fun c6 => ?_) (fun c6 => ?_)
  · refine wf_iconst (nI 0) dX4_isFull_13 (by decide) ?_
    exact wf_iret .boolean rfl (by decide) ⟨rfl, rfl⟩ ⟨congrArg (fun z => some (Value.int z)) (b1_zero (decide_eq_false (by omega))), rfl⟩ dX4_isFull_14
  · refine wf_iconst (nI 1) dX4_isFull_9 (by decide) ?_
    refine wf_goto 14 dX4_isFull_10 (by decide) ?_
    exact wf_iret .boolean rfl (by decide) ⟨rfl, rfl⟩ ⟨congrArg (fun z => some (Value.int z)) (b1_one (decide_eq_true (by omega))), rfl⟩ dX4_isFull_14
abbrev rmX4_clear : Room := { frames := 0, cells := 0, slots := 0, locals := 0 }
set_option maxHeartbeats 4000000 in
set_option maxRecDepth 100000 in
theorem c_X4_clear {l : Launch} {E : Ev}  {g y : Gd} {a kk al : Nat → Nat} {r : va_W}  : CT l E yX4_clear cX4_clear 1 none rmX4_clear [.ref (al 0)] (wg E (kk 6) a g ++ (wk E kk ++ (wl E al y ++ r))) (IS (none) (wg E (kk 6) a g ++ (wk E kk ++ (wl E al (gs y 0 1 0) ++ r)))) := by
  refine CT.of (lv := [(0, .ref (al 0))]) false (by decide +kernel) (by decide) (Nat.le_of_ble_eq_true rfl) rfl ?_
  refine wf_aload_n 0 dX4_clear_0 rfl ?_
  refine wf_iconst (nI 0) dX4_clear_1 (by decide) ?_
  refine wf_putf (C := RX4) (T := TX4) (N := 2) (ty := .int) 17 1 (wg E (kk 6) a g ++ (wk E kk ++ (wl E al (gs y 0 1 0) ++ r))) tyX4 in_X4 tyX4_ok nmX4 rfl rfl (by decide) fl_X4_15 rfl (by decide +kernel) (by rfl) rfl (Nat.le_of_ble_eq_true rfl) (so 10 7 rfl (so 7 0 rfl (sf 0 (Nat.le_of_ble_eq_true rfl) (wl_put1 0)))) dX4_clear_2 ?_
  exact wf_vret rfl ⟨rfl, rfl⟩ ⟨rfl, rfl⟩ dX4_clear_5
abbrev rmX4_add : Room := { frames := 1, cells := 0, slots := 0, locals := 20 }
set_option maxHeartbeats 4000000 in
set_option maxRecDepth 100000 in
theorem c_X4_add {l : Launch} {E : Ev} {c : Nat} {g y : Gd} {a kk al : Nat → Nat} {r : va_W} (h1 : y 0 1 < 80) (hc : c < 256) : CT l E yX4_add cX4_add 2 (some .int) rmX4_add [.ref (al 0), .int (nI c)] (wg E (kk 6) a g ++ (wk E kk ++ (wl E al y ++ r))) (IS (some (.int (nI (y 0 1 + 1)))) (wg E (kk 6) a g ++ (wk E kk ++ (wl E al (gs (gs y 1 (y 0 1) c) 0 1 (y 0 1 + 1)) ++ r)))) := by
  refine CT.of (lv := [(0, .ref (al 0)), (1, .int (nI c))]) false (by decide +kernel) (by decide) (Nat.le_of_ble_eq_true rfl) rfl ?_
  refine wf_aload_n 0 dX4_add_0 rfl ?_
  refine wf_callVD (As := []) (rest := []) 17 (c_X4_isFull (by omega)) kV_X4_19 rfl (by decide) (by decide) (Nat.le_of_ble_eq_true rfl) rfl rfl rfl dX4_add_1 ?_
  refine wf_if_eq_b 12 dX4_add_4 (by decide) (fun c4 => ?_) (fun c4 => ?_)
  · refine wf_aload_n 0 dX4_add_12 rfl ?_
    refine wf_getf (C := RX4) (T := TX4) (N := 2) (v := .ref (al 1)) 17 0 in_X4 rfl rfl (by decide) fl_X4_9 rfl dX4_add_13 ?_
    refine wf_aload_n 0 dX4_add_16 rfl ?_
    refine wf_getf (C := RX4) (T := TX4) (N := 2) (v := .int (nI (y 0 1))) 17 1 in_X4 rfl rfl (by decide) fl_X4_15 rfl dX4_add_17 ?_
    refine wf_iload_n 1 dX4_add_20 rfl ?_
    refine wf_cast_n (wg E (kk 6) a g ++ (wk E kk ++ (wl E al (gs y 1 (y 0 1) c) ++ r))) 18 rfl (by omega) (by decide) (nar_c (by omega)) (so 10 8 rfl (so 7 1 rfl (sf 1 (Nat.le_of_ble_eq_true rfl) (wl_set1 (y 0 1) c)))) dX4_add_21 ?_
    refine wf_aload_n 0 dX4_add_22 rfl ?_
    refine wf_dup dX4_add_23 rfl ?_
    refine wf_getf (C := RX4) (T := TX4) (N := 2) (v := .int (nI (y 0 1))) 17 1 in_X4 rfl rfl (by decide) fl_X4_15 rfl dX4_add_24 ?_
    refine wf_iconst (nI 1) dX4_add_27 (by decide) ?_
    refine wf_iadd (nI ((y 0 1) + 1)) dX4_add_28 (nI_add (y 0 1) 1) ?_
    refine wf_putf (C := RX4) (T := TX4) (N := 2) (ty := .int) 17 1 (wg E (kk 6) a g ++ (wk E kk ++ (wl E al (gs (gs y 1 (y 0 1) c) 0 1 ((y 0 1) + 1)) ++ r))) tyX4 in_X4 tyX4_ok nmX4 rfl rfl (by decide) fl_X4_15 rfl (by decide +kernel) (by rfl) rfl (Nat.le_of_ble_eq_true rfl) (so 10 7 rfl (so 7 0 rfl (sf 0 (Nat.le_of_ble_eq_true rfl) (wl_put1 ((y 0 1) + 1))))) dX4_add_29 ?_
    refine wf_aload_n 0 dX4_add_32 rfl ?_
    refine wf_getf (C := RX4) (T := TX4) (N := 2) (v := .int (nI ((y 0 1) + 1))) 17 1 in_X4 rfl rfl (by decide) fl_X4_15 rfl dX4_add_33 ?_
    exact wf_iret .int rfl (vp_nar_int _) ⟨rfl, rfl⟩ ⟨congrArg (fun z => some (Value.int z)) (rfl), rfl⟩ dX4_add_36
  · exact absurd c4 (by rw [decide_eq_false (by omega)]; decide)
