abbrev rmX2_passTillDusk : Room := { frames := 4, cells := 0, slots := 0, locals := 95 }
set_option maxHeartbeats 4000000 in
set_option maxRecDepth 100000 in
theorem c_X2_passTillDusk {l : Launch} {E : Ev} {g : Gd} {a kk : Nat → Nat} {r : va_W} (hI : Inv g) : CT l E yX2_passTillDusk cX2_passTillDusk 2 (some .int) rmX2_passTillDusk [.ref (a 0)] (wg E (kk 6) a g ++ (wk E kk ++ r)) (IS (some (.int (nI (eLeftN (eDk g))))) (wg E (kk 6) a (eDk g) ++ (wk E kk ++ r))) := by
  refine CT.of (lv := [(0, .ref (a 0))]) false (by decide +kernel) (by decide) (Nat.le_of_ble_eq_true rfl) rfl ?_
  have f0 := hI.words
  have f1 := hI.birds
  have f2 := hI.gone
  have f3 := hI.hour
  refine wf_aload_n 0 dX2_passTillDusk_0 rfl ?_
  refine wf_getf (C := RX2) (T := TX2) (N := 14) (v := .int (nI (g 9 3))) 0 13 in_X2 rfl rfl (by decide) fl_X2_59 rfl dX2_passTillDusk_1 ?_
  refine wf_istore_n [(1, .int (nI (g 9 3))), (0, .ref (a 0))] dX2_passTillDusk_4 rfl (by decide) rfl ?_
  have L5 : ∀ (fu5 : Nat) (i : Nat), 8 - i < fu5 → (g 9 3 ≤ i) → (i ≤ 8) → WF l E RX2 cX2_passTillDusk 2 (some .int) rmX2_passTillDusk false (fun _ => True) (QM E (wg E (kk 6) a g ++ (wk E kk ++ r)) (IS (some (.int (nI (eLeftN (eDk g))))) (wg E (kk 6) a (eDk g) ++ (wk E kk ++ r))) rmX2_passTillDusk) (wg E (kk 6) a g ++ (wk E kk ++ r)) 0 0 5 [(1, .int (nI i)), (0, .ref (a 0))] [] (wg E (kk 6) a (eHrs g (i - g 9 3)) ++ (wk E kk ++ r)) := by
    intro fu5
    induction fu5 with
    | zero => intro i hn; exact absurd hn (Nat.not_lt_zero _)
    | succ fu5 ih5 =>
      intro i hn hi1 hi2
      have hH := hI.oHrs (i - g 9 3)
      have e93 := eHrs_hour (g := g) (i - g 9 3) (by omega)
      refine wf_iload_n 0 dX2_passTillDusk_5 rfl ?_
      refine wf_bipush (nI 8) dX2_passTillDusk_6 (by decide) ?_
      refine wf_icmp_ge_n 22 dX2_passTillDusk_8 (by decide) (by omega) (by omega) (fun c8 => ?_) (fun c8 => ?_)
      · have hie : i = 8 := by omega
        subst hie
        refine wf_aload_n 1 dX2_passTillDusk_22 rfl ?_
        refine wf_callVD (As := []) (rest := []) 0 (c_X2_countLeft (hI.oHrs _)) kV_X2_84 rfl (by decide) (by decide) (Nat.le_of_ble_eq_true rfl) rfl rfl rfl dX2_passTillDusk_23 ?_
        exact wf_iret .int rfl (vp_nar_int _) ⟨rfl, rfl⟩ ⟨congrArg (fun z => some (Value.int z)) (rfl), rfl⟩ dX2_passTillDusk_26
      · refine wf_aload_n 1 dX2_passTillDusk_11 rfl ?_
        refine wf_callVD (As := []) (rest := []) 0 (c_X2_passHour hH) kV_X2_100 rfl (by decide) (by decide) (Nat.le_of_ble_eq_true rfl) rfl rfl rfl dX2_passTillDusk_12 ?_
        refine wf_pop dX2_passTillDusk_15 rfl ?_
        refine wf_iinc (nI (i + 1)) 0 [(1, .int (nI (i + 1))), (0, .ref (a 0))] dX2_passTillDusk_16 rfl (nI_1 i) (by decide) rfl ?_
        refine wf_goto 5 dX2_passTillDusk_19 (by decide) ?_
        refine wf_sub (lv' := [(1, .int (nI (i + 1))), (0, .ref (a 0))]) [0, 1] rfl ?_
        refine wf_world (wg E (kk 6) a (eHrs g (i + 1 - g 9 3)) ++ (wk E kk ++ r)) (by rw [show i + 1 - g 9 3 = (i - g 9 3) + 1 by omega]; rfl) ?_
        exact ih5 (i + 1) (by omega) (by omega) (by omega)
  refine wf_sub (lv' := [(1, .int (nI (g 9 3))), (0, .ref (a 0))]) [0, 1] rfl ?_
  refine wf_world (wg E (kk 6) a (eHrs g (g 9 3 - g 9 3)) ++ (wk E kk ++ r)) (by rw [Nat.sub_self]; rfl) ?_
  exact L5 _ (g 9 3) (Nat.lt_succ_self _) (Nat.le_refl _) f3
abbrev rmX2_hourOfGoing : Room := { frames := 4, cells := 0, slots := 0, locals := 95 }
set_option maxHeartbeats 4000000 in
set_option maxRecDepth 100000 in
theorem c_X2_hourOfGoing {l : Launch} {E : Ev} {w : Nat} {g : Gd} {a kk : Nat → Nat} {r : va_W} (hI : Inv g) (hw : w < 10) : CT l E yX2_hourOfGoing cX2_hourOfGoing 3 (some .int) rmX2_hourOfGoing [.ref (a 0), .int (nI w)] (wg E (kk 6) a g ++ (wk E kk ++ r)) (fun v w2 => v = some (.int (nI (eGoes g w (8 - g 9 3)))) ∧ ∃ g2, Inv g2 ∧ w2 = (wg E (kk 6) a g2 ++ (wk E kk ++ r))) := by
  refine CT.of (lv := [(0, .ref (a 0)), (1, .int (nI w))]) false (by decide +kernel) (by decide) (Nat.le_of_ble_eq_true rfl) rfl ?_
  have f0 := hI.words
  have f1 := hI.birds
  have f2 := hI.gone
  have f3 := hI.hour
  refine wf_aload_n 0 dX2_hourOfGoing_0 rfl ?_
  refine wf_getf (C := RX2) (T := TX2) (N := 14) (v := .int (nI (g 9 3))) 0 13 in_X2 rfl rfl (by decide) fl_X2_59 rfl dX2_hourOfGoing_1 ?_
  refine wf_istore_n [(2, .int (nI (g 9 3))), (0, .ref (a 0)), (1, .int (nI w))] dX2_hourOfGoing_4 rfl (by decide) rfl ?_
  have L5 : ∀ (fu5 : Nat) (i : Nat), 8 - i < fu5 → (g 9 3 ≤ i) → (i ≤ 8) → (eGoes (eHrs g (i - g 9 3)) w (8 - i) = eGoes g w (8 - g 9 3)) → WF l E RX2 cX2_hourOfGoing 3 (some .int) rmX2_hourOfGoing false (fun _ => True) (QM E (wg E (kk 6) a g ++ (wk E kk ++ r)) (fun v w2 => v = some (.int (nI (eGoes g w (8 - g 9 3)))) ∧ ∃ g2, Inv g2 ∧ w2 = (wg E (kk 6) a g2 ++ (wk E kk ++ r))) rmX2_hourOfGoing) (wg E (kk 6) a g ++ (wk E kk ++ r)) 0 0 5 [(2, .int (nI i)), (0, .ref (a 0)), (1, .int (nI w))] [] (wg E (kk 6) a (eHrs g (i - g 9 3)) ++ (wk E kk ++ r)) := by
    intro fu5
    induction fu5 with
    | zero => intro i hn; exact absurd hn (Nat.not_lt_zero _)
    | succ fu5 ih5 =>
      intro i hn hi1 hi2 hgo
      have hH := hI.oHrs (i - g 9 3)
      have e93 := eHrs_hour (g := g) (i - g 9 3) (by omega)
      refine wf_iload_n 0 dX2_hourOfGoing_5 rfl ?_
      refine wf_bipush (nI 8) dX2_hourOfGoing_6 (by decide) ?_
      refine wf_icmp_ge_n 32 dX2_hourOfGoing_8 (by decide) (by omega) (by omega) (fun c8 => ?_) (fun c8 => ?_)
      · refine wf_bipush (nI 8) dX2_hourOfGoing_32 (by decide) ?_
        exact wf_iret .int rfl (vp_nar_int _) ⟨rfl, rfl⟩ (⟨by rw [← hgo, show 8 - i = 0 by omega]; rfl, _, hH, rfl⟩) dX2_hourOfGoing_34
      · refine wf_aload_n 1 dX2_hourOfGoing_11 rfl ?_
        refine wf_callVD (As := []) (rest := []) 0 (c_X2_passHour hH) kV_X2_100 rfl (by decide) (by decide) (Nat.le_of_ble_eq_true rfl) rfl rfl rfl dX2_hourOfGoing_12 ?_
        refine wf_pop dX2_hourOfGoing_15 rfl ?_
        refine wf_aload_n 1 dX2_hourOfGoing_16 rfl ?_
        refine wf_iload_n 2 dX2_hourOfGoing_17 rfl ?_
        refine wf_callVD (As := [.int (nI w)]) (rest := []) 0 (c_X2_isGone hH.oHr (by omega)) kV_X2_73 rfl (by decide) (by decide) (Nat.le_of_ble_eq_true rfl) rfl rfl rfl dX2_hourOfGoing_18 ?_
        refine wf_if_eq_b 26 dX2_hourOfGoing_21 (by decide) (fun c21 => ?_) (fun c21 => ?_)
        · refine wf_iinc (nI (i + 1)) 0 [(2, .int (nI (i + 1))), (0, .ref (a 0)), (1, .int (nI w))] dX2_hourOfGoing_26 rfl (nI_1 i) (by decide) rfl ?_
          refine wf_goto 5 dX2_hourOfGoing_29 (by decide) ?_
          refine wf_sub (lv' := [(2, .int (nI (i + 1))), (0, .ref (a 0)), (1, .int (nI w))]) [0, 1, 2] rfl ?_
          refine wf_world (wg E (kk 6) a (eHrs g (i + 1 - g 9 3)) ++ (wk E kk ++ r)) (by rw [show i + 1 - g 9 3 = (i - g 9 3) + 1 by omega]; rfl) ?_
          exact ih5 (i + 1) (by omega) (by omega) (by omega) (by rw [← hgo, show 8 - i = (8 - (i + 1)) + 1 by omega, show i + 1 - g 9 3 = (i - g 9 3) + 1 by omega]; show _ = (if _ then _ else _); rw [if_neg (by rw [c21]; decide)]; rfl)
        · refine wf_iload_n 0 dX2_hourOfGoing_24 rfl ?_
          exact wf_iret .int rfl (vp_nar_int _) ⟨rfl, rfl⟩ (⟨by rw [← hgo, show 8 - i = (7 - i) + 1 by omega]; show _ = some (Value.int (nI (if _ then _ else _))); rw [if_pos c21, e93, show g 9 3 + (i - g 9 3) = i by omega], _, hH.oHr, rfl⟩) dX2_hourOfGoing_25
  refine wf_sub (lv' := [(2, .int (nI (g 9 3))), (0, .ref (a 0)), (1, .int (nI w))]) [0, 1, 2] rfl ?_
  refine wf_world (wg E (kk 6) a (eHrs g (g 9 3 - g 9 3)) ++ (wk E kk ++ r)) (by rw [Nat.sub_self]; rfl) ?_
  exact L5 _ (g 9 3) (Nat.lt_succ_self _) (Nat.le_refl _) f3 (by rw [Nat.sub_self]; rfl)
abbrev rmX2_countLeftOf : Room := { frames := 1, cells := 0, slots := 0, locals := 21 }
set_option maxHeartbeats 4000000 in
set_option maxRecDepth 100000 in
theorem c_X2_countLeftOf {l : Launch} {E : Ev} {m : Nat} {g : Gd} {a kk : Nat → Nat} {r : va_W} (hI : Inv g) (hm : m < 1000) : CT l E yX2_countLeftOf cX2_countLeftOf 4 (some .int) rmX2_countLeftOf [.ref (a 0), .int (nI m)] (wg E (kk 6) a g ++ (wk E kk ++ r)) (IS (some (.int (nI (eOf g m (g 9 0))))) (wg E (kk 6) a g ++ (wk E kk ++ r))) := by
  refine CT.of (lv := [(0, .ref (a 0)), (1, .int (nI m))]) false (by decide +kernel) (by decide) (Nat.le_of_ble_eq_true rfl) rfl ?_
  have f0 := hI.words
  have f1 := hI.birds
  have f2 := hI.gone
  have f3 := hI.hour
  refine wf_iconst (nI 0) dX2_countLeftOf_0 (by decide) ?_
  refine wf_istore_n [(2, .int (nI 0)), (0, .ref (a 0)), (1, .int (nI m))] dX2_countLeftOf_1 rfl (by decide) rfl ?_
  refine wf_iconst (nI 0) dX2_countLeftOf_2 (by decide) ?_
  refine wf_istore_n [(3, .int (nI 0)), (2, .int (nI 0)), (0, .ref (a 0)), (1, .int (nI m))] dX2_countLeftOf_3 rfl (by decide) rfl ?_
  have L4 : ∀ (fu4 : Nat) (n : Nat), g 9 0 - n < fu4 → (n ≤ g 9 0) → WF l E RX2 cX2_countLeftOf 4 (some .int) rmX2_countLeftOf false (fun _ => True) (QM E (wg E (kk 6) a g ++ (wk E kk ++ r)) (IS (some (.int (nI (eOf g m (g 9 0))))) (wg E (kk 6) a g ++ (wk E kk ++ r))) rmX2_countLeftOf) (wg E (kk 6) a g ++ (wk E kk ++ r)) 0 0 4 [(3, .int (nI n)), (2, .int (nI (eOf g m n))), (0, .ref (a 0)), (1, .int (nI m))] [] (wg E (kk 6) a g ++ (wk E kk ++ r)) := by
    intro fu4
    induction fu4 with
    | zero => intro n hn; exact absurd hn (Nat.not_lt_zero _)
    | succ fu4 ih4 =>
      intro n hn hn0
      have f6 := hI.mean n
      have f7 := eOf_le g m n
      refine wf_iload_n 0 dX2_countLeftOf_4 rfl ?_
      refine wf_aload_n 2 dX2_countLeftOf_5 rfl ?_
      refine wf_getf (C := RX2) (T := TX2) (N := 14) (v := .int (nI (g 9 0))) 0 4 in_X2 rfl rfl (by decide) fl_X2_49 rfl dX2_countLeftOf_6 ?_
      refine wf_icmp_ge_n 39 dX2_countLeftOf_9 (by decide) (by omega) (by omega) (fun c9 => ?_) (fun c9 => ?_)
      · refine wf_iload_n 1 dX2_countLeftOf_39 rfl ?_
        exact wf_iret .int rfl (vp_nar_int _) ⟨rfl, rfl⟩ ⟨congrArg (fun z => some (Value.int z)) (by rw [show n = g 9 0 by omega]), rfl⟩ dX2_countLeftOf_40
      · refine wf_aload_n 2 dX2_countLeftOf_12 rfl ?_
        refine wf_iload_n 0 dX2_countLeftOf_13 rfl ?_
        refine wf_callVD (As := [.int (nI n)]) (rest := []) 0 (c_X2_isGone hI (by omega)) kV_X2_73 rfl (by decide) (by decide) (Nat.le_of_ble_eq_true rfl) rfl rfl rfl dX2_countLeftOf_14 ?_
        refine wf_if_ne_b 33 dX2_countLeftOf_17 (by decide) (fun c17 => ?_) (fun c17 => ?_)
        · refine wf_iinc (nI (n + 1)) 0 [(3, .int (nI (n + 1))), (2, .int (nI (eOf g m n))), (0, .ref (a 0)), (1, .int (nI m))] dX2_countLeftOf_33 rfl (nI_1 n) (by decide) rfl ?_
          refine wf_goto 4 dX2_countLeftOf_36 (by decide) ?_
          refine wf_sub (lv' := [(3, .int (nI (n + 1))), (2, .int (nI (eOf g m n))), (0, .ref (a 0)), (1, .int (nI m))]) [0, 1, 2, 3] rfl ?_
          refine wf_lvc [(3, .int (nI (n + 1))), (2, .int (nI (eOf g m (n + 1)))), (0, .ref (a 0)), (1, .int (nI m))] (by rw [show (eOf g m n) = eOf g m (n + 1) from by show _ = eOf g m n + (if _ then _ else _); rw [if_neg (by rw [c17]; simp), Nat.add_zero]]) ?_
          exact ih4 (n + 1) (by omega) (by omega)
        · refine wf_aload_n 2 dX2_countLeftOf_20 rfl ?_
          refine wf_getf (C := RX2) (T := TX2) (N := 14) (v := .ref (a 3)) 0 3 in_X2 rfl rfl (by decide) fl_X2_18 rfl dX2_countLeftOf_21 ?_
          refine wf_iload_n 0 dX2_countLeftOf_24 rfl ?_
          refine wf_iald_n (nI (g 2 n)) 3 rfl (by omega) (by decide) rfl dX2_countLeftOf_25 ?_
          refine wf_iload_n 3 dX2_countLeftOf_26 rfl ?_
          refine wf_icmp_ne_n 33 dX2_countLeftOf_27 (by decide) (by omega) (by omega) (fun c27 => ?_) (fun c27 => ?_)
          · refine wf_iinc (nI (n + 1)) 0 [(3, .int (nI (n + 1))), (2, .int (nI (eOf g m n))), (0, .ref (a 0)), (1, .int (nI m))] dX2_countLeftOf_33 rfl (nI_1 n) (by decide) rfl ?_
            refine wf_goto 4 dX2_countLeftOf_36 (by decide) ?_
            refine wf_sub (lv' := [(3, .int (nI (n + 1))), (2, .int (nI (eOf g m n))), (0, .ref (a 0)), (1, .int (nI m))]) [0, 1, 2, 3] rfl ?_
            refine wf_lvc [(3, .int (nI (n + 1))), (2, .int (nI (eOf g m (n + 1)))), (0, .ref (a 0)), (1, .int (nI m))] (by rw [show (eOf g m n) = eOf g m (n + 1) from by show _ = eOf g m n + (if _ then _ else _); rw [if_neg (fun z => c27 z.2), Nat.add_zero]]) ?_
            exact ih4 (n + 1) (by omega) (by omega)
          · refine wf_iinc (nI (eOf g m n + 1)) 1 [(2, .int (nI (eOf g m n + 1))), (3, .int (nI n)), (0, .ref (a 0)), (1, .int (nI m))] dX2_countLeftOf_30 rfl (nI_1 (eOf g m n)) (by decide) rfl ?_
            refine wf_iinc (nI (n + 1)) 1 [(3, .int (nI (n + 1))), (2, .int (nI (eOf g m n + 1))), (0, .ref (a 0)), (1, .int (nI m))] dX2_countLeftOf_33 rfl (nI_1 n) (by decide) rfl ?_
            refine wf_goto 4 dX2_countLeftOf_36 (by decide) ?_
            refine wf_sub (lv' := [(3, .int (nI (n + 1))), (2, .int (nI (eOf g m n + 1))), (0, .ref (a 0)), (1, .int (nI m))]) [0, 1, 2, 3] rfl ?_
            refine wf_lvc [(3, .int (nI (n + 1))), (2, .int (nI (eOf g m (n + 1)))), (0, .ref (a 0)), (1, .int (nI m))] (by rw [show (eOf g m n + 1) = eOf g m (n + 1) from by show _ = eOf g m n + (if _ then _ else _); rw [if_pos ⟨c17, c27⟩]]) ?_
            exact ih4 (n + 1) (by omega) (by omega)
  refine wf_sub (lv' := [(3, .int (nI 0)), (2, .int (nI 0)), (0, .ref (a 0)), (1, .int (nI m))]) [0, 1, 2, 3] rfl ?_
  exact L4 _ 0 (Nat.lt_succ_self _) (Nat.zero_le _)
abbrev rmX2_leftMeanings : Room := { frames := 1, cells := 0, slots := 0, locals := 21 }
set_option maxHeartbeats 4000000 in
set_option maxRecDepth 100000 in
theorem c_X2_leftMeanings {l : Launch} {E : Ev} {g : Gd} {a kk : Nat → Nat} {r : va_W} (hI : Inv g) : CT l E yX2_leftMeanings cX2_leftMeanings 3 (some .int) rmX2_leftMeanings [.ref (a 0)] (wg E (kk 6) a g ++ (wk E kk ++ r)) (IS (some (.int (nI (eMean g (g 9 0))))) (wg E (kk 6) a g ++ (wk E kk ++ r))) := by
  refine CT.of (lv := [(0, .ref (a 0))]) false (by decide +kernel) (by decide) (Nat.le_of_ble_eq_true rfl) rfl ?_
  have f0 := hI.words
  have f1 := hI.birds
  have f2 := hI.gone
  have f3 := hI.hour
  refine wf_iconst (nI 0) dX2_leftMeanings_0 (by decide) ?_
  refine wf_istore_n [(1, .int (nI 0)), (0, .ref (a 0))] dX2_leftMeanings_1 rfl (by decide) rfl ?_
  refine wf_iconst (nI 0) dX2_leftMeanings_2 (by decide) ?_
  refine wf_istore_n [(2, .int (nI 0)), (1, .int (nI 0)), (0, .ref (a 0))] dX2_leftMeanings_3 rfl (by decide) rfl ?_
  have L4 : ∀ (fu4 : Nat) (n : Nat), g 9 0 - n < fu4 → (n ≤ g 9 0) → WF l E RX2 cX2_leftMeanings 3 (some .int) rmX2_leftMeanings false (fun _ => True) (QM E (wg E (kk 6) a g ++ (wk E kk ++ r)) (IS (some (.int (nI (eMean g (g 9 0))))) (wg E (kk 6) a g ++ (wk E kk ++ r))) rmX2_leftMeanings) (wg E (kk 6) a g ++ (wk E kk ++ r)) 0 0 4 [(2, .int (nI n)), (1, .int (nI (eMean g n))), (0, .ref (a 0))] [] (wg E (kk 6) a g ++ (wk E kk ++ r)) := by
    intro fu4
    induction fu4 with
    | zero => intro n hn; exact absurd hn (Nat.not_lt_zero _)
    | succ fu4 ih4 =>
      intro n hn hn0
      have f6 := hI.mean n
      have f7 := eMean_lt hI n
      have f8 : 1 <<< g 2 n < 1024 := by rw [Nat.shiftLeft_eq, Nat.one_mul]; exact Nat.lt_of_lt_of_le (Nat.pow_lt_pow_right (by decide) (show g 2 n < 10 by omega)) (by decide)
      refine wf_iload_n 0 dX2_leftMeanings_4 rfl ?_
      refine wf_aload_n 2 dX2_leftMeanings_5 rfl ?_
      refine wf_getf (C := RX2) (T := TX2) (N := 14) (v := .int (nI (g 9 0))) 0 4 in_X2 rfl rfl (by decide) fl_X2_49 rfl dX2_leftMeanings_6 ?_
      refine wf_icmp_ge_n 37 dX2_leftMeanings_9 (by decide) (by omega) (by omega) (fun c9 => ?_) (fun c9 => ?_)
      · refine wf_iload_n 1 dX2_leftMeanings_37 rfl ?_
        exact wf_iret .int rfl (vp_nar_int _) ⟨rfl, rfl⟩ ⟨congrArg (fun z => some (Value.int z)) (by rw [show n = g 9 0 by omega]), rfl⟩ dX2_leftMeanings_38
      · refine wf_aload_n 2 dX2_leftMeanings_12 rfl ?_
        refine wf_iload_n 0 dX2_leftMeanings_13 rfl ?_
        refine wf_callVD (As := [.int (nI n)]) (rest := []) 0 (c_X2_isGone hI (by omega)) kV_X2_73 rfl (by decide) (by decide) (Nat.le_of_ble_eq_true rfl) rfl rfl rfl dX2_leftMeanings_14 ?_
        refine wf_if_ne_b 31 dX2_leftMeanings_17 (by decide) (fun c17 => ?_) (fun c17 => ?_)
        · refine wf_iinc (nI (n + 1)) 0 [(2, .int (nI (n + 1))), (1, .int (nI (eMean g n))), (0, .ref (a 0))] dX2_leftMeanings_31 rfl (nI_1 n) (by decide) rfl ?_
          refine wf_goto 4 dX2_leftMeanings_34 (by decide) ?_
          refine wf_sub (lv' := [(2, .int (nI (n + 1))), (1, .int (nI (eMean g n))), (0, .ref (a 0))]) [0, 1, 2] rfl ?_
          refine wf_lvc [(2, .int (nI (n + 1))), (1, .int (nI (eMean g (n + 1)))), (0, .ref (a 0))] (by rw [show (eMean g n) = eMean g (n + 1) from by show _ = (if _ then _ else _); rw [if_pos c17]]) ?_
          exact ih4 (n + 1) (by omega) (by omega)
        · refine wf_iload_n 1 dX2_leftMeanings_20 rfl ?_
          refine wf_iconst (nI 1) dX2_leftMeanings_21 (by decide) ?_
          refine wf_aload_n 2 dX2_leftMeanings_22 rfl ?_
          refine wf_getf (C := RX2) (T := TX2) (N := 14) (v := .ref (a 3)) 0 3 in_X2 rfl rfl (by decide) fl_X2_18 rfl dX2_leftMeanings_23 ?_
          refine wf_iload_n 0 dX2_leftMeanings_26 rfl ?_
          refine wf_iald_n (nI (g 2 n)) 3 rfl (by omega) (by decide) rfl dX2_leftMeanings_27 ?_
          refine wf_ishl (nI (1 <<< (g 2 n))) dX2_leftMeanings_28 (nI_shl (by omega) (by omega)) ?_
          refine wf_ior (nI ((eMean g n) ||| (1 <<< (g 2 n)))) dX2_leftMeanings_29 (nI_lor (by omega) (by omega)) ?_
          refine wf_istore_n [(1, .int (nI ((eMean g n) ||| (1 <<< (g 2 n))))), (2, .int (nI n)), (0, .ref (a 0))] dX2_leftMeanings_30 rfl (by decide) rfl ?_
          refine wf_iinc (nI (n + 1)) 1 [(2, .int (nI (n + 1))), (1, .int (nI ((eMean g n) ||| (1 <<< (g 2 n))))), (0, .ref (a 0))] dX2_leftMeanings_31 rfl (nI_1 n) (by decide) rfl ?_
          refine wf_goto 4 dX2_leftMeanings_34 (by decide) ?_
          refine wf_sub (lv' := [(2, .int (nI (n + 1))), (1, .int (nI ((eMean g n) ||| (1 <<< (g 2 n))))), (0, .ref (a 0))]) [0, 1, 2] rfl ?_
          refine wf_lvc [(2, .int (nI (n + 1))), (1, .int (nI (eMean g (n + 1)))), (0, .ref (a 0))] (by rw [show ((eMean g n) ||| (1 <<< (g 2 n))) = eMean g (n + 1) from by show _ = (if _ then _ else _); rw [if_neg (by rw [c17]; decide)]]) ?_
          exact ih4 (n + 1) (by omega) (by omega)
  refine wf_sub (lv' := [(2, .int (nI 0)), (1, .int (nI 0)), (0, .ref (a 0))]) [0, 1, 2] rfl ?_
  exact L4 _ 0 (Nat.lt_succ_self _) (Nat.zero_le _)
abbrev rmX2_strengthLeft : Room := { frames := 1, cells := 0, slots := 0, locals := 22 }
set_option maxHeartbeats 4000000 in
set_option maxRecDepth 100000 in
theorem c_X2_strengthLeft {l : Launch} {E : Ev} {g : Gd} {a kk : Nat → Nat} {r : va_W} (hI : Inv g) : CT l E yX2_strengthLeft cX2_strengthLeft 3 (some .int) rmX2_strengthLeft [.ref (a 0)] (wg E (kk 6) a g ++ (wk E kk ++ r)) (IS (some (.int (nI (eSum g (g 9 0))))) (wg E (kk 6) a g ++ (wk E kk ++ r))) := by
  refine CT.of (lv := [(0, .ref (a 0))]) false (by decide +kernel) (by decide) (Nat.le_of_ble_eq_true rfl) rfl ?_
  have f0 := hI.words
  have f1 := hI.birds
  have f2 := hI.gone
  have f3 := hI.hour
  refine wf_iconst (nI 0) dX2_strengthLeft_0 (by decide) ?_
  refine wf_istore_n [(1, .int (nI 0)), (0, .ref (a 0))] dX2_strengthLeft_1 rfl (by decide) rfl ?_
  refine wf_iconst (nI 0) dX2_strengthLeft_2 (by decide) ?_
  refine wf_istore_n [(2, .int (nI 0)), (1, .int (nI 0)), (0, .ref (a 0))] dX2_strengthLeft_3 rfl (by decide) rfl ?_
  have L4 : ∀ (fu4 : Nat) (n : Nat), g 9 0 - n < fu4 → (n ≤ g 9 0) → WF l E RX2 cX2_strengthLeft 3 (some .int) rmX2_strengthLeft false (fun _ => True) (QM E (wg E (kk 6) a g ++ (wk E kk ++ r)) (IS (some (.int (nI (eSum g (g 9 0))))) (wg E (kk 6) a g ++ (wk E kk ++ r))) rmX2_strengthLeft) (wg E (kk 6) a g ++ (wk E kk ++ r)) 0 0 4 [(2, .int (nI n)), (1, .int (nI (eSum g n))), (0, .ref (a 0))] [] (wg E (kk 6) a g ++ (wk E kk ++ r)) := by
    intro fu4
    induction fu4 with
    | zero => intro n hn; exact absurd hn (Nat.not_lt_zero _)
    | succ fu4 ih4 =>
      intro n hn hn0
      refine wf_iload_n 0 dX2_strengthLeft_4 rfl ?_
      refine wf_aload_n 2 dX2_strengthLeft_5 rfl ?_
      refine wf_getf (C := RX2) (T := TX2) (N := 14) (v := .int (nI (g 9 0))) 0 4 in_X2 rfl rfl (by decide) fl_X2_49 rfl dX2_strengthLeft_6 ?_
      refine wf_icmp_ge_n 34 dX2_strengthLeft_9 (by decide) (by omega) (by omega) (fun c9 => ?_) (fun c9 => ?_)
      · refine wf_iload_n 1 dX2_strengthLeft_34 rfl ?_
        exact wf_iret .int rfl (vp_nar_int _) ⟨rfl, rfl⟩ ⟨congrArg (fun z => some (Value.int z)) (by rw [show n = g 9 0 by omega]), rfl⟩ dX2_strengthLeft_35
      · refine wf_aload_n 2 dX2_strengthLeft_12 rfl ?_
        refine wf_iload_n 0 dX2_strengthLeft_13 rfl ?_
        refine wf_callVD (As := [.int (nI n)]) (rest := []) 0 (c_X2_isGone hI (by omega)) kV_X2_73 rfl (by decide) (by decide) (Nat.le_of_ble_eq_true rfl) rfl rfl rfl dX2_strengthLeft_14 ?_
        refine wf_if_ne_b 28 dX2_strengthLeft_17 (by decide) (fun c17 => ?_) (fun c17 => ?_)
        · refine wf_iinc (nI (n + 1)) 0 [(2, .int (nI (n + 1))), (1, .int (nI (eSum g n))), (0, .ref (a 0))] dX2_strengthLeft_28 rfl (nI_1 n) (by decide) rfl ?_
          refine wf_goto 4 dX2_strengthLeft_31 (by decide) ?_
          refine wf_sub (lv' := [(2, .int (nI (n + 1))), (1, .int (nI (eSum g n))), (0, .ref (a 0))]) [0, 1, 2] rfl ?_
          refine wf_lvc [(2, .int (nI (n + 1))), (1, .int (nI (eSum g (n + 1)))), (0, .ref (a 0))] (by rw [show (eSum g n) = eSum g (n + 1) from by show _ = eSum g n + (if _ then _ else _); rw [if_pos c17, Nat.add_zero]]) ?_
          exact ih4 (n + 1) (by omega) (by omega)
        · refine wf_iload_n 1 dX2_strengthLeft_20 rfl ?_
          refine wf_aload_n 2 dX2_strengthLeft_21 rfl ?_
          refine wf_iload_n 0 dX2_strengthLeft_22 rfl ?_
          refine wf_callVD (As := [.int (nI n)]) (rest := [.int (nI (eSum g n))]) 0 (c_X2_strength hI (by omega)) kV_X2_80 rfl (by decide) (by decide) (Nat.le_of_ble_eq_true rfl) rfl rfl rfl dX2_strengthLeft_23 ?_
          refine wf_iadd (nI ((eSum g n) + (eStr g n))) dX2_strengthLeft_26 (nI_add (eSum g n) (eStr g n)) ?_
          refine wf_istore_n [(1, .int (nI ((eSum g n) + (eStr g n)))), (2, .int (nI n)), (0, .ref (a 0))] dX2_strengthLeft_27 rfl (by decide) rfl ?_
          refine wf_iinc (nI (n + 1)) 1 [(2, .int (nI (n + 1))), (1, .int (nI ((eSum g n) + (eStr g n)))), (0, .ref (a 0))] dX2_strengthLeft_28 rfl (nI_1 n) (by decide) rfl ?_
          refine wf_goto 4 dX2_strengthLeft_31 (by decide) ?_
          refine wf_sub (lv' := [(2, .int (nI (n + 1))), (1, .int (nI ((eSum g n) + (eStr g n)))), (0, .ref (a 0))]) [0, 1, 2] rfl ?_
          refine wf_lvc [(2, .int (nI (n + 1))), (1, .int (nI (eSum g (n + 1)))), (0, .ref (a 0))] (by rw [show ((eSum g n) + (eStr g n)) = eSum g (n + 1) from by show _ = eSum g n + (if _ then _ else _); rw [if_neg (by rw [c17]; decide)]]) ?_
          exact ih4 (n + 1) (by omega) (by omega)
  refine wf_sub (lv' := [(2, .int (nI 0)), (1, .int (nI 0)), (0, .ref (a 0))]) [0, 1, 2] rfl ?_
  exact L4 _ 0 (Nat.lt_succ_self _) (Nat.zero_le _)
abbrev rmX2_placeOtherThan : Room := { frames := 1, cells := 0, slots := 0, locals := 21 }
set_option maxHeartbeats 4000000 in
set_option maxRecDepth 100000 in
theorem c_X2_placeOtherThan {l : Launch} {E : Ev} {g : Gd} {a kk : Nat → Nat} {r : va_W} {ax al : Nat → Nat} {an am ai : Nat} {y : Gd} (hI : Inv g) (hy : ∀ i, y 2 i ≤ 9) (hy2 : y 0 2 ≤ 10) : CT l E yX2_placeOtherThan cX2_placeOtherThan 5 (some .int) rmX2_placeOtherThan [.ref (a 0), .ref (ax 1), .int (nI (y 0 2))] (wg E (kk 6) a g ++ (wk E kk ++ (wl E al y ++ (wx E ax an am ai (al 0) y ++ r)))) (IS (some (.int (eO (eOther g (y 2) (y 0 2) (g 9 0) 0 0)))) (wg E (kk 6) a g ++ (wk E kk ++ (wl E al y ++ (wx E ax an am ai (al 0) y ++ r))))) := by
  refine CT.of (lv := [(0, .ref (a 0)), (1, .ref (ax 1)), (2, .int (nI (y 0 2)))]) false (by decide +kernel) (by decide) (Nat.le_of_ble_eq_true rfl) rfl ?_
  have f0 := hI.words
  have f1 := hI.birds
  have f2 := hI.gone
  have f3 := hI.hour
  refine wf_iconst (nI 0) dX2_placeOtherThan_0 (by decide) ?_
  refine wf_istore_n [(3, .int (nI 0)), (0, .ref (a 0)), (1, .ref (ax 1)), (2, .int (nI (y 0 2)))] dX2_placeOtherThan_1 rfl (by decide) rfl ?_
  refine wf_iconst (nI 0) dX2_placeOtherThan_2 (by decide) ?_
  refine wf_istore [(4, .int (nI 0)), (3, .int (nI 0)), (0, .ref (a 0)), (1, .ref (ax 1)), (2, .int (nI (y 0 2)))] dX2_placeOtherThan_3 (by decide) rfl ?_
  have L5 : ∀ (fu5 : Nat) (n : Nat) (p : Nat), g 9 0 - n < fu5 → (n ≤ g 9 0) → (p ≤ n) → (eOther g (y 2) (y 0 2) (g 9 0 - n) n p = eOther g (y 2) (y 0 2) (g 9 0) 0 0) → WF l E RX2 cX2_placeOtherThan 5 (some .int) rmX2_placeOtherThan false (fun _ => True) (QM E (wg E (kk 6) a g ++ (wk E kk ++ (wl E al y ++ (wx E ax an am ai (al 0) y ++ r)))) (IS (some (.int (eO (eOther g (y 2) (y 0 2) (g 9 0) 0 0)))) (wg E (kk 6) a g ++ (wk E kk ++ (wl E al y ++ (wx E ax an am ai (al 0) y ++ r))))) rmX2_placeOtherThan) (wg E (kk 6) a g ++ (wk E kk ++ (wl E al y ++ (wx E ax an am ai (al 0) y ++ r)))) 0 0 5 [(4, .int (nI n)), (3, .int (nI p)), (0, .ref (a 0)), (1, .ref (ax 1)), (2, .int (nI (y 0 2)))] [] (wg E (kk 6) a g ++ (wk E kk ++ (wl E al y ++ (wx E ax an am ai (al 0) y ++ r)))) := by
    intro fu5
    induction fu5 with
    | zero => intro n p hn; exact absurd hn (Nat.not_lt_zero _)
    | succ fu5 ih5 =>
      intro n p hn hn0 hp0 ho
      have f6 := hI.mean n
      have f7 := hy p
      refine wf_iload 0 dX2_placeOtherThan_5 rfl ?_
      refine wf_aload_n 2 dX2_placeOtherThan_7 rfl ?_
      refine wf_getf (C := RX2) (T := TX2) (N := 14) (v := .int (nI (g 9 0))) 0 4 in_X2 rfl rfl (by decide) fl_X2_49 rfl dX2_placeOtherThan_8 ?_
      refine wf_icmp_ge_n 55 dX2_placeOtherThan_11 (by decide) (by omega) (by omega) (fun c11 => ?_) (fun c11 => ?_)
      · refine wf_iload_n 1 dX2_placeOtherThan_55 rfl ?_
        refine wf_iload_n 4 dX2_placeOtherThan_56 rfl ?_
        refine wf_icmp_ge_n 64 dX2_placeOtherThan_57 (by decide) (by omega) (by omega) (fun c57 => ?_) (fun c57 => ?_)
        · refine wf_bipush (-9) dX2_placeOtherThan_64 (by decide) ?_
          exact wf_iret .int rfl (vp_nar_int _) ⟨rfl, rfl⟩ ⟨congrArg (fun z => some (Value.int z)) (by rw [← ho, show g 9 0 - n = 0 by omega]; show _ = eO (if _ then _ else _); rw [if_neg (by omega)]; rfl), rfl⟩ dX2_placeOtherThan_66
        · refine wf_iload_n 1 dX2_placeOtherThan_60 rfl ?_
          refine wf_goto 66 dX2_placeOtherThan_61 (by decide) ?_
          exact wf_iret .int rfl (vp_nar_int _) ⟨rfl, rfl⟩ ⟨congrArg (fun z => some (Value.int z)) (by rw [← ho, show g 9 0 - n = 0 by omega]; show _ = eO (if _ then _ else _); rw [if_pos c57]; rfl), rfl⟩ dX2_placeOtherThan_66
      · refine wf_aload_n 2 dX2_placeOtherThan_14 rfl ?_
        refine wf_iload 0 dX2_placeOtherThan_15 rfl ?_
        refine wf_callVD (As := [.int (nI n)]) (rest := []) 0 (c_X2_isGone hI (by omega)) kV_X2_73 rfl (by decide) (by decide) (Nat.le_of_ble_eq_true rfl) rfl rfl rfl dX2_placeOtherThan_17 ?_
        refine wf_if_eq_b 26 dX2_placeOtherThan_20 (by decide) (fun c20 => ?_) (fun c20 => ?_)
        · refine wf_iload_n 1 dX2_placeOtherThan_26 rfl ?_
          refine wf_iload_n 4 dX2_placeOtherThan_27 rfl ?_
          refine wf_icmp_ge_n 44 dX2_placeOtherThan_28 (by decide) (by omega) (by omega) (fun c28 => ?_) (fun c28 => ?_)
          · refine wf_iload_n 1 dX2_placeOtherThan_44 rfl ?_
            exact wf_iret .int rfl (vp_nar_int _) ⟨rfl, rfl⟩ ⟨congrArg (fun z => some (Value.int z)) (by rw [← ho, show g 9 0 - n = (g 9 0 - (n + 1)) + 1 by omega]; show _ = eO (if _ then _ else if _ then _ else _); rw [if_neg (by rw [c20]; decide), if_pos (Or.inl c28)]; rfl), rfl⟩ dX2_placeOtherThan_45
          · refine wf_aload_n 3 dX2_placeOtherThan_31 rfl ?_
            refine wf_iload_n 1 dX2_placeOtherThan_32 rfl ?_
            refine wf_iald_n (nI (y 2 p)) 20 rfl (by omega) (by decide) rfl dX2_placeOtherThan_33 ?_
            refine wf_aload_n 2 dX2_placeOtherThan_34 rfl ?_
            refine wf_getf (C := RX2) (T := TX2) (N := 14) (v := .ref (a 3)) 0 3 in_X2 rfl rfl (by decide) fl_X2_18 rfl dX2_placeOtherThan_35 ?_
            refine wf_iload 0 dX2_placeOtherThan_38 rfl ?_
            refine wf_iald_n (nI (g 2 n)) 3 rfl (by omega) (by decide) rfl dX2_placeOtherThan_40 ?_
            refine wf_icmp_eq_n 46 dX2_placeOtherThan_41 (by decide) (by omega) (by omega) (fun c41 => ?_) (fun c41 => ?_)
            · refine wf_iinc (nI (p + 1)) 1 [(3, .int (nI (p + 1))), (4, .int (nI n)), (0, .ref (a 0)), (1, .ref (ax 1)), (2, .int (nI (y 0 2)))] dX2_placeOtherThan_46 rfl (nI_1 p) (by decide) rfl ?_
              refine wf_iinc (nI (n + 1)) 1 [(4, .int (nI (n + 1))), (3, .int (nI (p + 1))), (0, .ref (a 0)), (1, .ref (ax 1)), (2, .int (nI (y 0 2)))] dX2_placeOtherThan_49 rfl (nI_1 n) (by decide) rfl ?_
              refine wf_goto 5 dX2_placeOtherThan_52 (by decide) ?_
              refine wf_sub (lv' := [(4, .int (nI (n + 1))), (3, .int (nI (p + 1))), (0, .ref (a 0)), (1, .ref (ax 1)), (2, .int (nI (y 0 2)))]) [0, 1, 2, 3, 4] rfl ?_
              exact ih5 (n + 1) (p + 1) (by omega) (by omega) (by omega) (by rw [← ho, show g 9 0 - n = (g 9 0 - (n + 1)) + 1 by omega]; symm; show (if _ then _ else if _ then _ else _) = _; rw [if_neg (by rw [c20]; decide), if_neg (by omega)])
            · refine wf_iload_n 1 dX2_placeOtherThan_44 rfl ?_
              exact wf_iret .int rfl (vp_nar_int _) ⟨rfl, rfl⟩ ⟨congrArg (fun z => some (Value.int z)) (by rw [← ho, show g 9 0 - n = (g 9 0 - (n + 1)) + 1 by omega]; show _ = eO (if _ then _ else if _ then _ else _); rw [if_neg (by rw [c20]; decide), if_pos (Or.inr c41)]; rfl), rfl⟩ dX2_placeOtherThan_45
        · refine wf_goto 49 dX2_placeOtherThan_23 (by decide) ?_
          refine wf_iinc (nI (n + 1)) 0 [(4, .int (nI (n + 1))), (3, .int (nI p)), (0, .ref (a 0)), (1, .ref (ax 1)), (2, .int (nI (y 0 2)))] dX2_placeOtherThan_49 rfl (nI_1 n) (by decide) rfl ?_
          refine wf_goto 5 dX2_placeOtherThan_52 (by decide) ?_
          refine wf_sub (lv' := [(4, .int (nI (n + 1))), (3, .int (nI p)), (0, .ref (a 0)), (1, .ref (ax 1)), (2, .int (nI (y 0 2)))]) [0, 1, 2, 3, 4] rfl ?_
          exact ih5 (n + 1) p (by omega) (by omega) (by omega) (by rw [← ho, show g 9 0 - n = (g 9 0 - (n + 1)) + 1 by omega]; symm; show (if _ then _ else if _ then _ else _) = _; rw [if_pos c20])
  refine wf_sub (lv' := [(4, .int (nI 0)), (3, .int (nI 0)), (0, .ref (a 0)), (1, .ref (ax 1)), (2, .int (nI (y 0 2)))]) [0, 1, 2, 3, 4] rfl ?_
  exact L5 _ 0 0 (Nat.lt_succ_self _) (Nat.zero_le _) (Nat.zero_le _) rfl
