abbrev rmX2_isGone : Room := { frames := 0, cells := 0, slots := 0, locals := 0 }
set_option maxHeartbeats 4000000 in
set_option maxRecDepth 100000 in
theorem c_X2_isGone {l : Launch} {E : Ev} {w : Nat} {g : Gd} {a kk : Nat → Nat} {r : va_W} (hI : Inv g) (hw : w < 10) : CT l E yX2_isGone cX2_isGone 2 (some .boolean) rmX2_isGone [.ref (a 0), .int (nI w)] (wg E (kk 6) a g ++ (wk E kk ++ r)) (IS (some (.int (bI (eGone g w)))) (wg E (kk 6) a g ++ (wk E kk ++ r))) := by
  refine CT.of (lv := [(0, .ref (a 0)), (1, .int (nI w))]) false (by decide +kernel) (by decide) (Nat.le_of_ble_eq_true rfl) rfl ?_
  have f0 := hI.words
  have f1 := hI.birds
  have f2 := hI.gone
  have f3 := hI.hour
  refine wf_aload_n 0 dX2_isGone_0 rfl ?_
  refine wf_getf (C := RX2) (T := TX2) (N := 14) (v := .int (nI (g 9 2))) 0 12 in_X2 rfl rfl (by decide) fl_X2_56 rfl dX2_isGone_1 ?_
  refine wf_iload_n 1 dX2_isGone_4 rfl ?_
  refine wf_ishr (nI ((g 9 2) >>> w)) dX2_isGone_5 (nI_shr (by omega) (by omega)) ?_
  refine wf_iconst (nI 1) dX2_isGone_6 (by decide) ?_
  refine wf_iand (nI (((g 9 2) >>> w) &&& 1)) dX2_isGone_7 (nI_land (Nat.lt_of_le_of_lt (Nat.shiftRight_le _ _) (by omega)) (by decide)) ?_
  refine wf_iconst (nI 1) dX2_isGone_8 (by decide) ?_
  refine wf_icmp_ne_n 16 dX2_isGone_9 (by decide) (Nat.lt_trans (and1 _) (by decide)) (by decide) (fun c9 => ?_) (fun c9 => ?_)
  · refine wf_iconst (nI 0) dX2_isGone_16 (by decide) ?_
    exact wf_iret .boolean rfl (by decide) ⟨rfl, rfl⟩ ⟨congrArg (fun z => some (Value.int z)) (b1_zero (decide_eq_false c9)), rfl⟩ dX2_isGone_17
  · refine wf_iconst (nI 1) dX2_isGone_12 (by decide) ?_
    refine wf_goto 17 dX2_isGone_13 (by decide) ?_
    exact wf_iret .boolean rfl (by decide) ⟨rfl, rfl⟩ ⟨congrArg (fun z => some (Value.int z)) (b1_one (decide_eq_true c9)), rfl⟩ dX2_isGone_17
abbrev rmX2_isWatched : Room := { frames := 0, cells := 0, slots := 0, locals := 0 }
set_option maxHeartbeats 4000000 in
set_option maxRecDepth 100000 in
theorem c_X2_isWatched {l : Launch} {E : Ev} {w h : Nat} {g : Gd} {a kk : Nat → Nat} {r : va_W} (hI : Inv g) (hw : w < 10) (hh : h ≤ 8) : CT l E yX2_isWatched cX2_isWatched 3 (some .boolean) rmX2_isWatched [.ref (a 0), .int (nI w), .int (nI h)] (wg E (kk 6) a g ++ (wk E kk ++ r)) (IS (some (.int (bI (eWat g w h)))) (wg E (kk 6) a g ++ (wk E kk ++ r))) := by
  refine CT.of (lv := [(0, .ref (a 0)), (1, .int (nI w)), (2, .int (nI h))]) false (by decide +kernel) (by decide) (Nat.le_of_ble_eq_true rfl) rfl ?_
  have f0 := hI.words
  have f1 := hI.birds
  have f2 := hI.gone
  have f3 := hI.hour
  refine wf_iload_n 2 dX2_isWatched_0 rfl ?_
  refine wf_if_lt 28 dX2_isWatched_1 (by decide) (fun c1 => ?_) (fun c1 => ?_)
  · exact absurd c1 (nI_pos (by omega))
  · refine wf_iload_n 2 dX2_isWatched_4 rfl ?_
    refine wf_bipush (nI 8) dX2_isWatched_5 (by decide) ?_
    refine wf_icmp_ge_n 28 dX2_isWatched_7 (by decide) (by omega) (by omega) (fun c7 => ?_) (fun c7 => ?_)
    · refine wf_iconst (nI 0) dX2_isWatched_28 (by decide) ?_
      exact wf_iret .boolean rfl (by decide) ⟨rfl, rfl⟩ ⟨congrArg (fun z => some (Value.int z)) (b1_zero (by unfold eWat; rw [decide_eq_false (by omega), Bool.false_and])), rfl⟩ dX2_isWatched_29
    · refine wf_aload_n 0 dX2_isWatched_10 rfl ?_
      refine wf_getf (C := RX2) (T := TX2) (N := 14) (v := .ref (a 9)) 0 11 in_X2 rfl rfl (by decide) fl_X2_36 rfl dX2_isWatched_11 ?_
      refine wf_iload_n 2 dX2_isWatched_14 rfl ?_
      refine wf_iald_n (nI (g 8 h)) 9 rfl (by omega) (by decide) rfl dX2_isWatched_15 ?_
      refine wf_iload_n 1 dX2_isWatched_16 rfl ?_
      refine wf_ishr (nI ((g 8 h) >>> w)) dX2_isWatched_17 (nI_shr (by have := hI.wat h; omega) (by omega)) ?_
      refine wf_iconst (nI 1) dX2_isWatched_18 (by decide) ?_
      refine wf_iand (nI (((g 8 h) >>> w) &&& 1)) dX2_isWatched_19 (nI_land (Nat.lt_of_le_of_lt (Nat.shiftRight_le _ _) (by have := hI.wat h; omega)) (by decide)) ?_
      refine wf_iconst (nI 1) dX2_isWatched_20 (by decide) ?_
      refine wf_icmp_ne_n 28 dX2_isWatched_21 (by decide) (Nat.lt_trans (and1 _) (by decide)) (by decide) (fun c21 => ?_) (fun c21 => ?_)
      · refine wf_iconst (nI 0) dX2_isWatched_28 (by decide) ?_
        exact wf_iret .boolean rfl (by decide) ⟨rfl, rfl⟩ ⟨congrArg (fun z => some (Value.int z)) (b1_zero (by unfold eWat; rw [decide_eq_false c21, Bool.and_false])), rfl⟩ dX2_isWatched_29
      · refine wf_iconst (nI 1) dX2_isWatched_24 (by decide) ?_
        refine wf_goto 29 dX2_isWatched_25 (by decide) ?_
        exact wf_iret .boolean rfl (by decide) ⟨rfl, rfl⟩ ⟨congrArg (fun z => some (Value.int z)) (b1_one (by unfold eWat; rw [decide_eq_true c7, decide_eq_true c21]; rfl)), rfl⟩ dX2_isWatched_29
abbrev rmX2_strength : Room := { frames := 0, cells := 0, slots := 0, locals := 0 }
set_option maxHeartbeats 4000000 in
set_option maxRecDepth 100000 in
theorem c_X2_strength {l : Launch} {E : Ev} {w : Nat} {g : Gd} {a kk : Nat → Nat} {r : va_W} (hI : Inv g) (hw : w < 10) : CT l E yX2_strength cX2_strength 3 (some .int) rmX2_strength [.ref (a 0), .int (nI w)] (wg E (kk 6) a g ++ (wk E kk ++ r)) (IS (some (.int (nI (eStr g w)))) (wg E (kk 6) a g ++ (wk E kk ++ r))) := by
  refine CT.of (lv := [(0, .ref (a 0)), (1, .int (nI w))]) false (by decide +kernel) (by decide) (Nat.le_of_ble_eq_true rfl) rfl ?_
  have f0 := hI.words
  have f1 := hI.birds
  have f2 := hI.gone
  have f3 := hI.hour
  have f4 := hI.sweet w
  have f5 := hI.ink w
  have f6 := hI.bitter (g 1 w)
  refine wf_aload_n 0 dX2_strength_0 rfl ?_
  refine wf_getf (C := RX2) (T := TX2) (N := 14) (v := .ref (a 1)) 0 1 in_X2 rfl rfl (by decide) fl_X2_9 rfl dX2_strength_1 ?_
  refine wf_iload_n 1 dX2_strength_4 rfl ?_
  refine wf_iald_n (nI (g 0 w)) 1 rfl (by omega) (by decide) rfl dX2_strength_5 ?_
  refine wf_aload_n 0 dX2_strength_6 rfl ?_
  refine wf_getf (C := RX2) (T := TX2) (N := 14) (v := .ref (a 8)) 0 10 in_X2 rfl rfl (by decide) fl_X2_33 rfl dX2_strength_7 ?_
  refine wf_aload_n 0 dX2_strength_10 rfl ?_
  refine wf_getf (C := RX2) (T := TX2) (N := 14) (v := .ref (a 2)) 0 2 in_X2 rfl rfl (by decide) fl_X2_15 rfl dX2_strength_11 ?_
  refine wf_iload_n 1 dX2_strength_14 rfl ?_
  refine wf_iald_n (nI (g 1 w)) 2 rfl (by omega) (by decide) rfl dX2_strength_15 ?_
  refine wf_iald_n (nI (g 7 (g 1 w))) 8 rfl (by omega) (by decide) rfl dX2_strength_16 ?_
  refine wf_isub ((nI (g 0 w)) - (nI (g 7 (g 1 w)))) dX2_strength_17 rfl ?_
  refine wf_istore_n [(2, .int ((nI (g 0 w)) - (nI (g 7 (g 1 w))))), (0, .ref (a 0)), (1, .int (nI w))] dX2_strength_18 rfl (by decide) rfl ?_
  refine wf_iload_n 0 dX2_strength_19 rfl ?_
  refine wf_if_ge 27 dX2_strength_20 (by decide) (fun c20 => ?_) (fun c20 => ?_)
  · refine wf_iload_n 0 dX2_strength_27 rfl ?_
    exact wf_iret .int rfl (vp_nar_int _) ⟨rfl, rfl⟩ ⟨congrArg (fun z => some (Value.int z)) (nI_subZ ((nI_sub_lt (by omega) (by omega)).mp c20)), rfl⟩ dX2_strength_28
  · refine wf_iconst (nI 0) dX2_strength_23 (by decide) ?_
    refine wf_goto 28 dX2_strength_24 (by decide) ?_
    exact wf_iret .int rfl (vp_nar_int _) ⟨rfl, rfl⟩ ⟨congrArg (fun z => some (Value.int z)) (by unfold eStr; rw [Nat.sub_eq_zero_of_le (by have := mt (nI_sub_lt (a := g 0 w) (b := g 7 (g 1 w)) (by omega) (by omega)).mpr c20; omega)]), rfl⟩ dX2_strength_28
abbrev rmX2_mayBeEaten : Room := { frames := 1, cells := 0, slots := 0, locals := 22 }
set_option maxHeartbeats 4000000 in
set_option maxRecDepth 100000 in
theorem c_X2_mayBeEaten {l : Launch} {E : Ev} {w t : Nat} {g : Gd} {a kk : Nat → Nat} {r : va_W} (hI : Inv g) (hw : w < 10) (ht : t < 1000) : CT l E yX2_mayBeEaten cX2_mayBeEaten 3 (some .boolean) rmX2_mayBeEaten [.ref (a 0), .int (nI w), .int (nI t)] (wg E (kk 6) a g ++ (wk E kk ++ r)) (IS (some (.int (bI (eMay g w t)))) (wg E (kk 6) a g ++ (wk E kk ++ r))) := by
  refine CT.of (lv := [(0, .ref (a 0)), (1, .int (nI w)), (2, .int (nI t))]) false (by decide +kernel) (by decide) (Nat.le_of_ble_eq_true rfl) rfl ?_
  have f0 := hI.words
  have f1 := hI.birds
  have f2 := hI.gone
  have f3 := hI.hour
  have f4 := hI.str w
  refine wf_aload_n 0 dX2_mayBeEaten_0 rfl ?_
  refine wf_getf (C := RX2) (T := TX2) (N := 14) (v := .int (nI (g 9 3))) 0 13 in_X2 rfl rfl (by decide) fl_X2_59 rfl dX2_mayBeEaten_1 ?_
  refine wf_bipush (nI 8) dX2_mayBeEaten_4 (by decide) ?_
  refine wf_icmp_ge_n 42 dX2_mayBeEaten_6 (by decide) (by omega) (by omega) (fun c6 => ?_) (fun c6 => ?_)
  · refine wf_iconst (nI 0) dX2_mayBeEaten_42 (by decide) ?_
    exact wf_iret .boolean rfl (by decide) ⟨rfl, rfl⟩ ⟨congrArg (fun z => some (Value.int z)) (b1_zero (by unfold eMay; rw [decide_eq_false (by omega)]; simp)), rfl⟩ dX2_mayBeEaten_43
  · refine wf_aload_n 0 dX2_mayBeEaten_9 rfl ?_
    refine wf_iload_n 1 dX2_mayBeEaten_10 rfl ?_
    refine wf_callVD (As := [.int (nI w)]) (rest := []) 0 (c_X2_isGone hI (by omega)) kV_X2_73 rfl (by decide) (by decide) (Nat.le_of_ble_eq_true rfl) rfl rfl rfl dX2_mayBeEaten_11 ?_
    refine wf_if_ne_b 42 dX2_mayBeEaten_14 (by decide) (fun c14 => ?_) (fun c14 => ?_)
    · refine wf_iconst (nI 0) dX2_mayBeEaten_42 (by decide) ?_
      exact wf_iret .boolean rfl (by decide) ⟨rfl, rfl⟩ ⟨congrArg (fun z => some (Value.int z)) (b1_zero (by unfold eMay; rw [c14]; simp)), rfl⟩ dX2_mayBeEaten_43
    · refine wf_aload_n 0 dX2_mayBeEaten_17 rfl ?_
      refine wf_iload_n 1 dX2_mayBeEaten_18 rfl ?_
      refine wf_aload_n 0 dX2_mayBeEaten_19 rfl ?_
      refine wf_getf (C := RX2) (T := TX2) (N := 14) (v := .int (nI (g 9 3))) 0 13 in_X2 rfl rfl (by decide) fl_X2_59 rfl dX2_mayBeEaten_20 ?_
      refine wf_callVD (As := [.int (nI w), .int (nI (g 9 3))]) (rest := []) 0 (c_X2_isWatched hI (by omega) (by omega)) kV_X2_76 rfl (by decide) (by decide) (Nat.le_of_ble_eq_true rfl) rfl rfl rfl dX2_mayBeEaten_23 ?_
      refine wf_if_ne_b 42 dX2_mayBeEaten_26 (by decide) (fun c26 => ?_) (fun c26 => ?_)
      · refine wf_iconst (nI 0) dX2_mayBeEaten_42 (by decide) ?_
        exact wf_iret .boolean rfl (by decide) ⟨rfl, rfl⟩ ⟨congrArg (fun z => some (Value.int z)) (b1_zero (by unfold eMay; rw [c26]; simp)), rfl⟩ dX2_mayBeEaten_43
      · refine wf_aload_n 0 dX2_mayBeEaten_29 rfl ?_
        refine wf_iload_n 1 dX2_mayBeEaten_30 rfl ?_
        refine wf_callVD (As := [.int (nI w)]) (rest := []) 0 (c_X2_strength hI (by omega)) kV_X2_80 rfl (by decide) (by decide) (Nat.le_of_ble_eq_true rfl) rfl rfl rfl dX2_mayBeEaten_31 ?_
        refine wf_iload_n 2 dX2_mayBeEaten_34 rfl ?_
        refine wf_icmp_lt_n 42 dX2_mayBeEaten_35 (by decide) (by omega) (by omega) (fun c35 => ?_) (fun c35 => ?_)
        · refine wf_iconst (nI 0) dX2_mayBeEaten_42 (by decide) ?_
          exact wf_iret .boolean rfl (by decide) ⟨rfl, rfl⟩ ⟨congrArg (fun z => some (Value.int z)) (b1_zero (by unfold eMay; rw [decide_eq_false (by omega : ¬ t ≤ eStr g w)]; simp)), rfl⟩ dX2_mayBeEaten_43
        · refine wf_iconst (nI 1) dX2_mayBeEaten_38 (by decide) ?_
          refine wf_goto 43 dX2_mayBeEaten_39 (by decide) ?_
          exact wf_iret .boolean rfl (by decide) ⟨rfl, rfl⟩ ⟨congrArg (fun z => some (Value.int z)) (b1_one (by unfold eMay; rw [decide_eq_true c6, c14, c26, decide_eq_true c35]; rfl)), rfl⟩ dX2_mayBeEaten_43
abbrev rmX2_kindOf : Room := { frames := 0, cells := 0, slots := 0, locals := 0 }
set_option maxHeartbeats 4000000 in
set_option maxRecDepth 100000 in
theorem c_X2_kindOf {l : Launch} {E : Ev} {b : Nat} {g : Gd} {a kk : Nat → Nat} {r : va_W} (hI : Inv g) (hb : b < 4) : CT l E yX2_kindOf cX2_kindOf 2 (some (.object "EatenByDusk$Sparrow")) rmX2_kindOf [.ref (a 0), .int (nI b)] (wg E (kk 6) a g ++ (wk E kk ++ r)) (IS (some (.ref (kk (g 3 b)))) (wg E (kk 6) a g ++ (wk E kk ++ r))) := by
  refine CT.of (lv := [(0, .ref (a 0)), (1, .int (nI b))]) false (by decide +kernel) (by decide) (Nat.le_of_ble_eq_true rfl) rfl ?_
  have f4 := hI.kind b
  refine wf_aload_n 0 dX2_kindOf_0 rfl ?_
  refine wf_getf (C := RX2) (T := TX2) (N := 14) (v := .ref (kk 6)) 0 0 in_X2 rfl rfl (by decide) fl_X2_39 rfl dX2_kindOf_1 ?_
  refine wf_aload_n 0 dX2_kindOf_4 rfl ?_
  refine wf_getf (C := RX2) (T := TX2) (N := 14) (v := .ref (a 4)) 0 5 in_X2 rfl rfl (by decide) fl_X2_21 rfl dX2_kindOf_5 ?_
  refine wf_iload_n 1 dX2_kindOf_8 rfl ?_
  refine wf_iald_n (nI (g 3 b)) 4 rfl (by omega) (by decide) rfl dX2_kindOf_9 ?_
  refine wf_aald_n (b := kk (g 3 b)) 10 rfl (by omega) (by decide) rfl dX2_kindOf_10 ?_
  exact wf_aret "EatenByDusk$Sparrow" rfl ⟨rfl, rfl⟩ ⟨congrArg (fun z => some (Value.ref z)) (rfl), rfl⟩ dX2_kindOf_11
abbrev rmX2_hasWord : Room := { frames := 0, cells := 0, slots := 0, locals := 0 }
set_option maxHeartbeats 4000000 in
set_option maxRecDepth 100000 in
theorem c_X2_hasWord {l : Launch} {E : Ev} {x : Int32} {g : Gd} {a kk : Nat → Nat} {r : va_W}  : CT l E yX2_hasWord cX2_hasWord 2 (some .boolean) rmX2_hasWord [.ref (a 0), .int x] (wg E (kk 6) a g ++ (wk E kk ++ r)) (IS (some (.int (bI (eHas x (g 9 0))))) (wg E (kk 6) a g ++ (wk E kk ++ r))) := by
  refine CT.of (lv := [(0, .ref (a 0)), (1, .int x)]) false (by decide +kernel) (by decide) (Nat.le_of_ble_eq_true rfl) rfl ?_
  refine wf_iload_n 1 dX2_hasWord_0 rfl ?_
  refine wf_if_lt 16 dX2_hasWord_1 (by decide) (fun c1 => ?_) (fun c1 => ?_)
  · refine wf_iconst (nI 0) dX2_hasWord_16 (by decide) ?_
    exact wf_iret .boolean rfl (by decide) ⟨rfl, rfl⟩ ⟨congrArg (fun z => some (Value.int z)) (b1_zero (by unfold eHas; rw [decide_eq_false (fun z => Int32.not_lt.mpr z c1), Bool.false_and])), rfl⟩ dX2_hasWord_17
  · refine wf_iload_n 1 dX2_hasWord_4 rfl ?_
    refine wf_aload_n 0 dX2_hasWord_5 rfl ?_
    refine wf_getf (C := RX2) (T := TX2) (N := 14) (v := .int (nI (g 9 0))) 0 4 in_X2 rfl rfl (by decide) fl_X2_49 rfl dX2_hasWord_6 ?_
    refine wf_icmp_ge 16 dX2_hasWord_9 (by decide) (fun c9 => ?_) (fun c9 => ?_)
    · refine wf_iconst (nI 0) dX2_hasWord_16 (by decide) ?_
      exact wf_iret .boolean rfl (by decide) ⟨rfl, rfl⟩ ⟨congrArg (fun z => some (Value.int z)) (b1_zero (by unfold eHas; rw [decide_eq_false (fun z => Int32.not_le.mpr z c9), Bool.and_false])), rfl⟩ dX2_hasWord_17
    · refine wf_iconst (nI 1) dX2_hasWord_12 (by decide) ?_
      refine wf_goto 17 dX2_hasWord_13 (by decide) ?_
      exact wf_iret .boolean rfl (by decide) ⟨rfl, rfl⟩ ⟨congrArg (fun z => some (Value.int z)) (b1_one (by unfold eHas; rw [decide_eq_true (Int32.not_lt.mp c1), decide_eq_true (Int32.not_le.mp c9)]; rfl)), rfl⟩ dX2_hasWord_17
abbrev rmX2_hasBird : Room := { frames := 0, cells := 0, slots := 0, locals := 0 }
set_option maxHeartbeats 4000000 in
set_option maxRecDepth 100000 in
theorem c_X2_hasBird {l : Launch} {E : Ev} {x : Int32} {g : Gd} {a kk : Nat → Nat} {r : va_W}  : CT l E yX2_hasBird cX2_hasBird 2 (some .boolean) rmX2_hasBird [.ref (a 0), .int x] (wg E (kk 6) a g ++ (wk E kk ++ r)) (IS (some (.int (bI (eHas x (g 9 1))))) (wg E (kk 6) a g ++ (wk E kk ++ r))) := by
  refine CT.of (lv := [(0, .ref (a 0)), (1, .int x)]) false (by decide +kernel) (by decide) (Nat.le_of_ble_eq_true rfl) rfl ?_
  refine wf_iload_n 1 dX2_hasBird_0 rfl ?_
  refine wf_if_lt 16 dX2_hasBird_1 (by decide) (fun c1 => ?_) (fun c1 => ?_)
  · refine wf_iconst (nI 0) dX2_hasBird_16 (by decide) ?_
    exact wf_iret .boolean rfl (by decide) ⟨rfl, rfl⟩ ⟨congrArg (fun z => some (Value.int z)) (b1_zero (by unfold eHas; rw [decide_eq_false (fun z => Int32.not_lt.mpr z c1), Bool.false_and])), rfl⟩ dX2_hasBird_17
  · refine wf_iload_n 1 dX2_hasBird_4 rfl ?_
    refine wf_aload_n 0 dX2_hasBird_5 rfl ?_
    refine wf_getf (C := RX2) (T := TX2) (N := 14) (v := .int (nI (g 9 1))) 0 9 in_X2 rfl rfl (by decide) fl_X2_53 rfl dX2_hasBird_6 ?_
    refine wf_icmp_ge 16 dX2_hasBird_9 (by decide) (fun c9 => ?_) (fun c9 => ?_)
    · refine wf_iconst (nI 0) dX2_hasBird_16 (by decide) ?_
      exact wf_iret .boolean rfl (by decide) ⟨rfl, rfl⟩ ⟨congrArg (fun z => some (Value.int z)) (b1_zero (by unfold eHas; rw [decide_eq_false (fun z => Int32.not_le.mpr z c9), Bool.and_false])), rfl⟩ dX2_hasBird_17
    · refine wf_iconst (nI 1) dX2_hasBird_12 (by decide) ?_
      refine wf_goto 17 dX2_hasBird_13 (by decide) ?_
      exact wf_iret .boolean rfl (by decide) ⟨rfl, rfl⟩ ⟨congrArg (fun z => some (Value.int z)) (b1_one (by unfold eHas; rw [decide_eq_true (Int32.not_lt.mp c1), decide_eq_true (Int32.not_le.mp c9)]; rfl)), rfl⟩ dX2_hasBird_17
abbrev rmX2_allWords : Room := { frames := 0, cells := 0, slots := 0, locals := 0 }
set_option maxHeartbeats 4000000 in
set_option maxRecDepth 100000 in
theorem c_X2_allWords {l : Launch} {E : Ev}  {g : Gd} {a kk : Nat → Nat} {r : va_W} (hI : Inv g) : CT l E yX2_allWords cX2_allWords 1 (some .int) rmX2_allWords [.ref (a 0)] (wg E (kk 6) a g ++ (wk E kk ++ r)) (IS (some (.int (nI (eAll g)))) (wg E (kk 6) a g ++ (wk E kk ++ r))) := by
  refine CT.of (lv := [(0, .ref (a 0))]) false (by decide +kernel) (by decide) (Nat.le_of_ble_eq_true rfl) rfl ?_
  have f0 := hI.words
  have f1 := hI.birds
  have f2 := hI.gone
  have f3 := hI.hour
  have f4 := pw10 f0
  have f5 : 1 <<< g 9 0 = 2 ^ g 9 0 := by rw [Nat.shiftLeft_eq, Nat.one_mul]
  have f6 : 1 ≤ 2 ^ g 9 0 := Nat.one_le_two_pow
  refine wf_iconst (nI 1) dX2_allWords_0 (by decide) ?_
  refine wf_aload_n 0 dX2_allWords_1 rfl ?_
  refine wf_getf (C := RX2) (T := TX2) (N := 14) (v := .int (nI (g 9 0))) 0 4 in_X2 rfl rfl (by decide) fl_X2_49 rfl dX2_allWords_2 ?_
  refine wf_ishl (nI (1 <<< (g 9 0))) dX2_allWords_5 (nI_shl (by omega) (by omega)) ?_
  refine wf_iconst (nI 1) dX2_allWords_6 (by decide) ?_
  refine wf_isub (nI ((1 <<< (g 9 0)) - 1)) dX2_allWords_7 (pk_sub (by omega)) ?_
  exact wf_iret .int rfl (vp_nar_int _) ⟨rfl, rfl⟩ ⟨congrArg (fun z => some (Value.int z)) (rfl), rfl⟩ dX2_allWords_8
abbrev rmX2_hasWords : Room := { frames := 1, cells := 0, slots := 0, locals := 20 }
set_option maxHeartbeats 4000000 in
set_option maxRecDepth 100000 in
theorem c_X2_hasWords {l : Launch} {E : Ev} {x : Int32} {g : Gd} {a kk : Nat → Nat} {r : va_W} (hI : Inv g) : CT l E yX2_hasWords cX2_hasWords 2 (some .boolean) rmX2_hasWords [.ref (a 0), .int x] (wg E (kk 6) a g ++ (wk E kk ++ r)) (IS (some (.int (bI (eHasS g x)))) (wg E (kk 6) a g ++ (wk E kk ++ r))) := by
  refine CT.of (lv := [(0, .ref (a 0)), (1, .int x)]) false (by decide +kernel) (by decide) (Nat.le_of_ble_eq_true rfl) rfl ?_
  refine wf_iload_n 1 dX2_hasWords_0 rfl ?_
  refine wf_if_lt 16 dX2_hasWords_1 (by decide) (fun c1 => ?_) (fun c1 => ?_)
  · refine wf_iconst (nI 0) dX2_hasWords_16 (by decide) ?_
    exact wf_iret .boolean rfl (by decide) ⟨rfl, rfl⟩ ⟨congrArg (fun z => some (Value.int z)) (b1_zero (by unfold eHasS; rw [decide_eq_false (fun z => Int32.not_lt.mpr z c1), Bool.false_and])), rfl⟩ dX2_hasWords_17
  · refine wf_iload_n 1 dX2_hasWords_4 rfl ?_
    refine wf_aload_n 0 dX2_hasWords_5 rfl ?_
    refine wf_callVD (As := []) (rest := [.int x]) 0 (c_X2_allWords hI) kV_X2_62 rfl (by decide) (by decide) (Nat.le_of_ble_eq_true rfl) rfl rfl rfl dX2_hasWords_6 ?_
    refine wf_icmp_gt 16 dX2_hasWords_9 (by decide) (fun c9 => ?_) (fun c9 => ?_)
    · refine wf_iconst (nI 0) dX2_hasWords_16 (by decide) ?_
      exact wf_iret .boolean rfl (by decide) ⟨rfl, rfl⟩ ⟨congrArg (fun z => some (Value.int z)) (b1_zero (by unfold eHasS; rw [decide_eq_false (fun z => Int32.not_lt.mpr z c9), Bool.and_false])), rfl⟩ dX2_hasWords_17
    · refine wf_iconst (nI 1) dX2_hasWords_12 (by decide) ?_
      refine wf_goto 17 dX2_hasWords_13 (by decide) ?_
      exact wf_iret .boolean rfl (by decide) ⟨rfl, rfl⟩ ⟨congrArg (fun z => some (Value.int z)) (b1_one (by unfold eHasS; rw [decide_eq_true (Int32.not_lt.mp c1), decide_eq_true (Int32.not_lt.mp c9)]; rfl)), rfl⟩ dX2_hasWords_17
abbrev rmX2_leftWords : Room := { frames := 1, cells := 0, slots := 0, locals := 20 }
set_option maxHeartbeats 4000000 in
set_option maxRecDepth 100000 in
theorem c_X2_leftWords {l : Launch} {E : Ev}  {g : Gd} {a kk : Nat → Nat} {r : va_W} (hI : Inv g) : CT l E yX2_leftWords cX2_leftWords 1 (some .int) rmX2_leftWords [.ref (a 0)] (wg E (kk 6) a g ++ (wk E kk ++ r)) (IS (some (.int (nI (eLeft g)))) (wg E (kk 6) a g ++ (wk E kk ++ r))) := by
  refine CT.of (lv := [(0, .ref (a 0))]) false (by decide +kernel) (by decide) (Nat.le_of_ble_eq_true rfl) rfl ?_
  have f0 := hI.words
  have f1 := hI.birds
  have f2 := hI.gone
  have f3 := hI.hour
  have f4 := hI.all
  refine wf_aload_n 0 dX2_leftWords_0 rfl ?_
  refine wf_callVD (As := []) (rest := []) 0 (c_X2_allWords hI) kV_X2_62 rfl (by decide) (by decide) (Nat.le_of_ble_eq_true rfl) rfl rfl rfl dX2_leftWords_1 ?_
  refine wf_aload_n 0 dX2_leftWords_4 rfl ?_
  refine wf_getf (C := RX2) (T := TX2) (N := 14) (v := .int (nI (g 9 2))) 0 12 in_X2 rfl rfl (by decide) fl_X2_56 rfl dX2_leftWords_5 ?_
  refine wf_iconst (-1) dX2_leftWords_8 (by decide) ?_
  refine wf_ixor (nI (g 9 2) ^^^ -1) dX2_leftWords_9 rfl ?_
  refine wf_iand (nI (ldf (eAll g) (g 9 2))) dX2_leftWords_10 (nI_andn (by omega) (by omega)) ?_
  exact wf_iret .int rfl (vp_nar_int _) ⟨rfl, rfl⟩ ⟨congrArg (fun z => some (Value.int z)) (rfl), rfl⟩ dX2_leftWords_11
theorem bitcount_n : ∀ x, x < 1024 → ((((((((nI x) - ((((nI x).toUInt32 >>> ((nI 1).toUInt32 &&& Int32.toUInt32 31)).toInt32) &&& (nI 1431655765))) &&& (nI 858993459)) + (((((nI x) - ((((nI x).toUInt32 >>> ((nI 1).toUInt32 &&& Int32.toUInt32 31)).toInt32) &&& (nI 1431655765))).toUInt32 >>> ((nI 2).toUInt32 &&& Int32.toUInt32 31)).toInt32) &&& (nI 858993459))) + ((((((nI x) - ((((nI x).toUInt32 >>> ((nI 1).toUInt32 &&& Int32.toUInt32 31)).toInt32) &&& (nI 1431655765))) &&& (nI 858993459)) + (((((nI x) - ((((nI x).toUInt32 >>> ((nI 1).toUInt32 &&& Int32.toUInt32 31)).toInt32) &&& (nI 1431655765))).toUInt32 >>> ((nI 2).toUInt32 &&& Int32.toUInt32 31)).toInt32) &&& (nI 858993459))).toUInt32 >>> ((nI 4).toUInt32 &&& Int32.toUInt32 31)).toInt32)) &&& (nI 252645135)) + ((((((((nI x) - ((((nI x).toUInt32 >>> ((nI 1).toUInt32 &&& Int32.toUInt32 31)).toInt32) &&& (nI 1431655765))) &&& (nI 858993459)) + (((((nI x) - ((((nI x).toUInt32 >>> ((nI 1).toUInt32 &&& Int32.toUInt32 31)).toInt32) &&& (nI 1431655765))).toUInt32 >>> ((nI 2).toUInt32 &&& Int32.toUInt32 31)).toInt32) &&& (nI 858993459))) + ((((((nI x) - ((((nI x).toUInt32 >>> ((nI 1).toUInt32 &&& Int32.toUInt32 31)).toInt32) &&& (nI 1431655765))) &&& (nI 858993459)) + (((((nI x) - ((((nI x).toUInt32 >>> ((nI 1).toUInt32 &&& Int32.toUInt32 31)).toInt32) &&& (nI 1431655765))).toUInt32 >>> ((nI 2).toUInt32 &&& Int32.toUInt32 31)).toInt32) &&& (nI 858993459))).toUInt32 >>> ((nI 4).toUInt32 &&& Int32.toUInt32 31)).toInt32)) &&& (nI 252645135)).toUInt32 >>> ((nI 8).toUInt32 &&& Int32.toUInt32 31)).toInt32)) + (((((((((nI x) - ((((nI x).toUInt32 >>> ((nI 1).toUInt32 &&& Int32.toUInt32 31)).toInt32) &&& (nI 1431655765))) &&& (nI 858993459)) + (((((nI x) - ((((nI x).toUInt32 >>> ((nI 1).toUInt32 &&& Int32.toUInt32 31)).toInt32) &&& (nI 1431655765))).toUInt32 >>> ((nI 2).toUInt32 &&& Int32.toUInt32 31)).toInt32) &&& (nI 858993459))) + ((((((nI x) - ((((nI x).toUInt32 >>> ((nI 1).toUInt32 &&& Int32.toUInt32 31)).toInt32) &&& (nI 1431655765))) &&& (nI 858993459)) + (((((nI x) - ((((nI x).toUInt32 >>> ((nI 1).toUInt32 &&& Int32.toUInt32 31)).toInt32) &&& (nI 1431655765))).toUInt32 >>> ((nI 2).toUInt32 &&& Int32.toUInt32 31)).toInt32) &&& (nI 858993459))).toUInt32 >>> ((nI 4).toUInt32 &&& Int32.toUInt32 31)).toInt32)) &&& (nI 252645135)) + ((((((((nI x) - ((((nI x).toUInt32 >>> ((nI 1).toUInt32 &&& Int32.toUInt32 31)).toInt32) &&& (nI 1431655765))) &&& (nI 858993459)) + (((((nI x) - ((((nI x).toUInt32 >>> ((nI 1).toUInt32 &&& Int32.toUInt32 31)).toInt32) &&& (nI 1431655765))).toUInt32 >>> ((nI 2).toUInt32 &&& Int32.toUInt32 31)).toInt32) &&& (nI 858993459))) + ((((((nI x) - ((((nI x).toUInt32 >>> ((nI 1).toUInt32 &&& Int32.toUInt32 31)).toInt32) &&& (nI 1431655765))) &&& (nI 858993459)) + (((((nI x) - ((((nI x).toUInt32 >>> ((nI 1).toUInt32 &&& Int32.toUInt32 31)).toInt32) &&& (nI 1431655765))).toUInt32 >>> ((nI 2).toUInt32 &&& Int32.toUInt32 31)).toInt32) &&& (nI 858993459))).toUInt32 >>> ((nI 4).toUInt32 &&& Int32.toUInt32 31)).toInt32)) &&& (nI 252645135)).toUInt32 >>> ((nI 8).toUInt32 &&& Int32.toUInt32 31)).toInt32)).toUInt32 >>> ((nI 16).toUInt32 &&& Int32.toUInt32 31)).toInt32)) &&& (nI 63) = nI (eBits x) := by decide +kernel
abbrev rmJ6_bitCount_0f7a4 : Room := { frames := 0, cells := 0, slots := 0, locals := 0 }
set_option maxHeartbeats 4000000 in
set_option maxRecDepth 100000 in
theorem c_bitCount {l : Launch} {E : Ev} {r : va_W} {x : Nat} (hx : x < 1024) : CT l E yJ6_bitCount_0f7a4 cJ6_bitCount_0f7a4 1 (some .int) rmJ6_bitCount_0f7a4 [.int (nI x)] (r) (IS (some (.int (nI (eBits x)))) r) := by
  refine CT.of (lv := [(0, .int (nI x))]) false (by decide +kernel) (by decide) (Nat.le_of_ble_eq_true rfl) rfl ?_
  refine wf_iload_n 0 dJ6_bitCount_0f7a4_0 rfl ?_
  refine wf_iload_n 0 dJ6_bitCount_0f7a4_1 rfl ?_
  refine wf_iconst (nI 1) dJ6_bitCount_0f7a4_2 (by decide) ?_
  refine wf_iushr (((nI x).toUInt32 >>> ((nI 1).toUInt32 &&& Int32.toUInt32 31)).toInt32) dJ6_bitCount_0f7a4_3 rfl ?_
  refine wf_ldcw (v := (nI 1431655765)) con_J6_265 dJ6_bitCount_0f7a4_4 ?_
  refine wf_iand ((((nI x).toUInt32 >>> ((nI 1).toUInt32 &&& Int32.toUInt32 31)).toInt32) &&& (nI 1431655765)) dJ6_bitCount_0f7a4_7 rfl ?_
  refine wf_isub ((nI x) - ((((nI x).toUInt32 >>> ((nI 1).toUInt32 &&& Int32.toUInt32 31)).toInt32) &&& (nI 1431655765))) dJ6_bitCount_0f7a4_8 rfl ?_
  refine wf_istore_n [(0, .int ((nI x) - ((((nI x).toUInt32 >>> ((nI 1).toUInt32 &&& Int32.toUInt32 31)).toInt32) &&& (nI 1431655765))))] dJ6_bitCount_0f7a4_9 rfl (by decide) rfl ?_
  refine wf_iload_n 0 dJ6_bitCount_0f7a4_10 rfl ?_
  refine wf_ldcw (v := (nI 858993459)) con_J6_266 dJ6_bitCount_0f7a4_11 ?_
  refine wf_iand (((nI x) - ((((nI x).toUInt32 >>> ((nI 1).toUInt32 &&& Int32.toUInt32 31)).toInt32) &&& (nI 1431655765))) &&& (nI 858993459)) dJ6_bitCount_0f7a4_14 rfl ?_
  refine wf_iload_n 0 dJ6_bitCount_0f7a4_15 rfl ?_
  refine wf_iconst (nI 2) dJ6_bitCount_0f7a4_16 (by decide) ?_
  refine wf_iushr ((((nI x) - ((((nI x).toUInt32 >>> ((nI 1).toUInt32 &&& Int32.toUInt32 31)).toInt32) &&& (nI 1431655765))).toUInt32 >>> ((nI 2).toUInt32 &&& Int32.toUInt32 31)).toInt32) dJ6_bitCount_0f7a4_17 rfl ?_
  refine wf_ldcw (v := (nI 858993459)) con_J6_266 dJ6_bitCount_0f7a4_18 ?_
  refine wf_iand (((((nI x) - ((((nI x).toUInt32 >>> ((nI 1).toUInt32 &&& Int32.toUInt32 31)).toInt32) &&& (nI 1431655765))).toUInt32 >>> ((nI 2).toUInt32 &&& Int32.toUInt32 31)).toInt32) &&& (nI 858993459)) dJ6_bitCount_0f7a4_21 rfl ?_
  refine wf_iadd ((((nI x) - ((((nI x).toUInt32 >>> ((nI 1).toUInt32 &&& Int32.toUInt32 31)).toInt32) &&& (nI 1431655765))) &&& (nI 858993459)) + (((((nI x) - ((((nI x).toUInt32 >>> ((nI 1).toUInt32 &&& Int32.toUInt32 31)).toInt32) &&& (nI 1431655765))).toUInt32 >>> ((nI 2).toUInt32 &&& Int32.toUInt32 31)).toInt32) &&& (nI 858993459))) dJ6_bitCount_0f7a4_22 rfl ?_
  refine wf_istore_n [(0, .int ((((nI x) - ((((nI x).toUInt32 >>> ((nI 1).toUInt32 &&& Int32.toUInt32 31)).toInt32) &&& (nI 1431655765))) &&& (nI 858993459)) + (((((nI x) - ((((nI x).toUInt32 >>> ((nI 1).toUInt32 &&& Int32.toUInt32 31)).toInt32) &&& (nI 1431655765))).toUInt32 >>> ((nI 2).toUInt32 &&& Int32.toUInt32 31)).toInt32) &&& (nI 858993459))))] dJ6_bitCount_0f7a4_23 rfl (by decide) rfl ?_
  refine wf_iload_n 0 dJ6_bitCount_0f7a4_24 rfl ?_
  refine wf_iload_n 0 dJ6_bitCount_0f7a4_25 rfl ?_
  refine wf_iconst (nI 4) dJ6_bitCount_0f7a4_26 (by decide) ?_
  refine wf_iushr ((((((nI x) - ((((nI x).toUInt32 >>> ((nI 1).toUInt32 &&& Int32.toUInt32 31)).toInt32) &&& (nI 1431655765))) &&& (nI 858993459)) + (((((nI x) - ((((nI x).toUInt32 >>> ((nI 1).toUInt32 &&& Int32.toUInt32 31)).toInt32) &&& (nI 1431655765))).toUInt32 >>> ((nI 2).toUInt32 &&& Int32.toUInt32 31)).toInt32) &&& (nI 858993459))).toUInt32 >>> ((nI 4).toUInt32 &&& Int32.toUInt32 31)).toInt32) dJ6_bitCount_0f7a4_27 rfl ?_
  refine wf_iadd (((((nI x) - ((((nI x).toUInt32 >>> ((nI 1).toUInt32 &&& Int32.toUInt32 31)).toInt32) &&& (nI 1431655765))) &&& (nI 858993459)) + (((((nI x) - ((((nI x).toUInt32 >>> ((nI 1).toUInt32 &&& Int32.toUInt32 31)).toInt32) &&& (nI 1431655765))).toUInt32 >>> ((nI 2).toUInt32 &&& Int32.toUInt32 31)).toInt32) &&& (nI 858993459))) + ((((((nI x) - ((((nI x).toUInt32 >>> ((nI 1).toUInt32 &&& Int32.toUInt32 31)).toInt32) &&& (nI 1431655765))) &&& (nI 858993459)) + (((((nI x) - ((((nI x).toUInt32 >>> ((nI 1).toUInt32 &&& Int32.toUInt32 31)).toInt32) &&& (nI 1431655765))).toUInt32 >>> ((nI 2).toUInt32 &&& Int32.toUInt32 31)).toInt32) &&& (nI 858993459))).toUInt32 >>> ((nI 4).toUInt32 &&& Int32.toUInt32 31)).toInt32)) dJ6_bitCount_0f7a4_28 rfl ?_
  refine wf_ldcw (v := (nI 252645135)) con_J6_267 dJ6_bitCount_0f7a4_29 ?_
  refine wf_iand ((((((nI x) - ((((nI x).toUInt32 >>> ((nI 1).toUInt32 &&& Int32.toUInt32 31)).toInt32) &&& (nI 1431655765))) &&& (nI 858993459)) + (((((nI x) - ((((nI x).toUInt32 >>> ((nI 1).toUInt32 &&& Int32.toUInt32 31)).toInt32) &&& (nI 1431655765))).toUInt32 >>> ((nI 2).toUInt32 &&& Int32.toUInt32 31)).toInt32) &&& (nI 858993459))) + ((((((nI x) - ((((nI x).toUInt32 >>> ((nI 1).toUInt32 &&& Int32.toUInt32 31)).toInt32) &&& (nI 1431655765))) &&& (nI 858993459)) + (((((nI x) - ((((nI x).toUInt32 >>> ((nI 1).toUInt32 &&& Int32.toUInt32 31)).toInt32) &&& (nI 1431655765))).toUInt32 >>> ((nI 2).toUInt32 &&& Int32.toUInt32 31)).toInt32) &&& (nI 858993459))).toUInt32 >>> ((nI 4).toUInt32 &&& Int32.toUInt32 31)).toInt32)) &&& (nI 252645135)) dJ6_bitCount_0f7a4_32 rfl ?_
  refine wf_istore_n [(0, .int ((((((nI x) - ((((nI x).toUInt32 >>> ((nI 1).toUInt32 &&& Int32.toUInt32 31)).toInt32) &&& (nI 1431655765))) &&& (nI 858993459)) + (((((nI x) - ((((nI x).toUInt32 >>> ((nI 1).toUInt32 &&& Int32.toUInt32 31)).toInt32) &&& (nI 1431655765))).toUInt32 >>> ((nI 2).toUInt32 &&& Int32.toUInt32 31)).toInt32) &&& (nI 858993459))) + ((((((nI x) - ((((nI x).toUInt32 >>> ((nI 1).toUInt32 &&& Int32.toUInt32 31)).toInt32) &&& (nI 1431655765))) &&& (nI 858993459)) + (((((nI x) - ((((nI x).toUInt32 >>> ((nI 1).toUInt32 &&& Int32.toUInt32 31)).toInt32) &&& (nI 1431655765))).toUInt32 >>> ((nI 2).toUInt32 &&& Int32.toUInt32 31)).toInt32) &&& (nI 858993459))).toUInt32 >>> ((nI 4).toUInt32 &&& Int32.toUInt32 31)).toInt32)) &&& (nI 252645135)))] dJ6_bitCount_0f7a4_33 rfl (by decide) rfl ?_
  refine wf_iload_n 0 dJ6_bitCount_0f7a4_34 rfl ?_
  refine wf_iload_n 0 dJ6_bitCount_0f7a4_35 rfl ?_
  refine wf_bipush (nI 8) dJ6_bitCount_0f7a4_36 (by decide) ?_
  refine wf_iushr ((((((((nI x) - ((((nI x).toUInt32 >>> ((nI 1).toUInt32 &&& Int32.toUInt32 31)).toInt32) &&& (nI 1431655765))) &&& (nI 858993459)) + (((((nI x) - ((((nI x).toUInt32 >>> ((nI 1).toUInt32 &&& Int32.toUInt32 31)).toInt32) &&& (nI 1431655765))).toUInt32 >>> ((nI 2).toUInt32 &&& Int32.toUInt32 31)).toInt32) &&& (nI 858993459))) + ((((((nI x) - ((((nI x).toUInt32 >>> ((nI 1).toUInt32 &&& Int32.toUInt32 31)).toInt32) &&& (nI 1431655765))) &&& (nI 858993459)) + (((((nI x) - ((((nI x).toUInt32 >>> ((nI 1).toUInt32 &&& Int32.toUInt32 31)).toInt32) &&& (nI 1431655765))).toUInt32 >>> ((nI 2).toUInt32 &&& Int32.toUInt32 31)).toInt32) &&& (nI 858993459))).toUInt32 >>> ((nI 4).toUInt32 &&& Int32.toUInt32 31)).toInt32)) &&& (nI 252645135)).toUInt32 >>> ((nI 8).toUInt32 &&& Int32.toUInt32 31)).toInt32) dJ6_bitCount_0f7a4_38 rfl ?_
  refine wf_iadd (((((((nI x) - ((((nI x).toUInt32 >>> ((nI 1).toUInt32 &&& Int32.toUInt32 31)).toInt32) &&& (nI 1431655765))) &&& (nI 858993459)) + (((((nI x) - ((((nI x).toUInt32 >>> ((nI 1).toUInt32 &&& Int32.toUInt32 31)).toInt32) &&& (nI 1431655765))).toUInt32 >>> ((nI 2).toUInt32 &&& Int32.toUInt32 31)).toInt32) &&& (nI 858993459))) + ((((((nI x) - ((((nI x).toUInt32 >>> ((nI 1).toUInt32 &&& Int32.toUInt32 31)).toInt32) &&& (nI 1431655765))) &&& (nI 858993459)) + (((((nI x) - ((((nI x).toUInt32 >>> ((nI 1).toUInt32 &&& Int32.toUInt32 31)).toInt32) &&& (nI 1431655765))).toUInt32 >>> ((nI 2).toUInt32 &&& Int32.toUInt32 31)).toInt32) &&& (nI 858993459))).toUInt32 >>> ((nI 4).toUInt32 &&& Int32.toUInt32 31)).toInt32)) &&& (nI 252645135)) + ((((((((nI x) - ((((nI x).toUInt32 >>> ((nI 1).toUInt32 &&& Int32.toUInt32 31)).toInt32) &&& (nI 1431655765))) &&& (nI 858993459)) + (((((nI x) - ((((nI x).toUInt32 >>> ((nI 1).toUInt32 &&& Int32.toUInt32 31)).toInt32) &&& (nI 1431655765))).toUInt32 >>> ((nI 2).toUInt32 &&& Int32.toUInt32 31)).toInt32) &&& (nI 858993459))) + ((((((nI x) - ((((nI x).toUInt32 >>> ((nI 1).toUInt32 &&& Int32.toUInt32 31)).toInt32) &&& (nI 1431655765))) &&& (nI 858993459)) + (((((nI x) - ((((nI x).toUInt32 >>> ((nI 1).toUInt32 &&& Int32.toUInt32 31)).toInt32) &&& (nI 1431655765))).toUInt32 >>> ((nI 2).toUInt32 &&& Int32.toUInt32 31)).toInt32) &&& (nI 858993459))).toUInt32 >>> ((nI 4).toUInt32 &&& Int32.toUInt32 31)).toInt32)) &&& (nI 252645135)).toUInt32 >>> ((nI 8).toUInt32 &&& Int32.toUInt32 31)).toInt32)) dJ6_bitCount_0f7a4_39 rfl ?_
  refine wf_istore_n [(0, .int (((((((nI x) - ((((nI x).toUInt32 >>> ((nI 1).toUInt32 &&& Int32.toUInt32 31)).toInt32) &&& (nI 1431655765))) &&& (nI 858993459)) + (((((nI x) - ((((nI x).toUInt32 >>> ((nI 1).toUInt32 &&& Int32.toUInt32 31)).toInt32) &&& (nI 1431655765))).toUInt32 >>> ((nI 2).toUInt32 &&& Int32.toUInt32 31)).toInt32) &&& (nI 858993459))) + ((((((nI x) - ((((nI x).toUInt32 >>> ((nI 1).toUInt32 &&& Int32.toUInt32 31)).toInt32) &&& (nI 1431655765))) &&& (nI 858993459)) + (((((nI x) - ((((nI x).toUInt32 >>> ((nI 1).toUInt32 &&& Int32.toUInt32 31)).toInt32) &&& (nI 1431655765))).toUInt32 >>> ((nI 2).toUInt32 &&& Int32.toUInt32 31)).toInt32) &&& (nI 858993459))).toUInt32 >>> ((nI 4).toUInt32 &&& Int32.toUInt32 31)).toInt32)) &&& (nI 252645135)) + ((((((((nI x) - ((((nI x).toUInt32 >>> ((nI 1).toUInt32 &&& Int32.toUInt32 31)).toInt32) &&& (nI 1431655765))) &&& (nI 858993459)) + (((((nI x) - ((((nI x).toUInt32 >>> ((nI 1).toUInt32 &&& Int32.toUInt32 31)).toInt32) &&& (nI 1431655765))).toUInt32 >>> ((nI 2).toUInt32 &&& Int32.toUInt32 31)).toInt32) &&& (nI 858993459))) + ((((((nI x) - ((((nI x).toUInt32 >>> ((nI 1).toUInt32 &&& Int32.toUInt32 31)).toInt32) &&& (nI 1431655765))) &&& (nI 858993459)) + (((((nI x) - ((((nI x).toUInt32 >>> ((nI 1).toUInt32 &&& Int32.toUInt32 31)).toInt32) &&& (nI 1431655765))).toUInt32 >>> ((nI 2).toUInt32 &&& Int32.toUInt32 31)).toInt32) &&& (nI 858993459))).toUInt32 >>> ((nI 4).toUInt32 &&& Int32.toUInt32 31)).toInt32)) &&& (nI 252645135)).toUInt32 >>> ((nI 8).toUInt32 &&& Int32.toUInt32 31)).toInt32)))] dJ6_bitCount_0f7a4_40 rfl (by decide) rfl ?_
  refine wf_iload_n 0 dJ6_bitCount_0f7a4_41 rfl ?_
  refine wf_iload_n 0 dJ6_bitCount_0f7a4_42 rfl ?_
  refine wf_bipush (nI 16) dJ6_bitCount_0f7a4_43 (by decide) ?_
  refine wf_iushr (((((((((nI x) - ((((nI x).toUInt32 >>> ((nI 1).toUInt32 &&& Int32.toUInt32 31)).toInt32) &&& (nI 1431655765))) &&& (nI 858993459)) + (((((nI x) - ((((nI x).toUInt32 >>> ((nI 1).toUInt32 &&& Int32.toUInt32 31)).toInt32) &&& (nI 1431655765))).toUInt32 >>> ((nI 2).toUInt32 &&& Int32.toUInt32 31)).toInt32) &&& (nI 858993459))) + ((((((nI x) - ((((nI x).toUInt32 >>> ((nI 1).toUInt32 &&& Int32.toUInt32 31)).toInt32) &&& (nI 1431655765))) &&& (nI 858993459)) + (((((nI x) - ((((nI x).toUInt32 >>> ((nI 1).toUInt32 &&& Int32.toUInt32 31)).toInt32) &&& (nI 1431655765))).toUInt32 >>> ((nI 2).toUInt32 &&& Int32.toUInt32 31)).toInt32) &&& (nI 858993459))).toUInt32 >>> ((nI 4).toUInt32 &&& Int32.toUInt32 31)).toInt32)) &&& (nI 252645135)) + ((((((((nI x) - ((((nI x).toUInt32 >>> ((nI 1).toUInt32 &&& Int32.toUInt32 31)).toInt32) &&& (nI 1431655765))) &&& (nI 858993459)) + (((((nI x) - ((((nI x).toUInt32 >>> ((nI 1).toUInt32 &&& Int32.toUInt32 31)).toInt32) &&& (nI 1431655765))).toUInt32 >>> ((nI 2).toUInt32 &&& Int32.toUInt32 31)).toInt32) &&& (nI 858993459))) + ((((((nI x) - ((((nI x).toUInt32 >>> ((nI 1).toUInt32 &&& Int32.toUInt32 31)).toInt32) &&& (nI 1431655765))) &&& (nI 858993459)) + (((((nI x) - ((((nI x).toUInt32 >>> ((nI 1).toUInt32 &&& Int32.toUInt32 31)).toInt32) &&& (nI 1431655765))).toUInt32 >>> ((nI 2).toUInt32 &&& Int32.toUInt32 31)).toInt32) &&& (nI 858993459))).toUInt32 >>> ((nI 4).toUInt32 &&& Int32.toUInt32 31)).toInt32)) &&& (nI 252645135)).toUInt32 >>> ((nI 8).toUInt32 &&& Int32.toUInt32 31)).toInt32)).toUInt32 >>> ((nI 16).toUInt32 &&& Int32.toUInt32 31)).toInt32) dJ6_bitCount_0f7a4_45 rfl ?_
  refine wf_iadd ((((((((nI x) - ((((nI x).toUInt32 >>> ((nI 1).toUInt32 &&& Int32.toUInt32 31)).toInt32) &&& (nI 1431655765))) &&& (nI 858993459)) + (((((nI x) - ((((nI x).toUInt32 >>> ((nI 1).toUInt32 &&& Int32.toUInt32 31)).toInt32) &&& (nI 1431655765))).toUInt32 >>> ((nI 2).toUInt32 &&& Int32.toUInt32 31)).toInt32) &&& (nI 858993459))) + ((((((nI x) - ((((nI x).toUInt32 >>> ((nI 1).toUInt32 &&& Int32.toUInt32 31)).toInt32) &&& (nI 1431655765))) &&& (nI 858993459)) + (((((nI x) - ((((nI x).toUInt32 >>> ((nI 1).toUInt32 &&& Int32.toUInt32 31)).toInt32) &&& (nI 1431655765))).toUInt32 >>> ((nI 2).toUInt32 &&& Int32.toUInt32 31)).toInt32) &&& (nI 858993459))).toUInt32 >>> ((nI 4).toUInt32 &&& Int32.toUInt32 31)).toInt32)) &&& (nI 252645135)) + ((((((((nI x) - ((((nI x).toUInt32 >>> ((nI 1).toUInt32 &&& Int32.toUInt32 31)).toInt32) &&& (nI 1431655765))) &&& (nI 858993459)) + (((((nI x) - ((((nI x).toUInt32 >>> ((nI 1).toUInt32 &&& Int32.toUInt32 31)).toInt32) &&& (nI 1431655765))).toUInt32 >>> ((nI 2).toUInt32 &&& Int32.toUInt32 31)).toInt32) &&& (nI 858993459))) + ((((((nI x) - ((((nI x).toUInt32 >>> ((nI 1).toUInt32 &&& Int32.toUInt32 31)).toInt32) &&& (nI 1431655765))) &&& (nI 858993459)) + (((((nI x) - ((((nI x).toUInt32 >>> ((nI 1).toUInt32 &&& Int32.toUInt32 31)).toInt32) &&& (nI 1431655765))).toUInt32 >>> ((nI 2).toUInt32 &&& Int32.toUInt32 31)).toInt32) &&& (nI 858993459))).toUInt32 >>> ((nI 4).toUInt32 &&& Int32.toUInt32 31)).toInt32)) &&& (nI 252645135)).toUInt32 >>> ((nI 8).toUInt32 &&& Int32.toUInt32 31)).toInt32)) + (((((((((nI x) - ((((nI x).toUInt32 >>> ((nI 1).toUInt32 &&& Int32.toUInt32 31)).toInt32) &&& (nI 1431655765))) &&& (nI 858993459)) + (((((nI x) - ((((nI x).toUInt32 >>> ((nI 1).toUInt32 &&& Int32.toUInt32 31)).toInt32) &&& (nI 1431655765))).toUInt32 >>> ((nI 2).toUInt32 &&& Int32.toUInt32 31)).toInt32) &&& (nI 858993459))) + ((((((nI x) - ((((nI x).toUInt32 >>> ((nI 1).toUInt32 &&& Int32.toUInt32 31)).toInt32) &&& (nI 1431655765))) &&& (nI 858993459)) + (((((nI x) - ((((nI x).toUInt32 >>> ((nI 1).toUInt32 &&& Int32.toUInt32 31)).toInt32) &&& (nI 1431655765))).toUInt32 >>> ((nI 2).toUInt32 &&& Int32.toUInt32 31)).toInt32) &&& (nI 858993459))).toUInt32 >>> ((nI 4).toUInt32 &&& Int32.toUInt32 31)).toInt32)) &&& (nI 252645135)) + ((((((((nI x) - ((((nI x).toUInt32 >>> ((nI 1).toUInt32 &&& Int32.toUInt32 31)).toInt32) &&& (nI 1431655765))) &&& (nI 858993459)) + (((((nI x) - ((((nI x).toUInt32 >>> ((nI 1).toUInt32 &&& Int32.toUInt32 31)).toInt32) &&& (nI 1431655765))).toUInt32 >>> ((nI 2).toUInt32 &&& Int32.toUInt32 31)).toInt32) &&& (nI 858993459))) + ((((((nI x) - ((((nI x).toUInt32 >>> ((nI 1).toUInt32 &&& Int32.toUInt32 31)).toInt32) &&& (nI 1431655765))) &&& (nI 858993459)) + (((((nI x) - ((((nI x).toUInt32 >>> ((nI 1).toUInt32 &&& Int32.toUInt32 31)).toInt32) &&& (nI 1431655765))).toUInt32 >>> ((nI 2).toUInt32 &&& Int32.toUInt32 31)).toInt32) &&& (nI 858993459))).toUInt32 >>> ((nI 4).toUInt32 &&& Int32.toUInt32 31)).toInt32)) &&& (nI 252645135)).toUInt32 >>> ((nI 8).toUInt32 &&& Int32.toUInt32 31)).toInt32)).toUInt32 >>> ((nI 16).toUInt32 &&& Int32.toUInt32 31)).toInt32)) dJ6_bitCount_0f7a4_46 rfl ?_
  refine wf_istore_n [(0, .int ((((((((nI x) - ((((nI x).toUInt32 >>> ((nI 1).toUInt32 &&& Int32.toUInt32 31)).toInt32) &&& (nI 1431655765))) &&& (nI 858993459)) + (((((nI x) - ((((nI x).toUInt32 >>> ((nI 1).toUInt32 &&& Int32.toUInt32 31)).toInt32) &&& (nI 1431655765))).toUInt32 >>> ((nI 2).toUInt32 &&& Int32.toUInt32 31)).toInt32) &&& (nI 858993459))) + ((((((nI x) - ((((nI x).toUInt32 >>> ((nI 1).toUInt32 &&& Int32.toUInt32 31)).toInt32) &&& (nI 1431655765))) &&& (nI 858993459)) + (((((nI x) - ((((nI x).toUInt32 >>> ((nI 1).toUInt32 &&& Int32.toUInt32 31)).toInt32) &&& (nI 1431655765))).toUInt32 >>> ((nI 2).toUInt32 &&& Int32.toUInt32 31)).toInt32) &&& (nI 858993459))).toUInt32 >>> ((nI 4).toUInt32 &&& Int32.toUInt32 31)).toInt32)) &&& (nI 252645135)) + ((((((((nI x) - ((((nI x).toUInt32 >>> ((nI 1).toUInt32 &&& Int32.toUInt32 31)).toInt32) &&& (nI 1431655765))) &&& (nI 858993459)) + (((((nI x) - ((((nI x).toUInt32 >>> ((nI 1).toUInt32 &&& Int32.toUInt32 31)).toInt32) &&& (nI 1431655765))).toUInt32 >>> ((nI 2).toUInt32 &&& Int32.toUInt32 31)).toInt32) &&& (nI 858993459))) + ((((((nI x) - ((((nI x).toUInt32 >>> ((nI 1).toUInt32 &&& Int32.toUInt32 31)).toInt32) &&& (nI 1431655765))) &&& (nI 858993459)) + (((((nI x) - ((((nI x).toUInt32 >>> ((nI 1).toUInt32 &&& Int32.toUInt32 31)).toInt32) &&& (nI 1431655765))).toUInt32 >>> ((nI 2).toUInt32 &&& Int32.toUInt32 31)).toInt32) &&& (nI 858993459))).toUInt32 >>> ((nI 4).toUInt32 &&& Int32.toUInt32 31)).toInt32)) &&& (nI 252645135)).toUInt32 >>> ((nI 8).toUInt32 &&& Int32.toUInt32 31)).toInt32)) + (((((((((nI x) - ((((nI x).toUInt32 >>> ((nI 1).toUInt32 &&& Int32.toUInt32 31)).toInt32) &&& (nI 1431655765))) &&& (nI 858993459)) + (((((nI x) - ((((nI x).toUInt32 >>> ((nI 1).toUInt32 &&& Int32.toUInt32 31)).toInt32) &&& (nI 1431655765))).toUInt32 >>> ((nI 2).toUInt32 &&& Int32.toUInt32 31)).toInt32) &&& (nI 858993459))) + ((((((nI x) - ((((nI x).toUInt32 >>> ((nI 1).toUInt32 &&& Int32.toUInt32 31)).toInt32) &&& (nI 1431655765))) &&& (nI 858993459)) + (((((nI x) - ((((nI x).toUInt32 >>> ((nI 1).toUInt32 &&& Int32.toUInt32 31)).toInt32) &&& (nI 1431655765))).toUInt32 >>> ((nI 2).toUInt32 &&& Int32.toUInt32 31)).toInt32) &&& (nI 858993459))).toUInt32 >>> ((nI 4).toUInt32 &&& Int32.toUInt32 31)).toInt32)) &&& (nI 252645135)) + ((((((((nI x) - ((((nI x).toUInt32 >>> ((nI 1).toUInt32 &&& Int32.toUInt32 31)).toInt32) &&& (nI 1431655765))) &&& (nI 858993459)) + (((((nI x) - ((((nI x).toUInt32 >>> ((nI 1).toUInt32 &&& Int32.toUInt32 31)).toInt32) &&& (nI 1431655765))).toUInt32 >>> ((nI 2).toUInt32 &&& Int32.toUInt32 31)).toInt32) &&& (nI 858993459))) + ((((((nI x) - ((((nI x).toUInt32 >>> ((nI 1).toUInt32 &&& Int32.toUInt32 31)).toInt32) &&& (nI 1431655765))) &&& (nI 858993459)) + (((((nI x) - ((((nI x).toUInt32 >>> ((nI 1).toUInt32 &&& Int32.toUInt32 31)).toInt32) &&& (nI 1431655765))).toUInt32 >>> ((nI 2).toUInt32 &&& Int32.toUInt32 31)).toInt32) &&& (nI 858993459))).toUInt32 >>> ((nI 4).toUInt32 &&& Int32.toUInt32 31)).toInt32)) &&& (nI 252645135)).toUInt32 >>> ((nI 8).toUInt32 &&& Int32.toUInt32 31)).toInt32)).toUInt32 >>> ((nI 16).toUInt32 &&& Int32.toUInt32 31)).toInt32)))] dJ6_bitCount_0f7a4_47 rfl (by decide) rfl ?_
  refine wf_iload_n 0 dJ6_bitCount_0f7a4_48 rfl ?_
  refine wf_bipush (nI 63) dJ6_bitCount_0f7a4_49 (by decide) ?_
  refine wf_iand (((((((((nI x) - ((((nI x).toUInt32 >>> ((nI 1).toUInt32 &&& Int32.toUInt32 31)).toInt32) &&& (nI 1431655765))) &&& (nI 858993459)) + (((((nI x) - ((((nI x).toUInt32 >>> ((nI 1).toUInt32 &&& Int32.toUInt32 31)).toInt32) &&& (nI 1431655765))).toUInt32 >>> ((nI 2).toUInt32 &&& Int32.toUInt32 31)).toInt32) &&& (nI 858993459))) + ((((((nI x) - ((((nI x).toUInt32 >>> ((nI 1).toUInt32 &&& Int32.toUInt32 31)).toInt32) &&& (nI 1431655765))) &&& (nI 858993459)) + (((((nI x) - ((((nI x).toUInt32 >>> ((nI 1).toUInt32 &&& Int32.toUInt32 31)).toInt32) &&& (nI 1431655765))).toUInt32 >>> ((nI 2).toUInt32 &&& Int32.toUInt32 31)).toInt32) &&& (nI 858993459))).toUInt32 >>> ((nI 4).toUInt32 &&& Int32.toUInt32 31)).toInt32)) &&& (nI 252645135)) + ((((((((nI x) - ((((nI x).toUInt32 >>> ((nI 1).toUInt32 &&& Int32.toUInt32 31)).toInt32) &&& (nI 1431655765))) &&& (nI 858993459)) + (((((nI x) - ((((nI x).toUInt32 >>> ((nI 1).toUInt32 &&& Int32.toUInt32 31)).toInt32) &&& (nI 1431655765))).toUInt32 >>> ((nI 2).toUInt32 &&& Int32.toUInt32 31)).toInt32) &&& (nI 858993459))) + ((((((nI x) - ((((nI x).toUInt32 >>> ((nI 1).toUInt32 &&& Int32.toUInt32 31)).toInt32) &&& (nI 1431655765))) &&& (nI 858993459)) + (((((nI x) - ((((nI x).toUInt32 >>> ((nI 1).toUInt32 &&& Int32.toUInt32 31)).toInt32) &&& (nI 1431655765))).toUInt32 >>> ((nI 2).toUInt32 &&& Int32.toUInt32 31)).toInt32) &&& (nI 858993459))).toUInt32 >>> ((nI 4).toUInt32 &&& Int32.toUInt32 31)).toInt32)) &&& (nI 252645135)).toUInt32 >>> ((nI 8).toUInt32 &&& Int32.toUInt32 31)).toInt32)) + (((((((((nI x) - ((((nI x).toUInt32 >>> ((nI 1).toUInt32 &&& Int32.toUInt32 31)).toInt32) &&& (nI 1431655765))) &&& (nI 858993459)) + (((((nI x) - ((((nI x).toUInt32 >>> ((nI 1).toUInt32 &&& Int32.toUInt32 31)).toInt32) &&& (nI 1431655765))).toUInt32 >>> ((nI 2).toUInt32 &&& Int32.toUInt32 31)).toInt32) &&& (nI 858993459))) + ((((((nI x) - ((((nI x).toUInt32 >>> ((nI 1).toUInt32 &&& Int32.toUInt32 31)).toInt32) &&& (nI 1431655765))) &&& (nI 858993459)) + (((((nI x) - ((((nI x).toUInt32 >>> ((nI 1).toUInt32 &&& Int32.toUInt32 31)).toInt32) &&& (nI 1431655765))).toUInt32 >>> ((nI 2).toUInt32 &&& Int32.toUInt32 31)).toInt32) &&& (nI 858993459))).toUInt32 >>> ((nI 4).toUInt32 &&& Int32.toUInt32 31)).toInt32)) &&& (nI 252645135)) + ((((((((nI x) - ((((nI x).toUInt32 >>> ((nI 1).toUInt32 &&& Int32.toUInt32 31)).toInt32) &&& (nI 1431655765))) &&& (nI 858993459)) + (((((nI x) - ((((nI x).toUInt32 >>> ((nI 1).toUInt32 &&& Int32.toUInt32 31)).toInt32) &&& (nI 1431655765))).toUInt32 >>> ((nI 2).toUInt32 &&& Int32.toUInt32 31)).toInt32) &&& (nI 858993459))) + ((((((nI x) - ((((nI x).toUInt32 >>> ((nI 1).toUInt32 &&& Int32.toUInt32 31)).toInt32) &&& (nI 1431655765))) &&& (nI 858993459)) + (((((nI x) - ((((nI x).toUInt32 >>> ((nI 1).toUInt32 &&& Int32.toUInt32 31)).toInt32) &&& (nI 1431655765))).toUInt32 >>> ((nI 2).toUInt32 &&& Int32.toUInt32 31)).toInt32) &&& (nI 858993459))).toUInt32 >>> ((nI 4).toUInt32 &&& Int32.toUInt32 31)).toInt32)) &&& (nI 252645135)).toUInt32 >>> ((nI 8).toUInt32 &&& Int32.toUInt32 31)).toInt32)).toUInt32 >>> ((nI 16).toUInt32 &&& Int32.toUInt32 31)).toInt32)) &&& (nI 63)) dJ6_bitCount_0f7a4_51 rfl ?_
  exact wf_iret .int rfl (vp_nar_int _) ⟨rfl, rfl⟩ ⟨congrArg (fun z => some (Value.int z)) (bitcount_n x hx), rfl⟩ dJ6_bitCount_0f7a4_52
abbrev rmX2_countLeft : Room := { frames := 2, cells := 0, slots := 0, locals := 40 }
set_option maxHeartbeats 4000000 in
set_option maxRecDepth 100000 in
theorem c_X2_countLeft {l : Launch} {E : Ev}  {g : Gd} {a kk : Nat → Nat} {r : va_W} (hI : Inv g) : CT l E yX2_countLeft cX2_countLeft 1 (some .int) rmX2_countLeft [.ref (a 0)] (wg E (kk 6) a g ++ (wk E kk ++ r)) (IS (some (.int (nI (eLeftN g)))) (wg E (kk 6) a g ++ (wk E kk ++ r))) := by
  refine CT.of (lv := [(0, .ref (a 0))]) false (by decide +kernel) (by decide) (Nat.le_of_ble_eq_true rfl) rfl ?_
  have f4 := hI.left
  refine wf_aload_n 0 dX2_countLeft_0 rfl ?_
  refine wf_callVD (As := []) (rest := []) 0 (c_X2_leftWords hI) kV_X2_103 rfl (by decide) (by decide) (Nat.le_of_ble_eq_true rfl) rfl rfl rfl dX2_countLeft_1 ?_
  refine wf_callSD (As := [.int (nI (eLeft g))]) (rest := []) (c_bitCount (by omega)) kS_X2_106 rfl (by decide) (by decide) (Nat.le_of_ble_eq_true rfl) rfl dX2_countLeft_4 ?_
  exact wf_iret .int rfl (vp_nar_int _) ⟨rfl, rfl⟩ ⟨congrArg (fun z => some (Value.int z)) (rfl), rfl⟩ dX2_countLeft_7
