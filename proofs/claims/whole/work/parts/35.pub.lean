abbrev rmX8_isKeptByWatching : Room := { frames := 4, cells := 0, slots := 0, locals := 95 }
set_option maxHeartbeats 4000000 in
set_option maxRecDepth 100000 in
theorem c_X8_isKeptByWatching {l : Launch} {E : Ev} {w S : Nat} {g gm gi y : Gd} {a b c kk al ax : Nat → Nat} {r : va_W} (hI : Inv g) (hM : Inv gm) (hw : w < 1024) (hS : S < 2 ^ g 9 0) : CT l E yX8_isKeptByWatching cX8_isKeptByWatching 5 (some .boolean) rmX8_isKeptByWatching [.ref (ax 0), .int (nI w), .int (nI S)] (wg E (kk 6) a g ++ (wk E kk ++ (wl E al y ++ (wx E ax (a 0) (b 0) (c 0) (al 0) y ++ (wg E (kk 6) b gm ++ (wg E (kk 6) c gi ++ r)))))) (fun v w2 => v = some (.int (bI (eKept g w S))) ∧ ∃ gw, Inv gw ∧ w2 = (wg E (kk 6) a g ++ (wk E kk ++ (wl E al y ++ (wx E ax (a 0) (b 0) (c 0) (al 0) y ++ (wg E (kk 6) b gw ++ (wg E (kk 6) c gi ++ r))))))) := by
  refine CT.of (lv := [(0, .ref (ax 0)), (1, .int (nI w)), (2, .int (nI S))]) false (by decide +kernel) (by decide) (Nat.le_of_ble_eq_true rfl) rfl ?_
  have f0 := hI.words
  have f1 := hI.birds
  have f2 := hI.gone
  have f3 := hI.hour
  refine wf_aload_n 0 dX8_isKeptByWatching_0 rfl ?_
  refine wf_callVD (As := []) (rest := []) 19 (c_X8_mindAsNow) kV_X8_156 rfl (by decide) (by decide) (Nat.le_of_ble_eq_true rfl) rfl rfl rfl dX8_isKeptByWatching_1 ?_
  refine wf_astore_n [(3, .ref (b 0)), (0, .ref (ax 0)), (1, .int (nI w)), (2, .int (nI S))] dX8_isKeptByWatching_4 rfl (by decide) rfl ?_
  refine wf_iconst (nI 0) dX8_isKeptByWatching_5 (by decide) ?_
  refine wf_istore [(4, .int (nI 0)), (3, .ref (b 0)), (0, .ref (ax 0)), (1, .int (nI w)), (2, .int (nI S))] dX8_isKeptByWatching_6 (by decide) rfl ?_
  have L8 : ∀ (fu8 : Nat) (h : Nat), 8 - h < fu8 → (h ≤ 8) → WF l E RX8 cX8_isKeptByWatching 5 (some .boolean) rmX8_isKeptByWatching false (fun _ => True) (QM E (wg E (kk 6) a g ++ (wk E kk ++ (wl E al y ++ (wx E ax (a 0) (b 0) (c 0) (al 0) y ++ (wg E (kk 6) b gm ++ (wg E (kk 6) c gi ++ r)))))) (fun v w2 => v = some (.int (bI (eKept g w S))) ∧ ∃ gw, Inv gw ∧ w2 = (wg E (kk 6) a g ++ (wk E kk ++ (wl E al y ++ (wx E ax (a 0) (b 0) (c 0) (al 0) y ++ (wg E (kk 6) b gw ++ (wg E (kk 6) c gi ++ r))))))) rmX8_isKeptByWatching) (wg E (kk 6) a g ++ (wk E kk ++ (wl E al y ++ (wx E ax (a 0) (b 0) (c 0) (al 0) y ++ (wg E (kk 6) b gm ++ (wg E (kk 6) c gi ++ r)))))) 0 0 8 [(4, .int (nI h)), (3, .ref (b 0)), (0, .ref (ax 0)), (1, .int (nI w)), (2, .int (nI S))] [] (wg E (kk 6) a g ++ (wk E kk ++ (wl E al y ++ (wx E ax (a 0) (b 0) (c 0) (al 0) y ++ (wg E (kk 6) b (eWs g S h) ++ (wg E (kk 6) c gi ++ r)))))) := by
    intro fu8
    induction fu8 with
    | zero => intro h hn; exact absurd hn (Nat.not_lt_zero _)
    | succ fu8 ih8 =>
      intro h hn hh
      have e8 : eWs g S h 8 h = g 8 h := eWs_w (Nat.le_refl _)
      have q8 := hI.wat h
      have qS : S < 1024 := Nat.lt_of_lt_of_le hS (pw10 f0)
      refine wf_iload 0 dX8_isKeptByWatching_8 rfl ?_
      refine wf_bipush (nI 8) dX8_isKeptByWatching_10 (by decide) ?_
      refine wf_icmp_ge_n 32 dX8_isKeptByWatching_12 (by decide) (by omega) (by omega) (fun c12 => ?_) (fun c12 => ?_)
      · have hbe : h = 8 := by omega
        subst hbe
        have ew3 : eWs g S 8 9 3 = g 9 3 := eWs_f (by decide)
        refine wf_aload_n 1 dX8_isKeptByWatching_32 rfl ?_
        refine wf_getf (C := RX2) (T := TX2) (N := 14) (v := .int (nI ((eWs g S 8) 9 3))) 22 13 in_X2 rfl rfl (by decide) fl_X8_105 rfl dX8_isKeptByWatching_33 ?_
        refine wf_top (y := .int (nI (g 9 3))) (by rw [ew3]) ?_
        refine wf_istore [(4, .int (nI (g 9 3))), (3, .ref (b 0)), (0, .ref (ax 0)), (1, .int (nI w)), (2, .int (nI S))] dX8_isKeptByWatching_36 (by decide) rfl ?_
        have L38 : ∀ (fu38 : Nat) (i : Nat), 8 - i < fu38 → (g 9 3 ≤ i) → (i ≤ 8) → (eKp (eHrs (eWs g S 8) (i - g 9 3)) w (8 - i) = eKept g w S) → WF l E RX8 cX8_isKeptByWatching 5 (some .boolean) rmX8_isKeptByWatching false (fun _ => True) (QM E (wg E (kk 6) a g ++ (wk E kk ++ (wl E al y ++ (wx E ax (a 0) (b 0) (c 0) (al 0) y ++ (wg E (kk 6) b gm ++ (wg E (kk 6) c gi ++ r)))))) (fun v w2 => v = some (.int (bI (eKept g w S))) ∧ ∃ gw, Inv gw ∧ w2 = (wg E (kk 6) a g ++ (wk E kk ++ (wl E al y ++ (wx E ax (a 0) (b 0) (c 0) (al 0) y ++ (wg E (kk 6) b gw ++ (wg E (kk 6) c gi ++ r))))))) rmX8_isKeptByWatching) (wg E (kk 6) a g ++ (wk E kk ++ (wl E al y ++ (wx E ax (a 0) (b 0) (c 0) (al 0) y ++ (wg E (kk 6) b gm ++ (wg E (kk 6) c gi ++ r)))))) 0 0 38 [(4, .int (nI i)), (3, .ref (b 0)), (0, .ref (ax 0)), (1, .int (nI w)), (2, .int (nI S))] [] (wg E (kk 6) a g ++ (wk E kk ++ (wl E al y ++ (wx E ax (a 0) (b 0) (c 0) (al 0) y ++ (wg E (kk 6) b (eHrs (eWs g S 8) (i - g 9 3)) ++ (wg E (kk 6) c gi ++ r)))))) := by
          intro fu38
          induction fu38 with
          | zero => intro i hn; exact absurd hn (Nat.not_lt_zero _)
          | succ fu38 ih38 =>
            intro i hn hi1 hi2 hk
            have hH := (hI.oWs hS 8).oHrs (i - g 9 3)
            have e93 := eHrs_hour (g := eWs g S 8) (i - g 9 3) (by rw [eWs_f (by decide)]; omega)
            rw [eWs_f (by decide)] at e93
            have qg := hH.gone
            refine wf_iload 0 dX8_isKeptByWatching_38 rfl ?_
            refine wf_bipush (nI 8) dX8_isKeptByWatching_40 (by decide) ?_
            refine wf_icmp_ge_n 65 dX8_isKeptByWatching_42 (by decide) (by omega) (by omega) (fun c42 => ?_) (fun c42 => ?_)
            · refine wf_aload_n 1 dX8_isKeptByWatching_65 rfl ?_
              refine wf_getf (C := RX2) (T := TX2) (N := 14) (v := .int (nI ((eHrs (eWs g S 8) (i - g 9 3)) 9 2))) 22 12 in_X2 rfl rfl (by decide) fl_X8_153 rfl dX8_isKeptByWatching_66 ?_
              refine wf_iload_n 3 dX8_isKeptByWatching_69 rfl ?_
              refine wf_iand (nI (((eHrs (eWs g S 8) (i - g 9 3)) 9 2) &&& w)) dX8_isKeptByWatching_70 (nI_land (by omega) (by omega)) ?_
              refine wf_if_ne_n 78 dX8_isKeptByWatching_71 (by decide) (Nat.lt_of_le_of_lt Nat.and_le_left (by omega)) (fun c71 => ?_) (fun c71 => ?_)
              · refine wf_iconst (nI 0) dX8_isKeptByWatching_78 (by decide) ?_
                exact wf_iret .boolean rfl (by decide) ⟨rfl, rfl⟩ (⟨congrArg (fun z => some (Value.int z)) (b1_zero (by rw [← hk, show 8 - i = 0 by omega]; exact decide_eq_false c71)), _, hH, rfl⟩) dX8_isKeptByWatching_79
              · refine wf_iconst (nI 1) dX8_isKeptByWatching_74 (by decide) ?_
                refine wf_goto 79 dX8_isKeptByWatching_75 (by decide) ?_
                exact wf_iret .boolean rfl (by decide) ⟨rfl, rfl⟩ (⟨congrArg (fun z => some (Value.int z)) (b1_one (by rw [← hk, show 8 - i = 0 by omega]; exact decide_eq_true c71)), _, hH, rfl⟩) dX8_isKeptByWatching_79
            · refine wf_aload_n 1 dX8_isKeptByWatching_45 rfl ?_
              refine wf_getf (C := RX2) (T := TX2) (N := 14) (v := .int (nI ((eHrs (eWs g S 8) (i - g 9 3)) 9 2))) 22 12 in_X2 rfl rfl (by decide) fl_X8_153 rfl dX8_isKeptByWatching_46 ?_
              refine wf_iload_n 3 dX8_isKeptByWatching_49 rfl ?_
              refine wf_iand (nI (((eHrs (eWs g S 8) (i - g 9 3)) 9 2) &&& w)) dX8_isKeptByWatching_50 (nI_land (by omega) (by omega)) ?_
              refine wf_if_ne_n 65 dX8_isKeptByWatching_51 (by decide) (Nat.lt_of_le_of_lt Nat.and_le_left (by omega)) (fun c51 => ?_) (fun c51 => ?_)
              · refine wf_aload_n 1 dX8_isKeptByWatching_65 rfl ?_
                refine wf_getf (C := RX2) (T := TX2) (N := 14) (v := .int (nI ((eHrs (eWs g S 8) (i - g 9 3)) 9 2))) 22 12 in_X2 rfl rfl (by decide) fl_X8_153 rfl dX8_isKeptByWatching_66 ?_
                refine wf_iload_n 3 dX8_isKeptByWatching_69 rfl ?_
                refine wf_iand (nI (((eHrs (eWs g S 8) (i - g 9 3)) 9 2) &&& w)) dX8_isKeptByWatching_70 (nI_land (by omega) (by omega)) ?_
                refine wf_if_ne_n 78 dX8_isKeptByWatching_71 (by decide) (Nat.lt_of_le_of_lt Nat.and_le_left (by omega)) (fun c71 => ?_) (fun c71 => ?_)
                · refine wf_iconst (nI 0) dX8_isKeptByWatching_78 (by decide) ?_
                  exact wf_iret .boolean rfl (by decide) ⟨rfl, rfl⟩ (⟨congrArg (fun z => some (Value.int z)) (b1_zero (by rw [← hk, show 8 - i = (7 - i) + 1 by omega]; show (if _ then _ else _) = _; rw [if_neg c51])), _, hH, rfl⟩) dX8_isKeptByWatching_79
                · refine wf_iconst (nI 1) dX8_isKeptByWatching_74 (by decide) ?_
                  refine wf_goto 79 dX8_isKeptByWatching_75 (by decide) ?_
                  exact wf_iret .boolean rfl (by decide) ⟨rfl, rfl⟩ (absurd c71 c51) dX8_isKeptByWatching_79
              · refine wf_aload_n 1 dX8_isKeptByWatching_54 rfl ?_
                refine wf_perm (w' := wg E (kk 6) b (eHrs (eWs g S 8) (i - g 9 3)) ++ (wk E kk ++ (wl E al y ++ (wx E ax (a 0) (b 0) (c 0) (al 0) y ++ (wg E (kk 6) a g ++ (wg E (kk 6) c gi ++ r)))))) pm4 ?_
                refine wf_callVD (As := []) (rest := []) 0 (c_X2_passHour hH) kV_X8_149 rfl (by decide) (by decide) (Nat.le_of_ble_eq_true rfl) rfl rfl rfl dX8_isKeptByWatching_55 ?_
                refine wf_perm (w' := wg E (kk 6) a g ++ (wk E kk ++ (wl E al y ++ (wx E ax (a 0) (b 0) (c 0) (al 0) y ++ (wg E (kk 6) b (eHr (eHrs (eWs g S 8) (i - g 9 3))) ++ (wg E (kk 6) c gi ++ r)))))) pm4 ?_
                refine wf_pop dX8_isKeptByWatching_58 rfl ?_
                refine wf_iinc (nI (i + 1)) 0 [(4, .int (nI (i + 1))), (3, .ref (b 0)), (0, .ref (ax 0)), (1, .int (nI w)), (2, .int (nI S))] dX8_isKeptByWatching_59 rfl (nI_1 i) (by decide) rfl ?_
                refine wf_goto 38 dX8_isKeptByWatching_62 (by decide) ?_
                refine wf_sub (lv' := [(4, .int (nI (i + 1))), (3, .ref (b 0)), (0, .ref (ax 0)), (1, .int (nI w)), (2, .int (nI S))]) [0, 1, 2, 3, 4] rfl ?_
                refine wf_world (wg E (kk 6) a g ++ (wk E kk ++ (wl E al y ++ (wx E ax (a 0) (b 0) (c 0) (al 0) y ++ (wg E (kk 6) b (eHrs (eWs g S 8) (i + 1 - g 9 3)) ++ (wg E (kk 6) c gi ++ r)))))) (by rw [show i + 1 - g 9 3 = (i - g 9 3) + 1 by omega]; rfl) ?_
                exact ih38 (i + 1) (by omega) (by omega) (by omega) (by rw [← hk, show 8 - i = (8 - (i + 1)) + 1 by omega, show i + 1 - g 9 3 = (i - g 9 3) + 1 by omega]; symm; show (if _ then _ else _) = _; rw [if_pos c51]; rfl)
        refine wf_sub (lv' := [(4, .int (nI (g 9 3))), (3, .ref (b 0)), (0, .ref (ax 0)), (1, .int (nI w)), (2, .int (nI S))]) [0, 1, 2, 3, 4] rfl ?_
        refine wf_world (wg E (kk 6) a g ++ (wk E kk ++ (wl E al y ++ (wx E ax (a 0) (b 0) (c 0) (al 0) y ++ (wg E (kk 6) b (eHrs (eWs g S 8) (g 9 3 - g 9 3)) ++ (wg E (kk 6) c gi ++ r)))))) (by rw [Nat.sub_self]; rfl) ?_
        exact L38 _ (g 9 3) (Nat.lt_succ_self _) (Nat.le_refl _) f3 (by rw [Nat.sub_self]; rfl)
      · refine wf_aload_n 1 dX8_isKeptByWatching_15 rfl ?_
        refine wf_getf (C := RX2) (T := TX2) (N := 14) (v := .ref (b 9)) 22 11 in_X2 rfl rfl (by decide) fl_X8_194 rfl dX8_isKeptByWatching_16 ?_
        refine wf_iload 0 dX8_isKeptByWatching_19 rfl ?_
        refine wf_dup2 dX8_isKeptByWatching_21 rfl rfl ?_
        refine wf_iald_n (nI ((eWs g S h) 8 h)) 31 rfl (by omega) (by decide) rfl dX8_isKeptByWatching_22 ?_
        refine wf_iload_n 4 dX8_isKeptByWatching_23 rfl ?_
        refine wf_ior (nI (((eWs g S h) 8 h) ||| S)) dX8_isKeptByWatching_24 (nI_lor (by rw [e8]; omega) (by omega)) ?_
        refine wf_iast_n (wg E (kk 6) a g ++ (wk E kk ++ (wl E al y ++ (wx E ax (a 0) (b 0) (c 0) (al 0) y ++ (wg E (kk 6) b (gs (eWs g S h) 8 h (((eWs g S h) 8 h) ||| S)) ++ (wg E (kk 6) c gi ++ r)))))) 31 rfl (by omega) (by decide) (so 10 21 rfl (so 7 14 rfl (so 2 12 rfl (so 3 9 rfl (sf 9 (Nat.le_of_ble_eq_true rfl) (wg_set8 h (((eWs g S h) 8 h) ||| S))))))) dX8_isKeptByWatching_25 ?_
        refine wf_iinc (nI (h + 1)) 0 [(4, .int (nI (h + 1))), (3, .ref (b 0)), (0, .ref (ax 0)), (1, .int (nI w)), (2, .int (nI S))] dX8_isKeptByWatching_26 rfl (nI_1 h) (by decide) rfl ?_
        refine wf_goto 8 dX8_isKeptByWatching_29 (by decide) ?_
        refine wf_sub (lv' := [(4, .int (nI (h + 1))), (3, .ref (b 0)), (0, .ref (ax 0)), (1, .int (nI w)), (2, .int (nI S))]) [0, 1, 2, 3, 4] rfl ?_
        refine wf_world (wg E (kk 6) a g ++ (wk E kk ++ (wl E al y ++ (wx E ax (a 0) (b 0) (c 0) (al 0) y ++ (wg E (kk 6) b (eWs g S (h + 1)) ++ (wg E (kk 6) c gi ++ r)))))) (by rw [e8]; rfl) ?_
        exact ih8 (h + 1) (by omega) (by omega)
  refine wf_sub (lv' := [(4, .int (nI 0)), (3, .ref (b 0)), (0, .ref (ax 0)), (1, .int (nI w)), (2, .int (nI S))]) [0, 1, 2, 3, 4] rfl ?_
  exact L8 _ 0 (Nat.lt_succ_self _) (Nat.zero_le _)
abbrev rmX8_boys : Room := { frames := 5, cells := 0, slots := 0, locals := 119 }
set_option maxHeartbeats 4000000 in
set_option maxRecDepth 100000 in
theorem c_X8_boys {l : Launch} {E : Ev} {x : Int32} {g gm gi y : Gd} {a b c kk al ax : Nat → Nat} {r : va_W} (hI : Inv g) (hM : Inv gm) (hG : Inv gi) (hy : YI y)  : CT l E yX8_boys cX8_boys 6 (some .int) rmX8_boys [.ref (ax 0), .int x] (wg E (kk 6) a g ++ (wk E kk ++ (wl E al y ++ (wx E ax (a 0) (b 0) (c 0) (al 0) y ++ (wg E (kk 6) b gm ++ (wg E (kk 6) c gi ++ r)))))) (PX E kk a b c al ax r (sp_boys g y x) gi) := by
  refine CT.of (lv := [(0, .ref (ax 0)), (1, .int x)]) false (by decide +kernel) (by decide) (Nat.le_of_ble_eq_true rfl) rfl ?_
  have f0 := hI.words
  have f1 := hI.birds
  have f2 := hI.gone
  have f3 := hI.hour
  have f4 := hI.all
  obtain ⟨y00, y01, y02, y1, y2⟩ := id hy
  refine wf_aload_n 0 dX8_boys_0 rfl ?_
  refine wf_getf (C := RX8) (T := TX8) (N := 8) (v := .ref (a 0)) 19 0 in_X8 rfl rfl (by decide) fl_X8_30 rfl dX8_boys_1 ?_
  refine wf_iload_n 1 dX8_boys_4 rfl ?_
  refine wf_callVD (As := [.int x]) (rest := []) 0 (c_X2_hasWords hI) kV_X8_180 rfl (by decide) (by decide) (Nat.le_of_ble_eq_true rfl) rfl rfl rfl dX8_boys_5 ?_
  refine wf_if_ne_b 17 dX8_boys_8 (by decide) (fun c8 => ?_) (fun c8 => ?_)
  · obtain ⟨w, hw, rfl⟩ := eHasS_i hI c8
    refine wf_iload_n 1 dX8_boys_17 rfl ?_
    refine wf_aload_n 0 dX8_boys_18 rfl ?_
    refine wf_getf (C := RX8) (T := TX8) (N := 8) (v := .ref (a 0)) 19 0 in_X8 rfl rfl (by decide) fl_X8_30 rfl dX8_boys_19 ?_
    refine wf_getf (C := RX2) (T := TX2) (N := 14) (v := .int (nI (g 9 2))) 0 12 in_X2 rfl rfl (by decide) fl_X8_153 rfl dX8_boys_22 ?_
    refine wf_iand (nI (w &&& (g 9 2))) dX8_boys_25 (nI_land (by omega) (by omega)) ?_
    refine wf_if_eq_n 36 dX8_boys_26 (by decide) (Nat.lt_of_le_of_lt Nat.and_le_left (by omega)) (fun c26 => ?_) (fun c26 => ?_)
    · have c26b := c26
      refine wf_iload_n 1 dX8_boys_36 rfl ?_
      refine wf_istore_n [(2, .int (nI w)), (0, .ref (ax 0)), (1, .int (nI w))] dX8_boys_37 rfl (by decide) rfl ?_
      refine wf_iload_n 2 dX8_boys_38 rfl ?_
      refine wf_callSD (As := [.int (nI w)]) (rest := []) (c_bitCount (by omega)) kS_X8_183 rfl (by decide) (by decide) (Nat.le_of_ble_eq_true rfl) rfl dX8_boys_39 ?_
      refine wf_iconst (nI 1) dX8_boys_42 (by decide) ?_
      refine wf_iadd (nI ((eBits w) + 1)) dX8_boys_43 (nI_add (eBits w) 1) ?_
      refine wf_istore_n [(3, .int (nI ((eBits w) + 1))), (2, .int (nI w)), (0, .ref (ax 0)), (1, .int (nI w))] dX8_boys_44 rfl (by decide) rfl ?_
      refine wf_iconst (nI 0) dX8_boys_45 (by decide) ?_
      refine wf_istore [(4, .int (nI 0)), (3, .int (nI ((eBits w) + 1))), (2, .int (nI w)), (0, .ref (ax 0)), (1, .int (nI w))] dX8_boys_46 (by decide) rfl ?_
      have L48 : ∀ (fu48 : Nat) (S : Nat) (gw : Gd), eAll g + 1 - S < fu48 → (S ≤ eAll g + 1) → (Inv gw) → WF l E RX8 cX8_boys 6 (some .int) rmX8_boys false (fun _ => True) (QM E (wg E (kk 6) a g ++ (wk E kk ++ (wl E al y ++ (wx E ax (a 0) (b 0) (c 0) (al 0) y ++ (wg E (kk 6) b gm ++ (wg E (kk 6) c gi ++ r)))))) (PX E kk a b c al ax r (sp_boys g y (nI w)) gi) rmX8_boys) (wg E (kk 6) a g ++ (wk E kk ++ (wl E al y ++ (wx E ax (a 0) (b 0) (c 0) (al 0) y ++ (wg E (kk 6) b gm ++ (wg E (kk 6) c gi ++ r)))))) 0 0 48 [(4, .int (nI S)), (3, .int (nI ((eBo g w S).2))), (2, .int (nI ((eBo g w S).1))), (0, .ref (ax 0)), (1, .int (nI w))] [] (wg E (kk 6) a g ++ (wk E kk ++ (wl E al y ++ (wx E ax (a 0) (b 0) (c 0) (al 0) y ++ (wg E (kk 6) b gw ++ (wg E (kk 6) c gi ++ r)))))) := by
        intro fu48
        induction fu48 with
        | zero => intro S gw hn; exact absurd hn (Nat.not_lt_zero _)
        | succ fu48 ih48 =>
          intro S gw hn hS0 hW
          have q1 := (eBo_le hI hw S hS0).2
          have q2 := (eBo_le hI hw S hS0).1
          have q3 := hI.allW
          have q4 := @Nat.one_le_two_pow (g 9 0)
          refine wf_iload 0 dX8_boys_48 rfl ?_
          refine wf_aload_n 3 dX8_boys_50 rfl ?_
          refine wf_getf (C := RX8) (T := TX8) (N := 8) (v := .ref (a 0)) 19 0 in_X8 rfl rfl (by decide) fl_X8_30 rfl dX8_boys_51 ?_
          refine wf_callVD (As := []) (rest := [.int (nI S)]) 0 (c_X2_allWords hI) kV_X8_188 rfl (by decide) (by decide) (Nat.le_of_ble_eq_true rfl) rfl rfl rfl dX8_boys_54 ?_
          refine wf_icmp_gt_n 119 dX8_boys_57 (by decide) (by omega) (by omega) (fun c57 => ?_) (fun c57 => ?_)
          · refine wf_iload_n 2 dX8_boys_119 rfl ?_
            exact wf_iret .int rfl (vp_nar_int _) ⟨rfl, rfl⟩ (px_of (by unfold sp_boys; rw [if_neg (by rw [c8]; decide), nI_clamp (by omega), if_pos c26b, show eAll g + 1 = S by omega]; rfl) ⟨_, hW, rfl⟩) dX8_boys_120
          · refine wf_iload 0 dX8_boys_60 rfl ?_
            refine wf_callSD (As := [.int (nI S)]) (rest := []) (c_bitCount (by omega)) kS_X8_183 rfl (by decide) (by decide) (Nat.le_of_ble_eq_true rfl) rfl dX8_boys_62 ?_
            refine wf_iload_n 1 dX8_boys_65 rfl ?_
            refine wf_icmp_ge_n 86 dX8_boys_66 (by decide) (by have := eBits_le S; omega) (by omega) (fun c66 => ?_) (fun c66 => ?_)
            · refine wf_iconst (nI 0) dX8_boys_86 (by decide) ?_
              refine wf_istore [(5, .int (nI 0)), (4, .int (nI S)), (3, .int (nI ((eBo g w S).2))), (2, .int (nI ((eBo g w S).1))), (0, .ref (ax 0)), (1, .int (nI w))] dX8_boys_87 (by decide) rfl ?_
              refine wf_iload 0 dX8_boys_89 rfl ?_
              refine wf_if_eq_n 113 dX8_boys_91 (by decide) (by decide) (fun c91 => ?_) (fun c91 => ?_)
              · refine wf_iinc (nI (S + 1)) 1 [(4, .int (nI (S + 1))), (5, .int (nI 0)), (3, .int (nI ((eBo g w S).2))), (2, .int (nI ((eBo g w S).1))), (0, .ref (ax 0)), (1, .int (nI w))] dX8_boys_113 rfl (nI_1 S) (by decide) rfl ?_
                refine wf_goto 48 dX8_boys_116 (by decide) ?_
                refine wf_sub (lv' := [(4, .int (nI (S + 1))), (3, .int (nI ((eBo g w S).2))), (2, .int (nI ((eBo g w S).1))), (0, .ref (ax 0)), (1, .int (nI w))]) [0, 2, 3, 4, 5] rfl ?_
                have hq : eBo g w (S + 1) = eBo g w S := by show (if _ then (if _ then (if _ then _ else _) else _) else _) = _; rw [if_neg (by omega)]
                refine wf_lvc [(4, .int (nI (S + 1))), (3, .int (nI ((eBo g w (S + 1)).2))), (2, .int (nI ((eBo g w (S + 1)).1))), (0, .ref (ax 0)), (1, .int (nI w))] (by rw [hq]) ?_
                exact ih48 (S + 1) _ (by omega) (by omega) hW
              · exact absurd rfl c91
            · refine wf_iload 0 dX8_boys_69 rfl ?_
              refine wf_aload_n 3 dX8_boys_71 rfl ?_
              refine wf_getf (C := RX8) (T := TX8) (N := 8) (v := .ref (a 0)) 19 0 in_X8 rfl rfl (by decide) fl_X8_30 rfl dX8_boys_72 ?_
              refine wf_getf (C := RX2) (T := TX2) (N := 14) (v := .int (nI (g 9 2))) 0 12 in_X2 rfl rfl (by decide) fl_X8_153 rfl dX8_boys_75 ?_
              refine wf_iand (nI (S &&& (g 9 2))) dX8_boys_78 (nI_land (by omega) (by omega)) ?_
              refine wf_if_ne_n 86 dX8_boys_79 (by decide) (Nat.lt_of_le_of_lt Nat.and_le_left (by omega)) (fun c79 => ?_) (fun c79 => ?_)
              · refine wf_iconst (nI 0) dX8_boys_86 (by decide) ?_
                refine wf_istore [(5, .int (nI 0)), (4, .int (nI S)), (3, .int (nI ((eBo g w S).2))), (2, .int (nI ((eBo g w S).1))), (0, .ref (ax 0)), (1, .int (nI w))] dX8_boys_87 (by decide) rfl ?_
                refine wf_iload 0 dX8_boys_89 rfl ?_
                refine wf_if_eq_n 113 dX8_boys_91 (by decide) (by decide) (fun c91 => ?_) (fun c91 => ?_)
                · refine wf_iinc (nI (S + 1)) 1 [(4, .int (nI (S + 1))), (5, .int (nI 0)), (3, .int (nI ((eBo g w S).2))), (2, .int (nI ((eBo g w S).1))), (0, .ref (ax 0)), (1, .int (nI w))] dX8_boys_113 rfl (nI_1 S) (by decide) rfl ?_
                  refine wf_goto 48 dX8_boys_116 (by decide) ?_
                  refine wf_sub (lv' := [(4, .int (nI (S + 1))), (3, .int (nI ((eBo g w S).2))), (2, .int (nI ((eBo g w S).1))), (0, .ref (ax 0)), (1, .int (nI w))]) [0, 2, 3, 4, 5] rfl ?_
                  have hq : eBo g w (S + 1) = eBo g w S := by show (if _ then (if _ then (if _ then _ else _) else _) else _) = _; rw [if_pos (by omega), if_neg c79]
                  refine wf_lvc [(4, .int (nI (S + 1))), (3, .int (nI ((eBo g w (S + 1)).2))), (2, .int (nI ((eBo g w (S + 1)).1))), (0, .ref (ax 0)), (1, .int (nI w))] (by rw [hq]) ?_
                  exact ih48 (S + 1) _ (by omega) (by omega) hW
                · exact absurd rfl c91
              · refine wf_iconst (nI 1) dX8_boys_82 (by decide) ?_
                refine wf_goto 87 dX8_boys_83 (by decide) ?_
                refine wf_istore [(5, .int (nI 1)), (4, .int (nI S)), (3, .int (nI ((eBo g w S).2))), (2, .int (nI ((eBo g w S).1))), (0, .ref (ax 0)), (1, .int (nI w))] dX8_boys_87 (by decide) rfl ?_
                refine wf_iload 0 dX8_boys_89 rfl ?_
                refine wf_if_eq_n 113 dX8_boys_91 (by decide) (by decide) (fun c91 => ?_) (fun c91 => ?_)
                · exact absurd c91 (by decide)
                · refine wf_aload_n 4 dX8_boys_94 rfl ?_
                  refine wf_iload_n 5 dX8_boys_95 rfl ?_
                  refine wf_iload 1 dX8_boys_96 rfl ?_
                  refine wf_callV (As := [.int (nI w), .int (nI S)]) (rest := []) 19 (c_X8_isKeptByWatching hI hW (by omega) (by omega)) kV_X8_191 rfl (by decide) (by decide) (Nat.le_of_ble_eq_true rfl) rfl rfl rfl dX8_boys_98 (fun v w2 hp => ?_)
                  obtain ⟨rfl, g2, hg2, rfl⟩ := hp
                  refine wf_st [.int (bI (eKept g w S))] rfl ?_
                  refine wf_cs rfl rfl ?_
                  refine wf_if_eq_b 113 dX8_boys_101 (by decide) (fun c101 => ?_) (fun c101 => ?_)
                  · refine wf_iinc (nI (S + 1)) 1 [(4, .int (nI (S + 1))), (5, .int (nI 1)), (3, .int (nI ((eBo g w S).2))), (2, .int (nI ((eBo g w S).1))), (0, .ref (ax 0)), (1, .int (nI w))] dX8_boys_113 rfl (nI_1 S) (by decide) rfl ?_
                    refine wf_goto 48 dX8_boys_116 (by decide) ?_
                    refine wf_sub (lv' := [(4, .int (nI (S + 1))), (3, .int (nI ((eBo g w S).2))), (2, .int (nI ((eBo g w S).1))), (0, .ref (ax 0)), (1, .int (nI w))]) [0, 2, 3, 4, 5] rfl ?_
                    have hq : eBo g w (S + 1) = eBo g w S := by show (if _ then (if _ then (if _ then _ else _) else _) else _) = _; rw [if_pos (by omega), if_pos c79, if_neg (by rw [c101]; decide)]
                    refine wf_lvc [(4, .int (nI (S + 1))), (3, .int (nI ((eBo g w (S + 1)).2))), (2, .int (nI ((eBo g w (S + 1)).1))), (0, .ref (ax 0)), (1, .int (nI w))] (by rw [hq]) ?_
                    exact ih48 (S + 1) _ (by omega) (by omega) hg2
                  · refine wf_iload 1 dX8_boys_104 rfl ?_
                    refine wf_istore_n [(2, .int (nI S)), (5, .int (nI 1)), (4, .int (nI S)), (3, .int (nI ((eBo g w S).2))), (0, .ref (ax 0)), (1, .int (nI w))] dX8_boys_106 rfl (by decide) rfl ?_
                    refine wf_iload 2 dX8_boys_107 rfl ?_
                    refine wf_callSD (As := [.int (nI S)]) (rest := []) (c_bitCount (by omega)) kS_X8_183 rfl (by decide) (by decide) (Nat.le_of_ble_eq_true rfl) rfl dX8_boys_109 ?_
                    refine wf_istore_n [(3, .int (nI (eBits S))), (2, .int (nI S)), (5, .int (nI 1)), (4, .int (nI S)), (0, .ref (ax 0)), (1, .int (nI w))] dX8_boys_112 rfl (by decide) rfl ?_
                    refine wf_iinc (nI (S + 1)) 3 [(4, .int (nI (S + 1))), (3, .int (nI (eBits S))), (2, .int (nI S)), (5, .int (nI 1)), (0, .ref (ax 0)), (1, .int (nI w))] dX8_boys_113 rfl (nI_1 S) (by decide) rfl ?_
                    refine wf_goto 48 dX8_boys_116 (by decide) ?_
                    refine wf_sub (lv' := [(4, .int (nI (S + 1))), (3, .int (nI (eBits S))), (2, .int (nI S)), (0, .ref (ax 0)), (1, .int (nI w))]) [0, 1, 2, 4, 5] rfl ?_
                    have hq : eBo g w (S + 1) = (S, eBits S) := by show (if _ then (if _ then (if _ then _ else _) else _) else _) = _; rw [if_pos (by omega), if_pos c79, if_pos c101]
                    refine wf_lvc [(4, .int (nI (S + 1))), (3, .int (nI ((eBo g w (S + 1)).2))), (2, .int (nI ((eBo g w (S + 1)).1))), (0, .ref (ax 0)), (1, .int (nI w))] (by rw [hq]) ?_
                    exact ih48 (S + 1) _ (by omega) (by omega) hg2
      refine wf_sub (lv' := [(4, .int (nI 0)), (3, .int (nI ((eBits w) + 1))), (2, .int (nI w)), (0, .ref (ax 0)), (1, .int (nI w))]) [0, 1, 2, 3, 4] rfl ?_
      exact L48 _ 0 gm (Nat.lt_succ_self _) (Nat.zero_le _) hM
    · refine wf_aload_n 0 dX8_boys_29 rfl ?_
      refine wf_bipush (-3) dX8_boys_30 (by decide) ?_
      refine wf_callVD (As := [.int (-3)]) (rest := []) 19 (c_X8_refuse (k := 3) (by decide)) kV_X8_56 rfl (by decide) (by decide) (Nat.le_of_ble_eq_true rfl) rfl rfl rfl dX8_boys_32 ?_
      exact wf_iret .int rfl (vp_nar_int _) ⟨rfl, rfl⟩ (px_of (by unfold sp_boys; rw [if_neg (by rw [c8]; decide), nI_clamp (by omega), if_neg c26]; rfl) ⟨_, hM, rfl⟩) dX8_boys_35
  · refine wf_aload_n 0 dX8_boys_11 rfl ?_
    refine wf_iconst (-1) dX8_boys_12 (by decide) ?_
    refine wf_callVD (As := [.int (-1)]) (rest := []) 19 (c_X8_refuse (k := 1) (by decide)) kV_X8_56 rfl (by decide) (by decide) (Nat.le_of_ble_eq_true rfl) rfl rfl rfl dX8_boys_13 ?_
    exact wf_iret .int rfl (vp_nar_int _) ⟨rfl, rfl⟩ (px_of (by unfold sp_boys; rw [if_pos c8]; rfl) ⟨_, hM, rfl⟩) dX8_boys_16
